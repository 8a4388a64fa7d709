/-! how far the text has been read, in the reference -/
def TOP (ws : va_W) (m : Nat) (g : Int) : Prop := ∃ t : Int32, FLD ws m 10 5 (.int t) ∧ g ≤ t.toInt ∧ t.toInt ≤ 940
def TKP (ws : va_W) (m : Nat) (g : Int) : Prop := ∃ t k : Int32, FLD ws m 10 5 (.int t) ∧ FLD ws m 10 7 (.int k) ∧ g ≤ t.toInt ∧ t.toInt ≤ 940 ∧ (k.toInt = 4 → g + 1 ≤ t.toInt)
theorem TOP.over {wr : List (Nat × Nat)} {wa : List Nat} {Ps : PSI} {ws ws' : va_W} {m : Nat} {g : Int} (h : FR wr wa Ps ws ws') (x : TOP ws m g) (hn : (10, 5) ∉ wr) : TOP ws' m g := by
  obtain ⟨t, h1, h2⟩ := x
  exact ⟨t, FLD.over h h1 hn, h2⟩
theorem TKP.over {wr : List (Nat × Nat)} {wa : List Nat} {Ps : PSI} {ws ws' : va_W} {m : Nat} {g : Int} (h : FR wr wa Ps ws ws') (x : TKP ws m g) (hn : (10, 5) ∉ wr ∧ (10, 7) ∉ wr) : TKP ws' m g := by
  obtain ⟨t, k, h1, h2, h3⟩ := x
  exact ⟨t, k, FLD.over h h1 hn.1, FLD.over h h2 hn.2, h3⟩
theorem TKP.top {ws : va_W} {m : Nat} {g : Int} (x : TKP ws m g) : TOP ws m g := by
  obtain ⟨t, k, h1, h2, h3, h4, h5⟩ := x
  exact ⟨t, h1, h3, h4⟩
section FACTS6
variable {s : State} {H : Heap} {locs : List Loc} {D : va_G} {cy : Nat → ClassId} {A : Nat → Prop} {ws w0 : va_W} {G : Nat → Nat → CTy} {Ps P0 : PSI} {wr : List (Nat × Nat)} {wa : List Nat}
theorem TOP.get {m : Nat} {g : Int} {t : Int32} (hw : WD D cy G A s wr wa P0 w0 Ps ws H locs) (x : TOP ws m g) (h : FLD ws m 10 5 (.int t)) : g ≤ t.toInt := by
  obtain ⟨u, h1, h2, -⟩ := x
  cases FLD.inj hw.2.2.1 h1 h
  exact h2
theorem TKP.sign {m : Nat} {g : Int} {v : Int32} (hw : WD D cy G A s wr wa P0 w0 Ps ws H locs) (x : TKP ws m g) (h : FLD ws m 10 7 (.int v)) (hv : RI v 4 4) : TOP ws m (g + 1) := by
  obtain ⟨t, k, h1, h2, h3, h4, h5⟩ := x
  cases FLD.inj hw.2.2.1 h2 h
  exact ⟨t, h1, h5 hv.eq, h4⟩
theorem rx_true {m : Nat} (hw : WD D cy GG A s wr wa P0 w0 Ps ws H locs) (hm : (m, 55) ∈ Ps) : AX 15 35 (fun _ => True) Ps ws m := by
  obtain ⟨q, e1, -, h2, fs, rfl, h4⟩ := hw.1.find hm
  obtain ⟨v0, h5, a, rfl, ha⟩ := h4 15 (vR 35) rfl
  obtain ⟨f, f1, -, -⟩ := arr_of hw ha rfl
  exact ⟨a, f, ⟨q, fs, h2, h5⟩, f1, trivial⟩
theorem lx_true {m : Nat} (hw : WD D cy GG A s wr wa P0 w0 Ps ws H locs) (hm : (m, 55) ∈ Ps) : AX 40 52 (fun _ => True) Ps ws m := by
  obtain ⟨q, e1, -, h2, fs, rfl, h4⟩ := hw.1.find hm
  obtain ⟨v0, h5, a, rfl, ha⟩ := h4 40 (vR 52) rfl
  obtain ⟨f, f1, -, -⟩ := arr_of hw ha rfl
  exact ⟨a, f, ⟨q, fs, h2, h5⟩, f1, trivial⟩
end FACTS6
theorem NFD.mono {ws : va_W} {a : Nat} {b k k2 : Int32} {w : Int64} (h : NFD ws a b k w) (e : k2 ≤ k) : NFD ws a b k2 w := by
  have e := ti_le e
  obtain ⟨f, h1, h2⟩ := h
  exact ⟨f, h1, fun j hj => h2 j (by omega)⟩
/-! what is read: its head -/
def RH2p (f : Nat → Int32) : Prop := 1 ≤ (f 5).toInt ∧ (0 < (f 3).toInt → 0 < (f 0).toInt) ∧ ∀ i : Nat, i < 6 → (i : Int) < (f 0).toInt → 1 ≤ (f (6 + i)).toInt
theorem RH_keep {f : Nat → Int32} {j : Nat} {v : Int32} (h : RH2p f) (hj : 12 ≤ j ∨ j = 1 ∨ j = 2 ∨ j = 4) : RH2p (upd f j v) := by
  have e : ∀ i, i ≠ j → upd f j v i = f i := fun i hi => pk_un hi
  refine ⟨by rw [e 5 (by omega)]; exact h.1, by rw [e 3 (by omega), e 0 (by omega)]; exact h.2.1, fun i hi => ?_⟩
  rw [e 0 (by omega), e (6 + i) (by omega)]
  exact h.2.2 i hi
theorem RH_put {f : Nat → Int32} {j : Nat} {v : Int32} (h : RH2p f) (hv : 1 ≤ v.toInt) (hj : 5 ≤ j ∧ j ≤ 11) : RH2p (upd f j v) := by
  have e : ∀ i, i ≠ j → upd f j v i = f i := fun i hi => pk_un hi
  have e2 : upd f j v j = v := pk_us
  refine ⟨?_, by rw [e 3 (by omega), e 0 (by omega)]; exact h.2.1, fun i hi h2 => ?_⟩
  · by_cases q : 5 = j
    · rw [q, e2]; exact hv
    · rw [e 5 q]; exact h.1
  · rw [e 0 (by omega)] at h2
    by_cases q : 6 + i = j
    · rw [q, e2]; exact hv
    · rw [e _ q]; exact h.2.2 i hi h2
theorem RH_inc {f : Nat → Int32} {u v : Int32} (h : RH2p f) (e0 : f 0 = u) (h1 : 1 ≤ (f (6 + u.toNatClampNeg)).toInt) (hu : RI u 0 5) (e : v.toInt = u.toInt + 1) : RH2p (upd f 0 v) := by
  have q : ∀ i, i ≠ 0 → upd f 0 v i = f i := fun i hi => pk_un hi
  have q2 : upd f 0 v 0 = v := pk_us
  have k1 := hu.1
  have k2 : u.toNatClampNeg = u.toInt.toNat := rfl
  refine ⟨by rw [q 5 (by omega)]; exact h.1, by rw [q 3 (by omega), q2]; intro _; omega, fun i hi h2 => ?_⟩
  rw [q2] at h2
  rw [q (6 + i) (by omega)]
  by_cases c : (i : Int) < u.toInt
  · exact h.2.2 i hi (by rw [e0]; exact c)
  · have : i = u.toNatClampNeg := by omega
    rw [this]; exact h1
theorem RH_three {f : Nat → Int32} {v : Int32} (h : RH2p f) (h0 : 0 < (f 0).toInt) : RH2p (upd f 3 v) := by
  have q : ∀ i, i ≠ 3 → upd f 3 v i = f i := fun i hi => pk_un hi
  refine ⟨by rw [q 5 (by omega)]; exact h.1, by rw [q 0 (by omega)]; exact fun _ => h0, fun i hi => ?_⟩
  rw [q 0 (by omega), q (6 + i) (by omega)]
  exact h.2.2 i hi
theorem RH_init {f : Nat → Int32} {v : Int32} (h0 : f 0 = 0) (h3 : f 3 = 0) (hv : 1 ≤ v.toInt) : RH2p (upd f 5 v) := by
  have q : ∀ i, i ≠ 5 → upd f 5 v i = f i := fun i hi => pk_un hi
  have q2 : upd f 5 v 5 = v := pk_us
  refine ⟨by rw [q2]; exact hv, by rw [q 3 (by omega), h3]; intro h; exact absurd h (by decide), fun i hi h2 => ?_⟩
  rw [q 0 (by omega), h0, Int32.toInt_zero] at h2
  omega
abbrev wr_X10_bad : List (Nat × Nat) := [(10, 10), (10, 11)]
abbrev wa_X10_bad : List Nat := []
set_option maxHeartbeats 4000000 in
set_option maxRecDepth 100000 in
theorem c_X10_bad (l : Launch) (D : va_G) (cy : Nat → ClassId) (z : Nat → Nat) (sz : Nat) (Ps : PSI) (w0 : va_W) (hT : HT cy GG Ps w0) (p0 : Nat) (p1 : Int32) (h_p0 : (p0, 55) ∈ Ps) (r_p1 : RI p1 (-2147483648) 2147483647) : Met l yX10_bad (Cond.code yX10_bad cX10_bad 2 (some .boolean) :: gT) ({ frames := 0, cells := 0, slots := 0, locals := 200 } : Room) (va_Pc [.ref p0, .int p1] (PRE D cy z w0 sz)) (va_Qi (fun (r : Int32) (u : va_W) => (RI r 0 0 ∧ (r = 0 → True) ∧ (¬ r = 0 → True)) ∧ HT cy GG Ps u ∧ FR wr_X10_bad wa_X10_bad Ps w0 u) (BB D cy (va_A w0 sz) (fun (u : va_W) => u)) (va_A w0 sz)) 0 0 (va_A w0 sz) := by
  refine Met.ofW (cc := cX10_bad) (maxL := 2) (ret := (some .boolean)) (by decide) rfl ?_
  intro p e s m args below meth c s₁ B hml hv
  obtain ⟨rfl, hsz, hP, hK, hD0, hSD⟩ := hv
  have hx := B.exec
  have hb := B.bytes
  have hr := B.returns
  have hlocks := B.notSynchronized
  have hts : ∀ w ∈ gT, w.before _ s = true := fun w h => atoms_spec (ws := Cond.code yX10_bad cX10_bad 2 (some .boolean) :: gT) B.pre w (List.mem_cons_of_mem _ h)
  have hown : s.vm.findClass RX10 = some m.cls := findClass_of_methodNamed B.named
  subst hsz
  have hD := hD0.self (sz := s.heap.size)
  generalize hAe : va_A w0 s.heap.size = A at hD hSD ⊢
  have hA : ∀ q : Nat, s.heap.size ≤ q → A q := fun q h => by rw [← hAe]; exact Or.inr h
  have hl := lv_entry ([.ref p0, .int p1]) (n := 2) (Nat.le_of_ble_eq_true rfl)
  rw [lg_entry_eq]
  generalize (lg_sl ([.ref p0, .int p1]) ++ List.replicate (2 - (lg_sl ([.ref p0, .int p1])).length) Slot.unset).toArray = ls at hl ⊢
  have hl : lv_has ls 2 [(0, .ref p0), (1, .int p1)] := hl
  refine nameQ (fun Q hQ => ?_)
  have hw : WD D cy GG A s wr_X10_bad wa_X10_bad Ps w0 Ps w0 s.heap [] := ⟨hT, hP, hD, va_S.rf, FR.rf, hT.1, [], (List.append_nil _).symm⟩
  have B14 : ∀ (y0 : Int32) (ws : va_W) (H : Heap) (locs : List Loc) (ls : Array Slot), RI p1 (-2147483648) 2147483647 → RI y0 (-2147483648) 2147483647 → WD D cy GG A s wr_X10_bad wa_X10_bad Ps w0 Ps ws H locs → lv_has ls 2 [(0, .ref p0), (1, .int p1)] → W p l e (headSpec (Cond.code yX10_bad cX10_bad 2 (some .boolean) :: gT) ({ frames := 0, cells := 0, slots := 0, locals := 200 } : Room)).room s m ([.ref p0, .int p1] : List Value).toArray below meth c H locs 0 0 Q (F0 m 14 ls [.int y0, .ref p0]) := by
    intro y0 ws H locs ls r_p1 r_y0 hw hl
    refine tg_put (ci := 10) (ts := ty_MODEL) (v := .int y0) (ty := .int) (C := RX10) (T := TX10) (N := 49) hx hb hts inX10 tyX10 tyX10_ok nmX10 hown hK hw h_p0 rfl rfl 10 (by decide) (hts _ tw_1147) (fun _ h9 => h9) rfl (by decide +kernel) rfl rfl (ft := vI (-2147483648) 2147483647) rfl ⟨_, rfl, r_y0⟩ (by decide) dX10_bad_14 (fun ws H locs hw n_k_1 hF9 => ?_)
    refine lv_aload_n hx hb dX10_bad_17 rfl (lv_at hl 0 rfl) ?_
    refine lv_aload_n hx hb dX10_bad_18 rfl (lv_at hl 0 rfl) ?_
    refine tg_get (ci := 10) (ts := ty_MODEL) (C := RX10) (T := TX10) (N := 49) hx hb hts inX10 hown hK hw h_p0 rfl rfl 6 (by decide) (hts _ tw_1143) (fun _ h9 => h9) (ft := vI (-2147483648) 2147483647) rfl dX10_bad_19 (fun u_2 hv_u_2 m_u_2 => ?_)
    obtain ⟨vu_2, rfl, r_vu_2⟩ := hv_u_2
    refine tg_put (ci := 10) (ts := ty_MODEL) (v := .int vu_2) (ty := .int) (C := RX10) (T := TX10) (N := 49) hx hb hts inX10 tyX10 tyX10_ok nmX10 hown hK hw h_p0 rfl rfl 11 (by decide) (hts _ tw_1148) (fun _ h9 => h9) rfl (by decide +kernel) rfl rfl (ft := vI (-2147483648) 2147483647) rfl ⟨_, rfl, r_vu_2⟩ (by decide) dX10_bad_22 (fun ws H locs hw n_k_3 hF9 => ?_)
    have n_k_1 := FLD.over hF9 n_k_1 (by decide)
    have m_u_2 := FLD.over hF9 m_u_2 (by decide)
    refine lv_iconst (v := 0) hx hb dX10_bad_25 (by decide) ?_
    subst hQ
    exact W.zret (v := 0) hx hb hr (rfl) (fun t ht hW => ⟨⟨0, ws, rfl, ⟨⟨rl_0.to (by decide), (fun h0 => trivial), (fun _ => trivial)⟩, hw.1, hw.2.2.2.2.1⟩, by rw [ht]; exact hw.2.1, va_K.moved hW.alike hK, hw.2.2.1⟩, hw.2.2.2.1.F ht⟩) hw.2.2.2.1.2.2 dX10_bad_26
  refine lv_aload_n hx hb dX10_bad_0 rfl (lv_at hl 0 rfl) ?_
  refine lv_aload_n hx hb dX10_bad_1 rfl (lv_at hl 0 rfl) ?_
  refine tg_get (ci := 10) (ts := ty_MODEL) (C := RX10) (T := TX10) (N := 49) hx hb hts inX10 hown hK hw h_p0 rfl rfl 7 (by decide) (hts _ tw_1144) (fun _ h9 => h9) (ft := vI (-2147483648) 2147483647) rfl dX10_bad_2 (fun u_4 hv_u_4 m_u_4 => ?_)
  obtain ⟨vu_4, rfl, r_vu_4⟩ := hv_u_4
  refine lv_iconst (v := 1) hx hb dX10_bad_5 (by decide) ?_
  refine lv_icmp_ne (tgt := 13) hx hb dX10_bad_6 (by decide) (fun c_6 => ?_) (fun c_6 => ?_)
  · refine lv_iload_n hx hb dX10_bad_13 rfl (lv_at hl 1 rfl) ?_
    exact B14 p1 w0 _ _ ls r_p1 r_p1 hw hl
  · have r_vu_4 : RI vu_4 1 1 := rc_eq1 r_vu_4 rl_1 (ti_eq c_6) (by decide)
    refine lv_iconst (v := 1) hx hb dX10_bad_9 (by decide) ?_
    refine lv_goto (tgt := 14) hx hb dX10_bad_10 (by decide) ?_
    exact B14 1 w0 _ _ ls r_p1 (rl_1.to (by decide)) hw hl
abbrev wr_X10_draw : List (Nat × Nat) := [(10, 39)]
abbrev wa_X10_draw : List Nat := []
set_option maxHeartbeats 4000000 in
set_option maxRecDepth 100000 in
theorem c_X10_draw (l : Launch) (D : va_G) (cy : Nat → ClassId) (z : Nat → Nat) (sz : Nat) (Ps : PSI) (w0 : va_W) (hT : HT cy GG Ps w0) (p0 : Nat) (p1 : Int32) (h_p0 : (p0, 55) ∈ Ps) (r_p1 : RI p1 8 8) : Met l yX10_draw (Cond.code yX10_draw cX10_draw 2 (some .int) :: gT) ({ frames := 0, cells := 0, slots := 0, locals := 200 } : Room) (va_Pc [.ref p0, .int p1] (PRE D cy z w0 sz)) (va_Qi (fun (r : Int32) (u : va_W) => (RI r 0 7 ∧ (r = 0 → True) ∧ (¬ r = 0 → True)) ∧ HT cy GG Ps u ∧ FR wr_X10_draw wa_X10_draw Ps w0 u) (BB D cy (va_A w0 sz) (fun (u : va_W) => u)) (va_A w0 sz)) 0 0 (va_A w0 sz) := by
  refine Met.ofW (cc := cX10_draw) (maxL := 2) (ret := (some .int)) (by decide) rfl ?_
  intro p e s m args below meth c s₁ B hml hv
  obtain ⟨rfl, hsz, hP, hK, hD0, hSD⟩ := hv
  have hx := B.exec
  have hb := B.bytes
  have hr := B.returns
  have hlocks := B.notSynchronized
  have hts : ∀ w ∈ gT, w.before _ s = true := fun w h => atoms_spec (ws := Cond.code yX10_draw cX10_draw 2 (some .int) :: gT) B.pre w (List.mem_cons_of_mem _ h)
  have hown : s.vm.findClass RX10 = some m.cls := findClass_of_methodNamed B.named
  subst hsz
  have hD := hD0.self (sz := s.heap.size)
  generalize hAe : va_A w0 s.heap.size = A at hD hSD ⊢
  have hA : ∀ q : Nat, s.heap.size ≤ q → A q := fun q h => by rw [← hAe]; exact Or.inr h
  have hl := lv_entry ([.ref p0, .int p1]) (n := 2) (Nat.le_of_ble_eq_true rfl)
  rw [lg_entry_eq]
  generalize (lg_sl ([.ref p0, .int p1]) ++ List.replicate (2 - (lg_sl ([.ref p0, .int p1])).length) Slot.unset).toArray = ls at hl ⊢
  have hl : lv_has ls 2 [(0, .ref p0), (1, .int p1)] := hl
  refine nameQ (fun Q hQ => ?_)
  have hw : WD D cy GG A s wr_X10_draw wa_X10_draw Ps w0 Ps w0 s.heap [] := ⟨hT, hP, hD, va_S.rf, FR.rf, hT.1, [], (List.append_nil _).symm⟩
  refine lv_aload_n hx hb dX10_draw_0 rfl (lv_at hl 0 rfl) ?_
  refine lv_aload_n hx hb dX10_draw_1 rfl (lv_at hl 0 rfl) ?_
  refine tg_get (ci := 10) (ts := ty_MODEL) (C := RX10) (T := TX10) (N := 49) hx hb hts inX10 hown hK hw h_p0 rfl rfl 39 (by decide) (hts _ tw_1176) (fun _ h9 => h9) (ft := vI (-2147483648) 2147483647) rfl dX10_draw_2 (fun u_1 hv_u_1 m_u_1 => ?_)
  obtain ⟨vu_1, rfl, r_vu_1⟩ := hv_u_1
  refine lv_ldcw (v := 1103515245) hx hb hown (hts _ tw_1702) dX10_draw_5 ?_
  refine lv_imul hx hb dX10_draw_8 (lv_topi (fun v_2 e_v_2 => ?_))
  have r_v_2 := ri_any v_2
  refine lv_sipush (v := 12345) hx hb dX10_draw_9 (by decide) ?_
  refine lv_iadd hx hb dX10_draw_12 (lv_topi (fun v_3 e_v_3 => ?_))
  have r_v_3 := ri_any v_3
  refine tg_put (ci := 10) (ts := ty_MODEL) (v := .int v_3) (ty := .int) (C := RX10) (T := TX10) (N := 49) hx hb hts inX10 tyX10 tyX10_ok nmX10 hown hK hw h_p0 rfl rfl 39 (by decide) (hts _ tw_1176) (fun _ h9 => h9) rfl (by decide +kernel) rfl rfl (ft := vI (-2147483648) 2147483647) rfl ⟨_, rfl, r_v_3⟩ (by decide) dX10_draw_13 (fun ws H locs hw n_k_4 hF9 => ?_)
  refine lv_aload_n hx hb dX10_draw_16 rfl (lv_at hl 0 rfl) ?_
  refine tg_mem (ci := 10) (C := RX10) (T := TX10) (N := 49) hx hb hts inX10 hown hK hw 39 n_k_4 rfl (by decide) (hts _ tw_1176) (fun _ h9 => h9) dX10_draw_17 ?_
  refine lv_bipush (v := 8) hx hb dX10_draw_20 (by decide) ?_
  obtain ⟨v_5, e_v_5⟩ : ∃ q9 : Int32, (Int32.toUInt32 v_3 >>> (Int32.toUInt32 8 &&& Int32.toUInt32 31)).toInt32 = q9 := ⟨_, rfl⟩
  refine lv_iushr (v := v_5) hx hb dX10_draw_22 e_v_5 ?_
  have r_v_5 : RI v_5 0 16777215 := by rw [← e_v_5]; exact ri_ushr8 _
  refine lv_iload_n hx hb dX10_draw_23 rfl (lv_at hl 1 rfl) ?_
  refine lv_irem hx hb dX10_draw_24 (ri_ne0 r_p1 (by decide)) (lv_topi (fun v_6 e_v_6 => ?_))
  have r_v_6 : RI v_6 0 7 := by rw [e_v_6]; exact ri_rem (b := 16777215) (r_v_5.to (by decide)) r_p1 (by decide)
  subst hQ
  exact W.iret (v := v_6) hx hb hr (fun t ht hW => ⟨⟨v_6, ws, rfl, ⟨⟨r_v_6.to (by decide), (fun h0 => trivial), (fun h0 => trivial)⟩, hw.1, hw.2.2.2.2.1⟩, by rw [ht]; exact hw.2.1, va_K.moved hW.alike hK, hw.2.2.1⟩, hw.2.2.2.1.F ht⟩) hw.2.2.2.1.2.2 dX10_draw_25
abbrev wr_X10_draw__1 : List (Nat × Nat) := [(10, 39)]
abbrev wa_X10_draw__1 : List Nat := []
set_option maxHeartbeats 4000000 in
set_option maxRecDepth 100000 in
theorem c_X10_draw__1 (l : Launch) (D : va_G) (cy : Nat → ClassId) (z : Nat → Nat) (sz : Nat) (Ps : PSI) (w0 : va_W) (hT : HT cy GG Ps w0) (p0 : Nat) (p1 : Int32) (h_p0 : (p0, 55) ∈ Ps) (r_p1 : RI p1 1 6) : Met l yX10_draw (Cond.code yX10_draw cX10_draw 2 (some .int) :: gT) ({ frames := 0, cells := 0, slots := 0, locals := 200 } : Room) (va_Pc [.ref p0, .int p1] (PRE D cy z w0 sz)) (va_Qi (fun (r : Int32) (u : va_W) => (RI r 0 5 ∧ (r = 0 → True) ∧ (¬ r = 0 → True)) ∧ HT cy GG Ps u ∧ FR wr_X10_draw__1 wa_X10_draw__1 Ps w0 u) (BB D cy (va_A w0 sz) (fun (u : va_W) => u)) (va_A w0 sz)) 0 0 (va_A w0 sz) := by
  refine Met.ofW (cc := cX10_draw) (maxL := 2) (ret := (some .int)) (by decide) rfl ?_
  intro p e s m args below meth c s₁ B hml hv
  obtain ⟨rfl, hsz, hP, hK, hD0, hSD⟩ := hv
  have hx := B.exec
  have hb := B.bytes
  have hr := B.returns
  have hlocks := B.notSynchronized
  have hts : ∀ w ∈ gT, w.before _ s = true := fun w h => atoms_spec (ws := Cond.code yX10_draw cX10_draw 2 (some .int) :: gT) B.pre w (List.mem_cons_of_mem _ h)
  have hown : s.vm.findClass RX10 = some m.cls := findClass_of_methodNamed B.named
  subst hsz
  have hD := hD0.self (sz := s.heap.size)
  generalize hAe : va_A w0 s.heap.size = A at hD hSD ⊢
  have hA : ∀ q : Nat, s.heap.size ≤ q → A q := fun q h => by rw [← hAe]; exact Or.inr h
  have hl := lv_entry ([.ref p0, .int p1]) (n := 2) (Nat.le_of_ble_eq_true rfl)
  rw [lg_entry_eq]
  generalize (lg_sl ([.ref p0, .int p1]) ++ List.replicate (2 - (lg_sl ([.ref p0, .int p1])).length) Slot.unset).toArray = ls at hl ⊢
  have hl : lv_has ls 2 [(0, .ref p0), (1, .int p1)] := hl
  refine nameQ (fun Q hQ => ?_)
  have hw : WD D cy GG A s wr_X10_draw__1 wa_X10_draw__1 Ps w0 Ps w0 s.heap [] := ⟨hT, hP, hD, va_S.rf, FR.rf, hT.1, [], (List.append_nil _).symm⟩
  refine lv_aload_n hx hb dX10_draw_0 rfl (lv_at hl 0 rfl) ?_
  refine lv_aload_n hx hb dX10_draw_1 rfl (lv_at hl 0 rfl) ?_
  refine tg_get (ci := 10) (ts := ty_MODEL) (C := RX10) (T := TX10) (N := 49) hx hb hts inX10 hown hK hw h_p0 rfl rfl 39 (by decide) (hts _ tw_1176) (fun _ h9 => h9) (ft := vI (-2147483648) 2147483647) rfl dX10_draw_2 (fun u_1 hv_u_1 m_u_1 => ?_)
  obtain ⟨vu_1, rfl, r_vu_1⟩ := hv_u_1
  refine lv_ldcw (v := 1103515245) hx hb hown (hts _ tw_1702) dX10_draw_5 ?_
  refine lv_imul hx hb dX10_draw_8 (lv_topi (fun v_2 e_v_2 => ?_))
  have r_v_2 := ri_any v_2
  refine lv_sipush (v := 12345) hx hb dX10_draw_9 (by decide) ?_
  refine lv_iadd hx hb dX10_draw_12 (lv_topi (fun v_3 e_v_3 => ?_))
  have r_v_3 := ri_any v_3
  refine tg_put (ci := 10) (ts := ty_MODEL) (v := .int v_3) (ty := .int) (C := RX10) (T := TX10) (N := 49) hx hb hts inX10 tyX10 tyX10_ok nmX10 hown hK hw h_p0 rfl rfl 39 (by decide) (hts _ tw_1176) (fun _ h9 => h9) rfl (by decide +kernel) rfl rfl (ft := vI (-2147483648) 2147483647) rfl ⟨_, rfl, r_v_3⟩ (by decide) dX10_draw_13 (fun ws H locs hw n_k_4 hF9 => ?_)
  refine lv_aload_n hx hb dX10_draw_16 rfl (lv_at hl 0 rfl) ?_
  refine tg_mem (ci := 10) (C := RX10) (T := TX10) (N := 49) hx hb hts inX10 hown hK hw 39 n_k_4 rfl (by decide) (hts _ tw_1176) (fun _ h9 => h9) dX10_draw_17 ?_
  refine lv_bipush (v := 8) hx hb dX10_draw_20 (by decide) ?_
  obtain ⟨v_5, e_v_5⟩ : ∃ q9 : Int32, (Int32.toUInt32 v_3 >>> (Int32.toUInt32 8 &&& Int32.toUInt32 31)).toInt32 = q9 := ⟨_, rfl⟩
  refine lv_iushr (v := v_5) hx hb dX10_draw_22 e_v_5 ?_
  have r_v_5 : RI v_5 0 16777215 := by rw [← e_v_5]; exact ri_ushr8 _
  refine lv_iload_n hx hb dX10_draw_23 rfl (lv_at hl 1 rfl) ?_
  refine lv_irem hx hb dX10_draw_24 (ri_ne0 r_p1 (by decide)) (lv_topi (fun v_6 e_v_6 => ?_))
  have r_v_6 : RI v_6 0 5 := by rw [e_v_6]; exact ri_rem (b := 16777215) (r_v_5.to (by decide)) r_p1 (by decide)
  subst hQ
  exact W.iret (v := v_6) hx hb hr (fun t ht hW => ⟨⟨v_6, ws, rfl, ⟨⟨r_v_6.to (by decide), (fun h0 => trivial), (fun h0 => trivial)⟩, hw.1, hw.2.2.2.2.1⟩, by rw [ht]; exact hw.2.1, va_K.moved hW.alike hK, hw.2.2.1⟩, hw.2.2.2.1.F ht⟩) hw.2.2.2.1.2.2 dX10_draw_25
abbrev wr_X10_drawsFor : List (Nat × Nat) := [(10, 39)]
abbrev wa_X10_drawsFor : List Nat := [34]
set_option maxHeartbeats 4000000 in
set_option maxRecDepth 100000 in
theorem c_X10_drawsFor (l : Launch) (D : va_G) (cy : Nat → ClassId) (z : Nat → Nat) (sz : Nat) (Ps : PSI) (w0 : va_W) (hT : HT cy GG Ps w0) (p0 : Nat) (p1 : Int32) (h_p0 : (p0, 55) ∈ Ps) (r_p1 : RI p1 0 7) (x_PPOS_p0 : AX 14 34 (fun f => 0 < (f 3).toInt) Ps w0 p0) : Met l yX10_drawsFor (Cond.code yX10_drawsFor cX10_drawsFor 3 none :: gT) ({ frames := 2, cells := 0, slots := 0, locals := 400 } : Room) (va_Pc [.ref p0, .int p1] (PRE D cy z w0 sz)) (va_Qv (fun (u : va_W) => (True) ∧ HT cy GG Ps u ∧ FR wr_X10_drawsFor wa_X10_drawsFor Ps w0 u) (BB D cy (va_A w0 sz) (fun (u : va_W) => u)) (va_A w0 sz)) 0 0 (va_A w0 sz) := by
  refine Met.ofW (cc := cX10_drawsFor) (maxL := 3) (ret := none) (by decide) rfl ?_
  intro p e s m args below meth c s₁ B hml hv
  obtain ⟨rfl, hsz, hP, hK, hD0, hSD⟩ := hv
  have hx := B.exec
  have hb := B.bytes
  have hr := B.returns
  have hlocks := B.notSynchronized
  have hts : ∀ w ∈ gT, w.before _ s = true := fun w h => atoms_spec (ws := Cond.code yX10_drawsFor cX10_drawsFor 3 none :: gT) B.pre w (List.mem_cons_of_mem _ h)
  have hown : s.vm.findClass RX10 = some m.cls := findClass_of_methodNamed B.named
  subst hsz
  have hD := hD0.self (sz := s.heap.size)
  generalize hAe : va_A w0 s.heap.size = A at hD hSD ⊢
  have hA : ∀ q : Nat, s.heap.size ≤ q → A q := fun q h => by rw [← hAe]; exact Or.inr h
  have hl := lv_entry ([.ref p0, .int p1]) (n := 3) (Nat.le_of_ble_eq_true rfl)
  rw [lg_entry_eq]
  generalize (lg_sl ([.ref p0, .int p1]) ++ List.replicate (3 - (lg_sl ([.ref p0, .int p1])).length) Slot.unset).toArray = ls at hl ⊢
  have hl : lv_has ls 3 [(0, .ref p0), (1, .int p1)] := hl
  refine nameQ (fun Q hQ => ?_)
  have hw : WD D cy GG A s wr_X10_drawsFor wa_X10_drawsFor Ps w0 Ps w0 s.heap [] := ⟨hT, hP, hD, va_S.rf, FR.rf, hT.1, [], (List.append_nil _).symm⟩
  refine lv_aload_n hx hb dX10_drawsFor_0 rfl (lv_at hl 0 rfl) ?_
  refine lv_bipush (v := 8) hx hb dX10_drawsFor_1 (by decide) ?_
  refine tk_i (va_runV (As := [.int 8]) (rest := []) ⟨hx, hb, hml, hown, hts⟩ (c_X10_draw l D cy z s.heap.size Ps w0 hw.1 p0 8 h_p0 rl_8) (cwV 1 hts (gV tw_1698 tw_1700 ts_102 tw_15 tw_1701) rfl rfl rfl (by decide +kernel) ⟨Nat.le_of_ble_eq_true rfl, Nat.le_of_ble_eq_true rfl⟩) (tg_preV hw hK hSD hA (ci := 10) (q := (RX10, TX10, 49)) rfl h_p0 rfl) rfl rfl hl.1 rfl (lv_room (Nat.le_of_ble_eq_true rfl)) dX10_drawsFor_3 ⟨Nat.le_of_ble_eq_true rfl, Nat.le_of_ble_eq_true rfl⟩) hw hA ⟨by decide, by decide⟩ (fun v_1 ws H locs hp_v_1 hw hF9 => ?_)
  have x_PPOS_p0 := AX.over hF9 x_PPOS_p0 (by decide)
  have r_v_1 : RI v_1 0 7 := hp_v_1.1
  refine lv_istore_n (lv' := [(2, .int v_1), (0, .ref p0), (1, .int p1)]) hx hb dX10_drawsFor_6 rfl hl (by decide) rfl (fun ls hl => ?_)
  refine lv_iload_n hx hb dX10_drawsFor_7 rfl (lv_at hl 0 rfl) ?_
  refine lv_if_ne (tgt := 21) hx hb dX10_drawsFor_8 (by decide) (fun c_8 => ?_) (fun c_8 => ?_)
  · have r_v_1 : RI v_1 1 7 := rc_neL r_v_1 rl_0 (ti_ne c_8) (by decide)
    refine lv_iload_n hx hb dX10_drawsFor_21 rfl (lv_at hl 0 rfl) ?_
    refine lv_iconst (v := 1) hx hb dX10_drawsFor_22 (by decide) ?_
    refine lv_icmp_ne (tgt := 54) hx hb dX10_drawsFor_23 (by decide) (fun c_23 => ?_) (fun c_23 => ?_)
    · have r_v_1 : RI v_1 2 7 := rc_neL r_v_1 rl_1 (ti_ne c_23) (by decide)
      refine lv_iload_n hx hb dX10_drawsFor_54 rfl (lv_at hl 0 rfl) ?_
      refine lv_iconst (v := 2) hx hb dX10_drawsFor_55 (by decide) ?_
      refine lv_icmp_ne (tgt := 78) hx hb dX10_drawsFor_56 (by decide) (fun c_56 => ?_) (fun c_56 => ?_)
      · have r_v_1 : RI v_1 3 7 := rc_neL r_v_1 rl_2 (ti_ne c_56) (by decide)
        subst hQ
        exact W.vret hx hb hr (fun t ht hW => ⟨⟨ws, rfl, ⟨trivial, hw.1, hw.2.2.2.2.1⟩, by rw [ht]; exact hw.2.1, va_K.moved hW.alike hK, hw.2.2.1⟩, hw.2.2.2.1.F ht⟩) hw.2.2.2.1.2.2 dX10_drawsFor_78
      · have r_v_1 : RI v_1 2 2 := rc_eq1 r_v_1 rl_2 (ti_eq c_56) (by decide)
        refine lv_aload_n hx hb dX10_drawsFor_59 rfl (lv_at hl 1 rfl) ?_
        refine tg_get (ci := 10) (ts := ty_MODEL) (C := RX10) (T := TX10) (N := 49) hx hb hts inX10 hown hK hw h_p0 rfl rfl 14 (by decide) (hts _ tw_1151) (fun _ h9 => h9) (ft := vR 34) rfl dX10_drawsFor_60 (fun u_2 hv_u_2 m_u_2 => ?_)
        obtain ⟨vu_2, rfl, h_vu_2⟩ := hv_u_2
        refine lv_bipush (v := 104) hx hb dX10_drawsFor_63 (by decide) ?_
        refine lv_iload_n hx hb dX10_drawsFor_65 rfl (lv_at hl 2 rfl) ?_
        refine lv_iadd hx hb dX10_drawsFor_66 (lv_topi (fun v_3 e_v_3 => ?_))
        obtain ⟨t_v_3, r_v_3⟩ := tq_add (lo := 104) (hi := 111) rl_104 r_p1 (by decide +kernel) e_v_3
        have t_v_3 : v_3.toInt = 104 + p1.toInt := t_v_3
        refine lv_aload_n hx hb dX10_drawsFor_67 rfl (lv_at hl 1 rfl) ?_
        refine lv_aload_n hx hb dX10_drawsFor_68 rfl (lv_at hl 1 rfl) ?_
        refine tg_mem (ci := 10) (C := RX10) (T := TX10) (N := 49) hx hb hts inX10 hown hK hw 14 m_u_2 rfl (by decide) (hts _ tw_1151) (fun _ h9 => h9) dX10_drawsFor_69 ?_
        refine lv_iconst (v := 0) hx hb dX10_drawsFor_72 (by decide) ?_
        refine tg_iald (lo := 0) (hi := 6) hx hb hK hw h_vu_2 rfl 0 0 rl_0 (by decide) (by decide +kernel) dX10_drawsFor_73 (fun v_4 r_v_4 m_v_4 o_v_4 => ?_)
        have r_v_4 : RI v_4 1 6 := by obtain ⟨f9, h9, q9, g9⟩ := AX.use hw x_PPOS_p0 h_vu_2 rfl m_u_2; have e9 := g9 _ _ m_v_4; have j9 : Int32.toNatClampNeg 0 = 0 := (by decide); rw [j9] at e9; have h8 := q9.1.2.1 h9; rw [e9] at h8; exact ⟨h8, r_v_4.2⟩
        refine tk_i (va_runV (As := [.int v_4]) (rest := [.int v_3, .ref vu_2]) ⟨hx, hb, hml, hown, hts⟩ (c_X10_draw__1 l D cy z H.size Ps ws hw.1 p0 v_4 h_p0 r_v_4) (cwV 1 hts (gV tw_1698 tw_1700 ts_102 tw_15 tw_1701) rfl rfl rfl (by decide +kernel) ⟨Nat.le_of_ble_eq_true rfl, Nat.le_of_ble_eq_true rfl⟩) (tg_preV hw hK hSD hA (ci := 10) (q := (RX10, TX10, 49)) rfl h_p0 rfl) rfl rfl hl.1 rfl (lv_room (Nat.le_of_ble_eq_true rfl)) dX10_drawsFor_74 ⟨Nat.le_of_ble_eq_true rfl, Nat.le_of_ble_eq_true rfl⟩) hw hA ⟨by decide, by decide⟩ (fun v_5 ws H locs hp_v_5 hw hF9 => ?_)
        have x_PPOS_p0 := AX.over hF9 x_PPOS_p0 (by decide)
        have r_v_5 : RI v_5 0 5 := hp_v_5.1
        refine tg_iast hx hb hK hw h_vu_2 rfl 104 111 r_v_3 (by decide) r_v_5 (by decide +kernel) (RN_upd (by decide) (by decide)) (by decide) dX10_drawsFor_77 (fun ws H locs hw hF9 hU9 => ?_)
        subst hQ
        exact W.vret hx hb hr (fun t ht hW => ⟨⟨ws, rfl, ⟨trivial, hw.1, hw.2.2.2.2.1⟩, by rw [ht]; exact hw.2.1, va_K.moved hW.alike hK, hw.2.2.1⟩, hw.2.2.2.1.F ht⟩) hw.2.2.2.1.2.2 dX10_drawsFor_78
    · have r_v_1 : RI v_1 1 1 := rc_eq1 r_v_1 rl_1 (ti_eq c_23) (by decide)
      refine lv_aload_n hx hb dX10_drawsFor_26 rfl (lv_at hl 1 rfl) ?_
      refine tg_get (ci := 10) (ts := ty_MODEL) (C := RX10) (T := TX10) (N := 49) hx hb hts inX10 hown hK hw h_p0 rfl rfl 14 (by decide) (hts _ tw_1151) (fun _ h9 => h9) (ft := vR 34) rfl dX10_drawsFor_27 (fun u_6 hv_u_6 m_u_6 => ?_)
      obtain ⟨vu_6, rfl, h_vu_6⟩ := hv_u_6
      refine lv_iconst (v := 2) hx hb dX10_drawsFor_30 (by decide) ?_
      refine tg_iald (lo := 0) (hi := 6) hx hb hK hw h_vu_6 rfl 2 2 rl_2 (by decide) (by decide +kernel) dX10_drawsFor_31 (fun v_7 r_v_7 m_v_7 o_v_7 => ?_)
      refine lv_if_le (tgt := 54) hx hb dX10_drawsFor_32 (by decide) (fun c_32 => ?_) (fun c_32 => ?_)
      · have r_v_7 : RI v_7 0 0 := rc_le1 r_v_7 rl_0 (ti_le c_32) (by decide)
        refine lv_iload_n hx hb dX10_drawsFor_54 rfl (lv_at hl 0 rfl) ?_
        refine lv_iconst (v := 2) hx hb dX10_drawsFor_55 (by decide) ?_
        refine lv_icmp_ne (tgt := 78) hx hb dX10_drawsFor_56 (by decide) (fun c_56 => ?_) (fun c_56 => ?_)
        · subst hQ
          exact W.vret hx hb hr (fun t ht hW => ⟨⟨ws, rfl, ⟨trivial, hw.1, hw.2.2.2.2.1⟩, by rw [ht]; exact hw.2.1, va_K.moved hW.alike hK, hw.2.2.1⟩, hw.2.2.2.1.F ht⟩) hw.2.2.2.1.2.2 dX10_drawsFor_78
        · have r_v_1 : RI v_1 2 1 := rc_eq1 r_v_1 rl_2 (ti_eq c_56) (by decide)
          exact (r_v_1.no (by decide)).elim
      · have r_v_7 : RI v_7 1 6 := rc_lt2 rl_0 r_v_7 (ti_nle c_32) (by decide)
        refine lv_aload_n hx hb dX10_drawsFor_35 rfl (lv_at hl 1 rfl) ?_
        refine tg_mem (ci := 10) (C := RX10) (T := TX10) (N := 49) hx hb hts inX10 hown hK hw 14 m_u_6 rfl (by decide) (hts _ tw_1151) (fun _ h9 => h9) dX10_drawsFor_36 ?_
        refine lv_bipush (v := 112) hx hb dX10_drawsFor_39 (by decide) ?_
        refine lv_iload_n hx hb dX10_drawsFor_41 rfl (lv_at hl 2 rfl) ?_
        refine lv_iadd hx hb dX10_drawsFor_42 (lv_topi (fun v_8 e_v_8 => ?_))
        obtain ⟨t_v_8, r_v_8⟩ := tq_add (lo := 112) (hi := 119) rl_112 r_p1 (by decide +kernel) e_v_8
        have t_v_8 : v_8.toInt = 112 + p1.toInt := t_v_8
        refine lv_aload_n hx hb dX10_drawsFor_43 rfl (lv_at hl 1 rfl) ?_
        refine lv_aload_n hx hb dX10_drawsFor_44 rfl (lv_at hl 1 rfl) ?_
        refine tg_mem (ci := 10) (C := RX10) (T := TX10) (N := 49) hx hb hts inX10 hown hK hw 14 m_u_6 rfl (by decide) (hts _ tw_1151) (fun _ h9 => h9) dX10_drawsFor_45 ?_
        refine lv_iconst (v := 2) hx hb dX10_drawsFor_48 (by decide) ?_
        refine tg_imem hx hb hK hw h_vu_6 rfl rl_2 (by decide) m_v_7 dX10_drawsFor_49 ?_
        refine tk_i (va_runV (As := [.int v_7]) (rest := [.int v_8, .ref vu_6]) ⟨hx, hb, hml, hown, hts⟩ (c_X10_draw__1 l D cy z H.size Ps ws hw.1 p0 v_7 h_p0 r_v_7) (cwV 1 hts (gV tw_1698 tw_1700 ts_102 tw_15 tw_1701) rfl rfl rfl (by decide +kernel) ⟨Nat.le_of_ble_eq_true rfl, Nat.le_of_ble_eq_true rfl⟩) (tg_preV hw hK hSD hA (ci := 10) (q := (RX10, TX10, 49)) rfl h_p0 rfl) rfl rfl hl.1 rfl (lv_room (Nat.le_of_ble_eq_true rfl)) dX10_drawsFor_50 ⟨Nat.le_of_ble_eq_true rfl, Nat.le_of_ble_eq_true rfl⟩) hw hA ⟨by decide, by decide⟩ (fun v_10 ws H locs hp_v_10 hw hF9 => ?_)
        have x_PPOS_p0 := AX.over hF9 x_PPOS_p0 (by decide)
        have r_v_10 : RI v_10 0 5 := hp_v_10.1
        refine tg_iast hx hb hK hw h_vu_6 rfl 112 119 r_v_8 (by decide) r_v_10 (by decide +kernel) (RN_upd (by decide) (by decide)) (by decide) dX10_drawsFor_53 (fun ws H locs hw hF9 hU9 => ?_)
        refine lv_iload_n hx hb dX10_drawsFor_54 rfl (lv_at hl 0 rfl) ?_
        refine lv_iconst (v := 2) hx hb dX10_drawsFor_55 (by decide) ?_
        refine lv_icmp_ne (tgt := 78) hx hb dX10_drawsFor_56 (by decide) (fun c_56 => ?_) (fun c_56 => ?_)
        · subst hQ
          exact W.vret hx hb hr (fun t ht hW => ⟨⟨ws, rfl, ⟨trivial, hw.1, hw.2.2.2.2.1⟩, by rw [ht]; exact hw.2.1, va_K.moved hW.alike hK, hw.2.2.1⟩, hw.2.2.2.1.F ht⟩) hw.2.2.2.1.2.2 dX10_drawsFor_78
        · have r_v_1 : RI v_1 2 1 := rc_eq1 r_v_1 rl_2 (ti_eq c_56) (by decide)
          exact (r_v_1.no (by decide)).elim
  · have r_v_1 : RI v_1 0 0 := rc_eq1 r_v_1 rl_0 (ti_eq c_8) (by decide)
    refine lv_aload_n hx hb dX10_drawsFor_11 rfl (lv_at hl 1 rfl) ?_
    refine tg_get (ci := 10) (ts := ty_MODEL) (C := RX10) (T := TX10) (N := 49) hx hb hts inX10 hown hK hw h_p0 rfl rfl 14 (by decide) (hts _ tw_1151) (fun _ h9 => h9) (ft := vR 34) rfl dX10_drawsFor_12 (fun u_11 hv_u_11 m_u_11 => ?_)
    obtain ⟨vu_11, rfl, h_vu_11⟩ := hv_u_11
    refine lv_bipush (v := 112) hx hb dX10_drawsFor_15 (by decide) ?_
    refine lv_iload_n hx hb dX10_drawsFor_17 rfl (lv_at hl 2 rfl) ?_
    refine lv_iadd hx hb dX10_drawsFor_18 (lv_topi (fun v_12 e_v_12 => ?_))
    obtain ⟨t_v_12, r_v_12⟩ := tq_add (lo := 112) (hi := 119) rl_112 r_p1 (by decide +kernel) e_v_12
    have t_v_12 : v_12.toInt = 112 + p1.toInt := t_v_12
    refine lv_iconst (v := (-1)) hx hb dX10_drawsFor_19 (by decide) ?_
    refine tg_iast hx hb hK hw h_vu_11 rfl 112 119 r_v_12 (by decide) rl_m1 (by decide +kernel) (RN_upd (by decide) (by decide)) (by decide) dX10_drawsFor_20 (fun ws H locs hw hF9 hU9 => ?_)
    refine lv_iload_n hx hb dX10_drawsFor_21 rfl (lv_at hl 0 rfl) ?_
    refine lv_iconst (v := 1) hx hb dX10_drawsFor_22 (by decide) ?_
    refine lv_icmp_ne (tgt := 54) hx hb dX10_drawsFor_23 (by decide) (fun c_23 => ?_) (fun c_23 => ?_)
    · refine lv_iload_n hx hb dX10_drawsFor_54 rfl (lv_at hl 0 rfl) ?_
      refine lv_iconst (v := 2) hx hb dX10_drawsFor_55 (by decide) ?_
      refine lv_icmp_ne (tgt := 78) hx hb dX10_drawsFor_56 (by decide) (fun c_56 => ?_) (fun c_56 => ?_)
      · subst hQ
        exact W.vret hx hb hr (fun t ht hW => ⟨⟨ws, rfl, ⟨trivial, hw.1, hw.2.2.2.2.1⟩, by rw [ht]; exact hw.2.1, va_K.moved hW.alike hK, hw.2.2.1⟩, hw.2.2.2.1.F ht⟩) hw.2.2.2.1.2.2 dX10_drawsFor_78
      · have r_v_1 : RI v_1 2 0 := rc_eq1 r_v_1 rl_2 (ti_eq c_56) (by decide)
        exact (r_v_1.no (by decide)).elim
    · have r_v_1 : RI v_1 1 0 := rc_eq1 r_v_1 rl_1 (ti_eq c_23) (by decide)
      exact (r_v_1.no (by decide)).elim
abbrev wr_X10_drawDays : List (Nat × Nat) := [(10, 39)]
abbrev wa_X10_drawDays : List Nat := [34, 46]
set_option maxHeartbeats 4000000 in
set_option maxRecDepth 100000 in
theorem c_X10_drawDays (l : Launch) (D : va_G) (cy : Nat → ClassId) (z : Nat → Nat) (sz : Nat) (Ps : PSI) (w0 : va_W) (hT : HT cy GG Ps w0) (p0 : Nat) (p1 : Int32) (p2 : Int32) (h_p0 : (p0, 55) ∈ Ps) (r_p1 : RI p1 (-2147483648) 2147483647) (r_p2 : RI p2 (-2147483648) 2147483647) : Met l yX10_drawDays (Cond.code yX10_drawDays cX10_drawDays 6 (some .int) :: gT) ({ frames := 5, cells := 0, slots := 0, locals := 1000 } : Room) (va_Pc [.ref p0, .int p1, .int p2] (PRE D cy z w0 sz)) (va_Qi (fun (r : Int32) (u : va_W) => (RI r (-2147483648) 2147483647 ∧ (r = 0 → True) ∧ (¬ r = 0 → True)) ∧ HT cy GG Ps u ∧ FR wr_X10_drawDays wa_X10_drawDays Ps w0 u) (BB D cy (va_A w0 sz) (fun (u : va_W) => u)) (va_A w0 sz)) 0 0 (va_A w0 sz) := by
  refine Met.ofW (cc := cX10_drawDays) (maxL := 6) (ret := (some .int)) (by decide) rfl ?_
  intro p e s m args below meth c s₁ B hml hv
  obtain ⟨rfl, hsz, hP, hK, hD0, hSD⟩ := hv
  have hx := B.exec
  have hb := B.bytes
  have hr := B.returns
  have hlocks := B.notSynchronized
  have hts : ∀ w ∈ gT, w.before _ s = true := fun w h => atoms_spec (ws := Cond.code yX10_drawDays cX10_drawDays 6 (some .int) :: gT) B.pre w (List.mem_cons_of_mem _ h)
  have hown : s.vm.findClass RX10 = some m.cls := findClass_of_methodNamed B.named
  subst hsz
  have hD := hD0.self (sz := s.heap.size)
  generalize hAe : va_A w0 s.heap.size = A at hD hSD ⊢
  have hA : ∀ q : Nat, s.heap.size ≤ q → A q := fun q h => by rw [← hAe]; exact Or.inr h
  have hl := lv_entry ([.ref p0, .int p1, .int p2]) (n := 6) (Nat.le_of_ble_eq_true rfl)
  rw [lg_entry_eq]
  generalize (lg_sl ([.ref p0, .int p1, .int p2]) ++ List.replicate (6 - (lg_sl ([.ref p0, .int p1, .int p2])).length) Slot.unset).toArray = ls at hl ⊢
  have hl : lv_has ls 6 [(0, .ref p0), (1, .int p1), (2, .int p2)] := hl
  refine nameQ (fun Q hQ => ?_)
  have hw : WD D cy GG A s wr_X10_drawDays wa_X10_drawDays Ps w0 Ps w0 s.heap [] := ⟨hT, hP, hD, va_S.rf, FR.rf, hT.1, [], (List.append_nil _).symm⟩
  have B24 : ∀ (nf : Nat) (x3 : Int32) (x4 : Int32) (ws : va_W) (H : Heap) (locs : List Loc) (ls : Array Slot), 2147483647 - x4.toInt < (nf : Int) → RI p1 (-2147483648) 2147483647 → RI p2 (-2147483648) 2147483647 → RI x3 (-2147483648) 2147483647 → RI x4 0 2147483647 → WD D cy GG A s wr_X10_drawDays wa_X10_drawDays Ps w0 Ps ws H locs → lv_has ls 6 [(0, .ref p0), (1, .int p1), (2, .int p2), (3, .int x3), (4, .int x4)] → W p l e (headSpec (Cond.code yX10_drawDays cX10_drawDays 6 (some .int) :: gT) ({ frames := 5, cells := 0, slots := 0, locals := 1000 } : Room)).room s m ([.ref p0, .int p1, .int p2] : List Value).toArray below meth c H locs 0 0 Q (F0 m 24 ls []) := by
    intro nf24
    induction nf24 with
    | zero =>
      intro x3 x4 ws H locs ls hn24 r_p1 r_p2 r_x3 r_x4 hw hl
      exact absurd hn24 (by have q0 := r_x4.1; have u0 := r_x4.2; omega)
    | succ nf24 ih24 =>
      have B33 : ∀ (nf : Nat) (x3 : Int32) (x4 : Int32) (x5 : Int32) (ws : va_W) (H : Heap) (locs : List Loc) (ls : Array Slot), 8 - x5.toInt < (nf : Int) → RI p1 (-2147483648) 2147483647 → RI p2 (-2147483648) 2147483647 → RI x3 1 2147483647 → RI x4 0 2147483646 → RI x5 0 8 → 2147483647 - x4.toInt < ((nf24 + 1 : Nat) : Int) → WD D cy GG A s wr_X10_drawDays wa_X10_drawDays Ps w0 Ps ws H locs → lv_has ls 6 [(0, .ref p0), (1, .int p1), (2, .int p2), (3, .int x3), (4, .int x4), (5, .int x5)] → W p l e (headSpec (Cond.code yX10_drawDays cX10_drawDays 6 (some .int) :: gT) ({ frames := 5, cells := 0, slots := 0, locals := 1000 } : Room)).room s m ([.ref p0, .int p1, .int p2] : List Value).toArray below meth c H locs 0 0 Q (F0 m 33 ls []) := by
        intro nf33
        induction nf33 with
        | zero =>
          intro x3 x4 x5 ws H locs ls hn33 r_p1 r_p2 r_x3 r_x4 r_x5 hn24 hw hl
          exact absurd hn33 (by have q0 := r_x5.1; have u0 := r_x5.2; omega)
        | succ nf33 ih33 =>
          intro x3 x4 x5 ws H locs ls hn33 r_p1 r_p2 r_x3 r_x4 r_x5 hn24 hw hl
          refine lv_iload hx hb dX10_drawDays_33 (lv_at hl 5 rfl) ?_
          refine lv_aload_n hx hb dX10_drawDays_35 rfl (lv_at hl 0 rfl) ?_
          refine tg_get (ci := 10) (ts := ty_MODEL) (C := RX10) (T := TX10) (N := 49) hx hb hts inX10 hown hK hw h_p0 rfl rfl 14 (by decide) (hts _ tw_1151) (fun _ h9 => h9) (ft := vR 34) rfl dX10_drawDays_36 (fun u_1 hv_u_1 m_u_1 => ?_)
          obtain ⟨vu_1, rfl, h_vu_1⟩ := hv_u_1
          refine lv_iconst (v := 3) hx hb dX10_drawDays_39 (by decide) ?_
          refine tg_iald (lo := 0) (hi := 8) hx hb hK hw h_vu_1 rfl 3 3 rl_3 (by decide) (by decide +kernel) dX10_drawDays_40 (fun v_2 r_v_2 m_v_2 o_v_2 => ?_)
          refine lv_icmp_ge (tgt := 56) hx hb dX10_drawDays_41 (by decide) (fun c_41 => ?_) (fun c_41 => ?_)
          · refine lv_aload_n hx hb dX10_drawDays_56 rfl (lv_at hl 0 rfl) ?_
            refine tk_v (va_runV (As := []) (rest := []) ⟨hx, hb, hml, hown, hts⟩ (c_X10_oneDay l D cy z H.size Ps ws hw.1 p0 h_p0) (cwV 0 hts (gV tw_1564 tw_1566 ts_85 tw_15 tw_1567) rfl rfl rfl (by decide +kernel) ⟨Nat.le_of_ble_eq_true rfl, Nat.le_of_ble_eq_true rfl⟩) (tg_preV hw hK hSD hA (ci := 10) (q := (RX10, TX10, 49)) rfl h_p0 rfl) rfl rfl hl.1 rfl (lv_room (Nat.le_of_ble_eq_true rfl)) dX10_drawDays_57 ⟨Nat.le_of_ble_eq_true rfl, Nat.le_of_ble_eq_true rfl⟩) hw hA ⟨by decide, by decide⟩ (fun ws H locs hp_v_3 hw hF9 => ?_)
            obtain ⟨v_4, e_v_4⟩ : ∃ q9 : Int32, q9 = x4 + Int32.ofInt 1 := ⟨_, rfl⟩
            obtain ⟨t_v_4, r_v_4⟩ := tq_add (lo := 1) (hi := 2147483647) r_x4 (show RI (Int32.ofInt 1) 1 1 by unfold RI; decide +kernel) (by decide +kernel) e_v_4
            have t_v_4 : v_4.toInt = x4.toInt + 1 := t_v_4
            refine lv_iinc (v := v_4) (lv' := [(4, .int v_4), (0, .ref p0), (1, .int p1), (2, .int p2), (3, .int x3), (5, .int x5)]) hx hb dX10_drawDays_60 hl (k := 4) rfl e_v_4.symm (by decide) rfl (fun ls hl => ?_)
            refine lv_goto (tgt := 24) hx hb dX10_drawDays_63 (by decide) ?_
            exact ih24 x3 v_4 ws _ _ ls (by have q0 := r_v_4.1; have u0 := r_v_4.2; have o0 := r_x4.1; have p0 := r_x4.2; omega) r_p1 r_p2 (r_x3.to (by decide)) (r_v_4.to (by decide)) hw (lv_sub hl [1, 2, 3, 4, 0] rfl)
          · have r_x5 : RI x5 0 7 := rc_lt1 r_x5 r_v_2 (ti_nle c_41) (by decide)
            have r_v_2 : RI v_2 1 8 := rc_lt2 r_x5 r_v_2 (ti_nle c_41) (by decide)
            have x_PPOS_p0 : AX 14 34 (fun f => 0 < (f 3).toInt) Ps ws p0 := AX.mk hw h_vu_1 rfl m_u_1 (fun f9 g9 _ => by have e9 := g9 _ _ m_v_2; have j9 : Int32.toNatClampNeg 3 = 3 := (by decide); rw [j9] at e9; show _; rw [e9]; have := r_v_2.1; omega)
            refine lv_aload_n hx hb dX10_drawDays_44 rfl (lv_at hl 0 rfl) ?_
            refine lv_iload hx hb dX10_drawDays_45 (lv_at hl 5 rfl) ?_
            refine tk_v (va_runV (As := [.int x5]) (rest := []) ⟨hx, hb, hml, hown, hts⟩ (c_X10_drawsFor l D cy z H.size Ps ws hw.1 p0 x5 h_p0 r_x5 x_PPOS_p0) (cwV 1 hts (gV tw_1694 tw_1696 ts_101 tw_15 tw_1697) rfl rfl rfl (by decide +kernel) ⟨Nat.le_of_ble_eq_true rfl, Nat.le_of_ble_eq_true rfl⟩) (tg_preV hw hK hSD hA (ci := 10) (q := (RX10, TX10, 49)) rfl h_p0 rfl) rfl rfl hl.1 rfl (lv_room (Nat.le_of_ble_eq_true rfl)) dX10_drawDays_47 ⟨Nat.le_of_ble_eq_true rfl, Nat.le_of_ble_eq_true rfl⟩) hw hA ⟨by decide, by decide⟩ (fun ws H locs hp_v_5 hw hF9 => ?_)
            obtain ⟨v_6, e_v_6⟩ : ∃ q9 : Int32, q9 = x5 + Int32.ofInt 1 := ⟨_, rfl⟩
            obtain ⟨t_v_6, r_v_6⟩ := tq_add (lo := 1) (hi := 8) r_x5 (show RI (Int32.ofInt 1) 1 1 by unfold RI; decide +kernel) (by decide +kernel) e_v_6
            have t_v_6 : v_6.toInt = x5.toInt + 1 := t_v_6
            refine lv_iinc (v := v_6) (lv' := [(5, .int v_6), (0, .ref p0), (1, .int p1), (2, .int p2), (3, .int x3), (4, .int x4)]) hx hb dX10_drawDays_50 hl (k := 5) rfl e_v_6.symm (by decide) rfl (fun ls hl => ?_)
            refine lv_goto (tgt := 33) hx hb dX10_drawDays_53 (by decide) ?_
            exact ih33 x3 x4 v_6 ws _ _ ls (by have q0 := r_v_6.1; have u0 := r_v_6.2; have o0 := r_x5.1; have p0 := r_x5.2; omega) r_p1 r_p2 r_x3 r_x4 (r_v_6.to (by decide)) (by have q0 := r_x4.1; have u0 := r_x4.2; omega) hw (lv_sub hl [1, 2, 3, 4, 5, 0] rfl)
      intro x3 x4 ws H locs ls hn24 r_p1 r_p2 r_x3 r_x4 hw hl
      refine lv_iload hx hb dX10_drawDays_24 (lv_at hl 4 rfl) ?_
      refine lv_iload_n hx hb dX10_drawDays_26 rfl (lv_at hl 3 rfl) ?_
      refine lv_icmp_ge (tgt := 66) hx hb dX10_drawDays_27 (by decide) (fun c_27 => ?_) (fun c_27 => ?_)
      · refine lv_iload_n hx hb dX10_drawDays_66 rfl (lv_at hl 3 rfl) ?_
        subst hQ
        exact W.iret (v := x3) hx hb hr (fun t ht hW => ⟨⟨x3, ws, rfl, ⟨⟨r_x3.to (by decide), (fun h0 => trivial), (fun h0 => trivial)⟩, hw.1, hw.2.2.2.2.1⟩, by rw [ht]; exact hw.2.1, va_K.moved hW.alike hK, hw.2.2.1⟩, hw.2.2.2.1.F ht⟩) hw.2.2.2.1.2.2 dX10_drawDays_67
      · have r_x4 : RI x4 0 2147483646 := rc_lt1 r_x4 r_x3 (ti_nle c_27) (by decide)
        have r_x3 : RI x3 1 2147483647 := rc_lt2 r_x4 r_x3 (ti_nle c_27) (by decide)
        refine lv_iconst (v := 0) hx hb dX10_drawDays_30 (by decide) ?_
        refine lv_istore (lv' := [(5, .int 0), (0, .ref p0), (1, .int p1), (2, .int p2), (3, .int x3), (4, .int x4)]) hx hb dX10_drawDays_31 hl (by decide) rfl (fun ls hl => ?_)
        exact B33 4294967298 x3 x4 0 ws _ _ ls (by have q0 := rl_0.1; have u0 := rl_0.2; omega) r_p1 r_p2 r_x3 r_x4 (rl_0.to (by decide)) (by have q0 := r_x4.1; have u0 := r_x4.2; omega) hw (lv_sub hl [1, 2, 3, 4, 5, 0] rfl)
  refine lv_aload_n hx hb dX10_drawDays_0 rfl (lv_at hl 0 rfl) ?_
  refine lv_iload_n hx hb dX10_drawDays_1 rfl (lv_at hl 2 rfl) ?_
  refine tg_put (ci := 10) (ts := ty_MODEL) (v := .int p2) (ty := .int) (C := RX10) (T := TX10) (N := 49) hx hb hts inX10 tyX10 tyX10_ok nmX10 hown hK hw h_p0 rfl rfl 39 (by decide) (hts _ tw_1176) (fun _ h9 => h9) rfl (by decide +kernel) rfl rfl (ft := vI (-2147483648) 2147483647) rfl ⟨_, rfl, r_p2⟩ (by decide) dX10_drawDays_2 (fun ws H locs hw n_k_7 hF9 => ?_)
  refine lv_iload_n hx hb dX10_drawDays_5 rfl (lv_at hl 1 rfl) ?_
  refine lv_sipush (v := 400) hx hb dX10_drawDays_6 (by decide) ?_
  refine lv_aload_n hx hb dX10_drawDays_9 rfl (lv_at hl 0 rfl) ?_
  refine tg_get (ci := 10) (ts := ty_MODEL) (C := RX10) (T := TX10) (N := 49) hx hb hts inX10 hown hK hw h_p0 rfl rfl 14 (by decide) (hts _ tw_1151) (fun _ h9 => h9) (ft := vR 34) rfl dX10_drawDays_10 (fun u_8 hv_u_8 m_u_8 => ?_)
  obtain ⟨vu_8, rfl, h_vu_8⟩ := hv_u_8
  refine lv_bipush (v := 84) hx hb dX10_drawDays_13 (by decide) ?_
  refine tg_iald (lo := (-2147483648)) (hi := 2147483647) hx hb hK hw h_vu_8 rfl 84 84 rl_84 (by decide) (by decide +kernel) dX10_drawDays_15 (fun v_9 r_v_9 m_v_9 o_v_9 => ?_)
  refine lv_isub hx hb dX10_drawDays_16 (lv_topi (fun v_10 e_v_10 => ?_))
  have r_v_10 := ri_any v_10
  refine tk_ir (va_runS (As := [.int p1, .int v_10]) (rest := []) ⟨hx, hb, hml, hown, hts⟩ (c_X10_least__1 l D cy z H.size Ps ws hw.1 p1 v_10 r_p1 r_v_10) (va_cwS 2 hts (gS tw_1525 tw_1526 tw_15 tw_1527) rfl rfl rfl (by decide +kernel) ⟨Nat.le_of_ble_eq_true rfl, Nat.le_of_ble_eq_true rfl⟩) (tg_preS hw hK hSD hA) rfl rfl hl.1 rfl (lv_room (Nat.le_of_ble_eq_true rfl)) dX10_drawDays_17 ⟨Nat.le_of_ble_eq_true rfl, Nat.le_of_ble_eq_true rfl⟩) hw hA (fun v_11  H locs hp_v_11 hw => ?_)
  have r_v_11 : RI v_11 (-2147483648) 2147483647 := hp_v_11.1
  refine lv_istore_n (lv' := [(3, .int v_11), (0, .ref p0), (1, .int p1), (2, .int p2)]) hx hb dX10_drawDays_20 rfl hl (by decide) rfl (fun ls hl => ?_)
  refine lv_iconst (v := 0) hx hb dX10_drawDays_21 (by decide) ?_
  refine lv_istore (lv' := [(4, .int 0), (3, .int v_11), (0, .ref p0), (1, .int p1), (2, .int p2)]) hx hb dX10_drawDays_22 hl (by decide) rfl (fun ls hl => ?_)
  exact B24 4294967298 v_11 0 ws _ _ ls (by have q0 := rl_0.1; have u0 := rl_0.2; omega) r_p1 r_p2 r_v_11 (rl_0.to (by decide)) hw (lv_sub hl [2, 3, 4, 1, 0] rfl)
abbrev wr_X10_drawn : List (Nat × Nat) := [(10, 0), (10, 25), (10, 39)]
abbrev wa_X10_drawn : List Nat := [34, 37, 46]
set_option maxHeartbeats 4000000 in
set_option maxRecDepth 100000 in
theorem c_X10_drawn (l : Launch) (D : va_G) (cy : Nat → ClassId) (z : Nat → Nat) (sz : Nat) (Ps : PSI) (w0 : va_W) (hT : HT cy GG Ps w0) (p0 : Nat) (p1 : Int32) (p2 : Int32) (h_p0 : (p0, 55) ∈ Ps) (r_p1 : RI p1 (-2147483648) 2147483647) (r_p2 : RI p2 (-2147483648) 2147483647) : Met l yX10_drawn (Cond.code yX10_drawn cX10_drawn 3 (some .int) :: gT) ({ frames := 6, cells := 0, slots := 0, locals := 1200 } : Room) (va_Pc [.ref p0, .int p1, .int p2] (PRE D cy z w0 sz)) (va_Qi (fun (r : Int32) (u : va_W) => (RI r (-2147483648) 2147483647 ∧ (r = 0 → True) ∧ (¬ r = 0 → True)) ∧ HT cy GG Ps u ∧ FR wr_X10_drawn wa_X10_drawn Ps w0 u) (BB D cy (va_A w0 sz) (fun (u : va_W) => u)) (va_A w0 sz)) 0 0 (va_A w0 sz) := by
  refine Met.ofW (cc := cX10_drawn) (maxL := 3) (ret := (some .int)) (by decide) rfl ?_
  intro p e s m args below meth c s₁ B hml hv
  obtain ⟨rfl, hsz, hP, hK, hD0, hSD⟩ := hv
  have hx := B.exec
  have hb := B.bytes
  have hr := B.returns
  have hlocks := B.notSynchronized
  have hts : ∀ w ∈ gT, w.before _ s = true := fun w h => atoms_spec (ws := Cond.code yX10_drawn cX10_drawn 3 (some .int) :: gT) B.pre w (List.mem_cons_of_mem _ h)
  have hown : s.vm.findClass RX10 = some m.cls := findClass_of_methodNamed B.named
  subst hsz
  have hD := hD0.self (sz := s.heap.size)
  generalize hAe : va_A w0 s.heap.size = A at hD hSD ⊢
  have hA : ∀ q : Nat, s.heap.size ≤ q → A q := fun q h => by rw [← hAe]; exact Or.inr h
  have hl := lv_entry ([.ref p0, .int p1, .int p2]) (n := 3) (Nat.le_of_ble_eq_true rfl)
  rw [lg_entry_eq]
  generalize (lg_sl ([.ref p0, .int p1, .int p2]) ++ List.replicate (3 - (lg_sl ([.ref p0, .int p1, .int p2])).length) Slot.unset).toArray = ls at hl ⊢
  have hl : lv_has ls 3 [(0, .ref p0), (1, .int p1), (2, .int p2)] := hl
  refine nameQ (fun Q hQ => ?_)
  have hw : WD D cy GG A s wr_X10_drawn wa_X10_drawn Ps w0 Ps w0 s.heap [] := ⟨hT, hP, hD, va_S.rf, FR.rf, hT.1, [], (List.append_nil _).symm⟩
  refine lv_aload_n hx hb dX10_drawn_0 rfl (lv_at hl 0 rfl) ?_
  refine lv_iconst (v := 0) hx hb dX10_drawn_1 (by decide) ?_
  refine tg_put (ci := 10) (ts := ty_MODEL) (v := .int 0) (ty := .int) (C := RX10) (T := TX10) (N := 49) hx hb hts inX10 tyX10 tyX10_ok nmX10 hown hK hw h_p0 rfl rfl 0 (by decide) (hts _ tw_1137) (fun _ h9 => h9) rfl (by decide +kernel) rfl rfl (ft := vI (-2147483648) 2147483647) rfl ⟨_, rfl, (rl_0.to (by decide))⟩ (by decide) dX10_drawn_2 (fun ws H locs hw n_k_1 hF9 => ?_)
  refine lv_iload_n hx hb dX10_drawn_5 rfl (lv_at hl 1 rfl) ?_
  refine lv_iconst (v := 1) hx hb dX10_drawn_6 (by decide) ?_
  refine lv_bipush (v := 60) hx hb dX10_drawn_7 (by decide) ?_
  refine tk_ir (va_runS (As := [.int p1, .int 1, .int 60]) (rest := []) ⟨hx, hb, hml, hown, hts⟩ (c_X10_isIn__3 l D cy z H.size Ps ws hw.1 p1 1 60 r_p1 rl_1 rl_60) (va_cwS 3 hts (gS tw_1359 tw_1360 tw_15 tw_1361) rfl rfl rfl (by decide +kernel) ⟨Nat.le_of_ble_eq_true rfl, Nat.le_of_ble_eq_true rfl⟩) (tg_preS hw hK hSD hA) rfl rfl hl.1 rfl (lv_room (Nat.le_of_ble_eq_true rfl)) dX10_drawn_9 ⟨Nat.le_of_ble_eq_true rfl, Nat.le_of_ble_eq_true rfl⟩) hw hA (fun v_2  H locs hp_v_2 hw => ?_)
  have r_v_2 : RI v_2 0 1 := hp_v_2.1
  refine lv_if_eq (tgt := 24) hx hb dX10_drawn_12 (by decide) (fun c_12 => ?_) (fun c_12 => ?_)
  · have r_v_2 : RI v_2 0 0 := rc_eq1 r_v_2 rl_0 (ti_eq c_12) (by decide)
    refine lv_iconst (v := (-1)) hx hb dX10_drawn_24 (by decide) ?_
    subst hQ
    exact W.iret (v := (-1)) hx hb hr (fun t ht hW => ⟨⟨(-1), ws, rfl, ⟨⟨rl_m1.to (by decide), (fun _ => trivial), (fun h0 => trivial)⟩, hw.1, hw.2.2.2.2.1⟩, by rw [ht]; exact hw.2.1, va_K.moved hW.alike hK, hw.2.2.1⟩, hw.2.2.2.1.F ht⟩) hw.2.2.2.1.2.2 dX10_drawn_25
  · have r_v_2 : RI v_2 1 1 := rc_neL r_v_2 rl_0 (ti_ne c_12) (by decide)
    have r_p1 : RI p1 1 60 := ((hp_v_2.2.2 c_12).1)
    refine lv_aload_n hx hb dX10_drawn_15 rfl (lv_at hl 0 rfl) ?_
    refine tg_get (ci := 10) (ts := ty_MODEL) (C := RX10) (T := TX10) (N := 49) hx hb hts inX10 hown hK hw h_p0 rfl rfl 14 (by decide) (hts _ tw_1151) (fun _ h9 => h9) (ft := vR 34) rfl dX10_drawn_16 (fun u_3 hv_u_3 m_u_3 => ?_)
    obtain ⟨vu_3, rfl, h_vu_3⟩ := hv_u_3
    refine lv_iconst (v := 3) hx hb dX10_drawn_19 (by decide) ?_
    refine tg_iald (lo := 0) (hi := 8) hx hb hK hw h_vu_3 rfl 3 3 rl_3 (by decide) (by decide +kernel) dX10_drawn_20 (fun v_4 r_v_4 m_v_4 o_v_4 => ?_)
    refine lv_if_ne (tgt := 26) hx hb dX10_drawn_21 (by decide) (fun c_21 => ?_) (fun c_21 => ?_)
    · have r_v_4 : RI v_4 1 8 := rc_neL r_v_4 rl_0 (ti_ne c_21) (by decide)
      refine lv_aload_n hx hb dX10_drawn_26 rfl (lv_at hl 0 rfl) ?_
      refine tg_mem (ci := 10) (C := RX10) (T := TX10) (N := 49) hx hb hts inX10 hown hK hw 14 m_u_3 rfl (by decide) (hts _ tw_1151) (fun _ h9 => h9) dX10_drawn_27 ?_
      refine lv_bipush (v := 84) hx hb dX10_drawn_30 (by decide) ?_
      refine tg_iald (lo := (-2147483648)) (hi := 2147483647) hx hb hK hw h_vu_3 rfl 84 84 rl_84 (by decide) (by decide +kernel) dX10_drawn_32 (fun v_5 r_v_5 m_v_5 o_v_5 => ?_)
      refine lv_sipush (v := 400) hx hb dX10_drawn_33 (by decide) ?_
      refine lv_icmp_ne (tgt := 41) hx hb dX10_drawn_36 (by decide) (fun c_36 => ?_) (fun c_36 => ?_)
      · refine lv_aload_n hx hb dX10_drawn_41 rfl (lv_at hl 0 rfl) ?_
        refine tk_v (va_runV (As := []) (rest := []) ⟨hx, hb, hml, hown, hts⟩ (c_X10_snap l D cy z H.size Ps ws hw.1 p0 h_p0) (cwV 0 hts (gV tw_1505 tw_1507 ts_78 tw_15 tw_1508) rfl rfl rfl (by decide +kernel) ⟨Nat.le_of_ble_eq_true rfl, Nat.le_of_ble_eq_true rfl⟩) (tg_preV hw hK hSD hA (ci := 10) (q := (RX10, TX10, 49)) rfl h_p0 rfl) rfl rfl hl.1 rfl (lv_room (Nat.le_of_ble_eq_true rfl)) dX10_drawn_42 ⟨Nat.le_of_ble_eq_true rfl, Nat.le_of_ble_eq_true rfl⟩) hw hA ⟨by decide, by decide⟩ (fun ws H locs hp_v_6 hw hF9 => ?_)
        have n_k_1 := FLD.over hF9 n_k_1 (by decide)
        obtain ⟨v_7, m_v_7, r_v_7⟩ := (hp_v_6.1)
        refine lv_aload_n hx hb dX10_drawn_45 rfl (lv_at hl 0 rfl) ?_
        refine lv_iload_n hx hb dX10_drawn_46 rfl (lv_at hl 1 rfl) ?_
        refine lv_iload_n hx hb dX10_drawn_47 rfl (lv_at hl 2 rfl) ?_
        refine tk_i (va_runV (As := [.int p1, .int p2]) (rest := []) ⟨hx, hb, hml, hown, hts⟩ (c_X10_drawDays l D cy z H.size Ps ws hw.1 p0 p1 p2 h_p0 (r_p1.to (by decide)) r_p2) (cwV 2 hts (gV tw_1690 tw_1692 ts_100 tw_15 tw_1693) rfl rfl rfl (by decide +kernel) ⟨Nat.le_of_ble_eq_true rfl, Nat.le_of_ble_eq_true rfl⟩) (tg_preV hw hK hSD hA (ci := 10) (q := (RX10, TX10, 49)) rfl h_p0 rfl) rfl rfl hl.1 rfl (lv_room (Nat.le_of_ble_eq_true rfl)) dX10_drawn_48 ⟨Nat.le_of_ble_eq_true rfl, Nat.le_of_ble_eq_true rfl⟩) hw hA ⟨by decide, by decide⟩ (fun v_8 ws H locs hp_v_8 hw hF9 => ?_)
        have n_k_1 := FLD.over hF9 n_k_1 (by decide)
        have m_v_7 := FLD.over hF9 m_v_7 (by decide)
        have r_v_8 : RI v_8 (-2147483648) 2147483647 := hp_v_8.1
        subst hQ
        exact W.iret (v := v_8) hx hb hr (fun t ht hW => ⟨⟨v_8, ws, rfl, ⟨⟨r_v_8.to (by decide), (fun h0 => trivial), (fun h0 => trivial)⟩, hw.1, hw.2.2.2.2.1⟩, by rw [ht]; exact hw.2.1, va_K.moved hW.alike hK, hw.2.2.1⟩, hw.2.2.2.1.F ht⟩) hw.2.2.2.1.2.2 dX10_drawn_51
      · have r_v_5 : RI v_5 400 400 := rc_eq1 r_v_5 rl_400 (ti_eq c_36) (by decide)
        refine lv_iconst (v := 0) hx hb dX10_drawn_39 (by decide) ?_
        subst hQ
        exact W.iret (v := 0) hx hb hr (fun t ht hW => ⟨⟨0, ws, rfl, ⟨⟨rl_0.to (by decide), (fun h0 => trivial), (fun _ => trivial)⟩, hw.1, hw.2.2.2.2.1⟩, by rw [ht]; exact hw.2.1, va_K.moved hW.alike hK, hw.2.2.1⟩, hw.2.2.2.1.F ht⟩) hw.2.2.2.1.2.2 dX10_drawn_40
    · have r_v_4 : RI v_4 0 0 := rc_eq1 r_v_4 rl_0 (ti_eq c_21) (by decide)
      refine lv_iconst (v := (-1)) hx hb dX10_drawn_24 (by decide) ?_
      subst hQ
      exact W.iret (v := (-1)) hx hb hr (fun t ht hW => ⟨⟨(-1), ws, rfl, ⟨⟨rl_m1.to (by decide), (fun _ => trivial), (fun h0 => trivial)⟩, hw.1, hw.2.2.2.2.1⟩, by rw [ht]; exact hw.2.1, va_K.moved hW.alike hK, hw.2.2.1⟩, hw.2.2.2.1.F ht⟩) hw.2.2.2.1.2.2 dX10_drawn_25
abbrev wr_X10_come : List (Nat × Nat) := [(10, 2)]
abbrev wa_X10_come : List Nat := [40]
set_option maxHeartbeats 4000000 in
set_option maxRecDepth 100000 in
theorem c_X10_come (l : Launch) (D : va_G) (cy : Nat → ClassId) (z : Nat → Nat) (sz : Nat) (Ps : PSI) (w0 : va_W) (hT : HT cy GG Ps w0) (p0 : Nat) (p1 : Int32) (f0_2 : Int32) (h_p0 : (p0, 55) ∈ Ps) (r_p1 : RI p1 (-2147483648) 2147483647) (r_f0_2 : RI f0_2 0 920) (m_f0_2 : FLD w0 p0 10 2 (.int f0_2)) : Met l yX10_come (Cond.code yX10_come cX10_come 3 none :: gT) ({ frames := 0, cells := 0, slots := 0, locals := 200 } : Room) (va_Pc [.ref p0, .int p1] (PRE D cy z w0 sz)) (va_Qv (fun (u : va_W) => ((∃ v9 : Int32, FLD u p0 10 2 (.int v9) ∧ RI v9 4 924) ∧ True) ∧ HT cy GG Ps u ∧ FR wr_X10_come wa_X10_come Ps w0 u) (BB D cy (va_A w0 sz) (fun (u : va_W) => u)) (va_A w0 sz)) 0 0 (va_A w0 sz) := by
  refine Met.ofW (cc := cX10_come) (maxL := 3) (ret := none) (by decide) rfl ?_
  intro p e s m args below meth c s₁ B hml hv
  obtain ⟨rfl, hsz, hP, hK, hD0, hSD⟩ := hv
  have hx := B.exec
  have hb := B.bytes
  have hr := B.returns
  have hlocks := B.notSynchronized
  have hts : ∀ w ∈ gT, w.before _ s = true := fun w h => atoms_spec (ws := Cond.code yX10_come cX10_come 3 none :: gT) B.pre w (List.mem_cons_of_mem _ h)
  have hown : s.vm.findClass RX10 = some m.cls := findClass_of_methodNamed B.named
  subst hsz
  have hD := hD0.self (sz := s.heap.size)
  generalize hAe : va_A w0 s.heap.size = A at hD hSD ⊢
  have hA : ∀ q : Nat, s.heap.size ≤ q → A q := fun q h => by rw [← hAe]; exact Or.inr h
  have hl := lv_entry ([.ref p0, .int p1]) (n := 3) (Nat.le_of_ble_eq_true rfl)
  rw [lg_entry_eq]
  generalize (lg_sl ([.ref p0, .int p1]) ++ List.replicate (3 - (lg_sl ([.ref p0, .int p1])).length) Slot.unset).toArray = ls at hl ⊢
  have hl : lv_has ls 3 [(0, .ref p0), (1, .int p1)] := hl
  refine nameQ (fun Q hQ => ?_)
  have hw : WD D cy GG A s wr_X10_come wa_X10_come Ps w0 Ps w0 s.heap [] := ⟨hT, hP, hD, va_S.rf, FR.rf, hT.1, [], (List.append_nil _).symm⟩
  refine lv_bipush (v := 24) hx hb dX10_come_0 (by decide) ?_
  refine lv_istore_n (lv' := [(2, .int 24), (0, .ref p0), (1, .int p1)]) hx hb dX10_come_2 rfl hl (by decide) rfl (fun ls hl => ?_)
  refine lv_iload_n hx hb dX10_come_3 rfl (lv_at hl 0 rfl) ?_
  refine lv_if_lt (tgt := 39) hx hb dX10_come_4 (by decide) (fun c9 => absurd c9 (by decide)) (fun _ => ?_)
  refine lv_aload_n hx hb dX10_come_7 rfl (lv_at hl 1 rfl) ?_
  refine tg_get (ci := 10) (ts := ty_MODEL) (C := RX10) (T := TX10) (N := 49) hx hb hts inX10 hown hK hw h_p0 rfl rfl 1 (by decide) (hts _ tw_1138) (fun _ h9 => h9) (ft := vR 40) rfl dX10_come_8 (fun u_1 hv_u_1 m_u_1 => ?_)
  obtain ⟨vu_1, rfl, h_vu_1⟩ := hv_u_1
  refine lv_aload_n hx hb dX10_come_11 rfl (lv_at hl 1 rfl) ?_
  refine tg_mem (ci := 10) (C := RX10) (T := TX10) (N := 49) hx hb hts inX10 hown hK hw 2 m_f0_2 rfl (by decide) (hts _ tw_1139) (fun _ h9 => h9) dX10_come_12 ?_
  refine lv_iload_n hx hb dX10_come_15 rfl (lv_at hl 2 rfl) ?_
  refine lv_iload_n hx hb dX10_come_16 rfl (lv_at hl 0 rfl) ?_
  obtain ⟨v_2, e_v_2⟩ : ∃ q9 : Int32, (Int32.toUInt32 p1 >>> (Int32.toUInt32 24 &&& Int32.toUInt32 31)).toInt32 = q9 := ⟨_, rfl⟩
  refine lv_iushr (v := v_2) hx hb dX10_come_17 e_v_2 ?_
  have r_v_2 := ri_any v_2
  refine lv_sipush (v := 255) hx hb dX10_come_18 (by decide) ?_
  refine lv_iand hx hb dX10_come_21 (lv_topi (fun v_3 e_v_3 => ?_))
  have r_v_3 : RI v_3 0 255 := by rw [e_v_3]; exact ri_and (d := 255) (rl_255.to (by decide)) (by decide)
  refine tg_iast hx hb hK hw h_vu_1 rfl 0 920 r_f0_2 (by decide) r_v_3 (by exact fun _ _ _ => by decide) (fun _ _ _ _ _ => trivial) (by decide) dX10_come_22 (fun ws H locs hw hF9 hU9 => ?_)
  have m_f0_2 := FLD.over hF9 m_f0_2 (by decide)
  refine lv_aload_n hx hb dX10_come_23 rfl (lv_at hl 1 rfl) ?_
  refine lv_dup hx hb dX10_come_24 rfl ?_
  refine tg_mem (ci := 10) (C := RX10) (T := TX10) (N := 49) hx hb hts inX10 hown hK hw 2 m_f0_2 rfl (by decide) (hts _ tw_1139) (fun _ h9 => h9) dX10_come_25 ?_
  refine lv_iconst (v := 1) hx hb dX10_come_28 (by decide) ?_
  refine lv_iadd hx hb dX10_come_29 (lv_topi (fun v_4 e_v_4 => ?_))
  obtain ⟨t_v_4, r_v_4⟩ := tq_add (lo := 1) (hi := 921) r_f0_2 rl_1 (by decide +kernel) e_v_4
  have t_v_4 : v_4.toInt = f0_2.toInt + 1 := t_v_4
  refine tg_put (ci := 10) (ts := ty_MODEL) (v := .int v_4) (ty := .int) (C := RX10) (T := TX10) (N := 49) hx hb hts inX10 tyX10 tyX10_ok nmX10 hown hK hw h_p0 rfl rfl 2 (by decide) (hts _ tw_1139) (fun _ h9 => h9) rfl (by decide +kernel) rfl rfl (ft := vI 0 940) rfl ⟨_, rfl, (r_v_4.to (by decide))⟩ (by decide) dX10_come_30 (fun ws H locs hw n_k_5 hF9 => ?_)
  refine lv_iinc (v := 16) (lv' := [(2, .int 16), (0, .ref p0), (1, .int p1)]) hx hb dX10_come_33 hl (k := 0) rfl (by decide) (by decide) rfl (fun ls hl => ?_)
  refine lv_goto (tgt := 3) hx hb dX10_come_36 (by decide) ?_
  refine lv_iload_n hx hb dX10_come_3 rfl (lv_at hl 0 rfl) ?_
  refine lv_if_lt (tgt := 39) hx hb dX10_come_4 (by decide) (fun c9 => absurd c9 (by decide)) (fun _ => ?_)
  refine lv_aload_n hx hb dX10_come_7 rfl (lv_at hl 1 rfl) ?_
  refine tg_get (ci := 10) (ts := ty_MODEL) (C := RX10) (T := TX10) (N := 49) hx hb hts inX10 hown hK hw h_p0 rfl rfl 1 (by decide) (hts _ tw_1138) (fun _ h9 => h9) (ft := vR 40) rfl dX10_come_8 (fun u_6 hv_u_6 m_u_6 => ?_)
  obtain ⟨vu_6, rfl, h_vu_6⟩ := hv_u_6
  refine lv_aload_n hx hb dX10_come_11 rfl (lv_at hl 1 rfl) ?_
  refine tg_mem (ci := 10) (C := RX10) (T := TX10) (N := 49) hx hb hts inX10 hown hK hw 2 n_k_5 rfl (by decide) (hts _ tw_1139) (fun _ h9 => h9) dX10_come_12 ?_
  refine lv_iload_n hx hb dX10_come_15 rfl (lv_at hl 2 rfl) ?_
  refine lv_iload_n hx hb dX10_come_16 rfl (lv_at hl 0 rfl) ?_
  obtain ⟨v_7, e_v_7⟩ : ∃ q9 : Int32, (Int32.toUInt32 p1 >>> (Int32.toUInt32 16 &&& Int32.toUInt32 31)).toInt32 = q9 := ⟨_, rfl⟩
  refine lv_iushr (v := v_7) hx hb dX10_come_17 e_v_7 ?_
  have r_v_7 := ri_any v_7
  refine lv_sipush (v := 255) hx hb dX10_come_18 (by decide) ?_
  refine lv_iand hx hb dX10_come_21 (lv_topi (fun v_8 e_v_8 => ?_))
  have r_v_8 : RI v_8 0 255 := by rw [e_v_8]; exact ri_and (d := 255) (rl_255.to (by decide)) (by decide)
  refine tg_iast hx hb hK hw h_vu_6 rfl 1 921 r_v_4 (by decide) r_v_8 (by exact fun _ _ _ => by decide) (fun _ _ _ _ _ => trivial) (by decide) dX10_come_22 (fun ws H locs hw hF9 hU9 => ?_)
  have n_k_5 := FLD.over hF9 n_k_5 (by decide)
  refine lv_aload_n hx hb dX10_come_23 rfl (lv_at hl 1 rfl) ?_
  refine lv_dup hx hb dX10_come_24 rfl ?_
  refine tg_mem (ci := 10) (C := RX10) (T := TX10) (N := 49) hx hb hts inX10 hown hK hw 2 n_k_5 rfl (by decide) (hts _ tw_1139) (fun _ h9 => h9) dX10_come_25 ?_
  refine lv_iconst (v := 1) hx hb dX10_come_28 (by decide) ?_
  refine lv_iadd hx hb dX10_come_29 (lv_topi (fun v_9 e_v_9 => ?_))
  obtain ⟨t_v_9, r_v_9⟩ := tq_add (lo := 2) (hi := 922) r_v_4 rl_1 (by decide +kernel) e_v_9
  have t_v_9 : v_9.toInt = v_4.toInt + 1 := t_v_9
  refine tg_put (ci := 10) (ts := ty_MODEL) (v := .int v_9) (ty := .int) (C := RX10) (T := TX10) (N := 49) hx hb hts inX10 tyX10 tyX10_ok nmX10 hown hK hw h_p0 rfl rfl 2 (by decide) (hts _ tw_1139) (fun _ h9 => h9) rfl (by decide +kernel) rfl rfl (ft := vI 0 940) rfl ⟨_, rfl, (r_v_9.to (by decide))⟩ (by decide) dX10_come_30 (fun ws H locs hw n_k_10 hF9 => ?_)
  refine lv_iinc (v := 8) (lv' := [(2, .int 8), (0, .ref p0), (1, .int p1)]) hx hb dX10_come_33 hl (k := 0) rfl (by decide) (by decide) rfl (fun ls hl => ?_)
  refine lv_goto (tgt := 3) hx hb dX10_come_36 (by decide) ?_
  refine lv_iload_n hx hb dX10_come_3 rfl (lv_at hl 0 rfl) ?_
  refine lv_if_lt (tgt := 39) hx hb dX10_come_4 (by decide) (fun c9 => absurd c9 (by decide)) (fun _ => ?_)
  refine lv_aload_n hx hb dX10_come_7 rfl (lv_at hl 1 rfl) ?_
  refine tg_get (ci := 10) (ts := ty_MODEL) (C := RX10) (T := TX10) (N := 49) hx hb hts inX10 hown hK hw h_p0 rfl rfl 1 (by decide) (hts _ tw_1138) (fun _ h9 => h9) (ft := vR 40) rfl dX10_come_8 (fun u_11 hv_u_11 m_u_11 => ?_)
  obtain ⟨vu_11, rfl, h_vu_11⟩ := hv_u_11
  refine lv_aload_n hx hb dX10_come_11 rfl (lv_at hl 1 rfl) ?_
  refine tg_mem (ci := 10) (C := RX10) (T := TX10) (N := 49) hx hb hts inX10 hown hK hw 2 n_k_10 rfl (by decide) (hts _ tw_1139) (fun _ h9 => h9) dX10_come_12 ?_
  refine lv_iload_n hx hb dX10_come_15 rfl (lv_at hl 2 rfl) ?_
  refine lv_iload_n hx hb dX10_come_16 rfl (lv_at hl 0 rfl) ?_
  obtain ⟨v_12, e_v_12⟩ : ∃ q9 : Int32, (Int32.toUInt32 p1 >>> (Int32.toUInt32 8 &&& Int32.toUInt32 31)).toInt32 = q9 := ⟨_, rfl⟩
  refine lv_iushr (v := v_12) hx hb dX10_come_17 e_v_12 ?_
  have r_v_12 : RI v_12 0 16777215 := by rw [← e_v_12]; exact ri_ushr8 _
  refine lv_sipush (v := 255) hx hb dX10_come_18 (by decide) ?_
  refine lv_iand hx hb dX10_come_21 (lv_topi (fun v_13 e_v_13 => ?_))
  have r_v_13 : RI v_13 0 255 := by rw [e_v_13]; exact ri_and (d := 255) (rl_255.to (by decide)) (by decide)
  refine tg_iast hx hb hK hw h_vu_11 rfl 2 922 r_v_9 (by decide) r_v_13 (by exact fun _ _ _ => by decide) (fun _ _ _ _ _ => trivial) (by decide) dX10_come_22 (fun ws H locs hw hF9 hU9 => ?_)
  have n_k_10 := FLD.over hF9 n_k_10 (by decide)
  refine lv_aload_n hx hb dX10_come_23 rfl (lv_at hl 1 rfl) ?_
  refine lv_dup hx hb dX10_come_24 rfl ?_
  refine tg_mem (ci := 10) (C := RX10) (T := TX10) (N := 49) hx hb hts inX10 hown hK hw 2 n_k_10 rfl (by decide) (hts _ tw_1139) (fun _ h9 => h9) dX10_come_25 ?_
  refine lv_iconst (v := 1) hx hb dX10_come_28 (by decide) ?_
  refine lv_iadd hx hb dX10_come_29 (lv_topi (fun v_14 e_v_14 => ?_))
  obtain ⟨t_v_14, r_v_14⟩ := tq_add (lo := 3) (hi := 923) r_v_9 rl_1 (by decide +kernel) e_v_14
  have t_v_14 : v_14.toInt = v_9.toInt + 1 := t_v_14
  refine tg_put (ci := 10) (ts := ty_MODEL) (v := .int v_14) (ty := .int) (C := RX10) (T := TX10) (N := 49) hx hb hts inX10 tyX10 tyX10_ok nmX10 hown hK hw h_p0 rfl rfl 2 (by decide) (hts _ tw_1139) (fun _ h9 => h9) rfl (by decide +kernel) rfl rfl (ft := vI 0 940) rfl ⟨_, rfl, (r_v_14.to (by decide))⟩ (by decide) dX10_come_30 (fun ws H locs hw n_k_15 hF9 => ?_)
  refine lv_iinc (v := 0) (lv' := [(2, .int 0), (0, .ref p0), (1, .int p1)]) hx hb dX10_come_33 hl (k := 0) rfl (by decide) (by decide) rfl (fun ls hl => ?_)
  refine lv_goto (tgt := 3) hx hb dX10_come_36 (by decide) ?_
  refine lv_iload_n hx hb dX10_come_3 rfl (lv_at hl 0 rfl) ?_
  refine lv_if_lt (tgt := 39) hx hb dX10_come_4 (by decide) (fun c9 => absurd c9 (by decide)) (fun _ => ?_)
  refine lv_aload_n hx hb dX10_come_7 rfl (lv_at hl 1 rfl) ?_
  refine tg_get (ci := 10) (ts := ty_MODEL) (C := RX10) (T := TX10) (N := 49) hx hb hts inX10 hown hK hw h_p0 rfl rfl 1 (by decide) (hts _ tw_1138) (fun _ h9 => h9) (ft := vR 40) rfl dX10_come_8 (fun u_16 hv_u_16 m_u_16 => ?_)
  obtain ⟨vu_16, rfl, h_vu_16⟩ := hv_u_16
  refine lv_aload_n hx hb dX10_come_11 rfl (lv_at hl 1 rfl) ?_
  refine tg_mem (ci := 10) (C := RX10) (T := TX10) (N := 49) hx hb hts inX10 hown hK hw 2 n_k_15 rfl (by decide) (hts _ tw_1139) (fun _ h9 => h9) dX10_come_12 ?_
  refine lv_iload_n hx hb dX10_come_15 rfl (lv_at hl 2 rfl) ?_
  refine lv_iload_n hx hb dX10_come_16 rfl (lv_at hl 0 rfl) ?_
  obtain ⟨v_17, e_v_17⟩ : ∃ q9 : Int32, (Int32.toUInt32 p1 >>> (Int32.toUInt32 0 &&& Int32.toUInt32 31)).toInt32 = q9 := ⟨_, rfl⟩
  refine lv_iushr (v := v_17) hx hb dX10_come_17 e_v_17 ?_
  have r_v_17 := ri_any v_17
  refine lv_sipush (v := 255) hx hb dX10_come_18 (by decide) ?_
  refine lv_iand hx hb dX10_come_21 (lv_topi (fun v_18 e_v_18 => ?_))
  have r_v_18 : RI v_18 0 255 := by rw [e_v_18]; exact ri_and (d := 255) (rl_255.to (by decide)) (by decide)
  refine tg_iast hx hb hK hw h_vu_16 rfl 3 923 r_v_14 (by decide) r_v_18 (by exact fun _ _ _ => by decide) (fun _ _ _ _ _ => trivial) (by decide) dX10_come_22 (fun ws H locs hw hF9 hU9 => ?_)
  have n_k_15 := FLD.over hF9 n_k_15 (by decide)
  refine lv_aload_n hx hb dX10_come_23 rfl (lv_at hl 1 rfl) ?_
  refine lv_dup hx hb dX10_come_24 rfl ?_
  refine tg_mem (ci := 10) (C := RX10) (T := TX10) (N := 49) hx hb hts inX10 hown hK hw 2 n_k_15 rfl (by decide) (hts _ tw_1139) (fun _ h9 => h9) dX10_come_25 ?_
  refine lv_iconst (v := 1) hx hb dX10_come_28 (by decide) ?_
  refine lv_iadd hx hb dX10_come_29 (lv_topi (fun v_19 e_v_19 => ?_))
  obtain ⟨t_v_19, r_v_19⟩ := tq_add (lo := 4) (hi := 924) r_v_14 rl_1 (by decide +kernel) e_v_19
  have t_v_19 : v_19.toInt = v_14.toInt + 1 := t_v_19
  refine tg_put (ci := 10) (ts := ty_MODEL) (v := .int v_19) (ty := .int) (C := RX10) (T := TX10) (N := 49) hx hb hts inX10 tyX10 tyX10_ok nmX10 hown hK hw h_p0 rfl rfl 2 (by decide) (hts _ tw_1139) (fun _ h9 => h9) rfl (by decide +kernel) rfl rfl (ft := vI 0 940) rfl ⟨_, rfl, (r_v_19.to (by decide))⟩ (by decide) dX10_come_30 (fun ws H locs hw n_k_20 hF9 => ?_)
  refine lv_iinc (v := (-8)) (lv' := [(2, .int (-8)), (0, .ref p0), (1, .int p1)]) hx hb dX10_come_33 hl (k := 0) rfl (by decide) (by decide) rfl (fun ls hl => ?_)
  refine lv_goto (tgt := 3) hx hb dX10_come_36 (by decide) ?_
  refine lv_iload_n hx hb dX10_come_3 rfl (lv_at hl 0 rfl) ?_
  refine lv_if_lt (tgt := 39) hx hb dX10_come_4 (by decide) (fun _ => ?_) (fun c9 => absurd (by decide) c9)
  subst hQ
  exact W.vret hx hb hr (fun t ht hW => ⟨⟨ws, rfl, ⟨⟨⟨_, n_k_20, r_v_19⟩, trivial⟩, hw.1, hw.2.2.2.2.1⟩, by rw [ht]; exact hw.2.1, va_K.moved hW.alike hK, hw.2.2.1⟩, hw.2.2.2.1.F ht⟩) hw.2.2.2.1.2.2 dX10_come_39
abbrev wr_X10_come__1 : List (Nat × Nat) := [(10, 2)]
abbrev wa_X10_come__1 : List Nat := [40]
set_option maxHeartbeats 4000000 in
set_option maxRecDepth 100000 in
theorem c_X10_come__1 (l : Launch) (D : va_G) (cy : Nat → ClassId) (z : Nat → Nat) (sz : Nat) (Ps : PSI) (w0 : va_W) (hT : HT cy GG Ps w0) (p0 : Nat) (p1 : Int32) (f0_2 : Int32) (h_p0 : (p0, 55) ∈ Ps) (r_p1 : RI p1 (-2147483648) 2147483647) (r_f0_2 : RI f0_2 4 924) (m_f0_2 : FLD w0 p0 10 2 (.int f0_2)) : Met l yX10_come (Cond.code yX10_come cX10_come 3 none :: gT) ({ frames := 0, cells := 0, slots := 0, locals := 200 } : Room) (va_Pc [.ref p0, .int p1] (PRE D cy z w0 sz)) (va_Qv (fun (u : va_W) => ((∃ v9 : Int32, FLD u p0 10 2 (.int v9) ∧ RI v9 8 928) ∧ True) ∧ HT cy GG Ps u ∧ FR wr_X10_come__1 wa_X10_come__1 Ps w0 u) (BB D cy (va_A w0 sz) (fun (u : va_W) => u)) (va_A w0 sz)) 0 0 (va_A w0 sz) := by
  refine Met.ofW (cc := cX10_come) (maxL := 3) (ret := none) (by decide) rfl ?_
  intro p e s m args below meth c s₁ B hml hv
  obtain ⟨rfl, hsz, hP, hK, hD0, hSD⟩ := hv
  have hx := B.exec
  have hb := B.bytes
  have hr := B.returns
  have hlocks := B.notSynchronized
  have hts : ∀ w ∈ gT, w.before _ s = true := fun w h => atoms_spec (ws := Cond.code yX10_come cX10_come 3 none :: gT) B.pre w (List.mem_cons_of_mem _ h)
  have hown : s.vm.findClass RX10 = some m.cls := findClass_of_methodNamed B.named
  subst hsz
  have hD := hD0.self (sz := s.heap.size)
  generalize hAe : va_A w0 s.heap.size = A at hD hSD ⊢
  have hA : ∀ q : Nat, s.heap.size ≤ q → A q := fun q h => by rw [← hAe]; exact Or.inr h
  have hl := lv_entry ([.ref p0, .int p1]) (n := 3) (Nat.le_of_ble_eq_true rfl)
  rw [lg_entry_eq]
  generalize (lg_sl ([.ref p0, .int p1]) ++ List.replicate (3 - (lg_sl ([.ref p0, .int p1])).length) Slot.unset).toArray = ls at hl ⊢
  have hl : lv_has ls 3 [(0, .ref p0), (1, .int p1)] := hl
  refine nameQ (fun Q hQ => ?_)
  have hw : WD D cy GG A s wr_X10_come__1 wa_X10_come__1 Ps w0 Ps w0 s.heap [] := ⟨hT, hP, hD, va_S.rf, FR.rf, hT.1, [], (List.append_nil _).symm⟩
  refine lv_bipush (v := 24) hx hb dX10_come_0 (by decide) ?_
  refine lv_istore_n (lv' := [(2, .int 24), (0, .ref p0), (1, .int p1)]) hx hb dX10_come_2 rfl hl (by decide) rfl (fun ls hl => ?_)
  refine lv_iload_n hx hb dX10_come_3 rfl (lv_at hl 0 rfl) ?_
  refine lv_if_lt (tgt := 39) hx hb dX10_come_4 (by decide) (fun c9 => absurd c9 (by decide)) (fun _ => ?_)
  refine lv_aload_n hx hb dX10_come_7 rfl (lv_at hl 1 rfl) ?_
  refine tg_get (ci := 10) (ts := ty_MODEL) (C := RX10) (T := TX10) (N := 49) hx hb hts inX10 hown hK hw h_p0 rfl rfl 1 (by decide) (hts _ tw_1138) (fun _ h9 => h9) (ft := vR 40) rfl dX10_come_8 (fun u_1 hv_u_1 m_u_1 => ?_)
  obtain ⟨vu_1, rfl, h_vu_1⟩ := hv_u_1
  refine lv_aload_n hx hb dX10_come_11 rfl (lv_at hl 1 rfl) ?_
  refine tg_mem (ci := 10) (C := RX10) (T := TX10) (N := 49) hx hb hts inX10 hown hK hw 2 m_f0_2 rfl (by decide) (hts _ tw_1139) (fun _ h9 => h9) dX10_come_12 ?_
  refine lv_iload_n hx hb dX10_come_15 rfl (lv_at hl 2 rfl) ?_
  refine lv_iload_n hx hb dX10_come_16 rfl (lv_at hl 0 rfl) ?_
  obtain ⟨v_2, e_v_2⟩ : ∃ q9 : Int32, (Int32.toUInt32 p1 >>> (Int32.toUInt32 24 &&& Int32.toUInt32 31)).toInt32 = q9 := ⟨_, rfl⟩
  refine lv_iushr (v := v_2) hx hb dX10_come_17 e_v_2 ?_
  have r_v_2 := ri_any v_2
  refine lv_sipush (v := 255) hx hb dX10_come_18 (by decide) ?_
  refine lv_iand hx hb dX10_come_21 (lv_topi (fun v_3 e_v_3 => ?_))
  have r_v_3 : RI v_3 0 255 := by rw [e_v_3]; exact ri_and (d := 255) (rl_255.to (by decide)) (by decide)
  refine tg_iast hx hb hK hw h_vu_1 rfl 4 924 r_f0_2 (by decide) r_v_3 (by exact fun _ _ _ => by decide) (fun _ _ _ _ _ => trivial) (by decide) dX10_come_22 (fun ws H locs hw hF9 hU9 => ?_)
  have m_f0_2 := FLD.over hF9 m_f0_2 (by decide)
  refine lv_aload_n hx hb dX10_come_23 rfl (lv_at hl 1 rfl) ?_
  refine lv_dup hx hb dX10_come_24 rfl ?_
  refine tg_mem (ci := 10) (C := RX10) (T := TX10) (N := 49) hx hb hts inX10 hown hK hw 2 m_f0_2 rfl (by decide) (hts _ tw_1139) (fun _ h9 => h9) dX10_come_25 ?_
  refine lv_iconst (v := 1) hx hb dX10_come_28 (by decide) ?_
  refine lv_iadd hx hb dX10_come_29 (lv_topi (fun v_4 e_v_4 => ?_))
  obtain ⟨t_v_4, r_v_4⟩ := tq_add (lo := 5) (hi := 925) r_f0_2 rl_1 (by decide +kernel) e_v_4
  have t_v_4 : v_4.toInt = f0_2.toInt + 1 := t_v_4
  refine tg_put (ci := 10) (ts := ty_MODEL) (v := .int v_4) (ty := .int) (C := RX10) (T := TX10) (N := 49) hx hb hts inX10 tyX10 tyX10_ok nmX10 hown hK hw h_p0 rfl rfl 2 (by decide) (hts _ tw_1139) (fun _ h9 => h9) rfl (by decide +kernel) rfl rfl (ft := vI 0 940) rfl ⟨_, rfl, (r_v_4.to (by decide))⟩ (by decide) dX10_come_30 (fun ws H locs hw n_k_5 hF9 => ?_)
  refine lv_iinc (v := 16) (lv' := [(2, .int 16), (0, .ref p0), (1, .int p1)]) hx hb dX10_come_33 hl (k := 0) rfl (by decide) (by decide) rfl (fun ls hl => ?_)
  refine lv_goto (tgt := 3) hx hb dX10_come_36 (by decide) ?_
  refine lv_iload_n hx hb dX10_come_3 rfl (lv_at hl 0 rfl) ?_
  refine lv_if_lt (tgt := 39) hx hb dX10_come_4 (by decide) (fun c9 => absurd c9 (by decide)) (fun _ => ?_)
  refine lv_aload_n hx hb dX10_come_7 rfl (lv_at hl 1 rfl) ?_
  refine tg_get (ci := 10) (ts := ty_MODEL) (C := RX10) (T := TX10) (N := 49) hx hb hts inX10 hown hK hw h_p0 rfl rfl 1 (by decide) (hts _ tw_1138) (fun _ h9 => h9) (ft := vR 40) rfl dX10_come_8 (fun u_6 hv_u_6 m_u_6 => ?_)
  obtain ⟨vu_6, rfl, h_vu_6⟩ := hv_u_6
  refine lv_aload_n hx hb dX10_come_11 rfl (lv_at hl 1 rfl) ?_
  refine tg_mem (ci := 10) (C := RX10) (T := TX10) (N := 49) hx hb hts inX10 hown hK hw 2 n_k_5 rfl (by decide) (hts _ tw_1139) (fun _ h9 => h9) dX10_come_12 ?_
  refine lv_iload_n hx hb dX10_come_15 rfl (lv_at hl 2 rfl) ?_
  refine lv_iload_n hx hb dX10_come_16 rfl (lv_at hl 0 rfl) ?_
  obtain ⟨v_7, e_v_7⟩ : ∃ q9 : Int32, (Int32.toUInt32 p1 >>> (Int32.toUInt32 16 &&& Int32.toUInt32 31)).toInt32 = q9 := ⟨_, rfl⟩
  refine lv_iushr (v := v_7) hx hb dX10_come_17 e_v_7 ?_
  have r_v_7 := ri_any v_7
  refine lv_sipush (v := 255) hx hb dX10_come_18 (by decide) ?_
  refine lv_iand hx hb dX10_come_21 (lv_topi (fun v_8 e_v_8 => ?_))
  have r_v_8 : RI v_8 0 255 := by rw [e_v_8]; exact ri_and (d := 255) (rl_255.to (by decide)) (by decide)
  refine tg_iast hx hb hK hw h_vu_6 rfl 5 925 r_v_4 (by decide) r_v_8 (by exact fun _ _ _ => by decide) (fun _ _ _ _ _ => trivial) (by decide) dX10_come_22 (fun ws H locs hw hF9 hU9 => ?_)
  have n_k_5 := FLD.over hF9 n_k_5 (by decide)
  refine lv_aload_n hx hb dX10_come_23 rfl (lv_at hl 1 rfl) ?_
  refine lv_dup hx hb dX10_come_24 rfl ?_
  refine tg_mem (ci := 10) (C := RX10) (T := TX10) (N := 49) hx hb hts inX10 hown hK hw 2 n_k_5 rfl (by decide) (hts _ tw_1139) (fun _ h9 => h9) dX10_come_25 ?_
  refine lv_iconst (v := 1) hx hb dX10_come_28 (by decide) ?_
  refine lv_iadd hx hb dX10_come_29 (lv_topi (fun v_9 e_v_9 => ?_))
  obtain ⟨t_v_9, r_v_9⟩ := tq_add (lo := 6) (hi := 926) r_v_4 rl_1 (by decide +kernel) e_v_9
  have t_v_9 : v_9.toInt = v_4.toInt + 1 := t_v_9
  refine tg_put (ci := 10) (ts := ty_MODEL) (v := .int v_9) (ty := .int) (C := RX10) (T := TX10) (N := 49) hx hb hts inX10 tyX10 tyX10_ok nmX10 hown hK hw h_p0 rfl rfl 2 (by decide) (hts _ tw_1139) (fun _ h9 => h9) rfl (by decide +kernel) rfl rfl (ft := vI 0 940) rfl ⟨_, rfl, (r_v_9.to (by decide))⟩ (by decide) dX10_come_30 (fun ws H locs hw n_k_10 hF9 => ?_)
  refine lv_iinc (v := 8) (lv' := [(2, .int 8), (0, .ref p0), (1, .int p1)]) hx hb dX10_come_33 hl (k := 0) rfl (by decide) (by decide) rfl (fun ls hl => ?_)
  refine lv_goto (tgt := 3) hx hb dX10_come_36 (by decide) ?_
  refine lv_iload_n hx hb dX10_come_3 rfl (lv_at hl 0 rfl) ?_
  refine lv_if_lt (tgt := 39) hx hb dX10_come_4 (by decide) (fun c9 => absurd c9 (by decide)) (fun _ => ?_)
  refine lv_aload_n hx hb dX10_come_7 rfl (lv_at hl 1 rfl) ?_
  refine tg_get (ci := 10) (ts := ty_MODEL) (C := RX10) (T := TX10) (N := 49) hx hb hts inX10 hown hK hw h_p0 rfl rfl 1 (by decide) (hts _ tw_1138) (fun _ h9 => h9) (ft := vR 40) rfl dX10_come_8 (fun u_11 hv_u_11 m_u_11 => ?_)
  obtain ⟨vu_11, rfl, h_vu_11⟩ := hv_u_11
  refine lv_aload_n hx hb dX10_come_11 rfl (lv_at hl 1 rfl) ?_
  refine tg_mem (ci := 10) (C := RX10) (T := TX10) (N := 49) hx hb hts inX10 hown hK hw 2 n_k_10 rfl (by decide) (hts _ tw_1139) (fun _ h9 => h9) dX10_come_12 ?_
  refine lv_iload_n hx hb dX10_come_15 rfl (lv_at hl 2 rfl) ?_
  refine lv_iload_n hx hb dX10_come_16 rfl (lv_at hl 0 rfl) ?_
  obtain ⟨v_12, e_v_12⟩ : ∃ q9 : Int32, (Int32.toUInt32 p1 >>> (Int32.toUInt32 8 &&& Int32.toUInt32 31)).toInt32 = q9 := ⟨_, rfl⟩
  refine lv_iushr (v := v_12) hx hb dX10_come_17 e_v_12 ?_
  have r_v_12 : RI v_12 0 16777215 := by rw [← e_v_12]; exact ri_ushr8 _
  refine lv_sipush (v := 255) hx hb dX10_come_18 (by decide) ?_
  refine lv_iand hx hb dX10_come_21 (lv_topi (fun v_13 e_v_13 => ?_))
  have r_v_13 : RI v_13 0 255 := by rw [e_v_13]; exact ri_and (d := 255) (rl_255.to (by decide)) (by decide)
  refine tg_iast hx hb hK hw h_vu_11 rfl 6 926 r_v_9 (by decide) r_v_13 (by exact fun _ _ _ => by decide) (fun _ _ _ _ _ => trivial) (by decide) dX10_come_22 (fun ws H locs hw hF9 hU9 => ?_)
  have n_k_10 := FLD.over hF9 n_k_10 (by decide)
  refine lv_aload_n hx hb dX10_come_23 rfl (lv_at hl 1 rfl) ?_
  refine lv_dup hx hb dX10_come_24 rfl ?_
  refine tg_mem (ci := 10) (C := RX10) (T := TX10) (N := 49) hx hb hts inX10 hown hK hw 2 n_k_10 rfl (by decide) (hts _ tw_1139) (fun _ h9 => h9) dX10_come_25 ?_
  refine lv_iconst (v := 1) hx hb dX10_come_28 (by decide) ?_
  refine lv_iadd hx hb dX10_come_29 (lv_topi (fun v_14 e_v_14 => ?_))
  obtain ⟨t_v_14, r_v_14⟩ := tq_add (lo := 7) (hi := 927) r_v_9 rl_1 (by decide +kernel) e_v_14
  have t_v_14 : v_14.toInt = v_9.toInt + 1 := t_v_14
  refine tg_put (ci := 10) (ts := ty_MODEL) (v := .int v_14) (ty := .int) (C := RX10) (T := TX10) (N := 49) hx hb hts inX10 tyX10 tyX10_ok nmX10 hown hK hw h_p0 rfl rfl 2 (by decide) (hts _ tw_1139) (fun _ h9 => h9) rfl (by decide +kernel) rfl rfl (ft := vI 0 940) rfl ⟨_, rfl, (r_v_14.to (by decide))⟩ (by decide) dX10_come_30 (fun ws H locs hw n_k_15 hF9 => ?_)
  refine lv_iinc (v := 0) (lv' := [(2, .int 0), (0, .ref p0), (1, .int p1)]) hx hb dX10_come_33 hl (k := 0) rfl (by decide) (by decide) rfl (fun ls hl => ?_)
  refine lv_goto (tgt := 3) hx hb dX10_come_36 (by decide) ?_
  refine lv_iload_n hx hb dX10_come_3 rfl (lv_at hl 0 rfl) ?_
  refine lv_if_lt (tgt := 39) hx hb dX10_come_4 (by decide) (fun c9 => absurd c9 (by decide)) (fun _ => ?_)
  refine lv_aload_n hx hb dX10_come_7 rfl (lv_at hl 1 rfl) ?_
  refine tg_get (ci := 10) (ts := ty_MODEL) (C := RX10) (T := TX10) (N := 49) hx hb hts inX10 hown hK hw h_p0 rfl rfl 1 (by decide) (hts _ tw_1138) (fun _ h9 => h9) (ft := vR 40) rfl dX10_come_8 (fun u_16 hv_u_16 m_u_16 => ?_)
  obtain ⟨vu_16, rfl, h_vu_16⟩ := hv_u_16
  refine lv_aload_n hx hb dX10_come_11 rfl (lv_at hl 1 rfl) ?_
  refine tg_mem (ci := 10) (C := RX10) (T := TX10) (N := 49) hx hb hts inX10 hown hK hw 2 n_k_15 rfl (by decide) (hts _ tw_1139) (fun _ h9 => h9) dX10_come_12 ?_
  refine lv_iload_n hx hb dX10_come_15 rfl (lv_at hl 2 rfl) ?_
  refine lv_iload_n hx hb dX10_come_16 rfl (lv_at hl 0 rfl) ?_
  obtain ⟨v_17, e_v_17⟩ : ∃ q9 : Int32, (Int32.toUInt32 p1 >>> (Int32.toUInt32 0 &&& Int32.toUInt32 31)).toInt32 = q9 := ⟨_, rfl⟩
  refine lv_iushr (v := v_17) hx hb dX10_come_17 e_v_17 ?_
  have r_v_17 := ri_any v_17
  refine lv_sipush (v := 255) hx hb dX10_come_18 (by decide) ?_
  refine lv_iand hx hb dX10_come_21 (lv_topi (fun v_18 e_v_18 => ?_))
  have r_v_18 : RI v_18 0 255 := by rw [e_v_18]; exact ri_and (d := 255) (rl_255.to (by decide)) (by decide)
  refine tg_iast hx hb hK hw h_vu_16 rfl 7 927 r_v_14 (by decide) r_v_18 (by exact fun _ _ _ => by decide) (fun _ _ _ _ _ => trivial) (by decide) dX10_come_22 (fun ws H locs hw hF9 hU9 => ?_)
  have n_k_15 := FLD.over hF9 n_k_15 (by decide)
  refine lv_aload_n hx hb dX10_come_23 rfl (lv_at hl 1 rfl) ?_
  refine lv_dup hx hb dX10_come_24 rfl ?_
  refine tg_mem (ci := 10) (C := RX10) (T := TX10) (N := 49) hx hb hts inX10 hown hK hw 2 n_k_15 rfl (by decide) (hts _ tw_1139) (fun _ h9 => h9) dX10_come_25 ?_
  refine lv_iconst (v := 1) hx hb dX10_come_28 (by decide) ?_
  refine lv_iadd hx hb dX10_come_29 (lv_topi (fun v_19 e_v_19 => ?_))
  obtain ⟨t_v_19, r_v_19⟩ := tq_add (lo := 8) (hi := 928) r_v_14 rl_1 (by decide +kernel) e_v_19
  have t_v_19 : v_19.toInt = v_14.toInt + 1 := t_v_19
  refine tg_put (ci := 10) (ts := ty_MODEL) (v := .int v_19) (ty := .int) (C := RX10) (T := TX10) (N := 49) hx hb hts inX10 tyX10 tyX10_ok nmX10 hown hK hw h_p0 rfl rfl 2 (by decide) (hts _ tw_1139) (fun _ h9 => h9) rfl (by decide +kernel) rfl rfl (ft := vI 0 940) rfl ⟨_, rfl, (r_v_19.to (by decide))⟩ (by decide) dX10_come_30 (fun ws H locs hw n_k_20 hF9 => ?_)
  refine lv_iinc (v := (-8)) (lv' := [(2, .int (-8)), (0, .ref p0), (1, .int p1)]) hx hb dX10_come_33 hl (k := 0) rfl (by decide) (by decide) rfl (fun ls hl => ?_)
  refine lv_goto (tgt := 3) hx hb dX10_come_36 (by decide) ?_
  refine lv_iload_n hx hb dX10_come_3 rfl (lv_at hl 0 rfl) ?_
  refine lv_if_lt (tgt := 39) hx hb dX10_come_4 (by decide) (fun _ => ?_) (fun c9 => absurd (by decide) c9)
  subst hQ
  exact W.vret hx hb hr (fun t ht hW => ⟨⟨ws, rfl, ⟨⟨⟨_, n_k_20, r_v_19⟩, trivial⟩, hw.1, hw.2.2.2.2.1⟩, by rw [ht]; exact hw.2.1, va_K.moved hW.alike hK, hw.2.2.1⟩, hw.2.2.2.1.F ht⟩) hw.2.2.2.1.2.2 dX10_come_39
abbrev wr_X10_come__2 : List (Nat × Nat) := [(10, 2)]
abbrev wa_X10_come__2 : List Nat := [40]
set_option maxHeartbeats 4000000 in
set_option maxRecDepth 100000 in
theorem c_X10_come__2 (l : Launch) (D : va_G) (cy : Nat → ClassId) (z : Nat → Nat) (sz : Nat) (Ps : PSI) (w0 : va_W) (hT : HT cy GG Ps w0) (p0 : Nat) (p1 : Int32) (f0_2 : Int32) (h_p0 : (p0, 55) ∈ Ps) (r_p1 : RI p1 (-2147483648) 2147483647) (r_f0_2 : RI f0_2 8 928) (m_f0_2 : FLD w0 p0 10 2 (.int f0_2)) : Met l yX10_come (Cond.code yX10_come cX10_come 3 none :: gT) ({ frames := 0, cells := 0, slots := 0, locals := 200 } : Room) (va_Pc [.ref p0, .int p1] (PRE D cy z w0 sz)) (va_Qv (fun (u : va_W) => ((∃ v9 : Int32, FLD u p0 10 2 (.int v9) ∧ RI v9 12 932) ∧ True) ∧ HT cy GG Ps u ∧ FR wr_X10_come__2 wa_X10_come__2 Ps w0 u) (BB D cy (va_A w0 sz) (fun (u : va_W) => u)) (va_A w0 sz)) 0 0 (va_A w0 sz) := by
  refine Met.ofW (cc := cX10_come) (maxL := 3) (ret := none) (by decide) rfl ?_
  intro p e s m args below meth c s₁ B hml hv
  obtain ⟨rfl, hsz, hP, hK, hD0, hSD⟩ := hv
  have hx := B.exec
  have hb := B.bytes
  have hr := B.returns
  have hlocks := B.notSynchronized
  have hts : ∀ w ∈ gT, w.before _ s = true := fun w h => atoms_spec (ws := Cond.code yX10_come cX10_come 3 none :: gT) B.pre w (List.mem_cons_of_mem _ h)
  have hown : s.vm.findClass RX10 = some m.cls := findClass_of_methodNamed B.named
  subst hsz
  have hD := hD0.self (sz := s.heap.size)
  generalize hAe : va_A w0 s.heap.size = A at hD hSD ⊢
  have hA : ∀ q : Nat, s.heap.size ≤ q → A q := fun q h => by rw [← hAe]; exact Or.inr h
  have hl := lv_entry ([.ref p0, .int p1]) (n := 3) (Nat.le_of_ble_eq_true rfl)
  rw [lg_entry_eq]
  generalize (lg_sl ([.ref p0, .int p1]) ++ List.replicate (3 - (lg_sl ([.ref p0, .int p1])).length) Slot.unset).toArray = ls at hl ⊢
  have hl : lv_has ls 3 [(0, .ref p0), (1, .int p1)] := hl
  refine nameQ (fun Q hQ => ?_)
  have hw : WD D cy GG A s wr_X10_come__2 wa_X10_come__2 Ps w0 Ps w0 s.heap [] := ⟨hT, hP, hD, va_S.rf, FR.rf, hT.1, [], (List.append_nil _).symm⟩
  refine lv_bipush (v := 24) hx hb dX10_come_0 (by decide) ?_
  refine lv_istore_n (lv' := [(2, .int 24), (0, .ref p0), (1, .int p1)]) hx hb dX10_come_2 rfl hl (by decide) rfl (fun ls hl => ?_)
  refine lv_iload_n hx hb dX10_come_3 rfl (lv_at hl 0 rfl) ?_
  refine lv_if_lt (tgt := 39) hx hb dX10_come_4 (by decide) (fun c9 => absurd c9 (by decide)) (fun _ => ?_)
  refine lv_aload_n hx hb dX10_come_7 rfl (lv_at hl 1 rfl) ?_
  refine tg_get (ci := 10) (ts := ty_MODEL) (C := RX10) (T := TX10) (N := 49) hx hb hts inX10 hown hK hw h_p0 rfl rfl 1 (by decide) (hts _ tw_1138) (fun _ h9 => h9) (ft := vR 40) rfl dX10_come_8 (fun u_1 hv_u_1 m_u_1 => ?_)
  obtain ⟨vu_1, rfl, h_vu_1⟩ := hv_u_1
  refine lv_aload_n hx hb dX10_come_11 rfl (lv_at hl 1 rfl) ?_
  refine tg_mem (ci := 10) (C := RX10) (T := TX10) (N := 49) hx hb hts inX10 hown hK hw 2 m_f0_2 rfl (by decide) (hts _ tw_1139) (fun _ h9 => h9) dX10_come_12 ?_
  refine lv_iload_n hx hb dX10_come_15 rfl (lv_at hl 2 rfl) ?_
  refine lv_iload_n hx hb dX10_come_16 rfl (lv_at hl 0 rfl) ?_
  obtain ⟨v_2, e_v_2⟩ : ∃ q9 : Int32, (Int32.toUInt32 p1 >>> (Int32.toUInt32 24 &&& Int32.toUInt32 31)).toInt32 = q9 := ⟨_, rfl⟩
  refine lv_iushr (v := v_2) hx hb dX10_come_17 e_v_2 ?_
  have r_v_2 := ri_any v_2
  refine lv_sipush (v := 255) hx hb dX10_come_18 (by decide) ?_
  refine lv_iand hx hb dX10_come_21 (lv_topi (fun v_3 e_v_3 => ?_))
  have r_v_3 : RI v_3 0 255 := by rw [e_v_3]; exact ri_and (d := 255) (rl_255.to (by decide)) (by decide)
  refine tg_iast hx hb hK hw h_vu_1 rfl 8 928 r_f0_2 (by decide) r_v_3 (by exact fun _ _ _ => by decide) (fun _ _ _ _ _ => trivial) (by decide) dX10_come_22 (fun ws H locs hw hF9 hU9 => ?_)
  have m_f0_2 := FLD.over hF9 m_f0_2 (by decide)
  refine lv_aload_n hx hb dX10_come_23 rfl (lv_at hl 1 rfl) ?_
  refine lv_dup hx hb dX10_come_24 rfl ?_
  refine tg_mem (ci := 10) (C := RX10) (T := TX10) (N := 49) hx hb hts inX10 hown hK hw 2 m_f0_2 rfl (by decide) (hts _ tw_1139) (fun _ h9 => h9) dX10_come_25 ?_
  refine lv_iconst (v := 1) hx hb dX10_come_28 (by decide) ?_
  refine lv_iadd hx hb dX10_come_29 (lv_topi (fun v_4 e_v_4 => ?_))
  obtain ⟨t_v_4, r_v_4⟩ := tq_add (lo := 9) (hi := 929) r_f0_2 rl_1 (by decide +kernel) e_v_4
  have t_v_4 : v_4.toInt = f0_2.toInt + 1 := t_v_4
  refine tg_put (ci := 10) (ts := ty_MODEL) (v := .int v_4) (ty := .int) (C := RX10) (T := TX10) (N := 49) hx hb hts inX10 tyX10 tyX10_ok nmX10 hown hK hw h_p0 rfl rfl 2 (by decide) (hts _ tw_1139) (fun _ h9 => h9) rfl (by decide +kernel) rfl rfl (ft := vI 0 940) rfl ⟨_, rfl, (r_v_4.to (by decide))⟩ (by decide) dX10_come_30 (fun ws H locs hw n_k_5 hF9 => ?_)
  refine lv_iinc (v := 16) (lv' := [(2, .int 16), (0, .ref p0), (1, .int p1)]) hx hb dX10_come_33 hl (k := 0) rfl (by decide) (by decide) rfl (fun ls hl => ?_)
  refine lv_goto (tgt := 3) hx hb dX10_come_36 (by decide) ?_
  refine lv_iload_n hx hb dX10_come_3 rfl (lv_at hl 0 rfl) ?_
  refine lv_if_lt (tgt := 39) hx hb dX10_come_4 (by decide) (fun c9 => absurd c9 (by decide)) (fun _ => ?_)
  refine lv_aload_n hx hb dX10_come_7 rfl (lv_at hl 1 rfl) ?_
  refine tg_get (ci := 10) (ts := ty_MODEL) (C := RX10) (T := TX10) (N := 49) hx hb hts inX10 hown hK hw h_p0 rfl rfl 1 (by decide) (hts _ tw_1138) (fun _ h9 => h9) (ft := vR 40) rfl dX10_come_8 (fun u_6 hv_u_6 m_u_6 => ?_)
  obtain ⟨vu_6, rfl, h_vu_6⟩ := hv_u_6
  refine lv_aload_n hx hb dX10_come_11 rfl (lv_at hl 1 rfl) ?_
  refine tg_mem (ci := 10) (C := RX10) (T := TX10) (N := 49) hx hb hts inX10 hown hK hw 2 n_k_5 rfl (by decide) (hts _ tw_1139) (fun _ h9 => h9) dX10_come_12 ?_
  refine lv_iload_n hx hb dX10_come_15 rfl (lv_at hl 2 rfl) ?_
  refine lv_iload_n hx hb dX10_come_16 rfl (lv_at hl 0 rfl) ?_
  obtain ⟨v_7, e_v_7⟩ : ∃ q9 : Int32, (Int32.toUInt32 p1 >>> (Int32.toUInt32 16 &&& Int32.toUInt32 31)).toInt32 = q9 := ⟨_, rfl⟩
  refine lv_iushr (v := v_7) hx hb dX10_come_17 e_v_7 ?_
  have r_v_7 := ri_any v_7
  refine lv_sipush (v := 255) hx hb dX10_come_18 (by decide) ?_
  refine lv_iand hx hb dX10_come_21 (lv_topi (fun v_8 e_v_8 => ?_))
  have r_v_8 : RI v_8 0 255 := by rw [e_v_8]; exact ri_and (d := 255) (rl_255.to (by decide)) (by decide)
  refine tg_iast hx hb hK hw h_vu_6 rfl 9 929 r_v_4 (by decide) r_v_8 (by exact fun _ _ _ => by decide) (fun _ _ _ _ _ => trivial) (by decide) dX10_come_22 (fun ws H locs hw hF9 hU9 => ?_)
  have n_k_5 := FLD.over hF9 n_k_5 (by decide)
  refine lv_aload_n hx hb dX10_come_23 rfl (lv_at hl 1 rfl) ?_
  refine lv_dup hx hb dX10_come_24 rfl ?_
  refine tg_mem (ci := 10) (C := RX10) (T := TX10) (N := 49) hx hb hts inX10 hown hK hw 2 n_k_5 rfl (by decide) (hts _ tw_1139) (fun _ h9 => h9) dX10_come_25 ?_
  refine lv_iconst (v := 1) hx hb dX10_come_28 (by decide) ?_
  refine lv_iadd hx hb dX10_come_29 (lv_topi (fun v_9 e_v_9 => ?_))
  obtain ⟨t_v_9, r_v_9⟩ := tq_add (lo := 10) (hi := 930) r_v_4 rl_1 (by decide +kernel) e_v_9
  have t_v_9 : v_9.toInt = v_4.toInt + 1 := t_v_9
  refine tg_put (ci := 10) (ts := ty_MODEL) (v := .int v_9) (ty := .int) (C := RX10) (T := TX10) (N := 49) hx hb hts inX10 tyX10 tyX10_ok nmX10 hown hK hw h_p0 rfl rfl 2 (by decide) (hts _ tw_1139) (fun _ h9 => h9) rfl (by decide +kernel) rfl rfl (ft := vI 0 940) rfl ⟨_, rfl, (r_v_9.to (by decide))⟩ (by decide) dX10_come_30 (fun ws H locs hw n_k_10 hF9 => ?_)
  refine lv_iinc (v := 8) (lv' := [(2, .int 8), (0, .ref p0), (1, .int p1)]) hx hb dX10_come_33 hl (k := 0) rfl (by decide) (by decide) rfl (fun ls hl => ?_)
  refine lv_goto (tgt := 3) hx hb dX10_come_36 (by decide) ?_
  refine lv_iload_n hx hb dX10_come_3 rfl (lv_at hl 0 rfl) ?_
  refine lv_if_lt (tgt := 39) hx hb dX10_come_4 (by decide) (fun c9 => absurd c9 (by decide)) (fun _ => ?_)
  refine lv_aload_n hx hb dX10_come_7 rfl (lv_at hl 1 rfl) ?_
  refine tg_get (ci := 10) (ts := ty_MODEL) (C := RX10) (T := TX10) (N := 49) hx hb hts inX10 hown hK hw h_p0 rfl rfl 1 (by decide) (hts _ tw_1138) (fun _ h9 => h9) (ft := vR 40) rfl dX10_come_8 (fun u_11 hv_u_11 m_u_11 => ?_)
  obtain ⟨vu_11, rfl, h_vu_11⟩ := hv_u_11
  refine lv_aload_n hx hb dX10_come_11 rfl (lv_at hl 1 rfl) ?_
  refine tg_mem (ci := 10) (C := RX10) (T := TX10) (N := 49) hx hb hts inX10 hown hK hw 2 n_k_10 rfl (by decide) (hts _ tw_1139) (fun _ h9 => h9) dX10_come_12 ?_
  refine lv_iload_n hx hb dX10_come_15 rfl (lv_at hl 2 rfl) ?_
  refine lv_iload_n hx hb dX10_come_16 rfl (lv_at hl 0 rfl) ?_
  obtain ⟨v_12, e_v_12⟩ : ∃ q9 : Int32, (Int32.toUInt32 p1 >>> (Int32.toUInt32 8 &&& Int32.toUInt32 31)).toInt32 = q9 := ⟨_, rfl⟩
  refine lv_iushr (v := v_12) hx hb dX10_come_17 e_v_12 ?_
  have r_v_12 : RI v_12 0 16777215 := by rw [← e_v_12]; exact ri_ushr8 _
  refine lv_sipush (v := 255) hx hb dX10_come_18 (by decide) ?_
  refine lv_iand hx hb dX10_come_21 (lv_topi (fun v_13 e_v_13 => ?_))
  have r_v_13 : RI v_13 0 255 := by rw [e_v_13]; exact ri_and (d := 255) (rl_255.to (by decide)) (by decide)
  refine tg_iast hx hb hK hw h_vu_11 rfl 10 930 r_v_9 (by decide) r_v_13 (by exact fun _ _ _ => by decide) (fun _ _ _ _ _ => trivial) (by decide) dX10_come_22 (fun ws H locs hw hF9 hU9 => ?_)
  have n_k_10 := FLD.over hF9 n_k_10 (by decide)
  refine lv_aload_n hx hb dX10_come_23 rfl (lv_at hl 1 rfl) ?_
  refine lv_dup hx hb dX10_come_24 rfl ?_
  refine tg_mem (ci := 10) (C := RX10) (T := TX10) (N := 49) hx hb hts inX10 hown hK hw 2 n_k_10 rfl (by decide) (hts _ tw_1139) (fun _ h9 => h9) dX10_come_25 ?_
  refine lv_iconst (v := 1) hx hb dX10_come_28 (by decide) ?_
  refine lv_iadd hx hb dX10_come_29 (lv_topi (fun v_14 e_v_14 => ?_))
  obtain ⟨t_v_14, r_v_14⟩ := tq_add (lo := 11) (hi := 931) r_v_9 rl_1 (by decide +kernel) e_v_14
  have t_v_14 : v_14.toInt = v_9.toInt + 1 := t_v_14
  refine tg_put (ci := 10) (ts := ty_MODEL) (v := .int v_14) (ty := .int) (C := RX10) (T := TX10) (N := 49) hx hb hts inX10 tyX10 tyX10_ok nmX10 hown hK hw h_p0 rfl rfl 2 (by decide) (hts _ tw_1139) (fun _ h9 => h9) rfl (by decide +kernel) rfl rfl (ft := vI 0 940) rfl ⟨_, rfl, (r_v_14.to (by decide))⟩ (by decide) dX10_come_30 (fun ws H locs hw n_k_15 hF9 => ?_)
  refine lv_iinc (v := 0) (lv' := [(2, .int 0), (0, .ref p0), (1, .int p1)]) hx hb dX10_come_33 hl (k := 0) rfl (by decide) (by decide) rfl (fun ls hl => ?_)
  refine lv_goto (tgt := 3) hx hb dX10_come_36 (by decide) ?_
  refine lv_iload_n hx hb dX10_come_3 rfl (lv_at hl 0 rfl) ?_
  refine lv_if_lt (tgt := 39) hx hb dX10_come_4 (by decide) (fun c9 => absurd c9 (by decide)) (fun _ => ?_)
  refine lv_aload_n hx hb dX10_come_7 rfl (lv_at hl 1 rfl) ?_
  refine tg_get (ci := 10) (ts := ty_MODEL) (C := RX10) (T := TX10) (N := 49) hx hb hts inX10 hown hK hw h_p0 rfl rfl 1 (by decide) (hts _ tw_1138) (fun _ h9 => h9) (ft := vR 40) rfl dX10_come_8 (fun u_16 hv_u_16 m_u_16 => ?_)
  obtain ⟨vu_16, rfl, h_vu_16⟩ := hv_u_16
  refine lv_aload_n hx hb dX10_come_11 rfl (lv_at hl 1 rfl) ?_
  refine tg_mem (ci := 10) (C := RX10) (T := TX10) (N := 49) hx hb hts inX10 hown hK hw 2 n_k_15 rfl (by decide) (hts _ tw_1139) (fun _ h9 => h9) dX10_come_12 ?_
  refine lv_iload_n hx hb dX10_come_15 rfl (lv_at hl 2 rfl) ?_
  refine lv_iload_n hx hb dX10_come_16 rfl (lv_at hl 0 rfl) ?_
  obtain ⟨v_17, e_v_17⟩ : ∃ q9 : Int32, (Int32.toUInt32 p1 >>> (Int32.toUInt32 0 &&& Int32.toUInt32 31)).toInt32 = q9 := ⟨_, rfl⟩
  refine lv_iushr (v := v_17) hx hb dX10_come_17 e_v_17 ?_
  have r_v_17 := ri_any v_17
  refine lv_sipush (v := 255) hx hb dX10_come_18 (by decide) ?_
  refine lv_iand hx hb dX10_come_21 (lv_topi (fun v_18 e_v_18 => ?_))
  have r_v_18 : RI v_18 0 255 := by rw [e_v_18]; exact ri_and (d := 255) (rl_255.to (by decide)) (by decide)
  refine tg_iast hx hb hK hw h_vu_16 rfl 11 931 r_v_14 (by decide) r_v_18 (by exact fun _ _ _ => by decide) (fun _ _ _ _ _ => trivial) (by decide) dX10_come_22 (fun ws H locs hw hF9 hU9 => ?_)
  have n_k_15 := FLD.over hF9 n_k_15 (by decide)
  refine lv_aload_n hx hb dX10_come_23 rfl (lv_at hl 1 rfl) ?_
  refine lv_dup hx hb dX10_come_24 rfl ?_
  refine tg_mem (ci := 10) (C := RX10) (T := TX10) (N := 49) hx hb hts inX10 hown hK hw 2 n_k_15 rfl (by decide) (hts _ tw_1139) (fun _ h9 => h9) dX10_come_25 ?_
  refine lv_iconst (v := 1) hx hb dX10_come_28 (by decide) ?_
  refine lv_iadd hx hb dX10_come_29 (lv_topi (fun v_19 e_v_19 => ?_))
  obtain ⟨t_v_19, r_v_19⟩ := tq_add (lo := 12) (hi := 932) r_v_14 rl_1 (by decide +kernel) e_v_19
  have t_v_19 : v_19.toInt = v_14.toInt + 1 := t_v_19
  refine tg_put (ci := 10) (ts := ty_MODEL) (v := .int v_19) (ty := .int) (C := RX10) (T := TX10) (N := 49) hx hb hts inX10 tyX10 tyX10_ok nmX10 hown hK hw h_p0 rfl rfl 2 (by decide) (hts _ tw_1139) (fun _ h9 => h9) rfl (by decide +kernel) rfl rfl (ft := vI 0 940) rfl ⟨_, rfl, (r_v_19.to (by decide))⟩ (by decide) dX10_come_30 (fun ws H locs hw n_k_20 hF9 => ?_)
  refine lv_iinc (v := (-8)) (lv' := [(2, .int (-8)), (0, .ref p0), (1, .int p1)]) hx hb dX10_come_33 hl (k := 0) rfl (by decide) (by decide) rfl (fun ls hl => ?_)
  refine lv_goto (tgt := 3) hx hb dX10_come_36 (by decide) ?_
  refine lv_iload_n hx hb dX10_come_3 rfl (lv_at hl 0 rfl) ?_
  refine lv_if_lt (tgt := 39) hx hb dX10_come_4 (by decide) (fun _ => ?_) (fun c9 => absurd (by decide) c9)
  subst hQ
  exact W.vret hx hb hr (fun t ht hW => ⟨⟨ws, rfl, ⟨⟨⟨_, n_k_20, r_v_19⟩, trivial⟩, hw.1, hw.2.2.2.2.1⟩, by rw [ht]; exact hw.2.1, va_K.moved hW.alike hK, hw.2.2.1⟩, hw.2.2.2.1.F ht⟩) hw.2.2.2.1.2.2 dX10_come_39
abbrev wr_X10_come__3 : List (Nat × Nat) := [(10, 2)]
abbrev wa_X10_come__3 : List Nat := [40]
set_option maxHeartbeats 4000000 in
set_option maxRecDepth 100000 in
theorem c_X10_come__3 (l : Launch) (D : va_G) (cy : Nat → ClassId) (z : Nat → Nat) (sz : Nat) (Ps : PSI) (w0 : va_W) (hT : HT cy GG Ps w0) (p0 : Nat) (p1 : Int32) (f0_2 : Int32) (h_p0 : (p0, 55) ∈ Ps) (r_p1 : RI p1 (-2147483648) 2147483647) (r_f0_2 : RI f0_2 12 932) (m_f0_2 : FLD w0 p0 10 2 (.int f0_2)) : Met l yX10_come (Cond.code yX10_come cX10_come 3 none :: gT) ({ frames := 0, cells := 0, slots := 0, locals := 200 } : Room) (va_Pc [.ref p0, .int p1] (PRE D cy z w0 sz)) (va_Qv (fun (u : va_W) => ((∃ v9 : Int32, FLD u p0 10 2 (.int v9) ∧ RI v9 16 936) ∧ True) ∧ HT cy GG Ps u ∧ FR wr_X10_come__3 wa_X10_come__3 Ps w0 u) (BB D cy (va_A w0 sz) (fun (u : va_W) => u)) (va_A w0 sz)) 0 0 (va_A w0 sz) := by
  refine Met.ofW (cc := cX10_come) (maxL := 3) (ret := none) (by decide) rfl ?_
  intro p e s m args below meth c s₁ B hml hv
  obtain ⟨rfl, hsz, hP, hK, hD0, hSD⟩ := hv
  have hx := B.exec
  have hb := B.bytes
  have hr := B.returns
  have hlocks := B.notSynchronized
  have hts : ∀ w ∈ gT, w.before _ s = true := fun w h => atoms_spec (ws := Cond.code yX10_come cX10_come 3 none :: gT) B.pre w (List.mem_cons_of_mem _ h)
  have hown : s.vm.findClass RX10 = some m.cls := findClass_of_methodNamed B.named
  subst hsz
  have hD := hD0.self (sz := s.heap.size)
  generalize hAe : va_A w0 s.heap.size = A at hD hSD ⊢
  have hA : ∀ q : Nat, s.heap.size ≤ q → A q := fun q h => by rw [← hAe]; exact Or.inr h
  have hl := lv_entry ([.ref p0, .int p1]) (n := 3) (Nat.le_of_ble_eq_true rfl)
  rw [lg_entry_eq]
  generalize (lg_sl ([.ref p0, .int p1]) ++ List.replicate (3 - (lg_sl ([.ref p0, .int p1])).length) Slot.unset).toArray = ls at hl ⊢
  have hl : lv_has ls 3 [(0, .ref p0), (1, .int p1)] := hl
  refine nameQ (fun Q hQ => ?_)
  have hw : WD D cy GG A s wr_X10_come__3 wa_X10_come__3 Ps w0 Ps w0 s.heap [] := ⟨hT, hP, hD, va_S.rf, FR.rf, hT.1, [], (List.append_nil _).symm⟩
  refine lv_bipush (v := 24) hx hb dX10_come_0 (by decide) ?_
  refine lv_istore_n (lv' := [(2, .int 24), (0, .ref p0), (1, .int p1)]) hx hb dX10_come_2 rfl hl (by decide) rfl (fun ls hl => ?_)
  refine lv_iload_n hx hb dX10_come_3 rfl (lv_at hl 0 rfl) ?_
  refine lv_if_lt (tgt := 39) hx hb dX10_come_4 (by decide) (fun c9 => absurd c9 (by decide)) (fun _ => ?_)
  refine lv_aload_n hx hb dX10_come_7 rfl (lv_at hl 1 rfl) ?_
  refine tg_get (ci := 10) (ts := ty_MODEL) (C := RX10) (T := TX10) (N := 49) hx hb hts inX10 hown hK hw h_p0 rfl rfl 1 (by decide) (hts _ tw_1138) (fun _ h9 => h9) (ft := vR 40) rfl dX10_come_8 (fun u_1 hv_u_1 m_u_1 => ?_)
  obtain ⟨vu_1, rfl, h_vu_1⟩ := hv_u_1
  refine lv_aload_n hx hb dX10_come_11 rfl (lv_at hl 1 rfl) ?_
  refine tg_mem (ci := 10) (C := RX10) (T := TX10) (N := 49) hx hb hts inX10 hown hK hw 2 m_f0_2 rfl (by decide) (hts _ tw_1139) (fun _ h9 => h9) dX10_come_12 ?_
  refine lv_iload_n hx hb dX10_come_15 rfl (lv_at hl 2 rfl) ?_
  refine lv_iload_n hx hb dX10_come_16 rfl (lv_at hl 0 rfl) ?_
  obtain ⟨v_2, e_v_2⟩ : ∃ q9 : Int32, (Int32.toUInt32 p1 >>> (Int32.toUInt32 24 &&& Int32.toUInt32 31)).toInt32 = q9 := ⟨_, rfl⟩
  refine lv_iushr (v := v_2) hx hb dX10_come_17 e_v_2 ?_
  have r_v_2 := ri_any v_2
  refine lv_sipush (v := 255) hx hb dX10_come_18 (by decide) ?_
  refine lv_iand hx hb dX10_come_21 (lv_topi (fun v_3 e_v_3 => ?_))
  have r_v_3 : RI v_3 0 255 := by rw [e_v_3]; exact ri_and (d := 255) (rl_255.to (by decide)) (by decide)
  refine tg_iast hx hb hK hw h_vu_1 rfl 12 932 r_f0_2 (by decide) r_v_3 (by exact fun _ _ _ => by decide) (fun _ _ _ _ _ => trivial) (by decide) dX10_come_22 (fun ws H locs hw hF9 hU9 => ?_)
  have m_f0_2 := FLD.over hF9 m_f0_2 (by decide)
  refine lv_aload_n hx hb dX10_come_23 rfl (lv_at hl 1 rfl) ?_
  refine lv_dup hx hb dX10_come_24 rfl ?_
  refine tg_mem (ci := 10) (C := RX10) (T := TX10) (N := 49) hx hb hts inX10 hown hK hw 2 m_f0_2 rfl (by decide) (hts _ tw_1139) (fun _ h9 => h9) dX10_come_25 ?_
  refine lv_iconst (v := 1) hx hb dX10_come_28 (by decide) ?_
  refine lv_iadd hx hb dX10_come_29 (lv_topi (fun v_4 e_v_4 => ?_))
  obtain ⟨t_v_4, r_v_4⟩ := tq_add (lo := 13) (hi := 933) r_f0_2 rl_1 (by decide +kernel) e_v_4
  have t_v_4 : v_4.toInt = f0_2.toInt + 1 := t_v_4
  refine tg_put (ci := 10) (ts := ty_MODEL) (v := .int v_4) (ty := .int) (C := RX10) (T := TX10) (N := 49) hx hb hts inX10 tyX10 tyX10_ok nmX10 hown hK hw h_p0 rfl rfl 2 (by decide) (hts _ tw_1139) (fun _ h9 => h9) rfl (by decide +kernel) rfl rfl (ft := vI 0 940) rfl ⟨_, rfl, (r_v_4.to (by decide))⟩ (by decide) dX10_come_30 (fun ws H locs hw n_k_5 hF9 => ?_)
  refine lv_iinc (v := 16) (lv' := [(2, .int 16), (0, .ref p0), (1, .int p1)]) hx hb dX10_come_33 hl (k := 0) rfl (by decide) (by decide) rfl (fun ls hl => ?_)
  refine lv_goto (tgt := 3) hx hb dX10_come_36 (by decide) ?_
  refine lv_iload_n hx hb dX10_come_3 rfl (lv_at hl 0 rfl) ?_
  refine lv_if_lt (tgt := 39) hx hb dX10_come_4 (by decide) (fun c9 => absurd c9 (by decide)) (fun _ => ?_)
  refine lv_aload_n hx hb dX10_come_7 rfl (lv_at hl 1 rfl) ?_
  refine tg_get (ci := 10) (ts := ty_MODEL) (C := RX10) (T := TX10) (N := 49) hx hb hts inX10 hown hK hw h_p0 rfl rfl 1 (by decide) (hts _ tw_1138) (fun _ h9 => h9) (ft := vR 40) rfl dX10_come_8 (fun u_6 hv_u_6 m_u_6 => ?_)
  obtain ⟨vu_6, rfl, h_vu_6⟩ := hv_u_6
  refine lv_aload_n hx hb dX10_come_11 rfl (lv_at hl 1 rfl) ?_
  refine tg_mem (ci := 10) (C := RX10) (T := TX10) (N := 49) hx hb hts inX10 hown hK hw 2 n_k_5 rfl (by decide) (hts _ tw_1139) (fun _ h9 => h9) dX10_come_12 ?_
  refine lv_iload_n hx hb dX10_come_15 rfl (lv_at hl 2 rfl) ?_
  refine lv_iload_n hx hb dX10_come_16 rfl (lv_at hl 0 rfl) ?_
  obtain ⟨v_7, e_v_7⟩ : ∃ q9 : Int32, (Int32.toUInt32 p1 >>> (Int32.toUInt32 16 &&& Int32.toUInt32 31)).toInt32 = q9 := ⟨_, rfl⟩
  refine lv_iushr (v := v_7) hx hb dX10_come_17 e_v_7 ?_
  have r_v_7 := ri_any v_7
  refine lv_sipush (v := 255) hx hb dX10_come_18 (by decide) ?_
  refine lv_iand hx hb dX10_come_21 (lv_topi (fun v_8 e_v_8 => ?_))
  have r_v_8 : RI v_8 0 255 := by rw [e_v_8]; exact ri_and (d := 255) (rl_255.to (by decide)) (by decide)
  refine tg_iast hx hb hK hw h_vu_6 rfl 13 933 r_v_4 (by decide) r_v_8 (by exact fun _ _ _ => by decide) (fun _ _ _ _ _ => trivial) (by decide) dX10_come_22 (fun ws H locs hw hF9 hU9 => ?_)
  have n_k_5 := FLD.over hF9 n_k_5 (by decide)
  refine lv_aload_n hx hb dX10_come_23 rfl (lv_at hl 1 rfl) ?_
  refine lv_dup hx hb dX10_come_24 rfl ?_
  refine tg_mem (ci := 10) (C := RX10) (T := TX10) (N := 49) hx hb hts inX10 hown hK hw 2 n_k_5 rfl (by decide) (hts _ tw_1139) (fun _ h9 => h9) dX10_come_25 ?_
  refine lv_iconst (v := 1) hx hb dX10_come_28 (by decide) ?_
  refine lv_iadd hx hb dX10_come_29 (lv_topi (fun v_9 e_v_9 => ?_))
  obtain ⟨t_v_9, r_v_9⟩ := tq_add (lo := 14) (hi := 934) r_v_4 rl_1 (by decide +kernel) e_v_9
  have t_v_9 : v_9.toInt = v_4.toInt + 1 := t_v_9
  refine tg_put (ci := 10) (ts := ty_MODEL) (v := .int v_9) (ty := .int) (C := RX10) (T := TX10) (N := 49) hx hb hts inX10 tyX10 tyX10_ok nmX10 hown hK hw h_p0 rfl rfl 2 (by decide) (hts _ tw_1139) (fun _ h9 => h9) rfl (by decide +kernel) rfl rfl (ft := vI 0 940) rfl ⟨_, rfl, (r_v_9.to (by decide))⟩ (by decide) dX10_come_30 (fun ws H locs hw n_k_10 hF9 => ?_)
  refine lv_iinc (v := 8) (lv' := [(2, .int 8), (0, .ref p0), (1, .int p1)]) hx hb dX10_come_33 hl (k := 0) rfl (by decide) (by decide) rfl (fun ls hl => ?_)
  refine lv_goto (tgt := 3) hx hb dX10_come_36 (by decide) ?_
  refine lv_iload_n hx hb dX10_come_3 rfl (lv_at hl 0 rfl) ?_
  refine lv_if_lt (tgt := 39) hx hb dX10_come_4 (by decide) (fun c9 => absurd c9 (by decide)) (fun _ => ?_)
  refine lv_aload_n hx hb dX10_come_7 rfl (lv_at hl 1 rfl) ?_
  refine tg_get (ci := 10) (ts := ty_MODEL) (C := RX10) (T := TX10) (N := 49) hx hb hts inX10 hown hK hw h_p0 rfl rfl 1 (by decide) (hts _ tw_1138) (fun _ h9 => h9) (ft := vR 40) rfl dX10_come_8 (fun u_11 hv_u_11 m_u_11 => ?_)
  obtain ⟨vu_11, rfl, h_vu_11⟩ := hv_u_11
  refine lv_aload_n hx hb dX10_come_11 rfl (lv_at hl 1 rfl) ?_
  refine tg_mem (ci := 10) (C := RX10) (T := TX10) (N := 49) hx hb hts inX10 hown hK hw 2 n_k_10 rfl (by decide) (hts _ tw_1139) (fun _ h9 => h9) dX10_come_12 ?_
  refine lv_iload_n hx hb dX10_come_15 rfl (lv_at hl 2 rfl) ?_
  refine lv_iload_n hx hb dX10_come_16 rfl (lv_at hl 0 rfl) ?_
  obtain ⟨v_12, e_v_12⟩ : ∃ q9 : Int32, (Int32.toUInt32 p1 >>> (Int32.toUInt32 8 &&& Int32.toUInt32 31)).toInt32 = q9 := ⟨_, rfl⟩
  refine lv_iushr (v := v_12) hx hb dX10_come_17 e_v_12 ?_
  have r_v_12 : RI v_12 0 16777215 := by rw [← e_v_12]; exact ri_ushr8 _
  refine lv_sipush (v := 255) hx hb dX10_come_18 (by decide) ?_
  refine lv_iand hx hb dX10_come_21 (lv_topi (fun v_13 e_v_13 => ?_))
  have r_v_13 : RI v_13 0 255 := by rw [e_v_13]; exact ri_and (d := 255) (rl_255.to (by decide)) (by decide)
  refine tg_iast hx hb hK hw h_vu_11 rfl 14 934 r_v_9 (by decide) r_v_13 (by exact fun _ _ _ => by decide) (fun _ _ _ _ _ => trivial) (by decide) dX10_come_22 (fun ws H locs hw hF9 hU9 => ?_)
  have n_k_10 := FLD.over hF9 n_k_10 (by decide)
  refine lv_aload_n hx hb dX10_come_23 rfl (lv_at hl 1 rfl) ?_
  refine lv_dup hx hb dX10_come_24 rfl ?_
  refine tg_mem (ci := 10) (C := RX10) (T := TX10) (N := 49) hx hb hts inX10 hown hK hw 2 n_k_10 rfl (by decide) (hts _ tw_1139) (fun _ h9 => h9) dX10_come_25 ?_
  refine lv_iconst (v := 1) hx hb dX10_come_28 (by decide) ?_
  refine lv_iadd hx hb dX10_come_29 (lv_topi (fun v_14 e_v_14 => ?_))
  obtain ⟨t_v_14, r_v_14⟩ := tq_add (lo := 15) (hi := 935) r_v_9 rl_1 (by decide +kernel) e_v_14
  have t_v_14 : v_14.toInt = v_9.toInt + 1 := t_v_14
  refine tg_put (ci := 10) (ts := ty_MODEL) (v := .int v_14) (ty := .int) (C := RX10) (T := TX10) (N := 49) hx hb hts inX10 tyX10 tyX10_ok nmX10 hown hK hw h_p0 rfl rfl 2 (by decide) (hts _ tw_1139) (fun _ h9 => h9) rfl (by decide +kernel) rfl rfl (ft := vI 0 940) rfl ⟨_, rfl, (r_v_14.to (by decide))⟩ (by decide) dX10_come_30 (fun ws H locs hw n_k_15 hF9 => ?_)
  refine lv_iinc (v := 0) (lv' := [(2, .int 0), (0, .ref p0), (1, .int p1)]) hx hb dX10_come_33 hl (k := 0) rfl (by decide) (by decide) rfl (fun ls hl => ?_)
  refine lv_goto (tgt := 3) hx hb dX10_come_36 (by decide) ?_
  refine lv_iload_n hx hb dX10_come_3 rfl (lv_at hl 0 rfl) ?_
  refine lv_if_lt (tgt := 39) hx hb dX10_come_4 (by decide) (fun c9 => absurd c9 (by decide)) (fun _ => ?_)
  refine lv_aload_n hx hb dX10_come_7 rfl (lv_at hl 1 rfl) ?_
  refine tg_get (ci := 10) (ts := ty_MODEL) (C := RX10) (T := TX10) (N := 49) hx hb hts inX10 hown hK hw h_p0 rfl rfl 1 (by decide) (hts _ tw_1138) (fun _ h9 => h9) (ft := vR 40) rfl dX10_come_8 (fun u_16 hv_u_16 m_u_16 => ?_)
  obtain ⟨vu_16, rfl, h_vu_16⟩ := hv_u_16
  refine lv_aload_n hx hb dX10_come_11 rfl (lv_at hl 1 rfl) ?_
  refine tg_mem (ci := 10) (C := RX10) (T := TX10) (N := 49) hx hb hts inX10 hown hK hw 2 n_k_15 rfl (by decide) (hts _ tw_1139) (fun _ h9 => h9) dX10_come_12 ?_
  refine lv_iload_n hx hb dX10_come_15 rfl (lv_at hl 2 rfl) ?_
  refine lv_iload_n hx hb dX10_come_16 rfl (lv_at hl 0 rfl) ?_
  obtain ⟨v_17, e_v_17⟩ : ∃ q9 : Int32, (Int32.toUInt32 p1 >>> (Int32.toUInt32 0 &&& Int32.toUInt32 31)).toInt32 = q9 := ⟨_, rfl⟩
  refine lv_iushr (v := v_17) hx hb dX10_come_17 e_v_17 ?_
  have r_v_17 := ri_any v_17
  refine lv_sipush (v := 255) hx hb dX10_come_18 (by decide) ?_
  refine lv_iand hx hb dX10_come_21 (lv_topi (fun v_18 e_v_18 => ?_))
  have r_v_18 : RI v_18 0 255 := by rw [e_v_18]; exact ri_and (d := 255) (rl_255.to (by decide)) (by decide)
  refine tg_iast hx hb hK hw h_vu_16 rfl 15 935 r_v_14 (by decide) r_v_18 (by exact fun _ _ _ => by decide) (fun _ _ _ _ _ => trivial) (by decide) dX10_come_22 (fun ws H locs hw hF9 hU9 => ?_)
  have n_k_15 := FLD.over hF9 n_k_15 (by decide)
  refine lv_aload_n hx hb dX10_come_23 rfl (lv_at hl 1 rfl) ?_
  refine lv_dup hx hb dX10_come_24 rfl ?_
  refine tg_mem (ci := 10) (C := RX10) (T := TX10) (N := 49) hx hb hts inX10 hown hK hw 2 n_k_15 rfl (by decide) (hts _ tw_1139) (fun _ h9 => h9) dX10_come_25 ?_
  refine lv_iconst (v := 1) hx hb dX10_come_28 (by decide) ?_
  refine lv_iadd hx hb dX10_come_29 (lv_topi (fun v_19 e_v_19 => ?_))
  obtain ⟨t_v_19, r_v_19⟩ := tq_add (lo := 16) (hi := 936) r_v_14 rl_1 (by decide +kernel) e_v_19
  have t_v_19 : v_19.toInt = v_14.toInt + 1 := t_v_19
  refine tg_put (ci := 10) (ts := ty_MODEL) (v := .int v_19) (ty := .int) (C := RX10) (T := TX10) (N := 49) hx hb hts inX10 tyX10 tyX10_ok nmX10 hown hK hw h_p0 rfl rfl 2 (by decide) (hts _ tw_1139) (fun _ h9 => h9) rfl (by decide +kernel) rfl rfl (ft := vI 0 940) rfl ⟨_, rfl, (r_v_19.to (by decide))⟩ (by decide) dX10_come_30 (fun ws H locs hw n_k_20 hF9 => ?_)
  refine lv_iinc (v := (-8)) (lv' := [(2, .int (-8)), (0, .ref p0), (1, .int p1)]) hx hb dX10_come_33 hl (k := 0) rfl (by decide) (by decide) rfl (fun ls hl => ?_)
  refine lv_goto (tgt := 3) hx hb dX10_come_36 (by decide) ?_
  refine lv_iload_n hx hb dX10_come_3 rfl (lv_at hl 0 rfl) ?_
  refine lv_if_lt (tgt := 39) hx hb dX10_come_4 (by decide) (fun _ => ?_) (fun c9 => absurd (by decide) c9)
  subst hQ
  exact W.vret hx hb hr (fun t ht hW => ⟨⟨ws, rfl, ⟨⟨⟨_, n_k_20, r_v_19⟩, trivial⟩, hw.1, hw.2.2.2.2.1⟩, by rw [ht]; exact hw.2.1, va_K.moved hW.alike hK, hw.2.2.1⟩, hw.2.2.2.1.F ht⟩) hw.2.2.2.1.2.2 dX10_come_39
abbrev wr_X10_come__4 : List (Nat × Nat) := [(10, 2)]
abbrev wa_X10_come__4 : List Nat := [40]
set_option maxHeartbeats 4000000 in
set_option maxRecDepth 100000 in
theorem c_X10_come__4 (l : Launch) (D : va_G) (cy : Nat → ClassId) (z : Nat → Nat) (sz : Nat) (Ps : PSI) (w0 : va_W) (hT : HT cy GG Ps w0) (p0 : Nat) (p1 : Int32) (f0_2 : Int32) (h_p0 : (p0, 55) ∈ Ps) (r_p1 : RI p1 (-2147483648) 2147483647) (r_f0_2 : RI f0_2 16 936) (m_f0_2 : FLD w0 p0 10 2 (.int f0_2)) : Met l yX10_come (Cond.code yX10_come cX10_come 3 none :: gT) ({ frames := 0, cells := 0, slots := 0, locals := 200 } : Room) (va_Pc [.ref p0, .int p1] (PRE D cy z w0 sz)) (va_Qv (fun (u : va_W) => ((∃ v9 : Int32, FLD u p0 10 2 (.int v9) ∧ RI v9 20 940) ∧ True) ∧ HT cy GG Ps u ∧ FR wr_X10_come__4 wa_X10_come__4 Ps w0 u) (BB D cy (va_A w0 sz) (fun (u : va_W) => u)) (va_A w0 sz)) 0 0 (va_A w0 sz) := by
  refine Met.ofW (cc := cX10_come) (maxL := 3) (ret := none) (by decide) rfl ?_
  intro p e s m args below meth c s₁ B hml hv
  obtain ⟨rfl, hsz, hP, hK, hD0, hSD⟩ := hv
  have hx := B.exec
  have hb := B.bytes
  have hr := B.returns
  have hlocks := B.notSynchronized
  have hts : ∀ w ∈ gT, w.before _ s = true := fun w h => atoms_spec (ws := Cond.code yX10_come cX10_come 3 none :: gT) B.pre w (List.mem_cons_of_mem _ h)
  have hown : s.vm.findClass RX10 = some m.cls := findClass_of_methodNamed B.named
  subst hsz
  have hD := hD0.self (sz := s.heap.size)
  generalize hAe : va_A w0 s.heap.size = A at hD hSD ⊢
  have hA : ∀ q : Nat, s.heap.size ≤ q → A q := fun q h => by rw [← hAe]; exact Or.inr h
  have hl := lv_entry ([.ref p0, .int p1]) (n := 3) (Nat.le_of_ble_eq_true rfl)
  rw [lg_entry_eq]
  generalize (lg_sl ([.ref p0, .int p1]) ++ List.replicate (3 - (lg_sl ([.ref p0, .int p1])).length) Slot.unset).toArray = ls at hl ⊢
  have hl : lv_has ls 3 [(0, .ref p0), (1, .int p1)] := hl
  refine nameQ (fun Q hQ => ?_)
  have hw : WD D cy GG A s wr_X10_come__4 wa_X10_come__4 Ps w0 Ps w0 s.heap [] := ⟨hT, hP, hD, va_S.rf, FR.rf, hT.1, [], (List.append_nil _).symm⟩
  refine lv_bipush (v := 24) hx hb dX10_come_0 (by decide) ?_
  refine lv_istore_n (lv' := [(2, .int 24), (0, .ref p0), (1, .int p1)]) hx hb dX10_come_2 rfl hl (by decide) rfl (fun ls hl => ?_)
  refine lv_iload_n hx hb dX10_come_3 rfl (lv_at hl 0 rfl) ?_
  refine lv_if_lt (tgt := 39) hx hb dX10_come_4 (by decide) (fun c9 => absurd c9 (by decide)) (fun _ => ?_)
  refine lv_aload_n hx hb dX10_come_7 rfl (lv_at hl 1 rfl) ?_
  refine tg_get (ci := 10) (ts := ty_MODEL) (C := RX10) (T := TX10) (N := 49) hx hb hts inX10 hown hK hw h_p0 rfl rfl 1 (by decide) (hts _ tw_1138) (fun _ h9 => h9) (ft := vR 40) rfl dX10_come_8 (fun u_1 hv_u_1 m_u_1 => ?_)
  obtain ⟨vu_1, rfl, h_vu_1⟩ := hv_u_1
  refine lv_aload_n hx hb dX10_come_11 rfl (lv_at hl 1 rfl) ?_
  refine tg_mem (ci := 10) (C := RX10) (T := TX10) (N := 49) hx hb hts inX10 hown hK hw 2 m_f0_2 rfl (by decide) (hts _ tw_1139) (fun _ h9 => h9) dX10_come_12 ?_
  refine lv_iload_n hx hb dX10_come_15 rfl (lv_at hl 2 rfl) ?_
  refine lv_iload_n hx hb dX10_come_16 rfl (lv_at hl 0 rfl) ?_
  obtain ⟨v_2, e_v_2⟩ : ∃ q9 : Int32, (Int32.toUInt32 p1 >>> (Int32.toUInt32 24 &&& Int32.toUInt32 31)).toInt32 = q9 := ⟨_, rfl⟩
  refine lv_iushr (v := v_2) hx hb dX10_come_17 e_v_2 ?_
  have r_v_2 := ri_any v_2
  refine lv_sipush (v := 255) hx hb dX10_come_18 (by decide) ?_
  refine lv_iand hx hb dX10_come_21 (lv_topi (fun v_3 e_v_3 => ?_))
  have r_v_3 : RI v_3 0 255 := by rw [e_v_3]; exact ri_and (d := 255) (rl_255.to (by decide)) (by decide)
  refine tg_iast hx hb hK hw h_vu_1 rfl 16 936 r_f0_2 (by decide) r_v_3 (by exact fun _ _ _ => by decide) (fun _ _ _ _ _ => trivial) (by decide) dX10_come_22 (fun ws H locs hw hF9 hU9 => ?_)
  have m_f0_2 := FLD.over hF9 m_f0_2 (by decide)
  refine lv_aload_n hx hb dX10_come_23 rfl (lv_at hl 1 rfl) ?_
  refine lv_dup hx hb dX10_come_24 rfl ?_
  refine tg_mem (ci := 10) (C := RX10) (T := TX10) (N := 49) hx hb hts inX10 hown hK hw 2 m_f0_2 rfl (by decide) (hts _ tw_1139) (fun _ h9 => h9) dX10_come_25 ?_
  refine lv_iconst (v := 1) hx hb dX10_come_28 (by decide) ?_
  refine lv_iadd hx hb dX10_come_29 (lv_topi (fun v_4 e_v_4 => ?_))
  obtain ⟨t_v_4, r_v_4⟩ := tq_add (lo := 17) (hi := 937) r_f0_2 rl_1 (by decide +kernel) e_v_4
  have t_v_4 : v_4.toInt = f0_2.toInt + 1 := t_v_4
  refine tg_put (ci := 10) (ts := ty_MODEL) (v := .int v_4) (ty := .int) (C := RX10) (T := TX10) (N := 49) hx hb hts inX10 tyX10 tyX10_ok nmX10 hown hK hw h_p0 rfl rfl 2 (by decide) (hts _ tw_1139) (fun _ h9 => h9) rfl (by decide +kernel) rfl rfl (ft := vI 0 940) rfl ⟨_, rfl, (r_v_4.to (by decide))⟩ (by decide) dX10_come_30 (fun ws H locs hw n_k_5 hF9 => ?_)
  refine lv_iinc (v := 16) (lv' := [(2, .int 16), (0, .ref p0), (1, .int p1)]) hx hb dX10_come_33 hl (k := 0) rfl (by decide) (by decide) rfl (fun ls hl => ?_)
  refine lv_goto (tgt := 3) hx hb dX10_come_36 (by decide) ?_
  refine lv_iload_n hx hb dX10_come_3 rfl (lv_at hl 0 rfl) ?_
  refine lv_if_lt (tgt := 39) hx hb dX10_come_4 (by decide) (fun c9 => absurd c9 (by decide)) (fun _ => ?_)
  refine lv_aload_n hx hb dX10_come_7 rfl (lv_at hl 1 rfl) ?_
  refine tg_get (ci := 10) (ts := ty_MODEL) (C := RX10) (T := TX10) (N := 49) hx hb hts inX10 hown hK hw h_p0 rfl rfl 1 (by decide) (hts _ tw_1138) (fun _ h9 => h9) (ft := vR 40) rfl dX10_come_8 (fun u_6 hv_u_6 m_u_6 => ?_)
  obtain ⟨vu_6, rfl, h_vu_6⟩ := hv_u_6
  refine lv_aload_n hx hb dX10_come_11 rfl (lv_at hl 1 rfl) ?_
  refine tg_mem (ci := 10) (C := RX10) (T := TX10) (N := 49) hx hb hts inX10 hown hK hw 2 n_k_5 rfl (by decide) (hts _ tw_1139) (fun _ h9 => h9) dX10_come_12 ?_
  refine lv_iload_n hx hb dX10_come_15 rfl (lv_at hl 2 rfl) ?_
  refine lv_iload_n hx hb dX10_come_16 rfl (lv_at hl 0 rfl) ?_
  obtain ⟨v_7, e_v_7⟩ : ∃ q9 : Int32, (Int32.toUInt32 p1 >>> (Int32.toUInt32 16 &&& Int32.toUInt32 31)).toInt32 = q9 := ⟨_, rfl⟩
  refine lv_iushr (v := v_7) hx hb dX10_come_17 e_v_7 ?_
  have r_v_7 := ri_any v_7
  refine lv_sipush (v := 255) hx hb dX10_come_18 (by decide) ?_
  refine lv_iand hx hb dX10_come_21 (lv_topi (fun v_8 e_v_8 => ?_))
  have r_v_8 : RI v_8 0 255 := by rw [e_v_8]; exact ri_and (d := 255) (rl_255.to (by decide)) (by decide)
  refine tg_iast hx hb hK hw h_vu_6 rfl 17 937 r_v_4 (by decide) r_v_8 (by exact fun _ _ _ => by decide) (fun _ _ _ _ _ => trivial) (by decide) dX10_come_22 (fun ws H locs hw hF9 hU9 => ?_)
  have n_k_5 := FLD.over hF9 n_k_5 (by decide)
  refine lv_aload_n hx hb dX10_come_23 rfl (lv_at hl 1 rfl) ?_
  refine lv_dup hx hb dX10_come_24 rfl ?_
  refine tg_mem (ci := 10) (C := RX10) (T := TX10) (N := 49) hx hb hts inX10 hown hK hw 2 n_k_5 rfl (by decide) (hts _ tw_1139) (fun _ h9 => h9) dX10_come_25 ?_
  refine lv_iconst (v := 1) hx hb dX10_come_28 (by decide) ?_
  refine lv_iadd hx hb dX10_come_29 (lv_topi (fun v_9 e_v_9 => ?_))
  obtain ⟨t_v_9, r_v_9⟩ := tq_add (lo := 18) (hi := 938) r_v_4 rl_1 (by decide +kernel) e_v_9
  have t_v_9 : v_9.toInt = v_4.toInt + 1 := t_v_9
  refine tg_put (ci := 10) (ts := ty_MODEL) (v := .int v_9) (ty := .int) (C := RX10) (T := TX10) (N := 49) hx hb hts inX10 tyX10 tyX10_ok nmX10 hown hK hw h_p0 rfl rfl 2 (by decide) (hts _ tw_1139) (fun _ h9 => h9) rfl (by decide +kernel) rfl rfl (ft := vI 0 940) rfl ⟨_, rfl, (r_v_9.to (by decide))⟩ (by decide) dX10_come_30 (fun ws H locs hw n_k_10 hF9 => ?_)
  refine lv_iinc (v := 8) (lv' := [(2, .int 8), (0, .ref p0), (1, .int p1)]) hx hb dX10_come_33 hl (k := 0) rfl (by decide) (by decide) rfl (fun ls hl => ?_)
  refine lv_goto (tgt := 3) hx hb dX10_come_36 (by decide) ?_
  refine lv_iload_n hx hb dX10_come_3 rfl (lv_at hl 0 rfl) ?_
  refine lv_if_lt (tgt := 39) hx hb dX10_come_4 (by decide) (fun c9 => absurd c9 (by decide)) (fun _ => ?_)
  refine lv_aload_n hx hb dX10_come_7 rfl (lv_at hl 1 rfl) ?_
  refine tg_get (ci := 10) (ts := ty_MODEL) (C := RX10) (T := TX10) (N := 49) hx hb hts inX10 hown hK hw h_p0 rfl rfl 1 (by decide) (hts _ tw_1138) (fun _ h9 => h9) (ft := vR 40) rfl dX10_come_8 (fun u_11 hv_u_11 m_u_11 => ?_)
  obtain ⟨vu_11, rfl, h_vu_11⟩ := hv_u_11
  refine lv_aload_n hx hb dX10_come_11 rfl (lv_at hl 1 rfl) ?_
  refine tg_mem (ci := 10) (C := RX10) (T := TX10) (N := 49) hx hb hts inX10 hown hK hw 2 n_k_10 rfl (by decide) (hts _ tw_1139) (fun _ h9 => h9) dX10_come_12 ?_
  refine lv_iload_n hx hb dX10_come_15 rfl (lv_at hl 2 rfl) ?_
  refine lv_iload_n hx hb dX10_come_16 rfl (lv_at hl 0 rfl) ?_
  obtain ⟨v_12, e_v_12⟩ : ∃ q9 : Int32, (Int32.toUInt32 p1 >>> (Int32.toUInt32 8 &&& Int32.toUInt32 31)).toInt32 = q9 := ⟨_, rfl⟩
  refine lv_iushr (v := v_12) hx hb dX10_come_17 e_v_12 ?_
  have r_v_12 : RI v_12 0 16777215 := by rw [← e_v_12]; exact ri_ushr8 _
  refine lv_sipush (v := 255) hx hb dX10_come_18 (by decide) ?_
  refine lv_iand hx hb dX10_come_21 (lv_topi (fun v_13 e_v_13 => ?_))
  have r_v_13 : RI v_13 0 255 := by rw [e_v_13]; exact ri_and (d := 255) (rl_255.to (by decide)) (by decide)
  refine tg_iast hx hb hK hw h_vu_11 rfl 18 938 r_v_9 (by decide) r_v_13 (by exact fun _ _ _ => by decide) (fun _ _ _ _ _ => trivial) (by decide) dX10_come_22 (fun ws H locs hw hF9 hU9 => ?_)
  have n_k_10 := FLD.over hF9 n_k_10 (by decide)
  refine lv_aload_n hx hb dX10_come_23 rfl (lv_at hl 1 rfl) ?_
  refine lv_dup hx hb dX10_come_24 rfl ?_
  refine tg_mem (ci := 10) (C := RX10) (T := TX10) (N := 49) hx hb hts inX10 hown hK hw 2 n_k_10 rfl (by decide) (hts _ tw_1139) (fun _ h9 => h9) dX10_come_25 ?_
  refine lv_iconst (v := 1) hx hb dX10_come_28 (by decide) ?_
  refine lv_iadd hx hb dX10_come_29 (lv_topi (fun v_14 e_v_14 => ?_))
  obtain ⟨t_v_14, r_v_14⟩ := tq_add (lo := 19) (hi := 939) r_v_9 rl_1 (by decide +kernel) e_v_14
  have t_v_14 : v_14.toInt = v_9.toInt + 1 := t_v_14
  refine tg_put (ci := 10) (ts := ty_MODEL) (v := .int v_14) (ty := .int) (C := RX10) (T := TX10) (N := 49) hx hb hts inX10 tyX10 tyX10_ok nmX10 hown hK hw h_p0 rfl rfl 2 (by decide) (hts _ tw_1139) (fun _ h9 => h9) rfl (by decide +kernel) rfl rfl (ft := vI 0 940) rfl ⟨_, rfl, (r_v_14.to (by decide))⟩ (by decide) dX10_come_30 (fun ws H locs hw n_k_15 hF9 => ?_)
  refine lv_iinc (v := 0) (lv' := [(2, .int 0), (0, .ref p0), (1, .int p1)]) hx hb dX10_come_33 hl (k := 0) rfl (by decide) (by decide) rfl (fun ls hl => ?_)
  refine lv_goto (tgt := 3) hx hb dX10_come_36 (by decide) ?_
  refine lv_iload_n hx hb dX10_come_3 rfl (lv_at hl 0 rfl) ?_
  refine lv_if_lt (tgt := 39) hx hb dX10_come_4 (by decide) (fun c9 => absurd c9 (by decide)) (fun _ => ?_)
  refine lv_aload_n hx hb dX10_come_7 rfl (lv_at hl 1 rfl) ?_
  refine tg_get (ci := 10) (ts := ty_MODEL) (C := RX10) (T := TX10) (N := 49) hx hb hts inX10 hown hK hw h_p0 rfl rfl 1 (by decide) (hts _ tw_1138) (fun _ h9 => h9) (ft := vR 40) rfl dX10_come_8 (fun u_16 hv_u_16 m_u_16 => ?_)
  obtain ⟨vu_16, rfl, h_vu_16⟩ := hv_u_16
  refine lv_aload_n hx hb dX10_come_11 rfl (lv_at hl 1 rfl) ?_
  refine tg_mem (ci := 10) (C := RX10) (T := TX10) (N := 49) hx hb hts inX10 hown hK hw 2 n_k_15 rfl (by decide) (hts _ tw_1139) (fun _ h9 => h9) dX10_come_12 ?_
  refine lv_iload_n hx hb dX10_come_15 rfl (lv_at hl 2 rfl) ?_
  refine lv_iload_n hx hb dX10_come_16 rfl (lv_at hl 0 rfl) ?_
  obtain ⟨v_17, e_v_17⟩ : ∃ q9 : Int32, (Int32.toUInt32 p1 >>> (Int32.toUInt32 0 &&& Int32.toUInt32 31)).toInt32 = q9 := ⟨_, rfl⟩
  refine lv_iushr (v := v_17) hx hb dX10_come_17 e_v_17 ?_
  have r_v_17 := ri_any v_17
  refine lv_sipush (v := 255) hx hb dX10_come_18 (by decide) ?_
  refine lv_iand hx hb dX10_come_21 (lv_topi (fun v_18 e_v_18 => ?_))
  have r_v_18 : RI v_18 0 255 := by rw [e_v_18]; exact ri_and (d := 255) (rl_255.to (by decide)) (by decide)
  refine tg_iast hx hb hK hw h_vu_16 rfl 19 939 r_v_14 (by decide) r_v_18 (by exact fun _ _ _ => by decide) (fun _ _ _ _ _ => trivial) (by decide) dX10_come_22 (fun ws H locs hw hF9 hU9 => ?_)
  have n_k_15 := FLD.over hF9 n_k_15 (by decide)
  refine lv_aload_n hx hb dX10_come_23 rfl (lv_at hl 1 rfl) ?_
  refine lv_dup hx hb dX10_come_24 rfl ?_
  refine tg_mem (ci := 10) (C := RX10) (T := TX10) (N := 49) hx hb hts inX10 hown hK hw 2 n_k_15 rfl (by decide) (hts _ tw_1139) (fun _ h9 => h9) dX10_come_25 ?_
  refine lv_iconst (v := 1) hx hb dX10_come_28 (by decide) ?_
  refine lv_iadd hx hb dX10_come_29 (lv_topi (fun v_19 e_v_19 => ?_))
  obtain ⟨t_v_19, r_v_19⟩ := tq_add (lo := 20) (hi := 940) r_v_14 rl_1 (by decide +kernel) e_v_19
  have t_v_19 : v_19.toInt = v_14.toInt + 1 := t_v_19
  refine tg_put (ci := 10) (ts := ty_MODEL) (v := .int v_19) (ty := .int) (C := RX10) (T := TX10) (N := 49) hx hb hts inX10 tyX10 tyX10_ok nmX10 hown hK hw h_p0 rfl rfl 2 (by decide) (hts _ tw_1139) (fun _ h9 => h9) rfl (by decide +kernel) rfl rfl (ft := vI 0 940) rfl ⟨_, rfl, (r_v_19.to (by decide))⟩ (by decide) dX10_come_30 (fun ws H locs hw n_k_20 hF9 => ?_)
  refine lv_iinc (v := (-8)) (lv' := [(2, .int (-8)), (0, .ref p0), (1, .int p1)]) hx hb dX10_come_33 hl (k := 0) rfl (by decide) (by decide) rfl (fun ls hl => ?_)
  refine lv_goto (tgt := 3) hx hb dX10_come_36 (by decide) ?_
  refine lv_iload_n hx hb dX10_come_3 rfl (lv_at hl 0 rfl) ?_
  refine lv_if_lt (tgt := 39) hx hb dX10_come_4 (by decide) (fun _ => ?_) (fun c9 => absurd (by decide) c9)
  subst hQ
  exact W.vret hx hb hr (fun t ht hW => ⟨⟨ws, rfl, ⟨⟨⟨_, n_k_20, r_v_19⟩, trivial⟩, hw.1, hw.2.2.2.2.1⟩, by rw [ht]; exact hw.2.1, va_K.moved hW.alike hK, hw.2.2.1⟩, hw.2.2.2.1.F ht⟩) hw.2.2.2.1.2.2 dX10_come_39
abbrev wr_X10_feed : List (Nat × Nat) := [(10, 0), (10, 2)]
abbrev wa_X10_feed : List Nat := [40]
set_option maxHeartbeats 4000000 in
set_option maxRecDepth 100000 in
theorem c_X10_feed (l : Launch) (D : va_G) (cy : Nat → ClassId) (z : Nat → Nat) (sz : Nat) (Ps : PSI) (w0 : va_W) (hT : HT cy GG Ps w0) (p0 : Nat) (p1 : Int32) (p2 : Int32) (p3 : Int32) (p4 : Int32) (p5 : Int32) (h_p0 : (p0, 55) ∈ Ps) (r_p1 : RI p1 (-2147483648) 2147483647) (r_p2 : RI p2 (-2147483648) 2147483647) (r_p3 : RI p3 (-2147483648) 2147483647) (r_p4 : RI p4 (-2147483648) 2147483647) (r_p5 : RI p5 (-2147483648) 2147483647) : Met l yX10_feed (Cond.code yX10_feed cX10_feed 6 (some .int) :: gT) ({ frames := 2, cells := 0, slots := 0, locals := 400 } : Room) (va_Pc [.ref p0, .int p1, .int p2, .int p3, .int p4, .int p5] (PRE D cy z w0 sz)) (va_Qi (fun (r : Int32) (u : va_W) => (RI r (-1) 940 ∧ (r = 0 → True) ∧ (¬ r = 0 → True)) ∧ HT cy GG Ps u ∧ FR wr_X10_feed wa_X10_feed Ps w0 u) (BB D cy (va_A w0 sz) (fun (u : va_W) => u)) (va_A w0 sz)) 0 0 (va_A w0 sz) := by
  refine Met.ofW (cc := cX10_feed) (maxL := 6) (ret := (some .int)) (by decide) rfl ?_
  intro p e s m args below meth c s₁ B hml hv
  obtain ⟨rfl, hsz, hP, hK, hD0, hSD⟩ := hv
  have hx := B.exec
  have hb := B.bytes
  have hr := B.returns
  have hlocks := B.notSynchronized
  have hts : ∀ w ∈ gT, w.before _ s = true := fun w h => atoms_spec (ws := Cond.code yX10_feed cX10_feed 6 (some .int) :: gT) B.pre w (List.mem_cons_of_mem _ h)
  have hown : s.vm.findClass RX10 = some m.cls := findClass_of_methodNamed B.named
  subst hsz
  have hD := hD0.self (sz := s.heap.size)
  generalize hAe : va_A w0 s.heap.size = A at hD hSD ⊢
  have hA : ∀ q : Nat, s.heap.size ≤ q → A q := fun q h => by rw [← hAe]; exact Or.inr h
  have hl := lv_entry ([.ref p0, .int p1, .int p2, .int p3, .int p4, .int p5]) (n := 6) (Nat.le_of_ble_eq_true rfl)
  rw [lg_entry_eq]
  generalize (lg_sl ([.ref p0, .int p1, .int p2, .int p3, .int p4, .int p5]) ++ List.replicate (6 - (lg_sl ([.ref p0, .int p1, .int p2, .int p3, .int p4, .int p5])).length) Slot.unset).toArray = ls at hl ⊢
  have hl : lv_has ls 6 [(0, .ref p0), (1, .int p1), (2, .int p2), (3, .int p3), (4, .int p4), (5, .int p5)] := hl
  refine nameQ (fun Q hQ => ?_)
  have hw : WD D cy GG A s wr_X10_feed wa_X10_feed Ps w0 Ps w0 s.heap [] := ⟨hT, hP, hD, va_S.rf, FR.rf, hT.1, [], (List.append_nil _).symm⟩
  refine lv_aload_n hx hb dX10_feed_0 rfl (lv_at hl 0 rfl) ?_
  refine lv_iconst (v := 0) hx hb dX10_feed_1 (by decide) ?_
  refine tg_put (ci := 10) (ts := ty_MODEL) (v := .int 0) (ty := .int) (C := RX10) (T := TX10) (N := 49) hx hb hts inX10 tyX10 tyX10_ok nmX10 hown hK hw h_p0 rfl rfl 0 (by decide) (hts _ tw_1137) (fun _ h9 => h9) rfl (by decide +kernel) rfl rfl (ft := vI (-2147483648) 2147483647) rfl ⟨_, rfl, (rl_0.to (by decide))⟩ (by decide) dX10_feed_2 (fun ws H locs hw n_k_1 hF9 => ?_)
  refine lv_aload_n hx hb dX10_feed_5 rfl (lv_at hl 0 rfl) ?_
  refine tg_get (ci := 10) (ts := ty_MODEL) (C := RX10) (T := TX10) (N := 49) hx hb hts inX10 hown hK hw h_p0 rfl rfl 2 (by decide) (hts _ tw_1139) (fun _ h9 => h9) (ft := vI 0 940) rfl dX10_feed_6 (fun u_2 hv_u_2 m_u_2 => ?_)
  obtain ⟨vu_2, rfl, r_vu_2⟩ := hv_u_2
  refine lv_bipush (v := 20) hx hb dX10_feed_9 (by decide) ?_
  refine lv_iadd hx hb dX10_feed_11 (lv_topi (fun v_3 e_v_3 => ?_))
  obtain ⟨t_v_3, r_v_3⟩ := tq_add (lo := 20) (hi := 960) r_vu_2 rl_20 (by decide +kernel) e_v_3
  have t_v_3 : v_3.toInt = vu_2.toInt + 20 := t_v_3
  refine lv_sipush (v := 940) hx hb dX10_feed_12 (by decide) ?_
  refine lv_icmp_le (tgt := 20) hx hb dX10_feed_15 (by decide) (fun c_15 => ?_) (fun c_15 => ?_)
  · have r_v_3 : RI v_3 20 940 := rc_le1 r_v_3 rl_940 (ti_le c_15) (by decide)
    have r_vu_2 : RI vu_2 0 920 := ⟨by have k1 := r_v_3.1; have k2 := r_vu_2.1; omega, by have k1 := r_v_3.2; have k2 := r_vu_2.2; omega⟩
    refine lv_aload_n hx hb dX10_feed_20 rfl (lv_at hl 0 rfl) ?_
    refine lv_iload_n hx hb dX10_feed_21 rfl (lv_at hl 1 rfl) ?_
    refine tk_v (va_runV (As := [.int p1]) (rest := []) ⟨hx, hb, hml, hown, hts⟩ (c_X10_come l D cy z H.size Ps ws hw.1 p0 p1 vu_2 h_p0 r_p1 r_vu_2 m_u_2) (cwV 1 hts (gV tw_1123 tw_1125 ts_37 tw_15 tw_1127) rfl rfl rfl (by decide +kernel) ⟨Nat.le_of_ble_eq_true rfl, Nat.le_of_ble_eq_true rfl⟩) (tg_preV hw hK hSD hA (ci := 10) (q := (RX10, TX10, 49)) rfl h_p0 rfl) rfl rfl hl.1 rfl (lv_room (Nat.le_of_ble_eq_true rfl)) dX10_feed_22 ⟨Nat.le_of_ble_eq_true rfl, Nat.le_of_ble_eq_true rfl⟩) hw hA ⟨by decide, by decide⟩ (fun ws H locs hp_v_4 hw hF9 => ?_)
    have n_k_1 := FLD.over hF9 n_k_1 (by decide)
    obtain ⟨v_5, m_v_5, r_v_5⟩ := (hp_v_4.1)
    refine lv_aload_n hx hb dX10_feed_25 rfl (lv_at hl 0 rfl) ?_
    refine lv_iload_n hx hb dX10_feed_26 rfl (lv_at hl 2 rfl) ?_
    refine tk_v (va_runV (As := [.int p2]) (rest := []) ⟨hx, hb, hml, hown, hts⟩ (c_X10_come__1 l D cy z H.size Ps ws hw.1 p0 p2 v_5 h_p0 r_p2 r_v_5 m_v_5) (cwV 1 hts (gV tw_1123 tw_1125 ts_37 tw_15 tw_1127) rfl rfl rfl (by decide +kernel) ⟨Nat.le_of_ble_eq_true rfl, Nat.le_of_ble_eq_true rfl⟩) (tg_preV hw hK hSD hA (ci := 10) (q := (RX10, TX10, 49)) rfl h_p0 rfl) rfl rfl hl.1 rfl (lv_room (Nat.le_of_ble_eq_true rfl)) dX10_feed_27 ⟨Nat.le_of_ble_eq_true rfl, Nat.le_of_ble_eq_true rfl⟩) hw hA ⟨by decide, by decide⟩ (fun ws H locs hp_v_6 hw hF9 => ?_)
    have n_k_1 := FLD.over hF9 n_k_1 (by decide)
    obtain ⟨v_7, m_v_7, r_v_7⟩ := (hp_v_6.1)
    refine lv_aload_n hx hb dX10_feed_30 rfl (lv_at hl 0 rfl) ?_
    refine lv_iload_n hx hb dX10_feed_31 rfl (lv_at hl 3 rfl) ?_
    refine tk_v (va_runV (As := [.int p3]) (rest := []) ⟨hx, hb, hml, hown, hts⟩ (c_X10_come__2 l D cy z H.size Ps ws hw.1 p0 p3 v_7 h_p0 r_p3 r_v_7 m_v_7) (cwV 1 hts (gV tw_1123 tw_1125 ts_37 tw_15 tw_1127) rfl rfl rfl (by decide +kernel) ⟨Nat.le_of_ble_eq_true rfl, Nat.le_of_ble_eq_true rfl⟩) (tg_preV hw hK hSD hA (ci := 10) (q := (RX10, TX10, 49)) rfl h_p0 rfl) rfl rfl hl.1 rfl (lv_room (Nat.le_of_ble_eq_true rfl)) dX10_feed_32 ⟨Nat.le_of_ble_eq_true rfl, Nat.le_of_ble_eq_true rfl⟩) hw hA ⟨by decide, by decide⟩ (fun ws H locs hp_v_8 hw hF9 => ?_)
    have n_k_1 := FLD.over hF9 n_k_1 (by decide)
    obtain ⟨v_9, m_v_9, r_v_9⟩ := (hp_v_8.1)
    refine lv_aload_n hx hb dX10_feed_35 rfl (lv_at hl 0 rfl) ?_
    refine lv_iload hx hb dX10_feed_36 (lv_at hl 4 rfl) ?_
    refine tk_v (va_runV (As := [.int p4]) (rest := []) ⟨hx, hb, hml, hown, hts⟩ (c_X10_come__3 l D cy z H.size Ps ws hw.1 p0 p4 v_9 h_p0 r_p4 r_v_9 m_v_9) (cwV 1 hts (gV tw_1123 tw_1125 ts_37 tw_15 tw_1127) rfl rfl rfl (by decide +kernel) ⟨Nat.le_of_ble_eq_true rfl, Nat.le_of_ble_eq_true rfl⟩) (tg_preV hw hK hSD hA (ci := 10) (q := (RX10, TX10, 49)) rfl h_p0 rfl) rfl rfl hl.1 rfl (lv_room (Nat.le_of_ble_eq_true rfl)) dX10_feed_38 ⟨Nat.le_of_ble_eq_true rfl, Nat.le_of_ble_eq_true rfl⟩) hw hA ⟨by decide, by decide⟩ (fun ws H locs hp_v_10 hw hF9 => ?_)
    have n_k_1 := FLD.over hF9 n_k_1 (by decide)
    obtain ⟨v_11, m_v_11, r_v_11⟩ := (hp_v_10.1)
    refine lv_aload_n hx hb dX10_feed_41 rfl (lv_at hl 0 rfl) ?_
    refine lv_iload hx hb dX10_feed_42 (lv_at hl 5 rfl) ?_
    refine tk_v (va_runV (As := [.int p5]) (rest := []) ⟨hx, hb, hml, hown, hts⟩ (c_X10_come__4 l D cy z H.size Ps ws hw.1 p0 p5 v_11 h_p0 r_p5 r_v_11 m_v_11) (cwV 1 hts (gV tw_1123 tw_1125 ts_37 tw_15 tw_1127) rfl rfl rfl (by decide +kernel) ⟨Nat.le_of_ble_eq_true rfl, Nat.le_of_ble_eq_true rfl⟩) (tg_preV hw hK hSD hA (ci := 10) (q := (RX10, TX10, 49)) rfl h_p0 rfl) rfl rfl hl.1 rfl (lv_room (Nat.le_of_ble_eq_true rfl)) dX10_feed_44 ⟨Nat.le_of_ble_eq_true rfl, Nat.le_of_ble_eq_true rfl⟩) hw hA ⟨by decide, by decide⟩ (fun ws H locs hp_v_12 hw hF9 => ?_)
    have n_k_1 := FLD.over hF9 n_k_1 (by decide)
    obtain ⟨v_13, m_v_13, r_v_13⟩ := (hp_v_12.1)
    refine lv_aload_n hx hb dX10_feed_47 rfl (lv_at hl 0 rfl) ?_
    refine tg_mem (ci := 10) (C := RX10) (T := TX10) (N := 49) hx hb hts inX10 hown hK hw 2 m_v_13 rfl (by decide) (hts _ tw_1139) (fun _ h9 => h9) dX10_feed_48 ?_
    subst hQ
    exact W.iret (v := v_13) hx hb hr (fun t ht hW => ⟨⟨v_13, ws, rfl, ⟨⟨r_v_13.to (by decide), (fun _ => trivial), (fun h0 => trivial)⟩, hw.1, hw.2.2.2.2.1⟩, by rw [ht]; exact hw.2.1, va_K.moved hW.alike hK, hw.2.2.1⟩, hw.2.2.2.1.F ht⟩) hw.2.2.2.1.2.2 dX10_feed_51
  · have r_v_3 : RI v_3 941 960 := rc_lt2 rl_940 r_v_3 (ti_nle c_15) (by decide)
    have r_vu_2 : RI vu_2 921 940 := ⟨by have k1 := r_v_3.1; have k2 := r_vu_2.1; omega, by have k1 := r_v_3.2; have k2 := r_vu_2.2; omega⟩
    refine lv_iconst (v := (-1)) hx hb dX10_feed_18 (by decide) ?_
    subst hQ
    exact W.iret (v := (-1)) hx hb hr (fun t ht hW => ⟨⟨(-1), ws, rfl, ⟨⟨rl_m1.to (by decide), (fun _ => trivial), (fun h0 => trivial)⟩, hw.1, hw.2.2.2.2.1⟩, by rw [ht]; exact hw.2.1, va_K.moved hW.alike hK, hw.2.2.1⟩, hw.2.2.2.1.F ht⟩) hw.2.2.2.1.2.2 dX10_feed_19
abbrev wr_X10_isLetter : List (Nat × Nat) := []
abbrev wa_X10_isLetter : List Nat := []
set_option maxHeartbeats 4000000 in
set_option maxRecDepth 100000 in
theorem c_X10_isLetter (l : Launch) (D : va_G) (cy : Nat → ClassId) (z : Nat → Nat) (sz : Nat) (Ps : PSI) (w0 : va_W) (hT : HT cy GG Ps w0) (p0 : Int32) (r_p0 : RI p0 0 255) : Met l yX10_isLetter (Cond.code yX10_isLetter cX10_isLetter 1 (some .boolean) :: gT) ({ frames := 0, cells := 0, slots := 0, locals := 200 } : Room) (va_Pc [.int p0] (PRE D cy z w0 sz)) (va_Qi (fun (r : Int32) (u : Unit) => RI r 0 1 ∧ (r = 0 → True) ∧ (¬ r = 0 → RI p0 97 122 ∧ True)) (BB D cy (va_A w0 sz) (fun (u : Unit) => w0)) (va_A w0 sz)) 0 0 (va_A w0 sz) := by
  refine Met.ofW (cc := cX10_isLetter) (maxL := 1) (ret := (some .boolean)) (by decide) rfl ?_
  intro p e s m args below meth c s₁ B hml hv
  obtain ⟨rfl, hsz, hP, hK, hD0, hSD⟩ := hv
  have hx := B.exec
  have hb := B.bytes
  have hr := B.returns
  have hlocks := B.notSynchronized
  have hts : ∀ w ∈ gT, w.before _ s = true := fun w h => atoms_spec (ws := Cond.code yX10_isLetter cX10_isLetter 1 (some .boolean) :: gT) B.pre w (List.mem_cons_of_mem _ h)
  have hown : s.vm.findClass RX10 = some m.cls := findClass_of_methodNamed B.named
  subst hsz
  have hD := hD0.self (sz := s.heap.size)
  generalize hAe : va_A w0 s.heap.size = A at hD hSD ⊢
  have hA : ∀ q : Nat, s.heap.size ≤ q → A q := fun q h => by rw [← hAe]; exact Or.inr h
  have hl := lv_entry ([.int p0]) (n := 1) (Nat.le_of_ble_eq_true rfl)
  rw [lg_entry_eq]
  generalize (lg_sl ([.int p0]) ++ List.replicate (1 - (lg_sl ([.int p0])).length) Slot.unset).toArray = ls at hl ⊢
  have hl : lv_has ls 1 [(0, .int p0)] := hl
  refine nameQ (fun Q hQ => ?_)
  have hw : WD D cy GG A s wr_X10_isLetter wa_X10_isLetter Ps w0 Ps w0 s.heap [] := ⟨hT, hP, hD, va_S.rf, FR.rf, hT.1, [], (List.append_nil _).symm⟩
  refine lv_iload_n hx hb dX10_isLetter_0 rfl (lv_at hl 0 rfl) ?_
  refine lv_bipush (v := 97) hx hb dX10_isLetter_1 (by decide) ?_
  refine lv_icmp_lt (tgt := 16) hx hb dX10_isLetter_3 (by decide) (fun c_3 => ?_) (fun c_3 => ?_)
  · have r_p0 : RI p0 0 96 := rc_lt1 r_p0 rl_97 (ti_lt c_3) (by decide)
    refine lv_iconst (v := 0) hx hb dX10_isLetter_16 (by decide) ?_
    subst hQ
    exact W.zret (v := 0) hx hb hr (rfl) (fun t ht hW => ⟨⟨0, (), rfl, ⟨rl_0.to (by decide), (fun h0 => trivial), (fun h0 => absurd rfl h0)⟩, by rw [ht]; exact hw.2.1, va_K.moved hW.alike hK, hw.2.2.1⟩, hw.2.2.2.1.F ht⟩) hw.2.2.2.1.2.2 dX10_isLetter_17
  · have r_p0 : RI p0 97 255 := rc_le2 rl_97 r_p0 (ti_nlt c_3) (by decide)
    refine lv_iload_n hx hb dX10_isLetter_6 rfl (lv_at hl 0 rfl) ?_
    refine lv_bipush (v := 122) hx hb dX10_isLetter_7 (by decide) ?_
    refine lv_icmp_gt (tgt := 16) hx hb dX10_isLetter_9 (by decide) (fun c_9 => ?_) (fun c_9 => ?_)
    · have r_p0 : RI p0 123 255 := rc_lt2 rl_122 r_p0 (ti_lt c_9) (by decide)
      refine lv_iconst (v := 0) hx hb dX10_isLetter_16 (by decide) ?_
      subst hQ
      exact W.zret (v := 0) hx hb hr (rfl) (fun t ht hW => ⟨⟨0, (), rfl, ⟨rl_0.to (by decide), (fun h0 => trivial), (fun h0 => absurd rfl h0)⟩, by rw [ht]; exact hw.2.1, va_K.moved hW.alike hK, hw.2.2.1⟩, hw.2.2.2.1.F ht⟩) hw.2.2.2.1.2.2 dX10_isLetter_17
    · have r_p0 : RI p0 97 122 := rc_le1 r_p0 rl_122 (ti_nlt c_9) (by decide)
      refine lv_iconst (v := 1) hx hb dX10_isLetter_12 (by decide) ?_
      refine lv_goto (tgt := 17) hx hb dX10_isLetter_13 (by decide) ?_
      subst hQ
      exact W.zret (v := 1) hx hb hr (rfl) (fun t ht hW => ⟨⟨1, (), rfl, ⟨rl_1.to (by decide), (fun _ => trivial), (fun h0 => ⟨r_p0, trivial⟩)⟩, by rw [ht]; exact hw.2.1, va_K.moved hW.alike hK, hw.2.2.1⟩, hw.2.2.2.1.F ht⟩) hw.2.2.2.1.2.2 dX10_isLetter_17
abbrev wr_X10_tapeAt : List (Nat × Nat) := []
abbrev wa_X10_tapeAt : List Nat := []
set_option maxHeartbeats 4000000 in
set_option maxRecDepth 100000 in
theorem c_X10_tapeAt (l : Launch) (D : va_G) (cy : Nat → ClassId) (z : Nat → Nat) (sz : Nat) (Ps : PSI) (w0 : va_W) (hT : HT cy GG Ps w0) (p0 : Nat) (p1 : Int32) (h_p0 : (p0, 55) ∈ Ps) (r_p1 : RI p1 0 940) : Met l yX10_tapeAt (Cond.code yX10_tapeAt cX10_tapeAt 2 (some .int) :: gT) ({ frames := 0, cells := 0, slots := 0, locals := 200 } : Room) (va_Pc [.ref p0, .int p1] (PRE D cy z w0 sz)) (va_Qi (fun (r : Int32) (u : Unit) => RI r 0 255 ∧ (r = 0 → True) ∧ (¬ r = 0 → RI p1 0 939 ∧ True)) (BB D cy (va_A w0 sz) (fun (u : Unit) => w0)) (va_A w0 sz)) 0 0 (va_A w0 sz) := by
  refine Met.ofW (cc := cX10_tapeAt) (maxL := 2) (ret := (some .int)) (by decide) rfl ?_
  intro p e s m args below meth c s₁ B hml hv
  obtain ⟨rfl, hsz, hP, hK, hD0, hSD⟩ := hv
  have hx := B.exec
  have hb := B.bytes
  have hr := B.returns
  have hlocks := B.notSynchronized
  have hts : ∀ w ∈ gT, w.before _ s = true := fun w h => atoms_spec (ws := Cond.code yX10_tapeAt cX10_tapeAt 2 (some .int) :: gT) B.pre w (List.mem_cons_of_mem _ h)
  have hown : s.vm.findClass RX10 = some m.cls := findClass_of_methodNamed B.named
  subst hsz
  have hD := hD0.self (sz := s.heap.size)
  generalize hAe : va_A w0 s.heap.size = A at hD hSD ⊢
  have hA : ∀ q : Nat, s.heap.size ≤ q → A q := fun q h => by rw [← hAe]; exact Or.inr h
  have hl := lv_entry ([.ref p0, .int p1]) (n := 2) (Nat.le_of_ble_eq_true rfl)
  rw [lg_entry_eq]
  generalize (lg_sl ([.ref p0, .int p1]) ++ List.replicate (2 - (lg_sl ([.ref p0, .int p1])).length) Slot.unset).toArray = ls at hl ⊢
  have hl : lv_has ls 2 [(0, .ref p0), (1, .int p1)] := hl
  refine nameQ (fun Q hQ => ?_)
  have hw : WD D cy GG A s wr_X10_tapeAt wa_X10_tapeAt Ps w0 Ps w0 s.heap [] := ⟨hT, hP, hD, va_S.rf, FR.rf, hT.1, [], (List.append_nil _).symm⟩
  refine lv_iload_n hx hb dX10_tapeAt_0 rfl (lv_at hl 1 rfl) ?_
  refine lv_aload_n hx hb dX10_tapeAt_1 rfl (lv_at hl 0 rfl) ?_
  refine tg_get (ci := 10) (ts := ty_MODEL) (C := RX10) (T := TX10) (N := 49) hx hb hts inX10 hown hK hw h_p0 rfl rfl 3 (by decide) (hts _ tw_1140) (fun _ h9 => h9) (ft := vI 0 940) rfl dX10_tapeAt_2 (fun u_1 hv_u_1 m_u_1 => ?_)
  obtain ⟨vu_1, rfl, r_vu_1⟩ := hv_u_1
  refine lv_icmp_ge (tgt := 17) hx hb dX10_tapeAt_5 (by decide) (fun c_5 => ?_) (fun c_5 => ?_)
  · refine lv_iconst (v := 0) hx hb dX10_tapeAt_17 (by decide) ?_
    subst hQ
    exact W.iret (v := 0) hx hb hr (fun t ht hW => ⟨⟨0, (), rfl, ⟨rl_0.to (by decide), (fun h0 => trivial), (fun h0 => absurd rfl h0)⟩, by rw [ht]; exact hw.2.1, va_K.moved hW.alike hK, hw.2.2.1⟩, hw.2.2.2.1.F ht⟩) hw.2.2.2.1.2.2 dX10_tapeAt_18
  · have r_p1 : RI p1 0 939 := rc_lt1 r_p1 r_vu_1 (ti_nle c_5) (by decide)
    have r_vu_1 : RI vu_1 1 940 := rc_lt2 r_p1 r_vu_1 (ti_nle c_5) (by decide)
    refine lv_aload_n hx hb dX10_tapeAt_8 rfl (lv_at hl 0 rfl) ?_
    refine tg_get (ci := 10) (ts := ty_MODEL) (C := RX10) (T := TX10) (N := 49) hx hb hts inX10 hown hK hw h_p0 rfl rfl 1 (by decide) (hts _ tw_1138) (fun _ h9 => h9) (ft := vR 40) rfl dX10_tapeAt_9 (fun u_2 hv_u_2 m_u_2 => ?_)
    obtain ⟨vu_2, rfl, h_vu_2⟩ := hv_u_2
    refine lv_iload_n hx hb dX10_tapeAt_12 rfl (lv_at hl 1 rfl) ?_
    refine tg_iald (lo := 0) (hi := 255) hx hb hK hw h_vu_2 rfl 0 939 r_p1 (by decide) (by exact fun _ _ _ => ⟨Int.le_refl _, Int.le_refl _⟩) dX10_tapeAt_13 (fun v_3 r_v_3 m_v_3 o_v_3 => ?_)
    refine lv_goto (tgt := 18) hx hb dX10_tapeAt_14 (by decide) ?_
    subst hQ
    exact W.iret (v := v_3) hx hb hr (fun t ht hW => ⟨⟨v_3, (), rfl, ⟨r_v_3.to (by decide), (fun h0 => trivial), (fun h0 => ⟨r_p1, trivial⟩)⟩, by rw [ht]; exact hw.2.1, va_K.moved hW.alike hK, hw.2.2.1⟩, hw.2.2.2.1.F ht⟩) hw.2.2.2.1.2.2 dX10_tapeAt_18
abbrev wr_X10_isDigit : List (Nat × Nat) := []
abbrev wa_X10_isDigit : List Nat := []
set_option maxHeartbeats 4000000 in
set_option maxRecDepth 100000 in
theorem c_X10_isDigit (l : Launch) (D : va_G) (cy : Nat → ClassId) (z : Nat → Nat) (sz : Nat) (Ps : PSI) (w0 : va_W) (hT : HT cy GG Ps w0) (p0 : Int32) (r_p0 : RI p0 0 255) : Met l yX10_isDigit (Cond.code yX10_isDigit cX10_isDigit 1 (some .boolean) :: gT) ({ frames := 0, cells := 0, slots := 0, locals := 200 } : Room) (va_Pc [.int p0] (PRE D cy z w0 sz)) (va_Qi (fun (r : Int32) (u : Unit) => RI r 0 1 ∧ (r = 0 → True) ∧ (¬ r = 0 → RI p0 48 57 ∧ True)) (BB D cy (va_A w0 sz) (fun (u : Unit) => w0)) (va_A w0 sz)) 0 0 (va_A w0 sz) := by
  refine Met.ofW (cc := cX10_isDigit) (maxL := 1) (ret := (some .boolean)) (by decide) rfl ?_
  intro p e s m args below meth c s₁ B hml hv
  obtain ⟨rfl, hsz, hP, hK, hD0, hSD⟩ := hv
  have hx := B.exec
  have hb := B.bytes
  have hr := B.returns
  have hlocks := B.notSynchronized
  have hts : ∀ w ∈ gT, w.before _ s = true := fun w h => atoms_spec (ws := Cond.code yX10_isDigit cX10_isDigit 1 (some .boolean) :: gT) B.pre w (List.mem_cons_of_mem _ h)
  have hown : s.vm.findClass RX10 = some m.cls := findClass_of_methodNamed B.named
  subst hsz
  have hD := hD0.self (sz := s.heap.size)
  generalize hAe : va_A w0 s.heap.size = A at hD hSD ⊢
  have hA : ∀ q : Nat, s.heap.size ≤ q → A q := fun q h => by rw [← hAe]; exact Or.inr h
  have hl := lv_entry ([.int p0]) (n := 1) (Nat.le_of_ble_eq_true rfl)
  rw [lg_entry_eq]
  generalize (lg_sl ([.int p0]) ++ List.replicate (1 - (lg_sl ([.int p0])).length) Slot.unset).toArray = ls at hl ⊢
  have hl : lv_has ls 1 [(0, .int p0)] := hl
  refine nameQ (fun Q hQ => ?_)
  have hw : WD D cy GG A s wr_X10_isDigit wa_X10_isDigit Ps w0 Ps w0 s.heap [] := ⟨hT, hP, hD, va_S.rf, FR.rf, hT.1, [], (List.append_nil _).symm⟩
  refine lv_iload_n hx hb dX10_isDigit_0 rfl (lv_at hl 0 rfl) ?_
  refine lv_bipush (v := 48) hx hb dX10_isDigit_1 (by decide) ?_
  refine lv_icmp_lt (tgt := 16) hx hb dX10_isDigit_3 (by decide) (fun c_3 => ?_) (fun c_3 => ?_)
  · have r_p0 : RI p0 0 47 := rc_lt1 r_p0 rl_48 (ti_lt c_3) (by decide)
    refine lv_iconst (v := 0) hx hb dX10_isDigit_16 (by decide) ?_
    subst hQ
    exact W.zret (v := 0) hx hb hr (rfl) (fun t ht hW => ⟨⟨0, (), rfl, ⟨rl_0.to (by decide), (fun h0 => trivial), (fun h0 => absurd rfl h0)⟩, by rw [ht]; exact hw.2.1, va_K.moved hW.alike hK, hw.2.2.1⟩, hw.2.2.2.1.F ht⟩) hw.2.2.2.1.2.2 dX10_isDigit_17
  · have r_p0 : RI p0 48 255 := rc_le2 rl_48 r_p0 (ti_nlt c_3) (by decide)
    refine lv_iload_n hx hb dX10_isDigit_6 rfl (lv_at hl 0 rfl) ?_
    refine lv_bipush (v := 57) hx hb dX10_isDigit_7 (by decide) ?_
    refine lv_icmp_gt (tgt := 16) hx hb dX10_isDigit_9 (by decide) (fun c_9 => ?_) (fun c_9 => ?_)
    · have r_p0 : RI p0 58 255 := rc_lt2 rl_57 r_p0 (ti_lt c_9) (by decide)
      refine lv_iconst (v := 0) hx hb dX10_isDigit_16 (by decide) ?_
      subst hQ
      exact W.zret (v := 0) hx hb hr (rfl) (fun t ht hW => ⟨⟨0, (), rfl, ⟨rl_0.to (by decide), (fun h0 => trivial), (fun h0 => absurd rfl h0)⟩, by rw [ht]; exact hw.2.1, va_K.moved hW.alike hK, hw.2.2.1⟩, hw.2.2.2.1.F ht⟩) hw.2.2.2.1.2.2 dX10_isDigit_17
    · have r_p0 : RI p0 48 57 := rc_le1 r_p0 rl_57 (ti_nlt c_9) (by decide)
      refine lv_iconst (v := 1) hx hb dX10_isDigit_12 (by decide) ?_
      refine lv_goto (tgt := 17) hx hb dX10_isDigit_13 (by decide) ?_
      subst hQ
      exact W.zret (v := 1) hx hb hr (rfl) (fun t ht hW => ⟨⟨1, (), rfl, ⟨rl_1.to (by decide), (fun _ => trivial), (fun h0 => ⟨r_p0, trivial⟩)⟩, by rw [ht]; exact hw.2.1, va_K.moved hW.alike hK, hw.2.2.1⟩, hw.2.2.2.1.F ht⟩) hw.2.2.2.1.2.2 dX10_isDigit_17
abbrev wr_X10_isLetter__1 : List (Nat × Nat) := []
abbrev wa_X10_isLetter__1 : List Nat := []
set_option maxHeartbeats 4000000 in
set_option maxRecDepth 100000 in
theorem c_X10_isLetter__1 (l : Launch) (D : va_G) (cy : Nat → ClassId) (z : Nat → Nat) (sz : Nat) (Ps : PSI) (w0 : va_W) (hT : HT cy GG Ps w0) (p0 : Int32) (r_p0 : RI p0 48 122) : Met l yX10_isLetter (Cond.code yX10_isLetter cX10_isLetter 1 (some .boolean) :: gT) ({ frames := 0, cells := 0, slots := 0, locals := 200 } : Room) (va_Pc [.int p0] (PRE D cy z w0 sz)) (va_Qi (fun (r : Int32) (u : Unit) => RI r 0 1 ∧ (r = 0 → RI p0 48 96 ∧ True) ∧ (¬ r = 0 → RI p0 97 122 ∧ True)) (BB D cy (va_A w0 sz) (fun (u : Unit) => w0)) (va_A w0 sz)) 0 0 (va_A w0 sz) := by
  refine Met.ofW (cc := cX10_isLetter) (maxL := 1) (ret := (some .boolean)) (by decide) rfl ?_
  intro p e s m args below meth c s₁ B hml hv
  obtain ⟨rfl, hsz, hP, hK, hD0, hSD⟩ := hv
  have hx := B.exec
  have hb := B.bytes
  have hr := B.returns
  have hlocks := B.notSynchronized
  have hts : ∀ w ∈ gT, w.before _ s = true := fun w h => atoms_spec (ws := Cond.code yX10_isLetter cX10_isLetter 1 (some .boolean) :: gT) B.pre w (List.mem_cons_of_mem _ h)
  have hown : s.vm.findClass RX10 = some m.cls := findClass_of_methodNamed B.named
  subst hsz
  have hD := hD0.self (sz := s.heap.size)
  generalize hAe : va_A w0 s.heap.size = A at hD hSD ⊢
  have hA : ∀ q : Nat, s.heap.size ≤ q → A q := fun q h => by rw [← hAe]; exact Or.inr h
  have hl := lv_entry ([.int p0]) (n := 1) (Nat.le_of_ble_eq_true rfl)
  rw [lg_entry_eq]
  generalize (lg_sl ([.int p0]) ++ List.replicate (1 - (lg_sl ([.int p0])).length) Slot.unset).toArray = ls at hl ⊢
  have hl : lv_has ls 1 [(0, .int p0)] := hl
  refine nameQ (fun Q hQ => ?_)
  have hw : WD D cy GG A s wr_X10_isLetter__1 wa_X10_isLetter__1 Ps w0 Ps w0 s.heap [] := ⟨hT, hP, hD, va_S.rf, FR.rf, hT.1, [], (List.append_nil _).symm⟩
  refine lv_iload_n hx hb dX10_isLetter_0 rfl (lv_at hl 0 rfl) ?_
  refine lv_bipush (v := 97) hx hb dX10_isLetter_1 (by decide) ?_
  refine lv_icmp_lt (tgt := 16) hx hb dX10_isLetter_3 (by decide) (fun c_3 => ?_) (fun c_3 => ?_)
  · have r_p0 : RI p0 48 96 := rc_lt1 r_p0 rl_97 (ti_lt c_3) (by decide)
    refine lv_iconst (v := 0) hx hb dX10_isLetter_16 (by decide) ?_
    subst hQ
    exact W.zret (v := 0) hx hb hr (rfl) (fun t ht hW => ⟨⟨0, (), rfl, ⟨rl_0.to (by decide), (fun h0 => ⟨r_p0, trivial⟩), (fun h0 => absurd rfl h0)⟩, by rw [ht]; exact hw.2.1, va_K.moved hW.alike hK, hw.2.2.1⟩, hw.2.2.2.1.F ht⟩) hw.2.2.2.1.2.2 dX10_isLetter_17
  · have r_p0 : RI p0 97 122 := rc_le2 rl_97 r_p0 (ti_nlt c_3) (by decide)
    refine lv_iload_n hx hb dX10_isLetter_6 rfl (lv_at hl 0 rfl) ?_
    refine lv_bipush (v := 122) hx hb dX10_isLetter_7 (by decide) ?_
    refine lv_icmp_gt (tgt := 16) hx hb dX10_isLetter_9 (by decide) (fun c_9 => ?_) (fun c_9 => ?_)
    · have r_p0 : RI p0 123 122 := rc_lt2 rl_122 r_p0 (ti_lt c_9) (by decide)
      exact (r_p0.no (by decide)).elim
    · refine lv_iconst (v := 1) hx hb dX10_isLetter_12 (by decide) ?_
      refine lv_goto (tgt := 17) hx hb dX10_isLetter_13 (by decide) ?_
      subst hQ
      exact W.zret (v := 1) hx hb hr (rfl) (fun t ht hW => ⟨⟨1, (), rfl, ⟨rl_1.to (by decide), (fun h0 => absurd h0 (by decide)), (fun h0 => ⟨r_p0, trivial⟩)⟩, by rw [ht]; exact hw.2.1, va_K.moved hW.alike hK, hw.2.2.1⟩, hw.2.2.2.1.F ht⟩) hw.2.2.2.1.2.2 dX10_isLetter_17
abbrev wr_X10_go : List (Nat × Nat) := [(10, 5), (10, 6), (10, 7), (10, 8), (10, 9), (10, 12)]
abbrev wa_X10_go : List Nat := []
set_option maxHeartbeats 4000000 in
set_option maxRecDepth 100000 in
theorem c_X10_go (l : Launch) (D : va_G) (cy : Nat → ClassId) (z : Nat → Nat) (sz : Nat) (Ps : PSI) (w0 : va_W) (hT : HT cy GG Ps w0) (p0 : Nat) (h_p0 : (p0, 55) ∈ Ps) : Met l yX10_go (Cond.code yX10_go cX10_go 5 none :: gT) ({ frames := 2, cells := 0, slots := 0, locals := 400 } : Room) (va_Pc [.ref p0] (PRE D cy z w0 sz)) (va_Qv (fun (u : va_W) => (True) ∧ HT cy GG Ps u ∧ FR wr_X10_go wa_X10_go Ps w0 u) (BB D cy (va_A w0 sz) (fun (u : va_W) => u)) (va_A w0 sz)) 0 0 (va_A w0 sz) := by
  refine Met.ofW (cc := cX10_go) (maxL := 5) (ret := none) (by decide) rfl ?_
  intro p e s m args below meth c s₁ B hml hv
  obtain ⟨rfl, hsz, hP, hK, hD0, hSD⟩ := hv
  have hx := B.exec
  have hb := B.bytes
  have hr := B.returns
  have hlocks := B.notSynchronized
  have hts : ∀ w ∈ gT, w.before _ s = true := fun w h => atoms_spec (ws := Cond.code yX10_go cX10_go 5 none :: gT) B.pre w (List.mem_cons_of_mem _ h)
  have hown : s.vm.findClass RX10 = some m.cls := findClass_of_methodNamed B.named
  subst hsz
  have hD := hD0.self (sz := s.heap.size)
  generalize hAe : va_A w0 s.heap.size = A at hD hSD ⊢
  have hA : ∀ q : Nat, s.heap.size ≤ q → A q := fun q h => by rw [← hAe]; exact Or.inr h
  have hl := lv_entry ([.ref p0]) (n := 5) (Nat.le_of_ble_eq_true rfl)
  rw [lg_entry_eq]
  generalize (lg_sl ([.ref p0]) ++ List.replicate (5 - (lg_sl ([.ref p0])).length) Slot.unset).toArray = ls at hl ⊢
  have hl : lv_has ls 5 [(0, .ref p0)] := hl
  refine nameQ (fun Q hQ => ?_)
  have hw : WD D cy GG A s wr_X10_go wa_X10_go Ps w0 Ps w0 s.heap [] := ⟨hT, hP, hD, va_S.rf, FR.rf, hT.1, [], (List.append_nil _).symm⟩
  have B390 : ∀ (x1 : Int32) (x2 : Int32) (x3 : Int32) (y0 : Int32) (z0_3 : Int32) (z0_4 : Int32) (z0_5 : Int32) (z0_6 : Int32) (ws : va_W) (H : Heap) (locs : List Loc) (ls : Array Slot), RI x1 48 122 → RI x2 0 1 → RI x3 0 1 → RI y0 1 3 → RI z0_3 1 940 → FLD ws p0 10 3 (.int z0_3) → RI z0_4 0 2147483647 → FLD ws p0 10 4 (.int z0_4) → RI z0_5 0 940 → FLD ws p0 10 5 (.int z0_5) → RI z0_6 0 940 → FLD ws p0 10 6 (.int z0_6) → WD D cy GG A s wr_X10_go wa_X10_go Ps w0 Ps ws H locs → lv_has ls 5 [(0, .ref p0), (1, .int x1), (2, .int x2), (3, .int x3)] → W p l e (headSpec (Cond.code yX10_go cX10_go 5 none :: gT) ({ frames := 2, cells := 0, slots := 0, locals := 400 } : Room)).room s m ([.ref p0] : List Value).toArray below meth c H locs 0 0 Q (F0 m 390 ls [.int y0, .ref p0]) := by
    intro x1 x2 x3 y0 z0_3 z0_4 z0_5 z0_6 ws H locs ls r_x1 r_x2 r_x3 r_y0 r_z0_3 m_z0_3 r_z0_4 m_z0_4 r_z0_5 m_z0_5 r_z0_6 m_z0_6 hw hl
    refine tg_put (ci := 10) (ts := ty_MODEL) (v := .int y0) (ty := .int) (C := RX10) (T := TX10) (N := 49) hx hb hts inX10 tyX10 tyX10_ok nmX10 hown hK hw h_p0 rfl rfl 7 (by decide) (hts _ tw_1144) (fun _ h9 => h9) rfl (by decide +kernel) rfl rfl (ft := vI (-2147483648) 2147483647) rfl ⟨_, rfl, (r_y0.to (by decide))⟩ (by decide) dX10_go_390 (fun ws H locs hw n_k_1 hF9 => ?_)
    have m_z0_3 := FLD.over hF9 m_z0_3 (by decide)
    have m_z0_4 := FLD.over hF9 m_z0_4 (by decide)
    have m_z0_5 := FLD.over hF9 m_z0_5 (by decide)
    have m_z0_6 := FLD.over hF9 m_z0_6 (by decide)
    subst hQ
    exact W.vret hx hb hr (fun t ht hW => ⟨⟨ws, rfl, ⟨trivial, hw.1, hw.2.2.2.2.1⟩, by rw [ht]; exact hw.2.1, va_K.moved hW.alike hK, hw.2.2.1⟩, hw.2.2.2.1.F ht⟩) hw.2.2.2.1.2.2 dX10_go_393
  have B377 : ∀ (x1 : Int32) (x2 : Int32) (x3 : Int32) (z0_3 : Int32) (z0_4 : Int32) (z0_5 : Int32) (z0_6 : Int32) (ws : va_W) (H : Heap) (locs : List Loc) (ls : Array Slot), RI x1 48 122 → RI x2 0 1 → RI x3 0 1 → RI z0_3 1 940 → FLD ws p0 10 3 (.int z0_3) → RI z0_4 0 2147483647 → FLD ws p0 10 4 (.int z0_4) → RI z0_5 0 940 → FLD ws p0 10 5 (.int z0_5) → RI z0_6 0 940 → FLD ws p0 10 6 (.int z0_6) → WD D cy GG A s wr_X10_go wa_X10_go Ps w0 Ps ws H locs → lv_has ls 5 [(0, .ref p0), (1, .int x1), (2, .int x2), (3, .int x3)] → W p l e (headSpec (Cond.code yX10_go cX10_go 5 none :: gT) ({ frames := 2, cells := 0, slots := 0, locals := 400 } : Room)).room s m ([.ref p0] : List Value).toArray below meth c H locs 0 0 Q (F0 m 377 ls [.ref p0]) := by
    intro x1 x2 x3 z0_3 z0_4 z0_5 z0_6 ws H locs ls r_x1 r_x2 r_x3 r_z0_3 m_z0_3 r_z0_4 m_z0_4 r_z0_5 m_z0_5 r_z0_6 m_z0_6 hw hl
    refine lv_iconst (v := 1) hx hb dX10_go_377 (by decide) ?_
    refine lv_goto (tgt := 390) hx hb dX10_go_378 (by decide) ?_
    exact B390 x1 x2 x3 1 z0_3 z0_4 z0_5 z0_6 ws _ _ ls r_x1 r_x2 r_x3 (rl_1.to (by decide)) r_z0_3 m_z0_3 r_z0_4 m_z0_4 r_z0_5 m_z0_5 r_z0_6 m_z0_6 hw hl
  have B374 : ∀ (x1 : Int32) (x2 : Int32) (x3 : Int32) (y0 : Int32) (y1 : Int32) (z0_3 : Int32) (z0_4 : Int32) (z0_5 : Int32) (z0_6 : Int32) (ws : va_W) (H : Heap) (locs : List Loc) (ls : Array Slot), RI x1 48 122 → RI x2 0 1 → RI x3 1 1 → RI y0 3 7 → RI y1 (-940) 940 → RI z0_3 1 940 → FLD ws p0 10 3 (.int z0_3) → RI z0_4 0 2147483647 → FLD ws p0 10 4 (.int z0_4) → RI z0_5 0 940 → FLD ws p0 10 5 (.int z0_5) → RI z0_6 0 940 → FLD ws p0 10 6 (.int z0_6) → WD D cy GG A s wr_X10_go wa_X10_go Ps w0 Ps ws H locs → lv_has ls 5 [(0, .ref p0), (1, .int x1), (2, .int x2), (3, .int x3)] → W p l e (headSpec (Cond.code yX10_go cX10_go 5 none :: gT) ({ frames := 2, cells := 0, slots := 0, locals := 400 } : Room)).room s m ([.ref p0] : List Value).toArray below meth c H locs 0 0 Q (F0 m 374 ls [.int y0, .int y1, .ref p0]) := by
    intro x1 x2 x3 y0 y1 z0_3 z0_4 z0_5 z0_6 ws H locs ls r_x1 r_x2 r_x3 r_y0 r_y1 r_z0_3 m_z0_3 r_z0_4 m_z0_4 r_z0_5 m_z0_5 r_z0_6 m_z0_6 hw hl
    refine lv_icmp_le (tgt := 381) hx hb dX10_go_374 (by decide) (fun c_374 => ?_) (fun c_374 => ?_)
    · have r_y1 : RI y1 (-940) 7 := rc_le1 r_y1 r_y0 (ti_le c_374) (by decide)
      refine lv_iload_n hx hb dX10_go_381 rfl (lv_at hl 2 rfl) ?_
      refine lv_if_eq (tgt := 389) hx hb dX10_go_382 (by decide) (fun c_382 => ?_) (fun c_382 => ?_)
      · have r_x2 : RI x2 0 0 := rc_eq1 r_x2 rl_0 (ti_eq c_382) (by decide)
        refine lv_iconst (v := 3) hx hb dX10_go_389 (by decide) ?_
        exact B390 x1 x2 x3 3 z0_3 z0_4 z0_5 z0_6 ws _ _ ls r_x1 (r_x2.to (by decide)) (r_x3.to (by decide)) (rl_3.to (by decide)) r_z0_3 m_z0_3 r_z0_4 m_z0_4 r_z0_5 m_z0_5 r_z0_6 m_z0_6 hw hl
      · have r_x2 : RI x2 1 1 := rc_neL r_x2 rl_0 (ti_ne c_382) (by decide)
        refine lv_iconst (v := 2) hx hb dX10_go_385 (by decide) ?_
        refine lv_goto (tgt := 390) hx hb dX10_go_386 (by decide) ?_
        exact B390 x1 x2 x3 2 z0_3 z0_4 z0_5 z0_6 ws _ _ ls r_x1 (r_x2.to (by decide)) (r_x3.to (by decide)) (rl_2.to (by decide)) r_z0_3 m_z0_3 r_z0_4 m_z0_4 r_z0_5 m_z0_5 r_z0_6 m_z0_6 hw hl
    · have r_y1 : RI y1 4 940 := rc_lt2 r_y0 r_y1 (ti_nle c_374) (by decide)
      exact B377 x1 x2 x3 z0_3 z0_4 z0_5 z0_6 ws _ _ ls r_x1 r_x2 (r_x3.to (by decide)) r_z0_3 m_z0_3 r_z0_4 m_z0_4 r_z0_5 m_z0_5 r_z0_6 m_z0_6 hw hl
  have B215 : ∀ (nf : Nat) (x1 : Int32) (x2 : Int32) (x3 : Int32) (z0_3 : Int32) (z0_4 : Int32) (z0_5 : Int32) (z0_6 : Int32) (ws : va_W) (H : Heap) (locs : List Loc) (ls : Array Slot), 940 - z0_5.toInt < (nf : Int) → RI x1 48 122 → RI x2 0 1 → RI x3 0 1 → RI z0_3 1 940 → FLD ws p0 10 3 (.int z0_3) → RI z0_4 0 2147483647 → FLD ws p0 10 4 (.int z0_4) → RI z0_5 0 940 → FLD ws p0 10 5 (.int z0_5) → RI z0_6 0 940 → FLD ws p0 10 6 (.int z0_6) → WD D cy GG A s wr_X10_go wa_X10_go Ps w0 Ps ws H locs → lv_has ls 5 [(0, .ref p0), (1, .int x1), (2, .int x2), (3, .int x3)] → W p l e (headSpec (Cond.code yX10_go cX10_go 5 none :: gT) ({ frames := 2, cells := 0, slots := 0, locals := 400 } : Room)).room s m ([.ref p0] : List Value).toArray below meth c H locs 0 0 Q (F0 m 215 ls []) := by
    intro nf215
    induction nf215 with
    | zero =>
      intro x1 x2 x3 z0_3 z0_4 z0_5 z0_6 ws H locs ls hn215 r_x1 r_x2 r_x3 r_z0_3 m_z0_3 r_z0_4 m_z0_4 r_z0_5 m_z0_5 r_z0_6 m_z0_6 hw hl
      exact absurd hn215 (by have q0 := r_z0_5.1; have u0 := r_z0_5.2; omega)
    | succ nf215 ih215 =>
      have B337 : ∀ (x1 : Int32) (x2 : Int32) (x3 : Int32) (x4 : Int32) (z0_3 : Int32) (z0_4 : Int32) (z0_5 : Int32) (z0_6 : Int32) (ws : va_W) (H : Heap) (locs : List Loc) (ls : Array Slot), RI x1 48 122 → RI x2 0 1 → RI x3 0 1 → RI x4 0 255 → RI z0_3 1 940 → FLD ws p0 10 3 (.int z0_3) → RI z0_4 0 2147483647 → FLD ws p0 10 4 (.int z0_4) → RI z0_5 0 939 → FLD ws p0 10 5 (.int z0_5) → RI z0_6 0 940 → FLD ws p0 10 6 (.int z0_6) → 940 - z0_5.toInt < ((nf215 + 1 : Nat) : Int) → WD D cy GG A s wr_X10_go wa_X10_go Ps w0 Ps ws H locs → lv_has ls 5 [(0, .ref p0), (1, .int x1), (2, .int x2), (3, .int x3), (4, .int x4)] → W p l e (headSpec (Cond.code yX10_go cX10_go 5 none :: gT) ({ frames := 2, cells := 0, slots := 0, locals := 400 } : Room)).room s m ([.ref p0] : List Value).toArray below meth c H locs 0 0 Q (F0 m 337 ls []) := by
        intro x1 x2 x3 x4 z0_3 z0_4 z0_5 z0_6 ws H locs ls r_x1 r_x2 r_x3 r_x4 r_z0_3 m_z0_3 r_z0_4 m_z0_4 r_z0_5 m_z0_5 r_z0_6 m_z0_6 hn215 hw hl
        refine lv_aload_n hx hb dX10_go_337 rfl (lv_at hl 0 rfl) ?_
        refine lv_dup hx hb dX10_go_338 rfl ?_
        refine tg_mem (ci := 10) (C := RX10) (T := TX10) (N := 49) hx hb hts inX10 hown hK hw 5 m_z0_5 rfl (by decide) (hts _ tw_1142) (fun _ h9 => h9) dX10_go_339 ?_
        refine lv_iconst (v := 1) hx hb dX10_go_342 (by decide) ?_
        refine lv_iadd hx hb dX10_go_343 (lv_topi (fun v_2 e_v_2 => ?_))
        obtain ⟨t_v_2, r_v_2⟩ := tq_add (lo := 1) (hi := 940) r_z0_5 rl_1 (by decide +kernel) e_v_2
        have t_v_2 : v_2.toInt = z0_5.toInt + 1 := t_v_2
        refine tg_put (ci := 10) (ts := ty_MODEL) (v := .int v_2) (ty := .int) (C := RX10) (T := TX10) (N := 49) hx hb hts inX10 tyX10 tyX10_ok nmX10 hown hK hw h_p0 rfl rfl 5 (by decide) (hts _ tw_1142) (fun _ h9 => h9) rfl (by decide +kernel) rfl rfl (ft := vI 0 940) rfl ⟨_, rfl, (r_v_2.to (by decide))⟩ (by decide) dX10_go_344 (fun ws H locs hw n_k_3 hF9 => ?_)
        have m_z0_3 := FLD.over hF9 m_z0_3 (by decide)
        have m_z0_4 := FLD.over hF9 m_z0_4 (by decide)
        have m_z0_6 := FLD.over hF9 m_z0_6 (by decide)
        refine lv_goto (tgt := 215) hx hb dX10_go_347 (by decide) ?_
        exact ih215 x1 x2 x3 z0_3 z0_4 v_2 z0_6 ws _ _ ls (by have q0 := r_v_2.1; have u0 := r_v_2.2; have o0 := r_z0_5.1; have p0 := r_z0_5.2; omega) r_x1 r_x2 r_x3 r_z0_3 m_z0_3 r_z0_4 m_z0_4 (r_v_2.to (by decide)) n_k_3 r_z0_6 m_z0_6 hw (lv_sub hl [0, 1, 2, 3] rfl)
      have B307 : ∀ (x1 : Int32) (x2 : Int32) (x3 : Int32) (x4 : Int32) (z0_3 : Int32) (z0_4 : Int32) (z0_5 : Int32) (z0_6 : Int32) (ws : va_W) (H : Heap) (locs : List Loc) (ls : Array Slot), RI x1 48 122 → RI x2 0 1 → RI x3 0 1 → RI x4 0 255 → RI z0_3 1 940 → FLD ws p0 10 3 (.int z0_3) → RI z0_4 0 2147483647 → FLD ws p0 10 4 (.int z0_4) → RI z0_5 0 939 → FLD ws p0 10 5 (.int z0_5) → RI z0_6 0 940 → FLD ws p0 10 6 (.int z0_6) → 940 - z0_5.toInt < ((nf215 + 1 : Nat) : Int) → WD D cy GG A s wr_X10_go wa_X10_go Ps w0 Ps ws H locs → lv_has ls 5 [(0, .ref p0), (1, .int x1), (2, .int x2), (3, .int x3), (4, .int x4)] → W p l e (headSpec (Cond.code yX10_go cX10_go 5 none :: gT) ({ frames := 2, cells := 0, slots := 0, locals := 400 } : Room)).room s m ([.ref p0] : List Value).toArray below meth c H locs 0 0 Q (F0 m 307 ls []) := by
        intro x1 x2 x3 x4 z0_3 z0_4 z0_5 z0_6 ws H locs ls r_x1 r_x2 r_x3 r_x4 r_z0_3 m_z0_3 r_z0_4 m_z0_4 r_z0_5 m_z0_5 r_z0_6 m_z0_6 hn215 hw hl
        refine lv_aload_n hx hb dX10_go_307 rfl (lv_at hl 0 rfl) ?_
        refine tg_mem (ci := 10) (C := RX10) (T := TX10) (N := 49) hx hb hts inX10 hown hK hw 5 m_z0_5 rfl (by decide) (hts _ tw_1142) (fun _ h9 => h9) dX10_go_308 ?_
        refine lv_aload_n hx hb dX10_go_311 rfl (lv_at hl 0 rfl) ?_
        refine tg_mem (ci := 10) (C := RX10) (T := TX10) (N := 49) hx hb hts inX10 hown hK hw 6 m_z0_6 rfl (by decide) (hts _ tw_1143) (fun _ h9 => h9) dX10_go_312 ?_
        refine lv_isub hx hb dX10_go_315 (lv_topi (fun v_4 e_v_4 => ?_))
        obtain ⟨t_v_4, r_v_4⟩ := tq_sub (lo := (-940)) (hi := 939) r_z0_5 r_z0_6 (by decide +kernel) e_v_4
        refine lv_iconst (v := 3) hx hb dX10_go_316 (by decide) ?_
        refine lv_icmp_ge (tgt := 337) hx hb dX10_go_317 (by decide) (fun c_317 => ?_) (fun c_317 => ?_)
        · have r_v_4 : RI v_4 3 939 := rc_le2 rl_3 r_v_4 (ti_le c_317) (by decide)
          exact B337 x1 x2 x3 x4 z0_3 z0_4 z0_5 z0_6 ws _ _ ls r_x1 r_x2 r_x3 r_x4 r_z0_3 m_z0_3 r_z0_4 m_z0_4 r_z0_5 m_z0_5 r_z0_6 m_z0_6 (by have q0 := r_z0_5.1; have u0 := r_z0_5.2; omega) hw hl
        · have r_v_4 : RI v_4 (-940) 2 := rc_lt1 r_v_4 rl_3 (ti_nle c_317) (by decide)
          refine lv_aload_n hx hb dX10_go_320 rfl (lv_at hl 0 rfl) ?_
          refine lv_bipush (v := 10) hx hb dX10_go_321 (by decide) ?_
          refine lv_aload_n hx hb dX10_go_323 rfl (lv_at hl 0 rfl) ?_
          refine tg_get (ci := 10) (ts := ty_MODEL) (C := RX10) (T := TX10) (N := 49) hx hb hts inX10 hown hK hw h_p0 rfl rfl 8 (by decide) (hts _ tw_1145) (fun _ h9 => h9) (ft := vI (-2147483648) 2147483647) rfl dX10_go_324 (fun u_5 hv_u_5 m_u_5 => ?_)
          obtain ⟨vu_5, rfl, r_vu_5⟩ := hv_u_5
          refine lv_imul hx hb dX10_go_327 (lv_topi (fun v_6 e_v_6 => ?_))
          have r_v_6 := ri_any v_6
          refine lv_iload hx hb dX10_go_328 (lv_at hl 4 rfl) ?_
          refine lv_iadd hx hb dX10_go_330 (lv_topi (fun v_7 e_v_7 => ?_))
          have r_v_7 := ri_any v_7
          refine lv_bipush (v := 48) hx hb dX10_go_331 (by decide) ?_
          refine lv_isub hx hb dX10_go_333 (lv_topi (fun v_8 e_v_8 => ?_))
          have r_v_8 := ri_any v_8
          refine tg_put (ci := 10) (ts := ty_MODEL) (v := .int v_8) (ty := .int) (C := RX10) (T := TX10) (N := 49) hx hb hts inX10 tyX10 tyX10_ok nmX10 hown hK hw h_p0 rfl rfl 8 (by decide) (hts _ tw_1145) (fun _ h9 => h9) rfl (by decide +kernel) rfl rfl (ft := vI (-2147483648) 2147483647) rfl ⟨_, rfl, r_v_8⟩ (by decide) dX10_go_334 (fun ws H locs hw n_k_9 hF9 => ?_)
          have m_z0_3 := FLD.over hF9 m_z0_3 (by decide)
          have m_z0_4 := FLD.over hF9 m_z0_4 (by decide)
          have m_z0_5 := FLD.over hF9 m_z0_5 (by decide)
          have m_z0_6 := FLD.over hF9 m_z0_6 (by decide)
          exact B337 x1 x2 x3 x4 z0_3 z0_4 z0_5 z0_6 ws _ _ ls r_x1 r_x2 r_x3 r_x4 r_z0_3 m_z0_3 r_z0_4 m_z0_4 r_z0_5 m_z0_5 r_z0_6 m_z0_6 (by have q0 := r_z0_5.1; have u0 := r_z0_5.2; omega) hw hl
      have B272 : ∀ (x1 : Int32) (x2 : Int32) (x3 : Int32) (x4 : Int32) (y0 : Int32) (z0_3 : Int32) (z0_4 : Int32) (z0_5 : Int32) (z0_6 : Int32) (ws : va_W) (H : Heap) (locs : List Loc) (ls : Array Slot), RI x1 48 122 → RI x2 0 1 → RI x3 0 1 → RI x4 0 255 → RI y0 0 1 → RI z0_3 1 940 → FLD ws p0 10 3 (.int z0_3) → RI z0_4 0 2147483647 → FLD ws p0 10 4 (.int z0_4) → RI z0_5 0 939 → FLD ws p0 10 5 (.int z0_5) → RI z0_6 0 940 → FLD ws p0 10 6 (.int z0_6) → 940 - z0_5.toInt < ((nf215 + 1 : Nat) : Int) → WD D cy GG A s wr_X10_go wa_X10_go Ps w0 Ps ws H locs → lv_has ls 5 [(0, .ref p0), (1, .int x1), (2, .int x2), (3, .int x3), (4, .int x4)] → W p l e (headSpec (Cond.code yX10_go cX10_go 5 none :: gT) ({ frames := 2, cells := 0, slots := 0, locals := 400 } : Room)).room s m ([.ref p0] : List Value).toArray below meth c H locs 0 0 Q (F0 m 272 ls [.int y0]) := by
        intro x1 x2 x3 x4 y0 z0_3 z0_4 z0_5 z0_6 ws H locs ls r_x1 r_x2 r_x3 r_x4 r_y0 r_z0_3 m_z0_3 r_z0_4 m_z0_4 r_z0_5 m_z0_5 r_z0_6 m_z0_6 hn215 hw hl
        refine lv_istore_n (lv' := [(3, .int y0), (0, .ref p0), (1, .int x1), (2, .int x2), (4, .int x4)]) hx hb dX10_go_272 rfl hl (by decide) rfl (fun ls hl => ?_)
        refine lv_aload_n hx hb dX10_go_273 rfl (lv_at hl 1 rfl) ?_
        refine tg_mem (ci := 10) (C := RX10) (T := TX10) (N := 49) hx hb hts inX10 hown hK hw 5 m_z0_5 rfl (by decide) (hts _ tw_1142) (fun _ h9 => h9) dX10_go_274 ?_
        refine lv_aload_n hx hb dX10_go_277 rfl (lv_at hl 1 rfl) ?_
        refine tg_mem (ci := 10) (C := RX10) (T := TX10) (N := 49) hx hb hts inX10 hown hK hw 6 m_z0_6 rfl (by decide) (hts _ tw_1143) (fun _ h9 => h9) dX10_go_278 ?_
        refine lv_isub hx hb dX10_go_281 (lv_topi (fun v_10 e_v_10 => ?_))
        obtain ⟨t_v_10, r_v_10⟩ := tq_sub (lo := (-940)) (hi := 939) r_z0_5 r_z0_6 (by decide +kernel) e_v_10
        refine lv_bipush (v := 7) hx hb dX10_go_282 (by decide) ?_
        refine lv_icmp_ge (tgt := 307) hx hb dX10_go_284 (by decide) (fun c_284 => ?_) (fun c_284 => ?_)
        · have r_v_10 : RI v_10 7 939 := rc_le2 rl_7 r_v_10 (ti_le c_284) (by decide)
          exact B307 x1 x2 y0 x4 z0_3 z0_4 z0_5 z0_6 ws _ _ ls r_x1 r_x2 r_y0 r_x4 r_z0_3 m_z0_3 r_z0_4 m_z0_4 r_z0_5 m_z0_5 r_z0_6 m_z0_6 (by have q0 := r_z0_5.1; have u0 := r_z0_5.2; omega) hw (lv_sub hl [1, 2, 3, 0, 4] rfl)
        · have r_v_10 : RI v_10 (-940) 6 := rc_lt1 r_v_10 rl_7 (ti_nle c_284) (by decide)
          refine lv_aload_n hx hb dX10_go_287 rfl (lv_at hl 1 rfl) ?_
          refine lv_ldc2 (v := 27) hx hb hown (hts _ tw_1312) dX10_go_288 ?_
          refine lv_aload_n hx hb dX10_go_291 rfl (lv_at hl 1 rfl) ?_
          refine tg_get (ci := 10) (ts := ty_MODEL) (C := RX10) (T := TX10) (N := 49) hx hb hts inX10 hown hK hw h_p0 rfl rfl 12 (by decide) (hts _ tw_1149) (fun _ h9 => h9) (ft := vJ (-9223372036854775808) 9223372036854775807) rfl dX10_go_292 (fun u_11 hv_u_11 m_u_11 => ?_)
          obtain ⟨vu_11, rfl, r_vu_11⟩ := hv_u_11
          refine lv_lmul hx hb dX10_go_295 (lv_topl (fun w_12 e_w_12 => ?_))
          have r_w_12 := rj_any w_12
          refine lv_iload hx hb dX10_go_296 (lv_at hl 4 rfl) ?_
          obtain ⟨w_13, e_w_13⟩ : ∃ q9 : Int64, (x4 : Int32).toInt64 = q9 := ⟨_, rfl⟩
          refine lv_i2l (v := w_13) hx hb dX10_go_298 e_w_13 ?_
          have r_w_13 := tq_i2l r_x4 e_w_13
          refine lv_ladd hx hb dX10_go_299 (lv_topl (fun w_14 e_w_14 => ?_))
          have r_w_14 := rj_any w_14
          refine lv_ldc2 (v := 96) hx hb hown (hts _ tw_1313) dX10_go_300 ?_
          refine lv_lsub hx hb dX10_go_303 (lv_topl (fun w_15 e_w_15 => ?_))
          have r_w_15 := rj_any w_15
          refine tg_put (ci := 10) (ts := ty_MODEL) (v := .long w_15) (ty := .long) (C := RX10) (T := TX10) (N := 49) hx hb hts inX10 tyX10 tyX10_ok nmX10 hown hK hw h_p0 rfl rfl 12 (by decide) (hts _ tw_1149) (fun _ h9 => h9) rfl (by decide +kernel) rfl rfl (ft := vJ (-9223372036854775808) 9223372036854775807) rfl ⟨_, rfl, r_w_15.to (by decide)⟩ (by decide) dX10_go_304 (fun ws H locs hw n_k_16 hF9 => ?_)
          have m_z0_3 := FLD.over hF9 m_z0_3 (by decide)
          have m_z0_4 := FLD.over hF9 m_z0_4 (by decide)
          have m_z0_5 := FLD.over hF9 m_z0_5 (by decide)
          have m_z0_6 := FLD.over hF9 m_z0_6 (by decide)
          exact B307 x1 x2 y0 x4 z0_3 z0_4 z0_5 z0_6 ws _ _ ls r_x1 r_x2 r_y0 r_x4 r_z0_3 m_z0_3 r_z0_4 m_z0_4 r_z0_5 m_z0_5 r_z0_6 m_z0_6 (by have q0 := r_z0_5.1; have u0 := r_z0_5.2; omega) hw (lv_sub hl [1, 2, 3, 0, 4] rfl)
      have B271 : ∀ (x1 : Int32) (x2 : Int32) (x3 : Int32) (x4 : Int32) (z0_3 : Int32) (z0_4 : Int32) (z0_5 : Int32) (z0_6 : Int32) (ws : va_W) (H : Heap) (locs : List Loc) (ls : Array Slot), RI x1 48 122 → RI x2 0 1 → RI x3 0 1 → RI x4 0 255 → RI z0_3 1 940 → FLD ws p0 10 3 (.int z0_3) → RI z0_4 0 2147483647 → FLD ws p0 10 4 (.int z0_4) → RI z0_5 0 939 → FLD ws p0 10 5 (.int z0_5) → RI z0_6 0 940 → FLD ws p0 10 6 (.int z0_6) → 940 - z0_5.toInt < ((nf215 + 1 : Nat) : Int) → WD D cy GG A s wr_X10_go wa_X10_go Ps w0 Ps ws H locs → lv_has ls 5 [(0, .ref p0), (1, .int x1), (2, .int x2), (3, .int x3), (4, .int x4)] → W p l e (headSpec (Cond.code yX10_go cX10_go 5 none :: gT) ({ frames := 2, cells := 0, slots := 0, locals := 400 } : Room)).room s m ([.ref p0] : List Value).toArray below meth c H locs 0 0 Q (F0 m 271 ls []) := by
        intro x1 x2 x3 x4 z0_3 z0_4 z0_5 z0_6 ws H locs ls r_x1 r_x2 r_x3 r_x4 r_z0_3 m_z0_3 r_z0_4 m_z0_4 r_z0_5 m_z0_5 r_z0_6 m_z0_6 hn215 hw hl
        refine lv_iconst (v := 0) hx hb dX10_go_271 (by decide) ?_
        exact B272 x1 x2 x3 x4 0 z0_3 z0_4 z0_5 z0_6 ws _ _ ls r_x1 r_x2 r_x3 r_x4 (rl_0.to (by decide)) r_z0_3 m_z0_3 r_z0_4 m_z0_4 r_z0_5 m_z0_5 r_z0_6 m_z0_6 (by have q0 := r_z0_5.1; have u0 := r_z0_5.2; omega) hw hl
      have B243 : ∀ (x1 : Int32) (x2 : Int32) (x3 : Int32) (z0_3 : Int32) (z0_4 : Int32) (z0_5 : Int32) (z0_6 : Int32) (ws : va_W) (H : Heap) (locs : List Loc) (ls : Array Slot), RI x1 48 122 → RI x2 0 1 → RI x3 0 1 → RI z0_3 1 940 → FLD ws p0 10 3 (.int z0_3) → RI z0_4 0 2147483647 → FLD ws p0 10 4 (.int z0_4) → RI z0_5 0 939 → FLD ws p0 10 5 (.int z0_5) → RI z0_6 0 940 → FLD ws p0 10 6 (.int z0_6) → 940 - z0_5.toInt < ((nf215 + 1 : Nat) : Int) → WD D cy GG A s wr_X10_go wa_X10_go Ps w0 Ps ws H locs → lv_has ls 5 [(0, .ref p0), (1, .int x1), (2, .int x2), (3, .int x3)] → W p l e (headSpec (Cond.code yX10_go cX10_go 5 none :: gT) ({ frames := 2, cells := 0, slots := 0, locals := 400 } : Room)).room s m ([.ref p0] : List Value).toArray below meth c H locs 0 0 Q (F0 m 243 ls []) := by
        intro x1 x2 x3 z0_3 z0_4 z0_5 z0_6 ws H locs ls r_x1 r_x2 r_x3 r_z0_3 m_z0_3 r_z0_4 m_z0_4 r_z0_5 m_z0_5 r_z0_6 m_z0_6 hn215 hw hl
        refine lv_aload_n hx hb dX10_go_243 rfl (lv_at hl 0 rfl) ?_
        refine tg_get (ci := 10) (ts := ty_MODEL) (C := RX10) (T := TX10) (N := 49) hx hb hts inX10 hown hK hw h_p0 rfl rfl 1 (by decide) (hts _ tw_1138) (fun _ h9 => h9) (ft := vR 40) rfl dX10_go_244 (fun u_17 hv_u_17 m_u_17 => ?_)
        obtain ⟨vu_17, rfl, h_vu_17⟩ := hv_u_17
        refine lv_aload_n hx hb dX10_go_247 rfl (lv_at hl 0 rfl) ?_
        refine tg_mem (ci := 10) (C := RX10) (T := TX10) (N := 49) hx hb hts inX10 hown hK hw 5 m_z0_5 rfl (by decide) (hts _ tw_1142) (fun _ h9 => h9) dX10_go_248 ?_
        refine tg_iald (lo := 0) (hi := 255) hx hb hK hw h_vu_17 rfl 0 939 r_z0_5 (by decide) (by exact fun _ _ _ => ⟨Int.le_refl _, Int.le_refl _⟩) dX10_go_251 (fun v_18 r_v_18 m_v_18 o_v_18 => ?_)
        refine lv_istore (lv' := [(4, .int v_18), (0, .ref p0), (1, .int x1), (2, .int x2), (3, .int x3)]) hx hb dX10_go_252 hl (by decide) rfl (fun ls hl => ?_)
        refine lv_iload_n hx hb dX10_go_254 rfl (lv_at hl 4 rfl) ?_
        refine lv_if_eq (tgt := 271) hx hb dX10_go_255 (by decide) (fun c_255 => ?_) (fun c_255 => ?_)
        · have r_x3 : RI x3 0 0 := rc_eq1 r_x3 rl_0 (ti_eq c_255) (by decide)
          exact B271 x1 x2 x3 v_18 z0_3 z0_4 z0_5 z0_6 ws _ _ ls r_x1 r_x2 (r_x3.to (by decide)) r_v_18 r_z0_3 m_z0_3 r_z0_4 m_z0_4 r_z0_5 m_z0_5 r_z0_6 m_z0_6 (by have q0 := r_z0_5.1; have u0 := r_z0_5.2; omega) hw (lv_sub hl [1, 2, 3, 4, 0] rfl)
        · have r_x3 : RI x3 1 1 := rc_neL r_x3 rl_0 (ti_ne c_255) (by decide)
          refine lv_iload hx hb dX10_go_258 (lv_at hl 0 rfl) ?_
          refine tk_ir (va_runS (As := [.int v_18]) (rest := []) ⟨hx, hb, hml, hown, hts⟩ (c_X10_isLetter l D cy z H.size Ps ws hw.1 v_18 r_v_18) (va_cwS 1 hts (gS tw_1302 tw_1303 tw_15 tw_1304) rfl rfl rfl (by decide +kernel) ⟨Nat.le_of_ble_eq_true rfl, Nat.le_of_ble_eq_true rfl⟩) (tg_preS hw hK hSD hA) rfl rfl hl.1 rfl (lv_room (Nat.le_of_ble_eq_true rfl)) dX10_go_260 ⟨Nat.le_of_ble_eq_true rfl, Nat.le_of_ble_eq_true rfl⟩) hw hA (fun v_19  H locs hp_v_19 hw => ?_)
          have r_v_19 : RI v_19 0 1 := hp_v_19.1
          refine lv_iload_n hx hb dX10_go_263 rfl (lv_at hl 3 rfl) ?_
          refine lv_icmp_ne (tgt := 271) hx hb dX10_go_264 (by decide) (fun c_264 => ?_) (fun c_264 => ?_)
          · exact B271 x1 x2 x3 v_18 z0_3 z0_4 z0_5 z0_6 ws _ _ ls r_x1 r_x2 (r_x3.to (by decide)) r_v_18 r_z0_3 m_z0_3 r_z0_4 m_z0_4 r_z0_5 m_z0_5 r_z0_6 m_z0_6 (by have q0 := r_z0_5.1; have u0 := r_z0_5.2; omega) hw (lv_sub hl [1, 2, 3, 4, 0] rfl)
          · refine lv_iconst (v := 1) hx hb dX10_go_267 (by decide) ?_
            refine lv_goto (tgt := 272) hx hb dX10_go_268 (by decide) ?_
            exact B272 x1 x2 x3 v_18 1 z0_3 z0_4 z0_5 z0_6 ws _ _ ls r_x1 r_x2 (r_x3.to (by decide)) r_v_18 (rl_1.to (by decide)) r_z0_3 m_z0_3 r_z0_4 m_z0_4 r_z0_5 m_z0_5 r_z0_6 m_z0_6 (by have q0 := r_z0_5.1; have u0 := r_z0_5.2; omega) hw (lv_sub hl [1, 2, 3, 4, 0] rfl)
      intro x1 x2 x3 z0_3 z0_4 z0_5 z0_6 ws H locs ls hn215 r_x1 r_x2 r_x3 r_z0_3 m_z0_3 r_z0_4 m_z0_4 r_z0_5 m_z0_5 r_z0_6 m_z0_6 hw hl
      refine lv_aload_n hx hb dX10_go_215 rfl (lv_at hl 0 rfl) ?_
      refine lv_aload_n hx hb dX10_go_216 rfl (lv_at hl 0 rfl) ?_
      refine tg_mem (ci := 10) (C := RX10) (T := TX10) (N := 49) hx hb hts inX10 hown hK hw 5 m_z0_5 rfl (by decide) (hts _ tw_1142) (fun _ h9 => h9) dX10_go_217 ?_
      refine tk_ir (va_runV (As := [.int z0_5]) (rest := []) ⟨hx, hb, hml, hown, hts⟩ (c_X10_tapeAt l D cy z H.size Ps ws hw.1 p0 z0_5 h_p0 r_z0_5) (cwV 1 hts (gV tw_1308 tw_1310 ts_41 tw_15 tw_1311) rfl rfl rfl (by decide +kernel) ⟨Nat.le_of_ble_eq_true rfl, Nat.le_of_ble_eq_true rfl⟩) (tg_preV hw hK hSD hA (ci := 10) (q := (RX10, TX10, 49)) rfl h_p0 rfl) rfl rfl hl.1 rfl (lv_room (Nat.le_of_ble_eq_true rfl)) dX10_go_220 ⟨Nat.le_of_ble_eq_true rfl, Nat.le_of_ble_eq_true rfl⟩) hw hA (fun v_20  H locs hp_v_20 hw => ?_)
      have r_v_20 : RI v_20 0 255 := hp_v_20.1
      refine tk_ir (va_runS (As := [.int v_20]) (rest := []) ⟨hx, hb, hml, hown, hts⟩ (c_X10_isLetter l D cy z H.size Ps ws hw.1 v_20 r_v_20) (va_cwS 1 hts (gS tw_1302 tw_1303 tw_15 tw_1304) rfl rfl rfl (by decide +kernel) ⟨Nat.le_of_ble_eq_true rfl, Nat.le_of_ble_eq_true rfl⟩) (tg_preS hw hK hSD hA) rfl rfl hl.1 rfl (lv_room (Nat.le_of_ble_eq_true rfl)) dX10_go_223 ⟨Nat.le_of_ble_eq_true rfl, Nat.le_of_ble_eq_true rfl⟩) hw hA (fun v_21  H locs hp_v_21 hw => ?_)
      have r_v_21 : RI v_21 0 1 := hp_v_21.1
      refine lv_if_ne (tgt := 243) hx hb dX10_go_226 (by decide) (fun c_226 => ?_) (fun c_226 => ?_)
      · have r_v_21 : RI v_21 1 1 := rc_neL r_v_21 rl_0 (ti_ne c_226) (by decide)
        have r_v_20 : RI v_20 97 122 := ((hp_v_21.2.2 c_226).1)
        have r_z0_5 : RI z0_5 0 939 := ((hp_v_20.2.2 (ri_ne0 r_v_20 (by decide))).1)
        exact B243 x1 x2 x3 z0_3 z0_4 z0_5 z0_6 ws _ _ ls r_x1 r_x2 r_x3 r_z0_3 m_z0_3 r_z0_4 m_z0_4 r_z0_5 m_z0_5 r_z0_6 m_z0_6 (by have q0 := r_z0_5.1; have u0 := r_z0_5.2; omega) hw hl
      · have r_v_21 : RI v_21 0 0 := rc_eq1 r_v_21 rl_0 (ti_eq c_226) (by decide)
        refine lv_aload_n hx hb dX10_go_229 rfl (lv_at hl 0 rfl) ?_
        refine lv_aload_n hx hb dX10_go_230 rfl (lv_at hl 0 rfl) ?_
        refine tg_mem (ci := 10) (C := RX10) (T := TX10) (N := 49) hx hb hts inX10 hown hK hw 5 m_z0_5 rfl (by decide) (hts _ tw_1142) (fun _ h9 => h9) dX10_go_231 ?_
        refine tk_ir (va_runV (As := [.int z0_5]) (rest := []) ⟨hx, hb, hml, hown, hts⟩ (c_X10_tapeAt l D cy z H.size Ps ws hw.1 p0 z0_5 h_p0 r_z0_5) (cwV 1 hts (gV tw_1308 tw_1310 ts_41 tw_15 tw_1311) rfl rfl rfl (by decide +kernel) ⟨Nat.le_of_ble_eq_true rfl, Nat.le_of_ble_eq_true rfl⟩) (tg_preV hw hK hSD hA (ci := 10) (q := (RX10, TX10, 49)) rfl h_p0 rfl) rfl rfl hl.1 rfl (lv_room (Nat.le_of_ble_eq_true rfl)) dX10_go_234 ⟨Nat.le_of_ble_eq_true rfl, Nat.le_of_ble_eq_true rfl⟩) hw hA (fun v_22  H locs hp_v_22 hw => ?_)
        have r_v_22 : RI v_22 0 255 := hp_v_22.1
        refine tk_ir (va_runS (As := [.int v_22]) (rest := []) ⟨hx, hb, hml, hown, hts⟩ (c_X10_isDigit l D cy z H.size Ps ws hw.1 v_22 r_v_22) (va_cwS 1 hts (gS tw_1305 tw_1306 tw_15 tw_1307) rfl rfl rfl (by decide +kernel) ⟨Nat.le_of_ble_eq_true rfl, Nat.le_of_ble_eq_true rfl⟩) (tg_preS hw hK hSD hA) rfl rfl hl.1 rfl (lv_room (Nat.le_of_ble_eq_true rfl)) dX10_go_237 ⟨Nat.le_of_ble_eq_true rfl, Nat.le_of_ble_eq_true rfl⟩) hw hA (fun v_23  H locs hp_v_23 hw => ?_)
        have r_v_23 : RI v_23 0 1 := hp_v_23.1
        refine lv_if_eq (tgt := 350) hx hb dX10_go_240 (by decide) (fun c_240 => ?_) (fun c_240 => ?_)
        · have r_v_23 : RI v_23 0 0 := rc_eq1 r_v_23 rl_0 (ti_eq c_240) (by decide)
          refine lv_aload_n hx hb dX10_go_350 rfl (lv_at hl 0 rfl) ?_
          refine lv_iload_n hx hb dX10_go_351 rfl (lv_at hl 3 rfl) ?_
          refine lv_if_eq (tgt := 377) hx hb dX10_go_352 (by decide) (fun c_352 => ?_) (fun c_352 => ?_)
          · have r_x3 : RI x3 0 0 := rc_eq1 r_x3 rl_0 (ti_eq c_352) (by decide)
            exact B377 x1 x2 x3 z0_3 z0_4 z0_5 z0_6 ws _ _ ls r_x1 r_x2 (r_x3.to (by decide)) r_z0_3 m_z0_3 r_z0_4 m_z0_4 r_z0_5 m_z0_5 r_z0_6 m_z0_6 hw hl
          · have r_x3 : RI x3 1 1 := rc_neL r_x3 rl_0 (ti_ne c_352) (by decide)
            refine lv_aload_n hx hb dX10_go_355 rfl (lv_at hl 0 rfl) ?_
            refine tg_mem (ci := 10) (C := RX10) (T := TX10) (N := 49) hx hb hts inX10 hown hK hw 5 m_z0_5 rfl (by decide) (hts _ tw_1142) (fun _ h9 => h9) dX10_go_356 ?_
            refine lv_aload_n hx hb dX10_go_359 rfl (lv_at hl 0 rfl) ?_
            refine tg_mem (ci := 10) (C := RX10) (T := TX10) (N := 49) hx hb hts inX10 hown hK hw 6 m_z0_6 rfl (by decide) (hts _ tw_1143) (fun _ h9 => h9) dX10_go_360 ?_
            refine lv_isub hx hb dX10_go_363 (lv_topi (fun v_24 e_v_24 => ?_))
            obtain ⟨t_v_24, r_v_24⟩ := tq_sub (lo := (-940)) (hi := 940) r_z0_5 r_z0_6 (by decide +kernel) e_v_24
            refine lv_iload_n hx hb dX10_go_364 rfl (lv_at hl 2 rfl) ?_
            refine lv_if_eq (tgt := 373) hx hb dX10_go_365 (by decide) (fun c_365 => ?_) (fun c_365 => ?_)
            · have r_x2 : RI x2 0 0 := rc_eq1 r_x2 rl_0 (ti_eq c_365) (by decide)
              refine lv_iconst (v := 3) hx hb dX10_go_373 (by decide) ?_
              exact B374 x1 x2 x3 3 v_24 z0_3 z0_4 z0_5 z0_6 ws _ _ ls r_x1 (r_x2.to (by decide)) r_x3 (rl_3.to (by decide)) r_v_24 r_z0_3 m_z0_3 r_z0_4 m_z0_4 r_z0_5 m_z0_5 r_z0_6 m_z0_6 hw hl
            · have r_x2 : RI x2 1 1 := rc_neL r_x2 rl_0 (ti_ne c_365) (by decide)
              refine lv_bipush (v := 7) hx hb dX10_go_368 (by decide) ?_
              refine lv_goto (tgt := 374) hx hb dX10_go_370 (by decide) ?_
              exact B374 x1 x2 x3 7 v_24 z0_3 z0_4 z0_5 z0_6 ws _ _ ls r_x1 (r_x2.to (by decide)) r_x3 (rl_7.to (by decide)) r_v_24 r_z0_3 m_z0_3 r_z0_4 m_z0_4 r_z0_5 m_z0_5 r_z0_6 m_z0_6 hw hl
        · have r_v_23 : RI v_23 1 1 := rc_neL r_v_23 rl_0 (ti_ne c_240) (by decide)
          have r_v_22 : RI v_22 48 57 := ((hp_v_23.2.2 c_240).1)
          have r_z0_5 : RI z0_5 0 939 := ((hp_v_22.2.2 (ri_ne0 r_v_22 (by decide))).1)
          exact B243 x1 x2 x3 z0_3 z0_4 z0_5 z0_6 ws _ _ ls r_x1 r_x2 r_x3 r_z0_3 m_z0_3 r_z0_4 m_z0_4 r_z0_5 m_z0_5 r_z0_6 m_z0_6 (by have q0 := r_z0_5.1; have u0 := r_z0_5.2; omega) hw hl
  have B198 : ∀ (x1 : Int32) (z0_3 : Int32) (z0_4 : Int32) (z0_5 : Int32) (z0_6 : Int32) (ws : va_W) (H : Heap) (locs : List Loc) (ls : Array Slot), RI x1 48 122 → RI z0_3 1 940 → FLD ws p0 10 3 (.int z0_3) → RI z0_4 0 2147483647 → FLD ws p0 10 4 (.int z0_4) → RI z0_5 0 939 → FLD ws p0 10 5 (.int z0_5) → RI z0_6 0 940 → FLD ws p0 10 6 (.int z0_6) → WD D cy GG A s wr_X10_go wa_X10_go Ps w0 Ps ws H locs → lv_has ls 5 [(0, .ref p0), (1, .int x1)] → W p l e (headSpec (Cond.code yX10_go cX10_go 5 none :: gT) ({ frames := 2, cells := 0, slots := 0, locals := 400 } : Room)).room s m ([.ref p0] : List Value).toArray below meth c H locs 0 0 Q (F0 m 198 ls []) := by
    intro x1 z0_3 z0_4 z0_5 z0_6 ws H locs ls r_x1 r_z0_3 m_z0_3 r_z0_4 m_z0_4 r_z0_5 m_z0_5 r_z0_6 m_z0_6 hw hl
    refine lv_iload_n hx hb dX10_go_198 rfl (lv_at hl 1 rfl) ?_
    refine tk_ir (va_runS (As := [.int x1]) (rest := []) ⟨hx, hb, hml, hown, hts⟩ (c_X10_isLetter__1 l D cy z H.size Ps ws hw.1 x1 r_x1) (va_cwS 1 hts (gS tw_1302 tw_1303 tw_15 tw_1304) rfl rfl rfl (by decide +kernel) ⟨Nat.le_of_ble_eq_true rfl, Nat.le_of_ble_eq_true rfl⟩) (tg_preS hw hK hSD hA) rfl rfl hl.1 rfl (lv_room (Nat.le_of_ble_eq_true rfl)) dX10_go_199 ⟨Nat.le_of_ble_eq_true rfl, Nat.le_of_ble_eq_true rfl⟩) hw hA (fun v_25  H locs hp_v_25 hw => ?_)
    have r_v_25 : RI v_25 0 1 := hp_v_25.1
    refine lv_istore_n (lv' := [(2, .int v_25), (0, .ref p0), (1, .int x1)]) hx hb dX10_go_202 rfl hl (by decide) rfl (fun ls hl => ?_)
    refine lv_iconst (v := 1) hx hb dX10_go_203 (by decide) ?_
    refine lv_istore_n (lv' := [(3, .int 1), (2, .int v_25), (0, .ref p0), (1, .int x1)]) hx hb dX10_go_204 rfl hl (by decide) rfl (fun ls hl => ?_)
    refine lv_aload_n hx hb dX10_go_205 rfl (lv_at hl 2 rfl) ?_
    refine lv_lconst (v := 0) hx hb dX10_go_206 (by decide) ?_
    refine tg_put (ci := 10) (ts := ty_MODEL) (v := .long 0) (ty := .long) (C := RX10) (T := TX10) (N := 49) hx hb hts inX10 tyX10 tyX10_ok nmX10 hown hK hw h_p0 rfl rfl 12 (by decide) (hts _ tw_1149) (fun _ h9 => h9) rfl (by decide +kernel) rfl rfl (ft := vJ (-9223372036854775808) 9223372036854775807) rfl ⟨_, rfl, rk_0.to (by decide)⟩ (by decide) dX10_go_207 (fun ws H locs hw n_k_26 hF9 => ?_)
    have m_z0_3 := FLD.over hF9 m_z0_3 (by decide)
    have m_z0_4 := FLD.over hF9 m_z0_4 (by decide)
    have m_z0_5 := FLD.over hF9 m_z0_5 (by decide)
    have m_z0_6 := FLD.over hF9 m_z0_6 (by decide)
    refine lv_aload_n hx hb dX10_go_210 rfl (lv_at hl 2 rfl) ?_
    refine lv_iconst (v := 0) hx hb dX10_go_211 (by decide) ?_
    refine tg_put (ci := 10) (ts := ty_MODEL) (v := .int 0) (ty := .int) (C := RX10) (T := TX10) (N := 49) hx hb hts inX10 tyX10 tyX10_ok nmX10 hown hK hw h_p0 rfl rfl 8 (by decide) (hts _ tw_1145) (fun _ h9 => h9) rfl (by decide +kernel) rfl rfl (ft := vI (-2147483648) 2147483647) rfl ⟨_, rfl, (rl_0.to (by decide))⟩ (by decide) dX10_go_212 (fun ws H locs hw n_k_27 hF9 => ?_)
    have m_z0_3 := FLD.over hF9 m_z0_3 (by decide)
    have m_z0_4 := FLD.over hF9 m_z0_4 (by decide)
    have m_z0_5 := FLD.over hF9 m_z0_5 (by decide)
    have m_z0_6 := FLD.over hF9 m_z0_6 (by decide)
    exact B215 4294967298 x1 v_25 1 z0_3 z0_4 z0_5 z0_6 ws _ _ ls (by have q0 := r_z0_5.1; have u0 := r_z0_5.2; omega) r_x1 r_v_25 (rl_1.to (by decide)) r_z0_3 m_z0_3 r_z0_4 m_z0_4 (r_z0_5.to (by decide)) m_z0_5 r_z0_6 m_z0_6 hw (lv_sub hl [2, 3, 1, 0] rfl)
  have B179 : ∀ (x1 : Int32) (y0 : Int32) (z0_3 : Int32) (z0_4 : Int32) (z0_5 : Int32) (z0_6 : Int32) (ws : va_W) (H : Heap) (locs : List Loc) (ls : Array Slot), RI x1 0 255 → RI y0 1 4 → RI z0_3 1 940 → FLD ws p0 10 3 (.int z0_3) → RI z0_4 0 2147483647 → FLD ws p0 10 4 (.int z0_4) → RI z0_5 0 939 → FLD ws p0 10 5 (.int z0_5) → RI z0_6 0 940 → FLD ws p0 10 6 (.int z0_6) → WD D cy GG A s wr_X10_go wa_X10_go Ps w0 Ps ws H locs → lv_has ls 5 [(0, .ref p0), (1, .int x1)] → W p l e (headSpec (Cond.code yX10_go cX10_go 5 none :: gT) ({ frames := 2, cells := 0, slots := 0, locals := 400 } : Room)).room s m ([.ref p0] : List Value).toArray below meth c H locs 0 0 Q (F0 m 179 ls [.int y0, .ref p0]) := by
    intro x1 y0 z0_3 z0_4 z0_5 z0_6 ws H locs ls r_x1 r_y0 r_z0_3 m_z0_3 r_z0_4 m_z0_4 r_z0_5 m_z0_5 r_z0_6 m_z0_6 hw hl
    refine tg_put (ci := 10) (ts := ty_MODEL) (v := .int y0) (ty := .int) (C := RX10) (T := TX10) (N := 49) hx hb hts inX10 tyX10 tyX10_ok nmX10 hown hK hw h_p0 rfl rfl 7 (by decide) (hts _ tw_1144) (fun _ h9 => h9) rfl (by decide +kernel) rfl rfl (ft := vI (-2147483648) 2147483647) rfl ⟨_, rfl, (r_y0.to (by decide))⟩ (by decide) dX10_go_179 (fun ws H locs hw n_k_28 hF9 => ?_)
    have m_z0_3 := FLD.over hF9 m_z0_3 (by decide)
    have m_z0_4 := FLD.over hF9 m_z0_4 (by decide)
    have m_z0_5 := FLD.over hF9 m_z0_5 (by decide)
    have m_z0_6 := FLD.over hF9 m_z0_6 (by decide)
    refine lv_aload_n hx hb dX10_go_182 rfl (lv_at hl 0 rfl) ?_
    refine lv_iload_n hx hb dX10_go_183 rfl (lv_at hl 1 rfl) ?_
    refine tg_put (ci := 10) (ts := ty_MODEL) (v := .int x1) (ty := .int) (C := RX10) (T := TX10) (N := 49) hx hb hts inX10 tyX10 tyX10_ok nmX10 hown hK hw h_p0 rfl rfl 9 (by decide) (hts _ tw_1146) (fun _ h9 => h9) rfl (by decide +kernel) rfl rfl (ft := vI (-2147483648) 2147483647) rfl ⟨_, rfl, (r_x1.to (by decide))⟩ (by decide) dX10_go_184 (fun ws H locs hw n_k_29 hF9 => ?_)
    have m_z0_3 := FLD.over hF9 m_z0_3 (by decide)
    have m_z0_4 := FLD.over hF9 m_z0_4 (by decide)
    have m_z0_5 := FLD.over hF9 m_z0_5 (by decide)
    have m_z0_6 := FLD.over hF9 m_z0_6 (by decide)
    have n_k_28 := FLD.over hF9 n_k_28 (by decide)
    refine lv_aload_n hx hb dX10_go_187 rfl (lv_at hl 0 rfl) ?_
    refine lv_dup hx hb dX10_go_188 rfl ?_
    refine tg_mem (ci := 10) (C := RX10) (T := TX10) (N := 49) hx hb hts inX10 hown hK hw 5 m_z0_5 rfl (by decide) (hts _ tw_1142) (fun _ h9 => h9) dX10_go_189 ?_
    refine lv_iconst (v := 1) hx hb dX10_go_192 (by decide) ?_
    refine lv_iadd hx hb dX10_go_193 (lv_topi (fun v_30 e_v_30 => ?_))
    obtain ⟨t_v_30, r_v_30⟩ := tq_add (lo := 1) (hi := 940) r_z0_5 rl_1 (by decide +kernel) e_v_30
    have t_v_30 : v_30.toInt = z0_5.toInt + 1 := t_v_30
    refine tg_put (ci := 10) (ts := ty_MODEL) (v := .int v_30) (ty := .int) (C := RX10) (T := TX10) (N := 49) hx hb hts inX10 tyX10 tyX10_ok nmX10 hown hK hw h_p0 rfl rfl 5 (by decide) (hts _ tw_1142) (fun _ h9 => h9) rfl (by decide +kernel) rfl rfl (ft := vI 0 940) rfl ⟨_, rfl, (r_v_30.to (by decide))⟩ (by decide) dX10_go_194 (fun ws H locs hw n_k_31 hF9 => ?_)
    have m_z0_3 := FLD.over hF9 m_z0_3 (by decide)
    have m_z0_4 := FLD.over hF9 m_z0_4 (by decide)
    have m_z0_6 := FLD.over hF9 m_z0_6 (by decide)
    have n_k_28 := FLD.over hF9 n_k_28 (by decide)
    have n_k_29 := FLD.over hF9 n_k_29 (by decide)
    subst hQ
    exact W.vret hx hb hr (fun t ht hW => ⟨⟨ws, rfl, ⟨trivial, hw.1, hw.2.2.2.2.1⟩, by rw [ht]; exact hw.2.1, va_K.moved hW.alike hK, hw.2.2.1⟩, hw.2.2.2.1.F ht⟩) hw.2.2.2.1.2.2 dX10_go_197
  have B174 : ∀ (x1 : Int32) (z0_3 : Int32) (z0_4 : Int32) (z0_5 : Int32) (z0_6 : Int32) (ws : va_W) (H : Heap) (locs : List Loc) (ls : Array Slot), RI x1 40 62 → RI z0_3 1 940 → FLD ws p0 10 3 (.int z0_3) → RI z0_4 0 2147483647 → FLD ws p0 10 4 (.int z0_4) → RI z0_5 0 939 → FLD ws p0 10 5 (.int z0_5) → RI z0_6 0 940 → FLD ws p0 10 6 (.int z0_6) → WD D cy GG A s wr_X10_go wa_X10_go Ps w0 Ps ws H locs → lv_has ls 5 [(0, .ref p0), (1, .int x1)] → W p l e (headSpec (Cond.code yX10_go cX10_go 5 none :: gT) ({ frames := 2, cells := 0, slots := 0, locals := 400 } : Room)).room s m ([.ref p0] : List Value).toArray below meth c H locs 0 0 Q (F0 m 174 ls [.ref p0]) := by
    intro x1 z0_3 z0_4 z0_5 z0_6 ws H locs ls r_x1 r_z0_3 m_z0_3 r_z0_4 m_z0_4 r_z0_5 m_z0_5 r_z0_6 m_z0_6 hw hl
    refine lv_iconst (v := 4) hx hb dX10_go_174 (by decide) ?_
    refine lv_goto (tgt := 179) hx hb dX10_go_175 (by decide) ?_
    exact B179 x1 4 z0_3 z0_4 z0_5 z0_6 ws _ _ ls (r_x1.to (by decide)) (rl_4.to (by decide)) r_z0_3 m_z0_3 r_z0_4 m_z0_4 r_z0_5 m_z0_5 r_z0_6 m_z0_6 hw hl
  have B96 : ∀ (z0_4 : Int32) (z0_5 : Int32) (z0_6 : Int32) (ws : va_W) (H : Heap) (locs : List Loc) (ls : Array Slot), RI z0_4 0 2147483647 → FLD ws p0 10 4 (.int z0_4) → RI z0_5 0 940 → FLD ws p0 10 5 (.int z0_5) → RI z0_6 0 940 → FLD ws p0 10 6 (.int z0_6) → WD D cy GG A s wr_X10_go wa_X10_go Ps w0 Ps ws H locs → lv_has ls 5 [(0, .ref p0)] → W p l e (headSpec (Cond.code yX10_go cX10_go 5 none :: gT) ({ frames := 2, cells := 0, slots := 0, locals := 400 } : Room)).room s m ([.ref p0] : List Value).toArray below meth c H locs 0 0 Q (F0 m 96 ls []) := by
    intro z0_4 z0_5 z0_6 ws H locs ls r_z0_4 m_z0_4 r_z0_5 m_z0_5 r_z0_6 m_z0_6 hw hl
    refine lv_aload_n hx hb dX10_go_96 rfl (lv_at hl 0 rfl) ?_
    refine tg_mem (ci := 10) (C := RX10) (T := TX10) (N := 49) hx hb hts inX10 hown hK hw 5 m_z0_5 rfl (by decide) (hts _ tw_1142) (fun _ h9 => h9) dX10_go_97 ?_
    refine lv_aload_n hx hb dX10_go_100 rfl (lv_at hl 0 rfl) ?_
    refine tg_get (ci := 10) (ts := ty_MODEL) (C := RX10) (T := TX10) (N := 49) hx hb hts inX10 hown hK hw h_p0 rfl rfl 3 (by decide) (hts _ tw_1140) (fun _ h9 => h9) (ft := vI 0 940) rfl dX10_go_101 (fun u_32 hv_u_32 m_u_32 => ?_)
    obtain ⟨vu_32, rfl, r_vu_32⟩ := hv_u_32
    refine lv_icmp_lt (tgt := 113) hx hb dX10_go_104 (by decide) (fun c_104 => ?_) (fun c_104 => ?_)
    · have r_z0_5 : RI z0_5 0 939 := rc_lt1 r_z0_5 r_vu_32 (ti_lt c_104) (by decide)
      have r_vu_32 : RI vu_32 1 940 := rc_lt2 r_z0_5 r_vu_32 (ti_lt c_104) (by decide)
      refine lv_aload_n hx hb dX10_go_113 rfl (lv_at hl 0 rfl) ?_
      refine tg_get (ci := 10) (ts := ty_MODEL) (C := RX10) (T := TX10) (N := 49) hx hb hts inX10 hown hK hw h_p0 rfl rfl 1 (by decide) (hts _ tw_1138) (fun _ h9 => h9) (ft := vR 40) rfl dX10_go_114 (fun u_33 hv_u_33 m_u_33 => ?_)
      obtain ⟨vu_33, rfl, h_vu_33⟩ := hv_u_33
      refine lv_aload_n hx hb dX10_go_117 rfl (lv_at hl 0 rfl) ?_
      refine tg_mem (ci := 10) (C := RX10) (T := TX10) (N := 49) hx hb hts inX10 hown hK hw 5 m_z0_5 rfl (by decide) (hts _ tw_1142) (fun _ h9 => h9) dX10_go_118 ?_
      refine tg_iald (lo := 0) (hi := 255) hx hb hK hw h_vu_33 rfl 0 939 r_z0_5 (by decide) (by exact fun _ _ _ => ⟨Int.le_refl _, Int.le_refl _⟩) dX10_go_121 (fun v_34 r_v_34 m_v_34 o_v_34 => ?_)
      refine lv_istore_n (lv' := [(1, .int v_34), (0, .ref p0)]) hx hb dX10_go_122 rfl hl (by decide) rfl (fun ls hl => ?_)
      refine lv_iload_n hx hb dX10_go_123 rfl (lv_at hl 0 rfl) ?_
      refine tk_ir (va_runS (As := [.int v_34]) (rest := []) ⟨hx, hb, hml, hown, hts⟩ (c_X10_isLetter l D cy z H.size Ps ws hw.1 v_34 r_v_34) (va_cwS 1 hts (gS tw_1302 tw_1303 tw_15 tw_1304) rfl rfl rfl (by decide +kernel) ⟨Nat.le_of_ble_eq_true rfl, Nat.le_of_ble_eq_true rfl⟩) (tg_preS hw hK hSD hA) rfl rfl hl.1 rfl (lv_room (Nat.le_of_ble_eq_true rfl)) dX10_go_124 ⟨Nat.le_of_ble_eq_true rfl, Nat.le_of_ble_eq_true rfl⟩) hw hA (fun v_35  H locs hp_v_35 hw => ?_)
      have r_v_35 : RI v_35 0 1 := hp_v_35.1
      refine lv_if_ne (tgt := 198) hx hb dX10_go_127 (by decide) (fun c_127 => ?_) (fun c_127 => ?_)
      · have r_v_35 : RI v_35 1 1 := rc_neL r_v_35 rl_0 (ti_ne c_127) (by decide)
        have r_v_34 : RI v_34 97 122 := ((hp_v_35.2.2 c_127).1)
        exact B198 v_34 vu_32 z0_4 z0_5 z0_6 ws _ _ ls (r_v_34.to (by decide)) r_vu_32 m_u_32 r_z0_4 m_z0_4 r_z0_5 m_z0_5 r_z0_6 m_z0_6 hw (lv_sub hl [1, 0] rfl)
      · have r_v_35 : RI v_35 0 0 := rc_eq1 r_v_35 rl_0 (ti_eq c_127) (by decide)
        refine lv_iload_n hx hb dX10_go_130 rfl (lv_at hl 0 rfl) ?_
        refine tk_ir (va_runS (As := [.int v_34]) (rest := []) ⟨hx, hb, hml, hown, hts⟩ (c_X10_isDigit l D cy z H.size Ps ws hw.1 v_34 r_v_34) (va_cwS 1 hts (gS tw_1305 tw_1306 tw_15 tw_1307) rfl rfl rfl (by decide +kernel) ⟨Nat.le_of_ble_eq_true rfl, Nat.le_of_ble_eq_true rfl⟩) (tg_preS hw hK hSD hA) rfl rfl hl.1 rfl (lv_room (Nat.le_of_ble_eq_true rfl)) dX10_go_131 ⟨Nat.le_of_ble_eq_true rfl, Nat.le_of_ble_eq_true rfl⟩) hw hA (fun v_36  H locs hp_v_36 hw => ?_)
        have r_v_36 : RI v_36 0 1 := hp_v_36.1
        refine lv_if_ne (tgt := 198) hx hb dX10_go_134 (by decide) (fun c_134 => ?_) (fun c_134 => ?_)
        · have r_v_36 : RI v_36 1 1 := rc_neL r_v_36 rl_0 (ti_ne c_134) (by decide)
          have r_v_34 : RI v_34 48 57 := ((hp_v_36.2.2 c_134).1)
          exact B198 v_34 vu_32 z0_4 z0_5 z0_6 ws _ _ ls (r_v_34.to (by decide)) r_vu_32 m_u_32 r_z0_4 m_z0_4 r_z0_5 m_z0_5 r_z0_6 m_z0_6 hw (lv_sub hl [1, 0] rfl)
        · have r_v_36 : RI v_36 0 0 := rc_eq1 r_v_36 rl_0 (ti_eq c_134) (by decide)
          refine lv_aload_n hx hb dX10_go_137 rfl (lv_at hl 1 rfl) ?_
          refine lv_iload_n hx hb dX10_go_138 rfl (lv_at hl 0 rfl) ?_
          refine lv_bipush (v := 59) hx hb dX10_go_139 (by decide) ?_
          refine lv_icmp_eq (tgt := 174) hx hb dX10_go_141 (by decide) (fun c_141 => ?_) (fun c_141 => ?_)
          · have r_v_34 : RI v_34 59 59 := rc_eq1 r_v_34 rl_59 (ti_eq c_141) (by decide)
            exact B174 v_34 vu_32 z0_4 z0_5 z0_6 ws _ _ ls (r_v_34.to (by decide)) r_vu_32 m_u_32 r_z0_4 m_z0_4 r_z0_5 m_z0_5 r_z0_6 m_z0_6 hw (lv_sub hl [1, 0] rfl)
          · refine lv_iload_n hx hb dX10_go_144 rfl (lv_at hl 0 rfl) ?_
            refine lv_bipush (v := 60) hx hb dX10_go_145 (by decide) ?_
            refine lv_icmp_eq (tgt := 174) hx hb dX10_go_147 (by decide) (fun c_147 => ?_) (fun c_147 => ?_)
            · have r_v_34 : RI v_34 60 60 := rc_eq1 r_v_34 rl_60 (ti_eq c_147) (by decide)
              exact B174 v_34 vu_32 z0_4 z0_5 z0_6 ws _ _ ls (r_v_34.to (by decide)) r_vu_32 m_u_32 r_z0_4 m_z0_4 r_z0_5 m_z0_5 r_z0_6 m_z0_6 hw (lv_sub hl [1, 0] rfl)
            · refine lv_iload_n hx hb dX10_go_150 rfl (lv_at hl 0 rfl) ?_
              refine lv_bipush (v := 61) hx hb dX10_go_151 (by decide) ?_
              refine lv_icmp_eq (tgt := 174) hx hb dX10_go_153 (by decide) (fun c_153 => ?_) (fun c_153 => ?_)
              · have r_v_34 : RI v_34 61 61 := rc_eq1 r_v_34 rl_61 (ti_eq c_153) (by decide)
                exact B174 v_34 vu_32 z0_4 z0_5 z0_6 ws _ _ ls (r_v_34.to (by decide)) r_vu_32 m_u_32 r_z0_4 m_z0_4 r_z0_5 m_z0_5 r_z0_6 m_z0_6 hw (lv_sub hl [1, 0] rfl)
              · refine lv_iload_n hx hb dX10_go_156 rfl (lv_at hl 0 rfl) ?_
                refine lv_bipush (v := 62) hx hb dX10_go_157 (by decide) ?_
                refine lv_icmp_eq (tgt := 174) hx hb dX10_go_159 (by decide) (fun c_159 => ?_) (fun c_159 => ?_)
                · have r_v_34 : RI v_34 62 62 := rc_eq1 r_v_34 rl_62 (ti_eq c_159) (by decide)
                  exact B174 v_34 vu_32 z0_4 z0_5 z0_6 ws _ _ ls (r_v_34.to (by decide)) r_vu_32 m_u_32 r_z0_4 m_z0_4 r_z0_5 m_z0_5 r_z0_6 m_z0_6 hw (lv_sub hl [1, 0] rfl)
                · refine lv_iload_n hx hb dX10_go_162 rfl (lv_at hl 0 rfl) ?_
                  refine lv_bipush (v := 40) hx hb dX10_go_163 (by decide) ?_
                  refine lv_icmp_eq (tgt := 174) hx hb dX10_go_165 (by decide) (fun c_165 => ?_) (fun c_165 => ?_)
                  · have r_v_34 : RI v_34 40 40 := rc_eq1 r_v_34 rl_40 (ti_eq c_165) (by decide)
                    exact B174 v_34 vu_32 z0_4 z0_5 z0_6 ws _ _ ls (r_v_34.to (by decide)) r_vu_32 m_u_32 r_z0_4 m_z0_4 r_z0_5 m_z0_5 r_z0_6 m_z0_6 hw (lv_sub hl [1, 0] rfl)
                  · refine lv_iload_n hx hb dX10_go_168 rfl (lv_at hl 0 rfl) ?_
                    refine lv_bipush (v := 41) hx hb dX10_go_169 (by decide) ?_
                    refine lv_icmp_ne (tgt := 178) hx hb dX10_go_171 (by decide) (fun c_171 => ?_) (fun c_171 => ?_)
                    · refine lv_iconst (v := 1) hx hb dX10_go_178 (by decide) ?_
                      exact B179 v_34 1 vu_32 z0_4 z0_5 z0_6 ws _ _ ls r_v_34 (rl_1.to (by decide)) r_vu_32 m_u_32 r_z0_4 m_z0_4 r_z0_5 m_z0_5 r_z0_6 m_z0_6 hw (lv_sub hl [1, 0] rfl)
                    · have r_v_34 : RI v_34 41 41 := rc_eq1 r_v_34 rl_41 (ti_eq c_171) (by decide)
                      exact B174 v_34 vu_32 z0_4 z0_5 z0_6 ws _ _ ls (r_v_34.to (by decide)) r_vu_32 m_u_32 r_z0_4 m_z0_4 r_z0_5 m_z0_5 r_z0_6 m_z0_6 hw (lv_sub hl [1, 0] rfl)
    · refine lv_aload_n hx hb dX10_go_107 rfl (lv_at hl 0 rfl) ?_
      refine lv_iconst (v := 0) hx hb dX10_go_108 (by decide) ?_
      refine tg_put (ci := 10) (ts := ty_MODEL) (v := .int 0) (ty := .int) (C := RX10) (T := TX10) (N := 49) hx hb hts inX10 tyX10 tyX10_ok nmX10 hown hK hw h_p0 rfl rfl 7 (by decide) (hts _ tw_1144) (fun _ h9 => h9) rfl (by decide +kernel) rfl rfl (ft := vI (-2147483648) 2147483647) rfl ⟨_, rfl, (rl_0.to (by decide))⟩ (by decide) dX10_go_109 (fun ws H locs hw n_k_37 hF9 => ?_)
      have m_z0_4 := FLD.over hF9 m_z0_4 (by decide)
      have m_z0_5 := FLD.over hF9 m_z0_5 (by decide)
      have m_z0_6 := FLD.over hF9 m_z0_6 (by decide)
      have m_u_32 := FLD.over hF9 m_u_32 (by decide)
      subst hQ
      exact W.vret hx hb hr (fun t ht hW => ⟨⟨ws, rfl, ⟨trivial, hw.1, hw.2.2.2.2.1⟩, by rw [ht]; exact hw.2.1, va_K.moved hW.alike hK, hw.2.2.1⟩, hw.2.2.2.1.F ht⟩) hw.2.2.2.1.2.2 dX10_go_112
  have B52 : ∀ (z0_5 : Int32) (ws : va_W) (H : Heap) (locs : List Loc) (ls : Array Slot), RI z0_5 0 940 → FLD ws p0 10 5 (.int z0_5) → WD D cy GG A s wr_X10_go wa_X10_go Ps w0 Ps ws H locs → lv_has ls 5 [(0, .ref p0)] → W p l e (headSpec (Cond.code yX10_go cX10_go 5 none :: gT) ({ frames := 2, cells := 0, slots := 0, locals := 400 } : Room)).room s m ([.ref p0] : List Value).toArray below meth c H locs 0 0 Q (F0 m 52 ls []) := by
    intro z0_5 ws H locs ls r_z0_5 m_z0_5 hw hl
    refine lv_aload_n hx hb dX10_go_52 rfl (lv_at hl 0 rfl) ?_
    refine lv_aload_n hx hb dX10_go_53 rfl (lv_at hl 0 rfl) ?_
    refine tg_mem (ci := 10) (C := RX10) (T := TX10) (N := 49) hx hb hts inX10 hown hK hw 5 m_z0_5 rfl (by decide) (hts _ tw_1142) (fun _ h9 => h9) dX10_go_54 ?_
    refine tg_put (ci := 10) (ts := ty_MODEL) (v := .int z0_5) (ty := .int) (C := RX10) (T := TX10) (N := 49) hx hb hts inX10 tyX10 tyX10_ok nmX10 hown hK hw h_p0 rfl rfl 6 (by decide) (hts _ tw_1143) (fun _ h9 => h9) rfl (by decide +kernel) rfl rfl (ft := vI (-2147483648) 2147483647) rfl ⟨_, rfl, (r_z0_5.to (by decide))⟩ (by decide) dX10_go_57 (fun ws H locs hw n_k_38 hF9 => ?_)
    have m_z0_5 := FLD.over hF9 m_z0_5 (by decide)
    refine lv_aload_n hx hb dX10_go_60 rfl (lv_at hl 0 rfl) ?_
    refine tg_get (ci := 10) (ts := ty_MODEL) (C := RX10) (T := TX10) (N := 49) hx hb hts inX10 hown hK hw h_p0 rfl rfl 3 (by decide) (hts _ tw_1140) (fun _ h9 => h9) (ft := vI 0 940) rfl dX10_go_61 (fun u_39 hv_u_39 m_u_39 => ?_)
    obtain ⟨vu_39, rfl, r_vu_39⟩ := hv_u_39
    refine lv_aload_n hx hb dX10_go_64 rfl (lv_at hl 0 rfl) ?_
    refine tg_get (ci := 10) (ts := ty_MODEL) (C := RX10) (T := TX10) (N := 49) hx hb hts inX10 hown hK hw h_p0 rfl rfl 4 (by decide) (hts _ tw_1141) (fun _ h9 => h9) (ft := vI (-2147483648) 2147483647) rfl dX10_go_65 (fun u_40 hv_u_40 m_u_40 => ?_)
    obtain ⟨vu_40, rfl, r_vu_40⟩ := hv_u_40
    refine lv_icmp_le (tgt := 96) hx hb dX10_go_68 (by decide) (fun c_68 => ?_) (fun c_68 => ?_)
    · have r_vu_40 : RI vu_40 0 2147483647 := rc_le2 r_vu_39 r_vu_40 (ti_le c_68) (by decide)
      exact B96 vu_40 z0_5 z0_5 ws _ _ ls r_vu_40 m_u_40 r_z0_5 m_z0_5 r_z0_5 n_k_38 hw hl
    · have r_vu_40 : RI vu_40 (-2147483648) 939 := rc_lt1 r_vu_40 r_vu_39 (ti_nle c_68) (by decide)
      refine lv_aload_n hx hb dX10_go_71 rfl (lv_at hl 0 rfl) ?_
      refine tg_mem (ci := 10) (C := RX10) (T := TX10) (N := 49) hx hb hts inX10 hown hK hw 6 n_k_38 rfl (by decide) (hts _ tw_1143) (fun _ h9 => h9) dX10_go_72 ?_
      refine lv_aload_n hx hb dX10_go_75 rfl (lv_at hl 0 rfl) ?_
      refine tg_mem (ci := 10) (C := RX10) (T := TX10) (N := 49) hx hb hts inX10 hown hK hw 4 m_u_40 rfl (by decide) (hts _ tw_1141) (fun _ h9 => h9) dX10_go_76 ?_
      refine lv_icmp_lt (tgt := 96) hx hb dX10_go_79 (by decide) (fun c_79 => ?_) (fun c_79 => ?_)
      · have r_z0_5 : RI z0_5 0 938 := rc_lt1 r_z0_5 r_vu_40 (ti_lt c_79) (by decide)
        have r_vu_40 : RI vu_40 1 939 := rc_lt2 r_z0_5 r_vu_40 (ti_lt c_79) (by decide)
        exact B96 vu_40 z0_5 z0_5 ws _ _ ls (r_vu_40.to (by decide)) m_u_40 (r_z0_5.to (by decide)) m_z0_5 (r_z0_5.to (by decide)) n_k_38 hw hl
      · refine lv_aload_n hx hb dX10_go_82 rfl (lv_at hl 0 rfl) ?_
        refine lv_aload_n hx hb dX10_go_83 rfl (lv_at hl 0 rfl) ?_
        refine tg_mem (ci := 10) (C := RX10) (T := TX10) (N := 49) hx hb hts inX10 hown hK hw 4 m_u_40 rfl (by decide) (hts _ tw_1141) (fun _ h9 => h9) dX10_go_84 ?_
        refine tg_put (ci := 10) (ts := ty_MODEL) (v := .int vu_40) (ty := .int) (C := RX10) (T := TX10) (N := 49) hx hb hts inX10 tyX10 tyX10_ok nmX10 hown hK hw h_p0 rfl rfl 6 (by decide) (hts _ tw_1143) (fun _ h9 => h9) rfl (by decide +kernel) rfl rfl (ft := vI (-2147483648) 2147483647) rfl ⟨_, rfl, (r_vu_40.to (by decide))⟩ (by decide) dX10_go_87 (fun ws H locs hw n_k_41 hF9 => ?_)
        have m_z0_5 := FLD.over hF9 m_z0_5 (by decide)
        have m_u_39 := FLD.over hF9 m_u_39 (by decide)
        have m_u_40 := FLD.over hF9 m_u_40 (by decide)
        refine lv_aload_n hx hb dX10_go_90 rfl (lv_at hl 0 rfl) ?_
        refine lv_iconst (v := 1) hx hb dX10_go_91 (by decide) ?_
        refine tg_put (ci := 10) (ts := ty_MODEL) (v := .int 1) (ty := .int) (C := RX10) (T := TX10) (N := 49) hx hb hts inX10 tyX10 tyX10_ok nmX10 hown hK hw h_p0 rfl rfl 7 (by decide) (hts _ tw_1144) (fun _ h9 => h9) rfl (by decide +kernel) rfl rfl (ft := vI (-2147483648) 2147483647) rfl ⟨_, rfl, (rl_1.to (by decide))⟩ (by decide) dX10_go_92 (fun ws H locs hw n_k_42 hF9 => ?_)
        have m_z0_5 := FLD.over hF9 m_z0_5 (by decide)
        have m_u_39 := FLD.over hF9 m_u_39 (by decide)
        have m_u_40 := FLD.over hF9 m_u_40 (by decide)
        have n_k_41 := FLD.over hF9 n_k_41 (by decide)
        subst hQ
        exact W.vret hx hb hr (fun t ht hW => ⟨⟨ws, rfl, ⟨trivial, hw.1, hw.2.2.2.2.1⟩, by rw [ht]; exact hw.2.1, va_K.moved hW.alike hK, hw.2.2.1⟩, hw.2.2.2.1.F ht⟩) hw.2.2.2.1.2.2 dX10_go_95
  have B0 : ∀ (nf : Nat) (z0_5 : Int32) (ws : va_W) (H : Heap) (locs : List Loc) (ls : Array Slot), 940 - z0_5.toInt < (nf : Int) → RI z0_5 0 940 → FLD ws p0 10 5 (.int z0_5) → WD D cy GG A s wr_X10_go wa_X10_go Ps w0 Ps ws H locs → lv_has ls 5 [(0, .ref p0)] → W p l e (headSpec (Cond.code yX10_go cX10_go 5 none :: gT) ({ frames := 2, cells := 0, slots := 0, locals := 400 } : Room)).room s m ([.ref p0] : List Value).toArray below meth c H locs 0 0 Q (F0 m 0 ls []) := by
    intro nf0
    induction nf0 with
    | zero =>
      intro z0_5 ws H locs ls hn0 r_z0_5 m_z0_5 hw hl
      exact absurd hn0 (by have q0 := r_z0_5.1; have u0 := r_z0_5.2; omega)
    | succ nf0 ih0 =>
      have B39 : ∀ (z0_3 : Int32) (z0_5 : Int32) (ws : va_W) (H : Heap) (locs : List Loc) (ls : Array Slot), RI z0_3 1 940 → FLD ws p0 10 3 (.int z0_3) → RI z0_5 0 939 → FLD ws p0 10 5 (.int z0_5) → 940 - z0_5.toInt < ((nf0 + 1 : Nat) : Int) → WD D cy GG A s wr_X10_go wa_X10_go Ps w0 Ps ws H locs → lv_has ls 5 [(0, .ref p0)] → W p l e (headSpec (Cond.code yX10_go cX10_go 5 none :: gT) ({ frames := 2, cells := 0, slots := 0, locals := 400 } : Room)).room s m ([.ref p0] : List Value).toArray below meth c H locs 0 0 Q (F0 m 39 ls []) := by
        intro z0_3 z0_5 ws H locs ls r_z0_3 m_z0_3 r_z0_5 m_z0_5 hn0 hw hl
        refine lv_aload_n hx hb dX10_go_39 rfl (lv_at hl 0 rfl) ?_
        refine lv_dup hx hb dX10_go_40 rfl ?_
        refine tg_mem (ci := 10) (C := RX10) (T := TX10) (N := 49) hx hb hts inX10 hown hK hw 5 m_z0_5 rfl (by decide) (hts _ tw_1142) (fun _ h9 => h9) dX10_go_41 ?_
        refine lv_iconst (v := 1) hx hb dX10_go_44 (by decide) ?_
        refine lv_iadd hx hb dX10_go_45 (lv_topi (fun v_43 e_v_43 => ?_))
        obtain ⟨t_v_43, r_v_43⟩ := tq_add (lo := 1) (hi := 940) r_z0_5 rl_1 (by decide +kernel) e_v_43
        have t_v_43 : v_43.toInt = z0_5.toInt + 1 := t_v_43
        refine tg_put (ci := 10) (ts := ty_MODEL) (v := .int v_43) (ty := .int) (C := RX10) (T := TX10) (N := 49) hx hb hts inX10 tyX10 tyX10_ok nmX10 hown hK hw h_p0 rfl rfl 5 (by decide) (hts _ tw_1142) (fun _ h9 => h9) rfl (by decide +kernel) rfl rfl (ft := vI 0 940) rfl ⟨_, rfl, (r_v_43.to (by decide))⟩ (by decide) dX10_go_46 (fun ws H locs hw n_k_44 hF9 => ?_)
        have m_z0_3 := FLD.over hF9 m_z0_3 (by decide)
        refine lv_goto (tgt := 0) hx hb dX10_go_49 (by decide) ?_
        exact ih0 v_43 ws _ _ ls (by have q0 := r_v_43.1; have u0 := r_v_43.2; have o0 := r_z0_5.1; have p0 := r_z0_5.2; omega) (r_v_43.to (by decide)) n_k_44 hw hl
      intro z0_5 ws H locs ls hn0 r_z0_5 m_z0_5 hw hl
      refine lv_aload_n hx hb dX10_go_0 rfl (lv_at hl 0 rfl) ?_
      refine tg_mem (ci := 10) (C := RX10) (T := TX10) (N := 49) hx hb hts inX10 hown hK hw 5 m_z0_5 rfl (by decide) (hts _ tw_1142) (fun _ h9 => h9) dX10_go_1 ?_
      refine lv_aload_n hx hb dX10_go_4 rfl (lv_at hl 0 rfl) ?_
      refine tg_get (ci := 10) (ts := ty_MODEL) (C := RX10) (T := TX10) (N := 49) hx hb hts inX10 hown hK hw h_p0 rfl rfl 3 (by decide) (hts _ tw_1140) (fun _ h9 => h9) (ft := vI 0 940) rfl dX10_go_5 (fun u_45 hv_u_45 m_u_45 => ?_)
      obtain ⟨vu_45, rfl, r_vu_45⟩ := hv_u_45
      refine lv_icmp_ge (tgt := 52) hx hb dX10_go_8 (by decide) (fun c_8 => ?_) (fun c_8 => ?_)
      · exact B52 z0_5 ws _ _ ls r_z0_5 m_z0_5 hw hl
      · have r_z0_5 : RI z0_5 0 939 := rc_lt1 r_z0_5 r_vu_45 (ti_nle c_8) (by decide)
        have r_vu_45 : RI vu_45 1 940 := rc_lt2 r_z0_5 r_vu_45 (ti_nle c_8) (by decide)
        refine lv_aload_n hx hb dX10_go_11 rfl (lv_at hl 0 rfl) ?_
        refine tg_get (ci := 10) (ts := ty_MODEL) (C := RX10) (T := TX10) (N := 49) hx hb hts inX10 hown hK hw h_p0 rfl rfl 1 (by decide) (hts _ tw_1138) (fun _ h9 => h9) (ft := vR 40) rfl dX10_go_12 (fun u_46 hv_u_46 m_u_46 => ?_)
        obtain ⟨vu_46, rfl, h_vu_46⟩ := hv_u_46
        refine lv_aload_n hx hb dX10_go_15 rfl (lv_at hl 0 rfl) ?_
        refine tg_mem (ci := 10) (C := RX10) (T := TX10) (N := 49) hx hb hts inX10 hown hK hw 5 m_z0_5 rfl (by decide) (hts _ tw_1142) (fun _ h9 => h9) dX10_go_16 ?_
        refine tg_iald (lo := 0) (hi := 255) hx hb hK hw h_vu_46 rfl 0 939 r_z0_5 (by decide) (by exact fun _ _ _ => ⟨Int.le_refl _, Int.le_refl _⟩) dX10_go_19 (fun v_47 r_v_47 m_v_47 o_v_47 => ?_)
        refine lv_bipush (v := 32) hx hb dX10_go_20 (by decide) ?_
        refine lv_icmp_eq (tgt := 39) hx hb dX10_go_22 (by decide) (fun c_22 => ?_) (fun c_22 => ?_)
        · have r_v_47 : RI v_47 32 32 := rc_eq1 r_v_47 rl_32 (ti_eq c_22) (by decide)
          exact B39 vu_45 z0_5 ws _ _ ls r_vu_45 m_u_45 r_z0_5 m_z0_5 (by have q0 := r_z0_5.1; have u0 := r_z0_5.2; omega) hw hl
        · refine lv_aload_n hx hb dX10_go_25 rfl (lv_at hl 0 rfl) ?_
          refine tg_mem (ci := 10) (C := RX10) (T := TX10) (N := 49) hx hb hts inX10 hown hK hw 1 m_u_46 rfl (by decide) (hts _ tw_1138) (fun _ h9 => h9) dX10_go_26 ?_
          refine lv_aload_n hx hb dX10_go_29 rfl (lv_at hl 0 rfl) ?_
          refine tg_mem (ci := 10) (C := RX10) (T := TX10) (N := 49) hx hb hts inX10 hown hK hw 5 m_z0_5 rfl (by decide) (hts _ tw_1142) (fun _ h9 => h9) dX10_go_30 ?_
          refine tg_imem hx hb hK hw h_vu_46 rfl r_z0_5 (by decide) m_v_47 dX10_go_33 ?_
          refine lv_bipush (v := 10) hx hb dX10_go_34 (by decide) ?_
          refine lv_icmp_ne (tgt := 52) hx hb dX10_go_36 (by decide) (fun c_36 => ?_) (fun c_36 => ?_)
          · exact B52 z0_5 ws _ _ ls (r_z0_5.to (by decide)) m_z0_5 hw hl
          · have r_v_47 : RI v_47 10 10 := rc_eq1 r_v_47 rl_10 (ti_eq c_36) (by decide)
            exact B39 vu_45 z0_5 ws _ _ ls r_vu_45 m_u_45 r_z0_5 m_z0_5 (by have q0 := r_z0_5.1; have u0 := r_z0_5.2; omega) hw hl
  obtain ⟨v_49, m_v_49, r_v_49⟩ := tg_fld (k := 5) (ci := 10) (ts := ty_MODEL) (lo := 0) (hi := 940) hw h_p0 rfl rfl
  exact B0 4294967298 v_49 w0 _ _ ls (by have q0 := r_v_49.1; have u0 := r_v_49.2; omega) r_v_49 m_v_49 hw hl
abbrev wr_X10_spelt : List (Nat × Nat) := []
abbrev wa_X10_spelt : List Nat := []
set_option maxHeartbeats 4000000 in
set_option maxRecDepth 100000 in
theorem c_X10_spelt (l : Launch) (D : va_G) (cy : Nat → ClassId) (z : Nat → Nat) (sz : Nat) (Ps : PSI) (w0 : va_W) (hT : HT cy GG Ps w0) (p0 : Int32) (p1 : Int32) (p2 : Int32) (p3 : Int32) (p4 : Int32) (p5 : Int32) (p6 : Int32) (r_p0 : RI p0 110 110) (r_p1 : RI p1 117 117) (r_p2 : RI p2 109 109) (r_p3 : RI p3 98 98) (r_p4 : RI p4 101 101) (r_p5 : RI p5 114 114) (r_p6 : RI p6 0 0) : Met l yX10_spelt (Cond.code yX10_spelt cX10_spelt 9 (some .long) :: gT) ({ frames := 0, cells := 0, slots := 0, locals := 200 } : Room) (va_Pc [.int p0, .int p1, .int p2, .int p3, .int p4, .int p5, .int p6] (PRE D cy z w0 sz)) (va_Ql (fun (r : Int64) (u : Unit) => RJ r 212302449 212302449) (BB D cy (va_A w0 sz) (fun (u : Unit) => w0)) (va_A w0 sz)) 0 0 (va_A w0 sz) := by
  refine Met.ofW (cc := cX10_spelt) (maxL := 9) (ret := (some .long)) (by decide) rfl ?_
  intro p e s m args below meth c s₁ B hml hv
  obtain ⟨rfl, hsz, hP, hK, hD0, hSD⟩ := hv
  have hx := B.exec
  have hb := B.bytes
  have hr := B.returns
  have hlocks := B.notSynchronized
  have hts : ∀ w ∈ gT, w.before _ s = true := fun w h => atoms_spec (ws := Cond.code yX10_spelt cX10_spelt 9 (some .long) :: gT) B.pre w (List.mem_cons_of_mem _ h)
  have hown : s.vm.findClass RX10 = some m.cls := findClass_of_methodNamed B.named
  subst hsz
  have hD := hD0.self (sz := s.heap.size)
  generalize hAe : va_A w0 s.heap.size = A at hD hSD ⊢
  have hA : ∀ q : Nat, s.heap.size ≤ q → A q := fun q h => by rw [← hAe]; exact Or.inr h
  have hl := lv_entry ([.int p0, .int p1, .int p2, .int p3, .int p4, .int p5, .int p6]) (n := 9) (Nat.le_of_ble_eq_true rfl)
  rw [lg_entry_eq]
  generalize (lg_sl ([.int p0, .int p1, .int p2, .int p3, .int p4, .int p5, .int p6]) ++ List.replicate (9 - (lg_sl ([.int p0, .int p1, .int p2, .int p3, .int p4, .int p5, .int p6])).length) Slot.unset).toArray = ls at hl ⊢
  have hl : lv_has ls 9 [(0, .int p0), (1, .int p1), (2, .int p2), (3, .int p3), (4, .int p4), (5, .int p5), (6, .int p6)] := hl
  refine nameQ (fun Q hQ => ?_)
  have hw : WD D cy GG A s wr_X10_spelt wa_X10_spelt Ps w0 Ps w0 s.heap [] := ⟨hT, hP, hD, va_S.rf, FR.rf, hT.1, [], (List.append_nil _).symm⟩
  have B99 : ∀ (x7 : Int64) (H : Heap) (locs : List Loc) (ls : Array Slot), RI p0 110 110 → RI p1 117 117 → RI p2 109 109 → RI p3 98 98 → RI p4 101 101 → RI p5 114 114 → RI p6 0 0 → RJ x7 212302449 212302449 → WD D cy GG A s wr_X10_spelt wa_X10_spelt Ps w0 Ps w0 H locs → lv_has ls 9 [(0, .int p0), (1, .int p1), (2, .int p2), (3, .int p3), (4, .int p4), (5, .int p5), (6, .int p6), (7, .long x7)] → W p l e (headSpec (Cond.code yX10_spelt cX10_spelt 9 (some .long) :: gT) ({ frames := 0, cells := 0, slots := 0, locals := 200 } : Room)).room s m ([.int p0, .int p1, .int p2, .int p3, .int p4, .int p5, .int p6] : List Value).toArray below meth c H locs 0 0 Q (F0 m 99 ls []) := by
    intro x7 H locs ls r_p0 r_p1 r_p2 r_p3 r_p4 r_p5 r_p6 r_x7 hw hl
    refine lv_iload hx hb dX10_spelt_99 (lv_at hl 6 rfl) ?_
    refine lv_if_le (tgt := 120) hx hb dX10_spelt_101 (by decide) (fun c_101 => ?_) (fun c_101 => ?_)
    · refine lv_lload hx hb dX10_spelt_120 (lv_at hl 7 rfl) ?_
      subst hQ
      exact W.lret (v := x7) hx hb hr (fun t ht hW => ⟨⟨x7, (), rfl, r_x7.to (by decide), by rw [ht]; exact hw.2.1, va_K.moved hW.alike hK, hw.2.2.1⟩, hw.2.2.2.1.F ht⟩) hw.2.2.2.1.2.2 dX10_spelt_122
    · have r_p6 : RI p6 1 0 := rc_lt2 rl_0 r_p6 (ti_nle c_101) (by decide)
      exact (r_p6.no (by decide)).elim
  have B78 : ∀ (x7 : Int64) (H : Heap) (locs : List Loc) (ls : Array Slot), RI p0 110 110 → RI p1 117 117 → RI p2 109 109 → RI p3 98 98 → RI p4 101 101 → RI p5 114 114 → RI p6 0 0 → RJ x7 7863053 7863053 → WD D cy GG A s wr_X10_spelt wa_X10_spelt Ps w0 Ps w0 H locs → lv_has ls 9 [(0, .int p0), (1, .int p1), (2, .int p2), (3, .int p3), (4, .int p4), (5, .int p5), (6, .int p6), (7, .long x7)] → W p l e (headSpec (Cond.code yX10_spelt cX10_spelt 9 (some .long) :: gT) ({ frames := 0, cells := 0, slots := 0, locals := 200 } : Room)).room s m ([.int p0, .int p1, .int p2, .int p3, .int p4, .int p5, .int p6] : List Value).toArray below meth c H locs 0 0 Q (F0 m 78 ls []) := by
    intro x7 H locs ls r_p0 r_p1 r_p2 r_p3 r_p4 r_p5 r_p6 r_x7 hw hl
    refine lv_iload hx hb dX10_spelt_78 (lv_at hl 5 rfl) ?_
    refine lv_if_le (tgt := 99) hx hb dX10_spelt_80 (by decide) (fun c_80 => ?_) (fun c_80 => ?_)
    · have r_p5 : RI p5 114 0 := rc_le1 r_p5 rl_0 (ti_le c_80) (by decide)
      exact (r_p5.no (by decide)).elim
    · refine lv_ldc2 (v := 27) hx hb hown (hts _ tw_1312) dX10_spelt_83 ?_
      refine lv_lload hx hb dX10_spelt_86 (lv_at hl 7 rfl) ?_
      refine lv_lmul hx hb dX10_spelt_88 (lv_topl (fun w_1 e_w_1 => ?_))
      have r_w_1 := tq_lmul (lo := 212302431) (hi := 212302431) rk_27 r_x7 (by decide +kernel) e_w_1
      refine lv_iload hx hb dX10_spelt_89 (lv_at hl 5 rfl) ?_
      obtain ⟨w_2, e_w_2⟩ : ∃ q9 : Int64, (p5 : Int32).toInt64 = q9 := ⟨_, rfl⟩
      refine lv_i2l (v := w_2) hx hb dX10_spelt_91 e_w_2 ?_
      have r_w_2 := tq_i2l r_p5 e_w_2
      refine lv_ladd hx hb dX10_spelt_92 (lv_topl (fun w_3 e_w_3 => ?_))
      have r_w_3 := tq_ladd (lo := 212302545) (hi := 212302545) r_w_1 r_w_2 (by decide +kernel) e_w_3
      refine lv_ldc2 (v := 96) hx hb hown (hts _ tw_1313) dX10_spelt_93 ?_
      refine lv_lsub hx hb dX10_spelt_96 (lv_topl (fun w_4 e_w_4 => ?_))
      have r_w_4 := tq_lsub (lo := 212302449) (hi := 212302449) r_w_3 rk_96 (by decide +kernel) e_w_4
      refine lv_lstore (lv' := [(7, .long w_4), (0, .int p0), (1, .int p1), (2, .int p2), (3, .int p3), (4, .int p4), (5, .int p5), (6, .int p6)]) hx hb dX10_spelt_97 hl (by decide) rfl (fun ls hl => ?_)
      exact B99 w_4 _ _ ls r_p0 r_p1 r_p2 r_p3 r_p4 r_p5 r_p6 r_w_4 hw (lv_sub hl [1, 2, 3, 4, 5, 6, 7, 0] rfl)
  have B57 : ∀ (x7 : Int64) (H : Heap) (locs : List Loc) (ls : Array Slot), RI p0 110 110 → RI p1 117 117 → RI p2 109 109 → RI p3 98 98 → RI p4 101 101 → RI p5 114 114 → RI p6 0 0 → RJ x7 291224 291224 → WD D cy GG A s wr_X10_spelt wa_X10_spelt Ps w0 Ps w0 H locs → lv_has ls 9 [(0, .int p0), (1, .int p1), (2, .int p2), (3, .int p3), (4, .int p4), (5, .int p5), (6, .int p6), (7, .long x7)] → W p l e (headSpec (Cond.code yX10_spelt cX10_spelt 9 (some .long) :: gT) ({ frames := 0, cells := 0, slots := 0, locals := 200 } : Room)).room s m ([.int p0, .int p1, .int p2, .int p3, .int p4, .int p5, .int p6] : List Value).toArray below meth c H locs 0 0 Q (F0 m 57 ls []) := by
    intro x7 H locs ls r_p0 r_p1 r_p2 r_p3 r_p4 r_p5 r_p6 r_x7 hw hl
    refine lv_iload hx hb dX10_spelt_57 (lv_at hl 4 rfl) ?_
    refine lv_if_le (tgt := 78) hx hb dX10_spelt_59 (by decide) (fun c_59 => ?_) (fun c_59 => ?_)
    · have r_p4 : RI p4 101 0 := rc_le1 r_p4 rl_0 (ti_le c_59) (by decide)
      exact (r_p4.no (by decide)).elim
    · refine lv_ldc2 (v := 27) hx hb hown (hts _ tw_1312) dX10_spelt_62 ?_
      refine lv_lload hx hb dX10_spelt_65 (lv_at hl 7 rfl) ?_
      refine lv_lmul hx hb dX10_spelt_67 (lv_topl (fun w_5 e_w_5 => ?_))
      have r_w_5 := tq_lmul (lo := 7863048) (hi := 7863048) rk_27 r_x7 (by decide +kernel) e_w_5
      refine lv_iload hx hb dX10_spelt_68 (lv_at hl 4 rfl) ?_
      obtain ⟨w_6, e_w_6⟩ : ∃ q9 : Int64, (p4 : Int32).toInt64 = q9 := ⟨_, rfl⟩
      refine lv_i2l (v := w_6) hx hb dX10_spelt_70 e_w_6 ?_
      have r_w_6 := tq_i2l r_p4 e_w_6
      refine lv_ladd hx hb dX10_spelt_71 (lv_topl (fun w_7 e_w_7 => ?_))
      have r_w_7 := tq_ladd (lo := 7863149) (hi := 7863149) r_w_5 r_w_6 (by decide +kernel) e_w_7
      refine lv_ldc2 (v := 96) hx hb hown (hts _ tw_1313) dX10_spelt_72 ?_
      refine lv_lsub hx hb dX10_spelt_75 (lv_topl (fun w_8 e_w_8 => ?_))
      have r_w_8 := tq_lsub (lo := 7863053) (hi := 7863053) r_w_7 rk_96 (by decide +kernel) e_w_8
      refine lv_lstore (lv' := [(7, .long w_8), (0, .int p0), (1, .int p1), (2, .int p2), (3, .int p3), (4, .int p4), (5, .int p5), (6, .int p6)]) hx hb dX10_spelt_76 hl (by decide) rfl (fun ls hl => ?_)
      exact B78 w_8 _ _ ls r_p0 r_p1 r_p2 r_p3 r_p4 r_p5 r_p6 r_w_8 hw (lv_sub hl [1, 2, 3, 4, 5, 6, 7, 0] rfl)
  have B38 : ∀ (x7 : Int64) (H : Heap) (locs : List Loc) (ls : Array Slot), RI p0 110 110 → RI p1 117 117 → RI p2 109 109 → RI p3 98 98 → RI p4 101 101 → RI p5 114 114 → RI p6 0 0 → RJ x7 10786 10786 → WD D cy GG A s wr_X10_spelt wa_X10_spelt Ps w0 Ps w0 H locs → lv_has ls 9 [(0, .int p0), (1, .int p1), (2, .int p2), (3, .int p3), (4, .int p4), (5, .int p5), (6, .int p6), (7, .long x7)] → W p l e (headSpec (Cond.code yX10_spelt cX10_spelt 9 (some .long) :: gT) ({ frames := 0, cells := 0, slots := 0, locals := 200 } : Room)).room s m ([.int p0, .int p1, .int p2, .int p3, .int p4, .int p5, .int p6] : List Value).toArray below meth c H locs 0 0 Q (F0 m 38 ls []) := by
    intro x7 H locs ls r_p0 r_p1 r_p2 r_p3 r_p4 r_p5 r_p6 r_x7 hw hl
    refine lv_iload_n hx hb dX10_spelt_38 rfl (lv_at hl 3 rfl) ?_
    refine lv_if_le (tgt := 57) hx hb dX10_spelt_39 (by decide) (fun c_39 => ?_) (fun c_39 => ?_)
    · have r_p3 : RI p3 98 0 := rc_le1 r_p3 rl_0 (ti_le c_39) (by decide)
      exact (r_p3.no (by decide)).elim
    · refine lv_ldc2 (v := 27) hx hb hown (hts _ tw_1312) dX10_spelt_42 ?_
      refine lv_lload hx hb dX10_spelt_45 (lv_at hl 7 rfl) ?_
      refine lv_lmul hx hb dX10_spelt_47 (lv_topl (fun w_9 e_w_9 => ?_))
      have r_w_9 := tq_lmul (lo := 291222) (hi := 291222) rk_27 r_x7 (by decide +kernel) e_w_9
      refine lv_iload_n hx hb dX10_spelt_48 rfl (lv_at hl 3 rfl) ?_
      obtain ⟨w_10, e_w_10⟩ : ∃ q9 : Int64, (p3 : Int32).toInt64 = q9 := ⟨_, rfl⟩
      refine lv_i2l (v := w_10) hx hb dX10_spelt_49 e_w_10 ?_
      have r_w_10 := tq_i2l r_p3 e_w_10
      refine lv_ladd hx hb dX10_spelt_50 (lv_topl (fun w_11 e_w_11 => ?_))
      have r_w_11 := tq_ladd (lo := 291320) (hi := 291320) r_w_9 r_w_10 (by decide +kernel) e_w_11
      refine lv_ldc2 (v := 96) hx hb hown (hts _ tw_1313) dX10_spelt_51 ?_
      refine lv_lsub hx hb dX10_spelt_54 (lv_topl (fun w_12 e_w_12 => ?_))
      have r_w_12 := tq_lsub (lo := 291224) (hi := 291224) r_w_11 rk_96 (by decide +kernel) e_w_12
      refine lv_lstore (lv' := [(7, .long w_12), (0, .int p0), (1, .int p1), (2, .int p2), (3, .int p3), (4, .int p4), (5, .int p5), (6, .int p6)]) hx hb dX10_spelt_55 hl (by decide) rfl (fun ls hl => ?_)
      exact B57 w_12 _ _ ls r_p0 r_p1 r_p2 r_p3 r_p4 r_p5 r_p6 r_w_12 hw (lv_sub hl [1, 2, 3, 4, 5, 6, 7, 0] rfl)
  refine lv_ldc2 (v := 27) hx hb hown (hts _ tw_1312) dX10_spelt_0 ?_
  refine lv_iload_n hx hb dX10_spelt_3 rfl (lv_at hl 0 rfl) ?_
  obtain ⟨w_13, e_w_13⟩ : ∃ q9 : Int64, (p0 : Int32).toInt64 = q9 := ⟨_, rfl⟩
  refine lv_i2l (v := w_13) hx hb dX10_spelt_4 e_w_13 ?_
  have r_w_13 := tq_i2l r_p0 e_w_13
  refine lv_ldc2 (v := 96) hx hb hown (hts _ tw_1313) dX10_spelt_5 ?_
  refine lv_lsub hx hb dX10_spelt_8 (lv_topl (fun w_14 e_w_14 => ?_))
  have r_w_14 := tq_lsub (lo := 14) (hi := 14) r_w_13 rk_96 (by decide +kernel) e_w_14
  refine lv_lmul hx hb dX10_spelt_9 (lv_topl (fun w_15 e_w_15 => ?_))
  have r_w_15 := tq_lmul (lo := 378) (hi := 378) rk_27 r_w_14 (by decide +kernel) e_w_15
  refine lv_iload_n hx hb dX10_spelt_10 rfl (lv_at hl 1 rfl) ?_
  obtain ⟨w_16, e_w_16⟩ : ∃ q9 : Int64, (p1 : Int32).toInt64 = q9 := ⟨_, rfl⟩
  refine lv_i2l (v := w_16) hx hb dX10_spelt_11 e_w_16 ?_
  have r_w_16 := tq_i2l r_p1 e_w_16
  refine lv_ladd hx hb dX10_spelt_12 (lv_topl (fun w_17 e_w_17 => ?_))
  have r_w_17 := tq_ladd (lo := 495) (hi := 495) r_w_15 r_w_16 (by decide +kernel) e_w_17
  refine lv_ldc2 (v := 96) hx hb hown (hts _ tw_1313) dX10_spelt_13 ?_
  refine lv_lsub hx hb dX10_spelt_16 (lv_topl (fun w_18 e_w_18 => ?_))
  have r_w_18 := tq_lsub (lo := 399) (hi := 399) r_w_17 rk_96 (by decide +kernel) e_w_18
  refine lv_lstore (lv' := [(7, .long w_18), (0, .int p0), (1, .int p1), (2, .int p2), (3, .int p3), (4, .int p4), (5, .int p5), (6, .int p6)]) hx hb dX10_spelt_17 hl (by decide) rfl (fun ls hl => ?_)
  refine lv_iload_n hx hb dX10_spelt_19 rfl (lv_at hl 3 rfl) ?_
  refine lv_if_le (tgt := 38) hx hb dX10_spelt_20 (by decide) (fun c_20 => ?_) (fun c_20 => ?_)
  · have r_p2 : RI p2 109 0 := rc_le1 r_p2 rl_0 (ti_le c_20) (by decide)
    exact (r_p2.no (by decide)).elim
  · refine lv_ldc2 (v := 27) hx hb hown (hts _ tw_1312) dX10_spelt_23 ?_
    refine lv_lload hx hb dX10_spelt_26 (lv_at hl 0 rfl) ?_
    refine lv_lmul hx hb dX10_spelt_28 (lv_topl (fun w_19 e_w_19 => ?_))
    have r_w_19 := tq_lmul (lo := 10773) (hi := 10773) rk_27 r_w_18 (by decide +kernel) e_w_19
    refine lv_iload_n hx hb dX10_spelt_29 rfl (lv_at hl 3 rfl) ?_
    obtain ⟨w_20, e_w_20⟩ : ∃ q9 : Int64, (p2 : Int32).toInt64 = q9 := ⟨_, rfl⟩
    refine lv_i2l (v := w_20) hx hb dX10_spelt_30 e_w_20 ?_
    have r_w_20 := tq_i2l r_p2 e_w_20
    refine lv_ladd hx hb dX10_spelt_31 (lv_topl (fun w_21 e_w_21 => ?_))
    have r_w_21 := tq_ladd (lo := 10882) (hi := 10882) r_w_19 r_w_20 (by decide +kernel) e_w_21
    refine lv_ldc2 (v := 96) hx hb hown (hts _ tw_1313) dX10_spelt_32 ?_
    refine lv_lsub hx hb dX10_spelt_35 (lv_topl (fun w_22 e_w_22 => ?_))
    have r_w_22 := tq_lsub (lo := 10786) (hi := 10786) r_w_21 rk_96 (by decide +kernel) e_w_22
    refine lv_lstore (lv' := [(7, .long w_22), (0, .int p0), (1, .int p1), (2, .int p2), (3, .int p3), (4, .int p4), (5, .int p5), (6, .int p6)]) hx hb dX10_spelt_36 hl (by decide) rfl (fun ls hl => ?_)
    exact B38 w_22 _ _ ls r_p0 r_p1 r_p2 r_p3 r_p4 r_p5 r_p6 r_w_22 hw (lv_sub hl [1, 2, 3, 4, 5, 6, 7, 0] rfl)
abbrev wr_X10_spelt__1 : List (Nat × Nat) := []
abbrev wa_X10_spelt__1 : List Nat := []
set_option maxHeartbeats 4000000 in
set_option maxRecDepth 100000 in
theorem c_X10_spelt__1 (l : Launch) (D : va_G) (cy : Nat → ClassId) (z : Nat → Nat) (sz : Nat) (Ps : PSI) (w0 : va_W) (hT : HT cy GG Ps w0) (p0 : Int32) (p1 : Int32) (p2 : Int32) (p3 : Int32) (p4 : Int32) (p5 : Int32) (p6 : Int32) (r_p0 : RI p0 105 105) (r_p1 : RI p1 100 100) (r_p2 : RI p2 101 101) (r_p3 : RI p3 97 97) (r_p4 : RI p4 0 0) (r_p5 : RI p5 0 0) (r_p6 : RI p6 0 0) : Met l yX10_spelt (Cond.code yX10_spelt cX10_spelt 9 (some .long) :: gT) ({ frames := 0, cells := 0, slots := 0, locals := 200 } : Room) (va_Pc [.int p0, .int p1, .int p2, .int p3, .int p4, .int p5, .int p6] (PRE D cy z w0 sz)) (va_Ql (fun (r : Int64) (u : Unit) => RJ r 180199 180199) (BB D cy (va_A w0 sz) (fun (u : Unit) => w0)) (va_A w0 sz)) 0 0 (va_A w0 sz) := by
  refine Met.ofW (cc := cX10_spelt) (maxL := 9) (ret := (some .long)) (by decide) rfl ?_
  intro p e s m args below meth c s₁ B hml hv
  obtain ⟨rfl, hsz, hP, hK, hD0, hSD⟩ := hv
  have hx := B.exec
  have hb := B.bytes
  have hr := B.returns
  have hlocks := B.notSynchronized
  have hts : ∀ w ∈ gT, w.before _ s = true := fun w h => atoms_spec (ws := Cond.code yX10_spelt cX10_spelt 9 (some .long) :: gT) B.pre w (List.mem_cons_of_mem _ h)
  have hown : s.vm.findClass RX10 = some m.cls := findClass_of_methodNamed B.named
  subst hsz
  have hD := hD0.self (sz := s.heap.size)
  generalize hAe : va_A w0 s.heap.size = A at hD hSD ⊢
  have hA : ∀ q : Nat, s.heap.size ≤ q → A q := fun q h => by rw [← hAe]; exact Or.inr h
  have hl := lv_entry ([.int p0, .int p1, .int p2, .int p3, .int p4, .int p5, .int p6]) (n := 9) (Nat.le_of_ble_eq_true rfl)
  rw [lg_entry_eq]
  generalize (lg_sl ([.int p0, .int p1, .int p2, .int p3, .int p4, .int p5, .int p6]) ++ List.replicate (9 - (lg_sl ([.int p0, .int p1, .int p2, .int p3, .int p4, .int p5, .int p6])).length) Slot.unset).toArray = ls at hl ⊢
  have hl : lv_has ls 9 [(0, .int p0), (1, .int p1), (2, .int p2), (3, .int p3), (4, .int p4), (5, .int p5), (6, .int p6)] := hl
  refine nameQ (fun Q hQ => ?_)
  have hw : WD D cy GG A s wr_X10_spelt__1 wa_X10_spelt__1 Ps w0 Ps w0 s.heap [] := ⟨hT, hP, hD, va_S.rf, FR.rf, hT.1, [], (List.append_nil _).symm⟩
  have B99 : ∀ (x7 : Int64) (H : Heap) (locs : List Loc) (ls : Array Slot), RI p0 105 105 → RI p1 100 100 → RI p2 101 101 → RI p3 97 97 → RI p4 0 0 → RI p5 0 0 → RI p6 0 0 → RJ x7 180199 180199 → WD D cy GG A s wr_X10_spelt__1 wa_X10_spelt__1 Ps w0 Ps w0 H locs → lv_has ls 9 [(0, .int p0), (1, .int p1), (2, .int p2), (3, .int p3), (4, .int p4), (5, .int p5), (6, .int p6), (7, .long x7)] → W p l e (headSpec (Cond.code yX10_spelt cX10_spelt 9 (some .long) :: gT) ({ frames := 0, cells := 0, slots := 0, locals := 200 } : Room)).room s m ([.int p0, .int p1, .int p2, .int p3, .int p4, .int p5, .int p6] : List Value).toArray below meth c H locs 0 0 Q (F0 m 99 ls []) := by
    intro x7 H locs ls r_p0 r_p1 r_p2 r_p3 r_p4 r_p5 r_p6 r_x7 hw hl
    refine lv_iload hx hb dX10_spelt_99 (lv_at hl 6 rfl) ?_
    refine lv_if_le (tgt := 120) hx hb dX10_spelt_101 (by decide) (fun c_101 => ?_) (fun c_101 => ?_)
    · refine lv_lload hx hb dX10_spelt_120 (lv_at hl 7 rfl) ?_
      subst hQ
      exact W.lret (v := x7) hx hb hr (fun t ht hW => ⟨⟨x7, (), rfl, r_x7.to (by decide), by rw [ht]; exact hw.2.1, va_K.moved hW.alike hK, hw.2.2.1⟩, hw.2.2.2.1.F ht⟩) hw.2.2.2.1.2.2 dX10_spelt_122
    · have r_p6 : RI p6 1 0 := rc_lt2 rl_0 r_p6 (ti_nle c_101) (by decide)
      exact (r_p6.no (by decide)).elim
  have B78 : ∀ (x7 : Int64) (H : Heap) (locs : List Loc) (ls : Array Slot), RI p0 105 105 → RI p1 100 100 → RI p2 101 101 → RI p3 97 97 → RI p4 0 0 → RI p5 0 0 → RI p6 0 0 → RJ x7 180199 180199 → WD D cy GG A s wr_X10_spelt__1 wa_X10_spelt__1 Ps w0 Ps w0 H locs → lv_has ls 9 [(0, .int p0), (1, .int p1), (2, .int p2), (3, .int p3), (4, .int p4), (5, .int p5), (6, .int p6), (7, .long x7)] → W p l e (headSpec (Cond.code yX10_spelt cX10_spelt 9 (some .long) :: gT) ({ frames := 0, cells := 0, slots := 0, locals := 200 } : Room)).room s m ([.int p0, .int p1, .int p2, .int p3, .int p4, .int p5, .int p6] : List Value).toArray below meth c H locs 0 0 Q (F0 m 78 ls []) := by
    intro x7 H locs ls r_p0 r_p1 r_p2 r_p3 r_p4 r_p5 r_p6 r_x7 hw hl
    refine lv_iload hx hb dX10_spelt_78 (lv_at hl 5 rfl) ?_
    refine lv_if_le (tgt := 99) hx hb dX10_spelt_80 (by decide) (fun c_80 => ?_) (fun c_80 => ?_)
    · exact B99 x7 _ _ ls r_p0 r_p1 r_p2 r_p3 r_p4 r_p5 r_p6 r_x7 hw hl
    · have r_p5 : RI p5 1 0 := rc_lt2 rl_0 r_p5 (ti_nle c_80) (by decide)
      exact (r_p5.no (by decide)).elim
  have B57 : ∀ (x7 : Int64) (H : Heap) (locs : List Loc) (ls : Array Slot), RI p0 105 105 → RI p1 100 100 → RI p2 101 101 → RI p3 97 97 → RI p4 0 0 → RI p5 0 0 → RI p6 0 0 → RJ x7 180199 180199 → WD D cy GG A s wr_X10_spelt__1 wa_X10_spelt__1 Ps w0 Ps w0 H locs → lv_has ls 9 [(0, .int p0), (1, .int p1), (2, .int p2), (3, .int p3), (4, .int p4), (5, .int p5), (6, .int p6), (7, .long x7)] → W p l e (headSpec (Cond.code yX10_spelt cX10_spelt 9 (some .long) :: gT) ({ frames := 0, cells := 0, slots := 0, locals := 200 } : Room)).room s m ([.int p0, .int p1, .int p2, .int p3, .int p4, .int p5, .int p6] : List Value).toArray below meth c H locs 0 0 Q (F0 m 57 ls []) := by
    intro x7 H locs ls r_p0 r_p1 r_p2 r_p3 r_p4 r_p5 r_p6 r_x7 hw hl
    refine lv_iload hx hb dX10_spelt_57 (lv_at hl 4 rfl) ?_
    refine lv_if_le (tgt := 78) hx hb dX10_spelt_59 (by decide) (fun c_59 => ?_) (fun c_59 => ?_)
    · exact B78 x7 _ _ ls r_p0 r_p1 r_p2 r_p3 r_p4 r_p5 r_p6 r_x7 hw hl
    · have r_p4 : RI p4 1 0 := rc_lt2 rl_0 r_p4 (ti_nle c_59) (by decide)
      exact (r_p4.no (by decide)).elim
  have B38 : ∀ (x7 : Int64) (H : Heap) (locs : List Loc) (ls : Array Slot), RI p0 105 105 → RI p1 100 100 → RI p2 101 101 → RI p3 97 97 → RI p4 0 0 → RI p5 0 0 → RI p6 0 0 → RJ x7 6674 6674 → WD D cy GG A s wr_X10_spelt__1 wa_X10_spelt__1 Ps w0 Ps w0 H locs → lv_has ls 9 [(0, .int p0), (1, .int p1), (2, .int p2), (3, .int p3), (4, .int p4), (5, .int p5), (6, .int p6), (7, .long x7)] → W p l e (headSpec (Cond.code yX10_spelt cX10_spelt 9 (some .long) :: gT) ({ frames := 0, cells := 0, slots := 0, locals := 200 } : Room)).room s m ([.int p0, .int p1, .int p2, .int p3, .int p4, .int p5, .int p6] : List Value).toArray below meth c H locs 0 0 Q (F0 m 38 ls []) := by
    intro x7 H locs ls r_p0 r_p1 r_p2 r_p3 r_p4 r_p5 r_p6 r_x7 hw hl
    refine lv_iload_n hx hb dX10_spelt_38 rfl (lv_at hl 3 rfl) ?_
    refine lv_if_le (tgt := 57) hx hb dX10_spelt_39 (by decide) (fun c_39 => ?_) (fun c_39 => ?_)
    · have r_p3 : RI p3 97 0 := rc_le1 r_p3 rl_0 (ti_le c_39) (by decide)
      exact (r_p3.no (by decide)).elim
    · refine lv_ldc2 (v := 27) hx hb hown (hts _ tw_1312) dX10_spelt_42 ?_
      refine lv_lload hx hb dX10_spelt_45 (lv_at hl 7 rfl) ?_
      refine lv_lmul hx hb dX10_spelt_47 (lv_topl (fun w_1 e_w_1 => ?_))
      have r_w_1 := tq_lmul (lo := 180198) (hi := 180198) rk_27 r_x7 (by decide +kernel) e_w_1
      refine lv_iload_n hx hb dX10_spelt_48 rfl (lv_at hl 3 rfl) ?_
      obtain ⟨w_2, e_w_2⟩ : ∃ q9 : Int64, (p3 : Int32).toInt64 = q9 := ⟨_, rfl⟩
      refine lv_i2l (v := w_2) hx hb dX10_spelt_49 e_w_2 ?_
      have r_w_2 := tq_i2l r_p3 e_w_2
      refine lv_ladd hx hb dX10_spelt_50 (lv_topl (fun w_3 e_w_3 => ?_))
      have r_w_3 := tq_ladd (lo := 180295) (hi := 180295) r_w_1 r_w_2 (by decide +kernel) e_w_3
      refine lv_ldc2 (v := 96) hx hb hown (hts _ tw_1313) dX10_spelt_51 ?_
      refine lv_lsub hx hb dX10_spelt_54 (lv_topl (fun w_4 e_w_4 => ?_))
      have r_w_4 := tq_lsub (lo := 180199) (hi := 180199) r_w_3 rk_96 (by decide +kernel) e_w_4
      refine lv_lstore (lv' := [(7, .long w_4), (0, .int p0), (1, .int p1), (2, .int p2), (3, .int p3), (4, .int p4), (5, .int p5), (6, .int p6)]) hx hb dX10_spelt_55 hl (by decide) rfl (fun ls hl => ?_)
      exact B57 w_4 _ _ ls r_p0 r_p1 r_p2 r_p3 r_p4 r_p5 r_p6 r_w_4 hw (lv_sub hl [1, 2, 3, 4, 5, 6, 7, 0] rfl)
  refine lv_ldc2 (v := 27) hx hb hown (hts _ tw_1312) dX10_spelt_0 ?_
  refine lv_iload_n hx hb dX10_spelt_3 rfl (lv_at hl 0 rfl) ?_
  obtain ⟨w_5, e_w_5⟩ : ∃ q9 : Int64, (p0 : Int32).toInt64 = q9 := ⟨_, rfl⟩
  refine lv_i2l (v := w_5) hx hb dX10_spelt_4 e_w_5 ?_
  have r_w_5 := tq_i2l r_p0 e_w_5
  refine lv_ldc2 (v := 96) hx hb hown (hts _ tw_1313) dX10_spelt_5 ?_
  refine lv_lsub hx hb dX10_spelt_8 (lv_topl (fun w_6 e_w_6 => ?_))
  have r_w_6 := tq_lsub (lo := 9) (hi := 9) r_w_5 rk_96 (by decide +kernel) e_w_6
  refine lv_lmul hx hb dX10_spelt_9 (lv_topl (fun w_7 e_w_7 => ?_))
  have r_w_7 := tq_lmul (lo := 243) (hi := 243) rk_27 r_w_6 (by decide +kernel) e_w_7
  refine lv_iload_n hx hb dX10_spelt_10 rfl (lv_at hl 1 rfl) ?_
  obtain ⟨w_8, e_w_8⟩ : ∃ q9 : Int64, (p1 : Int32).toInt64 = q9 := ⟨_, rfl⟩
  refine lv_i2l (v := w_8) hx hb dX10_spelt_11 e_w_8 ?_
  have r_w_8 := tq_i2l r_p1 e_w_8
  refine lv_ladd hx hb dX10_spelt_12 (lv_topl (fun w_9 e_w_9 => ?_))
  have r_w_9 := tq_ladd (lo := 343) (hi := 343) r_w_7 r_w_8 (by decide +kernel) e_w_9
  refine lv_ldc2 (v := 96) hx hb hown (hts _ tw_1313) dX10_spelt_13 ?_
  refine lv_lsub hx hb dX10_spelt_16 (lv_topl (fun w_10 e_w_10 => ?_))
  have r_w_10 := tq_lsub (lo := 247) (hi := 247) r_w_9 rk_96 (by decide +kernel) e_w_10
  refine lv_lstore (lv' := [(7, .long w_10), (0, .int p0), (1, .int p1), (2, .int p2), (3, .int p3), (4, .int p4), (5, .int p5), (6, .int p6)]) hx hb dX10_spelt_17 hl (by decide) rfl (fun ls hl => ?_)
  refine lv_iload_n hx hb dX10_spelt_19 rfl (lv_at hl 3 rfl) ?_
  refine lv_if_le (tgt := 38) hx hb dX10_spelt_20 (by decide) (fun c_20 => ?_) (fun c_20 => ?_)
  · have r_p2 : RI p2 101 0 := rc_le1 r_p2 rl_0 (ti_le c_20) (by decide)
    exact (r_p2.no (by decide)).elim
  · refine lv_ldc2 (v := 27) hx hb hown (hts _ tw_1312) dX10_spelt_23 ?_
    refine lv_lload hx hb dX10_spelt_26 (lv_at hl 0 rfl) ?_
    refine lv_lmul hx hb dX10_spelt_28 (lv_topl (fun w_11 e_w_11 => ?_))
    have r_w_11 := tq_lmul (lo := 6669) (hi := 6669) rk_27 r_w_10 (by decide +kernel) e_w_11
    refine lv_iload_n hx hb dX10_spelt_29 rfl (lv_at hl 3 rfl) ?_
    obtain ⟨w_12, e_w_12⟩ : ∃ q9 : Int64, (p2 : Int32).toInt64 = q9 := ⟨_, rfl⟩
    refine lv_i2l (v := w_12) hx hb dX10_spelt_30 e_w_12 ?_
    have r_w_12 := tq_i2l r_p2 e_w_12
    refine lv_ladd hx hb dX10_spelt_31 (lv_topl (fun w_13 e_w_13 => ?_))
    have r_w_13 := tq_ladd (lo := 6770) (hi := 6770) r_w_11 r_w_12 (by decide +kernel) e_w_13
    refine lv_ldc2 (v := 96) hx hb hown (hts _ tw_1313) dX10_spelt_32 ?_
    refine lv_lsub hx hb dX10_spelt_35 (lv_topl (fun w_14 e_w_14 => ?_))
    have r_w_14 := tq_lsub (lo := 6674) (hi := 6674) r_w_13 rk_96 (by decide +kernel) e_w_14
    refine lv_lstore (lv' := [(7, .long w_14), (0, .int p0), (1, .int p1), (2, .int p2), (3, .int p3), (4, .int p4), (5, .int p5), (6, .int p6)]) hx hb dX10_spelt_36 hl (by decide) rfl (fun ls hl => ?_)
    exact B38 w_14 _ _ ls r_p0 r_p1 r_p2 r_p3 r_p4 r_p5 r_p6 r_w_14 hw (lv_sub hl [1, 2, 3, 4, 5, 6, 7, 0] rfl)
abbrev wr_X10_spelt__2 : List (Nat × Nat) := []
abbrev wa_X10_spelt__2 : List Nat := []
set_option maxHeartbeats 4000000 in
set_option maxRecDepth 100000 in
theorem c_X10_spelt__2 (l : Launch) (D : va_G) (cy : Nat → ClassId) (z : Nat → Nat) (sz : Nat) (Ps : PSI) (w0 : va_W) (hT : HT cy GG Ps w0) (p0 : Int32) (p1 : Int32) (p2 : Int32) (p3 : Int32) (p4 : Int32) (p5 : Int32) (p6 : Int32) (r_p0 : RI p0 114 114) (r_p1 : RI p1 111 111) (r_p2 : RI p2 111 111) (r_p3 : RI p3 109 109) (r_p4 : RI p4 0 0) (r_p5 : RI p5 0 0) (r_p6 : RI p6 0 0) : Met l yX10_spelt (Cond.code yX10_spelt cX10_spelt 9 (some .long) :: gT) ({ frames := 0, cells := 0, slots := 0, locals := 200 } : Room) (va_Pc [.int p0, .int p1, .int p2, .int p3, .int p4, .int p5, .int p6] (PRE D cy z w0 sz)) (va_Ql (fun (r : Int64) (u : Unit) => RJ r 365647 365647) (BB D cy (va_A w0 sz) (fun (u : Unit) => w0)) (va_A w0 sz)) 0 0 (va_A w0 sz) := by
  refine Met.ofW (cc := cX10_spelt) (maxL := 9) (ret := (some .long)) (by decide) rfl ?_
  intro p e s m args below meth c s₁ B hml hv
  obtain ⟨rfl, hsz, hP, hK, hD0, hSD⟩ := hv
  have hx := B.exec
  have hb := B.bytes
  have hr := B.returns
  have hlocks := B.notSynchronized
  have hts : ∀ w ∈ gT, w.before _ s = true := fun w h => atoms_spec (ws := Cond.code yX10_spelt cX10_spelt 9 (some .long) :: gT) B.pre w (List.mem_cons_of_mem _ h)
  have hown : s.vm.findClass RX10 = some m.cls := findClass_of_methodNamed B.named
  subst hsz
  have hD := hD0.self (sz := s.heap.size)
  generalize hAe : va_A w0 s.heap.size = A at hD hSD ⊢
  have hA : ∀ q : Nat, s.heap.size ≤ q → A q := fun q h => by rw [← hAe]; exact Or.inr h
  have hl := lv_entry ([.int p0, .int p1, .int p2, .int p3, .int p4, .int p5, .int p6]) (n := 9) (Nat.le_of_ble_eq_true rfl)
  rw [lg_entry_eq]
  generalize (lg_sl ([.int p0, .int p1, .int p2, .int p3, .int p4, .int p5, .int p6]) ++ List.replicate (9 - (lg_sl ([.int p0, .int p1, .int p2, .int p3, .int p4, .int p5, .int p6])).length) Slot.unset).toArray = ls at hl ⊢
  have hl : lv_has ls 9 [(0, .int p0), (1, .int p1), (2, .int p2), (3, .int p3), (4, .int p4), (5, .int p5), (6, .int p6)] := hl
  refine nameQ (fun Q hQ => ?_)
  have hw : WD D cy GG A s wr_X10_spelt__2 wa_X10_spelt__2 Ps w0 Ps w0 s.heap [] := ⟨hT, hP, hD, va_S.rf, FR.rf, hT.1, [], (List.append_nil _).symm⟩
  have B99 : ∀ (x7 : Int64) (H : Heap) (locs : List Loc) (ls : Array Slot), RI p0 114 114 → RI p1 111 111 → RI p2 111 111 → RI p3 109 109 → RI p4 0 0 → RI p5 0 0 → RI p6 0 0 → RJ x7 365647 365647 → WD D cy GG A s wr_X10_spelt__2 wa_X10_spelt__2 Ps w0 Ps w0 H locs → lv_has ls 9 [(0, .int p0), (1, .int p1), (2, .int p2), (3, .int p3), (4, .int p4), (5, .int p5), (6, .int p6), (7, .long x7)] → W p l e (headSpec (Cond.code yX10_spelt cX10_spelt 9 (some .long) :: gT) ({ frames := 0, cells := 0, slots := 0, locals := 200 } : Room)).room s m ([.int p0, .int p1, .int p2, .int p3, .int p4, .int p5, .int p6] : List Value).toArray below meth c H locs 0 0 Q (F0 m 99 ls []) := by
    intro x7 H locs ls r_p0 r_p1 r_p2 r_p3 r_p4 r_p5 r_p6 r_x7 hw hl
    refine lv_iload hx hb dX10_spelt_99 (lv_at hl 6 rfl) ?_
    refine lv_if_le (tgt := 120) hx hb dX10_spelt_101 (by decide) (fun c_101 => ?_) (fun c_101 => ?_)
    · refine lv_lload hx hb dX10_spelt_120 (lv_at hl 7 rfl) ?_
      subst hQ
      exact W.lret (v := x7) hx hb hr (fun t ht hW => ⟨⟨x7, (), rfl, r_x7.to (by decide), by rw [ht]; exact hw.2.1, va_K.moved hW.alike hK, hw.2.2.1⟩, hw.2.2.2.1.F ht⟩) hw.2.2.2.1.2.2 dX10_spelt_122
    · have r_p6 : RI p6 1 0 := rc_lt2 rl_0 r_p6 (ti_nle c_101) (by decide)
      exact (r_p6.no (by decide)).elim
  have B78 : ∀ (x7 : Int64) (H : Heap) (locs : List Loc) (ls : Array Slot), RI p0 114 114 → RI p1 111 111 → RI p2 111 111 → RI p3 109 109 → RI p4 0 0 → RI p5 0 0 → RI p6 0 0 → RJ x7 365647 365647 → WD D cy GG A s wr_X10_spelt__2 wa_X10_spelt__2 Ps w0 Ps w0 H locs → lv_has ls 9 [(0, .int p0), (1, .int p1), (2, .int p2), (3, .int p3), (4, .int p4), (5, .int p5), (6, .int p6), (7, .long x7)] → W p l e (headSpec (Cond.code yX10_spelt cX10_spelt 9 (some .long) :: gT) ({ frames := 0, cells := 0, slots := 0, locals := 200 } : Room)).room s m ([.int p0, .int p1, .int p2, .int p3, .int p4, .int p5, .int p6] : List Value).toArray below meth c H locs 0 0 Q (F0 m 78 ls []) := by
    intro x7 H locs ls r_p0 r_p1 r_p2 r_p3 r_p4 r_p5 r_p6 r_x7 hw hl
    refine lv_iload hx hb dX10_spelt_78 (lv_at hl 5 rfl) ?_
    refine lv_if_le (tgt := 99) hx hb dX10_spelt_80 (by decide) (fun c_80 => ?_) (fun c_80 => ?_)
    · exact B99 x7 _ _ ls r_p0 r_p1 r_p2 r_p3 r_p4 r_p5 r_p6 r_x7 hw hl
    · have r_p5 : RI p5 1 0 := rc_lt2 rl_0 r_p5 (ti_nle c_80) (by decide)
      exact (r_p5.no (by decide)).elim
  have B57 : ∀ (x7 : Int64) (H : Heap) (locs : List Loc) (ls : Array Slot), RI p0 114 114 → RI p1 111 111 → RI p2 111 111 → RI p3 109 109 → RI p4 0 0 → RI p5 0 0 → RI p6 0 0 → RJ x7 365647 365647 → WD D cy GG A s wr_X10_spelt__2 wa_X10_spelt__2 Ps w0 Ps w0 H locs → lv_has ls 9 [(0, .int p0), (1, .int p1), (2, .int p2), (3, .int p3), (4, .int p4), (5, .int p5), (6, .int p6), (7, .long x7)] → W p l e (headSpec (Cond.code yX10_spelt cX10_spelt 9 (some .long) :: gT) ({ frames := 0, cells := 0, slots := 0, locals := 200 } : Room)).room s m ([.int p0, .int p1, .int p2, .int p3, .int p4, .int p5, .int p6] : List Value).toArray below meth c H locs 0 0 Q (F0 m 57 ls []) := by
    intro x7 H locs ls r_p0 r_p1 r_p2 r_p3 r_p4 r_p5 r_p6 r_x7 hw hl
    refine lv_iload hx hb dX10_spelt_57 (lv_at hl 4 rfl) ?_
    refine lv_if_le (tgt := 78) hx hb dX10_spelt_59 (by decide) (fun c_59 => ?_) (fun c_59 => ?_)
    · exact B78 x7 _ _ ls r_p0 r_p1 r_p2 r_p3 r_p4 r_p5 r_p6 r_x7 hw hl
    · have r_p4 : RI p4 1 0 := rc_lt2 rl_0 r_p4 (ti_nle c_59) (by decide)
      exact (r_p4.no (by decide)).elim
  have B38 : ∀ (x7 : Int64) (H : Heap) (locs : List Loc) (ls : Array Slot), RI p0 114 114 → RI p1 111 111 → RI p2 111 111 → RI p3 109 109 → RI p4 0 0 → RI p5 0 0 → RI p6 0 0 → RJ x7 13542 13542 → WD D cy GG A s wr_X10_spelt__2 wa_X10_spelt__2 Ps w0 Ps w0 H locs → lv_has ls 9 [(0, .int p0), (1, .int p1), (2, .int p2), (3, .int p3), (4, .int p4), (5, .int p5), (6, .int p6), (7, .long x7)] → W p l e (headSpec (Cond.code yX10_spelt cX10_spelt 9 (some .long) :: gT) ({ frames := 0, cells := 0, slots := 0, locals := 200 } : Room)).room s m ([.int p0, .int p1, .int p2, .int p3, .int p4, .int p5, .int p6] : List Value).toArray below meth c H locs 0 0 Q (F0 m 38 ls []) := by
    intro x7 H locs ls r_p0 r_p1 r_p2 r_p3 r_p4 r_p5 r_p6 r_x7 hw hl
    refine lv_iload_n hx hb dX10_spelt_38 rfl (lv_at hl 3 rfl) ?_
    refine lv_if_le (tgt := 57) hx hb dX10_spelt_39 (by decide) (fun c_39 => ?_) (fun c_39 => ?_)
    · have r_p3 : RI p3 109 0 := rc_le1 r_p3 rl_0 (ti_le c_39) (by decide)
      exact (r_p3.no (by decide)).elim
    · refine lv_ldc2 (v := 27) hx hb hown (hts _ tw_1312) dX10_spelt_42 ?_
      refine lv_lload hx hb dX10_spelt_45 (lv_at hl 7 rfl) ?_
      refine lv_lmul hx hb dX10_spelt_47 (lv_topl (fun w_1 e_w_1 => ?_))
      have r_w_1 := tq_lmul (lo := 365634) (hi := 365634) rk_27 r_x7 (by decide +kernel) e_w_1
      refine lv_iload_n hx hb dX10_spelt_48 rfl (lv_at hl 3 rfl) ?_
      obtain ⟨w_2, e_w_2⟩ : ∃ q9 : Int64, (p3 : Int32).toInt64 = q9 := ⟨_, rfl⟩
      refine lv_i2l (v := w_2) hx hb dX10_spelt_49 e_w_2 ?_
      have r_w_2 := tq_i2l r_p3 e_w_2
      refine lv_ladd hx hb dX10_spelt_50 (lv_topl (fun w_3 e_w_3 => ?_))
      have r_w_3 := tq_ladd (lo := 365743) (hi := 365743) r_w_1 r_w_2 (by decide +kernel) e_w_3
      refine lv_ldc2 (v := 96) hx hb hown (hts _ tw_1313) dX10_spelt_51 ?_
      refine lv_lsub hx hb dX10_spelt_54 (lv_topl (fun w_4 e_w_4 => ?_))
      have r_w_4 := tq_lsub (lo := 365647) (hi := 365647) r_w_3 rk_96 (by decide +kernel) e_w_4
      refine lv_lstore (lv' := [(7, .long w_4), (0, .int p0), (1, .int p1), (2, .int p2), (3, .int p3), (4, .int p4), (5, .int p5), (6, .int p6)]) hx hb dX10_spelt_55 hl (by decide) rfl (fun ls hl => ?_)
      exact B57 w_4 _ _ ls r_p0 r_p1 r_p2 r_p3 r_p4 r_p5 r_p6 r_w_4 hw (lv_sub hl [1, 2, 3, 4, 5, 6, 7, 0] rfl)
  refine lv_ldc2 (v := 27) hx hb hown (hts _ tw_1312) dX10_spelt_0 ?_
  refine lv_iload_n hx hb dX10_spelt_3 rfl (lv_at hl 0 rfl) ?_
  obtain ⟨w_5, e_w_5⟩ : ∃ q9 : Int64, (p0 : Int32).toInt64 = q9 := ⟨_, rfl⟩
  refine lv_i2l (v := w_5) hx hb dX10_spelt_4 e_w_5 ?_
  have r_w_5 := tq_i2l r_p0 e_w_5
  refine lv_ldc2 (v := 96) hx hb hown (hts _ tw_1313) dX10_spelt_5 ?_
  refine lv_lsub hx hb dX10_spelt_8 (lv_topl (fun w_6 e_w_6 => ?_))
  have r_w_6 := tq_lsub (lo := 18) (hi := 18) r_w_5 rk_96 (by decide +kernel) e_w_6
  refine lv_lmul hx hb dX10_spelt_9 (lv_topl (fun w_7 e_w_7 => ?_))
  have r_w_7 := tq_lmul (lo := 486) (hi := 486) rk_27 r_w_6 (by decide +kernel) e_w_7
  refine lv_iload_n hx hb dX10_spelt_10 rfl (lv_at hl 1 rfl) ?_
  obtain ⟨w_8, e_w_8⟩ : ∃ q9 : Int64, (p1 : Int32).toInt64 = q9 := ⟨_, rfl⟩
  refine lv_i2l (v := w_8) hx hb dX10_spelt_11 e_w_8 ?_
  have r_w_8 := tq_i2l r_p1 e_w_8
  refine lv_ladd hx hb dX10_spelt_12 (lv_topl (fun w_9 e_w_9 => ?_))
  have r_w_9 := tq_ladd (lo := 597) (hi := 597) r_w_7 r_w_8 (by decide +kernel) e_w_9
  refine lv_ldc2 (v := 96) hx hb hown (hts _ tw_1313) dX10_spelt_13 ?_
  refine lv_lsub hx hb dX10_spelt_16 (lv_topl (fun w_10 e_w_10 => ?_))
  have r_w_10 := tq_lsub (lo := 501) (hi := 501) r_w_9 rk_96 (by decide +kernel) e_w_10
  refine lv_lstore (lv' := [(7, .long w_10), (0, .int p0), (1, .int p1), (2, .int p2), (3, .int p3), (4, .int p4), (5, .int p5), (6, .int p6)]) hx hb dX10_spelt_17 hl (by decide) rfl (fun ls hl => ?_)
  refine lv_iload_n hx hb dX10_spelt_19 rfl (lv_at hl 3 rfl) ?_
  refine lv_if_le (tgt := 38) hx hb dX10_spelt_20 (by decide) (fun c_20 => ?_) (fun c_20 => ?_)
  · have r_p2 : RI p2 111 0 := rc_le1 r_p2 rl_0 (ti_le c_20) (by decide)
    exact (r_p2.no (by decide)).elim
  · refine lv_ldc2 (v := 27) hx hb hown (hts _ tw_1312) dX10_spelt_23 ?_
    refine lv_lload hx hb dX10_spelt_26 (lv_at hl 0 rfl) ?_
    refine lv_lmul hx hb dX10_spelt_28 (lv_topl (fun w_11 e_w_11 => ?_))
    have r_w_11 := tq_lmul (lo := 13527) (hi := 13527) rk_27 r_w_10 (by decide +kernel) e_w_11
    refine lv_iload_n hx hb dX10_spelt_29 rfl (lv_at hl 3 rfl) ?_
    obtain ⟨w_12, e_w_12⟩ : ∃ q9 : Int64, (p2 : Int32).toInt64 = q9 := ⟨_, rfl⟩
    refine lv_i2l (v := w_12) hx hb dX10_spelt_30 e_w_12 ?_
    have r_w_12 := tq_i2l r_p2 e_w_12
    refine lv_ladd hx hb dX10_spelt_31 (lv_topl (fun w_13 e_w_13 => ?_))
    have r_w_13 := tq_ladd (lo := 13638) (hi := 13638) r_w_11 r_w_12 (by decide +kernel) e_w_13
    refine lv_ldc2 (v := 96) hx hb hown (hts _ tw_1313) dX10_spelt_32 ?_
    refine lv_lsub hx hb dX10_spelt_35 (lv_topl (fun w_14 e_w_14 => ?_))
    have r_w_14 := tq_lsub (lo := 13542) (hi := 13542) r_w_13 rk_96 (by decide +kernel) e_w_14
    refine lv_lstore (lv' := [(7, .long w_14), (0, .int p0), (1, .int p1), (2, .int p2), (3, .int p3), (4, .int p4), (5, .int p5), (6, .int p6)]) hx hb dX10_spelt_36 hl (by decide) rfl (fun ls hl => ?_)
    exact B38 w_14 _ _ ls r_p0 r_p1 r_p2 r_p3 r_p4 r_p5 r_p6 r_w_14 hw (lv_sub hl [1, 2, 3, 4, 5, 6, 7, 0] rfl)
abbrev wr_X10_spelt__3 : List (Nat × Nat) := []
abbrev wa_X10_spelt__3 : List Nat := []
set_option maxHeartbeats 4000000 in
set_option maxRecDepth 100000 in
theorem c_X10_spelt__3 (l : Launch) (D : va_G) (cy : Nat → ClassId) (z : Nat → Nat) (sz : Nat) (Ps : PSI) (w0 : va_W) (hT : HT cy GG Ps w0) (p0 : Int32) (p1 : Int32) (p2 : Int32) (p3 : Int32) (p4 : Int32) (p5 : Int32) (p6 : Int32) (r_p0 : RI p0 112 112) (r_p1 : RI p1 97 97) (r_p2 : RI p2 114 114) (r_p3 : RI p3 99 99) (r_p4 : RI p4 101 101) (r_p5 : RI p5 108 108) (r_p6 : RI p6 0 0) : Met l yX10_spelt (Cond.code yX10_spelt cX10_spelt 9 (some .long) :: gT) ({ frames := 0, cells := 0, slots := 0, locals := 200 } : Room) (va_Pc [.int p0, .int p1, .int p2, .int p3, .int p4, .int p5, .int p6] (PRE D cy z w0 sz)) (va_Ql (fun (r : Int64) (u : Unit) => RJ r 230470581 230470581) (BB D cy (va_A w0 sz) (fun (u : Unit) => w0)) (va_A w0 sz)) 0 0 (va_A w0 sz) := by
  refine Met.ofW (cc := cX10_spelt) (maxL := 9) (ret := (some .long)) (by decide) rfl ?_
  intro p e s m args below meth c s₁ B hml hv
  obtain ⟨rfl, hsz, hP, hK, hD0, hSD⟩ := hv
  have hx := B.exec
  have hb := B.bytes
  have hr := B.returns
  have hlocks := B.notSynchronized
  have hts : ∀ w ∈ gT, w.before _ s = true := fun w h => atoms_spec (ws := Cond.code yX10_spelt cX10_spelt 9 (some .long) :: gT) B.pre w (List.mem_cons_of_mem _ h)
  have hown : s.vm.findClass RX10 = some m.cls := findClass_of_methodNamed B.named
  subst hsz
  have hD := hD0.self (sz := s.heap.size)
  generalize hAe : va_A w0 s.heap.size = A at hD hSD ⊢
  have hA : ∀ q : Nat, s.heap.size ≤ q → A q := fun q h => by rw [← hAe]; exact Or.inr h
  have hl := lv_entry ([.int p0, .int p1, .int p2, .int p3, .int p4, .int p5, .int p6]) (n := 9) (Nat.le_of_ble_eq_true rfl)
  rw [lg_entry_eq]
  generalize (lg_sl ([.int p0, .int p1, .int p2, .int p3, .int p4, .int p5, .int p6]) ++ List.replicate (9 - (lg_sl ([.int p0, .int p1, .int p2, .int p3, .int p4, .int p5, .int p6])).length) Slot.unset).toArray = ls at hl ⊢
  have hl : lv_has ls 9 [(0, .int p0), (1, .int p1), (2, .int p2), (3, .int p3), (4, .int p4), (5, .int p5), (6, .int p6)] := hl
  refine nameQ (fun Q hQ => ?_)
  have hw : WD D cy GG A s wr_X10_spelt__3 wa_X10_spelt__3 Ps w0 Ps w0 s.heap [] := ⟨hT, hP, hD, va_S.rf, FR.rf, hT.1, [], (List.append_nil _).symm⟩
  have B99 : ∀ (x7 : Int64) (H : Heap) (locs : List Loc) (ls : Array Slot), RI p0 112 112 → RI p1 97 97 → RI p2 114 114 → RI p3 99 99 → RI p4 101 101 → RI p5 108 108 → RI p6 0 0 → RJ x7 230470581 230470581 → WD D cy GG A s wr_X10_spelt__3 wa_X10_spelt__3 Ps w0 Ps w0 H locs → lv_has ls 9 [(0, .int p0), (1, .int p1), (2, .int p2), (3, .int p3), (4, .int p4), (5, .int p5), (6, .int p6), (7, .long x7)] → W p l e (headSpec (Cond.code yX10_spelt cX10_spelt 9 (some .long) :: gT) ({ frames := 0, cells := 0, slots := 0, locals := 200 } : Room)).room s m ([.int p0, .int p1, .int p2, .int p3, .int p4, .int p5, .int p6] : List Value).toArray below meth c H locs 0 0 Q (F0 m 99 ls []) := by
    intro x7 H locs ls r_p0 r_p1 r_p2 r_p3 r_p4 r_p5 r_p6 r_x7 hw hl
    refine lv_iload hx hb dX10_spelt_99 (lv_at hl 6 rfl) ?_
    refine lv_if_le (tgt := 120) hx hb dX10_spelt_101 (by decide) (fun c_101 => ?_) (fun c_101 => ?_)
    · refine lv_lload hx hb dX10_spelt_120 (lv_at hl 7 rfl) ?_
      subst hQ
      exact W.lret (v := x7) hx hb hr (fun t ht hW => ⟨⟨x7, (), rfl, r_x7.to (by decide), by rw [ht]; exact hw.2.1, va_K.moved hW.alike hK, hw.2.2.1⟩, hw.2.2.2.1.F ht⟩) hw.2.2.2.1.2.2 dX10_spelt_122
    · have r_p6 : RI p6 1 0 := rc_lt2 rl_0 r_p6 (ti_nle c_101) (by decide)
      exact (r_p6.no (by decide)).elim
  have B78 : ∀ (x7 : Int64) (H : Heap) (locs : List Loc) (ls : Array Slot), RI p0 112 112 → RI p1 97 97 → RI p2 114 114 → RI p3 99 99 → RI p4 101 101 → RI p5 108 108 → RI p6 0 0 → RJ x7 8535947 8535947 → WD D cy GG A s wr_X10_spelt__3 wa_X10_spelt__3 Ps w0 Ps w0 H locs → lv_has ls 9 [(0, .int p0), (1, .int p1), (2, .int p2), (3, .int p3), (4, .int p4), (5, .int p5), (6, .int p6), (7, .long x7)] → W p l e (headSpec (Cond.code yX10_spelt cX10_spelt 9 (some .long) :: gT) ({ frames := 0, cells := 0, slots := 0, locals := 200 } : Room)).room s m ([.int p0, .int p1, .int p2, .int p3, .int p4, .int p5, .int p6] : List Value).toArray below meth c H locs 0 0 Q (F0 m 78 ls []) := by
    intro x7 H locs ls r_p0 r_p1 r_p2 r_p3 r_p4 r_p5 r_p6 r_x7 hw hl
    refine lv_iload hx hb dX10_spelt_78 (lv_at hl 5 rfl) ?_
    refine lv_if_le (tgt := 99) hx hb dX10_spelt_80 (by decide) (fun c_80 => ?_) (fun c_80 => ?_)
    · have r_p5 : RI p5 108 0 := rc_le1 r_p5 rl_0 (ti_le c_80) (by decide)
      exact (r_p5.no (by decide)).elim
    · refine lv_ldc2 (v := 27) hx hb hown (hts _ tw_1312) dX10_spelt_83 ?_
      refine lv_lload hx hb dX10_spelt_86 (lv_at hl 7 rfl) ?_
      refine lv_lmul hx hb dX10_spelt_88 (lv_topl (fun w_1 e_w_1 => ?_))
      have r_w_1 := tq_lmul (lo := 230470569) (hi := 230470569) rk_27 r_x7 (by decide +kernel) e_w_1
      refine lv_iload hx hb dX10_spelt_89 (lv_at hl 5 rfl) ?_
      obtain ⟨w_2, e_w_2⟩ : ∃ q9 : Int64, (p5 : Int32).toInt64 = q9 := ⟨_, rfl⟩
      refine lv_i2l (v := w_2) hx hb dX10_spelt_91 e_w_2 ?_
      have r_w_2 := tq_i2l r_p5 e_w_2
      refine lv_ladd hx hb dX10_spelt_92 (lv_topl (fun w_3 e_w_3 => ?_))
      have r_w_3 := tq_ladd (lo := 230470677) (hi := 230470677) r_w_1 r_w_2 (by decide +kernel) e_w_3
      refine lv_ldc2 (v := 96) hx hb hown (hts _ tw_1313) dX10_spelt_93 ?_
      refine lv_lsub hx hb dX10_spelt_96 (lv_topl (fun w_4 e_w_4 => ?_))
      have r_w_4 := tq_lsub (lo := 230470581) (hi := 230470581) r_w_3 rk_96 (by decide +kernel) e_w_4
      refine lv_lstore (lv' := [(7, .long w_4), (0, .int p0), (1, .int p1), (2, .int p2), (3, .int p3), (4, .int p4), (5, .int p5), (6, .int p6)]) hx hb dX10_spelt_97 hl (by decide) rfl (fun ls hl => ?_)
      exact B99 w_4 _ _ ls r_p0 r_p1 r_p2 r_p3 r_p4 r_p5 r_p6 r_w_4 hw (lv_sub hl [1, 2, 3, 4, 5, 6, 7, 0] rfl)
  have B57 : ∀ (x7 : Int64) (H : Heap) (locs : List Loc) (ls : Array Slot), RI p0 112 112 → RI p1 97 97 → RI p2 114 114 → RI p3 99 99 → RI p4 101 101 → RI p5 108 108 → RI p6 0 0 → RJ x7 316146 316146 → WD D cy GG A s wr_X10_spelt__3 wa_X10_spelt__3 Ps w0 Ps w0 H locs → lv_has ls 9 [(0, .int p0), (1, .int p1), (2, .int p2), (3, .int p3), (4, .int p4), (5, .int p5), (6, .int p6), (7, .long x7)] → W p l e (headSpec (Cond.code yX10_spelt cX10_spelt 9 (some .long) :: gT) ({ frames := 0, cells := 0, slots := 0, locals := 200 } : Room)).room s m ([.int p0, .int p1, .int p2, .int p3, .int p4, .int p5, .int p6] : List Value).toArray below meth c H locs 0 0 Q (F0 m 57 ls []) := by
    intro x7 H locs ls r_p0 r_p1 r_p2 r_p3 r_p4 r_p5 r_p6 r_x7 hw hl
    refine lv_iload hx hb dX10_spelt_57 (lv_at hl 4 rfl) ?_
    refine lv_if_le (tgt := 78) hx hb dX10_spelt_59 (by decide) (fun c_59 => ?_) (fun c_59 => ?_)
    · have r_p4 : RI p4 101 0 := rc_le1 r_p4 rl_0 (ti_le c_59) (by decide)
      exact (r_p4.no (by decide)).elim
    · refine lv_ldc2 (v := 27) hx hb hown (hts _ tw_1312) dX10_spelt_62 ?_
      refine lv_lload hx hb dX10_spelt_65 (lv_at hl 7 rfl) ?_
      refine lv_lmul hx hb dX10_spelt_67 (lv_topl (fun w_5 e_w_5 => ?_))
      have r_w_5 := tq_lmul (lo := 8535942) (hi := 8535942) rk_27 r_x7 (by decide +kernel) e_w_5
      refine lv_iload hx hb dX10_spelt_68 (lv_at hl 4 rfl) ?_
      obtain ⟨w_6, e_w_6⟩ : ∃ q9 : Int64, (p4 : Int32).toInt64 = q9 := ⟨_, rfl⟩
      refine lv_i2l (v := w_6) hx hb dX10_spelt_70 e_w_6 ?_
      have r_w_6 := tq_i2l r_p4 e_w_6
      refine lv_ladd hx hb dX10_spelt_71 (lv_topl (fun w_7 e_w_7 => ?_))
      have r_w_7 := tq_ladd (lo := 8536043) (hi := 8536043) r_w_5 r_w_6 (by decide +kernel) e_w_7
      refine lv_ldc2 (v := 96) hx hb hown (hts _ tw_1313) dX10_spelt_72 ?_
      refine lv_lsub hx hb dX10_spelt_75 (lv_topl (fun w_8 e_w_8 => ?_))
      have r_w_8 := tq_lsub (lo := 8535947) (hi := 8535947) r_w_7 rk_96 (by decide +kernel) e_w_8
      refine lv_lstore (lv' := [(7, .long w_8), (0, .int p0), (1, .int p1), (2, .int p2), (3, .int p3), (4, .int p4), (5, .int p5), (6, .int p6)]) hx hb dX10_spelt_76 hl (by decide) rfl (fun ls hl => ?_)
      exact B78 w_8 _ _ ls r_p0 r_p1 r_p2 r_p3 r_p4 r_p5 r_p6 r_w_8 hw (lv_sub hl [1, 2, 3, 4, 5, 6, 7, 0] rfl)
  have B38 : ∀ (x7 : Int64) (H : Heap) (locs : List Loc) (ls : Array Slot), RI p0 112 112 → RI p1 97 97 → RI p2 114 114 → RI p3 99 99 → RI p4 101 101 → RI p5 108 108 → RI p6 0 0 → RJ x7 11709 11709 → WD D cy GG A s wr_X10_spelt__3 wa_X10_spelt__3 Ps w0 Ps w0 H locs → lv_has ls 9 [(0, .int p0), (1, .int p1), (2, .int p2), (3, .int p3), (4, .int p4), (5, .int p5), (6, .int p6), (7, .long x7)] → W p l e (headSpec (Cond.code yX10_spelt cX10_spelt 9 (some .long) :: gT) ({ frames := 0, cells := 0, slots := 0, locals := 200 } : Room)).room s m ([.int p0, .int p1, .int p2, .int p3, .int p4, .int p5, .int p6] : List Value).toArray below meth c H locs 0 0 Q (F0 m 38 ls []) := by
    intro x7 H locs ls r_p0 r_p1 r_p2 r_p3 r_p4 r_p5 r_p6 r_x7 hw hl
    refine lv_iload_n hx hb dX10_spelt_38 rfl (lv_at hl 3 rfl) ?_
    refine lv_if_le (tgt := 57) hx hb dX10_spelt_39 (by decide) (fun c_39 => ?_) (fun c_39 => ?_)
    · have r_p3 : RI p3 99 0 := rc_le1 r_p3 rl_0 (ti_le c_39) (by decide)
      exact (r_p3.no (by decide)).elim
    · refine lv_ldc2 (v := 27) hx hb hown (hts _ tw_1312) dX10_spelt_42 ?_
      refine lv_lload hx hb dX10_spelt_45 (lv_at hl 7 rfl) ?_
      refine lv_lmul hx hb dX10_spelt_47 (lv_topl (fun w_9 e_w_9 => ?_))
      have r_w_9 := tq_lmul (lo := 316143) (hi := 316143) rk_27 r_x7 (by decide +kernel) e_w_9
      refine lv_iload_n hx hb dX10_spelt_48 rfl (lv_at hl 3 rfl) ?_
      obtain ⟨w_10, e_w_10⟩ : ∃ q9 : Int64, (p3 : Int32).toInt64 = q9 := ⟨_, rfl⟩
      refine lv_i2l (v := w_10) hx hb dX10_spelt_49 e_w_10 ?_
      have r_w_10 := tq_i2l r_p3 e_w_10
      refine lv_ladd hx hb dX10_spelt_50 (lv_topl (fun w_11 e_w_11 => ?_))
      have r_w_11 := tq_ladd (lo := 316242) (hi := 316242) r_w_9 r_w_10 (by decide +kernel) e_w_11
      refine lv_ldc2 (v := 96) hx hb hown (hts _ tw_1313) dX10_spelt_51 ?_
      refine lv_lsub hx hb dX10_spelt_54 (lv_topl (fun w_12 e_w_12 => ?_))
      have r_w_12 := tq_lsub (lo := 316146) (hi := 316146) r_w_11 rk_96 (by decide +kernel) e_w_12
      refine lv_lstore (lv' := [(7, .long w_12), (0, .int p0), (1, .int p1), (2, .int p2), (3, .int p3), (4, .int p4), (5, .int p5), (6, .int p6)]) hx hb dX10_spelt_55 hl (by decide) rfl (fun ls hl => ?_)
      exact B57 w_12 _ _ ls r_p0 r_p1 r_p2 r_p3 r_p4 r_p5 r_p6 r_w_12 hw (lv_sub hl [1, 2, 3, 4, 5, 6, 7, 0] rfl)
  refine lv_ldc2 (v := 27) hx hb hown (hts _ tw_1312) dX10_spelt_0 ?_
  refine lv_iload_n hx hb dX10_spelt_3 rfl (lv_at hl 0 rfl) ?_
  obtain ⟨w_13, e_w_13⟩ : ∃ q9 : Int64, (p0 : Int32).toInt64 = q9 := ⟨_, rfl⟩
  refine lv_i2l (v := w_13) hx hb dX10_spelt_4 e_w_13 ?_
  have r_w_13 := tq_i2l r_p0 e_w_13
  refine lv_ldc2 (v := 96) hx hb hown (hts _ tw_1313) dX10_spelt_5 ?_
  refine lv_lsub hx hb dX10_spelt_8 (lv_topl (fun w_14 e_w_14 => ?_))
  have r_w_14 := tq_lsub (lo := 16) (hi := 16) r_w_13 rk_96 (by decide +kernel) e_w_14
  refine lv_lmul hx hb dX10_spelt_9 (lv_topl (fun w_15 e_w_15 => ?_))
  have r_w_15 := tq_lmul (lo := 432) (hi := 432) rk_27 r_w_14 (by decide +kernel) e_w_15
  refine lv_iload_n hx hb dX10_spelt_10 rfl (lv_at hl 1 rfl) ?_
  obtain ⟨w_16, e_w_16⟩ : ∃ q9 : Int64, (p1 : Int32).toInt64 = q9 := ⟨_, rfl⟩
  refine lv_i2l (v := w_16) hx hb dX10_spelt_11 e_w_16 ?_
  have r_w_16 := tq_i2l r_p1 e_w_16
  refine lv_ladd hx hb dX10_spelt_12 (lv_topl (fun w_17 e_w_17 => ?_))
  have r_w_17 := tq_ladd (lo := 529) (hi := 529) r_w_15 r_w_16 (by decide +kernel) e_w_17
  refine lv_ldc2 (v := 96) hx hb hown (hts _ tw_1313) dX10_spelt_13 ?_
  refine lv_lsub hx hb dX10_spelt_16 (lv_topl (fun w_18 e_w_18 => ?_))
  have r_w_18 := tq_lsub (lo := 433) (hi := 433) r_w_17 rk_96 (by decide +kernel) e_w_18
  refine lv_lstore (lv' := [(7, .long w_18), (0, .int p0), (1, .int p1), (2, .int p2), (3, .int p3), (4, .int p4), (5, .int p5), (6, .int p6)]) hx hb dX10_spelt_17 hl (by decide) rfl (fun ls hl => ?_)
  refine lv_iload_n hx hb dX10_spelt_19 rfl (lv_at hl 3 rfl) ?_
  refine lv_if_le (tgt := 38) hx hb dX10_spelt_20 (by decide) (fun c_20 => ?_) (fun c_20 => ?_)
  · have r_p2 : RI p2 114 0 := rc_le1 r_p2 rl_0 (ti_le c_20) (by decide)
    exact (r_p2.no (by decide)).elim
  · refine lv_ldc2 (v := 27) hx hb hown (hts _ tw_1312) dX10_spelt_23 ?_
    refine lv_lload hx hb dX10_spelt_26 (lv_at hl 0 rfl) ?_
    refine lv_lmul hx hb dX10_spelt_28 (lv_topl (fun w_19 e_w_19 => ?_))
    have r_w_19 := tq_lmul (lo := 11691) (hi := 11691) rk_27 r_w_18 (by decide +kernel) e_w_19
    refine lv_iload_n hx hb dX10_spelt_29 rfl (lv_at hl 3 rfl) ?_
    obtain ⟨w_20, e_w_20⟩ : ∃ q9 : Int64, (p2 : Int32).toInt64 = q9 := ⟨_, rfl⟩
    refine lv_i2l (v := w_20) hx hb dX10_spelt_30 e_w_20 ?_
    have r_w_20 := tq_i2l r_p2 e_w_20
    refine lv_ladd hx hb dX10_spelt_31 (lv_topl (fun w_21 e_w_21 => ?_))
    have r_w_21 := tq_ladd (lo := 11805) (hi := 11805) r_w_19 r_w_20 (by decide +kernel) e_w_21
    refine lv_ldc2 (v := 96) hx hb hown (hts _ tw_1313) dX10_spelt_32 ?_
    refine lv_lsub hx hb dX10_spelt_35 (lv_topl (fun w_22 e_w_22 => ?_))
    have r_w_22 := tq_lsub (lo := 11709) (hi := 11709) r_w_21 rk_96 (by decide +kernel) e_w_22
    refine lv_lstore (lv' := [(7, .long w_22), (0, .int p0), (1, .int p1), (2, .int p2), (3, .int p3), (4, .int p4), (5, .int p5), (6, .int p6)]) hx hb dX10_spelt_36 hl (by decide) rfl (fun ls hl => ?_)
    exact B38 w_22 _ _ ls r_p0 r_p1 r_p2 r_p3 r_p4 r_p5 r_p6 r_w_22 hw (lv_sub hl [1, 2, 3, 4, 5, 6, 7, 0] rfl)
abbrev wr_X10_spelt__4 : List (Nat × Nat) := []
abbrev wa_X10_spelt__4 : List Nat := []
set_option maxHeartbeats 4000000 in
set_option maxRecDepth 100000 in
theorem c_X10_spelt__4 (l : Launch) (D : va_G) (cy : Nat → ClassId) (z : Nat → Nat) (sz : Nat) (Ps : PSI) (w0 : va_W) (hT : HT cy GG Ps w0) (p0 : Int32) (p1 : Int32) (p2 : Int32) (p3 : Int32) (p4 : Int32) (p5 : Int32) (p6 : Int32) (r_p0 : RI p0 112 112) (r_p1 : RI p1 101 101) (r_p2 : RI p2 114 114) (r_p3 : RI p3 115 115) (r_p4 : RI p4 111 111) (r_p5 : RI p5 110 110) (r_p6 : RI p6 0 0) : Met l yX10_spelt (Cond.code yX10_spelt cX10_spelt 9 (some .long) :: gT) ({ frames := 0, cells := 0, slots := 0, locals := 200 } : Room) (va_Pc [.int p0, .int p1, .int p2, .int p3, .int p4, .int p5, .int p6] (PRE D cy z w0 sz)) (va_Ql (fun (r : Int64) (u : Unit) => RJ r 232608281 232608281) (BB D cy (va_A w0 sz) (fun (u : Unit) => w0)) (va_A w0 sz)) 0 0 (va_A w0 sz) := by
  refine Met.ofW (cc := cX10_spelt) (maxL := 9) (ret := (some .long)) (by decide) rfl ?_
  intro p e s m args below meth c s₁ B hml hv
  obtain ⟨rfl, hsz, hP, hK, hD0, hSD⟩ := hv
  have hx := B.exec
  have hb := B.bytes
  have hr := B.returns
  have hlocks := B.notSynchronized
  have hts : ∀ w ∈ gT, w.before _ s = true := fun w h => atoms_spec (ws := Cond.code yX10_spelt cX10_spelt 9 (some .long) :: gT) B.pre w (List.mem_cons_of_mem _ h)
  have hown : s.vm.findClass RX10 = some m.cls := findClass_of_methodNamed B.named
  subst hsz
  have hD := hD0.self (sz := s.heap.size)
  generalize hAe : va_A w0 s.heap.size = A at hD hSD ⊢
  have hA : ∀ q : Nat, s.heap.size ≤ q → A q := fun q h => by rw [← hAe]; exact Or.inr h
  have hl := lv_entry ([.int p0, .int p1, .int p2, .int p3, .int p4, .int p5, .int p6]) (n := 9) (Nat.le_of_ble_eq_true rfl)
  rw [lg_entry_eq]
  generalize (lg_sl ([.int p0, .int p1, .int p2, .int p3, .int p4, .int p5, .int p6]) ++ List.replicate (9 - (lg_sl ([.int p0, .int p1, .int p2, .int p3, .int p4, .int p5, .int p6])).length) Slot.unset).toArray = ls at hl ⊢
  have hl : lv_has ls 9 [(0, .int p0), (1, .int p1), (2, .int p2), (3, .int p3), (4, .int p4), (5, .int p5), (6, .int p6)] := hl
  refine nameQ (fun Q hQ => ?_)
  have hw : WD D cy GG A s wr_X10_spelt__4 wa_X10_spelt__4 Ps w0 Ps w0 s.heap [] := ⟨hT, hP, hD, va_S.rf, FR.rf, hT.1, [], (List.append_nil _).symm⟩
  have B99 : ∀ (x7 : Int64) (H : Heap) (locs : List Loc) (ls : Array Slot), RI p0 112 112 → RI p1 101 101 → RI p2 114 114 → RI p3 115 115 → RI p4 111 111 → RI p5 110 110 → RI p6 0 0 → RJ x7 232608281 232608281 → WD D cy GG A s wr_X10_spelt__4 wa_X10_spelt__4 Ps w0 Ps w0 H locs → lv_has ls 9 [(0, .int p0), (1, .int p1), (2, .int p2), (3, .int p3), (4, .int p4), (5, .int p5), (6, .int p6), (7, .long x7)] → W p l e (headSpec (Cond.code yX10_spelt cX10_spelt 9 (some .long) :: gT) ({ frames := 0, cells := 0, slots := 0, locals := 200 } : Room)).room s m ([.int p0, .int p1, .int p2, .int p3, .int p4, .int p5, .int p6] : List Value).toArray below meth c H locs 0 0 Q (F0 m 99 ls []) := by
    intro x7 H locs ls r_p0 r_p1 r_p2 r_p3 r_p4 r_p5 r_p6 r_x7 hw hl
    refine lv_iload hx hb dX10_spelt_99 (lv_at hl 6 rfl) ?_
    refine lv_if_le (tgt := 120) hx hb dX10_spelt_101 (by decide) (fun c_101 => ?_) (fun c_101 => ?_)
    · refine lv_lload hx hb dX10_spelt_120 (lv_at hl 7 rfl) ?_
      subst hQ
      exact W.lret (v := x7) hx hb hr (fun t ht hW => ⟨⟨x7, (), rfl, r_x7.to (by decide), by rw [ht]; exact hw.2.1, va_K.moved hW.alike hK, hw.2.2.1⟩, hw.2.2.2.1.F ht⟩) hw.2.2.2.1.2.2 dX10_spelt_122
    · have r_p6 : RI p6 1 0 := rc_lt2 rl_0 r_p6 (ti_nle c_101) (by decide)
      exact (r_p6.no (by decide)).elim
  have B78 : ∀ (x7 : Int64) (H : Heap) (locs : List Loc) (ls : Array Slot), RI p0 112 112 → RI p1 101 101 → RI p2 114 114 → RI p3 115 115 → RI p4 111 111 → RI p5 110 110 → RI p6 0 0 → RJ x7 8615121 8615121 → WD D cy GG A s wr_X10_spelt__4 wa_X10_spelt__4 Ps w0 Ps w0 H locs → lv_has ls 9 [(0, .int p0), (1, .int p1), (2, .int p2), (3, .int p3), (4, .int p4), (5, .int p5), (6, .int p6), (7, .long x7)] → W p l e (headSpec (Cond.code yX10_spelt cX10_spelt 9 (some .long) :: gT) ({ frames := 0, cells := 0, slots := 0, locals := 200 } : Room)).room s m ([.int p0, .int p1, .int p2, .int p3, .int p4, .int p5, .int p6] : List Value).toArray below meth c H locs 0 0 Q (F0 m 78 ls []) := by
    intro x7 H locs ls r_p0 r_p1 r_p2 r_p3 r_p4 r_p5 r_p6 r_x7 hw hl
    refine lv_iload hx hb dX10_spelt_78 (lv_at hl 5 rfl) ?_
    refine lv_if_le (tgt := 99) hx hb dX10_spelt_80 (by decide) (fun c_80 => ?_) (fun c_80 => ?_)
    · have r_p5 : RI p5 110 0 := rc_le1 r_p5 rl_0 (ti_le c_80) (by decide)
      exact (r_p5.no (by decide)).elim
    · refine lv_ldc2 (v := 27) hx hb hown (hts _ tw_1312) dX10_spelt_83 ?_
      refine lv_lload hx hb dX10_spelt_86 (lv_at hl 7 rfl) ?_
      refine lv_lmul hx hb dX10_spelt_88 (lv_topl (fun w_1 e_w_1 => ?_))
      have r_w_1 := tq_lmul (lo := 232608267) (hi := 232608267) rk_27 r_x7 (by decide +kernel) e_w_1
      refine lv_iload hx hb dX10_spelt_89 (lv_at hl 5 rfl) ?_
      obtain ⟨w_2, e_w_2⟩ : ∃ q9 : Int64, (p5 : Int32).toInt64 = q9 := ⟨_, rfl⟩
      refine lv_i2l (v := w_2) hx hb dX10_spelt_91 e_w_2 ?_
      have r_w_2 := tq_i2l r_p5 e_w_2
      refine lv_ladd hx hb dX10_spelt_92 (lv_topl (fun w_3 e_w_3 => ?_))
      have r_w_3 := tq_ladd (lo := 232608377) (hi := 232608377) r_w_1 r_w_2 (by decide +kernel) e_w_3
      refine lv_ldc2 (v := 96) hx hb hown (hts _ tw_1313) dX10_spelt_93 ?_
      refine lv_lsub hx hb dX10_spelt_96 (lv_topl (fun w_4 e_w_4 => ?_))
      have r_w_4 := tq_lsub (lo := 232608281) (hi := 232608281) r_w_3 rk_96 (by decide +kernel) e_w_4
      refine lv_lstore (lv' := [(7, .long w_4), (0, .int p0), (1, .int p1), (2, .int p2), (3, .int p3), (4, .int p4), (5, .int p5), (6, .int p6)]) hx hb dX10_spelt_97 hl (by decide) rfl (fun ls hl => ?_)
      exact B99 w_4 _ _ ls r_p0 r_p1 r_p2 r_p3 r_p4 r_p5 r_p6 r_w_4 hw (lv_sub hl [1, 2, 3, 4, 5, 6, 7, 0] rfl)
  have B57 : ∀ (x7 : Int64) (H : Heap) (locs : List Loc) (ls : Array Slot), RI p0 112 112 → RI p1 101 101 → RI p2 114 114 → RI p3 115 115 → RI p4 111 111 → RI p5 110 110 → RI p6 0 0 → RJ x7 319078 319078 → WD D cy GG A s wr_X10_spelt__4 wa_X10_spelt__4 Ps w0 Ps w0 H locs → lv_has ls 9 [(0, .int p0), (1, .int p1), (2, .int p2), (3, .int p3), (4, .int p4), (5, .int p5), (6, .int p6), (7, .long x7)] → W p l e (headSpec (Cond.code yX10_spelt cX10_spelt 9 (some .long) :: gT) ({ frames := 0, cells := 0, slots := 0, locals := 200 } : Room)).room s m ([.int p0, .int p1, .int p2, .int p3, .int p4, .int p5, .int p6] : List Value).toArray below meth c H locs 0 0 Q (F0 m 57 ls []) := by
    intro x7 H locs ls r_p0 r_p1 r_p2 r_p3 r_p4 r_p5 r_p6 r_x7 hw hl
    refine lv_iload hx hb dX10_spelt_57 (lv_at hl 4 rfl) ?_
    refine lv_if_le (tgt := 78) hx hb dX10_spelt_59 (by decide) (fun c_59 => ?_) (fun c_59 => ?_)
    · have r_p4 : RI p4 111 0 := rc_le1 r_p4 rl_0 (ti_le c_59) (by decide)
      exact (r_p4.no (by decide)).elim
    · refine lv_ldc2 (v := 27) hx hb hown (hts _ tw_1312) dX10_spelt_62 ?_
      refine lv_lload hx hb dX10_spelt_65 (lv_at hl 7 rfl) ?_
      refine lv_lmul hx hb dX10_spelt_67 (lv_topl (fun w_5 e_w_5 => ?_))
      have r_w_5 := tq_lmul (lo := 8615106) (hi := 8615106) rk_27 r_x7 (by decide +kernel) e_w_5
      refine lv_iload hx hb dX10_spelt_68 (lv_at hl 4 rfl) ?_
      obtain ⟨w_6, e_w_6⟩ : ∃ q9 : Int64, (p4 : Int32).toInt64 = q9 := ⟨_, rfl⟩
      refine lv_i2l (v := w_6) hx hb dX10_spelt_70 e_w_6 ?_
      have r_w_6 := tq_i2l r_p4 e_w_6
      refine lv_ladd hx hb dX10_spelt_71 (lv_topl (fun w_7 e_w_7 => ?_))
      have r_w_7 := tq_ladd (lo := 8615217) (hi := 8615217) r_w_5 r_w_6 (by decide +kernel) e_w_7
      refine lv_ldc2 (v := 96) hx hb hown (hts _ tw_1313) dX10_spelt_72 ?_
      refine lv_lsub hx hb dX10_spelt_75 (lv_topl (fun w_8 e_w_8 => ?_))
      have r_w_8 := tq_lsub (lo := 8615121) (hi := 8615121) r_w_7 rk_96 (by decide +kernel) e_w_8
      refine lv_lstore (lv' := [(7, .long w_8), (0, .int p0), (1, .int p1), (2, .int p2), (3, .int p3), (4, .int p4), (5, .int p5), (6, .int p6)]) hx hb dX10_spelt_76 hl (by decide) rfl (fun ls hl => ?_)
      exact B78 w_8 _ _ ls r_p0 r_p1 r_p2 r_p3 r_p4 r_p5 r_p6 r_w_8 hw (lv_sub hl [1, 2, 3, 4, 5, 6, 7, 0] rfl)
  have B38 : ∀ (x7 : Int64) (H : Heap) (locs : List Loc) (ls : Array Slot), RI p0 112 112 → RI p1 101 101 → RI p2 114 114 → RI p3 115 115 → RI p4 111 111 → RI p5 110 110 → RI p6 0 0 → RJ x7 11817 11817 → WD D cy GG A s wr_X10_spelt__4 wa_X10_spelt__4 Ps w0 Ps w0 H locs → lv_has ls 9 [(0, .int p0), (1, .int p1), (2, .int p2), (3, .int p3), (4, .int p4), (5, .int p5), (6, .int p6), (7, .long x7)] → W p l e (headSpec (Cond.code yX10_spelt cX10_spelt 9 (some .long) :: gT) ({ frames := 0, cells := 0, slots := 0, locals := 200 } : Room)).room s m ([.int p0, .int p1, .int p2, .int p3, .int p4, .int p5, .int p6] : List Value).toArray below meth c H locs 0 0 Q (F0 m 38 ls []) := by
    intro x7 H locs ls r_p0 r_p1 r_p2 r_p3 r_p4 r_p5 r_p6 r_x7 hw hl
    refine lv_iload_n hx hb dX10_spelt_38 rfl (lv_at hl 3 rfl) ?_
    refine lv_if_le (tgt := 57) hx hb dX10_spelt_39 (by decide) (fun c_39 => ?_) (fun c_39 => ?_)
    · have r_p3 : RI p3 115 0 := rc_le1 r_p3 rl_0 (ti_le c_39) (by decide)
      exact (r_p3.no (by decide)).elim
    · refine lv_ldc2 (v := 27) hx hb hown (hts _ tw_1312) dX10_spelt_42 ?_
      refine lv_lload hx hb dX10_spelt_45 (lv_at hl 7 rfl) ?_
      refine lv_lmul hx hb dX10_spelt_47 (lv_topl (fun w_9 e_w_9 => ?_))
      have r_w_9 := tq_lmul (lo := 319059) (hi := 319059) rk_27 r_x7 (by decide +kernel) e_w_9
      refine lv_iload_n hx hb dX10_spelt_48 rfl (lv_at hl 3 rfl) ?_
      obtain ⟨w_10, e_w_10⟩ : ∃ q9 : Int64, (p3 : Int32).toInt64 = q9 := ⟨_, rfl⟩
      refine lv_i2l (v := w_10) hx hb dX10_spelt_49 e_w_10 ?_
      have r_w_10 := tq_i2l r_p3 e_w_10
      refine lv_ladd hx hb dX10_spelt_50 (lv_topl (fun w_11 e_w_11 => ?_))
      have r_w_11 := tq_ladd (lo := 319174) (hi := 319174) r_w_9 r_w_10 (by decide +kernel) e_w_11
      refine lv_ldc2 (v := 96) hx hb hown (hts _ tw_1313) dX10_spelt_51 ?_
      refine lv_lsub hx hb dX10_spelt_54 (lv_topl (fun w_12 e_w_12 => ?_))
      have r_w_12 := tq_lsub (lo := 319078) (hi := 319078) r_w_11 rk_96 (by decide +kernel) e_w_12
      refine lv_lstore (lv' := [(7, .long w_12), (0, .int p0), (1, .int p1), (2, .int p2), (3, .int p3), (4, .int p4), (5, .int p5), (6, .int p6)]) hx hb dX10_spelt_55 hl (by decide) rfl (fun ls hl => ?_)
      exact B57 w_12 _ _ ls r_p0 r_p1 r_p2 r_p3 r_p4 r_p5 r_p6 r_w_12 hw (lv_sub hl [1, 2, 3, 4, 5, 6, 7, 0] rfl)
  refine lv_ldc2 (v := 27) hx hb hown (hts _ tw_1312) dX10_spelt_0 ?_
  refine lv_iload_n hx hb dX10_spelt_3 rfl (lv_at hl 0 rfl) ?_
  obtain ⟨w_13, e_w_13⟩ : ∃ q9 : Int64, (p0 : Int32).toInt64 = q9 := ⟨_, rfl⟩
  refine lv_i2l (v := w_13) hx hb dX10_spelt_4 e_w_13 ?_
  have r_w_13 := tq_i2l r_p0 e_w_13
  refine lv_ldc2 (v := 96) hx hb hown (hts _ tw_1313) dX10_spelt_5 ?_
  refine lv_lsub hx hb dX10_spelt_8 (lv_topl (fun w_14 e_w_14 => ?_))
  have r_w_14 := tq_lsub (lo := 16) (hi := 16) r_w_13 rk_96 (by decide +kernel) e_w_14
  refine lv_lmul hx hb dX10_spelt_9 (lv_topl (fun w_15 e_w_15 => ?_))
  have r_w_15 := tq_lmul (lo := 432) (hi := 432) rk_27 r_w_14 (by decide +kernel) e_w_15
  refine lv_iload_n hx hb dX10_spelt_10 rfl (lv_at hl 1 rfl) ?_
  obtain ⟨w_16, e_w_16⟩ : ∃ q9 : Int64, (p1 : Int32).toInt64 = q9 := ⟨_, rfl⟩
  refine lv_i2l (v := w_16) hx hb dX10_spelt_11 e_w_16 ?_
  have r_w_16 := tq_i2l r_p1 e_w_16
  refine lv_ladd hx hb dX10_spelt_12 (lv_topl (fun w_17 e_w_17 => ?_))
  have r_w_17 := tq_ladd (lo := 533) (hi := 533) r_w_15 r_w_16 (by decide +kernel) e_w_17
  refine lv_ldc2 (v := 96) hx hb hown (hts _ tw_1313) dX10_spelt_13 ?_
  refine lv_lsub hx hb dX10_spelt_16 (lv_topl (fun w_18 e_w_18 => ?_))
  have r_w_18 := tq_lsub (lo := 437) (hi := 437) r_w_17 rk_96 (by decide +kernel) e_w_18
  refine lv_lstore (lv' := [(7, .long w_18), (0, .int p0), (1, .int p1), (2, .int p2), (3, .int p3), (4, .int p4), (5, .int p5), (6, .int p6)]) hx hb dX10_spelt_17 hl (by decide) rfl (fun ls hl => ?_)
  refine lv_iload_n hx hb dX10_spelt_19 rfl (lv_at hl 3 rfl) ?_
  refine lv_if_le (tgt := 38) hx hb dX10_spelt_20 (by decide) (fun c_20 => ?_) (fun c_20 => ?_)
  · have r_p2 : RI p2 114 0 := rc_le1 r_p2 rl_0 (ti_le c_20) (by decide)
    exact (r_p2.no (by decide)).elim
  · refine lv_ldc2 (v := 27) hx hb hown (hts _ tw_1312) dX10_spelt_23 ?_
    refine lv_lload hx hb dX10_spelt_26 (lv_at hl 0 rfl) ?_
    refine lv_lmul hx hb dX10_spelt_28 (lv_topl (fun w_19 e_w_19 => ?_))
    have r_w_19 := tq_lmul (lo := 11799) (hi := 11799) rk_27 r_w_18 (by decide +kernel) e_w_19
    refine lv_iload_n hx hb dX10_spelt_29 rfl (lv_at hl 3 rfl) ?_
    obtain ⟨w_20, e_w_20⟩ : ∃ q9 : Int64, (p2 : Int32).toInt64 = q9 := ⟨_, rfl⟩
    refine lv_i2l (v := w_20) hx hb dX10_spelt_30 e_w_20 ?_
    have r_w_20 := tq_i2l r_p2 e_w_20
    refine lv_ladd hx hb dX10_spelt_31 (lv_topl (fun w_21 e_w_21 => ?_))
    have r_w_21 := tq_ladd (lo := 11913) (hi := 11913) r_w_19 r_w_20 (by decide +kernel) e_w_21
    refine lv_ldc2 (v := 96) hx hb hown (hts _ tw_1313) dX10_spelt_32 ?_
    refine lv_lsub hx hb dX10_spelt_35 (lv_topl (fun w_22 e_w_22 => ?_))
    have r_w_22 := tq_lsub (lo := 11817) (hi := 11817) r_w_21 rk_96 (by decide +kernel) e_w_22
    refine lv_lstore (lv' := [(7, .long w_22), (0, .int p0), (1, .int p1), (2, .int p2), (3, .int p3), (4, .int p4), (5, .int p5), (6, .int p6)]) hx hb dX10_spelt_36 hl (by decide) rfl (fun ls hl => ?_)
    exact B38 w_22 _ _ ls r_p0 r_p1 r_p2 r_p3 r_p4 r_p5 r_p6 r_w_22 hw (lv_sub hl [1, 2, 3, 4, 5, 6, 7, 0] rfl)
abbrev wr_X10_spelt__5 : List (Nat × Nat) := []
abbrev wa_X10_spelt__5 : List Nat := []
set_option maxHeartbeats 4000000 in
set_option maxRecDepth 100000 in
theorem c_X10_spelt__5 (l : Launch) (D : va_G) (cy : Nat → ClassId) (z : Nat → Nat) (sz : Nat) (Ps : PSI) (w0 : va_W) (hT : HT cy GG Ps w0) (p0 : Int32) (p1 : Int32) (p2 : Int32) (p3 : Int32) (p4 : Int32) (p5 : Int32) (p6 : Int32) (r_p0 : RI p0 115 115) (r_p1 : RI p1 105 105) (r_p2 : RI p2 116 116) (r_p3 : RI p3 115 115) (r_p4 : RI p4 0 0) (r_p5 : RI p5 0 0) (r_p6 : RI p6 0 0) : Met l yX10_spelt (Cond.code yX10_spelt cX10_spelt 9 (some .long) :: gT) ({ frames := 0, cells := 0, slots := 0, locals := 200 } : Room) (va_Pc [.int p0, .int p1, .int p2, .int p3, .int p4, .int p5, .int p6] (PRE D cy z w0 sz)) (va_Ql (fun (r : Int64) (u : Unit) => RJ r 381097 381097) (BB D cy (va_A w0 sz) (fun (u : Unit) => w0)) (va_A w0 sz)) 0 0 (va_A w0 sz) := by
  refine Met.ofW (cc := cX10_spelt) (maxL := 9) (ret := (some .long)) (by decide) rfl ?_
  intro p e s m args below meth c s₁ B hml hv
  obtain ⟨rfl, hsz, hP, hK, hD0, hSD⟩ := hv
  have hx := B.exec
  have hb := B.bytes
  have hr := B.returns
  have hlocks := B.notSynchronized
  have hts : ∀ w ∈ gT, w.before _ s = true := fun w h => atoms_spec (ws := Cond.code yX10_spelt cX10_spelt 9 (some .long) :: gT) B.pre w (List.mem_cons_of_mem _ h)
  have hown : s.vm.findClass RX10 = some m.cls := findClass_of_methodNamed B.named
  subst hsz
  have hD := hD0.self (sz := s.heap.size)
  generalize hAe : va_A w0 s.heap.size = A at hD hSD ⊢
  have hA : ∀ q : Nat, s.heap.size ≤ q → A q := fun q h => by rw [← hAe]; exact Or.inr h
  have hl := lv_entry ([.int p0, .int p1, .int p2, .int p3, .int p4, .int p5, .int p6]) (n := 9) (Nat.le_of_ble_eq_true rfl)
  rw [lg_entry_eq]
  generalize (lg_sl ([.int p0, .int p1, .int p2, .int p3, .int p4, .int p5, .int p6]) ++ List.replicate (9 - (lg_sl ([.int p0, .int p1, .int p2, .int p3, .int p4, .int p5, .int p6])).length) Slot.unset).toArray = ls at hl ⊢
  have hl : lv_has ls 9 [(0, .int p0), (1, .int p1), (2, .int p2), (3, .int p3), (4, .int p4), (5, .int p5), (6, .int p6)] := hl
  refine nameQ (fun Q hQ => ?_)
  have hw : WD D cy GG A s wr_X10_spelt__5 wa_X10_spelt__5 Ps w0 Ps w0 s.heap [] := ⟨hT, hP, hD, va_S.rf, FR.rf, hT.1, [], (List.append_nil _).symm⟩
  have B99 : ∀ (x7 : Int64) (H : Heap) (locs : List Loc) (ls : Array Slot), RI p0 115 115 → RI p1 105 105 → RI p2 116 116 → RI p3 115 115 → RI p4 0 0 → RI p5 0 0 → RI p6 0 0 → RJ x7 381097 381097 → WD D cy GG A s wr_X10_spelt__5 wa_X10_spelt__5 Ps w0 Ps w0 H locs → lv_has ls 9 [(0, .int p0), (1, .int p1), (2, .int p2), (3, .int p3), (4, .int p4), (5, .int p5), (6, .int p6), (7, .long x7)] → W p l e (headSpec (Cond.code yX10_spelt cX10_spelt 9 (some .long) :: gT) ({ frames := 0, cells := 0, slots := 0, locals := 200 } : Room)).room s m ([.int p0, .int p1, .int p2, .int p3, .int p4, .int p5, .int p6] : List Value).toArray below meth c H locs 0 0 Q (F0 m 99 ls []) := by
    intro x7 H locs ls r_p0 r_p1 r_p2 r_p3 r_p4 r_p5 r_p6 r_x7 hw hl
    refine lv_iload hx hb dX10_spelt_99 (lv_at hl 6 rfl) ?_
    refine lv_if_le (tgt := 120) hx hb dX10_spelt_101 (by decide) (fun c_101 => ?_) (fun c_101 => ?_)
    · refine lv_lload hx hb dX10_spelt_120 (lv_at hl 7 rfl) ?_
      subst hQ
      exact W.lret (v := x7) hx hb hr (fun t ht hW => ⟨⟨x7, (), rfl, r_x7.to (by decide), by rw [ht]; exact hw.2.1, va_K.moved hW.alike hK, hw.2.2.1⟩, hw.2.2.2.1.F ht⟩) hw.2.2.2.1.2.2 dX10_spelt_122
    · have r_p6 : RI p6 1 0 := rc_lt2 rl_0 r_p6 (ti_nle c_101) (by decide)
      exact (r_p6.no (by decide)).elim
  have B78 : ∀ (x7 : Int64) (H : Heap) (locs : List Loc) (ls : Array Slot), RI p0 115 115 → RI p1 105 105 → RI p2 116 116 → RI p3 115 115 → RI p4 0 0 → RI p5 0 0 → RI p6 0 0 → RJ x7 381097 381097 → WD D cy GG A s wr_X10_spelt__5 wa_X10_spelt__5 Ps w0 Ps w0 H locs → lv_has ls 9 [(0, .int p0), (1, .int p1), (2, .int p2), (3, .int p3), (4, .int p4), (5, .int p5), (6, .int p6), (7, .long x7)] → W p l e (headSpec (Cond.code yX10_spelt cX10_spelt 9 (some .long) :: gT) ({ frames := 0, cells := 0, slots := 0, locals := 200 } : Room)).room s m ([.int p0, .int p1, .int p2, .int p3, .int p4, .int p5, .int p6] : List Value).toArray below meth c H locs 0 0 Q (F0 m 78 ls []) := by
    intro x7 H locs ls r_p0 r_p1 r_p2 r_p3 r_p4 r_p5 r_p6 r_x7 hw hl
    refine lv_iload hx hb dX10_spelt_78 (lv_at hl 5 rfl) ?_
    refine lv_if_le (tgt := 99) hx hb dX10_spelt_80 (by decide) (fun c_80 => ?_) (fun c_80 => ?_)
    · exact B99 x7 _ _ ls r_p0 r_p1 r_p2 r_p3 r_p4 r_p5 r_p6 r_x7 hw hl
    · have r_p5 : RI p5 1 0 := rc_lt2 rl_0 r_p5 (ti_nle c_80) (by decide)
      exact (r_p5.no (by decide)).elim
  have B57 : ∀ (x7 : Int64) (H : Heap) (locs : List Loc) (ls : Array Slot), RI p0 115 115 → RI p1 105 105 → RI p2 116 116 → RI p3 115 115 → RI p4 0 0 → RI p5 0 0 → RI p6 0 0 → RJ x7 381097 381097 → WD D cy GG A s wr_X10_spelt__5 wa_X10_spelt__5 Ps w0 Ps w0 H locs → lv_has ls 9 [(0, .int p0), (1, .int p1), (2, .int p2), (3, .int p3), (4, .int p4), (5, .int p5), (6, .int p6), (7, .long x7)] → W p l e (headSpec (Cond.code yX10_spelt cX10_spelt 9 (some .long) :: gT) ({ frames := 0, cells := 0, slots := 0, locals := 200 } : Room)).room s m ([.int p0, .int p1, .int p2, .int p3, .int p4, .int p5, .int p6] : List Value).toArray below meth c H locs 0 0 Q (F0 m 57 ls []) := by
    intro x7 H locs ls r_p0 r_p1 r_p2 r_p3 r_p4 r_p5 r_p6 r_x7 hw hl
    refine lv_iload hx hb dX10_spelt_57 (lv_at hl 4 rfl) ?_
    refine lv_if_le (tgt := 78) hx hb dX10_spelt_59 (by decide) (fun c_59 => ?_) (fun c_59 => ?_)
    · exact B78 x7 _ _ ls r_p0 r_p1 r_p2 r_p3 r_p4 r_p5 r_p6 r_x7 hw hl
    · have r_p4 : RI p4 1 0 := rc_lt2 rl_0 r_p4 (ti_nle c_59) (by decide)
      exact (r_p4.no (by decide)).elim
  have B38 : ∀ (x7 : Int64) (H : Heap) (locs : List Loc) (ls : Array Slot), RI p0 115 115 → RI p1 105 105 → RI p2 116 116 → RI p3 115 115 → RI p4 0 0 → RI p5 0 0 → RI p6 0 0 → RJ x7 14114 14114 → WD D cy GG A s wr_X10_spelt__5 wa_X10_spelt__5 Ps w0 Ps w0 H locs → lv_has ls 9 [(0, .int p0), (1, .int p1), (2, .int p2), (3, .int p3), (4, .int p4), (5, .int p5), (6, .int p6), (7, .long x7)] → W p l e (headSpec (Cond.code yX10_spelt cX10_spelt 9 (some .long) :: gT) ({ frames := 0, cells := 0, slots := 0, locals := 200 } : Room)).room s m ([.int p0, .int p1, .int p2, .int p3, .int p4, .int p5, .int p6] : List Value).toArray below meth c H locs 0 0 Q (F0 m 38 ls []) := by
    intro x7 H locs ls r_p0 r_p1 r_p2 r_p3 r_p4 r_p5 r_p6 r_x7 hw hl
    refine lv_iload_n hx hb dX10_spelt_38 rfl (lv_at hl 3 rfl) ?_
    refine lv_if_le (tgt := 57) hx hb dX10_spelt_39 (by decide) (fun c_39 => ?_) (fun c_39 => ?_)
    · have r_p3 : RI p3 115 0 := rc_le1 r_p3 rl_0 (ti_le c_39) (by decide)
      exact (r_p3.no (by decide)).elim
    · refine lv_ldc2 (v := 27) hx hb hown (hts _ tw_1312) dX10_spelt_42 ?_
      refine lv_lload hx hb dX10_spelt_45 (lv_at hl 7 rfl) ?_
      refine lv_lmul hx hb dX10_spelt_47 (lv_topl (fun w_1 e_w_1 => ?_))
      have r_w_1 := tq_lmul (lo := 381078) (hi := 381078) rk_27 r_x7 (by decide +kernel) e_w_1
      refine lv_iload_n hx hb dX10_spelt_48 rfl (lv_at hl 3 rfl) ?_
      obtain ⟨w_2, e_w_2⟩ : ∃ q9 : Int64, (p3 : Int32).toInt64 = q9 := ⟨_, rfl⟩
      refine lv_i2l (v := w_2) hx hb dX10_spelt_49 e_w_2 ?_
      have r_w_2 := tq_i2l r_p3 e_w_2
      refine lv_ladd hx hb dX10_spelt_50 (lv_topl (fun w_3 e_w_3 => ?_))
      have r_w_3 := tq_ladd (lo := 381193) (hi := 381193) r_w_1 r_w_2 (by decide +kernel) e_w_3
      refine lv_ldc2 (v := 96) hx hb hown (hts _ tw_1313) dX10_spelt_51 ?_
      refine lv_lsub hx hb dX10_spelt_54 (lv_topl (fun w_4 e_w_4 => ?_))
      have r_w_4 := tq_lsub (lo := 381097) (hi := 381097) r_w_3 rk_96 (by decide +kernel) e_w_4
      refine lv_lstore (lv' := [(7, .long w_4), (0, .int p0), (1, .int p1), (2, .int p2), (3, .int p3), (4, .int p4), (5, .int p5), (6, .int p6)]) hx hb dX10_spelt_55 hl (by decide) rfl (fun ls hl => ?_)
      exact B57 w_4 _ _ ls r_p0 r_p1 r_p2 r_p3 r_p4 r_p5 r_p6 r_w_4 hw (lv_sub hl [1, 2, 3, 4, 5, 6, 7, 0] rfl)
  refine lv_ldc2 (v := 27) hx hb hown (hts _ tw_1312) dX10_spelt_0 ?_
  refine lv_iload_n hx hb dX10_spelt_3 rfl (lv_at hl 0 rfl) ?_
  obtain ⟨w_5, e_w_5⟩ : ∃ q9 : Int64, (p0 : Int32).toInt64 = q9 := ⟨_, rfl⟩
  refine lv_i2l (v := w_5) hx hb dX10_spelt_4 e_w_5 ?_
  have r_w_5 := tq_i2l r_p0 e_w_5
  refine lv_ldc2 (v := 96) hx hb hown (hts _ tw_1313) dX10_spelt_5 ?_
  refine lv_lsub hx hb dX10_spelt_8 (lv_topl (fun w_6 e_w_6 => ?_))
  have r_w_6 := tq_lsub (lo := 19) (hi := 19) r_w_5 rk_96 (by decide +kernel) e_w_6
  refine lv_lmul hx hb dX10_spelt_9 (lv_topl (fun w_7 e_w_7 => ?_))
  have r_w_7 := tq_lmul (lo := 513) (hi := 513) rk_27 r_w_6 (by decide +kernel) e_w_7
  refine lv_iload_n hx hb dX10_spelt_10 rfl (lv_at hl 1 rfl) ?_
  obtain ⟨w_8, e_w_8⟩ : ∃ q9 : Int64, (p1 : Int32).toInt64 = q9 := ⟨_, rfl⟩
  refine lv_i2l (v := w_8) hx hb dX10_spelt_11 e_w_8 ?_
  have r_w_8 := tq_i2l r_p1 e_w_8
  refine lv_ladd hx hb dX10_spelt_12 (lv_topl (fun w_9 e_w_9 => ?_))
  have r_w_9 := tq_ladd (lo := 618) (hi := 618) r_w_7 r_w_8 (by decide +kernel) e_w_9
  refine lv_ldc2 (v := 96) hx hb hown (hts _ tw_1313) dX10_spelt_13 ?_
  refine lv_lsub hx hb dX10_spelt_16 (lv_topl (fun w_10 e_w_10 => ?_))
  have r_w_10 := tq_lsub (lo := 522) (hi := 522) r_w_9 rk_96 (by decide +kernel) e_w_10
  refine lv_lstore (lv' := [(7, .long w_10), (0, .int p0), (1, .int p1), (2, .int p2), (3, .int p3), (4, .int p4), (5, .int p5), (6, .int p6)]) hx hb dX10_spelt_17 hl (by decide) rfl (fun ls hl => ?_)
  refine lv_iload_n hx hb dX10_spelt_19 rfl (lv_at hl 3 rfl) ?_
  refine lv_if_le (tgt := 38) hx hb dX10_spelt_20 (by decide) (fun c_20 => ?_) (fun c_20 => ?_)
  · have r_p2 : RI p2 116 0 := rc_le1 r_p2 rl_0 (ti_le c_20) (by decide)
    exact (r_p2.no (by decide)).elim
  · refine lv_ldc2 (v := 27) hx hb hown (hts _ tw_1312) dX10_spelt_23 ?_
    refine lv_lload hx hb dX10_spelt_26 (lv_at hl 0 rfl) ?_
    refine lv_lmul hx hb dX10_spelt_28 (lv_topl (fun w_11 e_w_11 => ?_))
    have r_w_11 := tq_lmul (lo := 14094) (hi := 14094) rk_27 r_w_10 (by decide +kernel) e_w_11
    refine lv_iload_n hx hb dX10_spelt_29 rfl (lv_at hl 3 rfl) ?_
    obtain ⟨w_12, e_w_12⟩ : ∃ q9 : Int64, (p2 : Int32).toInt64 = q9 := ⟨_, rfl⟩
    refine lv_i2l (v := w_12) hx hb dX10_spelt_30 e_w_12 ?_
    have r_w_12 := tq_i2l r_p2 e_w_12
    refine lv_ladd hx hb dX10_spelt_31 (lv_topl (fun w_13 e_w_13 => ?_))
    have r_w_13 := tq_ladd (lo := 14210) (hi := 14210) r_w_11 r_w_12 (by decide +kernel) e_w_13
    refine lv_ldc2 (v := 96) hx hb hown (hts _ tw_1313) dX10_spelt_32 ?_
    refine lv_lsub hx hb dX10_spelt_35 (lv_topl (fun w_14 e_w_14 => ?_))
    have r_w_14 := tq_lsub (lo := 14114) (hi := 14114) r_w_13 rk_96 (by decide +kernel) e_w_14
    refine lv_lstore (lv' := [(7, .long w_14), (0, .int p0), (1, .int p1), (2, .int p2), (3, .int p3), (4, .int p4), (5, .int p5), (6, .int p6)]) hx hb dX10_spelt_36 hl (by decide) rfl (fun ls hl => ?_)
    exact B38 w_14 _ _ ls r_p0 r_p1 r_p2 r_p3 r_p4 r_p5 r_p6 r_w_14 hw (lv_sub hl [1, 2, 3, 4, 5, 6, 7, 0] rfl)
abbrev wr_X10_spelt__6 : List (Nat × Nat) := []
abbrev wa_X10_spelt__6 : List Nat := []
set_option maxHeartbeats 4000000 in
set_option maxRecDepth 100000 in
theorem c_X10_spelt__6 (l : Launch) (D : va_G) (cy : Nat → ClassId) (z : Nat → Nat) (sz : Nat) (Ps : PSI) (w0 : va_W) (hT : HT cy GG Ps w0) (p0 : Int32) (p1 : Int32) (p2 : Int32) (p3 : Int32) (p4 : Int32) (p5 : Int32) (p6 : Int32) (r_p0 : RI p0 104 104) (r_p1 : RI p1 97 97) (r_p2 : RI p2 115 115) (r_p3 : RI p3 0 0) (r_p4 : RI p4 0 0) (r_p5 : RI p5 0 0) (r_p6 : RI p6 0 0) : Met l yX10_spelt (Cond.code yX10_spelt cX10_spelt 9 (some .long) :: gT) ({ frames := 0, cells := 0, slots := 0, locals := 200 } : Room) (va_Pc [.int p0, .int p1, .int p2, .int p3, .int p4, .int p5, .int p6] (PRE D cy z w0 sz)) (va_Ql (fun (r : Int64) (u : Unit) => RJ r 5878 5878) (BB D cy (va_A w0 sz) (fun (u : Unit) => w0)) (va_A w0 sz)) 0 0 (va_A w0 sz) := by
  refine Met.ofW (cc := cX10_spelt) (maxL := 9) (ret := (some .long)) (by decide) rfl ?_
  intro p e s m args below meth c s₁ B hml hv
  obtain ⟨rfl, hsz, hP, hK, hD0, hSD⟩ := hv
  have hx := B.exec
  have hb := B.bytes
  have hr := B.returns
  have hlocks := B.notSynchronized
  have hts : ∀ w ∈ gT, w.before _ s = true := fun w h => atoms_spec (ws := Cond.code yX10_spelt cX10_spelt 9 (some .long) :: gT) B.pre w (List.mem_cons_of_mem _ h)
  have hown : s.vm.findClass RX10 = some m.cls := findClass_of_methodNamed B.named
  subst hsz
  have hD := hD0.self (sz := s.heap.size)
  generalize hAe : va_A w0 s.heap.size = A at hD hSD ⊢
  have hA : ∀ q : Nat, s.heap.size ≤ q → A q := fun q h => by rw [← hAe]; exact Or.inr h
  have hl := lv_entry ([.int p0, .int p1, .int p2, .int p3, .int p4, .int p5, .int p6]) (n := 9) (Nat.le_of_ble_eq_true rfl)
  rw [lg_entry_eq]
  generalize (lg_sl ([.int p0, .int p1, .int p2, .int p3, .int p4, .int p5, .int p6]) ++ List.replicate (9 - (lg_sl ([.int p0, .int p1, .int p2, .int p3, .int p4, .int p5, .int p6])).length) Slot.unset).toArray = ls at hl ⊢
  have hl : lv_has ls 9 [(0, .int p0), (1, .int p1), (2, .int p2), (3, .int p3), (4, .int p4), (5, .int p5), (6, .int p6)] := hl
  refine nameQ (fun Q hQ => ?_)
  have hw : WD D cy GG A s wr_X10_spelt__6 wa_X10_spelt__6 Ps w0 Ps w0 s.heap [] := ⟨hT, hP, hD, va_S.rf, FR.rf, hT.1, [], (List.append_nil _).symm⟩
  have B99 : ∀ (x7 : Int64) (H : Heap) (locs : List Loc) (ls : Array Slot), RI p0 104 104 → RI p1 97 97 → RI p2 115 115 → RI p3 0 0 → RI p4 0 0 → RI p5 0 0 → RI p6 0 0 → RJ x7 5878 5878 → WD D cy GG A s wr_X10_spelt__6 wa_X10_spelt__6 Ps w0 Ps w0 H locs → lv_has ls 9 [(0, .int p0), (1, .int p1), (2, .int p2), (3, .int p3), (4, .int p4), (5, .int p5), (6, .int p6), (7, .long x7)] → W p l e (headSpec (Cond.code yX10_spelt cX10_spelt 9 (some .long) :: gT) ({ frames := 0, cells := 0, slots := 0, locals := 200 } : Room)).room s m ([.int p0, .int p1, .int p2, .int p3, .int p4, .int p5, .int p6] : List Value).toArray below meth c H locs 0 0 Q (F0 m 99 ls []) := by
    intro x7 H locs ls r_p0 r_p1 r_p2 r_p3 r_p4 r_p5 r_p6 r_x7 hw hl
    refine lv_iload hx hb dX10_spelt_99 (lv_at hl 6 rfl) ?_
    refine lv_if_le (tgt := 120) hx hb dX10_spelt_101 (by decide) (fun c_101 => ?_) (fun c_101 => ?_)
    · refine lv_lload hx hb dX10_spelt_120 (lv_at hl 7 rfl) ?_
      subst hQ
      exact W.lret (v := x7) hx hb hr (fun t ht hW => ⟨⟨x7, (), rfl, r_x7.to (by decide), by rw [ht]; exact hw.2.1, va_K.moved hW.alike hK, hw.2.2.1⟩, hw.2.2.2.1.F ht⟩) hw.2.2.2.1.2.2 dX10_spelt_122
    · have r_p6 : RI p6 1 0 := rc_lt2 rl_0 r_p6 (ti_nle c_101) (by decide)
      exact (r_p6.no (by decide)).elim
  have B78 : ∀ (x7 : Int64) (H : Heap) (locs : List Loc) (ls : Array Slot), RI p0 104 104 → RI p1 97 97 → RI p2 115 115 → RI p3 0 0 → RI p4 0 0 → RI p5 0 0 → RI p6 0 0 → RJ x7 5878 5878 → WD D cy GG A s wr_X10_spelt__6 wa_X10_spelt__6 Ps w0 Ps w0 H locs → lv_has ls 9 [(0, .int p0), (1, .int p1), (2, .int p2), (3, .int p3), (4, .int p4), (5, .int p5), (6, .int p6), (7, .long x7)] → W p l e (headSpec (Cond.code yX10_spelt cX10_spelt 9 (some .long) :: gT) ({ frames := 0, cells := 0, slots := 0, locals := 200 } : Room)).room s m ([.int p0, .int p1, .int p2, .int p3, .int p4, .int p5, .int p6] : List Value).toArray below meth c H locs 0 0 Q (F0 m 78 ls []) := by
    intro x7 H locs ls r_p0 r_p1 r_p2 r_p3 r_p4 r_p5 r_p6 r_x7 hw hl
    refine lv_iload hx hb dX10_spelt_78 (lv_at hl 5 rfl) ?_
    refine lv_if_le (tgt := 99) hx hb dX10_spelt_80 (by decide) (fun c_80 => ?_) (fun c_80 => ?_)
    · exact B99 x7 _ _ ls r_p0 r_p1 r_p2 r_p3 r_p4 r_p5 r_p6 r_x7 hw hl
    · have r_p5 : RI p5 1 0 := rc_lt2 rl_0 r_p5 (ti_nle c_80) (by decide)
      exact (r_p5.no (by decide)).elim
  have B57 : ∀ (x7 : Int64) (H : Heap) (locs : List Loc) (ls : Array Slot), RI p0 104 104 → RI p1 97 97 → RI p2 115 115 → RI p3 0 0 → RI p4 0 0 → RI p5 0 0 → RI p6 0 0 → RJ x7 5878 5878 → WD D cy GG A s wr_X10_spelt__6 wa_X10_spelt__6 Ps w0 Ps w0 H locs → lv_has ls 9 [(0, .int p0), (1, .int p1), (2, .int p2), (3, .int p3), (4, .int p4), (5, .int p5), (6, .int p6), (7, .long x7)] → W p l e (headSpec (Cond.code yX10_spelt cX10_spelt 9 (some .long) :: gT) ({ frames := 0, cells := 0, slots := 0, locals := 200 } : Room)).room s m ([.int p0, .int p1, .int p2, .int p3, .int p4, .int p5, .int p6] : List Value).toArray below meth c H locs 0 0 Q (F0 m 57 ls []) := by
    intro x7 H locs ls r_p0 r_p1 r_p2 r_p3 r_p4 r_p5 r_p6 r_x7 hw hl
    refine lv_iload hx hb dX10_spelt_57 (lv_at hl 4 rfl) ?_
    refine lv_if_le (tgt := 78) hx hb dX10_spelt_59 (by decide) (fun c_59 => ?_) (fun c_59 => ?_)
    · exact B78 x7 _ _ ls r_p0 r_p1 r_p2 r_p3 r_p4 r_p5 r_p6 r_x7 hw hl
    · have r_p4 : RI p4 1 0 := rc_lt2 rl_0 r_p4 (ti_nle c_59) (by decide)
      exact (r_p4.no (by decide)).elim
  have B38 : ∀ (x7 : Int64) (H : Heap) (locs : List Loc) (ls : Array Slot), RI p0 104 104 → RI p1 97 97 → RI p2 115 115 → RI p3 0 0 → RI p4 0 0 → RI p5 0 0 → RI p6 0 0 → RJ x7 5878 5878 → WD D cy GG A s wr_X10_spelt__6 wa_X10_spelt__6 Ps w0 Ps w0 H locs → lv_has ls 9 [(0, .int p0), (1, .int p1), (2, .int p2), (3, .int p3), (4, .int p4), (5, .int p5), (6, .int p6), (7, .long x7)] → W p l e (headSpec (Cond.code yX10_spelt cX10_spelt 9 (some .long) :: gT) ({ frames := 0, cells := 0, slots := 0, locals := 200 } : Room)).room s m ([.int p0, .int p1, .int p2, .int p3, .int p4, .int p5, .int p6] : List Value).toArray below meth c H locs 0 0 Q (F0 m 38 ls []) := by
    intro x7 H locs ls r_p0 r_p1 r_p2 r_p3 r_p4 r_p5 r_p6 r_x7 hw hl
    refine lv_iload_n hx hb dX10_spelt_38 rfl (lv_at hl 3 rfl) ?_
    refine lv_if_le (tgt := 57) hx hb dX10_spelt_39 (by decide) (fun c_39 => ?_) (fun c_39 => ?_)
    · exact B57 x7 _ _ ls r_p0 r_p1 r_p2 r_p3 r_p4 r_p5 r_p6 r_x7 hw hl
    · have r_p3 : RI p3 1 0 := rc_lt2 rl_0 r_p3 (ti_nle c_39) (by decide)
      exact (r_p3.no (by decide)).elim
  refine lv_ldc2 (v := 27) hx hb hown (hts _ tw_1312) dX10_spelt_0 ?_
  refine lv_iload_n hx hb dX10_spelt_3 rfl (lv_at hl 0 rfl) ?_
  obtain ⟨w_1, e_w_1⟩ : ∃ q9 : Int64, (p0 : Int32).toInt64 = q9 := ⟨_, rfl⟩
  refine lv_i2l (v := w_1) hx hb dX10_spelt_4 e_w_1 ?_
  have r_w_1 := tq_i2l r_p0 e_w_1
  refine lv_ldc2 (v := 96) hx hb hown (hts _ tw_1313) dX10_spelt_5 ?_
  refine lv_lsub hx hb dX10_spelt_8 (lv_topl (fun w_2 e_w_2 => ?_))
  have r_w_2 := tq_lsub (lo := 8) (hi := 8) r_w_1 rk_96 (by decide +kernel) e_w_2
  refine lv_lmul hx hb dX10_spelt_9 (lv_topl (fun w_3 e_w_3 => ?_))
  have r_w_3 := tq_lmul (lo := 216) (hi := 216) rk_27 r_w_2 (by decide +kernel) e_w_3
  refine lv_iload_n hx hb dX10_spelt_10 rfl (lv_at hl 1 rfl) ?_
  obtain ⟨w_4, e_w_4⟩ : ∃ q9 : Int64, (p1 : Int32).toInt64 = q9 := ⟨_, rfl⟩
  refine lv_i2l (v := w_4) hx hb dX10_spelt_11 e_w_4 ?_
  have r_w_4 := tq_i2l r_p1 e_w_4
  refine lv_ladd hx hb dX10_spelt_12 (lv_topl (fun w_5 e_w_5 => ?_))
  have r_w_5 := tq_ladd (lo := 313) (hi := 313) r_w_3 r_w_4 (by decide +kernel) e_w_5
  refine lv_ldc2 (v := 96) hx hb hown (hts _ tw_1313) dX10_spelt_13 ?_
  refine lv_lsub hx hb dX10_spelt_16 (lv_topl (fun w_6 e_w_6 => ?_))
  have r_w_6 := tq_lsub (lo := 217) (hi := 217) r_w_5 rk_96 (by decide +kernel) e_w_6
  refine lv_lstore (lv' := [(7, .long w_6), (0, .int p0), (1, .int p1), (2, .int p2), (3, .int p3), (4, .int p4), (5, .int p5), (6, .int p6)]) hx hb dX10_spelt_17 hl (by decide) rfl (fun ls hl => ?_)
  refine lv_iload_n hx hb dX10_spelt_19 rfl (lv_at hl 3 rfl) ?_
  refine lv_if_le (tgt := 38) hx hb dX10_spelt_20 (by decide) (fun c_20 => ?_) (fun c_20 => ?_)
  · have r_p2 : RI p2 115 0 := rc_le1 r_p2 rl_0 (ti_le c_20) (by decide)
    exact (r_p2.no (by decide)).elim
  · refine lv_ldc2 (v := 27) hx hb hown (hts _ tw_1312) dX10_spelt_23 ?_
    refine lv_lload hx hb dX10_spelt_26 (lv_at hl 0 rfl) ?_
    refine lv_lmul hx hb dX10_spelt_28 (lv_topl (fun w_7 e_w_7 => ?_))
    have r_w_7 := tq_lmul (lo := 5859) (hi := 5859) rk_27 r_w_6 (by decide +kernel) e_w_7
    refine lv_iload_n hx hb dX10_spelt_29 rfl (lv_at hl 3 rfl) ?_
    obtain ⟨w_8, e_w_8⟩ : ∃ q9 : Int64, (p2 : Int32).toInt64 = q9 := ⟨_, rfl⟩
    refine lv_i2l (v := w_8) hx hb dX10_spelt_30 e_w_8 ?_
    have r_w_8 := tq_i2l r_p2 e_w_8
    refine lv_ladd hx hb dX10_spelt_31 (lv_topl (fun w_9 e_w_9 => ?_))
    have r_w_9 := tq_ladd (lo := 5974) (hi := 5974) r_w_7 r_w_8 (by decide +kernel) e_w_9
    refine lv_ldc2 (v := 96) hx hb hown (hts _ tw_1313) dX10_spelt_32 ?_
    refine lv_lsub hx hb dX10_spelt_35 (lv_topl (fun w_10 e_w_10 => ?_))
    have r_w_10 := tq_lsub (lo := 5878) (hi := 5878) r_w_9 rk_96 (by decide +kernel) e_w_10
    refine lv_lstore (lv' := [(7, .long w_10), (0, .int p0), (1, .int p1), (2, .int p2), (3, .int p3), (4, .int p4), (5, .int p5), (6, .int p6)]) hx hb dX10_spelt_36 hl (by decide) rfl (fun ls hl => ?_)
    exact B38 w_10 _ _ ls r_p0 r_p1 r_p2 r_p3 r_p4 r_p5 r_p6 r_w_10 hw (lv_sub hl [1, 2, 3, 4, 5, 6, 7, 0] rfl)
abbrev wr_X10_spelt__7 : List (Nat × Nat) := []
abbrev wa_X10_spelt__7 : List Nat := []
set_option maxHeartbeats 4000000 in
set_option maxRecDepth 100000 in
theorem c_X10_spelt__7 (l : Launch) (D : va_G) (cy : Nat → ClassId) (z : Nat → Nat) (sz : Nat) (Ps : PSI) (w0 : va_W) (hT : HT cy GG Ps w0) (p0 : Int32) (p1 : Int32) (p2 : Int32) (p3 : Int32) (p4 : Int32) (p5 : Int32) (p6 : Int32) (r_p0 : RI p0 113 113) (r_p1 : RI p1 117 117) (r_p2 : RI p2 97 97) (r_p3 : RI p3 114 114) (r_p4 : RI p4 114 114) (r_p5 : RI p5 101 101) (r_p6 : RI p6 108 108) : Met l yX10_spelt (Cond.code yX10_spelt cX10_spelt 9 (some .long) :: gT) ({ frames := 0, cells := 0, slots := 0, locals := 200 } : Room) (va_Pc [.int p0, .int p1, .int p2, .int p3, .int p4, .int p5, .int p6] (PRE D cy z w0 sz)) (va_Ql (fun (r : Int64) (u : Unit) => RJ r 6888374364 6888374364) (BB D cy (va_A w0 sz) (fun (u : Unit) => w0)) (va_A w0 sz)) 0 0 (va_A w0 sz) := by
  refine Met.ofW (cc := cX10_spelt) (maxL := 9) (ret := (some .long)) (by decide) rfl ?_
  intro p e s m args below meth c s₁ B hml hv
  obtain ⟨rfl, hsz, hP, hK, hD0, hSD⟩ := hv
  have hx := B.exec
  have hb := B.bytes
  have hr := B.returns
  have hlocks := B.notSynchronized
  have hts : ∀ w ∈ gT, w.before _ s = true := fun w h => atoms_spec (ws := Cond.code yX10_spelt cX10_spelt 9 (some .long) :: gT) B.pre w (List.mem_cons_of_mem _ h)
  have hown : s.vm.findClass RX10 = some m.cls := findClass_of_methodNamed B.named
  subst hsz
  have hD := hD0.self (sz := s.heap.size)
  generalize hAe : va_A w0 s.heap.size = A at hD hSD ⊢
  have hA : ∀ q : Nat, s.heap.size ≤ q → A q := fun q h => by rw [← hAe]; exact Or.inr h
  have hl := lv_entry ([.int p0, .int p1, .int p2, .int p3, .int p4, .int p5, .int p6]) (n := 9) (Nat.le_of_ble_eq_true rfl)
  rw [lg_entry_eq]
  generalize (lg_sl ([.int p0, .int p1, .int p2, .int p3, .int p4, .int p5, .int p6]) ++ List.replicate (9 - (lg_sl ([.int p0, .int p1, .int p2, .int p3, .int p4, .int p5, .int p6])).length) Slot.unset).toArray = ls at hl ⊢
  have hl : lv_has ls 9 [(0, .int p0), (1, .int p1), (2, .int p2), (3, .int p3), (4, .int p4), (5, .int p5), (6, .int p6)] := hl
  refine nameQ (fun Q hQ => ?_)
  have hw : WD D cy GG A s wr_X10_spelt__7 wa_X10_spelt__7 Ps w0 Ps w0 s.heap [] := ⟨hT, hP, hD, va_S.rf, FR.rf, hT.1, [], (List.append_nil _).symm⟩
  have B99 : ∀ (x7 : Int64) (H : Heap) (locs : List Loc) (ls : Array Slot), RI p0 113 113 → RI p1 117 117 → RI p2 97 97 → RI p3 114 114 → RI p4 114 114 → RI p5 101 101 → RI p6 108 108 → RJ x7 255124976 255124976 → WD D cy GG A s wr_X10_spelt__7 wa_X10_spelt__7 Ps w0 Ps w0 H locs → lv_has ls 9 [(0, .int p0), (1, .int p1), (2, .int p2), (3, .int p3), (4, .int p4), (5, .int p5), (6, .int p6), (7, .long x7)] → W p l e (headSpec (Cond.code yX10_spelt cX10_spelt 9 (some .long) :: gT) ({ frames := 0, cells := 0, slots := 0, locals := 200 } : Room)).room s m ([.int p0, .int p1, .int p2, .int p3, .int p4, .int p5, .int p6] : List Value).toArray below meth c H locs 0 0 Q (F0 m 99 ls []) := by
    intro x7 H locs ls r_p0 r_p1 r_p2 r_p3 r_p4 r_p5 r_p6 r_x7 hw hl
    refine lv_iload hx hb dX10_spelt_99 (lv_at hl 6 rfl) ?_
    refine lv_if_le (tgt := 120) hx hb dX10_spelt_101 (by decide) (fun c_101 => ?_) (fun c_101 => ?_)
    · have r_p6 : RI p6 108 0 := rc_le1 r_p6 rl_0 (ti_le c_101) (by decide)
      exact (r_p6.no (by decide)).elim
    · refine lv_ldc2 (v := 27) hx hb hown (hts _ tw_1312) dX10_spelt_104 ?_
      refine lv_lload hx hb dX10_spelt_107 (lv_at hl 7 rfl) ?_
      refine lv_lmul hx hb dX10_spelt_109 (lv_topl (fun w_1 e_w_1 => ?_))
      have r_w_1 := tq_lmul (lo := 6888374352) (hi := 6888374352) rk_27 r_x7 (by decide +kernel) e_w_1
      refine lv_iload hx hb dX10_spelt_110 (lv_at hl 6 rfl) ?_
      obtain ⟨w_2, e_w_2⟩ : ∃ q9 : Int64, (p6 : Int32).toInt64 = q9 := ⟨_, rfl⟩
      refine lv_i2l (v := w_2) hx hb dX10_spelt_112 e_w_2 ?_
      have r_w_2 := tq_i2l r_p6 e_w_2
      refine lv_ladd hx hb dX10_spelt_113 (lv_topl (fun w_3 e_w_3 => ?_))
      have r_w_3 := tq_ladd (lo := 6888374460) (hi := 6888374460) r_w_1 r_w_2 (by decide +kernel) e_w_3
      refine lv_ldc2 (v := 96) hx hb hown (hts _ tw_1313) dX10_spelt_114 ?_
      refine lv_lsub hx hb dX10_spelt_117 (lv_topl (fun w_4 e_w_4 => ?_))
      have r_w_4 := tq_lsub (lo := 6888374364) (hi := 6888374364) r_w_3 rk_96 (by decide +kernel) e_w_4
      refine lv_lstore (lv' := [(7, .long w_4), (0, .int p0), (1, .int p1), (2, .int p2), (3, .int p3), (4, .int p4), (5, .int p5), (6, .int p6)]) hx hb dX10_spelt_118 hl (by decide) rfl (fun ls hl => ?_)
      refine lv_lload hx hb dX10_spelt_120 (lv_at hl 0 rfl) ?_
      subst hQ
      exact W.lret (v := w_4) hx hb hr (fun t ht hW => ⟨⟨w_4, (), rfl, r_w_4.to (by decide), by rw [ht]; exact hw.2.1, va_K.moved hW.alike hK, hw.2.2.1⟩, hw.2.2.2.1.F ht⟩) hw.2.2.2.1.2.2 dX10_spelt_122
  have B78 : ∀ (x7 : Int64) (H : Heap) (locs : List Loc) (ls : Array Slot), RI p0 113 113 → RI p1 117 117 → RI p2 97 97 → RI p3 114 114 → RI p4 114 114 → RI p5 101 101 → RI p6 108 108 → RJ x7 9449073 9449073 → WD D cy GG A s wr_X10_spelt__7 wa_X10_spelt__7 Ps w0 Ps w0 H locs → lv_has ls 9 [(0, .int p0), (1, .int p1), (2, .int p2), (3, .int p3), (4, .int p4), (5, .int p5), (6, .int p6), (7, .long x7)] → W p l e (headSpec (Cond.code yX10_spelt cX10_spelt 9 (some .long) :: gT) ({ frames := 0, cells := 0, slots := 0, locals := 200 } : Room)).room s m ([.int p0, .int p1, .int p2, .int p3, .int p4, .int p5, .int p6] : List Value).toArray below meth c H locs 0 0 Q (F0 m 78 ls []) := by
    intro x7 H locs ls r_p0 r_p1 r_p2 r_p3 r_p4 r_p5 r_p6 r_x7 hw hl
    refine lv_iload hx hb dX10_spelt_78 (lv_at hl 5 rfl) ?_
    refine lv_if_le (tgt := 99) hx hb dX10_spelt_80 (by decide) (fun c_80 => ?_) (fun c_80 => ?_)
    · have r_p5 : RI p5 101 0 := rc_le1 r_p5 rl_0 (ti_le c_80) (by decide)
      exact (r_p5.no (by decide)).elim
    · refine lv_ldc2 (v := 27) hx hb hown (hts _ tw_1312) dX10_spelt_83 ?_
      refine lv_lload hx hb dX10_spelt_86 (lv_at hl 7 rfl) ?_
      refine lv_lmul hx hb dX10_spelt_88 (lv_topl (fun w_5 e_w_5 => ?_))
      have r_w_5 := tq_lmul (lo := 255124971) (hi := 255124971) rk_27 r_x7 (by decide +kernel) e_w_5
      refine lv_iload hx hb dX10_spelt_89 (lv_at hl 5 rfl) ?_
      obtain ⟨w_6, e_w_6⟩ : ∃ q9 : Int64, (p5 : Int32).toInt64 = q9 := ⟨_, rfl⟩
      refine lv_i2l (v := w_6) hx hb dX10_spelt_91 e_w_6 ?_
      have r_w_6 := tq_i2l r_p5 e_w_6
      refine lv_ladd hx hb dX10_spelt_92 (lv_topl (fun w_7 e_w_7 => ?_))
      have r_w_7 := tq_ladd (lo := 255125072) (hi := 255125072) r_w_5 r_w_6 (by decide +kernel) e_w_7
      refine lv_ldc2 (v := 96) hx hb hown (hts _ tw_1313) dX10_spelt_93 ?_
      refine lv_lsub hx hb dX10_spelt_96 (lv_topl (fun w_8 e_w_8 => ?_))
      have r_w_8 := tq_lsub (lo := 255124976) (hi := 255124976) r_w_7 rk_96 (by decide +kernel) e_w_8
      refine lv_lstore (lv' := [(7, .long w_8), (0, .int p0), (1, .int p1), (2, .int p2), (3, .int p3), (4, .int p4), (5, .int p5), (6, .int p6)]) hx hb dX10_spelt_97 hl (by decide) rfl (fun ls hl => ?_)
      exact B99 w_8 _ _ ls r_p0 r_p1 r_p2 r_p3 r_p4 r_p5 r_p6 r_w_8 hw (lv_sub hl [1, 2, 3, 4, 5, 6, 7, 0] rfl)
  have B57 : ∀ (x7 : Int64) (H : Heap) (locs : List Loc) (ls : Array Slot), RI p0 113 113 → RI p1 117 117 → RI p2 97 97 → RI p3 114 114 → RI p4 114 114 → RI p5 101 101 → RI p6 108 108 → RJ x7 349965 349965 → WD D cy GG A s wr_X10_spelt__7 wa_X10_spelt__7 Ps w0 Ps w0 H locs → lv_has ls 9 [(0, .int p0), (1, .int p1), (2, .int p2), (3, .int p3), (4, .int p4), (5, .int p5), (6, .int p6), (7, .long x7)] → W p l e (headSpec (Cond.code yX10_spelt cX10_spelt 9 (some .long) :: gT) ({ frames := 0, cells := 0, slots := 0, locals := 200 } : Room)).room s m ([.int p0, .int p1, .int p2, .int p3, .int p4, .int p5, .int p6] : List Value).toArray below meth c H locs 0 0 Q (F0 m 57 ls []) := by
    intro x7 H locs ls r_p0 r_p1 r_p2 r_p3 r_p4 r_p5 r_p6 r_x7 hw hl
    refine lv_iload hx hb dX10_spelt_57 (lv_at hl 4 rfl) ?_
    refine lv_if_le (tgt := 78) hx hb dX10_spelt_59 (by decide) (fun c_59 => ?_) (fun c_59 => ?_)
    · have r_p4 : RI p4 114 0 := rc_le1 r_p4 rl_0 (ti_le c_59) (by decide)
      exact (r_p4.no (by decide)).elim
    · refine lv_ldc2 (v := 27) hx hb hown (hts _ tw_1312) dX10_spelt_62 ?_
      refine lv_lload hx hb dX10_spelt_65 (lv_at hl 7 rfl) ?_
      refine lv_lmul hx hb dX10_spelt_67 (lv_topl (fun w_9 e_w_9 => ?_))
      have r_w_9 := tq_lmul (lo := 9449055) (hi := 9449055) rk_27 r_x7 (by decide +kernel) e_w_9
      refine lv_iload hx hb dX10_spelt_68 (lv_at hl 4 rfl) ?_
      obtain ⟨w_10, e_w_10⟩ : ∃ q9 : Int64, (p4 : Int32).toInt64 = q9 := ⟨_, rfl⟩
      refine lv_i2l (v := w_10) hx hb dX10_spelt_70 e_w_10 ?_
      have r_w_10 := tq_i2l r_p4 e_w_10
      refine lv_ladd hx hb dX10_spelt_71 (lv_topl (fun w_11 e_w_11 => ?_))
      have r_w_11 := tq_ladd (lo := 9449169) (hi := 9449169) r_w_9 r_w_10 (by decide +kernel) e_w_11
      refine lv_ldc2 (v := 96) hx hb hown (hts _ tw_1313) dX10_spelt_72 ?_
      refine lv_lsub hx hb dX10_spelt_75 (lv_topl (fun w_12 e_w_12 => ?_))
      have r_w_12 := tq_lsub (lo := 9449073) (hi := 9449073) r_w_11 rk_96 (by decide +kernel) e_w_12
      refine lv_lstore (lv' := [(7, .long w_12), (0, .int p0), (1, .int p1), (2, .int p2), (3, .int p3), (4, .int p4), (5, .int p5), (6, .int p6)]) hx hb dX10_spelt_76 hl (by decide) rfl (fun ls hl => ?_)
      exact B78 w_12 _ _ ls r_p0 r_p1 r_p2 r_p3 r_p4 r_p5 r_p6 r_w_12 hw (lv_sub hl [1, 2, 3, 4, 5, 6, 7, 0] rfl)
  have B38 : ∀ (x7 : Int64) (H : Heap) (locs : List Loc) (ls : Array Slot), RI p0 113 113 → RI p1 117 117 → RI p2 97 97 → RI p3 114 114 → RI p4 114 114 → RI p5 101 101 → RI p6 108 108 → RJ x7 12961 12961 → WD D cy GG A s wr_X10_spelt__7 wa_X10_spelt__7 Ps w0 Ps w0 H locs → lv_has ls 9 [(0, .int p0), (1, .int p1), (2, .int p2), (3, .int p3), (4, .int p4), (5, .int p5), (6, .int p6), (7, .long x7)] → W p l e (headSpec (Cond.code yX10_spelt cX10_spelt 9 (some .long) :: gT) ({ frames := 0, cells := 0, slots := 0, locals := 200 } : Room)).room s m ([.int p0, .int p1, .int p2, .int p3, .int p4, .int p5, .int p6] : List Value).toArray below meth c H locs 0 0 Q (F0 m 38 ls []) := by
    intro x7 H locs ls r_p0 r_p1 r_p2 r_p3 r_p4 r_p5 r_p6 r_x7 hw hl
    refine lv_iload_n hx hb dX10_spelt_38 rfl (lv_at hl 3 rfl) ?_
    refine lv_if_le (tgt := 57) hx hb dX10_spelt_39 (by decide) (fun c_39 => ?_) (fun c_39 => ?_)
    · have r_p3 : RI p3 114 0 := rc_le1 r_p3 rl_0 (ti_le c_39) (by decide)
      exact (r_p3.no (by decide)).elim
    · refine lv_ldc2 (v := 27) hx hb hown (hts _ tw_1312) dX10_spelt_42 ?_
      refine lv_lload hx hb dX10_spelt_45 (lv_at hl 7 rfl) ?_
      refine lv_lmul hx hb dX10_spelt_47 (lv_topl (fun w_13 e_w_13 => ?_))
      have r_w_13 := tq_lmul (lo := 349947) (hi := 349947) rk_27 r_x7 (by decide +kernel) e_w_13
      refine lv_iload_n hx hb dX10_spelt_48 rfl (lv_at hl 3 rfl) ?_
      obtain ⟨w_14, e_w_14⟩ : ∃ q9 : Int64, (p3 : Int32).toInt64 = q9 := ⟨_, rfl⟩
      refine lv_i2l (v := w_14) hx hb dX10_spelt_49 e_w_14 ?_
      have r_w_14 := tq_i2l r_p3 e_w_14
      refine lv_ladd hx hb dX10_spelt_50 (lv_topl (fun w_15 e_w_15 => ?_))
      have r_w_15 := tq_ladd (lo := 350061) (hi := 350061) r_w_13 r_w_14 (by decide +kernel) e_w_15
      refine lv_ldc2 (v := 96) hx hb hown (hts _ tw_1313) dX10_spelt_51 ?_
      refine lv_lsub hx hb dX10_spelt_54 (lv_topl (fun w_16 e_w_16 => ?_))
      have r_w_16 := tq_lsub (lo := 349965) (hi := 349965) r_w_15 rk_96 (by decide +kernel) e_w_16
      refine lv_lstore (lv' := [(7, .long w_16), (0, .int p0), (1, .int p1), (2, .int p2), (3, .int p3), (4, .int p4), (5, .int p5), (6, .int p6)]) hx hb dX10_spelt_55 hl (by decide) rfl (fun ls hl => ?_)
      exact B57 w_16 _ _ ls r_p0 r_p1 r_p2 r_p3 r_p4 r_p5 r_p6 r_w_16 hw (lv_sub hl [1, 2, 3, 4, 5, 6, 7, 0] rfl)
  refine lv_ldc2 (v := 27) hx hb hown (hts _ tw_1312) dX10_spelt_0 ?_
  refine lv_iload_n hx hb dX10_spelt_3 rfl (lv_at hl 0 rfl) ?_
  obtain ⟨w_17, e_w_17⟩ : ∃ q9 : Int64, (p0 : Int32).toInt64 = q9 := ⟨_, rfl⟩
  refine lv_i2l (v := w_17) hx hb dX10_spelt_4 e_w_17 ?_
  have r_w_17 := tq_i2l r_p0 e_w_17
  refine lv_ldc2 (v := 96) hx hb hown (hts _ tw_1313) dX10_spelt_5 ?_
  refine lv_lsub hx hb dX10_spelt_8 (lv_topl (fun w_18 e_w_18 => ?_))
  have r_w_18 := tq_lsub (lo := 17) (hi := 17) r_w_17 rk_96 (by decide +kernel) e_w_18
  refine lv_lmul hx hb dX10_spelt_9 (lv_topl (fun w_19 e_w_19 => ?_))
  have r_w_19 := tq_lmul (lo := 459) (hi := 459) rk_27 r_w_18 (by decide +kernel) e_w_19
  refine lv_iload_n hx hb dX10_spelt_10 rfl (lv_at hl 1 rfl) ?_
  obtain ⟨w_20, e_w_20⟩ : ∃ q9 : Int64, (p1 : Int32).toInt64 = q9 := ⟨_, rfl⟩
  refine lv_i2l (v := w_20) hx hb dX10_spelt_11 e_w_20 ?_
  have r_w_20 := tq_i2l r_p1 e_w_20
  refine lv_ladd hx hb dX10_spelt_12 (lv_topl (fun w_21 e_w_21 => ?_))
  have r_w_21 := tq_ladd (lo := 576) (hi := 576) r_w_19 r_w_20 (by decide +kernel) e_w_21
  refine lv_ldc2 (v := 96) hx hb hown (hts _ tw_1313) dX10_spelt_13 ?_
  refine lv_lsub hx hb dX10_spelt_16 (lv_topl (fun w_22 e_w_22 => ?_))
  have r_w_22 := tq_lsub (lo := 480) (hi := 480) r_w_21 rk_96 (by decide +kernel) e_w_22
  refine lv_lstore (lv' := [(7, .long w_22), (0, .int p0), (1, .int p1), (2, .int p2), (3, .int p3), (4, .int p4), (5, .int p5), (6, .int p6)]) hx hb dX10_spelt_17 hl (by decide) rfl (fun ls hl => ?_)
  refine lv_iload_n hx hb dX10_spelt_19 rfl (lv_at hl 3 rfl) ?_
  refine lv_if_le (tgt := 38) hx hb dX10_spelt_20 (by decide) (fun c_20 => ?_) (fun c_20 => ?_)
  · have r_p2 : RI p2 97 0 := rc_le1 r_p2 rl_0 (ti_le c_20) (by decide)
    exact (r_p2.no (by decide)).elim
  · refine lv_ldc2 (v := 27) hx hb hown (hts _ tw_1312) dX10_spelt_23 ?_
    refine lv_lload hx hb dX10_spelt_26 (lv_at hl 0 rfl) ?_
    refine lv_lmul hx hb dX10_spelt_28 (lv_topl (fun w_23 e_w_23 => ?_))
    have r_w_23 := tq_lmul (lo := 12960) (hi := 12960) rk_27 r_w_22 (by decide +kernel) e_w_23
    refine lv_iload_n hx hb dX10_spelt_29 rfl (lv_at hl 3 rfl) ?_
    obtain ⟨w_24, e_w_24⟩ : ∃ q9 : Int64, (p2 : Int32).toInt64 = q9 := ⟨_, rfl⟩
    refine lv_i2l (v := w_24) hx hb dX10_spelt_30 e_w_24 ?_
    have r_w_24 := tq_i2l r_p2 e_w_24
    refine lv_ladd hx hb dX10_spelt_31 (lv_topl (fun w_25 e_w_25 => ?_))
    have r_w_25 := tq_ladd (lo := 13057) (hi := 13057) r_w_23 r_w_24 (by decide +kernel) e_w_25
    refine lv_ldc2 (v := 96) hx hb hown (hts _ tw_1313) dX10_spelt_32 ?_
    refine lv_lsub hx hb dX10_spelt_35 (lv_topl (fun w_26 e_w_26 => ?_))
    have r_w_26 := tq_lsub (lo := 12961) (hi := 12961) r_w_25 rk_96 (by decide +kernel) e_w_26
    refine lv_lstore (lv' := [(7, .long w_26), (0, .int p0), (1, .int p1), (2, .int p2), (3, .int p3), (4, .int p4), (5, .int p5), (6, .int p6)]) hx hb dX10_spelt_36 hl (by decide) rfl (fun ls hl => ?_)
    exact B38 w_26 _ _ ls r_p0 r_p1 r_p2 r_p3 r_p4 r_p5 r_p6 r_w_26 hw (lv_sub hl [1, 2, 3, 4, 5, 6, 7, 0] rfl)
abbrev wr_X10_spelt__8 : List (Nat × Nat) := []
abbrev wa_X10_spelt__8 : List Nat := []
set_option maxHeartbeats 4000000 in
set_option maxRecDepth 100000 in
theorem c_X10_spelt__8 (l : Launch) (D : va_G) (cy : Nat → ClassId) (z : Nat → Nat) (sz : Nat) (Ps : PSI) (w0 : va_W) (hT : HT cy GG Ps w0) (p0 : Int32) (p1 : Int32) (p2 : Int32) (p3 : Int32) (p4 : Int32) (p5 : Int32) (p6 : Int32) (r_p0 : RI p0 108 108) (r_p1 : RI p1 101 101) (r_p2 : RI p2 97 97) (r_p3 : RI p3 107 107) (r_p4 : RI p4 0 0) (r_p5 : RI p5 0 0) (r_p6 : RI p6 0 0) : Met l yX10_spelt (Cond.code yX10_spelt cX10_spelt 9 (some .long) :: gT) ({ frames := 0, cells := 0, slots := 0, locals := 200 } : Room) (va_Pc [.int p0, .int p1, .int p2, .int p3, .int p4, .int p5, .int p6] (PRE D cy z w0 sz)) (va_Ql (fun (r : Int64) (u : Unit) => RJ r 239879 239879) (BB D cy (va_A w0 sz) (fun (u : Unit) => w0)) (va_A w0 sz)) 0 0 (va_A w0 sz) := by
  refine Met.ofW (cc := cX10_spelt) (maxL := 9) (ret := (some .long)) (by decide) rfl ?_
  intro p e s m args below meth c s₁ B hml hv
  obtain ⟨rfl, hsz, hP, hK, hD0, hSD⟩ := hv
  have hx := B.exec
  have hb := B.bytes
  have hr := B.returns
  have hlocks := B.notSynchronized
  have hts : ∀ w ∈ gT, w.before _ s = true := fun w h => atoms_spec (ws := Cond.code yX10_spelt cX10_spelt 9 (some .long) :: gT) B.pre w (List.mem_cons_of_mem _ h)
  have hown : s.vm.findClass RX10 = some m.cls := findClass_of_methodNamed B.named
  subst hsz
  have hD := hD0.self (sz := s.heap.size)
  generalize hAe : va_A w0 s.heap.size = A at hD hSD ⊢
  have hA : ∀ q : Nat, s.heap.size ≤ q → A q := fun q h => by rw [← hAe]; exact Or.inr h
  have hl := lv_entry ([.int p0, .int p1, .int p2, .int p3, .int p4, .int p5, .int p6]) (n := 9) (Nat.le_of_ble_eq_true rfl)
  rw [lg_entry_eq]
  generalize (lg_sl ([.int p0, .int p1, .int p2, .int p3, .int p4, .int p5, .int p6]) ++ List.replicate (9 - (lg_sl ([.int p0, .int p1, .int p2, .int p3, .int p4, .int p5, .int p6])).length) Slot.unset).toArray = ls at hl ⊢
  have hl : lv_has ls 9 [(0, .int p0), (1, .int p1), (2, .int p2), (3, .int p3), (4, .int p4), (5, .int p5), (6, .int p6)] := hl
  refine nameQ (fun Q hQ => ?_)
  have hw : WD D cy GG A s wr_X10_spelt__8 wa_X10_spelt__8 Ps w0 Ps w0 s.heap [] := ⟨hT, hP, hD, va_S.rf, FR.rf, hT.1, [], (List.append_nil _).symm⟩
  have B99 : ∀ (x7 : Int64) (H : Heap) (locs : List Loc) (ls : Array Slot), RI p0 108 108 → RI p1 101 101 → RI p2 97 97 → RI p3 107 107 → RI p4 0 0 → RI p5 0 0 → RI p6 0 0 → RJ x7 239879 239879 → WD D cy GG A s wr_X10_spelt__8 wa_X10_spelt__8 Ps w0 Ps w0 H locs → lv_has ls 9 [(0, .int p0), (1, .int p1), (2, .int p2), (3, .int p3), (4, .int p4), (5, .int p5), (6, .int p6), (7, .long x7)] → W p l e (headSpec (Cond.code yX10_spelt cX10_spelt 9 (some .long) :: gT) ({ frames := 0, cells := 0, slots := 0, locals := 200 } : Room)).room s m ([.int p0, .int p1, .int p2, .int p3, .int p4, .int p5, .int p6] : List Value).toArray below meth c H locs 0 0 Q (F0 m 99 ls []) := by
    intro x7 H locs ls r_p0 r_p1 r_p2 r_p3 r_p4 r_p5 r_p6 r_x7 hw hl
    refine lv_iload hx hb dX10_spelt_99 (lv_at hl 6 rfl) ?_
    refine lv_if_le (tgt := 120) hx hb dX10_spelt_101 (by decide) (fun c_101 => ?_) (fun c_101 => ?_)
    · refine lv_lload hx hb dX10_spelt_120 (lv_at hl 7 rfl) ?_
      subst hQ
      exact W.lret (v := x7) hx hb hr (fun t ht hW => ⟨⟨x7, (), rfl, r_x7.to (by decide), by rw [ht]; exact hw.2.1, va_K.moved hW.alike hK, hw.2.2.1⟩, hw.2.2.2.1.F ht⟩) hw.2.2.2.1.2.2 dX10_spelt_122
    · have r_p6 : RI p6 1 0 := rc_lt2 rl_0 r_p6 (ti_nle c_101) (by decide)
      exact (r_p6.no (by decide)).elim
  have B78 : ∀ (x7 : Int64) (H : Heap) (locs : List Loc) (ls : Array Slot), RI p0 108 108 → RI p1 101 101 → RI p2 97 97 → RI p3 107 107 → RI p4 0 0 → RI p5 0 0 → RI p6 0 0 → RJ x7 239879 239879 → WD D cy GG A s wr_X10_spelt__8 wa_X10_spelt__8 Ps w0 Ps w0 H locs → lv_has ls 9 [(0, .int p0), (1, .int p1), (2, .int p2), (3, .int p3), (4, .int p4), (5, .int p5), (6, .int p6), (7, .long x7)] → W p l e (headSpec (Cond.code yX10_spelt cX10_spelt 9 (some .long) :: gT) ({ frames := 0, cells := 0, slots := 0, locals := 200 } : Room)).room s m ([.int p0, .int p1, .int p2, .int p3, .int p4, .int p5, .int p6] : List Value).toArray below meth c H locs 0 0 Q (F0 m 78 ls []) := by
    intro x7 H locs ls r_p0 r_p1 r_p2 r_p3 r_p4 r_p5 r_p6 r_x7 hw hl
    refine lv_iload hx hb dX10_spelt_78 (lv_at hl 5 rfl) ?_
    refine lv_if_le (tgt := 99) hx hb dX10_spelt_80 (by decide) (fun c_80 => ?_) (fun c_80 => ?_)
    · exact B99 x7 _ _ ls r_p0 r_p1 r_p2 r_p3 r_p4 r_p5 r_p6 r_x7 hw hl
    · have r_p5 : RI p5 1 0 := rc_lt2 rl_0 r_p5 (ti_nle c_80) (by decide)
      exact (r_p5.no (by decide)).elim
  have B57 : ∀ (x7 : Int64) (H : Heap) (locs : List Loc) (ls : Array Slot), RI p0 108 108 → RI p1 101 101 → RI p2 97 97 → RI p3 107 107 → RI p4 0 0 → RI p5 0 0 → RI p6 0 0 → RJ x7 239879 239879 → WD D cy GG A s wr_X10_spelt__8 wa_X10_spelt__8 Ps w0 Ps w0 H locs → lv_has ls 9 [(0, .int p0), (1, .int p1), (2, .int p2), (3, .int p3), (4, .int p4), (5, .int p5), (6, .int p6), (7, .long x7)] → W p l e (headSpec (Cond.code yX10_spelt cX10_spelt 9 (some .long) :: gT) ({ frames := 0, cells := 0, slots := 0, locals := 200 } : Room)).room s m ([.int p0, .int p1, .int p2, .int p3, .int p4, .int p5, .int p6] : List Value).toArray below meth c H locs 0 0 Q (F0 m 57 ls []) := by
    intro x7 H locs ls r_p0 r_p1 r_p2 r_p3 r_p4 r_p5 r_p6 r_x7 hw hl
    refine lv_iload hx hb dX10_spelt_57 (lv_at hl 4 rfl) ?_
    refine lv_if_le (tgt := 78) hx hb dX10_spelt_59 (by decide) (fun c_59 => ?_) (fun c_59 => ?_)
    · exact B78 x7 _ _ ls r_p0 r_p1 r_p2 r_p3 r_p4 r_p5 r_p6 r_x7 hw hl
    · have r_p4 : RI p4 1 0 := rc_lt2 rl_0 r_p4 (ti_nle c_59) (by decide)
      exact (r_p4.no (by decide)).elim
  have B38 : ∀ (x7 : Int64) (H : Heap) (locs : List Loc) (ls : Array Slot), RI p0 108 108 → RI p1 101 101 → RI p2 97 97 → RI p3 107 107 → RI p4 0 0 → RI p5 0 0 → RI p6 0 0 → RJ x7 8884 8884 → WD D cy GG A s wr_X10_spelt__8 wa_X10_spelt__8 Ps w0 Ps w0 H locs → lv_has ls 9 [(0, .int p0), (1, .int p1), (2, .int p2), (3, .int p3), (4, .int p4), (5, .int p5), (6, .int p6), (7, .long x7)] → W p l e (headSpec (Cond.code yX10_spelt cX10_spelt 9 (some .long) :: gT) ({ frames := 0, cells := 0, slots := 0, locals := 200 } : Room)).room s m ([.int p0, .int p1, .int p2, .int p3, .int p4, .int p5, .int p6] : List Value).toArray below meth c H locs 0 0 Q (F0 m 38 ls []) := by
    intro x7 H locs ls r_p0 r_p1 r_p2 r_p3 r_p4 r_p5 r_p6 r_x7 hw hl
    refine lv_iload_n hx hb dX10_spelt_38 rfl (lv_at hl 3 rfl) ?_
    refine lv_if_le (tgt := 57) hx hb dX10_spelt_39 (by decide) (fun c_39 => ?_) (fun c_39 => ?_)
    · have r_p3 : RI p3 107 0 := rc_le1 r_p3 rl_0 (ti_le c_39) (by decide)
      exact (r_p3.no (by decide)).elim
    · refine lv_ldc2 (v := 27) hx hb hown (hts _ tw_1312) dX10_spelt_42 ?_
      refine lv_lload hx hb dX10_spelt_45 (lv_at hl 7 rfl) ?_
      refine lv_lmul hx hb dX10_spelt_47 (lv_topl (fun w_1 e_w_1 => ?_))
      have r_w_1 := tq_lmul (lo := 239868) (hi := 239868) rk_27 r_x7 (by decide +kernel) e_w_1
      refine lv_iload_n hx hb dX10_spelt_48 rfl (lv_at hl 3 rfl) ?_
      obtain ⟨w_2, e_w_2⟩ : ∃ q9 : Int64, (p3 : Int32).toInt64 = q9 := ⟨_, rfl⟩
      refine lv_i2l (v := w_2) hx hb dX10_spelt_49 e_w_2 ?_
      have r_w_2 := tq_i2l r_p3 e_w_2
      refine lv_ladd hx hb dX10_spelt_50 (lv_topl (fun w_3 e_w_3 => ?_))
      have r_w_3 := tq_ladd (lo := 239975) (hi := 239975) r_w_1 r_w_2 (by decide +kernel) e_w_3
      refine lv_ldc2 (v := 96) hx hb hown (hts _ tw_1313) dX10_spelt_51 ?_
      refine lv_lsub hx hb dX10_spelt_54 (lv_topl (fun w_4 e_w_4 => ?_))
      have r_w_4 := tq_lsub (lo := 239879) (hi := 239879) r_w_3 rk_96 (by decide +kernel) e_w_4
      refine lv_lstore (lv' := [(7, .long w_4), (0, .int p0), (1, .int p1), (2, .int p2), (3, .int p3), (4, .int p4), (5, .int p5), (6, .int p6)]) hx hb dX10_spelt_55 hl (by decide) rfl (fun ls hl => ?_)
      exact B57 w_4 _ _ ls r_p0 r_p1 r_p2 r_p3 r_p4 r_p5 r_p6 r_w_4 hw (lv_sub hl [1, 2, 3, 4, 5, 6, 7, 0] rfl)
  refine lv_ldc2 (v := 27) hx hb hown (hts _ tw_1312) dX10_spelt_0 ?_
  refine lv_iload_n hx hb dX10_spelt_3 rfl (lv_at hl 0 rfl) ?_
  obtain ⟨w_5, e_w_5⟩ : ∃ q9 : Int64, (p0 : Int32).toInt64 = q9 := ⟨_, rfl⟩
  refine lv_i2l (v := w_5) hx hb dX10_spelt_4 e_w_5 ?_
  have r_w_5 := tq_i2l r_p0 e_w_5
  refine lv_ldc2 (v := 96) hx hb hown (hts _ tw_1313) dX10_spelt_5 ?_
  refine lv_lsub hx hb dX10_spelt_8 (lv_topl (fun w_6 e_w_6 => ?_))
  have r_w_6 := tq_lsub (lo := 12) (hi := 12) r_w_5 rk_96 (by decide +kernel) e_w_6
  refine lv_lmul hx hb dX10_spelt_9 (lv_topl (fun w_7 e_w_7 => ?_))
  have r_w_7 := tq_lmul (lo := 324) (hi := 324) rk_27 r_w_6 (by decide +kernel) e_w_7
  refine lv_iload_n hx hb dX10_spelt_10 rfl (lv_at hl 1 rfl) ?_
  obtain ⟨w_8, e_w_8⟩ : ∃ q9 : Int64, (p1 : Int32).toInt64 = q9 := ⟨_, rfl⟩
  refine lv_i2l (v := w_8) hx hb dX10_spelt_11 e_w_8 ?_
  have r_w_8 := tq_i2l r_p1 e_w_8
  refine lv_ladd hx hb dX10_spelt_12 (lv_topl (fun w_9 e_w_9 => ?_))
  have r_w_9 := tq_ladd (lo := 425) (hi := 425) r_w_7 r_w_8 (by decide +kernel) e_w_9
  refine lv_ldc2 (v := 96) hx hb hown (hts _ tw_1313) dX10_spelt_13 ?_
  refine lv_lsub hx hb dX10_spelt_16 (lv_topl (fun w_10 e_w_10 => ?_))
  have r_w_10 := tq_lsub (lo := 329) (hi := 329) r_w_9 rk_96 (by decide +kernel) e_w_10
  refine lv_lstore (lv' := [(7, .long w_10), (0, .int p0), (1, .int p1), (2, .int p2), (3, .int p3), (4, .int p4), (5, .int p5), (6, .int p6)]) hx hb dX10_spelt_17 hl (by decide) rfl (fun ls hl => ?_)
  refine lv_iload_n hx hb dX10_spelt_19 rfl (lv_at hl 3 rfl) ?_
  refine lv_if_le (tgt := 38) hx hb dX10_spelt_20 (by decide) (fun c_20 => ?_) (fun c_20 => ?_)
  · have r_p2 : RI p2 97 0 := rc_le1 r_p2 rl_0 (ti_le c_20) (by decide)
    exact (r_p2.no (by decide)).elim
  · refine lv_ldc2 (v := 27) hx hb hown (hts _ tw_1312) dX10_spelt_23 ?_
    refine lv_lload hx hb dX10_spelt_26 (lv_at hl 0 rfl) ?_
    refine lv_lmul hx hb dX10_spelt_28 (lv_topl (fun w_11 e_w_11 => ?_))
    have r_w_11 := tq_lmul (lo := 8883) (hi := 8883) rk_27 r_w_10 (by decide +kernel) e_w_11
    refine lv_iload_n hx hb dX10_spelt_29 rfl (lv_at hl 3 rfl) ?_
    obtain ⟨w_12, e_w_12⟩ : ∃ q9 : Int64, (p2 : Int32).toInt64 = q9 := ⟨_, rfl⟩
    refine lv_i2l (v := w_12) hx hb dX10_spelt_30 e_w_12 ?_
    have r_w_12 := tq_i2l r_p2 e_w_12
    refine lv_ladd hx hb dX10_spelt_31 (lv_topl (fun w_13 e_w_13 => ?_))
    have r_w_13 := tq_ladd (lo := 8980) (hi := 8980) r_w_11 r_w_12 (by decide +kernel) e_w_13
    refine lv_ldc2 (v := 96) hx hb hown (hts _ tw_1313) dX10_spelt_32 ?_
    refine lv_lsub hx hb dX10_spelt_35 (lv_topl (fun w_14 e_w_14 => ?_))
    have r_w_14 := tq_lsub (lo := 8884) (hi := 8884) r_w_13 rk_96 (by decide +kernel) e_w_14
    refine lv_lstore (lv' := [(7, .long w_14), (0, .int p0), (1, .int p1), (2, .int p2), (3, .int p3), (4, .int p4), (5, .int p5), (6, .int p6)]) hx hb dX10_spelt_36 hl (by decide) rfl (fun ls hl => ?_)
    exact B38 w_14 _ _ ls r_p0 r_p1 r_p2 r_p3 r_p4 r_p5 r_p6 r_w_14 hw (lv_sub hl [1, 2, 3, 4, 5, 6, 7, 0] rfl)
abbrev wr_X10_spelt__9 : List (Nat × Nat) := []
abbrev wa_X10_spelt__9 : List Nat := []
set_option maxHeartbeats 4000000 in
set_option maxRecDepth 100000 in
theorem c_X10_spelt__9 (l : Launch) (D : va_G) (cy : Nat → ClassId) (z : Nat → Nat) (sz : Nat) (Ps : PSI) (w0 : va_W) (hT : HT cy GG Ps w0) (p0 : Int32) (p1 : Int32) (p2 : Int32) (p3 : Int32) (p4 : Int32) (p5 : Int32) (p6 : Int32) (r_p0 : RI p0 103 103) (r_p1 : RI p1 117 117) (r_p2 : RI p2 101 101) (r_p3 : RI p3 115 115) (r_p4 : RI p4 115 115) (r_p5 : RI p5 0 0) (r_p6 : RI p6 0 0) : Met l yX10_spelt (Cond.code yX10_spelt cX10_spelt 9 (some .long) :: gT) ({ frames := 0, cells := 0, slots := 0, locals := 200 } : Room) (va_Pc [.int p0, .int p1, .int p2, .int p3, .int p4, .int p5, .int p6] (PRE D cy z w0 sz)) (va_Ql (fun (r : Int64) (u : Unit) => RJ r 4137607 4137607) (BB D cy (va_A w0 sz) (fun (u : Unit) => w0)) (va_A w0 sz)) 0 0 (va_A w0 sz) := by
  refine Met.ofW (cc := cX10_spelt) (maxL := 9) (ret := (some .long)) (by decide) rfl ?_
  intro p e s m args below meth c s₁ B hml hv
  obtain ⟨rfl, hsz, hP, hK, hD0, hSD⟩ := hv
  have hx := B.exec
  have hb := B.bytes
  have hr := B.returns
  have hlocks := B.notSynchronized
  have hts : ∀ w ∈ gT, w.before _ s = true := fun w h => atoms_spec (ws := Cond.code yX10_spelt cX10_spelt 9 (some .long) :: gT) B.pre w (List.mem_cons_of_mem _ h)
  have hown : s.vm.findClass RX10 = some m.cls := findClass_of_methodNamed B.named
  subst hsz
  have hD := hD0.self (sz := s.heap.size)
  generalize hAe : va_A w0 s.heap.size = A at hD hSD ⊢
  have hA : ∀ q : Nat, s.heap.size ≤ q → A q := fun q h => by rw [← hAe]; exact Or.inr h
  have hl := lv_entry ([.int p0, .int p1, .int p2, .int p3, .int p4, .int p5, .int p6]) (n := 9) (Nat.le_of_ble_eq_true rfl)
  rw [lg_entry_eq]
  generalize (lg_sl ([.int p0, .int p1, .int p2, .int p3, .int p4, .int p5, .int p6]) ++ List.replicate (9 - (lg_sl ([.int p0, .int p1, .int p2, .int p3, .int p4, .int p5, .int p6])).length) Slot.unset).toArray = ls at hl ⊢
  have hl : lv_has ls 9 [(0, .int p0), (1, .int p1), (2, .int p2), (3, .int p3), (4, .int p4), (5, .int p5), (6, .int p6)] := hl
  refine nameQ (fun Q hQ => ?_)
  have hw : WD D cy GG A s wr_X10_spelt__9 wa_X10_spelt__9 Ps w0 Ps w0 s.heap [] := ⟨hT, hP, hD, va_S.rf, FR.rf, hT.1, [], (List.append_nil _).symm⟩
  have B99 : ∀ (x7 : Int64) (H : Heap) (locs : List Loc) (ls : Array Slot), RI p0 103 103 → RI p1 117 117 → RI p2 101 101 → RI p3 115 115 → RI p4 115 115 → RI p5 0 0 → RI p6 0 0 → RJ x7 4137607 4137607 → WD D cy GG A s wr_X10_spelt__9 wa_X10_spelt__9 Ps w0 Ps w0 H locs → lv_has ls 9 [(0, .int p0), (1, .int p1), (2, .int p2), (3, .int p3), (4, .int p4), (5, .int p5), (6, .int p6), (7, .long x7)] → W p l e (headSpec (Cond.code yX10_spelt cX10_spelt 9 (some .long) :: gT) ({ frames := 0, cells := 0, slots := 0, locals := 200 } : Room)).room s m ([.int p0, .int p1, .int p2, .int p3, .int p4, .int p5, .int p6] : List Value).toArray below meth c H locs 0 0 Q (F0 m 99 ls []) := by
    intro x7 H locs ls r_p0 r_p1 r_p2 r_p3 r_p4 r_p5 r_p6 r_x7 hw hl
    refine lv_iload hx hb dX10_spelt_99 (lv_at hl 6 rfl) ?_
    refine lv_if_le (tgt := 120) hx hb dX10_spelt_101 (by decide) (fun c_101 => ?_) (fun c_101 => ?_)
    · refine lv_lload hx hb dX10_spelt_120 (lv_at hl 7 rfl) ?_
      subst hQ
      exact W.lret (v := x7) hx hb hr (fun t ht hW => ⟨⟨x7, (), rfl, r_x7.to (by decide), by rw [ht]; exact hw.2.1, va_K.moved hW.alike hK, hw.2.2.1⟩, hw.2.2.2.1.F ht⟩) hw.2.2.2.1.2.2 dX10_spelt_122
    · have r_p6 : RI p6 1 0 := rc_lt2 rl_0 r_p6 (ti_nle c_101) (by decide)
      exact (r_p6.no (by decide)).elim
  have B78 : ∀ (x7 : Int64) (H : Heap) (locs : List Loc) (ls : Array Slot), RI p0 103 103 → RI p1 117 117 → RI p2 101 101 → RI p3 115 115 → RI p4 115 115 → RI p5 0 0 → RI p6 0 0 → RJ x7 4137607 4137607 → WD D cy GG A s wr_X10_spelt__9 wa_X10_spelt__9 Ps w0 Ps w0 H locs → lv_has ls 9 [(0, .int p0), (1, .int p1), (2, .int p2), (3, .int p3), (4, .int p4), (5, .int p5), (6, .int p6), (7, .long x7)] → W p l e (headSpec (Cond.code yX10_spelt cX10_spelt 9 (some .long) :: gT) ({ frames := 0, cells := 0, slots := 0, locals := 200 } : Room)).room s m ([.int p0, .int p1, .int p2, .int p3, .int p4, .int p5, .int p6] : List Value).toArray below meth c H locs 0 0 Q (F0 m 78 ls []) := by
    intro x7 H locs ls r_p0 r_p1 r_p2 r_p3 r_p4 r_p5 r_p6 r_x7 hw hl
    refine lv_iload hx hb dX10_spelt_78 (lv_at hl 5 rfl) ?_
    refine lv_if_le (tgt := 99) hx hb dX10_spelt_80 (by decide) (fun c_80 => ?_) (fun c_80 => ?_)
    · exact B99 x7 _ _ ls r_p0 r_p1 r_p2 r_p3 r_p4 r_p5 r_p6 r_x7 hw hl
    · have r_p5 : RI p5 1 0 := rc_lt2 rl_0 r_p5 (ti_nle c_80) (by decide)
      exact (r_p5.no (by decide)).elim
  have B57 : ∀ (x7 : Int64) (H : Heap) (locs : List Loc) (ls : Array Slot), RI p0 103 103 → RI p1 117 117 → RI p2 101 101 → RI p3 115 115 → RI p4 115 115 → RI p5 0 0 → RI p6 0 0 → RJ x7 153244 153244 → WD D cy GG A s wr_X10_spelt__9 wa_X10_spelt__9 Ps w0 Ps w0 H locs → lv_has ls 9 [(0, .int p0), (1, .int p1), (2, .int p2), (3, .int p3), (4, .int p4), (5, .int p5), (6, .int p6), (7, .long x7)] → W p l e (headSpec (Cond.code yX10_spelt cX10_spelt 9 (some .long) :: gT) ({ frames := 0, cells := 0, slots := 0, locals := 200 } : Room)).room s m ([.int p0, .int p1, .int p2, .int p3, .int p4, .int p5, .int p6] : List Value).toArray below meth c H locs 0 0 Q (F0 m 57 ls []) := by
    intro x7 H locs ls r_p0 r_p1 r_p2 r_p3 r_p4 r_p5 r_p6 r_x7 hw hl
    refine lv_iload hx hb dX10_spelt_57 (lv_at hl 4 rfl) ?_
    refine lv_if_le (tgt := 78) hx hb dX10_spelt_59 (by decide) (fun c_59 => ?_) (fun c_59 => ?_)
    · have r_p4 : RI p4 115 0 := rc_le1 r_p4 rl_0 (ti_le c_59) (by decide)
      exact (r_p4.no (by decide)).elim
    · refine lv_ldc2 (v := 27) hx hb hown (hts _ tw_1312) dX10_spelt_62 ?_
      refine lv_lload hx hb dX10_spelt_65 (lv_at hl 7 rfl) ?_
      refine lv_lmul hx hb dX10_spelt_67 (lv_topl (fun w_1 e_w_1 => ?_))
      have r_w_1 := tq_lmul (lo := 4137588) (hi := 4137588) rk_27 r_x7 (by decide +kernel) e_w_1
      refine lv_iload hx hb dX10_spelt_68 (lv_at hl 4 rfl) ?_
      obtain ⟨w_2, e_w_2⟩ : ∃ q9 : Int64, (p4 : Int32).toInt64 = q9 := ⟨_, rfl⟩
      refine lv_i2l (v := w_2) hx hb dX10_spelt_70 e_w_2 ?_
      have r_w_2 := tq_i2l r_p4 e_w_2
      refine lv_ladd hx hb dX10_spelt_71 (lv_topl (fun w_3 e_w_3 => ?_))
      have r_w_3 := tq_ladd (lo := 4137703) (hi := 4137703) r_w_1 r_w_2 (by decide +kernel) e_w_3
      refine lv_ldc2 (v := 96) hx hb hown (hts _ tw_1313) dX10_spelt_72 ?_
      refine lv_lsub hx hb dX10_spelt_75 (lv_topl (fun w_4 e_w_4 => ?_))
      have r_w_4 := tq_lsub (lo := 4137607) (hi := 4137607) r_w_3 rk_96 (by decide +kernel) e_w_4
      refine lv_lstore (lv' := [(7, .long w_4), (0, .int p0), (1, .int p1), (2, .int p2), (3, .int p3), (4, .int p4), (5, .int p5), (6, .int p6)]) hx hb dX10_spelt_76 hl (by decide) rfl (fun ls hl => ?_)
      exact B78 w_4 _ _ ls r_p0 r_p1 r_p2 r_p3 r_p4 r_p5 r_p6 r_w_4 hw (lv_sub hl [1, 2, 3, 4, 5, 6, 7, 0] rfl)
  have B38 : ∀ (x7 : Int64) (H : Heap) (locs : List Loc) (ls : Array Slot), RI p0 103 103 → RI p1 117 117 → RI p2 101 101 → RI p3 115 115 → RI p4 115 115 → RI p5 0 0 → RI p6 0 0 → RJ x7 5675 5675 → WD D cy GG A s wr_X10_spelt__9 wa_X10_spelt__9 Ps w0 Ps w0 H locs → lv_has ls 9 [(0, .int p0), (1, .int p1), (2, .int p2), (3, .int p3), (4, .int p4), (5, .int p5), (6, .int p6), (7, .long x7)] → W p l e (headSpec (Cond.code yX10_spelt cX10_spelt 9 (some .long) :: gT) ({ frames := 0, cells := 0, slots := 0, locals := 200 } : Room)).room s m ([.int p0, .int p1, .int p2, .int p3, .int p4, .int p5, .int p6] : List Value).toArray below meth c H locs 0 0 Q (F0 m 38 ls []) := by
    intro x7 H locs ls r_p0 r_p1 r_p2 r_p3 r_p4 r_p5 r_p6 r_x7 hw hl
    refine lv_iload_n hx hb dX10_spelt_38 rfl (lv_at hl 3 rfl) ?_
    refine lv_if_le (tgt := 57) hx hb dX10_spelt_39 (by decide) (fun c_39 => ?_) (fun c_39 => ?_)
    · have r_p3 : RI p3 115 0 := rc_le1 r_p3 rl_0 (ti_le c_39) (by decide)
      exact (r_p3.no (by decide)).elim
    · refine lv_ldc2 (v := 27) hx hb hown (hts _ tw_1312) dX10_spelt_42 ?_
      refine lv_lload hx hb dX10_spelt_45 (lv_at hl 7 rfl) ?_
      refine lv_lmul hx hb dX10_spelt_47 (lv_topl (fun w_5 e_w_5 => ?_))
      have r_w_5 := tq_lmul (lo := 153225) (hi := 153225) rk_27 r_x7 (by decide +kernel) e_w_5
      refine lv_iload_n hx hb dX10_spelt_48 rfl (lv_at hl 3 rfl) ?_
      obtain ⟨w_6, e_w_6⟩ : ∃ q9 : Int64, (p3 : Int32).toInt64 = q9 := ⟨_, rfl⟩
      refine lv_i2l (v := w_6) hx hb dX10_spelt_49 e_w_6 ?_
      have r_w_6 := tq_i2l r_p3 e_w_6
      refine lv_ladd hx hb dX10_spelt_50 (lv_topl (fun w_7 e_w_7 => ?_))
      have r_w_7 := tq_ladd (lo := 153340) (hi := 153340) r_w_5 r_w_6 (by decide +kernel) e_w_7
      refine lv_ldc2 (v := 96) hx hb hown (hts _ tw_1313) dX10_spelt_51 ?_
      refine lv_lsub hx hb dX10_spelt_54 (lv_topl (fun w_8 e_w_8 => ?_))
      have r_w_8 := tq_lsub (lo := 153244) (hi := 153244) r_w_7 rk_96 (by decide +kernel) e_w_8
      refine lv_lstore (lv' := [(7, .long w_8), (0, .int p0), (1, .int p1), (2, .int p2), (3, .int p3), (4, .int p4), (5, .int p5), (6, .int p6)]) hx hb dX10_spelt_55 hl (by decide) rfl (fun ls hl => ?_)
      exact B57 w_8 _ _ ls r_p0 r_p1 r_p2 r_p3 r_p4 r_p5 r_p6 r_w_8 hw (lv_sub hl [1, 2, 3, 4, 5, 6, 7, 0] rfl)
  refine lv_ldc2 (v := 27) hx hb hown (hts _ tw_1312) dX10_spelt_0 ?_
  refine lv_iload_n hx hb dX10_spelt_3 rfl (lv_at hl 0 rfl) ?_
  obtain ⟨w_9, e_w_9⟩ : ∃ q9 : Int64, (p0 : Int32).toInt64 = q9 := ⟨_, rfl⟩
  refine lv_i2l (v := w_9) hx hb dX10_spelt_4 e_w_9 ?_
  have r_w_9 := tq_i2l r_p0 e_w_9
  refine lv_ldc2 (v := 96) hx hb hown (hts _ tw_1313) dX10_spelt_5 ?_
  refine lv_lsub hx hb dX10_spelt_8 (lv_topl (fun w_10 e_w_10 => ?_))
  have r_w_10 := tq_lsub (lo := 7) (hi := 7) r_w_9 rk_96 (by decide +kernel) e_w_10
  refine lv_lmul hx hb dX10_spelt_9 (lv_topl (fun w_11 e_w_11 => ?_))
  have r_w_11 := tq_lmul (lo := 189) (hi := 189) rk_27 r_w_10 (by decide +kernel) e_w_11
  refine lv_iload_n hx hb dX10_spelt_10 rfl (lv_at hl 1 rfl) ?_
  obtain ⟨w_12, e_w_12⟩ : ∃ q9 : Int64, (p1 : Int32).toInt64 = q9 := ⟨_, rfl⟩
  refine lv_i2l (v := w_12) hx hb dX10_spelt_11 e_w_12 ?_
  have r_w_12 := tq_i2l r_p1 e_w_12
  refine lv_ladd hx hb dX10_spelt_12 (lv_topl (fun w_13 e_w_13 => ?_))
  have r_w_13 := tq_ladd (lo := 306) (hi := 306) r_w_11 r_w_12 (by decide +kernel) e_w_13
  refine lv_ldc2 (v := 96) hx hb hown (hts _ tw_1313) dX10_spelt_13 ?_
  refine lv_lsub hx hb dX10_spelt_16 (lv_topl (fun w_14 e_w_14 => ?_))
  have r_w_14 := tq_lsub (lo := 210) (hi := 210) r_w_13 rk_96 (by decide +kernel) e_w_14
  refine lv_lstore (lv' := [(7, .long w_14), (0, .int p0), (1, .int p1), (2, .int p2), (3, .int p3), (4, .int p4), (5, .int p5), (6, .int p6)]) hx hb dX10_spelt_17 hl (by decide) rfl (fun ls hl => ?_)
  refine lv_iload_n hx hb dX10_spelt_19 rfl (lv_at hl 3 rfl) ?_
  refine lv_if_le (tgt := 38) hx hb dX10_spelt_20 (by decide) (fun c_20 => ?_) (fun c_20 => ?_)
  · have r_p2 : RI p2 101 0 := rc_le1 r_p2 rl_0 (ti_le c_20) (by decide)
    exact (r_p2.no (by decide)).elim
  · refine lv_ldc2 (v := 27) hx hb hown (hts _ tw_1312) dX10_spelt_23 ?_
    refine lv_lload hx hb dX10_spelt_26 (lv_at hl 0 rfl) ?_
    refine lv_lmul hx hb dX10_spelt_28 (lv_topl (fun w_15 e_w_15 => ?_))
    have r_w_15 := tq_lmul (lo := 5670) (hi := 5670) rk_27 r_w_14 (by decide +kernel) e_w_15
    refine lv_iload_n hx hb dX10_spelt_29 rfl (lv_at hl 3 rfl) ?_
    obtain ⟨w_16, e_w_16⟩ : ∃ q9 : Int64, (p2 : Int32).toInt64 = q9 := ⟨_, rfl⟩
    refine lv_i2l (v := w_16) hx hb dX10_spelt_30 e_w_16 ?_
    have r_w_16 := tq_i2l r_p2 e_w_16
    refine lv_ladd hx hb dX10_spelt_31 (lv_topl (fun w_17 e_w_17 => ?_))
    have r_w_17 := tq_ladd (lo := 5771) (hi := 5771) r_w_15 r_w_16 (by decide +kernel) e_w_17
    refine lv_ldc2 (v := 96) hx hb hown (hts _ tw_1313) dX10_spelt_32 ?_
    refine lv_lsub hx hb dX10_spelt_35 (lv_topl (fun w_18 e_w_18 => ?_))
    have r_w_18 := tq_lsub (lo := 5675) (hi := 5675) r_w_17 rk_96 (by decide +kernel) e_w_18
    refine lv_lstore (lv' := [(7, .long w_18), (0, .int p0), (1, .int p1), (2, .int p2), (3, .int p3), (4, .int p4), (5, .int p5), (6, .int p6)]) hx hb dX10_spelt_36 hl (by decide) rfl (fun ls hl => ?_)
    exact B38 w_18 _ _ ls r_p0 r_p1 r_p2 r_p3 r_p4 r_p5 r_p6 r_w_18 hw (lv_sub hl [1, 2, 3, 4, 5, 6, 7, 0] rfl)
abbrev wr_X10_spelt__10 : List (Nat × Nat) := []
abbrev wa_X10_spelt__10 : List Nat := []
set_option maxHeartbeats 4000000 in
set_option maxRecDepth 100000 in
theorem c_X10_spelt__10 (l : Launch) (D : va_G) (cy : Nat → ClassId) (z : Nat → Nat) (sz : Nat) (Ps : PSI) (w0 : va_W) (hT : HT cy GG Ps w0) (p0 : Int32) (p1 : Int32) (p2 : Int32) (p3 : Int32) (p4 : Int32) (p5 : Int32) (p6 : Int32) (r_p0 : RI p0 106 106) (r_p1 : RI p1 111 111) (r_p2 : RI p2 105 105) (r_p3 : RI p3 110 110) (r_p4 : RI p4 115 115) (r_p5 : RI p5 0 0) (r_p6 : RI p6 0 0) : Met l yX10_spelt (Cond.code yX10_spelt cX10_spelt 9 (some .long) :: gT) ({ frames := 0, cells := 0, slots := 0, locals := 200 } : Room) (va_Pc [.int p0, .int p1, .int p2, .int p3, .int p4, .int p5, .int p6] (PRE D cy z w0 sz)) (va_Ql (fun (r : Int64) (u : Unit) => RJ r 5616613 5616613) (BB D cy (va_A w0 sz) (fun (u : Unit) => w0)) (va_A w0 sz)) 0 0 (va_A w0 sz) := by
  refine Met.ofW (cc := cX10_spelt) (maxL := 9) (ret := (some .long)) (by decide) rfl ?_
  intro p e s m args below meth c s₁ B hml hv
  obtain ⟨rfl, hsz, hP, hK, hD0, hSD⟩ := hv
  have hx := B.exec
  have hb := B.bytes
  have hr := B.returns
  have hlocks := B.notSynchronized
  have hts : ∀ w ∈ gT, w.before _ s = true := fun w h => atoms_spec (ws := Cond.code yX10_spelt cX10_spelt 9 (some .long) :: gT) B.pre w (List.mem_cons_of_mem _ h)
  have hown : s.vm.findClass RX10 = some m.cls := findClass_of_methodNamed B.named
  subst hsz
  have hD := hD0.self (sz := s.heap.size)
  generalize hAe : va_A w0 s.heap.size = A at hD hSD ⊢
  have hA : ∀ q : Nat, s.heap.size ≤ q → A q := fun q h => by rw [← hAe]; exact Or.inr h
  have hl := lv_entry ([.int p0, .int p1, .int p2, .int p3, .int p4, .int p5, .int p6]) (n := 9) (Nat.le_of_ble_eq_true rfl)
  rw [lg_entry_eq]
  generalize (lg_sl ([.int p0, .int p1, .int p2, .int p3, .int p4, .int p5, .int p6]) ++ List.replicate (9 - (lg_sl ([.int p0, .int p1, .int p2, .int p3, .int p4, .int p5, .int p6])).length) Slot.unset).toArray = ls at hl ⊢
  have hl : lv_has ls 9 [(0, .int p0), (1, .int p1), (2, .int p2), (3, .int p3), (4, .int p4), (5, .int p5), (6, .int p6)] := hl
  refine nameQ (fun Q hQ => ?_)
  have hw : WD D cy GG A s wr_X10_spelt__10 wa_X10_spelt__10 Ps w0 Ps w0 s.heap [] := ⟨hT, hP, hD, va_S.rf, FR.rf, hT.1, [], (List.append_nil _).symm⟩
  have B99 : ∀ (x7 : Int64) (H : Heap) (locs : List Loc) (ls : Array Slot), RI p0 106 106 → RI p1 111 111 → RI p2 105 105 → RI p3 110 110 → RI p4 115 115 → RI p5 0 0 → RI p6 0 0 → RJ x7 5616613 5616613 → WD D cy GG A s wr_X10_spelt__10 wa_X10_spelt__10 Ps w0 Ps w0 H locs → lv_has ls 9 [(0, .int p0), (1, .int p1), (2, .int p2), (3, .int p3), (4, .int p4), (5, .int p5), (6, .int p6), (7, .long x7)] → W p l e (headSpec (Cond.code yX10_spelt cX10_spelt 9 (some .long) :: gT) ({ frames := 0, cells := 0, slots := 0, locals := 200 } : Room)).room s m ([.int p0, .int p1, .int p2, .int p3, .int p4, .int p5, .int p6] : List Value).toArray below meth c H locs 0 0 Q (F0 m 99 ls []) := by
    intro x7 H locs ls r_p0 r_p1 r_p2 r_p3 r_p4 r_p5 r_p6 r_x7 hw hl
    refine lv_iload hx hb dX10_spelt_99 (lv_at hl 6 rfl) ?_
    refine lv_if_le (tgt := 120) hx hb dX10_spelt_101 (by decide) (fun c_101 => ?_) (fun c_101 => ?_)
    · refine lv_lload hx hb dX10_spelt_120 (lv_at hl 7 rfl) ?_
      subst hQ
      exact W.lret (v := x7) hx hb hr (fun t ht hW => ⟨⟨x7, (), rfl, r_x7.to (by decide), by rw [ht]; exact hw.2.1, va_K.moved hW.alike hK, hw.2.2.1⟩, hw.2.2.2.1.F ht⟩) hw.2.2.2.1.2.2 dX10_spelt_122
    · have r_p6 : RI p6 1 0 := rc_lt2 rl_0 r_p6 (ti_nle c_101) (by decide)
      exact (r_p6.no (by decide)).elim
  have B78 : ∀ (x7 : Int64) (H : Heap) (locs : List Loc) (ls : Array Slot), RI p0 106 106 → RI p1 111 111 → RI p2 105 105 → RI p3 110 110 → RI p4 115 115 → RI p5 0 0 → RI p6 0 0 → RJ x7 5616613 5616613 → WD D cy GG A s wr_X10_spelt__10 wa_X10_spelt__10 Ps w0 Ps w0 H locs → lv_has ls 9 [(0, .int p0), (1, .int p1), (2, .int p2), (3, .int p3), (4, .int p4), (5, .int p5), (6, .int p6), (7, .long x7)] → W p l e (headSpec (Cond.code yX10_spelt cX10_spelt 9 (some .long) :: gT) ({ frames := 0, cells := 0, slots := 0, locals := 200 } : Room)).room s m ([.int p0, .int p1, .int p2, .int p3, .int p4, .int p5, .int p6] : List Value).toArray below meth c H locs 0 0 Q (F0 m 78 ls []) := by
    intro x7 H locs ls r_p0 r_p1 r_p2 r_p3 r_p4 r_p5 r_p6 r_x7 hw hl
    refine lv_iload hx hb dX10_spelt_78 (lv_at hl 5 rfl) ?_
    refine lv_if_le (tgt := 99) hx hb dX10_spelt_80 (by decide) (fun c_80 => ?_) (fun c_80 => ?_)
    · exact B99 x7 _ _ ls r_p0 r_p1 r_p2 r_p3 r_p4 r_p5 r_p6 r_x7 hw hl
    · have r_p5 : RI p5 1 0 := rc_lt2 rl_0 r_p5 (ti_nle c_80) (by decide)
      exact (r_p5.no (by decide)).elim
  have B57 : ∀ (x7 : Int64) (H : Heap) (locs : List Loc) (ls : Array Slot), RI p0 106 106 → RI p1 111 111 → RI p2 105 105 → RI p3 110 110 → RI p4 115 115 → RI p5 0 0 → RI p6 0 0 → RJ x7 208022 208022 → WD D cy GG A s wr_X10_spelt__10 wa_X10_spelt__10 Ps w0 Ps w0 H locs → lv_has ls 9 [(0, .int p0), (1, .int p1), (2, .int p2), (3, .int p3), (4, .int p4), (5, .int p5), (6, .int p6), (7, .long x7)] → W p l e (headSpec (Cond.code yX10_spelt cX10_spelt 9 (some .long) :: gT) ({ frames := 0, cells := 0, slots := 0, locals := 200 } : Room)).room s m ([.int p0, .int p1, .int p2, .int p3, .int p4, .int p5, .int p6] : List Value).toArray below meth c H locs 0 0 Q (F0 m 57 ls []) := by
    intro x7 H locs ls r_p0 r_p1 r_p2 r_p3 r_p4 r_p5 r_p6 r_x7 hw hl
    refine lv_iload hx hb dX10_spelt_57 (lv_at hl 4 rfl) ?_
    refine lv_if_le (tgt := 78) hx hb dX10_spelt_59 (by decide) (fun c_59 => ?_) (fun c_59 => ?_)
    · have r_p4 : RI p4 115 0 := rc_le1 r_p4 rl_0 (ti_le c_59) (by decide)
      exact (r_p4.no (by decide)).elim
    · refine lv_ldc2 (v := 27) hx hb hown (hts _ tw_1312) dX10_spelt_62 ?_
      refine lv_lload hx hb dX10_spelt_65 (lv_at hl 7 rfl) ?_
      refine lv_lmul hx hb dX10_spelt_67 (lv_topl (fun w_1 e_w_1 => ?_))
      have r_w_1 := tq_lmul (lo := 5616594) (hi := 5616594) rk_27 r_x7 (by decide +kernel) e_w_1
      refine lv_iload hx hb dX10_spelt_68 (lv_at hl 4 rfl) ?_
      obtain ⟨w_2, e_w_2⟩ : ∃ q9 : Int64, (p4 : Int32).toInt64 = q9 := ⟨_, rfl⟩
      refine lv_i2l (v := w_2) hx hb dX10_spelt_70 e_w_2 ?_
      have r_w_2 := tq_i2l r_p4 e_w_2
      refine lv_ladd hx hb dX10_spelt_71 (lv_topl (fun w_3 e_w_3 => ?_))
      have r_w_3 := tq_ladd (lo := 5616709) (hi := 5616709) r_w_1 r_w_2 (by decide +kernel) e_w_3
      refine lv_ldc2 (v := 96) hx hb hown (hts _ tw_1313) dX10_spelt_72 ?_
      refine lv_lsub hx hb dX10_spelt_75 (lv_topl (fun w_4 e_w_4 => ?_))
      have r_w_4 := tq_lsub (lo := 5616613) (hi := 5616613) r_w_3 rk_96 (by decide +kernel) e_w_4
      refine lv_lstore (lv' := [(7, .long w_4), (0, .int p0), (1, .int p1), (2, .int p2), (3, .int p3), (4, .int p4), (5, .int p5), (6, .int p6)]) hx hb dX10_spelt_76 hl (by decide) rfl (fun ls hl => ?_)
      exact B78 w_4 _ _ ls r_p0 r_p1 r_p2 r_p3 r_p4 r_p5 r_p6 r_w_4 hw (lv_sub hl [1, 2, 3, 4, 5, 6, 7, 0] rfl)
  have B38 : ∀ (x7 : Int64) (H : Heap) (locs : List Loc) (ls : Array Slot), RI p0 106 106 → RI p1 111 111 → RI p2 105 105 → RI p3 110 110 → RI p4 115 115 → RI p5 0 0 → RI p6 0 0 → RJ x7 7704 7704 → WD D cy GG A s wr_X10_spelt__10 wa_X10_spelt__10 Ps w0 Ps w0 H locs → lv_has ls 9 [(0, .int p0), (1, .int p1), (2, .int p2), (3, .int p3), (4, .int p4), (5, .int p5), (6, .int p6), (7, .long x7)] → W p l e (headSpec (Cond.code yX10_spelt cX10_spelt 9 (some .long) :: gT) ({ frames := 0, cells := 0, slots := 0, locals := 200 } : Room)).room s m ([.int p0, .int p1, .int p2, .int p3, .int p4, .int p5, .int p6] : List Value).toArray below meth c H locs 0 0 Q (F0 m 38 ls []) := by
    intro x7 H locs ls r_p0 r_p1 r_p2 r_p3 r_p4 r_p5 r_p6 r_x7 hw hl
    refine lv_iload_n hx hb dX10_spelt_38 rfl (lv_at hl 3 rfl) ?_
    refine lv_if_le (tgt := 57) hx hb dX10_spelt_39 (by decide) (fun c_39 => ?_) (fun c_39 => ?_)
    · have r_p3 : RI p3 110 0 := rc_le1 r_p3 rl_0 (ti_le c_39) (by decide)
      exact (r_p3.no (by decide)).elim
    · refine lv_ldc2 (v := 27) hx hb hown (hts _ tw_1312) dX10_spelt_42 ?_
      refine lv_lload hx hb dX10_spelt_45 (lv_at hl 7 rfl) ?_
      refine lv_lmul hx hb dX10_spelt_47 (lv_topl (fun w_5 e_w_5 => ?_))
      have r_w_5 := tq_lmul (lo := 208008) (hi := 208008) rk_27 r_x7 (by decide +kernel) e_w_5
      refine lv_iload_n hx hb dX10_spelt_48 rfl (lv_at hl 3 rfl) ?_
      obtain ⟨w_6, e_w_6⟩ : ∃ q9 : Int64, (p3 : Int32).toInt64 = q9 := ⟨_, rfl⟩
      refine lv_i2l (v := w_6) hx hb dX10_spelt_49 e_w_6 ?_
      have r_w_6 := tq_i2l r_p3 e_w_6
      refine lv_ladd hx hb dX10_spelt_50 (lv_topl (fun w_7 e_w_7 => ?_))
      have r_w_7 := tq_ladd (lo := 208118) (hi := 208118) r_w_5 r_w_6 (by decide +kernel) e_w_7
      refine lv_ldc2 (v := 96) hx hb hown (hts _ tw_1313) dX10_spelt_51 ?_
      refine lv_lsub hx hb dX10_spelt_54 (lv_topl (fun w_8 e_w_8 => ?_))
      have r_w_8 := tq_lsub (lo := 208022) (hi := 208022) r_w_7 rk_96 (by decide +kernel) e_w_8
      refine lv_lstore (lv' := [(7, .long w_8), (0, .int p0), (1, .int p1), (2, .int p2), (3, .int p3), (4, .int p4), (5, .int p5), (6, .int p6)]) hx hb dX10_spelt_55 hl (by decide) rfl (fun ls hl => ?_)
      exact B57 w_8 _ _ ls r_p0 r_p1 r_p2 r_p3 r_p4 r_p5 r_p6 r_w_8 hw (lv_sub hl [1, 2, 3, 4, 5, 6, 7, 0] rfl)
  refine lv_ldc2 (v := 27) hx hb hown (hts _ tw_1312) dX10_spelt_0 ?_
  refine lv_iload_n hx hb dX10_spelt_3 rfl (lv_at hl 0 rfl) ?_
  obtain ⟨w_9, e_w_9⟩ : ∃ q9 : Int64, (p0 : Int32).toInt64 = q9 := ⟨_, rfl⟩
  refine lv_i2l (v := w_9) hx hb dX10_spelt_4 e_w_9 ?_
  have r_w_9 := tq_i2l r_p0 e_w_9
  refine lv_ldc2 (v := 96) hx hb hown (hts _ tw_1313) dX10_spelt_5 ?_
  refine lv_lsub hx hb dX10_spelt_8 (lv_topl (fun w_10 e_w_10 => ?_))
  have r_w_10 := tq_lsub (lo := 10) (hi := 10) r_w_9 rk_96 (by decide +kernel) e_w_10
  refine lv_lmul hx hb dX10_spelt_9 (lv_topl (fun w_11 e_w_11 => ?_))
  have r_w_11 := tq_lmul (lo := 270) (hi := 270) rk_27 r_w_10 (by decide +kernel) e_w_11
  refine lv_iload_n hx hb dX10_spelt_10 rfl (lv_at hl 1 rfl) ?_
  obtain ⟨w_12, e_w_12⟩ : ∃ q9 : Int64, (p1 : Int32).toInt64 = q9 := ⟨_, rfl⟩
  refine lv_i2l (v := w_12) hx hb dX10_spelt_11 e_w_12 ?_
  have r_w_12 := tq_i2l r_p1 e_w_12
  refine lv_ladd hx hb dX10_spelt_12 (lv_topl (fun w_13 e_w_13 => ?_))
  have r_w_13 := tq_ladd (lo := 381) (hi := 381) r_w_11 r_w_12 (by decide +kernel) e_w_13
  refine lv_ldc2 (v := 96) hx hb hown (hts _ tw_1313) dX10_spelt_13 ?_
  refine lv_lsub hx hb dX10_spelt_16 (lv_topl (fun w_14 e_w_14 => ?_))
  have r_w_14 := tq_lsub (lo := 285) (hi := 285) r_w_13 rk_96 (by decide +kernel) e_w_14
  refine lv_lstore (lv' := [(7, .long w_14), (0, .int p0), (1, .int p1), (2, .int p2), (3, .int p3), (4, .int p4), (5, .int p5), (6, .int p6)]) hx hb dX10_spelt_17 hl (by decide) rfl (fun ls hl => ?_)
  refine lv_iload_n hx hb dX10_spelt_19 rfl (lv_at hl 3 rfl) ?_
  refine lv_if_le (tgt := 38) hx hb dX10_spelt_20 (by decide) (fun c_20 => ?_) (fun c_20 => ?_)
  · have r_p2 : RI p2 105 0 := rc_le1 r_p2 rl_0 (ti_le c_20) (by decide)
    exact (r_p2.no (by decide)).elim
  · refine lv_ldc2 (v := 27) hx hb hown (hts _ tw_1312) dX10_spelt_23 ?_
    refine lv_lload hx hb dX10_spelt_26 (lv_at hl 0 rfl) ?_
    refine lv_lmul hx hb dX10_spelt_28 (lv_topl (fun w_15 e_w_15 => ?_))
    have r_w_15 := tq_lmul (lo := 7695) (hi := 7695) rk_27 r_w_14 (by decide +kernel) e_w_15
    refine lv_iload_n hx hb dX10_spelt_29 rfl (lv_at hl 3 rfl) ?_
    obtain ⟨w_16, e_w_16⟩ : ∃ q9 : Int64, (p2 : Int32).toInt64 = q9 := ⟨_, rfl⟩
    refine lv_i2l (v := w_16) hx hb dX10_spelt_30 e_w_16 ?_
    have r_w_16 := tq_i2l r_p2 e_w_16
    refine lv_ladd hx hb dX10_spelt_31 (lv_topl (fun w_17 e_w_17 => ?_))
    have r_w_17 := tq_ladd (lo := 7800) (hi := 7800) r_w_15 r_w_16 (by decide +kernel) e_w_17
    refine lv_ldc2 (v := 96) hx hb hown (hts _ tw_1313) dX10_spelt_32 ?_
    refine lv_lsub hx hb dX10_spelt_35 (lv_topl (fun w_18 e_w_18 => ?_))
    have r_w_18 := tq_lsub (lo := 7704) (hi := 7704) r_w_17 rk_96 (by decide +kernel) e_w_18
    refine lv_lstore (lv' := [(7, .long w_18), (0, .int p0), (1, .int p1), (2, .int p2), (3, .int p3), (4, .int p4), (5, .int p5), (6, .int p6)]) hx hb dX10_spelt_36 hl (by decide) rfl (fun ls hl => ?_)
    exact B38 w_18 _ _ ls r_p0 r_p1 r_p2 r_p3 r_p4 r_p5 r_p6 r_w_18 hw (lv_sub hl [1, 2, 3, 4, 5, 6, 7, 0] rfl)
abbrev wr_X10_spelt__11 : List (Nat × Nat) := []
abbrev wa_X10_spelt__11 : List Nat := []
set_option maxHeartbeats 4000000 in
set_option maxRecDepth 100000 in
theorem c_X10_spelt__11 (l : Launch) (D : va_G) (cy : Nat → ClassId) (z : Nat → Nat) (sz : Nat) (Ps : PSI) (w0 : va_W) (hT : HT cy GG Ps w0) (p0 : Int32) (p1 : Int32) (p2 : Int32) (p3 : Int32) (p4 : Int32) (p5 : Int32) (p6 : Int32) (r_p0 : RI p0 115 115) (r_p1 : RI p1 116 116) (r_p2 : RI p2 97 97) (r_p3 : RI p3 110 110) (r_p4 : RI p4 100 100) (r_p5 : RI p5 115 115) (r_p6 : RI p6 0 0) : Met l yX10_spelt (Cond.code yX10_spelt cX10_spelt 9 (some .long) :: gT) ({ frames := 0, cells := 0, slots := 0, locals := 200 } : Room) (va_Pc [.int p0, .int p1, .int p2, .int p3, .int p4, .int p5, .int p6] (PRE D cy z w0 sz)) (va_Ql (fun (r : Int64) (u : Unit) => RJ r 283288069 283288069) (BB D cy (va_A w0 sz) (fun (u : Unit) => w0)) (va_A w0 sz)) 0 0 (va_A w0 sz) := by
  refine Met.ofW (cc := cX10_spelt) (maxL := 9) (ret := (some .long)) (by decide) rfl ?_
  intro p e s m args below meth c s₁ B hml hv
  obtain ⟨rfl, hsz, hP, hK, hD0, hSD⟩ := hv
  have hx := B.exec
  have hb := B.bytes
  have hr := B.returns
  have hlocks := B.notSynchronized
  have hts : ∀ w ∈ gT, w.before _ s = true := fun w h => atoms_spec (ws := Cond.code yX10_spelt cX10_spelt 9 (some .long) :: gT) B.pre w (List.mem_cons_of_mem _ h)
  have hown : s.vm.findClass RX10 = some m.cls := findClass_of_methodNamed B.named
  subst hsz
  have hD := hD0.self (sz := s.heap.size)
  generalize hAe : va_A w0 s.heap.size = A at hD hSD ⊢
  have hA : ∀ q : Nat, s.heap.size ≤ q → A q := fun q h => by rw [← hAe]; exact Or.inr h
  have hl := lv_entry ([.int p0, .int p1, .int p2, .int p3, .int p4, .int p5, .int p6]) (n := 9) (Nat.le_of_ble_eq_true rfl)
  rw [lg_entry_eq]
  generalize (lg_sl ([.int p0, .int p1, .int p2, .int p3, .int p4, .int p5, .int p6]) ++ List.replicate (9 - (lg_sl ([.int p0, .int p1, .int p2, .int p3, .int p4, .int p5, .int p6])).length) Slot.unset).toArray = ls at hl ⊢
  have hl : lv_has ls 9 [(0, .int p0), (1, .int p1), (2, .int p2), (3, .int p3), (4, .int p4), (5, .int p5), (6, .int p6)] := hl
  refine nameQ (fun Q hQ => ?_)
  have hw : WD D cy GG A s wr_X10_spelt__11 wa_X10_spelt__11 Ps w0 Ps w0 s.heap [] := ⟨hT, hP, hD, va_S.rf, FR.rf, hT.1, [], (List.append_nil _).symm⟩
  have B99 : ∀ (x7 : Int64) (H : Heap) (locs : List Loc) (ls : Array Slot), RI p0 115 115 → RI p1 116 116 → RI p2 97 97 → RI p3 110 110 → RI p4 100 100 → RI p5 115 115 → RI p6 0 0 → RJ x7 283288069 283288069 → WD D cy GG A s wr_X10_spelt__11 wa_X10_spelt__11 Ps w0 Ps w0 H locs → lv_has ls 9 [(0, .int p0), (1, .int p1), (2, .int p2), (3, .int p3), (4, .int p4), (5, .int p5), (6, .int p6), (7, .long x7)] → W p l e (headSpec (Cond.code yX10_spelt cX10_spelt 9 (some .long) :: gT) ({ frames := 0, cells := 0, slots := 0, locals := 200 } : Room)).room s m ([.int p0, .int p1, .int p2, .int p3, .int p4, .int p5, .int p6] : List Value).toArray below meth c H locs 0 0 Q (F0 m 99 ls []) := by
    intro x7 H locs ls r_p0 r_p1 r_p2 r_p3 r_p4 r_p5 r_p6 r_x7 hw hl
    refine lv_iload hx hb dX10_spelt_99 (lv_at hl 6 rfl) ?_
    refine lv_if_le (tgt := 120) hx hb dX10_spelt_101 (by decide) (fun c_101 => ?_) (fun c_101 => ?_)
    · refine lv_lload hx hb dX10_spelt_120 (lv_at hl 7 rfl) ?_
      subst hQ
      exact W.lret (v := x7) hx hb hr (fun t ht hW => ⟨⟨x7, (), rfl, r_x7.to (by decide), by rw [ht]; exact hw.2.1, va_K.moved hW.alike hK, hw.2.2.1⟩, hw.2.2.2.1.F ht⟩) hw.2.2.2.1.2.2 dX10_spelt_122
    · have r_p6 : RI p6 1 0 := rc_lt2 rl_0 r_p6 (ti_nle c_101) (by decide)
      exact (r_p6.no (by decide)).elim
  have B78 : ∀ (x7 : Int64) (H : Heap) (locs : List Loc) (ls : Array Slot), RI p0 115 115 → RI p1 116 116 → RI p2 97 97 → RI p3 110 110 → RI p4 100 100 → RI p5 115 115 → RI p6 0 0 → RJ x7 10492150 10492150 → WD D cy GG A s wr_X10_spelt__11 wa_X10_spelt__11 Ps w0 Ps w0 H locs → lv_has ls 9 [(0, .int p0), (1, .int p1), (2, .int p2), (3, .int p3), (4, .int p4), (5, .int p5), (6, .int p6), (7, .long x7)] → W p l e (headSpec (Cond.code yX10_spelt cX10_spelt 9 (some .long) :: gT) ({ frames := 0, cells := 0, slots := 0, locals := 200 } : Room)).room s m ([.int p0, .int p1, .int p2, .int p3, .int p4, .int p5, .int p6] : List Value).toArray below meth c H locs 0 0 Q (F0 m 78 ls []) := by
    intro x7 H locs ls r_p0 r_p1 r_p2 r_p3 r_p4 r_p5 r_p6 r_x7 hw hl
    refine lv_iload hx hb dX10_spelt_78 (lv_at hl 5 rfl) ?_
    refine lv_if_le (tgt := 99) hx hb dX10_spelt_80 (by decide) (fun c_80 => ?_) (fun c_80 => ?_)
    · have r_p5 : RI p5 115 0 := rc_le1 r_p5 rl_0 (ti_le c_80) (by decide)
      exact (r_p5.no (by decide)).elim
    · refine lv_ldc2 (v := 27) hx hb hown (hts _ tw_1312) dX10_spelt_83 ?_
      refine lv_lload hx hb dX10_spelt_86 (lv_at hl 7 rfl) ?_
      refine lv_lmul hx hb dX10_spelt_88 (lv_topl (fun w_1 e_w_1 => ?_))
      have r_w_1 := tq_lmul (lo := 283288050) (hi := 283288050) rk_27 r_x7 (by decide +kernel) e_w_1
      refine lv_iload hx hb dX10_spelt_89 (lv_at hl 5 rfl) ?_
      obtain ⟨w_2, e_w_2⟩ : ∃ q9 : Int64, (p5 : Int32).toInt64 = q9 := ⟨_, rfl⟩
      refine lv_i2l (v := w_2) hx hb dX10_spelt_91 e_w_2 ?_
      have r_w_2 := tq_i2l r_p5 e_w_2
      refine lv_ladd hx hb dX10_spelt_92 (lv_topl (fun w_3 e_w_3 => ?_))
      have r_w_3 := tq_ladd (lo := 283288165) (hi := 283288165) r_w_1 r_w_2 (by decide +kernel) e_w_3
      refine lv_ldc2 (v := 96) hx hb hown (hts _ tw_1313) dX10_spelt_93 ?_
      refine lv_lsub hx hb dX10_spelt_96 (lv_topl (fun w_4 e_w_4 => ?_))
      have r_w_4 := tq_lsub (lo := 283288069) (hi := 283288069) r_w_3 rk_96 (by decide +kernel) e_w_4
      refine lv_lstore (lv' := [(7, .long w_4), (0, .int p0), (1, .int p1), (2, .int p2), (3, .int p3), (4, .int p4), (5, .int p5), (6, .int p6)]) hx hb dX10_spelt_97 hl (by decide) rfl (fun ls hl => ?_)
      exact B99 w_4 _ _ ls r_p0 r_p1 r_p2 r_p3 r_p4 r_p5 r_p6 r_w_4 hw (lv_sub hl [1, 2, 3, 4, 5, 6, 7, 0] rfl)
  have B57 : ∀ (x7 : Int64) (H : Heap) (locs : List Loc) (ls : Array Slot), RI p0 115 115 → RI p1 116 116 → RI p2 97 97 → RI p3 110 110 → RI p4 100 100 → RI p5 115 115 → RI p6 0 0 → RJ x7 388598 388598 → WD D cy GG A s wr_X10_spelt__11 wa_X10_spelt__11 Ps w0 Ps w0 H locs → lv_has ls 9 [(0, .int p0), (1, .int p1), (2, .int p2), (3, .int p3), (4, .int p4), (5, .int p5), (6, .int p6), (7, .long x7)] → W p l e (headSpec (Cond.code yX10_spelt cX10_spelt 9 (some .long) :: gT) ({ frames := 0, cells := 0, slots := 0, locals := 200 } : Room)).room s m ([.int p0, .int p1, .int p2, .int p3, .int p4, .int p5, .int p6] : List Value).toArray below meth c H locs 0 0 Q (F0 m 57 ls []) := by
    intro x7 H locs ls r_p0 r_p1 r_p2 r_p3 r_p4 r_p5 r_p6 r_x7 hw hl
    refine lv_iload hx hb dX10_spelt_57 (lv_at hl 4 rfl) ?_
    refine lv_if_le (tgt := 78) hx hb dX10_spelt_59 (by decide) (fun c_59 => ?_) (fun c_59 => ?_)
    · have r_p4 : RI p4 100 0 := rc_le1 r_p4 rl_0 (ti_le c_59) (by decide)
      exact (r_p4.no (by decide)).elim
    · refine lv_ldc2 (v := 27) hx hb hown (hts _ tw_1312) dX10_spelt_62 ?_
      refine lv_lload hx hb dX10_spelt_65 (lv_at hl 7 rfl) ?_
      refine lv_lmul hx hb dX10_spelt_67 (lv_topl (fun w_5 e_w_5 => ?_))
      have r_w_5 := tq_lmul (lo := 10492146) (hi := 10492146) rk_27 r_x7 (by decide +kernel) e_w_5
      refine lv_iload hx hb dX10_spelt_68 (lv_at hl 4 rfl) ?_
      obtain ⟨w_6, e_w_6⟩ : ∃ q9 : Int64, (p4 : Int32).toInt64 = q9 := ⟨_, rfl⟩
      refine lv_i2l (v := w_6) hx hb dX10_spelt_70 e_w_6 ?_
      have r_w_6 := tq_i2l r_p4 e_w_6
      refine lv_ladd hx hb dX10_spelt_71 (lv_topl (fun w_7 e_w_7 => ?_))
      have r_w_7 := tq_ladd (lo := 10492246) (hi := 10492246) r_w_5 r_w_6 (by decide +kernel) e_w_7
      refine lv_ldc2 (v := 96) hx hb hown (hts _ tw_1313) dX10_spelt_72 ?_
      refine lv_lsub hx hb dX10_spelt_75 (lv_topl (fun w_8 e_w_8 => ?_))
      have r_w_8 := tq_lsub (lo := 10492150) (hi := 10492150) r_w_7 rk_96 (by decide +kernel) e_w_8
      refine lv_lstore (lv' := [(7, .long w_8), (0, .int p0), (1, .int p1), (2, .int p2), (3, .int p3), (4, .int p4), (5, .int p5), (6, .int p6)]) hx hb dX10_spelt_76 hl (by decide) rfl (fun ls hl => ?_)
      exact B78 w_8 _ _ ls r_p0 r_p1 r_p2 r_p3 r_p4 r_p5 r_p6 r_w_8 hw (lv_sub hl [1, 2, 3, 4, 5, 6, 7, 0] rfl)
  have B38 : ∀ (x7 : Int64) (H : Heap) (locs : List Loc) (ls : Array Slot), RI p0 115 115 → RI p1 116 116 → RI p2 97 97 → RI p3 110 110 → RI p4 100 100 → RI p5 115 115 → RI p6 0 0 → RJ x7 14392 14392 → WD D cy GG A s wr_X10_spelt__11 wa_X10_spelt__11 Ps w0 Ps w0 H locs → lv_has ls 9 [(0, .int p0), (1, .int p1), (2, .int p2), (3, .int p3), (4, .int p4), (5, .int p5), (6, .int p6), (7, .long x7)] → W p l e (headSpec (Cond.code yX10_spelt cX10_spelt 9 (some .long) :: gT) ({ frames := 0, cells := 0, slots := 0, locals := 200 } : Room)).room s m ([.int p0, .int p1, .int p2, .int p3, .int p4, .int p5, .int p6] : List Value).toArray below meth c H locs 0 0 Q (F0 m 38 ls []) := by
    intro x7 H locs ls r_p0 r_p1 r_p2 r_p3 r_p4 r_p5 r_p6 r_x7 hw hl
    refine lv_iload_n hx hb dX10_spelt_38 rfl (lv_at hl 3 rfl) ?_
    refine lv_if_le (tgt := 57) hx hb dX10_spelt_39 (by decide) (fun c_39 => ?_) (fun c_39 => ?_)
    · have r_p3 : RI p3 110 0 := rc_le1 r_p3 rl_0 (ti_le c_39) (by decide)
      exact (r_p3.no (by decide)).elim
    · refine lv_ldc2 (v := 27) hx hb hown (hts _ tw_1312) dX10_spelt_42 ?_
      refine lv_lload hx hb dX10_spelt_45 (lv_at hl 7 rfl) ?_
      refine lv_lmul hx hb dX10_spelt_47 (lv_topl (fun w_9 e_w_9 => ?_))
      have r_w_9 := tq_lmul (lo := 388584) (hi := 388584) rk_27 r_x7 (by decide +kernel) e_w_9
      refine lv_iload_n hx hb dX10_spelt_48 rfl (lv_at hl 3 rfl) ?_
      obtain ⟨w_10, e_w_10⟩ : ∃ q9 : Int64, (p3 : Int32).toInt64 = q9 := ⟨_, rfl⟩
      refine lv_i2l (v := w_10) hx hb dX10_spelt_49 e_w_10 ?_
      have r_w_10 := tq_i2l r_p3 e_w_10
      refine lv_ladd hx hb dX10_spelt_50 (lv_topl (fun w_11 e_w_11 => ?_))
      have r_w_11 := tq_ladd (lo := 388694) (hi := 388694) r_w_9 r_w_10 (by decide +kernel) e_w_11
      refine lv_ldc2 (v := 96) hx hb hown (hts _ tw_1313) dX10_spelt_51 ?_
      refine lv_lsub hx hb dX10_spelt_54 (lv_topl (fun w_12 e_w_12 => ?_))
      have r_w_12 := tq_lsub (lo := 388598) (hi := 388598) r_w_11 rk_96 (by decide +kernel) e_w_12
      refine lv_lstore (lv' := [(7, .long w_12), (0, .int p0), (1, .int p1), (2, .int p2), (3, .int p3), (4, .int p4), (5, .int p5), (6, .int p6)]) hx hb dX10_spelt_55 hl (by decide) rfl (fun ls hl => ?_)
      exact B57 w_12 _ _ ls r_p0 r_p1 r_p2 r_p3 r_p4 r_p5 r_p6 r_w_12 hw (lv_sub hl [1, 2, 3, 4, 5, 6, 7, 0] rfl)
  refine lv_ldc2 (v := 27) hx hb hown (hts _ tw_1312) dX10_spelt_0 ?_
  refine lv_iload_n hx hb dX10_spelt_3 rfl (lv_at hl 0 rfl) ?_
  obtain ⟨w_13, e_w_13⟩ : ∃ q9 : Int64, (p0 : Int32).toInt64 = q9 := ⟨_, rfl⟩
  refine lv_i2l (v := w_13) hx hb dX10_spelt_4 e_w_13 ?_
  have r_w_13 := tq_i2l r_p0 e_w_13
  refine lv_ldc2 (v := 96) hx hb hown (hts _ tw_1313) dX10_spelt_5 ?_
  refine lv_lsub hx hb dX10_spelt_8 (lv_topl (fun w_14 e_w_14 => ?_))
  have r_w_14 := tq_lsub (lo := 19) (hi := 19) r_w_13 rk_96 (by decide +kernel) e_w_14
  refine lv_lmul hx hb dX10_spelt_9 (lv_topl (fun w_15 e_w_15 => ?_))
  have r_w_15 := tq_lmul (lo := 513) (hi := 513) rk_27 r_w_14 (by decide +kernel) e_w_15
  refine lv_iload_n hx hb dX10_spelt_10 rfl (lv_at hl 1 rfl) ?_
  obtain ⟨w_16, e_w_16⟩ : ∃ q9 : Int64, (p1 : Int32).toInt64 = q9 := ⟨_, rfl⟩
  refine lv_i2l (v := w_16) hx hb dX10_spelt_11 e_w_16 ?_
  have r_w_16 := tq_i2l r_p1 e_w_16
  refine lv_ladd hx hb dX10_spelt_12 (lv_topl (fun w_17 e_w_17 => ?_))
  have r_w_17 := tq_ladd (lo := 629) (hi := 629) r_w_15 r_w_16 (by decide +kernel) e_w_17
  refine lv_ldc2 (v := 96) hx hb hown (hts _ tw_1313) dX10_spelt_13 ?_
  refine lv_lsub hx hb dX10_spelt_16 (lv_topl (fun w_18 e_w_18 => ?_))
  have r_w_18 := tq_lsub (lo := 533) (hi := 533) r_w_17 rk_96 (by decide +kernel) e_w_18
  refine lv_lstore (lv' := [(7, .long w_18), (0, .int p0), (1, .int p1), (2, .int p2), (3, .int p3), (4, .int p4), (5, .int p5), (6, .int p6)]) hx hb dX10_spelt_17 hl (by decide) rfl (fun ls hl => ?_)
  refine lv_iload_n hx hb dX10_spelt_19 rfl (lv_at hl 3 rfl) ?_
  refine lv_if_le (tgt := 38) hx hb dX10_spelt_20 (by decide) (fun c_20 => ?_) (fun c_20 => ?_)
  · have r_p2 : RI p2 97 0 := rc_le1 r_p2 rl_0 (ti_le c_20) (by decide)
    exact (r_p2.no (by decide)).elim
  · refine lv_ldc2 (v := 27) hx hb hown (hts _ tw_1312) dX10_spelt_23 ?_
    refine lv_lload hx hb dX10_spelt_26 (lv_at hl 0 rfl) ?_
    refine lv_lmul hx hb dX10_spelt_28 (lv_topl (fun w_19 e_w_19 => ?_))
    have r_w_19 := tq_lmul (lo := 14391) (hi := 14391) rk_27 r_w_18 (by decide +kernel) e_w_19
    refine lv_iload_n hx hb dX10_spelt_29 rfl (lv_at hl 3 rfl) ?_
    obtain ⟨w_20, e_w_20⟩ : ∃ q9 : Int64, (p2 : Int32).toInt64 = q9 := ⟨_, rfl⟩
    refine lv_i2l (v := w_20) hx hb dX10_spelt_30 e_w_20 ?_
    have r_w_20 := tq_i2l r_p2 e_w_20
    refine lv_ladd hx hb dX10_spelt_31 (lv_topl (fun w_21 e_w_21 => ?_))
    have r_w_21 := tq_ladd (lo := 14488) (hi := 14488) r_w_19 r_w_20 (by decide +kernel) e_w_21
    refine lv_ldc2 (v := 96) hx hb hown (hts _ tw_1313) dX10_spelt_32 ?_
    refine lv_lsub hx hb dX10_spelt_35 (lv_topl (fun w_22 e_w_22 => ?_))
    have r_w_22 := tq_lsub (lo := 14392) (hi := 14392) r_w_21 rk_96 (by decide +kernel) e_w_22
    refine lv_lstore (lv' := [(7, .long w_22), (0, .int p0), (1, .int p1), (2, .int p2), (3, .int p3), (4, .int p4), (5, .int p5), (6, .int p6)]) hx hb dX10_spelt_36 hl (by decide) rfl (fun ls hl => ?_)
    exact B38 w_22 _ _ ls r_p0 r_p1 r_p2 r_p3 r_p4 r_p5 r_p6 r_w_22 hw (lv_sub hl [1, 2, 3, 4, 5, 6, 7, 0] rfl)
abbrev wr_X10_spelt__12 : List (Nat × Nat) := []
abbrev wa_X10_spelt__12 : List Nat := []
set_option maxHeartbeats 4000000 in
set_option maxRecDepth 100000 in
theorem c_X10_spelt__12 (l : Launch) (D : va_G) (cy : Nat → ClassId) (z : Nat → Nat) (sz : Nat) (Ps : PSI) (w0 : va_W) (hT : HT cy GG Ps w0) (p0 : Int32) (p1 : Int32) (p2 : Int32) (p3 : Int32) (p4 : Int32) (p5 : Int32) (p6 : Int32) (r_p0 : RI p0 119 119) (r_p1 : RI p1 105 105) (r_p2 : RI p2 115 115) (r_p3 : RI p3 104 104) (r_p4 : RI p4 101 101) (r_p5 : RI p5 115 115) (r_p6 : RI p6 0 0) : Met l yX10_spelt (Cond.code yX10_spelt cX10_spelt 9 (some .long) :: gT) ({ frames := 0, cells := 0, slots := 0, locals := 200 } : Room) (va_Pc [.int p0, .int p1, .int p2, .int p3, .int p4, .int p5, .int p6] (PRE D cy z w0 sz)) (va_Ql (fun (r : Int64) (u : Unit) => RJ r 335187793 335187793) (BB D cy (va_A w0 sz) (fun (u : Unit) => w0)) (va_A w0 sz)) 0 0 (va_A w0 sz) := by
  refine Met.ofW (cc := cX10_spelt) (maxL := 9) (ret := (some .long)) (by decide) rfl ?_
  intro p e s m args below meth c s₁ B hml hv
  obtain ⟨rfl, hsz, hP, hK, hD0, hSD⟩ := hv
  have hx := B.exec
  have hb := B.bytes
  have hr := B.returns
  have hlocks := B.notSynchronized
  have hts : ∀ w ∈ gT, w.before _ s = true := fun w h => atoms_spec (ws := Cond.code yX10_spelt cX10_spelt 9 (some .long) :: gT) B.pre w (List.mem_cons_of_mem _ h)
  have hown : s.vm.findClass RX10 = some m.cls := findClass_of_methodNamed B.named
  subst hsz
  have hD := hD0.self (sz := s.heap.size)
  generalize hAe : va_A w0 s.heap.size = A at hD hSD ⊢
  have hA : ∀ q : Nat, s.heap.size ≤ q → A q := fun q h => by rw [← hAe]; exact Or.inr h
  have hl := lv_entry ([.int p0, .int p1, .int p2, .int p3, .int p4, .int p5, .int p6]) (n := 9) (Nat.le_of_ble_eq_true rfl)
  rw [lg_entry_eq]
  generalize (lg_sl ([.int p0, .int p1, .int p2, .int p3, .int p4, .int p5, .int p6]) ++ List.replicate (9 - (lg_sl ([.int p0, .int p1, .int p2, .int p3, .int p4, .int p5, .int p6])).length) Slot.unset).toArray = ls at hl ⊢
  have hl : lv_has ls 9 [(0, .int p0), (1, .int p1), (2, .int p2), (3, .int p3), (4, .int p4), (5, .int p5), (6, .int p6)] := hl
  refine nameQ (fun Q hQ => ?_)
  have hw : WD D cy GG A s wr_X10_spelt__12 wa_X10_spelt__12 Ps w0 Ps w0 s.heap [] := ⟨hT, hP, hD, va_S.rf, FR.rf, hT.1, [], (List.append_nil _).symm⟩
  have B99 : ∀ (x7 : Int64) (H : Heap) (locs : List Loc) (ls : Array Slot), RI p0 119 119 → RI p1 105 105 → RI p2 115 115 → RI p3 104 104 → RI p4 101 101 → RI p5 115 115 → RI p6 0 0 → RJ x7 335187793 335187793 → WD D cy GG A s wr_X10_spelt__12 wa_X10_spelt__12 Ps w0 Ps w0 H locs → lv_has ls 9 [(0, .int p0), (1, .int p1), (2, .int p2), (3, .int p3), (4, .int p4), (5, .int p5), (6, .int p6), (7, .long x7)] → W p l e (headSpec (Cond.code yX10_spelt cX10_spelt 9 (some .long) :: gT) ({ frames := 0, cells := 0, slots := 0, locals := 200 } : Room)).room s m ([.int p0, .int p1, .int p2, .int p3, .int p4, .int p5, .int p6] : List Value).toArray below meth c H locs 0 0 Q (F0 m 99 ls []) := by
    intro x7 H locs ls r_p0 r_p1 r_p2 r_p3 r_p4 r_p5 r_p6 r_x7 hw hl
    refine lv_iload hx hb dX10_spelt_99 (lv_at hl 6 rfl) ?_
    refine lv_if_le (tgt := 120) hx hb dX10_spelt_101 (by decide) (fun c_101 => ?_) (fun c_101 => ?_)
    · refine lv_lload hx hb dX10_spelt_120 (lv_at hl 7 rfl) ?_
      subst hQ
      exact W.lret (v := x7) hx hb hr (fun t ht hW => ⟨⟨x7, (), rfl, r_x7.to (by decide), by rw [ht]; exact hw.2.1, va_K.moved hW.alike hK, hw.2.2.1⟩, hw.2.2.2.1.F ht⟩) hw.2.2.2.1.2.2 dX10_spelt_122
    · have r_p6 : RI p6 1 0 := rc_lt2 rl_0 r_p6 (ti_nle c_101) (by decide)
      exact (r_p6.no (by decide)).elim
  have B78 : ∀ (x7 : Int64) (H : Heap) (locs : List Loc) (ls : Array Slot), RI p0 119 119 → RI p1 105 105 → RI p2 115 115 → RI p3 104 104 → RI p4 101 101 → RI p5 115 115 → RI p6 0 0 → RJ x7 12414362 12414362 → WD D cy GG A s wr_X10_spelt__12 wa_X10_spelt__12 Ps w0 Ps w0 H locs → lv_has ls 9 [(0, .int p0), (1, .int p1), (2, .int p2), (3, .int p3), (4, .int p4), (5, .int p5), (6, .int p6), (7, .long x7)] → W p l e (headSpec (Cond.code yX10_spelt cX10_spelt 9 (some .long) :: gT) ({ frames := 0, cells := 0, slots := 0, locals := 200 } : Room)).room s m ([.int p0, .int p1, .int p2, .int p3, .int p4, .int p5, .int p6] : List Value).toArray below meth c H locs 0 0 Q (F0 m 78 ls []) := by
    intro x7 H locs ls r_p0 r_p1 r_p2 r_p3 r_p4 r_p5 r_p6 r_x7 hw hl
    refine lv_iload hx hb dX10_spelt_78 (lv_at hl 5 rfl) ?_
    refine lv_if_le (tgt := 99) hx hb dX10_spelt_80 (by decide) (fun c_80 => ?_) (fun c_80 => ?_)
    · have r_p5 : RI p5 115 0 := rc_le1 r_p5 rl_0 (ti_le c_80) (by decide)
      exact (r_p5.no (by decide)).elim
    · refine lv_ldc2 (v := 27) hx hb hown (hts _ tw_1312) dX10_spelt_83 ?_
      refine lv_lload hx hb dX10_spelt_86 (lv_at hl 7 rfl) ?_
      refine lv_lmul hx hb dX10_spelt_88 (lv_topl (fun w_1 e_w_1 => ?_))
      have r_w_1 := tq_lmul (lo := 335187774) (hi := 335187774) rk_27 r_x7 (by decide +kernel) e_w_1
      refine lv_iload hx hb dX10_spelt_89 (lv_at hl 5 rfl) ?_
      obtain ⟨w_2, e_w_2⟩ : ∃ q9 : Int64, (p5 : Int32).toInt64 = q9 := ⟨_, rfl⟩
      refine lv_i2l (v := w_2) hx hb dX10_spelt_91 e_w_2 ?_
      have r_w_2 := tq_i2l r_p5 e_w_2
      refine lv_ladd hx hb dX10_spelt_92 (lv_topl (fun w_3 e_w_3 => ?_))
      have r_w_3 := tq_ladd (lo := 335187889) (hi := 335187889) r_w_1 r_w_2 (by decide +kernel) e_w_3
      refine lv_ldc2 (v := 96) hx hb hown (hts _ tw_1313) dX10_spelt_93 ?_
      refine lv_lsub hx hb dX10_spelt_96 (lv_topl (fun w_4 e_w_4 => ?_))
      have r_w_4 := tq_lsub (lo := 335187793) (hi := 335187793) r_w_3 rk_96 (by decide +kernel) e_w_4
      refine lv_lstore (lv' := [(7, .long w_4), (0, .int p0), (1, .int p1), (2, .int p2), (3, .int p3), (4, .int p4), (5, .int p5), (6, .int p6)]) hx hb dX10_spelt_97 hl (by decide) rfl (fun ls hl => ?_)
      exact B99 w_4 _ _ ls r_p0 r_p1 r_p2 r_p3 r_p4 r_p5 r_p6 r_w_4 hw (lv_sub hl [1, 2, 3, 4, 5, 6, 7, 0] rfl)
  have B57 : ∀ (x7 : Int64) (H : Heap) (locs : List Loc) (ls : Array Slot), RI p0 119 119 → RI p1 105 105 → RI p2 115 115 → RI p3 104 104 → RI p4 101 101 → RI p5 115 115 → RI p6 0 0 → RJ x7 459791 459791 → WD D cy GG A s wr_X10_spelt__12 wa_X10_spelt__12 Ps w0 Ps w0 H locs → lv_has ls 9 [(0, .int p0), (1, .int p1), (2, .int p2), (3, .int p3), (4, .int p4), (5, .int p5), (6, .int p6), (7, .long x7)] → W p l e (headSpec (Cond.code yX10_spelt cX10_spelt 9 (some .long) :: gT) ({ frames := 0, cells := 0, slots := 0, locals := 200 } : Room)).room s m ([.int p0, .int p1, .int p2, .int p3, .int p4, .int p5, .int p6] : List Value).toArray below meth c H locs 0 0 Q (F0 m 57 ls []) := by
    intro x7 H locs ls r_p0 r_p1 r_p2 r_p3 r_p4 r_p5 r_p6 r_x7 hw hl
    refine lv_iload hx hb dX10_spelt_57 (lv_at hl 4 rfl) ?_
    refine lv_if_le (tgt := 78) hx hb dX10_spelt_59 (by decide) (fun c_59 => ?_) (fun c_59 => ?_)
    · have r_p4 : RI p4 101 0 := rc_le1 r_p4 rl_0 (ti_le c_59) (by decide)
      exact (r_p4.no (by decide)).elim
    · refine lv_ldc2 (v := 27) hx hb hown (hts _ tw_1312) dX10_spelt_62 ?_
      refine lv_lload hx hb dX10_spelt_65 (lv_at hl 7 rfl) ?_
      refine lv_lmul hx hb dX10_spelt_67 (lv_topl (fun w_5 e_w_5 => ?_))
      have r_w_5 := tq_lmul (lo := 12414357) (hi := 12414357) rk_27 r_x7 (by decide +kernel) e_w_5
      refine lv_iload hx hb dX10_spelt_68 (lv_at hl 4 rfl) ?_
      obtain ⟨w_6, e_w_6⟩ : ∃ q9 : Int64, (p4 : Int32).toInt64 = q9 := ⟨_, rfl⟩
      refine lv_i2l (v := w_6) hx hb dX10_spelt_70 e_w_6 ?_
      have r_w_6 := tq_i2l r_p4 e_w_6
      refine lv_ladd hx hb dX10_spelt_71 (lv_topl (fun w_7 e_w_7 => ?_))
      have r_w_7 := tq_ladd (lo := 12414458) (hi := 12414458) r_w_5 r_w_6 (by decide +kernel) e_w_7
      refine lv_ldc2 (v := 96) hx hb hown (hts _ tw_1313) dX10_spelt_72 ?_
      refine lv_lsub hx hb dX10_spelt_75 (lv_topl (fun w_8 e_w_8 => ?_))
      have r_w_8 := tq_lsub (lo := 12414362) (hi := 12414362) r_w_7 rk_96 (by decide +kernel) e_w_8
      refine lv_lstore (lv' := [(7, .long w_8), (0, .int p0), (1, .int p1), (2, .int p2), (3, .int p3), (4, .int p4), (5, .int p5), (6, .int p6)]) hx hb dX10_spelt_76 hl (by decide) rfl (fun ls hl => ?_)
      exact B78 w_8 _ _ ls r_p0 r_p1 r_p2 r_p3 r_p4 r_p5 r_p6 r_w_8 hw (lv_sub hl [1, 2, 3, 4, 5, 6, 7, 0] rfl)
  have B38 : ∀ (x7 : Int64) (H : Heap) (locs : List Loc) (ls : Array Slot), RI p0 119 119 → RI p1 105 105 → RI p2 115 115 → RI p3 104 104 → RI p4 101 101 → RI p5 115 115 → RI p6 0 0 → RJ x7 17029 17029 → WD D cy GG A s wr_X10_spelt__12 wa_X10_spelt__12 Ps w0 Ps w0 H locs → lv_has ls 9 [(0, .int p0), (1, .int p1), (2, .int p2), (3, .int p3), (4, .int p4), (5, .int p5), (6, .int p6), (7, .long x7)] → W p l e (headSpec (Cond.code yX10_spelt cX10_spelt 9 (some .long) :: gT) ({ frames := 0, cells := 0, slots := 0, locals := 200 } : Room)).room s m ([.int p0, .int p1, .int p2, .int p3, .int p4, .int p5, .int p6] : List Value).toArray below meth c H locs 0 0 Q (F0 m 38 ls []) := by
    intro x7 H locs ls r_p0 r_p1 r_p2 r_p3 r_p4 r_p5 r_p6 r_x7 hw hl
    refine lv_iload_n hx hb dX10_spelt_38 rfl (lv_at hl 3 rfl) ?_
    refine lv_if_le (tgt := 57) hx hb dX10_spelt_39 (by decide) (fun c_39 => ?_) (fun c_39 => ?_)
    · have r_p3 : RI p3 104 0 := rc_le1 r_p3 rl_0 (ti_le c_39) (by decide)
      exact (r_p3.no (by decide)).elim
    · refine lv_ldc2 (v := 27) hx hb hown (hts _ tw_1312) dX10_spelt_42 ?_
      refine lv_lload hx hb dX10_spelt_45 (lv_at hl 7 rfl) ?_
      refine lv_lmul hx hb dX10_spelt_47 (lv_topl (fun w_9 e_w_9 => ?_))
      have r_w_9 := tq_lmul (lo := 459783) (hi := 459783) rk_27 r_x7 (by decide +kernel) e_w_9
      refine lv_iload_n hx hb dX10_spelt_48 rfl (lv_at hl 3 rfl) ?_
      obtain ⟨w_10, e_w_10⟩ : ∃ q9 : Int64, (p3 : Int32).toInt64 = q9 := ⟨_, rfl⟩
      refine lv_i2l (v := w_10) hx hb dX10_spelt_49 e_w_10 ?_
      have r_w_10 := tq_i2l r_p3 e_w_10
      refine lv_ladd hx hb dX10_spelt_50 (lv_topl (fun w_11 e_w_11 => ?_))
      have r_w_11 := tq_ladd (lo := 459887) (hi := 459887) r_w_9 r_w_10 (by decide +kernel) e_w_11
      refine lv_ldc2 (v := 96) hx hb hown (hts _ tw_1313) dX10_spelt_51 ?_
      refine lv_lsub hx hb dX10_spelt_54 (lv_topl (fun w_12 e_w_12 => ?_))
      have r_w_12 := tq_lsub (lo := 459791) (hi := 459791) r_w_11 rk_96 (by decide +kernel) e_w_12
      refine lv_lstore (lv' := [(7, .long w_12), (0, .int p0), (1, .int p1), (2, .int p2), (3, .int p3), (4, .int p4), (5, .int p5), (6, .int p6)]) hx hb dX10_spelt_55 hl (by decide) rfl (fun ls hl => ?_)
      exact B57 w_12 _ _ ls r_p0 r_p1 r_p2 r_p3 r_p4 r_p5 r_p6 r_w_12 hw (lv_sub hl [1, 2, 3, 4, 5, 6, 7, 0] rfl)
  refine lv_ldc2 (v := 27) hx hb hown (hts _ tw_1312) dX10_spelt_0 ?_
  refine lv_iload_n hx hb dX10_spelt_3 rfl (lv_at hl 0 rfl) ?_
  obtain ⟨w_13, e_w_13⟩ : ∃ q9 : Int64, (p0 : Int32).toInt64 = q9 := ⟨_, rfl⟩
  refine lv_i2l (v := w_13) hx hb dX10_spelt_4 e_w_13 ?_
  have r_w_13 := tq_i2l r_p0 e_w_13
  refine lv_ldc2 (v := 96) hx hb hown (hts _ tw_1313) dX10_spelt_5 ?_
  refine lv_lsub hx hb dX10_spelt_8 (lv_topl (fun w_14 e_w_14 => ?_))
  have r_w_14 := tq_lsub (lo := 23) (hi := 23) r_w_13 rk_96 (by decide +kernel) e_w_14
  refine lv_lmul hx hb dX10_spelt_9 (lv_topl (fun w_15 e_w_15 => ?_))
  have r_w_15 := tq_lmul (lo := 621) (hi := 621) rk_27 r_w_14 (by decide +kernel) e_w_15
  refine lv_iload_n hx hb dX10_spelt_10 rfl (lv_at hl 1 rfl) ?_
  obtain ⟨w_16, e_w_16⟩ : ∃ q9 : Int64, (p1 : Int32).toInt64 = q9 := ⟨_, rfl⟩
  refine lv_i2l (v := w_16) hx hb dX10_spelt_11 e_w_16 ?_
  have r_w_16 := tq_i2l r_p1 e_w_16
  refine lv_ladd hx hb dX10_spelt_12 (lv_topl (fun w_17 e_w_17 => ?_))
  have r_w_17 := tq_ladd (lo := 726) (hi := 726) r_w_15 r_w_16 (by decide +kernel) e_w_17
  refine lv_ldc2 (v := 96) hx hb hown (hts _ tw_1313) dX10_spelt_13 ?_
  refine lv_lsub hx hb dX10_spelt_16 (lv_topl (fun w_18 e_w_18 => ?_))
  have r_w_18 := tq_lsub (lo := 630) (hi := 630) r_w_17 rk_96 (by decide +kernel) e_w_18
  refine lv_lstore (lv' := [(7, .long w_18), (0, .int p0), (1, .int p1), (2, .int p2), (3, .int p3), (4, .int p4), (5, .int p5), (6, .int p6)]) hx hb dX10_spelt_17 hl (by decide) rfl (fun ls hl => ?_)
  refine lv_iload_n hx hb dX10_spelt_19 rfl (lv_at hl 3 rfl) ?_
  refine lv_if_le (tgt := 38) hx hb dX10_spelt_20 (by decide) (fun c_20 => ?_) (fun c_20 => ?_)
  · have r_p2 : RI p2 115 0 := rc_le1 r_p2 rl_0 (ti_le c_20) (by decide)
    exact (r_p2.no (by decide)).elim
  · refine lv_ldc2 (v := 27) hx hb hown (hts _ tw_1312) dX10_spelt_23 ?_
    refine lv_lload hx hb dX10_spelt_26 (lv_at hl 0 rfl) ?_
    refine lv_lmul hx hb dX10_spelt_28 (lv_topl (fun w_19 e_w_19 => ?_))
    have r_w_19 := tq_lmul (lo := 17010) (hi := 17010) rk_27 r_w_18 (by decide +kernel) e_w_19
    refine lv_iload_n hx hb dX10_spelt_29 rfl (lv_at hl 3 rfl) ?_
    obtain ⟨w_20, e_w_20⟩ : ∃ q9 : Int64, (p2 : Int32).toInt64 = q9 := ⟨_, rfl⟩
    refine lv_i2l (v := w_20) hx hb dX10_spelt_30 e_w_20 ?_
    have r_w_20 := tq_i2l r_p2 e_w_20
    refine lv_ladd hx hb dX10_spelt_31 (lv_topl (fun w_21 e_w_21 => ?_))
    have r_w_21 := tq_ladd (lo := 17125) (hi := 17125) r_w_19 r_w_20 (by decide +kernel) e_w_21
    refine lv_ldc2 (v := 96) hx hb hown (hts _ tw_1313) dX10_spelt_32 ?_
    refine lv_lsub hx hb dX10_spelt_35 (lv_topl (fun w_22 e_w_22 => ?_))
    have r_w_22 := tq_lsub (lo := 17029) (hi := 17029) r_w_21 rk_96 (by decide +kernel) e_w_22
    refine lv_lstore (lv' := [(7, .long w_22), (0, .int p0), (1, .int p1), (2, .int p2), (3, .int p3), (4, .int p4), (5, .int p5), (6, .int p6)]) hx hb dX10_spelt_36 hl (by decide) rfl (fun ls hl => ?_)
    exact B38 w_22 _ _ ls r_p0 r_p1 r_p2 r_p3 r_p4 r_p5 r_p6 r_w_22 hw (lv_sub hl [1, 2, 3, 4, 5, 6, 7, 0] rfl)
abbrev wr_X10_spelt__13 : List (Nat × Nat) := []
abbrev wa_X10_spelt__13 : List Nat := []
set_option maxHeartbeats 4000000 in
set_option maxRecDepth 100000 in
theorem c_X10_spelt__13 (l : Launch) (D : va_G) (cy : Nat → ClassId) (z : Nat → Nat) (sz : Nat) (Ps : PSI) (w0 : va_W) (hT : HT cy GG Ps w0) (p0 : Int32) (p1 : Int32) (p2 : Int32) (p3 : Int32) (p4 : Int32) (p5 : Int32) (p6 : Int32) (r_p0 : RI p0 103 103) (r_p1 : RI p1 117 117) (r_p2 : RI p2 101 101) (r_p3 : RI p3 115 115) (r_p4 : RI p4 115 115) (r_p5 : RI p5 101 101) (r_p6 : RI p6 115 115) : Met l yX10_spelt (Cond.code yX10_spelt cX10_spelt 9 (some .long) :: gT) ({ frames := 0, cells := 0, slots := 0, locals := 200 } : Room) (va_Pc [.int p0, .int p1, .int p2, .int p3, .int p4, .int p5, .int p6] (PRE D cy z w0 sz)) (va_Ql (fun (r : Int64) (u : Unit) => RJ r 3016315657 3016315657) (BB D cy (va_A w0 sz) (fun (u : Unit) => w0)) (va_A w0 sz)) 0 0 (va_A w0 sz) := by
  refine Met.ofW (cc := cX10_spelt) (maxL := 9) (ret := (some .long)) (by decide) rfl ?_
  intro p e s m args below meth c s₁ B hml hv
  obtain ⟨rfl, hsz, hP, hK, hD0, hSD⟩ := hv
  have hx := B.exec
  have hb := B.bytes
  have hr := B.returns
  have hlocks := B.notSynchronized
  have hts : ∀ w ∈ gT, w.before _ s = true := fun w h => atoms_spec (ws := Cond.code yX10_spelt cX10_spelt 9 (some .long) :: gT) B.pre w (List.mem_cons_of_mem _ h)
  have hown : s.vm.findClass RX10 = some m.cls := findClass_of_methodNamed B.named
  subst hsz
  have hD := hD0.self (sz := s.heap.size)
  generalize hAe : va_A w0 s.heap.size = A at hD hSD ⊢
  have hA : ∀ q : Nat, s.heap.size ≤ q → A q := fun q h => by rw [← hAe]; exact Or.inr h
  have hl := lv_entry ([.int p0, .int p1, .int p2, .int p3, .int p4, .int p5, .int p6]) (n := 9) (Nat.le_of_ble_eq_true rfl)
  rw [lg_entry_eq]
  generalize (lg_sl ([.int p0, .int p1, .int p2, .int p3, .int p4, .int p5, .int p6]) ++ List.replicate (9 - (lg_sl ([.int p0, .int p1, .int p2, .int p3, .int p4, .int p5, .int p6])).length) Slot.unset).toArray = ls at hl ⊢
  have hl : lv_has ls 9 [(0, .int p0), (1, .int p1), (2, .int p2), (3, .int p3), (4, .int p4), (5, .int p5), (6, .int p6)] := hl
  refine nameQ (fun Q hQ => ?_)
  have hw : WD D cy GG A s wr_X10_spelt__13 wa_X10_spelt__13 Ps w0 Ps w0 s.heap [] := ⟨hT, hP, hD, va_S.rf, FR.rf, hT.1, [], (List.append_nil _).symm⟩
  have B99 : ∀ (x7 : Int64) (H : Heap) (locs : List Loc) (ls : Array Slot), RI p0 103 103 → RI p1 117 117 → RI p2 101 101 → RI p3 115 115 → RI p4 115 115 → RI p5 101 101 → RI p6 115 115 → RJ x7 111715394 111715394 → WD D cy GG A s wr_X10_spelt__13 wa_X10_spelt__13 Ps w0 Ps w0 H locs → lv_has ls 9 [(0, .int p0), (1, .int p1), (2, .int p2), (3, .int p3), (4, .int p4), (5, .int p5), (6, .int p6), (7, .long x7)] → W p l e (headSpec (Cond.code yX10_spelt cX10_spelt 9 (some .long) :: gT) ({ frames := 0, cells := 0, slots := 0, locals := 200 } : Room)).room s m ([.int p0, .int p1, .int p2, .int p3, .int p4, .int p5, .int p6] : List Value).toArray below meth c H locs 0 0 Q (F0 m 99 ls []) := by
    intro x7 H locs ls r_p0 r_p1 r_p2 r_p3 r_p4 r_p5 r_p6 r_x7 hw hl
    refine lv_iload hx hb dX10_spelt_99 (lv_at hl 6 rfl) ?_
    refine lv_if_le (tgt := 120) hx hb dX10_spelt_101 (by decide) (fun c_101 => ?_) (fun c_101 => ?_)
    · have r_p6 : RI p6 115 0 := rc_le1 r_p6 rl_0 (ti_le c_101) (by decide)
      exact (r_p6.no (by decide)).elim
    · refine lv_ldc2 (v := 27) hx hb hown (hts _ tw_1312) dX10_spelt_104 ?_
      refine lv_lload hx hb dX10_spelt_107 (lv_at hl 7 rfl) ?_
      refine lv_lmul hx hb dX10_spelt_109 (lv_topl (fun w_1 e_w_1 => ?_))
      have r_w_1 := tq_lmul (lo := 3016315638) (hi := 3016315638) rk_27 r_x7 (by decide +kernel) e_w_1
      refine lv_iload hx hb dX10_spelt_110 (lv_at hl 6 rfl) ?_
      obtain ⟨w_2, e_w_2⟩ : ∃ q9 : Int64, (p6 : Int32).toInt64 = q9 := ⟨_, rfl⟩
      refine lv_i2l (v := w_2) hx hb dX10_spelt_112 e_w_2 ?_
      have r_w_2 := tq_i2l r_p6 e_w_2
      refine lv_ladd hx hb dX10_spelt_113 (lv_topl (fun w_3 e_w_3 => ?_))
      have r_w_3 := tq_ladd (lo := 3016315753) (hi := 3016315753) r_w_1 r_w_2 (by decide +kernel) e_w_3
      refine lv_ldc2 (v := 96) hx hb hown (hts _ tw_1313) dX10_spelt_114 ?_
      refine lv_lsub hx hb dX10_spelt_117 (lv_topl (fun w_4 e_w_4 => ?_))
      have r_w_4 := tq_lsub (lo := 3016315657) (hi := 3016315657) r_w_3 rk_96 (by decide +kernel) e_w_4
      refine lv_lstore (lv' := [(7, .long w_4), (0, .int p0), (1, .int p1), (2, .int p2), (3, .int p3), (4, .int p4), (5, .int p5), (6, .int p6)]) hx hb dX10_spelt_118 hl (by decide) rfl (fun ls hl => ?_)
      refine lv_lload hx hb dX10_spelt_120 (lv_at hl 0 rfl) ?_
      subst hQ
      exact W.lret (v := w_4) hx hb hr (fun t ht hW => ⟨⟨w_4, (), rfl, r_w_4.to (by decide), by rw [ht]; exact hw.2.1, va_K.moved hW.alike hK, hw.2.2.1⟩, hw.2.2.2.1.F ht⟩) hw.2.2.2.1.2.2 dX10_spelt_122
  have B78 : ∀ (x7 : Int64) (H : Heap) (locs : List Loc) (ls : Array Slot), RI p0 103 103 → RI p1 117 117 → RI p2 101 101 → RI p3 115 115 → RI p4 115 115 → RI p5 101 101 → RI p6 115 115 → RJ x7 4137607 4137607 → WD D cy GG A s wr_X10_spelt__13 wa_X10_spelt__13 Ps w0 Ps w0 H locs → lv_has ls 9 [(0, .int p0), (1, .int p1), (2, .int p2), (3, .int p3), (4, .int p4), (5, .int p5), (6, .int p6), (7, .long x7)] → W p l e (headSpec (Cond.code yX10_spelt cX10_spelt 9 (some .long) :: gT) ({ frames := 0, cells := 0, slots := 0, locals := 200 } : Room)).room s m ([.int p0, .int p1, .int p2, .int p3, .int p4, .int p5, .int p6] : List Value).toArray below meth c H locs 0 0 Q (F0 m 78 ls []) := by
    intro x7 H locs ls r_p0 r_p1 r_p2 r_p3 r_p4 r_p5 r_p6 r_x7 hw hl
    refine lv_iload hx hb dX10_spelt_78 (lv_at hl 5 rfl) ?_
    refine lv_if_le (tgt := 99) hx hb dX10_spelt_80 (by decide) (fun c_80 => ?_) (fun c_80 => ?_)
    · have r_p5 : RI p5 101 0 := rc_le1 r_p5 rl_0 (ti_le c_80) (by decide)
      exact (r_p5.no (by decide)).elim
    · refine lv_ldc2 (v := 27) hx hb hown (hts _ tw_1312) dX10_spelt_83 ?_
      refine lv_lload hx hb dX10_spelt_86 (lv_at hl 7 rfl) ?_
      refine lv_lmul hx hb dX10_spelt_88 (lv_topl (fun w_5 e_w_5 => ?_))
      have r_w_5 := tq_lmul (lo := 111715389) (hi := 111715389) rk_27 r_x7 (by decide +kernel) e_w_5
      refine lv_iload hx hb dX10_spelt_89 (lv_at hl 5 rfl) ?_
      obtain ⟨w_6, e_w_6⟩ : ∃ q9 : Int64, (p5 : Int32).toInt64 = q9 := ⟨_, rfl⟩
      refine lv_i2l (v := w_6) hx hb dX10_spelt_91 e_w_6 ?_
      have r_w_6 := tq_i2l r_p5 e_w_6
      refine lv_ladd hx hb dX10_spelt_92 (lv_topl (fun w_7 e_w_7 => ?_))
      have r_w_7 := tq_ladd (lo := 111715490) (hi := 111715490) r_w_5 r_w_6 (by decide +kernel) e_w_7
      refine lv_ldc2 (v := 96) hx hb hown (hts _ tw_1313) dX10_spelt_93 ?_
      refine lv_lsub hx hb dX10_spelt_96 (lv_topl (fun w_8 e_w_8 => ?_))
      have r_w_8 := tq_lsub (lo := 111715394) (hi := 111715394) r_w_7 rk_96 (by decide +kernel) e_w_8
      refine lv_lstore (lv' := [(7, .long w_8), (0, .int p0), (1, .int p1), (2, .int p2), (3, .int p3), (4, .int p4), (5, .int p5), (6, .int p6)]) hx hb dX10_spelt_97 hl (by decide) rfl (fun ls hl => ?_)
      exact B99 w_8 _ _ ls r_p0 r_p1 r_p2 r_p3 r_p4 r_p5 r_p6 r_w_8 hw (lv_sub hl [1, 2, 3, 4, 5, 6, 7, 0] rfl)
  have B57 : ∀ (x7 : Int64) (H : Heap) (locs : List Loc) (ls : Array Slot), RI p0 103 103 → RI p1 117 117 → RI p2 101 101 → RI p3 115 115 → RI p4 115 115 → RI p5 101 101 → RI p6 115 115 → RJ x7 153244 153244 → WD D cy GG A s wr_X10_spelt__13 wa_X10_spelt__13 Ps w0 Ps w0 H locs → lv_has ls 9 [(0, .int p0), (1, .int p1), (2, .int p2), (3, .int p3), (4, .int p4), (5, .int p5), (6, .int p6), (7, .long x7)] → W p l e (headSpec (Cond.code yX10_spelt cX10_spelt 9 (some .long) :: gT) ({ frames := 0, cells := 0, slots := 0, locals := 200 } : Room)).room s m ([.int p0, .int p1, .int p2, .int p3, .int p4, .int p5, .int p6] : List Value).toArray below meth c H locs 0 0 Q (F0 m 57 ls []) := by
    intro x7 H locs ls r_p0 r_p1 r_p2 r_p3 r_p4 r_p5 r_p6 r_x7 hw hl
    refine lv_iload hx hb dX10_spelt_57 (lv_at hl 4 rfl) ?_
    refine lv_if_le (tgt := 78) hx hb dX10_spelt_59 (by decide) (fun c_59 => ?_) (fun c_59 => ?_)
    · have r_p4 : RI p4 115 0 := rc_le1 r_p4 rl_0 (ti_le c_59) (by decide)
      exact (r_p4.no (by decide)).elim
    · refine lv_ldc2 (v := 27) hx hb hown (hts _ tw_1312) dX10_spelt_62 ?_
      refine lv_lload hx hb dX10_spelt_65 (lv_at hl 7 rfl) ?_
      refine lv_lmul hx hb dX10_spelt_67 (lv_topl (fun w_9 e_w_9 => ?_))
      have r_w_9 := tq_lmul (lo := 4137588) (hi := 4137588) rk_27 r_x7 (by decide +kernel) e_w_9
      refine lv_iload hx hb dX10_spelt_68 (lv_at hl 4 rfl) ?_
      obtain ⟨w_10, e_w_10⟩ : ∃ q9 : Int64, (p4 : Int32).toInt64 = q9 := ⟨_, rfl⟩
      refine lv_i2l (v := w_10) hx hb dX10_spelt_70 e_w_10 ?_
      have r_w_10 := tq_i2l r_p4 e_w_10
      refine lv_ladd hx hb dX10_spelt_71 (lv_topl (fun w_11 e_w_11 => ?_))
      have r_w_11 := tq_ladd (lo := 4137703) (hi := 4137703) r_w_9 r_w_10 (by decide +kernel) e_w_11
      refine lv_ldc2 (v := 96) hx hb hown (hts _ tw_1313) dX10_spelt_72 ?_
      refine lv_lsub hx hb dX10_spelt_75 (lv_topl (fun w_12 e_w_12 => ?_))
      have r_w_12 := tq_lsub (lo := 4137607) (hi := 4137607) r_w_11 rk_96 (by decide +kernel) e_w_12
      refine lv_lstore (lv' := [(7, .long w_12), (0, .int p0), (1, .int p1), (2, .int p2), (3, .int p3), (4, .int p4), (5, .int p5), (6, .int p6)]) hx hb dX10_spelt_76 hl (by decide) rfl (fun ls hl => ?_)
      exact B78 w_12 _ _ ls r_p0 r_p1 r_p2 r_p3 r_p4 r_p5 r_p6 r_w_12 hw (lv_sub hl [1, 2, 3, 4, 5, 6, 7, 0] rfl)
  have B38 : ∀ (x7 : Int64) (H : Heap) (locs : List Loc) (ls : Array Slot), RI p0 103 103 → RI p1 117 117 → RI p2 101 101 → RI p3 115 115 → RI p4 115 115 → RI p5 101 101 → RI p6 115 115 → RJ x7 5675 5675 → WD D cy GG A s wr_X10_spelt__13 wa_X10_spelt__13 Ps w0 Ps w0 H locs → lv_has ls 9 [(0, .int p0), (1, .int p1), (2, .int p2), (3, .int p3), (4, .int p4), (5, .int p5), (6, .int p6), (7, .long x7)] → W p l e (headSpec (Cond.code yX10_spelt cX10_spelt 9 (some .long) :: gT) ({ frames := 0, cells := 0, slots := 0, locals := 200 } : Room)).room s m ([.int p0, .int p1, .int p2, .int p3, .int p4, .int p5, .int p6] : List Value).toArray below meth c H locs 0 0 Q (F0 m 38 ls []) := by
    intro x7 H locs ls r_p0 r_p1 r_p2 r_p3 r_p4 r_p5 r_p6 r_x7 hw hl
    refine lv_iload_n hx hb dX10_spelt_38 rfl (lv_at hl 3 rfl) ?_
    refine lv_if_le (tgt := 57) hx hb dX10_spelt_39 (by decide) (fun c_39 => ?_) (fun c_39 => ?_)
    · have r_p3 : RI p3 115 0 := rc_le1 r_p3 rl_0 (ti_le c_39) (by decide)
      exact (r_p3.no (by decide)).elim
    · refine lv_ldc2 (v := 27) hx hb hown (hts _ tw_1312) dX10_spelt_42 ?_
      refine lv_lload hx hb dX10_spelt_45 (lv_at hl 7 rfl) ?_
      refine lv_lmul hx hb dX10_spelt_47 (lv_topl (fun w_13 e_w_13 => ?_))
      have r_w_13 := tq_lmul (lo := 153225) (hi := 153225) rk_27 r_x7 (by decide +kernel) e_w_13
      refine lv_iload_n hx hb dX10_spelt_48 rfl (lv_at hl 3 rfl) ?_
      obtain ⟨w_14, e_w_14⟩ : ∃ q9 : Int64, (p3 : Int32).toInt64 = q9 := ⟨_, rfl⟩
      refine lv_i2l (v := w_14) hx hb dX10_spelt_49 e_w_14 ?_
      have r_w_14 := tq_i2l r_p3 e_w_14
      refine lv_ladd hx hb dX10_spelt_50 (lv_topl (fun w_15 e_w_15 => ?_))
      have r_w_15 := tq_ladd (lo := 153340) (hi := 153340) r_w_13 r_w_14 (by decide +kernel) e_w_15
      refine lv_ldc2 (v := 96) hx hb hown (hts _ tw_1313) dX10_spelt_51 ?_
      refine lv_lsub hx hb dX10_spelt_54 (lv_topl (fun w_16 e_w_16 => ?_))
      have r_w_16 := tq_lsub (lo := 153244) (hi := 153244) r_w_15 rk_96 (by decide +kernel) e_w_16
      refine lv_lstore (lv' := [(7, .long w_16), (0, .int p0), (1, .int p1), (2, .int p2), (3, .int p3), (4, .int p4), (5, .int p5), (6, .int p6)]) hx hb dX10_spelt_55 hl (by decide) rfl (fun ls hl => ?_)
      exact B57 w_16 _ _ ls r_p0 r_p1 r_p2 r_p3 r_p4 r_p5 r_p6 r_w_16 hw (lv_sub hl [1, 2, 3, 4, 5, 6, 7, 0] rfl)
  refine lv_ldc2 (v := 27) hx hb hown (hts _ tw_1312) dX10_spelt_0 ?_
  refine lv_iload_n hx hb dX10_spelt_3 rfl (lv_at hl 0 rfl) ?_
  obtain ⟨w_17, e_w_17⟩ : ∃ q9 : Int64, (p0 : Int32).toInt64 = q9 := ⟨_, rfl⟩
  refine lv_i2l (v := w_17) hx hb dX10_spelt_4 e_w_17 ?_
  have r_w_17 := tq_i2l r_p0 e_w_17
  refine lv_ldc2 (v := 96) hx hb hown (hts _ tw_1313) dX10_spelt_5 ?_
  refine lv_lsub hx hb dX10_spelt_8 (lv_topl (fun w_18 e_w_18 => ?_))
  have r_w_18 := tq_lsub (lo := 7) (hi := 7) r_w_17 rk_96 (by decide +kernel) e_w_18
  refine lv_lmul hx hb dX10_spelt_9 (lv_topl (fun w_19 e_w_19 => ?_))
  have r_w_19 := tq_lmul (lo := 189) (hi := 189) rk_27 r_w_18 (by decide +kernel) e_w_19
  refine lv_iload_n hx hb dX10_spelt_10 rfl (lv_at hl 1 rfl) ?_
  obtain ⟨w_20, e_w_20⟩ : ∃ q9 : Int64, (p1 : Int32).toInt64 = q9 := ⟨_, rfl⟩
  refine lv_i2l (v := w_20) hx hb dX10_spelt_11 e_w_20 ?_
  have r_w_20 := tq_i2l r_p1 e_w_20
  refine lv_ladd hx hb dX10_spelt_12 (lv_topl (fun w_21 e_w_21 => ?_))
  have r_w_21 := tq_ladd (lo := 306) (hi := 306) r_w_19 r_w_20 (by decide +kernel) e_w_21
  refine lv_ldc2 (v := 96) hx hb hown (hts _ tw_1313) dX10_spelt_13 ?_
  refine lv_lsub hx hb dX10_spelt_16 (lv_topl (fun w_22 e_w_22 => ?_))
  have r_w_22 := tq_lsub (lo := 210) (hi := 210) r_w_21 rk_96 (by decide +kernel) e_w_22
  refine lv_lstore (lv' := [(7, .long w_22), (0, .int p0), (1, .int p1), (2, .int p2), (3, .int p3), (4, .int p4), (5, .int p5), (6, .int p6)]) hx hb dX10_spelt_17 hl (by decide) rfl (fun ls hl => ?_)
  refine lv_iload_n hx hb dX10_spelt_19 rfl (lv_at hl 3 rfl) ?_
  refine lv_if_le (tgt := 38) hx hb dX10_spelt_20 (by decide) (fun c_20 => ?_) (fun c_20 => ?_)
  · have r_p2 : RI p2 101 0 := rc_le1 r_p2 rl_0 (ti_le c_20) (by decide)
    exact (r_p2.no (by decide)).elim
  · refine lv_ldc2 (v := 27) hx hb hown (hts _ tw_1312) dX10_spelt_23 ?_
    refine lv_lload hx hb dX10_spelt_26 (lv_at hl 0 rfl) ?_
    refine lv_lmul hx hb dX10_spelt_28 (lv_topl (fun w_23 e_w_23 => ?_))
    have r_w_23 := tq_lmul (lo := 5670) (hi := 5670) rk_27 r_w_22 (by decide +kernel) e_w_23
    refine lv_iload_n hx hb dX10_spelt_29 rfl (lv_at hl 3 rfl) ?_
    obtain ⟨w_24, e_w_24⟩ : ∃ q9 : Int64, (p2 : Int32).toInt64 = q9 := ⟨_, rfl⟩
    refine lv_i2l (v := w_24) hx hb dX10_spelt_30 e_w_24 ?_
    have r_w_24 := tq_i2l r_p2 e_w_24
    refine lv_ladd hx hb dX10_spelt_31 (lv_topl (fun w_25 e_w_25 => ?_))
    have r_w_25 := tq_ladd (lo := 5771) (hi := 5771) r_w_23 r_w_24 (by decide +kernel) e_w_25
    refine lv_ldc2 (v := 96) hx hb hown (hts _ tw_1313) dX10_spelt_32 ?_
    refine lv_lsub hx hb dX10_spelt_35 (lv_topl (fun w_26 e_w_26 => ?_))
    have r_w_26 := tq_lsub (lo := 5675) (hi := 5675) r_w_25 rk_96 (by decide +kernel) e_w_26
    refine lv_lstore (lv' := [(7, .long w_26), (0, .int p0), (1, .int p1), (2, .int p2), (3, .int p3), (4, .int p4), (5, .int p5), (6, .int p6)]) hx hb dX10_spelt_36 hl (by decide) rfl (fun ls hl => ?_)
    exact B38 w_26 _ _ ls r_p0 r_p1 r_p2 r_p3 r_p4 r_p5 r_p6 r_w_26 hw (lv_sub hl [1, 2, 3, 4, 5, 6, 7, 0] rfl)
abbrev wr_X10_spelt__14 : List (Nat × Nat) := []
abbrev wa_X10_spelt__14 : List Nat := []
set_option maxHeartbeats 4000000 in
set_option maxRecDepth 100000 in
theorem c_X10_spelt__14 (l : Launch) (D : va_G) (cy : Nat → ClassId) (z : Nat → Nat) (sz : Nat) (Ps : PSI) (w0 : va_W) (hT : HT cy GG Ps w0) (p0 : Int32) (p1 : Int32) (p2 : Int32) (p3 : Int32) (p4 : Int32) (p5 : Int32) (p6 : Int32) (r_p0 : RI p0 111 111) (r_p1 : RI p1 112 112) (r_p2 : RI p2 101 101) (r_p3 : RI p3 110 110) (r_p4 : RI p4 0 0) (r_p5 : RI p5 0 0) (r_p6 : RI p6 0 0) : Met l yX10_spelt (Cond.code yX10_spelt cX10_spelt 9 (some .long) :: gT) ({ frames := 0, cells := 0, slots := 0, locals := 200 } : Room) (va_Pc [.int p0, .int p1, .int p2, .int p3, .int p4, .int p5, .int p6] (PRE D cy z w0 sz)) (va_Ql (fun (r : Int64) (u : Unit) => RJ r 307058 307058) (BB D cy (va_A w0 sz) (fun (u : Unit) => w0)) (va_A w0 sz)) 0 0 (va_A w0 sz) := by
  refine Met.ofW (cc := cX10_spelt) (maxL := 9) (ret := (some .long)) (by decide) rfl ?_
  intro p e s m args below meth c s₁ B hml hv
  obtain ⟨rfl, hsz, hP, hK, hD0, hSD⟩ := hv
  have hx := B.exec
  have hb := B.bytes
  have hr := B.returns
  have hlocks := B.notSynchronized
  have hts : ∀ w ∈ gT, w.before _ s = true := fun w h => atoms_spec (ws := Cond.code yX10_spelt cX10_spelt 9 (some .long) :: gT) B.pre w (List.mem_cons_of_mem _ h)
  have hown : s.vm.findClass RX10 = some m.cls := findClass_of_methodNamed B.named
  subst hsz
  have hD := hD0.self (sz := s.heap.size)
  generalize hAe : va_A w0 s.heap.size = A at hD hSD ⊢
  have hA : ∀ q : Nat, s.heap.size ≤ q → A q := fun q h => by rw [← hAe]; exact Or.inr h
  have hl := lv_entry ([.int p0, .int p1, .int p2, .int p3, .int p4, .int p5, .int p6]) (n := 9) (Nat.le_of_ble_eq_true rfl)
  rw [lg_entry_eq]
  generalize (lg_sl ([.int p0, .int p1, .int p2, .int p3, .int p4, .int p5, .int p6]) ++ List.replicate (9 - (lg_sl ([.int p0, .int p1, .int p2, .int p3, .int p4, .int p5, .int p6])).length) Slot.unset).toArray = ls at hl ⊢
  have hl : lv_has ls 9 [(0, .int p0), (1, .int p1), (2, .int p2), (3, .int p3), (4, .int p4), (5, .int p5), (6, .int p6)] := hl
  refine nameQ (fun Q hQ => ?_)
  have hw : WD D cy GG A s wr_X10_spelt__14 wa_X10_spelt__14 Ps w0 Ps w0 s.heap [] := ⟨hT, hP, hD, va_S.rf, FR.rf, hT.1, [], (List.append_nil _).symm⟩
  have B99 : ∀ (x7 : Int64) (H : Heap) (locs : List Loc) (ls : Array Slot), RI p0 111 111 → RI p1 112 112 → RI p2 101 101 → RI p3 110 110 → RI p4 0 0 → RI p5 0 0 → RI p6 0 0 → RJ x7 307058 307058 → WD D cy GG A s wr_X10_spelt__14 wa_X10_spelt__14 Ps w0 Ps w0 H locs → lv_has ls 9 [(0, .int p0), (1, .int p1), (2, .int p2), (3, .int p3), (4, .int p4), (5, .int p5), (6, .int p6), (7, .long x7)] → W p l e (headSpec (Cond.code yX10_spelt cX10_spelt 9 (some .long) :: gT) ({ frames := 0, cells := 0, slots := 0, locals := 200 } : Room)).room s m ([.int p0, .int p1, .int p2, .int p3, .int p4, .int p5, .int p6] : List Value).toArray below meth c H locs 0 0 Q (F0 m 99 ls []) := by
    intro x7 H locs ls r_p0 r_p1 r_p2 r_p3 r_p4 r_p5 r_p6 r_x7 hw hl
    refine lv_iload hx hb dX10_spelt_99 (lv_at hl 6 rfl) ?_
    refine lv_if_le (tgt := 120) hx hb dX10_spelt_101 (by decide) (fun c_101 => ?_) (fun c_101 => ?_)
    · refine lv_lload hx hb dX10_spelt_120 (lv_at hl 7 rfl) ?_
      subst hQ
      exact W.lret (v := x7) hx hb hr (fun t ht hW => ⟨⟨x7, (), rfl, r_x7.to (by decide), by rw [ht]; exact hw.2.1, va_K.moved hW.alike hK, hw.2.2.1⟩, hw.2.2.2.1.F ht⟩) hw.2.2.2.1.2.2 dX10_spelt_122
    · have r_p6 : RI p6 1 0 := rc_lt2 rl_0 r_p6 (ti_nle c_101) (by decide)
      exact (r_p6.no (by decide)).elim
  have B78 : ∀ (x7 : Int64) (H : Heap) (locs : List Loc) (ls : Array Slot), RI p0 111 111 → RI p1 112 112 → RI p2 101 101 → RI p3 110 110 → RI p4 0 0 → RI p5 0 0 → RI p6 0 0 → RJ x7 307058 307058 → WD D cy GG A s wr_X10_spelt__14 wa_X10_spelt__14 Ps w0 Ps w0 H locs → lv_has ls 9 [(0, .int p0), (1, .int p1), (2, .int p2), (3, .int p3), (4, .int p4), (5, .int p5), (6, .int p6), (7, .long x7)] → W p l e (headSpec (Cond.code yX10_spelt cX10_spelt 9 (some .long) :: gT) ({ frames := 0, cells := 0, slots := 0, locals := 200 } : Room)).room s m ([.int p0, .int p1, .int p2, .int p3, .int p4, .int p5, .int p6] : List Value).toArray below meth c H locs 0 0 Q (F0 m 78 ls []) := by
    intro x7 H locs ls r_p0 r_p1 r_p2 r_p3 r_p4 r_p5 r_p6 r_x7 hw hl
    refine lv_iload hx hb dX10_spelt_78 (lv_at hl 5 rfl) ?_
    refine lv_if_le (tgt := 99) hx hb dX10_spelt_80 (by decide) (fun c_80 => ?_) (fun c_80 => ?_)
    · exact B99 x7 _ _ ls r_p0 r_p1 r_p2 r_p3 r_p4 r_p5 r_p6 r_x7 hw hl
    · have r_p5 : RI p5 1 0 := rc_lt2 rl_0 r_p5 (ti_nle c_80) (by decide)
      exact (r_p5.no (by decide)).elim
  have B57 : ∀ (x7 : Int64) (H : Heap) (locs : List Loc) (ls : Array Slot), RI p0 111 111 → RI p1 112 112 → RI p2 101 101 → RI p3 110 110 → RI p4 0 0 → RI p5 0 0 → RI p6 0 0 → RJ x7 307058 307058 → WD D cy GG A s wr_X10_spelt__14 wa_X10_spelt__14 Ps w0 Ps w0 H locs → lv_has ls 9 [(0, .int p0), (1, .int p1), (2, .int p2), (3, .int p3), (4, .int p4), (5, .int p5), (6, .int p6), (7, .long x7)] → W p l e (headSpec (Cond.code yX10_spelt cX10_spelt 9 (some .long) :: gT) ({ frames := 0, cells := 0, slots := 0, locals := 200 } : Room)).room s m ([.int p0, .int p1, .int p2, .int p3, .int p4, .int p5, .int p6] : List Value).toArray below meth c H locs 0 0 Q (F0 m 57 ls []) := by
    intro x7 H locs ls r_p0 r_p1 r_p2 r_p3 r_p4 r_p5 r_p6 r_x7 hw hl
    refine lv_iload hx hb dX10_spelt_57 (lv_at hl 4 rfl) ?_
    refine lv_if_le (tgt := 78) hx hb dX10_spelt_59 (by decide) (fun c_59 => ?_) (fun c_59 => ?_)
    · exact B78 x7 _ _ ls r_p0 r_p1 r_p2 r_p3 r_p4 r_p5 r_p6 r_x7 hw hl
    · have r_p4 : RI p4 1 0 := rc_lt2 rl_0 r_p4 (ti_nle c_59) (by decide)
      exact (r_p4.no (by decide)).elim
  have B38 : ∀ (x7 : Int64) (H : Heap) (locs : List Loc) (ls : Array Slot), RI p0 111 111 → RI p1 112 112 → RI p2 101 101 → RI p3 110 110 → RI p4 0 0 → RI p5 0 0 → RI p6 0 0 → RJ x7 11372 11372 → WD D cy GG A s wr_X10_spelt__14 wa_X10_spelt__14 Ps w0 Ps w0 H locs → lv_has ls 9 [(0, .int p0), (1, .int p1), (2, .int p2), (3, .int p3), (4, .int p4), (5, .int p5), (6, .int p6), (7, .long x7)] → W p l e (headSpec (Cond.code yX10_spelt cX10_spelt 9 (some .long) :: gT) ({ frames := 0, cells := 0, slots := 0, locals := 200 } : Room)).room s m ([.int p0, .int p1, .int p2, .int p3, .int p4, .int p5, .int p6] : List Value).toArray below meth c H locs 0 0 Q (F0 m 38 ls []) := by
    intro x7 H locs ls r_p0 r_p1 r_p2 r_p3 r_p4 r_p5 r_p6 r_x7 hw hl
    refine lv_iload_n hx hb dX10_spelt_38 rfl (lv_at hl 3 rfl) ?_
    refine lv_if_le (tgt := 57) hx hb dX10_spelt_39 (by decide) (fun c_39 => ?_) (fun c_39 => ?_)
    · have r_p3 : RI p3 110 0 := rc_le1 r_p3 rl_0 (ti_le c_39) (by decide)
      exact (r_p3.no (by decide)).elim
    · refine lv_ldc2 (v := 27) hx hb hown (hts _ tw_1312) dX10_spelt_42 ?_
      refine lv_lload hx hb dX10_spelt_45 (lv_at hl 7 rfl) ?_
      refine lv_lmul hx hb dX10_spelt_47 (lv_topl (fun w_1 e_w_1 => ?_))
      have r_w_1 := tq_lmul (lo := 307044) (hi := 307044) rk_27 r_x7 (by decide +kernel) e_w_1
      refine lv_iload_n hx hb dX10_spelt_48 rfl (lv_at hl 3 rfl) ?_
      obtain ⟨w_2, e_w_2⟩ : ∃ q9 : Int64, (p3 : Int32).toInt64 = q9 := ⟨_, rfl⟩
      refine lv_i2l (v := w_2) hx hb dX10_spelt_49 e_w_2 ?_
      have r_w_2 := tq_i2l r_p3 e_w_2
      refine lv_ladd hx hb dX10_spelt_50 (lv_topl (fun w_3 e_w_3 => ?_))
      have r_w_3 := tq_ladd (lo := 307154) (hi := 307154) r_w_1 r_w_2 (by decide +kernel) e_w_3
      refine lv_ldc2 (v := 96) hx hb hown (hts _ tw_1313) dX10_spelt_51 ?_
      refine lv_lsub hx hb dX10_spelt_54 (lv_topl (fun w_4 e_w_4 => ?_))
      have r_w_4 := tq_lsub (lo := 307058) (hi := 307058) r_w_3 rk_96 (by decide +kernel) e_w_4
      refine lv_lstore (lv' := [(7, .long w_4), (0, .int p0), (1, .int p1), (2, .int p2), (3, .int p3), (4, .int p4), (5, .int p5), (6, .int p6)]) hx hb dX10_spelt_55 hl (by decide) rfl (fun ls hl => ?_)
      exact B57 w_4 _ _ ls r_p0 r_p1 r_p2 r_p3 r_p4 r_p5 r_p6 r_w_4 hw (lv_sub hl [1, 2, 3, 4, 5, 6, 7, 0] rfl)
  refine lv_ldc2 (v := 27) hx hb hown (hts _ tw_1312) dX10_spelt_0 ?_
  refine lv_iload_n hx hb dX10_spelt_3 rfl (lv_at hl 0 rfl) ?_
  obtain ⟨w_5, e_w_5⟩ : ∃ q9 : Int64, (p0 : Int32).toInt64 = q9 := ⟨_, rfl⟩
  refine lv_i2l (v := w_5) hx hb dX10_spelt_4 e_w_5 ?_
  have r_w_5 := tq_i2l r_p0 e_w_5
  refine lv_ldc2 (v := 96) hx hb hown (hts _ tw_1313) dX10_spelt_5 ?_
  refine lv_lsub hx hb dX10_spelt_8 (lv_topl (fun w_6 e_w_6 => ?_))
  have r_w_6 := tq_lsub (lo := 15) (hi := 15) r_w_5 rk_96 (by decide +kernel) e_w_6
  refine lv_lmul hx hb dX10_spelt_9 (lv_topl (fun w_7 e_w_7 => ?_))
  have r_w_7 := tq_lmul (lo := 405) (hi := 405) rk_27 r_w_6 (by decide +kernel) e_w_7
  refine lv_iload_n hx hb dX10_spelt_10 rfl (lv_at hl 1 rfl) ?_
  obtain ⟨w_8, e_w_8⟩ : ∃ q9 : Int64, (p1 : Int32).toInt64 = q9 := ⟨_, rfl⟩
  refine lv_i2l (v := w_8) hx hb dX10_spelt_11 e_w_8 ?_
  have r_w_8 := tq_i2l r_p1 e_w_8
  refine lv_ladd hx hb dX10_spelt_12 (lv_topl (fun w_9 e_w_9 => ?_))
  have r_w_9 := tq_ladd (lo := 517) (hi := 517) r_w_7 r_w_8 (by decide +kernel) e_w_9
  refine lv_ldc2 (v := 96) hx hb hown (hts _ tw_1313) dX10_spelt_13 ?_
  refine lv_lsub hx hb dX10_spelt_16 (lv_topl (fun w_10 e_w_10 => ?_))
  have r_w_10 := tq_lsub (lo := 421) (hi := 421) r_w_9 rk_96 (by decide +kernel) e_w_10
  refine lv_lstore (lv' := [(7, .long w_10), (0, .int p0), (1, .int p1), (2, .int p2), (3, .int p3), (4, .int p4), (5, .int p5), (6, .int p6)]) hx hb dX10_spelt_17 hl (by decide) rfl (fun ls hl => ?_)
  refine lv_iload_n hx hb dX10_spelt_19 rfl (lv_at hl 3 rfl) ?_
  refine lv_if_le (tgt := 38) hx hb dX10_spelt_20 (by decide) (fun c_20 => ?_) (fun c_20 => ?_)
  · have r_p2 : RI p2 101 0 := rc_le1 r_p2 rl_0 (ti_le c_20) (by decide)
    exact (r_p2.no (by decide)).elim
  · refine lv_ldc2 (v := 27) hx hb hown (hts _ tw_1312) dX10_spelt_23 ?_
    refine lv_lload hx hb dX10_spelt_26 (lv_at hl 0 rfl) ?_
    refine lv_lmul hx hb dX10_spelt_28 (lv_topl (fun w_11 e_w_11 => ?_))
    have r_w_11 := tq_lmul (lo := 11367) (hi := 11367) rk_27 r_w_10 (by decide +kernel) e_w_11
    refine lv_iload_n hx hb dX10_spelt_29 rfl (lv_at hl 3 rfl) ?_
    obtain ⟨w_12, e_w_12⟩ : ∃ q9 : Int64, (p2 : Int32).toInt64 = q9 := ⟨_, rfl⟩
    refine lv_i2l (v := w_12) hx hb dX10_spelt_30 e_w_12 ?_
    have r_w_12 := tq_i2l r_p2 e_w_12
    refine lv_ladd hx hb dX10_spelt_31 (lv_topl (fun w_13 e_w_13 => ?_))
    have r_w_13 := tq_ladd (lo := 11468) (hi := 11468) r_w_11 r_w_12 (by decide +kernel) e_w_13
    refine lv_ldc2 (v := 96) hx hb hown (hts _ tw_1313) dX10_spelt_32 ?_
    refine lv_lsub hx hb dX10_spelt_35 (lv_topl (fun w_14 e_w_14 => ?_))
    have r_w_14 := tq_lsub (lo := 11372) (hi := 11372) r_w_13 rk_96 (by decide +kernel) e_w_14
    refine lv_lstore (lv' := [(7, .long w_14), (0, .int p0), (1, .int p1), (2, .int p2), (3, .int p3), (4, .int p4), (5, .int p5), (6, .int p6)]) hx hb dX10_spelt_36 hl (by decide) rfl (fun ls hl => ?_)
    exact B38 w_14 _ _ ls r_p0 r_p1 r_p2 r_p3 r_p4 r_p5 r_p6 r_w_14 hw (lv_sub hl [1, 2, 3, 4, 5, 6, 7, 0] rfl)
abbrev wr_X10_spelt__15 : List (Nat × Nat) := []
abbrev wa_X10_spelt__15 : List Nat := []
set_option maxHeartbeats 4000000 in
set_option maxRecDepth 100000 in
theorem c_X10_spelt__15 (l : Launch) (D : va_G) (cy : Nat → ClassId) (z : Nat → Nat) (sz : Nat) (Ps : PSI) (w0 : va_W) (hT : HT cy GG Ps w0) (p0 : Int32) (p1 : Int32) (p2 : Int32) (p3 : Int32) (p4 : Int32) (p5 : Int32) (p6 : Int32) (r_p0 : RI p0 99 99) (r_p1 : RI p1 97 97) (r_p2 : RI p2 114 114) (r_p3 : RI p3 114 114) (r_p4 : RI p4 121 121) (r_p5 : RI p5 0 0) (r_p6 : RI p6 0 0) : Met l yX10_spelt (Cond.code yX10_spelt cX10_spelt 9 (some .long) :: gT) ({ frames := 0, cells := 0, slots := 0, locals := 200 } : Room) (va_Pc [.int p0, .int p1, .int p2, .int p3, .int p4, .int p5, .int p6] (PRE D cy z w0 sz)) (va_Ql (fun (r : Int64) (u : Unit) => RJ r 1627639 1627639) (BB D cy (va_A w0 sz) (fun (u : Unit) => w0)) (va_A w0 sz)) 0 0 (va_A w0 sz) := by
  refine Met.ofW (cc := cX10_spelt) (maxL := 9) (ret := (some .long)) (by decide) rfl ?_
  intro p e s m args below meth c s₁ B hml hv
  obtain ⟨rfl, hsz, hP, hK, hD0, hSD⟩ := hv
  have hx := B.exec
  have hb := B.bytes
  have hr := B.returns
  have hlocks := B.notSynchronized
  have hts : ∀ w ∈ gT, w.before _ s = true := fun w h => atoms_spec (ws := Cond.code yX10_spelt cX10_spelt 9 (some .long) :: gT) B.pre w (List.mem_cons_of_mem _ h)
  have hown : s.vm.findClass RX10 = some m.cls := findClass_of_methodNamed B.named
  subst hsz
  have hD := hD0.self (sz := s.heap.size)
  generalize hAe : va_A w0 s.heap.size = A at hD hSD ⊢
  have hA : ∀ q : Nat, s.heap.size ≤ q → A q := fun q h => by rw [← hAe]; exact Or.inr h
  have hl := lv_entry ([.int p0, .int p1, .int p2, .int p3, .int p4, .int p5, .int p6]) (n := 9) (Nat.le_of_ble_eq_true rfl)
  rw [lg_entry_eq]
  generalize (lg_sl ([.int p0, .int p1, .int p2, .int p3, .int p4, .int p5, .int p6]) ++ List.replicate (9 - (lg_sl ([.int p0, .int p1, .int p2, .int p3, .int p4, .int p5, .int p6])).length) Slot.unset).toArray = ls at hl ⊢
  have hl : lv_has ls 9 [(0, .int p0), (1, .int p1), (2, .int p2), (3, .int p3), (4, .int p4), (5, .int p5), (6, .int p6)] := hl
  refine nameQ (fun Q hQ => ?_)
  have hw : WD D cy GG A s wr_X10_spelt__15 wa_X10_spelt__15 Ps w0 Ps w0 s.heap [] := ⟨hT, hP, hD, va_S.rf, FR.rf, hT.1, [], (List.append_nil _).symm⟩
  have B99 : ∀ (x7 : Int64) (H : Heap) (locs : List Loc) (ls : Array Slot), RI p0 99 99 → RI p1 97 97 → RI p2 114 114 → RI p3 114 114 → RI p4 121 121 → RI p5 0 0 → RI p6 0 0 → RJ x7 1627639 1627639 → WD D cy GG A s wr_X10_spelt__15 wa_X10_spelt__15 Ps w0 Ps w0 H locs → lv_has ls 9 [(0, .int p0), (1, .int p1), (2, .int p2), (3, .int p3), (4, .int p4), (5, .int p5), (6, .int p6), (7, .long x7)] → W p l e (headSpec (Cond.code yX10_spelt cX10_spelt 9 (some .long) :: gT) ({ frames := 0, cells := 0, slots := 0, locals := 200 } : Room)).room s m ([.int p0, .int p1, .int p2, .int p3, .int p4, .int p5, .int p6] : List Value).toArray below meth c H locs 0 0 Q (F0 m 99 ls []) := by
    intro x7 H locs ls r_p0 r_p1 r_p2 r_p3 r_p4 r_p5 r_p6 r_x7 hw hl
    refine lv_iload hx hb dX10_spelt_99 (lv_at hl 6 rfl) ?_
    refine lv_if_le (tgt := 120) hx hb dX10_spelt_101 (by decide) (fun c_101 => ?_) (fun c_101 => ?_)
    · refine lv_lload hx hb dX10_spelt_120 (lv_at hl 7 rfl) ?_
      subst hQ
      exact W.lret (v := x7) hx hb hr (fun t ht hW => ⟨⟨x7, (), rfl, r_x7.to (by decide), by rw [ht]; exact hw.2.1, va_K.moved hW.alike hK, hw.2.2.1⟩, hw.2.2.2.1.F ht⟩) hw.2.2.2.1.2.2 dX10_spelt_122
    · have r_p6 : RI p6 1 0 := rc_lt2 rl_0 r_p6 (ti_nle c_101) (by decide)
      exact (r_p6.no (by decide)).elim
  have B78 : ∀ (x7 : Int64) (H : Heap) (locs : List Loc) (ls : Array Slot), RI p0 99 99 → RI p1 97 97 → RI p2 114 114 → RI p3 114 114 → RI p4 121 121 → RI p5 0 0 → RI p6 0 0 → RJ x7 1627639 1627639 → WD D cy GG A s wr_X10_spelt__15 wa_X10_spelt__15 Ps w0 Ps w0 H locs → lv_has ls 9 [(0, .int p0), (1, .int p1), (2, .int p2), (3, .int p3), (4, .int p4), (5, .int p5), (6, .int p6), (7, .long x7)] → W p l e (headSpec (Cond.code yX10_spelt cX10_spelt 9 (some .long) :: gT) ({ frames := 0, cells := 0, slots := 0, locals := 200 } : Room)).room s m ([.int p0, .int p1, .int p2, .int p3, .int p4, .int p5, .int p6] : List Value).toArray below meth c H locs 0 0 Q (F0 m 78 ls []) := by
    intro x7 H locs ls r_p0 r_p1 r_p2 r_p3 r_p4 r_p5 r_p6 r_x7 hw hl
    refine lv_iload hx hb dX10_spelt_78 (lv_at hl 5 rfl) ?_
    refine lv_if_le (tgt := 99) hx hb dX10_spelt_80 (by decide) (fun c_80 => ?_) (fun c_80 => ?_)
    · exact B99 x7 _ _ ls r_p0 r_p1 r_p2 r_p3 r_p4 r_p5 r_p6 r_x7 hw hl
    · have r_p5 : RI p5 1 0 := rc_lt2 rl_0 r_p5 (ti_nle c_80) (by decide)
      exact (r_p5.no (by decide)).elim
  have B57 : ∀ (x7 : Int64) (H : Heap) (locs : List Loc) (ls : Array Slot), RI p0 99 99 → RI p1 97 97 → RI p2 114 114 → RI p3 114 114 → RI p4 121 121 → RI p5 0 0 → RI p6 0 0 → RJ x7 60282 60282 → WD D cy GG A s wr_X10_spelt__15 wa_X10_spelt__15 Ps w0 Ps w0 H locs → lv_has ls 9 [(0, .int p0), (1, .int p1), (2, .int p2), (3, .int p3), (4, .int p4), (5, .int p5), (6, .int p6), (7, .long x7)] → W p l e (headSpec (Cond.code yX10_spelt cX10_spelt 9 (some .long) :: gT) ({ frames := 0, cells := 0, slots := 0, locals := 200 } : Room)).room s m ([.int p0, .int p1, .int p2, .int p3, .int p4, .int p5, .int p6] : List Value).toArray below meth c H locs 0 0 Q (F0 m 57 ls []) := by
    intro x7 H locs ls r_p0 r_p1 r_p2 r_p3 r_p4 r_p5 r_p6 r_x7 hw hl
    refine lv_iload hx hb dX10_spelt_57 (lv_at hl 4 rfl) ?_
    refine lv_if_le (tgt := 78) hx hb dX10_spelt_59 (by decide) (fun c_59 => ?_) (fun c_59 => ?_)
    · have r_p4 : RI p4 121 0 := rc_le1 r_p4 rl_0 (ti_le c_59) (by decide)
      exact (r_p4.no (by decide)).elim
    · refine lv_ldc2 (v := 27) hx hb hown (hts _ tw_1312) dX10_spelt_62 ?_
      refine lv_lload hx hb dX10_spelt_65 (lv_at hl 7 rfl) ?_
      refine lv_lmul hx hb dX10_spelt_67 (lv_topl (fun w_1 e_w_1 => ?_))
      have r_w_1 := tq_lmul (lo := 1627614) (hi := 1627614) rk_27 r_x7 (by decide +kernel) e_w_1
      refine lv_iload hx hb dX10_spelt_68 (lv_at hl 4 rfl) ?_
      obtain ⟨w_2, e_w_2⟩ : ∃ q9 : Int64, (p4 : Int32).toInt64 = q9 := ⟨_, rfl⟩
      refine lv_i2l (v := w_2) hx hb dX10_spelt_70 e_w_2 ?_
      have r_w_2 := tq_i2l r_p4 e_w_2
      refine lv_ladd hx hb dX10_spelt_71 (lv_topl (fun w_3 e_w_3 => ?_))
      have r_w_3 := tq_ladd (lo := 1627735) (hi := 1627735) r_w_1 r_w_2 (by decide +kernel) e_w_3
      refine lv_ldc2 (v := 96) hx hb hown (hts _ tw_1313) dX10_spelt_72 ?_
      refine lv_lsub hx hb dX10_spelt_75 (lv_topl (fun w_4 e_w_4 => ?_))
      have r_w_4 := tq_lsub (lo := 1627639) (hi := 1627639) r_w_3 rk_96 (by decide +kernel) e_w_4
      refine lv_lstore (lv' := [(7, .long w_4), (0, .int p0), (1, .int p1), (2, .int p2), (3, .int p3), (4, .int p4), (5, .int p5), (6, .int p6)]) hx hb dX10_spelt_76 hl (by decide) rfl (fun ls hl => ?_)
      exact B78 w_4 _ _ ls r_p0 r_p1 r_p2 r_p3 r_p4 r_p5 r_p6 r_w_4 hw (lv_sub hl [1, 2, 3, 4, 5, 6, 7, 0] rfl)
  have B38 : ∀ (x7 : Int64) (H : Heap) (locs : List Loc) (ls : Array Slot), RI p0 99 99 → RI p1 97 97 → RI p2 114 114 → RI p3 114 114 → RI p4 121 121 → RI p5 0 0 → RI p6 0 0 → RJ x7 2232 2232 → WD D cy GG A s wr_X10_spelt__15 wa_X10_spelt__15 Ps w0 Ps w0 H locs → lv_has ls 9 [(0, .int p0), (1, .int p1), (2, .int p2), (3, .int p3), (4, .int p4), (5, .int p5), (6, .int p6), (7, .long x7)] → W p l e (headSpec (Cond.code yX10_spelt cX10_spelt 9 (some .long) :: gT) ({ frames := 0, cells := 0, slots := 0, locals := 200 } : Room)).room s m ([.int p0, .int p1, .int p2, .int p3, .int p4, .int p5, .int p6] : List Value).toArray below meth c H locs 0 0 Q (F0 m 38 ls []) := by
    intro x7 H locs ls r_p0 r_p1 r_p2 r_p3 r_p4 r_p5 r_p6 r_x7 hw hl
    refine lv_iload_n hx hb dX10_spelt_38 rfl (lv_at hl 3 rfl) ?_
    refine lv_if_le (tgt := 57) hx hb dX10_spelt_39 (by decide) (fun c_39 => ?_) (fun c_39 => ?_)
    · have r_p3 : RI p3 114 0 := rc_le1 r_p3 rl_0 (ti_le c_39) (by decide)
      exact (r_p3.no (by decide)).elim
    · refine lv_ldc2 (v := 27) hx hb hown (hts _ tw_1312) dX10_spelt_42 ?_
      refine lv_lload hx hb dX10_spelt_45 (lv_at hl 7 rfl) ?_
      refine lv_lmul hx hb dX10_spelt_47 (lv_topl (fun w_5 e_w_5 => ?_))
      have r_w_5 := tq_lmul (lo := 60264) (hi := 60264) rk_27 r_x7 (by decide +kernel) e_w_5
      refine lv_iload_n hx hb dX10_spelt_48 rfl (lv_at hl 3 rfl) ?_
      obtain ⟨w_6, e_w_6⟩ : ∃ q9 : Int64, (p3 : Int32).toInt64 = q9 := ⟨_, rfl⟩
      refine lv_i2l (v := w_6) hx hb dX10_spelt_49 e_w_6 ?_
      have r_w_6 := tq_i2l r_p3 e_w_6
      refine lv_ladd hx hb dX10_spelt_50 (lv_topl (fun w_7 e_w_7 => ?_))
      have r_w_7 := tq_ladd (lo := 60378) (hi := 60378) r_w_5 r_w_6 (by decide +kernel) e_w_7
      refine lv_ldc2 (v := 96) hx hb hown (hts _ tw_1313) dX10_spelt_51 ?_
      refine lv_lsub hx hb dX10_spelt_54 (lv_topl (fun w_8 e_w_8 => ?_))
      have r_w_8 := tq_lsub (lo := 60282) (hi := 60282) r_w_7 rk_96 (by decide +kernel) e_w_8
      refine lv_lstore (lv' := [(7, .long w_8), (0, .int p0), (1, .int p1), (2, .int p2), (3, .int p3), (4, .int p4), (5, .int p5), (6, .int p6)]) hx hb dX10_spelt_55 hl (by decide) rfl (fun ls hl => ?_)
      exact B57 w_8 _ _ ls r_p0 r_p1 r_p2 r_p3 r_p4 r_p5 r_p6 r_w_8 hw (lv_sub hl [1, 2, 3, 4, 5, 6, 7, 0] rfl)
  refine lv_ldc2 (v := 27) hx hb hown (hts _ tw_1312) dX10_spelt_0 ?_
  refine lv_iload_n hx hb dX10_spelt_3 rfl (lv_at hl 0 rfl) ?_
  obtain ⟨w_9, e_w_9⟩ : ∃ q9 : Int64, (p0 : Int32).toInt64 = q9 := ⟨_, rfl⟩
  refine lv_i2l (v := w_9) hx hb dX10_spelt_4 e_w_9 ?_
  have r_w_9 := tq_i2l r_p0 e_w_9
  refine lv_ldc2 (v := 96) hx hb hown (hts _ tw_1313) dX10_spelt_5 ?_
  refine lv_lsub hx hb dX10_spelt_8 (lv_topl (fun w_10 e_w_10 => ?_))
  have r_w_10 := tq_lsub (lo := 3) (hi := 3) r_w_9 rk_96 (by decide +kernel) e_w_10
  refine lv_lmul hx hb dX10_spelt_9 (lv_topl (fun w_11 e_w_11 => ?_))
  have r_w_11 := tq_lmul (lo := 81) (hi := 81) rk_27 r_w_10 (by decide +kernel) e_w_11
  refine lv_iload_n hx hb dX10_spelt_10 rfl (lv_at hl 1 rfl) ?_
  obtain ⟨w_12, e_w_12⟩ : ∃ q9 : Int64, (p1 : Int32).toInt64 = q9 := ⟨_, rfl⟩
  refine lv_i2l (v := w_12) hx hb dX10_spelt_11 e_w_12 ?_
  have r_w_12 := tq_i2l r_p1 e_w_12
  refine lv_ladd hx hb dX10_spelt_12 (lv_topl (fun w_13 e_w_13 => ?_))
  have r_w_13 := tq_ladd (lo := 178) (hi := 178) r_w_11 r_w_12 (by decide +kernel) e_w_13
  refine lv_ldc2 (v := 96) hx hb hown (hts _ tw_1313) dX10_spelt_13 ?_
  refine lv_lsub hx hb dX10_spelt_16 (lv_topl (fun w_14 e_w_14 => ?_))
  have r_w_14 := tq_lsub (lo := 82) (hi := 82) r_w_13 rk_96 (by decide +kernel) e_w_14
  refine lv_lstore (lv' := [(7, .long w_14), (0, .int p0), (1, .int p1), (2, .int p2), (3, .int p3), (4, .int p4), (5, .int p5), (6, .int p6)]) hx hb dX10_spelt_17 hl (by decide) rfl (fun ls hl => ?_)
  refine lv_iload_n hx hb dX10_spelt_19 rfl (lv_at hl 3 rfl) ?_
  refine lv_if_le (tgt := 38) hx hb dX10_spelt_20 (by decide) (fun c_20 => ?_) (fun c_20 => ?_)
  · have r_p2 : RI p2 114 0 := rc_le1 r_p2 rl_0 (ti_le c_20) (by decide)
    exact (r_p2.no (by decide)).elim
  · refine lv_ldc2 (v := 27) hx hb hown (hts _ tw_1312) dX10_spelt_23 ?_
    refine lv_lload hx hb dX10_spelt_26 (lv_at hl 0 rfl) ?_
    refine lv_lmul hx hb dX10_spelt_28 (lv_topl (fun w_15 e_w_15 => ?_))
    have r_w_15 := tq_lmul (lo := 2214) (hi := 2214) rk_27 r_w_14 (by decide +kernel) e_w_15
    refine lv_iload_n hx hb dX10_spelt_29 rfl (lv_at hl 3 rfl) ?_
    obtain ⟨w_16, e_w_16⟩ : ∃ q9 : Int64, (p2 : Int32).toInt64 = q9 := ⟨_, rfl⟩
    refine lv_i2l (v := w_16) hx hb dX10_spelt_30 e_w_16 ?_
    have r_w_16 := tq_i2l r_p2 e_w_16
    refine lv_ladd hx hb dX10_spelt_31 (lv_topl (fun w_17 e_w_17 => ?_))
    have r_w_17 := tq_ladd (lo := 2328) (hi := 2328) r_w_15 r_w_16 (by decide +kernel) e_w_17
    refine lv_ldc2 (v := 96) hx hb hown (hts _ tw_1313) dX10_spelt_32 ?_
    refine lv_lsub hx hb dX10_spelt_35 (lv_topl (fun w_18 e_w_18 => ?_))
    have r_w_18 := tq_lsub (lo := 2232) (hi := 2232) r_w_17 rk_96 (by decide +kernel) e_w_18
    refine lv_lstore (lv' := [(7, .long w_18), (0, .int p0), (1, .int p1), (2, .int p2), (3, .int p3), (4, .int p4), (5, .int p5), (6, .int p6)]) hx hb dX10_spelt_36 hl (by decide) rfl (fun ls hl => ?_)
    exact B38 w_18 _ _ ls r_p0 r_p1 r_p2 r_p3 r_p4 r_p5 r_p6 r_w_18 hw (lv_sub hl [1, 2, 3, 4, 5, 6, 7, 0] rfl)
abbrev wr_X10_spelt__16 : List (Nat × Nat) := []
abbrev wa_X10_spelt__16 : List Nat := []
set_option maxHeartbeats 4000000 in
set_option maxRecDepth 100000 in
theorem c_X10_spelt__16 (l : Launch) (D : va_G) (cy : Nat → ClassId) (z : Nat → Nat) (sz : Nat) (Ps : PSI) (w0 : va_W) (hT : HT cy GG Ps w0) (p0 : Int32) (p1 : Int32) (p2 : Int32) (p3 : Int32) (p4 : Int32) (p5 : Int32) (p6 : Int32) (r_p0 : RI p0 100 100) (r_p1 : RI p1 97 97) (r_p2 : RI p2 121 121) (r_p3 : RI p3 0 0) (r_p4 : RI p4 0 0) (r_p5 : RI p5 0 0) (r_p6 : RI p6 0 0) : Met l yX10_spelt (Cond.code yX10_spelt cX10_spelt 9 (some .long) :: gT) ({ frames := 0, cells := 0, slots := 0, locals := 200 } : Room) (va_Pc [.int p0, .int p1, .int p2, .int p3, .int p4, .int p5, .int p6] (PRE D cy z w0 sz)) (va_Ql (fun (r : Int64) (u : Unit) => RJ r 2968 2968) (BB D cy (va_A w0 sz) (fun (u : Unit) => w0)) (va_A w0 sz)) 0 0 (va_A w0 sz) := by
  refine Met.ofW (cc := cX10_spelt) (maxL := 9) (ret := (some .long)) (by decide) rfl ?_
  intro p e s m args below meth c s₁ B hml hv
  obtain ⟨rfl, hsz, hP, hK, hD0, hSD⟩ := hv
  have hx := B.exec
  have hb := B.bytes
  have hr := B.returns
  have hlocks := B.notSynchronized
  have hts : ∀ w ∈ gT, w.before _ s = true := fun w h => atoms_spec (ws := Cond.code yX10_spelt cX10_spelt 9 (some .long) :: gT) B.pre w (List.mem_cons_of_mem _ h)
  have hown : s.vm.findClass RX10 = some m.cls := findClass_of_methodNamed B.named
  subst hsz
  have hD := hD0.self (sz := s.heap.size)
  generalize hAe : va_A w0 s.heap.size = A at hD hSD ⊢
  have hA : ∀ q : Nat, s.heap.size ≤ q → A q := fun q h => by rw [← hAe]; exact Or.inr h
  have hl := lv_entry ([.int p0, .int p1, .int p2, .int p3, .int p4, .int p5, .int p6]) (n := 9) (Nat.le_of_ble_eq_true rfl)
  rw [lg_entry_eq]
  generalize (lg_sl ([.int p0, .int p1, .int p2, .int p3, .int p4, .int p5, .int p6]) ++ List.replicate (9 - (lg_sl ([.int p0, .int p1, .int p2, .int p3, .int p4, .int p5, .int p6])).length) Slot.unset).toArray = ls at hl ⊢
  have hl : lv_has ls 9 [(0, .int p0), (1, .int p1), (2, .int p2), (3, .int p3), (4, .int p4), (5, .int p5), (6, .int p6)] := hl
  refine nameQ (fun Q hQ => ?_)
  have hw : WD D cy GG A s wr_X10_spelt__16 wa_X10_spelt__16 Ps w0 Ps w0 s.heap [] := ⟨hT, hP, hD, va_S.rf, FR.rf, hT.1, [], (List.append_nil _).symm⟩
  have B99 : ∀ (x7 : Int64) (H : Heap) (locs : List Loc) (ls : Array Slot), RI p0 100 100 → RI p1 97 97 → RI p2 121 121 → RI p3 0 0 → RI p4 0 0 → RI p5 0 0 → RI p6 0 0 → RJ x7 2968 2968 → WD D cy GG A s wr_X10_spelt__16 wa_X10_spelt__16 Ps w0 Ps w0 H locs → lv_has ls 9 [(0, .int p0), (1, .int p1), (2, .int p2), (3, .int p3), (4, .int p4), (5, .int p5), (6, .int p6), (7, .long x7)] → W p l e (headSpec (Cond.code yX10_spelt cX10_spelt 9 (some .long) :: gT) ({ frames := 0, cells := 0, slots := 0, locals := 200 } : Room)).room s m ([.int p0, .int p1, .int p2, .int p3, .int p4, .int p5, .int p6] : List Value).toArray below meth c H locs 0 0 Q (F0 m 99 ls []) := by
    intro x7 H locs ls r_p0 r_p1 r_p2 r_p3 r_p4 r_p5 r_p6 r_x7 hw hl
    refine lv_iload hx hb dX10_spelt_99 (lv_at hl 6 rfl) ?_
    refine lv_if_le (tgt := 120) hx hb dX10_spelt_101 (by decide) (fun c_101 => ?_) (fun c_101 => ?_)
    · refine lv_lload hx hb dX10_spelt_120 (lv_at hl 7 rfl) ?_
      subst hQ
      exact W.lret (v := x7) hx hb hr (fun t ht hW => ⟨⟨x7, (), rfl, r_x7.to (by decide), by rw [ht]; exact hw.2.1, va_K.moved hW.alike hK, hw.2.2.1⟩, hw.2.2.2.1.F ht⟩) hw.2.2.2.1.2.2 dX10_spelt_122
    · have r_p6 : RI p6 1 0 := rc_lt2 rl_0 r_p6 (ti_nle c_101) (by decide)
      exact (r_p6.no (by decide)).elim
  have B78 : ∀ (x7 : Int64) (H : Heap) (locs : List Loc) (ls : Array Slot), RI p0 100 100 → RI p1 97 97 → RI p2 121 121 → RI p3 0 0 → RI p4 0 0 → RI p5 0 0 → RI p6 0 0 → RJ x7 2968 2968 → WD D cy GG A s wr_X10_spelt__16 wa_X10_spelt__16 Ps w0 Ps w0 H locs → lv_has ls 9 [(0, .int p0), (1, .int p1), (2, .int p2), (3, .int p3), (4, .int p4), (5, .int p5), (6, .int p6), (7, .long x7)] → W p l e (headSpec (Cond.code yX10_spelt cX10_spelt 9 (some .long) :: gT) ({ frames := 0, cells := 0, slots := 0, locals := 200 } : Room)).room s m ([.int p0, .int p1, .int p2, .int p3, .int p4, .int p5, .int p6] : List Value).toArray below meth c H locs 0 0 Q (F0 m 78 ls []) := by
    intro x7 H locs ls r_p0 r_p1 r_p2 r_p3 r_p4 r_p5 r_p6 r_x7 hw hl
    refine lv_iload hx hb dX10_spelt_78 (lv_at hl 5 rfl) ?_
    refine lv_if_le (tgt := 99) hx hb dX10_spelt_80 (by decide) (fun c_80 => ?_) (fun c_80 => ?_)
    · exact B99 x7 _ _ ls r_p0 r_p1 r_p2 r_p3 r_p4 r_p5 r_p6 r_x7 hw hl
    · have r_p5 : RI p5 1 0 := rc_lt2 rl_0 r_p5 (ti_nle c_80) (by decide)
      exact (r_p5.no (by decide)).elim
  have B57 : ∀ (x7 : Int64) (H : Heap) (locs : List Loc) (ls : Array Slot), RI p0 100 100 → RI p1 97 97 → RI p2 121 121 → RI p3 0 0 → RI p4 0 0 → RI p5 0 0 → RI p6 0 0 → RJ x7 2968 2968 → WD D cy GG A s wr_X10_spelt__16 wa_X10_spelt__16 Ps w0 Ps w0 H locs → lv_has ls 9 [(0, .int p0), (1, .int p1), (2, .int p2), (3, .int p3), (4, .int p4), (5, .int p5), (6, .int p6), (7, .long x7)] → W p l e (headSpec (Cond.code yX10_spelt cX10_spelt 9 (some .long) :: gT) ({ frames := 0, cells := 0, slots := 0, locals := 200 } : Room)).room s m ([.int p0, .int p1, .int p2, .int p3, .int p4, .int p5, .int p6] : List Value).toArray below meth c H locs 0 0 Q (F0 m 57 ls []) := by
    intro x7 H locs ls r_p0 r_p1 r_p2 r_p3 r_p4 r_p5 r_p6 r_x7 hw hl
    refine lv_iload hx hb dX10_spelt_57 (lv_at hl 4 rfl) ?_
    refine lv_if_le (tgt := 78) hx hb dX10_spelt_59 (by decide) (fun c_59 => ?_) (fun c_59 => ?_)
    · exact B78 x7 _ _ ls r_p0 r_p1 r_p2 r_p3 r_p4 r_p5 r_p6 r_x7 hw hl
    · have r_p4 : RI p4 1 0 := rc_lt2 rl_0 r_p4 (ti_nle c_59) (by decide)
      exact (r_p4.no (by decide)).elim
  have B38 : ∀ (x7 : Int64) (H : Heap) (locs : List Loc) (ls : Array Slot), RI p0 100 100 → RI p1 97 97 → RI p2 121 121 → RI p3 0 0 → RI p4 0 0 → RI p5 0 0 → RI p6 0 0 → RJ x7 2968 2968 → WD D cy GG A s wr_X10_spelt__16 wa_X10_spelt__16 Ps w0 Ps w0 H locs → lv_has ls 9 [(0, .int p0), (1, .int p1), (2, .int p2), (3, .int p3), (4, .int p4), (5, .int p5), (6, .int p6), (7, .long x7)] → W p l e (headSpec (Cond.code yX10_spelt cX10_spelt 9 (some .long) :: gT) ({ frames := 0, cells := 0, slots := 0, locals := 200 } : Room)).room s m ([.int p0, .int p1, .int p2, .int p3, .int p4, .int p5, .int p6] : List Value).toArray below meth c H locs 0 0 Q (F0 m 38 ls []) := by
    intro x7 H locs ls r_p0 r_p1 r_p2 r_p3 r_p4 r_p5 r_p6 r_x7 hw hl
    refine lv_iload_n hx hb dX10_spelt_38 rfl (lv_at hl 3 rfl) ?_
    refine lv_if_le (tgt := 57) hx hb dX10_spelt_39 (by decide) (fun c_39 => ?_) (fun c_39 => ?_)
    · exact B57 x7 _ _ ls r_p0 r_p1 r_p2 r_p3 r_p4 r_p5 r_p6 r_x7 hw hl
    · have r_p3 : RI p3 1 0 := rc_lt2 rl_0 r_p3 (ti_nle c_39) (by decide)
      exact (r_p3.no (by decide)).elim
  refine lv_ldc2 (v := 27) hx hb hown (hts _ tw_1312) dX10_spelt_0 ?_
  refine lv_iload_n hx hb dX10_spelt_3 rfl (lv_at hl 0 rfl) ?_
  obtain ⟨w_1, e_w_1⟩ : ∃ q9 : Int64, (p0 : Int32).toInt64 = q9 := ⟨_, rfl⟩
  refine lv_i2l (v := w_1) hx hb dX10_spelt_4 e_w_1 ?_
  have r_w_1 := tq_i2l r_p0 e_w_1
  refine lv_ldc2 (v := 96) hx hb hown (hts _ tw_1313) dX10_spelt_5 ?_
  refine lv_lsub hx hb dX10_spelt_8 (lv_topl (fun w_2 e_w_2 => ?_))
  have r_w_2 := tq_lsub (lo := 4) (hi := 4) r_w_1 rk_96 (by decide +kernel) e_w_2
  refine lv_lmul hx hb dX10_spelt_9 (lv_topl (fun w_3 e_w_3 => ?_))
  have r_w_3 := tq_lmul (lo := 108) (hi := 108) rk_27 r_w_2 (by decide +kernel) e_w_3
  refine lv_iload_n hx hb dX10_spelt_10 rfl (lv_at hl 1 rfl) ?_
  obtain ⟨w_4, e_w_4⟩ : ∃ q9 : Int64, (p1 : Int32).toInt64 = q9 := ⟨_, rfl⟩
  refine lv_i2l (v := w_4) hx hb dX10_spelt_11 e_w_4 ?_
  have r_w_4 := tq_i2l r_p1 e_w_4
  refine lv_ladd hx hb dX10_spelt_12 (lv_topl (fun w_5 e_w_5 => ?_))
  have r_w_5 := tq_ladd (lo := 205) (hi := 205) r_w_3 r_w_4 (by decide +kernel) e_w_5
  refine lv_ldc2 (v := 96) hx hb hown (hts _ tw_1313) dX10_spelt_13 ?_
  refine lv_lsub hx hb dX10_spelt_16 (lv_topl (fun w_6 e_w_6 => ?_))
  have r_w_6 := tq_lsub (lo := 109) (hi := 109) r_w_5 rk_96 (by decide +kernel) e_w_6
  refine lv_lstore (lv' := [(7, .long w_6), (0, .int p0), (1, .int p1), (2, .int p2), (3, .int p3), (4, .int p4), (5, .int p5), (6, .int p6)]) hx hb dX10_spelt_17 hl (by decide) rfl (fun ls hl => ?_)
  refine lv_iload_n hx hb dX10_spelt_19 rfl (lv_at hl 3 rfl) ?_
  refine lv_if_le (tgt := 38) hx hb dX10_spelt_20 (by decide) (fun c_20 => ?_) (fun c_20 => ?_)
  · have r_p2 : RI p2 121 0 := rc_le1 r_p2 rl_0 (ti_le c_20) (by decide)
    exact (r_p2.no (by decide)).elim
  · refine lv_ldc2 (v := 27) hx hb hown (hts _ tw_1312) dX10_spelt_23 ?_
    refine lv_lload hx hb dX10_spelt_26 (lv_at hl 0 rfl) ?_
    refine lv_lmul hx hb dX10_spelt_28 (lv_topl (fun w_7 e_w_7 => ?_))
    have r_w_7 := tq_lmul (lo := 2943) (hi := 2943) rk_27 r_w_6 (by decide +kernel) e_w_7
    refine lv_iload_n hx hb dX10_spelt_29 rfl (lv_at hl 3 rfl) ?_
    obtain ⟨w_8, e_w_8⟩ : ∃ q9 : Int64, (p2 : Int32).toInt64 = q9 := ⟨_, rfl⟩
    refine lv_i2l (v := w_8) hx hb dX10_spelt_30 e_w_8 ?_
    have r_w_8 := tq_i2l r_p2 e_w_8
    refine lv_ladd hx hb dX10_spelt_31 (lv_topl (fun w_9 e_w_9 => ?_))
    have r_w_9 := tq_ladd (lo := 3064) (hi := 3064) r_w_7 r_w_8 (by decide +kernel) e_w_9
    refine lv_ldc2 (v := 96) hx hb hown (hts _ tw_1313) dX10_spelt_32 ?_
    refine lv_lsub hx hb dX10_spelt_35 (lv_topl (fun w_10 e_w_10 => ?_))
    have r_w_10 := tq_lsub (lo := 2968) (hi := 2968) r_w_9 rk_96 (by decide +kernel) e_w_10
    refine lv_lstore (lv' := [(7, .long w_10), (0, .int p0), (1, .int p1), (2, .int p2), (3, .int p3), (4, .int p4), (5, .int p5), (6, .int p6)]) hx hb dX10_spelt_36 hl (by decide) rfl (fun ls hl => ?_)
    exact B38 w_10 _ _ ls r_p0 r_p1 r_p2 r_p3 r_p4 r_p5 r_p6 r_w_10 hw (lv_sub hl [1, 2, 3, 4, 5, 6, 7, 0] rfl)
abbrev wr_X10_spelt__17 : List (Nat × Nat) := []
abbrev wa_X10_spelt__17 : List Nat := []
set_option maxHeartbeats 4000000 in
set_option maxRecDepth 100000 in
theorem c_X10_spelt__17 (l : Launch) (D : va_G) (cy : Nat → ClassId) (z : Nat → Nat) (sz : Nat) (Ps : PSI) (w0 : va_W) (hT : HT cy GG Ps w0) (p0 : Int32) (p1 : Int32) (p2 : Int32) (p3 : Int32) (p4 : Int32) (p5 : Int32) (p6 : Int32) (r_p0 : RI p0 111 111) (r_p1 : RI p1 114 114) (r_p2 : RI p2 0 0) (r_p3 : RI p3 0 0) (r_p4 : RI p4 0 0) (r_p5 : RI p5 0 0) (r_p6 : RI p6 0 0) : Met l yX10_spelt (Cond.code yX10_spelt cX10_spelt 9 (some .long) :: gT) ({ frames := 0, cells := 0, slots := 0, locals := 200 } : Room) (va_Pc [.int p0, .int p1, .int p2, .int p3, .int p4, .int p5, .int p6] (PRE D cy z w0 sz)) (va_Ql (fun (r : Int64) (u : Unit) => RJ r 423 423) (BB D cy (va_A w0 sz) (fun (u : Unit) => w0)) (va_A w0 sz)) 0 0 (va_A w0 sz) := by
  refine Met.ofW (cc := cX10_spelt) (maxL := 9) (ret := (some .long)) (by decide) rfl ?_
  intro p e s m args below meth c s₁ B hml hv
  obtain ⟨rfl, hsz, hP, hK, hD0, hSD⟩ := hv
  have hx := B.exec
  have hb := B.bytes
  have hr := B.returns
  have hlocks := B.notSynchronized
  have hts : ∀ w ∈ gT, w.before _ s = true := fun w h => atoms_spec (ws := Cond.code yX10_spelt cX10_spelt 9 (some .long) :: gT) B.pre w (List.mem_cons_of_mem _ h)
  have hown : s.vm.findClass RX10 = some m.cls := findClass_of_methodNamed B.named
  subst hsz
  have hD := hD0.self (sz := s.heap.size)
  generalize hAe : va_A w0 s.heap.size = A at hD hSD ⊢
  have hA : ∀ q : Nat, s.heap.size ≤ q → A q := fun q h => by rw [← hAe]; exact Or.inr h
  have hl := lv_entry ([.int p0, .int p1, .int p2, .int p3, .int p4, .int p5, .int p6]) (n := 9) (Nat.le_of_ble_eq_true rfl)
  rw [lg_entry_eq]
  generalize (lg_sl ([.int p0, .int p1, .int p2, .int p3, .int p4, .int p5, .int p6]) ++ List.replicate (9 - (lg_sl ([.int p0, .int p1, .int p2, .int p3, .int p4, .int p5, .int p6])).length) Slot.unset).toArray = ls at hl ⊢
  have hl : lv_has ls 9 [(0, .int p0), (1, .int p1), (2, .int p2), (3, .int p3), (4, .int p4), (5, .int p5), (6, .int p6)] := hl
  refine nameQ (fun Q hQ => ?_)
  have hw : WD D cy GG A s wr_X10_spelt__17 wa_X10_spelt__17 Ps w0 Ps w0 s.heap [] := ⟨hT, hP, hD, va_S.rf, FR.rf, hT.1, [], (List.append_nil _).symm⟩
  have B99 : ∀ (x7 : Int64) (H : Heap) (locs : List Loc) (ls : Array Slot), RI p0 111 111 → RI p1 114 114 → RI p2 0 0 → RI p3 0 0 → RI p4 0 0 → RI p5 0 0 → RI p6 0 0 → RJ x7 423 423 → WD D cy GG A s wr_X10_spelt__17 wa_X10_spelt__17 Ps w0 Ps w0 H locs → lv_has ls 9 [(0, .int p0), (1, .int p1), (2, .int p2), (3, .int p3), (4, .int p4), (5, .int p5), (6, .int p6), (7, .long x7)] → W p l e (headSpec (Cond.code yX10_spelt cX10_spelt 9 (some .long) :: gT) ({ frames := 0, cells := 0, slots := 0, locals := 200 } : Room)).room s m ([.int p0, .int p1, .int p2, .int p3, .int p4, .int p5, .int p6] : List Value).toArray below meth c H locs 0 0 Q (F0 m 99 ls []) := by
    intro x7 H locs ls r_p0 r_p1 r_p2 r_p3 r_p4 r_p5 r_p6 r_x7 hw hl
    refine lv_iload hx hb dX10_spelt_99 (lv_at hl 6 rfl) ?_
    refine lv_if_le (tgt := 120) hx hb dX10_spelt_101 (by decide) (fun c_101 => ?_) (fun c_101 => ?_)
    · refine lv_lload hx hb dX10_spelt_120 (lv_at hl 7 rfl) ?_
      subst hQ
      exact W.lret (v := x7) hx hb hr (fun t ht hW => ⟨⟨x7, (), rfl, r_x7.to (by decide), by rw [ht]; exact hw.2.1, va_K.moved hW.alike hK, hw.2.2.1⟩, hw.2.2.2.1.F ht⟩) hw.2.2.2.1.2.2 dX10_spelt_122
    · have r_p6 : RI p6 1 0 := rc_lt2 rl_0 r_p6 (ti_nle c_101) (by decide)
      exact (r_p6.no (by decide)).elim
  have B78 : ∀ (x7 : Int64) (H : Heap) (locs : List Loc) (ls : Array Slot), RI p0 111 111 → RI p1 114 114 → RI p2 0 0 → RI p3 0 0 → RI p4 0 0 → RI p5 0 0 → RI p6 0 0 → RJ x7 423 423 → WD D cy GG A s wr_X10_spelt__17 wa_X10_spelt__17 Ps w0 Ps w0 H locs → lv_has ls 9 [(0, .int p0), (1, .int p1), (2, .int p2), (3, .int p3), (4, .int p4), (5, .int p5), (6, .int p6), (7, .long x7)] → W p l e (headSpec (Cond.code yX10_spelt cX10_spelt 9 (some .long) :: gT) ({ frames := 0, cells := 0, slots := 0, locals := 200 } : Room)).room s m ([.int p0, .int p1, .int p2, .int p3, .int p4, .int p5, .int p6] : List Value).toArray below meth c H locs 0 0 Q (F0 m 78 ls []) := by
    intro x7 H locs ls r_p0 r_p1 r_p2 r_p3 r_p4 r_p5 r_p6 r_x7 hw hl
    refine lv_iload hx hb dX10_spelt_78 (lv_at hl 5 rfl) ?_
    refine lv_if_le (tgt := 99) hx hb dX10_spelt_80 (by decide) (fun c_80 => ?_) (fun c_80 => ?_)
    · exact B99 x7 _ _ ls r_p0 r_p1 r_p2 r_p3 r_p4 r_p5 r_p6 r_x7 hw hl
    · have r_p5 : RI p5 1 0 := rc_lt2 rl_0 r_p5 (ti_nle c_80) (by decide)
      exact (r_p5.no (by decide)).elim
  have B57 : ∀ (x7 : Int64) (H : Heap) (locs : List Loc) (ls : Array Slot), RI p0 111 111 → RI p1 114 114 → RI p2 0 0 → RI p3 0 0 → RI p4 0 0 → RI p5 0 0 → RI p6 0 0 → RJ x7 423 423 → WD D cy GG A s wr_X10_spelt__17 wa_X10_spelt__17 Ps w0 Ps w0 H locs → lv_has ls 9 [(0, .int p0), (1, .int p1), (2, .int p2), (3, .int p3), (4, .int p4), (5, .int p5), (6, .int p6), (7, .long x7)] → W p l e (headSpec (Cond.code yX10_spelt cX10_spelt 9 (some .long) :: gT) ({ frames := 0, cells := 0, slots := 0, locals := 200 } : Room)).room s m ([.int p0, .int p1, .int p2, .int p3, .int p4, .int p5, .int p6] : List Value).toArray below meth c H locs 0 0 Q (F0 m 57 ls []) := by
    intro x7 H locs ls r_p0 r_p1 r_p2 r_p3 r_p4 r_p5 r_p6 r_x7 hw hl
    refine lv_iload hx hb dX10_spelt_57 (lv_at hl 4 rfl) ?_
    refine lv_if_le (tgt := 78) hx hb dX10_spelt_59 (by decide) (fun c_59 => ?_) (fun c_59 => ?_)
    · exact B78 x7 _ _ ls r_p0 r_p1 r_p2 r_p3 r_p4 r_p5 r_p6 r_x7 hw hl
    · have r_p4 : RI p4 1 0 := rc_lt2 rl_0 r_p4 (ti_nle c_59) (by decide)
      exact (r_p4.no (by decide)).elim
  have B38 : ∀ (x7 : Int64) (H : Heap) (locs : List Loc) (ls : Array Slot), RI p0 111 111 → RI p1 114 114 → RI p2 0 0 → RI p3 0 0 → RI p4 0 0 → RI p5 0 0 → RI p6 0 0 → RJ x7 423 423 → WD D cy GG A s wr_X10_spelt__17 wa_X10_spelt__17 Ps w0 Ps w0 H locs → lv_has ls 9 [(0, .int p0), (1, .int p1), (2, .int p2), (3, .int p3), (4, .int p4), (5, .int p5), (6, .int p6), (7, .long x7)] → W p l e (headSpec (Cond.code yX10_spelt cX10_spelt 9 (some .long) :: gT) ({ frames := 0, cells := 0, slots := 0, locals := 200 } : Room)).room s m ([.int p0, .int p1, .int p2, .int p3, .int p4, .int p5, .int p6] : List Value).toArray below meth c H locs 0 0 Q (F0 m 38 ls []) := by
    intro x7 H locs ls r_p0 r_p1 r_p2 r_p3 r_p4 r_p5 r_p6 r_x7 hw hl
    refine lv_iload_n hx hb dX10_spelt_38 rfl (lv_at hl 3 rfl) ?_
    refine lv_if_le (tgt := 57) hx hb dX10_spelt_39 (by decide) (fun c_39 => ?_) (fun c_39 => ?_)
    · exact B57 x7 _ _ ls r_p0 r_p1 r_p2 r_p3 r_p4 r_p5 r_p6 r_x7 hw hl
    · have r_p3 : RI p3 1 0 := rc_lt2 rl_0 r_p3 (ti_nle c_39) (by decide)
      exact (r_p3.no (by decide)).elim
  refine lv_ldc2 (v := 27) hx hb hown (hts _ tw_1312) dX10_spelt_0 ?_
  refine lv_iload_n hx hb dX10_spelt_3 rfl (lv_at hl 0 rfl) ?_
  obtain ⟨w_1, e_w_1⟩ : ∃ q9 : Int64, (p0 : Int32).toInt64 = q9 := ⟨_, rfl⟩
  refine lv_i2l (v := w_1) hx hb dX10_spelt_4 e_w_1 ?_
  have r_w_1 := tq_i2l r_p0 e_w_1
  refine lv_ldc2 (v := 96) hx hb hown (hts _ tw_1313) dX10_spelt_5 ?_
  refine lv_lsub hx hb dX10_spelt_8 (lv_topl (fun w_2 e_w_2 => ?_))
  have r_w_2 := tq_lsub (lo := 15) (hi := 15) r_w_1 rk_96 (by decide +kernel) e_w_2
  refine lv_lmul hx hb dX10_spelt_9 (lv_topl (fun w_3 e_w_3 => ?_))
  have r_w_3 := tq_lmul (lo := 405) (hi := 405) rk_27 r_w_2 (by decide +kernel) e_w_3
  refine lv_iload_n hx hb dX10_spelt_10 rfl (lv_at hl 1 rfl) ?_
  obtain ⟨w_4, e_w_4⟩ : ∃ q9 : Int64, (p1 : Int32).toInt64 = q9 := ⟨_, rfl⟩
  refine lv_i2l (v := w_4) hx hb dX10_spelt_11 e_w_4 ?_
  have r_w_4 := tq_i2l r_p1 e_w_4
  refine lv_ladd hx hb dX10_spelt_12 (lv_topl (fun w_5 e_w_5 => ?_))
  have r_w_5 := tq_ladd (lo := 519) (hi := 519) r_w_3 r_w_4 (by decide +kernel) e_w_5
  refine lv_ldc2 (v := 96) hx hb hown (hts _ tw_1313) dX10_spelt_13 ?_
  refine lv_lsub hx hb dX10_spelt_16 (lv_topl (fun w_6 e_w_6 => ?_))
  have r_w_6 := tq_lsub (lo := 423) (hi := 423) r_w_5 rk_96 (by decide +kernel) e_w_6
  refine lv_lstore (lv' := [(7, .long w_6), (0, .int p0), (1, .int p1), (2, .int p2), (3, .int p3), (4, .int p4), (5, .int p5), (6, .int p6)]) hx hb dX10_spelt_17 hl (by decide) rfl (fun ls hl => ?_)
  refine lv_iload_n hx hb dX10_spelt_19 rfl (lv_at hl 3 rfl) ?_
  refine lv_if_le (tgt := 38) hx hb dX10_spelt_20 (by decide) (fun c_20 => ?_) (fun c_20 => ?_)
  · exact B38 w_6 _ _ ls r_p0 r_p1 r_p2 r_p3 r_p4 r_p5 r_p6 r_w_6 hw (lv_sub hl [1, 2, 3, 4, 5, 6, 7, 0] rfl)
  · have r_p2 : RI p2 1 0 := rc_lt2 rl_0 r_p2 (ti_nle c_20) (by decide)
    exact (r_p2.no (by decide)).elim
abbrev wr_X10_spelt__18 : List (Nat × Nat) := []
abbrev wa_X10_spelt__18 : List Nat := []
set_option maxHeartbeats 4000000 in
set_option maxRecDepth 100000 in
theorem c_X10_spelt__18 (l : Launch) (D : va_G) (cy : Nat → ClassId) (z : Nat → Nat) (sz : Nat) (Ps : PSI) (w0 : va_W) (hT : HT cy GG Ps w0) (p0 : Int32) (p1 : Int32) (p2 : Int32) (p3 : Int32) (p4 : Int32) (p5 : Int32) (p6 : Int32) (r_p0 : RI p0 97 97) (r_p1 : RI p1 110 110) (r_p2 : RI p2 100 100) (r_p3 : RI p3 0 0) (r_p4 : RI p4 0 0) (r_p5 : RI p5 0 0) (r_p6 : RI p6 0 0) : Met l yX10_spelt (Cond.code yX10_spelt cX10_spelt 9 (some .long) :: gT) ({ frames := 0, cells := 0, slots := 0, locals := 200 } : Room) (va_Pc [.int p0, .int p1, .int p2, .int p3, .int p4, .int p5, .int p6] (PRE D cy z w0 sz)) (va_Ql (fun (r : Int64) (u : Unit) => RJ r 1111 1111) (BB D cy (va_A w0 sz) (fun (u : Unit) => w0)) (va_A w0 sz)) 0 0 (va_A w0 sz) := by
  refine Met.ofW (cc := cX10_spelt) (maxL := 9) (ret := (some .long)) (by decide) rfl ?_
  intro p e s m args below meth c s₁ B hml hv
  obtain ⟨rfl, hsz, hP, hK, hD0, hSD⟩ := hv
  have hx := B.exec
  have hb := B.bytes
  have hr := B.returns
  have hlocks := B.notSynchronized
  have hts : ∀ w ∈ gT, w.before _ s = true := fun w h => atoms_spec (ws := Cond.code yX10_spelt cX10_spelt 9 (some .long) :: gT) B.pre w (List.mem_cons_of_mem _ h)
  have hown : s.vm.findClass RX10 = some m.cls := findClass_of_methodNamed B.named
  subst hsz
  have hD := hD0.self (sz := s.heap.size)
  generalize hAe : va_A w0 s.heap.size = A at hD hSD ⊢
  have hA : ∀ q : Nat, s.heap.size ≤ q → A q := fun q h => by rw [← hAe]; exact Or.inr h
  have hl := lv_entry ([.int p0, .int p1, .int p2, .int p3, .int p4, .int p5, .int p6]) (n := 9) (Nat.le_of_ble_eq_true rfl)
  rw [lg_entry_eq]
  generalize (lg_sl ([.int p0, .int p1, .int p2, .int p3, .int p4, .int p5, .int p6]) ++ List.replicate (9 - (lg_sl ([.int p0, .int p1, .int p2, .int p3, .int p4, .int p5, .int p6])).length) Slot.unset).toArray = ls at hl ⊢
  have hl : lv_has ls 9 [(0, .int p0), (1, .int p1), (2, .int p2), (3, .int p3), (4, .int p4), (5, .int p5), (6, .int p6)] := hl
  refine nameQ (fun Q hQ => ?_)
  have hw : WD D cy GG A s wr_X10_spelt__18 wa_X10_spelt__18 Ps w0 Ps w0 s.heap [] := ⟨hT, hP, hD, va_S.rf, FR.rf, hT.1, [], (List.append_nil _).symm⟩
  have B99 : ∀ (x7 : Int64) (H : Heap) (locs : List Loc) (ls : Array Slot), RI p0 97 97 → RI p1 110 110 → RI p2 100 100 → RI p3 0 0 → RI p4 0 0 → RI p5 0 0 → RI p6 0 0 → RJ x7 1111 1111 → WD D cy GG A s wr_X10_spelt__18 wa_X10_spelt__18 Ps w0 Ps w0 H locs → lv_has ls 9 [(0, .int p0), (1, .int p1), (2, .int p2), (3, .int p3), (4, .int p4), (5, .int p5), (6, .int p6), (7, .long x7)] → W p l e (headSpec (Cond.code yX10_spelt cX10_spelt 9 (some .long) :: gT) ({ frames := 0, cells := 0, slots := 0, locals := 200 } : Room)).room s m ([.int p0, .int p1, .int p2, .int p3, .int p4, .int p5, .int p6] : List Value).toArray below meth c H locs 0 0 Q (F0 m 99 ls []) := by
    intro x7 H locs ls r_p0 r_p1 r_p2 r_p3 r_p4 r_p5 r_p6 r_x7 hw hl
    refine lv_iload hx hb dX10_spelt_99 (lv_at hl 6 rfl) ?_
    refine lv_if_le (tgt := 120) hx hb dX10_spelt_101 (by decide) (fun c_101 => ?_) (fun c_101 => ?_)
    · refine lv_lload hx hb dX10_spelt_120 (lv_at hl 7 rfl) ?_
      subst hQ
      exact W.lret (v := x7) hx hb hr (fun t ht hW => ⟨⟨x7, (), rfl, r_x7.to (by decide), by rw [ht]; exact hw.2.1, va_K.moved hW.alike hK, hw.2.2.1⟩, hw.2.2.2.1.F ht⟩) hw.2.2.2.1.2.2 dX10_spelt_122
    · have r_p6 : RI p6 1 0 := rc_lt2 rl_0 r_p6 (ti_nle c_101) (by decide)
      exact (r_p6.no (by decide)).elim
  have B78 : ∀ (x7 : Int64) (H : Heap) (locs : List Loc) (ls : Array Slot), RI p0 97 97 → RI p1 110 110 → RI p2 100 100 → RI p3 0 0 → RI p4 0 0 → RI p5 0 0 → RI p6 0 0 → RJ x7 1111 1111 → WD D cy GG A s wr_X10_spelt__18 wa_X10_spelt__18 Ps w0 Ps w0 H locs → lv_has ls 9 [(0, .int p0), (1, .int p1), (2, .int p2), (3, .int p3), (4, .int p4), (5, .int p5), (6, .int p6), (7, .long x7)] → W p l e (headSpec (Cond.code yX10_spelt cX10_spelt 9 (some .long) :: gT) ({ frames := 0, cells := 0, slots := 0, locals := 200 } : Room)).room s m ([.int p0, .int p1, .int p2, .int p3, .int p4, .int p5, .int p6] : List Value).toArray below meth c H locs 0 0 Q (F0 m 78 ls []) := by
    intro x7 H locs ls r_p0 r_p1 r_p2 r_p3 r_p4 r_p5 r_p6 r_x7 hw hl
    refine lv_iload hx hb dX10_spelt_78 (lv_at hl 5 rfl) ?_
    refine lv_if_le (tgt := 99) hx hb dX10_spelt_80 (by decide) (fun c_80 => ?_) (fun c_80 => ?_)
    · exact B99 x7 _ _ ls r_p0 r_p1 r_p2 r_p3 r_p4 r_p5 r_p6 r_x7 hw hl
    · have r_p5 : RI p5 1 0 := rc_lt2 rl_0 r_p5 (ti_nle c_80) (by decide)
      exact (r_p5.no (by decide)).elim
  have B57 : ∀ (x7 : Int64) (H : Heap) (locs : List Loc) (ls : Array Slot), RI p0 97 97 → RI p1 110 110 → RI p2 100 100 → RI p3 0 0 → RI p4 0 0 → RI p5 0 0 → RI p6 0 0 → RJ x7 1111 1111 → WD D cy GG A s wr_X10_spelt__18 wa_X10_spelt__18 Ps w0 Ps w0 H locs → lv_has ls 9 [(0, .int p0), (1, .int p1), (2, .int p2), (3, .int p3), (4, .int p4), (5, .int p5), (6, .int p6), (7, .long x7)] → W p l e (headSpec (Cond.code yX10_spelt cX10_spelt 9 (some .long) :: gT) ({ frames := 0, cells := 0, slots := 0, locals := 200 } : Room)).room s m ([.int p0, .int p1, .int p2, .int p3, .int p4, .int p5, .int p6] : List Value).toArray below meth c H locs 0 0 Q (F0 m 57 ls []) := by
    intro x7 H locs ls r_p0 r_p1 r_p2 r_p3 r_p4 r_p5 r_p6 r_x7 hw hl
    refine lv_iload hx hb dX10_spelt_57 (lv_at hl 4 rfl) ?_
    refine lv_if_le (tgt := 78) hx hb dX10_spelt_59 (by decide) (fun c_59 => ?_) (fun c_59 => ?_)
    · exact B78 x7 _ _ ls r_p0 r_p1 r_p2 r_p3 r_p4 r_p5 r_p6 r_x7 hw hl
    · have r_p4 : RI p4 1 0 := rc_lt2 rl_0 r_p4 (ti_nle c_59) (by decide)
      exact (r_p4.no (by decide)).elim
  have B38 : ∀ (x7 : Int64) (H : Heap) (locs : List Loc) (ls : Array Slot), RI p0 97 97 → RI p1 110 110 → RI p2 100 100 → RI p3 0 0 → RI p4 0 0 → RI p5 0 0 → RI p6 0 0 → RJ x7 1111 1111 → WD D cy GG A s wr_X10_spelt__18 wa_X10_spelt__18 Ps w0 Ps w0 H locs → lv_has ls 9 [(0, .int p0), (1, .int p1), (2, .int p2), (3, .int p3), (4, .int p4), (5, .int p5), (6, .int p6), (7, .long x7)] → W p l e (headSpec (Cond.code yX10_spelt cX10_spelt 9 (some .long) :: gT) ({ frames := 0, cells := 0, slots := 0, locals := 200 } : Room)).room s m ([.int p0, .int p1, .int p2, .int p3, .int p4, .int p5, .int p6] : List Value).toArray below meth c H locs 0 0 Q (F0 m 38 ls []) := by
    intro x7 H locs ls r_p0 r_p1 r_p2 r_p3 r_p4 r_p5 r_p6 r_x7 hw hl
    refine lv_iload_n hx hb dX10_spelt_38 rfl (lv_at hl 3 rfl) ?_
    refine lv_if_le (tgt := 57) hx hb dX10_spelt_39 (by decide) (fun c_39 => ?_) (fun c_39 => ?_)
    · exact B57 x7 _ _ ls r_p0 r_p1 r_p2 r_p3 r_p4 r_p5 r_p6 r_x7 hw hl
    · have r_p3 : RI p3 1 0 := rc_lt2 rl_0 r_p3 (ti_nle c_39) (by decide)
      exact (r_p3.no (by decide)).elim
  refine lv_ldc2 (v := 27) hx hb hown (hts _ tw_1312) dX10_spelt_0 ?_
  refine lv_iload_n hx hb dX10_spelt_3 rfl (lv_at hl 0 rfl) ?_
  obtain ⟨w_1, e_w_1⟩ : ∃ q9 : Int64, (p0 : Int32).toInt64 = q9 := ⟨_, rfl⟩
  refine lv_i2l (v := w_1) hx hb dX10_spelt_4 e_w_1 ?_
  have r_w_1 := tq_i2l r_p0 e_w_1
  refine lv_ldc2 (v := 96) hx hb hown (hts _ tw_1313) dX10_spelt_5 ?_
  refine lv_lsub hx hb dX10_spelt_8 (lv_topl (fun w_2 e_w_2 => ?_))
  have r_w_2 := tq_lsub (lo := 1) (hi := 1) r_w_1 rk_96 (by decide +kernel) e_w_2
  refine lv_lmul hx hb dX10_spelt_9 (lv_topl (fun w_3 e_w_3 => ?_))
  have r_w_3 := tq_lmul (lo := 27) (hi := 27) rk_27 r_w_2 (by decide +kernel) e_w_3
  refine lv_iload_n hx hb dX10_spelt_10 rfl (lv_at hl 1 rfl) ?_
  obtain ⟨w_4, e_w_4⟩ : ∃ q9 : Int64, (p1 : Int32).toInt64 = q9 := ⟨_, rfl⟩
  refine lv_i2l (v := w_4) hx hb dX10_spelt_11 e_w_4 ?_
  have r_w_4 := tq_i2l r_p1 e_w_4
  refine lv_ladd hx hb dX10_spelt_12 (lv_topl (fun w_5 e_w_5 => ?_))
  have r_w_5 := tq_ladd (lo := 137) (hi := 137) r_w_3 r_w_4 (by decide +kernel) e_w_5
  refine lv_ldc2 (v := 96) hx hb hown (hts _ tw_1313) dX10_spelt_13 ?_
  refine lv_lsub hx hb dX10_spelt_16 (lv_topl (fun w_6 e_w_6 => ?_))
  have r_w_6 := tq_lsub (lo := 41) (hi := 41) r_w_5 rk_96 (by decide +kernel) e_w_6
  refine lv_lstore (lv' := [(7, .long w_6), (0, .int p0), (1, .int p1), (2, .int p2), (3, .int p3), (4, .int p4), (5, .int p5), (6, .int p6)]) hx hb dX10_spelt_17 hl (by decide) rfl (fun ls hl => ?_)
  refine lv_iload_n hx hb dX10_spelt_19 rfl (lv_at hl 3 rfl) ?_
  refine lv_if_le (tgt := 38) hx hb dX10_spelt_20 (by decide) (fun c_20 => ?_) (fun c_20 => ?_)
  · have r_p2 : RI p2 100 0 := rc_le1 r_p2 rl_0 (ti_le c_20) (by decide)
    exact (r_p2.no (by decide)).elim
  · refine lv_ldc2 (v := 27) hx hb hown (hts _ tw_1312) dX10_spelt_23 ?_
    refine lv_lload hx hb dX10_spelt_26 (lv_at hl 0 rfl) ?_
    refine lv_lmul hx hb dX10_spelt_28 (lv_topl (fun w_7 e_w_7 => ?_))
    have r_w_7 := tq_lmul (lo := 1107) (hi := 1107) rk_27 r_w_6 (by decide +kernel) e_w_7
    refine lv_iload_n hx hb dX10_spelt_29 rfl (lv_at hl 3 rfl) ?_
    obtain ⟨w_8, e_w_8⟩ : ∃ q9 : Int64, (p2 : Int32).toInt64 = q9 := ⟨_, rfl⟩
    refine lv_i2l (v := w_8) hx hb dX10_spelt_30 e_w_8 ?_
    have r_w_8 := tq_i2l r_p2 e_w_8
    refine lv_ladd hx hb dX10_spelt_31 (lv_topl (fun w_9 e_w_9 => ?_))
    have r_w_9 := tq_ladd (lo := 1207) (hi := 1207) r_w_7 r_w_8 (by decide +kernel) e_w_9
    refine lv_ldc2 (v := 96) hx hb hown (hts _ tw_1313) dX10_spelt_32 ?_
    refine lv_lsub hx hb dX10_spelt_35 (lv_topl (fun w_10 e_w_10 => ?_))
    have r_w_10 := tq_lsub (lo := 1111) (hi := 1111) r_w_9 rk_96 (by decide +kernel) e_w_10
    refine lv_lstore (lv' := [(7, .long w_10), (0, .int p0), (1, .int p1), (2, .int p2), (3, .int p3), (4, .int p4), (5, .int p5), (6, .int p6)]) hx hb dX10_spelt_36 hl (by decide) rfl (fun ls hl => ?_)
    exact B38 w_10 _ _ ls r_p0 r_p1 r_p2 r_p3 r_p4 r_p5 r_p6 r_w_10 hw (lv_sub hl [1, 2, 3, 4, 5, 6, 7, 0] rfl)
abbrev wr_X10_spelt__19 : List (Nat × Nat) := []
abbrev wa_X10_spelt__19 : List Nat := []
set_option maxHeartbeats 4000000 in
set_option maxRecDepth 100000 in
theorem c_X10_spelt__19 (l : Launch) (D : va_G) (cy : Nat → ClassId) (z : Nat → Nat) (sz : Nat) (Ps : PSI) (w0 : va_W) (hT : HT cy GG Ps w0) (p0 : Int32) (p1 : Int32) (p2 : Int32) (p3 : Int32) (p4 : Int32) (p5 : Int32) (p6 : Int32) (r_p0 : RI p0 110 110) (r_p1 : RI p1 111 111) (r_p2 : RI p2 116 116) (r_p3 : RI p3 0 0) (r_p4 : RI p4 0 0) (r_p5 : RI p5 0 0) (r_p6 : RI p6 0 0) : Met l yX10_spelt (Cond.code yX10_spelt cX10_spelt 9 (some .long) :: gT) ({ frames := 0, cells := 0, slots := 0, locals := 200 } : Room) (va_Pc [.int p0, .int p1, .int p2, .int p3, .int p4, .int p5, .int p6] (PRE D cy z w0 sz)) (va_Ql (fun (r : Int64) (u : Unit) => RJ r 10631 10631) (BB D cy (va_A w0 sz) (fun (u : Unit) => w0)) (va_A w0 sz)) 0 0 (va_A w0 sz) := by
  refine Met.ofW (cc := cX10_spelt) (maxL := 9) (ret := (some .long)) (by decide) rfl ?_
  intro p e s m args below meth c s₁ B hml hv
  obtain ⟨rfl, hsz, hP, hK, hD0, hSD⟩ := hv
  have hx := B.exec
  have hb := B.bytes
  have hr := B.returns
  have hlocks := B.notSynchronized
  have hts : ∀ w ∈ gT, w.before _ s = true := fun w h => atoms_spec (ws := Cond.code yX10_spelt cX10_spelt 9 (some .long) :: gT) B.pre w (List.mem_cons_of_mem _ h)
  have hown : s.vm.findClass RX10 = some m.cls := findClass_of_methodNamed B.named
  subst hsz
  have hD := hD0.self (sz := s.heap.size)
  generalize hAe : va_A w0 s.heap.size = A at hD hSD ⊢
  have hA : ∀ q : Nat, s.heap.size ≤ q → A q := fun q h => by rw [← hAe]; exact Or.inr h
  have hl := lv_entry ([.int p0, .int p1, .int p2, .int p3, .int p4, .int p5, .int p6]) (n := 9) (Nat.le_of_ble_eq_true rfl)
  rw [lg_entry_eq]
  generalize (lg_sl ([.int p0, .int p1, .int p2, .int p3, .int p4, .int p5, .int p6]) ++ List.replicate (9 - (lg_sl ([.int p0, .int p1, .int p2, .int p3, .int p4, .int p5, .int p6])).length) Slot.unset).toArray = ls at hl ⊢
  have hl : lv_has ls 9 [(0, .int p0), (1, .int p1), (2, .int p2), (3, .int p3), (4, .int p4), (5, .int p5), (6, .int p6)] := hl
  refine nameQ (fun Q hQ => ?_)
  have hw : WD D cy GG A s wr_X10_spelt__19 wa_X10_spelt__19 Ps w0 Ps w0 s.heap [] := ⟨hT, hP, hD, va_S.rf, FR.rf, hT.1, [], (List.append_nil _).symm⟩
  have B99 : ∀ (x7 : Int64) (H : Heap) (locs : List Loc) (ls : Array Slot), RI p0 110 110 → RI p1 111 111 → RI p2 116 116 → RI p3 0 0 → RI p4 0 0 → RI p5 0 0 → RI p6 0 0 → RJ x7 10631 10631 → WD D cy GG A s wr_X10_spelt__19 wa_X10_spelt__19 Ps w0 Ps w0 H locs → lv_has ls 9 [(0, .int p0), (1, .int p1), (2, .int p2), (3, .int p3), (4, .int p4), (5, .int p5), (6, .int p6), (7, .long x7)] → W p l e (headSpec (Cond.code yX10_spelt cX10_spelt 9 (some .long) :: gT) ({ frames := 0, cells := 0, slots := 0, locals := 200 } : Room)).room s m ([.int p0, .int p1, .int p2, .int p3, .int p4, .int p5, .int p6] : List Value).toArray below meth c H locs 0 0 Q (F0 m 99 ls []) := by
    intro x7 H locs ls r_p0 r_p1 r_p2 r_p3 r_p4 r_p5 r_p6 r_x7 hw hl
    refine lv_iload hx hb dX10_spelt_99 (lv_at hl 6 rfl) ?_
    refine lv_if_le (tgt := 120) hx hb dX10_spelt_101 (by decide) (fun c_101 => ?_) (fun c_101 => ?_)
    · refine lv_lload hx hb dX10_spelt_120 (lv_at hl 7 rfl) ?_
      subst hQ
      exact W.lret (v := x7) hx hb hr (fun t ht hW => ⟨⟨x7, (), rfl, r_x7.to (by decide), by rw [ht]; exact hw.2.1, va_K.moved hW.alike hK, hw.2.2.1⟩, hw.2.2.2.1.F ht⟩) hw.2.2.2.1.2.2 dX10_spelt_122
    · have r_p6 : RI p6 1 0 := rc_lt2 rl_0 r_p6 (ti_nle c_101) (by decide)
      exact (r_p6.no (by decide)).elim
  have B78 : ∀ (x7 : Int64) (H : Heap) (locs : List Loc) (ls : Array Slot), RI p0 110 110 → RI p1 111 111 → RI p2 116 116 → RI p3 0 0 → RI p4 0 0 → RI p5 0 0 → RI p6 0 0 → RJ x7 10631 10631 → WD D cy GG A s wr_X10_spelt__19 wa_X10_spelt__19 Ps w0 Ps w0 H locs → lv_has ls 9 [(0, .int p0), (1, .int p1), (2, .int p2), (3, .int p3), (4, .int p4), (5, .int p5), (6, .int p6), (7, .long x7)] → W p l e (headSpec (Cond.code yX10_spelt cX10_spelt 9 (some .long) :: gT) ({ frames := 0, cells := 0, slots := 0, locals := 200 } : Room)).room s m ([.int p0, .int p1, .int p2, .int p3, .int p4, .int p5, .int p6] : List Value).toArray below meth c H locs 0 0 Q (F0 m 78 ls []) := by
    intro x7 H locs ls r_p0 r_p1 r_p2 r_p3 r_p4 r_p5 r_p6 r_x7 hw hl
    refine lv_iload hx hb dX10_spelt_78 (lv_at hl 5 rfl) ?_
    refine lv_if_le (tgt := 99) hx hb dX10_spelt_80 (by decide) (fun c_80 => ?_) (fun c_80 => ?_)
    · exact B99 x7 _ _ ls r_p0 r_p1 r_p2 r_p3 r_p4 r_p5 r_p6 r_x7 hw hl
    · have r_p5 : RI p5 1 0 := rc_lt2 rl_0 r_p5 (ti_nle c_80) (by decide)
      exact (r_p5.no (by decide)).elim
  have B57 : ∀ (x7 : Int64) (H : Heap) (locs : List Loc) (ls : Array Slot), RI p0 110 110 → RI p1 111 111 → RI p2 116 116 → RI p3 0 0 → RI p4 0 0 → RI p5 0 0 → RI p6 0 0 → RJ x7 10631 10631 → WD D cy GG A s wr_X10_spelt__19 wa_X10_spelt__19 Ps w0 Ps w0 H locs → lv_has ls 9 [(0, .int p0), (1, .int p1), (2, .int p2), (3, .int p3), (4, .int p4), (5, .int p5), (6, .int p6), (7, .long x7)] → W p l e (headSpec (Cond.code yX10_spelt cX10_spelt 9 (some .long) :: gT) ({ frames := 0, cells := 0, slots := 0, locals := 200 } : Room)).room s m ([.int p0, .int p1, .int p2, .int p3, .int p4, .int p5, .int p6] : List Value).toArray below meth c H locs 0 0 Q (F0 m 57 ls []) := by
    intro x7 H locs ls r_p0 r_p1 r_p2 r_p3 r_p4 r_p5 r_p6 r_x7 hw hl
    refine lv_iload hx hb dX10_spelt_57 (lv_at hl 4 rfl) ?_
    refine lv_if_le (tgt := 78) hx hb dX10_spelt_59 (by decide) (fun c_59 => ?_) (fun c_59 => ?_)
    · exact B78 x7 _ _ ls r_p0 r_p1 r_p2 r_p3 r_p4 r_p5 r_p6 r_x7 hw hl
    · have r_p4 : RI p4 1 0 := rc_lt2 rl_0 r_p4 (ti_nle c_59) (by decide)
      exact (r_p4.no (by decide)).elim
  have B38 : ∀ (x7 : Int64) (H : Heap) (locs : List Loc) (ls : Array Slot), RI p0 110 110 → RI p1 111 111 → RI p2 116 116 → RI p3 0 0 → RI p4 0 0 → RI p5 0 0 → RI p6 0 0 → RJ x7 10631 10631 → WD D cy GG A s wr_X10_spelt__19 wa_X10_spelt__19 Ps w0 Ps w0 H locs → lv_has ls 9 [(0, .int p0), (1, .int p1), (2, .int p2), (3, .int p3), (4, .int p4), (5, .int p5), (6, .int p6), (7, .long x7)] → W p l e (headSpec (Cond.code yX10_spelt cX10_spelt 9 (some .long) :: gT) ({ frames := 0, cells := 0, slots := 0, locals := 200 } : Room)).room s m ([.int p0, .int p1, .int p2, .int p3, .int p4, .int p5, .int p6] : List Value).toArray below meth c H locs 0 0 Q (F0 m 38 ls []) := by
    intro x7 H locs ls r_p0 r_p1 r_p2 r_p3 r_p4 r_p5 r_p6 r_x7 hw hl
    refine lv_iload_n hx hb dX10_spelt_38 rfl (lv_at hl 3 rfl) ?_
    refine lv_if_le (tgt := 57) hx hb dX10_spelt_39 (by decide) (fun c_39 => ?_) (fun c_39 => ?_)
    · exact B57 x7 _ _ ls r_p0 r_p1 r_p2 r_p3 r_p4 r_p5 r_p6 r_x7 hw hl
    · have r_p3 : RI p3 1 0 := rc_lt2 rl_0 r_p3 (ti_nle c_39) (by decide)
      exact (r_p3.no (by decide)).elim
  refine lv_ldc2 (v := 27) hx hb hown (hts _ tw_1312) dX10_spelt_0 ?_
  refine lv_iload_n hx hb dX10_spelt_3 rfl (lv_at hl 0 rfl) ?_
  obtain ⟨w_1, e_w_1⟩ : ∃ q9 : Int64, (p0 : Int32).toInt64 = q9 := ⟨_, rfl⟩
  refine lv_i2l (v := w_1) hx hb dX10_spelt_4 e_w_1 ?_
  have r_w_1 := tq_i2l r_p0 e_w_1
  refine lv_ldc2 (v := 96) hx hb hown (hts _ tw_1313) dX10_spelt_5 ?_
  refine lv_lsub hx hb dX10_spelt_8 (lv_topl (fun w_2 e_w_2 => ?_))
  have r_w_2 := tq_lsub (lo := 14) (hi := 14) r_w_1 rk_96 (by decide +kernel) e_w_2
  refine lv_lmul hx hb dX10_spelt_9 (lv_topl (fun w_3 e_w_3 => ?_))
  have r_w_3 := tq_lmul (lo := 378) (hi := 378) rk_27 r_w_2 (by decide +kernel) e_w_3
  refine lv_iload_n hx hb dX10_spelt_10 rfl (lv_at hl 1 rfl) ?_
  obtain ⟨w_4, e_w_4⟩ : ∃ q9 : Int64, (p1 : Int32).toInt64 = q9 := ⟨_, rfl⟩
  refine lv_i2l (v := w_4) hx hb dX10_spelt_11 e_w_4 ?_
  have r_w_4 := tq_i2l r_p1 e_w_4
  refine lv_ladd hx hb dX10_spelt_12 (lv_topl (fun w_5 e_w_5 => ?_))
  have r_w_5 := tq_ladd (lo := 489) (hi := 489) r_w_3 r_w_4 (by decide +kernel) e_w_5
  refine lv_ldc2 (v := 96) hx hb hown (hts _ tw_1313) dX10_spelt_13 ?_
  refine lv_lsub hx hb dX10_spelt_16 (lv_topl (fun w_6 e_w_6 => ?_))
  have r_w_6 := tq_lsub (lo := 393) (hi := 393) r_w_5 rk_96 (by decide +kernel) e_w_6
  refine lv_lstore (lv' := [(7, .long w_6), (0, .int p0), (1, .int p1), (2, .int p2), (3, .int p3), (4, .int p4), (5, .int p5), (6, .int p6)]) hx hb dX10_spelt_17 hl (by decide) rfl (fun ls hl => ?_)
  refine lv_iload_n hx hb dX10_spelt_19 rfl (lv_at hl 3 rfl) ?_
  refine lv_if_le (tgt := 38) hx hb dX10_spelt_20 (by decide) (fun c_20 => ?_) (fun c_20 => ?_)
  · have r_p2 : RI p2 116 0 := rc_le1 r_p2 rl_0 (ti_le c_20) (by decide)
    exact (r_p2.no (by decide)).elim
  · refine lv_ldc2 (v := 27) hx hb hown (hts _ tw_1312) dX10_spelt_23 ?_
    refine lv_lload hx hb dX10_spelt_26 (lv_at hl 0 rfl) ?_
    refine lv_lmul hx hb dX10_spelt_28 (lv_topl (fun w_7 e_w_7 => ?_))
    have r_w_7 := tq_lmul (lo := 10611) (hi := 10611) rk_27 r_w_6 (by decide +kernel) e_w_7
    refine lv_iload_n hx hb dX10_spelt_29 rfl (lv_at hl 3 rfl) ?_
    obtain ⟨w_8, e_w_8⟩ : ∃ q9 : Int64, (p2 : Int32).toInt64 = q9 := ⟨_, rfl⟩
    refine lv_i2l (v := w_8) hx hb dX10_spelt_30 e_w_8 ?_
    have r_w_8 := tq_i2l r_p2 e_w_8
    refine lv_ladd hx hb dX10_spelt_31 (lv_topl (fun w_9 e_w_9 => ?_))
    have r_w_9 := tq_ladd (lo := 10727) (hi := 10727) r_w_7 r_w_8 (by decide +kernel) e_w_9
    refine lv_ldc2 (v := 96) hx hb hown (hts _ tw_1313) dX10_spelt_32 ?_
    refine lv_lsub hx hb dX10_spelt_35 (lv_topl (fun w_10 e_w_10 => ?_))
    have r_w_10 := tq_lsub (lo := 10631) (hi := 10631) r_w_9 rk_96 (by decide +kernel) e_w_10
    refine lv_lstore (lv' := [(7, .long w_10), (0, .int p0), (1, .int p1), (2, .int p2), (3, .int p3), (4, .int p4), (5, .int p5), (6, .int p6)]) hx hb dX10_spelt_36 hl (by decide) rfl (fun ls hl => ?_)
    exact B38 w_10 _ _ ls r_p0 r_p1 r_p2 r_p3 r_p4 r_p5 r_p6 r_w_10 hw (lv_sub hl [1, 2, 3, 4, 5, 6, 7, 0] rfl)
abbrev wr_X10_spelt__20 : List (Nat × Nat) := []
abbrev wa_X10_spelt__20 : List Nat := []
set_option maxHeartbeats 4000000 in
set_option maxRecDepth 100000 in
theorem c_X10_spelt__20 (l : Launch) (D : va_G) (cy : Nat → ClassId) (z : Nat → Nat) (sz : Nat) (Ps : PSI) (w0 : va_W) (hT : HT cy GG Ps w0) (p0 : Int32) (p1 : Int32) (p2 : Int32) (p3 : Int32) (p4 : Int32) (p5 : Int32) (p6 : Int32) (r_p0 : RI p0 111 111) (r_p1 : RI p1 112 112) (r_p2 : RI p2 101 101) (r_p3 : RI p3 110 110) (r_p4 : RI p4 101 101) (r_p5 : RI p5 100 100) (r_p6 : RI p6 0 0) : Met l yX10_spelt (Cond.code yX10_spelt cX10_spelt 9 (some .long) :: gT) ({ frames := 0, cells := 0, slots := 0, locals := 200 } : Room) (va_Pc [.int p0, .int p1, .int p2, .int p3, .int p4, .int p5, .int p6] (PRE D cy z w0 sz)) (va_Ql (fun (r : Int64) (u : Unit) => RJ r 223845421 223845421) (BB D cy (va_A w0 sz) (fun (u : Unit) => w0)) (va_A w0 sz)) 0 0 (va_A w0 sz) := by
  refine Met.ofW (cc := cX10_spelt) (maxL := 9) (ret := (some .long)) (by decide) rfl ?_
  intro p e s m args below meth c s₁ B hml hv
  obtain ⟨rfl, hsz, hP, hK, hD0, hSD⟩ := hv
  have hx := B.exec
  have hb := B.bytes
  have hr := B.returns
  have hlocks := B.notSynchronized
  have hts : ∀ w ∈ gT, w.before _ s = true := fun w h => atoms_spec (ws := Cond.code yX10_spelt cX10_spelt 9 (some .long) :: gT) B.pre w (List.mem_cons_of_mem _ h)
  have hown : s.vm.findClass RX10 = some m.cls := findClass_of_methodNamed B.named
  subst hsz
  have hD := hD0.self (sz := s.heap.size)
  generalize hAe : va_A w0 s.heap.size = A at hD hSD ⊢
  have hA : ∀ q : Nat, s.heap.size ≤ q → A q := fun q h => by rw [← hAe]; exact Or.inr h
  have hl := lv_entry ([.int p0, .int p1, .int p2, .int p3, .int p4, .int p5, .int p6]) (n := 9) (Nat.le_of_ble_eq_true rfl)
  rw [lg_entry_eq]
  generalize (lg_sl ([.int p0, .int p1, .int p2, .int p3, .int p4, .int p5, .int p6]) ++ List.replicate (9 - (lg_sl ([.int p0, .int p1, .int p2, .int p3, .int p4, .int p5, .int p6])).length) Slot.unset).toArray = ls at hl ⊢
  have hl : lv_has ls 9 [(0, .int p0), (1, .int p1), (2, .int p2), (3, .int p3), (4, .int p4), (5, .int p5), (6, .int p6)] := hl
  refine nameQ (fun Q hQ => ?_)
  have hw : WD D cy GG A s wr_X10_spelt__20 wa_X10_spelt__20 Ps w0 Ps w0 s.heap [] := ⟨hT, hP, hD, va_S.rf, FR.rf, hT.1, [], (List.append_nil _).symm⟩
  have B99 : ∀ (x7 : Int64) (H : Heap) (locs : List Loc) (ls : Array Slot), RI p0 111 111 → RI p1 112 112 → RI p2 101 101 → RI p3 110 110 → RI p4 101 101 → RI p5 100 100 → RI p6 0 0 → RJ x7 223845421 223845421 → WD D cy GG A s wr_X10_spelt__20 wa_X10_spelt__20 Ps w0 Ps w0 H locs → lv_has ls 9 [(0, .int p0), (1, .int p1), (2, .int p2), (3, .int p3), (4, .int p4), (5, .int p5), (6, .int p6), (7, .long x7)] → W p l e (headSpec (Cond.code yX10_spelt cX10_spelt 9 (some .long) :: gT) ({ frames := 0, cells := 0, slots := 0, locals := 200 } : Room)).room s m ([.int p0, .int p1, .int p2, .int p3, .int p4, .int p5, .int p6] : List Value).toArray below meth c H locs 0 0 Q (F0 m 99 ls []) := by
    intro x7 H locs ls r_p0 r_p1 r_p2 r_p3 r_p4 r_p5 r_p6 r_x7 hw hl
    refine lv_iload hx hb dX10_spelt_99 (lv_at hl 6 rfl) ?_
    refine lv_if_le (tgt := 120) hx hb dX10_spelt_101 (by decide) (fun c_101 => ?_) (fun c_101 => ?_)
    · refine lv_lload hx hb dX10_spelt_120 (lv_at hl 7 rfl) ?_
      subst hQ
      exact W.lret (v := x7) hx hb hr (fun t ht hW => ⟨⟨x7, (), rfl, r_x7.to (by decide), by rw [ht]; exact hw.2.1, va_K.moved hW.alike hK, hw.2.2.1⟩, hw.2.2.2.1.F ht⟩) hw.2.2.2.1.2.2 dX10_spelt_122
    · have r_p6 : RI p6 1 0 := rc_lt2 rl_0 r_p6 (ti_nle c_101) (by decide)
      exact (r_p6.no (by decide)).elim
  have B78 : ∀ (x7 : Int64) (H : Heap) (locs : List Loc) (ls : Array Slot), RI p0 111 111 → RI p1 112 112 → RI p2 101 101 → RI p3 110 110 → RI p4 101 101 → RI p5 100 100 → RI p6 0 0 → RJ x7 8290571 8290571 → WD D cy GG A s wr_X10_spelt__20 wa_X10_spelt__20 Ps w0 Ps w0 H locs → lv_has ls 9 [(0, .int p0), (1, .int p1), (2, .int p2), (3, .int p3), (4, .int p4), (5, .int p5), (6, .int p6), (7, .long x7)] → W p l e (headSpec (Cond.code yX10_spelt cX10_spelt 9 (some .long) :: gT) ({ frames := 0, cells := 0, slots := 0, locals := 200 } : Room)).room s m ([.int p0, .int p1, .int p2, .int p3, .int p4, .int p5, .int p6] : List Value).toArray below meth c H locs 0 0 Q (F0 m 78 ls []) := by
    intro x7 H locs ls r_p0 r_p1 r_p2 r_p3 r_p4 r_p5 r_p6 r_x7 hw hl
    refine lv_iload hx hb dX10_spelt_78 (lv_at hl 5 rfl) ?_
    refine lv_if_le (tgt := 99) hx hb dX10_spelt_80 (by decide) (fun c_80 => ?_) (fun c_80 => ?_)
    · have r_p5 : RI p5 100 0 := rc_le1 r_p5 rl_0 (ti_le c_80) (by decide)
      exact (r_p5.no (by decide)).elim
    · refine lv_ldc2 (v := 27) hx hb hown (hts _ tw_1312) dX10_spelt_83 ?_
      refine lv_lload hx hb dX10_spelt_86 (lv_at hl 7 rfl) ?_
      refine lv_lmul hx hb dX10_spelt_88 (lv_topl (fun w_1 e_w_1 => ?_))
      have r_w_1 := tq_lmul (lo := 223845417) (hi := 223845417) rk_27 r_x7 (by decide +kernel) e_w_1
      refine lv_iload hx hb dX10_spelt_89 (lv_at hl 5 rfl) ?_
      obtain ⟨w_2, e_w_2⟩ : ∃ q9 : Int64, (p5 : Int32).toInt64 = q9 := ⟨_, rfl⟩
      refine lv_i2l (v := w_2) hx hb dX10_spelt_91 e_w_2 ?_
      have r_w_2 := tq_i2l r_p5 e_w_2
      refine lv_ladd hx hb dX10_spelt_92 (lv_topl (fun w_3 e_w_3 => ?_))
      have r_w_3 := tq_ladd (lo := 223845517) (hi := 223845517) r_w_1 r_w_2 (by decide +kernel) e_w_3
      refine lv_ldc2 (v := 96) hx hb hown (hts _ tw_1313) dX10_spelt_93 ?_
      refine lv_lsub hx hb dX10_spelt_96 (lv_topl (fun w_4 e_w_4 => ?_))
      have r_w_4 := tq_lsub (lo := 223845421) (hi := 223845421) r_w_3 rk_96 (by decide +kernel) e_w_4
      refine lv_lstore (lv' := [(7, .long w_4), (0, .int p0), (1, .int p1), (2, .int p2), (3, .int p3), (4, .int p4), (5, .int p5), (6, .int p6)]) hx hb dX10_spelt_97 hl (by decide) rfl (fun ls hl => ?_)
      exact B99 w_4 _ _ ls r_p0 r_p1 r_p2 r_p3 r_p4 r_p5 r_p6 r_w_4 hw (lv_sub hl [1, 2, 3, 4, 5, 6, 7, 0] rfl)
  have B57 : ∀ (x7 : Int64) (H : Heap) (locs : List Loc) (ls : Array Slot), RI p0 111 111 → RI p1 112 112 → RI p2 101 101 → RI p3 110 110 → RI p4 101 101 → RI p5 100 100 → RI p6 0 0 → RJ x7 307058 307058 → WD D cy GG A s wr_X10_spelt__20 wa_X10_spelt__20 Ps w0 Ps w0 H locs → lv_has ls 9 [(0, .int p0), (1, .int p1), (2, .int p2), (3, .int p3), (4, .int p4), (5, .int p5), (6, .int p6), (7, .long x7)] → W p l e (headSpec (Cond.code yX10_spelt cX10_spelt 9 (some .long) :: gT) ({ frames := 0, cells := 0, slots := 0, locals := 200 } : Room)).room s m ([.int p0, .int p1, .int p2, .int p3, .int p4, .int p5, .int p6] : List Value).toArray below meth c H locs 0 0 Q (F0 m 57 ls []) := by
    intro x7 H locs ls r_p0 r_p1 r_p2 r_p3 r_p4 r_p5 r_p6 r_x7 hw hl
    refine lv_iload hx hb dX10_spelt_57 (lv_at hl 4 rfl) ?_
    refine lv_if_le (tgt := 78) hx hb dX10_spelt_59 (by decide) (fun c_59 => ?_) (fun c_59 => ?_)
    · have r_p4 : RI p4 101 0 := rc_le1 r_p4 rl_0 (ti_le c_59) (by decide)
      exact (r_p4.no (by decide)).elim
    · refine lv_ldc2 (v := 27) hx hb hown (hts _ tw_1312) dX10_spelt_62 ?_
      refine lv_lload hx hb dX10_spelt_65 (lv_at hl 7 rfl) ?_
      refine lv_lmul hx hb dX10_spelt_67 (lv_topl (fun w_5 e_w_5 => ?_))
      have r_w_5 := tq_lmul (lo := 8290566) (hi := 8290566) rk_27 r_x7 (by decide +kernel) e_w_5
      refine lv_iload hx hb dX10_spelt_68 (lv_at hl 4 rfl) ?_
      obtain ⟨w_6, e_w_6⟩ : ∃ q9 : Int64, (p4 : Int32).toInt64 = q9 := ⟨_, rfl⟩
      refine lv_i2l (v := w_6) hx hb dX10_spelt_70 e_w_6 ?_
      have r_w_6 := tq_i2l r_p4 e_w_6
      refine lv_ladd hx hb dX10_spelt_71 (lv_topl (fun w_7 e_w_7 => ?_))
      have r_w_7 := tq_ladd (lo := 8290667) (hi := 8290667) r_w_5 r_w_6 (by decide +kernel) e_w_7
      refine lv_ldc2 (v := 96) hx hb hown (hts _ tw_1313) dX10_spelt_72 ?_
      refine lv_lsub hx hb dX10_spelt_75 (lv_topl (fun w_8 e_w_8 => ?_))
      have r_w_8 := tq_lsub (lo := 8290571) (hi := 8290571) r_w_7 rk_96 (by decide +kernel) e_w_8
      refine lv_lstore (lv' := [(7, .long w_8), (0, .int p0), (1, .int p1), (2, .int p2), (3, .int p3), (4, .int p4), (5, .int p5), (6, .int p6)]) hx hb dX10_spelt_76 hl (by decide) rfl (fun ls hl => ?_)
      exact B78 w_8 _ _ ls r_p0 r_p1 r_p2 r_p3 r_p4 r_p5 r_p6 r_w_8 hw (lv_sub hl [1, 2, 3, 4, 5, 6, 7, 0] rfl)
  have B38 : ∀ (x7 : Int64) (H : Heap) (locs : List Loc) (ls : Array Slot), RI p0 111 111 → RI p1 112 112 → RI p2 101 101 → RI p3 110 110 → RI p4 101 101 → RI p5 100 100 → RI p6 0 0 → RJ x7 11372 11372 → WD D cy GG A s wr_X10_spelt__20 wa_X10_spelt__20 Ps w0 Ps w0 H locs → lv_has ls 9 [(0, .int p0), (1, .int p1), (2, .int p2), (3, .int p3), (4, .int p4), (5, .int p5), (6, .int p6), (7, .long x7)] → W p l e (headSpec (Cond.code yX10_spelt cX10_spelt 9 (some .long) :: gT) ({ frames := 0, cells := 0, slots := 0, locals := 200 } : Room)).room s m ([.int p0, .int p1, .int p2, .int p3, .int p4, .int p5, .int p6] : List Value).toArray below meth c H locs 0 0 Q (F0 m 38 ls []) := by
    intro x7 H locs ls r_p0 r_p1 r_p2 r_p3 r_p4 r_p5 r_p6 r_x7 hw hl
    refine lv_iload_n hx hb dX10_spelt_38 rfl (lv_at hl 3 rfl) ?_
    refine lv_if_le (tgt := 57) hx hb dX10_spelt_39 (by decide) (fun c_39 => ?_) (fun c_39 => ?_)
    · have r_p3 : RI p3 110 0 := rc_le1 r_p3 rl_0 (ti_le c_39) (by decide)
      exact (r_p3.no (by decide)).elim
    · refine lv_ldc2 (v := 27) hx hb hown (hts _ tw_1312) dX10_spelt_42 ?_
      refine lv_lload hx hb dX10_spelt_45 (lv_at hl 7 rfl) ?_
      refine lv_lmul hx hb dX10_spelt_47 (lv_topl (fun w_9 e_w_9 => ?_))
      have r_w_9 := tq_lmul (lo := 307044) (hi := 307044) rk_27 r_x7 (by decide +kernel) e_w_9
      refine lv_iload_n hx hb dX10_spelt_48 rfl (lv_at hl 3 rfl) ?_
      obtain ⟨w_10, e_w_10⟩ : ∃ q9 : Int64, (p3 : Int32).toInt64 = q9 := ⟨_, rfl⟩
      refine lv_i2l (v := w_10) hx hb dX10_spelt_49 e_w_10 ?_
      have r_w_10 := tq_i2l r_p3 e_w_10
      refine lv_ladd hx hb dX10_spelt_50 (lv_topl (fun w_11 e_w_11 => ?_))
      have r_w_11 := tq_ladd (lo := 307154) (hi := 307154) r_w_9 r_w_10 (by decide +kernel) e_w_11
      refine lv_ldc2 (v := 96) hx hb hown (hts _ tw_1313) dX10_spelt_51 ?_
      refine lv_lsub hx hb dX10_spelt_54 (lv_topl (fun w_12 e_w_12 => ?_))
      have r_w_12 := tq_lsub (lo := 307058) (hi := 307058) r_w_11 rk_96 (by decide +kernel) e_w_12
      refine lv_lstore (lv' := [(7, .long w_12), (0, .int p0), (1, .int p1), (2, .int p2), (3, .int p3), (4, .int p4), (5, .int p5), (6, .int p6)]) hx hb dX10_spelt_55 hl (by decide) rfl (fun ls hl => ?_)
      exact B57 w_12 _ _ ls r_p0 r_p1 r_p2 r_p3 r_p4 r_p5 r_p6 r_w_12 hw (lv_sub hl [1, 2, 3, 4, 5, 6, 7, 0] rfl)
  refine lv_ldc2 (v := 27) hx hb hown (hts _ tw_1312) dX10_spelt_0 ?_
  refine lv_iload_n hx hb dX10_spelt_3 rfl (lv_at hl 0 rfl) ?_
  obtain ⟨w_13, e_w_13⟩ : ∃ q9 : Int64, (p0 : Int32).toInt64 = q9 := ⟨_, rfl⟩
  refine lv_i2l (v := w_13) hx hb dX10_spelt_4 e_w_13 ?_
  have r_w_13 := tq_i2l r_p0 e_w_13
  refine lv_ldc2 (v := 96) hx hb hown (hts _ tw_1313) dX10_spelt_5 ?_
  refine lv_lsub hx hb dX10_spelt_8 (lv_topl (fun w_14 e_w_14 => ?_))
  have r_w_14 := tq_lsub (lo := 15) (hi := 15) r_w_13 rk_96 (by decide +kernel) e_w_14
  refine lv_lmul hx hb dX10_spelt_9 (lv_topl (fun w_15 e_w_15 => ?_))
  have r_w_15 := tq_lmul (lo := 405) (hi := 405) rk_27 r_w_14 (by decide +kernel) e_w_15
  refine lv_iload_n hx hb dX10_spelt_10 rfl (lv_at hl 1 rfl) ?_
  obtain ⟨w_16, e_w_16⟩ : ∃ q9 : Int64, (p1 : Int32).toInt64 = q9 := ⟨_, rfl⟩
  refine lv_i2l (v := w_16) hx hb dX10_spelt_11 e_w_16 ?_
  have r_w_16 := tq_i2l r_p1 e_w_16
  refine lv_ladd hx hb dX10_spelt_12 (lv_topl (fun w_17 e_w_17 => ?_))
  have r_w_17 := tq_ladd (lo := 517) (hi := 517) r_w_15 r_w_16 (by decide +kernel) e_w_17
  refine lv_ldc2 (v := 96) hx hb hown (hts _ tw_1313) dX10_spelt_13 ?_
  refine lv_lsub hx hb dX10_spelt_16 (lv_topl (fun w_18 e_w_18 => ?_))
  have r_w_18 := tq_lsub (lo := 421) (hi := 421) r_w_17 rk_96 (by decide +kernel) e_w_18
  refine lv_lstore (lv' := [(7, .long w_18), (0, .int p0), (1, .int p1), (2, .int p2), (3, .int p3), (4, .int p4), (5, .int p5), (6, .int p6)]) hx hb dX10_spelt_17 hl (by decide) rfl (fun ls hl => ?_)
  refine lv_iload_n hx hb dX10_spelt_19 rfl (lv_at hl 3 rfl) ?_
  refine lv_if_le (tgt := 38) hx hb dX10_spelt_20 (by decide) (fun c_20 => ?_) (fun c_20 => ?_)
  · have r_p2 : RI p2 101 0 := rc_le1 r_p2 rl_0 (ti_le c_20) (by decide)
    exact (r_p2.no (by decide)).elim
  · refine lv_ldc2 (v := 27) hx hb hown (hts _ tw_1312) dX10_spelt_23 ?_
    refine lv_lload hx hb dX10_spelt_26 (lv_at hl 0 rfl) ?_
    refine lv_lmul hx hb dX10_spelt_28 (lv_topl (fun w_19 e_w_19 => ?_))
    have r_w_19 := tq_lmul (lo := 11367) (hi := 11367) rk_27 r_w_18 (by decide +kernel) e_w_19
    refine lv_iload_n hx hb dX10_spelt_29 rfl (lv_at hl 3 rfl) ?_
    obtain ⟨w_20, e_w_20⟩ : ∃ q9 : Int64, (p2 : Int32).toInt64 = q9 := ⟨_, rfl⟩
    refine lv_i2l (v := w_20) hx hb dX10_spelt_30 e_w_20 ?_
    have r_w_20 := tq_i2l r_p2 e_w_20
    refine lv_ladd hx hb dX10_spelt_31 (lv_topl (fun w_21 e_w_21 => ?_))
    have r_w_21 := tq_ladd (lo := 11468) (hi := 11468) r_w_19 r_w_20 (by decide +kernel) e_w_21
    refine lv_ldc2 (v := 96) hx hb hown (hts _ tw_1313) dX10_spelt_32 ?_
    refine lv_lsub hx hb dX10_spelt_35 (lv_topl (fun w_22 e_w_22 => ?_))
    have r_w_22 := tq_lsub (lo := 11372) (hi := 11372) r_w_21 rk_96 (by decide +kernel) e_w_22
    refine lv_lstore (lv' := [(7, .long w_22), (0, .int p0), (1, .int p1), (2, .int p2), (3, .int p3), (4, .int p4), (5, .int p5), (6, .int p6)]) hx hb dX10_spelt_36 hl (by decide) rfl (fun ls hl => ?_)
    exact B38 w_22 _ _ ls r_p0 r_p1 r_p2 r_p3 r_p4 r_p5 r_p6 r_w_22 hw (lv_sub hl [1, 2, 3, 4, 5, 6, 7, 0] rfl)
abbrev wr_X10_spelt__21 : List (Nat × Nat) := []
abbrev wa_X10_spelt__21 : List Nat := []
set_option maxHeartbeats 4000000 in
set_option maxRecDepth 100000 in
theorem c_X10_spelt__21 (l : Launch) (D : va_G) (cy : Nat → ClassId) (z : Nat → Nat) (sz : Nat) (Ps : PSI) (w0 : va_W) (hT : HT cy GG Ps w0) (p0 : Int32) (p1 : Int32) (p2 : Int32) (p3 : Int32) (p4 : Int32) (p5 : Int32) (p6 : Int32) (r_p0 : RI p0 110 110) (r_p1 : RI p1 111 111) (r_p2 : RI p2 116 116) (r_p3 : RI p3 104 104) (r_p4 : RI p4 105 105) (r_p5 : RI p5 110 110) (r_p6 : RI p6 103 103) : Met l yX10_spelt (Cond.code yX10_spelt cX10_spelt 9 (some .long) :: gT) ({ frames := 0, cells := 0, slots := 0, locals := 200 } : Room) (va_Pc [.int p0, .int p1, .int p2, .int p3, .int p4, .int p5, .int p6] (PRE D cy z w0 sz)) (va_Ql (fun (r : Int64) (u : Unit) => RJ r 5649913681 5649913681) (BB D cy (va_A w0 sz) (fun (u : Unit) => w0)) (va_A w0 sz)) 0 0 (va_A w0 sz) := by
  refine Met.ofW (cc := cX10_spelt) (maxL := 9) (ret := (some .long)) (by decide) rfl ?_
  intro p e s m args below meth c s₁ B hml hv
  obtain ⟨rfl, hsz, hP, hK, hD0, hSD⟩ := hv
  have hx := B.exec
  have hb := B.bytes
  have hr := B.returns
  have hlocks := B.notSynchronized
  have hts : ∀ w ∈ gT, w.before _ s = true := fun w h => atoms_spec (ws := Cond.code yX10_spelt cX10_spelt 9 (some .long) :: gT) B.pre w (List.mem_cons_of_mem _ h)
  have hown : s.vm.findClass RX10 = some m.cls := findClass_of_methodNamed B.named
  subst hsz
  have hD := hD0.self (sz := s.heap.size)
  generalize hAe : va_A w0 s.heap.size = A at hD hSD ⊢
  have hA : ∀ q : Nat, s.heap.size ≤ q → A q := fun q h => by rw [← hAe]; exact Or.inr h
  have hl := lv_entry ([.int p0, .int p1, .int p2, .int p3, .int p4, .int p5, .int p6]) (n := 9) (Nat.le_of_ble_eq_true rfl)
  rw [lg_entry_eq]
  generalize (lg_sl ([.int p0, .int p1, .int p2, .int p3, .int p4, .int p5, .int p6]) ++ List.replicate (9 - (lg_sl ([.int p0, .int p1, .int p2, .int p3, .int p4, .int p5, .int p6])).length) Slot.unset).toArray = ls at hl ⊢
  have hl : lv_has ls 9 [(0, .int p0), (1, .int p1), (2, .int p2), (3, .int p3), (4, .int p4), (5, .int p5), (6, .int p6)] := hl
  refine nameQ (fun Q hQ => ?_)
  have hw : WD D cy GG A s wr_X10_spelt__21 wa_X10_spelt__21 Ps w0 Ps w0 s.heap [] := ⟨hT, hP, hD, va_S.rf, FR.rf, hT.1, [], (List.append_nil _).symm⟩
  have B99 : ∀ (x7 : Int64) (H : Heap) (locs : List Loc) (ls : Array Slot), RI p0 110 110 → RI p1 111 111 → RI p2 116 116 → RI p3 104 104 → RI p4 105 105 → RI p5 110 110 → RI p6 103 103 → RJ x7 209256062 209256062 → WD D cy GG A s wr_X10_spelt__21 wa_X10_spelt__21 Ps w0 Ps w0 H locs → lv_has ls 9 [(0, .int p0), (1, .int p1), (2, .int p2), (3, .int p3), (4, .int p4), (5, .int p5), (6, .int p6), (7, .long x7)] → W p l e (headSpec (Cond.code yX10_spelt cX10_spelt 9 (some .long) :: gT) ({ frames := 0, cells := 0, slots := 0, locals := 200 } : Room)).room s m ([.int p0, .int p1, .int p2, .int p3, .int p4, .int p5, .int p6] : List Value).toArray below meth c H locs 0 0 Q (F0 m 99 ls []) := by
    intro x7 H locs ls r_p0 r_p1 r_p2 r_p3 r_p4 r_p5 r_p6 r_x7 hw hl
    refine lv_iload hx hb dX10_spelt_99 (lv_at hl 6 rfl) ?_
    refine lv_if_le (tgt := 120) hx hb dX10_spelt_101 (by decide) (fun c_101 => ?_) (fun c_101 => ?_)
    · have r_p6 : RI p6 103 0 := rc_le1 r_p6 rl_0 (ti_le c_101) (by decide)
      exact (r_p6.no (by decide)).elim
    · refine lv_ldc2 (v := 27) hx hb hown (hts _ tw_1312) dX10_spelt_104 ?_
      refine lv_lload hx hb dX10_spelt_107 (lv_at hl 7 rfl) ?_
      refine lv_lmul hx hb dX10_spelt_109 (lv_topl (fun w_1 e_w_1 => ?_))
      have r_w_1 := tq_lmul (lo := 5649913674) (hi := 5649913674) rk_27 r_x7 (by decide +kernel) e_w_1
      refine lv_iload hx hb dX10_spelt_110 (lv_at hl 6 rfl) ?_
      obtain ⟨w_2, e_w_2⟩ : ∃ q9 : Int64, (p6 : Int32).toInt64 = q9 := ⟨_, rfl⟩
      refine lv_i2l (v := w_2) hx hb dX10_spelt_112 e_w_2 ?_
      have r_w_2 := tq_i2l r_p6 e_w_2
      refine lv_ladd hx hb dX10_spelt_113 (lv_topl (fun w_3 e_w_3 => ?_))
      have r_w_3 := tq_ladd (lo := 5649913777) (hi := 5649913777) r_w_1 r_w_2 (by decide +kernel) e_w_3
      refine lv_ldc2 (v := 96) hx hb hown (hts _ tw_1313) dX10_spelt_114 ?_
      refine lv_lsub hx hb dX10_spelt_117 (lv_topl (fun w_4 e_w_4 => ?_))
      have r_w_4 := tq_lsub (lo := 5649913681) (hi := 5649913681) r_w_3 rk_96 (by decide +kernel) e_w_4
      refine lv_lstore (lv' := [(7, .long w_4), (0, .int p0), (1, .int p1), (2, .int p2), (3, .int p3), (4, .int p4), (5, .int p5), (6, .int p6)]) hx hb dX10_spelt_118 hl (by decide) rfl (fun ls hl => ?_)
      refine lv_lload hx hb dX10_spelt_120 (lv_at hl 0 rfl) ?_
      subst hQ
      exact W.lret (v := w_4) hx hb hr (fun t ht hW => ⟨⟨w_4, (), rfl, r_w_4.to (by decide), by rw [ht]; exact hw.2.1, va_K.moved hW.alike hK, hw.2.2.1⟩, hw.2.2.2.1.F ht⟩) hw.2.2.2.1.2.2 dX10_spelt_122
  have B78 : ∀ (x7 : Int64) (H : Heap) (locs : List Loc) (ls : Array Slot), RI p0 110 110 → RI p1 111 111 → RI p2 116 116 → RI p3 104 104 → RI p4 105 105 → RI p5 110 110 → RI p6 103 103 → RJ x7 7750224 7750224 → WD D cy GG A s wr_X10_spelt__21 wa_X10_spelt__21 Ps w0 Ps w0 H locs → lv_has ls 9 [(0, .int p0), (1, .int p1), (2, .int p2), (3, .int p3), (4, .int p4), (5, .int p5), (6, .int p6), (7, .long x7)] → W p l e (headSpec (Cond.code yX10_spelt cX10_spelt 9 (some .long) :: gT) ({ frames := 0, cells := 0, slots := 0, locals := 200 } : Room)).room s m ([.int p0, .int p1, .int p2, .int p3, .int p4, .int p5, .int p6] : List Value).toArray below meth c H locs 0 0 Q (F0 m 78 ls []) := by
    intro x7 H locs ls r_p0 r_p1 r_p2 r_p3 r_p4 r_p5 r_p6 r_x7 hw hl
    refine lv_iload hx hb dX10_spelt_78 (lv_at hl 5 rfl) ?_
    refine lv_if_le (tgt := 99) hx hb dX10_spelt_80 (by decide) (fun c_80 => ?_) (fun c_80 => ?_)
    · have r_p5 : RI p5 110 0 := rc_le1 r_p5 rl_0 (ti_le c_80) (by decide)
      exact (r_p5.no (by decide)).elim
    · refine lv_ldc2 (v := 27) hx hb hown (hts _ tw_1312) dX10_spelt_83 ?_
      refine lv_lload hx hb dX10_spelt_86 (lv_at hl 7 rfl) ?_
      refine lv_lmul hx hb dX10_spelt_88 (lv_topl (fun w_5 e_w_5 => ?_))
      have r_w_5 := tq_lmul (lo := 209256048) (hi := 209256048) rk_27 r_x7 (by decide +kernel) e_w_5
      refine lv_iload hx hb dX10_spelt_89 (lv_at hl 5 rfl) ?_
      obtain ⟨w_6, e_w_6⟩ : ∃ q9 : Int64, (p5 : Int32).toInt64 = q9 := ⟨_, rfl⟩
      refine lv_i2l (v := w_6) hx hb dX10_spelt_91 e_w_6 ?_
      have r_w_6 := tq_i2l r_p5 e_w_6
      refine lv_ladd hx hb dX10_spelt_92 (lv_topl (fun w_7 e_w_7 => ?_))
      have r_w_7 := tq_ladd (lo := 209256158) (hi := 209256158) r_w_5 r_w_6 (by decide +kernel) e_w_7
      refine lv_ldc2 (v := 96) hx hb hown (hts _ tw_1313) dX10_spelt_93 ?_
      refine lv_lsub hx hb dX10_spelt_96 (lv_topl (fun w_8 e_w_8 => ?_))
      have r_w_8 := tq_lsub (lo := 209256062) (hi := 209256062) r_w_7 rk_96 (by decide +kernel) e_w_8
      refine lv_lstore (lv' := [(7, .long w_8), (0, .int p0), (1, .int p1), (2, .int p2), (3, .int p3), (4, .int p4), (5, .int p5), (6, .int p6)]) hx hb dX10_spelt_97 hl (by decide) rfl (fun ls hl => ?_)
      exact B99 w_8 _ _ ls r_p0 r_p1 r_p2 r_p3 r_p4 r_p5 r_p6 r_w_8 hw (lv_sub hl [1, 2, 3, 4, 5, 6, 7, 0] rfl)
  have B57 : ∀ (x7 : Int64) (H : Heap) (locs : List Loc) (ls : Array Slot), RI p0 110 110 → RI p1 111 111 → RI p2 116 116 → RI p3 104 104 → RI p4 105 105 → RI p5 110 110 → RI p6 103 103 → RJ x7 287045 287045 → WD D cy GG A s wr_X10_spelt__21 wa_X10_spelt__21 Ps w0 Ps w0 H locs → lv_has ls 9 [(0, .int p0), (1, .int p1), (2, .int p2), (3, .int p3), (4, .int p4), (5, .int p5), (6, .int p6), (7, .long x7)] → W p l e (headSpec (Cond.code yX10_spelt cX10_spelt 9 (some .long) :: gT) ({ frames := 0, cells := 0, slots := 0, locals := 200 } : Room)).room s m ([.int p0, .int p1, .int p2, .int p3, .int p4, .int p5, .int p6] : List Value).toArray below meth c H locs 0 0 Q (F0 m 57 ls []) := by
    intro x7 H locs ls r_p0 r_p1 r_p2 r_p3 r_p4 r_p5 r_p6 r_x7 hw hl
    refine lv_iload hx hb dX10_spelt_57 (lv_at hl 4 rfl) ?_
    refine lv_if_le (tgt := 78) hx hb dX10_spelt_59 (by decide) (fun c_59 => ?_) (fun c_59 => ?_)
    · have r_p4 : RI p4 105 0 := rc_le1 r_p4 rl_0 (ti_le c_59) (by decide)
      exact (r_p4.no (by decide)).elim
    · refine lv_ldc2 (v := 27) hx hb hown (hts _ tw_1312) dX10_spelt_62 ?_
      refine lv_lload hx hb dX10_spelt_65 (lv_at hl 7 rfl) ?_
      refine lv_lmul hx hb dX10_spelt_67 (lv_topl (fun w_9 e_w_9 => ?_))
      have r_w_9 := tq_lmul (lo := 7750215) (hi := 7750215) rk_27 r_x7 (by decide +kernel) e_w_9
      refine lv_iload hx hb dX10_spelt_68 (lv_at hl 4 rfl) ?_
      obtain ⟨w_10, e_w_10⟩ : ∃ q9 : Int64, (p4 : Int32).toInt64 = q9 := ⟨_, rfl⟩
      refine lv_i2l (v := w_10) hx hb dX10_spelt_70 e_w_10 ?_
      have r_w_10 := tq_i2l r_p4 e_w_10
      refine lv_ladd hx hb dX10_spelt_71 (lv_topl (fun w_11 e_w_11 => ?_))
      have r_w_11 := tq_ladd (lo := 7750320) (hi := 7750320) r_w_9 r_w_10 (by decide +kernel) e_w_11
      refine lv_ldc2 (v := 96) hx hb hown (hts _ tw_1313) dX10_spelt_72 ?_
      refine lv_lsub hx hb dX10_spelt_75 (lv_topl (fun w_12 e_w_12 => ?_))
      have r_w_12 := tq_lsub (lo := 7750224) (hi := 7750224) r_w_11 rk_96 (by decide +kernel) e_w_12
      refine lv_lstore (lv' := [(7, .long w_12), (0, .int p0), (1, .int p1), (2, .int p2), (3, .int p3), (4, .int p4), (5, .int p5), (6, .int p6)]) hx hb dX10_spelt_76 hl (by decide) rfl (fun ls hl => ?_)
      exact B78 w_12 _ _ ls r_p0 r_p1 r_p2 r_p3 r_p4 r_p5 r_p6 r_w_12 hw (lv_sub hl [1, 2, 3, 4, 5, 6, 7, 0] rfl)
  have B38 : ∀ (x7 : Int64) (H : Heap) (locs : List Loc) (ls : Array Slot), RI p0 110 110 → RI p1 111 111 → RI p2 116 116 → RI p3 104 104 → RI p4 105 105 → RI p5 110 110 → RI p6 103 103 → RJ x7 10631 10631 → WD D cy GG A s wr_X10_spelt__21 wa_X10_spelt__21 Ps w0 Ps w0 H locs → lv_has ls 9 [(0, .int p0), (1, .int p1), (2, .int p2), (3, .int p3), (4, .int p4), (5, .int p5), (6, .int p6), (7, .long x7)] → W p l e (headSpec (Cond.code yX10_spelt cX10_spelt 9 (some .long) :: gT) ({ frames := 0, cells := 0, slots := 0, locals := 200 } : Room)).room s m ([.int p0, .int p1, .int p2, .int p3, .int p4, .int p5, .int p6] : List Value).toArray below meth c H locs 0 0 Q (F0 m 38 ls []) := by
    intro x7 H locs ls r_p0 r_p1 r_p2 r_p3 r_p4 r_p5 r_p6 r_x7 hw hl
    refine lv_iload_n hx hb dX10_spelt_38 rfl (lv_at hl 3 rfl) ?_
    refine lv_if_le (tgt := 57) hx hb dX10_spelt_39 (by decide) (fun c_39 => ?_) (fun c_39 => ?_)
    · have r_p3 : RI p3 104 0 := rc_le1 r_p3 rl_0 (ti_le c_39) (by decide)
      exact (r_p3.no (by decide)).elim
    · refine lv_ldc2 (v := 27) hx hb hown (hts _ tw_1312) dX10_spelt_42 ?_
      refine lv_lload hx hb dX10_spelt_45 (lv_at hl 7 rfl) ?_
      refine lv_lmul hx hb dX10_spelt_47 (lv_topl (fun w_13 e_w_13 => ?_))
      have r_w_13 := tq_lmul (lo := 287037) (hi := 287037) rk_27 r_x7 (by decide +kernel) e_w_13
      refine lv_iload_n hx hb dX10_spelt_48 rfl (lv_at hl 3 rfl) ?_
      obtain ⟨w_14, e_w_14⟩ : ∃ q9 : Int64, (p3 : Int32).toInt64 = q9 := ⟨_, rfl⟩
      refine lv_i2l (v := w_14) hx hb dX10_spelt_49 e_w_14 ?_
      have r_w_14 := tq_i2l r_p3 e_w_14
      refine lv_ladd hx hb dX10_spelt_50 (lv_topl (fun w_15 e_w_15 => ?_))
      have r_w_15 := tq_ladd (lo := 287141) (hi := 287141) r_w_13 r_w_14 (by decide +kernel) e_w_15
      refine lv_ldc2 (v := 96) hx hb hown (hts _ tw_1313) dX10_spelt_51 ?_
      refine lv_lsub hx hb dX10_spelt_54 (lv_topl (fun w_16 e_w_16 => ?_))
      have r_w_16 := tq_lsub (lo := 287045) (hi := 287045) r_w_15 rk_96 (by decide +kernel) e_w_16
      refine lv_lstore (lv' := [(7, .long w_16), (0, .int p0), (1, .int p1), (2, .int p2), (3, .int p3), (4, .int p4), (5, .int p5), (6, .int p6)]) hx hb dX10_spelt_55 hl (by decide) rfl (fun ls hl => ?_)
      exact B57 w_16 _ _ ls r_p0 r_p1 r_p2 r_p3 r_p4 r_p5 r_p6 r_w_16 hw (lv_sub hl [1, 2, 3, 4, 5, 6, 7, 0] rfl)
  refine lv_ldc2 (v := 27) hx hb hown (hts _ tw_1312) dX10_spelt_0 ?_
  refine lv_iload_n hx hb dX10_spelt_3 rfl (lv_at hl 0 rfl) ?_
  obtain ⟨w_17, e_w_17⟩ : ∃ q9 : Int64, (p0 : Int32).toInt64 = q9 := ⟨_, rfl⟩
  refine lv_i2l (v := w_17) hx hb dX10_spelt_4 e_w_17 ?_
  have r_w_17 := tq_i2l r_p0 e_w_17
  refine lv_ldc2 (v := 96) hx hb hown (hts _ tw_1313) dX10_spelt_5 ?_
  refine lv_lsub hx hb dX10_spelt_8 (lv_topl (fun w_18 e_w_18 => ?_))
  have r_w_18 := tq_lsub (lo := 14) (hi := 14) r_w_17 rk_96 (by decide +kernel) e_w_18
  refine lv_lmul hx hb dX10_spelt_9 (lv_topl (fun w_19 e_w_19 => ?_))
  have r_w_19 := tq_lmul (lo := 378) (hi := 378) rk_27 r_w_18 (by decide +kernel) e_w_19
  refine lv_iload_n hx hb dX10_spelt_10 rfl (lv_at hl 1 rfl) ?_
  obtain ⟨w_20, e_w_20⟩ : ∃ q9 : Int64, (p1 : Int32).toInt64 = q9 := ⟨_, rfl⟩
  refine lv_i2l (v := w_20) hx hb dX10_spelt_11 e_w_20 ?_
  have r_w_20 := tq_i2l r_p1 e_w_20
  refine lv_ladd hx hb dX10_spelt_12 (lv_topl (fun w_21 e_w_21 => ?_))
  have r_w_21 := tq_ladd (lo := 489) (hi := 489) r_w_19 r_w_20 (by decide +kernel) e_w_21
  refine lv_ldc2 (v := 96) hx hb hown (hts _ tw_1313) dX10_spelt_13 ?_
  refine lv_lsub hx hb dX10_spelt_16 (lv_topl (fun w_22 e_w_22 => ?_))
  have r_w_22 := tq_lsub (lo := 393) (hi := 393) r_w_21 rk_96 (by decide +kernel) e_w_22
  refine lv_lstore (lv' := [(7, .long w_22), (0, .int p0), (1, .int p1), (2, .int p2), (3, .int p3), (4, .int p4), (5, .int p5), (6, .int p6)]) hx hb dX10_spelt_17 hl (by decide) rfl (fun ls hl => ?_)
  refine lv_iload_n hx hb dX10_spelt_19 rfl (lv_at hl 3 rfl) ?_
  refine lv_if_le (tgt := 38) hx hb dX10_spelt_20 (by decide) (fun c_20 => ?_) (fun c_20 => ?_)
  · have r_p2 : RI p2 116 0 := rc_le1 r_p2 rl_0 (ti_le c_20) (by decide)
    exact (r_p2.no (by decide)).elim
  · refine lv_ldc2 (v := 27) hx hb hown (hts _ tw_1312) dX10_spelt_23 ?_
    refine lv_lload hx hb dX10_spelt_26 (lv_at hl 0 rfl) ?_
    refine lv_lmul hx hb dX10_spelt_28 (lv_topl (fun w_23 e_w_23 => ?_))
    have r_w_23 := tq_lmul (lo := 10611) (hi := 10611) rk_27 r_w_22 (by decide +kernel) e_w_23
    refine lv_iload_n hx hb dX10_spelt_29 rfl (lv_at hl 3 rfl) ?_
    obtain ⟨w_24, e_w_24⟩ : ∃ q9 : Int64, (p2 : Int32).toInt64 = q9 := ⟨_, rfl⟩
    refine lv_i2l (v := w_24) hx hb dX10_spelt_30 e_w_24 ?_
    have r_w_24 := tq_i2l r_p2 e_w_24
    refine lv_ladd hx hb dX10_spelt_31 (lv_topl (fun w_25 e_w_25 => ?_))
    have r_w_25 := tq_ladd (lo := 10727) (hi := 10727) r_w_23 r_w_24 (by decide +kernel) e_w_25
    refine lv_ldc2 (v := 96) hx hb hown (hts _ tw_1313) dX10_spelt_32 ?_
    refine lv_lsub hx hb dX10_spelt_35 (lv_topl (fun w_26 e_w_26 => ?_))
    have r_w_26 := tq_lsub (lo := 10631) (hi := 10631) r_w_25 rk_96 (by decide +kernel) e_w_26
    refine lv_lstore (lv' := [(7, .long w_26), (0, .int p0), (1, .int p1), (2, .int p2), (3, .int p3), (4, .int p4), (5, .int p5), (6, .int p6)]) hx hb dX10_spelt_36 hl (by decide) rfl (fun ls hl => ?_)
    exact B38 w_26 _ _ ls r_p0 r_p1 r_p2 r_p3 r_p4 r_p5 r_p6 r_w_26 hw (lv_sub hl [1, 2, 3, 4, 5, 6, 7, 0] rfl)
abbrev wr_X10_spelt__22 : List (Nat × Nat) := []
abbrev wa_X10_spelt__22 : List Nat := []
set_option maxHeartbeats 4000000 in
set_option maxRecDepth 100000 in
theorem c_X10_spelt__22 (l : Launch) (D : va_G) (cy : Nat → ClassId) (z : Nat → Nat) (sz : Nat) (Ps : PSI) (w0 : va_W) (hT : HT cy GG Ps w0) (p0 : Int32) (p1 : Int32) (p2 : Int32) (p3 : Int32) (p4 : Int32) (p5 : Int32) (p6 : Int32) (r_p0 : RI p0 119 119) (r_p1 : RI p1 97 97) (r_p2 : RI p2 116 116) (r_p3 : RI p3 99 99) (r_p4 : RI p4 104 104) (r_p5 : RI p5 101 101) (r_p6 : RI p6 100 100) : Met l yX10_spelt (Cond.code yX10_spelt cX10_spelt 9 (some .long) :: gT) ({ frames := 0, cells := 0, slots := 0, locals := 200 } : Room) (va_Pc [.int p0, .int p1, .int p2, .int p3, .int p4, .int p5, .int p6] (PRE D cy z w0 sz)) (va_Ql (fun (r : Int64) (u : Unit) => RJ r 8935713994 8935713994) (BB D cy (va_A w0 sz) (fun (u : Unit) => w0)) (va_A w0 sz)) 0 0 (va_A w0 sz) := by
  refine Met.ofW (cc := cX10_spelt) (maxL := 9) (ret := (some .long)) (by decide) rfl ?_
  intro p e s m args below meth c s₁ B hml hv
  obtain ⟨rfl, hsz, hP, hK, hD0, hSD⟩ := hv
  have hx := B.exec
  have hb := B.bytes
  have hr := B.returns
  have hlocks := B.notSynchronized
  have hts : ∀ w ∈ gT, w.before _ s = true := fun w h => atoms_spec (ws := Cond.code yX10_spelt cX10_spelt 9 (some .long) :: gT) B.pre w (List.mem_cons_of_mem _ h)
  have hown : s.vm.findClass RX10 = some m.cls := findClass_of_methodNamed B.named
  subst hsz
  have hD := hD0.self (sz := s.heap.size)
  generalize hAe : va_A w0 s.heap.size = A at hD hSD ⊢
  have hA : ∀ q : Nat, s.heap.size ≤ q → A q := fun q h => by rw [← hAe]; exact Or.inr h
  have hl := lv_entry ([.int p0, .int p1, .int p2, .int p3, .int p4, .int p5, .int p6]) (n := 9) (Nat.le_of_ble_eq_true rfl)
  rw [lg_entry_eq]
  generalize (lg_sl ([.int p0, .int p1, .int p2, .int p3, .int p4, .int p5, .int p6]) ++ List.replicate (9 - (lg_sl ([.int p0, .int p1, .int p2, .int p3, .int p4, .int p5, .int p6])).length) Slot.unset).toArray = ls at hl ⊢
  have hl : lv_has ls 9 [(0, .int p0), (1, .int p1), (2, .int p2), (3, .int p3), (4, .int p4), (5, .int p5), (6, .int p6)] := hl
  refine nameQ (fun Q hQ => ?_)
  have hw : WD D cy GG A s wr_X10_spelt__22 wa_X10_spelt__22 Ps w0 Ps w0 s.heap [] := ⟨hT, hP, hD, va_S.rf, FR.rf, hT.1, [], (List.append_nil _).symm⟩
  have B99 : ∀ (x7 : Int64) (H : Heap) (locs : List Loc) (ls : Array Slot), RI p0 119 119 → RI p1 97 97 → RI p2 116 116 → RI p3 99 99 → RI p4 104 104 → RI p5 101 101 → RI p6 100 100 → RJ x7 330952370 330952370 → WD D cy GG A s wr_X10_spelt__22 wa_X10_spelt__22 Ps w0 Ps w0 H locs → lv_has ls 9 [(0, .int p0), (1, .int p1), (2, .int p2), (3, .int p3), (4, .int p4), (5, .int p5), (6, .int p6), (7, .long x7)] → W p l e (headSpec (Cond.code yX10_spelt cX10_spelt 9 (some .long) :: gT) ({ frames := 0, cells := 0, slots := 0, locals := 200 } : Room)).room s m ([.int p0, .int p1, .int p2, .int p3, .int p4, .int p5, .int p6] : List Value).toArray below meth c H locs 0 0 Q (F0 m 99 ls []) := by
    intro x7 H locs ls r_p0 r_p1 r_p2 r_p3 r_p4 r_p5 r_p6 r_x7 hw hl
    refine lv_iload hx hb dX10_spelt_99 (lv_at hl 6 rfl) ?_
    refine lv_if_le (tgt := 120) hx hb dX10_spelt_101 (by decide) (fun c_101 => ?_) (fun c_101 => ?_)
    · have r_p6 : RI p6 100 0 := rc_le1 r_p6 rl_0 (ti_le c_101) (by decide)
      exact (r_p6.no (by decide)).elim
    · refine lv_ldc2 (v := 27) hx hb hown (hts _ tw_1312) dX10_spelt_104 ?_
      refine lv_lload hx hb dX10_spelt_107 (lv_at hl 7 rfl) ?_
      refine lv_lmul hx hb dX10_spelt_109 (lv_topl (fun w_1 e_w_1 => ?_))
      have r_w_1 := tq_lmul (lo := 8935713990) (hi := 8935713990) rk_27 r_x7 (by decide +kernel) e_w_1
      refine lv_iload hx hb dX10_spelt_110 (lv_at hl 6 rfl) ?_
      obtain ⟨w_2, e_w_2⟩ : ∃ q9 : Int64, (p6 : Int32).toInt64 = q9 := ⟨_, rfl⟩
      refine lv_i2l (v := w_2) hx hb dX10_spelt_112 e_w_2 ?_
      have r_w_2 := tq_i2l r_p6 e_w_2
      refine lv_ladd hx hb dX10_spelt_113 (lv_topl (fun w_3 e_w_3 => ?_))
      have r_w_3 := tq_ladd (lo := 8935714090) (hi := 8935714090) r_w_1 r_w_2 (by decide +kernel) e_w_3
      refine lv_ldc2 (v := 96) hx hb hown (hts _ tw_1313) dX10_spelt_114 ?_
      refine lv_lsub hx hb dX10_spelt_117 (lv_topl (fun w_4 e_w_4 => ?_))
      have r_w_4 := tq_lsub (lo := 8935713994) (hi := 8935713994) r_w_3 rk_96 (by decide +kernel) e_w_4
      refine lv_lstore (lv' := [(7, .long w_4), (0, .int p0), (1, .int p1), (2, .int p2), (3, .int p3), (4, .int p4), (5, .int p5), (6, .int p6)]) hx hb dX10_spelt_118 hl (by decide) rfl (fun ls hl => ?_)
      refine lv_lload hx hb dX10_spelt_120 (lv_at hl 0 rfl) ?_
      subst hQ
      exact W.lret (v := w_4) hx hb hr (fun t ht hW => ⟨⟨w_4, (), rfl, r_w_4.to (by decide), by rw [ht]; exact hw.2.1, va_K.moved hW.alike hK, hw.2.2.1⟩, hw.2.2.2.1.F ht⟩) hw.2.2.2.1.2.2 dX10_spelt_122
  have B78 : ∀ (x7 : Int64) (H : Heap) (locs : List Loc) (ls : Array Slot), RI p0 119 119 → RI p1 97 97 → RI p2 116 116 → RI p3 99 99 → RI p4 104 104 → RI p5 101 101 → RI p6 100 100 → RJ x7 12257495 12257495 → WD D cy GG A s wr_X10_spelt__22 wa_X10_spelt__22 Ps w0 Ps w0 H locs → lv_has ls 9 [(0, .int p0), (1, .int p1), (2, .int p2), (3, .int p3), (4, .int p4), (5, .int p5), (6, .int p6), (7, .long x7)] → W p l e (headSpec (Cond.code yX10_spelt cX10_spelt 9 (some .long) :: gT) ({ frames := 0, cells := 0, slots := 0, locals := 200 } : Room)).room s m ([.int p0, .int p1, .int p2, .int p3, .int p4, .int p5, .int p6] : List Value).toArray below meth c H locs 0 0 Q (F0 m 78 ls []) := by
    intro x7 H locs ls r_p0 r_p1 r_p2 r_p3 r_p4 r_p5 r_p6 r_x7 hw hl
    refine lv_iload hx hb dX10_spelt_78 (lv_at hl 5 rfl) ?_
    refine lv_if_le (tgt := 99) hx hb dX10_spelt_80 (by decide) (fun c_80 => ?_) (fun c_80 => ?_)
    · have r_p5 : RI p5 101 0 := rc_le1 r_p5 rl_0 (ti_le c_80) (by decide)
      exact (r_p5.no (by decide)).elim
    · refine lv_ldc2 (v := 27) hx hb hown (hts _ tw_1312) dX10_spelt_83 ?_
      refine lv_lload hx hb dX10_spelt_86 (lv_at hl 7 rfl) ?_
      refine lv_lmul hx hb dX10_spelt_88 (lv_topl (fun w_5 e_w_5 => ?_))
      have r_w_5 := tq_lmul (lo := 330952365) (hi := 330952365) rk_27 r_x7 (by decide +kernel) e_w_5
      refine lv_iload hx hb dX10_spelt_89 (lv_at hl 5 rfl) ?_
      obtain ⟨w_6, e_w_6⟩ : ∃ q9 : Int64, (p5 : Int32).toInt64 = q9 := ⟨_, rfl⟩
      refine lv_i2l (v := w_6) hx hb dX10_spelt_91 e_w_6 ?_
      have r_w_6 := tq_i2l r_p5 e_w_6
      refine lv_ladd hx hb dX10_spelt_92 (lv_topl (fun w_7 e_w_7 => ?_))
      have r_w_7 := tq_ladd (lo := 330952466) (hi := 330952466) r_w_5 r_w_6 (by decide +kernel) e_w_7
      refine lv_ldc2 (v := 96) hx hb hown (hts _ tw_1313) dX10_spelt_93 ?_
      refine lv_lsub hx hb dX10_spelt_96 (lv_topl (fun w_8 e_w_8 => ?_))
      have r_w_8 := tq_lsub (lo := 330952370) (hi := 330952370) r_w_7 rk_96 (by decide +kernel) e_w_8
      refine lv_lstore (lv' := [(7, .long w_8), (0, .int p0), (1, .int p1), (2, .int p2), (3, .int p3), (4, .int p4), (5, .int p5), (6, .int p6)]) hx hb dX10_spelt_97 hl (by decide) rfl (fun ls hl => ?_)
      exact B99 w_8 _ _ ls r_p0 r_p1 r_p2 r_p3 r_p4 r_p5 r_p6 r_w_8 hw (lv_sub hl [1, 2, 3, 4, 5, 6, 7, 0] rfl)
  have B57 : ∀ (x7 : Int64) (H : Heap) (locs : List Loc) (ls : Array Slot), RI p0 119 119 → RI p1 97 97 → RI p2 116 116 → RI p3 99 99 → RI p4 104 104 → RI p5 101 101 → RI p6 100 100 → RJ x7 453981 453981 → WD D cy GG A s wr_X10_spelt__22 wa_X10_spelt__22 Ps w0 Ps w0 H locs → lv_has ls 9 [(0, .int p0), (1, .int p1), (2, .int p2), (3, .int p3), (4, .int p4), (5, .int p5), (6, .int p6), (7, .long x7)] → W p l e (headSpec (Cond.code yX10_spelt cX10_spelt 9 (some .long) :: gT) ({ frames := 0, cells := 0, slots := 0, locals := 200 } : Room)).room s m ([.int p0, .int p1, .int p2, .int p3, .int p4, .int p5, .int p6] : List Value).toArray below meth c H locs 0 0 Q (F0 m 57 ls []) := by
    intro x7 H locs ls r_p0 r_p1 r_p2 r_p3 r_p4 r_p5 r_p6 r_x7 hw hl
    refine lv_iload hx hb dX10_spelt_57 (lv_at hl 4 rfl) ?_
    refine lv_if_le (tgt := 78) hx hb dX10_spelt_59 (by decide) (fun c_59 => ?_) (fun c_59 => ?_)
    · have r_p4 : RI p4 104 0 := rc_le1 r_p4 rl_0 (ti_le c_59) (by decide)
      exact (r_p4.no (by decide)).elim
    · refine lv_ldc2 (v := 27) hx hb hown (hts _ tw_1312) dX10_spelt_62 ?_
      refine lv_lload hx hb dX10_spelt_65 (lv_at hl 7 rfl) ?_
      refine lv_lmul hx hb dX10_spelt_67 (lv_topl (fun w_9 e_w_9 => ?_))
      have r_w_9 := tq_lmul (lo := 12257487) (hi := 12257487) rk_27 r_x7 (by decide +kernel) e_w_9
      refine lv_iload hx hb dX10_spelt_68 (lv_at hl 4 rfl) ?_
      obtain ⟨w_10, e_w_10⟩ : ∃ q9 : Int64, (p4 : Int32).toInt64 = q9 := ⟨_, rfl⟩
      refine lv_i2l (v := w_10) hx hb dX10_spelt_70 e_w_10 ?_
      have r_w_10 := tq_i2l r_p4 e_w_10
      refine lv_ladd hx hb dX10_spelt_71 (lv_topl (fun w_11 e_w_11 => ?_))
      have r_w_11 := tq_ladd (lo := 12257591) (hi := 12257591) r_w_9 r_w_10 (by decide +kernel) e_w_11
      refine lv_ldc2 (v := 96) hx hb hown (hts _ tw_1313) dX10_spelt_72 ?_
      refine lv_lsub hx hb dX10_spelt_75 (lv_topl (fun w_12 e_w_12 => ?_))
      have r_w_12 := tq_lsub (lo := 12257495) (hi := 12257495) r_w_11 rk_96 (by decide +kernel) e_w_12
      refine lv_lstore (lv' := [(7, .long w_12), (0, .int p0), (1, .int p1), (2, .int p2), (3, .int p3), (4, .int p4), (5, .int p5), (6, .int p6)]) hx hb dX10_spelt_76 hl (by decide) rfl (fun ls hl => ?_)
      exact B78 w_12 _ _ ls r_p0 r_p1 r_p2 r_p3 r_p4 r_p5 r_p6 r_w_12 hw (lv_sub hl [1, 2, 3, 4, 5, 6, 7, 0] rfl)
  have B38 : ∀ (x7 : Int64) (H : Heap) (locs : List Loc) (ls : Array Slot), RI p0 119 119 → RI p1 97 97 → RI p2 116 116 → RI p3 99 99 → RI p4 104 104 → RI p5 101 101 → RI p6 100 100 → RJ x7 16814 16814 → WD D cy GG A s wr_X10_spelt__22 wa_X10_spelt__22 Ps w0 Ps w0 H locs → lv_has ls 9 [(0, .int p0), (1, .int p1), (2, .int p2), (3, .int p3), (4, .int p4), (5, .int p5), (6, .int p6), (7, .long x7)] → W p l e (headSpec (Cond.code yX10_spelt cX10_spelt 9 (some .long) :: gT) ({ frames := 0, cells := 0, slots := 0, locals := 200 } : Room)).room s m ([.int p0, .int p1, .int p2, .int p3, .int p4, .int p5, .int p6] : List Value).toArray below meth c H locs 0 0 Q (F0 m 38 ls []) := by
    intro x7 H locs ls r_p0 r_p1 r_p2 r_p3 r_p4 r_p5 r_p6 r_x7 hw hl
    refine lv_iload_n hx hb dX10_spelt_38 rfl (lv_at hl 3 rfl) ?_
    refine lv_if_le (tgt := 57) hx hb dX10_spelt_39 (by decide) (fun c_39 => ?_) (fun c_39 => ?_)
    · have r_p3 : RI p3 99 0 := rc_le1 r_p3 rl_0 (ti_le c_39) (by decide)
      exact (r_p3.no (by decide)).elim
    · refine lv_ldc2 (v := 27) hx hb hown (hts _ tw_1312) dX10_spelt_42 ?_
      refine lv_lload hx hb dX10_spelt_45 (lv_at hl 7 rfl) ?_
      refine lv_lmul hx hb dX10_spelt_47 (lv_topl (fun w_13 e_w_13 => ?_))
      have r_w_13 := tq_lmul (lo := 453978) (hi := 453978) rk_27 r_x7 (by decide +kernel) e_w_13
      refine lv_iload_n hx hb dX10_spelt_48 rfl (lv_at hl 3 rfl) ?_
      obtain ⟨w_14, e_w_14⟩ : ∃ q9 : Int64, (p3 : Int32).toInt64 = q9 := ⟨_, rfl⟩
      refine lv_i2l (v := w_14) hx hb dX10_spelt_49 e_w_14 ?_
      have r_w_14 := tq_i2l r_p3 e_w_14
      refine lv_ladd hx hb dX10_spelt_50 (lv_topl (fun w_15 e_w_15 => ?_))
      have r_w_15 := tq_ladd (lo := 454077) (hi := 454077) r_w_13 r_w_14 (by decide +kernel) e_w_15
      refine lv_ldc2 (v := 96) hx hb hown (hts _ tw_1313) dX10_spelt_51 ?_
      refine lv_lsub hx hb dX10_spelt_54 (lv_topl (fun w_16 e_w_16 => ?_))
      have r_w_16 := tq_lsub (lo := 453981) (hi := 453981) r_w_15 rk_96 (by decide +kernel) e_w_16
      refine lv_lstore (lv' := [(7, .long w_16), (0, .int p0), (1, .int p1), (2, .int p2), (3, .int p3), (4, .int p4), (5, .int p5), (6, .int p6)]) hx hb dX10_spelt_55 hl (by decide) rfl (fun ls hl => ?_)
      exact B57 w_16 _ _ ls r_p0 r_p1 r_p2 r_p3 r_p4 r_p5 r_p6 r_w_16 hw (lv_sub hl [1, 2, 3, 4, 5, 6, 7, 0] rfl)
  refine lv_ldc2 (v := 27) hx hb hown (hts _ tw_1312) dX10_spelt_0 ?_
  refine lv_iload_n hx hb dX10_spelt_3 rfl (lv_at hl 0 rfl) ?_
  obtain ⟨w_17, e_w_17⟩ : ∃ q9 : Int64, (p0 : Int32).toInt64 = q9 := ⟨_, rfl⟩
  refine lv_i2l (v := w_17) hx hb dX10_spelt_4 e_w_17 ?_
  have r_w_17 := tq_i2l r_p0 e_w_17
  refine lv_ldc2 (v := 96) hx hb hown (hts _ tw_1313) dX10_spelt_5 ?_
  refine lv_lsub hx hb dX10_spelt_8 (lv_topl (fun w_18 e_w_18 => ?_))
  have r_w_18 := tq_lsub (lo := 23) (hi := 23) r_w_17 rk_96 (by decide +kernel) e_w_18
  refine lv_lmul hx hb dX10_spelt_9 (lv_topl (fun w_19 e_w_19 => ?_))
  have r_w_19 := tq_lmul (lo := 621) (hi := 621) rk_27 r_w_18 (by decide +kernel) e_w_19
  refine lv_iload_n hx hb dX10_spelt_10 rfl (lv_at hl 1 rfl) ?_
  obtain ⟨w_20, e_w_20⟩ : ∃ q9 : Int64, (p1 : Int32).toInt64 = q9 := ⟨_, rfl⟩
  refine lv_i2l (v := w_20) hx hb dX10_spelt_11 e_w_20 ?_
  have r_w_20 := tq_i2l r_p1 e_w_20
  refine lv_ladd hx hb dX10_spelt_12 (lv_topl (fun w_21 e_w_21 => ?_))
  have r_w_21 := tq_ladd (lo := 718) (hi := 718) r_w_19 r_w_20 (by decide +kernel) e_w_21
  refine lv_ldc2 (v := 96) hx hb hown (hts _ tw_1313) dX10_spelt_13 ?_
  refine lv_lsub hx hb dX10_spelt_16 (lv_topl (fun w_22 e_w_22 => ?_))
  have r_w_22 := tq_lsub (lo := 622) (hi := 622) r_w_21 rk_96 (by decide +kernel) e_w_22
  refine lv_lstore (lv' := [(7, .long w_22), (0, .int p0), (1, .int p1), (2, .int p2), (3, .int p3), (4, .int p4), (5, .int p5), (6, .int p6)]) hx hb dX10_spelt_17 hl (by decide) rfl (fun ls hl => ?_)
  refine lv_iload_n hx hb dX10_spelt_19 rfl (lv_at hl 3 rfl) ?_
  refine lv_if_le (tgt := 38) hx hb dX10_spelt_20 (by decide) (fun c_20 => ?_) (fun c_20 => ?_)
  · have r_p2 : RI p2 116 0 := rc_le1 r_p2 rl_0 (ti_le c_20) (by decide)
    exact (r_p2.no (by decide)).elim
  · refine lv_ldc2 (v := 27) hx hb hown (hts _ tw_1312) dX10_spelt_23 ?_
    refine lv_lload hx hb dX10_spelt_26 (lv_at hl 0 rfl) ?_
    refine lv_lmul hx hb dX10_spelt_28 (lv_topl (fun w_23 e_w_23 => ?_))
    have r_w_23 := tq_lmul (lo := 16794) (hi := 16794) rk_27 r_w_22 (by decide +kernel) e_w_23
    refine lv_iload_n hx hb dX10_spelt_29 rfl (lv_at hl 3 rfl) ?_
    obtain ⟨w_24, e_w_24⟩ : ∃ q9 : Int64, (p2 : Int32).toInt64 = q9 := ⟨_, rfl⟩
    refine lv_i2l (v := w_24) hx hb dX10_spelt_30 e_w_24 ?_
    have r_w_24 := tq_i2l r_p2 e_w_24
    refine lv_ladd hx hb dX10_spelt_31 (lv_topl (fun w_25 e_w_25 => ?_))
    have r_w_25 := tq_ladd (lo := 16910) (hi := 16910) r_w_23 r_w_24 (by decide +kernel) e_w_25
    refine lv_ldc2 (v := 96) hx hb hown (hts _ tw_1313) dX10_spelt_32 ?_
    refine lv_lsub hx hb dX10_spelt_35 (lv_topl (fun w_26 e_w_26 => ?_))
    have r_w_26 := tq_lsub (lo := 16814) (hi := 16814) r_w_25 rk_96 (by decide +kernel) e_w_26
    refine lv_lstore (lv' := [(7, .long w_26), (0, .int p0), (1, .int p1), (2, .int p2), (3, .int p3), (4, .int p4), (5, .int p5), (6, .int p6)]) hx hb dX10_spelt_36 hl (by decide) rfl (fun ls hl => ?_)
    exact B38 w_26 _ _ ls r_p0 r_p1 r_p2 r_p3 r_p4 r_p5 r_p6 r_w_26 hw (lv_sub hl [1, 2, 3, 4, 5, 6, 7, 0] rfl)
abbrev wr_X10_spelt__23 : List (Nat × Nat) := []
abbrev wa_X10_spelt__23 : List Nat := []
set_option maxHeartbeats 4000000 in
set_option maxRecDepth 100000 in
theorem c_X10_spelt__23 (l : Launch) (D : va_G) (cy : Nat → ClassId) (z : Nat → Nat) (sz : Nat) (Ps : PSI) (w0 : va_W) (hT : HT cy GG Ps w0) (p0 : Int32) (p1 : Int32) (p2 : Int32) (p3 : Int32) (p4 : Int32) (p5 : Int32) (p6 : Int32) (r_p0 : RI p0 105 105) (r_p1 : RI p1 115 115) (r_p2 : RI p2 0 0) (r_p3 : RI p3 0 0) (r_p4 : RI p4 0 0) (r_p5 : RI p5 0 0) (r_p6 : RI p6 0 0) : Met l yX10_spelt (Cond.code yX10_spelt cX10_spelt 9 (some .long) :: gT) ({ frames := 0, cells := 0, slots := 0, locals := 200 } : Room) (va_Pc [.int p0, .int p1, .int p2, .int p3, .int p4, .int p5, .int p6] (PRE D cy z w0 sz)) (va_Ql (fun (r : Int64) (u : Unit) => RJ r 262 262) (BB D cy (va_A w0 sz) (fun (u : Unit) => w0)) (va_A w0 sz)) 0 0 (va_A w0 sz) := by
  refine Met.ofW (cc := cX10_spelt) (maxL := 9) (ret := (some .long)) (by decide) rfl ?_
  intro p e s m args below meth c s₁ B hml hv
  obtain ⟨rfl, hsz, hP, hK, hD0, hSD⟩ := hv
  have hx := B.exec
  have hb := B.bytes
  have hr := B.returns
  have hlocks := B.notSynchronized
  have hts : ∀ w ∈ gT, w.before _ s = true := fun w h => atoms_spec (ws := Cond.code yX10_spelt cX10_spelt 9 (some .long) :: gT) B.pre w (List.mem_cons_of_mem _ h)
  have hown : s.vm.findClass RX10 = some m.cls := findClass_of_methodNamed B.named
  subst hsz
  have hD := hD0.self (sz := s.heap.size)
  generalize hAe : va_A w0 s.heap.size = A at hD hSD ⊢
  have hA : ∀ q : Nat, s.heap.size ≤ q → A q := fun q h => by rw [← hAe]; exact Or.inr h
  have hl := lv_entry ([.int p0, .int p1, .int p2, .int p3, .int p4, .int p5, .int p6]) (n := 9) (Nat.le_of_ble_eq_true rfl)
  rw [lg_entry_eq]
  generalize (lg_sl ([.int p0, .int p1, .int p2, .int p3, .int p4, .int p5, .int p6]) ++ List.replicate (9 - (lg_sl ([.int p0, .int p1, .int p2, .int p3, .int p4, .int p5, .int p6])).length) Slot.unset).toArray = ls at hl ⊢
  have hl : lv_has ls 9 [(0, .int p0), (1, .int p1), (2, .int p2), (3, .int p3), (4, .int p4), (5, .int p5), (6, .int p6)] := hl
  refine nameQ (fun Q hQ => ?_)
  have hw : WD D cy GG A s wr_X10_spelt__23 wa_X10_spelt__23 Ps w0 Ps w0 s.heap [] := ⟨hT, hP, hD, va_S.rf, FR.rf, hT.1, [], (List.append_nil _).symm⟩
  have B99 : ∀ (x7 : Int64) (H : Heap) (locs : List Loc) (ls : Array Slot), RI p0 105 105 → RI p1 115 115 → RI p2 0 0 → RI p3 0 0 → RI p4 0 0 → RI p5 0 0 → RI p6 0 0 → RJ x7 262 262 → WD D cy GG A s wr_X10_spelt__23 wa_X10_spelt__23 Ps w0 Ps w0 H locs → lv_has ls 9 [(0, .int p0), (1, .int p1), (2, .int p2), (3, .int p3), (4, .int p4), (5, .int p5), (6, .int p6), (7, .long x7)] → W p l e (headSpec (Cond.code yX10_spelt cX10_spelt 9 (some .long) :: gT) ({ frames := 0, cells := 0, slots := 0, locals := 200 } : Room)).room s m ([.int p0, .int p1, .int p2, .int p3, .int p4, .int p5, .int p6] : List Value).toArray below meth c H locs 0 0 Q (F0 m 99 ls []) := by
    intro x7 H locs ls r_p0 r_p1 r_p2 r_p3 r_p4 r_p5 r_p6 r_x7 hw hl
    refine lv_iload hx hb dX10_spelt_99 (lv_at hl 6 rfl) ?_
    refine lv_if_le (tgt := 120) hx hb dX10_spelt_101 (by decide) (fun c_101 => ?_) (fun c_101 => ?_)
    · refine lv_lload hx hb dX10_spelt_120 (lv_at hl 7 rfl) ?_
      subst hQ
      exact W.lret (v := x7) hx hb hr (fun t ht hW => ⟨⟨x7, (), rfl, r_x7.to (by decide), by rw [ht]; exact hw.2.1, va_K.moved hW.alike hK, hw.2.2.1⟩, hw.2.2.2.1.F ht⟩) hw.2.2.2.1.2.2 dX10_spelt_122
    · have r_p6 : RI p6 1 0 := rc_lt2 rl_0 r_p6 (ti_nle c_101) (by decide)
      exact (r_p6.no (by decide)).elim
  have B78 : ∀ (x7 : Int64) (H : Heap) (locs : List Loc) (ls : Array Slot), RI p0 105 105 → RI p1 115 115 → RI p2 0 0 → RI p3 0 0 → RI p4 0 0 → RI p5 0 0 → RI p6 0 0 → RJ x7 262 262 → WD D cy GG A s wr_X10_spelt__23 wa_X10_spelt__23 Ps w0 Ps w0 H locs → lv_has ls 9 [(0, .int p0), (1, .int p1), (2, .int p2), (3, .int p3), (4, .int p4), (5, .int p5), (6, .int p6), (7, .long x7)] → W p l e (headSpec (Cond.code yX10_spelt cX10_spelt 9 (some .long) :: gT) ({ frames := 0, cells := 0, slots := 0, locals := 200 } : Room)).room s m ([.int p0, .int p1, .int p2, .int p3, .int p4, .int p5, .int p6] : List Value).toArray below meth c H locs 0 0 Q (F0 m 78 ls []) := by
    intro x7 H locs ls r_p0 r_p1 r_p2 r_p3 r_p4 r_p5 r_p6 r_x7 hw hl
    refine lv_iload hx hb dX10_spelt_78 (lv_at hl 5 rfl) ?_
    refine lv_if_le (tgt := 99) hx hb dX10_spelt_80 (by decide) (fun c_80 => ?_) (fun c_80 => ?_)
    · exact B99 x7 _ _ ls r_p0 r_p1 r_p2 r_p3 r_p4 r_p5 r_p6 r_x7 hw hl
    · have r_p5 : RI p5 1 0 := rc_lt2 rl_0 r_p5 (ti_nle c_80) (by decide)
      exact (r_p5.no (by decide)).elim
  have B57 : ∀ (x7 : Int64) (H : Heap) (locs : List Loc) (ls : Array Slot), RI p0 105 105 → RI p1 115 115 → RI p2 0 0 → RI p3 0 0 → RI p4 0 0 → RI p5 0 0 → RI p6 0 0 → RJ x7 262 262 → WD D cy GG A s wr_X10_spelt__23 wa_X10_spelt__23 Ps w0 Ps w0 H locs → lv_has ls 9 [(0, .int p0), (1, .int p1), (2, .int p2), (3, .int p3), (4, .int p4), (5, .int p5), (6, .int p6), (7, .long x7)] → W p l e (headSpec (Cond.code yX10_spelt cX10_spelt 9 (some .long) :: gT) ({ frames := 0, cells := 0, slots := 0, locals := 200 } : Room)).room s m ([.int p0, .int p1, .int p2, .int p3, .int p4, .int p5, .int p6] : List Value).toArray below meth c H locs 0 0 Q (F0 m 57 ls []) := by
    intro x7 H locs ls r_p0 r_p1 r_p2 r_p3 r_p4 r_p5 r_p6 r_x7 hw hl
    refine lv_iload hx hb dX10_spelt_57 (lv_at hl 4 rfl) ?_
    refine lv_if_le (tgt := 78) hx hb dX10_spelt_59 (by decide) (fun c_59 => ?_) (fun c_59 => ?_)
    · exact B78 x7 _ _ ls r_p0 r_p1 r_p2 r_p3 r_p4 r_p5 r_p6 r_x7 hw hl
    · have r_p4 : RI p4 1 0 := rc_lt2 rl_0 r_p4 (ti_nle c_59) (by decide)
      exact (r_p4.no (by decide)).elim
  have B38 : ∀ (x7 : Int64) (H : Heap) (locs : List Loc) (ls : Array Slot), RI p0 105 105 → RI p1 115 115 → RI p2 0 0 → RI p3 0 0 → RI p4 0 0 → RI p5 0 0 → RI p6 0 0 → RJ x7 262 262 → WD D cy GG A s wr_X10_spelt__23 wa_X10_spelt__23 Ps w0 Ps w0 H locs → lv_has ls 9 [(0, .int p0), (1, .int p1), (2, .int p2), (3, .int p3), (4, .int p4), (5, .int p5), (6, .int p6), (7, .long x7)] → W p l e (headSpec (Cond.code yX10_spelt cX10_spelt 9 (some .long) :: gT) ({ frames := 0, cells := 0, slots := 0, locals := 200 } : Room)).room s m ([.int p0, .int p1, .int p2, .int p3, .int p4, .int p5, .int p6] : List Value).toArray below meth c H locs 0 0 Q (F0 m 38 ls []) := by
    intro x7 H locs ls r_p0 r_p1 r_p2 r_p3 r_p4 r_p5 r_p6 r_x7 hw hl
    refine lv_iload_n hx hb dX10_spelt_38 rfl (lv_at hl 3 rfl) ?_
    refine lv_if_le (tgt := 57) hx hb dX10_spelt_39 (by decide) (fun c_39 => ?_) (fun c_39 => ?_)
    · exact B57 x7 _ _ ls r_p0 r_p1 r_p2 r_p3 r_p4 r_p5 r_p6 r_x7 hw hl
    · have r_p3 : RI p3 1 0 := rc_lt2 rl_0 r_p3 (ti_nle c_39) (by decide)
      exact (r_p3.no (by decide)).elim
  refine lv_ldc2 (v := 27) hx hb hown (hts _ tw_1312) dX10_spelt_0 ?_
  refine lv_iload_n hx hb dX10_spelt_3 rfl (lv_at hl 0 rfl) ?_
  obtain ⟨w_1, e_w_1⟩ : ∃ q9 : Int64, (p0 : Int32).toInt64 = q9 := ⟨_, rfl⟩
  refine lv_i2l (v := w_1) hx hb dX10_spelt_4 e_w_1 ?_
  have r_w_1 := tq_i2l r_p0 e_w_1
  refine lv_ldc2 (v := 96) hx hb hown (hts _ tw_1313) dX10_spelt_5 ?_
  refine lv_lsub hx hb dX10_spelt_8 (lv_topl (fun w_2 e_w_2 => ?_))
  have r_w_2 := tq_lsub (lo := 9) (hi := 9) r_w_1 rk_96 (by decide +kernel) e_w_2
  refine lv_lmul hx hb dX10_spelt_9 (lv_topl (fun w_3 e_w_3 => ?_))
  have r_w_3 := tq_lmul (lo := 243) (hi := 243) rk_27 r_w_2 (by decide +kernel) e_w_3
  refine lv_iload_n hx hb dX10_spelt_10 rfl (lv_at hl 1 rfl) ?_
  obtain ⟨w_4, e_w_4⟩ : ∃ q9 : Int64, (p1 : Int32).toInt64 = q9 := ⟨_, rfl⟩
  refine lv_i2l (v := w_4) hx hb dX10_spelt_11 e_w_4 ?_
  have r_w_4 := tq_i2l r_p1 e_w_4
  refine lv_ladd hx hb dX10_spelt_12 (lv_topl (fun w_5 e_w_5 => ?_))
  have r_w_5 := tq_ladd (lo := 358) (hi := 358) r_w_3 r_w_4 (by decide +kernel) e_w_5
  refine lv_ldc2 (v := 96) hx hb hown (hts _ tw_1313) dX10_spelt_13 ?_
  refine lv_lsub hx hb dX10_spelt_16 (lv_topl (fun w_6 e_w_6 => ?_))
  have r_w_6 := tq_lsub (lo := 262) (hi := 262) r_w_5 rk_96 (by decide +kernel) e_w_6
  refine lv_lstore (lv' := [(7, .long w_6), (0, .int p0), (1, .int p1), (2, .int p2), (3, .int p3), (4, .int p4), (5, .int p5), (6, .int p6)]) hx hb dX10_spelt_17 hl (by decide) rfl (fun ls hl => ?_)
  refine lv_iload_n hx hb dX10_spelt_19 rfl (lv_at hl 3 rfl) ?_
  refine lv_if_le (tgt := 38) hx hb dX10_spelt_20 (by decide) (fun c_20 => ?_) (fun c_20 => ?_)
  · exact B38 w_6 _ _ ls r_p0 r_p1 r_p2 r_p3 r_p4 r_p5 r_p6 r_w_6 hw (lv_sub hl [1, 2, 3, 4, 5, 6, 7, 0] rfl)
  · have r_p2 : RI p2 1 0 := rc_lt2 rl_0 r_p2 (ti_nle c_20) (by decide)
    exact (r_p2.no (by decide)).elim
abbrev wr_X10_spelt__24 : List (Nat × Nat) := []
abbrev wa_X10_spelt__24 : List Nat := []
set_option maxHeartbeats 4000000 in
set_option maxRecDepth 100000 in
theorem c_X10_spelt__24 (l : Launch) (D : va_G) (cy : Nat → ClassId) (z : Nat → Nat) (sz : Nat) (Ps : PSI) (w0 : va_W) (hT : HT cy GG Ps w0) (p0 : Int32) (p1 : Int32) (p2 : Int32) (p3 : Int32) (p4 : Int32) (p5 : Int32) (p6 : Int32) (r_p0 : RI p0 105 105) (r_p1 : RI p1 110 110) (r_p2 : RI p2 0 0) (r_p3 : RI p3 0 0) (r_p4 : RI p4 0 0) (r_p5 : RI p5 0 0) (r_p6 : RI p6 0 0) : Met l yX10_spelt (Cond.code yX10_spelt cX10_spelt 9 (some .long) :: gT) ({ frames := 0, cells := 0, slots := 0, locals := 200 } : Room) (va_Pc [.int p0, .int p1, .int p2, .int p3, .int p4, .int p5, .int p6] (PRE D cy z w0 sz)) (va_Ql (fun (r : Int64) (u : Unit) => RJ r 257 257) (BB D cy (va_A w0 sz) (fun (u : Unit) => w0)) (va_A w0 sz)) 0 0 (va_A w0 sz) := by
  refine Met.ofW (cc := cX10_spelt) (maxL := 9) (ret := (some .long)) (by decide) rfl ?_
  intro p e s m args below meth c s₁ B hml hv
  obtain ⟨rfl, hsz, hP, hK, hD0, hSD⟩ := hv
  have hx := B.exec
  have hb := B.bytes
  have hr := B.returns
  have hlocks := B.notSynchronized
  have hts : ∀ w ∈ gT, w.before _ s = true := fun w h => atoms_spec (ws := Cond.code yX10_spelt cX10_spelt 9 (some .long) :: gT) B.pre w (List.mem_cons_of_mem _ h)
  have hown : s.vm.findClass RX10 = some m.cls := findClass_of_methodNamed B.named
  subst hsz
  have hD := hD0.self (sz := s.heap.size)
  generalize hAe : va_A w0 s.heap.size = A at hD hSD ⊢
  have hA : ∀ q : Nat, s.heap.size ≤ q → A q := fun q h => by rw [← hAe]; exact Or.inr h
  have hl := lv_entry ([.int p0, .int p1, .int p2, .int p3, .int p4, .int p5, .int p6]) (n := 9) (Nat.le_of_ble_eq_true rfl)
  rw [lg_entry_eq]
  generalize (lg_sl ([.int p0, .int p1, .int p2, .int p3, .int p4, .int p5, .int p6]) ++ List.replicate (9 - (lg_sl ([.int p0, .int p1, .int p2, .int p3, .int p4, .int p5, .int p6])).length) Slot.unset).toArray = ls at hl ⊢
  have hl : lv_has ls 9 [(0, .int p0), (1, .int p1), (2, .int p2), (3, .int p3), (4, .int p4), (5, .int p5), (6, .int p6)] := hl
  refine nameQ (fun Q hQ => ?_)
  have hw : WD D cy GG A s wr_X10_spelt__24 wa_X10_spelt__24 Ps w0 Ps w0 s.heap [] := ⟨hT, hP, hD, va_S.rf, FR.rf, hT.1, [], (List.append_nil _).symm⟩
  have B99 : ∀ (x7 : Int64) (H : Heap) (locs : List Loc) (ls : Array Slot), RI p0 105 105 → RI p1 110 110 → RI p2 0 0 → RI p3 0 0 → RI p4 0 0 → RI p5 0 0 → RI p6 0 0 → RJ x7 257 257 → WD D cy GG A s wr_X10_spelt__24 wa_X10_spelt__24 Ps w0 Ps w0 H locs → lv_has ls 9 [(0, .int p0), (1, .int p1), (2, .int p2), (3, .int p3), (4, .int p4), (5, .int p5), (6, .int p6), (7, .long x7)] → W p l e (headSpec (Cond.code yX10_spelt cX10_spelt 9 (some .long) :: gT) ({ frames := 0, cells := 0, slots := 0, locals := 200 } : Room)).room s m ([.int p0, .int p1, .int p2, .int p3, .int p4, .int p5, .int p6] : List Value).toArray below meth c H locs 0 0 Q (F0 m 99 ls []) := by
    intro x7 H locs ls r_p0 r_p1 r_p2 r_p3 r_p4 r_p5 r_p6 r_x7 hw hl
    refine lv_iload hx hb dX10_spelt_99 (lv_at hl 6 rfl) ?_
    refine lv_if_le (tgt := 120) hx hb dX10_spelt_101 (by decide) (fun c_101 => ?_) (fun c_101 => ?_)
    · refine lv_lload hx hb dX10_spelt_120 (lv_at hl 7 rfl) ?_
      subst hQ
      exact W.lret (v := x7) hx hb hr (fun t ht hW => ⟨⟨x7, (), rfl, r_x7.to (by decide), by rw [ht]; exact hw.2.1, va_K.moved hW.alike hK, hw.2.2.1⟩, hw.2.2.2.1.F ht⟩) hw.2.2.2.1.2.2 dX10_spelt_122
    · have r_p6 : RI p6 1 0 := rc_lt2 rl_0 r_p6 (ti_nle c_101) (by decide)
      exact (r_p6.no (by decide)).elim
  have B78 : ∀ (x7 : Int64) (H : Heap) (locs : List Loc) (ls : Array Slot), RI p0 105 105 → RI p1 110 110 → RI p2 0 0 → RI p3 0 0 → RI p4 0 0 → RI p5 0 0 → RI p6 0 0 → RJ x7 257 257 → WD D cy GG A s wr_X10_spelt__24 wa_X10_spelt__24 Ps w0 Ps w0 H locs → lv_has ls 9 [(0, .int p0), (1, .int p1), (2, .int p2), (3, .int p3), (4, .int p4), (5, .int p5), (6, .int p6), (7, .long x7)] → W p l e (headSpec (Cond.code yX10_spelt cX10_spelt 9 (some .long) :: gT) ({ frames := 0, cells := 0, slots := 0, locals := 200 } : Room)).room s m ([.int p0, .int p1, .int p2, .int p3, .int p4, .int p5, .int p6] : List Value).toArray below meth c H locs 0 0 Q (F0 m 78 ls []) := by
    intro x7 H locs ls r_p0 r_p1 r_p2 r_p3 r_p4 r_p5 r_p6 r_x7 hw hl
    refine lv_iload hx hb dX10_spelt_78 (lv_at hl 5 rfl) ?_
    refine lv_if_le (tgt := 99) hx hb dX10_spelt_80 (by decide) (fun c_80 => ?_) (fun c_80 => ?_)
    · exact B99 x7 _ _ ls r_p0 r_p1 r_p2 r_p3 r_p4 r_p5 r_p6 r_x7 hw hl
    · have r_p5 : RI p5 1 0 := rc_lt2 rl_0 r_p5 (ti_nle c_80) (by decide)
      exact (r_p5.no (by decide)).elim
  have B57 : ∀ (x7 : Int64) (H : Heap) (locs : List Loc) (ls : Array Slot), RI p0 105 105 → RI p1 110 110 → RI p2 0 0 → RI p3 0 0 → RI p4 0 0 → RI p5 0 0 → RI p6 0 0 → RJ x7 257 257 → WD D cy GG A s wr_X10_spelt__24 wa_X10_spelt__24 Ps w0 Ps w0 H locs → lv_has ls 9 [(0, .int p0), (1, .int p1), (2, .int p2), (3, .int p3), (4, .int p4), (5, .int p5), (6, .int p6), (7, .long x7)] → W p l e (headSpec (Cond.code yX10_spelt cX10_spelt 9 (some .long) :: gT) ({ frames := 0, cells := 0, slots := 0, locals := 200 } : Room)).room s m ([.int p0, .int p1, .int p2, .int p3, .int p4, .int p5, .int p6] : List Value).toArray below meth c H locs 0 0 Q (F0 m 57 ls []) := by
    intro x7 H locs ls r_p0 r_p1 r_p2 r_p3 r_p4 r_p5 r_p6 r_x7 hw hl
    refine lv_iload hx hb dX10_spelt_57 (lv_at hl 4 rfl) ?_
    refine lv_if_le (tgt := 78) hx hb dX10_spelt_59 (by decide) (fun c_59 => ?_) (fun c_59 => ?_)
    · exact B78 x7 _ _ ls r_p0 r_p1 r_p2 r_p3 r_p4 r_p5 r_p6 r_x7 hw hl
    · have r_p4 : RI p4 1 0 := rc_lt2 rl_0 r_p4 (ti_nle c_59) (by decide)
      exact (r_p4.no (by decide)).elim
  have B38 : ∀ (x7 : Int64) (H : Heap) (locs : List Loc) (ls : Array Slot), RI p0 105 105 → RI p1 110 110 → RI p2 0 0 → RI p3 0 0 → RI p4 0 0 → RI p5 0 0 → RI p6 0 0 → RJ x7 257 257 → WD D cy GG A s wr_X10_spelt__24 wa_X10_spelt__24 Ps w0 Ps w0 H locs → lv_has ls 9 [(0, .int p0), (1, .int p1), (2, .int p2), (3, .int p3), (4, .int p4), (5, .int p5), (6, .int p6), (7, .long x7)] → W p l e (headSpec (Cond.code yX10_spelt cX10_spelt 9 (some .long) :: gT) ({ frames := 0, cells := 0, slots := 0, locals := 200 } : Room)).room s m ([.int p0, .int p1, .int p2, .int p3, .int p4, .int p5, .int p6] : List Value).toArray below meth c H locs 0 0 Q (F0 m 38 ls []) := by
    intro x7 H locs ls r_p0 r_p1 r_p2 r_p3 r_p4 r_p5 r_p6 r_x7 hw hl
    refine lv_iload_n hx hb dX10_spelt_38 rfl (lv_at hl 3 rfl) ?_
    refine lv_if_le (tgt := 57) hx hb dX10_spelt_39 (by decide) (fun c_39 => ?_) (fun c_39 => ?_)
    · exact B57 x7 _ _ ls r_p0 r_p1 r_p2 r_p3 r_p4 r_p5 r_p6 r_x7 hw hl
    · have r_p3 : RI p3 1 0 := rc_lt2 rl_0 r_p3 (ti_nle c_39) (by decide)
      exact (r_p3.no (by decide)).elim
  refine lv_ldc2 (v := 27) hx hb hown (hts _ tw_1312) dX10_spelt_0 ?_
  refine lv_iload_n hx hb dX10_spelt_3 rfl (lv_at hl 0 rfl) ?_
  obtain ⟨w_1, e_w_1⟩ : ∃ q9 : Int64, (p0 : Int32).toInt64 = q9 := ⟨_, rfl⟩
  refine lv_i2l (v := w_1) hx hb dX10_spelt_4 e_w_1 ?_
  have r_w_1 := tq_i2l r_p0 e_w_1
  refine lv_ldc2 (v := 96) hx hb hown (hts _ tw_1313) dX10_spelt_5 ?_
  refine lv_lsub hx hb dX10_spelt_8 (lv_topl (fun w_2 e_w_2 => ?_))
  have r_w_2 := tq_lsub (lo := 9) (hi := 9) r_w_1 rk_96 (by decide +kernel) e_w_2
  refine lv_lmul hx hb dX10_spelt_9 (lv_topl (fun w_3 e_w_3 => ?_))
  have r_w_3 := tq_lmul (lo := 243) (hi := 243) rk_27 r_w_2 (by decide +kernel) e_w_3
  refine lv_iload_n hx hb dX10_spelt_10 rfl (lv_at hl 1 rfl) ?_
  obtain ⟨w_4, e_w_4⟩ : ∃ q9 : Int64, (p1 : Int32).toInt64 = q9 := ⟨_, rfl⟩
  refine lv_i2l (v := w_4) hx hb dX10_spelt_11 e_w_4 ?_
  have r_w_4 := tq_i2l r_p1 e_w_4
  refine lv_ladd hx hb dX10_spelt_12 (lv_topl (fun w_5 e_w_5 => ?_))
  have r_w_5 := tq_ladd (lo := 353) (hi := 353) r_w_3 r_w_4 (by decide +kernel) e_w_5
  refine lv_ldc2 (v := 96) hx hb hown (hts _ tw_1313) dX10_spelt_13 ?_
  refine lv_lsub hx hb dX10_spelt_16 (lv_topl (fun w_6 e_w_6 => ?_))
  have r_w_6 := tq_lsub (lo := 257) (hi := 257) r_w_5 rk_96 (by decide +kernel) e_w_6
  refine lv_lstore (lv' := [(7, .long w_6), (0, .int p0), (1, .int p1), (2, .int p2), (3, .int p3), (4, .int p4), (5, .int p5), (6, .int p6)]) hx hb dX10_spelt_17 hl (by decide) rfl (fun ls hl => ?_)
  refine lv_iload_n hx hb dX10_spelt_19 rfl (lv_at hl 3 rfl) ?_
  refine lv_if_le (tgt := 38) hx hb dX10_spelt_20 (by decide) (fun c_20 => ?_) (fun c_20 => ?_)
  · exact B38 w_6 _ _ ls r_p0 r_p1 r_p2 r_p3 r_p4 r_p5 r_p6 r_w_6 hw (lv_sub hl [1, 2, 3, 4, 5, 6, 7, 0] rfl)
  · have r_p2 : RI p2 1 0 := rc_lt2 rl_0 r_p2 (ti_nle c_20) (by decide)
    exact (r_p2.no (by decide)).elim
abbrev wr_X10_spelt__25 : List (Nat × Nat) := []
abbrev wa_X10_spelt__25 : List Nat := []
set_option maxHeartbeats 4000000 in
set_option maxRecDepth 100000 in
theorem c_X10_spelt__25 (l : Launch) (D : va_G) (cy : Nat → ClassId) (z : Nat → Nat) (sz : Nat) (Ps : PSI) (w0 : va_W) (hT : HT cy GG Ps w0) (p0 : Int32) (p1 : Int32) (p2 : Int32) (p3 : Int32) (p4 : Int32) (p5 : Int32) (p6 : Int32) (r_p0 : RI p0 115 115) (r_p1 : RI p1 105 105) (r_p2 : RI p2 122 122) (r_p3 : RI p3 101 101) (r_p4 : RI p4 0 0) (r_p5 : RI p5 0 0) (r_p6 : RI p6 0 0) : Met l yX10_spelt (Cond.code yX10_spelt cX10_spelt 9 (some .long) :: gT) ({ frames := 0, cells := 0, slots := 0, locals := 200 } : Room) (va_Pc [.int p0, .int p1, .int p2, .int p3, .int p4, .int p5, .int p6] (PRE D cy z w0 sz)) (va_Ql (fun (r : Int64) (u : Unit) => RJ r 381245 381245) (BB D cy (va_A w0 sz) (fun (u : Unit) => w0)) (va_A w0 sz)) 0 0 (va_A w0 sz) := by
  refine Met.ofW (cc := cX10_spelt) (maxL := 9) (ret := (some .long)) (by decide) rfl ?_
  intro p e s m args below meth c s₁ B hml hv
  obtain ⟨rfl, hsz, hP, hK, hD0, hSD⟩ := hv
  have hx := B.exec
  have hb := B.bytes
  have hr := B.returns
  have hlocks := B.notSynchronized
  have hts : ∀ w ∈ gT, w.before _ s = true := fun w h => atoms_spec (ws := Cond.code yX10_spelt cX10_spelt 9 (some .long) :: gT) B.pre w (List.mem_cons_of_mem _ h)
  have hown : s.vm.findClass RX10 = some m.cls := findClass_of_methodNamed B.named
  subst hsz
  have hD := hD0.self (sz := s.heap.size)
  generalize hAe : va_A w0 s.heap.size = A at hD hSD ⊢
  have hA : ∀ q : Nat, s.heap.size ≤ q → A q := fun q h => by rw [← hAe]; exact Or.inr h
  have hl := lv_entry ([.int p0, .int p1, .int p2, .int p3, .int p4, .int p5, .int p6]) (n := 9) (Nat.le_of_ble_eq_true rfl)
  rw [lg_entry_eq]
  generalize (lg_sl ([.int p0, .int p1, .int p2, .int p3, .int p4, .int p5, .int p6]) ++ List.replicate (9 - (lg_sl ([.int p0, .int p1, .int p2, .int p3, .int p4, .int p5, .int p6])).length) Slot.unset).toArray = ls at hl ⊢
  have hl : lv_has ls 9 [(0, .int p0), (1, .int p1), (2, .int p2), (3, .int p3), (4, .int p4), (5, .int p5), (6, .int p6)] := hl
  refine nameQ (fun Q hQ => ?_)
  have hw : WD D cy GG A s wr_X10_spelt__25 wa_X10_spelt__25 Ps w0 Ps w0 s.heap [] := ⟨hT, hP, hD, va_S.rf, FR.rf, hT.1, [], (List.append_nil _).symm⟩
  have B99 : ∀ (x7 : Int64) (H : Heap) (locs : List Loc) (ls : Array Slot), RI p0 115 115 → RI p1 105 105 → RI p2 122 122 → RI p3 101 101 → RI p4 0 0 → RI p5 0 0 → RI p6 0 0 → RJ x7 381245 381245 → WD D cy GG A s wr_X10_spelt__25 wa_X10_spelt__25 Ps w0 Ps w0 H locs → lv_has ls 9 [(0, .int p0), (1, .int p1), (2, .int p2), (3, .int p3), (4, .int p4), (5, .int p5), (6, .int p6), (7, .long x7)] → W p l e (headSpec (Cond.code yX10_spelt cX10_spelt 9 (some .long) :: gT) ({ frames := 0, cells := 0, slots := 0, locals := 200 } : Room)).room s m ([.int p0, .int p1, .int p2, .int p3, .int p4, .int p5, .int p6] : List Value).toArray below meth c H locs 0 0 Q (F0 m 99 ls []) := by
    intro x7 H locs ls r_p0 r_p1 r_p2 r_p3 r_p4 r_p5 r_p6 r_x7 hw hl
    refine lv_iload hx hb dX10_spelt_99 (lv_at hl 6 rfl) ?_
    refine lv_if_le (tgt := 120) hx hb dX10_spelt_101 (by decide) (fun c_101 => ?_) (fun c_101 => ?_)
    · refine lv_lload hx hb dX10_spelt_120 (lv_at hl 7 rfl) ?_
      subst hQ
      exact W.lret (v := x7) hx hb hr (fun t ht hW => ⟨⟨x7, (), rfl, r_x7.to (by decide), by rw [ht]; exact hw.2.1, va_K.moved hW.alike hK, hw.2.2.1⟩, hw.2.2.2.1.F ht⟩) hw.2.2.2.1.2.2 dX10_spelt_122
    · have r_p6 : RI p6 1 0 := rc_lt2 rl_0 r_p6 (ti_nle c_101) (by decide)
      exact (r_p6.no (by decide)).elim
  have B78 : ∀ (x7 : Int64) (H : Heap) (locs : List Loc) (ls : Array Slot), RI p0 115 115 → RI p1 105 105 → RI p2 122 122 → RI p3 101 101 → RI p4 0 0 → RI p5 0 0 → RI p6 0 0 → RJ x7 381245 381245 → WD D cy GG A s wr_X10_spelt__25 wa_X10_spelt__25 Ps w0 Ps w0 H locs → lv_has ls 9 [(0, .int p0), (1, .int p1), (2, .int p2), (3, .int p3), (4, .int p4), (5, .int p5), (6, .int p6), (7, .long x7)] → W p l e (headSpec (Cond.code yX10_spelt cX10_spelt 9 (some .long) :: gT) ({ frames := 0, cells := 0, slots := 0, locals := 200 } : Room)).room s m ([.int p0, .int p1, .int p2, .int p3, .int p4, .int p5, .int p6] : List Value).toArray below meth c H locs 0 0 Q (F0 m 78 ls []) := by
    intro x7 H locs ls r_p0 r_p1 r_p2 r_p3 r_p4 r_p5 r_p6 r_x7 hw hl
    refine lv_iload hx hb dX10_spelt_78 (lv_at hl 5 rfl) ?_
    refine lv_if_le (tgt := 99) hx hb dX10_spelt_80 (by decide) (fun c_80 => ?_) (fun c_80 => ?_)
    · exact B99 x7 _ _ ls r_p0 r_p1 r_p2 r_p3 r_p4 r_p5 r_p6 r_x7 hw hl
    · have r_p5 : RI p5 1 0 := rc_lt2 rl_0 r_p5 (ti_nle c_80) (by decide)
      exact (r_p5.no (by decide)).elim
  have B57 : ∀ (x7 : Int64) (H : Heap) (locs : List Loc) (ls : Array Slot), RI p0 115 115 → RI p1 105 105 → RI p2 122 122 → RI p3 101 101 → RI p4 0 0 → RI p5 0 0 → RI p6 0 0 → RJ x7 381245 381245 → WD D cy GG A s wr_X10_spelt__25 wa_X10_spelt__25 Ps w0 Ps w0 H locs → lv_has ls 9 [(0, .int p0), (1, .int p1), (2, .int p2), (3, .int p3), (4, .int p4), (5, .int p5), (6, .int p6), (7, .long x7)] → W p l e (headSpec (Cond.code yX10_spelt cX10_spelt 9 (some .long) :: gT) ({ frames := 0, cells := 0, slots := 0, locals := 200 } : Room)).room s m ([.int p0, .int p1, .int p2, .int p3, .int p4, .int p5, .int p6] : List Value).toArray below meth c H locs 0 0 Q (F0 m 57 ls []) := by
    intro x7 H locs ls r_p0 r_p1 r_p2 r_p3 r_p4 r_p5 r_p6 r_x7 hw hl
    refine lv_iload hx hb dX10_spelt_57 (lv_at hl 4 rfl) ?_
    refine lv_if_le (tgt := 78) hx hb dX10_spelt_59 (by decide) (fun c_59 => ?_) (fun c_59 => ?_)
    · exact B78 x7 _ _ ls r_p0 r_p1 r_p2 r_p3 r_p4 r_p5 r_p6 r_x7 hw hl
    · have r_p4 : RI p4 1 0 := rc_lt2 rl_0 r_p4 (ti_nle c_59) (by decide)
      exact (r_p4.no (by decide)).elim
  have B38 : ∀ (x7 : Int64) (H : Heap) (locs : List Loc) (ls : Array Slot), RI p0 115 115 → RI p1 105 105 → RI p2 122 122 → RI p3 101 101 → RI p4 0 0 → RI p5 0 0 → RI p6 0 0 → RJ x7 14120 14120 → WD D cy GG A s wr_X10_spelt__25 wa_X10_spelt__25 Ps w0 Ps w0 H locs → lv_has ls 9 [(0, .int p0), (1, .int p1), (2, .int p2), (3, .int p3), (4, .int p4), (5, .int p5), (6, .int p6), (7, .long x7)] → W p l e (headSpec (Cond.code yX10_spelt cX10_spelt 9 (some .long) :: gT) ({ frames := 0, cells := 0, slots := 0, locals := 200 } : Room)).room s m ([.int p0, .int p1, .int p2, .int p3, .int p4, .int p5, .int p6] : List Value).toArray below meth c H locs 0 0 Q (F0 m 38 ls []) := by
    intro x7 H locs ls r_p0 r_p1 r_p2 r_p3 r_p4 r_p5 r_p6 r_x7 hw hl
    refine lv_iload_n hx hb dX10_spelt_38 rfl (lv_at hl 3 rfl) ?_
    refine lv_if_le (tgt := 57) hx hb dX10_spelt_39 (by decide) (fun c_39 => ?_) (fun c_39 => ?_)
    · have r_p3 : RI p3 101 0 := rc_le1 r_p3 rl_0 (ti_le c_39) (by decide)
      exact (r_p3.no (by decide)).elim
    · refine lv_ldc2 (v := 27) hx hb hown (hts _ tw_1312) dX10_spelt_42 ?_
      refine lv_lload hx hb dX10_spelt_45 (lv_at hl 7 rfl) ?_
      refine lv_lmul hx hb dX10_spelt_47 (lv_topl (fun w_1 e_w_1 => ?_))
      have r_w_1 := tq_lmul (lo := 381240) (hi := 381240) rk_27 r_x7 (by decide +kernel) e_w_1
      refine lv_iload_n hx hb dX10_spelt_48 rfl (lv_at hl 3 rfl) ?_
      obtain ⟨w_2, e_w_2⟩ : ∃ q9 : Int64, (p3 : Int32).toInt64 = q9 := ⟨_, rfl⟩
      refine lv_i2l (v := w_2) hx hb dX10_spelt_49 e_w_2 ?_
      have r_w_2 := tq_i2l r_p3 e_w_2
      refine lv_ladd hx hb dX10_spelt_50 (lv_topl (fun w_3 e_w_3 => ?_))
      have r_w_3 := tq_ladd (lo := 381341) (hi := 381341) r_w_1 r_w_2 (by decide +kernel) e_w_3
      refine lv_ldc2 (v := 96) hx hb hown (hts _ tw_1313) dX10_spelt_51 ?_
      refine lv_lsub hx hb dX10_spelt_54 (lv_topl (fun w_4 e_w_4 => ?_))
      have r_w_4 := tq_lsub (lo := 381245) (hi := 381245) r_w_3 rk_96 (by decide +kernel) e_w_4
      refine lv_lstore (lv' := [(7, .long w_4), (0, .int p0), (1, .int p1), (2, .int p2), (3, .int p3), (4, .int p4), (5, .int p5), (6, .int p6)]) hx hb dX10_spelt_55 hl (by decide) rfl (fun ls hl => ?_)
      exact B57 w_4 _ _ ls r_p0 r_p1 r_p2 r_p3 r_p4 r_p5 r_p6 r_w_4 hw (lv_sub hl [1, 2, 3, 4, 5, 6, 7, 0] rfl)
  refine lv_ldc2 (v := 27) hx hb hown (hts _ tw_1312) dX10_spelt_0 ?_
  refine lv_iload_n hx hb dX10_spelt_3 rfl (lv_at hl 0 rfl) ?_
  obtain ⟨w_5, e_w_5⟩ : ∃ q9 : Int64, (p0 : Int32).toInt64 = q9 := ⟨_, rfl⟩
  refine lv_i2l (v := w_5) hx hb dX10_spelt_4 e_w_5 ?_
  have r_w_5 := tq_i2l r_p0 e_w_5
  refine lv_ldc2 (v := 96) hx hb hown (hts _ tw_1313) dX10_spelt_5 ?_
  refine lv_lsub hx hb dX10_spelt_8 (lv_topl (fun w_6 e_w_6 => ?_))
  have r_w_6 := tq_lsub (lo := 19) (hi := 19) r_w_5 rk_96 (by decide +kernel) e_w_6
  refine lv_lmul hx hb dX10_spelt_9 (lv_topl (fun w_7 e_w_7 => ?_))
  have r_w_7 := tq_lmul (lo := 513) (hi := 513) rk_27 r_w_6 (by decide +kernel) e_w_7
  refine lv_iload_n hx hb dX10_spelt_10 rfl (lv_at hl 1 rfl) ?_
  obtain ⟨w_8, e_w_8⟩ : ∃ q9 : Int64, (p1 : Int32).toInt64 = q9 := ⟨_, rfl⟩
  refine lv_i2l (v := w_8) hx hb dX10_spelt_11 e_w_8 ?_
  have r_w_8 := tq_i2l r_p1 e_w_8
  refine lv_ladd hx hb dX10_spelt_12 (lv_topl (fun w_9 e_w_9 => ?_))
  have r_w_9 := tq_ladd (lo := 618) (hi := 618) r_w_7 r_w_8 (by decide +kernel) e_w_9
  refine lv_ldc2 (v := 96) hx hb hown (hts _ tw_1313) dX10_spelt_13 ?_
  refine lv_lsub hx hb dX10_spelt_16 (lv_topl (fun w_10 e_w_10 => ?_))
  have r_w_10 := tq_lsub (lo := 522) (hi := 522) r_w_9 rk_96 (by decide +kernel) e_w_10
  refine lv_lstore (lv' := [(7, .long w_10), (0, .int p0), (1, .int p1), (2, .int p2), (3, .int p3), (4, .int p4), (5, .int p5), (6, .int p6)]) hx hb dX10_spelt_17 hl (by decide) rfl (fun ls hl => ?_)
  refine lv_iload_n hx hb dX10_spelt_19 rfl (lv_at hl 3 rfl) ?_
  refine lv_if_le (tgt := 38) hx hb dX10_spelt_20 (by decide) (fun c_20 => ?_) (fun c_20 => ?_)
  · have r_p2 : RI p2 122 0 := rc_le1 r_p2 rl_0 (ti_le c_20) (by decide)
    exact (r_p2.no (by decide)).elim
  · refine lv_ldc2 (v := 27) hx hb hown (hts _ tw_1312) dX10_spelt_23 ?_
    refine lv_lload hx hb dX10_spelt_26 (lv_at hl 0 rfl) ?_
    refine lv_lmul hx hb dX10_spelt_28 (lv_topl (fun w_11 e_w_11 => ?_))
    have r_w_11 := tq_lmul (lo := 14094) (hi := 14094) rk_27 r_w_10 (by decide +kernel) e_w_11
    refine lv_iload_n hx hb dX10_spelt_29 rfl (lv_at hl 3 rfl) ?_
    obtain ⟨w_12, e_w_12⟩ : ∃ q9 : Int64, (p2 : Int32).toInt64 = q9 := ⟨_, rfl⟩
    refine lv_i2l (v := w_12) hx hb dX10_spelt_30 e_w_12 ?_
    have r_w_12 := tq_i2l r_p2 e_w_12
    refine lv_ladd hx hb dX10_spelt_31 (lv_topl (fun w_13 e_w_13 => ?_))
    have r_w_13 := tq_ladd (lo := 14216) (hi := 14216) r_w_11 r_w_12 (by decide +kernel) e_w_13
    refine lv_ldc2 (v := 96) hx hb hown (hts _ tw_1313) dX10_spelt_32 ?_
    refine lv_lsub hx hb dX10_spelt_35 (lv_topl (fun w_14 e_w_14 => ?_))
    have r_w_14 := tq_lsub (lo := 14120) (hi := 14120) r_w_13 rk_96 (by decide +kernel) e_w_14
    refine lv_lstore (lv' := [(7, .long w_14), (0, .int p0), (1, .int p1), (2, .int p2), (3, .int p3), (4, .int p4), (5, .int p5), (6, .int p6)]) hx hb dX10_spelt_36 hl (by decide) rfl (fun ls hl => ?_)
    exact B38 w_14 _ _ ls r_p0 r_p1 r_p2 r_p3 r_p4 r_p5 r_p6 r_w_14 hw (lv_sub hl [1, 2, 3, 4, 5, 6, 7, 0] rfl)
abbrev wr_X10_spelt__26 : List (Nat × Nat) := []
abbrev wa_X10_spelt__26 : List Nat := []
set_option maxHeartbeats 4000000 in
set_option maxRecDepth 100000 in
theorem c_X10_spelt__26 (l : Launch) (D : va_G) (cy : Nat → ClassId) (z : Nat → Nat) (sz : Nat) (Ps : PSI) (w0 : va_W) (hT : HT cy GG Ps w0) (p0 : Int32) (p1 : Int32) (p2 : Int32) (p3 : Int32) (p4 : Int32) (p5 : Int32) (p6 : Int32) (r_p0 : RI p0 98 98) (r_p1 : RI p1 117 117) (r_p2 : RI p2 108 108) (r_p3 : RI p3 103 103) (r_p4 : RI p4 101 101) (r_p5 : RI p5 0 0) (r_p6 : RI p6 0 0) : Met l yX10_spelt (Cond.code yX10_spelt cX10_spelt 9 (some .long) :: gT) ({ frames := 0, cells := 0, slots := 0, locals := 200 } : Room) (va_Pc [.int p0, .int p1, .int p2, .int p3, .int p4, .int p5, .int p6] (PRE D cy z w0 sz)) (va_Ql (fun (r : Int64) (u : Unit) => RJ r 1485167 1485167) (BB D cy (va_A w0 sz) (fun (u : Unit) => w0)) (va_A w0 sz)) 0 0 (va_A w0 sz) := by
  refine Met.ofW (cc := cX10_spelt) (maxL := 9) (ret := (some .long)) (by decide) rfl ?_
  intro p e s m args below meth c s₁ B hml hv
  obtain ⟨rfl, hsz, hP, hK, hD0, hSD⟩ := hv
  have hx := B.exec
  have hb := B.bytes
  have hr := B.returns
  have hlocks := B.notSynchronized
  have hts : ∀ w ∈ gT, w.before _ s = true := fun w h => atoms_spec (ws := Cond.code yX10_spelt cX10_spelt 9 (some .long) :: gT) B.pre w (List.mem_cons_of_mem _ h)
  have hown : s.vm.findClass RX10 = some m.cls := findClass_of_methodNamed B.named
  subst hsz
  have hD := hD0.self (sz := s.heap.size)
  generalize hAe : va_A w0 s.heap.size = A at hD hSD ⊢
  have hA : ∀ q : Nat, s.heap.size ≤ q → A q := fun q h => by rw [← hAe]; exact Or.inr h
  have hl := lv_entry ([.int p0, .int p1, .int p2, .int p3, .int p4, .int p5, .int p6]) (n := 9) (Nat.le_of_ble_eq_true rfl)
  rw [lg_entry_eq]
  generalize (lg_sl ([.int p0, .int p1, .int p2, .int p3, .int p4, .int p5, .int p6]) ++ List.replicate (9 - (lg_sl ([.int p0, .int p1, .int p2, .int p3, .int p4, .int p5, .int p6])).length) Slot.unset).toArray = ls at hl ⊢
  have hl : lv_has ls 9 [(0, .int p0), (1, .int p1), (2, .int p2), (3, .int p3), (4, .int p4), (5, .int p5), (6, .int p6)] := hl
  refine nameQ (fun Q hQ => ?_)
  have hw : WD D cy GG A s wr_X10_spelt__26 wa_X10_spelt__26 Ps w0 Ps w0 s.heap [] := ⟨hT, hP, hD, va_S.rf, FR.rf, hT.1, [], (List.append_nil _).symm⟩
  have B99 : ∀ (x7 : Int64) (H : Heap) (locs : List Loc) (ls : Array Slot), RI p0 98 98 → RI p1 117 117 → RI p2 108 108 → RI p3 103 103 → RI p4 101 101 → RI p5 0 0 → RI p6 0 0 → RJ x7 1485167 1485167 → WD D cy GG A s wr_X10_spelt__26 wa_X10_spelt__26 Ps w0 Ps w0 H locs → lv_has ls 9 [(0, .int p0), (1, .int p1), (2, .int p2), (3, .int p3), (4, .int p4), (5, .int p5), (6, .int p6), (7, .long x7)] → W p l e (headSpec (Cond.code yX10_spelt cX10_spelt 9 (some .long) :: gT) ({ frames := 0, cells := 0, slots := 0, locals := 200 } : Room)).room s m ([.int p0, .int p1, .int p2, .int p3, .int p4, .int p5, .int p6] : List Value).toArray below meth c H locs 0 0 Q (F0 m 99 ls []) := by
    intro x7 H locs ls r_p0 r_p1 r_p2 r_p3 r_p4 r_p5 r_p6 r_x7 hw hl
    refine lv_iload hx hb dX10_spelt_99 (lv_at hl 6 rfl) ?_
    refine lv_if_le (tgt := 120) hx hb dX10_spelt_101 (by decide) (fun c_101 => ?_) (fun c_101 => ?_)
    · refine lv_lload hx hb dX10_spelt_120 (lv_at hl 7 rfl) ?_
      subst hQ
      exact W.lret (v := x7) hx hb hr (fun t ht hW => ⟨⟨x7, (), rfl, r_x7.to (by decide), by rw [ht]; exact hw.2.1, va_K.moved hW.alike hK, hw.2.2.1⟩, hw.2.2.2.1.F ht⟩) hw.2.2.2.1.2.2 dX10_spelt_122
    · have r_p6 : RI p6 1 0 := rc_lt2 rl_0 r_p6 (ti_nle c_101) (by decide)
      exact (r_p6.no (by decide)).elim
  have B78 : ∀ (x7 : Int64) (H : Heap) (locs : List Loc) (ls : Array Slot), RI p0 98 98 → RI p1 117 117 → RI p2 108 108 → RI p3 103 103 → RI p4 101 101 → RI p5 0 0 → RI p6 0 0 → RJ x7 1485167 1485167 → WD D cy GG A s wr_X10_spelt__26 wa_X10_spelt__26 Ps w0 Ps w0 H locs → lv_has ls 9 [(0, .int p0), (1, .int p1), (2, .int p2), (3, .int p3), (4, .int p4), (5, .int p5), (6, .int p6), (7, .long x7)] → W p l e (headSpec (Cond.code yX10_spelt cX10_spelt 9 (some .long) :: gT) ({ frames := 0, cells := 0, slots := 0, locals := 200 } : Room)).room s m ([.int p0, .int p1, .int p2, .int p3, .int p4, .int p5, .int p6] : List Value).toArray below meth c H locs 0 0 Q (F0 m 78 ls []) := by
    intro x7 H locs ls r_p0 r_p1 r_p2 r_p3 r_p4 r_p5 r_p6 r_x7 hw hl
    refine lv_iload hx hb dX10_spelt_78 (lv_at hl 5 rfl) ?_
    refine lv_if_le (tgt := 99) hx hb dX10_spelt_80 (by decide) (fun c_80 => ?_) (fun c_80 => ?_)
    · exact B99 x7 _ _ ls r_p0 r_p1 r_p2 r_p3 r_p4 r_p5 r_p6 r_x7 hw hl
    · have r_p5 : RI p5 1 0 := rc_lt2 rl_0 r_p5 (ti_nle c_80) (by decide)
      exact (r_p5.no (by decide)).elim
  have B57 : ∀ (x7 : Int64) (H : Heap) (locs : List Loc) (ls : Array Slot), RI p0 98 98 → RI p1 117 117 → RI p2 108 108 → RI p3 103 103 → RI p4 101 101 → RI p5 0 0 → RI p6 0 0 → RJ x7 55006 55006 → WD D cy GG A s wr_X10_spelt__26 wa_X10_spelt__26 Ps w0 Ps w0 H locs → lv_has ls 9 [(0, .int p0), (1, .int p1), (2, .int p2), (3, .int p3), (4, .int p4), (5, .int p5), (6, .int p6), (7, .long x7)] → W p l e (headSpec (Cond.code yX10_spelt cX10_spelt 9 (some .long) :: gT) ({ frames := 0, cells := 0, slots := 0, locals := 200 } : Room)).room s m ([.int p0, .int p1, .int p2, .int p3, .int p4, .int p5, .int p6] : List Value).toArray below meth c H locs 0 0 Q (F0 m 57 ls []) := by
    intro x7 H locs ls r_p0 r_p1 r_p2 r_p3 r_p4 r_p5 r_p6 r_x7 hw hl
    refine lv_iload hx hb dX10_spelt_57 (lv_at hl 4 rfl) ?_
    refine lv_if_le (tgt := 78) hx hb dX10_spelt_59 (by decide) (fun c_59 => ?_) (fun c_59 => ?_)
    · have r_p4 : RI p4 101 0 := rc_le1 r_p4 rl_0 (ti_le c_59) (by decide)
      exact (r_p4.no (by decide)).elim
    · refine lv_ldc2 (v := 27) hx hb hown (hts _ tw_1312) dX10_spelt_62 ?_
      refine lv_lload hx hb dX10_spelt_65 (lv_at hl 7 rfl) ?_
      refine lv_lmul hx hb dX10_spelt_67 (lv_topl (fun w_1 e_w_1 => ?_))
      have r_w_1 := tq_lmul (lo := 1485162) (hi := 1485162) rk_27 r_x7 (by decide +kernel) e_w_1
      refine lv_iload hx hb dX10_spelt_68 (lv_at hl 4 rfl) ?_
      obtain ⟨w_2, e_w_2⟩ : ∃ q9 : Int64, (p4 : Int32).toInt64 = q9 := ⟨_, rfl⟩
      refine lv_i2l (v := w_2) hx hb dX10_spelt_70 e_w_2 ?_
      have r_w_2 := tq_i2l r_p4 e_w_2
      refine lv_ladd hx hb dX10_spelt_71 (lv_topl (fun w_3 e_w_3 => ?_))
      have r_w_3 := tq_ladd (lo := 1485263) (hi := 1485263) r_w_1 r_w_2 (by decide +kernel) e_w_3
      refine lv_ldc2 (v := 96) hx hb hown (hts _ tw_1313) dX10_spelt_72 ?_
      refine lv_lsub hx hb dX10_spelt_75 (lv_topl (fun w_4 e_w_4 => ?_))
      have r_w_4 := tq_lsub (lo := 1485167) (hi := 1485167) r_w_3 rk_96 (by decide +kernel) e_w_4
      refine lv_lstore (lv' := [(7, .long w_4), (0, .int p0), (1, .int p1), (2, .int p2), (3, .int p3), (4, .int p4), (5, .int p5), (6, .int p6)]) hx hb dX10_spelt_76 hl (by decide) rfl (fun ls hl => ?_)
      exact B78 w_4 _ _ ls r_p0 r_p1 r_p2 r_p3 r_p4 r_p5 r_p6 r_w_4 hw (lv_sub hl [1, 2, 3, 4, 5, 6, 7, 0] rfl)
  have B38 : ∀ (x7 : Int64) (H : Heap) (locs : List Loc) (ls : Array Slot), RI p0 98 98 → RI p1 117 117 → RI p2 108 108 → RI p3 103 103 → RI p4 101 101 → RI p5 0 0 → RI p6 0 0 → RJ x7 2037 2037 → WD D cy GG A s wr_X10_spelt__26 wa_X10_spelt__26 Ps w0 Ps w0 H locs → lv_has ls 9 [(0, .int p0), (1, .int p1), (2, .int p2), (3, .int p3), (4, .int p4), (5, .int p5), (6, .int p6), (7, .long x7)] → W p l e (headSpec (Cond.code yX10_spelt cX10_spelt 9 (some .long) :: gT) ({ frames := 0, cells := 0, slots := 0, locals := 200 } : Room)).room s m ([.int p0, .int p1, .int p2, .int p3, .int p4, .int p5, .int p6] : List Value).toArray below meth c H locs 0 0 Q (F0 m 38 ls []) := by
    intro x7 H locs ls r_p0 r_p1 r_p2 r_p3 r_p4 r_p5 r_p6 r_x7 hw hl
    refine lv_iload_n hx hb dX10_spelt_38 rfl (lv_at hl 3 rfl) ?_
    refine lv_if_le (tgt := 57) hx hb dX10_spelt_39 (by decide) (fun c_39 => ?_) (fun c_39 => ?_)
    · have r_p3 : RI p3 103 0 := rc_le1 r_p3 rl_0 (ti_le c_39) (by decide)
      exact (r_p3.no (by decide)).elim
    · refine lv_ldc2 (v := 27) hx hb hown (hts _ tw_1312) dX10_spelt_42 ?_
      refine lv_lload hx hb dX10_spelt_45 (lv_at hl 7 rfl) ?_
      refine lv_lmul hx hb dX10_spelt_47 (lv_topl (fun w_5 e_w_5 => ?_))
      have r_w_5 := tq_lmul (lo := 54999) (hi := 54999) rk_27 r_x7 (by decide +kernel) e_w_5
      refine lv_iload_n hx hb dX10_spelt_48 rfl (lv_at hl 3 rfl) ?_
      obtain ⟨w_6, e_w_6⟩ : ∃ q9 : Int64, (p3 : Int32).toInt64 = q9 := ⟨_, rfl⟩
      refine lv_i2l (v := w_6) hx hb dX10_spelt_49 e_w_6 ?_
      have r_w_6 := tq_i2l r_p3 e_w_6
      refine lv_ladd hx hb dX10_spelt_50 (lv_topl (fun w_7 e_w_7 => ?_))
      have r_w_7 := tq_ladd (lo := 55102) (hi := 55102) r_w_5 r_w_6 (by decide +kernel) e_w_7
      refine lv_ldc2 (v := 96) hx hb hown (hts _ tw_1313) dX10_spelt_51 ?_
      refine lv_lsub hx hb dX10_spelt_54 (lv_topl (fun w_8 e_w_8 => ?_))
      have r_w_8 := tq_lsub (lo := 55006) (hi := 55006) r_w_7 rk_96 (by decide +kernel) e_w_8
      refine lv_lstore (lv' := [(7, .long w_8), (0, .int p0), (1, .int p1), (2, .int p2), (3, .int p3), (4, .int p4), (5, .int p5), (6, .int p6)]) hx hb dX10_spelt_55 hl (by decide) rfl (fun ls hl => ?_)
      exact B57 w_8 _ _ ls r_p0 r_p1 r_p2 r_p3 r_p4 r_p5 r_p6 r_w_8 hw (lv_sub hl [1, 2, 3, 4, 5, 6, 7, 0] rfl)
  refine lv_ldc2 (v := 27) hx hb hown (hts _ tw_1312) dX10_spelt_0 ?_
  refine lv_iload_n hx hb dX10_spelt_3 rfl (lv_at hl 0 rfl) ?_
  obtain ⟨w_9, e_w_9⟩ : ∃ q9 : Int64, (p0 : Int32).toInt64 = q9 := ⟨_, rfl⟩
  refine lv_i2l (v := w_9) hx hb dX10_spelt_4 e_w_9 ?_
  have r_w_9 := tq_i2l r_p0 e_w_9
  refine lv_ldc2 (v := 96) hx hb hown (hts _ tw_1313) dX10_spelt_5 ?_
  refine lv_lsub hx hb dX10_spelt_8 (lv_topl (fun w_10 e_w_10 => ?_))
  have r_w_10 := tq_lsub (lo := 2) (hi := 2) r_w_9 rk_96 (by decide +kernel) e_w_10
  refine lv_lmul hx hb dX10_spelt_9 (lv_topl (fun w_11 e_w_11 => ?_))
  have r_w_11 := tq_lmul (lo := 54) (hi := 54) rk_27 r_w_10 (by decide +kernel) e_w_11
  refine lv_iload_n hx hb dX10_spelt_10 rfl (lv_at hl 1 rfl) ?_
  obtain ⟨w_12, e_w_12⟩ : ∃ q9 : Int64, (p1 : Int32).toInt64 = q9 := ⟨_, rfl⟩
  refine lv_i2l (v := w_12) hx hb dX10_spelt_11 e_w_12 ?_
  have r_w_12 := tq_i2l r_p1 e_w_12
  refine lv_ladd hx hb dX10_spelt_12 (lv_topl (fun w_13 e_w_13 => ?_))
  have r_w_13 := tq_ladd (lo := 171) (hi := 171) r_w_11 r_w_12 (by decide +kernel) e_w_13
  refine lv_ldc2 (v := 96) hx hb hown (hts _ tw_1313) dX10_spelt_13 ?_
  refine lv_lsub hx hb dX10_spelt_16 (lv_topl (fun w_14 e_w_14 => ?_))
  have r_w_14 := tq_lsub (lo := 75) (hi := 75) r_w_13 rk_96 (by decide +kernel) e_w_14
  refine lv_lstore (lv' := [(7, .long w_14), (0, .int p0), (1, .int p1), (2, .int p2), (3, .int p3), (4, .int p4), (5, .int p5), (6, .int p6)]) hx hb dX10_spelt_17 hl (by decide) rfl (fun ls hl => ?_)
  refine lv_iload_n hx hb dX10_spelt_19 rfl (lv_at hl 3 rfl) ?_
  refine lv_if_le (tgt := 38) hx hb dX10_spelt_20 (by decide) (fun c_20 => ?_) (fun c_20 => ?_)
  · have r_p2 : RI p2 108 0 := rc_le1 r_p2 rl_0 (ti_le c_20) (by decide)
    exact (r_p2.no (by decide)).elim
  · refine lv_ldc2 (v := 27) hx hb hown (hts _ tw_1312) dX10_spelt_23 ?_
    refine lv_lload hx hb dX10_spelt_26 (lv_at hl 0 rfl) ?_
    refine lv_lmul hx hb dX10_spelt_28 (lv_topl (fun w_15 e_w_15 => ?_))
    have r_w_15 := tq_lmul (lo := 2025) (hi := 2025) rk_27 r_w_14 (by decide +kernel) e_w_15
    refine lv_iload_n hx hb dX10_spelt_29 rfl (lv_at hl 3 rfl) ?_
    obtain ⟨w_16, e_w_16⟩ : ∃ q9 : Int64, (p2 : Int32).toInt64 = q9 := ⟨_, rfl⟩
    refine lv_i2l (v := w_16) hx hb dX10_spelt_30 e_w_16 ?_
    have r_w_16 := tq_i2l r_p2 e_w_16
    refine lv_ladd hx hb dX10_spelt_31 (lv_topl (fun w_17 e_w_17 => ?_))
    have r_w_17 := tq_ladd (lo := 2133) (hi := 2133) r_w_15 r_w_16 (by decide +kernel) e_w_17
    refine lv_ldc2 (v := 96) hx hb hown (hts _ tw_1313) dX10_spelt_32 ?_
    refine lv_lsub hx hb dX10_spelt_35 (lv_topl (fun w_18 e_w_18 => ?_))
    have r_w_18 := tq_lsub (lo := 2037) (hi := 2037) r_w_17 rk_96 (by decide +kernel) e_w_18
    refine lv_lstore (lv' := [(7, .long w_18), (0, .int p0), (1, .int p1), (2, .int p2), (3, .int p3), (4, .int p4), (5, .int p5), (6, .int p6)]) hx hb dX10_spelt_36 hl (by decide) rfl (fun ls hl => ?_)
    exact B38 w_18 _ _ ls r_p0 r_p1 r_p2 r_p3 r_p4 r_p5 r_p6 r_w_18 hw (lv_sub hl [1, 2, 3, 4, 5, 6, 7, 0] rfl)
abbrev wr_X10_spelt__27 : List (Nat × Nat) := []
abbrev wa_X10_spelt__27 : List Nat := []
set_option maxHeartbeats 4000000 in
set_option maxRecDepth 100000 in
theorem c_X10_spelt__27 (l : Launch) (D : va_G) (cy : Nat → ClassId) (z : Nat → Nat) (sz : Nat) (Ps : PSI) (w0 : va_W) (hT : HT cy GG Ps w0) (p0 : Int32) (p1 : Int32) (p2 : Int32) (p3 : Int32) (p4 : Int32) (p5 : Int32) (p6 : Int32) (r_p0 : RI p0 116 116) (r_p1 : RI p1 117 117) (r_p2 : RI p2 114 114) (r_p3 : RI p3 110 110) (r_p4 : RI p4 101 101) (r_p5 : RI p5 100 100) (r_p6 : RI p6 0 0) : Met l yX10_spelt (Cond.code yX10_spelt cX10_spelt 9 (some .long) :: gT) ({ frames := 0, cells := 0, slots := 0, locals := 200 } : Room) (va_Pc [.int p0, .int p1, .int p2, .int p3, .int p4, .int p5, .int p6] (PRE D cy z w0 sz)) (va_Ql (fun (r : Int64) (u : Unit) => RJ r 298503040 298503040) (BB D cy (va_A w0 sz) (fun (u : Unit) => w0)) (va_A w0 sz)) 0 0 (va_A w0 sz) := by
  refine Met.ofW (cc := cX10_spelt) (maxL := 9) (ret := (some .long)) (by decide) rfl ?_
  intro p e s m args below meth c s₁ B hml hv
  obtain ⟨rfl, hsz, hP, hK, hD0, hSD⟩ := hv
  have hx := B.exec
  have hb := B.bytes
  have hr := B.returns
  have hlocks := B.notSynchronized
  have hts : ∀ w ∈ gT, w.before _ s = true := fun w h => atoms_spec (ws := Cond.code yX10_spelt cX10_spelt 9 (some .long) :: gT) B.pre w (List.mem_cons_of_mem _ h)
  have hown : s.vm.findClass RX10 = some m.cls := findClass_of_methodNamed B.named
  subst hsz
  have hD := hD0.self (sz := s.heap.size)
  generalize hAe : va_A w0 s.heap.size = A at hD hSD ⊢
  have hA : ∀ q : Nat, s.heap.size ≤ q → A q := fun q h => by rw [← hAe]; exact Or.inr h
  have hl := lv_entry ([.int p0, .int p1, .int p2, .int p3, .int p4, .int p5, .int p6]) (n := 9) (Nat.le_of_ble_eq_true rfl)
  rw [lg_entry_eq]
  generalize (lg_sl ([.int p0, .int p1, .int p2, .int p3, .int p4, .int p5, .int p6]) ++ List.replicate (9 - (lg_sl ([.int p0, .int p1, .int p2, .int p3, .int p4, .int p5, .int p6])).length) Slot.unset).toArray = ls at hl ⊢
  have hl : lv_has ls 9 [(0, .int p0), (1, .int p1), (2, .int p2), (3, .int p3), (4, .int p4), (5, .int p5), (6, .int p6)] := hl
  refine nameQ (fun Q hQ => ?_)
  have hw : WD D cy GG A s wr_X10_spelt__27 wa_X10_spelt__27 Ps w0 Ps w0 s.heap [] := ⟨hT, hP, hD, va_S.rf, FR.rf, hT.1, [], (List.append_nil _).symm⟩
  have B99 : ∀ (x7 : Int64) (H : Heap) (locs : List Loc) (ls : Array Slot), RI p0 116 116 → RI p1 117 117 → RI p2 114 114 → RI p3 110 110 → RI p4 101 101 → RI p5 100 100 → RI p6 0 0 → RJ x7 298503040 298503040 → WD D cy GG A s wr_X10_spelt__27 wa_X10_spelt__27 Ps w0 Ps w0 H locs → lv_has ls 9 [(0, .int p0), (1, .int p1), (2, .int p2), (3, .int p3), (4, .int p4), (5, .int p5), (6, .int p6), (7, .long x7)] → W p l e (headSpec (Cond.code yX10_spelt cX10_spelt 9 (some .long) :: gT) ({ frames := 0, cells := 0, slots := 0, locals := 200 } : Room)).room s m ([.int p0, .int p1, .int p2, .int p3, .int p4, .int p5, .int p6] : List Value).toArray below meth c H locs 0 0 Q (F0 m 99 ls []) := by
    intro x7 H locs ls r_p0 r_p1 r_p2 r_p3 r_p4 r_p5 r_p6 r_x7 hw hl
    refine lv_iload hx hb dX10_spelt_99 (lv_at hl 6 rfl) ?_
    refine lv_if_le (tgt := 120) hx hb dX10_spelt_101 (by decide) (fun c_101 => ?_) (fun c_101 => ?_)
    · refine lv_lload hx hb dX10_spelt_120 (lv_at hl 7 rfl) ?_
      subst hQ
      exact W.lret (v := x7) hx hb hr (fun t ht hW => ⟨⟨x7, (), rfl, r_x7.to (by decide), by rw [ht]; exact hw.2.1, va_K.moved hW.alike hK, hw.2.2.1⟩, hw.2.2.2.1.F ht⟩) hw.2.2.2.1.2.2 dX10_spelt_122
    · have r_p6 : RI p6 1 0 := rc_lt2 rl_0 r_p6 (ti_nle c_101) (by decide)
      exact (r_p6.no (by decide)).elim
  have B78 : ∀ (x7 : Int64) (H : Heap) (locs : List Loc) (ls : Array Slot), RI p0 116 116 → RI p1 117 117 → RI p2 114 114 → RI p3 110 110 → RI p4 101 101 → RI p5 100 100 → RI p6 0 0 → RJ x7 11055668 11055668 → WD D cy GG A s wr_X10_spelt__27 wa_X10_spelt__27 Ps w0 Ps w0 H locs → lv_has ls 9 [(0, .int p0), (1, .int p1), (2, .int p2), (3, .int p3), (4, .int p4), (5, .int p5), (6, .int p6), (7, .long x7)] → W p l e (headSpec (Cond.code yX10_spelt cX10_spelt 9 (some .long) :: gT) ({ frames := 0, cells := 0, slots := 0, locals := 200 } : Room)).room s m ([.int p0, .int p1, .int p2, .int p3, .int p4, .int p5, .int p6] : List Value).toArray below meth c H locs 0 0 Q (F0 m 78 ls []) := by
    intro x7 H locs ls r_p0 r_p1 r_p2 r_p3 r_p4 r_p5 r_p6 r_x7 hw hl
    refine lv_iload hx hb dX10_spelt_78 (lv_at hl 5 rfl) ?_
    refine lv_if_le (tgt := 99) hx hb dX10_spelt_80 (by decide) (fun c_80 => ?_) (fun c_80 => ?_)
    · have r_p5 : RI p5 100 0 := rc_le1 r_p5 rl_0 (ti_le c_80) (by decide)
      exact (r_p5.no (by decide)).elim
    · refine lv_ldc2 (v := 27) hx hb hown (hts _ tw_1312) dX10_spelt_83 ?_
      refine lv_lload hx hb dX10_spelt_86 (lv_at hl 7 rfl) ?_
      refine lv_lmul hx hb dX10_spelt_88 (lv_topl (fun w_1 e_w_1 => ?_))
      have r_w_1 := tq_lmul (lo := 298503036) (hi := 298503036) rk_27 r_x7 (by decide +kernel) e_w_1
      refine lv_iload hx hb dX10_spelt_89 (lv_at hl 5 rfl) ?_
      obtain ⟨w_2, e_w_2⟩ : ∃ q9 : Int64, (p5 : Int32).toInt64 = q9 := ⟨_, rfl⟩
      refine lv_i2l (v := w_2) hx hb dX10_spelt_91 e_w_2 ?_
      have r_w_2 := tq_i2l r_p5 e_w_2
      refine lv_ladd hx hb dX10_spelt_92 (lv_topl (fun w_3 e_w_3 => ?_))
      have r_w_3 := tq_ladd (lo := 298503136) (hi := 298503136) r_w_1 r_w_2 (by decide +kernel) e_w_3
      refine lv_ldc2 (v := 96) hx hb hown (hts _ tw_1313) dX10_spelt_93 ?_
      refine lv_lsub hx hb dX10_spelt_96 (lv_topl (fun w_4 e_w_4 => ?_))
      have r_w_4 := tq_lsub (lo := 298503040) (hi := 298503040) r_w_3 rk_96 (by decide +kernel) e_w_4
      refine lv_lstore (lv' := [(7, .long w_4), (0, .int p0), (1, .int p1), (2, .int p2), (3, .int p3), (4, .int p4), (5, .int p5), (6, .int p6)]) hx hb dX10_spelt_97 hl (by decide) rfl (fun ls hl => ?_)
      exact B99 w_4 _ _ ls r_p0 r_p1 r_p2 r_p3 r_p4 r_p5 r_p6 r_w_4 hw (lv_sub hl [1, 2, 3, 4, 5, 6, 7, 0] rfl)
  have B57 : ∀ (x7 : Int64) (H : Heap) (locs : List Loc) (ls : Array Slot), RI p0 116 116 → RI p1 117 117 → RI p2 114 114 → RI p3 110 110 → RI p4 101 101 → RI p5 100 100 → RI p6 0 0 → RJ x7 409469 409469 → WD D cy GG A s wr_X10_spelt__27 wa_X10_spelt__27 Ps w0 Ps w0 H locs → lv_has ls 9 [(0, .int p0), (1, .int p1), (2, .int p2), (3, .int p3), (4, .int p4), (5, .int p5), (6, .int p6), (7, .long x7)] → W p l e (headSpec (Cond.code yX10_spelt cX10_spelt 9 (some .long) :: gT) ({ frames := 0, cells := 0, slots := 0, locals := 200 } : Room)).room s m ([.int p0, .int p1, .int p2, .int p3, .int p4, .int p5, .int p6] : List Value).toArray below meth c H locs 0 0 Q (F0 m 57 ls []) := by
    intro x7 H locs ls r_p0 r_p1 r_p2 r_p3 r_p4 r_p5 r_p6 r_x7 hw hl
    refine lv_iload hx hb dX10_spelt_57 (lv_at hl 4 rfl) ?_
    refine lv_if_le (tgt := 78) hx hb dX10_spelt_59 (by decide) (fun c_59 => ?_) (fun c_59 => ?_)
    · have r_p4 : RI p4 101 0 := rc_le1 r_p4 rl_0 (ti_le c_59) (by decide)
      exact (r_p4.no (by decide)).elim
    · refine lv_ldc2 (v := 27) hx hb hown (hts _ tw_1312) dX10_spelt_62 ?_
      refine lv_lload hx hb dX10_spelt_65 (lv_at hl 7 rfl) ?_
      refine lv_lmul hx hb dX10_spelt_67 (lv_topl (fun w_5 e_w_5 => ?_))
      have r_w_5 := tq_lmul (lo := 11055663) (hi := 11055663) rk_27 r_x7 (by decide +kernel) e_w_5
      refine lv_iload hx hb dX10_spelt_68 (lv_at hl 4 rfl) ?_
      obtain ⟨w_6, e_w_6⟩ : ∃ q9 : Int64, (p4 : Int32).toInt64 = q9 := ⟨_, rfl⟩
      refine lv_i2l (v := w_6) hx hb dX10_spelt_70 e_w_6 ?_
      have r_w_6 := tq_i2l r_p4 e_w_6
      refine lv_ladd hx hb dX10_spelt_71 (lv_topl (fun w_7 e_w_7 => ?_))
      have r_w_7 := tq_ladd (lo := 11055764) (hi := 11055764) r_w_5 r_w_6 (by decide +kernel) e_w_7
      refine lv_ldc2 (v := 96) hx hb hown (hts _ tw_1313) dX10_spelt_72 ?_
      refine lv_lsub hx hb dX10_spelt_75 (lv_topl (fun w_8 e_w_8 => ?_))
      have r_w_8 := tq_lsub (lo := 11055668) (hi := 11055668) r_w_7 rk_96 (by decide +kernel) e_w_8
      refine lv_lstore (lv' := [(7, .long w_8), (0, .int p0), (1, .int p1), (2, .int p2), (3, .int p3), (4, .int p4), (5, .int p5), (6, .int p6)]) hx hb dX10_spelt_76 hl (by decide) rfl (fun ls hl => ?_)
      exact B78 w_8 _ _ ls r_p0 r_p1 r_p2 r_p3 r_p4 r_p5 r_p6 r_w_8 hw (lv_sub hl [1, 2, 3, 4, 5, 6, 7, 0] rfl)
  have B38 : ∀ (x7 : Int64) (H : Heap) (locs : List Loc) (ls : Array Slot), RI p0 116 116 → RI p1 117 117 → RI p2 114 114 → RI p3 110 110 → RI p4 101 101 → RI p5 100 100 → RI p6 0 0 → RJ x7 15165 15165 → WD D cy GG A s wr_X10_spelt__27 wa_X10_spelt__27 Ps w0 Ps w0 H locs → lv_has ls 9 [(0, .int p0), (1, .int p1), (2, .int p2), (3, .int p3), (4, .int p4), (5, .int p5), (6, .int p6), (7, .long x7)] → W p l e (headSpec (Cond.code yX10_spelt cX10_spelt 9 (some .long) :: gT) ({ frames := 0, cells := 0, slots := 0, locals := 200 } : Room)).room s m ([.int p0, .int p1, .int p2, .int p3, .int p4, .int p5, .int p6] : List Value).toArray below meth c H locs 0 0 Q (F0 m 38 ls []) := by
    intro x7 H locs ls r_p0 r_p1 r_p2 r_p3 r_p4 r_p5 r_p6 r_x7 hw hl
    refine lv_iload_n hx hb dX10_spelt_38 rfl (lv_at hl 3 rfl) ?_
    refine lv_if_le (tgt := 57) hx hb dX10_spelt_39 (by decide) (fun c_39 => ?_) (fun c_39 => ?_)
    · have r_p3 : RI p3 110 0 := rc_le1 r_p3 rl_0 (ti_le c_39) (by decide)
      exact (r_p3.no (by decide)).elim
    · refine lv_ldc2 (v := 27) hx hb hown (hts _ tw_1312) dX10_spelt_42 ?_
      refine lv_lload hx hb dX10_spelt_45 (lv_at hl 7 rfl) ?_
      refine lv_lmul hx hb dX10_spelt_47 (lv_topl (fun w_9 e_w_9 => ?_))
      have r_w_9 := tq_lmul (lo := 409455) (hi := 409455) rk_27 r_x7 (by decide +kernel) e_w_9
      refine lv_iload_n hx hb dX10_spelt_48 rfl (lv_at hl 3 rfl) ?_
      obtain ⟨w_10, e_w_10⟩ : ∃ q9 : Int64, (p3 : Int32).toInt64 = q9 := ⟨_, rfl⟩
      refine lv_i2l (v := w_10) hx hb dX10_spelt_49 e_w_10 ?_
      have r_w_10 := tq_i2l r_p3 e_w_10
      refine lv_ladd hx hb dX10_spelt_50 (lv_topl (fun w_11 e_w_11 => ?_))
      have r_w_11 := tq_ladd (lo := 409565) (hi := 409565) r_w_9 r_w_10 (by decide +kernel) e_w_11
      refine lv_ldc2 (v := 96) hx hb hown (hts _ tw_1313) dX10_spelt_51 ?_
      refine lv_lsub hx hb dX10_spelt_54 (lv_topl (fun w_12 e_w_12 => ?_))
      have r_w_12 := tq_lsub (lo := 409469) (hi := 409469) r_w_11 rk_96 (by decide +kernel) e_w_12
      refine lv_lstore (lv' := [(7, .long w_12), (0, .int p0), (1, .int p1), (2, .int p2), (3, .int p3), (4, .int p4), (5, .int p5), (6, .int p6)]) hx hb dX10_spelt_55 hl (by decide) rfl (fun ls hl => ?_)
      exact B57 w_12 _ _ ls r_p0 r_p1 r_p2 r_p3 r_p4 r_p5 r_p6 r_w_12 hw (lv_sub hl [1, 2, 3, 4, 5, 6, 7, 0] rfl)
  refine lv_ldc2 (v := 27) hx hb hown (hts _ tw_1312) dX10_spelt_0 ?_
  refine lv_iload_n hx hb dX10_spelt_3 rfl (lv_at hl 0 rfl) ?_
  obtain ⟨w_13, e_w_13⟩ : ∃ q9 : Int64, (p0 : Int32).toInt64 = q9 := ⟨_, rfl⟩
  refine lv_i2l (v := w_13) hx hb dX10_spelt_4 e_w_13 ?_
  have r_w_13 := tq_i2l r_p0 e_w_13
  refine lv_ldc2 (v := 96) hx hb hown (hts _ tw_1313) dX10_spelt_5 ?_
  refine lv_lsub hx hb dX10_spelt_8 (lv_topl (fun w_14 e_w_14 => ?_))
  have r_w_14 := tq_lsub (lo := 20) (hi := 20) r_w_13 rk_96 (by decide +kernel) e_w_14
  refine lv_lmul hx hb dX10_spelt_9 (lv_topl (fun w_15 e_w_15 => ?_))
  have r_w_15 := tq_lmul (lo := 540) (hi := 540) rk_27 r_w_14 (by decide +kernel) e_w_15
  refine lv_iload_n hx hb dX10_spelt_10 rfl (lv_at hl 1 rfl) ?_
  obtain ⟨w_16, e_w_16⟩ : ∃ q9 : Int64, (p1 : Int32).toInt64 = q9 := ⟨_, rfl⟩
  refine lv_i2l (v := w_16) hx hb dX10_spelt_11 e_w_16 ?_
  have r_w_16 := tq_i2l r_p1 e_w_16
  refine lv_ladd hx hb dX10_spelt_12 (lv_topl (fun w_17 e_w_17 => ?_))
  have r_w_17 := tq_ladd (lo := 657) (hi := 657) r_w_15 r_w_16 (by decide +kernel) e_w_17
  refine lv_ldc2 (v := 96) hx hb hown (hts _ tw_1313) dX10_spelt_13 ?_
  refine lv_lsub hx hb dX10_spelt_16 (lv_topl (fun w_18 e_w_18 => ?_))
  have r_w_18 := tq_lsub (lo := 561) (hi := 561) r_w_17 rk_96 (by decide +kernel) e_w_18
  refine lv_lstore (lv' := [(7, .long w_18), (0, .int p0), (1, .int p1), (2, .int p2), (3, .int p3), (4, .int p4), (5, .int p5), (6, .int p6)]) hx hb dX10_spelt_17 hl (by decide) rfl (fun ls hl => ?_)
  refine lv_iload_n hx hb dX10_spelt_19 rfl (lv_at hl 3 rfl) ?_
  refine lv_if_le (tgt := 38) hx hb dX10_spelt_20 (by decide) (fun c_20 => ?_) (fun c_20 => ?_)
  · have r_p2 : RI p2 114 0 := rc_le1 r_p2 rl_0 (ti_le c_20) (by decide)
    exact (r_p2.no (by decide)).elim
  · refine lv_ldc2 (v := 27) hx hb hown (hts _ tw_1312) dX10_spelt_23 ?_
    refine lv_lload hx hb dX10_spelt_26 (lv_at hl 0 rfl) ?_
    refine lv_lmul hx hb dX10_spelt_28 (lv_topl (fun w_19 e_w_19 => ?_))
    have r_w_19 := tq_lmul (lo := 15147) (hi := 15147) rk_27 r_w_18 (by decide +kernel) e_w_19
    refine lv_iload_n hx hb dX10_spelt_29 rfl (lv_at hl 3 rfl) ?_
    obtain ⟨w_20, e_w_20⟩ : ∃ q9 : Int64, (p2 : Int32).toInt64 = q9 := ⟨_, rfl⟩
    refine lv_i2l (v := w_20) hx hb dX10_spelt_30 e_w_20 ?_
    have r_w_20 := tq_i2l r_p2 e_w_20
    refine lv_ladd hx hb dX10_spelt_31 (lv_topl (fun w_21 e_w_21 => ?_))
    have r_w_21 := tq_ladd (lo := 15261) (hi := 15261) r_w_19 r_w_20 (by decide +kernel) e_w_21
    refine lv_ldc2 (v := 96) hx hb hown (hts _ tw_1313) dX10_spelt_32 ?_
    refine lv_lsub hx hb dX10_spelt_35 (lv_topl (fun w_22 e_w_22 => ?_))
    have r_w_22 := tq_lsub (lo := 15165) (hi := 15165) r_w_21 rk_96 (by decide +kernel) e_w_22
    refine lv_lstore (lv' := [(7, .long w_22), (0, .int p0), (1, .int p1), (2, .int p2), (3, .int p3), (4, .int p4), (5, .int p5), (6, .int p6)]) hx hb dX10_spelt_36 hl (by decide) rfl (fun ls hl => ?_)
    exact B38 w_22 _ _ ls r_p0 r_p1 r_p2 r_p3 r_p4 r_p5 r_p6 r_w_22 hw (lv_sub hl [1, 2, 3, 4, 5, 6, 7, 0] rfl)
abbrev wr_X10_wordOf : List (Nat × Nat) := []
abbrev wa_X10_wordOf : List Nat := []
set_option maxHeartbeats 4000000 in
set_option maxRecDepth 100000 in
theorem c_X10_wordOf (l : Launch) (D : va_G) (cy : Nat → ClassId) (z : Nat → Nat) (sz : Nat) (Ps : PSI) (w0 : va_W) (hT : HT cy GG Ps w0) (p0 : Int32) (r_p0 : RI p0 0 27) : Met l yX10_wordOf (Cond.code yX10_wordOf cX10_wordOf 1 (some .long) :: gT) ({ frames := 2, cells := 0, slots := 0, locals := 400 } : Room) (va_Pc [.int p0] (PRE D cy z w0 sz)) (va_Ql (fun (r : Int64) (u : Unit) => RJ r 257 8935713994) (BB D cy (va_A w0 sz) (fun (u : Unit) => w0)) (va_A w0 sz)) 0 0 (va_A w0 sz) := by
  refine Met.ofW (cc := cX10_wordOf) (maxL := 1) (ret := (some .long)) (by decide) rfl ?_
  intro p e s m args below meth c s₁ B hml hv
  obtain ⟨rfl, hsz, hP, hK, hD0, hSD⟩ := hv
  have hx := B.exec
  have hb := B.bytes
  have hr := B.returns
  have hlocks := B.notSynchronized
  have hts : ∀ w ∈ gT, w.before _ s = true := fun w h => atoms_spec (ws := Cond.code yX10_wordOf cX10_wordOf 1 (some .long) :: gT) B.pre w (List.mem_cons_of_mem _ h)
  have hown : s.vm.findClass RX10 = some m.cls := findClass_of_methodNamed B.named
  subst hsz
  have hD := hD0.self (sz := s.heap.size)
  generalize hAe : va_A w0 s.heap.size = A at hD hSD ⊢
  have hA : ∀ q : Nat, s.heap.size ≤ q → A q := fun q h => by rw [← hAe]; exact Or.inr h
  have hl := lv_entry ([.int p0]) (n := 1) (Nat.le_of_ble_eq_true rfl)
  rw [lg_entry_eq]
  generalize (lg_sl ([.int p0]) ++ List.replicate (1 - (lg_sl ([.int p0])).length) Slot.unset).toArray = ls at hl ⊢
  have hl : lv_has ls 1 [(0, .int p0)] := hl
  refine nameQ (fun Q hQ => ?_)
  have hw : WD D cy GG A s wr_X10_wordOf wa_X10_wordOf Ps w0 Ps w0 s.heap [] := ⟨hT, hP, hD, va_S.rf, FR.rf, hT.1, [], (List.append_nil _).symm⟩
  refine lv_iload_n hx hb dX10_wordOf_0 rfl (lv_at hl 0 rfl) ?_
  have w_1 := r_p0
  by_cases cl_1 : p0.toInt < 0 ∨ 26 < p0.toInt
  · refine lv_tableOut (tgt := 547) hx hb dX10_wordOf_1 cl_1 (by decide) ?_
    refine lv_bipush (v := 110) hx hb dX10_wordOf_547 (by decide) ?_
    refine lv_bipush (v := 117) hx hb dX10_wordOf_549 (by decide) ?_
    refine lv_bipush (v := 109) hx hb dX10_wordOf_551 (by decide) ?_
    refine lv_bipush (v := 98) hx hb dX10_wordOf_553 (by decide) ?_
    refine lv_bipush (v := 101) hx hb dX10_wordOf_555 (by decide) ?_
    refine lv_bipush (v := 114) hx hb dX10_wordOf_557 (by decide) ?_
    refine lv_iconst (v := 0) hx hb dX10_wordOf_559 (by decide) ?_
    refine tk_lr (va_runS (As := [.int 110, .int 117, .int 109, .int 98, .int 101, .int 114, .int 0]) (rest := []) ⟨hx, hb, hml, hown, hts⟩ (c_X10_spelt l D cy z s.heap.size Ps w0 hw.1 110 117 109 98 101 114 0 rl_110 rl_117 rl_109 rl_98 rl_101 rl_114 rl_0) (va_cwS 7 hts (gS tw_1325 tw_1326 tw_15 tw_1327) rfl rfl rfl (by decide +kernel) ⟨Nat.le_of_ble_eq_true rfl, Nat.le_of_ble_eq_true rfl⟩) (tg_preS hw hK hSD hA) rfl rfl hl.1 rfl (lv_room (Nat.le_of_ble_eq_true rfl)) dX10_wordOf_560 ⟨Nat.le_of_ble_eq_true rfl, Nat.le_of_ble_eq_true rfl⟩) hw hA (fun v_1  H locs hp_v_1 hw => ?_)
    have r_v_1 : RJ v_1 212302449 212302449 := hp_v_1
    subst hQ
    exact W.lret (v := v_1) hx hb hr (fun t ht hW => ⟨⟨v_1, (), rfl, r_v_1.to (by decide), by rw [ht]; exact hw.2.1, va_K.moved hW.alike hK, hw.2.2.1⟩, hw.2.2.2.1.F ht⟩) hw.2.2.2.1.2.2 dX10_wordOf_563
  · have e_1 : p0.toInt = 0 ∨ p0.toInt = 1 ∨ p0.toInt = 2 ∨ p0.toInt = 3 ∨ p0.toInt = 4 ∨ p0.toInt = 5 ∨ p0.toInt = 6 ∨ p0.toInt = 7 ∨ p0.toInt = 8 ∨ p0.toInt = 9 ∨ p0.toInt = 10 ∨ p0.toInt = 11 ∨ p0.toInt = 12 ∨ p0.toInt = 13 ∨ p0.toInt = 14 ∨ p0.toInt = 15 ∨ p0.toInt = 16 ∨ p0.toInt = 17 ∨ p0.toInt = 18 ∨ p0.toInt = 19 ∨ p0.toInt = 20 ∨ p0.toInt = 21 ∨ p0.toInt = 22 ∨ p0.toInt = 23 ∨ p0.toInt = 24 ∨ p0.toInt = 25 ∨ p0.toInt = 26 := by omega
    rcases e_1 with h_1 | h_1 | h_1 | h_1 | h_1 | h_1 | h_1 | h_1 | h_1 | h_1 | h_1 | h_1 | h_1 | h_1 | h_1 | h_1 | h_1 | h_1 | h_1 | h_1 | h_1 | h_1 | h_1 | h_1 | h_1 | h_1 | h_1
    · refine lv_tableIn (tgt := 124) (off := 123) hx hb dX10_wordOf_1 (by omega) (by omega) (by rw [h_1]; rfl) (by decide) ?_
      have r_p0 : RI p0 0 0 := ⟨by omega, by omega⟩
      refine lv_bipush (v := 105) hx hb dX10_wordOf_124 (by decide) ?_
      refine lv_bipush (v := 100) hx hb dX10_wordOf_126 (by decide) ?_
      refine lv_bipush (v := 101) hx hb dX10_wordOf_128 (by decide) ?_
      refine lv_bipush (v := 97) hx hb dX10_wordOf_130 (by decide) ?_
      refine lv_iconst (v := 0) hx hb dX10_wordOf_132 (by decide) ?_
      refine lv_iconst (v := 0) hx hb dX10_wordOf_133 (by decide) ?_
      refine lv_iconst (v := 0) hx hb dX10_wordOf_134 (by decide) ?_
      refine tk_lr (va_runS (As := [.int 105, .int 100, .int 101, .int 97, .int 0, .int 0, .int 0]) (rest := []) ⟨hx, hb, hml, hown, hts⟩ (c_X10_spelt__1 l D cy z s.heap.size Ps w0 hw.1 105 100 101 97 0 0 0 rl_105 rl_100 rl_101 rl_97 rl_0 rl_0 rl_0) (va_cwS 7 hts (gS tw_1325 tw_1326 tw_15 tw_1327) rfl rfl rfl (by decide +kernel) ⟨Nat.le_of_ble_eq_true rfl, Nat.le_of_ble_eq_true rfl⟩) (tg_preS hw hK hSD hA) rfl rfl hl.1 rfl (lv_room (Nat.le_of_ble_eq_true rfl)) dX10_wordOf_135 ⟨Nat.le_of_ble_eq_true rfl, Nat.le_of_ble_eq_true rfl⟩) hw hA (fun v_2  H locs hp_v_2 hw => ?_)
      have r_v_2 : RJ v_2 180199 180199 := hp_v_2
      subst hQ
      exact W.lret (v := v_2) hx hb hr (fun t ht hW => ⟨⟨v_2, (), rfl, r_v_2.to (by decide), by rw [ht]; exact hw.2.1, va_K.moved hW.alike hK, hw.2.2.1⟩, hw.2.2.2.1.F ht⟩) hw.2.2.2.1.2.2 dX10_wordOf_138
    · refine lv_tableIn (tgt := 139) (off := 138) hx hb dX10_wordOf_1 (by omega) (by omega) (by rw [h_1]; rfl) (by decide) ?_
      have r_p0 : RI p0 1 1 := ⟨by omega, by omega⟩
      refine lv_bipush (v := 114) hx hb dX10_wordOf_139 (by decide) ?_
      refine lv_bipush (v := 111) hx hb dX10_wordOf_141 (by decide) ?_
      refine lv_bipush (v := 111) hx hb dX10_wordOf_143 (by decide) ?_
      refine lv_bipush (v := 109) hx hb dX10_wordOf_145 (by decide) ?_
      refine lv_iconst (v := 0) hx hb dX10_wordOf_147 (by decide) ?_
      refine lv_iconst (v := 0) hx hb dX10_wordOf_148 (by decide) ?_
      refine lv_iconst (v := 0) hx hb dX10_wordOf_149 (by decide) ?_
      refine tk_lr (va_runS (As := [.int 114, .int 111, .int 111, .int 109, .int 0, .int 0, .int 0]) (rest := []) ⟨hx, hb, hml, hown, hts⟩ (c_X10_spelt__2 l D cy z s.heap.size Ps w0 hw.1 114 111 111 109 0 0 0 rl_114 rl_111 rl_111 rl_109 rl_0 rl_0 rl_0) (va_cwS 7 hts (gS tw_1325 tw_1326 tw_15 tw_1327) rfl rfl rfl (by decide +kernel) ⟨Nat.le_of_ble_eq_true rfl, Nat.le_of_ble_eq_true rfl⟩) (tg_preS hw hK hSD hA) rfl rfl hl.1 rfl (lv_room (Nat.le_of_ble_eq_true rfl)) dX10_wordOf_150 ⟨Nat.le_of_ble_eq_true rfl, Nat.le_of_ble_eq_true rfl⟩) hw hA (fun v_3  H locs hp_v_3 hw => ?_)
      have r_v_3 : RJ v_3 365647 365647 := hp_v_3
      subst hQ
      exact W.lret (v := v_3) hx hb hr (fun t ht hW => ⟨⟨v_3, (), rfl, r_v_3.to (by decide), by rw [ht]; exact hw.2.1, va_K.moved hW.alike hK, hw.2.2.1⟩, hw.2.2.2.1.F ht⟩) hw.2.2.2.1.2.2 dX10_wordOf_153
    · refine lv_tableIn (tgt := 154) (off := 153) hx hb dX10_wordOf_1 (by omega) (by omega) (by rw [h_1]; rfl) (by decide) ?_
      have r_p0 : RI p0 2 2 := ⟨by omega, by omega⟩
      refine lv_bipush (v := 112) hx hb dX10_wordOf_154 (by decide) ?_
      refine lv_bipush (v := 97) hx hb dX10_wordOf_156 (by decide) ?_
      refine lv_bipush (v := 114) hx hb dX10_wordOf_158 (by decide) ?_
      refine lv_bipush (v := 99) hx hb dX10_wordOf_160 (by decide) ?_
      refine lv_bipush (v := 101) hx hb dX10_wordOf_162 (by decide) ?_
      refine lv_bipush (v := 108) hx hb dX10_wordOf_164 (by decide) ?_
      refine lv_iconst (v := 0) hx hb dX10_wordOf_166 (by decide) ?_
      refine tk_lr (va_runS (As := [.int 112, .int 97, .int 114, .int 99, .int 101, .int 108, .int 0]) (rest := []) ⟨hx, hb, hml, hown, hts⟩ (c_X10_spelt__3 l D cy z s.heap.size Ps w0 hw.1 112 97 114 99 101 108 0 rl_112 rl_97 rl_114 rl_99 rl_101 rl_108 rl_0) (va_cwS 7 hts (gS tw_1325 tw_1326 tw_15 tw_1327) rfl rfl rfl (by decide +kernel) ⟨Nat.le_of_ble_eq_true rfl, Nat.le_of_ble_eq_true rfl⟩) (tg_preS hw hK hSD hA) rfl rfl hl.1 rfl (lv_room (Nat.le_of_ble_eq_true rfl)) dX10_wordOf_167 ⟨Nat.le_of_ble_eq_true rfl, Nat.le_of_ble_eq_true rfl⟩) hw hA (fun v_4  H locs hp_v_4 hw => ?_)
      have r_v_4 : RJ v_4 230470581 230470581 := hp_v_4
      subst hQ
      exact W.lret (v := v_4) hx hb hr (fun t ht hW => ⟨⟨v_4, (), rfl, r_v_4.to (by decide), by rw [ht]; exact hw.2.1, va_K.moved hW.alike hK, hw.2.2.1⟩, hw.2.2.2.1.F ht⟩) hw.2.2.2.1.2.2 dX10_wordOf_170
    · refine lv_tableIn (tgt := 171) (off := 170) hx hb dX10_wordOf_1 (by omega) (by omega) (by rw [h_1]; rfl) (by decide) ?_
      have r_p0 : RI p0 3 3 := ⟨by omega, by omega⟩
      refine lv_bipush (v := 112) hx hb dX10_wordOf_171 (by decide) ?_
      refine lv_bipush (v := 101) hx hb dX10_wordOf_173 (by decide) ?_
      refine lv_bipush (v := 114) hx hb dX10_wordOf_175 (by decide) ?_
      refine lv_bipush (v := 115) hx hb dX10_wordOf_177 (by decide) ?_
      refine lv_bipush (v := 111) hx hb dX10_wordOf_179 (by decide) ?_
      refine lv_bipush (v := 110) hx hb dX10_wordOf_181 (by decide) ?_
      refine lv_iconst (v := 0) hx hb dX10_wordOf_183 (by decide) ?_
      refine tk_lr (va_runS (As := [.int 112, .int 101, .int 114, .int 115, .int 111, .int 110, .int 0]) (rest := []) ⟨hx, hb, hml, hown, hts⟩ (c_X10_spelt__4 l D cy z s.heap.size Ps w0 hw.1 112 101 114 115 111 110 0 rl_112 rl_101 rl_114 rl_115 rl_111 rl_110 rl_0) (va_cwS 7 hts (gS tw_1325 tw_1326 tw_15 tw_1327) rfl rfl rfl (by decide +kernel) ⟨Nat.le_of_ble_eq_true rfl, Nat.le_of_ble_eq_true rfl⟩) (tg_preS hw hK hSD hA) rfl rfl hl.1 rfl (lv_room (Nat.le_of_ble_eq_true rfl)) dX10_wordOf_184 ⟨Nat.le_of_ble_eq_true rfl, Nat.le_of_ble_eq_true rfl⟩) hw hA (fun v_5  H locs hp_v_5 hw => ?_)
      have r_v_5 : RJ v_5 232608281 232608281 := hp_v_5
      subst hQ
      exact W.lret (v := v_5) hx hb hr (fun t ht hW => ⟨⟨v_5, (), rfl, r_v_5.to (by decide), by rw [ht]; exact hw.2.1, va_K.moved hW.alike hK, hw.2.2.1⟩, hw.2.2.2.1.F ht⟩) hw.2.2.2.1.2.2 dX10_wordOf_187
    · refine lv_tableIn (tgt := 188) (off := 187) hx hb dX10_wordOf_1 (by omega) (by omega) (by rw [h_1]; rfl) (by decide) ?_
      have r_p0 : RI p0 4 4 := ⟨by omega, by omega⟩
      refine lv_bipush (v := 115) hx hb dX10_wordOf_188 (by decide) ?_
      refine lv_bipush (v := 105) hx hb dX10_wordOf_190 (by decide) ?_
      refine lv_bipush (v := 116) hx hb dX10_wordOf_192 (by decide) ?_
      refine lv_bipush (v := 115) hx hb dX10_wordOf_194 (by decide) ?_
      refine lv_iconst (v := 0) hx hb dX10_wordOf_196 (by decide) ?_
      refine lv_iconst (v := 0) hx hb dX10_wordOf_197 (by decide) ?_
      refine lv_iconst (v := 0) hx hb dX10_wordOf_198 (by decide) ?_
      refine tk_lr (va_runS (As := [.int 115, .int 105, .int 116, .int 115, .int 0, .int 0, .int 0]) (rest := []) ⟨hx, hb, hml, hown, hts⟩ (c_X10_spelt__5 l D cy z s.heap.size Ps w0 hw.1 115 105 116 115 0 0 0 rl_115 rl_105 rl_116 rl_115 rl_0 rl_0 rl_0) (va_cwS 7 hts (gS tw_1325 tw_1326 tw_15 tw_1327) rfl rfl rfl (by decide +kernel) ⟨Nat.le_of_ble_eq_true rfl, Nat.le_of_ble_eq_true rfl⟩) (tg_preS hw hK hSD hA) rfl rfl hl.1 rfl (lv_room (Nat.le_of_ble_eq_true rfl)) dX10_wordOf_199 ⟨Nat.le_of_ble_eq_true rfl, Nat.le_of_ble_eq_true rfl⟩) hw hA (fun v_6  H locs hp_v_6 hw => ?_)
      have r_v_6 : RJ v_6 381097 381097 := hp_v_6
      subst hQ
      exact W.lret (v := v_6) hx hb hr (fun t ht hW => ⟨⟨v_6, (), rfl, r_v_6.to (by decide), by rw [ht]; exact hw.2.1, va_K.moved hW.alike hK, hw.2.2.1⟩, hw.2.2.2.1.F ht⟩) hw.2.2.2.1.2.2 dX10_wordOf_202
    · refine lv_tableIn (tgt := 203) (off := 202) hx hb dX10_wordOf_1 (by omega) (by omega) (by rw [h_1]; rfl) (by decide) ?_
      have r_p0 : RI p0 5 5 := ⟨by omega, by omega⟩
      refine lv_bipush (v := 104) hx hb dX10_wordOf_203 (by decide) ?_
      refine lv_bipush (v := 97) hx hb dX10_wordOf_205 (by decide) ?_
      refine lv_bipush (v := 115) hx hb dX10_wordOf_207 (by decide) ?_
      refine lv_iconst (v := 0) hx hb dX10_wordOf_209 (by decide) ?_
      refine lv_iconst (v := 0) hx hb dX10_wordOf_210 (by decide) ?_
      refine lv_iconst (v := 0) hx hb dX10_wordOf_211 (by decide) ?_
      refine lv_iconst (v := 0) hx hb dX10_wordOf_212 (by decide) ?_
      refine tk_lr (va_runS (As := [.int 104, .int 97, .int 115, .int 0, .int 0, .int 0, .int 0]) (rest := []) ⟨hx, hb, hml, hown, hts⟩ (c_X10_spelt__6 l D cy z s.heap.size Ps w0 hw.1 104 97 115 0 0 0 0 rl_104 rl_97 rl_115 rl_0 rl_0 rl_0 rl_0) (va_cwS 7 hts (gS tw_1325 tw_1326 tw_15 tw_1327) rfl rfl rfl (by decide +kernel) ⟨Nat.le_of_ble_eq_true rfl, Nat.le_of_ble_eq_true rfl⟩) (tg_preS hw hK hSD hA) rfl rfl hl.1 rfl (lv_room (Nat.le_of_ble_eq_true rfl)) dX10_wordOf_213 ⟨Nat.le_of_ble_eq_true rfl, Nat.le_of_ble_eq_true rfl⟩) hw hA (fun v_7  H locs hp_v_7 hw => ?_)
      have r_v_7 : RJ v_7 5878 5878 := hp_v_7
      subst hQ
      exact W.lret (v := v_7) hx hb hr (fun t ht hW => ⟨⟨v_7, (), rfl, r_v_7.to (by decide), by rw [ht]; exact hw.2.1, va_K.moved hW.alike hK, hw.2.2.1⟩, hw.2.2.2.1.F ht⟩) hw.2.2.2.1.2.2 dX10_wordOf_216
    · refine lv_tableIn (tgt := 217) (off := 216) hx hb dX10_wordOf_1 (by omega) (by omega) (by rw [h_1]; rfl) (by decide) ?_
      have r_p0 : RI p0 6 6 := ⟨by omega, by omega⟩
      refine lv_bipush (v := 113) hx hb dX10_wordOf_217 (by decide) ?_
      refine lv_bipush (v := 117) hx hb dX10_wordOf_219 (by decide) ?_
      refine lv_bipush (v := 97) hx hb dX10_wordOf_221 (by decide) ?_
      refine lv_bipush (v := 114) hx hb dX10_wordOf_223 (by decide) ?_
      refine lv_bipush (v := 114) hx hb dX10_wordOf_225 (by decide) ?_
      refine lv_bipush (v := 101) hx hb dX10_wordOf_227 (by decide) ?_
      refine lv_bipush (v := 108) hx hb dX10_wordOf_229 (by decide) ?_
      refine tk_lr (va_runS (As := [.int 113, .int 117, .int 97, .int 114, .int 114, .int 101, .int 108]) (rest := []) ⟨hx, hb, hml, hown, hts⟩ (c_X10_spelt__7 l D cy z s.heap.size Ps w0 hw.1 113 117 97 114 114 101 108 rl_113 rl_117 rl_97 rl_114 rl_114 rl_101 rl_108) (va_cwS 7 hts (gS tw_1325 tw_1326 tw_15 tw_1327) rfl rfl rfl (by decide +kernel) ⟨Nat.le_of_ble_eq_true rfl, Nat.le_of_ble_eq_true rfl⟩) (tg_preS hw hK hSD hA) rfl rfl hl.1 rfl (lv_room (Nat.le_of_ble_eq_true rfl)) dX10_wordOf_231 ⟨Nat.le_of_ble_eq_true rfl, Nat.le_of_ble_eq_true rfl⟩) hw hA (fun v_8  H locs hp_v_8 hw => ?_)
      have r_v_8 : RJ v_8 6888374364 6888374364 := hp_v_8
      subst hQ
      exact W.lret (v := v_8) hx hb hr (fun t ht hW => ⟨⟨v_8, (), rfl, r_v_8.to (by decide), by rw [ht]; exact hw.2.1, va_K.moved hW.alike hK, hw.2.2.1⟩, hw.2.2.2.1.F ht⟩) hw.2.2.2.1.2.2 dX10_wordOf_234
    · refine lv_tableIn (tgt := 235) (off := 234) hx hb dX10_wordOf_1 (by omega) (by omega) (by rw [h_1]; rfl) (by decide) ?_
      have r_p0 : RI p0 7 7 := ⟨by omega, by omega⟩
      refine lv_bipush (v := 108) hx hb dX10_wordOf_235 (by decide) ?_
      refine lv_bipush (v := 101) hx hb dX10_wordOf_237 (by decide) ?_
      refine lv_bipush (v := 97) hx hb dX10_wordOf_239 (by decide) ?_
      refine lv_bipush (v := 107) hx hb dX10_wordOf_241 (by decide) ?_
      refine lv_iconst (v := 0) hx hb dX10_wordOf_243 (by decide) ?_
      refine lv_iconst (v := 0) hx hb dX10_wordOf_244 (by decide) ?_
      refine lv_iconst (v := 0) hx hb dX10_wordOf_245 (by decide) ?_
      refine tk_lr (va_runS (As := [.int 108, .int 101, .int 97, .int 107, .int 0, .int 0, .int 0]) (rest := []) ⟨hx, hb, hml, hown, hts⟩ (c_X10_spelt__8 l D cy z s.heap.size Ps w0 hw.1 108 101 97 107 0 0 0 rl_108 rl_101 rl_97 rl_107 rl_0 rl_0 rl_0) (va_cwS 7 hts (gS tw_1325 tw_1326 tw_15 tw_1327) rfl rfl rfl (by decide +kernel) ⟨Nat.le_of_ble_eq_true rfl, Nat.le_of_ble_eq_true rfl⟩) (tg_preS hw hK hSD hA) rfl rfl hl.1 rfl (lv_room (Nat.le_of_ble_eq_true rfl)) dX10_wordOf_246 ⟨Nat.le_of_ble_eq_true rfl, Nat.le_of_ble_eq_true rfl⟩) hw hA (fun v_9  H locs hp_v_9 hw => ?_)
      have r_v_9 : RJ v_9 239879 239879 := hp_v_9
      subst hQ
      exact W.lret (v := v_9) hx hb hr (fun t ht hW => ⟨⟨v_9, (), rfl, r_v_9.to (by decide), by rw [ht]; exact hw.2.1, va_K.moved hW.alike hK, hw.2.2.1⟩, hw.2.2.2.1.F ht⟩) hw.2.2.2.1.2.2 dX10_wordOf_249
    · refine lv_tableIn (tgt := 250) (off := 249) hx hb dX10_wordOf_1 (by omega) (by omega) (by rw [h_1]; rfl) (by decide) ?_
      have r_p0 : RI p0 8 8 := ⟨by omega, by omega⟩
      refine lv_bipush (v := 103) hx hb dX10_wordOf_250 (by decide) ?_
      refine lv_bipush (v := 117) hx hb dX10_wordOf_252 (by decide) ?_
      refine lv_bipush (v := 101) hx hb dX10_wordOf_254 (by decide) ?_
      refine lv_bipush (v := 115) hx hb dX10_wordOf_256 (by decide) ?_
      refine lv_bipush (v := 115) hx hb dX10_wordOf_258 (by decide) ?_
      refine lv_iconst (v := 0) hx hb dX10_wordOf_260 (by decide) ?_
      refine lv_iconst (v := 0) hx hb dX10_wordOf_261 (by decide) ?_
      refine tk_lr (va_runS (As := [.int 103, .int 117, .int 101, .int 115, .int 115, .int 0, .int 0]) (rest := []) ⟨hx, hb, hml, hown, hts⟩ (c_X10_spelt__9 l D cy z s.heap.size Ps w0 hw.1 103 117 101 115 115 0 0 rl_103 rl_117 rl_101 rl_115 rl_115 rl_0 rl_0) (va_cwS 7 hts (gS tw_1325 tw_1326 tw_15 tw_1327) rfl rfl rfl (by decide +kernel) ⟨Nat.le_of_ble_eq_true rfl, Nat.le_of_ble_eq_true rfl⟩) (tg_preS hw hK hSD hA) rfl rfl hl.1 rfl (lv_room (Nat.le_of_ble_eq_true rfl)) dX10_wordOf_262 ⟨Nat.le_of_ble_eq_true rfl, Nat.le_of_ble_eq_true rfl⟩) hw hA (fun v_10  H locs hp_v_10 hw => ?_)
      have r_v_10 : RJ v_10 4137607 4137607 := hp_v_10
      subst hQ
      exact W.lret (v := v_10) hx hb hr (fun t ht hW => ⟨⟨v_10, (), rfl, r_v_10.to (by decide), by rw [ht]; exact hw.2.1, va_K.moved hW.alike hK, hw.2.2.1⟩, hw.2.2.2.1.F ht⟩) hw.2.2.2.1.2.2 dX10_wordOf_265
    · refine lv_tableIn (tgt := 266) (off := 265) hx hb dX10_wordOf_1 (by omega) (by omega) (by rw [h_1]; rfl) (by decide) ?_
      have r_p0 : RI p0 9 9 := ⟨by omega, by omega⟩
      refine lv_bipush (v := 106) hx hb dX10_wordOf_266 (by decide) ?_
      refine lv_bipush (v := 111) hx hb dX10_wordOf_268 (by decide) ?_
      refine lv_bipush (v := 105) hx hb dX10_wordOf_270 (by decide) ?_
      refine lv_bipush (v := 110) hx hb dX10_wordOf_272 (by decide) ?_
      refine lv_bipush (v := 115) hx hb dX10_wordOf_274 (by decide) ?_
      refine lv_iconst (v := 0) hx hb dX10_wordOf_276 (by decide) ?_
      refine lv_iconst (v := 0) hx hb dX10_wordOf_277 (by decide) ?_
      refine tk_lr (va_runS (As := [.int 106, .int 111, .int 105, .int 110, .int 115, .int 0, .int 0]) (rest := []) ⟨hx, hb, hml, hown, hts⟩ (c_X10_spelt__10 l D cy z s.heap.size Ps w0 hw.1 106 111 105 110 115 0 0 rl_106 rl_111 rl_105 rl_110 rl_115 rl_0 rl_0) (va_cwS 7 hts (gS tw_1325 tw_1326 tw_15 tw_1327) rfl rfl rfl (by decide +kernel) ⟨Nat.le_of_ble_eq_true rfl, Nat.le_of_ble_eq_true rfl⟩) (tg_preS hw hK hSD hA) rfl rfl hl.1 rfl (lv_room (Nat.le_of_ble_eq_true rfl)) dX10_wordOf_278 ⟨Nat.le_of_ble_eq_true rfl, Nat.le_of_ble_eq_true rfl⟩) hw hA (fun v_11  H locs hp_v_11 hw => ?_)
      have r_v_11 : RJ v_11 5616613 5616613 := hp_v_11
      subst hQ
      exact W.lret (v := v_11) hx hb hr (fun t ht hW => ⟨⟨v_11, (), rfl, r_v_11.to (by decide), by rw [ht]; exact hw.2.1, va_K.moved hW.alike hK, hw.2.2.1⟩, hw.2.2.2.1.F ht⟩) hw.2.2.2.1.2.2 dX10_wordOf_281
    · refine lv_tableIn (tgt := 282) (off := 281) hx hb dX10_wordOf_1 (by omega) (by omega) (by rw [h_1]; rfl) (by decide) ?_
      have r_p0 : RI p0 10 10 := ⟨by omega, by omega⟩
      refine lv_bipush (v := 115) hx hb dX10_wordOf_282 (by decide) ?_
      refine lv_bipush (v := 116) hx hb dX10_wordOf_284 (by decide) ?_
      refine lv_bipush (v := 97) hx hb dX10_wordOf_286 (by decide) ?_
      refine lv_bipush (v := 110) hx hb dX10_wordOf_288 (by decide) ?_
      refine lv_bipush (v := 100) hx hb dX10_wordOf_290 (by decide) ?_
      refine lv_bipush (v := 115) hx hb dX10_wordOf_292 (by decide) ?_
      refine lv_iconst (v := 0) hx hb dX10_wordOf_294 (by decide) ?_
      refine tk_lr (va_runS (As := [.int 115, .int 116, .int 97, .int 110, .int 100, .int 115, .int 0]) (rest := []) ⟨hx, hb, hml, hown, hts⟩ (c_X10_spelt__11 l D cy z s.heap.size Ps w0 hw.1 115 116 97 110 100 115 0 rl_115 rl_116 rl_97 rl_110 rl_100 rl_115 rl_0) (va_cwS 7 hts (gS tw_1325 tw_1326 tw_15 tw_1327) rfl rfl rfl (by decide +kernel) ⟨Nat.le_of_ble_eq_true rfl, Nat.le_of_ble_eq_true rfl⟩) (tg_preS hw hK hSD hA) rfl rfl hl.1 rfl (lv_room (Nat.le_of_ble_eq_true rfl)) dX10_wordOf_295 ⟨Nat.le_of_ble_eq_true rfl, Nat.le_of_ble_eq_true rfl⟩) hw hA (fun v_12  H locs hp_v_12 hw => ?_)
      have r_v_12 : RJ v_12 283288069 283288069 := hp_v_12
      subst hQ
      exact W.lret (v := v_12) hx hb hr (fun t ht hW => ⟨⟨v_12, (), rfl, r_v_12.to (by decide), by rw [ht]; exact hw.2.1, va_K.moved hW.alike hK, hw.2.2.1⟩, hw.2.2.2.1.F ht⟩) hw.2.2.2.1.2.2 dX10_wordOf_298
    · refine lv_tableIn (tgt := 299) (off := 298) hx hb dX10_wordOf_1 (by omega) (by omega) (by rw [h_1]; rfl) (by decide) ?_
      have r_p0 : RI p0 11 11 := ⟨by omega, by omega⟩
      refine lv_bipush (v := 119) hx hb dX10_wordOf_299 (by decide) ?_
      refine lv_bipush (v := 105) hx hb dX10_wordOf_301 (by decide) ?_
      refine lv_bipush (v := 115) hx hb dX10_wordOf_303 (by decide) ?_
      refine lv_bipush (v := 104) hx hb dX10_wordOf_305 (by decide) ?_
      refine lv_bipush (v := 101) hx hb dX10_wordOf_307 (by decide) ?_
      refine lv_bipush (v := 115) hx hb dX10_wordOf_309 (by decide) ?_
      refine lv_iconst (v := 0) hx hb dX10_wordOf_311 (by decide) ?_
      refine tk_lr (va_runS (As := [.int 119, .int 105, .int 115, .int 104, .int 101, .int 115, .int 0]) (rest := []) ⟨hx, hb, hml, hown, hts⟩ (c_X10_spelt__12 l D cy z s.heap.size Ps w0 hw.1 119 105 115 104 101 115 0 rl_119 rl_105 rl_115 rl_104 rl_101 rl_115 rl_0) (va_cwS 7 hts (gS tw_1325 tw_1326 tw_15 tw_1327) rfl rfl rfl (by decide +kernel) ⟨Nat.le_of_ble_eq_true rfl, Nat.le_of_ble_eq_true rfl⟩) (tg_preS hw hK hSD hA) rfl rfl hl.1 rfl (lv_room (Nat.le_of_ble_eq_true rfl)) dX10_wordOf_312 ⟨Nat.le_of_ble_eq_true rfl, Nat.le_of_ble_eq_true rfl⟩) hw hA (fun v_13  H locs hp_v_13 hw => ?_)
      have r_v_13 : RJ v_13 335187793 335187793 := hp_v_13
      subst hQ
      exact W.lret (v := v_13) hx hb hr (fun t ht hW => ⟨⟨v_13, (), rfl, r_v_13.to (by decide), by rw [ht]; exact hw.2.1, va_K.moved hW.alike hK, hw.2.2.1⟩, hw.2.2.2.1.F ht⟩) hw.2.2.2.1.2.2 dX10_wordOf_315
    · refine lv_tableIn (tgt := 316) (off := 315) hx hb dX10_wordOf_1 (by omega) (by omega) (by rw [h_1]; rfl) (by decide) ?_
      have r_p0 : RI p0 12 12 := ⟨by omega, by omega⟩
      refine lv_bipush (v := 103) hx hb dX10_wordOf_316 (by decide) ?_
      refine lv_bipush (v := 117) hx hb dX10_wordOf_318 (by decide) ?_
      refine lv_bipush (v := 101) hx hb dX10_wordOf_320 (by decide) ?_
      refine lv_bipush (v := 115) hx hb dX10_wordOf_322 (by decide) ?_
      refine lv_bipush (v := 115) hx hb dX10_wordOf_324 (by decide) ?_
      refine lv_bipush (v := 101) hx hb dX10_wordOf_326 (by decide) ?_
      refine lv_bipush (v := 115) hx hb dX10_wordOf_328 (by decide) ?_
      refine tk_lr (va_runS (As := [.int 103, .int 117, .int 101, .int 115, .int 115, .int 101, .int 115]) (rest := []) ⟨hx, hb, hml, hown, hts⟩ (c_X10_spelt__13 l D cy z s.heap.size Ps w0 hw.1 103 117 101 115 115 101 115 rl_103 rl_117 rl_101 rl_115 rl_115 rl_101 rl_115) (va_cwS 7 hts (gS tw_1325 tw_1326 tw_15 tw_1327) rfl rfl rfl (by decide +kernel) ⟨Nat.le_of_ble_eq_true rfl, Nat.le_of_ble_eq_true rfl⟩) (tg_preS hw hK hSD hA) rfl rfl hl.1 rfl (lv_room (Nat.le_of_ble_eq_true rfl)) dX10_wordOf_330 ⟨Nat.le_of_ble_eq_true rfl, Nat.le_of_ble_eq_true rfl⟩) hw hA (fun v_14  H locs hp_v_14 hw => ?_)
      have r_v_14 : RJ v_14 3016315657 3016315657 := hp_v_14
      subst hQ
      exact W.lret (v := v_14) hx hb hr (fun t ht hW => ⟨⟨v_14, (), rfl, r_v_14.to (by decide), by rw [ht]; exact hw.2.1, va_K.moved hW.alike hK, hw.2.2.1⟩, hw.2.2.2.1.F ht⟩) hw.2.2.2.1.2.2 dX10_wordOf_333
    · refine lv_tableIn (tgt := 334) (off := 333) hx hb dX10_wordOf_1 (by omega) (by omega) (by rw [h_1]; rfl) (by decide) ?_
      have r_p0 : RI p0 13 13 := ⟨by omega, by omega⟩
      refine lv_bipush (v := 111) hx hb dX10_wordOf_334 (by decide) ?_
      refine lv_bipush (v := 112) hx hb dX10_wordOf_336 (by decide) ?_
      refine lv_bipush (v := 101) hx hb dX10_wordOf_338 (by decide) ?_
      refine lv_bipush (v := 110) hx hb dX10_wordOf_340 (by decide) ?_
      refine lv_iconst (v := 0) hx hb dX10_wordOf_342 (by decide) ?_
      refine lv_iconst (v := 0) hx hb dX10_wordOf_343 (by decide) ?_
      refine lv_iconst (v := 0) hx hb dX10_wordOf_344 (by decide) ?_
      refine tk_lr (va_runS (As := [.int 111, .int 112, .int 101, .int 110, .int 0, .int 0, .int 0]) (rest := []) ⟨hx, hb, hml, hown, hts⟩ (c_X10_spelt__14 l D cy z s.heap.size Ps w0 hw.1 111 112 101 110 0 0 0 rl_111 rl_112 rl_101 rl_110 rl_0 rl_0 rl_0) (va_cwS 7 hts (gS tw_1325 tw_1326 tw_15 tw_1327) rfl rfl rfl (by decide +kernel) ⟨Nat.le_of_ble_eq_true rfl, Nat.le_of_ble_eq_true rfl⟩) (tg_preS hw hK hSD hA) rfl rfl hl.1 rfl (lv_room (Nat.le_of_ble_eq_true rfl)) dX10_wordOf_345 ⟨Nat.le_of_ble_eq_true rfl, Nat.le_of_ble_eq_true rfl⟩) hw hA (fun v_15  H locs hp_v_15 hw => ?_)
      have r_v_15 : RJ v_15 307058 307058 := hp_v_15
      subst hQ
      exact W.lret (v := v_15) hx hb hr (fun t ht hW => ⟨⟨v_15, (), rfl, r_v_15.to (by decide), by rw [ht]; exact hw.2.1, va_K.moved hW.alike hK, hw.2.2.1⟩, hw.2.2.2.1.F ht⟩) hw.2.2.2.1.2.2 dX10_wordOf_348
    · refine lv_tableIn (tgt := 349) (off := 348) hx hb dX10_wordOf_1 (by omega) (by omega) (by rw [h_1]; rfl) (by decide) ?_
      have r_p0 : RI p0 14 14 := ⟨by omega, by omega⟩
      refine lv_bipush (v := 99) hx hb dX10_wordOf_349 (by decide) ?_
      refine lv_bipush (v := 97) hx hb dX10_wordOf_351 (by decide) ?_
      refine lv_bipush (v := 114) hx hb dX10_wordOf_353 (by decide) ?_
      refine lv_bipush (v := 114) hx hb dX10_wordOf_355 (by decide) ?_
      refine lv_bipush (v := 121) hx hb dX10_wordOf_357 (by decide) ?_
      refine lv_iconst (v := 0) hx hb dX10_wordOf_359 (by decide) ?_
      refine lv_iconst (v := 0) hx hb dX10_wordOf_360 (by decide) ?_
      refine tk_lr (va_runS (As := [.int 99, .int 97, .int 114, .int 114, .int 121, .int 0, .int 0]) (rest := []) ⟨hx, hb, hml, hown, hts⟩ (c_X10_spelt__15 l D cy z s.heap.size Ps w0 hw.1 99 97 114 114 121 0 0 rl_99 rl_97 rl_114 rl_114 rl_121 rl_0 rl_0) (va_cwS 7 hts (gS tw_1325 tw_1326 tw_15 tw_1327) rfl rfl rfl (by decide +kernel) ⟨Nat.le_of_ble_eq_true rfl, Nat.le_of_ble_eq_true rfl⟩) (tg_preS hw hK hSD hA) rfl rfl hl.1 rfl (lv_room (Nat.le_of_ble_eq_true rfl)) dX10_wordOf_361 ⟨Nat.le_of_ble_eq_true rfl, Nat.le_of_ble_eq_true rfl⟩) hw hA (fun v_16  H locs hp_v_16 hw => ?_)
      have r_v_16 : RJ v_16 1627639 1627639 := hp_v_16
      subst hQ
      exact W.lret (v := v_16) hx hb hr (fun t ht hW => ⟨⟨v_16, (), rfl, r_v_16.to (by decide), by rw [ht]; exact hw.2.1, va_K.moved hW.alike hK, hw.2.2.1⟩, hw.2.2.2.1.F ht⟩) hw.2.2.2.1.2.2 dX10_wordOf_364
    · refine lv_tableIn (tgt := 365) (off := 364) hx hb dX10_wordOf_1 (by omega) (by omega) (by rw [h_1]; rfl) (by decide) ?_
      have r_p0 : RI p0 15 15 := ⟨by omega, by omega⟩
      refine lv_bipush (v := 100) hx hb dX10_wordOf_365 (by decide) ?_
      refine lv_bipush (v := 97) hx hb dX10_wordOf_367 (by decide) ?_
      refine lv_bipush (v := 121) hx hb dX10_wordOf_369 (by decide) ?_
      refine lv_iconst (v := 0) hx hb dX10_wordOf_371 (by decide) ?_
      refine lv_iconst (v := 0) hx hb dX10_wordOf_372 (by decide) ?_
      refine lv_iconst (v := 0) hx hb dX10_wordOf_373 (by decide) ?_
      refine lv_iconst (v := 0) hx hb dX10_wordOf_374 (by decide) ?_
      refine tk_lr (va_runS (As := [.int 100, .int 97, .int 121, .int 0, .int 0, .int 0, .int 0]) (rest := []) ⟨hx, hb, hml, hown, hts⟩ (c_X10_spelt__16 l D cy z s.heap.size Ps w0 hw.1 100 97 121 0 0 0 0 rl_100 rl_97 rl_121 rl_0 rl_0 rl_0 rl_0) (va_cwS 7 hts (gS tw_1325 tw_1326 tw_15 tw_1327) rfl rfl rfl (by decide +kernel) ⟨Nat.le_of_ble_eq_true rfl, Nat.le_of_ble_eq_true rfl⟩) (tg_preS hw hK hSD hA) rfl rfl hl.1 rfl (lv_room (Nat.le_of_ble_eq_true rfl)) dX10_wordOf_375 ⟨Nat.le_of_ble_eq_true rfl, Nat.le_of_ble_eq_true rfl⟩) hw hA (fun v_17  H locs hp_v_17 hw => ?_)
      have r_v_17 : RJ v_17 2968 2968 := hp_v_17
      subst hQ
      exact W.lret (v := v_17) hx hb hr (fun t ht hW => ⟨⟨v_17, (), rfl, r_v_17.to (by decide), by rw [ht]; exact hw.2.1, va_K.moved hW.alike hK, hw.2.2.1⟩, hw.2.2.2.1.F ht⟩) hw.2.2.2.1.2.2 dX10_wordOf_378
    · refine lv_tableIn (tgt := 379) (off := 378) hx hb dX10_wordOf_1 (by omega) (by omega) (by rw [h_1]; rfl) (by decide) ?_
      have r_p0 : RI p0 16 16 := ⟨by omega, by omega⟩
      refine lv_bipush (v := 111) hx hb dX10_wordOf_379 (by decide) ?_
      refine lv_bipush (v := 114) hx hb dX10_wordOf_381 (by decide) ?_
      refine lv_iconst (v := 0) hx hb dX10_wordOf_383 (by decide) ?_
      refine lv_iconst (v := 0) hx hb dX10_wordOf_384 (by decide) ?_
      refine lv_iconst (v := 0) hx hb dX10_wordOf_385 (by decide) ?_
      refine lv_iconst (v := 0) hx hb dX10_wordOf_386 (by decide) ?_
      refine lv_iconst (v := 0) hx hb dX10_wordOf_387 (by decide) ?_
      refine tk_lr (va_runS (As := [.int 111, .int 114, .int 0, .int 0, .int 0, .int 0, .int 0]) (rest := []) ⟨hx, hb, hml, hown, hts⟩ (c_X10_spelt__17 l D cy z s.heap.size Ps w0 hw.1 111 114 0 0 0 0 0 rl_111 rl_114 rl_0 rl_0 rl_0 rl_0 rl_0) (va_cwS 7 hts (gS tw_1325 tw_1326 tw_15 tw_1327) rfl rfl rfl (by decide +kernel) ⟨Nat.le_of_ble_eq_true rfl, Nat.le_of_ble_eq_true rfl⟩) (tg_preS hw hK hSD hA) rfl rfl hl.1 rfl (lv_room (Nat.le_of_ble_eq_true rfl)) dX10_wordOf_388 ⟨Nat.le_of_ble_eq_true rfl, Nat.le_of_ble_eq_true rfl⟩) hw hA (fun v_18  H locs hp_v_18 hw => ?_)
      have r_v_18 : RJ v_18 423 423 := hp_v_18
      subst hQ
      exact W.lret (v := v_18) hx hb hr (fun t ht hW => ⟨⟨v_18, (), rfl, r_v_18.to (by decide), by rw [ht]; exact hw.2.1, va_K.moved hW.alike hK, hw.2.2.1⟩, hw.2.2.2.1.F ht⟩) hw.2.2.2.1.2.2 dX10_wordOf_391
    · refine lv_tableIn (tgt := 392) (off := 391) hx hb dX10_wordOf_1 (by omega) (by omega) (by rw [h_1]; rfl) (by decide) ?_
      have r_p0 : RI p0 17 17 := ⟨by omega, by omega⟩
      refine lv_bipush (v := 97) hx hb dX10_wordOf_392 (by decide) ?_
      refine lv_bipush (v := 110) hx hb dX10_wordOf_394 (by decide) ?_
      refine lv_bipush (v := 100) hx hb dX10_wordOf_396 (by decide) ?_
      refine lv_iconst (v := 0) hx hb dX10_wordOf_398 (by decide) ?_
      refine lv_iconst (v := 0) hx hb dX10_wordOf_399 (by decide) ?_
      refine lv_iconst (v := 0) hx hb dX10_wordOf_400 (by decide) ?_
      refine lv_iconst (v := 0) hx hb dX10_wordOf_401 (by decide) ?_
      refine tk_lr (va_runS (As := [.int 97, .int 110, .int 100, .int 0, .int 0, .int 0, .int 0]) (rest := []) ⟨hx, hb, hml, hown, hts⟩ (c_X10_spelt__18 l D cy z s.heap.size Ps w0 hw.1 97 110 100 0 0 0 0 rl_97 rl_110 rl_100 rl_0 rl_0 rl_0 rl_0) (va_cwS 7 hts (gS tw_1325 tw_1326 tw_15 tw_1327) rfl rfl rfl (by decide +kernel) ⟨Nat.le_of_ble_eq_true rfl, Nat.le_of_ble_eq_true rfl⟩) (tg_preS hw hK hSD hA) rfl rfl hl.1 rfl (lv_room (Nat.le_of_ble_eq_true rfl)) dX10_wordOf_402 ⟨Nat.le_of_ble_eq_true rfl, Nat.le_of_ble_eq_true rfl⟩) hw hA (fun v_19  H locs hp_v_19 hw => ?_)
      have r_v_19 : RJ v_19 1111 1111 := hp_v_19
      subst hQ
      exact W.lret (v := v_19) hx hb hr (fun t ht hW => ⟨⟨v_19, (), rfl, r_v_19.to (by decide), by rw [ht]; exact hw.2.1, va_K.moved hW.alike hK, hw.2.2.1⟩, hw.2.2.2.1.F ht⟩) hw.2.2.2.1.2.2 dX10_wordOf_405
    · refine lv_tableIn (tgt := 406) (off := 405) hx hb dX10_wordOf_1 (by omega) (by omega) (by rw [h_1]; rfl) (by decide) ?_
      have r_p0 : RI p0 18 18 := ⟨by omega, by omega⟩
      refine lv_bipush (v := 110) hx hb dX10_wordOf_406 (by decide) ?_
      refine lv_bipush (v := 111) hx hb dX10_wordOf_408 (by decide) ?_
      refine lv_bipush (v := 116) hx hb dX10_wordOf_410 (by decide) ?_
      refine lv_iconst (v := 0) hx hb dX10_wordOf_412 (by decide) ?_
      refine lv_iconst (v := 0) hx hb dX10_wordOf_413 (by decide) ?_
      refine lv_iconst (v := 0) hx hb dX10_wordOf_414 (by decide) ?_
      refine lv_iconst (v := 0) hx hb dX10_wordOf_415 (by decide) ?_
      refine tk_lr (va_runS (As := [.int 110, .int 111, .int 116, .int 0, .int 0, .int 0, .int 0]) (rest := []) ⟨hx, hb, hml, hown, hts⟩ (c_X10_spelt__19 l D cy z s.heap.size Ps w0 hw.1 110 111 116 0 0 0 0 rl_110 rl_111 rl_116 rl_0 rl_0 rl_0 rl_0) (va_cwS 7 hts (gS tw_1325 tw_1326 tw_15 tw_1327) rfl rfl rfl (by decide +kernel) ⟨Nat.le_of_ble_eq_true rfl, Nat.le_of_ble_eq_true rfl⟩) (tg_preS hw hK hSD hA) rfl rfl hl.1 rfl (lv_room (Nat.le_of_ble_eq_true rfl)) dX10_wordOf_416 ⟨Nat.le_of_ble_eq_true rfl, Nat.le_of_ble_eq_true rfl⟩) hw hA (fun v_20  H locs hp_v_20 hw => ?_)
      have r_v_20 : RJ v_20 10631 10631 := hp_v_20
      subst hQ
      exact W.lret (v := v_20) hx hb hr (fun t ht hW => ⟨⟨v_20, (), rfl, r_v_20.to (by decide), by rw [ht]; exact hw.2.1, va_K.moved hW.alike hK, hw.2.2.1⟩, hw.2.2.2.1.F ht⟩) hw.2.2.2.1.2.2 dX10_wordOf_419
    · refine lv_tableIn (tgt := 420) (off := 419) hx hb dX10_wordOf_1 (by omega) (by omega) (by rw [h_1]; rfl) (by decide) ?_
      have r_p0 : RI p0 19 19 := ⟨by omega, by omega⟩
      refine lv_bipush (v := 111) hx hb dX10_wordOf_420 (by decide) ?_
      refine lv_bipush (v := 112) hx hb dX10_wordOf_422 (by decide) ?_
      refine lv_bipush (v := 101) hx hb dX10_wordOf_424 (by decide) ?_
      refine lv_bipush (v := 110) hx hb dX10_wordOf_426 (by decide) ?_
      refine lv_bipush (v := 101) hx hb dX10_wordOf_428 (by decide) ?_
      refine lv_bipush (v := 100) hx hb dX10_wordOf_430 (by decide) ?_
      refine lv_iconst (v := 0) hx hb dX10_wordOf_432 (by decide) ?_
      refine tk_lr (va_runS (As := [.int 111, .int 112, .int 101, .int 110, .int 101, .int 100, .int 0]) (rest := []) ⟨hx, hb, hml, hown, hts⟩ (c_X10_spelt__20 l D cy z s.heap.size Ps w0 hw.1 111 112 101 110 101 100 0 rl_111 rl_112 rl_101 rl_110 rl_101 rl_100 rl_0) (va_cwS 7 hts (gS tw_1325 tw_1326 tw_15 tw_1327) rfl rfl rfl (by decide +kernel) ⟨Nat.le_of_ble_eq_true rfl, Nat.le_of_ble_eq_true rfl⟩) (tg_preS hw hK hSD hA) rfl rfl hl.1 rfl (lv_room (Nat.le_of_ble_eq_true rfl)) dX10_wordOf_433 ⟨Nat.le_of_ble_eq_true rfl, Nat.le_of_ble_eq_true rfl⟩) hw hA (fun v_21  H locs hp_v_21 hw => ?_)
      have r_v_21 : RJ v_21 223845421 223845421 := hp_v_21
      subst hQ
      exact W.lret (v := v_21) hx hb hr (fun t ht hW => ⟨⟨v_21, (), rfl, r_v_21.to (by decide), by rw [ht]; exact hw.2.1, va_K.moved hW.alike hK, hw.2.2.1⟩, hw.2.2.2.1.F ht⟩) hw.2.2.2.1.2.2 dX10_wordOf_436
    · refine lv_tableIn (tgt := 437) (off := 436) hx hb dX10_wordOf_1 (by omega) (by omega) (by rw [h_1]; rfl) (by decide) ?_
      have r_p0 : RI p0 20 20 := ⟨by omega, by omega⟩
      refine lv_bipush (v := 110) hx hb dX10_wordOf_437 (by decide) ?_
      refine lv_bipush (v := 111) hx hb dX10_wordOf_439 (by decide) ?_
      refine lv_bipush (v := 116) hx hb dX10_wordOf_441 (by decide) ?_
      refine lv_bipush (v := 104) hx hb dX10_wordOf_443 (by decide) ?_
      refine lv_bipush (v := 105) hx hb dX10_wordOf_445 (by decide) ?_
      refine lv_bipush (v := 110) hx hb dX10_wordOf_447 (by decide) ?_
      refine lv_bipush (v := 103) hx hb dX10_wordOf_449 (by decide) ?_
      refine tk_lr (va_runS (As := [.int 110, .int 111, .int 116, .int 104, .int 105, .int 110, .int 103]) (rest := []) ⟨hx, hb, hml, hown, hts⟩ (c_X10_spelt__21 l D cy z s.heap.size Ps w0 hw.1 110 111 116 104 105 110 103 rl_110 rl_111 rl_116 rl_104 rl_105 rl_110 rl_103) (va_cwS 7 hts (gS tw_1325 tw_1326 tw_15 tw_1327) rfl rfl rfl (by decide +kernel) ⟨Nat.le_of_ble_eq_true rfl, Nat.le_of_ble_eq_true rfl⟩) (tg_preS hw hK hSD hA) rfl rfl hl.1 rfl (lv_room (Nat.le_of_ble_eq_true rfl)) dX10_wordOf_451 ⟨Nat.le_of_ble_eq_true rfl, Nat.le_of_ble_eq_true rfl⟩) hw hA (fun v_22  H locs hp_v_22 hw => ?_)
      have r_v_22 : RJ v_22 5649913681 5649913681 := hp_v_22
      subst hQ
      exact W.lret (v := v_22) hx hb hr (fun t ht hW => ⟨⟨v_22, (), rfl, r_v_22.to (by decide), by rw [ht]; exact hw.2.1, va_K.moved hW.alike hK, hw.2.2.1⟩, hw.2.2.2.1.F ht⟩) hw.2.2.2.1.2.2 dX10_wordOf_454
    · refine lv_tableIn (tgt := 455) (off := 454) hx hb dX10_wordOf_1 (by omega) (by omega) (by rw [h_1]; rfl) (by decide) ?_
      have r_p0 : RI p0 21 21 := ⟨by omega, by omega⟩
      refine lv_bipush (v := 119) hx hb dX10_wordOf_455 (by decide) ?_
      refine lv_bipush (v := 97) hx hb dX10_wordOf_457 (by decide) ?_
      refine lv_bipush (v := 116) hx hb dX10_wordOf_459 (by decide) ?_
      refine lv_bipush (v := 99) hx hb dX10_wordOf_461 (by decide) ?_
      refine lv_bipush (v := 104) hx hb dX10_wordOf_463 (by decide) ?_
      refine lv_bipush (v := 101) hx hb dX10_wordOf_465 (by decide) ?_
      refine lv_bipush (v := 100) hx hb dX10_wordOf_467 (by decide) ?_
      refine tk_lr (va_runS (As := [.int 119, .int 97, .int 116, .int 99, .int 104, .int 101, .int 100]) (rest := []) ⟨hx, hb, hml, hown, hts⟩ (c_X10_spelt__22 l D cy z s.heap.size Ps w0 hw.1 119 97 116 99 104 101 100 rl_119 rl_97 rl_116 rl_99 rl_104 rl_101 rl_100) (va_cwS 7 hts (gS tw_1325 tw_1326 tw_15 tw_1327) rfl rfl rfl (by decide +kernel) ⟨Nat.le_of_ble_eq_true rfl, Nat.le_of_ble_eq_true rfl⟩) (tg_preS hw hK hSD hA) rfl rfl hl.1 rfl (lv_room (Nat.le_of_ble_eq_true rfl)) dX10_wordOf_469 ⟨Nat.le_of_ble_eq_true rfl, Nat.le_of_ble_eq_true rfl⟩) hw hA (fun v_23  H locs hp_v_23 hw => ?_)
      have r_v_23 : RJ v_23 8935713994 8935713994 := hp_v_23
      subst hQ
      exact W.lret (v := v_23) hx hb hr (fun t ht hW => ⟨⟨v_23, (), rfl, r_v_23.to (by decide), by rw [ht]; exact hw.2.1, va_K.moved hW.alike hK, hw.2.2.1⟩, hw.2.2.2.1.F ht⟩) hw.2.2.2.1.2.2 dX10_wordOf_472
    · refine lv_tableIn (tgt := 473) (off := 472) hx hb dX10_wordOf_1 (by omega) (by omega) (by rw [h_1]; rfl) (by decide) ?_
      have r_p0 : RI p0 22 22 := ⟨by omega, by omega⟩
      refine lv_bipush (v := 105) hx hb dX10_wordOf_473 (by decide) ?_
      refine lv_bipush (v := 115) hx hb dX10_wordOf_475 (by decide) ?_
      refine lv_iconst (v := 0) hx hb dX10_wordOf_477 (by decide) ?_
      refine lv_iconst (v := 0) hx hb dX10_wordOf_478 (by decide) ?_
      refine lv_iconst (v := 0) hx hb dX10_wordOf_479 (by decide) ?_
      refine lv_iconst (v := 0) hx hb dX10_wordOf_480 (by decide) ?_
      refine lv_iconst (v := 0) hx hb dX10_wordOf_481 (by decide) ?_
      refine tk_lr (va_runS (As := [.int 105, .int 115, .int 0, .int 0, .int 0, .int 0, .int 0]) (rest := []) ⟨hx, hb, hml, hown, hts⟩ (c_X10_spelt__23 l D cy z s.heap.size Ps w0 hw.1 105 115 0 0 0 0 0 rl_105 rl_115 rl_0 rl_0 rl_0 rl_0 rl_0) (va_cwS 7 hts (gS tw_1325 tw_1326 tw_15 tw_1327) rfl rfl rfl (by decide +kernel) ⟨Nat.le_of_ble_eq_true rfl, Nat.le_of_ble_eq_true rfl⟩) (tg_preS hw hK hSD hA) rfl rfl hl.1 rfl (lv_room (Nat.le_of_ble_eq_true rfl)) dX10_wordOf_482 ⟨Nat.le_of_ble_eq_true rfl, Nat.le_of_ble_eq_true rfl⟩) hw hA (fun v_24  H locs hp_v_24 hw => ?_)
      have r_v_24 : RJ v_24 262 262 := hp_v_24
      subst hQ
      exact W.lret (v := v_24) hx hb hr (fun t ht hW => ⟨⟨v_24, (), rfl, r_v_24.to (by decide), by rw [ht]; exact hw.2.1, va_K.moved hW.alike hK, hw.2.2.1⟩, hw.2.2.2.1.F ht⟩) hw.2.2.2.1.2.2 dX10_wordOf_485
    · refine lv_tableIn (tgt := 486) (off := 485) hx hb dX10_wordOf_1 (by omega) (by omega) (by rw [h_1]; rfl) (by decide) ?_
      have r_p0 : RI p0 23 23 := ⟨by omega, by omega⟩
      refine lv_bipush (v := 105) hx hb dX10_wordOf_486 (by decide) ?_
      refine lv_bipush (v := 110) hx hb dX10_wordOf_488 (by decide) ?_
      refine lv_iconst (v := 0) hx hb dX10_wordOf_490 (by decide) ?_
      refine lv_iconst (v := 0) hx hb dX10_wordOf_491 (by decide) ?_
      refine lv_iconst (v := 0) hx hb dX10_wordOf_492 (by decide) ?_
      refine lv_iconst (v := 0) hx hb dX10_wordOf_493 (by decide) ?_
      refine lv_iconst (v := 0) hx hb dX10_wordOf_494 (by decide) ?_
      refine tk_lr (va_runS (As := [.int 105, .int 110, .int 0, .int 0, .int 0, .int 0, .int 0]) (rest := []) ⟨hx, hb, hml, hown, hts⟩ (c_X10_spelt__24 l D cy z s.heap.size Ps w0 hw.1 105 110 0 0 0 0 0 rl_105 rl_110 rl_0 rl_0 rl_0 rl_0 rl_0) (va_cwS 7 hts (gS tw_1325 tw_1326 tw_15 tw_1327) rfl rfl rfl (by decide +kernel) ⟨Nat.le_of_ble_eq_true rfl, Nat.le_of_ble_eq_true rfl⟩) (tg_preS hw hK hSD hA) rfl rfl hl.1 rfl (lv_room (Nat.le_of_ble_eq_true rfl)) dX10_wordOf_495 ⟨Nat.le_of_ble_eq_true rfl, Nat.le_of_ble_eq_true rfl⟩) hw hA (fun v_25  H locs hp_v_25 hw => ?_)
      have r_v_25 : RJ v_25 257 257 := hp_v_25
      subst hQ
      exact W.lret (v := v_25) hx hb hr (fun t ht hW => ⟨⟨v_25, (), rfl, r_v_25.to (by decide), by rw [ht]; exact hw.2.1, va_K.moved hW.alike hK, hw.2.2.1⟩, hw.2.2.2.1.F ht⟩) hw.2.2.2.1.2.2 dX10_wordOf_498
    · refine lv_tableIn (tgt := 499) (off := 498) hx hb dX10_wordOf_1 (by omega) (by omega) (by rw [h_1]; rfl) (by decide) ?_
      have r_p0 : RI p0 24 24 := ⟨by omega, by omega⟩
      refine lv_bipush (v := 115) hx hb dX10_wordOf_499 (by decide) ?_
      refine lv_bipush (v := 105) hx hb dX10_wordOf_501 (by decide) ?_
      refine lv_bipush (v := 122) hx hb dX10_wordOf_503 (by decide) ?_
      refine lv_bipush (v := 101) hx hb dX10_wordOf_505 (by decide) ?_
      refine lv_iconst (v := 0) hx hb dX10_wordOf_507 (by decide) ?_
      refine lv_iconst (v := 0) hx hb dX10_wordOf_508 (by decide) ?_
      refine lv_iconst (v := 0) hx hb dX10_wordOf_509 (by decide) ?_
      refine tk_lr (va_runS (As := [.int 115, .int 105, .int 122, .int 101, .int 0, .int 0, .int 0]) (rest := []) ⟨hx, hb, hml, hown, hts⟩ (c_X10_spelt__25 l D cy z s.heap.size Ps w0 hw.1 115 105 122 101 0 0 0 rl_115 rl_105 rl_122 rl_101 rl_0 rl_0 rl_0) (va_cwS 7 hts (gS tw_1325 tw_1326 tw_15 tw_1327) rfl rfl rfl (by decide +kernel) ⟨Nat.le_of_ble_eq_true rfl, Nat.le_of_ble_eq_true rfl⟩) (tg_preS hw hK hSD hA) rfl rfl hl.1 rfl (lv_room (Nat.le_of_ble_eq_true rfl)) dX10_wordOf_510 ⟨Nat.le_of_ble_eq_true rfl, Nat.le_of_ble_eq_true rfl⟩) hw hA (fun v_26  H locs hp_v_26 hw => ?_)
      have r_v_26 : RJ v_26 381245 381245 := hp_v_26
      subst hQ
      exact W.lret (v := v_26) hx hb hr (fun t ht hW => ⟨⟨v_26, (), rfl, r_v_26.to (by decide), by rw [ht]; exact hw.2.1, va_K.moved hW.alike hK, hw.2.2.1⟩, hw.2.2.2.1.F ht⟩) hw.2.2.2.1.2.2 dX10_wordOf_513
    · refine lv_tableIn (tgt := 514) (off := 513) hx hb dX10_wordOf_1 (by omega) (by omega) (by rw [h_1]; rfl) (by decide) ?_
      have r_p0 : RI p0 25 25 := ⟨by omega, by omega⟩
      refine lv_bipush (v := 98) hx hb dX10_wordOf_514 (by decide) ?_
      refine lv_bipush (v := 117) hx hb dX10_wordOf_516 (by decide) ?_
      refine lv_bipush (v := 108) hx hb dX10_wordOf_518 (by decide) ?_
      refine lv_bipush (v := 103) hx hb dX10_wordOf_520 (by decide) ?_
      refine lv_bipush (v := 101) hx hb dX10_wordOf_522 (by decide) ?_
      refine lv_iconst (v := 0) hx hb dX10_wordOf_524 (by decide) ?_
      refine lv_iconst (v := 0) hx hb dX10_wordOf_525 (by decide) ?_
      refine tk_lr (va_runS (As := [.int 98, .int 117, .int 108, .int 103, .int 101, .int 0, .int 0]) (rest := []) ⟨hx, hb, hml, hown, hts⟩ (c_X10_spelt__26 l D cy z s.heap.size Ps w0 hw.1 98 117 108 103 101 0 0 rl_98 rl_117 rl_108 rl_103 rl_101 rl_0 rl_0) (va_cwS 7 hts (gS tw_1325 tw_1326 tw_15 tw_1327) rfl rfl rfl (by decide +kernel) ⟨Nat.le_of_ble_eq_true rfl, Nat.le_of_ble_eq_true rfl⟩) (tg_preS hw hK hSD hA) rfl rfl hl.1 rfl (lv_room (Nat.le_of_ble_eq_true rfl)) dX10_wordOf_526 ⟨Nat.le_of_ble_eq_true rfl, Nat.le_of_ble_eq_true rfl⟩) hw hA (fun v_27  H locs hp_v_27 hw => ?_)
      have r_v_27 : RJ v_27 1485167 1485167 := hp_v_27
      subst hQ
      exact W.lret (v := v_27) hx hb hr (fun t ht hW => ⟨⟨v_27, (), rfl, r_v_27.to (by decide), by rw [ht]; exact hw.2.1, va_K.moved hW.alike hK, hw.2.2.1⟩, hw.2.2.2.1.F ht⟩) hw.2.2.2.1.2.2 dX10_wordOf_529
    · refine lv_tableIn (tgt := 530) (off := 529) hx hb dX10_wordOf_1 (by omega) (by omega) (by rw [h_1]; rfl) (by decide) ?_
      have r_p0 : RI p0 26 26 := ⟨by omega, by omega⟩
      refine lv_bipush (v := 116) hx hb dX10_wordOf_530 (by decide) ?_
      refine lv_bipush (v := 117) hx hb dX10_wordOf_532 (by decide) ?_
      refine lv_bipush (v := 114) hx hb dX10_wordOf_534 (by decide) ?_
      refine lv_bipush (v := 110) hx hb dX10_wordOf_536 (by decide) ?_
      refine lv_bipush (v := 101) hx hb dX10_wordOf_538 (by decide) ?_
      refine lv_bipush (v := 100) hx hb dX10_wordOf_540 (by decide) ?_
      refine lv_iconst (v := 0) hx hb dX10_wordOf_542 (by decide) ?_
      refine tk_lr (va_runS (As := [.int 116, .int 117, .int 114, .int 110, .int 101, .int 100, .int 0]) (rest := []) ⟨hx, hb, hml, hown, hts⟩ (c_X10_spelt__27 l D cy z s.heap.size Ps w0 hw.1 116 117 114 110 101 100 0 rl_116 rl_117 rl_114 rl_110 rl_101 rl_100 rl_0) (va_cwS 7 hts (gS tw_1325 tw_1326 tw_15 tw_1327) rfl rfl rfl (by decide +kernel) ⟨Nat.le_of_ble_eq_true rfl, Nat.le_of_ble_eq_true rfl⟩) (tg_preS hw hK hSD hA) rfl rfl hl.1 rfl (lv_room (Nat.le_of_ble_eq_true rfl)) dX10_wordOf_543 ⟨Nat.le_of_ble_eq_true rfl, Nat.le_of_ble_eq_true rfl⟩) hw hA (fun v_28  H locs hp_v_28 hw => ?_)
      have r_v_28 : RJ v_28 298503040 298503040 := hp_v_28
      subst hQ
      exact W.lret (v := v_28) hx hb hr (fun t ht hW => ⟨⟨v_28, (), rfl, r_v_28.to (by decide), by rw [ht]; exact hw.2.1, va_K.moved hW.alike hK, hw.2.2.1⟩, hw.2.2.2.1.F ht⟩) hw.2.2.2.1.2.2 dX10_wordOf_546
abbrev wr_X10_isName : List (Nat × Nat) := []
abbrev wa_X10_isName : List Nat := []
set_option maxHeartbeats 4000000 in
set_option maxRecDepth 100000 in
theorem c_X10_isName (l : Launch) (D : va_G) (cy : Nat → ClassId) (z : Nat → Nat) (sz : Nat) (Ps : PSI) (w0 : va_W) (hT : HT cy GG Ps w0) (p0 : Nat) (h_p0 : (p0, 55) ∈ Ps) : Met l yX10_isName (Cond.code yX10_isName cX10_isName 2 (some .boolean) :: gT) ({ frames := 3, cells := 0, slots := 0, locals := 600 } : Room) (va_Pc [.ref p0] (PRE D cy z w0 sz)) (va_Qi (fun (r : Int32) (u : Unit) => RI r 0 1 ∧ (r = 0 → True) ∧ (¬ r = 0 → True)) (BB D cy (va_A w0 sz) (fun (u : Unit) => w0)) (va_A w0 sz)) 0 0 (va_A w0 sz) := by
  refine Met.ofW (cc := cX10_isName) (maxL := 2) (ret := (some .boolean)) (by decide) rfl ?_
  intro p e s m args below meth c s₁ B hml hv
  obtain ⟨rfl, hsz, hP, hK, hD0, hSD⟩ := hv
  have hx := B.exec
  have hb := B.bytes
  have hr := B.returns
  have hlocks := B.notSynchronized
  have hts : ∀ w ∈ gT, w.before _ s = true := fun w h => atoms_spec (ws := Cond.code yX10_isName cX10_isName 2 (some .boolean) :: gT) B.pre w (List.mem_cons_of_mem _ h)
  have hown : s.vm.findClass RX10 = some m.cls := findClass_of_methodNamed B.named
  subst hsz
  have hD := hD0.self (sz := s.heap.size)
  generalize hAe : va_A w0 s.heap.size = A at hD hSD ⊢
  have hA : ∀ q : Nat, s.heap.size ≤ q → A q := fun q h => by rw [← hAe]; exact Or.inr h
  have hl := lv_entry ([.ref p0]) (n := 2) (Nat.le_of_ble_eq_true rfl)
  rw [lg_entry_eq]
  generalize (lg_sl ([.ref p0]) ++ List.replicate (2 - (lg_sl ([.ref p0])).length) Slot.unset).toArray = ls at hl ⊢
  have hl : lv_has ls 2 [(0, .ref p0)] := hl
  refine nameQ (fun Q hQ => ?_)
  have hw : WD D cy GG A s wr_X10_isName wa_X10_isName Ps w0 Ps w0 s.heap [] := ⟨hT, hP, hD, va_S.rf, FR.rf, hT.1, [], (List.append_nil _).symm⟩
  have B12 : ∀ (nf : Nat) (x1 : Int32) (z0_7 : Int32) (H : Heap) (locs : List Loc) (ls : Array Slot), 28 - x1.toInt < (nf : Int) → RI x1 0 28 → RI z0_7 2 2 → FLD w0 p0 10 7 (.int z0_7) → WD D cy GG A s wr_X10_isName wa_X10_isName Ps w0 Ps w0 H locs → lv_has ls 2 [(0, .ref p0), (1, .int x1)] → W p l e (headSpec (Cond.code yX10_isName cX10_isName 2 (some .boolean) :: gT) ({ frames := 3, cells := 0, slots := 0, locals := 600 } : Room)).room s m ([.ref p0] : List Value).toArray below meth c H locs 0 0 Q (F0 m 12 ls []) := by
    intro nf12
    induction nf12 with
    | zero =>
      intro x1 z0_7 H locs ls hn12 r_x1 r_z0_7 m_z0_7 hw hl
      exact absurd hn12 (by have q0 := r_x1.1; have u0 := r_x1.2; omega)
    | succ nf12 ih12 =>
      intro x1 z0_7 H locs ls hn12 r_x1 r_z0_7 m_z0_7 hw hl
      refine lv_iload_n hx hb dX10_isName_12 rfl (lv_at hl 1 rfl) ?_
      refine lv_bipush (v := 27) hx hb dX10_isName_13 (by decide) ?_
      refine lv_icmp_gt (tgt := 38) hx hb dX10_isName_15 (by decide) (fun c_15 => ?_) (fun c_15 => ?_)
      · have r_x1 : RI x1 28 28 := rc_lt2 rl_27 r_x1 (ti_lt c_15) (by decide)
        refine lv_iconst (v := 1) hx hb dX10_isName_38 (by decide) ?_
        subst hQ
        exact W.zret (v := 1) hx hb hr (rfl) (fun t ht hW => ⟨⟨1, (), rfl, ⟨rl_1.to (by decide), (fun _ => trivial), (fun h0 => trivial)⟩, by rw [ht]; exact hw.2.1, va_K.moved hW.alike hK, hw.2.2.1⟩, hw.2.2.2.1.F ht⟩) hw.2.2.2.1.2.2 dX10_isName_39
      · have r_x1 : RI x1 0 27 := rc_le1 r_x1 rl_27 (ti_nlt c_15) (by decide)
        refine lv_aload_n hx hb dX10_isName_18 rfl (lv_at hl 0 rfl) ?_
        refine tg_get (ci := 10) (ts := ty_MODEL) (C := RX10) (T := TX10) (N := 49) hx hb hts inX10 hown hK hw h_p0 rfl rfl 12 (by decide) (hts _ tw_1149) (fun _ h9 => h9) (ft := vJ (-9223372036854775808) 9223372036854775807) rfl dX10_isName_19 (fun u_1 hv_u_1 m_u_1 => ?_)
        obtain ⟨vu_1, rfl, r_vu_1⟩ := hv_u_1
        refine lv_iload_n hx hb dX10_isName_22 rfl (lv_at hl 1 rfl) ?_
        refine tk_lr (va_runS (As := [.int x1]) (rest := [.long vu_1]) ⟨hx, hb, hml, hown, hts⟩ (c_X10_wordOf l D cy z H.size Ps w0 hw.1 x1 r_x1) (va_cwS 1 hts (gS tw_1322 tw_1323 tw_15 tw_1324) rfl rfl rfl (by decide +kernel) ⟨Nat.le_of_ble_eq_true rfl, Nat.le_of_ble_eq_true rfl⟩) (tg_preS hw hK hSD hA) rfl rfl hl.1 rfl (lv_room (Nat.le_of_ble_eq_true rfl)) dX10_isName_23 ⟨Nat.le_of_ble_eq_true rfl, Nat.le_of_ble_eq_true rfl⟩) hw hA (fun v_2  H locs hp_v_2 hw => ?_)
        have r_v_2 : RJ v_2 257 8935713994 := hp_v_2
        refine W.lcmp hx hb dX10_isName_26 (lv_topi (fun v_3 e_v_3 => ?_))
        have r_v_3 := ri_any v_3
        refine lv_if_ne (tgt := 32) hx hb dX10_isName_27 (by decide) (fun c_27 => ?_) (fun c_27 => ?_)
        · obtain ⟨v_4, e_v_4⟩ : ∃ q9 : Int32, q9 = x1 + Int32.ofInt 1 := ⟨_, rfl⟩
          obtain ⟨t_v_4, r_v_4⟩ := tq_add (lo := 1) (hi := 28) r_x1 (show RI (Int32.ofInt 1) 1 1 by unfold RI; decide +kernel) (by decide +kernel) e_v_4
          have t_v_4 : v_4.toInt = x1.toInt + 1 := t_v_4
          refine lv_iinc (v := v_4) (lv' := [(1, .int v_4), (0, .ref p0)]) hx hb dX10_isName_32 hl (k := 1) rfl e_v_4.symm (by decide) rfl (fun ls hl => ?_)
          refine lv_goto (tgt := 12) hx hb dX10_isName_35 (by decide) ?_
          exact ih12 v_4 z0_7 _ _ ls (by have q0 := r_v_4.1; have u0 := r_v_4.2; have o0 := r_x1.1; have p0 := r_x1.2; omega) (r_v_4.to (by decide)) r_z0_7 m_z0_7 hw (lv_sub hl [1, 0] rfl)
        · have r_v_3 : RI v_3 0 0 := rc_eq1 r_v_3 rl_0 (ti_eq c_27) (by decide)
          refine lv_iconst (v := 0) hx hb dX10_isName_30 (by decide) ?_
          subst hQ
          exact W.zret (v := 0) hx hb hr (rfl) (fun t ht hW => ⟨⟨0, (), rfl, ⟨rl_0.to (by decide), (fun h0 => trivial), (fun _ => trivial)⟩, by rw [ht]; exact hw.2.1, va_K.moved hW.alike hK, hw.2.2.1⟩, hw.2.2.2.1.F ht⟩) hw.2.2.2.1.2.2 dX10_isName_31
  refine lv_aload_n hx hb dX10_isName_0 rfl (lv_at hl 0 rfl) ?_
  refine tg_get (ci := 10) (ts := ty_MODEL) (C := RX10) (T := TX10) (N := 49) hx hb hts inX10 hown hK hw h_p0 rfl rfl 7 (by decide) (hts _ tw_1144) (fun _ h9 => h9) (ft := vI (-2147483648) 2147483647) rfl dX10_isName_1 (fun u_5 hv_u_5 m_u_5 => ?_)
  obtain ⟨vu_5, rfl, r_vu_5⟩ := hv_u_5
  refine lv_iconst (v := 2) hx hb dX10_isName_4 (by decide) ?_
  refine lv_icmp_eq (tgt := 10) hx hb dX10_isName_5 (by decide) (fun c_5 => ?_) (fun c_5 => ?_)
  · have r_vu_5 : RI vu_5 2 2 := rc_eq1 r_vu_5 rl_2 (ti_eq c_5) (by decide)
    refine lv_iconst (v := 0) hx hb dX10_isName_10 (by decide) ?_
    refine lv_istore_n (lv' := [(1, .int 0), (0, .ref p0)]) hx hb dX10_isName_11 rfl hl (by decide) rfl (fun ls hl => ?_)
    exact B12 4294967298 0 vu_5 _ _ ls (by have q0 := rl_0.1; have u0 := rl_0.2; omega) (rl_0.to (by decide)) r_vu_5 m_u_5 hw (lv_sub hl [1, 0] rfl)
  · refine lv_iconst (v := 0) hx hb dX10_isName_8 (by decide) ?_
    subst hQ
    exact W.zret (v := 0) hx hb hr (rfl) (fun t ht hW => ⟨⟨0, (), rfl, ⟨rl_0.to (by decide), (fun h0 => trivial), (fun _ => trivial)⟩, by rw [ht]; exact hw.2.1, va_K.moved hW.alike hK, hw.2.2.1⟩, hw.2.2.2.1.F ht⟩) hw.2.2.2.1.2.2 dX10_isName_9
abbrev wr_X10_isSign : List (Nat × Nat) := []
abbrev wa_X10_isSign : List Nat := []
set_option maxHeartbeats 4000000 in
set_option maxRecDepth 100000 in
theorem c_X10_isSign (l : Launch) (D : va_G) (cy : Nat → ClassId) (z : Nat → Nat) (sz : Nat) (Ps : PSI) (w0 : va_W) (hT : HT cy GG Ps w0) (p0 : Nat) (p1 : Int32) (h_p0 : (p0, 55) ∈ Ps) (r_p1 : RI p1 (-2147483648) 2147483647) : Met l yX10_isSign (Cond.code yX10_isSign cX10_isSign 2 (some .boolean) :: gT) ({ frames := 0, cells := 0, slots := 0, locals := 200 } : Room) (va_Pc [.ref p0, .int p1] (PRE D cy z w0 sz)) (va_Qi (fun (r : Int32) (u : Unit) => RI r 0 1 ∧ (r = 0 → True) ∧ (¬ r = 0 → (∃ v9 : Int32, FLD w0 p0 10 7 (.int v9) ∧ RI v9 4 4) ∧ True)) (BB D cy (va_A w0 sz) (fun (u : Unit) => w0)) (va_A w0 sz)) 0 0 (va_A w0 sz) := by
  refine Met.ofW (cc := cX10_isSign) (maxL := 2) (ret := (some .boolean)) (by decide) rfl ?_
  intro p e s m args below meth c s₁ B hml hv
  obtain ⟨rfl, hsz, hP, hK, hD0, hSD⟩ := hv
  have hx := B.exec
  have hb := B.bytes
  have hr := B.returns
  have hlocks := B.notSynchronized
  have hts : ∀ w ∈ gT, w.before _ s = true := fun w h => atoms_spec (ws := Cond.code yX10_isSign cX10_isSign 2 (some .boolean) :: gT) B.pre w (List.mem_cons_of_mem _ h)
  have hown : s.vm.findClass RX10 = some m.cls := findClass_of_methodNamed B.named
  subst hsz
  have hD := hD0.self (sz := s.heap.size)
  generalize hAe : va_A w0 s.heap.size = A at hD hSD ⊢
  have hA : ∀ q : Nat, s.heap.size ≤ q → A q := fun q h => by rw [← hAe]; exact Or.inr h
  have hl := lv_entry ([.ref p0, .int p1]) (n := 2) (Nat.le_of_ble_eq_true rfl)
  rw [lg_entry_eq]
  generalize (lg_sl ([.ref p0, .int p1]) ++ List.replicate (2 - (lg_sl ([.ref p0, .int p1])).length) Slot.unset).toArray = ls at hl ⊢
  have hl : lv_has ls 2 [(0, .ref p0), (1, .int p1)] := hl
  refine nameQ (fun Q hQ => ?_)
  have hw : WD D cy GG A s wr_X10_isSign wa_X10_isSign Ps w0 Ps w0 s.heap [] := ⟨hT, hP, hD, va_S.rf, FR.rf, hT.1, [], (List.append_nil _).symm⟩
  refine lv_aload_n hx hb dX10_isSign_0 rfl (lv_at hl 0 rfl) ?_
  refine tg_get (ci := 10) (ts := ty_MODEL) (C := RX10) (T := TX10) (N := 49) hx hb hts inX10 hown hK hw h_p0 rfl rfl 7 (by decide) (hts _ tw_1144) (fun _ h9 => h9) (ft := vI (-2147483648) 2147483647) rfl dX10_isSign_1 (fun u_1 hv_u_1 m_u_1 => ?_)
  obtain ⟨vu_1, rfl, r_vu_1⟩ := hv_u_1
  refine lv_iconst (v := 4) hx hb dX10_isSign_4 (by decide) ?_
  refine lv_icmp_ne (tgt := 20) hx hb dX10_isSign_5 (by decide) (fun c_5 => ?_) (fun c_5 => ?_)
  · refine lv_iconst (v := 0) hx hb dX10_isSign_20 (by decide) ?_
    subst hQ
    exact W.zret (v := 0) hx hb hr (rfl) (fun t ht hW => ⟨⟨0, (), rfl, ⟨rl_0.to (by decide), (fun h0 => trivial), (fun h0 => absurd rfl h0)⟩, by rw [ht]; exact hw.2.1, va_K.moved hW.alike hK, hw.2.2.1⟩, hw.2.2.2.1.F ht⟩) hw.2.2.2.1.2.2 dX10_isSign_21
  · have r_vu_1 : RI vu_1 4 4 := rc_eq1 r_vu_1 rl_4 (ti_eq c_5) (by decide)
    refine lv_aload_n hx hb dX10_isSign_8 rfl (lv_at hl 0 rfl) ?_
    refine tg_get (ci := 10) (ts := ty_MODEL) (C := RX10) (T := TX10) (N := 49) hx hb hts inX10 hown hK hw h_p0 rfl rfl 9 (by decide) (hts _ tw_1146) (fun _ h9 => h9) (ft := vI (-2147483648) 2147483647) rfl dX10_isSign_9 (fun u_2 hv_u_2 m_u_2 => ?_)
    obtain ⟨vu_2, rfl, r_vu_2⟩ := hv_u_2
    refine lv_iload_n hx hb dX10_isSign_12 rfl (lv_at hl 1 rfl) ?_
    refine lv_icmp_ne (tgt := 20) hx hb dX10_isSign_13 (by decide) (fun c_13 => ?_) (fun c_13 => ?_)
    · refine lv_iconst (v := 0) hx hb dX10_isSign_20 (by decide) ?_
      subst hQ
      exact W.zret (v := 0) hx hb hr (rfl) (fun t ht hW => ⟨⟨0, (), rfl, ⟨rl_0.to (by decide), (fun h0 => trivial), (fun h0 => absurd rfl h0)⟩, by rw [ht]; exact hw.2.1, va_K.moved hW.alike hK, hw.2.2.1⟩, hw.2.2.2.1.F ht⟩) hw.2.2.2.1.2.2 dX10_isSign_21
    · refine lv_iconst (v := 1) hx hb dX10_isSign_16 (by decide) ?_
      refine lv_goto (tgt := 21) hx hb dX10_isSign_17 (by decide) ?_
      subst hQ
      exact W.zret (v := 1) hx hb hr (rfl) (fun t ht hW => ⟨⟨1, (), rfl, ⟨rl_1.to (by decide), (fun _ => trivial), (fun h0 => ⟨⟨_, m_u_1, r_vu_1⟩, trivial⟩)⟩, by rw [ht]; exact hw.2.1, va_K.moved hW.alike hK, hw.2.2.1⟩, hw.2.2.2.1.F ht⟩) hw.2.2.2.1.2.2 dX10_isSign_21
abbrev wr_X10_findIn : List (Nat × Nat) := []
abbrev wa_X10_findIn : List Nat := []
set_option maxHeartbeats 4000000 in
set_option maxRecDepth 100000 in
theorem c_X10_findIn (l : Launch) (D : va_G) (cy : Nat → ClassId) (z : Nat → Nat) (sz : Nat) (Ps : PSI) (w0 : va_W) (hT : HT cy GG Ps w0) (p0 : Nat) (p1 : Int32) (p2 : Int32) (p3 : Int64) (h_p0 : (p0, 42) ∈ Ps) (r_p1 : RI p1 0 0) (r_p2 : RI p2 0 6) (r_p3 : RJ p3 (-9223372036854775808) 9223372036854775807) : Met l yX10_findIn (Cond.code yX10_findIn cX10_findIn 6 (some .int) :: gT) ({ frames := 0, cells := 0, slots := 0, locals := 200 } : Room) (va_Pc [.ref p0, .int p1, .int p2, .long p3] (PRE D cy z w0 sz)) (va_Qi (fun (r : Int32) (u : Unit) => RI r (-1) 5 ∧ (r = 0 → True) ∧ (¬ r = 0 → True) ∧ (True) ∧ (r.toInt < 0 → NFD w0 p0 p1 p2 p3 ∧ True) ∧ (0 ≤ r.toInt → FDD w0 p0 p1 p2 p3 ∧ 1 ≤ Int32.toInt p2 ∧ True)) (BB D cy (va_A w0 sz) (fun (u : Unit) => w0)) (va_A w0 sz)) 0 0 (va_A w0 sz) := by
  refine Met.ofW (cc := cX10_findIn) (maxL := 6) (ret := (some .int)) (by decide) rfl ?_
  intro p e s m args below meth c s₁ B hml hv
  obtain ⟨rfl, hsz, hP, hK, hD0, hSD⟩ := hv
  have hx := B.exec
  have hb := B.bytes
  have hr := B.returns
  have hlocks := B.notSynchronized
  have hts : ∀ w ∈ gT, w.before _ s = true := fun w h => atoms_spec (ws := Cond.code yX10_findIn cX10_findIn 6 (some .int) :: gT) B.pre w (List.mem_cons_of_mem _ h)
  have hown : s.vm.findClass RX10 = some m.cls := findClass_of_methodNamed B.named
  subst hsz
  have hD := hD0.self (sz := s.heap.size)
  generalize hAe : va_A w0 s.heap.size = A at hD hSD ⊢
  have hA : ∀ q : Nat, s.heap.size ≤ q → A q := fun q h => by rw [← hAe]; exact Or.inr h
  have hl := lv_entry ([.ref p0, .int p1, .int p2, .long p3]) (n := 6) (Nat.le_of_ble_eq_true rfl)
  rw [lg_entry_eq]
  generalize (lg_sl ([.ref p0, .int p1, .int p2, .long p3]) ++ List.replicate (6 - (lg_sl ([.ref p0, .int p1, .int p2, .long p3])).length) Slot.unset).toArray = ls at hl ⊢
  have hl : lv_has ls 6 [(0, .ref p0), (1, .int p1), (2, .int p2), (3, .long p3)] := hl
  refine nameQ (fun Q hQ => ?_)
  have hw : WD D cy GG A s wr_X10_findIn wa_X10_findIn Ps w0 Ps w0 s.heap [] := ⟨hT, hP, hD, va_S.rf, FR.rf, hT.1, [], (List.append_nil _).symm⟩
  have B3 : ∀ (nf : Nat) (x5 : Int32) (H : Heap) (locs : List Loc) (ls : Array Slot), 6 - x5.toInt < (nf : Int) → RI p1 0 0 → RI p2 0 6 → RJ p3 (-9223372036854775808) 9223372036854775807 → RI x5 0 6 → NFD w0 p0 p1 x5 p3 → WD D cy GG A s wr_X10_findIn wa_X10_findIn Ps w0 Ps w0 H locs → lv_has ls 6 [(0, .ref p0), (1, .int p1), (2, .int p2), (3, .long p3), (5, .int x5)] → W p l e (headSpec (Cond.code yX10_findIn cX10_findIn 6 (some .int) :: gT) ({ frames := 0, cells := 0, slots := 0, locals := 200 } : Room)).room s m ([.ref p0, .int p1, .int p2, .long p3] : List Value).toArray below meth c H locs 0 0 Q (F0 m 3 ls []) := by
    intro nf3
    induction nf3 with
    | zero =>
      intro x5 H locs ls hn3 r_p1 r_p2 r_p3 r_x5 x_NF_p0_p1__5_p3 hw hl
      exact absurd hn3 (by have q0 := r_x5.1; have u0 := r_x5.2; omega)
    | succ nf3 ih3 =>
      intro x5 H locs ls hn3 r_p1 r_p2 r_p3 r_x5 x_NF_p0_p1__5_p3 hw hl
      refine lv_iload hx hb dX10_findIn_3 (lv_at hl 4 rfl) ?_
      refine lv_iload_n hx hb dX10_findIn_5 rfl (lv_at hl 2 rfl) ?_
      refine lv_icmp_ge (tgt := 29) hx hb dX10_findIn_6 (by decide) (fun c_6 => ?_) (fun c_6 => ?_)
      · have x_NF_p0_p1_p2_p3 : NFD w0 p0 p1 p2 p3 := NFD.mono x_NF_p0_p1__5_p3 c_6
        refine lv_iconst (v := (-1)) hx hb dX10_findIn_29 (by decide) ?_
        subst hQ
        exact W.iret (v := (-1)) hx hb hr (fun t ht hW => ⟨⟨(-1), (), rfl, ⟨rl_m1.to (by decide), (fun _ => trivial), (fun h0 => trivial), trivial, (fun h0 => ⟨x_NF_p0_p1_p2_p3, trivial⟩), (fun h0 => absurd h0 (by have h8 := rl_m1; unfold RI at h8; omega))⟩, by rw [ht]; exact hw.2.1, va_K.moved hW.alike hK, hw.2.2.1⟩, hw.2.2.2.1.F ht⟩) hw.2.2.2.1.2.2 dX10_findIn_30
      · have r_x5 : RI x5 0 5 := rc_lt1 r_x5 r_p2 (ti_nle c_6) (by decide)
        have r_p2 : RI p2 1 6 := rc_lt2 r_x5 r_p2 (ti_nle c_6) (by decide)
        refine lv_aload_n hx hb dX10_findIn_9 rfl (lv_at hl 0 rfl) ?_
        refine lv_iload_n hx hb dX10_findIn_10 rfl (lv_at hl 1 rfl) ?_
        refine lv_iload hx hb dX10_findIn_11 (lv_at hl 4 rfl) ?_
        refine lv_iadd hx hb dX10_findIn_13 (lv_topi (fun v_1 e_v_1 => ?_))
        obtain ⟨t_v_1, r_v_1⟩ := tq_add (lo := 0) (hi := 5) r_p1 r_x5 (by decide +kernel) e_v_1
        refine tg_laldE hx hb hK hw h_p0 rfl r_v_1 (by decide) dX10_findIn_14 (fun w_2 r_w_2 l_w_2 => ?_)
        refine lv_lload_n hx hb dX10_findIn_15 rfl (lv_at hl 3 rfl) ?_
        refine W.lcmp hx hb dX10_findIn_16 (lv_topi (fun v_3 e_v_3 => ?_))
        have r_v_3 := ri_any v_3
        refine lv_if_ne (tgt := 23) hx hb dX10_findIn_17 (by decide) (fun c_17 => ?_) (fun c_17 => ?_)
        · obtain ⟨v_4, e_v_4⟩ : ∃ q9 : Int32, q9 = x5 + Int32.ofInt 1 := ⟨_, rfl⟩
          obtain ⟨t_v_4, r_v_4⟩ := tq_add (lo := 1) (hi := 6) r_x5 (show RI (Int32.ofInt 1) 1 1 by unfold RI; decide +kernel) (by decide +kernel) e_v_4
          have t_v_4 : v_4.toInt = x5.toInt + 1 := t_v_4
          refine lv_iinc (v := v_4) (lv' := [(5, .int v_4), (0, .ref p0), (1, .int p1), (2, .int p2), (3, .long p3)]) hx hb dX10_findIn_23 hl (k := 4) rfl e_v_4.symm (by decide) rfl (fun ls hl => ?_)
          refine lv_goto (tgt := 3) hx hb dX10_findIn_26 (by decide) ?_
          have x_NF_p0_p1_v_4_p3 : NFD w0 p0 p1 v_4 p3 := NFD.step hw x_NF_p0_p1__5_p3 l_w_2 (by have k1 := r_v_1.cl (by decide); have k2 := r_p1.cl (by decide); have k3 := r_x5.cl (by decide); omega) (lcmp_ne e_v_3 c_17) t_v_4 r_x5.1
          exact ih3 v_4 _ _ ls (by have q0 := r_v_4.1; have u0 := r_v_4.2; have o0 := r_x5.1; have p0 := r_x5.2; omega) r_p1 (r_p2.to (by decide)) r_p3 (r_v_4.to (by decide)) x_NF_p0_p1_v_4_p3 hw (lv_sub hl [1, 2, 3, 4, 0] rfl)
        · have r_v_3 : RI v_3 0 0 := rc_eq1 r_v_3 rl_0 (ti_eq c_17) (by decide)
          have x_FD_p0_p1_p2_p3 : FDD w0 p0 p1 p2 p3 := FDD.mk l_w_2 (by have k1 := r_v_1.cl (by decide); have k2 := r_p1.cl (by decide); have k3 := r_x5.cl (by decide); omega) (lcmp_eq e_v_3 c_17) (ti_nle c_6) r_x5.1
          have x_POS_p2 : 1 ≤ Int32.toInt p2 := by have k1 := ti_nle c_6; have k2 := r_x5.1; omega
          refine lv_iload hx hb dX10_findIn_20 (lv_at hl 4 rfl) ?_
          subst hQ
          exact W.iret (v := x5) hx hb hr (fun t ht hW => ⟨⟨x5, (), rfl, ⟨r_x5.to (by decide), (fun h0 => trivial), (fun h0 => trivial), trivial, (fun h0 => absurd h0 (by have h8 := r_x5; unfold RI at h8; omega)), (fun h0 => ⟨x_FD_p0_p1_p2_p3, x_POS_p2, trivial⟩)⟩, by rw [ht]; exact hw.2.1, va_K.moved hW.alike hK, hw.2.2.1⟩, hw.2.2.2.1.F ht⟩) hw.2.2.2.1.2.2 dX10_findIn_22
  refine lv_iconst (v := 0) hx hb dX10_findIn_0 (by decide) ?_
  refine lv_istore (lv' := [(5, .int 0), (0, .ref p0), (1, .int p1), (2, .int p2), (3, .long p3)]) hx hb dX10_findIn_1 hl (by decide) rfl (fun ls hl => ?_)
  have x_NF_p0_p1_0_p3 : NFD w0 p0 p1 0 p3 := NFD.zero hw h_p0 rfl
  exact B3 4294967298 0 _ _ ls (by have q0 := rl_0.1; have u0 := rl_0.2; omega) r_p1 r_p2 r_p3 (rl_0.to (by decide)) x_NF_p0_p1_0_p3 hw (lv_sub hl [1, 2, 3, 4, 0] rfl)
abbrev wr_X10_findIn__1 : List (Nat × Nat) := []
abbrev wa_X10_findIn__1 : List Nat := []
set_option maxHeartbeats 4000000 in
set_option maxRecDepth 100000 in
theorem c_X10_findIn__1 (l : Launch) (D : va_G) (cy : Nat → ClassId) (z : Nat → Nat) (sz : Nat) (Ps : PSI) (w0 : va_W) (hT : HT cy GG Ps w0) (p0 : Nat) (p1 : Int32) (p2 : Int32) (p3 : Int64) (h_p0 : (p0, 42) ∈ Ps) (r_p1 : RI p1 6 6) (r_p2 : RI p2 0 4) (r_p3 : RJ p3 (-9223372036854775808) 9223372036854775807) : Met l yX10_findIn (Cond.code yX10_findIn cX10_findIn 6 (some .int) :: gT) ({ frames := 0, cells := 0, slots := 0, locals := 200 } : Room) (va_Pc [.ref p0, .int p1, .int p2, .long p3] (PRE D cy z w0 sz)) (va_Qi (fun (r : Int32) (u : Unit) => RI r (-1) 3 ∧ (r = 0 → True) ∧ (¬ r = 0 → True) ∧ (True) ∧ (r.toInt < 0 → NFD w0 p0 p1 p2 p3 ∧ True) ∧ (0 ≤ r.toInt → FDD w0 p0 p1 p2 p3 ∧ 1 ≤ Int32.toInt p2 ∧ True)) (BB D cy (va_A w0 sz) (fun (u : Unit) => w0)) (va_A w0 sz)) 0 0 (va_A w0 sz) := by
  refine Met.ofW (cc := cX10_findIn) (maxL := 6) (ret := (some .int)) (by decide) rfl ?_
  intro p e s m args below meth c s₁ B hml hv
  obtain ⟨rfl, hsz, hP, hK, hD0, hSD⟩ := hv
  have hx := B.exec
  have hb := B.bytes
  have hr := B.returns
  have hlocks := B.notSynchronized
  have hts : ∀ w ∈ gT, w.before _ s = true := fun w h => atoms_spec (ws := Cond.code yX10_findIn cX10_findIn 6 (some .int) :: gT) B.pre w (List.mem_cons_of_mem _ h)
  have hown : s.vm.findClass RX10 = some m.cls := findClass_of_methodNamed B.named
  subst hsz
  have hD := hD0.self (sz := s.heap.size)
  generalize hAe : va_A w0 s.heap.size = A at hD hSD ⊢
  have hA : ∀ q : Nat, s.heap.size ≤ q → A q := fun q h => by rw [← hAe]; exact Or.inr h
  have hl := lv_entry ([.ref p0, .int p1, .int p2, .long p3]) (n := 6) (Nat.le_of_ble_eq_true rfl)
  rw [lg_entry_eq]
  generalize (lg_sl ([.ref p0, .int p1, .int p2, .long p3]) ++ List.replicate (6 - (lg_sl ([.ref p0, .int p1, .int p2, .long p3])).length) Slot.unset).toArray = ls at hl ⊢
  have hl : lv_has ls 6 [(0, .ref p0), (1, .int p1), (2, .int p2), (3, .long p3)] := hl
  refine nameQ (fun Q hQ => ?_)
  have hw : WD D cy GG A s wr_X10_findIn__1 wa_X10_findIn__1 Ps w0 Ps w0 s.heap [] := ⟨hT, hP, hD, va_S.rf, FR.rf, hT.1, [], (List.append_nil _).symm⟩
  have B3 : ∀ (nf : Nat) (x5 : Int32) (H : Heap) (locs : List Loc) (ls : Array Slot), 4 - x5.toInt < (nf : Int) → RI p1 6 6 → RI p2 0 4 → RJ p3 (-9223372036854775808) 9223372036854775807 → RI x5 0 4 → NFD w0 p0 p1 x5 p3 → WD D cy GG A s wr_X10_findIn__1 wa_X10_findIn__1 Ps w0 Ps w0 H locs → lv_has ls 6 [(0, .ref p0), (1, .int p1), (2, .int p2), (3, .long p3), (5, .int x5)] → W p l e (headSpec (Cond.code yX10_findIn cX10_findIn 6 (some .int) :: gT) ({ frames := 0, cells := 0, slots := 0, locals := 200 } : Room)).room s m ([.ref p0, .int p1, .int p2, .long p3] : List Value).toArray below meth c H locs 0 0 Q (F0 m 3 ls []) := by
    intro nf3
    induction nf3 with
    | zero =>
      intro x5 H locs ls hn3 r_p1 r_p2 r_p3 r_x5 x_NF_p0_p1__5_p3 hw hl
      exact absurd hn3 (by have q0 := r_x5.1; have u0 := r_x5.2; omega)
    | succ nf3 ih3 =>
      intro x5 H locs ls hn3 r_p1 r_p2 r_p3 r_x5 x_NF_p0_p1__5_p3 hw hl
      refine lv_iload hx hb dX10_findIn_3 (lv_at hl 4 rfl) ?_
      refine lv_iload_n hx hb dX10_findIn_5 rfl (lv_at hl 2 rfl) ?_
      refine lv_icmp_ge (tgt := 29) hx hb dX10_findIn_6 (by decide) (fun c_6 => ?_) (fun c_6 => ?_)
      · have x_NF_p0_p1_p2_p3 : NFD w0 p0 p1 p2 p3 := NFD.mono x_NF_p0_p1__5_p3 c_6
        refine lv_iconst (v := (-1)) hx hb dX10_findIn_29 (by decide) ?_
        subst hQ
        exact W.iret (v := (-1)) hx hb hr (fun t ht hW => ⟨⟨(-1), (), rfl, ⟨rl_m1.to (by decide), (fun _ => trivial), (fun h0 => trivial), trivial, (fun h0 => ⟨x_NF_p0_p1_p2_p3, trivial⟩), (fun h0 => absurd h0 (by have h8 := rl_m1; unfold RI at h8; omega))⟩, by rw [ht]; exact hw.2.1, va_K.moved hW.alike hK, hw.2.2.1⟩, hw.2.2.2.1.F ht⟩) hw.2.2.2.1.2.2 dX10_findIn_30
      · have r_x5 : RI x5 0 3 := rc_lt1 r_x5 r_p2 (ti_nle c_6) (by decide)
        have r_p2 : RI p2 1 4 := rc_lt2 r_x5 r_p2 (ti_nle c_6) (by decide)
        refine lv_aload_n hx hb dX10_findIn_9 rfl (lv_at hl 0 rfl) ?_
        refine lv_iload_n hx hb dX10_findIn_10 rfl (lv_at hl 1 rfl) ?_
        refine lv_iload hx hb dX10_findIn_11 (lv_at hl 4 rfl) ?_
        refine lv_iadd hx hb dX10_findIn_13 (lv_topi (fun v_1 e_v_1 => ?_))
        obtain ⟨t_v_1, r_v_1⟩ := tq_add (lo := 6) (hi := 9) r_p1 r_x5 (by decide +kernel) e_v_1
        refine tg_laldE hx hb hK hw h_p0 rfl r_v_1 (by decide) dX10_findIn_14 (fun w_2 r_w_2 l_w_2 => ?_)
        refine lv_lload_n hx hb dX10_findIn_15 rfl (lv_at hl 3 rfl) ?_
        refine W.lcmp hx hb dX10_findIn_16 (lv_topi (fun v_3 e_v_3 => ?_))
        have r_v_3 := ri_any v_3
        refine lv_if_ne (tgt := 23) hx hb dX10_findIn_17 (by decide) (fun c_17 => ?_) (fun c_17 => ?_)
        · obtain ⟨v_4, e_v_4⟩ : ∃ q9 : Int32, q9 = x5 + Int32.ofInt 1 := ⟨_, rfl⟩
          obtain ⟨t_v_4, r_v_4⟩ := tq_add (lo := 1) (hi := 4) r_x5 (show RI (Int32.ofInt 1) 1 1 by unfold RI; decide +kernel) (by decide +kernel) e_v_4
          have t_v_4 : v_4.toInt = x5.toInt + 1 := t_v_4
          refine lv_iinc (v := v_4) (lv' := [(5, .int v_4), (0, .ref p0), (1, .int p1), (2, .int p2), (3, .long p3)]) hx hb dX10_findIn_23 hl (k := 4) rfl e_v_4.symm (by decide) rfl (fun ls hl => ?_)
          refine lv_goto (tgt := 3) hx hb dX10_findIn_26 (by decide) ?_
          have x_NF_p0_p1_v_4_p3 : NFD w0 p0 p1 v_4 p3 := NFD.step hw x_NF_p0_p1__5_p3 l_w_2 (by have k1 := r_v_1.cl (by decide); have k2 := r_p1.cl (by decide); have k3 := r_x5.cl (by decide); omega) (lcmp_ne e_v_3 c_17) t_v_4 r_x5.1
          exact ih3 v_4 _ _ ls (by have q0 := r_v_4.1; have u0 := r_v_4.2; have o0 := r_x5.1; have p0 := r_x5.2; omega) r_p1 (r_p2.to (by decide)) r_p3 (r_v_4.to (by decide)) x_NF_p0_p1_v_4_p3 hw (lv_sub hl [1, 2, 3, 4, 0] rfl)
        · have r_v_3 : RI v_3 0 0 := rc_eq1 r_v_3 rl_0 (ti_eq c_17) (by decide)
          have x_FD_p0_p1_p2_p3 : FDD w0 p0 p1 p2 p3 := FDD.mk l_w_2 (by have k1 := r_v_1.cl (by decide); have k2 := r_p1.cl (by decide); have k3 := r_x5.cl (by decide); omega) (lcmp_eq e_v_3 c_17) (ti_nle c_6) r_x5.1
          have x_POS_p2 : 1 ≤ Int32.toInt p2 := by have k1 := ti_nle c_6; have k2 := r_x5.1; omega
          refine lv_iload hx hb dX10_findIn_20 (lv_at hl 4 rfl) ?_
          subst hQ
          exact W.iret (v := x5) hx hb hr (fun t ht hW => ⟨⟨x5, (), rfl, ⟨r_x5.to (by decide), (fun h0 => trivial), (fun h0 => trivial), trivial, (fun h0 => absurd h0 (by have h8 := r_x5; unfold RI at h8; omega)), (fun h0 => ⟨x_FD_p0_p1_p2_p3, x_POS_p2, trivial⟩)⟩, by rw [ht]; exact hw.2.1, va_K.moved hW.alike hK, hw.2.2.1⟩, hw.2.2.2.1.F ht⟩) hw.2.2.2.1.2.2 dX10_findIn_22
  refine lv_iconst (v := 0) hx hb dX10_findIn_0 (by decide) ?_
  refine lv_istore (lv' := [(5, .int 0), (0, .ref p0), (1, .int p1), (2, .int p2), (3, .long p3)]) hx hb dX10_findIn_1 hl (by decide) rfl (fun ls hl => ?_)
  have x_NF_p0_p1_0_p3 : NFD w0 p0 p1 0 p3 := NFD.zero hw h_p0 rfl
  exact B3 4294967298 0 _ _ ls (by have q0 := rl_0.1; have u0 := rl_0.2; omega) r_p1 r_p2 r_p3 (rl_0.to (by decide)) x_NF_p0_p1_0_p3 hw (lv_sub hl [1, 2, 3, 4, 0] rfl)
abbrev wr_X10_findIn__2 : List (Nat × Nat) := []
abbrev wa_X10_findIn__2 : List Nat := []
set_option maxHeartbeats 4000000 in
set_option maxRecDepth 100000 in
theorem c_X10_findIn__2 (l : Launch) (D : va_G) (cy : Nat → ClassId) (z : Nat → Nat) (sz : Nat) (Ps : PSI) (w0 : va_W) (hT : HT cy GG Ps w0) (p0 : Nat) (p1 : Int32) (p2 : Int32) (p3 : Int64) (h_p0 : (p0, 42) ∈ Ps) (r_p1 : RI p1 10 10) (r_p2 : RI p2 0 6) (r_p3 : RJ p3 (-9223372036854775808) 9223372036854775807) : Met l yX10_findIn (Cond.code yX10_findIn cX10_findIn 6 (some .int) :: gT) ({ frames := 0, cells := 0, slots := 0, locals := 200 } : Room) (va_Pc [.ref p0, .int p1, .int p2, .long p3] (PRE D cy z w0 sz)) (va_Qi (fun (r : Int32) (u : Unit) => RI r (-1) 5 ∧ (r = 0 → True) ∧ (¬ r = 0 → True) ∧ (True) ∧ (r.toInt < 0 → NFD w0 p0 p1 p2 p3 ∧ True) ∧ (0 ≤ r.toInt → FDD w0 p0 p1 p2 p3 ∧ 1 ≤ Int32.toInt p2 ∧ True)) (BB D cy (va_A w0 sz) (fun (u : Unit) => w0)) (va_A w0 sz)) 0 0 (va_A w0 sz) := by
  refine Met.ofW (cc := cX10_findIn) (maxL := 6) (ret := (some .int)) (by decide) rfl ?_
  intro p e s m args below meth c s₁ B hml hv
  obtain ⟨rfl, hsz, hP, hK, hD0, hSD⟩ := hv
  have hx := B.exec
  have hb := B.bytes
  have hr := B.returns
  have hlocks := B.notSynchronized
  have hts : ∀ w ∈ gT, w.before _ s = true := fun w h => atoms_spec (ws := Cond.code yX10_findIn cX10_findIn 6 (some .int) :: gT) B.pre w (List.mem_cons_of_mem _ h)
  have hown : s.vm.findClass RX10 = some m.cls := findClass_of_methodNamed B.named
  subst hsz
  have hD := hD0.self (sz := s.heap.size)
  generalize hAe : va_A w0 s.heap.size = A at hD hSD ⊢
  have hA : ∀ q : Nat, s.heap.size ≤ q → A q := fun q h => by rw [← hAe]; exact Or.inr h
  have hl := lv_entry ([.ref p0, .int p1, .int p2, .long p3]) (n := 6) (Nat.le_of_ble_eq_true rfl)
  rw [lg_entry_eq]
  generalize (lg_sl ([.ref p0, .int p1, .int p2, .long p3]) ++ List.replicate (6 - (lg_sl ([.ref p0, .int p1, .int p2, .long p3])).length) Slot.unset).toArray = ls at hl ⊢
  have hl : lv_has ls 6 [(0, .ref p0), (1, .int p1), (2, .int p2), (3, .long p3)] := hl
  refine nameQ (fun Q hQ => ?_)
  have hw : WD D cy GG A s wr_X10_findIn__2 wa_X10_findIn__2 Ps w0 Ps w0 s.heap [] := ⟨hT, hP, hD, va_S.rf, FR.rf, hT.1, [], (List.append_nil _).symm⟩
  have B3 : ∀ (nf : Nat) (x5 : Int32) (H : Heap) (locs : List Loc) (ls : Array Slot), 6 - x5.toInt < (nf : Int) → RI p1 10 10 → RI p2 0 6 → RJ p3 (-9223372036854775808) 9223372036854775807 → RI x5 0 6 → NFD w0 p0 p1 x5 p3 → WD D cy GG A s wr_X10_findIn__2 wa_X10_findIn__2 Ps w0 Ps w0 H locs → lv_has ls 6 [(0, .ref p0), (1, .int p1), (2, .int p2), (3, .long p3), (5, .int x5)] → W p l e (headSpec (Cond.code yX10_findIn cX10_findIn 6 (some .int) :: gT) ({ frames := 0, cells := 0, slots := 0, locals := 200 } : Room)).room s m ([.ref p0, .int p1, .int p2, .long p3] : List Value).toArray below meth c H locs 0 0 Q (F0 m 3 ls []) := by
    intro nf3
    induction nf3 with
    | zero =>
      intro x5 H locs ls hn3 r_p1 r_p2 r_p3 r_x5 x_NF_p0_p1__5_p3 hw hl
      exact absurd hn3 (by have q0 := r_x5.1; have u0 := r_x5.2; omega)
    | succ nf3 ih3 =>
      intro x5 H locs ls hn3 r_p1 r_p2 r_p3 r_x5 x_NF_p0_p1__5_p3 hw hl
      refine lv_iload hx hb dX10_findIn_3 (lv_at hl 4 rfl) ?_
      refine lv_iload_n hx hb dX10_findIn_5 rfl (lv_at hl 2 rfl) ?_
      refine lv_icmp_ge (tgt := 29) hx hb dX10_findIn_6 (by decide) (fun c_6 => ?_) (fun c_6 => ?_)
      · have x_NF_p0_p1_p2_p3 : NFD w0 p0 p1 p2 p3 := NFD.mono x_NF_p0_p1__5_p3 c_6
        refine lv_iconst (v := (-1)) hx hb dX10_findIn_29 (by decide) ?_
        subst hQ
        exact W.iret (v := (-1)) hx hb hr (fun t ht hW => ⟨⟨(-1), (), rfl, ⟨rl_m1.to (by decide), (fun _ => trivial), (fun h0 => trivial), trivial, (fun h0 => ⟨x_NF_p0_p1_p2_p3, trivial⟩), (fun h0 => absurd h0 (by have h8 := rl_m1; unfold RI at h8; omega))⟩, by rw [ht]; exact hw.2.1, va_K.moved hW.alike hK, hw.2.2.1⟩, hw.2.2.2.1.F ht⟩) hw.2.2.2.1.2.2 dX10_findIn_30
      · have r_x5 : RI x5 0 5 := rc_lt1 r_x5 r_p2 (ti_nle c_6) (by decide)
        have r_p2 : RI p2 1 6 := rc_lt2 r_x5 r_p2 (ti_nle c_6) (by decide)
        refine lv_aload_n hx hb dX10_findIn_9 rfl (lv_at hl 0 rfl) ?_
        refine lv_iload_n hx hb dX10_findIn_10 rfl (lv_at hl 1 rfl) ?_
        refine lv_iload hx hb dX10_findIn_11 (lv_at hl 4 rfl) ?_
        refine lv_iadd hx hb dX10_findIn_13 (lv_topi (fun v_1 e_v_1 => ?_))
        obtain ⟨t_v_1, r_v_1⟩ := tq_add (lo := 10) (hi := 15) r_p1 r_x5 (by decide +kernel) e_v_1
        refine tg_laldE hx hb hK hw h_p0 rfl r_v_1 (by decide) dX10_findIn_14 (fun w_2 r_w_2 l_w_2 => ?_)
        refine lv_lload_n hx hb dX10_findIn_15 rfl (lv_at hl 3 rfl) ?_
        refine W.lcmp hx hb dX10_findIn_16 (lv_topi (fun v_3 e_v_3 => ?_))
        have r_v_3 := ri_any v_3
        refine lv_if_ne (tgt := 23) hx hb dX10_findIn_17 (by decide) (fun c_17 => ?_) (fun c_17 => ?_)
        · obtain ⟨v_4, e_v_4⟩ : ∃ q9 : Int32, q9 = x5 + Int32.ofInt 1 := ⟨_, rfl⟩
          obtain ⟨t_v_4, r_v_4⟩ := tq_add (lo := 1) (hi := 6) r_x5 (show RI (Int32.ofInt 1) 1 1 by unfold RI; decide +kernel) (by decide +kernel) e_v_4
          have t_v_4 : v_4.toInt = x5.toInt + 1 := t_v_4
          refine lv_iinc (v := v_4) (lv' := [(5, .int v_4), (0, .ref p0), (1, .int p1), (2, .int p2), (3, .long p3)]) hx hb dX10_findIn_23 hl (k := 4) rfl e_v_4.symm (by decide) rfl (fun ls hl => ?_)
          refine lv_goto (tgt := 3) hx hb dX10_findIn_26 (by decide) ?_
          have x_NF_p0_p1_v_4_p3 : NFD w0 p0 p1 v_4 p3 := NFD.step hw x_NF_p0_p1__5_p3 l_w_2 (by have k1 := r_v_1.cl (by decide); have k2 := r_p1.cl (by decide); have k3 := r_x5.cl (by decide); omega) (lcmp_ne e_v_3 c_17) t_v_4 r_x5.1
          exact ih3 v_4 _ _ ls (by have q0 := r_v_4.1; have u0 := r_v_4.2; have o0 := r_x5.1; have p0 := r_x5.2; omega) r_p1 (r_p2.to (by decide)) r_p3 (r_v_4.to (by decide)) x_NF_p0_p1_v_4_p3 hw (lv_sub hl [1, 2, 3, 4, 0] rfl)
        · have r_v_3 : RI v_3 0 0 := rc_eq1 r_v_3 rl_0 (ti_eq c_17) (by decide)
          have x_FD_p0_p1_p2_p3 : FDD w0 p0 p1 p2 p3 := FDD.mk l_w_2 (by have k1 := r_v_1.cl (by decide); have k2 := r_p1.cl (by decide); have k3 := r_x5.cl (by decide); omega) (lcmp_eq e_v_3 c_17) (ti_nle c_6) r_x5.1
          have x_POS_p2 : 1 ≤ Int32.toInt p2 := by have k1 := ti_nle c_6; have k2 := r_x5.1; omega
          refine lv_iload hx hb dX10_findIn_20 (lv_at hl 4 rfl) ?_
          subst hQ
          exact W.iret (v := x5) hx hb hr (fun t ht hW => ⟨⟨x5, (), rfl, ⟨r_x5.to (by decide), (fun h0 => trivial), (fun h0 => trivial), trivial, (fun h0 => absurd h0 (by have h8 := r_x5; unfold RI at h8; omega)), (fun h0 => ⟨x_FD_p0_p1_p2_p3, x_POS_p2, trivial⟩)⟩, by rw [ht]; exact hw.2.1, va_K.moved hW.alike hK, hw.2.2.1⟩, hw.2.2.2.1.F ht⟩) hw.2.2.2.1.2.2 dX10_findIn_22
  refine lv_iconst (v := 0) hx hb dX10_findIn_0 (by decide) ?_
  refine lv_istore (lv' := [(5, .int 0), (0, .ref p0), (1, .int p1), (2, .int p2), (3, .long p3)]) hx hb dX10_findIn_1 hl (by decide) rfl (fun ls hl => ?_)
  have x_NF_p0_p1_0_p3 : NFD w0 p0 p1 0 p3 := NFD.zero hw h_p0 rfl
  exact B3 4294967298 0 _ _ ls (by have q0 := rl_0.1; have u0 := rl_0.2; omega) r_p1 r_p2 r_p3 (rl_0.to (by decide)) x_NF_p0_p1_0_p3 hw (lv_sub hl [1, 2, 3, 4, 0] rfl)
abbrev wr_X10_findIn__3 : List (Nat × Nat) := []
abbrev wa_X10_findIn__3 : List Nat := []
set_option maxHeartbeats 4000000 in
set_option maxRecDepth 100000 in
theorem c_X10_findIn__3 (l : Launch) (D : va_G) (cy : Nat → ClassId) (z : Nat → Nat) (sz : Nat) (Ps : PSI) (w0 : va_W) (hT : HT cy GG Ps w0) (p0 : Nat) (p1 : Int32) (p2 : Int32) (p3 : Int64) (h_p0 : (p0, 42) ∈ Ps) (r_p1 : RI p1 16 16) (r_p2 : RI p2 0 8) (r_p3 : RJ p3 (-9223372036854775808) 9223372036854775807) : Met l yX10_findIn (Cond.code yX10_findIn cX10_findIn 6 (some .int) :: gT) ({ frames := 0, cells := 0, slots := 0, locals := 200 } : Room) (va_Pc [.ref p0, .int p1, .int p2, .long p3] (PRE D cy z w0 sz)) (va_Qi (fun (r : Int32) (u : Unit) => RI r (-1) 7 ∧ (r = 0 → True) ∧ (¬ r = 0 → True) ∧ (True) ∧ (r.toInt < 0 → NFD w0 p0 p1 p2 p3 ∧ True) ∧ (0 ≤ r.toInt → FDD w0 p0 p1 p2 p3 ∧ 1 ≤ Int32.toInt p2 ∧ True)) (BB D cy (va_A w0 sz) (fun (u : Unit) => w0)) (va_A w0 sz)) 0 0 (va_A w0 sz) := by
  refine Met.ofW (cc := cX10_findIn) (maxL := 6) (ret := (some .int)) (by decide) rfl ?_
  intro p e s m args below meth c s₁ B hml hv
  obtain ⟨rfl, hsz, hP, hK, hD0, hSD⟩ := hv
  have hx := B.exec
  have hb := B.bytes
  have hr := B.returns
  have hlocks := B.notSynchronized
  have hts : ∀ w ∈ gT, w.before _ s = true := fun w h => atoms_spec (ws := Cond.code yX10_findIn cX10_findIn 6 (some .int) :: gT) B.pre w (List.mem_cons_of_mem _ h)
  have hown : s.vm.findClass RX10 = some m.cls := findClass_of_methodNamed B.named
  subst hsz
  have hD := hD0.self (sz := s.heap.size)
  generalize hAe : va_A w0 s.heap.size = A at hD hSD ⊢
  have hA : ∀ q : Nat, s.heap.size ≤ q → A q := fun q h => by rw [← hAe]; exact Or.inr h
  have hl := lv_entry ([.ref p0, .int p1, .int p2, .long p3]) (n := 6) (Nat.le_of_ble_eq_true rfl)
  rw [lg_entry_eq]
  generalize (lg_sl ([.ref p0, .int p1, .int p2, .long p3]) ++ List.replicate (6 - (lg_sl ([.ref p0, .int p1, .int p2, .long p3])).length) Slot.unset).toArray = ls at hl ⊢
  have hl : lv_has ls 6 [(0, .ref p0), (1, .int p1), (2, .int p2), (3, .long p3)] := hl
  refine nameQ (fun Q hQ => ?_)
  have hw : WD D cy GG A s wr_X10_findIn__3 wa_X10_findIn__3 Ps w0 Ps w0 s.heap [] := ⟨hT, hP, hD, va_S.rf, FR.rf, hT.1, [], (List.append_nil _).symm⟩
  have B3 : ∀ (nf : Nat) (x5 : Int32) (H : Heap) (locs : List Loc) (ls : Array Slot), 8 - x5.toInt < (nf : Int) → RI p1 16 16 → RI p2 0 8 → RJ p3 (-9223372036854775808) 9223372036854775807 → RI x5 0 8 → NFD w0 p0 p1 x5 p3 → WD D cy GG A s wr_X10_findIn__3 wa_X10_findIn__3 Ps w0 Ps w0 H locs → lv_has ls 6 [(0, .ref p0), (1, .int p1), (2, .int p2), (3, .long p3), (5, .int x5)] → W p l e (headSpec (Cond.code yX10_findIn cX10_findIn 6 (some .int) :: gT) ({ frames := 0, cells := 0, slots := 0, locals := 200 } : Room)).room s m ([.ref p0, .int p1, .int p2, .long p3] : List Value).toArray below meth c H locs 0 0 Q (F0 m 3 ls []) := by
    intro nf3
    induction nf3 with
    | zero =>
      intro x5 H locs ls hn3 r_p1 r_p2 r_p3 r_x5 x_NF_p0_p1__5_p3 hw hl
      exact absurd hn3 (by have q0 := r_x5.1; have u0 := r_x5.2; omega)
    | succ nf3 ih3 =>
      intro x5 H locs ls hn3 r_p1 r_p2 r_p3 r_x5 x_NF_p0_p1__5_p3 hw hl
      refine lv_iload hx hb dX10_findIn_3 (lv_at hl 4 rfl) ?_
      refine lv_iload_n hx hb dX10_findIn_5 rfl (lv_at hl 2 rfl) ?_
      refine lv_icmp_ge (tgt := 29) hx hb dX10_findIn_6 (by decide) (fun c_6 => ?_) (fun c_6 => ?_)
      · have x_NF_p0_p1_p2_p3 : NFD w0 p0 p1 p2 p3 := NFD.mono x_NF_p0_p1__5_p3 c_6
        refine lv_iconst (v := (-1)) hx hb dX10_findIn_29 (by decide) ?_
        subst hQ
        exact W.iret (v := (-1)) hx hb hr (fun t ht hW => ⟨⟨(-1), (), rfl, ⟨rl_m1.to (by decide), (fun _ => trivial), (fun h0 => trivial), trivial, (fun h0 => ⟨x_NF_p0_p1_p2_p3, trivial⟩), (fun h0 => absurd h0 (by have h8 := rl_m1; unfold RI at h8; omega))⟩, by rw [ht]; exact hw.2.1, va_K.moved hW.alike hK, hw.2.2.1⟩, hw.2.2.2.1.F ht⟩) hw.2.2.2.1.2.2 dX10_findIn_30
      · have r_x5 : RI x5 0 7 := rc_lt1 r_x5 r_p2 (ti_nle c_6) (by decide)
        have r_p2 : RI p2 1 8 := rc_lt2 r_x5 r_p2 (ti_nle c_6) (by decide)
        refine lv_aload_n hx hb dX10_findIn_9 rfl (lv_at hl 0 rfl) ?_
        refine lv_iload_n hx hb dX10_findIn_10 rfl (lv_at hl 1 rfl) ?_
        refine lv_iload hx hb dX10_findIn_11 (lv_at hl 4 rfl) ?_
        refine lv_iadd hx hb dX10_findIn_13 (lv_topi (fun v_1 e_v_1 => ?_))
        obtain ⟨t_v_1, r_v_1⟩ := tq_add (lo := 16) (hi := 23) r_p1 r_x5 (by decide +kernel) e_v_1
        refine tg_laldE hx hb hK hw h_p0 rfl r_v_1 (by decide) dX10_findIn_14 (fun w_2 r_w_2 l_w_2 => ?_)
        refine lv_lload_n hx hb dX10_findIn_15 rfl (lv_at hl 3 rfl) ?_
        refine W.lcmp hx hb dX10_findIn_16 (lv_topi (fun v_3 e_v_3 => ?_))
        have r_v_3 := ri_any v_3
        refine lv_if_ne (tgt := 23) hx hb dX10_findIn_17 (by decide) (fun c_17 => ?_) (fun c_17 => ?_)
        · obtain ⟨v_4, e_v_4⟩ : ∃ q9 : Int32, q9 = x5 + Int32.ofInt 1 := ⟨_, rfl⟩
          obtain ⟨t_v_4, r_v_4⟩ := tq_add (lo := 1) (hi := 8) r_x5 (show RI (Int32.ofInt 1) 1 1 by unfold RI; decide +kernel) (by decide +kernel) e_v_4
          have t_v_4 : v_4.toInt = x5.toInt + 1 := t_v_4
          refine lv_iinc (v := v_4) (lv' := [(5, .int v_4), (0, .ref p0), (1, .int p1), (2, .int p2), (3, .long p3)]) hx hb dX10_findIn_23 hl (k := 4) rfl e_v_4.symm (by decide) rfl (fun ls hl => ?_)
          refine lv_goto (tgt := 3) hx hb dX10_findIn_26 (by decide) ?_
          have x_NF_p0_p1_v_4_p3 : NFD w0 p0 p1 v_4 p3 := NFD.step hw x_NF_p0_p1__5_p3 l_w_2 (by have k1 := r_v_1.cl (by decide); have k2 := r_p1.cl (by decide); have k3 := r_x5.cl (by decide); omega) (lcmp_ne e_v_3 c_17) t_v_4 r_x5.1
          exact ih3 v_4 _ _ ls (by have q0 := r_v_4.1; have u0 := r_v_4.2; have o0 := r_x5.1; have p0 := r_x5.2; omega) r_p1 (r_p2.to (by decide)) r_p3 (r_v_4.to (by decide)) x_NF_p0_p1_v_4_p3 hw (lv_sub hl [1, 2, 3, 4, 0] rfl)
        · have r_v_3 : RI v_3 0 0 := rc_eq1 r_v_3 rl_0 (ti_eq c_17) (by decide)
          have x_FD_p0_p1_p2_p3 : FDD w0 p0 p1 p2 p3 := FDD.mk l_w_2 (by have k1 := r_v_1.cl (by decide); have k2 := r_p1.cl (by decide); have k3 := r_x5.cl (by decide); omega) (lcmp_eq e_v_3 c_17) (ti_nle c_6) r_x5.1
          have x_POS_p2 : 1 ≤ Int32.toInt p2 := by have k1 := ti_nle c_6; have k2 := r_x5.1; omega
          refine lv_iload hx hb dX10_findIn_20 (lv_at hl 4 rfl) ?_
          subst hQ
          exact W.iret (v := x5) hx hb hr (fun t ht hW => ⟨⟨x5, (), rfl, ⟨r_x5.to (by decide), (fun h0 => trivial), (fun h0 => trivial), trivial, (fun h0 => absurd h0 (by have h8 := r_x5; unfold RI at h8; omega)), (fun h0 => ⟨x_FD_p0_p1_p2_p3, x_POS_p2, trivial⟩)⟩, by rw [ht]; exact hw.2.1, va_K.moved hW.alike hK, hw.2.2.1⟩, hw.2.2.2.1.F ht⟩) hw.2.2.2.1.2.2 dX10_findIn_22
  refine lv_iconst (v := 0) hx hb dX10_findIn_0 (by decide) ?_
  refine lv_istore (lv' := [(5, .int 0), (0, .ref p0), (1, .int p1), (2, .int p2), (3, .long p3)]) hx hb dX10_findIn_1 hl (by decide) rfl (fun ls hl => ?_)
  have x_NF_p0_p1_0_p3 : NFD w0 p0 p1 0 p3 := NFD.zero hw h_p0 rfl
  exact B3 4294967298 0 _ _ ls (by have q0 := rl_0.1; have u0 := rl_0.2; omega) r_p1 r_p2 r_p3 (rl_0.to (by decide)) x_NF_p0_p1_0_p3 hw (lv_sub hl [1, 2, 3, 4, 0] rfl)
abbrev wr_X10_isTaken : List (Nat × Nat) := []
abbrev wa_X10_isTaken : List Nat := []
set_option maxHeartbeats 4000000 in
set_option maxRecDepth 100000 in
theorem c_X10_isTaken (l : Launch) (D : va_G) (cy : Nat → ClassId) (z : Nat → Nat) (sz : Nat) (Ps : PSI) (w0 : va_W) (hT : HT cy GG Ps w0) (p0 : Nat) (h_p0 : (p0, 55) ∈ Ps) : Met l yX10_isTaken (Cond.code yX10_isTaken cX10_isTaken 1 (some .boolean) :: gT) ({ frames := 2, cells := 0, slots := 0, locals := 400 } : Room) (va_Pc [.ref p0] (PRE D cy z w0 sz)) (va_Qi (fun (r : Int32) (u : Unit) => RI r 0 1 ∧ (r = 0 → True) ∧ (¬ r = 0 → True)) (BB D cy (va_A w0 sz) (fun (u : Unit) => w0)) (va_A w0 sz)) 0 0 (va_A w0 sz) := by
  refine Met.ofW (cc := cX10_isTaken) (maxL := 1) (ret := (some .boolean)) (by decide) rfl ?_
  intro p e s m args below meth c s₁ B hml hv
  obtain ⟨rfl, hsz, hP, hK, hD0, hSD⟩ := hv
  have hx := B.exec
  have hb := B.bytes
  have hr := B.returns
  have hlocks := B.notSynchronized
  have hts : ∀ w ∈ gT, w.before _ s = true := fun w h => atoms_spec (ws := Cond.code yX10_isTaken cX10_isTaken 1 (some .boolean) :: gT) B.pre w (List.mem_cons_of_mem _ h)
  have hown : s.vm.findClass RX10 = some m.cls := findClass_of_methodNamed B.named
  subst hsz
  have hD := hD0.self (sz := s.heap.size)
  generalize hAe : va_A w0 s.heap.size = A at hD hSD ⊢
  have hA : ∀ q : Nat, s.heap.size ≤ q → A q := fun q h => by rw [← hAe]; exact Or.inr h
  have hl := lv_entry ([.ref p0]) (n := 1) (Nat.le_of_ble_eq_true rfl)
  rw [lg_entry_eq]
  generalize (lg_sl ([.ref p0]) ++ List.replicate (1 - (lg_sl ([.ref p0])).length) Slot.unset).toArray = ls at hl ⊢
  have hl : lv_has ls 1 [(0, .ref p0)] := hl
  refine nameQ (fun Q hQ => ?_)
  have hw : WD D cy GG A s wr_X10_isTaken wa_X10_isTaken Ps w0 Ps w0 s.heap [] := ⟨hT, hP, hD, va_S.rf, FR.rf, hT.1, [], (List.append_nil _).symm⟩
  refine lv_aload_n hx hb dX10_isTaken_0 rfl (lv_at hl 0 rfl) ?_
  refine tg_get (ci := 10) (ts := ty_MODEL) (C := RX10) (T := TX10) (N := 49) hx hb hts inX10 hown hK hw h_p0 rfl rfl 21 (by decide) (hts _ tw_1158) (fun _ h9 => h9) (ft := vR 42) rfl dX10_isTaken_1 (fun u_1 hv_u_1 m_u_1 => ?_)
  obtain ⟨vu_1, rfl, h_vu_1⟩ := hv_u_1
  refine lv_iconst (v := 0) hx hb dX10_isTaken_4 (by decide) ?_
  refine lv_aload_n hx hb dX10_isTaken_5 rfl (lv_at hl 0 rfl) ?_
  refine tg_get (ci := 10) (ts := ty_MODEL) (C := RX10) (T := TX10) (N := 49) hx hb hts inX10 hown hK hw h_p0 rfl rfl 15 (by decide) (hts _ tw_1152) (fun _ h9 => h9) (ft := vR 35) rfl dX10_isTaken_6 (fun u_2 hv_u_2 m_u_2 => ?_)
  obtain ⟨vu_2, rfl, h_vu_2⟩ := hv_u_2
  refine lv_iconst (v := 0) hx hb dX10_isTaken_9 (by decide) ?_
  refine tg_iald (lo := 0) (hi := 6) hx hb hK hw h_vu_2 rfl 0 0 rl_0 (by decide) (by decide +kernel) dX10_isTaken_10 (fun v_3 r_v_3 m_v_3 o_v_3 => ?_)
  refine lv_aload_n hx hb dX10_isTaken_11 rfl (lv_at hl 0 rfl) ?_
  refine tg_get (ci := 10) (ts := ty_MODEL) (C := RX10) (T := TX10) (N := 49) hx hb hts inX10 hown hK hw h_p0 rfl rfl 12 (by decide) (hts _ tw_1149) (fun _ h9 => h9) (ft := vJ (-9223372036854775808) 9223372036854775807) rfl dX10_isTaken_12 (fun u_4 hv_u_4 m_u_4 => ?_)
  obtain ⟨vu_4, rfl, r_vu_4⟩ := hv_u_4
  refine tk_ir (va_runS (As := [.ref vu_1, .int 0, .int v_3, .long vu_4]) (rest := []) ⟨hx, hb, hml, hown, hts⟩ (c_X10_findIn l D cy z s.heap.size Ps w0 hw.1 vu_1 0 v_3 vu_4 h_vu_1 rl_0 r_v_3 r_vu_4) (va_cwS 4 hts (gS tw_1352 tw_1353 tw_15 tw_1354) rfl rfl rfl (by decide +kernel) ⟨Nat.le_of_ble_eq_true rfl, Nat.le_of_ble_eq_true rfl⟩) (tg_preS hw hK hSD hA) rfl rfl hl.1 rfl (lv_room (Nat.le_of_ble_eq_true rfl)) dX10_isTaken_15 ⟨Nat.le_of_ble_eq_true rfl, Nat.le_of_ble_eq_true rfl⟩) hw hA (fun v_5  H locs hp_v_5 hw => ?_)
  have r_v_5 : RI v_5 (-1) 5 := hp_v_5.1
  by_cases c9_v_5 : v_5.toInt < 0
  · have r_v_5 : RI v_5 (-1) (-1) := by unfold RI at r_v_5 ⊢; omega
    have x_NF_vu_1_0_v_3_vu_4 := (hp_v_5.2.2.2.2.1 (by omega)).1
    refine lv_iconst (v := (-1)) hx hb dX10_isTaken_18 (by decide) ?_
    refine lv_icmp_ne (tgt := 91) hx hb dX10_isTaken_19 (by decide) (fun c_19 => ?_) (fun c_19 => ?_)
    · exact absurd (r_v_5.eq.trans rl_m1.eq.symm) ((ti_ne c_19))
    · refine lv_aload_n hx hb dX10_isTaken_22 rfl (lv_at hl 0 rfl) ?_
      refine tg_mem (ci := 10) (C := RX10) (T := TX10) (N := 49) hx hb hts inX10 hown hK hw 21 m_u_1 rfl (by decide) (hts _ tw_1158) (fun _ h9 => h9) dX10_isTaken_23 ?_
      refine lv_bipush (v := 6) hx hb dX10_isTaken_26 (by decide) ?_
      refine lv_aload_n hx hb dX10_isTaken_28 rfl (lv_at hl 0 rfl) ?_
      refine tg_mem (ci := 10) (C := RX10) (T := TX10) (N := 49) hx hb hts inX10 hown hK hw 15 m_u_2 rfl (by decide) (hts _ tw_1152) (fun _ h9 => h9) dX10_isTaken_29 ?_
      refine lv_iconst (v := 1) hx hb dX10_isTaken_32 (by decide) ?_
      refine tg_iald (lo := 0) (hi := 4) hx hb hK hw h_vu_2 rfl 1 1 rl_1 (by decide) (by decide +kernel) dX10_isTaken_33 (fun v_6 r_v_6 m_v_6 o_v_6 => ?_)
      refine lv_aload_n hx hb dX10_isTaken_34 rfl (lv_at hl 0 rfl) ?_
      refine tg_get (ci := 10) (ts := ty_MODEL) (C := RX10) (T := TX10) (N := 49) hx hb hts inX10 hown hK hw h_p0 rfl rfl 12 (by decide) (hts _ tw_1149) (fun _ h9 => h9) (ft := vJ (-9223372036854775808) 9223372036854775807) rfl dX10_isTaken_35 (fun u_7 hv_u_7 m_u_7 => ?_)
      obtain ⟨vu_7, rfl, r_vu_7⟩ := hv_u_7
      refine tk_ir (va_runS (As := [.ref vu_1, .int 6, .int v_6, .long vu_7]) (rest := []) ⟨hx, hb, hml, hown, hts⟩ (c_X10_findIn__1 l D cy z H.size Ps w0 hw.1 vu_1 6 v_6 vu_7 h_vu_1 rl_6 r_v_6 r_vu_7) (va_cwS 4 hts (gS tw_1352 tw_1353 tw_15 tw_1354) rfl rfl rfl (by decide +kernel) ⟨Nat.le_of_ble_eq_true rfl, Nat.le_of_ble_eq_true rfl⟩) (tg_preS hw hK hSD hA) rfl rfl hl.1 rfl (lv_room (Nat.le_of_ble_eq_true rfl)) dX10_isTaken_38 ⟨Nat.le_of_ble_eq_true rfl, Nat.le_of_ble_eq_true rfl⟩) hw hA (fun v_8  H locs hp_v_8 hw => ?_)
      have r_v_8 : RI v_8 (-1) 3 := hp_v_8.1
      by_cases c9_v_8 : v_8.toInt < 0
      · have r_v_8 : RI v_8 (-1) (-1) := by unfold RI at r_v_8 ⊢; omega
        have x_NF_vu_1_6_v_6_vu_7 := (hp_v_8.2.2.2.2.1 (by omega)).1
        refine lv_iconst (v := (-1)) hx hb dX10_isTaken_41 (by decide) ?_
        refine lv_icmp_ne (tgt := 91) hx hb dX10_isTaken_42 (by decide) (fun c_42 => ?_) (fun c_42 => ?_)
        · exact absurd (r_v_8.eq.trans rl_m1.eq.symm) ((ti_ne c_42))
        · refine lv_aload_n hx hb dX10_isTaken_45 rfl (lv_at hl 0 rfl) ?_
          refine tg_mem (ci := 10) (C := RX10) (T := TX10) (N := 49) hx hb hts inX10 hown hK hw 21 m_u_1 rfl (by decide) (hts _ tw_1158) (fun _ h9 => h9) dX10_isTaken_46 ?_
          refine lv_bipush (v := 10) hx hb dX10_isTaken_49 (by decide) ?_
          refine lv_aload_n hx hb dX10_isTaken_51 rfl (lv_at hl 0 rfl) ?_
          refine tg_mem (ci := 10) (C := RX10) (T := TX10) (N := 49) hx hb hts inX10 hown hK hw 15 m_u_2 rfl (by decide) (hts _ tw_1152) (fun _ h9 => h9) dX10_isTaken_52 ?_
          refine lv_iconst (v := 2) hx hb dX10_isTaken_55 (by decide) ?_
          refine tg_iald (lo := 0) (hi := 6) hx hb hK hw h_vu_2 rfl 2 2 rl_2 (by decide) (by decide +kernel) dX10_isTaken_56 (fun v_9 r_v_9 m_v_9 o_v_9 => ?_)
          refine lv_aload_n hx hb dX10_isTaken_57 rfl (lv_at hl 0 rfl) ?_
          refine tg_get (ci := 10) (ts := ty_MODEL) (C := RX10) (T := TX10) (N := 49) hx hb hts inX10 hown hK hw h_p0 rfl rfl 12 (by decide) (hts _ tw_1149) (fun _ h9 => h9) (ft := vJ (-9223372036854775808) 9223372036854775807) rfl dX10_isTaken_58 (fun u_10 hv_u_10 m_u_10 => ?_)
          obtain ⟨vu_10, rfl, r_vu_10⟩ := hv_u_10
          refine tk_ir (va_runS (As := [.ref vu_1, .int 10, .int v_9, .long vu_10]) (rest := []) ⟨hx, hb, hml, hown, hts⟩ (c_X10_findIn__2 l D cy z H.size Ps w0 hw.1 vu_1 10 v_9 vu_10 h_vu_1 rl_10 r_v_9 r_vu_10) (va_cwS 4 hts (gS tw_1352 tw_1353 tw_15 tw_1354) rfl rfl rfl (by decide +kernel) ⟨Nat.le_of_ble_eq_true rfl, Nat.le_of_ble_eq_true rfl⟩) (tg_preS hw hK hSD hA) rfl rfl hl.1 rfl (lv_room (Nat.le_of_ble_eq_true rfl)) dX10_isTaken_61 ⟨Nat.le_of_ble_eq_true rfl, Nat.le_of_ble_eq_true rfl⟩) hw hA (fun v_11  H locs hp_v_11 hw => ?_)
          have r_v_11 : RI v_11 (-1) 5 := hp_v_11.1
          by_cases c9_v_11 : v_11.toInt < 0
          · have r_v_11 : RI v_11 (-1) (-1) := by unfold RI at r_v_11 ⊢; omega
            have x_NF_vu_1_10_v_9_vu_10 := (hp_v_11.2.2.2.2.1 (by omega)).1
            refine lv_iconst (v := (-1)) hx hb dX10_isTaken_64 (by decide) ?_
            refine lv_icmp_ne (tgt := 91) hx hb dX10_isTaken_65 (by decide) (fun c_65 => ?_) (fun c_65 => ?_)
            · exact absurd (r_v_11.eq.trans rl_m1.eq.symm) ((ti_ne c_65))
            · refine lv_aload_n hx hb dX10_isTaken_68 rfl (lv_at hl 0 rfl) ?_
              refine tg_mem (ci := 10) (C := RX10) (T := TX10) (N := 49) hx hb hts inX10 hown hK hw 21 m_u_1 rfl (by decide) (hts _ tw_1158) (fun _ h9 => h9) dX10_isTaken_69 ?_
              refine lv_bipush (v := 16) hx hb dX10_isTaken_72 (by decide) ?_
              refine lv_aload_n hx hb dX10_isTaken_74 rfl (lv_at hl 0 rfl) ?_
              refine tg_mem (ci := 10) (C := RX10) (T := TX10) (N := 49) hx hb hts inX10 hown hK hw 15 m_u_2 rfl (by decide) (hts _ tw_1152) (fun _ h9 => h9) dX10_isTaken_75 ?_
              refine lv_iconst (v := 3) hx hb dX10_isTaken_78 (by decide) ?_
              refine tg_iald (lo := 0) (hi := 8) hx hb hK hw h_vu_2 rfl 3 3 rl_3 (by decide) (by decide +kernel) dX10_isTaken_79 (fun v_12 r_v_12 m_v_12 o_v_12 => ?_)
              refine lv_aload_n hx hb dX10_isTaken_80 rfl (lv_at hl 0 rfl) ?_
              refine tg_get (ci := 10) (ts := ty_MODEL) (C := RX10) (T := TX10) (N := 49) hx hb hts inX10 hown hK hw h_p0 rfl rfl 12 (by decide) (hts _ tw_1149) (fun _ h9 => h9) (ft := vJ (-9223372036854775808) 9223372036854775807) rfl dX10_isTaken_81 (fun u_13 hv_u_13 m_u_13 => ?_)
              obtain ⟨vu_13, rfl, r_vu_13⟩ := hv_u_13
              refine tk_ir (va_runS (As := [.ref vu_1, .int 16, .int v_12, .long vu_13]) (rest := []) ⟨hx, hb, hml, hown, hts⟩ (c_X10_findIn__3 l D cy z H.size Ps w0 hw.1 vu_1 16 v_12 vu_13 h_vu_1 rl_16 r_v_12 r_vu_13) (va_cwS 4 hts (gS tw_1352 tw_1353 tw_15 tw_1354) rfl rfl rfl (by decide +kernel) ⟨Nat.le_of_ble_eq_true rfl, Nat.le_of_ble_eq_true rfl⟩) (tg_preS hw hK hSD hA) rfl rfl hl.1 rfl (lv_room (Nat.le_of_ble_eq_true rfl)) dX10_isTaken_84 ⟨Nat.le_of_ble_eq_true rfl, Nat.le_of_ble_eq_true rfl⟩) hw hA (fun v_14  H locs hp_v_14 hw => ?_)
              have r_v_14 : RI v_14 (-1) 7 := hp_v_14.1
              by_cases c9_v_14 : v_14.toInt < 0
              · have r_v_14 : RI v_14 (-1) (-1) := by unfold RI at r_v_14 ⊢; omega
                have x_NF_vu_1_16_v_12_vu_13 := (hp_v_14.2.2.2.2.1 (by omega)).1
                refine lv_iconst (v := (-1)) hx hb dX10_isTaken_87 (by decide) ?_
                refine lv_icmp_eq (tgt := 95) hx hb dX10_isTaken_88 (by decide) (fun c_88 => ?_) (fun c_88 => ?_)
                · refine lv_iconst (v := 0) hx hb dX10_isTaken_95 (by decide) ?_
                  subst hQ
                  exact W.zret (v := 0) hx hb hr (rfl) (fun t ht hW => ⟨⟨0, (), rfl, ⟨rl_0.to (by decide), (fun h0 => trivial), (fun _ => trivial)⟩, by rw [ht]; exact hw.2.1, va_K.moved hW.alike hK, hw.2.2.1⟩, hw.2.2.2.1.F ht⟩) hw.2.2.2.1.2.2 dX10_isTaken_96
                · exact absurd (r_v_14.eq.trans rl_m1.eq.symm) ((ti_ne c_88))
              · have r_v_14 : RI v_14 0 7 := by unfold RI at r_v_14 ⊢; omega
                have x_FD_vu_1_16_v_12_vu_13 := (hp_v_14.2.2.2.2.2 (by omega)).1
                have x_POS_v_12 := (hp_v_14.2.2.2.2.2 (by omega)).2.1
                have r_v_12 : RI v_12 1 8 := ⟨x_POS_v_12, r_v_12.2⟩
                refine lv_iconst (v := (-1)) hx hb dX10_isTaken_87 (by decide) ?_
                refine lv_icmp_eq (tgt := 95) hx hb dX10_isTaken_88 (by decide) (fun c_88 => ?_) (fun c_88 => ?_)
                · have r_v_14 : RI v_14 0 (-1) := rc_eq1 r_v_14 rl_m1 (ti_eq c_88) (by decide)
                  exact (r_v_14.no (by decide)).elim
                · refine lv_iconst (v := 1) hx hb dX10_isTaken_91 (by decide) ?_
                  refine lv_goto (tgt := 96) hx hb dX10_isTaken_92 (by decide) ?_
                  subst hQ
                  exact W.zret (v := 1) hx hb hr (rfl) (fun t ht hW => ⟨⟨1, (), rfl, ⟨rl_1.to (by decide), (fun _ => trivial), (fun h0 => trivial)⟩, by rw [ht]; exact hw.2.1, va_K.moved hW.alike hK, hw.2.2.1⟩, hw.2.2.2.1.F ht⟩) hw.2.2.2.1.2.2 dX10_isTaken_96
          · have r_v_11 : RI v_11 0 5 := by unfold RI at r_v_11 ⊢; omega
            have x_FD_vu_1_10_v_9_vu_10 := (hp_v_11.2.2.2.2.2 (by omega)).1
            have x_POS_v_9 := (hp_v_11.2.2.2.2.2 (by omega)).2.1
            have r_v_9 : RI v_9 1 6 := ⟨x_POS_v_9, r_v_9.2⟩
            refine lv_iconst (v := (-1)) hx hb dX10_isTaken_64 (by decide) ?_
            refine lv_icmp_ne (tgt := 91) hx hb dX10_isTaken_65 (by decide) (fun c_65 => ?_) (fun c_65 => ?_)
            · refine lv_iconst (v := 1) hx hb dX10_isTaken_91 (by decide) ?_
              refine lv_goto (tgt := 96) hx hb dX10_isTaken_92 (by decide) ?_
              subst hQ
              exact W.zret (v := 1) hx hb hr (rfl) (fun t ht hW => ⟨⟨1, (), rfl, ⟨rl_1.to (by decide), (fun _ => trivial), (fun h0 => trivial)⟩, by rw [ht]; exact hw.2.1, va_K.moved hW.alike hK, hw.2.2.1⟩, hw.2.2.2.1.F ht⟩) hw.2.2.2.1.2.2 dX10_isTaken_96
            · have r_v_11 : RI v_11 0 (-1) := rc_eq1 r_v_11 rl_m1 (ti_eq c_65) (by decide)
              exact (r_v_11.no (by decide)).elim
      · have r_v_8 : RI v_8 0 3 := by unfold RI at r_v_8 ⊢; omega
        have x_FD_vu_1_6_v_6_vu_7 := (hp_v_8.2.2.2.2.2 (by omega)).1
        have x_POS_v_6 := (hp_v_8.2.2.2.2.2 (by omega)).2.1
        have r_v_6 : RI v_6 1 4 := ⟨x_POS_v_6, r_v_6.2⟩
        refine lv_iconst (v := (-1)) hx hb dX10_isTaken_41 (by decide) ?_
        refine lv_icmp_ne (tgt := 91) hx hb dX10_isTaken_42 (by decide) (fun c_42 => ?_) (fun c_42 => ?_)
        · refine lv_iconst (v := 1) hx hb dX10_isTaken_91 (by decide) ?_
          refine lv_goto (tgt := 96) hx hb dX10_isTaken_92 (by decide) ?_
          subst hQ
          exact W.zret (v := 1) hx hb hr (rfl) (fun t ht hW => ⟨⟨1, (), rfl, ⟨rl_1.to (by decide), (fun _ => trivial), (fun h0 => trivial)⟩, by rw [ht]; exact hw.2.1, va_K.moved hW.alike hK, hw.2.2.1⟩, hw.2.2.2.1.F ht⟩) hw.2.2.2.1.2.2 dX10_isTaken_96
        · have r_v_8 : RI v_8 0 (-1) := rc_eq1 r_v_8 rl_m1 (ti_eq c_42) (by decide)
          exact (r_v_8.no (by decide)).elim
  · have r_v_5 : RI v_5 0 5 := by unfold RI at r_v_5 ⊢; omega
    have x_FD_vu_1_0_v_3_vu_4 := (hp_v_5.2.2.2.2.2 (by omega)).1
    have x_POS_v_3 := (hp_v_5.2.2.2.2.2 (by omega)).2.1
    have r_v_3 : RI v_3 1 6 := ⟨x_POS_v_3, r_v_3.2⟩
    refine lv_iconst (v := (-1)) hx hb dX10_isTaken_18 (by decide) ?_
    refine lv_icmp_ne (tgt := 91) hx hb dX10_isTaken_19 (by decide) (fun c_19 => ?_) (fun c_19 => ?_)
    · refine lv_iconst (v := 1) hx hb dX10_isTaken_91 (by decide) ?_
      refine lv_goto (tgt := 96) hx hb dX10_isTaken_92 (by decide) ?_
      subst hQ
      exact W.zret (v := 1) hx hb hr (rfl) (fun t ht hW => ⟨⟨1, (), rfl, ⟨rl_1.to (by decide), (fun _ => trivial), (fun h0 => trivial)⟩, by rw [ht]; exact hw.2.1, va_K.moved hW.alike hK, hw.2.2.1⟩, hw.2.2.2.1.F ht⟩) hw.2.2.2.1.2.2 dX10_isTaken_96
    · have r_v_5 : RI v_5 0 (-1) := rc_eq1 r_v_5 rl_m1 (ti_eq c_19) (by decide)
      exact (r_v_5.no (by decide)).elim
abbrev wr_X10_wordOf__1 : List (Nat × Nat) := []
abbrev wa_X10_wordOf__1 : List Nat := []
set_option maxHeartbeats 4000000 in
set_option maxRecDepth 100000 in
theorem c_X10_wordOf__1 (l : Launch) (D : va_G) (cy : Nat → ClassId) (z : Nat → Nat) (sz : Nat) (Ps : PSI) (w0 : va_W) (hT : HT cy GG Ps w0) (p0 : Int32) (r_p0 : RI p0 (-2147483648) 2147483647) : Met l yX10_wordOf (Cond.code yX10_wordOf cX10_wordOf 1 (some .long) :: gT) ({ frames := 2, cells := 0, slots := 0, locals := 400 } : Room) (va_Pc [.int p0] (PRE D cy z w0 sz)) (va_Ql (fun (r : Int64) (u : Unit) => RJ r 257 8935713994) (BB D cy (va_A w0 sz) (fun (u : Unit) => w0)) (va_A w0 sz)) 0 0 (va_A w0 sz) := by
  refine Met.ofW (cc := cX10_wordOf) (maxL := 1) (ret := (some .long)) (by decide) rfl ?_
  intro p e s m args below meth c s₁ B hml hv
  obtain ⟨rfl, hsz, hP, hK, hD0, hSD⟩ := hv
  have hx := B.exec
  have hb := B.bytes
  have hr := B.returns
  have hlocks := B.notSynchronized
  have hts : ∀ w ∈ gT, w.before _ s = true := fun w h => atoms_spec (ws := Cond.code yX10_wordOf cX10_wordOf 1 (some .long) :: gT) B.pre w (List.mem_cons_of_mem _ h)
  have hown : s.vm.findClass RX10 = some m.cls := findClass_of_methodNamed B.named
  subst hsz
  have hD := hD0.self (sz := s.heap.size)
  generalize hAe : va_A w0 s.heap.size = A at hD hSD ⊢
  have hA : ∀ q : Nat, s.heap.size ≤ q → A q := fun q h => by rw [← hAe]; exact Or.inr h
  have hl := lv_entry ([.int p0]) (n := 1) (Nat.le_of_ble_eq_true rfl)
  rw [lg_entry_eq]
  generalize (lg_sl ([.int p0]) ++ List.replicate (1 - (lg_sl ([.int p0])).length) Slot.unset).toArray = ls at hl ⊢
  have hl : lv_has ls 1 [(0, .int p0)] := hl
  refine nameQ (fun Q hQ => ?_)
  have hw : WD D cy GG A s wr_X10_wordOf__1 wa_X10_wordOf__1 Ps w0 Ps w0 s.heap [] := ⟨hT, hP, hD, va_S.rf, FR.rf, hT.1, [], (List.append_nil _).symm⟩
  refine lv_iload_n hx hb dX10_wordOf_0 rfl (lv_at hl 0 rfl) ?_
  have w_1 := r_p0
  by_cases cl_1 : p0.toInt < 0 ∨ 26 < p0.toInt
  · refine lv_tableOut (tgt := 547) hx hb dX10_wordOf_1 cl_1 (by decide) ?_
    refine lv_bipush (v := 110) hx hb dX10_wordOf_547 (by decide) ?_
    refine lv_bipush (v := 117) hx hb dX10_wordOf_549 (by decide) ?_
    refine lv_bipush (v := 109) hx hb dX10_wordOf_551 (by decide) ?_
    refine lv_bipush (v := 98) hx hb dX10_wordOf_553 (by decide) ?_
    refine lv_bipush (v := 101) hx hb dX10_wordOf_555 (by decide) ?_
    refine lv_bipush (v := 114) hx hb dX10_wordOf_557 (by decide) ?_
    refine lv_iconst (v := 0) hx hb dX10_wordOf_559 (by decide) ?_
    refine tk_lr (va_runS (As := [.int 110, .int 117, .int 109, .int 98, .int 101, .int 114, .int 0]) (rest := []) ⟨hx, hb, hml, hown, hts⟩ (c_X10_spelt l D cy z s.heap.size Ps w0 hw.1 110 117 109 98 101 114 0 rl_110 rl_117 rl_109 rl_98 rl_101 rl_114 rl_0) (va_cwS 7 hts (gS tw_1325 tw_1326 tw_15 tw_1327) rfl rfl rfl (by decide +kernel) ⟨Nat.le_of_ble_eq_true rfl, Nat.le_of_ble_eq_true rfl⟩) (tg_preS hw hK hSD hA) rfl rfl hl.1 rfl (lv_room (Nat.le_of_ble_eq_true rfl)) dX10_wordOf_560 ⟨Nat.le_of_ble_eq_true rfl, Nat.le_of_ble_eq_true rfl⟩) hw hA (fun v_1  H locs hp_v_1 hw => ?_)
    have r_v_1 : RJ v_1 212302449 212302449 := hp_v_1
    subst hQ
    exact W.lret (v := v_1) hx hb hr (fun t ht hW => ⟨⟨v_1, (), rfl, r_v_1.to (by decide), by rw [ht]; exact hw.2.1, va_K.moved hW.alike hK, hw.2.2.1⟩, hw.2.2.2.1.F ht⟩) hw.2.2.2.1.2.2 dX10_wordOf_563
  · have e_1 : p0.toInt = 0 ∨ p0.toInt = 1 ∨ p0.toInt = 2 ∨ p0.toInt = 3 ∨ p0.toInt = 4 ∨ p0.toInt = 5 ∨ p0.toInt = 6 ∨ p0.toInt = 7 ∨ p0.toInt = 8 ∨ p0.toInt = 9 ∨ p0.toInt = 10 ∨ p0.toInt = 11 ∨ p0.toInt = 12 ∨ p0.toInt = 13 ∨ p0.toInt = 14 ∨ p0.toInt = 15 ∨ p0.toInt = 16 ∨ p0.toInt = 17 ∨ p0.toInt = 18 ∨ p0.toInt = 19 ∨ p0.toInt = 20 ∨ p0.toInt = 21 ∨ p0.toInt = 22 ∨ p0.toInt = 23 ∨ p0.toInt = 24 ∨ p0.toInt = 25 ∨ p0.toInt = 26 := by omega
    rcases e_1 with h_1 | h_1 | h_1 | h_1 | h_1 | h_1 | h_1 | h_1 | h_1 | h_1 | h_1 | h_1 | h_1 | h_1 | h_1 | h_1 | h_1 | h_1 | h_1 | h_1 | h_1 | h_1 | h_1 | h_1 | h_1 | h_1 | h_1
    · refine lv_tableIn (tgt := 124) (off := 123) hx hb dX10_wordOf_1 (by omega) (by omega) (by rw [h_1]; rfl) (by decide) ?_
      have r_p0 : RI p0 0 0 := ⟨by omega, by omega⟩
      refine lv_bipush (v := 105) hx hb dX10_wordOf_124 (by decide) ?_
      refine lv_bipush (v := 100) hx hb dX10_wordOf_126 (by decide) ?_
      refine lv_bipush (v := 101) hx hb dX10_wordOf_128 (by decide) ?_
      refine lv_bipush (v := 97) hx hb dX10_wordOf_130 (by decide) ?_
      refine lv_iconst (v := 0) hx hb dX10_wordOf_132 (by decide) ?_
      refine lv_iconst (v := 0) hx hb dX10_wordOf_133 (by decide) ?_
      refine lv_iconst (v := 0) hx hb dX10_wordOf_134 (by decide) ?_
      refine tk_lr (va_runS (As := [.int 105, .int 100, .int 101, .int 97, .int 0, .int 0, .int 0]) (rest := []) ⟨hx, hb, hml, hown, hts⟩ (c_X10_spelt__1 l D cy z s.heap.size Ps w0 hw.1 105 100 101 97 0 0 0 rl_105 rl_100 rl_101 rl_97 rl_0 rl_0 rl_0) (va_cwS 7 hts (gS tw_1325 tw_1326 tw_15 tw_1327) rfl rfl rfl (by decide +kernel) ⟨Nat.le_of_ble_eq_true rfl, Nat.le_of_ble_eq_true rfl⟩) (tg_preS hw hK hSD hA) rfl rfl hl.1 rfl (lv_room (Nat.le_of_ble_eq_true rfl)) dX10_wordOf_135 ⟨Nat.le_of_ble_eq_true rfl, Nat.le_of_ble_eq_true rfl⟩) hw hA (fun v_2  H locs hp_v_2 hw => ?_)
      have r_v_2 : RJ v_2 180199 180199 := hp_v_2
      subst hQ
      exact W.lret (v := v_2) hx hb hr (fun t ht hW => ⟨⟨v_2, (), rfl, r_v_2.to (by decide), by rw [ht]; exact hw.2.1, va_K.moved hW.alike hK, hw.2.2.1⟩, hw.2.2.2.1.F ht⟩) hw.2.2.2.1.2.2 dX10_wordOf_138
    · refine lv_tableIn (tgt := 139) (off := 138) hx hb dX10_wordOf_1 (by omega) (by omega) (by rw [h_1]; rfl) (by decide) ?_
      have r_p0 : RI p0 1 1 := ⟨by omega, by omega⟩
      refine lv_bipush (v := 114) hx hb dX10_wordOf_139 (by decide) ?_
      refine lv_bipush (v := 111) hx hb dX10_wordOf_141 (by decide) ?_
      refine lv_bipush (v := 111) hx hb dX10_wordOf_143 (by decide) ?_
      refine lv_bipush (v := 109) hx hb dX10_wordOf_145 (by decide) ?_
      refine lv_iconst (v := 0) hx hb dX10_wordOf_147 (by decide) ?_
      refine lv_iconst (v := 0) hx hb dX10_wordOf_148 (by decide) ?_
      refine lv_iconst (v := 0) hx hb dX10_wordOf_149 (by decide) ?_
      refine tk_lr (va_runS (As := [.int 114, .int 111, .int 111, .int 109, .int 0, .int 0, .int 0]) (rest := []) ⟨hx, hb, hml, hown, hts⟩ (c_X10_spelt__2 l D cy z s.heap.size Ps w0 hw.1 114 111 111 109 0 0 0 rl_114 rl_111 rl_111 rl_109 rl_0 rl_0 rl_0) (va_cwS 7 hts (gS tw_1325 tw_1326 tw_15 tw_1327) rfl rfl rfl (by decide +kernel) ⟨Nat.le_of_ble_eq_true rfl, Nat.le_of_ble_eq_true rfl⟩) (tg_preS hw hK hSD hA) rfl rfl hl.1 rfl (lv_room (Nat.le_of_ble_eq_true rfl)) dX10_wordOf_150 ⟨Nat.le_of_ble_eq_true rfl, Nat.le_of_ble_eq_true rfl⟩) hw hA (fun v_3  H locs hp_v_3 hw => ?_)
      have r_v_3 : RJ v_3 365647 365647 := hp_v_3
      subst hQ
      exact W.lret (v := v_3) hx hb hr (fun t ht hW => ⟨⟨v_3, (), rfl, r_v_3.to (by decide), by rw [ht]; exact hw.2.1, va_K.moved hW.alike hK, hw.2.2.1⟩, hw.2.2.2.1.F ht⟩) hw.2.2.2.1.2.2 dX10_wordOf_153
    · refine lv_tableIn (tgt := 154) (off := 153) hx hb dX10_wordOf_1 (by omega) (by omega) (by rw [h_1]; rfl) (by decide) ?_
      have r_p0 : RI p0 2 2 := ⟨by omega, by omega⟩
      refine lv_bipush (v := 112) hx hb dX10_wordOf_154 (by decide) ?_
      refine lv_bipush (v := 97) hx hb dX10_wordOf_156 (by decide) ?_
      refine lv_bipush (v := 114) hx hb dX10_wordOf_158 (by decide) ?_
      refine lv_bipush (v := 99) hx hb dX10_wordOf_160 (by decide) ?_
      refine lv_bipush (v := 101) hx hb dX10_wordOf_162 (by decide) ?_
      refine lv_bipush (v := 108) hx hb dX10_wordOf_164 (by decide) ?_
      refine lv_iconst (v := 0) hx hb dX10_wordOf_166 (by decide) ?_
      refine tk_lr (va_runS (As := [.int 112, .int 97, .int 114, .int 99, .int 101, .int 108, .int 0]) (rest := []) ⟨hx, hb, hml, hown, hts⟩ (c_X10_spelt__3 l D cy z s.heap.size Ps w0 hw.1 112 97 114 99 101 108 0 rl_112 rl_97 rl_114 rl_99 rl_101 rl_108 rl_0) (va_cwS 7 hts (gS tw_1325 tw_1326 tw_15 tw_1327) rfl rfl rfl (by decide +kernel) ⟨Nat.le_of_ble_eq_true rfl, Nat.le_of_ble_eq_true rfl⟩) (tg_preS hw hK hSD hA) rfl rfl hl.1 rfl (lv_room (Nat.le_of_ble_eq_true rfl)) dX10_wordOf_167 ⟨Nat.le_of_ble_eq_true rfl, Nat.le_of_ble_eq_true rfl⟩) hw hA (fun v_4  H locs hp_v_4 hw => ?_)
      have r_v_4 : RJ v_4 230470581 230470581 := hp_v_4
      subst hQ
      exact W.lret (v := v_4) hx hb hr (fun t ht hW => ⟨⟨v_4, (), rfl, r_v_4.to (by decide), by rw [ht]; exact hw.2.1, va_K.moved hW.alike hK, hw.2.2.1⟩, hw.2.2.2.1.F ht⟩) hw.2.2.2.1.2.2 dX10_wordOf_170
    · refine lv_tableIn (tgt := 171) (off := 170) hx hb dX10_wordOf_1 (by omega) (by omega) (by rw [h_1]; rfl) (by decide) ?_
      have r_p0 : RI p0 3 3 := ⟨by omega, by omega⟩
      refine lv_bipush (v := 112) hx hb dX10_wordOf_171 (by decide) ?_
      refine lv_bipush (v := 101) hx hb dX10_wordOf_173 (by decide) ?_
      refine lv_bipush (v := 114) hx hb dX10_wordOf_175 (by decide) ?_
      refine lv_bipush (v := 115) hx hb dX10_wordOf_177 (by decide) ?_
      refine lv_bipush (v := 111) hx hb dX10_wordOf_179 (by decide) ?_
      refine lv_bipush (v := 110) hx hb dX10_wordOf_181 (by decide) ?_
      refine lv_iconst (v := 0) hx hb dX10_wordOf_183 (by decide) ?_
      refine tk_lr (va_runS (As := [.int 112, .int 101, .int 114, .int 115, .int 111, .int 110, .int 0]) (rest := []) ⟨hx, hb, hml, hown, hts⟩ (c_X10_spelt__4 l D cy z s.heap.size Ps w0 hw.1 112 101 114 115 111 110 0 rl_112 rl_101 rl_114 rl_115 rl_111 rl_110 rl_0) (va_cwS 7 hts (gS tw_1325 tw_1326 tw_15 tw_1327) rfl rfl rfl (by decide +kernel) ⟨Nat.le_of_ble_eq_true rfl, Nat.le_of_ble_eq_true rfl⟩) (tg_preS hw hK hSD hA) rfl rfl hl.1 rfl (lv_room (Nat.le_of_ble_eq_true rfl)) dX10_wordOf_184 ⟨Nat.le_of_ble_eq_true rfl, Nat.le_of_ble_eq_true rfl⟩) hw hA (fun v_5  H locs hp_v_5 hw => ?_)
      have r_v_5 : RJ v_5 232608281 232608281 := hp_v_5
      subst hQ
      exact W.lret (v := v_5) hx hb hr (fun t ht hW => ⟨⟨v_5, (), rfl, r_v_5.to (by decide), by rw [ht]; exact hw.2.1, va_K.moved hW.alike hK, hw.2.2.1⟩, hw.2.2.2.1.F ht⟩) hw.2.2.2.1.2.2 dX10_wordOf_187
    · refine lv_tableIn (tgt := 188) (off := 187) hx hb dX10_wordOf_1 (by omega) (by omega) (by rw [h_1]; rfl) (by decide) ?_
      have r_p0 : RI p0 4 4 := ⟨by omega, by omega⟩
      refine lv_bipush (v := 115) hx hb dX10_wordOf_188 (by decide) ?_
      refine lv_bipush (v := 105) hx hb dX10_wordOf_190 (by decide) ?_
      refine lv_bipush (v := 116) hx hb dX10_wordOf_192 (by decide) ?_
      refine lv_bipush (v := 115) hx hb dX10_wordOf_194 (by decide) ?_
      refine lv_iconst (v := 0) hx hb dX10_wordOf_196 (by decide) ?_
      refine lv_iconst (v := 0) hx hb dX10_wordOf_197 (by decide) ?_
      refine lv_iconst (v := 0) hx hb dX10_wordOf_198 (by decide) ?_
      refine tk_lr (va_runS (As := [.int 115, .int 105, .int 116, .int 115, .int 0, .int 0, .int 0]) (rest := []) ⟨hx, hb, hml, hown, hts⟩ (c_X10_spelt__5 l D cy z s.heap.size Ps w0 hw.1 115 105 116 115 0 0 0 rl_115 rl_105 rl_116 rl_115 rl_0 rl_0 rl_0) (va_cwS 7 hts (gS tw_1325 tw_1326 tw_15 tw_1327) rfl rfl rfl (by decide +kernel) ⟨Nat.le_of_ble_eq_true rfl, Nat.le_of_ble_eq_true rfl⟩) (tg_preS hw hK hSD hA) rfl rfl hl.1 rfl (lv_room (Nat.le_of_ble_eq_true rfl)) dX10_wordOf_199 ⟨Nat.le_of_ble_eq_true rfl, Nat.le_of_ble_eq_true rfl⟩) hw hA (fun v_6  H locs hp_v_6 hw => ?_)
      have r_v_6 : RJ v_6 381097 381097 := hp_v_6
      subst hQ
      exact W.lret (v := v_6) hx hb hr (fun t ht hW => ⟨⟨v_6, (), rfl, r_v_6.to (by decide), by rw [ht]; exact hw.2.1, va_K.moved hW.alike hK, hw.2.2.1⟩, hw.2.2.2.1.F ht⟩) hw.2.2.2.1.2.2 dX10_wordOf_202
    · refine lv_tableIn (tgt := 203) (off := 202) hx hb dX10_wordOf_1 (by omega) (by omega) (by rw [h_1]; rfl) (by decide) ?_
      have r_p0 : RI p0 5 5 := ⟨by omega, by omega⟩
      refine lv_bipush (v := 104) hx hb dX10_wordOf_203 (by decide) ?_
      refine lv_bipush (v := 97) hx hb dX10_wordOf_205 (by decide) ?_
      refine lv_bipush (v := 115) hx hb dX10_wordOf_207 (by decide) ?_
      refine lv_iconst (v := 0) hx hb dX10_wordOf_209 (by decide) ?_
      refine lv_iconst (v := 0) hx hb dX10_wordOf_210 (by decide) ?_
      refine lv_iconst (v := 0) hx hb dX10_wordOf_211 (by decide) ?_
      refine lv_iconst (v := 0) hx hb dX10_wordOf_212 (by decide) ?_
      refine tk_lr (va_runS (As := [.int 104, .int 97, .int 115, .int 0, .int 0, .int 0, .int 0]) (rest := []) ⟨hx, hb, hml, hown, hts⟩ (c_X10_spelt__6 l D cy z s.heap.size Ps w0 hw.1 104 97 115 0 0 0 0 rl_104 rl_97 rl_115 rl_0 rl_0 rl_0 rl_0) (va_cwS 7 hts (gS tw_1325 tw_1326 tw_15 tw_1327) rfl rfl rfl (by decide +kernel) ⟨Nat.le_of_ble_eq_true rfl, Nat.le_of_ble_eq_true rfl⟩) (tg_preS hw hK hSD hA) rfl rfl hl.1 rfl (lv_room (Nat.le_of_ble_eq_true rfl)) dX10_wordOf_213 ⟨Nat.le_of_ble_eq_true rfl, Nat.le_of_ble_eq_true rfl⟩) hw hA (fun v_7  H locs hp_v_7 hw => ?_)
      have r_v_7 : RJ v_7 5878 5878 := hp_v_7
      subst hQ
      exact W.lret (v := v_7) hx hb hr (fun t ht hW => ⟨⟨v_7, (), rfl, r_v_7.to (by decide), by rw [ht]; exact hw.2.1, va_K.moved hW.alike hK, hw.2.2.1⟩, hw.2.2.2.1.F ht⟩) hw.2.2.2.1.2.2 dX10_wordOf_216
    · refine lv_tableIn (tgt := 217) (off := 216) hx hb dX10_wordOf_1 (by omega) (by omega) (by rw [h_1]; rfl) (by decide) ?_
      have r_p0 : RI p0 6 6 := ⟨by omega, by omega⟩
      refine lv_bipush (v := 113) hx hb dX10_wordOf_217 (by decide) ?_
      refine lv_bipush (v := 117) hx hb dX10_wordOf_219 (by decide) ?_
      refine lv_bipush (v := 97) hx hb dX10_wordOf_221 (by decide) ?_
      refine lv_bipush (v := 114) hx hb dX10_wordOf_223 (by decide) ?_
      refine lv_bipush (v := 114) hx hb dX10_wordOf_225 (by decide) ?_
      refine lv_bipush (v := 101) hx hb dX10_wordOf_227 (by decide) ?_
      refine lv_bipush (v := 108) hx hb dX10_wordOf_229 (by decide) ?_
      refine tk_lr (va_runS (As := [.int 113, .int 117, .int 97, .int 114, .int 114, .int 101, .int 108]) (rest := []) ⟨hx, hb, hml, hown, hts⟩ (c_X10_spelt__7 l D cy z s.heap.size Ps w0 hw.1 113 117 97 114 114 101 108 rl_113 rl_117 rl_97 rl_114 rl_114 rl_101 rl_108) (va_cwS 7 hts (gS tw_1325 tw_1326 tw_15 tw_1327) rfl rfl rfl (by decide +kernel) ⟨Nat.le_of_ble_eq_true rfl, Nat.le_of_ble_eq_true rfl⟩) (tg_preS hw hK hSD hA) rfl rfl hl.1 rfl (lv_room (Nat.le_of_ble_eq_true rfl)) dX10_wordOf_231 ⟨Nat.le_of_ble_eq_true rfl, Nat.le_of_ble_eq_true rfl⟩) hw hA (fun v_8  H locs hp_v_8 hw => ?_)
      have r_v_8 : RJ v_8 6888374364 6888374364 := hp_v_8
      subst hQ
      exact W.lret (v := v_8) hx hb hr (fun t ht hW => ⟨⟨v_8, (), rfl, r_v_8.to (by decide), by rw [ht]; exact hw.2.1, va_K.moved hW.alike hK, hw.2.2.1⟩, hw.2.2.2.1.F ht⟩) hw.2.2.2.1.2.2 dX10_wordOf_234
    · refine lv_tableIn (tgt := 235) (off := 234) hx hb dX10_wordOf_1 (by omega) (by omega) (by rw [h_1]; rfl) (by decide) ?_
      have r_p0 : RI p0 7 7 := ⟨by omega, by omega⟩
      refine lv_bipush (v := 108) hx hb dX10_wordOf_235 (by decide) ?_
      refine lv_bipush (v := 101) hx hb dX10_wordOf_237 (by decide) ?_
      refine lv_bipush (v := 97) hx hb dX10_wordOf_239 (by decide) ?_
      refine lv_bipush (v := 107) hx hb dX10_wordOf_241 (by decide) ?_
      refine lv_iconst (v := 0) hx hb dX10_wordOf_243 (by decide) ?_
      refine lv_iconst (v := 0) hx hb dX10_wordOf_244 (by decide) ?_
      refine lv_iconst (v := 0) hx hb dX10_wordOf_245 (by decide) ?_
      refine tk_lr (va_runS (As := [.int 108, .int 101, .int 97, .int 107, .int 0, .int 0, .int 0]) (rest := []) ⟨hx, hb, hml, hown, hts⟩ (c_X10_spelt__8 l D cy z s.heap.size Ps w0 hw.1 108 101 97 107 0 0 0 rl_108 rl_101 rl_97 rl_107 rl_0 rl_0 rl_0) (va_cwS 7 hts (gS tw_1325 tw_1326 tw_15 tw_1327) rfl rfl rfl (by decide +kernel) ⟨Nat.le_of_ble_eq_true rfl, Nat.le_of_ble_eq_true rfl⟩) (tg_preS hw hK hSD hA) rfl rfl hl.1 rfl (lv_room (Nat.le_of_ble_eq_true rfl)) dX10_wordOf_246 ⟨Nat.le_of_ble_eq_true rfl, Nat.le_of_ble_eq_true rfl⟩) hw hA (fun v_9  H locs hp_v_9 hw => ?_)
      have r_v_9 : RJ v_9 239879 239879 := hp_v_9
      subst hQ
      exact W.lret (v := v_9) hx hb hr (fun t ht hW => ⟨⟨v_9, (), rfl, r_v_9.to (by decide), by rw [ht]; exact hw.2.1, va_K.moved hW.alike hK, hw.2.2.1⟩, hw.2.2.2.1.F ht⟩) hw.2.2.2.1.2.2 dX10_wordOf_249
    · refine lv_tableIn (tgt := 250) (off := 249) hx hb dX10_wordOf_1 (by omega) (by omega) (by rw [h_1]; rfl) (by decide) ?_
      have r_p0 : RI p0 8 8 := ⟨by omega, by omega⟩
      refine lv_bipush (v := 103) hx hb dX10_wordOf_250 (by decide) ?_
      refine lv_bipush (v := 117) hx hb dX10_wordOf_252 (by decide) ?_
      refine lv_bipush (v := 101) hx hb dX10_wordOf_254 (by decide) ?_
      refine lv_bipush (v := 115) hx hb dX10_wordOf_256 (by decide) ?_
      refine lv_bipush (v := 115) hx hb dX10_wordOf_258 (by decide) ?_
      refine lv_iconst (v := 0) hx hb dX10_wordOf_260 (by decide) ?_
      refine lv_iconst (v := 0) hx hb dX10_wordOf_261 (by decide) ?_
      refine tk_lr (va_runS (As := [.int 103, .int 117, .int 101, .int 115, .int 115, .int 0, .int 0]) (rest := []) ⟨hx, hb, hml, hown, hts⟩ (c_X10_spelt__9 l D cy z s.heap.size Ps w0 hw.1 103 117 101 115 115 0 0 rl_103 rl_117 rl_101 rl_115 rl_115 rl_0 rl_0) (va_cwS 7 hts (gS tw_1325 tw_1326 tw_15 tw_1327) rfl rfl rfl (by decide +kernel) ⟨Nat.le_of_ble_eq_true rfl, Nat.le_of_ble_eq_true rfl⟩) (tg_preS hw hK hSD hA) rfl rfl hl.1 rfl (lv_room (Nat.le_of_ble_eq_true rfl)) dX10_wordOf_262 ⟨Nat.le_of_ble_eq_true rfl, Nat.le_of_ble_eq_true rfl⟩) hw hA (fun v_10  H locs hp_v_10 hw => ?_)
      have r_v_10 : RJ v_10 4137607 4137607 := hp_v_10
      subst hQ
      exact W.lret (v := v_10) hx hb hr (fun t ht hW => ⟨⟨v_10, (), rfl, r_v_10.to (by decide), by rw [ht]; exact hw.2.1, va_K.moved hW.alike hK, hw.2.2.1⟩, hw.2.2.2.1.F ht⟩) hw.2.2.2.1.2.2 dX10_wordOf_265
    · refine lv_tableIn (tgt := 266) (off := 265) hx hb dX10_wordOf_1 (by omega) (by omega) (by rw [h_1]; rfl) (by decide) ?_
      have r_p0 : RI p0 9 9 := ⟨by omega, by omega⟩
      refine lv_bipush (v := 106) hx hb dX10_wordOf_266 (by decide) ?_
      refine lv_bipush (v := 111) hx hb dX10_wordOf_268 (by decide) ?_
      refine lv_bipush (v := 105) hx hb dX10_wordOf_270 (by decide) ?_
      refine lv_bipush (v := 110) hx hb dX10_wordOf_272 (by decide) ?_
      refine lv_bipush (v := 115) hx hb dX10_wordOf_274 (by decide) ?_
      refine lv_iconst (v := 0) hx hb dX10_wordOf_276 (by decide) ?_
      refine lv_iconst (v := 0) hx hb dX10_wordOf_277 (by decide) ?_
      refine tk_lr (va_runS (As := [.int 106, .int 111, .int 105, .int 110, .int 115, .int 0, .int 0]) (rest := []) ⟨hx, hb, hml, hown, hts⟩ (c_X10_spelt__10 l D cy z s.heap.size Ps w0 hw.1 106 111 105 110 115 0 0 rl_106 rl_111 rl_105 rl_110 rl_115 rl_0 rl_0) (va_cwS 7 hts (gS tw_1325 tw_1326 tw_15 tw_1327) rfl rfl rfl (by decide +kernel) ⟨Nat.le_of_ble_eq_true rfl, Nat.le_of_ble_eq_true rfl⟩) (tg_preS hw hK hSD hA) rfl rfl hl.1 rfl (lv_room (Nat.le_of_ble_eq_true rfl)) dX10_wordOf_278 ⟨Nat.le_of_ble_eq_true rfl, Nat.le_of_ble_eq_true rfl⟩) hw hA (fun v_11  H locs hp_v_11 hw => ?_)
      have r_v_11 : RJ v_11 5616613 5616613 := hp_v_11
      subst hQ
      exact W.lret (v := v_11) hx hb hr (fun t ht hW => ⟨⟨v_11, (), rfl, r_v_11.to (by decide), by rw [ht]; exact hw.2.1, va_K.moved hW.alike hK, hw.2.2.1⟩, hw.2.2.2.1.F ht⟩) hw.2.2.2.1.2.2 dX10_wordOf_281
    · refine lv_tableIn (tgt := 282) (off := 281) hx hb dX10_wordOf_1 (by omega) (by omega) (by rw [h_1]; rfl) (by decide) ?_
      have r_p0 : RI p0 10 10 := ⟨by omega, by omega⟩
      refine lv_bipush (v := 115) hx hb dX10_wordOf_282 (by decide) ?_
      refine lv_bipush (v := 116) hx hb dX10_wordOf_284 (by decide) ?_
      refine lv_bipush (v := 97) hx hb dX10_wordOf_286 (by decide) ?_
      refine lv_bipush (v := 110) hx hb dX10_wordOf_288 (by decide) ?_
      refine lv_bipush (v := 100) hx hb dX10_wordOf_290 (by decide) ?_
      refine lv_bipush (v := 115) hx hb dX10_wordOf_292 (by decide) ?_
      refine lv_iconst (v := 0) hx hb dX10_wordOf_294 (by decide) ?_
      refine tk_lr (va_runS (As := [.int 115, .int 116, .int 97, .int 110, .int 100, .int 115, .int 0]) (rest := []) ⟨hx, hb, hml, hown, hts⟩ (c_X10_spelt__11 l D cy z s.heap.size Ps w0 hw.1 115 116 97 110 100 115 0 rl_115 rl_116 rl_97 rl_110 rl_100 rl_115 rl_0) (va_cwS 7 hts (gS tw_1325 tw_1326 tw_15 tw_1327) rfl rfl rfl (by decide +kernel) ⟨Nat.le_of_ble_eq_true rfl, Nat.le_of_ble_eq_true rfl⟩) (tg_preS hw hK hSD hA) rfl rfl hl.1 rfl (lv_room (Nat.le_of_ble_eq_true rfl)) dX10_wordOf_295 ⟨Nat.le_of_ble_eq_true rfl, Nat.le_of_ble_eq_true rfl⟩) hw hA (fun v_12  H locs hp_v_12 hw => ?_)
      have r_v_12 : RJ v_12 283288069 283288069 := hp_v_12
      subst hQ
      exact W.lret (v := v_12) hx hb hr (fun t ht hW => ⟨⟨v_12, (), rfl, r_v_12.to (by decide), by rw [ht]; exact hw.2.1, va_K.moved hW.alike hK, hw.2.2.1⟩, hw.2.2.2.1.F ht⟩) hw.2.2.2.1.2.2 dX10_wordOf_298
    · refine lv_tableIn (tgt := 299) (off := 298) hx hb dX10_wordOf_1 (by omega) (by omega) (by rw [h_1]; rfl) (by decide) ?_
      have r_p0 : RI p0 11 11 := ⟨by omega, by omega⟩
      refine lv_bipush (v := 119) hx hb dX10_wordOf_299 (by decide) ?_
      refine lv_bipush (v := 105) hx hb dX10_wordOf_301 (by decide) ?_
      refine lv_bipush (v := 115) hx hb dX10_wordOf_303 (by decide) ?_
      refine lv_bipush (v := 104) hx hb dX10_wordOf_305 (by decide) ?_
      refine lv_bipush (v := 101) hx hb dX10_wordOf_307 (by decide) ?_
      refine lv_bipush (v := 115) hx hb dX10_wordOf_309 (by decide) ?_
      refine lv_iconst (v := 0) hx hb dX10_wordOf_311 (by decide) ?_
      refine tk_lr (va_runS (As := [.int 119, .int 105, .int 115, .int 104, .int 101, .int 115, .int 0]) (rest := []) ⟨hx, hb, hml, hown, hts⟩ (c_X10_spelt__12 l D cy z s.heap.size Ps w0 hw.1 119 105 115 104 101 115 0 rl_119 rl_105 rl_115 rl_104 rl_101 rl_115 rl_0) (va_cwS 7 hts (gS tw_1325 tw_1326 tw_15 tw_1327) rfl rfl rfl (by decide +kernel) ⟨Nat.le_of_ble_eq_true rfl, Nat.le_of_ble_eq_true rfl⟩) (tg_preS hw hK hSD hA) rfl rfl hl.1 rfl (lv_room (Nat.le_of_ble_eq_true rfl)) dX10_wordOf_312 ⟨Nat.le_of_ble_eq_true rfl, Nat.le_of_ble_eq_true rfl⟩) hw hA (fun v_13  H locs hp_v_13 hw => ?_)
      have r_v_13 : RJ v_13 335187793 335187793 := hp_v_13
      subst hQ
      exact W.lret (v := v_13) hx hb hr (fun t ht hW => ⟨⟨v_13, (), rfl, r_v_13.to (by decide), by rw [ht]; exact hw.2.1, va_K.moved hW.alike hK, hw.2.2.1⟩, hw.2.2.2.1.F ht⟩) hw.2.2.2.1.2.2 dX10_wordOf_315
    · refine lv_tableIn (tgt := 316) (off := 315) hx hb dX10_wordOf_1 (by omega) (by omega) (by rw [h_1]; rfl) (by decide) ?_
      have r_p0 : RI p0 12 12 := ⟨by omega, by omega⟩
      refine lv_bipush (v := 103) hx hb dX10_wordOf_316 (by decide) ?_
      refine lv_bipush (v := 117) hx hb dX10_wordOf_318 (by decide) ?_
      refine lv_bipush (v := 101) hx hb dX10_wordOf_320 (by decide) ?_
      refine lv_bipush (v := 115) hx hb dX10_wordOf_322 (by decide) ?_
      refine lv_bipush (v := 115) hx hb dX10_wordOf_324 (by decide) ?_
      refine lv_bipush (v := 101) hx hb dX10_wordOf_326 (by decide) ?_
      refine lv_bipush (v := 115) hx hb dX10_wordOf_328 (by decide) ?_
      refine tk_lr (va_runS (As := [.int 103, .int 117, .int 101, .int 115, .int 115, .int 101, .int 115]) (rest := []) ⟨hx, hb, hml, hown, hts⟩ (c_X10_spelt__13 l D cy z s.heap.size Ps w0 hw.1 103 117 101 115 115 101 115 rl_103 rl_117 rl_101 rl_115 rl_115 rl_101 rl_115) (va_cwS 7 hts (gS tw_1325 tw_1326 tw_15 tw_1327) rfl rfl rfl (by decide +kernel) ⟨Nat.le_of_ble_eq_true rfl, Nat.le_of_ble_eq_true rfl⟩) (tg_preS hw hK hSD hA) rfl rfl hl.1 rfl (lv_room (Nat.le_of_ble_eq_true rfl)) dX10_wordOf_330 ⟨Nat.le_of_ble_eq_true rfl, Nat.le_of_ble_eq_true rfl⟩) hw hA (fun v_14  H locs hp_v_14 hw => ?_)
      have r_v_14 : RJ v_14 3016315657 3016315657 := hp_v_14
      subst hQ
      exact W.lret (v := v_14) hx hb hr (fun t ht hW => ⟨⟨v_14, (), rfl, r_v_14.to (by decide), by rw [ht]; exact hw.2.1, va_K.moved hW.alike hK, hw.2.2.1⟩, hw.2.2.2.1.F ht⟩) hw.2.2.2.1.2.2 dX10_wordOf_333
    · refine lv_tableIn (tgt := 334) (off := 333) hx hb dX10_wordOf_1 (by omega) (by omega) (by rw [h_1]; rfl) (by decide) ?_
      have r_p0 : RI p0 13 13 := ⟨by omega, by omega⟩
      refine lv_bipush (v := 111) hx hb dX10_wordOf_334 (by decide) ?_
      refine lv_bipush (v := 112) hx hb dX10_wordOf_336 (by decide) ?_
      refine lv_bipush (v := 101) hx hb dX10_wordOf_338 (by decide) ?_
      refine lv_bipush (v := 110) hx hb dX10_wordOf_340 (by decide) ?_
      refine lv_iconst (v := 0) hx hb dX10_wordOf_342 (by decide) ?_
      refine lv_iconst (v := 0) hx hb dX10_wordOf_343 (by decide) ?_
      refine lv_iconst (v := 0) hx hb dX10_wordOf_344 (by decide) ?_
      refine tk_lr (va_runS (As := [.int 111, .int 112, .int 101, .int 110, .int 0, .int 0, .int 0]) (rest := []) ⟨hx, hb, hml, hown, hts⟩ (c_X10_spelt__14 l D cy z s.heap.size Ps w0 hw.1 111 112 101 110 0 0 0 rl_111 rl_112 rl_101 rl_110 rl_0 rl_0 rl_0) (va_cwS 7 hts (gS tw_1325 tw_1326 tw_15 tw_1327) rfl rfl rfl (by decide +kernel) ⟨Nat.le_of_ble_eq_true rfl, Nat.le_of_ble_eq_true rfl⟩) (tg_preS hw hK hSD hA) rfl rfl hl.1 rfl (lv_room (Nat.le_of_ble_eq_true rfl)) dX10_wordOf_345 ⟨Nat.le_of_ble_eq_true rfl, Nat.le_of_ble_eq_true rfl⟩) hw hA (fun v_15  H locs hp_v_15 hw => ?_)
      have r_v_15 : RJ v_15 307058 307058 := hp_v_15
      subst hQ
      exact W.lret (v := v_15) hx hb hr (fun t ht hW => ⟨⟨v_15, (), rfl, r_v_15.to (by decide), by rw [ht]; exact hw.2.1, va_K.moved hW.alike hK, hw.2.2.1⟩, hw.2.2.2.1.F ht⟩) hw.2.2.2.1.2.2 dX10_wordOf_348
    · refine lv_tableIn (tgt := 349) (off := 348) hx hb dX10_wordOf_1 (by omega) (by omega) (by rw [h_1]; rfl) (by decide) ?_
      have r_p0 : RI p0 14 14 := ⟨by omega, by omega⟩
      refine lv_bipush (v := 99) hx hb dX10_wordOf_349 (by decide) ?_
      refine lv_bipush (v := 97) hx hb dX10_wordOf_351 (by decide) ?_
      refine lv_bipush (v := 114) hx hb dX10_wordOf_353 (by decide) ?_
      refine lv_bipush (v := 114) hx hb dX10_wordOf_355 (by decide) ?_
      refine lv_bipush (v := 121) hx hb dX10_wordOf_357 (by decide) ?_
      refine lv_iconst (v := 0) hx hb dX10_wordOf_359 (by decide) ?_
      refine lv_iconst (v := 0) hx hb dX10_wordOf_360 (by decide) ?_
      refine tk_lr (va_runS (As := [.int 99, .int 97, .int 114, .int 114, .int 121, .int 0, .int 0]) (rest := []) ⟨hx, hb, hml, hown, hts⟩ (c_X10_spelt__15 l D cy z s.heap.size Ps w0 hw.1 99 97 114 114 121 0 0 rl_99 rl_97 rl_114 rl_114 rl_121 rl_0 rl_0) (va_cwS 7 hts (gS tw_1325 tw_1326 tw_15 tw_1327) rfl rfl rfl (by decide +kernel) ⟨Nat.le_of_ble_eq_true rfl, Nat.le_of_ble_eq_true rfl⟩) (tg_preS hw hK hSD hA) rfl rfl hl.1 rfl (lv_room (Nat.le_of_ble_eq_true rfl)) dX10_wordOf_361 ⟨Nat.le_of_ble_eq_true rfl, Nat.le_of_ble_eq_true rfl⟩) hw hA (fun v_16  H locs hp_v_16 hw => ?_)
      have r_v_16 : RJ v_16 1627639 1627639 := hp_v_16
      subst hQ
      exact W.lret (v := v_16) hx hb hr (fun t ht hW => ⟨⟨v_16, (), rfl, r_v_16.to (by decide), by rw [ht]; exact hw.2.1, va_K.moved hW.alike hK, hw.2.2.1⟩, hw.2.2.2.1.F ht⟩) hw.2.2.2.1.2.2 dX10_wordOf_364
    · refine lv_tableIn (tgt := 365) (off := 364) hx hb dX10_wordOf_1 (by omega) (by omega) (by rw [h_1]; rfl) (by decide) ?_
      have r_p0 : RI p0 15 15 := ⟨by omega, by omega⟩
      refine lv_bipush (v := 100) hx hb dX10_wordOf_365 (by decide) ?_
      refine lv_bipush (v := 97) hx hb dX10_wordOf_367 (by decide) ?_
      refine lv_bipush (v := 121) hx hb dX10_wordOf_369 (by decide) ?_
      refine lv_iconst (v := 0) hx hb dX10_wordOf_371 (by decide) ?_
      refine lv_iconst (v := 0) hx hb dX10_wordOf_372 (by decide) ?_
      refine lv_iconst (v := 0) hx hb dX10_wordOf_373 (by decide) ?_
      refine lv_iconst (v := 0) hx hb dX10_wordOf_374 (by decide) ?_
      refine tk_lr (va_runS (As := [.int 100, .int 97, .int 121, .int 0, .int 0, .int 0, .int 0]) (rest := []) ⟨hx, hb, hml, hown, hts⟩ (c_X10_spelt__16 l D cy z s.heap.size Ps w0 hw.1 100 97 121 0 0 0 0 rl_100 rl_97 rl_121 rl_0 rl_0 rl_0 rl_0) (va_cwS 7 hts (gS tw_1325 tw_1326 tw_15 tw_1327) rfl rfl rfl (by decide +kernel) ⟨Nat.le_of_ble_eq_true rfl, Nat.le_of_ble_eq_true rfl⟩) (tg_preS hw hK hSD hA) rfl rfl hl.1 rfl (lv_room (Nat.le_of_ble_eq_true rfl)) dX10_wordOf_375 ⟨Nat.le_of_ble_eq_true rfl, Nat.le_of_ble_eq_true rfl⟩) hw hA (fun v_17  H locs hp_v_17 hw => ?_)
      have r_v_17 : RJ v_17 2968 2968 := hp_v_17
      subst hQ
      exact W.lret (v := v_17) hx hb hr (fun t ht hW => ⟨⟨v_17, (), rfl, r_v_17.to (by decide), by rw [ht]; exact hw.2.1, va_K.moved hW.alike hK, hw.2.2.1⟩, hw.2.2.2.1.F ht⟩) hw.2.2.2.1.2.2 dX10_wordOf_378
    · refine lv_tableIn (tgt := 379) (off := 378) hx hb dX10_wordOf_1 (by omega) (by omega) (by rw [h_1]; rfl) (by decide) ?_
      have r_p0 : RI p0 16 16 := ⟨by omega, by omega⟩
      refine lv_bipush (v := 111) hx hb dX10_wordOf_379 (by decide) ?_
      refine lv_bipush (v := 114) hx hb dX10_wordOf_381 (by decide) ?_
      refine lv_iconst (v := 0) hx hb dX10_wordOf_383 (by decide) ?_
      refine lv_iconst (v := 0) hx hb dX10_wordOf_384 (by decide) ?_
      refine lv_iconst (v := 0) hx hb dX10_wordOf_385 (by decide) ?_
      refine lv_iconst (v := 0) hx hb dX10_wordOf_386 (by decide) ?_
      refine lv_iconst (v := 0) hx hb dX10_wordOf_387 (by decide) ?_
      refine tk_lr (va_runS (As := [.int 111, .int 114, .int 0, .int 0, .int 0, .int 0, .int 0]) (rest := []) ⟨hx, hb, hml, hown, hts⟩ (c_X10_spelt__17 l D cy z s.heap.size Ps w0 hw.1 111 114 0 0 0 0 0 rl_111 rl_114 rl_0 rl_0 rl_0 rl_0 rl_0) (va_cwS 7 hts (gS tw_1325 tw_1326 tw_15 tw_1327) rfl rfl rfl (by decide +kernel) ⟨Nat.le_of_ble_eq_true rfl, Nat.le_of_ble_eq_true rfl⟩) (tg_preS hw hK hSD hA) rfl rfl hl.1 rfl (lv_room (Nat.le_of_ble_eq_true rfl)) dX10_wordOf_388 ⟨Nat.le_of_ble_eq_true rfl, Nat.le_of_ble_eq_true rfl⟩) hw hA (fun v_18  H locs hp_v_18 hw => ?_)
      have r_v_18 : RJ v_18 423 423 := hp_v_18
      subst hQ
      exact W.lret (v := v_18) hx hb hr (fun t ht hW => ⟨⟨v_18, (), rfl, r_v_18.to (by decide), by rw [ht]; exact hw.2.1, va_K.moved hW.alike hK, hw.2.2.1⟩, hw.2.2.2.1.F ht⟩) hw.2.2.2.1.2.2 dX10_wordOf_391
    · refine lv_tableIn (tgt := 392) (off := 391) hx hb dX10_wordOf_1 (by omega) (by omega) (by rw [h_1]; rfl) (by decide) ?_
      have r_p0 : RI p0 17 17 := ⟨by omega, by omega⟩
      refine lv_bipush (v := 97) hx hb dX10_wordOf_392 (by decide) ?_
      refine lv_bipush (v := 110) hx hb dX10_wordOf_394 (by decide) ?_
      refine lv_bipush (v := 100) hx hb dX10_wordOf_396 (by decide) ?_
      refine lv_iconst (v := 0) hx hb dX10_wordOf_398 (by decide) ?_
      refine lv_iconst (v := 0) hx hb dX10_wordOf_399 (by decide) ?_
      refine lv_iconst (v := 0) hx hb dX10_wordOf_400 (by decide) ?_
      refine lv_iconst (v := 0) hx hb dX10_wordOf_401 (by decide) ?_
      refine tk_lr (va_runS (As := [.int 97, .int 110, .int 100, .int 0, .int 0, .int 0, .int 0]) (rest := []) ⟨hx, hb, hml, hown, hts⟩ (c_X10_spelt__18 l D cy z s.heap.size Ps w0 hw.1 97 110 100 0 0 0 0 rl_97 rl_110 rl_100 rl_0 rl_0 rl_0 rl_0) (va_cwS 7 hts (gS tw_1325 tw_1326 tw_15 tw_1327) rfl rfl rfl (by decide +kernel) ⟨Nat.le_of_ble_eq_true rfl, Nat.le_of_ble_eq_true rfl⟩) (tg_preS hw hK hSD hA) rfl rfl hl.1 rfl (lv_room (Nat.le_of_ble_eq_true rfl)) dX10_wordOf_402 ⟨Nat.le_of_ble_eq_true rfl, Nat.le_of_ble_eq_true rfl⟩) hw hA (fun v_19  H locs hp_v_19 hw => ?_)
      have r_v_19 : RJ v_19 1111 1111 := hp_v_19
      subst hQ
      exact W.lret (v := v_19) hx hb hr (fun t ht hW => ⟨⟨v_19, (), rfl, r_v_19.to (by decide), by rw [ht]; exact hw.2.1, va_K.moved hW.alike hK, hw.2.2.1⟩, hw.2.2.2.1.F ht⟩) hw.2.2.2.1.2.2 dX10_wordOf_405
    · refine lv_tableIn (tgt := 406) (off := 405) hx hb dX10_wordOf_1 (by omega) (by omega) (by rw [h_1]; rfl) (by decide) ?_
      have r_p0 : RI p0 18 18 := ⟨by omega, by omega⟩
      refine lv_bipush (v := 110) hx hb dX10_wordOf_406 (by decide) ?_
      refine lv_bipush (v := 111) hx hb dX10_wordOf_408 (by decide) ?_
      refine lv_bipush (v := 116) hx hb dX10_wordOf_410 (by decide) ?_
      refine lv_iconst (v := 0) hx hb dX10_wordOf_412 (by decide) ?_
      refine lv_iconst (v := 0) hx hb dX10_wordOf_413 (by decide) ?_
      refine lv_iconst (v := 0) hx hb dX10_wordOf_414 (by decide) ?_
      refine lv_iconst (v := 0) hx hb dX10_wordOf_415 (by decide) ?_
      refine tk_lr (va_runS (As := [.int 110, .int 111, .int 116, .int 0, .int 0, .int 0, .int 0]) (rest := []) ⟨hx, hb, hml, hown, hts⟩ (c_X10_spelt__19 l D cy z s.heap.size Ps w0 hw.1 110 111 116 0 0 0 0 rl_110 rl_111 rl_116 rl_0 rl_0 rl_0 rl_0) (va_cwS 7 hts (gS tw_1325 tw_1326 tw_15 tw_1327) rfl rfl rfl (by decide +kernel) ⟨Nat.le_of_ble_eq_true rfl, Nat.le_of_ble_eq_true rfl⟩) (tg_preS hw hK hSD hA) rfl rfl hl.1 rfl (lv_room (Nat.le_of_ble_eq_true rfl)) dX10_wordOf_416 ⟨Nat.le_of_ble_eq_true rfl, Nat.le_of_ble_eq_true rfl⟩) hw hA (fun v_20  H locs hp_v_20 hw => ?_)
      have r_v_20 : RJ v_20 10631 10631 := hp_v_20
      subst hQ
      exact W.lret (v := v_20) hx hb hr (fun t ht hW => ⟨⟨v_20, (), rfl, r_v_20.to (by decide), by rw [ht]; exact hw.2.1, va_K.moved hW.alike hK, hw.2.2.1⟩, hw.2.2.2.1.F ht⟩) hw.2.2.2.1.2.2 dX10_wordOf_419
    · refine lv_tableIn (tgt := 420) (off := 419) hx hb dX10_wordOf_1 (by omega) (by omega) (by rw [h_1]; rfl) (by decide) ?_
      have r_p0 : RI p0 19 19 := ⟨by omega, by omega⟩
      refine lv_bipush (v := 111) hx hb dX10_wordOf_420 (by decide) ?_
      refine lv_bipush (v := 112) hx hb dX10_wordOf_422 (by decide) ?_
      refine lv_bipush (v := 101) hx hb dX10_wordOf_424 (by decide) ?_
      refine lv_bipush (v := 110) hx hb dX10_wordOf_426 (by decide) ?_
      refine lv_bipush (v := 101) hx hb dX10_wordOf_428 (by decide) ?_
      refine lv_bipush (v := 100) hx hb dX10_wordOf_430 (by decide) ?_
      refine lv_iconst (v := 0) hx hb dX10_wordOf_432 (by decide) ?_
      refine tk_lr (va_runS (As := [.int 111, .int 112, .int 101, .int 110, .int 101, .int 100, .int 0]) (rest := []) ⟨hx, hb, hml, hown, hts⟩ (c_X10_spelt__20 l D cy z s.heap.size Ps w0 hw.1 111 112 101 110 101 100 0 rl_111 rl_112 rl_101 rl_110 rl_101 rl_100 rl_0) (va_cwS 7 hts (gS tw_1325 tw_1326 tw_15 tw_1327) rfl rfl rfl (by decide +kernel) ⟨Nat.le_of_ble_eq_true rfl, Nat.le_of_ble_eq_true rfl⟩) (tg_preS hw hK hSD hA) rfl rfl hl.1 rfl (lv_room (Nat.le_of_ble_eq_true rfl)) dX10_wordOf_433 ⟨Nat.le_of_ble_eq_true rfl, Nat.le_of_ble_eq_true rfl⟩) hw hA (fun v_21  H locs hp_v_21 hw => ?_)
      have r_v_21 : RJ v_21 223845421 223845421 := hp_v_21
      subst hQ
      exact W.lret (v := v_21) hx hb hr (fun t ht hW => ⟨⟨v_21, (), rfl, r_v_21.to (by decide), by rw [ht]; exact hw.2.1, va_K.moved hW.alike hK, hw.2.2.1⟩, hw.2.2.2.1.F ht⟩) hw.2.2.2.1.2.2 dX10_wordOf_436
    · refine lv_tableIn (tgt := 437) (off := 436) hx hb dX10_wordOf_1 (by omega) (by omega) (by rw [h_1]; rfl) (by decide) ?_
      have r_p0 : RI p0 20 20 := ⟨by omega, by omega⟩
      refine lv_bipush (v := 110) hx hb dX10_wordOf_437 (by decide) ?_
      refine lv_bipush (v := 111) hx hb dX10_wordOf_439 (by decide) ?_
      refine lv_bipush (v := 116) hx hb dX10_wordOf_441 (by decide) ?_
      refine lv_bipush (v := 104) hx hb dX10_wordOf_443 (by decide) ?_
      refine lv_bipush (v := 105) hx hb dX10_wordOf_445 (by decide) ?_
      refine lv_bipush (v := 110) hx hb dX10_wordOf_447 (by decide) ?_
      refine lv_bipush (v := 103) hx hb dX10_wordOf_449 (by decide) ?_
      refine tk_lr (va_runS (As := [.int 110, .int 111, .int 116, .int 104, .int 105, .int 110, .int 103]) (rest := []) ⟨hx, hb, hml, hown, hts⟩ (c_X10_spelt__21 l D cy z s.heap.size Ps w0 hw.1 110 111 116 104 105 110 103 rl_110 rl_111 rl_116 rl_104 rl_105 rl_110 rl_103) (va_cwS 7 hts (gS tw_1325 tw_1326 tw_15 tw_1327) rfl rfl rfl (by decide +kernel) ⟨Nat.le_of_ble_eq_true rfl, Nat.le_of_ble_eq_true rfl⟩) (tg_preS hw hK hSD hA) rfl rfl hl.1 rfl (lv_room (Nat.le_of_ble_eq_true rfl)) dX10_wordOf_451 ⟨Nat.le_of_ble_eq_true rfl, Nat.le_of_ble_eq_true rfl⟩) hw hA (fun v_22  H locs hp_v_22 hw => ?_)
      have r_v_22 : RJ v_22 5649913681 5649913681 := hp_v_22
      subst hQ
      exact W.lret (v := v_22) hx hb hr (fun t ht hW => ⟨⟨v_22, (), rfl, r_v_22.to (by decide), by rw [ht]; exact hw.2.1, va_K.moved hW.alike hK, hw.2.2.1⟩, hw.2.2.2.1.F ht⟩) hw.2.2.2.1.2.2 dX10_wordOf_454
    · refine lv_tableIn (tgt := 455) (off := 454) hx hb dX10_wordOf_1 (by omega) (by omega) (by rw [h_1]; rfl) (by decide) ?_
      have r_p0 : RI p0 21 21 := ⟨by omega, by omega⟩
      refine lv_bipush (v := 119) hx hb dX10_wordOf_455 (by decide) ?_
      refine lv_bipush (v := 97) hx hb dX10_wordOf_457 (by decide) ?_
      refine lv_bipush (v := 116) hx hb dX10_wordOf_459 (by decide) ?_
      refine lv_bipush (v := 99) hx hb dX10_wordOf_461 (by decide) ?_
      refine lv_bipush (v := 104) hx hb dX10_wordOf_463 (by decide) ?_
      refine lv_bipush (v := 101) hx hb dX10_wordOf_465 (by decide) ?_
      refine lv_bipush (v := 100) hx hb dX10_wordOf_467 (by decide) ?_
      refine tk_lr (va_runS (As := [.int 119, .int 97, .int 116, .int 99, .int 104, .int 101, .int 100]) (rest := []) ⟨hx, hb, hml, hown, hts⟩ (c_X10_spelt__22 l D cy z s.heap.size Ps w0 hw.1 119 97 116 99 104 101 100 rl_119 rl_97 rl_116 rl_99 rl_104 rl_101 rl_100) (va_cwS 7 hts (gS tw_1325 tw_1326 tw_15 tw_1327) rfl rfl rfl (by decide +kernel) ⟨Nat.le_of_ble_eq_true rfl, Nat.le_of_ble_eq_true rfl⟩) (tg_preS hw hK hSD hA) rfl rfl hl.1 rfl (lv_room (Nat.le_of_ble_eq_true rfl)) dX10_wordOf_469 ⟨Nat.le_of_ble_eq_true rfl, Nat.le_of_ble_eq_true rfl⟩) hw hA (fun v_23  H locs hp_v_23 hw => ?_)
      have r_v_23 : RJ v_23 8935713994 8935713994 := hp_v_23
      subst hQ
      exact W.lret (v := v_23) hx hb hr (fun t ht hW => ⟨⟨v_23, (), rfl, r_v_23.to (by decide), by rw [ht]; exact hw.2.1, va_K.moved hW.alike hK, hw.2.2.1⟩, hw.2.2.2.1.F ht⟩) hw.2.2.2.1.2.2 dX10_wordOf_472
    · refine lv_tableIn (tgt := 473) (off := 472) hx hb dX10_wordOf_1 (by omega) (by omega) (by rw [h_1]; rfl) (by decide) ?_
      have r_p0 : RI p0 22 22 := ⟨by omega, by omega⟩
      refine lv_bipush (v := 105) hx hb dX10_wordOf_473 (by decide) ?_
      refine lv_bipush (v := 115) hx hb dX10_wordOf_475 (by decide) ?_
      refine lv_iconst (v := 0) hx hb dX10_wordOf_477 (by decide) ?_
      refine lv_iconst (v := 0) hx hb dX10_wordOf_478 (by decide) ?_
      refine lv_iconst (v := 0) hx hb dX10_wordOf_479 (by decide) ?_
      refine lv_iconst (v := 0) hx hb dX10_wordOf_480 (by decide) ?_
      refine lv_iconst (v := 0) hx hb dX10_wordOf_481 (by decide) ?_
      refine tk_lr (va_runS (As := [.int 105, .int 115, .int 0, .int 0, .int 0, .int 0, .int 0]) (rest := []) ⟨hx, hb, hml, hown, hts⟩ (c_X10_spelt__23 l D cy z s.heap.size Ps w0 hw.1 105 115 0 0 0 0 0 rl_105 rl_115 rl_0 rl_0 rl_0 rl_0 rl_0) (va_cwS 7 hts (gS tw_1325 tw_1326 tw_15 tw_1327) rfl rfl rfl (by decide +kernel) ⟨Nat.le_of_ble_eq_true rfl, Nat.le_of_ble_eq_true rfl⟩) (tg_preS hw hK hSD hA) rfl rfl hl.1 rfl (lv_room (Nat.le_of_ble_eq_true rfl)) dX10_wordOf_482 ⟨Nat.le_of_ble_eq_true rfl, Nat.le_of_ble_eq_true rfl⟩) hw hA (fun v_24  H locs hp_v_24 hw => ?_)
      have r_v_24 : RJ v_24 262 262 := hp_v_24
      subst hQ
      exact W.lret (v := v_24) hx hb hr (fun t ht hW => ⟨⟨v_24, (), rfl, r_v_24.to (by decide), by rw [ht]; exact hw.2.1, va_K.moved hW.alike hK, hw.2.2.1⟩, hw.2.2.2.1.F ht⟩) hw.2.2.2.1.2.2 dX10_wordOf_485
    · refine lv_tableIn (tgt := 486) (off := 485) hx hb dX10_wordOf_1 (by omega) (by omega) (by rw [h_1]; rfl) (by decide) ?_
      have r_p0 : RI p0 23 23 := ⟨by omega, by omega⟩
      refine lv_bipush (v := 105) hx hb dX10_wordOf_486 (by decide) ?_
      refine lv_bipush (v := 110) hx hb dX10_wordOf_488 (by decide) ?_
      refine lv_iconst (v := 0) hx hb dX10_wordOf_490 (by decide) ?_
      refine lv_iconst (v := 0) hx hb dX10_wordOf_491 (by decide) ?_
      refine lv_iconst (v := 0) hx hb dX10_wordOf_492 (by decide) ?_
      refine lv_iconst (v := 0) hx hb dX10_wordOf_493 (by decide) ?_
      refine lv_iconst (v := 0) hx hb dX10_wordOf_494 (by decide) ?_
      refine tk_lr (va_runS (As := [.int 105, .int 110, .int 0, .int 0, .int 0, .int 0, .int 0]) (rest := []) ⟨hx, hb, hml, hown, hts⟩ (c_X10_spelt__24 l D cy z s.heap.size Ps w0 hw.1 105 110 0 0 0 0 0 rl_105 rl_110 rl_0 rl_0 rl_0 rl_0 rl_0) (va_cwS 7 hts (gS tw_1325 tw_1326 tw_15 tw_1327) rfl rfl rfl (by decide +kernel) ⟨Nat.le_of_ble_eq_true rfl, Nat.le_of_ble_eq_true rfl⟩) (tg_preS hw hK hSD hA) rfl rfl hl.1 rfl (lv_room (Nat.le_of_ble_eq_true rfl)) dX10_wordOf_495 ⟨Nat.le_of_ble_eq_true rfl, Nat.le_of_ble_eq_true rfl⟩) hw hA (fun v_25  H locs hp_v_25 hw => ?_)
      have r_v_25 : RJ v_25 257 257 := hp_v_25
      subst hQ
      exact W.lret (v := v_25) hx hb hr (fun t ht hW => ⟨⟨v_25, (), rfl, r_v_25.to (by decide), by rw [ht]; exact hw.2.1, va_K.moved hW.alike hK, hw.2.2.1⟩, hw.2.2.2.1.F ht⟩) hw.2.2.2.1.2.2 dX10_wordOf_498
    · refine lv_tableIn (tgt := 499) (off := 498) hx hb dX10_wordOf_1 (by omega) (by omega) (by rw [h_1]; rfl) (by decide) ?_
      have r_p0 : RI p0 24 24 := ⟨by omega, by omega⟩
      refine lv_bipush (v := 115) hx hb dX10_wordOf_499 (by decide) ?_
      refine lv_bipush (v := 105) hx hb dX10_wordOf_501 (by decide) ?_
      refine lv_bipush (v := 122) hx hb dX10_wordOf_503 (by decide) ?_
      refine lv_bipush (v := 101) hx hb dX10_wordOf_505 (by decide) ?_
      refine lv_iconst (v := 0) hx hb dX10_wordOf_507 (by decide) ?_
      refine lv_iconst (v := 0) hx hb dX10_wordOf_508 (by decide) ?_
      refine lv_iconst (v := 0) hx hb dX10_wordOf_509 (by decide) ?_
      refine tk_lr (va_runS (As := [.int 115, .int 105, .int 122, .int 101, .int 0, .int 0, .int 0]) (rest := []) ⟨hx, hb, hml, hown, hts⟩ (c_X10_spelt__25 l D cy z s.heap.size Ps w0 hw.1 115 105 122 101 0 0 0 rl_115 rl_105 rl_122 rl_101 rl_0 rl_0 rl_0) (va_cwS 7 hts (gS tw_1325 tw_1326 tw_15 tw_1327) rfl rfl rfl (by decide +kernel) ⟨Nat.le_of_ble_eq_true rfl, Nat.le_of_ble_eq_true rfl⟩) (tg_preS hw hK hSD hA) rfl rfl hl.1 rfl (lv_room (Nat.le_of_ble_eq_true rfl)) dX10_wordOf_510 ⟨Nat.le_of_ble_eq_true rfl, Nat.le_of_ble_eq_true rfl⟩) hw hA (fun v_26  H locs hp_v_26 hw => ?_)
      have r_v_26 : RJ v_26 381245 381245 := hp_v_26
      subst hQ
      exact W.lret (v := v_26) hx hb hr (fun t ht hW => ⟨⟨v_26, (), rfl, r_v_26.to (by decide), by rw [ht]; exact hw.2.1, va_K.moved hW.alike hK, hw.2.2.1⟩, hw.2.2.2.1.F ht⟩) hw.2.2.2.1.2.2 dX10_wordOf_513
    · refine lv_tableIn (tgt := 514) (off := 513) hx hb dX10_wordOf_1 (by omega) (by omega) (by rw [h_1]; rfl) (by decide) ?_
      have r_p0 : RI p0 25 25 := ⟨by omega, by omega⟩
      refine lv_bipush (v := 98) hx hb dX10_wordOf_514 (by decide) ?_
      refine lv_bipush (v := 117) hx hb dX10_wordOf_516 (by decide) ?_
      refine lv_bipush (v := 108) hx hb dX10_wordOf_518 (by decide) ?_
      refine lv_bipush (v := 103) hx hb dX10_wordOf_520 (by decide) ?_
      refine lv_bipush (v := 101) hx hb dX10_wordOf_522 (by decide) ?_
      refine lv_iconst (v := 0) hx hb dX10_wordOf_524 (by decide) ?_
      refine lv_iconst (v := 0) hx hb dX10_wordOf_525 (by decide) ?_
      refine tk_lr (va_runS (As := [.int 98, .int 117, .int 108, .int 103, .int 101, .int 0, .int 0]) (rest := []) ⟨hx, hb, hml, hown, hts⟩ (c_X10_spelt__26 l D cy z s.heap.size Ps w0 hw.1 98 117 108 103 101 0 0 rl_98 rl_117 rl_108 rl_103 rl_101 rl_0 rl_0) (va_cwS 7 hts (gS tw_1325 tw_1326 tw_15 tw_1327) rfl rfl rfl (by decide +kernel) ⟨Nat.le_of_ble_eq_true rfl, Nat.le_of_ble_eq_true rfl⟩) (tg_preS hw hK hSD hA) rfl rfl hl.1 rfl (lv_room (Nat.le_of_ble_eq_true rfl)) dX10_wordOf_526 ⟨Nat.le_of_ble_eq_true rfl, Nat.le_of_ble_eq_true rfl⟩) hw hA (fun v_27  H locs hp_v_27 hw => ?_)
      have r_v_27 : RJ v_27 1485167 1485167 := hp_v_27
      subst hQ
      exact W.lret (v := v_27) hx hb hr (fun t ht hW => ⟨⟨v_27, (), rfl, r_v_27.to (by decide), by rw [ht]; exact hw.2.1, va_K.moved hW.alike hK, hw.2.2.1⟩, hw.2.2.2.1.F ht⟩) hw.2.2.2.1.2.2 dX10_wordOf_529
    · refine lv_tableIn (tgt := 530) (off := 529) hx hb dX10_wordOf_1 (by omega) (by omega) (by rw [h_1]; rfl) (by decide) ?_
      have r_p0 : RI p0 26 26 := ⟨by omega, by omega⟩
      refine lv_bipush (v := 116) hx hb dX10_wordOf_530 (by decide) ?_
      refine lv_bipush (v := 117) hx hb dX10_wordOf_532 (by decide) ?_
      refine lv_bipush (v := 114) hx hb dX10_wordOf_534 (by decide) ?_
      refine lv_bipush (v := 110) hx hb dX10_wordOf_536 (by decide) ?_
      refine lv_bipush (v := 101) hx hb dX10_wordOf_538 (by decide) ?_
      refine lv_bipush (v := 100) hx hb dX10_wordOf_540 (by decide) ?_
      refine lv_iconst (v := 0) hx hb dX10_wordOf_542 (by decide) ?_
      refine tk_lr (va_runS (As := [.int 116, .int 117, .int 114, .int 110, .int 101, .int 100, .int 0]) (rest := []) ⟨hx, hb, hml, hown, hts⟩ (c_X10_spelt__27 l D cy z s.heap.size Ps w0 hw.1 116 117 114 110 101 100 0 rl_116 rl_117 rl_114 rl_110 rl_101 rl_100 rl_0) (va_cwS 7 hts (gS tw_1325 tw_1326 tw_15 tw_1327) rfl rfl rfl (by decide +kernel) ⟨Nat.le_of_ble_eq_true rfl, Nat.le_of_ble_eq_true rfl⟩) (tg_preS hw hK hSD hA) rfl rfl hl.1 rfl (lv_room (Nat.le_of_ble_eq_true rfl)) dX10_wordOf_543 ⟨Nat.le_of_ble_eq_true rfl, Nat.le_of_ble_eq_true rfl⟩) hw hA (fun v_28  H locs hp_v_28 hw => ?_)
      have r_v_28 : RJ v_28 298503040 298503040 := hp_v_28
      subst hQ
      exact W.lret (v := v_28) hx hb hr (fun t ht hW => ⟨⟨v_28, (), rfl, r_v_28.to (by decide), by rw [ht]; exact hw.2.1, va_K.moved hW.alike hK, hw.2.2.1⟩, hw.2.2.2.1.F ht⟩) hw.2.2.2.1.2.2 dX10_wordOf_546
abbrev wr_X10_isWord : List (Nat × Nat) := []
abbrev wa_X10_isWord : List Nat := []
set_option maxHeartbeats 4000000 in
set_option maxRecDepth 100000 in
theorem c_X10_isWord (l : Launch) (D : va_G) (cy : Nat → ClassId) (z : Nat → Nat) (sz : Nat) (Ps : PSI) (w0 : va_W) (hT : HT cy GG Ps w0) (p0 : Nat) (p1 : Int32) (h_p0 : (p0, 55) ∈ Ps) (r_p1 : RI p1 (-2147483648) 2147483647) : Met l yX10_isWord (Cond.code yX10_isWord cX10_isWord 2 (some .boolean) :: gT) ({ frames := 3, cells := 0, slots := 0, locals := 600 } : Room) (va_Pc [.ref p0, .int p1] (PRE D cy z w0 sz)) (va_Qi (fun (r : Int32) (u : Unit) => RI r 0 1 ∧ (r = 0 → True) ∧ (¬ r = 0 → True)) (BB D cy (va_A w0 sz) (fun (u : Unit) => w0)) (va_A w0 sz)) 0 0 (va_A w0 sz) := by
  refine Met.ofW (cc := cX10_isWord) (maxL := 2) (ret := (some .boolean)) (by decide) rfl ?_
  intro p e s m args below meth c s₁ B hml hv
  obtain ⟨rfl, hsz, hP, hK, hD0, hSD⟩ := hv
  have hx := B.exec
  have hb := B.bytes
  have hr := B.returns
  have hlocks := B.notSynchronized
  have hts : ∀ w ∈ gT, w.before _ s = true := fun w h => atoms_spec (ws := Cond.code yX10_isWord cX10_isWord 2 (some .boolean) :: gT) B.pre w (List.mem_cons_of_mem _ h)
  have hown : s.vm.findClass RX10 = some m.cls := findClass_of_methodNamed B.named
  subst hsz
  have hD := hD0.self (sz := s.heap.size)
  generalize hAe : va_A w0 s.heap.size = A at hD hSD ⊢
  have hA : ∀ q : Nat, s.heap.size ≤ q → A q := fun q h => by rw [← hAe]; exact Or.inr h
  have hl := lv_entry ([.ref p0, .int p1]) (n := 2) (Nat.le_of_ble_eq_true rfl)
  rw [lg_entry_eq]
  generalize (lg_sl ([.ref p0, .int p1]) ++ List.replicate (2 - (lg_sl ([.ref p0, .int p1])).length) Slot.unset).toArray = ls at hl ⊢
  have hl : lv_has ls 2 [(0, .ref p0), (1, .int p1)] := hl
  refine nameQ (fun Q hQ => ?_)
  have hw : WD D cy GG A s wr_X10_isWord wa_X10_isWord Ps w0 Ps w0 s.heap [] := ⟨hT, hP, hD, va_S.rf, FR.rf, hT.1, [], (List.append_nil _).symm⟩
  refine lv_aload_n hx hb dX10_isWord_0 rfl (lv_at hl 0 rfl) ?_
  refine tg_get (ci := 10) (ts := ty_MODEL) (C := RX10) (T := TX10) (N := 49) hx hb hts inX10 hown hK hw h_p0 rfl rfl 7 (by decide) (hts _ tw_1144) (fun _ h9 => h9) (ft := vI (-2147483648) 2147483647) rfl dX10_isWord_1 (fun u_1 hv_u_1 m_u_1 => ?_)
  obtain ⟨vu_1, rfl, r_vu_1⟩ := hv_u_1
  refine lv_iconst (v := 2) hx hb dX10_isWord_4 (by decide) ?_
  refine lv_icmp_ne (tgt := 24) hx hb dX10_isWord_5 (by decide) (fun c_5 => ?_) (fun c_5 => ?_)
  · refine lv_iconst (v := 0) hx hb dX10_isWord_24 (by decide) ?_
    subst hQ
    exact W.zret (v := 0) hx hb hr (rfl) (fun t ht hW => ⟨⟨0, (), rfl, ⟨rl_0.to (by decide), (fun h0 => trivial), (fun _ => trivial)⟩, by rw [ht]; exact hw.2.1, va_K.moved hW.alike hK, hw.2.2.1⟩, hw.2.2.2.1.F ht⟩) hw.2.2.2.1.2.2 dX10_isWord_25
  · have r_vu_1 : RI vu_1 2 2 := rc_eq1 r_vu_1 rl_2 (ti_eq c_5) (by decide)
    refine lv_aload_n hx hb dX10_isWord_8 rfl (lv_at hl 0 rfl) ?_
    refine tg_get (ci := 10) (ts := ty_MODEL) (C := RX10) (T := TX10) (N := 49) hx hb hts inX10 hown hK hw h_p0 rfl rfl 12 (by decide) (hts _ tw_1149) (fun _ h9 => h9) (ft := vJ (-9223372036854775808) 9223372036854775807) rfl dX10_isWord_9 (fun u_2 hv_u_2 m_u_2 => ?_)
    obtain ⟨vu_2, rfl, r_vu_2⟩ := hv_u_2
    refine lv_iload_n hx hb dX10_isWord_12 rfl (lv_at hl 1 rfl) ?_
    refine tk_lr (va_runS (As := [.int p1]) (rest := [.long vu_2]) ⟨hx, hb, hml, hown, hts⟩ (c_X10_wordOf__1 l D cy z s.heap.size Ps w0 hw.1 p1 r_p1) (va_cwS 1 hts (gS tw_1322 tw_1323 tw_15 tw_1324) rfl rfl rfl (by decide +kernel) ⟨Nat.le_of_ble_eq_true rfl, Nat.le_of_ble_eq_true rfl⟩) (tg_preS hw hK hSD hA) rfl rfl hl.1 rfl (lv_room (Nat.le_of_ble_eq_true rfl)) dX10_isWord_13 ⟨Nat.le_of_ble_eq_true rfl, Nat.le_of_ble_eq_true rfl⟩) hw hA (fun v_3  H locs hp_v_3 hw => ?_)
    have r_v_3 : RJ v_3 257 8935713994 := hp_v_3
    refine W.lcmp hx hb dX10_isWord_16 (lv_topi (fun v_4 e_v_4 => ?_))
    have r_v_4 := ri_any v_4
    refine lv_if_ne (tgt := 24) hx hb dX10_isWord_17 (by decide) (fun c_17 => ?_) (fun c_17 => ?_)
    · refine lv_iconst (v := 0) hx hb dX10_isWord_24 (by decide) ?_
      subst hQ
      exact W.zret (v := 0) hx hb hr (rfl) (fun t ht hW => ⟨⟨0, (), rfl, ⟨rl_0.to (by decide), (fun h0 => trivial), (fun _ => trivial)⟩, by rw [ht]; exact hw.2.1, va_K.moved hW.alike hK, hw.2.2.1⟩, hw.2.2.2.1.F ht⟩) hw.2.2.2.1.2.2 dX10_isWord_25
    · have r_v_4 : RI v_4 0 0 := rc_eq1 r_v_4 rl_0 (ti_eq c_17) (by decide)
      refine lv_iconst (v := 1) hx hb dX10_isWord_20 (by decide) ?_
      refine lv_goto (tgt := 25) hx hb dX10_isWord_21 (by decide) ?_
      subst hQ
      exact W.zret (v := 1) hx hb hr (rfl) (fun t ht hW => ⟨⟨1, (), rfl, ⟨rl_1.to (by decide), (fun _ => trivial), (fun h0 => trivial)⟩, by rw [ht]; exact hw.2.1, va_K.moved hW.alike hK, hw.2.2.1⟩, hw.2.2.2.1.F ht⟩) hw.2.2.2.1.2.2 dX10_isWord_25
abbrev wr_X10_isIn__6 : List (Nat × Nat) := []
abbrev wa_X10_isIn__6 : List Nat := []
set_option maxHeartbeats 4000000 in
set_option maxRecDepth 100000 in
theorem c_X10_isIn__6 (l : Launch) (D : va_G) (cy : Nat → ClassId) (z : Nat → Nat) (sz : Nat) (Ps : PSI) (w0 : va_W) (hT : HT cy GG Ps w0) (p0 : Int32) (p1 : Int32) (p2 : Int32) (r_p0 : RI p0 (-2147483648) 2147483647) (r_p1 : RI p1 1 1) (r_p2 : RI p2 30 30) : Met l yX10_isIn (Cond.code yX10_isIn cX10_isIn 3 (some .boolean) :: gT) ({ frames := 0, cells := 0, slots := 0, locals := 200 } : Room) (va_Pc [.int p0, .int p1, .int p2] (PRE D cy z w0 sz)) (va_Qi (fun (r : Int32) (u : Unit) => RI r 0 1 ∧ (r = 0 → True) ∧ (¬ r = 0 → RI p0 1 30 ∧ True)) (BB D cy (va_A w0 sz) (fun (u : Unit) => w0)) (va_A w0 sz)) 0 0 (va_A w0 sz) := by
  refine Met.ofW (cc := cX10_isIn) (maxL := 3) (ret := (some .boolean)) (by decide) rfl ?_
  intro p e s m args below meth c s₁ B hml hv
  obtain ⟨rfl, hsz, hP, hK, hD0, hSD⟩ := hv
  have hx := B.exec
  have hb := B.bytes
  have hr := B.returns
  have hlocks := B.notSynchronized
  have hts : ∀ w ∈ gT, w.before _ s = true := fun w h => atoms_spec (ws := Cond.code yX10_isIn cX10_isIn 3 (some .boolean) :: gT) B.pre w (List.mem_cons_of_mem _ h)
  have hown : s.vm.findClass RX10 = some m.cls := findClass_of_methodNamed B.named
  subst hsz
  have hD := hD0.self (sz := s.heap.size)
  generalize hAe : va_A w0 s.heap.size = A at hD hSD ⊢
  have hA : ∀ q : Nat, s.heap.size ≤ q → A q := fun q h => by rw [← hAe]; exact Or.inr h
  have hl := lv_entry ([.int p0, .int p1, .int p2]) (n := 3) (Nat.le_of_ble_eq_true rfl)
  rw [lg_entry_eq]
  generalize (lg_sl ([.int p0, .int p1, .int p2]) ++ List.replicate (3 - (lg_sl ([.int p0, .int p1, .int p2])).length) Slot.unset).toArray = ls at hl ⊢
  have hl : lv_has ls 3 [(0, .int p0), (1, .int p1), (2, .int p2)] := hl
  refine nameQ (fun Q hQ => ?_)
  have hw : WD D cy GG A s wr_X10_isIn__6 wa_X10_isIn__6 Ps w0 Ps w0 s.heap [] := ⟨hT, hP, hD, va_S.rf, FR.rf, hT.1, [], (List.append_nil _).symm⟩
  refine lv_iload_n hx hb dX10_isIn_0 rfl (lv_at hl 0 rfl) ?_
  refine lv_iload_n hx hb dX10_isIn_1 rfl (lv_at hl 1 rfl) ?_
  refine lv_icmp_lt (tgt := 14) hx hb dX10_isIn_2 (by decide) (fun c_2 => ?_) (fun c_2 => ?_)
  · have r_p0 : RI p0 (-2147483648) 0 := rc_lt1 r_p0 r_p1 (ti_lt c_2) (by decide)
    refine lv_iconst (v := 0) hx hb dX10_isIn_14 (by decide) ?_
    subst hQ
    exact W.zret (v := 0) hx hb hr (rfl) (fun t ht hW => ⟨⟨0, (), rfl, ⟨rl_0.to (by decide), (fun h0 => trivial), (fun h0 => absurd rfl h0)⟩, by rw [ht]; exact hw.2.1, va_K.moved hW.alike hK, hw.2.2.1⟩, hw.2.2.2.1.F ht⟩) hw.2.2.2.1.2.2 dX10_isIn_15
  · have r_p0 : RI p0 1 2147483647 := rc_le2 r_p1 r_p0 (ti_nlt c_2) (by decide)
    refine lv_iload_n hx hb dX10_isIn_5 rfl (lv_at hl 0 rfl) ?_
    refine lv_iload_n hx hb dX10_isIn_6 rfl (lv_at hl 2 rfl) ?_
    refine lv_icmp_gt (tgt := 14) hx hb dX10_isIn_7 (by decide) (fun c_7 => ?_) (fun c_7 => ?_)
    · have r_p0 : RI p0 31 2147483647 := rc_lt2 r_p2 r_p0 (ti_lt c_7) (by decide)
      refine lv_iconst (v := 0) hx hb dX10_isIn_14 (by decide) ?_
      subst hQ
      exact W.zret (v := 0) hx hb hr (rfl) (fun t ht hW => ⟨⟨0, (), rfl, ⟨rl_0.to (by decide), (fun h0 => trivial), (fun h0 => absurd rfl h0)⟩, by rw [ht]; exact hw.2.1, va_K.moved hW.alike hK, hw.2.2.1⟩, hw.2.2.2.1.F ht⟩) hw.2.2.2.1.2.2 dX10_isIn_15
    · have r_p0 : RI p0 1 30 := rc_le1 r_p0 r_p2 (ti_nlt c_7) (by decide)
      refine lv_iconst (v := 1) hx hb dX10_isIn_10 (by decide) ?_
      refine lv_goto (tgt := 15) hx hb dX10_isIn_11 (by decide) ?_
      subst hQ
      exact W.zret (v := 1) hx hb hr (rfl) (fun t ht hW => ⟨⟨1, (), rfl, ⟨rl_1.to (by decide), (fun _ => trivial), (fun h0 => ⟨r_p0, trivial⟩)⟩, by rw [ht]; exact hw.2.1, va_K.moved hW.alike hK, hw.2.2.1⟩, hw.2.2.2.1.F ht⟩) hw.2.2.2.1.2.2 dX10_isIn_15
abbrev wr_X10_odds : List (Nat × Nat) := [(10, 0), (10, 39)]
abbrev wa_X10_odds : List Nat := [34, 38, 46]
set_option maxHeartbeats 4000000 in
set_option maxRecDepth 100000 in
theorem c_X10_odds (l : Launch) (D : va_G) (cy : Nat → ClassId) (z : Nat → Nat) (sz : Nat) (Ps : PSI) (w0 : va_W) (hT : HT cy GG Ps w0) (p0 : Nat) (p1 : Int32) (p2 : Int32) (p3 : Int32) (p4 : Int32) (h_p0 : (p0, 55) ∈ Ps) (r_p1 : RI p1 (-2147483648) 2147483647) (r_p2 : RI p2 (-2147483648) 2147483647) (r_p3 : RI p3 (-2147483648) 2147483647) (r_p4 : RI p4 (-2147483648) 2147483647) : Met l yX10_odds (Cond.code yX10_odds cX10_odds 7 (some .int) :: gT) ({ frames := 6, cells := 0, slots := 0, locals := 1200 } : Room) (va_Pc [.ref p0, .int p1, .int p2, .int p3, .int p4] (PRE D cy z w0 sz)) (va_Qi (fun (r : Int32) (u : va_W) => (RI r (-2147483648) 2147483647 ∧ (r = 0 → True) ∧ (¬ r = 0 → True)) ∧ HT cy GG Ps u ∧ FR wr_X10_odds wa_X10_odds Ps w0 u) (BB D cy (va_A w0 sz) (fun (u : va_W) => u)) (va_A w0 sz)) 0 0 (va_A w0 sz) := by
  refine Met.ofW (cc := cX10_odds) (maxL := 7) (ret := (some .int)) (by decide) rfl ?_
  intro p e s m args below meth c s₁ B hml hv
  obtain ⟨rfl, hsz, hP, hK, hD0, hSD⟩ := hv
  have hx := B.exec
  have hb := B.bytes
  have hr := B.returns
  have hlocks := B.notSynchronized
  have hts : ∀ w ∈ gT, w.before _ s = true := fun w h => atoms_spec (ws := Cond.code yX10_odds cX10_odds 7 (some .int) :: gT) B.pre w (List.mem_cons_of_mem _ h)
  have hown : s.vm.findClass RX10 = some m.cls := findClass_of_methodNamed B.named
  subst hsz
  have hD := hD0.self (sz := s.heap.size)
  generalize hAe : va_A w0 s.heap.size = A at hD hSD ⊢
  have hA : ∀ q : Nat, s.heap.size ≤ q → A q := fun q h => by rw [← hAe]; exact Or.inr h
  have hl := lv_entry ([.ref p0, .int p1, .int p2, .int p3, .int p4]) (n := 7) (Nat.le_of_ble_eq_true rfl)
  rw [lg_entry_eq]
  generalize (lg_sl ([.ref p0, .int p1, .int p2, .int p3, .int p4]) ++ List.replicate (7 - (lg_sl ([.ref p0, .int p1, .int p2, .int p3, .int p4])).length) Slot.unset).toArray = ls at hl ⊢
  have hl : lv_has ls 7 [(0, .ref p0), (1, .int p1), (2, .int p2), (3, .int p3), (4, .int p4)] := hl
  refine nameQ (fun Q hQ => ?_)
  have hw : WD D cy GG A s wr_X10_odds wa_X10_odds Ps w0 Ps w0 s.heap [] := ⟨hT, hP, hD, va_S.rf, FR.rf, hT.1, [], (List.append_nil _).symm⟩
  have B43 : ∀ (nf : Nat) (x5 : Int32) (x6 : Int32) (z0_0 : Int32) (ws : va_W) (H : Heap) (locs : List Loc) (ls : Array Slot), 30 - x6.toInt < (nf : Int) → RI p1 0 5 → RI p2 0 5 → RI p3 1 30 → RI p4 (-2147483648) 2147483647 → RI x5 (-2147483648) 2147483647 → RI x6 0 30 → RI z0_0 0 0 → FLD ws p0 10 0 (.int z0_0) → WD D cy GG A s wr_X10_odds wa_X10_odds Ps w0 Ps ws H locs → lv_has ls 7 [(0, .ref p0), (1, .int p1), (2, .int p2), (3, .int p3), (4, .int p4), (5, .int x5), (6, .int x6)] → W p l e (headSpec (Cond.code yX10_odds cX10_odds 7 (some .int) :: gT) ({ frames := 6, cells := 0, slots := 0, locals := 1200 } : Room)).room s m ([.ref p0, .int p1, .int p2, .int p3, .int p4] : List Value).toArray below meth c H locs 0 0 Q (F0 m 43 ls []) := by
    intro nf43
    induction nf43 with
    | zero =>
      intro x5 x6 z0_0 ws H locs ls hn43 r_p1 r_p2 r_p3 r_p4 r_x5 r_x6 r_z0_0 m_z0_0 hw hl
      exact absurd hn43 (by have q0 := r_x6.1; have u0 := r_x6.2; omega)
    | succ nf43 ih43 =>
      have B73 : ∀ (x5 : Int32) (x6 : Int32) (z0_0 : Int32) (ws : va_W) (H : Heap) (locs : List Loc) (ls : Array Slot), RI p1 0 5 → RI p2 0 5 → RI p3 1 30 → RI p4 (-2147483648) 2147483647 → RI x5 (-2147483648) 2147483647 → RI x6 0 29 → RI z0_0 0 0 → FLD ws p0 10 0 (.int z0_0) → 30 - x6.toInt < ((nf43 + 1 : Nat) : Int) → WD D cy GG A s wr_X10_odds wa_X10_odds Ps w0 Ps ws H locs → lv_has ls 7 [(0, .ref p0), (1, .int p1), (2, .int p2), (3, .int p3), (4, .int p4), (5, .int x5), (6, .int x6)] → W p l e (headSpec (Cond.code yX10_odds cX10_odds 7 (some .int) :: gT) ({ frames := 6, cells := 0, slots := 0, locals := 1200 } : Room)).room s m ([.ref p0, .int p1, .int p2, .int p3, .int p4] : List Value).toArray below meth c H locs 0 0 Q (F0 m 73 ls []) := by
        intro x5 x6 z0_0 ws H locs ls r_p1 r_p2 r_p3 r_p4 r_x5 r_x6 r_z0_0 m_z0_0 hn43 hw hl
        refine lv_aload_n hx hb dX10_odds_73 rfl (lv_at hl 0 rfl) ?_
        refine tk_v (va_runV (As := []) (rest := []) ⟨hx, hb, hml, hown, hts⟩ (c_X10_takeBack l D cy z H.size Ps ws hw.1 p0 h_p0) (cwV 0 hts (gV tw_1587 tw_1589 ts_89 tw_15 tw_1590) rfl rfl rfl (by decide +kernel) ⟨Nat.le_of_ble_eq_true rfl, Nat.le_of_ble_eq_true rfl⟩) (tg_preV hw hK hSD hA (ci := 10) (q := (RX10, TX10, 49)) rfl h_p0 rfl) rfl rfl hl.1 rfl (lv_room (Nat.le_of_ble_eq_true rfl)) dX10_odds_74 ⟨Nat.le_of_ble_eq_true rfl, Nat.le_of_ble_eq_true rfl⟩) hw hA ⟨by decide, by decide⟩ (fun ws H locs hp_v_1 hw hF9 => ?_)
        have m_z0_0 := FLD.over hF9 m_z0_0 (by decide)
        obtain ⟨v_2, e_v_2⟩ : ∃ q9 : Int32, q9 = x6 + Int32.ofInt 1 := ⟨_, rfl⟩
        obtain ⟨t_v_2, r_v_2⟩ := tq_add (lo := 1) (hi := 30) r_x6 (show RI (Int32.ofInt 1) 1 1 by unfold RI; decide +kernel) (by decide +kernel) e_v_2
        have t_v_2 : v_2.toInt = x6.toInt + 1 := t_v_2
        refine lv_iinc (v := v_2) (lv' := [(6, .int v_2), (0, .ref p0), (1, .int p1), (2, .int p2), (3, .int p3), (4, .int p4), (5, .int x5)]) hx hb dX10_odds_77 hl (k := 6) rfl e_v_2.symm (by decide) rfl (fun ls hl => ?_)
        refine lv_goto (tgt := 43) hx hb dX10_odds_80 (by decide) ?_
        exact ih43 x5 v_2 z0_0 ws _ _ ls (by have q0 := r_v_2.1; have u0 := r_v_2.2; have o0 := r_x6.1; have p0 := r_x6.2; omega) r_p1 r_p2 r_p3 r_p4 r_x5 (r_v_2.to (by decide)) r_z0_0 m_z0_0 hw (lv_sub hl [1, 2, 3, 4, 5, 6, 0] rfl)
      intro x5 x6 z0_0 ws H locs ls hn43 r_p1 r_p2 r_p3 r_p4 r_x5 r_x6 r_z0_0 m_z0_0 hw hl
      refine lv_iload hx hb dX10_odds_43 (lv_at hl 6 rfl) ?_
      refine lv_iload_n hx hb dX10_odds_45 rfl (lv_at hl 3 rfl) ?_
      refine lv_icmp_ge (tgt := 83) hx hb dX10_odds_46 (by decide) (fun c_46 => ?_) (fun c_46 => ?_)
      · have r_x6 : RI x6 1 30 := rc_le2 r_p3 r_x6 (ti_le c_46) (by decide)
        refine lv_iload hx hb dX10_odds_83 (lv_at hl 5 rfl) ?_
        subst hQ
        exact W.iret (v := x5) hx hb hr (fun t ht hW => ⟨⟨x5, ws, rfl, ⟨⟨r_x5.to (by decide), (fun h0 => trivial), (fun h0 => trivial)⟩, hw.1, hw.2.2.2.2.1⟩, by rw [ht]; exact hw.2.1, va_K.moved hW.alike hK, hw.2.2.1⟩, hw.2.2.2.1.F ht⟩) hw.2.2.2.1.2.2 dX10_odds_85
      · have r_x6 : RI x6 0 29 := rc_lt1 r_x6 r_p3 (ti_nle c_46) (by decide)
        refine lv_aload_n hx hb dX10_odds_49 rfl (lv_at hl 0 rfl) ?_
        refine lv_bipush (v := 20) hx hb dX10_odds_50 (by decide) ?_
        refine lv_iload hx hb dX10_odds_52 (lv_at hl 4 rfl) ?_
        refine lv_iload hx hb dX10_odds_54 (lv_at hl 6 rfl) ?_
        refine lv_iadd hx hb dX10_odds_56 (lv_topi (fun v_3 e_v_3 => ?_))
        have r_v_3 := ri_any v_3
        refine tk_i (va_runV (As := [.int 20, .int v_3]) (rest := []) ⟨hx, hb, hml, hown, hts⟩ (c_X10_drawDays l D cy z H.size Ps ws hw.1 p0 20 v_3 h_p0 (rl_20.to (by decide)) r_v_3) (cwV 2 hts (gV tw_1690 tw_1692 ts_100 tw_15 tw_1693) rfl rfl rfl (by decide +kernel) ⟨Nat.le_of_ble_eq_true rfl, Nat.le_of_ble_eq_true rfl⟩) (tg_preV hw hK hSD hA (ci := 10) (q := (RX10, TX10, 49)) rfl h_p0 rfl) rfl rfl hl.1 rfl (lv_room (Nat.le_of_ble_eq_true rfl)) dX10_odds_57 ⟨Nat.le_of_ble_eq_true rfl, Nat.le_of_ble_eq_true rfl⟩) hw hA ⟨by decide, by decide⟩ (fun v_4 ws H locs hp_v_4 hw hF9 => ?_)
        have m_z0_0 := FLD.over hF9 m_z0_0 (by decide)
        have r_v_4 : RI v_4 (-2147483648) 2147483647 := hp_v_4.1
        refine lv_pop hx hb dX10_odds_60 rfl ?_
        refine lv_aload_n hx hb dX10_odds_61 rfl (lv_at hl 0 rfl) ?_
        refine lv_iload_n hx hb dX10_odds_62 rfl (lv_at hl 1 rfl) ?_
        refine tk_ir (va_runV (As := [.int p1]) (rest := []) ⟨hx, hb, hml, hown, hts⟩ (c_X10_whatIs l D cy z H.size Ps ws hw.1 p0 p1 h_p0 r_p1) (cwV 1 hts (gV tw_1449 tw_1451 ts_69 tw_15 tw_1452) rfl rfl rfl (by decide +kernel) ⟨Nat.le_of_ble_eq_true rfl, Nat.le_of_ble_eq_true rfl⟩) (tg_preV hw hK hSD hA (ci := 10) (q := (RX10, TX10, 49)) rfl h_p0 rfl) rfl rfl hl.1 rfl (lv_room (Nat.le_of_ble_eq_true rfl)) dX10_odds_63 ⟨Nat.le_of_ble_eq_true rfl, Nat.le_of_ble_eq_true rfl⟩) hw hA (fun v_5  H locs hp_v_5 hw => ?_)
        have r_v_5 : RI v_5 (-1) 5 := hp_v_5.1
        by_cases c9_v_5 : v_5.toInt < 0
        · have r_v_5 : RI v_5 (-1) (-1) := by unfold RI at r_v_5 ⊢; omega
          have x_NB_p0_p1 := (hp_v_5.2.2.2.2.1 (by omega)).1
          refine lv_iload_n hx hb dX10_odds_66 rfl (lv_at hl 2 rfl) ?_
          refine lv_icmp_ne (tgt := 73) hx hb dX10_odds_67 (by decide) (fun c_67 => ?_) (fun c_67 => ?_)
          · exact B73 x5 x6 z0_0 ws _ _ ls r_p1 r_p2 r_p3 r_p4 r_x5 r_x6 r_z0_0 m_z0_0 (by have q0 := r_x6.1; have u0 := r_x6.2; omega) hw hl
          · have r_v_5 : RI v_5 0 (-1) := rc_eq1 r_v_5 r_p2 (ti_eq c_67) (by decide)
            have r_p2 : RI p2 0 (-1) := rc_eq2 r_v_5 r_p2 (ti_eq c_67) (by decide)
            exact (r_v_5.no (by decide)).elim
        · have r_v_5 : RI v_5 0 5 := by unfold RI at r_v_5 ⊢; omega
          have x_WB_p0_p1_v_5 := (hp_v_5.2.2.2.2.2 (by omega)).1
          refine lv_iload_n hx hb dX10_odds_66 rfl (lv_at hl 2 rfl) ?_
          refine lv_icmp_ne (tgt := 73) hx hb dX10_odds_67 (by decide) (fun c_67 => ?_) (fun c_67 => ?_)
          · exact B73 x5 x6 z0_0 ws _ _ ls r_p1 r_p2 r_p3 r_p4 r_x5 r_x6 r_z0_0 m_z0_0 (by have q0 := r_x6.1; have u0 := r_x6.2; omega) hw hl
          · obtain ⟨v_6, e_v_6⟩ : ∃ q9 : Int32, q9 = x5 + Int32.ofInt 1 := ⟨_, rfl⟩
            have r_v_6 := ri_any v_6
            refine lv_iinc (v := v_6) (lv' := [(5, .int v_6), (0, .ref p0), (1, .int p1), (2, .int p2), (3, .int p3), (4, .int p4), (6, .int x6)]) hx hb dX10_odds_70 hl (k := 5) rfl e_v_6.symm (by decide) rfl (fun ls hl => ?_)
            exact B73 v_6 x6 z0_0 ws _ _ ls r_p1 r_p2 r_p3 r_p4 r_v_6 r_x6 r_z0_0 m_z0_0 (by have q0 := r_x6.1; have u0 := r_x6.2; omega) hw (lv_sub hl [1, 2, 3, 4, 5, 0, 6] rfl)
  refine lv_aload_n hx hb dX10_odds_0 rfl (lv_at hl 0 rfl) ?_
  refine lv_iconst (v := 0) hx hb dX10_odds_1 (by decide) ?_
  refine tg_put (ci := 10) (ts := ty_MODEL) (v := .int 0) (ty := .int) (C := RX10) (T := TX10) (N := 49) hx hb hts inX10 tyX10 tyX10_ok nmX10 hown hK hw h_p0 rfl rfl 0 (by decide) (hts _ tw_1137) (fun _ h9 => h9) rfl (by decide +kernel) rfl rfl (ft := vI (-2147483648) 2147483647) rfl ⟨_, rfl, (rl_0.to (by decide))⟩ (by decide) dX10_odds_2 (fun ws H locs hw n_k_7 hF9 => ?_)
  refine lv_aload_n hx hb dX10_odds_5 rfl (lv_at hl 0 rfl) ?_
  refine lv_iload_n hx hb dX10_odds_6 rfl (lv_at hl 1 rfl) ?_
  refine tk_ir (va_runV (As := [.int p1]) (rest := []) ⟨hx, hb, hml, hown, hts⟩ (c_X10_isParcel l D cy z H.size Ps ws hw.1 p0 p1 h_p0 r_p1) (cwV 1 hts (gV tw_1429 tw_1431 ts_65 tw_15 tw_1432) rfl rfl rfl (by decide +kernel) ⟨Nat.le_of_ble_eq_true rfl, Nat.le_of_ble_eq_true rfl⟩) (tg_preV hw hK hSD hA (ci := 10) (q := (RX10, TX10, 49)) rfl h_p0 rfl) rfl rfl hl.1 rfl (lv_room (Nat.le_of_ble_eq_true rfl)) dX10_odds_7 ⟨Nat.le_of_ble_eq_true rfl, Nat.le_of_ble_eq_true rfl⟩) hw hA (fun v_8  H locs hp_v_8 hw => ?_)
  have r_v_8 : RI v_8 0 1 := hp_v_8.1
  refine lv_if_eq (tgt := 31) hx hb dX10_odds_10 (by decide) (fun c_10 => ?_) (fun c_10 => ?_)
  · have r_v_8 : RI v_8 0 0 := rc_eq1 r_v_8 rl_0 (ti_eq c_10) (by decide)
    refine lv_iconst (v := (-1)) hx hb dX10_odds_31 (by decide) ?_
    subst hQ
    exact W.iret (v := (-1)) hx hb hr (fun t ht hW => ⟨⟨(-1), ws, rfl, ⟨⟨rl_m1.to (by decide), (fun _ => trivial), (fun h0 => trivial)⟩, hw.1, hw.2.2.2.2.1⟩, by rw [ht]; exact hw.2.1, va_K.moved hW.alike hK, hw.2.2.1⟩, hw.2.2.2.1.F ht⟩) hw.2.2.2.1.2.2 dX10_odds_32
  · have r_v_8 : RI v_8 1 1 := rc_neL r_v_8 rl_0 (ti_ne c_10) (by decide)
    have r_p1 : RI p1 0 5 := ((hp_v_8.2.2 c_10).1)
    refine lv_aload_n hx hb dX10_odds_13 rfl (lv_at hl 0 rfl) ?_
    refine lv_iload_n hx hb dX10_odds_14 rfl (lv_at hl 2 rfl) ?_
    refine tk_ir (va_runV (As := [.int p2]) (rest := []) ⟨hx, hb, hml, hown, hts⟩ (c_X10_isIdea l D cy z H.size Ps ws hw.1 p0 p2 h_p0 r_p2) (cwV 1 hts (gV tw_1433 tw_1435 ts_66 tw_15 tw_1436) rfl rfl rfl (by decide +kernel) ⟨Nat.le_of_ble_eq_true rfl, Nat.le_of_ble_eq_true rfl⟩) (tg_preV hw hK hSD hA (ci := 10) (q := (RX10, TX10, 49)) rfl h_p0 rfl) rfl rfl hl.1 rfl (lv_room (Nat.le_of_ble_eq_true rfl)) dX10_odds_15 ⟨Nat.le_of_ble_eq_true rfl, Nat.le_of_ble_eq_true rfl⟩) hw hA (fun v_9  H locs hp_v_9 hw => ?_)
    have r_v_9 : RI v_9 0 1 := hp_v_9.1
    refine lv_if_eq (tgt := 31) hx hb dX10_odds_18 (by decide) (fun c_18 => ?_) (fun c_18 => ?_)
    · have r_v_9 : RI v_9 0 0 := rc_eq1 r_v_9 rl_0 (ti_eq c_18) (by decide)
      refine lv_iconst (v := (-1)) hx hb dX10_odds_31 (by decide) ?_
      subst hQ
      exact W.iret (v := (-1)) hx hb hr (fun t ht hW => ⟨⟨(-1), ws, rfl, ⟨⟨rl_m1.to (by decide), (fun _ => trivial), (fun h0 => trivial)⟩, hw.1, hw.2.2.2.2.1⟩, by rw [ht]; exact hw.2.1, va_K.moved hW.alike hK, hw.2.2.1⟩, hw.2.2.2.1.F ht⟩) hw.2.2.2.1.2.2 dX10_odds_32
    · have r_v_9 : RI v_9 1 1 := rc_neL r_v_9 rl_0 (ti_ne c_18) (by decide)
      have r_p2 : RI p2 0 5 := ((hp_v_9.2.2 c_18).1)
      refine lv_iload_n hx hb dX10_odds_21 rfl (lv_at hl 3 rfl) ?_
      refine lv_iconst (v := 1) hx hb dX10_odds_22 (by decide) ?_
      refine lv_bipush (v := 30) hx hb dX10_odds_23 (by decide) ?_
      refine tk_ir (va_runS (As := [.int p3, .int 1, .int 30]) (rest := []) ⟨hx, hb, hml, hown, hts⟩ (c_X10_isIn__6 l D cy z H.size Ps ws hw.1 p3 1 30 r_p3 rl_1 rl_30) (va_cwS 3 hts (gS tw_1359 tw_1360 tw_15 tw_1361) rfl rfl rfl (by decide +kernel) ⟨Nat.le_of_ble_eq_true rfl, Nat.le_of_ble_eq_true rfl⟩) (tg_preS hw hK hSD hA) rfl rfl hl.1 rfl (lv_room (Nat.le_of_ble_eq_true rfl)) dX10_odds_25 ⟨Nat.le_of_ble_eq_true rfl, Nat.le_of_ble_eq_true rfl⟩) hw hA (fun v_10  H locs hp_v_10 hw => ?_)
      have r_v_10 : RI v_10 0 1 := hp_v_10.1
      refine lv_if_ne (tgt := 33) hx hb dX10_odds_28 (by decide) (fun c_28 => ?_) (fun c_28 => ?_)
      · have r_v_10 : RI v_10 1 1 := rc_neL r_v_10 rl_0 (ti_ne c_28) (by decide)
        have r_p3 : RI p3 1 30 := ((hp_v_10.2.2 c_28).1)
        refine lv_aload_n hx hb dX10_odds_33 rfl (lv_at hl 0 rfl) ?_
        refine tk_v (va_runV (As := []) (rest := []) ⟨hx, hb, hml, hown, hts⟩ (c_X10_layAside l D cy z H.size Ps ws hw.1 p0 h_p0) (cwV 0 hts (gV tw_1583 tw_1585 ts_88 tw_15 tw_1586) rfl rfl rfl (by decide +kernel) ⟨Nat.le_of_ble_eq_true rfl, Nat.le_of_ble_eq_true rfl⟩) (tg_preV hw hK hSD hA (ci := 10) (q := (RX10, TX10, 49)) rfl h_p0 rfl) rfl rfl hl.1 rfl (lv_room (Nat.le_of_ble_eq_true rfl)) dX10_odds_34 ⟨Nat.le_of_ble_eq_true rfl, Nat.le_of_ble_eq_true rfl⟩) hw hA ⟨by decide, by decide⟩ (fun ws H locs hp_v_11 hw hF9 => ?_)
        have n_k_7 := FLD.over hF9 n_k_7 (by decide)
        refine lv_iconst (v := 0) hx hb dX10_odds_37 (by decide) ?_
        refine lv_istore (lv' := [(5, .int 0), (0, .ref p0), (1, .int p1), (2, .int p2), (3, .int p3), (4, .int p4)]) hx hb dX10_odds_38 hl (by decide) rfl (fun ls hl => ?_)
        refine lv_iconst (v := 0) hx hb dX10_odds_40 (by decide) ?_
        refine lv_istore (lv' := [(6, .int 0), (5, .int 0), (0, .ref p0), (1, .int p1), (2, .int p2), (3, .int p3), (4, .int p4)]) hx hb dX10_odds_41 hl (by decide) rfl (fun ls hl => ?_)
        exact B43 4294967298 0 0 0 ws _ _ ls (by have q0 := rl_0.1; have u0 := rl_0.2; omega) r_p1 r_p2 r_p3 r_p4 (rl_0.to (by decide)) (rl_0.to (by decide)) rl_0 n_k_7 hw (lv_sub hl [2, 3, 4, 5, 6, 1, 0] rfl)
      · have r_v_10 : RI v_10 0 0 := rc_eq1 r_v_10 rl_0 (ti_eq c_28) (by decide)
        refine lv_iconst (v := (-1)) hx hb dX10_odds_31 (by decide) ?_
        subst hQ
        exact W.iret (v := (-1)) hx hb hr (fun t ht hW => ⟨⟨(-1), ws, rfl, ⟨⟨rl_m1.to (by decide), (fun _ => trivial), (fun h0 => trivial)⟩, hw.1, hw.2.2.2.2.1⟩, by rw [ht]; exact hw.2.1, va_K.moved hW.alike hK, hw.2.2.1⟩, hw.2.2.2.1.F ht⟩) hw.2.2.2.1.2.2 dX10_odds_32
abbrev wr_X10_readEnd : List (Nat × Nat) := [(10, 5), (10, 6), (10, 7), (10, 8), (10, 9), (10, 10), (10, 11), (10, 12)]
abbrev wa_X10_readEnd : List Nat := []
set_option maxHeartbeats 4000000 in
set_option maxRecDepth 100000 in
theorem c_X10_readEnd (l : Launch) (D : va_G) (cy : Nat → ClassId) (z : Nat → Nat) (sz : Nat) (Ps : PSI) (w0 : va_W) (hT : HT cy GG Ps w0) (p0 : Nat) (h_p0 : (p0, 55) ∈ Ps) : Met l yX10_readEnd (Cond.code yX10_readEnd cX10_readEnd 1 (some .boolean) :: gT) ({ frames := 3, cells := 0, slots := 0, locals := 600 } : Room) (va_Pc [.ref p0] (PRE D cy z w0 sz)) (va_Qi (fun (r : Int32) (u : va_W) => (RI r 0 1 ∧ (r = 0 → True) ∧ (¬ r = 0 → True)) ∧ HT cy GG Ps u ∧ FR wr_X10_readEnd wa_X10_readEnd Ps w0 u) (BB D cy (va_A w0 sz) (fun (u : va_W) => u)) (va_A w0 sz)) 0 0 (va_A w0 sz) := by
  refine Met.ofW (cc := cX10_readEnd) (maxL := 1) (ret := (some .boolean)) (by decide) rfl ?_
  intro p e s m args below meth c s₁ B hml hv
  obtain ⟨rfl, hsz, hP, hK, hD0, hSD⟩ := hv
  have hx := B.exec
  have hb := B.bytes
  have hr := B.returns
  have hlocks := B.notSynchronized
  have hts : ∀ w ∈ gT, w.before _ s = true := fun w h => atoms_spec (ws := Cond.code yX10_readEnd cX10_readEnd 1 (some .boolean) :: gT) B.pre w (List.mem_cons_of_mem _ h)
  have hown : s.vm.findClass RX10 = some m.cls := findClass_of_methodNamed B.named
  subst hsz
  have hD := hD0.self (sz := s.heap.size)
  generalize hAe : va_A w0 s.heap.size = A at hD hSD ⊢
  have hA : ∀ q : Nat, s.heap.size ≤ q → A q := fun q h => by rw [← hAe]; exact Or.inr h
  have hl := lv_entry ([.ref p0]) (n := 1) (Nat.le_of_ble_eq_true rfl)
  rw [lg_entry_eq]
  generalize (lg_sl ([.ref p0]) ++ List.replicate (1 - (lg_sl ([.ref p0])).length) Slot.unset).toArray = ls at hl ⊢
  have hl : lv_has ls 1 [(0, .ref p0)] := hl
  refine nameQ (fun Q hQ => ?_)
  have hw : WD D cy GG A s wr_X10_readEnd wa_X10_readEnd Ps w0 Ps w0 s.heap [] := ⟨hT, hP, hD, va_S.rf, FR.rf, hT.1, [], (List.append_nil _).symm⟩
  refine lv_aload_n hx hb dX10_readEnd_0 rfl (lv_at hl 0 rfl) ?_
  refine lv_bipush (v := 59) hx hb dX10_readEnd_1 (by decide) ?_
  refine tk_ir (va_runV (As := [.int 59]) (rest := []) ⟨hx, hb, hml, hown, hts⟩ (c_X10_isSign l D cy z s.heap.size Ps w0 hw.1 p0 59 h_p0 (rl_59.to (by decide))) (cwV 1 hts (gV tw_1413 tw_1415 ts_63 tw_15 tw_1416) rfl rfl rfl (by decide +kernel) ⟨Nat.le_of_ble_eq_true rfl, Nat.le_of_ble_eq_true rfl⟩) (tg_preV hw hK hSD hA (ci := 10) (q := (RX10, TX10, 49)) rfl h_p0 rfl) rfl rfl hl.1 rfl (lv_room (Nat.le_of_ble_eq_true rfl)) dX10_readEnd_3 ⟨Nat.le_of_ble_eq_true rfl, Nat.le_of_ble_eq_true rfl⟩) hw hA (fun v_1  H locs hp_v_1 hw => ?_)
  have r_v_1 : RI v_1 0 1 := hp_v_1.1
  by_cases c9_v_1 : v_1 = 0
  · have r_v_1 : RI v_1 0 0 := by rw [c9_v_1]; exact rl_0
    refine lv_if_ne (tgt := 15) hx hb dX10_readEnd_6 (by decide) (fun c_6 => ?_) (fun c_6 => ?_)
    · exact absurd (r_v_1.eq.trans rl_0.eq.symm) ((ti_ne c_6))
    · refine lv_aload_n hx hb dX10_readEnd_9 rfl (lv_at hl 0 rfl) ?_
      refine lv_iconst (v := 1) hx hb dX10_readEnd_10 (by decide) ?_
      refine tk_i (va_runV (As := [.int 1]) (rest := []) ⟨hx, hb, hml, hown, hts⟩ (c_X10_bad l D cy z H.size Ps w0 hw.1 p0 1 h_p0 (rl_1.to (by decide))) (cwV 1 hts (gV tw_1336 tw_1338 ts_46 tw_15 tw_1339) rfl rfl rfl (by decide +kernel) ⟨Nat.le_of_ble_eq_true rfl, Nat.le_of_ble_eq_true rfl⟩) (tg_preV hw hK hSD hA (ci := 10) (q := (RX10, TX10, 49)) rfl h_p0 rfl) rfl rfl hl.1 rfl (lv_room (Nat.le_of_ble_eq_true rfl)) dX10_readEnd_11 ⟨Nat.le_of_ble_eq_true rfl, Nat.le_of_ble_eq_true rfl⟩) hw hA ⟨by decide, by decide⟩ (fun v_2 ws H locs hp_v_2 hw hF9 => ?_)
      have r_v_2 : RI v_2 0 0 := hp_v_2.1
      subst hQ
      exact W.zret (v := v_2) hx hb hr (tq_nz (r_v_2.to (by decide))) (fun t ht hW => ⟨⟨v_2, ws, rfl, ⟨⟨r_v_2.to (by decide), (fun h0 => trivial), (fun _ => trivial)⟩, hw.1, hw.2.2.2.2.1⟩, by rw [ht]; exact hw.2.1, va_K.moved hW.alike hK, hw.2.2.1⟩, hw.2.2.2.1.F ht⟩) hw.2.2.2.1.2.2 dX10_readEnd_14
  · have r_v_1 : RI v_1 1 1 := rc_neL r_v_1 rl_0 (ti_ne c9_v_1) (by decide)
    obtain ⟨v_3, m_v_3, r_v_3⟩ := ((hp_v_1.2.2 c9_v_1).1)
    refine lv_if_ne (tgt := 15) hx hb dX10_readEnd_6 (by decide) (fun c_6 => ?_) (fun c_6 => ?_)
    · refine lv_aload_n hx hb dX10_readEnd_15 rfl (lv_at hl 0 rfl) ?_
      refine tk_v (va_runV (As := []) (rest := []) ⟨hx, hb, hml, hown, hts⟩ (c_X10_go l D cy z H.size Ps w0 hw.1 p0 h_p0) (cwV 0 hts (gV tw_1298 tw_1300 ts_40 tw_15 tw_1301) rfl rfl rfl (by decide +kernel) ⟨Nat.le_of_ble_eq_true rfl, Nat.le_of_ble_eq_true rfl⟩) (tg_preV hw hK hSD hA (ci := 10) (q := (RX10, TX10, 49)) rfl h_p0 rfl) rfl rfl hl.1 rfl (lv_room (Nat.le_of_ble_eq_true rfl)) dX10_readEnd_16 ⟨Nat.le_of_ble_eq_true rfl, Nat.le_of_ble_eq_true rfl⟩) hw hA ⟨by decide, by decide⟩ (fun ws H locs hp_v_4 hw hF9 => ?_)
      refine lv_iconst (v := 1) hx hb dX10_readEnd_19 (by decide) ?_
      subst hQ
      exact W.zret (v := 1) hx hb hr (rfl) (fun t ht hW => ⟨⟨1, ws, rfl, ⟨⟨rl_1.to (by decide), (fun _ => trivial), (fun h0 => trivial)⟩, hw.1, hw.2.2.2.2.1⟩, by rw [ht]; exact hw.2.1, va_K.moved hW.alike hK, hw.2.2.1⟩, hw.2.2.2.1.F ht⟩) hw.2.2.2.1.2.2 dX10_readEnd_20
    · have r_v_1 : RI v_1 1 0 := rc_eq1 r_v_1 rl_0 (ti_eq c_6) (by decide)
      exact (r_v_1.no (by decide)).elim
abbrev wr_X10_go__1 : List (Nat × Nat) := [(10, 5), (10, 6), (10, 7), (10, 8), (10, 9), (10, 12)]
abbrev wa_X10_go__1 : List Nat := []
set_option maxHeartbeats 4000000 in
set_option maxRecDepth 100000 in
theorem c_X10_go__1 (l : Launch) (D : va_G) (cy : Nat → ClassId) (z : Nat → Nat) (sz : Nat) (Ps : PSI) (w0 : va_W) (hT : HT cy GG Ps w0) (p0 : Nat) (gh : Int) (h_p0 : (p0, 55) ∈ Ps) (x_TO_p0_gh : TOP w0 p0 (gh)) : Met l yX10_go (Cond.code yX10_go cX10_go 5 none :: gT) ({ frames := 2, cells := 0, slots := 0, locals := 400 } : Room) (va_Pc [.ref p0] (PRE D cy z w0 sz)) (va_Qv (fun (u : va_W) => (TKP u p0 (gh) ∧ True) ∧ HT cy GG Ps u ∧ FR wr_X10_go__1 wa_X10_go__1 Ps w0 u) (BB D cy (va_A w0 sz) (fun (u : va_W) => u)) (va_A w0 sz)) 0 0 (va_A w0 sz) := by
  refine Met.ofW (cc := cX10_go) (maxL := 5) (ret := none) (by decide) rfl ?_
  intro p e s m args below meth c s₁ B hml hv
  obtain ⟨rfl, hsz, hP, hK, hD0, hSD⟩ := hv
  have hx := B.exec
  have hb := B.bytes
  have hr := B.returns
  have hlocks := B.notSynchronized
  have hts : ∀ w ∈ gT, w.before _ s = true := fun w h => atoms_spec (ws := Cond.code yX10_go cX10_go 5 none :: gT) B.pre w (List.mem_cons_of_mem _ h)
  have hown : s.vm.findClass RX10 = some m.cls := findClass_of_methodNamed B.named
  subst hsz
  have hD := hD0.self (sz := s.heap.size)
  generalize hAe : va_A w0 s.heap.size = A at hD hSD ⊢
  have hA : ∀ q : Nat, s.heap.size ≤ q → A q := fun q h => by rw [← hAe]; exact Or.inr h
  have hl := lv_entry ([.ref p0]) (n := 5) (Nat.le_of_ble_eq_true rfl)
  rw [lg_entry_eq]
  generalize (lg_sl ([.ref p0]) ++ List.replicate (5 - (lg_sl ([.ref p0])).length) Slot.unset).toArray = ls at hl ⊢
  have hl : lv_has ls 5 [(0, .ref p0)] := hl
  refine nameQ (fun Q hQ => ?_)
  have hw : WD D cy GG A s wr_X10_go__1 wa_X10_go__1 Ps w0 Ps w0 s.heap [] := ⟨hT, hP, hD, va_S.rf, FR.rf, hT.1, [], (List.append_nil _).symm⟩
  have B390 : ∀ (x1 : Int32) (x2 : Int32) (x3 : Int32) (y0 : Int32) (z0_3 : Int32) (z0_4 : Int32) (z0_5 : Int32) (z0_6 : Int32) (ws : va_W) (H : Heap) (locs : List Loc) (ls : Array Slot), RI x1 48 122 → RI x2 0 1 → RI x3 0 1 → RI y0 1 3 → RI z0_3 1 940 → FLD ws p0 10 3 (.int z0_3) → RI z0_4 0 2147483647 → FLD ws p0 10 4 (.int z0_4) → RI z0_5 0 940 → FLD ws p0 10 5 (.int z0_5) → RI z0_6 0 940 → FLD ws p0 10 6 (.int z0_6) → TOP ws p0 (gh) → WD D cy GG A s wr_X10_go__1 wa_X10_go__1 Ps w0 Ps ws H locs → lv_has ls 5 [(0, .ref p0), (1, .int x1), (2, .int x2), (3, .int x3)] → W p l e (headSpec (Cond.code yX10_go cX10_go 5 none :: gT) ({ frames := 2, cells := 0, slots := 0, locals := 400 } : Room)).room s m ([.ref p0] : List Value).toArray below meth c H locs 0 0 Q (F0 m 390 ls [.int y0, .ref p0]) := by
    intro x1 x2 x3 y0 z0_3 z0_4 z0_5 z0_6 ws H locs ls r_x1 r_x2 r_x3 r_y0 r_z0_3 m_z0_3 r_z0_4 m_z0_4 r_z0_5 m_z0_5 r_z0_6 m_z0_6 x_TO_p0_gh hw hl
    refine tg_put (ci := 10) (ts := ty_MODEL) (v := .int y0) (ty := .int) (C := RX10) (T := TX10) (N := 49) hx hb hts inX10 tyX10 tyX10_ok nmX10 hown hK hw h_p0 rfl rfl 7 (by decide) (hts _ tw_1144) (fun _ h9 => h9) rfl (by decide +kernel) rfl rfl (ft := vI (-2147483648) 2147483647) rfl ⟨_, rfl, (r_y0.to (by decide))⟩ (by decide) dX10_go_390 (fun ws H locs hw n_k_1 hF9 => ?_)
    have m_z0_3 := FLD.over hF9 m_z0_3 (by decide)
    have m_z0_4 := FLD.over hF9 m_z0_4 (by decide)
    have m_z0_5 := FLD.over hF9 m_z0_5 (by decide)
    have m_z0_6 := FLD.over hF9 m_z0_6 (by decide)
    have x_TO_p0_gh := TOP.over hF9 x_TO_p0_gh (by decide)
    have g8 := TOP.get hw x_TO_p0_gh m_z0_5
    have x_TOK_p0_gh : TKP ws p0 (gh) := ⟨_, _, m_z0_5, n_k_1, g8, r_z0_5.2, fun h9 => by have k1 := r_y0; unfold RI at k1; omega⟩
    subst hQ
    exact W.vret hx hb hr (fun t ht hW => ⟨⟨ws, rfl, ⟨⟨x_TOK_p0_gh, trivial⟩, hw.1, hw.2.2.2.2.1⟩, by rw [ht]; exact hw.2.1, va_K.moved hW.alike hK, hw.2.2.1⟩, hw.2.2.2.1.F ht⟩) hw.2.2.2.1.2.2 dX10_go_393
  have B377 : ∀ (x1 : Int32) (x2 : Int32) (x3 : Int32) (z0_3 : Int32) (z0_4 : Int32) (z0_5 : Int32) (z0_6 : Int32) (ws : va_W) (H : Heap) (locs : List Loc) (ls : Array Slot), RI x1 48 122 → RI x2 0 1 → RI x3 0 1 → RI z0_3 1 940 → FLD ws p0 10 3 (.int z0_3) → RI z0_4 0 2147483647 → FLD ws p0 10 4 (.int z0_4) → RI z0_5 0 940 → FLD ws p0 10 5 (.int z0_5) → RI z0_6 0 940 → FLD ws p0 10 6 (.int z0_6) → TOP ws p0 (gh) → WD D cy GG A s wr_X10_go__1 wa_X10_go__1 Ps w0 Ps ws H locs → lv_has ls 5 [(0, .ref p0), (1, .int x1), (2, .int x2), (3, .int x3)] → W p l e (headSpec (Cond.code yX10_go cX10_go 5 none :: gT) ({ frames := 2, cells := 0, slots := 0, locals := 400 } : Room)).room s m ([.ref p0] : List Value).toArray below meth c H locs 0 0 Q (F0 m 377 ls [.ref p0]) := by
    intro x1 x2 x3 z0_3 z0_4 z0_5 z0_6 ws H locs ls r_x1 r_x2 r_x3 r_z0_3 m_z0_3 r_z0_4 m_z0_4 r_z0_5 m_z0_5 r_z0_6 m_z0_6 x_TO_p0_gh hw hl
    refine lv_iconst (v := 1) hx hb dX10_go_377 (by decide) ?_
    refine lv_goto (tgt := 390) hx hb dX10_go_378 (by decide) ?_
    exact B390 x1 x2 x3 1 z0_3 z0_4 z0_5 z0_6 ws _ _ ls r_x1 r_x2 r_x3 (rl_1.to (by decide)) r_z0_3 m_z0_3 r_z0_4 m_z0_4 r_z0_5 m_z0_5 r_z0_6 m_z0_6 x_TO_p0_gh hw hl
  have B374 : ∀ (x1 : Int32) (x2 : Int32) (x3 : Int32) (y0 : Int32) (y1 : Int32) (z0_3 : Int32) (z0_4 : Int32) (z0_5 : Int32) (z0_6 : Int32) (ws : va_W) (H : Heap) (locs : List Loc) (ls : Array Slot), RI x1 48 122 → RI x2 0 1 → RI x3 1 1 → RI y0 3 7 → RI y1 (-940) 940 → RI z0_3 1 940 → FLD ws p0 10 3 (.int z0_3) → RI z0_4 0 2147483647 → FLD ws p0 10 4 (.int z0_4) → RI z0_5 0 940 → FLD ws p0 10 5 (.int z0_5) → RI z0_6 0 940 → FLD ws p0 10 6 (.int z0_6) → TOP ws p0 (gh) → WD D cy GG A s wr_X10_go__1 wa_X10_go__1 Ps w0 Ps ws H locs → lv_has ls 5 [(0, .ref p0), (1, .int x1), (2, .int x2), (3, .int x3)] → W p l e (headSpec (Cond.code yX10_go cX10_go 5 none :: gT) ({ frames := 2, cells := 0, slots := 0, locals := 400 } : Room)).room s m ([.ref p0] : List Value).toArray below meth c H locs 0 0 Q (F0 m 374 ls [.int y0, .int y1, .ref p0]) := by
    intro x1 x2 x3 y0 y1 z0_3 z0_4 z0_5 z0_6 ws H locs ls r_x1 r_x2 r_x3 r_y0 r_y1 r_z0_3 m_z0_3 r_z0_4 m_z0_4 r_z0_5 m_z0_5 r_z0_6 m_z0_6 x_TO_p0_gh hw hl
    refine lv_icmp_le (tgt := 381) hx hb dX10_go_374 (by decide) (fun c_374 => ?_) (fun c_374 => ?_)
    · have r_y1 : RI y1 (-940) 7 := rc_le1 r_y1 r_y0 (ti_le c_374) (by decide)
      refine lv_iload_n hx hb dX10_go_381 rfl (lv_at hl 2 rfl) ?_
      refine lv_if_eq (tgt := 389) hx hb dX10_go_382 (by decide) (fun c_382 => ?_) (fun c_382 => ?_)
      · have r_x2 : RI x2 0 0 := rc_eq1 r_x2 rl_0 (ti_eq c_382) (by decide)
        refine lv_iconst (v := 3) hx hb dX10_go_389 (by decide) ?_
        exact B390 x1 x2 x3 3 z0_3 z0_4 z0_5 z0_6 ws _ _ ls r_x1 (r_x2.to (by decide)) (r_x3.to (by decide)) (rl_3.to (by decide)) r_z0_3 m_z0_3 r_z0_4 m_z0_4 r_z0_5 m_z0_5 r_z0_6 m_z0_6 x_TO_p0_gh hw hl
      · have r_x2 : RI x2 1 1 := rc_neL r_x2 rl_0 (ti_ne c_382) (by decide)
        refine lv_iconst (v := 2) hx hb dX10_go_385 (by decide) ?_
        refine lv_goto (tgt := 390) hx hb dX10_go_386 (by decide) ?_
        exact B390 x1 x2 x3 2 z0_3 z0_4 z0_5 z0_6 ws _ _ ls r_x1 (r_x2.to (by decide)) (r_x3.to (by decide)) (rl_2.to (by decide)) r_z0_3 m_z0_3 r_z0_4 m_z0_4 r_z0_5 m_z0_5 r_z0_6 m_z0_6 x_TO_p0_gh hw hl
    · have r_y1 : RI y1 4 940 := rc_lt2 r_y0 r_y1 (ti_nle c_374) (by decide)
      exact B377 x1 x2 x3 z0_3 z0_4 z0_5 z0_6 ws _ _ ls r_x1 r_x2 (r_x3.to (by decide)) r_z0_3 m_z0_3 r_z0_4 m_z0_4 r_z0_5 m_z0_5 r_z0_6 m_z0_6 x_TO_p0_gh hw hl
  have B215 : ∀ (nf : Nat) (x1 : Int32) (x2 : Int32) (x3 : Int32) (z0_3 : Int32) (z0_4 : Int32) (z0_5 : Int32) (z0_6 : Int32) (ws : va_W) (H : Heap) (locs : List Loc) (ls : Array Slot), 940 - z0_5.toInt < (nf : Int) → RI x1 48 122 → RI x2 0 1 → RI x3 0 1 → RI z0_3 1 940 → FLD ws p0 10 3 (.int z0_3) → RI z0_4 0 2147483647 → FLD ws p0 10 4 (.int z0_4) → RI z0_5 0 940 → FLD ws p0 10 5 (.int z0_5) → RI z0_6 0 940 → FLD ws p0 10 6 (.int z0_6) → TOP ws p0 (gh) → WD D cy GG A s wr_X10_go__1 wa_X10_go__1 Ps w0 Ps ws H locs → lv_has ls 5 [(0, .ref p0), (1, .int x1), (2, .int x2), (3, .int x3)] → W p l e (headSpec (Cond.code yX10_go cX10_go 5 none :: gT) ({ frames := 2, cells := 0, slots := 0, locals := 400 } : Room)).room s m ([.ref p0] : List Value).toArray below meth c H locs 0 0 Q (F0 m 215 ls []) := by
    intro nf215
    induction nf215 with
    | zero =>
      intro x1 x2 x3 z0_3 z0_4 z0_5 z0_6 ws H locs ls hn215 r_x1 r_x2 r_x3 r_z0_3 m_z0_3 r_z0_4 m_z0_4 r_z0_5 m_z0_5 r_z0_6 m_z0_6 x_TO_p0_gh hw hl
      exact absurd hn215 (by have q0 := r_z0_5.1; have u0 := r_z0_5.2; omega)
    | succ nf215 ih215 =>
      have B337 : ∀ (x1 : Int32) (x2 : Int32) (x3 : Int32) (x4 : Int32) (z0_3 : Int32) (z0_4 : Int32) (z0_5 : Int32) (z0_6 : Int32) (ws : va_W) (H : Heap) (locs : List Loc) (ls : Array Slot), RI x1 48 122 → RI x2 0 1 → RI x3 0 1 → RI x4 0 255 → RI z0_3 1 940 → FLD ws p0 10 3 (.int z0_3) → RI z0_4 0 2147483647 → FLD ws p0 10 4 (.int z0_4) → RI z0_5 0 939 → FLD ws p0 10 5 (.int z0_5) → RI z0_6 0 940 → FLD ws p0 10 6 (.int z0_6) → TOP ws p0 (gh) → 940 - z0_5.toInt < ((nf215 + 1 : Nat) : Int) → WD D cy GG A s wr_X10_go__1 wa_X10_go__1 Ps w0 Ps ws H locs → lv_has ls 5 [(0, .ref p0), (1, .int x1), (2, .int x2), (3, .int x3), (4, .int x4)] → W p l e (headSpec (Cond.code yX10_go cX10_go 5 none :: gT) ({ frames := 2, cells := 0, slots := 0, locals := 400 } : Room)).room s m ([.ref p0] : List Value).toArray below meth c H locs 0 0 Q (F0 m 337 ls []) := by
        intro x1 x2 x3 x4 z0_3 z0_4 z0_5 z0_6 ws H locs ls r_x1 r_x2 r_x3 r_x4 r_z0_3 m_z0_3 r_z0_4 m_z0_4 r_z0_5 m_z0_5 r_z0_6 m_z0_6 x_TO_p0_gh hn215 hw hl
        refine lv_aload_n hx hb dX10_go_337 rfl (lv_at hl 0 rfl) ?_
        refine lv_dup hx hb dX10_go_338 rfl ?_
        refine tg_mem (ci := 10) (C := RX10) (T := TX10) (N := 49) hx hb hts inX10 hown hK hw 5 m_z0_5 rfl (by decide) (hts _ tw_1142) (fun _ h9 => h9) dX10_go_339 ?_
        refine lv_iconst (v := 1) hx hb dX10_go_342 (by decide) ?_
        refine lv_iadd hx hb dX10_go_343 (lv_topi (fun v_2 e_v_2 => ?_))
        obtain ⟨t_v_2, r_v_2⟩ := tq_add (lo := 1) (hi := 940) r_z0_5 rl_1 (by decide +kernel) e_v_2
        have t_v_2 : v_2.toInt = z0_5.toInt + 1 := t_v_2
        have g9 := TOP.get hw x_TO_p0_gh m_z0_5
        refine tg_put (ci := 10) (ts := ty_MODEL) (v := .int v_2) (ty := .int) (C := RX10) (T := TX10) (N := 49) hx hb hts inX10 tyX10 tyX10_ok nmX10 hown hK hw h_p0 rfl rfl 5 (by decide) (hts _ tw_1142) (fun _ h9 => h9) rfl (by decide +kernel) rfl rfl (ft := vI 0 940) rfl ⟨_, rfl, (r_v_2.to (by decide))⟩ (by decide) dX10_go_344 (fun ws H locs hw n_k_3 hF9 => ?_)
        have m_z0_3 := FLD.over hF9 m_z0_3 (by decide)
        have m_z0_4 := FLD.over hF9 m_z0_4 (by decide)
        have m_z0_6 := FLD.over hF9 m_z0_6 (by decide)
        have x_TO_p0_gh : TOP ws p0 (gh) := ⟨_, n_k_3, by have k1 := r_v_2.2; omega, by have k1 := r_v_2.2; omega⟩
        refine lv_goto (tgt := 215) hx hb dX10_go_347 (by decide) ?_
        exact ih215 x1 x2 x3 z0_3 z0_4 v_2 z0_6 ws _ _ ls (by have q0 := r_v_2.1; have u0 := r_v_2.2; have o0 := r_z0_5.1; have p0 := r_z0_5.2; omega) r_x1 r_x2 r_x3 r_z0_3 m_z0_3 r_z0_4 m_z0_4 (r_v_2.to (by decide)) n_k_3 r_z0_6 m_z0_6 x_TO_p0_gh hw (lv_sub hl [0, 1, 2, 3] rfl)
      have B307 : ∀ (x1 : Int32) (x2 : Int32) (x3 : Int32) (x4 : Int32) (z0_3 : Int32) (z0_4 : Int32) (z0_5 : Int32) (z0_6 : Int32) (ws : va_W) (H : Heap) (locs : List Loc) (ls : Array Slot), RI x1 48 122 → RI x2 0 1 → RI x3 0 1 → RI x4 0 255 → RI z0_3 1 940 → FLD ws p0 10 3 (.int z0_3) → RI z0_4 0 2147483647 → FLD ws p0 10 4 (.int z0_4) → RI z0_5 0 939 → FLD ws p0 10 5 (.int z0_5) → RI z0_6 0 940 → FLD ws p0 10 6 (.int z0_6) → TOP ws p0 (gh) → 940 - z0_5.toInt < ((nf215 + 1 : Nat) : Int) → WD D cy GG A s wr_X10_go__1 wa_X10_go__1 Ps w0 Ps ws H locs → lv_has ls 5 [(0, .ref p0), (1, .int x1), (2, .int x2), (3, .int x3), (4, .int x4)] → W p l e (headSpec (Cond.code yX10_go cX10_go 5 none :: gT) ({ frames := 2, cells := 0, slots := 0, locals := 400 } : Room)).room s m ([.ref p0] : List Value).toArray below meth c H locs 0 0 Q (F0 m 307 ls []) := by
        intro x1 x2 x3 x4 z0_3 z0_4 z0_5 z0_6 ws H locs ls r_x1 r_x2 r_x3 r_x4 r_z0_3 m_z0_3 r_z0_4 m_z0_4 r_z0_5 m_z0_5 r_z0_6 m_z0_6 x_TO_p0_gh hn215 hw hl
        refine lv_aload_n hx hb dX10_go_307 rfl (lv_at hl 0 rfl) ?_
        refine tg_mem (ci := 10) (C := RX10) (T := TX10) (N := 49) hx hb hts inX10 hown hK hw 5 m_z0_5 rfl (by decide) (hts _ tw_1142) (fun _ h9 => h9) dX10_go_308 ?_
        refine lv_aload_n hx hb dX10_go_311 rfl (lv_at hl 0 rfl) ?_
        refine tg_mem (ci := 10) (C := RX10) (T := TX10) (N := 49) hx hb hts inX10 hown hK hw 6 m_z0_6 rfl (by decide) (hts _ tw_1143) (fun _ h9 => h9) dX10_go_312 ?_
        refine lv_isub hx hb dX10_go_315 (lv_topi (fun v_4 e_v_4 => ?_))
        obtain ⟨t_v_4, r_v_4⟩ := tq_sub (lo := (-940)) (hi := 939) r_z0_5 r_z0_6 (by decide +kernel) e_v_4
        refine lv_iconst (v := 3) hx hb dX10_go_316 (by decide) ?_
        refine lv_icmp_ge (tgt := 337) hx hb dX10_go_317 (by decide) (fun c_317 => ?_) (fun c_317 => ?_)
        · have r_v_4 : RI v_4 3 939 := rc_le2 rl_3 r_v_4 (ti_le c_317) (by decide)
          exact B337 x1 x2 x3 x4 z0_3 z0_4 z0_5 z0_6 ws _ _ ls r_x1 r_x2 r_x3 r_x4 r_z0_3 m_z0_3 r_z0_4 m_z0_4 r_z0_5 m_z0_5 r_z0_6 m_z0_6 x_TO_p0_gh (by have q0 := r_z0_5.1; have u0 := r_z0_5.2; omega) hw hl
        · have r_v_4 : RI v_4 (-940) 2 := rc_lt1 r_v_4 rl_3 (ti_nle c_317) (by decide)
          refine lv_aload_n hx hb dX10_go_320 rfl (lv_at hl 0 rfl) ?_
          refine lv_bipush (v := 10) hx hb dX10_go_321 (by decide) ?_
          refine lv_aload_n hx hb dX10_go_323 rfl (lv_at hl 0 rfl) ?_
          refine tg_get (ci := 10) (ts := ty_MODEL) (C := RX10) (T := TX10) (N := 49) hx hb hts inX10 hown hK hw h_p0 rfl rfl 8 (by decide) (hts _ tw_1145) (fun _ h9 => h9) (ft := vI (-2147483648) 2147483647) rfl dX10_go_324 (fun u_5 hv_u_5 m_u_5 => ?_)
          obtain ⟨vu_5, rfl, r_vu_5⟩ := hv_u_5
          refine lv_imul hx hb dX10_go_327 (lv_topi (fun v_6 e_v_6 => ?_))
          have r_v_6 := ri_any v_6
          refine lv_iload hx hb dX10_go_328 (lv_at hl 4 rfl) ?_
          refine lv_iadd hx hb dX10_go_330 (lv_topi (fun v_7 e_v_7 => ?_))
          have r_v_7 := ri_any v_7
          refine lv_bipush (v := 48) hx hb dX10_go_331 (by decide) ?_
          refine lv_isub hx hb dX10_go_333 (lv_topi (fun v_8 e_v_8 => ?_))
          have r_v_8 := ri_any v_8
          refine tg_put (ci := 10) (ts := ty_MODEL) (v := .int v_8) (ty := .int) (C := RX10) (T := TX10) (N := 49) hx hb hts inX10 tyX10 tyX10_ok nmX10 hown hK hw h_p0 rfl rfl 8 (by decide) (hts _ tw_1145) (fun _ h9 => h9) rfl (by decide +kernel) rfl rfl (ft := vI (-2147483648) 2147483647) rfl ⟨_, rfl, r_v_8⟩ (by decide) dX10_go_334 (fun ws H locs hw n_k_9 hF9 => ?_)
          have m_z0_3 := FLD.over hF9 m_z0_3 (by decide)
          have m_z0_4 := FLD.over hF9 m_z0_4 (by decide)
          have m_z0_5 := FLD.over hF9 m_z0_5 (by decide)
          have m_z0_6 := FLD.over hF9 m_z0_6 (by decide)
          have x_TO_p0_gh := TOP.over hF9 x_TO_p0_gh (by decide)
          exact B337 x1 x2 x3 x4 z0_3 z0_4 z0_5 z0_6 ws _ _ ls r_x1 r_x2 r_x3 r_x4 r_z0_3 m_z0_3 r_z0_4 m_z0_4 r_z0_5 m_z0_5 r_z0_6 m_z0_6 x_TO_p0_gh (by have q0 := r_z0_5.1; have u0 := r_z0_5.2; omega) hw hl
      have B272 : ∀ (x1 : Int32) (x2 : Int32) (x3 : Int32) (x4 : Int32) (y0 : Int32) (z0_3 : Int32) (z0_4 : Int32) (z0_5 : Int32) (z0_6 : Int32) (ws : va_W) (H : Heap) (locs : List Loc) (ls : Array Slot), RI x1 48 122 → RI x2 0 1 → RI x3 0 1 → RI x4 0 255 → RI y0 0 1 → RI z0_3 1 940 → FLD ws p0 10 3 (.int z0_3) → RI z0_4 0 2147483647 → FLD ws p0 10 4 (.int z0_4) → RI z0_5 0 939 → FLD ws p0 10 5 (.int z0_5) → RI z0_6 0 940 → FLD ws p0 10 6 (.int z0_6) → TOP ws p0 (gh) → 940 - z0_5.toInt < ((nf215 + 1 : Nat) : Int) → WD D cy GG A s wr_X10_go__1 wa_X10_go__1 Ps w0 Ps ws H locs → lv_has ls 5 [(0, .ref p0), (1, .int x1), (2, .int x2), (3, .int x3), (4, .int x4)] → W p l e (headSpec (Cond.code yX10_go cX10_go 5 none :: gT) ({ frames := 2, cells := 0, slots := 0, locals := 400 } : Room)).room s m ([.ref p0] : List Value).toArray below meth c H locs 0 0 Q (F0 m 272 ls [.int y0]) := by
        intro x1 x2 x3 x4 y0 z0_3 z0_4 z0_5 z0_6 ws H locs ls r_x1 r_x2 r_x3 r_x4 r_y0 r_z0_3 m_z0_3 r_z0_4 m_z0_4 r_z0_5 m_z0_5 r_z0_6 m_z0_6 x_TO_p0_gh hn215 hw hl
        refine lv_istore_n (lv' := [(3, .int y0), (0, .ref p0), (1, .int x1), (2, .int x2), (4, .int x4)]) hx hb dX10_go_272 rfl hl (by decide) rfl (fun ls hl => ?_)
        refine lv_aload_n hx hb dX10_go_273 rfl (lv_at hl 1 rfl) ?_
        refine tg_mem (ci := 10) (C := RX10) (T := TX10) (N := 49) hx hb hts inX10 hown hK hw 5 m_z0_5 rfl (by decide) (hts _ tw_1142) (fun _ h9 => h9) dX10_go_274 ?_
        refine lv_aload_n hx hb dX10_go_277 rfl (lv_at hl 1 rfl) ?_
        refine tg_mem (ci := 10) (C := RX10) (T := TX10) (N := 49) hx hb hts inX10 hown hK hw 6 m_z0_6 rfl (by decide) (hts _ tw_1143) (fun _ h9 => h9) dX10_go_278 ?_
        refine lv_isub hx hb dX10_go_281 (lv_topi (fun v_10 e_v_10 => ?_))
        obtain ⟨t_v_10, r_v_10⟩ := tq_sub (lo := (-940)) (hi := 939) r_z0_5 r_z0_6 (by decide +kernel) e_v_10
        refine lv_bipush (v := 7) hx hb dX10_go_282 (by decide) ?_
        refine lv_icmp_ge (tgt := 307) hx hb dX10_go_284 (by decide) (fun c_284 => ?_) (fun c_284 => ?_)
        · have r_v_10 : RI v_10 7 939 := rc_le2 rl_7 r_v_10 (ti_le c_284) (by decide)
          exact B307 x1 x2 y0 x4 z0_3 z0_4 z0_5 z0_6 ws _ _ ls r_x1 r_x2 r_y0 r_x4 r_z0_3 m_z0_3 r_z0_4 m_z0_4 r_z0_5 m_z0_5 r_z0_6 m_z0_6 x_TO_p0_gh (by have q0 := r_z0_5.1; have u0 := r_z0_5.2; omega) hw (lv_sub hl [1, 2, 3, 0, 4] rfl)
        · have r_v_10 : RI v_10 (-940) 6 := rc_lt1 r_v_10 rl_7 (ti_nle c_284) (by decide)
          refine lv_aload_n hx hb dX10_go_287 rfl (lv_at hl 1 rfl) ?_
          refine lv_ldc2 (v := 27) hx hb hown (hts _ tw_1312) dX10_go_288 ?_
          refine lv_aload_n hx hb dX10_go_291 rfl (lv_at hl 1 rfl) ?_
          refine tg_get (ci := 10) (ts := ty_MODEL) (C := RX10) (T := TX10) (N := 49) hx hb hts inX10 hown hK hw h_p0 rfl rfl 12 (by decide) (hts _ tw_1149) (fun _ h9 => h9) (ft := vJ (-9223372036854775808) 9223372036854775807) rfl dX10_go_292 (fun u_11 hv_u_11 m_u_11 => ?_)
          obtain ⟨vu_11, rfl, r_vu_11⟩ := hv_u_11
          refine lv_lmul hx hb dX10_go_295 (lv_topl (fun w_12 e_w_12 => ?_))
          have r_w_12 := rj_any w_12
          refine lv_iload hx hb dX10_go_296 (lv_at hl 4 rfl) ?_
          obtain ⟨w_13, e_w_13⟩ : ∃ q9 : Int64, (x4 : Int32).toInt64 = q9 := ⟨_, rfl⟩
          refine lv_i2l (v := w_13) hx hb dX10_go_298 e_w_13 ?_
          have r_w_13 := tq_i2l r_x4 e_w_13
          refine lv_ladd hx hb dX10_go_299 (lv_topl (fun w_14 e_w_14 => ?_))
          have r_w_14 := rj_any w_14
          refine lv_ldc2 (v := 96) hx hb hown (hts _ tw_1313) dX10_go_300 ?_
          refine lv_lsub hx hb dX10_go_303 (lv_topl (fun w_15 e_w_15 => ?_))
          have r_w_15 := rj_any w_15
          refine tg_put (ci := 10) (ts := ty_MODEL) (v := .long w_15) (ty := .long) (C := RX10) (T := TX10) (N := 49) hx hb hts inX10 tyX10 tyX10_ok nmX10 hown hK hw h_p0 rfl rfl 12 (by decide) (hts _ tw_1149) (fun _ h9 => h9) rfl (by decide +kernel) rfl rfl (ft := vJ (-9223372036854775808) 9223372036854775807) rfl ⟨_, rfl, r_w_15.to (by decide)⟩ (by decide) dX10_go_304 (fun ws H locs hw n_k_16 hF9 => ?_)
          have m_z0_3 := FLD.over hF9 m_z0_3 (by decide)
          have m_z0_4 := FLD.over hF9 m_z0_4 (by decide)
          have m_z0_5 := FLD.over hF9 m_z0_5 (by decide)
          have m_z0_6 := FLD.over hF9 m_z0_6 (by decide)
          have x_TO_p0_gh := TOP.over hF9 x_TO_p0_gh (by decide)
          exact B307 x1 x2 y0 x4 z0_3 z0_4 z0_5 z0_6 ws _ _ ls r_x1 r_x2 r_y0 r_x4 r_z0_3 m_z0_3 r_z0_4 m_z0_4 r_z0_5 m_z0_5 r_z0_6 m_z0_6 x_TO_p0_gh (by have q0 := r_z0_5.1; have u0 := r_z0_5.2; omega) hw (lv_sub hl [1, 2, 3, 0, 4] rfl)
      have B271 : ∀ (x1 : Int32) (x2 : Int32) (x3 : Int32) (x4 : Int32) (z0_3 : Int32) (z0_4 : Int32) (z0_5 : Int32) (z0_6 : Int32) (ws : va_W) (H : Heap) (locs : List Loc) (ls : Array Slot), RI x1 48 122 → RI x2 0 1 → RI x3 0 1 → RI x4 0 255 → RI z0_3 1 940 → FLD ws p0 10 3 (.int z0_3) → RI z0_4 0 2147483647 → FLD ws p0 10 4 (.int z0_4) → RI z0_5 0 939 → FLD ws p0 10 5 (.int z0_5) → RI z0_6 0 940 → FLD ws p0 10 6 (.int z0_6) → TOP ws p0 (gh) → 940 - z0_5.toInt < ((nf215 + 1 : Nat) : Int) → WD D cy GG A s wr_X10_go__1 wa_X10_go__1 Ps w0 Ps ws H locs → lv_has ls 5 [(0, .ref p0), (1, .int x1), (2, .int x2), (3, .int x3), (4, .int x4)] → W p l e (headSpec (Cond.code yX10_go cX10_go 5 none :: gT) ({ frames := 2, cells := 0, slots := 0, locals := 400 } : Room)).room s m ([.ref p0] : List Value).toArray below meth c H locs 0 0 Q (F0 m 271 ls []) := by
        intro x1 x2 x3 x4 z0_3 z0_4 z0_5 z0_6 ws H locs ls r_x1 r_x2 r_x3 r_x4 r_z0_3 m_z0_3 r_z0_4 m_z0_4 r_z0_5 m_z0_5 r_z0_6 m_z0_6 x_TO_p0_gh hn215 hw hl
        refine lv_iconst (v := 0) hx hb dX10_go_271 (by decide) ?_
        exact B272 x1 x2 x3 x4 0 z0_3 z0_4 z0_5 z0_6 ws _ _ ls r_x1 r_x2 r_x3 r_x4 (rl_0.to (by decide)) r_z0_3 m_z0_3 r_z0_4 m_z0_4 r_z0_5 m_z0_5 r_z0_6 m_z0_6 x_TO_p0_gh (by have q0 := r_z0_5.1; have u0 := r_z0_5.2; omega) hw hl
      have B243 : ∀ (x1 : Int32) (x2 : Int32) (x3 : Int32) (z0_3 : Int32) (z0_4 : Int32) (z0_5 : Int32) (z0_6 : Int32) (ws : va_W) (H : Heap) (locs : List Loc) (ls : Array Slot), RI x1 48 122 → RI x2 0 1 → RI x3 0 1 → RI z0_3 1 940 → FLD ws p0 10 3 (.int z0_3) → RI z0_4 0 2147483647 → FLD ws p0 10 4 (.int z0_4) → RI z0_5 0 939 → FLD ws p0 10 5 (.int z0_5) → RI z0_6 0 940 → FLD ws p0 10 6 (.int z0_6) → TOP ws p0 (gh) → 940 - z0_5.toInt < ((nf215 + 1 : Nat) : Int) → WD D cy GG A s wr_X10_go__1 wa_X10_go__1 Ps w0 Ps ws H locs → lv_has ls 5 [(0, .ref p0), (1, .int x1), (2, .int x2), (3, .int x3)] → W p l e (headSpec (Cond.code yX10_go cX10_go 5 none :: gT) ({ frames := 2, cells := 0, slots := 0, locals := 400 } : Room)).room s m ([.ref p0] : List Value).toArray below meth c H locs 0 0 Q (F0 m 243 ls []) := by
        intro x1 x2 x3 z0_3 z0_4 z0_5 z0_6 ws H locs ls r_x1 r_x2 r_x3 r_z0_3 m_z0_3 r_z0_4 m_z0_4 r_z0_5 m_z0_5 r_z0_6 m_z0_6 x_TO_p0_gh hn215 hw hl
        refine lv_aload_n hx hb dX10_go_243 rfl (lv_at hl 0 rfl) ?_
        refine tg_get (ci := 10) (ts := ty_MODEL) (C := RX10) (T := TX10) (N := 49) hx hb hts inX10 hown hK hw h_p0 rfl rfl 1 (by decide) (hts _ tw_1138) (fun _ h9 => h9) (ft := vR 40) rfl dX10_go_244 (fun u_17 hv_u_17 m_u_17 => ?_)
        obtain ⟨vu_17, rfl, h_vu_17⟩ := hv_u_17
        refine lv_aload_n hx hb dX10_go_247 rfl (lv_at hl 0 rfl) ?_
        refine tg_mem (ci := 10) (C := RX10) (T := TX10) (N := 49) hx hb hts inX10 hown hK hw 5 m_z0_5 rfl (by decide) (hts _ tw_1142) (fun _ h9 => h9) dX10_go_248 ?_
        refine tg_iald (lo := 0) (hi := 255) hx hb hK hw h_vu_17 rfl 0 939 r_z0_5 (by decide) (by exact fun _ _ _ => ⟨Int.le_refl _, Int.le_refl _⟩) dX10_go_251 (fun v_18 r_v_18 m_v_18 o_v_18 => ?_)
        refine lv_istore (lv' := [(4, .int v_18), (0, .ref p0), (1, .int x1), (2, .int x2), (3, .int x3)]) hx hb dX10_go_252 hl (by decide) rfl (fun ls hl => ?_)
        refine lv_iload_n hx hb dX10_go_254 rfl (lv_at hl 4 rfl) ?_
        refine lv_if_eq (tgt := 271) hx hb dX10_go_255 (by decide) (fun c_255 => ?_) (fun c_255 => ?_)
        · have r_x3 : RI x3 0 0 := rc_eq1 r_x3 rl_0 (ti_eq c_255) (by decide)
          exact B271 x1 x2 x3 v_18 z0_3 z0_4 z0_5 z0_6 ws _ _ ls r_x1 r_x2 (r_x3.to (by decide)) r_v_18 r_z0_3 m_z0_3 r_z0_4 m_z0_4 r_z0_5 m_z0_5 r_z0_6 m_z0_6 x_TO_p0_gh (by have q0 := r_z0_5.1; have u0 := r_z0_5.2; omega) hw (lv_sub hl [1, 2, 3, 4, 0] rfl)
        · have r_x3 : RI x3 1 1 := rc_neL r_x3 rl_0 (ti_ne c_255) (by decide)
          refine lv_iload hx hb dX10_go_258 (lv_at hl 0 rfl) ?_
          refine tk_ir (va_runS (As := [.int v_18]) (rest := []) ⟨hx, hb, hml, hown, hts⟩ (c_X10_isLetter l D cy z H.size Ps ws hw.1 v_18 r_v_18) (va_cwS 1 hts (gS tw_1302 tw_1303 tw_15 tw_1304) rfl rfl rfl (by decide +kernel) ⟨Nat.le_of_ble_eq_true rfl, Nat.le_of_ble_eq_true rfl⟩) (tg_preS hw hK hSD hA) rfl rfl hl.1 rfl (lv_room (Nat.le_of_ble_eq_true rfl)) dX10_go_260 ⟨Nat.le_of_ble_eq_true rfl, Nat.le_of_ble_eq_true rfl⟩) hw hA (fun v_19  H locs hp_v_19 hw => ?_)
          have r_v_19 : RI v_19 0 1 := hp_v_19.1
          refine lv_iload_n hx hb dX10_go_263 rfl (lv_at hl 3 rfl) ?_
          refine lv_icmp_ne (tgt := 271) hx hb dX10_go_264 (by decide) (fun c_264 => ?_) (fun c_264 => ?_)
          · exact B271 x1 x2 x3 v_18 z0_3 z0_4 z0_5 z0_6 ws _ _ ls r_x1 r_x2 (r_x3.to (by decide)) r_v_18 r_z0_3 m_z0_3 r_z0_4 m_z0_4 r_z0_5 m_z0_5 r_z0_6 m_z0_6 x_TO_p0_gh (by have q0 := r_z0_5.1; have u0 := r_z0_5.2; omega) hw (lv_sub hl [1, 2, 3, 4, 0] rfl)
          · refine lv_iconst (v := 1) hx hb dX10_go_267 (by decide) ?_
            refine lv_goto (tgt := 272) hx hb dX10_go_268 (by decide) ?_
            exact B272 x1 x2 x3 v_18 1 z0_3 z0_4 z0_5 z0_6 ws _ _ ls r_x1 r_x2 (r_x3.to (by decide)) r_v_18 (rl_1.to (by decide)) r_z0_3 m_z0_3 r_z0_4 m_z0_4 r_z0_5 m_z0_5 r_z0_6 m_z0_6 x_TO_p0_gh (by have q0 := r_z0_5.1; have u0 := r_z0_5.2; omega) hw (lv_sub hl [1, 2, 3, 4, 0] rfl)
      intro x1 x2 x3 z0_3 z0_4 z0_5 z0_6 ws H locs ls hn215 r_x1 r_x2 r_x3 r_z0_3 m_z0_3 r_z0_4 m_z0_4 r_z0_5 m_z0_5 r_z0_6 m_z0_6 x_TO_p0_gh hw hl
      refine lv_aload_n hx hb dX10_go_215 rfl (lv_at hl 0 rfl) ?_
      refine lv_aload_n hx hb dX10_go_216 rfl (lv_at hl 0 rfl) ?_
      refine tg_mem (ci := 10) (C := RX10) (T := TX10) (N := 49) hx hb hts inX10 hown hK hw 5 m_z0_5 rfl (by decide) (hts _ tw_1142) (fun _ h9 => h9) dX10_go_217 ?_
      refine tk_ir (va_runV (As := [.int z0_5]) (rest := []) ⟨hx, hb, hml, hown, hts⟩ (c_X10_tapeAt l D cy z H.size Ps ws hw.1 p0 z0_5 h_p0 r_z0_5) (cwV 1 hts (gV tw_1308 tw_1310 ts_41 tw_15 tw_1311) rfl rfl rfl (by decide +kernel) ⟨Nat.le_of_ble_eq_true rfl, Nat.le_of_ble_eq_true rfl⟩) (tg_preV hw hK hSD hA (ci := 10) (q := (RX10, TX10, 49)) rfl h_p0 rfl) rfl rfl hl.1 rfl (lv_room (Nat.le_of_ble_eq_true rfl)) dX10_go_220 ⟨Nat.le_of_ble_eq_true rfl, Nat.le_of_ble_eq_true rfl⟩) hw hA (fun v_20  H locs hp_v_20 hw => ?_)
      have r_v_20 : RI v_20 0 255 := hp_v_20.1
      refine tk_ir (va_runS (As := [.int v_20]) (rest := []) ⟨hx, hb, hml, hown, hts⟩ (c_X10_isLetter l D cy z H.size Ps ws hw.1 v_20 r_v_20) (va_cwS 1 hts (gS tw_1302 tw_1303 tw_15 tw_1304) rfl rfl rfl (by decide +kernel) ⟨Nat.le_of_ble_eq_true rfl, Nat.le_of_ble_eq_true rfl⟩) (tg_preS hw hK hSD hA) rfl rfl hl.1 rfl (lv_room (Nat.le_of_ble_eq_true rfl)) dX10_go_223 ⟨Nat.le_of_ble_eq_true rfl, Nat.le_of_ble_eq_true rfl⟩) hw hA (fun v_21  H locs hp_v_21 hw => ?_)
      have r_v_21 : RI v_21 0 1 := hp_v_21.1
      refine lv_if_ne (tgt := 243) hx hb dX10_go_226 (by decide) (fun c_226 => ?_) (fun c_226 => ?_)
      · have r_v_21 : RI v_21 1 1 := rc_neL r_v_21 rl_0 (ti_ne c_226) (by decide)
        have r_v_20 : RI v_20 97 122 := ((hp_v_21.2.2 c_226).1)
        have r_z0_5 : RI z0_5 0 939 := ((hp_v_20.2.2 (ri_ne0 r_v_20 (by decide))).1)
        exact B243 x1 x2 x3 z0_3 z0_4 z0_5 z0_6 ws _ _ ls r_x1 r_x2 r_x3 r_z0_3 m_z0_3 r_z0_4 m_z0_4 r_z0_5 m_z0_5 r_z0_6 m_z0_6 x_TO_p0_gh (by have q0 := r_z0_5.1; have u0 := r_z0_5.2; omega) hw hl
      · have r_v_21 : RI v_21 0 0 := rc_eq1 r_v_21 rl_0 (ti_eq c_226) (by decide)
        refine lv_aload_n hx hb dX10_go_229 rfl (lv_at hl 0 rfl) ?_
        refine lv_aload_n hx hb dX10_go_230 rfl (lv_at hl 0 rfl) ?_
        refine tg_mem (ci := 10) (C := RX10) (T := TX10) (N := 49) hx hb hts inX10 hown hK hw 5 m_z0_5 rfl (by decide) (hts _ tw_1142) (fun _ h9 => h9) dX10_go_231 ?_
        refine tk_ir (va_runV (As := [.int z0_5]) (rest := []) ⟨hx, hb, hml, hown, hts⟩ (c_X10_tapeAt l D cy z H.size Ps ws hw.1 p0 z0_5 h_p0 r_z0_5) (cwV 1 hts (gV tw_1308 tw_1310 ts_41 tw_15 tw_1311) rfl rfl rfl (by decide +kernel) ⟨Nat.le_of_ble_eq_true rfl, Nat.le_of_ble_eq_true rfl⟩) (tg_preV hw hK hSD hA (ci := 10) (q := (RX10, TX10, 49)) rfl h_p0 rfl) rfl rfl hl.1 rfl (lv_room (Nat.le_of_ble_eq_true rfl)) dX10_go_234 ⟨Nat.le_of_ble_eq_true rfl, Nat.le_of_ble_eq_true rfl⟩) hw hA (fun v_22  H locs hp_v_22 hw => ?_)
        have r_v_22 : RI v_22 0 255 := hp_v_22.1
        refine tk_ir (va_runS (As := [.int v_22]) (rest := []) ⟨hx, hb, hml, hown, hts⟩ (c_X10_isDigit l D cy z H.size Ps ws hw.1 v_22 r_v_22) (va_cwS 1 hts (gS tw_1305 tw_1306 tw_15 tw_1307) rfl rfl rfl (by decide +kernel) ⟨Nat.le_of_ble_eq_true rfl, Nat.le_of_ble_eq_true rfl⟩) (tg_preS hw hK hSD hA) rfl rfl hl.1 rfl (lv_room (Nat.le_of_ble_eq_true rfl)) dX10_go_237 ⟨Nat.le_of_ble_eq_true rfl, Nat.le_of_ble_eq_true rfl⟩) hw hA (fun v_23  H locs hp_v_23 hw => ?_)
        have r_v_23 : RI v_23 0 1 := hp_v_23.1
        refine lv_if_eq (tgt := 350) hx hb dX10_go_240 (by decide) (fun c_240 => ?_) (fun c_240 => ?_)
        · have r_v_23 : RI v_23 0 0 := rc_eq1 r_v_23 rl_0 (ti_eq c_240) (by decide)
          refine lv_aload_n hx hb dX10_go_350 rfl (lv_at hl 0 rfl) ?_
          refine lv_iload_n hx hb dX10_go_351 rfl (lv_at hl 3 rfl) ?_
          refine lv_if_eq (tgt := 377) hx hb dX10_go_352 (by decide) (fun c_352 => ?_) (fun c_352 => ?_)
          · have r_x3 : RI x3 0 0 := rc_eq1 r_x3 rl_0 (ti_eq c_352) (by decide)
            exact B377 x1 x2 x3 z0_3 z0_4 z0_5 z0_6 ws _ _ ls r_x1 r_x2 (r_x3.to (by decide)) r_z0_3 m_z0_3 r_z0_4 m_z0_4 r_z0_5 m_z0_5 r_z0_6 m_z0_6 x_TO_p0_gh hw hl
          · have r_x3 : RI x3 1 1 := rc_neL r_x3 rl_0 (ti_ne c_352) (by decide)
            refine lv_aload_n hx hb dX10_go_355 rfl (lv_at hl 0 rfl) ?_
            refine tg_mem (ci := 10) (C := RX10) (T := TX10) (N := 49) hx hb hts inX10 hown hK hw 5 m_z0_5 rfl (by decide) (hts _ tw_1142) (fun _ h9 => h9) dX10_go_356 ?_
            refine lv_aload_n hx hb dX10_go_359 rfl (lv_at hl 0 rfl) ?_
            refine tg_mem (ci := 10) (C := RX10) (T := TX10) (N := 49) hx hb hts inX10 hown hK hw 6 m_z0_6 rfl (by decide) (hts _ tw_1143) (fun _ h9 => h9) dX10_go_360 ?_
            refine lv_isub hx hb dX10_go_363 (lv_topi (fun v_24 e_v_24 => ?_))
            obtain ⟨t_v_24, r_v_24⟩ := tq_sub (lo := (-940)) (hi := 940) r_z0_5 r_z0_6 (by decide +kernel) e_v_24
            refine lv_iload_n hx hb dX10_go_364 rfl (lv_at hl 2 rfl) ?_
            refine lv_if_eq (tgt := 373) hx hb dX10_go_365 (by decide) (fun c_365 => ?_) (fun c_365 => ?_)
            · have r_x2 : RI x2 0 0 := rc_eq1 r_x2 rl_0 (ti_eq c_365) (by decide)
              refine lv_iconst (v := 3) hx hb dX10_go_373 (by decide) ?_
              exact B374 x1 x2 x3 3 v_24 z0_3 z0_4 z0_5 z0_6 ws _ _ ls r_x1 (r_x2.to (by decide)) r_x3 (rl_3.to (by decide)) r_v_24 r_z0_3 m_z0_3 r_z0_4 m_z0_4 r_z0_5 m_z0_5 r_z0_6 m_z0_6 x_TO_p0_gh hw hl
            · have r_x2 : RI x2 1 1 := rc_neL r_x2 rl_0 (ti_ne c_365) (by decide)
              refine lv_bipush (v := 7) hx hb dX10_go_368 (by decide) ?_
              refine lv_goto (tgt := 374) hx hb dX10_go_370 (by decide) ?_
              exact B374 x1 x2 x3 7 v_24 z0_3 z0_4 z0_5 z0_6 ws _ _ ls r_x1 (r_x2.to (by decide)) r_x3 (rl_7.to (by decide)) r_v_24 r_z0_3 m_z0_3 r_z0_4 m_z0_4 r_z0_5 m_z0_5 r_z0_6 m_z0_6 x_TO_p0_gh hw hl
        · have r_v_23 : RI v_23 1 1 := rc_neL r_v_23 rl_0 (ti_ne c_240) (by decide)
          have r_v_22 : RI v_22 48 57 := ((hp_v_23.2.2 c_240).1)
          have r_z0_5 : RI z0_5 0 939 := ((hp_v_22.2.2 (ri_ne0 r_v_22 (by decide))).1)
          exact B243 x1 x2 x3 z0_3 z0_4 z0_5 z0_6 ws _ _ ls r_x1 r_x2 r_x3 r_z0_3 m_z0_3 r_z0_4 m_z0_4 r_z0_5 m_z0_5 r_z0_6 m_z0_6 x_TO_p0_gh (by have q0 := r_z0_5.1; have u0 := r_z0_5.2; omega) hw hl
  have B198 : ∀ (x1 : Int32) (z0_3 : Int32) (z0_4 : Int32) (z0_5 : Int32) (z0_6 : Int32) (ws : va_W) (H : Heap) (locs : List Loc) (ls : Array Slot), RI x1 48 122 → RI z0_3 1 940 → FLD ws p0 10 3 (.int z0_3) → RI z0_4 0 2147483647 → FLD ws p0 10 4 (.int z0_4) → RI z0_5 0 939 → FLD ws p0 10 5 (.int z0_5) → RI z0_6 0 940 → FLD ws p0 10 6 (.int z0_6) → TOP ws p0 (gh) → WD D cy GG A s wr_X10_go__1 wa_X10_go__1 Ps w0 Ps ws H locs → lv_has ls 5 [(0, .ref p0), (1, .int x1)] → W p l e (headSpec (Cond.code yX10_go cX10_go 5 none :: gT) ({ frames := 2, cells := 0, slots := 0, locals := 400 } : Room)).room s m ([.ref p0] : List Value).toArray below meth c H locs 0 0 Q (F0 m 198 ls []) := by
    intro x1 z0_3 z0_4 z0_5 z0_6 ws H locs ls r_x1 r_z0_3 m_z0_3 r_z0_4 m_z0_4 r_z0_5 m_z0_5 r_z0_6 m_z0_6 x_TO_p0_gh hw hl
    refine lv_iload_n hx hb dX10_go_198 rfl (lv_at hl 1 rfl) ?_
    refine tk_ir (va_runS (As := [.int x1]) (rest := []) ⟨hx, hb, hml, hown, hts⟩ (c_X10_isLetter__1 l D cy z H.size Ps ws hw.1 x1 r_x1) (va_cwS 1 hts (gS tw_1302 tw_1303 tw_15 tw_1304) rfl rfl rfl (by decide +kernel) ⟨Nat.le_of_ble_eq_true rfl, Nat.le_of_ble_eq_true rfl⟩) (tg_preS hw hK hSD hA) rfl rfl hl.1 rfl (lv_room (Nat.le_of_ble_eq_true rfl)) dX10_go_199 ⟨Nat.le_of_ble_eq_true rfl, Nat.le_of_ble_eq_true rfl⟩) hw hA (fun v_25  H locs hp_v_25 hw => ?_)
    have r_v_25 : RI v_25 0 1 := hp_v_25.1
    refine lv_istore_n (lv' := [(2, .int v_25), (0, .ref p0), (1, .int x1)]) hx hb dX10_go_202 rfl hl (by decide) rfl (fun ls hl => ?_)
    refine lv_iconst (v := 1) hx hb dX10_go_203 (by decide) ?_
    refine lv_istore_n (lv' := [(3, .int 1), (2, .int v_25), (0, .ref p0), (1, .int x1)]) hx hb dX10_go_204 rfl hl (by decide) rfl (fun ls hl => ?_)
    refine lv_aload_n hx hb dX10_go_205 rfl (lv_at hl 2 rfl) ?_
    refine lv_lconst (v := 0) hx hb dX10_go_206 (by decide) ?_
    refine tg_put (ci := 10) (ts := ty_MODEL) (v := .long 0) (ty := .long) (C := RX10) (T := TX10) (N := 49) hx hb hts inX10 tyX10 tyX10_ok nmX10 hown hK hw h_p0 rfl rfl 12 (by decide) (hts _ tw_1149) (fun _ h9 => h9) rfl (by decide +kernel) rfl rfl (ft := vJ (-9223372036854775808) 9223372036854775807) rfl ⟨_, rfl, rk_0.to (by decide)⟩ (by decide) dX10_go_207 (fun ws H locs hw n_k_26 hF9 => ?_)
    have m_z0_3 := FLD.over hF9 m_z0_3 (by decide)
    have m_z0_4 := FLD.over hF9 m_z0_4 (by decide)
    have m_z0_5 := FLD.over hF9 m_z0_5 (by decide)
    have m_z0_6 := FLD.over hF9 m_z0_6 (by decide)
    have x_TO_p0_gh := TOP.over hF9 x_TO_p0_gh (by decide)
    refine lv_aload_n hx hb dX10_go_210 rfl (lv_at hl 2 rfl) ?_
    refine lv_iconst (v := 0) hx hb dX10_go_211 (by decide) ?_
    refine tg_put (ci := 10) (ts := ty_MODEL) (v := .int 0) (ty := .int) (C := RX10) (T := TX10) (N := 49) hx hb hts inX10 tyX10 tyX10_ok nmX10 hown hK hw h_p0 rfl rfl 8 (by decide) (hts _ tw_1145) (fun _ h9 => h9) rfl (by decide +kernel) rfl rfl (ft := vI (-2147483648) 2147483647) rfl ⟨_, rfl, (rl_0.to (by decide))⟩ (by decide) dX10_go_212 (fun ws H locs hw n_k_27 hF9 => ?_)
    have m_z0_3 := FLD.over hF9 m_z0_3 (by decide)
    have m_z0_4 := FLD.over hF9 m_z0_4 (by decide)
    have m_z0_5 := FLD.over hF9 m_z0_5 (by decide)
    have m_z0_6 := FLD.over hF9 m_z0_6 (by decide)
    have x_TO_p0_gh := TOP.over hF9 x_TO_p0_gh (by decide)
    exact B215 4294967298 x1 v_25 1 z0_3 z0_4 z0_5 z0_6 ws _ _ ls (by have q0 := r_z0_5.1; have u0 := r_z0_5.2; omega) r_x1 r_v_25 (rl_1.to (by decide)) r_z0_3 m_z0_3 r_z0_4 m_z0_4 (r_z0_5.to (by decide)) m_z0_5 r_z0_6 m_z0_6 x_TO_p0_gh hw (lv_sub hl [2, 3, 1, 0] rfl)
  have B179 : ∀ (x1 : Int32) (y0 : Int32) (z0_3 : Int32) (z0_4 : Int32) (z0_5 : Int32) (z0_6 : Int32) (ws : va_W) (H : Heap) (locs : List Loc) (ls : Array Slot), RI x1 0 255 → RI y0 1 4 → RI z0_3 1 940 → FLD ws p0 10 3 (.int z0_3) → RI z0_4 0 2147483647 → FLD ws p0 10 4 (.int z0_4) → RI z0_5 0 939 → FLD ws p0 10 5 (.int z0_5) → RI z0_6 0 940 → FLD ws p0 10 6 (.int z0_6) → TOP ws p0 (gh) → WD D cy GG A s wr_X10_go__1 wa_X10_go__1 Ps w0 Ps ws H locs → lv_has ls 5 [(0, .ref p0), (1, .int x1)] → W p l e (headSpec (Cond.code yX10_go cX10_go 5 none :: gT) ({ frames := 2, cells := 0, slots := 0, locals := 400 } : Room)).room s m ([.ref p0] : List Value).toArray below meth c H locs 0 0 Q (F0 m 179 ls [.int y0, .ref p0]) := by
    intro x1 y0 z0_3 z0_4 z0_5 z0_6 ws H locs ls r_x1 r_y0 r_z0_3 m_z0_3 r_z0_4 m_z0_4 r_z0_5 m_z0_5 r_z0_6 m_z0_6 x_TO_p0_gh hw hl
    refine tg_put (ci := 10) (ts := ty_MODEL) (v := .int y0) (ty := .int) (C := RX10) (T := TX10) (N := 49) hx hb hts inX10 tyX10 tyX10_ok nmX10 hown hK hw h_p0 rfl rfl 7 (by decide) (hts _ tw_1144) (fun _ h9 => h9) rfl (by decide +kernel) rfl rfl (ft := vI (-2147483648) 2147483647) rfl ⟨_, rfl, (r_y0.to (by decide))⟩ (by decide) dX10_go_179 (fun ws H locs hw n_k_28 hF9 => ?_)
    have m_z0_3 := FLD.over hF9 m_z0_3 (by decide)
    have m_z0_4 := FLD.over hF9 m_z0_4 (by decide)
    have m_z0_5 := FLD.over hF9 m_z0_5 (by decide)
    have m_z0_6 := FLD.over hF9 m_z0_6 (by decide)
    have x_TO_p0_gh := TOP.over hF9 x_TO_p0_gh (by decide)
    refine lv_aload_n hx hb dX10_go_182 rfl (lv_at hl 0 rfl) ?_
    refine lv_iload_n hx hb dX10_go_183 rfl (lv_at hl 1 rfl) ?_
    refine tg_put (ci := 10) (ts := ty_MODEL) (v := .int x1) (ty := .int) (C := RX10) (T := TX10) (N := 49) hx hb hts inX10 tyX10 tyX10_ok nmX10 hown hK hw h_p0 rfl rfl 9 (by decide) (hts _ tw_1146) (fun _ h9 => h9) rfl (by decide +kernel) rfl rfl (ft := vI (-2147483648) 2147483647) rfl ⟨_, rfl, (r_x1.to (by decide))⟩ (by decide) dX10_go_184 (fun ws H locs hw n_k_29 hF9 => ?_)
    have m_z0_3 := FLD.over hF9 m_z0_3 (by decide)
    have m_z0_4 := FLD.over hF9 m_z0_4 (by decide)
    have m_z0_5 := FLD.over hF9 m_z0_5 (by decide)
    have m_z0_6 := FLD.over hF9 m_z0_6 (by decide)
    have n_k_28 := FLD.over hF9 n_k_28 (by decide)
    have x_TO_p0_gh := TOP.over hF9 x_TO_p0_gh (by decide)
    refine lv_aload_n hx hb dX10_go_187 rfl (lv_at hl 0 rfl) ?_
    refine lv_dup hx hb dX10_go_188 rfl ?_
    refine tg_mem (ci := 10) (C := RX10) (T := TX10) (N := 49) hx hb hts inX10 hown hK hw 5 m_z0_5 rfl (by decide) (hts _ tw_1142) (fun _ h9 => h9) dX10_go_189 ?_
    refine lv_iconst (v := 1) hx hb dX10_go_192 (by decide) ?_
    refine lv_iadd hx hb dX10_go_193 (lv_topi (fun v_30 e_v_30 => ?_))
    obtain ⟨t_v_30, r_v_30⟩ := tq_add (lo := 1) (hi := 940) r_z0_5 rl_1 (by decide +kernel) e_v_30
    have t_v_30 : v_30.toInt = z0_5.toInt + 1 := t_v_30
    have g9 := TOP.get hw x_TO_p0_gh m_z0_5
    refine tg_put (ci := 10) (ts := ty_MODEL) (v := .int v_30) (ty := .int) (C := RX10) (T := TX10) (N := 49) hx hb hts inX10 tyX10 tyX10_ok nmX10 hown hK hw h_p0 rfl rfl 5 (by decide) (hts _ tw_1142) (fun _ h9 => h9) rfl (by decide +kernel) rfl rfl (ft := vI 0 940) rfl ⟨_, rfl, (r_v_30.to (by decide))⟩ (by decide) dX10_go_194 (fun ws H locs hw n_k_31 hF9 => ?_)
    have m_z0_3 := FLD.over hF9 m_z0_3 (by decide)
    have m_z0_4 := FLD.over hF9 m_z0_4 (by decide)
    have m_z0_6 := FLD.over hF9 m_z0_6 (by decide)
    have n_k_28 := FLD.over hF9 n_k_28 (by decide)
    have n_k_29 := FLD.over hF9 n_k_29 (by decide)
    have x_TO_p0_gh : TOP ws p0 (gh) := ⟨_, n_k_31, by have k1 := r_v_30.2; omega, by have k1 := r_v_30.2; omega⟩
    have g8 := TOP.get hw x_TO_p0_gh n_k_31
    have x_TOK_p0_gh : TKP ws p0 (gh) := ⟨_, _, n_k_31, n_k_28, g8, r_v_30.2, fun h9 => by have k1 := r_y0; unfold RI at k1; omega⟩
    subst hQ
    exact W.vret hx hb hr (fun t ht hW => ⟨⟨ws, rfl, ⟨⟨x_TOK_p0_gh, trivial⟩, hw.1, hw.2.2.2.2.1⟩, by rw [ht]; exact hw.2.1, va_K.moved hW.alike hK, hw.2.2.1⟩, hw.2.2.2.1.F ht⟩) hw.2.2.2.1.2.2 dX10_go_197
  have B174 : ∀ (x1 : Int32) (z0_3 : Int32) (z0_4 : Int32) (z0_5 : Int32) (z0_6 : Int32) (ws : va_W) (H : Heap) (locs : List Loc) (ls : Array Slot), RI x1 40 62 → RI z0_3 1 940 → FLD ws p0 10 3 (.int z0_3) → RI z0_4 0 2147483647 → FLD ws p0 10 4 (.int z0_4) → RI z0_5 0 939 → FLD ws p0 10 5 (.int z0_5) → RI z0_6 0 940 → FLD ws p0 10 6 (.int z0_6) → TOP ws p0 (gh) → WD D cy GG A s wr_X10_go__1 wa_X10_go__1 Ps w0 Ps ws H locs → lv_has ls 5 [(0, .ref p0), (1, .int x1)] → W p l e (headSpec (Cond.code yX10_go cX10_go 5 none :: gT) ({ frames := 2, cells := 0, slots := 0, locals := 400 } : Room)).room s m ([.ref p0] : List Value).toArray below meth c H locs 0 0 Q (F0 m 174 ls [.ref p0]) := by
    intro x1 z0_3 z0_4 z0_5 z0_6 ws H locs ls r_x1 r_z0_3 m_z0_3 r_z0_4 m_z0_4 r_z0_5 m_z0_5 r_z0_6 m_z0_6 x_TO_p0_gh hw hl
    refine lv_iconst (v := 4) hx hb dX10_go_174 (by decide) ?_
    refine lv_goto (tgt := 179) hx hb dX10_go_175 (by decide) ?_
    exact B179 x1 4 z0_3 z0_4 z0_5 z0_6 ws _ _ ls (r_x1.to (by decide)) (rl_4.to (by decide)) r_z0_3 m_z0_3 r_z0_4 m_z0_4 r_z0_5 m_z0_5 r_z0_6 m_z0_6 x_TO_p0_gh hw hl
  have B96 : ∀ (z0_4 : Int32) (z0_5 : Int32) (z0_6 : Int32) (ws : va_W) (H : Heap) (locs : List Loc) (ls : Array Slot), RI z0_4 0 2147483647 → FLD ws p0 10 4 (.int z0_4) → RI z0_5 0 940 → FLD ws p0 10 5 (.int z0_5) → RI z0_6 0 940 → FLD ws p0 10 6 (.int z0_6) → TOP ws p0 (gh) → WD D cy GG A s wr_X10_go__1 wa_X10_go__1 Ps w0 Ps ws H locs → lv_has ls 5 [(0, .ref p0)] → W p l e (headSpec (Cond.code yX10_go cX10_go 5 none :: gT) ({ frames := 2, cells := 0, slots := 0, locals := 400 } : Room)).room s m ([.ref p0] : List Value).toArray below meth c H locs 0 0 Q (F0 m 96 ls []) := by
    intro z0_4 z0_5 z0_6 ws H locs ls r_z0_4 m_z0_4 r_z0_5 m_z0_5 r_z0_6 m_z0_6 x_TO_p0_gh hw hl
    refine lv_aload_n hx hb dX10_go_96 rfl (lv_at hl 0 rfl) ?_
    refine tg_mem (ci := 10) (C := RX10) (T := TX10) (N := 49) hx hb hts inX10 hown hK hw 5 m_z0_5 rfl (by decide) (hts _ tw_1142) (fun _ h9 => h9) dX10_go_97 ?_
    refine lv_aload_n hx hb dX10_go_100 rfl (lv_at hl 0 rfl) ?_
    refine tg_get (ci := 10) (ts := ty_MODEL) (C := RX10) (T := TX10) (N := 49) hx hb hts inX10 hown hK hw h_p0 rfl rfl 3 (by decide) (hts _ tw_1140) (fun _ h9 => h9) (ft := vI 0 940) rfl dX10_go_101 (fun u_32 hv_u_32 m_u_32 => ?_)
    obtain ⟨vu_32, rfl, r_vu_32⟩ := hv_u_32
    refine lv_icmp_lt (tgt := 113) hx hb dX10_go_104 (by decide) (fun c_104 => ?_) (fun c_104 => ?_)
    · have r_z0_5 : RI z0_5 0 939 := rc_lt1 r_z0_5 r_vu_32 (ti_lt c_104) (by decide)
      have r_vu_32 : RI vu_32 1 940 := rc_lt2 r_z0_5 r_vu_32 (ti_lt c_104) (by decide)
      refine lv_aload_n hx hb dX10_go_113 rfl (lv_at hl 0 rfl) ?_
      refine tg_get (ci := 10) (ts := ty_MODEL) (C := RX10) (T := TX10) (N := 49) hx hb hts inX10 hown hK hw h_p0 rfl rfl 1 (by decide) (hts _ tw_1138) (fun _ h9 => h9) (ft := vR 40) rfl dX10_go_114 (fun u_33 hv_u_33 m_u_33 => ?_)
      obtain ⟨vu_33, rfl, h_vu_33⟩ := hv_u_33
      refine lv_aload_n hx hb dX10_go_117 rfl (lv_at hl 0 rfl) ?_
      refine tg_mem (ci := 10) (C := RX10) (T := TX10) (N := 49) hx hb hts inX10 hown hK hw 5 m_z0_5 rfl (by decide) (hts _ tw_1142) (fun _ h9 => h9) dX10_go_118 ?_
      refine tg_iald (lo := 0) (hi := 255) hx hb hK hw h_vu_33 rfl 0 939 r_z0_5 (by decide) (by exact fun _ _ _ => ⟨Int.le_refl _, Int.le_refl _⟩) dX10_go_121 (fun v_34 r_v_34 m_v_34 o_v_34 => ?_)
      refine lv_istore_n (lv' := [(1, .int v_34), (0, .ref p0)]) hx hb dX10_go_122 rfl hl (by decide) rfl (fun ls hl => ?_)
      refine lv_iload_n hx hb dX10_go_123 rfl (lv_at hl 0 rfl) ?_
      refine tk_ir (va_runS (As := [.int v_34]) (rest := []) ⟨hx, hb, hml, hown, hts⟩ (c_X10_isLetter l D cy z H.size Ps ws hw.1 v_34 r_v_34) (va_cwS 1 hts (gS tw_1302 tw_1303 tw_15 tw_1304) rfl rfl rfl (by decide +kernel) ⟨Nat.le_of_ble_eq_true rfl, Nat.le_of_ble_eq_true rfl⟩) (tg_preS hw hK hSD hA) rfl rfl hl.1 rfl (lv_room (Nat.le_of_ble_eq_true rfl)) dX10_go_124 ⟨Nat.le_of_ble_eq_true rfl, Nat.le_of_ble_eq_true rfl⟩) hw hA (fun v_35  H locs hp_v_35 hw => ?_)
      have r_v_35 : RI v_35 0 1 := hp_v_35.1
      refine lv_if_ne (tgt := 198) hx hb dX10_go_127 (by decide) (fun c_127 => ?_) (fun c_127 => ?_)
      · have r_v_35 : RI v_35 1 1 := rc_neL r_v_35 rl_0 (ti_ne c_127) (by decide)
        have r_v_34 : RI v_34 97 122 := ((hp_v_35.2.2 c_127).1)
        exact B198 v_34 vu_32 z0_4 z0_5 z0_6 ws _ _ ls (r_v_34.to (by decide)) r_vu_32 m_u_32 r_z0_4 m_z0_4 r_z0_5 m_z0_5 r_z0_6 m_z0_6 x_TO_p0_gh hw (lv_sub hl [1, 0] rfl)
      · have r_v_35 : RI v_35 0 0 := rc_eq1 r_v_35 rl_0 (ti_eq c_127) (by decide)
        refine lv_iload_n hx hb dX10_go_130 rfl (lv_at hl 0 rfl) ?_
        refine tk_ir (va_runS (As := [.int v_34]) (rest := []) ⟨hx, hb, hml, hown, hts⟩ (c_X10_isDigit l D cy z H.size Ps ws hw.1 v_34 r_v_34) (va_cwS 1 hts (gS tw_1305 tw_1306 tw_15 tw_1307) rfl rfl rfl (by decide +kernel) ⟨Nat.le_of_ble_eq_true rfl, Nat.le_of_ble_eq_true rfl⟩) (tg_preS hw hK hSD hA) rfl rfl hl.1 rfl (lv_room (Nat.le_of_ble_eq_true rfl)) dX10_go_131 ⟨Nat.le_of_ble_eq_true rfl, Nat.le_of_ble_eq_true rfl⟩) hw hA (fun v_36  H locs hp_v_36 hw => ?_)
        have r_v_36 : RI v_36 0 1 := hp_v_36.1
        refine lv_if_ne (tgt := 198) hx hb dX10_go_134 (by decide) (fun c_134 => ?_) (fun c_134 => ?_)
        · have r_v_36 : RI v_36 1 1 := rc_neL r_v_36 rl_0 (ti_ne c_134) (by decide)
          have r_v_34 : RI v_34 48 57 := ((hp_v_36.2.2 c_134).1)
          exact B198 v_34 vu_32 z0_4 z0_5 z0_6 ws _ _ ls (r_v_34.to (by decide)) r_vu_32 m_u_32 r_z0_4 m_z0_4 r_z0_5 m_z0_5 r_z0_6 m_z0_6 x_TO_p0_gh hw (lv_sub hl [1, 0] rfl)
        · have r_v_36 : RI v_36 0 0 := rc_eq1 r_v_36 rl_0 (ti_eq c_134) (by decide)
          refine lv_aload_n hx hb dX10_go_137 rfl (lv_at hl 1 rfl) ?_
          refine lv_iload_n hx hb dX10_go_138 rfl (lv_at hl 0 rfl) ?_
          refine lv_bipush (v := 59) hx hb dX10_go_139 (by decide) ?_
          refine lv_icmp_eq (tgt := 174) hx hb dX10_go_141 (by decide) (fun c_141 => ?_) (fun c_141 => ?_)
          · have r_v_34 : RI v_34 59 59 := rc_eq1 r_v_34 rl_59 (ti_eq c_141) (by decide)
            exact B174 v_34 vu_32 z0_4 z0_5 z0_6 ws _ _ ls (r_v_34.to (by decide)) r_vu_32 m_u_32 r_z0_4 m_z0_4 r_z0_5 m_z0_5 r_z0_6 m_z0_6 x_TO_p0_gh hw (lv_sub hl [1, 0] rfl)
          · refine lv_iload_n hx hb dX10_go_144 rfl (lv_at hl 0 rfl) ?_
            refine lv_bipush (v := 60) hx hb dX10_go_145 (by decide) ?_
            refine lv_icmp_eq (tgt := 174) hx hb dX10_go_147 (by decide) (fun c_147 => ?_) (fun c_147 => ?_)
            · have r_v_34 : RI v_34 60 60 := rc_eq1 r_v_34 rl_60 (ti_eq c_147) (by decide)
              exact B174 v_34 vu_32 z0_4 z0_5 z0_6 ws _ _ ls (r_v_34.to (by decide)) r_vu_32 m_u_32 r_z0_4 m_z0_4 r_z0_5 m_z0_5 r_z0_6 m_z0_6 x_TO_p0_gh hw (lv_sub hl [1, 0] rfl)
            · refine lv_iload_n hx hb dX10_go_150 rfl (lv_at hl 0 rfl) ?_
              refine lv_bipush (v := 61) hx hb dX10_go_151 (by decide) ?_
              refine lv_icmp_eq (tgt := 174) hx hb dX10_go_153 (by decide) (fun c_153 => ?_) (fun c_153 => ?_)
              · have r_v_34 : RI v_34 61 61 := rc_eq1 r_v_34 rl_61 (ti_eq c_153) (by decide)
                exact B174 v_34 vu_32 z0_4 z0_5 z0_6 ws _ _ ls (r_v_34.to (by decide)) r_vu_32 m_u_32 r_z0_4 m_z0_4 r_z0_5 m_z0_5 r_z0_6 m_z0_6 x_TO_p0_gh hw (lv_sub hl [1, 0] rfl)
              · refine lv_iload_n hx hb dX10_go_156 rfl (lv_at hl 0 rfl) ?_
                refine lv_bipush (v := 62) hx hb dX10_go_157 (by decide) ?_
                refine lv_icmp_eq (tgt := 174) hx hb dX10_go_159 (by decide) (fun c_159 => ?_) (fun c_159 => ?_)
                · have r_v_34 : RI v_34 62 62 := rc_eq1 r_v_34 rl_62 (ti_eq c_159) (by decide)
                  exact B174 v_34 vu_32 z0_4 z0_5 z0_6 ws _ _ ls (r_v_34.to (by decide)) r_vu_32 m_u_32 r_z0_4 m_z0_4 r_z0_5 m_z0_5 r_z0_6 m_z0_6 x_TO_p0_gh hw (lv_sub hl [1, 0] rfl)
                · refine lv_iload_n hx hb dX10_go_162 rfl (lv_at hl 0 rfl) ?_
                  refine lv_bipush (v := 40) hx hb dX10_go_163 (by decide) ?_
                  refine lv_icmp_eq (tgt := 174) hx hb dX10_go_165 (by decide) (fun c_165 => ?_) (fun c_165 => ?_)
                  · have r_v_34 : RI v_34 40 40 := rc_eq1 r_v_34 rl_40 (ti_eq c_165) (by decide)
                    exact B174 v_34 vu_32 z0_4 z0_5 z0_6 ws _ _ ls (r_v_34.to (by decide)) r_vu_32 m_u_32 r_z0_4 m_z0_4 r_z0_5 m_z0_5 r_z0_6 m_z0_6 x_TO_p0_gh hw (lv_sub hl [1, 0] rfl)
                  · refine lv_iload_n hx hb dX10_go_168 rfl (lv_at hl 0 rfl) ?_
                    refine lv_bipush (v := 41) hx hb dX10_go_169 (by decide) ?_
                    refine lv_icmp_ne (tgt := 178) hx hb dX10_go_171 (by decide) (fun c_171 => ?_) (fun c_171 => ?_)
                    · refine lv_iconst (v := 1) hx hb dX10_go_178 (by decide) ?_
                      exact B179 v_34 1 vu_32 z0_4 z0_5 z0_6 ws _ _ ls r_v_34 (rl_1.to (by decide)) r_vu_32 m_u_32 r_z0_4 m_z0_4 r_z0_5 m_z0_5 r_z0_6 m_z0_6 x_TO_p0_gh hw (lv_sub hl [1, 0] rfl)
                    · have r_v_34 : RI v_34 41 41 := rc_eq1 r_v_34 rl_41 (ti_eq c_171) (by decide)
                      exact B174 v_34 vu_32 z0_4 z0_5 z0_6 ws _ _ ls (r_v_34.to (by decide)) r_vu_32 m_u_32 r_z0_4 m_z0_4 r_z0_5 m_z0_5 r_z0_6 m_z0_6 x_TO_p0_gh hw (lv_sub hl [1, 0] rfl)
    · refine lv_aload_n hx hb dX10_go_107 rfl (lv_at hl 0 rfl) ?_
      refine lv_iconst (v := 0) hx hb dX10_go_108 (by decide) ?_
      refine tg_put (ci := 10) (ts := ty_MODEL) (v := .int 0) (ty := .int) (C := RX10) (T := TX10) (N := 49) hx hb hts inX10 tyX10 tyX10_ok nmX10 hown hK hw h_p0 rfl rfl 7 (by decide) (hts _ tw_1144) (fun _ h9 => h9) rfl (by decide +kernel) rfl rfl (ft := vI (-2147483648) 2147483647) rfl ⟨_, rfl, (rl_0.to (by decide))⟩ (by decide) dX10_go_109 (fun ws H locs hw n_k_37 hF9 => ?_)
      have m_z0_4 := FLD.over hF9 m_z0_4 (by decide)
      have m_z0_5 := FLD.over hF9 m_z0_5 (by decide)
      have m_z0_6 := FLD.over hF9 m_z0_6 (by decide)
      have m_u_32 := FLD.over hF9 m_u_32 (by decide)
      have x_TO_p0_gh := TOP.over hF9 x_TO_p0_gh (by decide)
      have g8 := TOP.get hw x_TO_p0_gh m_z0_5
      have x_TOK_p0_gh : TKP ws p0 (gh) := ⟨_, _, m_z0_5, n_k_37, g8, r_z0_5.2, fun h9 => by have k1 := rl_0; unfold RI at k1; omega⟩
      subst hQ
      exact W.vret hx hb hr (fun t ht hW => ⟨⟨ws, rfl, ⟨⟨x_TOK_p0_gh, trivial⟩, hw.1, hw.2.2.2.2.1⟩, by rw [ht]; exact hw.2.1, va_K.moved hW.alike hK, hw.2.2.1⟩, hw.2.2.2.1.F ht⟩) hw.2.2.2.1.2.2 dX10_go_112
  have B52 : ∀ (z0_5 : Int32) (ws : va_W) (H : Heap) (locs : List Loc) (ls : Array Slot), RI z0_5 0 940 → FLD ws p0 10 5 (.int z0_5) → TOP ws p0 (gh) → WD D cy GG A s wr_X10_go__1 wa_X10_go__1 Ps w0 Ps ws H locs → lv_has ls 5 [(0, .ref p0)] → W p l e (headSpec (Cond.code yX10_go cX10_go 5 none :: gT) ({ frames := 2, cells := 0, slots := 0, locals := 400 } : Room)).room s m ([.ref p0] : List Value).toArray below meth c H locs 0 0 Q (F0 m 52 ls []) := by
    intro z0_5 ws H locs ls r_z0_5 m_z0_5 x_TO_p0_gh hw hl
    refine lv_aload_n hx hb dX10_go_52 rfl (lv_at hl 0 rfl) ?_
    refine lv_aload_n hx hb dX10_go_53 rfl (lv_at hl 0 rfl) ?_
    refine tg_mem (ci := 10) (C := RX10) (T := TX10) (N := 49) hx hb hts inX10 hown hK hw 5 m_z0_5 rfl (by decide) (hts _ tw_1142) (fun _ h9 => h9) dX10_go_54 ?_
    refine tg_put (ci := 10) (ts := ty_MODEL) (v := .int z0_5) (ty := .int) (C := RX10) (T := TX10) (N := 49) hx hb hts inX10 tyX10 tyX10_ok nmX10 hown hK hw h_p0 rfl rfl 6 (by decide) (hts _ tw_1143) (fun _ h9 => h9) rfl (by decide +kernel) rfl rfl (ft := vI (-2147483648) 2147483647) rfl ⟨_, rfl, (r_z0_5.to (by decide))⟩ (by decide) dX10_go_57 (fun ws H locs hw n_k_38 hF9 => ?_)
    have m_z0_5 := FLD.over hF9 m_z0_5 (by decide)
    have x_TO_p0_gh := TOP.over hF9 x_TO_p0_gh (by decide)
    refine lv_aload_n hx hb dX10_go_60 rfl (lv_at hl 0 rfl) ?_
    refine tg_get (ci := 10) (ts := ty_MODEL) (C := RX10) (T := TX10) (N := 49) hx hb hts inX10 hown hK hw h_p0 rfl rfl 3 (by decide) (hts _ tw_1140) (fun _ h9 => h9) (ft := vI 0 940) rfl dX10_go_61 (fun u_39 hv_u_39 m_u_39 => ?_)
    obtain ⟨vu_39, rfl, r_vu_39⟩ := hv_u_39
    refine lv_aload_n hx hb dX10_go_64 rfl (lv_at hl 0 rfl) ?_
    refine tg_get (ci := 10) (ts := ty_MODEL) (C := RX10) (T := TX10) (N := 49) hx hb hts inX10 hown hK hw h_p0 rfl rfl 4 (by decide) (hts _ tw_1141) (fun _ h9 => h9) (ft := vI (-2147483648) 2147483647) rfl dX10_go_65 (fun u_40 hv_u_40 m_u_40 => ?_)
    obtain ⟨vu_40, rfl, r_vu_40⟩ := hv_u_40
    refine lv_icmp_le (tgt := 96) hx hb dX10_go_68 (by decide) (fun c_68 => ?_) (fun c_68 => ?_)
    · have r_vu_40 : RI vu_40 0 2147483647 := rc_le2 r_vu_39 r_vu_40 (ti_le c_68) (by decide)
      exact B96 vu_40 z0_5 z0_5 ws _ _ ls r_vu_40 m_u_40 r_z0_5 m_z0_5 r_z0_5 n_k_38 x_TO_p0_gh hw hl
    · have r_vu_40 : RI vu_40 (-2147483648) 939 := rc_lt1 r_vu_40 r_vu_39 (ti_nle c_68) (by decide)
      refine lv_aload_n hx hb dX10_go_71 rfl (lv_at hl 0 rfl) ?_
      refine tg_mem (ci := 10) (C := RX10) (T := TX10) (N := 49) hx hb hts inX10 hown hK hw 6 n_k_38 rfl (by decide) (hts _ tw_1143) (fun _ h9 => h9) dX10_go_72 ?_
      refine lv_aload_n hx hb dX10_go_75 rfl (lv_at hl 0 rfl) ?_
      refine tg_mem (ci := 10) (C := RX10) (T := TX10) (N := 49) hx hb hts inX10 hown hK hw 4 m_u_40 rfl (by decide) (hts _ tw_1141) (fun _ h9 => h9) dX10_go_76 ?_
      refine lv_icmp_lt (tgt := 96) hx hb dX10_go_79 (by decide) (fun c_79 => ?_) (fun c_79 => ?_)
      · have r_z0_5 : RI z0_5 0 938 := rc_lt1 r_z0_5 r_vu_40 (ti_lt c_79) (by decide)
        have r_vu_40 : RI vu_40 1 939 := rc_lt2 r_z0_5 r_vu_40 (ti_lt c_79) (by decide)
        exact B96 vu_40 z0_5 z0_5 ws _ _ ls (r_vu_40.to (by decide)) m_u_40 (r_z0_5.to (by decide)) m_z0_5 (r_z0_5.to (by decide)) n_k_38 x_TO_p0_gh hw hl
      · refine lv_aload_n hx hb dX10_go_82 rfl (lv_at hl 0 rfl) ?_
        refine lv_aload_n hx hb dX10_go_83 rfl (lv_at hl 0 rfl) ?_
        refine tg_mem (ci := 10) (C := RX10) (T := TX10) (N := 49) hx hb hts inX10 hown hK hw 4 m_u_40 rfl (by decide) (hts _ tw_1141) (fun _ h9 => h9) dX10_go_84 ?_
        refine tg_put (ci := 10) (ts := ty_MODEL) (v := .int vu_40) (ty := .int) (C := RX10) (T := TX10) (N := 49) hx hb hts inX10 tyX10 tyX10_ok nmX10 hown hK hw h_p0 rfl rfl 6 (by decide) (hts _ tw_1143) (fun _ h9 => h9) rfl (by decide +kernel) rfl rfl (ft := vI (-2147483648) 2147483647) rfl ⟨_, rfl, (r_vu_40.to (by decide))⟩ (by decide) dX10_go_87 (fun ws H locs hw n_k_41 hF9 => ?_)
        have m_z0_5 := FLD.over hF9 m_z0_5 (by decide)
        have m_u_39 := FLD.over hF9 m_u_39 (by decide)
        have m_u_40 := FLD.over hF9 m_u_40 (by decide)
        have x_TO_p0_gh := TOP.over hF9 x_TO_p0_gh (by decide)
        refine lv_aload_n hx hb dX10_go_90 rfl (lv_at hl 0 rfl) ?_
        refine lv_iconst (v := 1) hx hb dX10_go_91 (by decide) ?_
        refine tg_put (ci := 10) (ts := ty_MODEL) (v := .int 1) (ty := .int) (C := RX10) (T := TX10) (N := 49) hx hb hts inX10 tyX10 tyX10_ok nmX10 hown hK hw h_p0 rfl rfl 7 (by decide) (hts _ tw_1144) (fun _ h9 => h9) rfl (by decide +kernel) rfl rfl (ft := vI (-2147483648) 2147483647) rfl ⟨_, rfl, (rl_1.to (by decide))⟩ (by decide) dX10_go_92 (fun ws H locs hw n_k_42 hF9 => ?_)
        have m_z0_5 := FLD.over hF9 m_z0_5 (by decide)
        have m_u_39 := FLD.over hF9 m_u_39 (by decide)
        have m_u_40 := FLD.over hF9 m_u_40 (by decide)
        have n_k_41 := FLD.over hF9 n_k_41 (by decide)
        have x_TO_p0_gh := TOP.over hF9 x_TO_p0_gh (by decide)
        have g8 := TOP.get hw x_TO_p0_gh m_z0_5
        have x_TOK_p0_gh : TKP ws p0 (gh) := ⟨_, _, m_z0_5, n_k_42, g8, r_z0_5.2, fun h9 => by have k1 := rl_1; unfold RI at k1; omega⟩
        subst hQ
        exact W.vret hx hb hr (fun t ht hW => ⟨⟨ws, rfl, ⟨⟨x_TOK_p0_gh, trivial⟩, hw.1, hw.2.2.2.2.1⟩, by rw [ht]; exact hw.2.1, va_K.moved hW.alike hK, hw.2.2.1⟩, hw.2.2.2.1.F ht⟩) hw.2.2.2.1.2.2 dX10_go_95
  have B0 : ∀ (nf : Nat) (z0_5 : Int32) (ws : va_W) (H : Heap) (locs : List Loc) (ls : Array Slot), 940 - z0_5.toInt < (nf : Int) → RI z0_5 0 940 → FLD ws p0 10 5 (.int z0_5) → TOP ws p0 (gh) → WD D cy GG A s wr_X10_go__1 wa_X10_go__1 Ps w0 Ps ws H locs → lv_has ls 5 [(0, .ref p0)] → W p l e (headSpec (Cond.code yX10_go cX10_go 5 none :: gT) ({ frames := 2, cells := 0, slots := 0, locals := 400 } : Room)).room s m ([.ref p0] : List Value).toArray below meth c H locs 0 0 Q (F0 m 0 ls []) := by
    intro nf0
    induction nf0 with
    | zero =>
      intro z0_5 ws H locs ls hn0 r_z0_5 m_z0_5 x_TO_p0_gh hw hl
      exact absurd hn0 (by have q0 := r_z0_5.1; have u0 := r_z0_5.2; omega)
    | succ nf0 ih0 =>
      have B39 : ∀ (z0_3 : Int32) (z0_5 : Int32) (ws : va_W) (H : Heap) (locs : List Loc) (ls : Array Slot), RI z0_3 1 940 → FLD ws p0 10 3 (.int z0_3) → RI z0_5 0 939 → FLD ws p0 10 5 (.int z0_5) → TOP ws p0 (gh) → 940 - z0_5.toInt < ((nf0 + 1 : Nat) : Int) → WD D cy GG A s wr_X10_go__1 wa_X10_go__1 Ps w0 Ps ws H locs → lv_has ls 5 [(0, .ref p0)] → W p l e (headSpec (Cond.code yX10_go cX10_go 5 none :: gT) ({ frames := 2, cells := 0, slots := 0, locals := 400 } : Room)).room s m ([.ref p0] : List Value).toArray below meth c H locs 0 0 Q (F0 m 39 ls []) := by
        intro z0_3 z0_5 ws H locs ls r_z0_3 m_z0_3 r_z0_5 m_z0_5 x_TO_p0_gh hn0 hw hl
        refine lv_aload_n hx hb dX10_go_39 rfl (lv_at hl 0 rfl) ?_
        refine lv_dup hx hb dX10_go_40 rfl ?_
        refine tg_mem (ci := 10) (C := RX10) (T := TX10) (N := 49) hx hb hts inX10 hown hK hw 5 m_z0_5 rfl (by decide) (hts _ tw_1142) (fun _ h9 => h9) dX10_go_41 ?_
        refine lv_iconst (v := 1) hx hb dX10_go_44 (by decide) ?_
        refine lv_iadd hx hb dX10_go_45 (lv_topi (fun v_43 e_v_43 => ?_))
        obtain ⟨t_v_43, r_v_43⟩ := tq_add (lo := 1) (hi := 940) r_z0_5 rl_1 (by decide +kernel) e_v_43
        have t_v_43 : v_43.toInt = z0_5.toInt + 1 := t_v_43
        have g9 := TOP.get hw x_TO_p0_gh m_z0_5
        refine tg_put (ci := 10) (ts := ty_MODEL) (v := .int v_43) (ty := .int) (C := RX10) (T := TX10) (N := 49) hx hb hts inX10 tyX10 tyX10_ok nmX10 hown hK hw h_p0 rfl rfl 5 (by decide) (hts _ tw_1142) (fun _ h9 => h9) rfl (by decide +kernel) rfl rfl (ft := vI 0 940) rfl ⟨_, rfl, (r_v_43.to (by decide))⟩ (by decide) dX10_go_46 (fun ws H locs hw n_k_44 hF9 => ?_)
        have m_z0_3 := FLD.over hF9 m_z0_3 (by decide)
        have x_TO_p0_gh : TOP ws p0 (gh) := ⟨_, n_k_44, by have k1 := r_v_43.2; omega, by have k1 := r_v_43.2; omega⟩
        refine lv_goto (tgt := 0) hx hb dX10_go_49 (by decide) ?_
        exact ih0 v_43 ws _ _ ls (by have q0 := r_v_43.1; have u0 := r_v_43.2; have o0 := r_z0_5.1; have p0 := r_z0_5.2; omega) (r_v_43.to (by decide)) n_k_44 x_TO_p0_gh hw hl
      intro z0_5 ws H locs ls hn0 r_z0_5 m_z0_5 x_TO_p0_gh hw hl
      refine lv_aload_n hx hb dX10_go_0 rfl (lv_at hl 0 rfl) ?_
      refine tg_mem (ci := 10) (C := RX10) (T := TX10) (N := 49) hx hb hts inX10 hown hK hw 5 m_z0_5 rfl (by decide) (hts _ tw_1142) (fun _ h9 => h9) dX10_go_1 ?_
      refine lv_aload_n hx hb dX10_go_4 rfl (lv_at hl 0 rfl) ?_
      refine tg_get (ci := 10) (ts := ty_MODEL) (C := RX10) (T := TX10) (N := 49) hx hb hts inX10 hown hK hw h_p0 rfl rfl 3 (by decide) (hts _ tw_1140) (fun _ h9 => h9) (ft := vI 0 940) rfl dX10_go_5 (fun u_45 hv_u_45 m_u_45 => ?_)
      obtain ⟨vu_45, rfl, r_vu_45⟩ := hv_u_45
      refine lv_icmp_ge (tgt := 52) hx hb dX10_go_8 (by decide) (fun c_8 => ?_) (fun c_8 => ?_)
      · exact B52 z0_5 ws _ _ ls r_z0_5 m_z0_5 x_TO_p0_gh hw hl
      · have r_z0_5 : RI z0_5 0 939 := rc_lt1 r_z0_5 r_vu_45 (ti_nle c_8) (by decide)
        have r_vu_45 : RI vu_45 1 940 := rc_lt2 r_z0_5 r_vu_45 (ti_nle c_8) (by decide)
        refine lv_aload_n hx hb dX10_go_11 rfl (lv_at hl 0 rfl) ?_
        refine tg_get (ci := 10) (ts := ty_MODEL) (C := RX10) (T := TX10) (N := 49) hx hb hts inX10 hown hK hw h_p0 rfl rfl 1 (by decide) (hts _ tw_1138) (fun _ h9 => h9) (ft := vR 40) rfl dX10_go_12 (fun u_46 hv_u_46 m_u_46 => ?_)
        obtain ⟨vu_46, rfl, h_vu_46⟩ := hv_u_46
        refine lv_aload_n hx hb dX10_go_15 rfl (lv_at hl 0 rfl) ?_
        refine tg_mem (ci := 10) (C := RX10) (T := TX10) (N := 49) hx hb hts inX10 hown hK hw 5 m_z0_5 rfl (by decide) (hts _ tw_1142) (fun _ h9 => h9) dX10_go_16 ?_
        refine tg_iald (lo := 0) (hi := 255) hx hb hK hw h_vu_46 rfl 0 939 r_z0_5 (by decide) (by exact fun _ _ _ => ⟨Int.le_refl _, Int.le_refl _⟩) dX10_go_19 (fun v_47 r_v_47 m_v_47 o_v_47 => ?_)
        refine lv_bipush (v := 32) hx hb dX10_go_20 (by decide) ?_
        refine lv_icmp_eq (tgt := 39) hx hb dX10_go_22 (by decide) (fun c_22 => ?_) (fun c_22 => ?_)
        · have r_v_47 : RI v_47 32 32 := rc_eq1 r_v_47 rl_32 (ti_eq c_22) (by decide)
          exact B39 vu_45 z0_5 ws _ _ ls r_vu_45 m_u_45 r_z0_5 m_z0_5 x_TO_p0_gh (by have q0 := r_z0_5.1; have u0 := r_z0_5.2; omega) hw hl
        · refine lv_aload_n hx hb dX10_go_25 rfl (lv_at hl 0 rfl) ?_
          refine tg_mem (ci := 10) (C := RX10) (T := TX10) (N := 49) hx hb hts inX10 hown hK hw 1 m_u_46 rfl (by decide) (hts _ tw_1138) (fun _ h9 => h9) dX10_go_26 ?_
          refine lv_aload_n hx hb dX10_go_29 rfl (lv_at hl 0 rfl) ?_
          refine tg_mem (ci := 10) (C := RX10) (T := TX10) (N := 49) hx hb hts inX10 hown hK hw 5 m_z0_5 rfl (by decide) (hts _ tw_1142) (fun _ h9 => h9) dX10_go_30 ?_
          refine tg_imem hx hb hK hw h_vu_46 rfl r_z0_5 (by decide) m_v_47 dX10_go_33 ?_
          refine lv_bipush (v := 10) hx hb dX10_go_34 (by decide) ?_
          refine lv_icmp_ne (tgt := 52) hx hb dX10_go_36 (by decide) (fun c_36 => ?_) (fun c_36 => ?_)
          · exact B52 z0_5 ws _ _ ls (r_z0_5.to (by decide)) m_z0_5 x_TO_p0_gh hw hl
          · have r_v_47 : RI v_47 10 10 := rc_eq1 r_v_47 rl_10 (ti_eq c_36) (by decide)
            exact B39 vu_45 z0_5 ws _ _ ls r_vu_45 m_u_45 r_z0_5 m_z0_5 x_TO_p0_gh (by have q0 := r_z0_5.1; have u0 := r_z0_5.2; omega) hw hl
  obtain ⟨v_49, m_v_49, r_v_49⟩ := tg_fld (k := 5) (ci := 10) (ts := ty_MODEL) (lo := 0) (hi := 940) hw h_p0 rfl rfl
  exact B0 4294967298 v_49 w0 _ _ ls (by have q0 := r_v_49.1; have u0 := r_v_49.2; omega) r_v_49 m_v_49 x_TO_p0_gh hw hl
abbrev wr_X10_isOne : List (Nat × Nat) := [(10, 10), (10, 11), (10, 13)]
abbrev wa_X10_isOne : List Nat := []
set_option maxHeartbeats 4000000 in
set_option maxRecDepth 100000 in
theorem c_X10_isOne (l : Launch) (D : va_G) (cy : Nat → ClassId) (z : Nat → Nat) (sz : Nat) (Ps : PSI) (w0 : va_W) (hT : HT cy GG Ps w0) (p0 : Nat) (p1 : Int32) (p2 : Int32) (h_p0 : (p0, 55) ∈ Ps) (r_p1 : RI p1 10 10) (r_p2 : RI p2 0 6) : Met l yX10_isOne (Cond.code yX10_isOne cX10_isOne 3 (some .boolean) :: gT) ({ frames := 4, cells := 0, slots := 0, locals := 800 } : Room) (va_Pc [.ref p0, .int p1, .int p2] (PRE D cy z w0 sz)) (va_Qi (fun (r : Int32) (u : va_W) => (RI r 0 1 ∧ (r = 0 → True) ∧ (¬ r = 0 → RI p2 1 6 ∧ (∃ v9 : Int32, FLD u p0 10 13 (.int v9) ∧ RI v9 0 5) ∧ True)) ∧ HT cy GG Ps u ∧ FR wr_X10_isOne wa_X10_isOne Ps w0 u) (BB D cy (va_A w0 sz) (fun (u : va_W) => u)) (va_A w0 sz)) 0 0 (va_A w0 sz) := by
  refine Met.ofW (cc := cX10_isOne) (maxL := 3) (ret := (some .boolean)) (by decide) rfl ?_
  intro p e s m args below meth c s₁ B hml hv
  obtain ⟨rfl, hsz, hP, hK, hD0, hSD⟩ := hv
  have hx := B.exec
  have hb := B.bytes
  have hr := B.returns
  have hlocks := B.notSynchronized
  have hts : ∀ w ∈ gT, w.before _ s = true := fun w h => atoms_spec (ws := Cond.code yX10_isOne cX10_isOne 3 (some .boolean) :: gT) B.pre w (List.mem_cons_of_mem _ h)
  have hown : s.vm.findClass RX10 = some m.cls := findClass_of_methodNamed B.named
  subst hsz
  have hD := hD0.self (sz := s.heap.size)
  generalize hAe : va_A w0 s.heap.size = A at hD hSD ⊢
  have hA : ∀ q : Nat, s.heap.size ≤ q → A q := fun q h => by rw [← hAe]; exact Or.inr h
  have hl := lv_entry ([.ref p0, .int p1, .int p2]) (n := 3) (Nat.le_of_ble_eq_true rfl)
  rw [lg_entry_eq]
  generalize (lg_sl ([.ref p0, .int p1, .int p2]) ++ List.replicate (3 - (lg_sl ([.ref p0, .int p1, .int p2])).length) Slot.unset).toArray = ls at hl ⊢
  have hl : lv_has ls 3 [(0, .ref p0), (1, .int p1), (2, .int p2)] := hl
  refine nameQ (fun Q hQ => ?_)
  have hw : WD D cy GG A s wr_X10_isOne wa_X10_isOne Ps w0 Ps w0 s.heap [] := ⟨hT, hP, hD, va_S.rf, FR.rf, hT.1, [], (List.append_nil _).symm⟩
  refine lv_aload_n hx hb dX10_isOne_0 rfl (lv_at hl 0 rfl) ?_
  refine tk_ir (va_runV (As := []) (rest := []) ⟨hx, hb, hml, hown, hts⟩ (c_X10_isName l D cy z s.heap.size Ps w0 hw.1 p0 h_p0) (cwV 0 hts (gV tw_1344 tw_1346 ts_48 tw_15 tw_1347) rfl rfl rfl (by decide +kernel) ⟨Nat.le_of_ble_eq_true rfl, Nat.le_of_ble_eq_true rfl⟩) (tg_preV hw hK hSD hA (ci := 10) (q := (RX10, TX10, 49)) rfl h_p0 rfl) rfl rfl hl.1 rfl (lv_room (Nat.le_of_ble_eq_true rfl)) dX10_isOne_1 ⟨Nat.le_of_ble_eq_true rfl, Nat.le_of_ble_eq_true rfl⟩) hw hA (fun v_1  H locs hp_v_1 hw => ?_)
  have r_v_1 : RI v_1 0 1 := hp_v_1.1
  refine lv_if_ne (tgt := 13) hx hb dX10_isOne_4 (by decide) (fun c_4 => ?_) (fun c_4 => ?_)
  · have r_v_1 : RI v_1 1 1 := rc_neL r_v_1 rl_0 (ti_ne c_4) (by decide)
    refine lv_aload_n hx hb dX10_isOne_13 rfl (lv_at hl 0 rfl) ?_
    refine lv_aload_n hx hb dX10_isOne_14 rfl (lv_at hl 0 rfl) ?_
    refine tg_get (ci := 10) (ts := ty_MODEL) (C := RX10) (T := TX10) (N := 49) hx hb hts inX10 hown hK hw h_p0 rfl rfl 21 (by decide) (hts _ tw_1158) (fun _ h9 => h9) (ft := vR 42) rfl dX10_isOne_15 (fun u_2 hv_u_2 m_u_2 => ?_)
    obtain ⟨vu_2, rfl, h_vu_2⟩ := hv_u_2
    refine lv_iload_n hx hb dX10_isOne_18 rfl (lv_at hl 1 rfl) ?_
    refine lv_iload_n hx hb dX10_isOne_19 rfl (lv_at hl 2 rfl) ?_
    refine lv_aload_n hx hb dX10_isOne_20 rfl (lv_at hl 0 rfl) ?_
    refine tg_get (ci := 10) (ts := ty_MODEL) (C := RX10) (T := TX10) (N := 49) hx hb hts inX10 hown hK hw h_p0 rfl rfl 12 (by decide) (hts _ tw_1149) (fun _ h9 => h9) (ft := vJ (-9223372036854775808) 9223372036854775807) rfl dX10_isOne_21 (fun u_3 hv_u_3 m_u_3 => ?_)
    obtain ⟨vu_3, rfl, r_vu_3⟩ := hv_u_3
    refine tk_ir (va_runS (As := [.ref vu_2, .int p1, .int p2, .long vu_3]) (rest := [.ref p0]) ⟨hx, hb, hml, hown, hts⟩ (c_X10_findIn__2 l D cy z H.size Ps w0 hw.1 vu_2 p1 p2 vu_3 h_vu_2 r_p1 r_p2 r_vu_3) (va_cwS 4 hts (gS tw_1352 tw_1353 tw_15 tw_1354) rfl rfl rfl (by decide +kernel) ⟨Nat.le_of_ble_eq_true rfl, Nat.le_of_ble_eq_true rfl⟩) (tg_preS hw hK hSD hA) rfl rfl hl.1 rfl (lv_room (Nat.le_of_ble_eq_true rfl)) dX10_isOne_24 ⟨Nat.le_of_ble_eq_true rfl, Nat.le_of_ble_eq_true rfl⟩) hw hA (fun v_4  H locs hp_v_4 hw => ?_)
    have r_v_4 : RI v_4 (-1) 5 := hp_v_4.1
    by_cases c9_v_4 : v_4.toInt < 0
    · have r_v_4 : RI v_4 (-1) (-1) := by unfold RI at r_v_4 ⊢; omega
      have x_NF_vu_2_p1_p2_vu_3 := (hp_v_4.2.2.2.2.1 (by omega)).1
      refine tg_put (ci := 10) (ts := ty_MODEL) (v := .int v_4) (ty := .int) (C := RX10) (T := TX10) (N := 49) hx hb hts inX10 tyX10 tyX10_ok nmX10 hown hK hw h_p0 rfl rfl 13 (by decide) (hts _ tw_1150) (fun _ h9 => h9) rfl (by decide +kernel) rfl rfl (ft := vI (-2147483648) 2147483647) rfl ⟨_, rfl, (r_v_4.to (by decide))⟩ (by decide) dX10_isOne_27 (fun ws H locs hw n_k_5 hF9 => ?_)
      refine lv_aload_n hx hb dX10_isOne_30 rfl (lv_at hl 0 rfl) ?_
      refine tg_mem (ci := 10) (C := RX10) (T := TX10) (N := 49) hx hb hts inX10 hown hK hw 13 n_k_5 rfl (by decide) (hts _ tw_1150) (fun _ h9 => h9) dX10_isOne_31 ?_
      refine lv_iconst (v := (-1)) hx hb dX10_isOne_34 (by decide) ?_
      refine lv_icmp_ne (tgt := 46) hx hb dX10_isOne_35 (by decide) (fun c_35 => ?_) (fun c_35 => ?_)
      · exact absurd (r_v_4.eq.trans rl_m1.eq.symm) ((ti_ne c_35))
      · refine lv_aload_n hx hb dX10_isOne_38 rfl (lv_at hl 0 rfl) ?_
        refine lv_iconst (v := 3) hx hb dX10_isOne_39 (by decide) ?_
        refine tk_i (va_runV (As := [.int 3]) (rest := []) ⟨hx, hb, hml, hown, hts⟩ (c_X10_bad l D cy z H.size Ps ws hw.1 p0 3 h_p0 (rl_3.to (by decide))) (cwV 1 hts (gV tw_1336 tw_1338 ts_46 tw_15 tw_1339) rfl rfl rfl (by decide +kernel) ⟨Nat.le_of_ble_eq_true rfl, Nat.le_of_ble_eq_true rfl⟩) (tg_preV hw hK hSD hA (ci := 10) (q := (RX10, TX10, 49)) rfl h_p0 rfl) rfl rfl hl.1 rfl (lv_room (Nat.le_of_ble_eq_true rfl)) dX10_isOne_40 ⟨Nat.le_of_ble_eq_true rfl, Nat.le_of_ble_eq_true rfl⟩) hw hA ⟨by decide, by decide⟩ (fun v_6 ws H locs hp_v_6 hw hF9 => ?_)
        have n_k_5 := FLD.over hF9 n_k_5 (by decide)
        have r_v_6 : RI v_6 0 0 := hp_v_6.1
        refine lv_if_eq (tgt := 50) hx hb dX10_isOne_43 (by decide) (fun c_43 => ?_) (fun c_43 => ?_)
        · refine lv_iconst (v := 0) hx hb dX10_isOne_50 (by decide) ?_
          subst hQ
          exact W.zret (v := 0) hx hb hr (rfl) (fun t ht hW => ⟨⟨0, ws, rfl, ⟨⟨rl_0.to (by decide), (fun h0 => trivial), (fun h0 => absurd rfl h0)⟩, hw.1, hw.2.2.2.2.1⟩, by rw [ht]; exact hw.2.1, va_K.moved hW.alike hK, hw.2.2.1⟩, hw.2.2.2.1.F ht⟩) hw.2.2.2.1.2.2 dX10_isOne_51
        · exact absurd (r_v_6.eq.trans rl_0.eq.symm) ((ti_ne c_43))
    · have r_v_4 : RI v_4 0 5 := by unfold RI at r_v_4 ⊢; omega
      have x_FD_vu_2_p1_p2_vu_3 := (hp_v_4.2.2.2.2.2 (by omega)).1
      have x_POS_p2 := (hp_v_4.2.2.2.2.2 (by omega)).2.1
      have r_p2 : RI p2 1 6 := ⟨x_POS_p2, r_p2.2⟩
      refine tg_put (ci := 10) (ts := ty_MODEL) (v := .int v_4) (ty := .int) (C := RX10) (T := TX10) (N := 49) hx hb hts inX10 tyX10 tyX10_ok nmX10 hown hK hw h_p0 rfl rfl 13 (by decide) (hts _ tw_1150) (fun _ h9 => h9) rfl (by decide +kernel) rfl rfl (ft := vI (-2147483648) 2147483647) rfl ⟨_, rfl, (r_v_4.to (by decide))⟩ (by decide) dX10_isOne_27 (fun ws H locs hw n_k_7 hF9 => ?_)
      refine lv_aload_n hx hb dX10_isOne_30 rfl (lv_at hl 0 rfl) ?_
      refine tg_mem (ci := 10) (C := RX10) (T := TX10) (N := 49) hx hb hts inX10 hown hK hw 13 n_k_7 rfl (by decide) (hts _ tw_1150) (fun _ h9 => h9) dX10_isOne_31 ?_
      refine lv_iconst (v := (-1)) hx hb dX10_isOne_34 (by decide) ?_
      refine lv_icmp_ne (tgt := 46) hx hb dX10_isOne_35 (by decide) (fun c_35 => ?_) (fun c_35 => ?_)
      · refine lv_iconst (v := 1) hx hb dX10_isOne_46 (by decide) ?_
        refine lv_goto (tgt := 51) hx hb dX10_isOne_47 (by decide) ?_
        subst hQ
        exact W.zret (v := 1) hx hb hr (rfl) (fun t ht hW => ⟨⟨1, ws, rfl, ⟨⟨rl_1.to (by decide), (fun _ => trivial), (fun h0 => ⟨r_p2, ⟨_, n_k_7, r_v_4⟩, trivial⟩)⟩, hw.1, hw.2.2.2.2.1⟩, by rw [ht]; exact hw.2.1, va_K.moved hW.alike hK, hw.2.2.1⟩, hw.2.2.2.1.F ht⟩) hw.2.2.2.1.2.2 dX10_isOne_51
      · have r_v_4 : RI v_4 0 (-1) := rc_eq1 r_v_4 rl_m1 (ti_eq c_35) (by decide)
        exact (r_v_4.no (by decide)).elim
  · have r_v_1 : RI v_1 0 0 := rc_eq1 r_v_1 rl_0 (ti_eq c_4) (by decide)
    refine lv_aload_n hx hb dX10_isOne_7 rfl (lv_at hl 0 rfl) ?_
    refine lv_iconst (v := 1) hx hb dX10_isOne_8 (by decide) ?_
    refine tk_i (va_runV (As := [.int 1]) (rest := []) ⟨hx, hb, hml, hown, hts⟩ (c_X10_bad l D cy z H.size Ps w0 hw.1 p0 1 h_p0 (rl_1.to (by decide))) (cwV 1 hts (gV tw_1336 tw_1338 ts_46 tw_15 tw_1339) rfl rfl rfl (by decide +kernel) ⟨Nat.le_of_ble_eq_true rfl, Nat.le_of_ble_eq_true rfl⟩) (tg_preV hw hK hSD hA (ci := 10) (q := (RX10, TX10, 49)) rfl h_p0 rfl) rfl rfl hl.1 rfl (lv_room (Nat.le_of_ble_eq_true rfl)) dX10_isOne_9 ⟨Nat.le_of_ble_eq_true rfl, Nat.le_of_ble_eq_true rfl⟩) hw hA ⟨by decide, by decide⟩ (fun v_8 ws H locs hp_v_8 hw hF9 => ?_)
    have r_v_8 : RI v_8 0 0 := hp_v_8.1
    subst hQ
    exact W.zret (v := v_8) hx hb hr (tq_nz (r_v_8.to (by decide))) (fun t ht hW => ⟨⟨v_8, ws, rfl, ⟨⟨r_v_8.to (by decide), (fun h0 => trivial), (fun h0 => absurd (Int32.toInt_inj.mp (by have h8 := r_v_8; unfold RI at h8; rw [Int32.toInt_zero]; omega)) h0)⟩, hw.1, hw.2.2.2.2.1⟩, by rw [ht]; exact hw.2.1, va_K.moved hW.alike hK, hw.2.2.1⟩, hw.2.2.2.1.F ht⟩) hw.2.2.2.1.2.2 dX10_isOne_12
abbrev wr_X10_readOne : List (Nat × Nat) := [(10, 5), (10, 6), (10, 7), (10, 8), (10, 9), (10, 10), (10, 11), (10, 12), (10, 13)]
abbrev wa_X10_readOne : List Nat := []
set_option maxHeartbeats 4000000 in
set_option maxRecDepth 100000 in
theorem c_X10_readOne (l : Launch) (D : va_G) (cy : Nat → ClassId) (z : Nat → Nat) (sz : Nat) (Ps : PSI) (w0 : va_W) (hT : HT cy GG Ps w0) (p0 : Nat) (p1 : Int32) (p2 : Int32) (gh : Int) (h_p0 : (p0, 55) ∈ Ps) (r_p1 : RI p1 10 10) (r_p2 : RI p2 0 6) (x_TO_p0_gh : TOP w0 p0 (gh)) : Met l yX10_readOne (Cond.code yX10_readOne cX10_readOne 3 (some .boolean) :: gT) ({ frames := 5, cells := 0, slots := 0, locals := 1000 } : Room) (va_Pc [.ref p0, .int p1, .int p2] (PRE D cy z w0 sz)) (va_Qi (fun (r : Int32) (u : va_W) => (RI r 0 1 ∧ (r = 0 → True) ∧ (¬ r = 0 → RI p2 1 6 ∧ (∃ v9 : Int32, FLD u p0 10 13 (.int v9) ∧ RI v9 0 5) ∧ TKP u p0 (gh) ∧ True)) ∧ HT cy GG Ps u ∧ FR wr_X10_readOne wa_X10_readOne Ps w0 u) (BB D cy (va_A w0 sz) (fun (u : va_W) => u)) (va_A w0 sz)) 0 0 (va_A w0 sz) := by
  refine Met.ofW (cc := cX10_readOne) (maxL := 3) (ret := (some .boolean)) (by decide) rfl ?_
  intro p e s m args below meth c s₁ B hml hv
  obtain ⟨rfl, hsz, hP, hK, hD0, hSD⟩ := hv
  have hx := B.exec
  have hb := B.bytes
  have hr := B.returns
  have hlocks := B.notSynchronized
  have hts : ∀ w ∈ gT, w.before _ s = true := fun w h => atoms_spec (ws := Cond.code yX10_readOne cX10_readOne 3 (some .boolean) :: gT) B.pre w (List.mem_cons_of_mem _ h)
  have hown : s.vm.findClass RX10 = some m.cls := findClass_of_methodNamed B.named
  subst hsz
  have hD := hD0.self (sz := s.heap.size)
  generalize hAe : va_A w0 s.heap.size = A at hD hSD ⊢
  have hA : ∀ q : Nat, s.heap.size ≤ q → A q := fun q h => by rw [← hAe]; exact Or.inr h
  have hl := lv_entry ([.ref p0, .int p1, .int p2]) (n := 3) (Nat.le_of_ble_eq_true rfl)
  rw [lg_entry_eq]
  generalize (lg_sl ([.ref p0, .int p1, .int p2]) ++ List.replicate (3 - (lg_sl ([.ref p0, .int p1, .int p2])).length) Slot.unset).toArray = ls at hl ⊢
  have hl : lv_has ls 3 [(0, .ref p0), (1, .int p1), (2, .int p2)] := hl
  refine nameQ (fun Q hQ => ?_)
  have hw : WD D cy GG A s wr_X10_readOne wa_X10_readOne Ps w0 Ps w0 s.heap [] := ⟨hT, hP, hD, va_S.rf, FR.rf, hT.1, [], (List.append_nil _).symm⟩
  refine lv_aload_n hx hb dX10_readOne_0 rfl (lv_at hl 0 rfl) ?_
  refine lv_iload_n hx hb dX10_readOne_1 rfl (lv_at hl 1 rfl) ?_
  refine lv_iload_n hx hb dX10_readOne_2 rfl (lv_at hl 2 rfl) ?_
  refine tk_i (va_runV (As := [.int p1, .int p2]) (rest := []) ⟨hx, hb, hml, hown, hts⟩ (c_X10_isOne l D cy z s.heap.size Ps w0 hw.1 p0 p1 p2 h_p0 r_p1 r_p2) (cwV 2 hts (gV tw_1378 tw_1380 ts_55 tw_15 tw_1381) rfl rfl rfl (by decide +kernel) ⟨Nat.le_of_ble_eq_true rfl, Nat.le_of_ble_eq_true rfl⟩) (tg_preV hw hK hSD hA (ci := 10) (q := (RX10, TX10, 49)) rfl h_p0 rfl) rfl rfl hl.1 rfl (lv_room (Nat.le_of_ble_eq_true rfl)) dX10_readOne_3 ⟨Nat.le_of_ble_eq_true rfl, Nat.le_of_ble_eq_true rfl⟩) hw hA ⟨by decide, by decide⟩ (fun v_1 ws H locs hp_v_1 hw hF9 => ?_)
  have x_TO_p0_gh := TOP.over hF9 x_TO_p0_gh (by decide)
  have r_v_1 : RI v_1 0 1 := hp_v_1.1
  by_cases c9_v_1 : v_1 = 0
  · have r_v_1 : RI v_1 0 0 := by rw [c9_v_1]; exact rl_0
    refine lv_if_ne (tgt := 11) hx hb dX10_readOne_6 (by decide) (fun c_6 => ?_) (fun c_6 => ?_)
    · exact absurd (r_v_1.eq.trans rl_0.eq.symm) ((ti_ne c_6))
    · refine lv_iconst (v := 0) hx hb dX10_readOne_9 (by decide) ?_
      subst hQ
      exact W.zret (v := 0) hx hb hr (rfl) (fun t ht hW => ⟨⟨0, ws, rfl, ⟨⟨rl_0.to (by decide), (fun h0 => trivial), (fun h0 => absurd rfl h0)⟩, hw.1, hw.2.2.2.2.1⟩, by rw [ht]; exact hw.2.1, va_K.moved hW.alike hK, hw.2.2.1⟩, hw.2.2.2.1.F ht⟩) hw.2.2.2.1.2.2 dX10_readOne_10
  · have r_v_1 : RI v_1 1 1 := rc_neL r_v_1 rl_0 (ti_ne c9_v_1) (by decide)
    have r_p2 : RI p2 1 6 := ((hp_v_1.2.2 c9_v_1).1)
    obtain ⟨v_2, m_v_2, r_v_2⟩ := ((hp_v_1.2.2 c9_v_1).2.1)
    refine lv_if_ne (tgt := 11) hx hb dX10_readOne_6 (by decide) (fun c_6 => ?_) (fun c_6 => ?_)
    · refine lv_aload_n hx hb dX10_readOne_11 rfl (lv_at hl 0 rfl) ?_
      refine tk_v (va_runV (As := []) (rest := []) ⟨hx, hb, hml, hown, hts⟩ (c_X10_go__1 l D cy z H.size Ps ws hw.1 p0 (gh) h_p0 x_TO_p0_gh) (cwV 0 hts (gV tw_1298 tw_1300 ts_40 tw_15 tw_1301) rfl rfl rfl (by decide +kernel) ⟨Nat.le_of_ble_eq_true rfl, Nat.le_of_ble_eq_true rfl⟩) (tg_preV hw hK hSD hA (ci := 10) (q := (RX10, TX10, 49)) rfl h_p0 rfl) rfl rfl hl.1 rfl (lv_room (Nat.le_of_ble_eq_true rfl)) dX10_readOne_12 ⟨Nat.le_of_ble_eq_true rfl, Nat.le_of_ble_eq_true rfl⟩) hw hA ⟨by decide, by decide⟩ (fun ws H locs hp_v_3 hw hF9 => ?_)
      have m_v_2 := FLD.over hF9 m_v_2 (by decide)
      have x_TOK_p0_gh := (hp_v_3.1)
      refine lv_iconst (v := 1) hx hb dX10_readOne_15 (by decide) ?_
      subst hQ
      exact W.zret (v := 1) hx hb hr (rfl) (fun t ht hW => ⟨⟨1, ws, rfl, ⟨⟨rl_1.to (by decide), (fun _ => trivial), (fun h0 => ⟨r_p2, ⟨_, m_v_2, r_v_2⟩, x_TOK_p0_gh, trivial⟩)⟩, hw.1, hw.2.2.2.2.1⟩, by rw [ht]; exact hw.2.1, va_K.moved hW.alike hK, hw.2.2.1⟩, hw.2.2.2.1.F ht⟩) hw.2.2.2.1.2.2 dX10_readOne_16
    · have r_v_1 : RI v_1 1 0 := rc_eq1 r_v_1 rl_0 (ti_eq c_6) (by decide)
      exact (r_v_1.no (by decide)).elim
abbrev wr_X10_isOne__1 : List (Nat × Nat) := [(10, 10), (10, 11), (10, 13)]
abbrev wa_X10_isOne__1 : List Nat := []
set_option maxHeartbeats 4000000 in
set_option maxRecDepth 100000 in
theorem c_X10_isOne__1 (l : Launch) (D : va_G) (cy : Nat → ClassId) (z : Nat → Nat) (sz : Nat) (Ps : PSI) (w0 : va_W) (hT : HT cy GG Ps w0) (p0 : Nat) (p1 : Int32) (p2 : Int32) (h_p0 : (p0, 55) ∈ Ps) (r_p1 : RI p1 0 0) (r_p2 : RI p2 0 6) : Met l yX10_isOne (Cond.code yX10_isOne cX10_isOne 3 (some .boolean) :: gT) ({ frames := 4, cells := 0, slots := 0, locals := 800 } : Room) (va_Pc [.ref p0, .int p1, .int p2] (PRE D cy z w0 sz)) (va_Qi (fun (r : Int32) (u : va_W) => (RI r 0 1 ∧ (r = 0 → True) ∧ (¬ r = 0 → RI p2 1 6 ∧ (∃ v9 : Int32, FLD u p0 10 13 (.int v9) ∧ RI v9 0 5) ∧ True)) ∧ HT cy GG Ps u ∧ FR wr_X10_isOne__1 wa_X10_isOne__1 Ps w0 u) (BB D cy (va_A w0 sz) (fun (u : va_W) => u)) (va_A w0 sz)) 0 0 (va_A w0 sz) := by
  refine Met.ofW (cc := cX10_isOne) (maxL := 3) (ret := (some .boolean)) (by decide) rfl ?_
  intro p e s m args below meth c s₁ B hml hv
  obtain ⟨rfl, hsz, hP, hK, hD0, hSD⟩ := hv
  have hx := B.exec
  have hb := B.bytes
  have hr := B.returns
  have hlocks := B.notSynchronized
  have hts : ∀ w ∈ gT, w.before _ s = true := fun w h => atoms_spec (ws := Cond.code yX10_isOne cX10_isOne 3 (some .boolean) :: gT) B.pre w (List.mem_cons_of_mem _ h)
  have hown : s.vm.findClass RX10 = some m.cls := findClass_of_methodNamed B.named
  subst hsz
  have hD := hD0.self (sz := s.heap.size)
  generalize hAe : va_A w0 s.heap.size = A at hD hSD ⊢
  have hA : ∀ q : Nat, s.heap.size ≤ q → A q := fun q h => by rw [← hAe]; exact Or.inr h
  have hl := lv_entry ([.ref p0, .int p1, .int p2]) (n := 3) (Nat.le_of_ble_eq_true rfl)
  rw [lg_entry_eq]
  generalize (lg_sl ([.ref p0, .int p1, .int p2]) ++ List.replicate (3 - (lg_sl ([.ref p0, .int p1, .int p2])).length) Slot.unset).toArray = ls at hl ⊢
  have hl : lv_has ls 3 [(0, .ref p0), (1, .int p1), (2, .int p2)] := hl
  refine nameQ (fun Q hQ => ?_)
  have hw : WD D cy GG A s wr_X10_isOne__1 wa_X10_isOne__1 Ps w0 Ps w0 s.heap [] := ⟨hT, hP, hD, va_S.rf, FR.rf, hT.1, [], (List.append_nil _).symm⟩
  refine lv_aload_n hx hb dX10_isOne_0 rfl (lv_at hl 0 rfl) ?_
  refine tk_ir (va_runV (As := []) (rest := []) ⟨hx, hb, hml, hown, hts⟩ (c_X10_isName l D cy z s.heap.size Ps w0 hw.1 p0 h_p0) (cwV 0 hts (gV tw_1344 tw_1346 ts_48 tw_15 tw_1347) rfl rfl rfl (by decide +kernel) ⟨Nat.le_of_ble_eq_true rfl, Nat.le_of_ble_eq_true rfl⟩) (tg_preV hw hK hSD hA (ci := 10) (q := (RX10, TX10, 49)) rfl h_p0 rfl) rfl rfl hl.1 rfl (lv_room (Nat.le_of_ble_eq_true rfl)) dX10_isOne_1 ⟨Nat.le_of_ble_eq_true rfl, Nat.le_of_ble_eq_true rfl⟩) hw hA (fun v_1  H locs hp_v_1 hw => ?_)
  have r_v_1 : RI v_1 0 1 := hp_v_1.1
  refine lv_if_ne (tgt := 13) hx hb dX10_isOne_4 (by decide) (fun c_4 => ?_) (fun c_4 => ?_)
  · have r_v_1 : RI v_1 1 1 := rc_neL r_v_1 rl_0 (ti_ne c_4) (by decide)
    refine lv_aload_n hx hb dX10_isOne_13 rfl (lv_at hl 0 rfl) ?_
    refine lv_aload_n hx hb dX10_isOne_14 rfl (lv_at hl 0 rfl) ?_
    refine tg_get (ci := 10) (ts := ty_MODEL) (C := RX10) (T := TX10) (N := 49) hx hb hts inX10 hown hK hw h_p0 rfl rfl 21 (by decide) (hts _ tw_1158) (fun _ h9 => h9) (ft := vR 42) rfl dX10_isOne_15 (fun u_2 hv_u_2 m_u_2 => ?_)
    obtain ⟨vu_2, rfl, h_vu_2⟩ := hv_u_2
    refine lv_iload_n hx hb dX10_isOne_18 rfl (lv_at hl 1 rfl) ?_
    refine lv_iload_n hx hb dX10_isOne_19 rfl (lv_at hl 2 rfl) ?_
    refine lv_aload_n hx hb dX10_isOne_20 rfl (lv_at hl 0 rfl) ?_
    refine tg_get (ci := 10) (ts := ty_MODEL) (C := RX10) (T := TX10) (N := 49) hx hb hts inX10 hown hK hw h_p0 rfl rfl 12 (by decide) (hts _ tw_1149) (fun _ h9 => h9) (ft := vJ (-9223372036854775808) 9223372036854775807) rfl dX10_isOne_21 (fun u_3 hv_u_3 m_u_3 => ?_)
    obtain ⟨vu_3, rfl, r_vu_3⟩ := hv_u_3
    refine tk_ir (va_runS (As := [.ref vu_2, .int p1, .int p2, .long vu_3]) (rest := [.ref p0]) ⟨hx, hb, hml, hown, hts⟩ (c_X10_findIn l D cy z H.size Ps w0 hw.1 vu_2 p1 p2 vu_3 h_vu_2 r_p1 r_p2 r_vu_3) (va_cwS 4 hts (gS tw_1352 tw_1353 tw_15 tw_1354) rfl rfl rfl (by decide +kernel) ⟨Nat.le_of_ble_eq_true rfl, Nat.le_of_ble_eq_true rfl⟩) (tg_preS hw hK hSD hA) rfl rfl hl.1 rfl (lv_room (Nat.le_of_ble_eq_true rfl)) dX10_isOne_24 ⟨Nat.le_of_ble_eq_true rfl, Nat.le_of_ble_eq_true rfl⟩) hw hA (fun v_4  H locs hp_v_4 hw => ?_)
    have r_v_4 : RI v_4 (-1) 5 := hp_v_4.1
    by_cases c9_v_4 : v_4.toInt < 0
    · have r_v_4 : RI v_4 (-1) (-1) := by unfold RI at r_v_4 ⊢; omega
      have x_NF_vu_2_p1_p2_vu_3 := (hp_v_4.2.2.2.2.1 (by omega)).1
      refine tg_put (ci := 10) (ts := ty_MODEL) (v := .int v_4) (ty := .int) (C := RX10) (T := TX10) (N := 49) hx hb hts inX10 tyX10 tyX10_ok nmX10 hown hK hw h_p0 rfl rfl 13 (by decide) (hts _ tw_1150) (fun _ h9 => h9) rfl (by decide +kernel) rfl rfl (ft := vI (-2147483648) 2147483647) rfl ⟨_, rfl, (r_v_4.to (by decide))⟩ (by decide) dX10_isOne_27 (fun ws H locs hw n_k_5 hF9 => ?_)
      refine lv_aload_n hx hb dX10_isOne_30 rfl (lv_at hl 0 rfl) ?_
      refine tg_mem (ci := 10) (C := RX10) (T := TX10) (N := 49) hx hb hts inX10 hown hK hw 13 n_k_5 rfl (by decide) (hts _ tw_1150) (fun _ h9 => h9) dX10_isOne_31 ?_
      refine lv_iconst (v := (-1)) hx hb dX10_isOne_34 (by decide) ?_
      refine lv_icmp_ne (tgt := 46) hx hb dX10_isOne_35 (by decide) (fun c_35 => ?_) (fun c_35 => ?_)
      · exact absurd (r_v_4.eq.trans rl_m1.eq.symm) ((ti_ne c_35))
      · refine lv_aload_n hx hb dX10_isOne_38 rfl (lv_at hl 0 rfl) ?_
        refine lv_iconst (v := 3) hx hb dX10_isOne_39 (by decide) ?_
        refine tk_i (va_runV (As := [.int 3]) (rest := []) ⟨hx, hb, hml, hown, hts⟩ (c_X10_bad l D cy z H.size Ps ws hw.1 p0 3 h_p0 (rl_3.to (by decide))) (cwV 1 hts (gV tw_1336 tw_1338 ts_46 tw_15 tw_1339) rfl rfl rfl (by decide +kernel) ⟨Nat.le_of_ble_eq_true rfl, Nat.le_of_ble_eq_true rfl⟩) (tg_preV hw hK hSD hA (ci := 10) (q := (RX10, TX10, 49)) rfl h_p0 rfl) rfl rfl hl.1 rfl (lv_room (Nat.le_of_ble_eq_true rfl)) dX10_isOne_40 ⟨Nat.le_of_ble_eq_true rfl, Nat.le_of_ble_eq_true rfl⟩) hw hA ⟨by decide, by decide⟩ (fun v_6 ws H locs hp_v_6 hw hF9 => ?_)
        have n_k_5 := FLD.over hF9 n_k_5 (by decide)
        have r_v_6 : RI v_6 0 0 := hp_v_6.1
        refine lv_if_eq (tgt := 50) hx hb dX10_isOne_43 (by decide) (fun c_43 => ?_) (fun c_43 => ?_)
        · refine lv_iconst (v := 0) hx hb dX10_isOne_50 (by decide) ?_
          subst hQ
          exact W.zret (v := 0) hx hb hr (rfl) (fun t ht hW => ⟨⟨0, ws, rfl, ⟨⟨rl_0.to (by decide), (fun h0 => trivial), (fun h0 => absurd rfl h0)⟩, hw.1, hw.2.2.2.2.1⟩, by rw [ht]; exact hw.2.1, va_K.moved hW.alike hK, hw.2.2.1⟩, hw.2.2.2.1.F ht⟩) hw.2.2.2.1.2.2 dX10_isOne_51
        · exact absurd (r_v_6.eq.trans rl_0.eq.symm) ((ti_ne c_43))
    · have r_v_4 : RI v_4 0 5 := by unfold RI at r_v_4 ⊢; omega
      have x_FD_vu_2_p1_p2_vu_3 := (hp_v_4.2.2.2.2.2 (by omega)).1
      have x_POS_p2 := (hp_v_4.2.2.2.2.2 (by omega)).2.1
      have r_p2 : RI p2 1 6 := ⟨x_POS_p2, r_p2.2⟩
      refine tg_put (ci := 10) (ts := ty_MODEL) (v := .int v_4) (ty := .int) (C := RX10) (T := TX10) (N := 49) hx hb hts inX10 tyX10 tyX10_ok nmX10 hown hK hw h_p0 rfl rfl 13 (by decide) (hts _ tw_1150) (fun _ h9 => h9) rfl (by decide +kernel) rfl rfl (ft := vI (-2147483648) 2147483647) rfl ⟨_, rfl, (r_v_4.to (by decide))⟩ (by decide) dX10_isOne_27 (fun ws H locs hw n_k_7 hF9 => ?_)
      refine lv_aload_n hx hb dX10_isOne_30 rfl (lv_at hl 0 rfl) ?_
      refine tg_mem (ci := 10) (C := RX10) (T := TX10) (N := 49) hx hb hts inX10 hown hK hw 13 n_k_7 rfl (by decide) (hts _ tw_1150) (fun _ h9 => h9) dX10_isOne_31 ?_
      refine lv_iconst (v := (-1)) hx hb dX10_isOne_34 (by decide) ?_
      refine lv_icmp_ne (tgt := 46) hx hb dX10_isOne_35 (by decide) (fun c_35 => ?_) (fun c_35 => ?_)
      · refine lv_iconst (v := 1) hx hb dX10_isOne_46 (by decide) ?_
        refine lv_goto (tgt := 51) hx hb dX10_isOne_47 (by decide) ?_
        subst hQ
        exact W.zret (v := 1) hx hb hr (rfl) (fun t ht hW => ⟨⟨1, ws, rfl, ⟨⟨rl_1.to (by decide), (fun _ => trivial), (fun h0 => ⟨r_p2, ⟨_, n_k_7, r_v_4⟩, trivial⟩)⟩, hw.1, hw.2.2.2.2.1⟩, by rw [ht]; exact hw.2.1, va_K.moved hW.alike hK, hw.2.2.1⟩, hw.2.2.2.1.F ht⟩) hw.2.2.2.1.2.2 dX10_isOne_51
      · have r_v_4 : RI v_4 0 (-1) := rc_eq1 r_v_4 rl_m1 (ti_eq c_35) (by decide)
        exact (r_v_4.no (by decide)).elim
  · have r_v_1 : RI v_1 0 0 := rc_eq1 r_v_1 rl_0 (ti_eq c_4) (by decide)
    refine lv_aload_n hx hb dX10_isOne_7 rfl (lv_at hl 0 rfl) ?_
    refine lv_iconst (v := 1) hx hb dX10_isOne_8 (by decide) ?_
    refine tk_i (va_runV (As := [.int 1]) (rest := []) ⟨hx, hb, hml, hown, hts⟩ (c_X10_bad l D cy z H.size Ps w0 hw.1 p0 1 h_p0 (rl_1.to (by decide))) (cwV 1 hts (gV tw_1336 tw_1338 ts_46 tw_15 tw_1339) rfl rfl rfl (by decide +kernel) ⟨Nat.le_of_ble_eq_true rfl, Nat.le_of_ble_eq_true rfl⟩) (tg_preV hw hK hSD hA (ci := 10) (q := (RX10, TX10, 49)) rfl h_p0 rfl) rfl rfl hl.1 rfl (lv_room (Nat.le_of_ble_eq_true rfl)) dX10_isOne_9 ⟨Nat.le_of_ble_eq_true rfl, Nat.le_of_ble_eq_true rfl⟩) hw hA ⟨by decide, by decide⟩ (fun v_8 ws H locs hp_v_8 hw hF9 => ?_)
    have r_v_8 : RI v_8 0 0 := hp_v_8.1
    subst hQ
    exact W.zret (v := v_8) hx hb hr (tq_nz (r_v_8.to (by decide))) (fun t ht hW => ⟨⟨v_8, ws, rfl, ⟨⟨r_v_8.to (by decide), (fun h0 => trivial), (fun h0 => absurd (Int32.toInt_inj.mp (by have h8 := r_v_8; unfold RI at h8; rw [Int32.toInt_zero]; omega)) h0)⟩, hw.1, hw.2.2.2.2.1⟩, by rw [ht]; exact hw.2.1, va_K.moved hW.alike hK, hw.2.2.1⟩, hw.2.2.2.1.F ht⟩) hw.2.2.2.1.2.2 dX10_isOne_12
abbrev wr_X10_isIn__7 : List (Nat × Nat) := []
abbrev wa_X10_isIn__7 : List Nat := []
set_option maxHeartbeats 4000000 in
set_option maxRecDepth 100000 in
theorem c_X10_isIn__7 (l : Launch) (D : va_G) (cy : Nat → ClassId) (z : Nat → Nat) (sz : Nat) (Ps : PSI) (w0 : va_W) (hT : HT cy GG Ps w0) (p0 : Int32) (p1 : Int32) (p2 : Int32) (r_p0 : RI p0 (-2147483648) 2147483647) (r_p1 : RI p1 1 1) (r_p2 : RI p2 99 99) : Met l yX10_isIn (Cond.code yX10_isIn cX10_isIn 3 (some .boolean) :: gT) ({ frames := 0, cells := 0, slots := 0, locals := 200 } : Room) (va_Pc [.int p0, .int p1, .int p2] (PRE D cy z w0 sz)) (va_Qi (fun (r : Int32) (u : Unit) => RI r 0 1 ∧ (r = 0 → True) ∧ (¬ r = 0 → RI p0 1 99 ∧ True)) (BB D cy (va_A w0 sz) (fun (u : Unit) => w0)) (va_A w0 sz)) 0 0 (va_A w0 sz) := by
  refine Met.ofW (cc := cX10_isIn) (maxL := 3) (ret := (some .boolean)) (by decide) rfl ?_
  intro p e s m args below meth c s₁ B hml hv
  obtain ⟨rfl, hsz, hP, hK, hD0, hSD⟩ := hv
  have hx := B.exec
  have hb := B.bytes
  have hr := B.returns
  have hlocks := B.notSynchronized
  have hts : ∀ w ∈ gT, w.before _ s = true := fun w h => atoms_spec (ws := Cond.code yX10_isIn cX10_isIn 3 (some .boolean) :: gT) B.pre w (List.mem_cons_of_mem _ h)
  have hown : s.vm.findClass RX10 = some m.cls := findClass_of_methodNamed B.named
  subst hsz
  have hD := hD0.self (sz := s.heap.size)
  generalize hAe : va_A w0 s.heap.size = A at hD hSD ⊢
  have hA : ∀ q : Nat, s.heap.size ≤ q → A q := fun q h => by rw [← hAe]; exact Or.inr h
  have hl := lv_entry ([.int p0, .int p1, .int p2]) (n := 3) (Nat.le_of_ble_eq_true rfl)
  rw [lg_entry_eq]
  generalize (lg_sl ([.int p0, .int p1, .int p2]) ++ List.replicate (3 - (lg_sl ([.int p0, .int p1, .int p2])).length) Slot.unset).toArray = ls at hl ⊢
  have hl : lv_has ls 3 [(0, .int p0), (1, .int p1), (2, .int p2)] := hl
  refine nameQ (fun Q hQ => ?_)
  have hw : WD D cy GG A s wr_X10_isIn__7 wa_X10_isIn__7 Ps w0 Ps w0 s.heap [] := ⟨hT, hP, hD, va_S.rf, FR.rf, hT.1, [], (List.append_nil _).symm⟩
  refine lv_iload_n hx hb dX10_isIn_0 rfl (lv_at hl 0 rfl) ?_
  refine lv_iload_n hx hb dX10_isIn_1 rfl (lv_at hl 1 rfl) ?_
  refine lv_icmp_lt (tgt := 14) hx hb dX10_isIn_2 (by decide) (fun c_2 => ?_) (fun c_2 => ?_)
  · have r_p0 : RI p0 (-2147483648) 0 := rc_lt1 r_p0 r_p1 (ti_lt c_2) (by decide)
    refine lv_iconst (v := 0) hx hb dX10_isIn_14 (by decide) ?_
    subst hQ
    exact W.zret (v := 0) hx hb hr (rfl) (fun t ht hW => ⟨⟨0, (), rfl, ⟨rl_0.to (by decide), (fun h0 => trivial), (fun h0 => absurd rfl h0)⟩, by rw [ht]; exact hw.2.1, va_K.moved hW.alike hK, hw.2.2.1⟩, hw.2.2.2.1.F ht⟩) hw.2.2.2.1.2.2 dX10_isIn_15
  · have r_p0 : RI p0 1 2147483647 := rc_le2 r_p1 r_p0 (ti_nlt c_2) (by decide)
    refine lv_iload_n hx hb dX10_isIn_5 rfl (lv_at hl 0 rfl) ?_
    refine lv_iload_n hx hb dX10_isIn_6 rfl (lv_at hl 2 rfl) ?_
    refine lv_icmp_gt (tgt := 14) hx hb dX10_isIn_7 (by decide) (fun c_7 => ?_) (fun c_7 => ?_)
    · have r_p0 : RI p0 100 2147483647 := rc_lt2 r_p2 r_p0 (ti_lt c_7) (by decide)
      refine lv_iconst (v := 0) hx hb dX10_isIn_14 (by decide) ?_
      subst hQ
      exact W.zret (v := 0) hx hb hr (rfl) (fun t ht hW => ⟨⟨0, (), rfl, ⟨rl_0.to (by decide), (fun h0 => trivial), (fun h0 => absurd rfl h0)⟩, by rw [ht]; exact hw.2.1, va_K.moved hW.alike hK, hw.2.2.1⟩, hw.2.2.2.1.F ht⟩) hw.2.2.2.1.2.2 dX10_isIn_15
    · have r_p0 : RI p0 1 99 := rc_le1 r_p0 r_p2 (ti_nlt c_7) (by decide)
      refine lv_iconst (v := 1) hx hb dX10_isIn_10 (by decide) ?_
      refine lv_goto (tgt := 15) hx hb dX10_isIn_11 (by decide) ?_
      subst hQ
      exact W.zret (v := 1) hx hb hr (rfl) (fun t ht hW => ⟨⟨1, (), rfl, ⟨rl_1.to (by decide), (fun _ => trivial), (fun h0 => ⟨r_p0, trivial⟩)⟩, by rw [ht]; exact hw.2.1, va_K.moved hW.alike hK, hw.2.2.1⟩, hw.2.2.2.1.F ht⟩) hw.2.2.2.1.2.2 dX10_isIn_15
abbrev wr_X10_readNumber : List (Nat × Nat) := [(10, 5), (10, 6), (10, 7), (10, 8), (10, 9), (10, 10), (10, 11), (10, 12), (10, 13)]
abbrev wa_X10_readNumber : List Nat := []
set_option maxHeartbeats 4000000 in
set_option maxRecDepth 100000 in
theorem c_X10_readNumber (l : Launch) (D : va_G) (cy : Nat → ClassId) (z : Nat → Nat) (sz : Nat) (Ps : PSI) (w0 : va_W) (hT : HT cy GG Ps w0) (p0 : Nat) (p1 : Int32) (p2 : Int32) (gh : Int) (h_p0 : (p0, 55) ∈ Ps) (r_p1 : RI p1 1 1) (r_p2 : RI p2 99 99) (x_TO_p0_gh : TOP w0 p0 (gh)) : Met l yX10_readNumber (Cond.code yX10_readNumber cX10_readNumber 3 (some .boolean) :: gT) ({ frames := 3, cells := 0, slots := 0, locals := 600 } : Room) (va_Pc [.ref p0, .int p1, .int p2] (PRE D cy z w0 sz)) (va_Qi (fun (r : Int32) (u : va_W) => (RI r 0 1 ∧ (r = 0 → True) ∧ (¬ r = 0 → (∃ v9 : Int32, FLD u p0 10 13 (.int v9) ∧ RI v9 1 99) ∧ TKP u p0 (gh) ∧ True)) ∧ HT cy GG Ps u ∧ FR wr_X10_readNumber wa_X10_readNumber Ps w0 u) (BB D cy (va_A w0 sz) (fun (u : va_W) => u)) (va_A w0 sz)) 0 0 (va_A w0 sz) := by
  refine Met.ofW (cc := cX10_readNumber) (maxL := 3) (ret := (some .boolean)) (by decide) rfl ?_
  intro p e s m args below meth c s₁ B hml hv
  obtain ⟨rfl, hsz, hP, hK, hD0, hSD⟩ := hv
  have hx := B.exec
  have hb := B.bytes
  have hr := B.returns
  have hlocks := B.notSynchronized
  have hts : ∀ w ∈ gT, w.before _ s = true := fun w h => atoms_spec (ws := Cond.code yX10_readNumber cX10_readNumber 3 (some .boolean) :: gT) B.pre w (List.mem_cons_of_mem _ h)
  have hown : s.vm.findClass RX10 = some m.cls := findClass_of_methodNamed B.named
  subst hsz
  have hD := hD0.self (sz := s.heap.size)
  generalize hAe : va_A w0 s.heap.size = A at hD hSD ⊢
  have hA : ∀ q : Nat, s.heap.size ≤ q → A q := fun q h => by rw [← hAe]; exact Or.inr h
  have hl := lv_entry ([.ref p0, .int p1, .int p2]) (n := 3) (Nat.le_of_ble_eq_true rfl)
  rw [lg_entry_eq]
  generalize (lg_sl ([.ref p0, .int p1, .int p2]) ++ List.replicate (3 - (lg_sl ([.ref p0, .int p1, .int p2])).length) Slot.unset).toArray = ls at hl ⊢
  have hl : lv_has ls 3 [(0, .ref p0), (1, .int p1), (2, .int p2)] := hl
  refine nameQ (fun Q hQ => ?_)
  have hw : WD D cy GG A s wr_X10_readNumber wa_X10_readNumber Ps w0 Ps w0 s.heap [] := ⟨hT, hP, hD, va_S.rf, FR.rf, hT.1, [], (List.append_nil _).symm⟩
  refine lv_aload_n hx hb dX10_readNumber_0 rfl (lv_at hl 0 rfl) ?_
  refine tg_get (ci := 10) (ts := ty_MODEL) (C := RX10) (T := TX10) (N := 49) hx hb hts inX10 hown hK hw h_p0 rfl rfl 7 (by decide) (hts _ tw_1144) (fun _ h9 => h9) (ft := vI (-2147483648) 2147483647) rfl dX10_readNumber_1 (fun u_1 hv_u_1 m_u_1 => ?_)
  obtain ⟨vu_1, rfl, r_vu_1⟩ := hv_u_1
  refine lv_iconst (v := 3) hx hb dX10_readNumber_4 (by decide) ?_
  refine lv_icmp_eq (tgt := 14) hx hb dX10_readNumber_5 (by decide) (fun c_5 => ?_) (fun c_5 => ?_)
  · have r_vu_1 : RI vu_1 3 3 := rc_eq1 r_vu_1 rl_3 (ti_eq c_5) (by decide)
    refine lv_aload_n hx hb dX10_readNumber_14 rfl (lv_at hl 0 rfl) ?_
    refine tg_get (ci := 10) (ts := ty_MODEL) (C := RX10) (T := TX10) (N := 49) hx hb hts inX10 hown hK hw h_p0 rfl rfl 8 (by decide) (hts _ tw_1145) (fun _ h9 => h9) (ft := vI (-2147483648) 2147483647) rfl dX10_readNumber_15 (fun u_2 hv_u_2 m_u_2 => ?_)
    obtain ⟨vu_2, rfl, r_vu_2⟩ := hv_u_2
    refine lv_iload_n hx hb dX10_readNumber_18 rfl (lv_at hl 1 rfl) ?_
    refine lv_iload_n hx hb dX10_readNumber_19 rfl (lv_at hl 2 rfl) ?_
    refine tk_ir (va_runS (As := [.int vu_2, .int p1, .int p2]) (rest := []) ⟨hx, hb, hml, hown, hts⟩ (c_X10_isIn__7 l D cy z s.heap.size Ps w0 hw.1 vu_2 p1 p2 r_vu_2 r_p1 r_p2) (va_cwS 3 hts (gS tw_1359 tw_1360 tw_15 tw_1361) rfl rfl rfl (by decide +kernel) ⟨Nat.le_of_ble_eq_true rfl, Nat.le_of_ble_eq_true rfl⟩) (tg_preS hw hK hSD hA) rfl rfl hl.1 rfl (lv_room (Nat.le_of_ble_eq_true rfl)) dX10_readNumber_20 ⟨Nat.le_of_ble_eq_true rfl, Nat.le_of_ble_eq_true rfl⟩) hw hA (fun v_3  H locs hp_v_3 hw => ?_)
    have r_v_3 : RI v_3 0 1 := hp_v_3.1
    refine lv_if_ne (tgt := 32) hx hb dX10_readNumber_23 (by decide) (fun c_23 => ?_) (fun c_23 => ?_)
    · have r_v_3 : RI v_3 1 1 := rc_neL r_v_3 rl_0 (ti_ne c_23) (by decide)
      have r_vu_2 : RI vu_2 1 99 := ((hp_v_3.2.2 c_23).1)
      refine lv_aload_n hx hb dX10_readNumber_32 rfl (lv_at hl 0 rfl) ?_
      refine lv_aload_n hx hb dX10_readNumber_33 rfl (lv_at hl 0 rfl) ?_
      refine tg_mem (ci := 10) (C := RX10) (T := TX10) (N := 49) hx hb hts inX10 hown hK hw 8 m_u_2 rfl (by decide) (hts _ tw_1145) (fun _ h9 => h9) dX10_readNumber_34 ?_
      refine tg_put (ci := 10) (ts := ty_MODEL) (v := .int vu_2) (ty := .int) (C := RX10) (T := TX10) (N := 49) hx hb hts inX10 tyX10 tyX10_ok nmX10 hown hK hw h_p0 rfl rfl 13 (by decide) (hts _ tw_1150) (fun _ h9 => h9) rfl (by decide +kernel) rfl rfl (ft := vI (-2147483648) 2147483647) rfl ⟨_, rfl, (r_vu_2.to (by decide))⟩ (by decide) dX10_readNumber_37 (fun ws H locs hw n_k_4 hF9 => ?_)
      have m_u_1 := FLD.over hF9 m_u_1 (by decide)
      have m_u_2 := FLD.over hF9 m_u_2 (by decide)
      have x_TO_p0_gh := TOP.over hF9 x_TO_p0_gh (by decide)
      refine lv_aload_n hx hb dX10_readNumber_40 rfl (lv_at hl 0 rfl) ?_
      refine tk_v (va_runV (As := []) (rest := []) ⟨hx, hb, hml, hown, hts⟩ (c_X10_go__1 l D cy z H.size Ps ws hw.1 p0 (gh) h_p0 x_TO_p0_gh) (cwV 0 hts (gV tw_1298 tw_1300 ts_40 tw_15 tw_1301) rfl rfl rfl (by decide +kernel) ⟨Nat.le_of_ble_eq_true rfl, Nat.le_of_ble_eq_true rfl⟩) (tg_preV hw hK hSD hA (ci := 10) (q := (RX10, TX10, 49)) rfl h_p0 rfl) rfl rfl hl.1 rfl (lv_room (Nat.le_of_ble_eq_true rfl)) dX10_readNumber_41 ⟨Nat.le_of_ble_eq_true rfl, Nat.le_of_ble_eq_true rfl⟩) hw hA ⟨by decide, by decide⟩ (fun ws H locs hp_v_5 hw hF9 => ?_)
      have n_k_4 := FLD.over hF9 n_k_4 (by decide)
      have x_TOK_p0_gh := (hp_v_5.1)
      refine lv_iconst (v := 1) hx hb dX10_readNumber_44 (by decide) ?_
      subst hQ
      exact W.zret (v := 1) hx hb hr (rfl) (fun t ht hW => ⟨⟨1, ws, rfl, ⟨⟨rl_1.to (by decide), (fun _ => trivial), (fun h0 => ⟨⟨_, n_k_4, r_vu_2⟩, x_TOK_p0_gh, trivial⟩)⟩, hw.1, hw.2.2.2.2.1⟩, by rw [ht]; exact hw.2.1, va_K.moved hW.alike hK, hw.2.2.1⟩, hw.2.2.2.1.F ht⟩) hw.2.2.2.1.2.2 dX10_readNumber_45
    · have r_v_3 : RI v_3 0 0 := rc_eq1 r_v_3 rl_0 (ti_eq c_23) (by decide)
      refine lv_aload_n hx hb dX10_readNumber_26 rfl (lv_at hl 0 rfl) ?_
      refine lv_iconst (v := 2) hx hb dX10_readNumber_27 (by decide) ?_
      refine tk_i (va_runV (As := [.int 2]) (rest := []) ⟨hx, hb, hml, hown, hts⟩ (c_X10_bad l D cy z H.size Ps w0 hw.1 p0 2 h_p0 (rl_2.to (by decide))) (cwV 1 hts (gV tw_1336 tw_1338 ts_46 tw_15 tw_1339) rfl rfl rfl (by decide +kernel) ⟨Nat.le_of_ble_eq_true rfl, Nat.le_of_ble_eq_true rfl⟩) (tg_preV hw hK hSD hA (ci := 10) (q := (RX10, TX10, 49)) rfl h_p0 rfl) rfl rfl hl.1 rfl (lv_room (Nat.le_of_ble_eq_true rfl)) dX10_readNumber_28 ⟨Nat.le_of_ble_eq_true rfl, Nat.le_of_ble_eq_true rfl⟩) hw hA ⟨by decide, by decide⟩ (fun v_6 ws H locs hp_v_6 hw hF9 => ?_)
      have m_u_1 := FLD.over hF9 m_u_1 (by decide)
      have m_u_2 := FLD.over hF9 m_u_2 (by decide)
      have x_TO_p0_gh := TOP.over hF9 x_TO_p0_gh (by decide)
      have r_v_6 : RI v_6 0 0 := hp_v_6.1
      subst hQ
      exact W.zret (v := v_6) hx hb hr (tq_nz (r_v_6.to (by decide))) (fun t ht hW => ⟨⟨v_6, ws, rfl, ⟨⟨r_v_6.to (by decide), (fun h0 => trivial), (fun h0 => absurd (Int32.toInt_inj.mp (by have h8 := r_v_6; unfold RI at h8; rw [Int32.toInt_zero]; omega)) h0)⟩, hw.1, hw.2.2.2.2.1⟩, by rw [ht]; exact hw.2.1, va_K.moved hW.alike hK, hw.2.2.1⟩, hw.2.2.2.1.F ht⟩) hw.2.2.2.1.2.2 dX10_readNumber_31
  · refine lv_aload_n hx hb dX10_readNumber_8 rfl (lv_at hl 0 rfl) ?_
    refine lv_iconst (v := 1) hx hb dX10_readNumber_9 (by decide) ?_
    refine tk_i (va_runV (As := [.int 1]) (rest := []) ⟨hx, hb, hml, hown, hts⟩ (c_X10_bad l D cy z s.heap.size Ps w0 hw.1 p0 1 h_p0 (rl_1.to (by decide))) (cwV 1 hts (gV tw_1336 tw_1338 ts_46 tw_15 tw_1339) rfl rfl rfl (by decide +kernel) ⟨Nat.le_of_ble_eq_true rfl, Nat.le_of_ble_eq_true rfl⟩) (tg_preV hw hK hSD hA (ci := 10) (q := (RX10, TX10, 49)) rfl h_p0 rfl) rfl rfl hl.1 rfl (lv_room (Nat.le_of_ble_eq_true rfl)) dX10_readNumber_10 ⟨Nat.le_of_ble_eq_true rfl, Nat.le_of_ble_eq_true rfl⟩) hw hA ⟨by decide, by decide⟩ (fun v_7 ws H locs hp_v_7 hw hF9 => ?_)
    have m_u_1 := FLD.over hF9 m_u_1 (by decide)
    have x_TO_p0_gh := TOP.over hF9 x_TO_p0_gh (by decide)
    have r_v_7 : RI v_7 0 0 := hp_v_7.1
    subst hQ
    exact W.zret (v := v_7) hx hb hr (tq_nz (r_v_7.to (by decide))) (fun t ht hW => ⟨⟨v_7, ws, rfl, ⟨⟨r_v_7.to (by decide), (fun h0 => trivial), (fun h0 => absurd (Int32.toInt_inj.mp (by have h8 := r_v_7; unfold RI at h8; rw [Int32.toInt_zero]; omega)) h0)⟩, hw.1, hw.2.2.2.2.1⟩, by rw [ht]; exact hw.2.1, va_K.moved hW.alike hK, hw.2.2.1⟩, hw.2.2.2.1.F ht⟩) hw.2.2.2.1.2.2 dX10_readNumber_13
abbrev wr_X10_put : List (Nat × Nat) := []
abbrev wa_X10_put : List Nat := []
set_option maxHeartbeats 4000000 in
set_option maxRecDepth 100000 in
theorem c_X10_put (l : Launch) (D : va_G) (cy : Nat → ClassId) (z : Nat → Nat) (sz : Nat) (Ps : PSI) (w0 : va_W) (hT : HT cy GG Ps w0) (p0 : Nat) (p1 : Int32) (p2 : Int32) (F : (Nat → Int32) → Prop) (F2 : (Nat → Int32) → Prop) (h_p0 : (p0, 55) ∈ Ps) (r_p1 : RI p1 48 83) (r_p2 : RI p2 0 0) (x_F : AX 15 35 F Ps w0 p0) (hF : ∀ (f : Nat → Int32) (v : Int32), RI v (-2147483648) 2147483647 → F f → F2 (upd f (Int32.toNatClampNeg p1) v)) : Met l yX10_put (Cond.code yX10_put cX10_put 3 (some .boolean) :: gT) ({ frames := 0, cells := 0, slots := 0, locals := 200 } : Room) (va_Pc [.ref p0, .int p1, .int p2] (PRE D cy z w0 sz)) (va_Qi (fun (r : Int32) (u : Unit) => RI r 0 0 ∧ (r = 0 → AX 15 35 F Ps w0 p0 ∧ True) ∧ (¬ r = 0 → AX 15 35 F2 Ps w0 p0 ∧ True)) (BB D cy (va_A w0 sz) (fun (u : Unit) => w0)) (va_A w0 sz)) 0 0 (va_A w0 sz) := by
  refine Met.ofW (cc := cX10_put) (maxL := 3) (ret := (some .boolean)) (by decide) rfl ?_
  intro p e s m args below meth c s₁ B hml hv
  obtain ⟨rfl, hsz, hP, hK, hD0, hSD⟩ := hv
  have hx := B.exec
  have hb := B.bytes
  have hr := B.returns
  have hlocks := B.notSynchronized
  have hts : ∀ w ∈ gT, w.before _ s = true := fun w h => atoms_spec (ws := Cond.code yX10_put cX10_put 3 (some .boolean) :: gT) B.pre w (List.mem_cons_of_mem _ h)
  have hown : s.vm.findClass RX10 = some m.cls := findClass_of_methodNamed B.named
  subst hsz
  have hD := hD0.self (sz := s.heap.size)
  generalize hAe : va_A w0 s.heap.size = A at hD hSD ⊢
  have hA : ∀ q : Nat, s.heap.size ≤ q → A q := fun q h => by rw [← hAe]; exact Or.inr h
  have hl := lv_entry ([.ref p0, .int p1, .int p2]) (n := 3) (Nat.le_of_ble_eq_true rfl)
  rw [lg_entry_eq]
  generalize (lg_sl ([.ref p0, .int p1, .int p2]) ++ List.replicate (3 - (lg_sl ([.ref p0, .int p1, .int p2])).length) Slot.unset).toArray = ls at hl ⊢
  have hl : lv_has ls 3 [(0, .ref p0), (1, .int p1), (2, .int p2)] := hl
  refine nameQ (fun Q hQ => ?_)
  have hw : WD D cy GG A s wr_X10_put wa_X10_put Ps w0 Ps w0 s.heap [] := ⟨hT, hP, hD, va_S.rf, FR.rf, hT.1, [], (List.append_nil _).symm⟩
  refine lv_iload_n hx hb dX10_put_0 rfl (lv_at hl 2 rfl) ?_
  refine lv_if_eq (tgt := 14) hx hb dX10_put_1 (by decide) (fun c_1 => ?_) (fun c_1 => ?_)
  · refine lv_iload_n hx hb dX10_put_14 rfl (lv_at hl 2 rfl) ?_
    subst hQ
    exact W.zret (v := p2) hx hb hr (tq_nz (r_p2.to (by decide))) (fun t ht hW => ⟨⟨p2, (), rfl, ⟨r_p2.to (by decide), (fun h0 => ⟨x_F, trivial⟩), (fun h0 => absurd (Int32.toInt_inj.mp (by have h8 := r_p2; unfold RI at h8; rw [Int32.toInt_zero]; omega)) h0)⟩, by rw [ht]; exact hw.2.1, va_K.moved hW.alike hK, hw.2.2.1⟩, hw.2.2.2.1.F ht⟩) hw.2.2.2.1.2.2 dX10_put_15
  · exact absurd (r_p2.eq.trans rl_0.eq.symm) ((ti_ne c_1))
abbrev wr_X10_put__1 : List (Nat × Nat) := []
abbrev wa_X10_put__1 : List Nat := [35]
set_option maxHeartbeats 4000000 in
set_option maxRecDepth 100000 in
theorem c_X10_put__1 (l : Launch) (D : va_G) (cy : Nat → ClassId) (z : Nat → Nat) (sz : Nat) (Ps : PSI) (w0 : va_W) (hT : HT cy GG Ps w0) (p0 : Nat) (p1 : Int32) (p2 : Int32) (f0_13 : Int32) (F : (Nat → Int32) → Prop) (F2 : (Nat → Int32) → Prop) (h_p0 : (p0, 55) ∈ Ps) (r_p1 : RI p1 48 83) (r_p2 : RI p2 1 1) (r_f0_13 : RI f0_13 1 99) (m_f0_13 : FLD w0 p0 10 13 (.int f0_13)) (x_F : AX 15 35 F Ps w0 p0) (hF : ∀ (f : Nat → Int32) (v : Int32), RI v 1 99 → F f → F2 (upd f (Int32.toNatClampNeg p1) v)) : Met l yX10_put (Cond.code yX10_put cX10_put 3 (some .boolean) :: gT) ({ frames := 0, cells := 0, slots := 0, locals := 200 } : Room) (va_Pc [.ref p0, .int p1, .int p2] (PRE D cy z w0 sz)) (va_Qi (fun (r : Int32) (u : va_W) => (RI r 1 1 ∧ (r = 0 → AX 15 35 F Ps u p0 ∧ True) ∧ (¬ r = 0 → (∃ v9 : Int32, FLD u p0 10 13 (.int v9) ∧ RI v9 1 99) ∧ AX 15 35 F2 Ps u p0 ∧ True)) ∧ HT cy GG Ps u ∧ FR wr_X10_put__1 wa_X10_put__1 Ps w0 u) (BB D cy (va_A w0 sz) (fun (u : va_W) => u)) (va_A w0 sz)) 0 0 (va_A w0 sz) := by
  refine Met.ofW (cc := cX10_put) (maxL := 3) (ret := (some .boolean)) (by decide) rfl ?_
  intro p e s m args below meth c s₁ B hml hv
  obtain ⟨rfl, hsz, hP, hK, hD0, hSD⟩ := hv
  have hx := B.exec
  have hb := B.bytes
  have hr := B.returns
  have hlocks := B.notSynchronized
  have hts : ∀ w ∈ gT, w.before _ s = true := fun w h => atoms_spec (ws := Cond.code yX10_put cX10_put 3 (some .boolean) :: gT) B.pre w (List.mem_cons_of_mem _ h)
  have hown : s.vm.findClass RX10 = some m.cls := findClass_of_methodNamed B.named
  subst hsz
  have hD := hD0.self (sz := s.heap.size)
  generalize hAe : va_A w0 s.heap.size = A at hD hSD ⊢
  have hA : ∀ q : Nat, s.heap.size ≤ q → A q := fun q h => by rw [← hAe]; exact Or.inr h
  have hl := lv_entry ([.ref p0, .int p1, .int p2]) (n := 3) (Nat.le_of_ble_eq_true rfl)
  rw [lg_entry_eq]
  generalize (lg_sl ([.ref p0, .int p1, .int p2]) ++ List.replicate (3 - (lg_sl ([.ref p0, .int p1, .int p2])).length) Slot.unset).toArray = ls at hl ⊢
  have hl : lv_has ls 3 [(0, .ref p0), (1, .int p1), (2, .int p2)] := hl
  refine nameQ (fun Q hQ => ?_)
  have hw : WD D cy GG A s wr_X10_put__1 wa_X10_put__1 Ps w0 Ps w0 s.heap [] := ⟨hT, hP, hD, va_S.rf, FR.rf, hT.1, [], (List.append_nil _).symm⟩
  refine lv_iload_n hx hb dX10_put_0 rfl (lv_at hl 2 rfl) ?_
  refine lv_if_eq (tgt := 14) hx hb dX10_put_1 (by decide) (fun c_1 => ?_) (fun c_1 => ?_)
  · have r_p2 : RI p2 1 0 := rc_eq1 r_p2 rl_0 (ti_eq c_1) (by decide)
    exact (r_p2.no (by decide)).elim
  · refine lv_aload_n hx hb dX10_put_4 rfl (lv_at hl 0 rfl) ?_
    refine tg_get (ci := 10) (ts := ty_MODEL) (C := RX10) (T := TX10) (N := 49) hx hb hts inX10 hown hK hw h_p0 rfl rfl 15 (by decide) (hts _ tw_1152) (fun _ h9 => h9) (ft := vR 35) rfl dX10_put_5 (fun u_1 hv_u_1 m_u_1 => ?_)
    obtain ⟨vu_1, rfl, h_vu_1⟩ := hv_u_1
    refine lv_iload_n hx hb dX10_put_8 rfl (lv_at hl 1 rfl) ?_
    refine lv_aload_n hx hb dX10_put_9 rfl (lv_at hl 0 rfl) ?_
    refine tg_mem (ci := 10) (C := RX10) (T := TX10) (N := 49) hx hb hts inX10 hown hK hw 13 m_f0_13 rfl (by decide) (hts _ tw_1150) (fun _ h9 => h9) dX10_put_10 ?_
    refine tg_iast hx hb hK hw h_vu_1 rfl 48 83 r_p1 (by decide) r_f0_13 (by decide +kernel) (fun _ _ _ _ _ => trivial) (by decide) dX10_put_13 (fun ws H locs hw hF9 hU9 => ?_)
    have x_GFRB_p0 : AX 15 35 F2 Ps ws p0 := AX.ast hF9 hU9 x_F m_u_1 (fun f9 h9 => hF f9 _ r_f0_13 h9)
    have m_f0_13 := FLD.over hF9 m_f0_13 (by decide)
    refine lv_iload_n hx hb dX10_put_14 rfl (lv_at hl 2 rfl) ?_
    subst hQ
    exact W.zret (v := p2) hx hb hr (tq_nz (r_p2.to (by decide))) (fun t ht hW => ⟨⟨p2, ws, rfl, ⟨⟨r_p2.to (by decide), (fun h0 => absurd (ti_eq h0) (by have h8 := r_p2; unfold RI at h8; rw [Int32.toInt_zero]; omega)), (fun h0 => ⟨⟨_, m_f0_13, r_f0_13⟩, x_GFRB_p0, trivial⟩)⟩, hw.1, hw.2.2.2.2.1⟩, by rw [ht]; exact hw.2.1, va_K.moved hW.alike hK, hw.2.2.1⟩, hw.2.2.2.1.F ht⟩) hw.2.2.2.1.2.2 dX10_put_15
abbrev wr_X10_readHas : List (Nat × Nat) := [(10, 5), (10, 6), (10, 7), (10, 8), (10, 9), (10, 10), (10, 11), (10, 12), (10, 13)]
abbrev wa_X10_readHas : List Nat := [35]
set_option maxHeartbeats 4000000 in
set_option maxRecDepth 100000 in
theorem c_X10_readHas (l : Launch) (D : va_G) (cy : Nat → ClassId) (z : Nat → Nat) (sz : Nat) (Ps : PSI) (w0 : va_W) (hT : HT cy GG Ps w0) (p0 : Nat) (gh : Int) (h_p0 : (p0, 55) ∈ Ps) (x_TO_p0_gh : TOP w0 p0 (gh)) (x_RH_p0 : AX 15 35 (fun f => RH2p f) Ps w0 p0) : Met l yX10_readHas (Cond.code yX10_readHas cX10_readHas 2 (some .boolean) :: gT) ({ frames := 6, cells := 0, slots := 0, locals := 1200 } : Room) (va_Pc [.ref p0] (PRE D cy z w0 sz)) (va_Qi (fun (r : Int32) (u : va_W) => (RI r 0 1 ∧ (r = 0 → True) ∧ (¬ r = 0 → (∃ v9 : Int32, FLD u p0 10 13 (.int v9) ∧ RI v9 1 99) ∧ TKP u p0 (gh) ∧ AX 15 35 (fun f => RH2p f) Ps u p0 ∧ True)) ∧ HT cy GG Ps u ∧ FR wr_X10_readHas wa_X10_readHas Ps w0 u) (BB D cy (va_A w0 sz) (fun (u : va_W) => u)) (va_A w0 sz)) 0 0 (va_A w0 sz) := by
  refine Met.ofW (cc := cX10_readHas) (maxL := 2) (ret := (some .boolean)) (by decide) rfl ?_
  intro p e s m args below meth c s₁ B hml hv
  obtain ⟨rfl, hsz, hP, hK, hD0, hSD⟩ := hv
  have hx := B.exec
  have hb := B.bytes
  have hr := B.returns
  have hlocks := B.notSynchronized
  have hts : ∀ w ∈ gT, w.before _ s = true := fun w h => atoms_spec (ws := Cond.code yX10_readHas cX10_readHas 2 (some .boolean) :: gT) B.pre w (List.mem_cons_of_mem _ h)
  have hown : s.vm.findClass RX10 = some m.cls := findClass_of_methodNamed B.named
  subst hsz
  have hD := hD0.self (sz := s.heap.size)
  generalize hAe : va_A w0 s.heap.size = A at hD hSD ⊢
  have hA : ∀ q : Nat, s.heap.size ≤ q → A q := fun q h => by rw [← hAe]; exact Or.inr h
  have hl := lv_entry ([.ref p0]) (n := 2) (Nat.le_of_ble_eq_true rfl)
  rw [lg_entry_eq]
  generalize (lg_sl ([.ref p0]) ++ List.replicate (2 - (lg_sl ([.ref p0])).length) Slot.unset).toArray = ls at hl ⊢
  have hl : lv_has ls 2 [(0, .ref p0)] := hl
  refine nameQ (fun Q hQ => ?_)
  have hw : WD D cy GG A s wr_X10_readHas wa_X10_readHas Ps w0 Ps w0 s.heap [] := ⟨hT, hP, hD, va_S.rf, FR.rf, hT.1, [], (List.append_nil _).symm⟩
  refine lv_aload_n hx hb dX10_readHas_0 rfl (lv_at hl 0 rfl) ?_
  refine tk_v (va_runV (As := []) (rest := []) ⟨hx, hb, hml, hown, hts⟩ (c_X10_go__1 l D cy z s.heap.size Ps w0 hw.1 p0 (gh) h_p0 x_TO_p0_gh) (cwV 0 hts (gV tw_1298 tw_1300 ts_40 tw_15 tw_1301) rfl rfl rfl (by decide +kernel) ⟨Nat.le_of_ble_eq_true rfl, Nat.le_of_ble_eq_true rfl⟩) (tg_preV hw hK hSD hA (ci := 10) (q := (RX10, TX10, 49)) rfl h_p0 rfl) rfl rfl hl.1 rfl (lv_room (Nat.le_of_ble_eq_true rfl)) dX10_readHas_1 ⟨Nat.le_of_ble_eq_true rfl, Nat.le_of_ble_eq_true rfl⟩) hw hA ⟨by decide, by decide⟩ (fun ws H locs hp_v_1 hw hF9 => ?_)
  have x_RH_p0 := AX.over hF9 x_RH_p0 (by decide)
  have x_TOK_p0_gh := (hp_v_1.1)
  refine lv_aload_n hx hb dX10_readHas_4 rfl (lv_at hl 0 rfl) ?_
  refine lv_bipush (v := 10) hx hb dX10_readHas_5 (by decide) ?_
  refine lv_aload_n hx hb dX10_readHas_7 rfl (lv_at hl 0 rfl) ?_
  refine tg_get (ci := 10) (ts := ty_MODEL) (C := RX10) (T := TX10) (N := 49) hx hb hts inX10 hown hK hw h_p0 rfl rfl 15 (by decide) (hts _ tw_1152) (fun _ h9 => h9) (ft := vR 35) rfl dX10_readHas_8 (fun u_2 hv_u_2 m_u_2 => ?_)
  obtain ⟨vu_2, rfl, h_vu_2⟩ := hv_u_2
  refine lv_iconst (v := 2) hx hb dX10_readHas_11 (by decide) ?_
  refine tg_iald (lo := 0) (hi := 6) hx hb hK hw h_vu_2 rfl 2 2 rl_2 (by decide) (by decide +kernel) dX10_readHas_12 (fun v_3 r_v_3 m_v_3 o_v_3 => ?_)
  have x_TO_p0_gh : TOP ws p0 (gh) := TKP.top x_TOK_p0_gh
  have hw8 := hw
  refine tk_i (va_runV (As := [.int 10, .int v_3]) (rest := []) ⟨hx, hb, hml, hown, hts⟩ (c_X10_readOne l D cy z H.size Ps ws hw.1 p0 10 v_3 (gh) h_p0 rl_10 r_v_3 x_TO_p0_gh) (cwV 2 hts (gV tw_1374 tw_1376 ts_54 tw_15 tw_1377) rfl rfl rfl (by decide +kernel) ⟨Nat.le_of_ble_eq_true rfl, Nat.le_of_ble_eq_true rfl⟩) (tg_preV hw hK hSD hA (ci := 10) (q := (RX10, TX10, 49)) rfl h_p0 rfl) rfl rfl hl.1 rfl (lv_room (Nat.le_of_ble_eq_true rfl)) dX10_readHas_13 ⟨Nat.le_of_ble_eq_true rfl, Nat.le_of_ble_eq_true rfl⟩) hw hA ⟨by decide, by decide⟩ (fun v_4 ws H locs hp_v_4 hw hF9 => ?_)
  have m_v_3 := AEL.over hw8 hF9 h_vu_2 m_v_3 (by decide)
  have m_u_2 := FLD.over hF9 m_u_2 (by decide)
  have x_RH_p0 := AX.over hF9 x_RH_p0 (by decide)
  have r_v_4 : RI v_4 0 1 := hp_v_4.1
  by_cases c9_v_4 : v_4 = 0
  · have r_v_4 : RI v_4 0 0 := by rw [c9_v_4]; exact rl_0
    refine lv_if_ne (tgt := 21) hx hb dX10_readHas_16 (by decide) (fun c_16 => ?_) (fun c_16 => ?_)
    · exact absurd (r_v_4.eq.trans rl_0.eq.symm) ((ti_ne c_16))
    · refine lv_iconst (v := 0) hx hb dX10_readHas_19 (by decide) ?_
      subst hQ
      exact W.zret (v := 0) hx hb hr (rfl) (fun t ht hW => ⟨⟨0, ws, rfl, ⟨⟨rl_0.to (by decide), (fun h0 => trivial), (fun h0 => absurd rfl h0)⟩, hw.1, hw.2.2.2.2.1⟩, by rw [ht]; exact hw.2.1, va_K.moved hW.alike hK, hw.2.2.1⟩, hw.2.2.2.1.F ht⟩) hw.2.2.2.1.2.2 dX10_readHas_20
  · have r_v_4 : RI v_4 1 1 := rc_neL r_v_4 rl_0 (ti_ne c9_v_4) (by decide)
    have r_v_3 : RI v_3 1 6 := ((hp_v_4.2.2 c9_v_4).1)
    obtain ⟨v_5, m_v_5, r_v_5⟩ := ((hp_v_4.2.2 c9_v_4).2.1)
    have x_TOK_p0_gh := ((hp_v_4.2.2 c9_v_4).2.2.1)
    refine lv_if_ne (tgt := 21) hx hb dX10_readHas_16 (by decide) (fun c_16 => ?_) (fun c_16 => ?_)
    · refine lv_bipush (v := 48) hx hb dX10_readHas_21 (by decide) ?_
      refine lv_bipush (v := 6) hx hb dX10_readHas_23 (by decide) ?_
      refine lv_aload_n hx hb dX10_readHas_25 rfl (lv_at hl 0 rfl) ?_
      refine tg_mem (ci := 10) (C := RX10) (T := TX10) (N := 49) hx hb hts inX10 hown hK hw 13 m_v_5 rfl (by decide) (hts _ tw_1150) (fun _ h9 => h9) dX10_readHas_26 ?_
      refine lv_imul hx hb dX10_readHas_29 (lv_topi (fun v_6 e_v_6 => ?_))
      obtain ⟨t_v_6, r_v_6⟩ := tq_mul (lo := 0) (hi := 30) rl_6 r_v_5 (by decide +kernel) e_v_6
      have t_v_6 : v_6.toInt = 6 * v_5.toInt := t_v_6
      refine lv_iadd hx hb dX10_readHas_30 (lv_topi (fun v_7 e_v_7 => ?_))
      obtain ⟨t_v_7, r_v_7⟩ := tq_add (lo := 48) (hi := 78) rl_48 r_v_6 (by decide +kernel) e_v_7
      have t_v_7 : v_7.toInt = 48 + v_6.toInt := t_v_7
      refine lv_istore_n (lv' := [(1, .int v_7), (0, .ref p0)]) hx hb dX10_readHas_31 rfl hl (by decide) rfl (fun ls hl => ?_)
      refine lv_aload_n hx hb dX10_readHas_32 rfl (lv_at hl 1 rfl) ?_
      refine lv_iconst (v := 0) hx hb dX10_readHas_33 (by decide) ?_
      refine lv_aload_n hx hb dX10_readHas_34 rfl (lv_at hl 1 rfl) ?_
      refine tg_mem (ci := 10) (C := RX10) (T := TX10) (N := 49) hx hb hts inX10 hown hK hw 15 m_u_2 rfl (by decide) (hts _ tw_1152) (fun _ h9 => h9) dX10_readHas_35 ?_
      refine lv_iconst (v := 0) hx hb dX10_readHas_38 (by decide) ?_
      refine tg_iald (lo := 0) (hi := 6) hx hb hK hw h_vu_2 rfl 0 0 rl_0 (by decide) (by decide +kernel) dX10_readHas_39 (fun v_8 r_v_8 m_v_8 o_v_8 => ?_)
      have hw8 := hw
      refine tk_i (va_runV (As := [.int 0, .int v_8]) (rest := []) ⟨hx, hb, hml, hown, hts⟩ (c_X10_isOne__1 l D cy z H.size Ps ws hw.1 p0 0 v_8 h_p0 rl_0 r_v_8) (cwV 2 hts (gV tw_1378 tw_1380 ts_55 tw_15 tw_1381) rfl rfl rfl (by decide +kernel) ⟨Nat.le_of_ble_eq_true rfl, Nat.le_of_ble_eq_true rfl⟩) (tg_preV hw hK hSD hA (ci := 10) (q := (RX10, TX10, 49)) rfl h_p0 rfl) rfl rfl hl.1 rfl (lv_room (Nat.le_of_ble_eq_true rfl)) dX10_readHas_40 ⟨Nat.le_of_ble_eq_true rfl, Nat.le_of_ble_eq_true rfl⟩) hw hA ⟨by decide, by decide⟩ (fun v_9 ws H locs hp_v_9 hw hF9 => ?_)
      have m_v_3 := AEL.over hw8 hF9 h_vu_2 m_v_3 (by decide)
      have m_v_8 := AEL.over hw8 hF9 h_vu_2 m_v_8 (by decide)
      have m_u_2 := FLD.over hF9 m_u_2 (by decide)
      have x_RH_p0 := AX.over hF9 x_RH_p0 (by decide)
      have x_TOK_p0_gh := TKP.over hF9 x_TOK_p0_gh (by decide)
      have r_v_9 : RI v_9 0 1 := hp_v_9.1
      by_cases c9_v_9 : v_9 = 0
      · have r_v_9 : RI v_9 0 0 := by rw [c9_v_9]; exact rl_0
        refine lv_if_ne (tgt := 48) hx hb dX10_readHas_43 (by decide) (fun c_43 => ?_) (fun c_43 => ?_)
        · exact absurd (r_v_9.eq.trans rl_0.eq.symm) ((ti_ne c_43))
        · refine lv_iconst (v := 0) hx hb dX10_readHas_46 (by decide) ?_
          subst hQ
          exact W.zret (v := 0) hx hb hr (rfl) (fun t ht hW => ⟨⟨0, ws, rfl, ⟨⟨rl_0.to (by decide), (fun h0 => trivial), (fun h0 => absurd rfl h0)⟩, hw.1, hw.2.2.2.2.1⟩, by rw [ht]; exact hw.2.1, va_K.moved hW.alike hK, hw.2.2.1⟩, hw.2.2.2.1.F ht⟩) hw.2.2.2.1.2.2 dX10_readHas_47
      · have r_v_9 : RI v_9 1 1 := rc_neL r_v_9 rl_0 (ti_ne c9_v_9) (by decide)
        have r_v_8 : RI v_8 1 6 := ((hp_v_9.2.2 c9_v_9).1)
        obtain ⟨v_10, m_v_10, r_v_10⟩ := ((hp_v_9.2.2 c9_v_9).2.1)
        refine lv_if_ne (tgt := 48) hx hb dX10_readHas_43 (by decide) (fun c_43 => ?_) (fun c_43 => ?_)
        · refine lv_iload_n hx hb dX10_readHas_48 rfl (lv_at hl 0 rfl) ?_
          refine lv_aload_n hx hb dX10_readHas_49 rfl (lv_at hl 1 rfl) ?_
          refine tg_mem (ci := 10) (C := RX10) (T := TX10) (N := 49) hx hb hts inX10 hown hK hw 13 m_v_10 rfl (by decide) (hts _ tw_1150) (fun _ h9 => h9) dX10_readHas_50 ?_
          refine lv_iadd hx hb dX10_readHas_53 (lv_topi (fun v_11 e_v_11 => ?_))
          obtain ⟨t_v_11, r_v_11⟩ := tq_add (lo := 48) (hi := 83) r_v_7 r_v_10 (by decide +kernel) e_v_11
          refine lv_istore_n (lv' := [(1, .int v_11), (0, .ref p0)]) hx hb dX10_readHas_54 rfl hl (by decide) rfl (fun ls hl => ?_)
          refine lv_aload_n hx hb dX10_readHas_55 rfl (lv_at hl 1 rfl) ?_
          refine tg_mem (ci := 10) (C := RX10) (T := TX10) (N := 49) hx hb hts inX10 hown hK hw 15 m_u_2 rfl (by decide) (hts _ tw_1152) (fun _ h9 => h9) dX10_readHas_56 ?_
          refine lv_iload_n hx hb dX10_readHas_59 rfl (lv_at hl 0 rfl) ?_
          refine tg_iald (lo := (-2147483648)) (hi := 2147483647) hx hb hK hw h_vu_2 rfl 48 83 r_v_11 (by decide) (by decide +kernel) dX10_readHas_60 (fun v_12 r_v_12 m_v_12 o_v_12 => ?_)
          refine lv_if_eq (tgt := 70) hx hb dX10_readHas_61 (by decide) (fun c_61 => ?_) (fun c_61 => ?_)
          · have r_v_12 : RI v_12 0 0 := rc_eq1 r_v_12 rl_0 (ti_eq c_61) (by decide)
            refine lv_aload_n hx hb dX10_readHas_70 rfl (lv_at hl 1 rfl) ?_
            have x_TO_p0_gh : TOP ws p0 (gh) := TKP.top x_TOK_p0_gh
            have hw8 := hw
            refine tk_v (va_runV (As := []) (rest := []) ⟨hx, hb, hml, hown, hts⟩ (c_X10_go__1 l D cy z H.size Ps ws hw.1 p0 (gh) h_p0 x_TO_p0_gh) (cwV 0 hts (gV tw_1298 tw_1300 ts_40 tw_15 tw_1301) rfl rfl rfl (by decide +kernel) ⟨Nat.le_of_ble_eq_true rfl, Nat.le_of_ble_eq_true rfl⟩) (tg_preV hw hK hSD hA (ci := 10) (q := (RX10, TX10, 49)) rfl h_p0 rfl) rfl rfl hl.1 rfl (lv_room (Nat.le_of_ble_eq_true rfl)) dX10_readHas_71 ⟨Nat.le_of_ble_eq_true rfl, Nat.le_of_ble_eq_true rfl⟩) hw hA ⟨by decide, by decide⟩ (fun ws H locs hp_v_13 hw hF9 => ?_)
            have m_v_3 := AEL.over hw8 hF9 h_vu_2 m_v_3 (by decide)
            have m_v_8 := AEL.over hw8 hF9 h_vu_2 m_v_8 (by decide)
            have m_v_12 := AEL.over hw8 hF9 h_vu_2 m_v_12 (by decide)
            have m_u_2 := FLD.over hF9 m_u_2 (by decide)
            have m_v_10 := FLD.over hF9 m_v_10 (by decide)
            have x_RH_p0 := AX.over hF9 x_RH_p0 (by decide)
            have x_TOK_p0_gh := (hp_v_13.1)
            refine lv_aload_n hx hb dX10_readHas_74 rfl (lv_at hl 1 rfl) ?_
            refine lv_iload_n hx hb dX10_readHas_75 rfl (lv_at hl 0 rfl) ?_
            refine lv_aload_n hx hb dX10_readHas_76 rfl (lv_at hl 1 rfl) ?_
            refine lv_iconst (v := 1) hx hb dX10_readHas_77 (by decide) ?_
            refine lv_bipush (v := 99) hx hb dX10_readHas_78 (by decide) ?_
            have x_TO_p0_gh : TOP ws p0 (gh) := TKP.top x_TOK_p0_gh
            have hw8 := hw
            refine tk_i (va_runV (As := [.int 1, .int 99]) (rest := [.int v_11, .ref p0]) ⟨hx, hb, hml, hown, hts⟩ (c_X10_readNumber l D cy z H.size Ps ws hw.1 p0 1 99 (gh) h_p0 rl_1 rl_99 x_TO_p0_gh) (cwV 2 hts (gV tw_1355 tw_1357 ts_50 tw_15 tw_1358) rfl rfl rfl (by decide +kernel) ⟨Nat.le_of_ble_eq_true rfl, Nat.le_of_ble_eq_true rfl⟩) (tg_preV hw hK hSD hA (ci := 10) (q := (RX10, TX10, 49)) rfl h_p0 rfl) rfl rfl hl.1 rfl (lv_room (Nat.le_of_ble_eq_true rfl)) dX10_readHas_80 ⟨Nat.le_of_ble_eq_true rfl, Nat.le_of_ble_eq_true rfl⟩) hw hA ⟨by decide, by decide⟩ (fun v_14 ws H locs hp_v_14 hw hF9 => ?_)
            have m_v_3 := AEL.over hw8 hF9 h_vu_2 m_v_3 (by decide)
            have m_v_8 := AEL.over hw8 hF9 h_vu_2 m_v_8 (by decide)
            have m_v_12 := AEL.over hw8 hF9 h_vu_2 m_v_12 (by decide)
            have m_u_2 := FLD.over hF9 m_u_2 (by decide)
            have x_RH_p0 := AX.over hF9 x_RH_p0 (by decide)
            have r_v_14 : RI v_14 0 1 := hp_v_14.1
            by_cases c9_v_14 : v_14 = 0
            · have r_v_14 : RI v_14 0 0 := by rw [c9_v_14]; exact rl_0
              refine tk_ir (va_runV (As := [.int v_11, .int v_14]) (rest := []) ⟨hx, hb, hml, hown, hts⟩ (c_X10_put l D cy z H.size Ps ws hw.1 p0 v_11 v_14 (fun f => RH2p f ∧ True) (fun f => RH2p f ∧ True) h_p0 r_v_11 r_v_14 (AX.and hw x_RH_p0 (rx_true hw h_p0)) (fun f9 v9 hv9 H9 => ⟨(have h9 := H9.1; RH_keep h9 (by have k4 := r_v_11.cl (by decide); have k5 := r_v_11; unfold RI at k5; omega)), trivial⟩)) (cwV 2 hts (gV tw_1362 tw_1364 ts_51 tw_15 tw_1365) rfl rfl rfl (by decide +kernel) ⟨Nat.le_of_ble_eq_true rfl, Nat.le_of_ble_eq_true rfl⟩) (tg_preV hw hK hSD hA (ci := 10) (q := (RX10, TX10, 49)) rfl h_p0 rfl) rfl rfl hl.1 rfl (lv_room (Nat.le_of_ble_eq_true rfl)) dX10_readHas_83 ⟨Nat.le_of_ble_eq_true rfl, Nat.le_of_ble_eq_true rfl⟩) hw hA (fun v_15  H locs hp_v_15 hw => ?_)
              have r_v_15 : RI v_15 0 0 := hp_v_15.1
              by_cases c9_v_15 : v_15 = 0
              · have r_v_15 : RI v_15 0 0 := by rw [c9_v_15]; exact rl_0
                have x_RH_p0 : AX 15 35 (fun f => RH2p f) Ps ws p0 := AX.imp ((hp_v_15.2.1 c9_v_15).1) (fun _ h9 => h9.1)
                subst hQ
                exact W.zret (v := v_15) hx hb hr (tq_nz (r_v_15.to (by decide))) (fun t ht hW => ⟨⟨v_15, ws, rfl, ⟨⟨r_v_15.to (by decide), (fun h0 => trivial), (fun h0 => absurd (Int32.toInt_inj.mp (by have h8 := r_v_15; unfold RI at h8; rw [Int32.toInt_zero]; omega)) h0)⟩, hw.1, hw.2.2.2.2.1⟩, by rw [ht]; exact hw.2.1, va_K.moved hW.alike hK, hw.2.2.1⟩, hw.2.2.2.1.F ht⟩) hw.2.2.2.1.2.2 dX10_readHas_86
              · exact absurd (Int32.toInt_inj.mp (by rw [Int32.toInt_zero]; unfold RI at r_v_15; omega)) c9_v_15
            · have r_v_14 : RI v_14 1 1 := rc_neL r_v_14 rl_0 (ti_ne c9_v_14) (by decide)
              obtain ⟨v_16, m_v_16, r_v_16⟩ := ((hp_v_14.2.2 c9_v_14).1)
              have x_TOK_p0_gh := ((hp_v_14.2.2 c9_v_14).2.1)
              have hw8 := hw
              refine tk_i (va_runV (As := [.int v_11, .int v_14]) (rest := []) ⟨hx, hb, hml, hown, hts⟩ (c_X10_put__1 l D cy z H.size Ps ws hw.1 p0 v_11 v_14 v_16 (fun f => RH2p f ∧ True) (fun f => RH2p f ∧ True) h_p0 r_v_11 r_v_14 r_v_16 m_v_16 (AX.and hw x_RH_p0 (rx_true hw h_p0)) (fun f9 v9 hv9 H9 => ⟨(have h9 := H9.1; RH_keep h9 (by have k4 := r_v_11.cl (by decide); have k5 := r_v_11; unfold RI at k5; omega)), trivial⟩)) (cwV 2 hts (gV tw_1362 tw_1364 ts_51 tw_15 tw_1365) rfl rfl rfl (by decide +kernel) ⟨Nat.le_of_ble_eq_true rfl, Nat.le_of_ble_eq_true rfl⟩) (tg_preV hw hK hSD hA (ci := 10) (q := (RX10, TX10, 49)) rfl h_p0 rfl) rfl rfl hl.1 rfl (lv_room (Nat.le_of_ble_eq_true rfl)) dX10_readHas_83 ⟨Nat.le_of_ble_eq_true rfl, Nat.le_of_ble_eq_true rfl⟩) hw hA ⟨by decide, by decide⟩ (fun v_17 ws H locs hp_v_17 hw hF9 => ?_)
              have m_u_2 := FLD.over hF9 m_u_2 (by decide)
              have m_v_16 := FLD.over hF9 m_v_16 (by decide)
              have x_TOK_p0_gh := TKP.over hF9 x_TOK_p0_gh (by decide)
              have r_v_17 : RI v_17 1 1 := hp_v_17.1
              by_cases c9_v_17 : v_17 = 0
              · exact absurd (ti_eq c9_v_17) (by unfold RI at r_v_17; rw [Int32.toInt_zero]; omega)
              · obtain ⟨v_18, m_v_18, r_v_18⟩ := ((hp_v_17.2.2 c9_v_17).1)
                have x_RH_p0 : AX 15 35 (fun f => RH2p f) Ps ws p0 := AX.imp ((hp_v_17.2.2 c9_v_17).2.1) (fun _ h9 => h9.1)
                subst hQ
                exact W.zret (v := v_17) hx hb hr (tq_nz (r_v_17.to (by decide))) (fun t ht hW => ⟨⟨v_17, ws, rfl, ⟨⟨r_v_17.to (by decide), (fun _ => trivial), (fun h0 => ⟨⟨_, m_v_18, r_v_18⟩, x_TOK_p0_gh, x_RH_p0, trivial⟩)⟩, hw.1, hw.2.2.2.2.1⟩, by rw [ht]; exact hw.2.1, va_K.moved hW.alike hK, hw.2.2.1⟩, hw.2.2.2.1.F ht⟩) hw.2.2.2.1.2.2 dX10_readHas_86
          · refine lv_aload_n hx hb dX10_readHas_64 rfl (lv_at hl 1 rfl) ?_
            refine lv_iconst (v := 3) hx hb dX10_readHas_65 (by decide) ?_
            have hw8 := hw
            refine tk_i (va_runV (As := [.int 3]) (rest := []) ⟨hx, hb, hml, hown, hts⟩ (c_X10_bad l D cy z H.size Ps ws hw.1 p0 3 h_p0 (rl_3.to (by decide))) (cwV 1 hts (gV tw_1336 tw_1338 ts_46 tw_15 tw_1339) rfl rfl rfl (by decide +kernel) ⟨Nat.le_of_ble_eq_true rfl, Nat.le_of_ble_eq_true rfl⟩) (tg_preV hw hK hSD hA (ci := 10) (q := (RX10, TX10, 49)) rfl h_p0 rfl) rfl rfl hl.1 rfl (lv_room (Nat.le_of_ble_eq_true rfl)) dX10_readHas_66 ⟨Nat.le_of_ble_eq_true rfl, Nat.le_of_ble_eq_true rfl⟩) hw hA ⟨by decide, by decide⟩ (fun v_19 ws H locs hp_v_19 hw hF9 => ?_)
            have m_v_3 := AEL.over hw8 hF9 h_vu_2 m_v_3 (by decide)
            have m_v_8 := AEL.over hw8 hF9 h_vu_2 m_v_8 (by decide)
            have m_v_12 := AEL.over hw8 hF9 h_vu_2 m_v_12 (by decide)
            have m_u_2 := FLD.over hF9 m_u_2 (by decide)
            have m_v_10 := FLD.over hF9 m_v_10 (by decide)
            have x_RH_p0 := AX.over hF9 x_RH_p0 (by decide)
            have x_TOK_p0_gh := TKP.over hF9 x_TOK_p0_gh (by decide)
            have r_v_19 : RI v_19 0 0 := hp_v_19.1
            subst hQ
            exact W.zret (v := v_19) hx hb hr (tq_nz (r_v_19.to (by decide))) (fun t ht hW => ⟨⟨v_19, ws, rfl, ⟨⟨r_v_19.to (by decide), (fun h0 => trivial), (fun h0 => absurd (Int32.toInt_inj.mp (by have h8 := r_v_19; unfold RI at h8; rw [Int32.toInt_zero]; omega)) h0)⟩, hw.1, hw.2.2.2.2.1⟩, by rw [ht]; exact hw.2.1, va_K.moved hW.alike hK, hw.2.2.1⟩, hw.2.2.2.1.F ht⟩) hw.2.2.2.1.2.2 dX10_readHas_69
        · have r_v_9 : RI v_9 1 0 := rc_eq1 r_v_9 rl_0 (ti_eq c_43) (by decide)
          exact (r_v_9.no (by decide)).elim
    · have r_v_4 : RI v_4 1 0 := rc_eq1 r_v_4 rl_0 (ti_eq c_16) (by decide)
      exact (r_v_4.no (by decide)).elim
abbrev wr_X10_readOne__1 : List (Nat × Nat) := [(10, 5), (10, 6), (10, 7), (10, 8), (10, 9), (10, 10), (10, 11), (10, 12), (10, 13)]
abbrev wa_X10_readOne__1 : List Nat := []
set_option maxHeartbeats 4000000 in
set_option maxRecDepth 100000 in
theorem c_X10_readOne__1 (l : Launch) (D : va_G) (cy : Nat → ClassId) (z : Nat → Nat) (sz : Nat) (Ps : PSI) (w0 : va_W) (hT : HT cy GG Ps w0) (p0 : Nat) (p1 : Int32) (p2 : Int32) (gh : Int) (h_p0 : (p0, 55) ∈ Ps) (r_p1 : RI p1 0 0) (r_p2 : RI p2 0 6) (x_TO_p0_gh : TOP w0 p0 (gh)) : Met l yX10_readOne (Cond.code yX10_readOne cX10_readOne 3 (some .boolean) :: gT) ({ frames := 5, cells := 0, slots := 0, locals := 1000 } : Room) (va_Pc [.ref p0, .int p1, .int p2] (PRE D cy z w0 sz)) (va_Qi (fun (r : Int32) (u : va_W) => (RI r 0 1 ∧ (r = 0 → True) ∧ (¬ r = 0 → RI p2 1 6 ∧ (∃ v9 : Int32, FLD u p0 10 13 (.int v9) ∧ RI v9 0 5) ∧ TKP u p0 (gh) ∧ True)) ∧ HT cy GG Ps u ∧ FR wr_X10_readOne__1 wa_X10_readOne__1 Ps w0 u) (BB D cy (va_A w0 sz) (fun (u : va_W) => u)) (va_A w0 sz)) 0 0 (va_A w0 sz) := by
  refine Met.ofW (cc := cX10_readOne) (maxL := 3) (ret := (some .boolean)) (by decide) rfl ?_
  intro p e s m args below meth c s₁ B hml hv
  obtain ⟨rfl, hsz, hP, hK, hD0, hSD⟩ := hv
  have hx := B.exec
  have hb := B.bytes
  have hr := B.returns
  have hlocks := B.notSynchronized
  have hts : ∀ w ∈ gT, w.before _ s = true := fun w h => atoms_spec (ws := Cond.code yX10_readOne cX10_readOne 3 (some .boolean) :: gT) B.pre w (List.mem_cons_of_mem _ h)
  have hown : s.vm.findClass RX10 = some m.cls := findClass_of_methodNamed B.named
  subst hsz
  have hD := hD0.self (sz := s.heap.size)
  generalize hAe : va_A w0 s.heap.size = A at hD hSD ⊢
  have hA : ∀ q : Nat, s.heap.size ≤ q → A q := fun q h => by rw [← hAe]; exact Or.inr h
  have hl := lv_entry ([.ref p0, .int p1, .int p2]) (n := 3) (Nat.le_of_ble_eq_true rfl)
  rw [lg_entry_eq]
  generalize (lg_sl ([.ref p0, .int p1, .int p2]) ++ List.replicate (3 - (lg_sl ([.ref p0, .int p1, .int p2])).length) Slot.unset).toArray = ls at hl ⊢
  have hl : lv_has ls 3 [(0, .ref p0), (1, .int p1), (2, .int p2)] := hl
  refine nameQ (fun Q hQ => ?_)
  have hw : WD D cy GG A s wr_X10_readOne__1 wa_X10_readOne__1 Ps w0 Ps w0 s.heap [] := ⟨hT, hP, hD, va_S.rf, FR.rf, hT.1, [], (List.append_nil _).symm⟩
  refine lv_aload_n hx hb dX10_readOne_0 rfl (lv_at hl 0 rfl) ?_
  refine lv_iload_n hx hb dX10_readOne_1 rfl (lv_at hl 1 rfl) ?_
  refine lv_iload_n hx hb dX10_readOne_2 rfl (lv_at hl 2 rfl) ?_
  refine tk_i (va_runV (As := [.int p1, .int p2]) (rest := []) ⟨hx, hb, hml, hown, hts⟩ (c_X10_isOne__1 l D cy z s.heap.size Ps w0 hw.1 p0 p1 p2 h_p0 r_p1 r_p2) (cwV 2 hts (gV tw_1378 tw_1380 ts_55 tw_15 tw_1381) rfl rfl rfl (by decide +kernel) ⟨Nat.le_of_ble_eq_true rfl, Nat.le_of_ble_eq_true rfl⟩) (tg_preV hw hK hSD hA (ci := 10) (q := (RX10, TX10, 49)) rfl h_p0 rfl) rfl rfl hl.1 rfl (lv_room (Nat.le_of_ble_eq_true rfl)) dX10_readOne_3 ⟨Nat.le_of_ble_eq_true rfl, Nat.le_of_ble_eq_true rfl⟩) hw hA ⟨by decide, by decide⟩ (fun v_1 ws H locs hp_v_1 hw hF9 => ?_)
  have x_TO_p0_gh := TOP.over hF9 x_TO_p0_gh (by decide)
  have r_v_1 : RI v_1 0 1 := hp_v_1.1
  by_cases c9_v_1 : v_1 = 0
  · have r_v_1 : RI v_1 0 0 := by rw [c9_v_1]; exact rl_0
    refine lv_if_ne (tgt := 11) hx hb dX10_readOne_6 (by decide) (fun c_6 => ?_) (fun c_6 => ?_)
    · exact absurd (r_v_1.eq.trans rl_0.eq.symm) ((ti_ne c_6))
    · refine lv_iconst (v := 0) hx hb dX10_readOne_9 (by decide) ?_
      subst hQ
      exact W.zret (v := 0) hx hb hr (rfl) (fun t ht hW => ⟨⟨0, ws, rfl, ⟨⟨rl_0.to (by decide), (fun h0 => trivial), (fun h0 => absurd rfl h0)⟩, hw.1, hw.2.2.2.2.1⟩, by rw [ht]; exact hw.2.1, va_K.moved hW.alike hK, hw.2.2.1⟩, hw.2.2.2.1.F ht⟩) hw.2.2.2.1.2.2 dX10_readOne_10
  · have r_v_1 : RI v_1 1 1 := rc_neL r_v_1 rl_0 (ti_ne c9_v_1) (by decide)
    have r_p2 : RI p2 1 6 := ((hp_v_1.2.2 c9_v_1).1)
    obtain ⟨v_2, m_v_2, r_v_2⟩ := ((hp_v_1.2.2 c9_v_1).2.1)
    refine lv_if_ne (tgt := 11) hx hb dX10_readOne_6 (by decide) (fun c_6 => ?_) (fun c_6 => ?_)
    · refine lv_aload_n hx hb dX10_readOne_11 rfl (lv_at hl 0 rfl) ?_
      refine tk_v (va_runV (As := []) (rest := []) ⟨hx, hb, hml, hown, hts⟩ (c_X10_go__1 l D cy z H.size Ps ws hw.1 p0 (gh) h_p0 x_TO_p0_gh) (cwV 0 hts (gV tw_1298 tw_1300 ts_40 tw_15 tw_1301) rfl rfl rfl (by decide +kernel) ⟨Nat.le_of_ble_eq_true rfl, Nat.le_of_ble_eq_true rfl⟩) (tg_preV hw hK hSD hA (ci := 10) (q := (RX10, TX10, 49)) rfl h_p0 rfl) rfl rfl hl.1 rfl (lv_room (Nat.le_of_ble_eq_true rfl)) dX10_readOne_12 ⟨Nat.le_of_ble_eq_true rfl, Nat.le_of_ble_eq_true rfl⟩) hw hA ⟨by decide, by decide⟩ (fun ws H locs hp_v_3 hw hF9 => ?_)
      have m_v_2 := FLD.over hF9 m_v_2 (by decide)
      have x_TOK_p0_gh := (hp_v_3.1)
      refine lv_iconst (v := 1) hx hb dX10_readOne_15 (by decide) ?_
      subst hQ
      exact W.zret (v := 1) hx hb hr (rfl) (fun t ht hW => ⟨⟨1, ws, rfl, ⟨⟨rl_1.to (by decide), (fun _ => trivial), (fun h0 => ⟨r_p2, ⟨_, m_v_2, r_v_2⟩, x_TOK_p0_gh, trivial⟩)⟩, hw.1, hw.2.2.2.2.1⟩, by rw [ht]; exact hw.2.1, va_K.moved hW.alike hK, hw.2.2.1⟩, hw.2.2.2.1.F ht⟩) hw.2.2.2.1.2.2 dX10_readOne_16
    · have r_v_1 : RI v_1 1 0 := rc_eq1 r_v_1 rl_0 (ti_eq c_6) (by decide)
      exact (r_v_1.no (by decide)).elim
abbrev wr_X10_readIdea : List (Nat × Nat) := [(10, 5), (10, 6), (10, 7), (10, 8), (10, 9), (10, 10), (10, 11), (10, 12), (10, 13)]
abbrev wa_X10_readIdea : List Nat := []
set_option maxHeartbeats 4000000 in
set_option maxRecDepth 100000 in
theorem c_X10_readIdea (l : Launch) (D : va_G) (cy : Nat → ClassId) (z : Nat → Nat) (sz : Nat) (Ps : PSI) (w0 : va_W) (hT : HT cy GG Ps w0) (p0 : Nat) (gh : Int) (h_p0 : (p0, 55) ∈ Ps) (x_TO_p0_gh : TOP w0 p0 (gh)) : Met l yX10_readIdea (Cond.code yX10_readIdea cX10_readIdea 1 (some .boolean) :: gT) ({ frames := 6, cells := 0, slots := 0, locals := 1200 } : Room) (va_Pc [.ref p0] (PRE D cy z w0 sz)) (va_Qi (fun (r : Int32) (u : va_W) => (RI r 0 1 ∧ (r = 0 → True) ∧ (¬ r = 0 → (∃ v9 : Int32, FLD u p0 10 13 (.int v9) ∧ RI v9 0 5) ∧ TKP u p0 (gh) ∧ AX 15 35 (fun f => 0 < (f 0).toInt) Ps u p0 ∧ True)) ∧ HT cy GG Ps u ∧ FR wr_X10_readIdea wa_X10_readIdea Ps w0 u) (BB D cy (va_A w0 sz) (fun (u : va_W) => u)) (va_A w0 sz)) 0 0 (va_A w0 sz) := by
  refine Met.ofW (cc := cX10_readIdea) (maxL := 1) (ret := (some .boolean)) (by decide) rfl ?_
  intro p e s m args below meth c s₁ B hml hv
  obtain ⟨rfl, hsz, hP, hK, hD0, hSD⟩ := hv
  have hx := B.exec
  have hb := B.bytes
  have hr := B.returns
  have hlocks := B.notSynchronized
  have hts : ∀ w ∈ gT, w.before _ s = true := fun w h => atoms_spec (ws := Cond.code yX10_readIdea cX10_readIdea 1 (some .boolean) :: gT) B.pre w (List.mem_cons_of_mem _ h)
  have hown : s.vm.findClass RX10 = some m.cls := findClass_of_methodNamed B.named
  subst hsz
  have hD := hD0.self (sz := s.heap.size)
  generalize hAe : va_A w0 s.heap.size = A at hD hSD ⊢
  have hA : ∀ q : Nat, s.heap.size ≤ q → A q := fun q h => by rw [← hAe]; exact Or.inr h
  have hl := lv_entry ([.ref p0]) (n := 1) (Nat.le_of_ble_eq_true rfl)
  rw [lg_entry_eq]
  generalize (lg_sl ([.ref p0]) ++ List.replicate (1 - (lg_sl ([.ref p0])).length) Slot.unset).toArray = ls at hl ⊢
  have hl : lv_has ls 1 [(0, .ref p0)] := hl
  refine nameQ (fun Q hQ => ?_)
  have hw : WD D cy GG A s wr_X10_readIdea wa_X10_readIdea Ps w0 Ps w0 s.heap [] := ⟨hT, hP, hD, va_S.rf, FR.rf, hT.1, [], (List.append_nil _).symm⟩
  refine lv_aload_n hx hb dX10_readIdea_0 rfl (lv_at hl 0 rfl) ?_
  refine lv_iconst (v := 0) hx hb dX10_readIdea_1 (by decide) ?_
  refine lv_aload_n hx hb dX10_readIdea_2 rfl (lv_at hl 0 rfl) ?_
  refine tg_get (ci := 10) (ts := ty_MODEL) (C := RX10) (T := TX10) (N := 49) hx hb hts inX10 hown hK hw h_p0 rfl rfl 15 (by decide) (hts _ tw_1152) (fun _ h9 => h9) (ft := vR 35) rfl dX10_readIdea_3 (fun u_1 hv_u_1 m_u_1 => ?_)
  obtain ⟨vu_1, rfl, h_vu_1⟩ := hv_u_1
  refine lv_iconst (v := 0) hx hb dX10_readIdea_6 (by decide) ?_
  refine tg_iald (lo := 0) (hi := 6) hx hb hK hw h_vu_1 rfl 0 0 rl_0 (by decide) (by decide +kernel) dX10_readIdea_7 (fun v_2 r_v_2 m_v_2 o_v_2 => ?_)
  have hw8 := hw
  refine tk_i (va_runV (As := [.int 0, .int v_2]) (rest := []) ⟨hx, hb, hml, hown, hts⟩ (c_X10_readOne__1 l D cy z s.heap.size Ps w0 hw.1 p0 0 v_2 (gh) h_p0 rl_0 r_v_2 x_TO_p0_gh) (cwV 2 hts (gV tw_1374 tw_1376 ts_54 tw_15 tw_1377) rfl rfl rfl (by decide +kernel) ⟨Nat.le_of_ble_eq_true rfl, Nat.le_of_ble_eq_true rfl⟩) (tg_preV hw hK hSD hA (ci := 10) (q := (RX10, TX10, 49)) rfl h_p0 rfl) rfl rfl hl.1 rfl (lv_room (Nat.le_of_ble_eq_true rfl)) dX10_readIdea_8 ⟨Nat.le_of_ble_eq_true rfl, Nat.le_of_ble_eq_true rfl⟩) hw hA ⟨by decide, by decide⟩ (fun v_3 ws H locs hp_v_3 hw hF9 => ?_)
  have m_v_2 := AEL.over hw8 hF9 h_vu_1 m_v_2 (by decide)
  have m_u_1 := FLD.over hF9 m_u_1 (by decide)
  have r_v_3 : RI v_3 0 1 := hp_v_3.1
  by_cases c9_v_3 : v_3 = 0
  · have r_v_3 : RI v_3 0 0 := by rw [c9_v_3]; exact rl_0
    subst hQ
    exact W.zret (v := v_3) hx hb hr (tq_nz (r_v_3.to (by decide))) (fun t ht hW => ⟨⟨v_3, ws, rfl, ⟨⟨r_v_3.to (by decide), (fun h0 => trivial), (fun h0 => absurd (Int32.toInt_inj.mp (by have h8 := r_v_3; unfold RI at h8; rw [Int32.toInt_zero]; omega)) h0)⟩, hw.1, hw.2.2.2.2.1⟩, by rw [ht]; exact hw.2.1, va_K.moved hW.alike hK, hw.2.2.1⟩, hw.2.2.2.1.F ht⟩) hw.2.2.2.1.2.2 dX10_readIdea_11
  · have r_v_3 : RI v_3 1 1 := rc_neL r_v_3 rl_0 (ti_ne c9_v_3) (by decide)
    have r_v_2 : RI v_2 1 6 := ((hp_v_3.2.2 c9_v_3).1)
    obtain ⟨v_4, m_v_4, r_v_4⟩ := ((hp_v_3.2.2 c9_v_3).2.1)
    have x_TOK_p0_gh := ((hp_v_3.2.2 c9_v_3).2.2.1)
    have x_IP_p0 : AX 15 35 (fun f => 0 < (f 0).toInt) Ps ws p0 := AX.mk hw h_vu_1 rfl m_u_1 (fun f9 g9 _ => by have e9 := g9 _ _ m_v_2; have j9 : Int32.toNatClampNeg 0 = 0 := (by decide); rw [j9] at e9; show _ < _; rw [e9]; have k1 := r_v_2.1; omega)
    subst hQ
    exact W.zret (v := v_3) hx hb hr (tq_nz (r_v_3.to (by decide))) (fun t ht hW => ⟨⟨v_3, ws, rfl, ⟨⟨r_v_3.to (by decide), (fun _ => trivial), (fun h0 => ⟨⟨_, m_v_4, r_v_4⟩, x_TOK_p0_gh, x_IP_p0, trivial⟩)⟩, hw.1, hw.2.2.2.2.1⟩, by rw [ht]; exact hw.2.1, va_K.moved hW.alike hK, hw.2.2.1⟩, hw.2.2.2.1.F ht⟩) hw.2.2.2.1.2.2 dX10_readIdea_11
abbrev wr_X10_findIn__4 : List (Nat × Nat) := []
abbrev wa_X10_findIn__4 : List Nat := []
set_option maxHeartbeats 4000000 in
set_option maxRecDepth 100000 in
theorem c_X10_findIn__4 (l : Launch) (D : va_G) (cy : Nat → ClassId) (z : Nat → Nat) (sz : Nat) (Ps : PSI) (w0 : va_W) (hT : HT cy GG Ps w0) (p0 : Nat) (p1 : Int32) (p2 : Int32) (p3 : Int64) (h_p0 : (p0, 41) ∈ Ps) (r_p1 : RI p1 0 0) (r_p2 : RI p2 0 6) (r_p3 : RJ p3 (-9223372036854775808) 9223372036854775807) : Met l yX10_findIn (Cond.code yX10_findIn cX10_findIn 6 (some .int) :: gT) ({ frames := 0, cells := 0, slots := 0, locals := 200 } : Room) (va_Pc [.ref p0, .int p1, .int p2, .long p3] (PRE D cy z w0 sz)) (va_Qi (fun (r : Int32) (u : Unit) => RI r (-1) 5 ∧ (r = 0 → True) ∧ (¬ r = 0 → True) ∧ (True) ∧ (r.toInt < 0 → NFD w0 p0 p1 p2 p3 ∧ True) ∧ (0 ≤ r.toInt → FDD w0 p0 p1 p2 p3 ∧ 1 ≤ Int32.toInt p2 ∧ True)) (BB D cy (va_A w0 sz) (fun (u : Unit) => w0)) (va_A w0 sz)) 0 0 (va_A w0 sz) := by
  refine Met.ofW (cc := cX10_findIn) (maxL := 6) (ret := (some .int)) (by decide) rfl ?_
  intro p e s m args below meth c s₁ B hml hv
  obtain ⟨rfl, hsz, hP, hK, hD0, hSD⟩ := hv
  have hx := B.exec
  have hb := B.bytes
  have hr := B.returns
  have hlocks := B.notSynchronized
  have hts : ∀ w ∈ gT, w.before _ s = true := fun w h => atoms_spec (ws := Cond.code yX10_findIn cX10_findIn 6 (some .int) :: gT) B.pre w (List.mem_cons_of_mem _ h)
  have hown : s.vm.findClass RX10 = some m.cls := findClass_of_methodNamed B.named
  subst hsz
  have hD := hD0.self (sz := s.heap.size)
  generalize hAe : va_A w0 s.heap.size = A at hD hSD ⊢
  have hA : ∀ q : Nat, s.heap.size ≤ q → A q := fun q h => by rw [← hAe]; exact Or.inr h
  have hl := lv_entry ([.ref p0, .int p1, .int p2, .long p3]) (n := 6) (Nat.le_of_ble_eq_true rfl)
  rw [lg_entry_eq]
  generalize (lg_sl ([.ref p0, .int p1, .int p2, .long p3]) ++ List.replicate (6 - (lg_sl ([.ref p0, .int p1, .int p2, .long p3])).length) Slot.unset).toArray = ls at hl ⊢
  have hl : lv_has ls 6 [(0, .ref p0), (1, .int p1), (2, .int p2), (3, .long p3)] := hl
  refine nameQ (fun Q hQ => ?_)
  have hw : WD D cy GG A s wr_X10_findIn__4 wa_X10_findIn__4 Ps w0 Ps w0 s.heap [] := ⟨hT, hP, hD, va_S.rf, FR.rf, hT.1, [], (List.append_nil _).symm⟩
  have B3 : ∀ (nf : Nat) (x5 : Int32) (H : Heap) (locs : List Loc) (ls : Array Slot), 6 - x5.toInt < (nf : Int) → RI p1 0 0 → RI p2 0 6 → RJ p3 (-9223372036854775808) 9223372036854775807 → RI x5 0 6 → NFD w0 p0 p1 x5 p3 → WD D cy GG A s wr_X10_findIn__4 wa_X10_findIn__4 Ps w0 Ps w0 H locs → lv_has ls 6 [(0, .ref p0), (1, .int p1), (2, .int p2), (3, .long p3), (5, .int x5)] → W p l e (headSpec (Cond.code yX10_findIn cX10_findIn 6 (some .int) :: gT) ({ frames := 0, cells := 0, slots := 0, locals := 200 } : Room)).room s m ([.ref p0, .int p1, .int p2, .long p3] : List Value).toArray below meth c H locs 0 0 Q (F0 m 3 ls []) := by
    intro nf3
    induction nf3 with
    | zero =>
      intro x5 H locs ls hn3 r_p1 r_p2 r_p3 r_x5 x_NF_p0_p1__5_p3 hw hl
      exact absurd hn3 (by have q0 := r_x5.1; have u0 := r_x5.2; omega)
    | succ nf3 ih3 =>
      intro x5 H locs ls hn3 r_p1 r_p2 r_p3 r_x5 x_NF_p0_p1__5_p3 hw hl
      refine lv_iload hx hb dX10_findIn_3 (lv_at hl 4 rfl) ?_
      refine lv_iload_n hx hb dX10_findIn_5 rfl (lv_at hl 2 rfl) ?_
      refine lv_icmp_ge (tgt := 29) hx hb dX10_findIn_6 (by decide) (fun c_6 => ?_) (fun c_6 => ?_)
      · have x_NF_p0_p1_p2_p3 : NFD w0 p0 p1 p2 p3 := NFD.mono x_NF_p0_p1__5_p3 c_6
        refine lv_iconst (v := (-1)) hx hb dX10_findIn_29 (by decide) ?_
        subst hQ
        exact W.iret (v := (-1)) hx hb hr (fun t ht hW => ⟨⟨(-1), (), rfl, ⟨rl_m1.to (by decide), (fun _ => trivial), (fun h0 => trivial), trivial, (fun h0 => ⟨x_NF_p0_p1_p2_p3, trivial⟩), (fun h0 => absurd h0 (by have h8 := rl_m1; unfold RI at h8; omega))⟩, by rw [ht]; exact hw.2.1, va_K.moved hW.alike hK, hw.2.2.1⟩, hw.2.2.2.1.F ht⟩) hw.2.2.2.1.2.2 dX10_findIn_30
      · have r_x5 : RI x5 0 5 := rc_lt1 r_x5 r_p2 (ti_nle c_6) (by decide)
        have r_p2 : RI p2 1 6 := rc_lt2 r_x5 r_p2 (ti_nle c_6) (by decide)
        refine lv_aload_n hx hb dX10_findIn_9 rfl (lv_at hl 0 rfl) ?_
        refine lv_iload_n hx hb dX10_findIn_10 rfl (lv_at hl 1 rfl) ?_
        refine lv_iload hx hb dX10_findIn_11 (lv_at hl 4 rfl) ?_
        refine lv_iadd hx hb dX10_findIn_13 (lv_topi (fun v_1 e_v_1 => ?_))
        obtain ⟨t_v_1, r_v_1⟩ := tq_add (lo := 0) (hi := 5) r_p1 r_x5 (by decide +kernel) e_v_1
        refine tg_laldE hx hb hK hw h_p0 rfl r_v_1 (by decide) dX10_findIn_14 (fun w_2 r_w_2 l_w_2 => ?_)
        refine lv_lload_n hx hb dX10_findIn_15 rfl (lv_at hl 3 rfl) ?_
        refine W.lcmp hx hb dX10_findIn_16 (lv_topi (fun v_3 e_v_3 => ?_))
        have r_v_3 := ri_any v_3
        refine lv_if_ne (tgt := 23) hx hb dX10_findIn_17 (by decide) (fun c_17 => ?_) (fun c_17 => ?_)
        · obtain ⟨v_4, e_v_4⟩ : ∃ q9 : Int32, q9 = x5 + Int32.ofInt 1 := ⟨_, rfl⟩
          obtain ⟨t_v_4, r_v_4⟩ := tq_add (lo := 1) (hi := 6) r_x5 (show RI (Int32.ofInt 1) 1 1 by unfold RI; decide +kernel) (by decide +kernel) e_v_4
          have t_v_4 : v_4.toInt = x5.toInt + 1 := t_v_4
          refine lv_iinc (v := v_4) (lv' := [(5, .int v_4), (0, .ref p0), (1, .int p1), (2, .int p2), (3, .long p3)]) hx hb dX10_findIn_23 hl (k := 4) rfl e_v_4.symm (by decide) rfl (fun ls hl => ?_)
          refine lv_goto (tgt := 3) hx hb dX10_findIn_26 (by decide) ?_
          have x_NF_p0_p1_v_4_p3 : NFD w0 p0 p1 v_4 p3 := NFD.step hw x_NF_p0_p1__5_p3 l_w_2 (by have k1 := r_v_1.cl (by decide); have k2 := r_p1.cl (by decide); have k3 := r_x5.cl (by decide); omega) (lcmp_ne e_v_3 c_17) t_v_4 r_x5.1
          exact ih3 v_4 _ _ ls (by have q0 := r_v_4.1; have u0 := r_v_4.2; have o0 := r_x5.1; have p0 := r_x5.2; omega) r_p1 (r_p2.to (by decide)) r_p3 (r_v_4.to (by decide)) x_NF_p0_p1_v_4_p3 hw (lv_sub hl [1, 2, 3, 4, 0] rfl)
        · have r_v_3 : RI v_3 0 0 := rc_eq1 r_v_3 rl_0 (ti_eq c_17) (by decide)
          have x_FD_p0_p1_p2_p3 : FDD w0 p0 p1 p2 p3 := FDD.mk l_w_2 (by have k1 := r_v_1.cl (by decide); have k2 := r_p1.cl (by decide); have k3 := r_x5.cl (by decide); omega) (lcmp_eq e_v_3 c_17) (ti_nle c_6) r_x5.1
          have x_POS_p2 : 1 ≤ Int32.toInt p2 := by have k1 := ti_nle c_6; have k2 := r_x5.1; omega
          refine lv_iload hx hb dX10_findIn_20 (lv_at hl 4 rfl) ?_
          subst hQ
          exact W.iret (v := x5) hx hb hr (fun t ht hW => ⟨⟨x5, (), rfl, ⟨r_x5.to (by decide), (fun h0 => trivial), (fun h0 => trivial), trivial, (fun h0 => absurd h0 (by have h8 := r_x5; unfold RI at h8; omega)), (fun h0 => ⟨x_FD_p0_p1_p2_p3, x_POS_p2, trivial⟩)⟩, by rw [ht]; exact hw.2.1, va_K.moved hW.alike hK, hw.2.2.1⟩, hw.2.2.2.1.F ht⟩) hw.2.2.2.1.2.2 dX10_findIn_22
  refine lv_iconst (v := 0) hx hb dX10_findIn_0 (by decide) ?_
  refine lv_istore (lv' := [(5, .int 0), (0, .ref p0), (1, .int p1), (2, .int p2), (3, .long p3)]) hx hb dX10_findIn_1 hl (by decide) rfl (fun ls hl => ?_)
  have x_NF_p0_p1_0_p3 : NFD w0 p0 p1 0 p3 := NFD.zero hw h_p0 rfl
  exact B3 4294967298 0 _ _ ls (by have q0 := rl_0.1; have u0 := rl_0.2; omega) r_p1 r_p2 r_p3 (rl_0.to (by decide)) x_NF_p0_p1_0_p3 hw (lv_sub hl [1, 2, 3, 4, 0] rfl)
abbrev wr_X10_readNamed : List (Nat × Nat) := [(10, 5), (10, 6), (10, 7), (10, 8), (10, 9), (10, 10), (10, 11), (10, 12), (10, 13)]
abbrev wa_X10_readNamed : List Nat := []
set_option maxHeartbeats 4000000 in
set_option maxRecDepth 100000 in
theorem c_X10_readNamed (l : Launch) (D : va_G) (cy : Nat → ClassId) (z : Nat → Nat) (sz : Nat) (Ps : PSI) (w0 : va_W) (hT : HT cy GG Ps w0) (p0 : Nat) (p1 : Int32) (p2 : Int32) (h_p0 : (p0, 55) ∈ Ps) (r_p1 : RI p1 0 0) (r_p2 : RI p2 0 6) : Met l yX10_readNamed (Cond.code yX10_readNamed cX10_readNamed 3 (some .boolean) :: gT) ({ frames := 4, cells := 0, slots := 0, locals := 800 } : Room) (va_Pc [.ref p0, .int p1, .int p2] (PRE D cy z w0 sz)) (va_Qi (fun (r : Int32) (u : va_W) => (RI r 0 1 ∧ (r = 0 → True) ∧ (¬ r = 0 → RI p2 1 6 ∧ (∃ v9 : Int32, FLD u p0 10 13 (.int v9) ∧ RI v9 0 5) ∧ True)) ∧ HT cy GG Ps u ∧ FR wr_X10_readNamed wa_X10_readNamed Ps w0 u) (BB D cy (va_A w0 sz) (fun (u : va_W) => u)) (va_A w0 sz)) 0 0 (va_A w0 sz) := by
  refine Met.ofW (cc := cX10_readNamed) (maxL := 3) (ret := (some .boolean)) (by decide) rfl ?_
  intro p e s m args below meth c s₁ B hml hv
  obtain ⟨rfl, hsz, hP, hK, hD0, hSD⟩ := hv
  have hx := B.exec
  have hb := B.bytes
  have hr := B.returns
  have hlocks := B.notSynchronized
  have hts : ∀ w ∈ gT, w.before _ s = true := fun w h => atoms_spec (ws := Cond.code yX10_readNamed cX10_readNamed 3 (some .boolean) :: gT) B.pre w (List.mem_cons_of_mem _ h)
  have hown : s.vm.findClass RX10 = some m.cls := findClass_of_methodNamed B.named
  subst hsz
  have hD := hD0.self (sz := s.heap.size)
  generalize hAe : va_A w0 s.heap.size = A at hD hSD ⊢
  have hA : ∀ q : Nat, s.heap.size ≤ q → A q := fun q h => by rw [← hAe]; exact Or.inr h
  have hl := lv_entry ([.ref p0, .int p1, .int p2]) (n := 3) (Nat.le_of_ble_eq_true rfl)
  rw [lg_entry_eq]
  generalize (lg_sl ([.ref p0, .int p1, .int p2]) ++ List.replicate (3 - (lg_sl ([.ref p0, .int p1, .int p2])).length) Slot.unset).toArray = ls at hl ⊢
  have hl : lv_has ls 3 [(0, .ref p0), (1, .int p1), (2, .int p2)] := hl
  refine nameQ (fun Q hQ => ?_)
  have hw : WD D cy GG A s wr_X10_readNamed wa_X10_readNamed Ps w0 Ps w0 s.heap [] := ⟨hT, hP, hD, va_S.rf, FR.rf, hT.1, [], (List.append_nil _).symm⟩
  refine lv_aload_n hx hb dX10_readNamed_0 rfl (lv_at hl 0 rfl) ?_
  refine tk_ir (va_runV (As := []) (rest := []) ⟨hx, hb, hml, hown, hts⟩ (c_X10_isName l D cy z s.heap.size Ps w0 hw.1 p0 h_p0) (cwV 0 hts (gV tw_1344 tw_1346 ts_48 tw_15 tw_1347) rfl rfl rfl (by decide +kernel) ⟨Nat.le_of_ble_eq_true rfl, Nat.le_of_ble_eq_true rfl⟩) (tg_preV hw hK hSD hA (ci := 10) (q := (RX10, TX10, 49)) rfl h_p0 rfl) rfl rfl hl.1 rfl (lv_room (Nat.le_of_ble_eq_true rfl)) dX10_readNamed_1 ⟨Nat.le_of_ble_eq_true rfl, Nat.le_of_ble_eq_true rfl⟩) hw hA (fun v_1  H locs hp_v_1 hw => ?_)
  have r_v_1 : RI v_1 0 1 := hp_v_1.1
  refine lv_if_ne (tgt := 13) hx hb dX10_readNamed_4 (by decide) (fun c_4 => ?_) (fun c_4 => ?_)
  · have r_v_1 : RI v_1 1 1 := rc_neL r_v_1 rl_0 (ti_ne c_4) (by decide)
    refine lv_aload_n hx hb dX10_readNamed_13 rfl (lv_at hl 0 rfl) ?_
    refine lv_aload_n hx hb dX10_readNamed_14 rfl (lv_at hl 0 rfl) ?_
    refine tg_get (ci := 10) (ts := ty_MODEL) (C := RX10) (T := TX10) (N := 49) hx hb hts inX10 hown hK hw h_p0 rfl rfl 20 (by decide) (hts _ tw_1157) (fun _ h9 => h9) (ft := vR 41) rfl dX10_readNamed_15 (fun u_2 hv_u_2 m_u_2 => ?_)
    obtain ⟨vu_2, rfl, h_vu_2⟩ := hv_u_2
    refine lv_iload_n hx hb dX10_readNamed_18 rfl (lv_at hl 1 rfl) ?_
    refine lv_iload_n hx hb dX10_readNamed_19 rfl (lv_at hl 2 rfl) ?_
    refine lv_aload_n hx hb dX10_readNamed_20 rfl (lv_at hl 0 rfl) ?_
    refine tg_get (ci := 10) (ts := ty_MODEL) (C := RX10) (T := TX10) (N := 49) hx hb hts inX10 hown hK hw h_p0 rfl rfl 12 (by decide) (hts _ tw_1149) (fun _ h9 => h9) (ft := vJ (-9223372036854775808) 9223372036854775807) rfl dX10_readNamed_21 (fun u_3 hv_u_3 m_u_3 => ?_)
    obtain ⟨vu_3, rfl, r_vu_3⟩ := hv_u_3
    refine tk_ir (va_runS (As := [.ref vu_2, .int p1, .int p2, .long vu_3]) (rest := [.ref p0]) ⟨hx, hb, hml, hown, hts⟩ (c_X10_findIn__4 l D cy z H.size Ps w0 hw.1 vu_2 p1 p2 vu_3 h_vu_2 r_p1 r_p2 r_vu_3) (va_cwS 4 hts (gS tw_1352 tw_1353 tw_15 tw_1354) rfl rfl rfl (by decide +kernel) ⟨Nat.le_of_ble_eq_true rfl, Nat.le_of_ble_eq_true rfl⟩) (tg_preS hw hK hSD hA) rfl rfl hl.1 rfl (lv_room (Nat.le_of_ble_eq_true rfl)) dX10_readNamed_24 ⟨Nat.le_of_ble_eq_true rfl, Nat.le_of_ble_eq_true rfl⟩) hw hA (fun v_4  H locs hp_v_4 hw => ?_)
    have r_v_4 : RI v_4 (-1) 5 := hp_v_4.1
    by_cases c9_v_4 : v_4.toInt < 0
    · have r_v_4 : RI v_4 (-1) (-1) := by unfold RI at r_v_4 ⊢; omega
      have x_NF_vu_2_p1_p2_vu_3 := (hp_v_4.2.2.2.2.1 (by omega)).1
      refine tg_put (ci := 10) (ts := ty_MODEL) (v := .int v_4) (ty := .int) (C := RX10) (T := TX10) (N := 49) hx hb hts inX10 tyX10 tyX10_ok nmX10 hown hK hw h_p0 rfl rfl 13 (by decide) (hts _ tw_1150) (fun _ h9 => h9) rfl (by decide +kernel) rfl rfl (ft := vI (-2147483648) 2147483647) rfl ⟨_, rfl, (r_v_4.to (by decide))⟩ (by decide) dX10_readNamed_27 (fun ws H locs hw n_k_5 hF9 => ?_)
      refine lv_aload_n hx hb dX10_readNamed_30 rfl (lv_at hl 0 rfl) ?_
      refine tg_mem (ci := 10) (C := RX10) (T := TX10) (N := 49) hx hb hts inX10 hown hK hw 13 n_k_5 rfl (by decide) (hts _ tw_1150) (fun _ h9 => h9) dX10_readNamed_31 ?_
      refine lv_iconst (v := (-1)) hx hb dX10_readNamed_34 (by decide) ?_
      refine lv_icmp_ne (tgt := 44) hx hb dX10_readNamed_35 (by decide) (fun c_35 => ?_) (fun c_35 => ?_)
      · exact absurd (r_v_4.eq.trans rl_m1.eq.symm) ((ti_ne c_35))
      · refine lv_aload_n hx hb dX10_readNamed_38 rfl (lv_at hl 0 rfl) ?_
        refine lv_iconst (v := 3) hx hb dX10_readNamed_39 (by decide) ?_
        refine tk_i (va_runV (As := [.int 3]) (rest := []) ⟨hx, hb, hml, hown, hts⟩ (c_X10_bad l D cy z H.size Ps ws hw.1 p0 3 h_p0 (rl_3.to (by decide))) (cwV 1 hts (gV tw_1336 tw_1338 ts_46 tw_15 tw_1339) rfl rfl rfl (by decide +kernel) ⟨Nat.le_of_ble_eq_true rfl, Nat.le_of_ble_eq_true rfl⟩) (tg_preV hw hK hSD hA (ci := 10) (q := (RX10, TX10, 49)) rfl h_p0 rfl) rfl rfl hl.1 rfl (lv_room (Nat.le_of_ble_eq_true rfl)) dX10_readNamed_40 ⟨Nat.le_of_ble_eq_true rfl, Nat.le_of_ble_eq_true rfl⟩) hw hA ⟨by decide, by decide⟩ (fun v_6 ws H locs hp_v_6 hw hF9 => ?_)
        have n_k_5 := FLD.over hF9 n_k_5 (by decide)
        have r_v_6 : RI v_6 0 0 := hp_v_6.1
        subst hQ
        exact W.zret (v := v_6) hx hb hr (tq_nz (r_v_6.to (by decide))) (fun t ht hW => ⟨⟨v_6, ws, rfl, ⟨⟨r_v_6.to (by decide), (fun h0 => trivial), (fun h0 => absurd (Int32.toInt_inj.mp (by have h8 := r_v_6; unfold RI at h8; rw [Int32.toInt_zero]; omega)) h0)⟩, hw.1, hw.2.2.2.2.1⟩, by rw [ht]; exact hw.2.1, va_K.moved hW.alike hK, hw.2.2.1⟩, hw.2.2.2.1.F ht⟩) hw.2.2.2.1.2.2 dX10_readNamed_43
    · have r_v_4 : RI v_4 0 5 := by unfold RI at r_v_4 ⊢; omega
      have x_FD_vu_2_p1_p2_vu_3 := (hp_v_4.2.2.2.2.2 (by omega)).1
      have x_POS_p2 := (hp_v_4.2.2.2.2.2 (by omega)).2.1
      have r_p2 : RI p2 1 6 := ⟨x_POS_p2, r_p2.2⟩
      refine tg_put (ci := 10) (ts := ty_MODEL) (v := .int v_4) (ty := .int) (C := RX10) (T := TX10) (N := 49) hx hb hts inX10 tyX10 tyX10_ok nmX10 hown hK hw h_p0 rfl rfl 13 (by decide) (hts _ tw_1150) (fun _ h9 => h9) rfl (by decide +kernel) rfl rfl (ft := vI (-2147483648) 2147483647) rfl ⟨_, rfl, (r_v_4.to (by decide))⟩ (by decide) dX10_readNamed_27 (fun ws H locs hw n_k_7 hF9 => ?_)
      refine lv_aload_n hx hb dX10_readNamed_30 rfl (lv_at hl 0 rfl) ?_
      refine tg_mem (ci := 10) (C := RX10) (T := TX10) (N := 49) hx hb hts inX10 hown hK hw 13 n_k_7 rfl (by decide) (hts _ tw_1150) (fun _ h9 => h9) dX10_readNamed_31 ?_
      refine lv_iconst (v := (-1)) hx hb dX10_readNamed_34 (by decide) ?_
      refine lv_icmp_ne (tgt := 44) hx hb dX10_readNamed_35 (by decide) (fun c_35 => ?_) (fun c_35 => ?_)
      · refine lv_aload_n hx hb dX10_readNamed_44 rfl (lv_at hl 0 rfl) ?_
        refine tk_v (va_runV (As := []) (rest := []) ⟨hx, hb, hml, hown, hts⟩ (c_X10_go l D cy z H.size Ps ws hw.1 p0 h_p0) (cwV 0 hts (gV tw_1298 tw_1300 ts_40 tw_15 tw_1301) rfl rfl rfl (by decide +kernel) ⟨Nat.le_of_ble_eq_true rfl, Nat.le_of_ble_eq_true rfl⟩) (tg_preV hw hK hSD hA (ci := 10) (q := (RX10, TX10, 49)) rfl h_p0 rfl) rfl rfl hl.1 rfl (lv_room (Nat.le_of_ble_eq_true rfl)) dX10_readNamed_45 ⟨Nat.le_of_ble_eq_true rfl, Nat.le_of_ble_eq_true rfl⟩) hw hA ⟨by decide, by decide⟩ (fun ws H locs hp_v_8 hw hF9 => ?_)
        have n_k_7 := FLD.over hF9 n_k_7 (by decide)
        refine lv_iconst (v := 1) hx hb dX10_readNamed_48 (by decide) ?_
        subst hQ
        exact W.zret (v := 1) hx hb hr (rfl) (fun t ht hW => ⟨⟨1, ws, rfl, ⟨⟨rl_1.to (by decide), (fun _ => trivial), (fun h0 => ⟨r_p2, ⟨_, n_k_7, r_v_4⟩, trivial⟩)⟩, hw.1, hw.2.2.2.2.1⟩, by rw [ht]; exact hw.2.1, va_K.moved hW.alike hK, hw.2.2.1⟩, hw.2.2.2.1.F ht⟩) hw.2.2.2.1.2.2 dX10_readNamed_49
      · have r_v_4 : RI v_4 0 (-1) := rc_eq1 r_v_4 rl_m1 (ti_eq c_35) (by decide)
        exact (r_v_4.no (by decide)).elim
  · have r_v_1 : RI v_1 0 0 := rc_eq1 r_v_1 rl_0 (ti_eq c_4) (by decide)
    refine lv_aload_n hx hb dX10_readNamed_7 rfl (lv_at hl 0 rfl) ?_
    refine lv_iconst (v := 1) hx hb dX10_readNamed_8 (by decide) ?_
    refine tk_i (va_runV (As := [.int 1]) (rest := []) ⟨hx, hb, hml, hown, hts⟩ (c_X10_bad l D cy z H.size Ps w0 hw.1 p0 1 h_p0 (rl_1.to (by decide))) (cwV 1 hts (gV tw_1336 tw_1338 ts_46 tw_15 tw_1339) rfl rfl rfl (by decide +kernel) ⟨Nat.le_of_ble_eq_true rfl, Nat.le_of_ble_eq_true rfl⟩) (tg_preV hw hK hSD hA (ci := 10) (q := (RX10, TX10, 49)) rfl h_p0 rfl) rfl rfl hl.1 rfl (lv_room (Nat.le_of_ble_eq_true rfl)) dX10_readNamed_9 ⟨Nat.le_of_ble_eq_true rfl, Nat.le_of_ble_eq_true rfl⟩) hw hA ⟨by decide, by decide⟩ (fun v_9 ws H locs hp_v_9 hw hF9 => ?_)
    have r_v_9 : RI v_9 0 0 := hp_v_9.1
    subst hQ
    exact W.zret (v := v_9) hx hb hr (tq_nz (r_v_9.to (by decide))) (fun t ht hW => ⟨⟨v_9, ws, rfl, ⟨⟨r_v_9.to (by decide), (fun h0 => trivial), (fun h0 => absurd (Int32.toInt_inj.mp (by have h8 := r_v_9; unfold RI at h8; rw [Int32.toInt_zero]; omega)) h0)⟩, hw.1, hw.2.2.2.2.1⟩, by rw [ht]; exact hw.2.1, va_K.moved hW.alike hK, hw.2.2.1⟩, hw.2.2.2.1.F ht⟩) hw.2.2.2.1.2.2 dX10_readNamed_12
abbrev wr_X10_readIdeaName : List (Nat × Nat) := [(10, 5), (10, 6), (10, 7), (10, 8), (10, 9), (10, 10), (10, 11), (10, 12), (10, 13)]
abbrev wa_X10_readIdeaName : List Nat := []
set_option maxHeartbeats 4000000 in
set_option maxRecDepth 100000 in
theorem c_X10_readIdeaName (l : Launch) (D : va_G) (cy : Nat → ClassId) (z : Nat → Nat) (sz : Nat) (Ps : PSI) (w0 : va_W) (hT : HT cy GG Ps w0) (p0 : Nat) (h_p0 : (p0, 55) ∈ Ps) : Met l yX10_readIdeaName (Cond.code yX10_readIdeaName cX10_readIdeaName 1 (some .boolean) :: gT) ({ frames := 5, cells := 0, slots := 0, locals := 1000 } : Room) (va_Pc [.ref p0] (PRE D cy z w0 sz)) (va_Qi (fun (r : Int32) (u : va_W) => (RI r 0 1 ∧ (r = 0 → True) ∧ (¬ r = 0 → (∃ v9 : Int32, FLD u p0 10 13 (.int v9) ∧ RI v9 0 5) ∧ True)) ∧ HT cy GG Ps u ∧ FR wr_X10_readIdeaName wa_X10_readIdeaName Ps w0 u) (BB D cy (va_A w0 sz) (fun (u : va_W) => u)) (va_A w0 sz)) 0 0 (va_A w0 sz) := by
  refine Met.ofW (cc := cX10_readIdeaName) (maxL := 1) (ret := (some .boolean)) (by decide) rfl ?_
  intro p e s m args below meth c s₁ B hml hv
  obtain ⟨rfl, hsz, hP, hK, hD0, hSD⟩ := hv
  have hx := B.exec
  have hb := B.bytes
  have hr := B.returns
  have hlocks := B.notSynchronized
  have hts : ∀ w ∈ gT, w.before _ s = true := fun w h => atoms_spec (ws := Cond.code yX10_readIdeaName cX10_readIdeaName 1 (some .boolean) :: gT) B.pre w (List.mem_cons_of_mem _ h)
  have hown : s.vm.findClass RX10 = some m.cls := findClass_of_methodNamed B.named
  subst hsz
  have hD := hD0.self (sz := s.heap.size)
  generalize hAe : va_A w0 s.heap.size = A at hD hSD ⊢
  have hA : ∀ q : Nat, s.heap.size ≤ q → A q := fun q h => by rw [← hAe]; exact Or.inr h
  have hl := lv_entry ([.ref p0]) (n := 1) (Nat.le_of_ble_eq_true rfl)
  rw [lg_entry_eq]
  generalize (lg_sl ([.ref p0]) ++ List.replicate (1 - (lg_sl ([.ref p0])).length) Slot.unset).toArray = ls at hl ⊢
  have hl : lv_has ls 1 [(0, .ref p0)] := hl
  refine nameQ (fun Q hQ => ?_)
  have hw : WD D cy GG A s wr_X10_readIdeaName wa_X10_readIdeaName Ps w0 Ps w0 s.heap [] := ⟨hT, hP, hD, va_S.rf, FR.rf, hT.1, [], (List.append_nil _).symm⟩
  refine lv_aload_n hx hb dX10_readIdeaName_0 rfl (lv_at hl 0 rfl) ?_
  refine lv_iconst (v := 0) hx hb dX10_readIdeaName_1 (by decide) ?_
  refine lv_aload_n hx hb dX10_readIdeaName_2 rfl (lv_at hl 0 rfl) ?_
  refine tg_get (ci := 10) (ts := ty_MODEL) (C := RX10) (T := TX10) (N := 49) hx hb hts inX10 hown hK hw h_p0 rfl rfl 14 (by decide) (hts _ tw_1151) (fun _ h9 => h9) (ft := vR 34) rfl dX10_readIdeaName_3 (fun u_1 hv_u_1 m_u_1 => ?_)
  obtain ⟨vu_1, rfl, h_vu_1⟩ := hv_u_1
  refine lv_iconst (v := 0) hx hb dX10_readIdeaName_6 (by decide) ?_
  refine tg_iald (lo := 0) (hi := 6) hx hb hK hw h_vu_1 rfl 0 0 rl_0 (by decide) (by decide +kernel) dX10_readIdeaName_7 (fun v_2 r_v_2 m_v_2 o_v_2 => ?_)
  refine tk_i (va_runV (As := [.int 0, .int v_2]) (rest := []) ⟨hx, hb, hml, hown, hts⟩ (c_X10_readNamed l D cy z s.heap.size Ps w0 hw.1 p0 0 v_2 h_p0 rl_0 r_v_2) (cwV 2 hts (gV tw_1723 tw_1725 ts_106 tw_15 tw_1726) rfl rfl rfl (by decide +kernel) ⟨Nat.le_of_ble_eq_true rfl, Nat.le_of_ble_eq_true rfl⟩) (tg_preV hw hK hSD hA (ci := 10) (q := (RX10, TX10, 49)) rfl h_p0 rfl) rfl rfl hl.1 rfl (lv_room (Nat.le_of_ble_eq_true rfl)) dX10_readIdeaName_8 ⟨Nat.le_of_ble_eq_true rfl, Nat.le_of_ble_eq_true rfl⟩) hw hA ⟨by decide, by decide⟩ (fun v_3 ws H locs hp_v_3 hw hF9 => ?_)
  have r_v_3 : RI v_3 0 1 := hp_v_3.1
  by_cases c9_v_3 : v_3 = 0
  · have r_v_3 : RI v_3 0 0 := by rw [c9_v_3]; exact rl_0
    subst hQ
    exact W.zret (v := v_3) hx hb hr (tq_nz (r_v_3.to (by decide))) (fun t ht hW => ⟨⟨v_3, ws, rfl, ⟨⟨r_v_3.to (by decide), (fun h0 => trivial), (fun h0 => absurd (Int32.toInt_inj.mp (by have h8 := r_v_3; unfold RI at h8; rw [Int32.toInt_zero]; omega)) h0)⟩, hw.1, hw.2.2.2.2.1⟩, by rw [ht]; exact hw.2.1, va_K.moved hW.alike hK, hw.2.2.1⟩, hw.2.2.2.1.F ht⟩) hw.2.2.2.1.2.2 dX10_readIdeaName_11
  · have r_v_3 : RI v_3 1 1 := rc_neL r_v_3 rl_0 (ti_ne c9_v_3) (by decide)
    have r_v_2 : RI v_2 1 6 := ((hp_v_3.2.2 c9_v_3).1)
    obtain ⟨v_4, m_v_4, r_v_4⟩ := ((hp_v_3.2.2 c9_v_3).2.1)
    subst hQ
    exact W.zret (v := v_3) hx hb hr (tq_nz (r_v_3.to (by decide))) (fun t ht hW => ⟨⟨v_3, ws, rfl, ⟨⟨r_v_3.to (by decide), (fun _ => trivial), (fun h0 => ⟨⟨_, m_v_4, r_v_4⟩, trivial⟩)⟩, hw.1, hw.2.2.2.2.1⟩, by rw [ht]; exact hw.2.1, va_K.moved hW.alike hK, hw.2.2.1⟩, hw.2.2.2.1.F ht⟩) hw.2.2.2.1.2.2 dX10_readIdeaName_11
abbrev wr_X10_isIn__8 : List (Nat × Nat) := []
abbrev wa_X10_isIn__8 : List Nat := []
set_option maxHeartbeats 4000000 in
set_option maxRecDepth 100000 in
theorem c_X10_isIn__8 (l : Launch) (D : va_G) (cy : Nat → ClassId) (z : Nat → Nat) (sz : Nat) (Ps : PSI) (w0 : va_W) (hT : HT cy GG Ps w0) (p0 : Int32) (p1 : Int32) (p2 : Int32) (r_p0 : RI p0 (-2147483648) 2147483647) (r_p1 : RI p1 1 1) (r_p2 : RI p2 20 20) : Met l yX10_isIn (Cond.code yX10_isIn cX10_isIn 3 (some .boolean) :: gT) ({ frames := 0, cells := 0, slots := 0, locals := 200 } : Room) (va_Pc [.int p0, .int p1, .int p2] (PRE D cy z w0 sz)) (va_Qi (fun (r : Int32) (u : Unit) => RI r 0 1 ∧ (r = 0 → True) ∧ (¬ r = 0 → RI p0 1 20 ∧ True)) (BB D cy (va_A w0 sz) (fun (u : Unit) => w0)) (va_A w0 sz)) 0 0 (va_A w0 sz) := by
  refine Met.ofW (cc := cX10_isIn) (maxL := 3) (ret := (some .boolean)) (by decide) rfl ?_
  intro p e s m args below meth c s₁ B hml hv
  obtain ⟨rfl, hsz, hP, hK, hD0, hSD⟩ := hv
  have hx := B.exec
  have hb := B.bytes
  have hr := B.returns
  have hlocks := B.notSynchronized
  have hts : ∀ w ∈ gT, w.before _ s = true := fun w h => atoms_spec (ws := Cond.code yX10_isIn cX10_isIn 3 (some .boolean) :: gT) B.pre w (List.mem_cons_of_mem _ h)
  have hown : s.vm.findClass RX10 = some m.cls := findClass_of_methodNamed B.named
  subst hsz
  have hD := hD0.self (sz := s.heap.size)
  generalize hAe : va_A w0 s.heap.size = A at hD hSD ⊢
  have hA : ∀ q : Nat, s.heap.size ≤ q → A q := fun q h => by rw [← hAe]; exact Or.inr h
  have hl := lv_entry ([.int p0, .int p1, .int p2]) (n := 3) (Nat.le_of_ble_eq_true rfl)
  rw [lg_entry_eq]
  generalize (lg_sl ([.int p0, .int p1, .int p2]) ++ List.replicate (3 - (lg_sl ([.int p0, .int p1, .int p2])).length) Slot.unset).toArray = ls at hl ⊢
  have hl : lv_has ls 3 [(0, .int p0), (1, .int p1), (2, .int p2)] := hl
  refine nameQ (fun Q hQ => ?_)
  have hw : WD D cy GG A s wr_X10_isIn__8 wa_X10_isIn__8 Ps w0 Ps w0 s.heap [] := ⟨hT, hP, hD, va_S.rf, FR.rf, hT.1, [], (List.append_nil _).symm⟩
  refine lv_iload_n hx hb dX10_isIn_0 rfl (lv_at hl 0 rfl) ?_
  refine lv_iload_n hx hb dX10_isIn_1 rfl (lv_at hl 1 rfl) ?_
  refine lv_icmp_lt (tgt := 14) hx hb dX10_isIn_2 (by decide) (fun c_2 => ?_) (fun c_2 => ?_)
  · have r_p0 : RI p0 (-2147483648) 0 := rc_lt1 r_p0 r_p1 (ti_lt c_2) (by decide)
    refine lv_iconst (v := 0) hx hb dX10_isIn_14 (by decide) ?_
    subst hQ
    exact W.zret (v := 0) hx hb hr (rfl) (fun t ht hW => ⟨⟨0, (), rfl, ⟨rl_0.to (by decide), (fun h0 => trivial), (fun h0 => absurd rfl h0)⟩, by rw [ht]; exact hw.2.1, va_K.moved hW.alike hK, hw.2.2.1⟩, hw.2.2.2.1.F ht⟩) hw.2.2.2.1.2.2 dX10_isIn_15
  · have r_p0 : RI p0 1 2147483647 := rc_le2 r_p1 r_p0 (ti_nlt c_2) (by decide)
    refine lv_iload_n hx hb dX10_isIn_5 rfl (lv_at hl 0 rfl) ?_
    refine lv_iload_n hx hb dX10_isIn_6 rfl (lv_at hl 2 rfl) ?_
    refine lv_icmp_gt (tgt := 14) hx hb dX10_isIn_7 (by decide) (fun c_7 => ?_) (fun c_7 => ?_)
    · have r_p0 : RI p0 21 2147483647 := rc_lt2 r_p2 r_p0 (ti_lt c_7) (by decide)
      refine lv_iconst (v := 0) hx hb dX10_isIn_14 (by decide) ?_
      subst hQ
      exact W.zret (v := 0) hx hb hr (rfl) (fun t ht hW => ⟨⟨0, (), rfl, ⟨rl_0.to (by decide), (fun h0 => trivial), (fun h0 => absurd rfl h0)⟩, by rw [ht]; exact hw.2.1, va_K.moved hW.alike hK, hw.2.2.1⟩, hw.2.2.2.1.F ht⟩) hw.2.2.2.1.2.2 dX10_isIn_15
    · have r_p0 : RI p0 1 20 := rc_le1 r_p0 r_p2 (ti_nlt c_7) (by decide)
      refine lv_iconst (v := 1) hx hb dX10_isIn_10 (by decide) ?_
      refine lv_goto (tgt := 15) hx hb dX10_isIn_11 (by decide) ?_
      subst hQ
      exact W.zret (v := 1) hx hb hr (rfl) (fun t ht hW => ⟨⟨1, (), rfl, ⟨rl_1.to (by decide), (fun _ => trivial), (fun h0 => ⟨r_p0, trivial⟩)⟩, by rw [ht]; exact hw.2.1, va_K.moved hW.alike hK, hw.2.2.1⟩, hw.2.2.2.1.F ht⟩) hw.2.2.2.1.2.2 dX10_isIn_15
abbrev wr_X10_readNumber__1 : List (Nat × Nat) := [(10, 5), (10, 6), (10, 7), (10, 8), (10, 9), (10, 10), (10, 11), (10, 12), (10, 13)]
abbrev wa_X10_readNumber__1 : List Nat := []
set_option maxHeartbeats 4000000 in
set_option maxRecDepth 100000 in
theorem c_X10_readNumber__1 (l : Launch) (D : va_G) (cy : Nat → ClassId) (z : Nat → Nat) (sz : Nat) (Ps : PSI) (w0 : va_W) (hT : HT cy GG Ps w0) (p0 : Nat) (p1 : Int32) (p2 : Int32) (gh : Int) (h_p0 : (p0, 55) ∈ Ps) (r_p1 : RI p1 1 1) (r_p2 : RI p2 20 20) (x_TO_p0_gh : TOP w0 p0 (gh)) : Met l yX10_readNumber (Cond.code yX10_readNumber cX10_readNumber 3 (some .boolean) :: gT) ({ frames := 3, cells := 0, slots := 0, locals := 600 } : Room) (va_Pc [.ref p0, .int p1, .int p2] (PRE D cy z w0 sz)) (va_Qi (fun (r : Int32) (u : va_W) => (RI r 0 1 ∧ (r = 0 → True) ∧ (¬ r = 0 → (∃ v9 : Int32, FLD u p0 10 13 (.int v9) ∧ RI v9 1 20) ∧ TKP u p0 (gh) ∧ True)) ∧ HT cy GG Ps u ∧ FR wr_X10_readNumber__1 wa_X10_readNumber__1 Ps w0 u) (BB D cy (va_A w0 sz) (fun (u : va_W) => u)) (va_A w0 sz)) 0 0 (va_A w0 sz) := by
  refine Met.ofW (cc := cX10_readNumber) (maxL := 3) (ret := (some .boolean)) (by decide) rfl ?_
  intro p e s m args below meth c s₁ B hml hv
  obtain ⟨rfl, hsz, hP, hK, hD0, hSD⟩ := hv
  have hx := B.exec
  have hb := B.bytes
  have hr := B.returns
  have hlocks := B.notSynchronized
  have hts : ∀ w ∈ gT, w.before _ s = true := fun w h => atoms_spec (ws := Cond.code yX10_readNumber cX10_readNumber 3 (some .boolean) :: gT) B.pre w (List.mem_cons_of_mem _ h)
  have hown : s.vm.findClass RX10 = some m.cls := findClass_of_methodNamed B.named
  subst hsz
  have hD := hD0.self (sz := s.heap.size)
  generalize hAe : va_A w0 s.heap.size = A at hD hSD ⊢
  have hA : ∀ q : Nat, s.heap.size ≤ q → A q := fun q h => by rw [← hAe]; exact Or.inr h
  have hl := lv_entry ([.ref p0, .int p1, .int p2]) (n := 3) (Nat.le_of_ble_eq_true rfl)
  rw [lg_entry_eq]
  generalize (lg_sl ([.ref p0, .int p1, .int p2]) ++ List.replicate (3 - (lg_sl ([.ref p0, .int p1, .int p2])).length) Slot.unset).toArray = ls at hl ⊢
  have hl : lv_has ls 3 [(0, .ref p0), (1, .int p1), (2, .int p2)] := hl
  refine nameQ (fun Q hQ => ?_)
  have hw : WD D cy GG A s wr_X10_readNumber__1 wa_X10_readNumber__1 Ps w0 Ps w0 s.heap [] := ⟨hT, hP, hD, va_S.rf, FR.rf, hT.1, [], (List.append_nil _).symm⟩
  refine lv_aload_n hx hb dX10_readNumber_0 rfl (lv_at hl 0 rfl) ?_
  refine tg_get (ci := 10) (ts := ty_MODEL) (C := RX10) (T := TX10) (N := 49) hx hb hts inX10 hown hK hw h_p0 rfl rfl 7 (by decide) (hts _ tw_1144) (fun _ h9 => h9) (ft := vI (-2147483648) 2147483647) rfl dX10_readNumber_1 (fun u_1 hv_u_1 m_u_1 => ?_)
  obtain ⟨vu_1, rfl, r_vu_1⟩ := hv_u_1
  refine lv_iconst (v := 3) hx hb dX10_readNumber_4 (by decide) ?_
  refine lv_icmp_eq (tgt := 14) hx hb dX10_readNumber_5 (by decide) (fun c_5 => ?_) (fun c_5 => ?_)
  · have r_vu_1 : RI vu_1 3 3 := rc_eq1 r_vu_1 rl_3 (ti_eq c_5) (by decide)
    refine lv_aload_n hx hb dX10_readNumber_14 rfl (lv_at hl 0 rfl) ?_
    refine tg_get (ci := 10) (ts := ty_MODEL) (C := RX10) (T := TX10) (N := 49) hx hb hts inX10 hown hK hw h_p0 rfl rfl 8 (by decide) (hts _ tw_1145) (fun _ h9 => h9) (ft := vI (-2147483648) 2147483647) rfl dX10_readNumber_15 (fun u_2 hv_u_2 m_u_2 => ?_)
    obtain ⟨vu_2, rfl, r_vu_2⟩ := hv_u_2
    refine lv_iload_n hx hb dX10_readNumber_18 rfl (lv_at hl 1 rfl) ?_
    refine lv_iload_n hx hb dX10_readNumber_19 rfl (lv_at hl 2 rfl) ?_
    refine tk_ir (va_runS (As := [.int vu_2, .int p1, .int p2]) (rest := []) ⟨hx, hb, hml, hown, hts⟩ (c_X10_isIn__8 l D cy z s.heap.size Ps w0 hw.1 vu_2 p1 p2 r_vu_2 r_p1 r_p2) (va_cwS 3 hts (gS tw_1359 tw_1360 tw_15 tw_1361) rfl rfl rfl (by decide +kernel) ⟨Nat.le_of_ble_eq_true rfl, Nat.le_of_ble_eq_true rfl⟩) (tg_preS hw hK hSD hA) rfl rfl hl.1 rfl (lv_room (Nat.le_of_ble_eq_true rfl)) dX10_readNumber_20 ⟨Nat.le_of_ble_eq_true rfl, Nat.le_of_ble_eq_true rfl⟩) hw hA (fun v_3  H locs hp_v_3 hw => ?_)
    have r_v_3 : RI v_3 0 1 := hp_v_3.1
    refine lv_if_ne (tgt := 32) hx hb dX10_readNumber_23 (by decide) (fun c_23 => ?_) (fun c_23 => ?_)
    · have r_v_3 : RI v_3 1 1 := rc_neL r_v_3 rl_0 (ti_ne c_23) (by decide)
      have r_vu_2 : RI vu_2 1 20 := ((hp_v_3.2.2 c_23).1)
      refine lv_aload_n hx hb dX10_readNumber_32 rfl (lv_at hl 0 rfl) ?_
      refine lv_aload_n hx hb dX10_readNumber_33 rfl (lv_at hl 0 rfl) ?_
      refine tg_mem (ci := 10) (C := RX10) (T := TX10) (N := 49) hx hb hts inX10 hown hK hw 8 m_u_2 rfl (by decide) (hts _ tw_1145) (fun _ h9 => h9) dX10_readNumber_34 ?_
      refine tg_put (ci := 10) (ts := ty_MODEL) (v := .int vu_2) (ty := .int) (C := RX10) (T := TX10) (N := 49) hx hb hts inX10 tyX10 tyX10_ok nmX10 hown hK hw h_p0 rfl rfl 13 (by decide) (hts _ tw_1150) (fun _ h9 => h9) rfl (by decide +kernel) rfl rfl (ft := vI (-2147483648) 2147483647) rfl ⟨_, rfl, (r_vu_2.to (by decide))⟩ (by decide) dX10_readNumber_37 (fun ws H locs hw n_k_4 hF9 => ?_)
      have m_u_1 := FLD.over hF9 m_u_1 (by decide)
      have m_u_2 := FLD.over hF9 m_u_2 (by decide)
      have x_TO_p0_gh := TOP.over hF9 x_TO_p0_gh (by decide)
      refine lv_aload_n hx hb dX10_readNumber_40 rfl (lv_at hl 0 rfl) ?_
      refine tk_v (va_runV (As := []) (rest := []) ⟨hx, hb, hml, hown, hts⟩ (c_X10_go__1 l D cy z H.size Ps ws hw.1 p0 (gh) h_p0 x_TO_p0_gh) (cwV 0 hts (gV tw_1298 tw_1300 ts_40 tw_15 tw_1301) rfl rfl rfl (by decide +kernel) ⟨Nat.le_of_ble_eq_true rfl, Nat.le_of_ble_eq_true rfl⟩) (tg_preV hw hK hSD hA (ci := 10) (q := (RX10, TX10, 49)) rfl h_p0 rfl) rfl rfl hl.1 rfl (lv_room (Nat.le_of_ble_eq_true rfl)) dX10_readNumber_41 ⟨Nat.le_of_ble_eq_true rfl, Nat.le_of_ble_eq_true rfl⟩) hw hA ⟨by decide, by decide⟩ (fun ws H locs hp_v_5 hw hF9 => ?_)
      have n_k_4 := FLD.over hF9 n_k_4 (by decide)
      have x_TOK_p0_gh := (hp_v_5.1)
      refine lv_iconst (v := 1) hx hb dX10_readNumber_44 (by decide) ?_
      subst hQ
      exact W.zret (v := 1) hx hb hr (rfl) (fun t ht hW => ⟨⟨1, ws, rfl, ⟨⟨rl_1.to (by decide), (fun _ => trivial), (fun h0 => ⟨⟨_, n_k_4, r_vu_2⟩, x_TOK_p0_gh, trivial⟩)⟩, hw.1, hw.2.2.2.2.1⟩, by rw [ht]; exact hw.2.1, va_K.moved hW.alike hK, hw.2.2.1⟩, hw.2.2.2.1.F ht⟩) hw.2.2.2.1.2.2 dX10_readNumber_45
    · have r_v_3 : RI v_3 0 0 := rc_eq1 r_v_3 rl_0 (ti_eq c_23) (by decide)
      refine lv_aload_n hx hb dX10_readNumber_26 rfl (lv_at hl 0 rfl) ?_
      refine lv_iconst (v := 2) hx hb dX10_readNumber_27 (by decide) ?_
      refine tk_i (va_runV (As := [.int 2]) (rest := []) ⟨hx, hb, hml, hown, hts⟩ (c_X10_bad l D cy z H.size Ps w0 hw.1 p0 2 h_p0 (rl_2.to (by decide))) (cwV 1 hts (gV tw_1336 tw_1338 ts_46 tw_15 tw_1339) rfl rfl rfl (by decide +kernel) ⟨Nat.le_of_ble_eq_true rfl, Nat.le_of_ble_eq_true rfl⟩) (tg_preV hw hK hSD hA (ci := 10) (q := (RX10, TX10, 49)) rfl h_p0 rfl) rfl rfl hl.1 rfl (lv_room (Nat.le_of_ble_eq_true rfl)) dX10_readNumber_28 ⟨Nat.le_of_ble_eq_true rfl, Nat.le_of_ble_eq_true rfl⟩) hw hA ⟨by decide, by decide⟩ (fun v_6 ws H locs hp_v_6 hw hF9 => ?_)
      have m_u_1 := FLD.over hF9 m_u_1 (by decide)
      have m_u_2 := FLD.over hF9 m_u_2 (by decide)
      have x_TO_p0_gh := TOP.over hF9 x_TO_p0_gh (by decide)
      have r_v_6 : RI v_6 0 0 := hp_v_6.1
      subst hQ
      exact W.zret (v := v_6) hx hb hr (tq_nz (r_v_6.to (by decide))) (fun t ht hW => ⟨⟨v_6, ws, rfl, ⟨⟨r_v_6.to (by decide), (fun h0 => trivial), (fun h0 => absurd (Int32.toInt_inj.mp (by have h8 := r_v_6; unfold RI at h8; rw [Int32.toInt_zero]; omega)) h0)⟩, hw.1, hw.2.2.2.2.1⟩, by rw [ht]; exact hw.2.1, va_K.moved hW.alike hK, hw.2.2.1⟩, hw.2.2.2.1.F ht⟩) hw.2.2.2.1.2.2 dX10_readNumber_31
  · refine lv_aload_n hx hb dX10_readNumber_8 rfl (lv_at hl 0 rfl) ?_
    refine lv_iconst (v := 1) hx hb dX10_readNumber_9 (by decide) ?_
    refine tk_i (va_runV (As := [.int 1]) (rest := []) ⟨hx, hb, hml, hown, hts⟩ (c_X10_bad l D cy z s.heap.size Ps w0 hw.1 p0 1 h_p0 (rl_1.to (by decide))) (cwV 1 hts (gV tw_1336 tw_1338 ts_46 tw_15 tw_1339) rfl rfl rfl (by decide +kernel) ⟨Nat.le_of_ble_eq_true rfl, Nat.le_of_ble_eq_true rfl⟩) (tg_preV hw hK hSD hA (ci := 10) (q := (RX10, TX10, 49)) rfl h_p0 rfl) rfl rfl hl.1 rfl (lv_room (Nat.le_of_ble_eq_true rfl)) dX10_readNumber_10 ⟨Nat.le_of_ble_eq_true rfl, Nat.le_of_ble_eq_true rfl⟩) hw hA ⟨by decide, by decide⟩ (fun v_7 ws H locs hp_v_7 hw hF9 => ?_)
    have m_u_1 := FLD.over hF9 m_u_1 (by decide)
    have x_TO_p0_gh := TOP.over hF9 x_TO_p0_gh (by decide)
    have r_v_7 : RI v_7 0 0 := hp_v_7.1
    subst hQ
    exact W.zret (v := v_7) hx hb hr (tq_nz (r_v_7.to (by decide))) (fun t ht hW => ⟨⟨v_7, ws, rfl, ⟨⟨r_v_7.to (by decide), (fun h0 => trivial), (fun h0 => absurd (Int32.toInt_inj.mp (by have h8 := r_v_7; unfold RI at h8; rw [Int32.toInt_zero]; omega)) h0)⟩, hw.1, hw.2.2.2.2.1⟩, by rw [ht]; exact hw.2.1, va_K.moved hW.alike hK, hw.2.2.1⟩, hw.2.2.2.1.F ht⟩) hw.2.2.2.1.2.2 dX10_readNumber_13
abbrev wr_X10_put__2 : List (Nat × Nat) := []
abbrev wa_X10_put__2 : List Nat := []
set_option maxHeartbeats 4000000 in
set_option maxRecDepth 100000 in
theorem c_X10_put__2 (l : Launch) (D : va_G) (cy : Nat → ClassId) (z : Nat → Nat) (sz : Nat) (Ps : PSI) (w0 : va_W) (hT : HT cy GG Ps w0) (p0 : Nat) (p1 : Int32) (p2 : Int32) (F : (Nat → Int32) → Prop) (F2 : (Nat → Int32) → Prop) (h_p0 : (p0, 55) ∈ Ps) (r_p1 : RI p1 5 5) (r_p2 : RI p2 0 0) (x_F : AX 15 35 F Ps w0 p0) (hF : ∀ (f : Nat → Int32) (v : Int32), RI v (-2147483648) 2147483647 → F f → F2 (upd f (Int32.toNatClampNeg p1) v)) : Met l yX10_put (Cond.code yX10_put cX10_put 3 (some .boolean) :: gT) ({ frames := 0, cells := 0, slots := 0, locals := 200 } : Room) (va_Pc [.ref p0, .int p1, .int p2] (PRE D cy z w0 sz)) (va_Qi (fun (r : Int32) (u : Unit) => RI r 0 0 ∧ (r = 0 → AX 15 35 F Ps w0 p0 ∧ True) ∧ (¬ r = 0 → AX 15 35 F2 Ps w0 p0 ∧ True)) (BB D cy (va_A w0 sz) (fun (u : Unit) => w0)) (va_A w0 sz)) 0 0 (va_A w0 sz) := by
  refine Met.ofW (cc := cX10_put) (maxL := 3) (ret := (some .boolean)) (by decide) rfl ?_
  intro p e s m args below meth c s₁ B hml hv
  obtain ⟨rfl, hsz, hP, hK, hD0, hSD⟩ := hv
  have hx := B.exec
  have hb := B.bytes
  have hr := B.returns
  have hlocks := B.notSynchronized
  have hts : ∀ w ∈ gT, w.before _ s = true := fun w h => atoms_spec (ws := Cond.code yX10_put cX10_put 3 (some .boolean) :: gT) B.pre w (List.mem_cons_of_mem _ h)
  have hown : s.vm.findClass RX10 = some m.cls := findClass_of_methodNamed B.named
  subst hsz
  have hD := hD0.self (sz := s.heap.size)
  generalize hAe : va_A w0 s.heap.size = A at hD hSD ⊢
  have hA : ∀ q : Nat, s.heap.size ≤ q → A q := fun q h => by rw [← hAe]; exact Or.inr h
  have hl := lv_entry ([.ref p0, .int p1, .int p2]) (n := 3) (Nat.le_of_ble_eq_true rfl)
  rw [lg_entry_eq]
  generalize (lg_sl ([.ref p0, .int p1, .int p2]) ++ List.replicate (3 - (lg_sl ([.ref p0, .int p1, .int p2])).length) Slot.unset).toArray = ls at hl ⊢
  have hl : lv_has ls 3 [(0, .ref p0), (1, .int p1), (2, .int p2)] := hl
  refine nameQ (fun Q hQ => ?_)
  have hw : WD D cy GG A s wr_X10_put__2 wa_X10_put__2 Ps w0 Ps w0 s.heap [] := ⟨hT, hP, hD, va_S.rf, FR.rf, hT.1, [], (List.append_nil _).symm⟩
  refine lv_iload_n hx hb dX10_put_0 rfl (lv_at hl 2 rfl) ?_
  refine lv_if_eq (tgt := 14) hx hb dX10_put_1 (by decide) (fun c_1 => ?_) (fun c_1 => ?_)
  · refine lv_iload_n hx hb dX10_put_14 rfl (lv_at hl 2 rfl) ?_
    subst hQ
    exact W.zret (v := p2) hx hb hr (tq_nz (r_p2.to (by decide))) (fun t ht hW => ⟨⟨p2, (), rfl, ⟨r_p2.to (by decide), (fun h0 => ⟨x_F, trivial⟩), (fun h0 => absurd (Int32.toInt_inj.mp (by have h8 := r_p2; unfold RI at h8; rw [Int32.toInt_zero]; omega)) h0)⟩, by rw [ht]; exact hw.2.1, va_K.moved hW.alike hK, hw.2.2.1⟩, hw.2.2.2.1.F ht⟩) hw.2.2.2.1.2.2 dX10_put_15
  · exact absurd (r_p2.eq.trans rl_0.eq.symm) ((ti_ne c_1))
abbrev wr_X10_put__3 : List (Nat × Nat) := []
abbrev wa_X10_put__3 : List Nat := [35]
set_option maxHeartbeats 4000000 in
set_option maxRecDepth 100000 in
theorem c_X10_put__3 (l : Launch) (D : va_G) (cy : Nat → ClassId) (z : Nat → Nat) (sz : Nat) (Ps : PSI) (w0 : va_W) (hT : HT cy GG Ps w0) (p0 : Nat) (p1 : Int32) (p2 : Int32) (f0_13 : Int32) (F : (Nat → Int32) → Prop) (F2 : (Nat → Int32) → Prop) (h_p0 : (p0, 55) ∈ Ps) (r_p1 : RI p1 5 5) (r_p2 : RI p2 1 1) (r_f0_13 : RI f0_13 1 20) (m_f0_13 : FLD w0 p0 10 13 (.int f0_13)) (x_F : AX 15 35 F Ps w0 p0) (hF : ∀ (f : Nat → Int32) (v : Int32), RI v 1 20 → F f → F2 (upd f (Int32.toNatClampNeg p1) v)) : Met l yX10_put (Cond.code yX10_put cX10_put 3 (some .boolean) :: gT) ({ frames := 0, cells := 0, slots := 0, locals := 200 } : Room) (va_Pc [.ref p0, .int p1, .int p2] (PRE D cy z w0 sz)) (va_Qi (fun (r : Int32) (u : va_W) => (RI r 1 1 ∧ (r = 0 → AX 15 35 F Ps u p0 ∧ True) ∧ (¬ r = 0 → (∃ v9 : Int32, FLD u p0 10 13 (.int v9) ∧ RI v9 1 20) ∧ AX 15 35 F2 Ps u p0 ∧ True)) ∧ HT cy GG Ps u ∧ FR wr_X10_put__3 wa_X10_put__3 Ps w0 u) (BB D cy (va_A w0 sz) (fun (u : va_W) => u)) (va_A w0 sz)) 0 0 (va_A w0 sz) := by
  refine Met.ofW (cc := cX10_put) (maxL := 3) (ret := (some .boolean)) (by decide) rfl ?_
  intro p e s m args below meth c s₁ B hml hv
  obtain ⟨rfl, hsz, hP, hK, hD0, hSD⟩ := hv
  have hx := B.exec
  have hb := B.bytes
  have hr := B.returns
  have hlocks := B.notSynchronized
  have hts : ∀ w ∈ gT, w.before _ s = true := fun w h => atoms_spec (ws := Cond.code yX10_put cX10_put 3 (some .boolean) :: gT) B.pre w (List.mem_cons_of_mem _ h)
  have hown : s.vm.findClass RX10 = some m.cls := findClass_of_methodNamed B.named
  subst hsz
  have hD := hD0.self (sz := s.heap.size)
  generalize hAe : va_A w0 s.heap.size = A at hD hSD ⊢
  have hA : ∀ q : Nat, s.heap.size ≤ q → A q := fun q h => by rw [← hAe]; exact Or.inr h
  have hl := lv_entry ([.ref p0, .int p1, .int p2]) (n := 3) (Nat.le_of_ble_eq_true rfl)
  rw [lg_entry_eq]
  generalize (lg_sl ([.ref p0, .int p1, .int p2]) ++ List.replicate (3 - (lg_sl ([.ref p0, .int p1, .int p2])).length) Slot.unset).toArray = ls at hl ⊢
  have hl : lv_has ls 3 [(0, .ref p0), (1, .int p1), (2, .int p2)] := hl
  refine nameQ (fun Q hQ => ?_)
  have hw : WD D cy GG A s wr_X10_put__3 wa_X10_put__3 Ps w0 Ps w0 s.heap [] := ⟨hT, hP, hD, va_S.rf, FR.rf, hT.1, [], (List.append_nil _).symm⟩
  refine lv_iload_n hx hb dX10_put_0 rfl (lv_at hl 2 rfl) ?_
  refine lv_if_eq (tgt := 14) hx hb dX10_put_1 (by decide) (fun c_1 => ?_) (fun c_1 => ?_)
  · have r_p2 : RI p2 1 0 := rc_eq1 r_p2 rl_0 (ti_eq c_1) (by decide)
    exact (r_p2.no (by decide)).elim
  · refine lv_aload_n hx hb dX10_put_4 rfl (lv_at hl 0 rfl) ?_
    refine tg_get (ci := 10) (ts := ty_MODEL) (C := RX10) (T := TX10) (N := 49) hx hb hts inX10 hown hK hw h_p0 rfl rfl 15 (by decide) (hts _ tw_1152) (fun _ h9 => h9) (ft := vR 35) rfl dX10_put_5 (fun u_1 hv_u_1 m_u_1 => ?_)
    obtain ⟨vu_1, rfl, h_vu_1⟩ := hv_u_1
    refine lv_iload_n hx hb dX10_put_8 rfl (lv_at hl 1 rfl) ?_
    refine lv_aload_n hx hb dX10_put_9 rfl (lv_at hl 0 rfl) ?_
    refine tg_mem (ci := 10) (C := RX10) (T := TX10) (N := 49) hx hb hts inX10 hown hK hw 13 m_f0_13 rfl (by decide) (hts _ tw_1150) (fun _ h9 => h9) dX10_put_10 ?_
    refine tg_iast hx hb hK hw h_vu_1 rfl 5 5 r_p1 (by decide) r_f0_13 (by decide +kernel) (fun _ _ _ _ _ => trivial) (by decide) dX10_put_13 (fun ws H locs hw hF9 hU9 => ?_)
    have x_GFRB_p0 : AX 15 35 F2 Ps ws p0 := AX.ast hF9 hU9 x_F m_u_1 (fun f9 h9 => hF f9 _ r_f0_13 h9)
    have m_f0_13 := FLD.over hF9 m_f0_13 (by decide)
    refine lv_iload_n hx hb dX10_put_14 rfl (lv_at hl 2 rfl) ?_
    subst hQ
    exact W.zret (v := p2) hx hb hr (tq_nz (r_p2.to (by decide))) (fun t ht hW => ⟨⟨p2, ws, rfl, ⟨⟨r_p2.to (by decide), (fun h0 => absurd (ti_eq h0) (by have h8 := r_p2; unfold RI at h8; rw [Int32.toInt_zero]; omega)), (fun h0 => ⟨⟨_, m_f0_13, r_f0_13⟩, x_GFRB_p0, trivial⟩)⟩, hw.1, hw.2.2.2.2.1⟩, by rw [ht]; exact hw.2.1, va_K.moved hW.alike hK, hw.2.2.1⟩, hw.2.2.2.1.F ht⟩) hw.2.2.2.1.2.2 dX10_put_15
abbrev wr_X10_readOnce : List (Nat × Nat) := [(10, 5), (10, 6), (10, 7), (10, 8), (10, 9), (10, 10), (10, 11), (10, 12), (10, 13)]
abbrev wa_X10_readOnce : List Nat := [35, 45]
set_option maxHeartbeats 4000000 in
set_option maxRecDepth 100000 in
theorem c_X10_readOnce (l : Launch) (D : va_G) (cy : Nat → ClassId) (z : Nat → Nat) (sz : Nat) (Ps : PSI) (w0 : va_W) (hT : HT cy GG Ps w0) (p0 : Nat) (p1 : Int32) (p2 : Int32) (p3 : Int32) (p4 : Int32) (gh : Int) (h_p0 : (p0, 55) ∈ Ps) (r_p1 : RI p1 1 1) (r_p2 : RI p2 5 5) (r_p3 : RI p3 1 1) (r_p4 : RI p4 20 20) (x_TO_p0_gh : TOP w0 p0 (gh)) (x_RH_p0 : AX 15 35 (fun f => RH2p f) Ps w0 p0) : Met l yX10_readOnce (Cond.code yX10_readOnce cX10_readOnce 5 (some .boolean) :: gT) ({ frames := 4, cells := 0, slots := 0, locals := 800 } : Room) (va_Pc [.ref p0, .int p1, .int p2, .int p3, .int p4] (PRE D cy z w0 sz)) (va_Qi (fun (r : Int32) (u : va_W) => (RI r 0 1 ∧ (r = 0 → True) ∧ (¬ r = 0 → (∃ v9 : Int32, FLD u p0 10 13 (.int v9) ∧ RI v9 1 20) ∧ TKP u p0 (gh) ∧ AX 15 35 (fun f => RH2p f) Ps u p0 ∧ True)) ∧ HT cy GG Ps u ∧ FR wr_X10_readOnce wa_X10_readOnce Ps w0 u) (BB D cy (va_A w0 sz) (fun (u : va_W) => u)) (va_A w0 sz)) 0 0 (va_A w0 sz) := by
  refine Met.ofW (cc := cX10_readOnce) (maxL := 5) (ret := (some .boolean)) (by decide) rfl ?_
  intro p e s m args below meth c s₁ B hml hv
  obtain ⟨rfl, hsz, hP, hK, hD0, hSD⟩ := hv
  have hx := B.exec
  have hb := B.bytes
  have hr := B.returns
  have hlocks := B.notSynchronized
  have hts : ∀ w ∈ gT, w.before _ s = true := fun w h => atoms_spec (ws := Cond.code yX10_readOnce cX10_readOnce 5 (some .boolean) :: gT) B.pre w (List.mem_cons_of_mem _ h)
  have hown : s.vm.findClass RX10 = some m.cls := findClass_of_methodNamed B.named
  subst hsz
  have hD := hD0.self (sz := s.heap.size)
  generalize hAe : va_A w0 s.heap.size = A at hD hSD ⊢
  have hA : ∀ q : Nat, s.heap.size ≤ q → A q := fun q h => by rw [← hAe]; exact Or.inr h
  have hl := lv_entry ([.ref p0, .int p1, .int p2, .int p3, .int p4]) (n := 5) (Nat.le_of_ble_eq_true rfl)
  rw [lg_entry_eq]
  generalize (lg_sl ([.ref p0, .int p1, .int p2, .int p3, .int p4]) ++ List.replicate (5 - (lg_sl ([.ref p0, .int p1, .int p2, .int p3, .int p4])).length) Slot.unset).toArray = ls at hl ⊢
  have hl : lv_has ls 5 [(0, .ref p0), (1, .int p1), (2, .int p2), (3, .int p3), (4, .int p4)] := hl
  refine nameQ (fun Q hQ => ?_)
  have hw : WD D cy GG A s wr_X10_readOnce wa_X10_readOnce Ps w0 Ps w0 s.heap [] := ⟨hT, hP, hD, va_S.rf, FR.rf, hT.1, [], (List.append_nil _).symm⟩
  refine lv_aload_n hx hb dX10_readOnce_0 rfl (lv_at hl 0 rfl) ?_
  refine tg_get (ci := 10) (ts := ty_MODEL) (C := RX10) (T := TX10) (N := 49) hx hb hts inX10 hown hK hw h_p0 rfl rfl 24 (by decide) (hts _ tw_1161) (fun _ h9 => h9) (ft := vR 45) rfl dX10_readOnce_1 (fun u_1 hv_u_1 m_u_1 => ?_)
  obtain ⟨vu_1, rfl, h_vu_1⟩ := hv_u_1
  refine lv_iload_n hx hb dX10_readOnce_4 rfl (lv_at hl 1 rfl) ?_
  refine tg_zald (lo := (-2147483648)) (hi := 2147483647) hx hb hK hw h_vu_1 rfl 1 1 r_p1 (by decide) (by exact fun _ _ _ => ⟨Int.le_refl _, Int.le_refl _⟩) dX10_readOnce_5 (fun v_2 r_v_2 => ?_)
  refine lv_if_eq (tgt := 15) hx hb dX10_readOnce_6 (by decide) (fun c_6 => ?_) (fun c_6 => ?_)
  · have r_v_2 : RI v_2 0 0 := rc_eq1 r_v_2 rl_0 (ti_eq c_6) (by decide)
    refine lv_aload_n hx hb dX10_readOnce_15 rfl (lv_at hl 0 rfl) ?_
    refine tg_mem (ci := 10) (C := RX10) (T := TX10) (N := 49) hx hb hts inX10 hown hK hw 24 m_u_1 rfl (by decide) (hts _ tw_1161) (fun _ h9 => h9) dX10_readOnce_16 ?_
    refine lv_iload_n hx hb dX10_readOnce_19 rfl (lv_at hl 1 rfl) ?_
    refine lv_iconst (v := 1) hx hb dX10_readOnce_20 (by decide) ?_
    refine tg_zast hx hb hK hw h_vu_1 rfl 1 1 r_p1 (by decide) (by decide) dX10_readOnce_21 (fun ws H locs hw hF9 => ?_)
    have x_TO_p0_gh := TOP.over hF9 x_TO_p0_gh (by decide)
    have x_RH_p0 := AX.over hF9 x_RH_p0 (by decide)
    have m_u_1 := FLD.over hF9 m_u_1 (by decide)
    refine lv_aload_n hx hb dX10_readOnce_22 rfl (lv_at hl 0 rfl) ?_
    refine tk_v (va_runV (As := []) (rest := []) ⟨hx, hb, hml, hown, hts⟩ (c_X10_go__1 l D cy z H.size Ps ws hw.1 p0 (gh) h_p0 x_TO_p0_gh) (cwV 0 hts (gV tw_1298 tw_1300 ts_40 tw_15 tw_1301) rfl rfl rfl (by decide +kernel) ⟨Nat.le_of_ble_eq_true rfl, Nat.le_of_ble_eq_true rfl⟩) (tg_preV hw hK hSD hA (ci := 10) (q := (RX10, TX10, 49)) rfl h_p0 rfl) rfl rfl hl.1 rfl (lv_room (Nat.le_of_ble_eq_true rfl)) dX10_readOnce_23 ⟨Nat.le_of_ble_eq_true rfl, Nat.le_of_ble_eq_true rfl⟩) hw hA ⟨by decide, by decide⟩ (fun ws H locs hp_v_3 hw hF9 => ?_)
    have m_u_1 := FLD.over hF9 m_u_1 (by decide)
    have x_RH_p0 := AX.over hF9 x_RH_p0 (by decide)
    have x_TOK_p0_gh := (hp_v_3.1)
    refine lv_aload_n hx hb dX10_readOnce_26 rfl (lv_at hl 0 rfl) ?_
    refine lv_iload_n hx hb dX10_readOnce_27 rfl (lv_at hl 2 rfl) ?_
    refine lv_aload_n hx hb dX10_readOnce_28 rfl (lv_at hl 0 rfl) ?_
    refine lv_iload_n hx hb dX10_readOnce_29 rfl (lv_at hl 3 rfl) ?_
    refine lv_iload hx hb dX10_readOnce_30 (lv_at hl 4 rfl) ?_
    have x_TO_p0_gh : TOP ws p0 (gh) := TKP.top x_TOK_p0_gh
    refine tk_i (va_runV (As := [.int p3, .int p4]) (rest := [.int p2, .ref p0]) ⟨hx, hb, hml, hown, hts⟩ (c_X10_readNumber__1 l D cy z H.size Ps ws hw.1 p0 p3 p4 (gh) h_p0 r_p3 r_p4 x_TO_p0_gh) (cwV 2 hts (gV tw_1355 tw_1357 ts_50 tw_15 tw_1358) rfl rfl rfl (by decide +kernel) ⟨Nat.le_of_ble_eq_true rfl, Nat.le_of_ble_eq_true rfl⟩) (tg_preV hw hK hSD hA (ci := 10) (q := (RX10, TX10, 49)) rfl h_p0 rfl) rfl rfl hl.1 rfl (lv_room (Nat.le_of_ble_eq_true rfl)) dX10_readOnce_32 ⟨Nat.le_of_ble_eq_true rfl, Nat.le_of_ble_eq_true rfl⟩) hw hA ⟨by decide, by decide⟩ (fun v_4 ws H locs hp_v_4 hw hF9 => ?_)
    have m_u_1 := FLD.over hF9 m_u_1 (by decide)
    have x_RH_p0 := AX.over hF9 x_RH_p0 (by decide)
    have r_v_4 : RI v_4 0 1 := hp_v_4.1
    by_cases c9_v_4 : v_4 = 0
    · have r_v_4 : RI v_4 0 0 := by rw [c9_v_4]; exact rl_0
      refine tk_ir (va_runV (As := [.int p2, .int v_4]) (rest := []) ⟨hx, hb, hml, hown, hts⟩ (c_X10_put__2 l D cy z H.size Ps ws hw.1 p0 p2 v_4 (fun f => RH2p f ∧ True) (fun f => True) h_p0 r_p2 r_v_4 (AX.and hw x_RH_p0 (rx_true hw h_p0)) (fun _ _ _ _ => trivial)) (cwV 2 hts (gV tw_1362 tw_1364 ts_51 tw_15 tw_1365) rfl rfl rfl (by decide +kernel) ⟨Nat.le_of_ble_eq_true rfl, Nat.le_of_ble_eq_true rfl⟩) (tg_preV hw hK hSD hA (ci := 10) (q := (RX10, TX10, 49)) rfl h_p0 rfl) rfl rfl hl.1 rfl (lv_room (Nat.le_of_ble_eq_true rfl)) dX10_readOnce_35 ⟨Nat.le_of_ble_eq_true rfl, Nat.le_of_ble_eq_true rfl⟩) hw hA (fun v_5  H locs hp_v_5 hw => ?_)
      have r_v_5 : RI v_5 0 0 := hp_v_5.1
      by_cases c9_v_5 : v_5 = 0
      · have r_v_5 : RI v_5 0 0 := by rw [c9_v_5]; exact rl_0
        have x_RH_p0 : AX 15 35 (fun f => RH2p f) Ps ws p0 := AX.imp ((hp_v_5.2.1 c9_v_5).1) (fun _ h9 => h9.1)
        subst hQ
        exact W.zret (v := v_5) hx hb hr (tq_nz (r_v_5.to (by decide))) (fun t ht hW => ⟨⟨v_5, ws, rfl, ⟨⟨r_v_5.to (by decide), (fun h0 => trivial), (fun h0 => absurd (Int32.toInt_inj.mp (by have h8 := r_v_5; unfold RI at h8; rw [Int32.toInt_zero]; omega)) h0)⟩, hw.1, hw.2.2.2.2.1⟩, by rw [ht]; exact hw.2.1, va_K.moved hW.alike hK, hw.2.2.1⟩, hw.2.2.2.1.F ht⟩) hw.2.2.2.1.2.2 dX10_readOnce_38
      · exact absurd (Int32.toInt_inj.mp (by rw [Int32.toInt_zero]; unfold RI at r_v_5; omega)) c9_v_5
    · have r_v_4 : RI v_4 1 1 := rc_neL r_v_4 rl_0 (ti_ne c9_v_4) (by decide)
      obtain ⟨v_6, m_v_6, r_v_6⟩ := ((hp_v_4.2.2 c9_v_4).1)
      have x_TOK_p0_gh := ((hp_v_4.2.2 c9_v_4).2.1)
      refine tk_i (va_runV (As := [.int p2, .int v_4]) (rest := []) ⟨hx, hb, hml, hown, hts⟩ (c_X10_put__3 l D cy z H.size Ps ws hw.1 p0 p2 v_4 v_6 (fun f => RH2p f ∧ True) (fun f => RH2p f ∧ True) h_p0 r_p2 r_v_4 r_v_6 m_v_6 (AX.and hw x_RH_p0 (rx_true hw h_p0)) (fun f9 v9 hv9 H9 => ⟨(have h9 := H9.1; RH_put h9 (Int.le_trans (by decide) hv9.1) (by have k4 := r_p2.cl (by decide); have k5 := r_p2; unfold RI at k5; omega)), trivial⟩)) (cwV 2 hts (gV tw_1362 tw_1364 ts_51 tw_15 tw_1365) rfl rfl rfl (by decide +kernel) ⟨Nat.le_of_ble_eq_true rfl, Nat.le_of_ble_eq_true rfl⟩) (tg_preV hw hK hSD hA (ci := 10) (q := (RX10, TX10, 49)) rfl h_p0 rfl) rfl rfl hl.1 rfl (lv_room (Nat.le_of_ble_eq_true rfl)) dX10_readOnce_35 ⟨Nat.le_of_ble_eq_true rfl, Nat.le_of_ble_eq_true rfl⟩) hw hA ⟨by decide, by decide⟩ (fun v_7 ws H locs hp_v_7 hw hF9 => ?_)
      have m_u_1 := FLD.over hF9 m_u_1 (by decide)
      have m_v_6 := FLD.over hF9 m_v_6 (by decide)
      have x_TOK_p0_gh := TKP.over hF9 x_TOK_p0_gh (by decide)
      have r_v_7 : RI v_7 1 1 := hp_v_7.1
      by_cases c9_v_7 : v_7 = 0
      · exact absurd (ti_eq c9_v_7) (by unfold RI at r_v_7; rw [Int32.toInt_zero]; omega)
      · obtain ⟨v_8, m_v_8, r_v_8⟩ := ((hp_v_7.2.2 c9_v_7).1)
        have x_RH_p0 : AX 15 35 (fun f => RH2p f) Ps ws p0 := AX.imp ((hp_v_7.2.2 c9_v_7).2.1) (fun _ h9 => h9.1)
        subst hQ
        exact W.zret (v := v_7) hx hb hr (tq_nz (r_v_7.to (by decide))) (fun t ht hW => ⟨⟨v_7, ws, rfl, ⟨⟨r_v_7.to (by decide), (fun _ => trivial), (fun h0 => ⟨⟨_, m_v_8, r_v_8⟩, x_TOK_p0_gh, x_RH_p0, trivial⟩)⟩, hw.1, hw.2.2.2.2.1⟩, by rw [ht]; exact hw.2.1, va_K.moved hW.alike hK, hw.2.2.1⟩, hw.2.2.2.1.F ht⟩) hw.2.2.2.1.2.2 dX10_readOnce_38
  · refine lv_aload_n hx hb dX10_readOnce_9 rfl (lv_at hl 0 rfl) ?_
    refine lv_iconst (v := 3) hx hb dX10_readOnce_10 (by decide) ?_
    refine tk_i (va_runV (As := [.int 3]) (rest := []) ⟨hx, hb, hml, hown, hts⟩ (c_X10_bad l D cy z s.heap.size Ps w0 hw.1 p0 3 h_p0 (rl_3.to (by decide))) (cwV 1 hts (gV tw_1336 tw_1338 ts_46 tw_15 tw_1339) rfl rfl rfl (by decide +kernel) ⟨Nat.le_of_ble_eq_true rfl, Nat.le_of_ble_eq_true rfl⟩) (tg_preV hw hK hSD hA (ci := 10) (q := (RX10, TX10, 49)) rfl h_p0 rfl) rfl rfl hl.1 rfl (lv_room (Nat.le_of_ble_eq_true rfl)) dX10_readOnce_11 ⟨Nat.le_of_ble_eq_true rfl, Nat.le_of_ble_eq_true rfl⟩) hw hA ⟨by decide, by decide⟩ (fun v_9 ws H locs hp_v_9 hw hF9 => ?_)
    have m_u_1 := FLD.over hF9 m_u_1 (by decide)
    have x_TO_p0_gh := TOP.over hF9 x_TO_p0_gh (by decide)
    have x_RH_p0 := AX.over hF9 x_RH_p0 (by decide)
    have r_v_9 : RI v_9 0 0 := hp_v_9.1
    subst hQ
    exact W.zret (v := v_9) hx hb hr (tq_nz (r_v_9.to (by decide))) (fun t ht hW => ⟨⟨v_9, ws, rfl, ⟨⟨r_v_9.to (by decide), (fun h0 => trivial), (fun h0 => absurd (Int32.toInt_inj.mp (by have h8 := r_v_9; unfold RI at h8; rw [Int32.toInt_zero]; omega)) h0)⟩, hw.1, hw.2.2.2.2.1⟩, by rw [ht]; exact hw.2.1, va_K.moved hW.alike hK, hw.2.2.1⟩, hw.2.2.2.1.F ht⟩) hw.2.2.2.1.2.2 dX10_readOnce_14
abbrev wr_X10_isIn__9 : List (Nat × Nat) := []
abbrev wa_X10_isIn__9 : List Nat := []
set_option maxHeartbeats 4000000 in
set_option maxRecDepth 100000 in
theorem c_X10_isIn__9 (l : Launch) (D : va_G) (cy : Nat → ClassId) (z : Nat → Nat) (sz : Nat) (Ps : PSI) (w0 : va_W) (hT : HT cy GG Ps w0) (p0 : Int32) (p1 : Int32) (p2 : Int32) (r_p0 : RI p0 (-2147483648) 2147483647) (r_p1 : RI p1 0 0) (r_p2 : RI p2 5 5) : Met l yX10_isIn (Cond.code yX10_isIn cX10_isIn 3 (some .boolean) :: gT) ({ frames := 0, cells := 0, slots := 0, locals := 200 } : Room) (va_Pc [.int p0, .int p1, .int p2] (PRE D cy z w0 sz)) (va_Qi (fun (r : Int32) (u : Unit) => RI r 0 1 ∧ (r = 0 → True) ∧ (¬ r = 0 → RI p0 0 5 ∧ True)) (BB D cy (va_A w0 sz) (fun (u : Unit) => w0)) (va_A w0 sz)) 0 0 (va_A w0 sz) := by
  refine Met.ofW (cc := cX10_isIn) (maxL := 3) (ret := (some .boolean)) (by decide) rfl ?_
  intro p e s m args below meth c s₁ B hml hv
  obtain ⟨rfl, hsz, hP, hK, hD0, hSD⟩ := hv
  have hx := B.exec
  have hb := B.bytes
  have hr := B.returns
  have hlocks := B.notSynchronized
  have hts : ∀ w ∈ gT, w.before _ s = true := fun w h => atoms_spec (ws := Cond.code yX10_isIn cX10_isIn 3 (some .boolean) :: gT) B.pre w (List.mem_cons_of_mem _ h)
  have hown : s.vm.findClass RX10 = some m.cls := findClass_of_methodNamed B.named
  subst hsz
  have hD := hD0.self (sz := s.heap.size)
  generalize hAe : va_A w0 s.heap.size = A at hD hSD ⊢
  have hA : ∀ q : Nat, s.heap.size ≤ q → A q := fun q h => by rw [← hAe]; exact Or.inr h
  have hl := lv_entry ([.int p0, .int p1, .int p2]) (n := 3) (Nat.le_of_ble_eq_true rfl)
  rw [lg_entry_eq]
  generalize (lg_sl ([.int p0, .int p1, .int p2]) ++ List.replicate (3 - (lg_sl ([.int p0, .int p1, .int p2])).length) Slot.unset).toArray = ls at hl ⊢
  have hl : lv_has ls 3 [(0, .int p0), (1, .int p1), (2, .int p2)] := hl
  refine nameQ (fun Q hQ => ?_)
  have hw : WD D cy GG A s wr_X10_isIn__9 wa_X10_isIn__9 Ps w0 Ps w0 s.heap [] := ⟨hT, hP, hD, va_S.rf, FR.rf, hT.1, [], (List.append_nil _).symm⟩
  refine lv_iload_n hx hb dX10_isIn_0 rfl (lv_at hl 0 rfl) ?_
  refine lv_iload_n hx hb dX10_isIn_1 rfl (lv_at hl 1 rfl) ?_
  refine lv_icmp_lt (tgt := 14) hx hb dX10_isIn_2 (by decide) (fun c_2 => ?_) (fun c_2 => ?_)
  · have r_p0 : RI p0 (-2147483648) (-1) := rc_lt1 r_p0 r_p1 (ti_lt c_2) (by decide)
    refine lv_iconst (v := 0) hx hb dX10_isIn_14 (by decide) ?_
    subst hQ
    exact W.zret (v := 0) hx hb hr (rfl) (fun t ht hW => ⟨⟨0, (), rfl, ⟨rl_0.to (by decide), (fun h0 => trivial), (fun h0 => absurd rfl h0)⟩, by rw [ht]; exact hw.2.1, va_K.moved hW.alike hK, hw.2.2.1⟩, hw.2.2.2.1.F ht⟩) hw.2.2.2.1.2.2 dX10_isIn_15
  · have r_p0 : RI p0 0 2147483647 := rc_le2 r_p1 r_p0 (ti_nlt c_2) (by decide)
    refine lv_iload_n hx hb dX10_isIn_5 rfl (lv_at hl 0 rfl) ?_
    refine lv_iload_n hx hb dX10_isIn_6 rfl (lv_at hl 2 rfl) ?_
    refine lv_icmp_gt (tgt := 14) hx hb dX10_isIn_7 (by decide) (fun c_7 => ?_) (fun c_7 => ?_)
    · have r_p0 : RI p0 6 2147483647 := rc_lt2 r_p2 r_p0 (ti_lt c_7) (by decide)
      refine lv_iconst (v := 0) hx hb dX10_isIn_14 (by decide) ?_
      subst hQ
      exact W.zret (v := 0) hx hb hr (rfl) (fun t ht hW => ⟨⟨0, (), rfl, ⟨rl_0.to (by decide), (fun h0 => trivial), (fun h0 => absurd rfl h0)⟩, by rw [ht]; exact hw.2.1, va_K.moved hW.alike hK, hw.2.2.1⟩, hw.2.2.2.1.F ht⟩) hw.2.2.2.1.2.2 dX10_isIn_15
    · have r_p0 : RI p0 0 5 := rc_le1 r_p0 r_p2 (ti_nlt c_7) (by decide)
      refine lv_iconst (v := 1) hx hb dX10_isIn_10 (by decide) ?_
      refine lv_goto (tgt := 15) hx hb dX10_isIn_11 (by decide) ?_
      subst hQ
      exact W.zret (v := 1) hx hb hr (rfl) (fun t ht hW => ⟨⟨1, (), rfl, ⟨rl_1.to (by decide), (fun _ => trivial), (fun h0 => ⟨r_p0, trivial⟩)⟩, by rw [ht]; exact hw.2.1, va_K.moved hW.alike hK, hw.2.2.1⟩, hw.2.2.2.1.F ht⟩) hw.2.2.2.1.2.2 dX10_isIn_15
abbrev wr_X10_readNumber__2 : List (Nat × Nat) := [(10, 5), (10, 6), (10, 7), (10, 8), (10, 9), (10, 10), (10, 11), (10, 12), (10, 13)]
abbrev wa_X10_readNumber__2 : List Nat := []
set_option maxHeartbeats 4000000 in
set_option maxRecDepth 100000 in
theorem c_X10_readNumber__2 (l : Launch) (D : va_G) (cy : Nat → ClassId) (z : Nat → Nat) (sz : Nat) (Ps : PSI) (w0 : va_W) (hT : HT cy GG Ps w0) (p0 : Nat) (p1 : Int32) (p2 : Int32) (gh : Int) (h_p0 : (p0, 55) ∈ Ps) (r_p1 : RI p1 0 0) (r_p2 : RI p2 5 5) (x_TO_p0_gh : TOP w0 p0 (gh)) : Met l yX10_readNumber (Cond.code yX10_readNumber cX10_readNumber 3 (some .boolean) :: gT) ({ frames := 3, cells := 0, slots := 0, locals := 600 } : Room) (va_Pc [.ref p0, .int p1, .int p2] (PRE D cy z w0 sz)) (va_Qi (fun (r : Int32) (u : va_W) => (RI r 0 1 ∧ (r = 0 → True) ∧ (¬ r = 0 → (∃ v9 : Int32, FLD u p0 10 13 (.int v9) ∧ RI v9 0 5) ∧ TKP u p0 (gh) ∧ True)) ∧ HT cy GG Ps u ∧ FR wr_X10_readNumber__2 wa_X10_readNumber__2 Ps w0 u) (BB D cy (va_A w0 sz) (fun (u : va_W) => u)) (va_A w0 sz)) 0 0 (va_A w0 sz) := by
  refine Met.ofW (cc := cX10_readNumber) (maxL := 3) (ret := (some .boolean)) (by decide) rfl ?_
  intro p e s m args below meth c s₁ B hml hv
  obtain ⟨rfl, hsz, hP, hK, hD0, hSD⟩ := hv
  have hx := B.exec
  have hb := B.bytes
  have hr := B.returns
  have hlocks := B.notSynchronized
  have hts : ∀ w ∈ gT, w.before _ s = true := fun w h => atoms_spec (ws := Cond.code yX10_readNumber cX10_readNumber 3 (some .boolean) :: gT) B.pre w (List.mem_cons_of_mem _ h)
  have hown : s.vm.findClass RX10 = some m.cls := findClass_of_methodNamed B.named
  subst hsz
  have hD := hD0.self (sz := s.heap.size)
  generalize hAe : va_A w0 s.heap.size = A at hD hSD ⊢
  have hA : ∀ q : Nat, s.heap.size ≤ q → A q := fun q h => by rw [← hAe]; exact Or.inr h
  have hl := lv_entry ([.ref p0, .int p1, .int p2]) (n := 3) (Nat.le_of_ble_eq_true rfl)
  rw [lg_entry_eq]
  generalize (lg_sl ([.ref p0, .int p1, .int p2]) ++ List.replicate (3 - (lg_sl ([.ref p0, .int p1, .int p2])).length) Slot.unset).toArray = ls at hl ⊢
  have hl : lv_has ls 3 [(0, .ref p0), (1, .int p1), (2, .int p2)] := hl
  refine nameQ (fun Q hQ => ?_)
  have hw : WD D cy GG A s wr_X10_readNumber__2 wa_X10_readNumber__2 Ps w0 Ps w0 s.heap [] := ⟨hT, hP, hD, va_S.rf, FR.rf, hT.1, [], (List.append_nil _).symm⟩
  refine lv_aload_n hx hb dX10_readNumber_0 rfl (lv_at hl 0 rfl) ?_
  refine tg_get (ci := 10) (ts := ty_MODEL) (C := RX10) (T := TX10) (N := 49) hx hb hts inX10 hown hK hw h_p0 rfl rfl 7 (by decide) (hts _ tw_1144) (fun _ h9 => h9) (ft := vI (-2147483648) 2147483647) rfl dX10_readNumber_1 (fun u_1 hv_u_1 m_u_1 => ?_)
  obtain ⟨vu_1, rfl, r_vu_1⟩ := hv_u_1
  refine lv_iconst (v := 3) hx hb dX10_readNumber_4 (by decide) ?_
  refine lv_icmp_eq (tgt := 14) hx hb dX10_readNumber_5 (by decide) (fun c_5 => ?_) (fun c_5 => ?_)
  · have r_vu_1 : RI vu_1 3 3 := rc_eq1 r_vu_1 rl_3 (ti_eq c_5) (by decide)
    refine lv_aload_n hx hb dX10_readNumber_14 rfl (lv_at hl 0 rfl) ?_
    refine tg_get (ci := 10) (ts := ty_MODEL) (C := RX10) (T := TX10) (N := 49) hx hb hts inX10 hown hK hw h_p0 rfl rfl 8 (by decide) (hts _ tw_1145) (fun _ h9 => h9) (ft := vI (-2147483648) 2147483647) rfl dX10_readNumber_15 (fun u_2 hv_u_2 m_u_2 => ?_)
    obtain ⟨vu_2, rfl, r_vu_2⟩ := hv_u_2
    refine lv_iload_n hx hb dX10_readNumber_18 rfl (lv_at hl 1 rfl) ?_
    refine lv_iload_n hx hb dX10_readNumber_19 rfl (lv_at hl 2 rfl) ?_
    refine tk_ir (va_runS (As := [.int vu_2, .int p1, .int p2]) (rest := []) ⟨hx, hb, hml, hown, hts⟩ (c_X10_isIn__9 l D cy z s.heap.size Ps w0 hw.1 vu_2 p1 p2 r_vu_2 r_p1 r_p2) (va_cwS 3 hts (gS tw_1359 tw_1360 tw_15 tw_1361) rfl rfl rfl (by decide +kernel) ⟨Nat.le_of_ble_eq_true rfl, Nat.le_of_ble_eq_true rfl⟩) (tg_preS hw hK hSD hA) rfl rfl hl.1 rfl (lv_room (Nat.le_of_ble_eq_true rfl)) dX10_readNumber_20 ⟨Nat.le_of_ble_eq_true rfl, Nat.le_of_ble_eq_true rfl⟩) hw hA (fun v_3  H locs hp_v_3 hw => ?_)
    have r_v_3 : RI v_3 0 1 := hp_v_3.1
    refine lv_if_ne (tgt := 32) hx hb dX10_readNumber_23 (by decide) (fun c_23 => ?_) (fun c_23 => ?_)
    · have r_v_3 : RI v_3 1 1 := rc_neL r_v_3 rl_0 (ti_ne c_23) (by decide)
      have r_vu_2 : RI vu_2 0 5 := ((hp_v_3.2.2 c_23).1)
      refine lv_aload_n hx hb dX10_readNumber_32 rfl (lv_at hl 0 rfl) ?_
      refine lv_aload_n hx hb dX10_readNumber_33 rfl (lv_at hl 0 rfl) ?_
      refine tg_mem (ci := 10) (C := RX10) (T := TX10) (N := 49) hx hb hts inX10 hown hK hw 8 m_u_2 rfl (by decide) (hts _ tw_1145) (fun _ h9 => h9) dX10_readNumber_34 ?_
      refine tg_put (ci := 10) (ts := ty_MODEL) (v := .int vu_2) (ty := .int) (C := RX10) (T := TX10) (N := 49) hx hb hts inX10 tyX10 tyX10_ok nmX10 hown hK hw h_p0 rfl rfl 13 (by decide) (hts _ tw_1150) (fun _ h9 => h9) rfl (by decide +kernel) rfl rfl (ft := vI (-2147483648) 2147483647) rfl ⟨_, rfl, (r_vu_2.to (by decide))⟩ (by decide) dX10_readNumber_37 (fun ws H locs hw n_k_4 hF9 => ?_)
      have m_u_1 := FLD.over hF9 m_u_1 (by decide)
      have m_u_2 := FLD.over hF9 m_u_2 (by decide)
      have x_TO_p0_gh := TOP.over hF9 x_TO_p0_gh (by decide)
      refine lv_aload_n hx hb dX10_readNumber_40 rfl (lv_at hl 0 rfl) ?_
      refine tk_v (va_runV (As := []) (rest := []) ⟨hx, hb, hml, hown, hts⟩ (c_X10_go__1 l D cy z H.size Ps ws hw.1 p0 (gh) h_p0 x_TO_p0_gh) (cwV 0 hts (gV tw_1298 tw_1300 ts_40 tw_15 tw_1301) rfl rfl rfl (by decide +kernel) ⟨Nat.le_of_ble_eq_true rfl, Nat.le_of_ble_eq_true rfl⟩) (tg_preV hw hK hSD hA (ci := 10) (q := (RX10, TX10, 49)) rfl h_p0 rfl) rfl rfl hl.1 rfl (lv_room (Nat.le_of_ble_eq_true rfl)) dX10_readNumber_41 ⟨Nat.le_of_ble_eq_true rfl, Nat.le_of_ble_eq_true rfl⟩) hw hA ⟨by decide, by decide⟩ (fun ws H locs hp_v_5 hw hF9 => ?_)
      have n_k_4 := FLD.over hF9 n_k_4 (by decide)
      have x_TOK_p0_gh := (hp_v_5.1)
      refine lv_iconst (v := 1) hx hb dX10_readNumber_44 (by decide) ?_
      subst hQ
      exact W.zret (v := 1) hx hb hr (rfl) (fun t ht hW => ⟨⟨1, ws, rfl, ⟨⟨rl_1.to (by decide), (fun _ => trivial), (fun h0 => ⟨⟨_, n_k_4, r_vu_2⟩, x_TOK_p0_gh, trivial⟩)⟩, hw.1, hw.2.2.2.2.1⟩, by rw [ht]; exact hw.2.1, va_K.moved hW.alike hK, hw.2.2.1⟩, hw.2.2.2.1.F ht⟩) hw.2.2.2.1.2.2 dX10_readNumber_45
    · have r_v_3 : RI v_3 0 0 := rc_eq1 r_v_3 rl_0 (ti_eq c_23) (by decide)
      refine lv_aload_n hx hb dX10_readNumber_26 rfl (lv_at hl 0 rfl) ?_
      refine lv_iconst (v := 2) hx hb dX10_readNumber_27 (by decide) ?_
      refine tk_i (va_runV (As := [.int 2]) (rest := []) ⟨hx, hb, hml, hown, hts⟩ (c_X10_bad l D cy z H.size Ps w0 hw.1 p0 2 h_p0 (rl_2.to (by decide))) (cwV 1 hts (gV tw_1336 tw_1338 ts_46 tw_15 tw_1339) rfl rfl rfl (by decide +kernel) ⟨Nat.le_of_ble_eq_true rfl, Nat.le_of_ble_eq_true rfl⟩) (tg_preV hw hK hSD hA (ci := 10) (q := (RX10, TX10, 49)) rfl h_p0 rfl) rfl rfl hl.1 rfl (lv_room (Nat.le_of_ble_eq_true rfl)) dX10_readNumber_28 ⟨Nat.le_of_ble_eq_true rfl, Nat.le_of_ble_eq_true rfl⟩) hw hA ⟨by decide, by decide⟩ (fun v_6 ws H locs hp_v_6 hw hF9 => ?_)
      have m_u_1 := FLD.over hF9 m_u_1 (by decide)
      have m_u_2 := FLD.over hF9 m_u_2 (by decide)
      have x_TO_p0_gh := TOP.over hF9 x_TO_p0_gh (by decide)
      have r_v_6 : RI v_6 0 0 := hp_v_6.1
      subst hQ
      exact W.zret (v := v_6) hx hb hr (tq_nz (r_v_6.to (by decide))) (fun t ht hW => ⟨⟨v_6, ws, rfl, ⟨⟨r_v_6.to (by decide), (fun h0 => trivial), (fun h0 => absurd (Int32.toInt_inj.mp (by have h8 := r_v_6; unfold RI at h8; rw [Int32.toInt_zero]; omega)) h0)⟩, hw.1, hw.2.2.2.2.1⟩, by rw [ht]; exact hw.2.1, va_K.moved hW.alike hK, hw.2.2.1⟩, hw.2.2.2.1.F ht⟩) hw.2.2.2.1.2.2 dX10_readNumber_31
  · refine lv_aload_n hx hb dX10_readNumber_8 rfl (lv_at hl 0 rfl) ?_
    refine lv_iconst (v := 1) hx hb dX10_readNumber_9 (by decide) ?_
    refine tk_i (va_runV (As := [.int 1]) (rest := []) ⟨hx, hb, hml, hown, hts⟩ (c_X10_bad l D cy z s.heap.size Ps w0 hw.1 p0 1 h_p0 (rl_1.to (by decide))) (cwV 1 hts (gV tw_1336 tw_1338 ts_46 tw_15 tw_1339) rfl rfl rfl (by decide +kernel) ⟨Nat.le_of_ble_eq_true rfl, Nat.le_of_ble_eq_true rfl⟩) (tg_preV hw hK hSD hA (ci := 10) (q := (RX10, TX10, 49)) rfl h_p0 rfl) rfl rfl hl.1 rfl (lv_room (Nat.le_of_ble_eq_true rfl)) dX10_readNumber_10 ⟨Nat.le_of_ble_eq_true rfl, Nat.le_of_ble_eq_true rfl⟩) hw hA ⟨by decide, by decide⟩ (fun v_7 ws H locs hp_v_7 hw hF9 => ?_)
    have m_u_1 := FLD.over hF9 m_u_1 (by decide)
    have x_TO_p0_gh := TOP.over hF9 x_TO_p0_gh (by decide)
    have r_v_7 : RI v_7 0 0 := hp_v_7.1
    subst hQ
    exact W.zret (v := v_7) hx hb hr (tq_nz (r_v_7.to (by decide))) (fun t ht hW => ⟨⟨v_7, ws, rfl, ⟨⟨r_v_7.to (by decide), (fun h0 => trivial), (fun h0 => absurd (Int32.toInt_inj.mp (by have h8 := r_v_7; unfold RI at h8; rw [Int32.toInt_zero]; omega)) h0)⟩, hw.1, hw.2.2.2.2.1⟩, by rw [ht]; exact hw.2.1, va_K.moved hW.alike hK, hw.2.2.1⟩, hw.2.2.2.1.F ht⟩) hw.2.2.2.1.2.2 dX10_readNumber_13
abbrev wr_X10_put__4 : List (Nat × Nat) := []
abbrev wa_X10_put__4 : List Nat := []
set_option maxHeartbeats 4000000 in
set_option maxRecDepth 100000 in
theorem c_X10_put__4 (l : Launch) (D : va_G) (cy : Nat → ClassId) (z : Nat → Nat) (sz : Nat) (Ps : PSI) (w0 : va_W) (hT : HT cy GG Ps w0) (p0 : Nat) (p1 : Int32) (p2 : Int32) (F : (Nat → Int32) → Prop) (F2 : (Nat → Int32) → Prop) (h_p0 : (p0, 55) ∈ Ps) (r_p1 : RI p1 4 4) (r_p2 : RI p2 0 0) (x_F : AX 15 35 F Ps w0 p0) (hF : ∀ (f : Nat → Int32) (v : Int32), RI v (-2147483648) 2147483647 → F f → F2 (upd f (Int32.toNatClampNeg p1) v)) : Met l yX10_put (Cond.code yX10_put cX10_put 3 (some .boolean) :: gT) ({ frames := 0, cells := 0, slots := 0, locals := 200 } : Room) (va_Pc [.ref p0, .int p1, .int p2] (PRE D cy z w0 sz)) (va_Qi (fun (r : Int32) (u : Unit) => RI r 0 0 ∧ (r = 0 → AX 15 35 F Ps w0 p0 ∧ True) ∧ (¬ r = 0 → AX 15 35 F2 Ps w0 p0 ∧ True)) (BB D cy (va_A w0 sz) (fun (u : Unit) => w0)) (va_A w0 sz)) 0 0 (va_A w0 sz) := by
  refine Met.ofW (cc := cX10_put) (maxL := 3) (ret := (some .boolean)) (by decide) rfl ?_
  intro p e s m args below meth c s₁ B hml hv
  obtain ⟨rfl, hsz, hP, hK, hD0, hSD⟩ := hv
  have hx := B.exec
  have hb := B.bytes
  have hr := B.returns
  have hlocks := B.notSynchronized
  have hts : ∀ w ∈ gT, w.before _ s = true := fun w h => atoms_spec (ws := Cond.code yX10_put cX10_put 3 (some .boolean) :: gT) B.pre w (List.mem_cons_of_mem _ h)
  have hown : s.vm.findClass RX10 = some m.cls := findClass_of_methodNamed B.named
  subst hsz
  have hD := hD0.self (sz := s.heap.size)
  generalize hAe : va_A w0 s.heap.size = A at hD hSD ⊢
  have hA : ∀ q : Nat, s.heap.size ≤ q → A q := fun q h => by rw [← hAe]; exact Or.inr h
  have hl := lv_entry ([.ref p0, .int p1, .int p2]) (n := 3) (Nat.le_of_ble_eq_true rfl)
  rw [lg_entry_eq]
  generalize (lg_sl ([.ref p0, .int p1, .int p2]) ++ List.replicate (3 - (lg_sl ([.ref p0, .int p1, .int p2])).length) Slot.unset).toArray = ls at hl ⊢
  have hl : lv_has ls 3 [(0, .ref p0), (1, .int p1), (2, .int p2)] := hl
  refine nameQ (fun Q hQ => ?_)
  have hw : WD D cy GG A s wr_X10_put__4 wa_X10_put__4 Ps w0 Ps w0 s.heap [] := ⟨hT, hP, hD, va_S.rf, FR.rf, hT.1, [], (List.append_nil _).symm⟩
  refine lv_iload_n hx hb dX10_put_0 rfl (lv_at hl 2 rfl) ?_
  refine lv_if_eq (tgt := 14) hx hb dX10_put_1 (by decide) (fun c_1 => ?_) (fun c_1 => ?_)
  · refine lv_iload_n hx hb dX10_put_14 rfl (lv_at hl 2 rfl) ?_
    subst hQ
    exact W.zret (v := p2) hx hb hr (tq_nz (r_p2.to (by decide))) (fun t ht hW => ⟨⟨p2, (), rfl, ⟨r_p2.to (by decide), (fun h0 => ⟨x_F, trivial⟩), (fun h0 => absurd (Int32.toInt_inj.mp (by have h8 := r_p2; unfold RI at h8; rw [Int32.toInt_zero]; omega)) h0)⟩, by rw [ht]; exact hw.2.1, va_K.moved hW.alike hK, hw.2.2.1⟩, hw.2.2.2.1.F ht⟩) hw.2.2.2.1.2.2 dX10_put_15
  · exact absurd (r_p2.eq.trans rl_0.eq.symm) ((ti_ne c_1))
abbrev wr_X10_put__5 : List (Nat × Nat) := []
abbrev wa_X10_put__5 : List Nat := [35]
set_option maxHeartbeats 4000000 in
set_option maxRecDepth 100000 in
theorem c_X10_put__5 (l : Launch) (D : va_G) (cy : Nat → ClassId) (z : Nat → Nat) (sz : Nat) (Ps : PSI) (w0 : va_W) (hT : HT cy GG Ps w0) (p0 : Nat) (p1 : Int32) (p2 : Int32) (f0_13 : Int32) (F : (Nat → Int32) → Prop) (F2 : (Nat → Int32) → Prop) (h_p0 : (p0, 55) ∈ Ps) (r_p1 : RI p1 4 4) (r_p2 : RI p2 1 1) (r_f0_13 : RI f0_13 0 5) (m_f0_13 : FLD w0 p0 10 13 (.int f0_13)) (x_F : AX 15 35 F Ps w0 p0) (hF : ∀ (f : Nat → Int32) (v : Int32), RI v 0 5 → F f → F2 (upd f (Int32.toNatClampNeg p1) v)) : Met l yX10_put (Cond.code yX10_put cX10_put 3 (some .boolean) :: gT) ({ frames := 0, cells := 0, slots := 0, locals := 200 } : Room) (va_Pc [.ref p0, .int p1, .int p2] (PRE D cy z w0 sz)) (va_Qi (fun (r : Int32) (u : va_W) => (RI r 1 1 ∧ (r = 0 → AX 15 35 F Ps u p0 ∧ True) ∧ (¬ r = 0 → (∃ v9 : Int32, FLD u p0 10 13 (.int v9) ∧ RI v9 0 5) ∧ AX 15 35 F2 Ps u p0 ∧ True)) ∧ HT cy GG Ps u ∧ FR wr_X10_put__5 wa_X10_put__5 Ps w0 u) (BB D cy (va_A w0 sz) (fun (u : va_W) => u)) (va_A w0 sz)) 0 0 (va_A w0 sz) := by
  refine Met.ofW (cc := cX10_put) (maxL := 3) (ret := (some .boolean)) (by decide) rfl ?_
  intro p e s m args below meth c s₁ B hml hv
  obtain ⟨rfl, hsz, hP, hK, hD0, hSD⟩ := hv
  have hx := B.exec
  have hb := B.bytes
  have hr := B.returns
  have hlocks := B.notSynchronized
  have hts : ∀ w ∈ gT, w.before _ s = true := fun w h => atoms_spec (ws := Cond.code yX10_put cX10_put 3 (some .boolean) :: gT) B.pre w (List.mem_cons_of_mem _ h)
  have hown : s.vm.findClass RX10 = some m.cls := findClass_of_methodNamed B.named
  subst hsz
  have hD := hD0.self (sz := s.heap.size)
  generalize hAe : va_A w0 s.heap.size = A at hD hSD ⊢
  have hA : ∀ q : Nat, s.heap.size ≤ q → A q := fun q h => by rw [← hAe]; exact Or.inr h
  have hl := lv_entry ([.ref p0, .int p1, .int p2]) (n := 3) (Nat.le_of_ble_eq_true rfl)
  rw [lg_entry_eq]
  generalize (lg_sl ([.ref p0, .int p1, .int p2]) ++ List.replicate (3 - (lg_sl ([.ref p0, .int p1, .int p2])).length) Slot.unset).toArray = ls at hl ⊢
  have hl : lv_has ls 3 [(0, .ref p0), (1, .int p1), (2, .int p2)] := hl
  refine nameQ (fun Q hQ => ?_)
  have hw : WD D cy GG A s wr_X10_put__5 wa_X10_put__5 Ps w0 Ps w0 s.heap [] := ⟨hT, hP, hD, va_S.rf, FR.rf, hT.1, [], (List.append_nil _).symm⟩
  refine lv_iload_n hx hb dX10_put_0 rfl (lv_at hl 2 rfl) ?_
  refine lv_if_eq (tgt := 14) hx hb dX10_put_1 (by decide) (fun c_1 => ?_) (fun c_1 => ?_)
  · have r_p2 : RI p2 1 0 := rc_eq1 r_p2 rl_0 (ti_eq c_1) (by decide)
    exact (r_p2.no (by decide)).elim
  · refine lv_aload_n hx hb dX10_put_4 rfl (lv_at hl 0 rfl) ?_
    refine tg_get (ci := 10) (ts := ty_MODEL) (C := RX10) (T := TX10) (N := 49) hx hb hts inX10 hown hK hw h_p0 rfl rfl 15 (by decide) (hts _ tw_1152) (fun _ h9 => h9) (ft := vR 35) rfl dX10_put_5 (fun u_1 hv_u_1 m_u_1 => ?_)
    obtain ⟨vu_1, rfl, h_vu_1⟩ := hv_u_1
    refine lv_iload_n hx hb dX10_put_8 rfl (lv_at hl 1 rfl) ?_
    refine lv_aload_n hx hb dX10_put_9 rfl (lv_at hl 0 rfl) ?_
    refine tg_mem (ci := 10) (C := RX10) (T := TX10) (N := 49) hx hb hts inX10 hown hK hw 13 m_f0_13 rfl (by decide) (hts _ tw_1150) (fun _ h9 => h9) dX10_put_10 ?_
    refine tg_iast hx hb hK hw h_vu_1 rfl 4 4 r_p1 (by decide) r_f0_13 (by decide +kernel) (fun _ _ _ _ _ => trivial) (by decide) dX10_put_13 (fun ws H locs hw hF9 hU9 => ?_)
    have x_GFRB_p0 : AX 15 35 F2 Ps ws p0 := AX.ast hF9 hU9 x_F m_u_1 (fun f9 h9 => hF f9 _ r_f0_13 h9)
    have m_f0_13 := FLD.over hF9 m_f0_13 (by decide)
    refine lv_iload_n hx hb dX10_put_14 rfl (lv_at hl 2 rfl) ?_
    subst hQ
    exact W.zret (v := p2) hx hb hr (tq_nz (r_p2.to (by decide))) (fun t ht hW => ⟨⟨p2, ws, rfl, ⟨⟨r_p2.to (by decide), (fun h0 => absurd (ti_eq h0) (by have h8 := r_p2; unfold RI at h8; rw [Int32.toInt_zero]; omega)), (fun h0 => ⟨⟨_, m_f0_13, r_f0_13⟩, x_GFRB_p0, trivial⟩)⟩, hw.1, hw.2.2.2.2.1⟩, by rw [ht]; exact hw.2.1, va_K.moved hW.alike hK, hw.2.2.1⟩, hw.2.2.2.1.F ht⟩) hw.2.2.2.1.2.2 dX10_put_15
abbrev wr_X10_readOnce__1 : List (Nat × Nat) := [(10, 5), (10, 6), (10, 7), (10, 8), (10, 9), (10, 10), (10, 11), (10, 12), (10, 13)]
abbrev wa_X10_readOnce__1 : List Nat := [35, 45]
set_option maxHeartbeats 4000000 in
set_option maxRecDepth 100000 in
theorem c_X10_readOnce__1 (l : Launch) (D : va_G) (cy : Nat → ClassId) (z : Nat → Nat) (sz : Nat) (Ps : PSI) (w0 : va_W) (hT : HT cy GG Ps w0) (p0 : Nat) (p1 : Int32) (p2 : Int32) (p3 : Int32) (p4 : Int32) (gh : Int) (h_p0 : (p0, 55) ∈ Ps) (r_p1 : RI p1 0 0) (r_p2 : RI p2 4 4) (r_p3 : RI p3 0 0) (r_p4 : RI p4 5 5) (x_TO_p0_gh : TOP w0 p0 (gh)) (x_RH_p0 : AX 15 35 (fun f => RH2p f) Ps w0 p0) : Met l yX10_readOnce (Cond.code yX10_readOnce cX10_readOnce 5 (some .boolean) :: gT) ({ frames := 4, cells := 0, slots := 0, locals := 800 } : Room) (va_Pc [.ref p0, .int p1, .int p2, .int p3, .int p4] (PRE D cy z w0 sz)) (va_Qi (fun (r : Int32) (u : va_W) => (RI r 0 1 ∧ (r = 0 → True) ∧ (¬ r = 0 → (∃ v9 : Int32, FLD u p0 10 13 (.int v9) ∧ RI v9 0 5) ∧ TKP u p0 (gh) ∧ AX 15 35 (fun f => RH2p f) Ps u p0 ∧ True)) ∧ HT cy GG Ps u ∧ FR wr_X10_readOnce__1 wa_X10_readOnce__1 Ps w0 u) (BB D cy (va_A w0 sz) (fun (u : va_W) => u)) (va_A w0 sz)) 0 0 (va_A w0 sz) := by
  refine Met.ofW (cc := cX10_readOnce) (maxL := 5) (ret := (some .boolean)) (by decide) rfl ?_
  intro p e s m args below meth c s₁ B hml hv
  obtain ⟨rfl, hsz, hP, hK, hD0, hSD⟩ := hv
  have hx := B.exec
  have hb := B.bytes
  have hr := B.returns
  have hlocks := B.notSynchronized
  have hts : ∀ w ∈ gT, w.before _ s = true := fun w h => atoms_spec (ws := Cond.code yX10_readOnce cX10_readOnce 5 (some .boolean) :: gT) B.pre w (List.mem_cons_of_mem _ h)
  have hown : s.vm.findClass RX10 = some m.cls := findClass_of_methodNamed B.named
  subst hsz
  have hD := hD0.self (sz := s.heap.size)
  generalize hAe : va_A w0 s.heap.size = A at hD hSD ⊢
  have hA : ∀ q : Nat, s.heap.size ≤ q → A q := fun q h => by rw [← hAe]; exact Or.inr h
  have hl := lv_entry ([.ref p0, .int p1, .int p2, .int p3, .int p4]) (n := 5) (Nat.le_of_ble_eq_true rfl)
  rw [lg_entry_eq]
  generalize (lg_sl ([.ref p0, .int p1, .int p2, .int p3, .int p4]) ++ List.replicate (5 - (lg_sl ([.ref p0, .int p1, .int p2, .int p3, .int p4])).length) Slot.unset).toArray = ls at hl ⊢
  have hl : lv_has ls 5 [(0, .ref p0), (1, .int p1), (2, .int p2), (3, .int p3), (4, .int p4)] := hl
  refine nameQ (fun Q hQ => ?_)
  have hw : WD D cy GG A s wr_X10_readOnce__1 wa_X10_readOnce__1 Ps w0 Ps w0 s.heap [] := ⟨hT, hP, hD, va_S.rf, FR.rf, hT.1, [], (List.append_nil _).symm⟩
  refine lv_aload_n hx hb dX10_readOnce_0 rfl (lv_at hl 0 rfl) ?_
  refine tg_get (ci := 10) (ts := ty_MODEL) (C := RX10) (T := TX10) (N := 49) hx hb hts inX10 hown hK hw h_p0 rfl rfl 24 (by decide) (hts _ tw_1161) (fun _ h9 => h9) (ft := vR 45) rfl dX10_readOnce_1 (fun u_1 hv_u_1 m_u_1 => ?_)
  obtain ⟨vu_1, rfl, h_vu_1⟩ := hv_u_1
  refine lv_iload_n hx hb dX10_readOnce_4 rfl (lv_at hl 1 rfl) ?_
  refine tg_zald (lo := (-2147483648)) (hi := 2147483647) hx hb hK hw h_vu_1 rfl 0 0 r_p1 (by decide) (by exact fun _ _ _ => ⟨Int.le_refl _, Int.le_refl _⟩) dX10_readOnce_5 (fun v_2 r_v_2 => ?_)
  refine lv_if_eq (tgt := 15) hx hb dX10_readOnce_6 (by decide) (fun c_6 => ?_) (fun c_6 => ?_)
  · have r_v_2 : RI v_2 0 0 := rc_eq1 r_v_2 rl_0 (ti_eq c_6) (by decide)
    refine lv_aload_n hx hb dX10_readOnce_15 rfl (lv_at hl 0 rfl) ?_
    refine tg_mem (ci := 10) (C := RX10) (T := TX10) (N := 49) hx hb hts inX10 hown hK hw 24 m_u_1 rfl (by decide) (hts _ tw_1161) (fun _ h9 => h9) dX10_readOnce_16 ?_
    refine lv_iload_n hx hb dX10_readOnce_19 rfl (lv_at hl 1 rfl) ?_
    refine lv_iconst (v := 1) hx hb dX10_readOnce_20 (by decide) ?_
    refine tg_zast hx hb hK hw h_vu_1 rfl 0 0 r_p1 (by decide) (by decide) dX10_readOnce_21 (fun ws H locs hw hF9 => ?_)
    have x_TO_p0_gh := TOP.over hF9 x_TO_p0_gh (by decide)
    have x_RH_p0 := AX.over hF9 x_RH_p0 (by decide)
    have m_u_1 := FLD.over hF9 m_u_1 (by decide)
    refine lv_aload_n hx hb dX10_readOnce_22 rfl (lv_at hl 0 rfl) ?_
    refine tk_v (va_runV (As := []) (rest := []) ⟨hx, hb, hml, hown, hts⟩ (c_X10_go__1 l D cy z H.size Ps ws hw.1 p0 (gh) h_p0 x_TO_p0_gh) (cwV 0 hts (gV tw_1298 tw_1300 ts_40 tw_15 tw_1301) rfl rfl rfl (by decide +kernel) ⟨Nat.le_of_ble_eq_true rfl, Nat.le_of_ble_eq_true rfl⟩) (tg_preV hw hK hSD hA (ci := 10) (q := (RX10, TX10, 49)) rfl h_p0 rfl) rfl rfl hl.1 rfl (lv_room (Nat.le_of_ble_eq_true rfl)) dX10_readOnce_23 ⟨Nat.le_of_ble_eq_true rfl, Nat.le_of_ble_eq_true rfl⟩) hw hA ⟨by decide, by decide⟩ (fun ws H locs hp_v_3 hw hF9 => ?_)
    have m_u_1 := FLD.over hF9 m_u_1 (by decide)
    have x_RH_p0 := AX.over hF9 x_RH_p0 (by decide)
    have x_TOK_p0_gh := (hp_v_3.1)
    refine lv_aload_n hx hb dX10_readOnce_26 rfl (lv_at hl 0 rfl) ?_
    refine lv_iload_n hx hb dX10_readOnce_27 rfl (lv_at hl 2 rfl) ?_
    refine lv_aload_n hx hb dX10_readOnce_28 rfl (lv_at hl 0 rfl) ?_
    refine lv_iload_n hx hb dX10_readOnce_29 rfl (lv_at hl 3 rfl) ?_
    refine lv_iload hx hb dX10_readOnce_30 (lv_at hl 4 rfl) ?_
    have x_TO_p0_gh : TOP ws p0 (gh) := TKP.top x_TOK_p0_gh
    refine tk_i (va_runV (As := [.int p3, .int p4]) (rest := [.int p2, .ref p0]) ⟨hx, hb, hml, hown, hts⟩ (c_X10_readNumber__2 l D cy z H.size Ps ws hw.1 p0 p3 p4 (gh) h_p0 r_p3 r_p4 x_TO_p0_gh) (cwV 2 hts (gV tw_1355 tw_1357 ts_50 tw_15 tw_1358) rfl rfl rfl (by decide +kernel) ⟨Nat.le_of_ble_eq_true rfl, Nat.le_of_ble_eq_true rfl⟩) (tg_preV hw hK hSD hA (ci := 10) (q := (RX10, TX10, 49)) rfl h_p0 rfl) rfl rfl hl.1 rfl (lv_room (Nat.le_of_ble_eq_true rfl)) dX10_readOnce_32 ⟨Nat.le_of_ble_eq_true rfl, Nat.le_of_ble_eq_true rfl⟩) hw hA ⟨by decide, by decide⟩ (fun v_4 ws H locs hp_v_4 hw hF9 => ?_)
    have m_u_1 := FLD.over hF9 m_u_1 (by decide)
    have x_RH_p0 := AX.over hF9 x_RH_p0 (by decide)
    have r_v_4 : RI v_4 0 1 := hp_v_4.1
    by_cases c9_v_4 : v_4 = 0
    · have r_v_4 : RI v_4 0 0 := by rw [c9_v_4]; exact rl_0
      refine tk_ir (va_runV (As := [.int p2, .int v_4]) (rest := []) ⟨hx, hb, hml, hown, hts⟩ (c_X10_put__4 l D cy z H.size Ps ws hw.1 p0 p2 v_4 (fun f => RH2p f ∧ True) (fun f => RH2p f ∧ True) h_p0 r_p2 r_v_4 (AX.and hw x_RH_p0 (rx_true hw h_p0)) (fun f9 v9 hv9 H9 => ⟨(have h9 := H9.1; RH_keep h9 (by have k4 := r_p2.cl (by decide); have k5 := r_p2; unfold RI at k5; omega)), trivial⟩)) (cwV 2 hts (gV tw_1362 tw_1364 ts_51 tw_15 tw_1365) rfl rfl rfl (by decide +kernel) ⟨Nat.le_of_ble_eq_true rfl, Nat.le_of_ble_eq_true rfl⟩) (tg_preV hw hK hSD hA (ci := 10) (q := (RX10, TX10, 49)) rfl h_p0 rfl) rfl rfl hl.1 rfl (lv_room (Nat.le_of_ble_eq_true rfl)) dX10_readOnce_35 ⟨Nat.le_of_ble_eq_true rfl, Nat.le_of_ble_eq_true rfl⟩) hw hA (fun v_5  H locs hp_v_5 hw => ?_)
      have r_v_5 : RI v_5 0 0 := hp_v_5.1
      by_cases c9_v_5 : v_5 = 0
      · have r_v_5 : RI v_5 0 0 := by rw [c9_v_5]; exact rl_0
        have x_RH_p0 : AX 15 35 (fun f => RH2p f) Ps ws p0 := AX.imp ((hp_v_5.2.1 c9_v_5).1) (fun _ h9 => h9.1)
        subst hQ
        exact W.zret (v := v_5) hx hb hr (tq_nz (r_v_5.to (by decide))) (fun t ht hW => ⟨⟨v_5, ws, rfl, ⟨⟨r_v_5.to (by decide), (fun h0 => trivial), (fun h0 => absurd (Int32.toInt_inj.mp (by have h8 := r_v_5; unfold RI at h8; rw [Int32.toInt_zero]; omega)) h0)⟩, hw.1, hw.2.2.2.2.1⟩, by rw [ht]; exact hw.2.1, va_K.moved hW.alike hK, hw.2.2.1⟩, hw.2.2.2.1.F ht⟩) hw.2.2.2.1.2.2 dX10_readOnce_38
      · exact absurd (Int32.toInt_inj.mp (by rw [Int32.toInt_zero]; unfold RI at r_v_5; omega)) c9_v_5
    · have r_v_4 : RI v_4 1 1 := rc_neL r_v_4 rl_0 (ti_ne c9_v_4) (by decide)
      obtain ⟨v_6, m_v_6, r_v_6⟩ := ((hp_v_4.2.2 c9_v_4).1)
      have x_TOK_p0_gh := ((hp_v_4.2.2 c9_v_4).2.1)
      refine tk_i (va_runV (As := [.int p2, .int v_4]) (rest := []) ⟨hx, hb, hml, hown, hts⟩ (c_X10_put__5 l D cy z H.size Ps ws hw.1 p0 p2 v_4 v_6 (fun f => RH2p f ∧ True) (fun f => RH2p f ∧ True) h_p0 r_p2 r_v_4 r_v_6 m_v_6 (AX.and hw x_RH_p0 (rx_true hw h_p0)) (fun f9 v9 hv9 H9 => ⟨(have h9 := H9.1; RH_keep h9 (by have k4 := r_p2.cl (by decide); have k5 := r_p2; unfold RI at k5; omega)), trivial⟩)) (cwV 2 hts (gV tw_1362 tw_1364 ts_51 tw_15 tw_1365) rfl rfl rfl (by decide +kernel) ⟨Nat.le_of_ble_eq_true rfl, Nat.le_of_ble_eq_true rfl⟩) (tg_preV hw hK hSD hA (ci := 10) (q := (RX10, TX10, 49)) rfl h_p0 rfl) rfl rfl hl.1 rfl (lv_room (Nat.le_of_ble_eq_true rfl)) dX10_readOnce_35 ⟨Nat.le_of_ble_eq_true rfl, Nat.le_of_ble_eq_true rfl⟩) hw hA ⟨by decide, by decide⟩ (fun v_7 ws H locs hp_v_7 hw hF9 => ?_)
      have m_u_1 := FLD.over hF9 m_u_1 (by decide)
      have m_v_6 := FLD.over hF9 m_v_6 (by decide)
      have x_TOK_p0_gh := TKP.over hF9 x_TOK_p0_gh (by decide)
      have r_v_7 : RI v_7 1 1 := hp_v_7.1
      by_cases c9_v_7 : v_7 = 0
      · exact absurd (ti_eq c9_v_7) (by unfold RI at r_v_7; rw [Int32.toInt_zero]; omega)
      · obtain ⟨v_8, m_v_8, r_v_8⟩ := ((hp_v_7.2.2 c9_v_7).1)
        have x_RH_p0 : AX 15 35 (fun f => RH2p f) Ps ws p0 := AX.imp ((hp_v_7.2.2 c9_v_7).2.1) (fun _ h9 => h9.1)
        subst hQ
        exact W.zret (v := v_7) hx hb hr (tq_nz (r_v_7.to (by decide))) (fun t ht hW => ⟨⟨v_7, ws, rfl, ⟨⟨r_v_7.to (by decide), (fun _ => trivial), (fun h0 => ⟨⟨_, m_v_8, r_v_8⟩, x_TOK_p0_gh, x_RH_p0, trivial⟩)⟩, hw.1, hw.2.2.2.2.1⟩, by rw [ht]; exact hw.2.1, va_K.moved hW.alike hK, hw.2.2.1⟩, hw.2.2.2.1.F ht⟩) hw.2.2.2.1.2.2 dX10_readOnce_38
  · refine lv_aload_n hx hb dX10_readOnce_9 rfl (lv_at hl 0 rfl) ?_
    refine lv_iconst (v := 3) hx hb dX10_readOnce_10 (by decide) ?_
    refine tk_i (va_runV (As := [.int 3]) (rest := []) ⟨hx, hb, hml, hown, hts⟩ (c_X10_bad l D cy z s.heap.size Ps w0 hw.1 p0 3 h_p0 (rl_3.to (by decide))) (cwV 1 hts (gV tw_1336 tw_1338 ts_46 tw_15 tw_1339) rfl rfl rfl (by decide +kernel) ⟨Nat.le_of_ble_eq_true rfl, Nat.le_of_ble_eq_true rfl⟩) (tg_preV hw hK hSD hA (ci := 10) (q := (RX10, TX10, 49)) rfl h_p0 rfl) rfl rfl hl.1 rfl (lv_room (Nat.le_of_ble_eq_true rfl)) dX10_readOnce_11 ⟨Nat.le_of_ble_eq_true rfl, Nat.le_of_ble_eq_true rfl⟩) hw hA ⟨by decide, by decide⟩ (fun v_9 ws H locs hp_v_9 hw hF9 => ?_)
    have m_u_1 := FLD.over hF9 m_u_1 (by decide)
    have x_TO_p0_gh := TOP.over hF9 x_TO_p0_gh (by decide)
    have x_RH_p0 := AX.over hF9 x_RH_p0 (by decide)
    have r_v_9 : RI v_9 0 0 := hp_v_9.1
    subst hQ
    exact W.zret (v := v_9) hx hb hr (tq_nz (r_v_9.to (by decide))) (fun t ht hW => ⟨⟨v_9, ws, rfl, ⟨⟨r_v_9.to (by decide), (fun h0 => trivial), (fun h0 => absurd (Int32.toInt_inj.mp (by have h8 := r_v_9; unfold RI at h8; rw [Int32.toInt_zero]; omega)) h0)⟩, hw.1, hw.2.2.2.2.1⟩, by rw [ht]; exact hw.2.1, va_K.moved hW.alike hK, hw.2.2.1⟩, hw.2.2.2.1.F ht⟩) hw.2.2.2.1.2.2 dX10_readOnce_14
abbrev wr_X10_has__2 : List (Nat × Nat) := []
abbrev wa_X10_has__2 : List Nat := []
set_option maxHeartbeats 4000000 in
set_option maxRecDepth 100000 in
theorem c_X10_has__2 (l : Launch) (D : va_G) (cy : Nat → ClassId) (z : Nat → Nat) (sz : Nat) (Ps : PSI) (w0 : va_W) (hT : HT cy GG Ps w0) (p0 : Int32) (p1 : Int32) (r_p0 : RI p0 (-2147483648) 2147483647) (r_p1 : RI p1 0 5) : Met l yX10_has (Cond.code yX10_has cX10_has 2 (some .boolean) :: gT) ({ frames := 0, cells := 0, slots := 0, locals := 200 } : Room) (va_Pc [.int p0, .int p1] (PRE D cy z w0 sz)) (va_Qi (fun (r : Int32) (u : Unit) => RI r 0 1 ∧ (r = 0 → True) ∧ (¬ r = 0 → True)) (BB D cy (va_A w0 sz) (fun (u : Unit) => w0)) (va_A w0 sz)) 0 0 (va_A w0 sz) := by
  refine Met.ofW (cc := cX10_has) (maxL := 2) (ret := (some .boolean)) (by decide) rfl ?_
  intro p e s m args below meth c s₁ B hml hv
  obtain ⟨rfl, hsz, hP, hK, hD0, hSD⟩ := hv
  have hx := B.exec
  have hb := B.bytes
  have hr := B.returns
  have hlocks := B.notSynchronized
  have hts : ∀ w ∈ gT, w.before _ s = true := fun w h => atoms_spec (ws := Cond.code yX10_has cX10_has 2 (some .boolean) :: gT) B.pre w (List.mem_cons_of_mem _ h)
  have hown : s.vm.findClass RX10 = some m.cls := findClass_of_methodNamed B.named
  subst hsz
  have hD := hD0.self (sz := s.heap.size)
  generalize hAe : va_A w0 s.heap.size = A at hD hSD ⊢
  have hA : ∀ q : Nat, s.heap.size ≤ q → A q := fun q h => by rw [← hAe]; exact Or.inr h
  have hl := lv_entry ([.int p0, .int p1]) (n := 2) (Nat.le_of_ble_eq_true rfl)
  rw [lg_entry_eq]
  generalize (lg_sl ([.int p0, .int p1]) ++ List.replicate (2 - (lg_sl ([.int p0, .int p1])).length) Slot.unset).toArray = ls at hl ⊢
  have hl : lv_has ls 2 [(0, .int p0), (1, .int p1)] := hl
  refine nameQ (fun Q hQ => ?_)
  have hw : WD D cy GG A s wr_X10_has__2 wa_X10_has__2 Ps w0 Ps w0 s.heap [] := ⟨hT, hP, hD, va_S.rf, FR.rf, hT.1, [], (List.append_nil _).symm⟩
  refine lv_iload_n hx hb dX10_has_0 rfl (lv_at hl 0 rfl) ?_
  refine lv_iload_n hx hb dX10_has_1 rfl (lv_at hl 1 rfl) ?_
  refine lv_ishr hx hb dX10_has_2 (lv_topi (fun v_1 e_v_1 => ?_))
  have r_v_1 := ri_any v_1
  refine lv_iconst (v := 1) hx hb dX10_has_3 (by decide) ?_
  refine lv_iand hx hb dX10_has_4 (lv_topi (fun v_2 e_v_2 => ?_))
  have r_v_2 : RI v_2 0 1 := by rw [e_v_2]; exact ri_and (d := 1) (rl_1.to (by decide)) (by decide)
  refine lv_iconst (v := 1) hx hb dX10_has_5 (by decide) ?_
  refine lv_icmp_ne (tgt := 13) hx hb dX10_has_6 (by decide) (fun c_6 => ?_) (fun c_6 => ?_)
  · have r_v_2 : RI v_2 0 0 := rc_neU r_v_2 rl_1 (ti_ne c_6) (by decide)
    refine lv_iconst (v := 0) hx hb dX10_has_13 (by decide) ?_
    subst hQ
    exact W.zret (v := 0) hx hb hr (rfl) (fun t ht hW => ⟨⟨0, (), rfl, ⟨rl_0.to (by decide), (fun h0 => trivial), (fun _ => trivial)⟩, by rw [ht]; exact hw.2.1, va_K.moved hW.alike hK, hw.2.2.1⟩, hw.2.2.2.1.F ht⟩) hw.2.2.2.1.2.2 dX10_has_14
  · have r_v_2 : RI v_2 1 1 := rc_eq1 r_v_2 rl_1 (ti_eq c_6) (by decide)
    refine lv_iconst (v := 1) hx hb dX10_has_9 (by decide) ?_
    refine lv_goto (tgt := 14) hx hb dX10_has_10 (by decide) ?_
    subst hQ
    exact W.zret (v := 1) hx hb hr (rfl) (fun t ht hW => ⟨⟨1, (), rfl, ⟨rl_1.to (by decide), (fun _ => trivial), (fun h0 => trivial)⟩, by rw [ht]; exact hw.2.1, va_K.moved hW.alike hK, hw.2.2.1⟩, hw.2.2.2.1.F ht⟩) hw.2.2.2.1.2.2 dX10_has_14
abbrev wr_X10_readQuarrel : List (Nat × Nat) := [(10, 5), (10, 6), (10, 7), (10, 8), (10, 9), (10, 10), (10, 11), (10, 12), (10, 13)]
abbrev wa_X10_readQuarrel : List Nat := [35]
set_option maxHeartbeats 4000000 in
set_option maxRecDepth 100000 in
theorem c_X10_readQuarrel (l : Launch) (D : va_G) (cy : Nat → ClassId) (z : Nat → Nat) (sz : Nat) (Ps : PSI) (w0 : va_W) (hT : HT cy GG Ps w0) (p0 : Nat) (gh : Int) (h_p0 : (p0, 55) ∈ Ps) (x_TO_p0_gh : TOP w0 p0 (gh)) (x_RH_p0 : AX 15 35 (fun f => RH2p f) Ps w0 p0) : Met l yX10_readQuarrel (Cond.code yX10_readQuarrel cX10_readQuarrel 2 (some .boolean) :: gT) ({ frames := 7, cells := 0, slots := 0, locals := 1400 } : Room) (va_Pc [.ref p0] (PRE D cy z w0 sz)) (va_Qi (fun (r : Int32) (u : va_W) => (RI r 0 1 ∧ (r = 0 → True) ∧ (¬ r = 0 → (∃ v9 : Int32, FLD u p0 10 13 (.int v9) ∧ RI v9 0 5) ∧ TKP u p0 (gh) ∧ AX 15 35 (fun f => RH2p f) Ps u p0 ∧ True)) ∧ HT cy GG Ps u ∧ FR wr_X10_readQuarrel wa_X10_readQuarrel Ps w0 u) (BB D cy (va_A w0 sz) (fun (u : va_W) => u)) (va_A w0 sz)) 0 0 (va_A w0 sz) := by
  refine Met.ofW (cc := cX10_readQuarrel) (maxL := 2) (ret := (some .boolean)) (by decide) rfl ?_
  intro p e s m args below meth c s₁ B hml hv
  obtain ⟨rfl, hsz, hP, hK, hD0, hSD⟩ := hv
  have hx := B.exec
  have hb := B.bytes
  have hr := B.returns
  have hlocks := B.notSynchronized
  have hts : ∀ w ∈ gT, w.before _ s = true := fun w h => atoms_spec (ws := Cond.code yX10_readQuarrel cX10_readQuarrel 2 (some .boolean) :: gT) B.pre w (List.mem_cons_of_mem _ h)
  have hown : s.vm.findClass RX10 = some m.cls := findClass_of_methodNamed B.named
  subst hsz
  have hD := hD0.self (sz := s.heap.size)
  generalize hAe : va_A w0 s.heap.size = A at hD hSD ⊢
  have hA : ∀ q : Nat, s.heap.size ≤ q → A q := fun q h => by rw [← hAe]; exact Or.inr h
  have hl := lv_entry ([.ref p0]) (n := 2) (Nat.le_of_ble_eq_true rfl)
  rw [lg_entry_eq]
  generalize (lg_sl ([.ref p0]) ++ List.replicate (2 - (lg_sl ([.ref p0])).length) Slot.unset).toArray = ls at hl ⊢
  have hl : lv_has ls 2 [(0, .ref p0)] := hl
  refine nameQ (fun Q hQ => ?_)
  have hw : WD D cy GG A s wr_X10_readQuarrel wa_X10_readQuarrel Ps w0 Ps w0 s.heap [] := ⟨hT, hP, hD, va_S.rf, FR.rf, hT.1, [], (List.append_nil _).symm⟩
  have B61 : ∀ (x1 : Int32) (z0_13 : Int32) (ws : va_W) (H : Heap) (locs : List Loc) (ls : Array Slot), RI x1 0 5 → RI z0_13 0 5 → FLD ws p0 10 13 (.int z0_13) → AX 15 35 (fun f => 0 < (f 0).toInt) Ps ws p0 → AX 15 35 (fun f => RH2p f) Ps ws p0 → TKP ws p0 (gh) → WD D cy GG A s wr_X10_readQuarrel wa_X10_readQuarrel Ps w0 Ps ws H locs → lv_has ls 2 [(0, .ref p0), (1, .int x1)] → W p l e (headSpec (Cond.code yX10_readQuarrel cX10_readQuarrel 2 (some .boolean) :: gT) ({ frames := 7, cells := 0, slots := 0, locals := 1400 } : Room)).room s m ([.ref p0] : List Value).toArray below meth c H locs 0 0 Q (F0 m 61 ls []) := by
    intro x1 z0_13 ws H locs ls r_x1 r_z0_13 m_z0_13 x_IP_p0 x_RH_p0 x_TOK_p0_gh hw hl
    refine lv_aload_n hx hb dX10_readQuarrel_61 rfl (lv_at hl 0 rfl) ?_
    refine lv_iconst (v := 3) hx hb dX10_readQuarrel_62 (by decide) ?_
    refine tk_i (va_runV (As := [.int 3]) (rest := []) ⟨hx, hb, hml, hown, hts⟩ (c_X10_bad l D cy z H.size Ps ws hw.1 p0 3 h_p0 (rl_3.to (by decide))) (cwV 1 hts (gV tw_1336 tw_1338 ts_46 tw_15 tw_1339) rfl rfl rfl (by decide +kernel) ⟨Nat.le_of_ble_eq_true rfl, Nat.le_of_ble_eq_true rfl⟩) (tg_preV hw hK hSD hA (ci := 10) (q := (RX10, TX10, 49)) rfl h_p0 rfl) rfl rfl hl.1 rfl (lv_room (Nat.le_of_ble_eq_true rfl)) dX10_readQuarrel_63 ⟨Nat.le_of_ble_eq_true rfl, Nat.le_of_ble_eq_true rfl⟩) hw hA ⟨by decide, by decide⟩ (fun v_1 ws H locs hp_v_1 hw hF9 => ?_)
    have m_z0_13 := FLD.over hF9 m_z0_13 (by decide)
    have x_IP_p0 := AX.over hF9 x_IP_p0 (by decide)
    have x_RH_p0 := AX.over hF9 x_RH_p0 (by decide)
    have x_TOK_p0_gh := TKP.over hF9 x_TOK_p0_gh (by decide)
    have r_v_1 : RI v_1 0 0 := hp_v_1.1
    subst hQ
    exact W.zret (v := v_1) hx hb hr (tq_nz (r_v_1.to (by decide))) (fun t ht hW => ⟨⟨v_1, ws, rfl, ⟨⟨r_v_1.to (by decide), (fun h0 => trivial), (fun h0 => absurd (Int32.toInt_inj.mp (by have h8 := r_v_1; unfold RI at h8; rw [Int32.toInt_zero]; omega)) h0)⟩, hw.1, hw.2.2.2.2.1⟩, by rw [ht]; exact hw.2.1, va_K.moved hW.alike hK, hw.2.2.1⟩, hw.2.2.2.1.F ht⟩) hw.2.2.2.1.2.2 dX10_readQuarrel_66
  refine lv_aload_n hx hb dX10_readQuarrel_0 rfl (lv_at hl 0 rfl) ?_
  refine tk_v (va_runV (As := []) (rest := []) ⟨hx, hb, hml, hown, hts⟩ (c_X10_go__1 l D cy z s.heap.size Ps w0 hw.1 p0 (gh) h_p0 x_TO_p0_gh) (cwV 0 hts (gV tw_1298 tw_1300 ts_40 tw_15 tw_1301) rfl rfl rfl (by decide +kernel) ⟨Nat.le_of_ble_eq_true rfl, Nat.le_of_ble_eq_true rfl⟩) (tg_preV hw hK hSD hA (ci := 10) (q := (RX10, TX10, 49)) rfl h_p0 rfl) rfl rfl hl.1 rfl (lv_room (Nat.le_of_ble_eq_true rfl)) dX10_readQuarrel_1 ⟨Nat.le_of_ble_eq_true rfl, Nat.le_of_ble_eq_true rfl⟩) hw hA ⟨by decide, by decide⟩ (fun ws H locs hp_v_2 hw hF9 => ?_)
  have x_RH_p0 := AX.over hF9 x_RH_p0 (by decide)
  have x_TOK_p0_gh := (hp_v_2.1)
  refine lv_aload_n hx hb dX10_readQuarrel_4 rfl (lv_at hl 0 rfl) ?_
  have x_TO_p0_gh : TOP ws p0 (gh) := TKP.top x_TOK_p0_gh
  refine tk_i (va_runV (As := []) (rest := []) ⟨hx, hb, hml, hown, hts⟩ (c_X10_readIdea l D cy z H.size Ps ws hw.1 p0 (gh) h_p0 x_TO_p0_gh) (cwV 0 hts (gV tw_1386 tw_1388 ts_57 tw_15 tw_1389) rfl rfl rfl (by decide +kernel) ⟨Nat.le_of_ble_eq_true rfl, Nat.le_of_ble_eq_true rfl⟩) (tg_preV hw hK hSD hA (ci := 10) (q := (RX10, TX10, 49)) rfl h_p0 rfl) rfl rfl hl.1 rfl (lv_room (Nat.le_of_ble_eq_true rfl)) dX10_readQuarrel_5 ⟨Nat.le_of_ble_eq_true rfl, Nat.le_of_ble_eq_true rfl⟩) hw hA ⟨by decide, by decide⟩ (fun v_3 ws H locs hp_v_3 hw hF9 => ?_)
  have x_RH_p0 := AX.over hF9 x_RH_p0 (by decide)
  have r_v_3 : RI v_3 0 1 := hp_v_3.1
  by_cases c9_v_3 : v_3 = 0
  · have r_v_3 : RI v_3 0 0 := by rw [c9_v_3]; exact rl_0
    refine lv_if_ne (tgt := 13) hx hb dX10_readQuarrel_8 (by decide) (fun c_8 => ?_) (fun c_8 => ?_)
    · exact absurd (r_v_3.eq.trans rl_0.eq.symm) ((ti_ne c_8))
    · refine lv_iconst (v := 0) hx hb dX10_readQuarrel_11 (by decide) ?_
      subst hQ
      exact W.zret (v := 0) hx hb hr (rfl) (fun t ht hW => ⟨⟨0, ws, rfl, ⟨⟨rl_0.to (by decide), (fun h0 => trivial), (fun h0 => absurd rfl h0)⟩, hw.1, hw.2.2.2.2.1⟩, by rw [ht]; exact hw.2.1, va_K.moved hW.alike hK, hw.2.2.1⟩, hw.2.2.2.1.F ht⟩) hw.2.2.2.1.2.2 dX10_readQuarrel_12
  · have r_v_3 : RI v_3 1 1 := rc_neL r_v_3 rl_0 (ti_ne c9_v_3) (by decide)
    obtain ⟨v_4, m_v_4, r_v_4⟩ := ((hp_v_3.2.2 c9_v_3).1)
    have x_TOK_p0_gh := ((hp_v_3.2.2 c9_v_3).2.1)
    have x_IP_p0 := ((hp_v_3.2.2 c9_v_3).2.2.1)
    refine lv_if_ne (tgt := 13) hx hb dX10_readQuarrel_8 (by decide) (fun c_8 => ?_) (fun c_8 => ?_)
    · refine lv_aload_n hx hb dX10_readQuarrel_13 rfl (lv_at hl 0 rfl) ?_
      refine tg_mem (ci := 10) (C := RX10) (T := TX10) (N := 49) hx hb hts inX10 hown hK hw 13 m_v_4 rfl (by decide) (hts _ tw_1150) (fun _ h9 => h9) dX10_readQuarrel_14 ?_
      refine lv_istore_n (lv' := [(1, .int v_4), (0, .ref p0)]) hx hb dX10_readQuarrel_17 rfl hl (by decide) rfl (fun ls hl => ?_)
      refine lv_aload_n hx hb dX10_readQuarrel_18 rfl (lv_at hl 1 rfl) ?_
      refine lv_iconst (v := 0) hx hb dX10_readQuarrel_19 (by decide) ?_
      refine lv_aload_n hx hb dX10_readQuarrel_20 rfl (lv_at hl 1 rfl) ?_
      refine tg_get (ci := 10) (ts := ty_MODEL) (C := RX10) (T := TX10) (N := 49) hx hb hts inX10 hown hK hw h_p0 rfl rfl 15 (by decide) (hts _ tw_1152) (fun _ h9 => h9) (ft := vR 35) rfl dX10_readQuarrel_21 (fun u_5 hv_u_5 m_u_5 => ?_)
      obtain ⟨vu_5, rfl, h_vu_5⟩ := hv_u_5
      refine lv_iconst (v := 0) hx hb dX10_readQuarrel_24 (by decide) ?_
      refine tg_iald (lo := 0) (hi := 6) hx hb hK hw h_vu_5 rfl 0 0 rl_0 (by decide) (by decide +kernel) dX10_readQuarrel_25 (fun v_6 r_v_6 m_v_6 o_v_6 => ?_)
      have hw8 := hw
      refine tk_i (va_runV (As := [.int 0, .int v_6]) (rest := []) ⟨hx, hb, hml, hown, hts⟩ (c_X10_isOne__1 l D cy z H.size Ps ws hw.1 p0 0 v_6 h_p0 rl_0 r_v_6) (cwV 2 hts (gV tw_1378 tw_1380 ts_55 tw_15 tw_1381) rfl rfl rfl (by decide +kernel) ⟨Nat.le_of_ble_eq_true rfl, Nat.le_of_ble_eq_true rfl⟩) (tg_preV hw hK hSD hA (ci := 10) (q := (RX10, TX10, 49)) rfl h_p0 rfl) rfl rfl hl.1 rfl (lv_room (Nat.le_of_ble_eq_true rfl)) dX10_readQuarrel_26 ⟨Nat.le_of_ble_eq_true rfl, Nat.le_of_ble_eq_true rfl⟩) hw hA ⟨by decide, by decide⟩ (fun v_7 ws H locs hp_v_7 hw hF9 => ?_)
      have m_v_6 := AEL.over hw8 hF9 h_vu_5 m_v_6 (by decide)
      have m_u_5 := FLD.over hF9 m_u_5 (by decide)
      have x_RH_p0 := AX.over hF9 x_RH_p0 (by decide)
      have x_TOK_p0_gh := TKP.over hF9 x_TOK_p0_gh (by decide)
      have x_IP_p0 := AX.over hF9 x_IP_p0 (by decide)
      have r_v_7 : RI v_7 0 1 := hp_v_7.1
      by_cases c9_v_7 : v_7 = 0
      · have r_v_7 : RI v_7 0 0 := by rw [c9_v_7]; exact rl_0
        refine lv_if_ne (tgt := 34) hx hb dX10_readQuarrel_29 (by decide) (fun c_29 => ?_) (fun c_29 => ?_)
        · exact absurd (r_v_7.eq.trans rl_0.eq.symm) ((ti_ne c_29))
        · refine lv_iconst (v := 0) hx hb dX10_readQuarrel_32 (by decide) ?_
          subst hQ
          exact W.zret (v := 0) hx hb hr (rfl) (fun t ht hW => ⟨⟨0, ws, rfl, ⟨⟨rl_0.to (by decide), (fun h0 => trivial), (fun h0 => absurd rfl h0)⟩, hw.1, hw.2.2.2.2.1⟩, by rw [ht]; exact hw.2.1, va_K.moved hW.alike hK, hw.2.2.1⟩, hw.2.2.2.1.F ht⟩) hw.2.2.2.1.2.2 dX10_readQuarrel_33
      · have r_v_7 : RI v_7 1 1 := rc_neL r_v_7 rl_0 (ti_ne c9_v_7) (by decide)
        have r_v_6 : RI v_6 1 6 := ((hp_v_7.2.2 c9_v_7).1)
        obtain ⟨v_8, m_v_8, r_v_8⟩ := ((hp_v_7.2.2 c9_v_7).2.1)
        refine lv_if_ne (tgt := 34) hx hb dX10_readQuarrel_29 (by decide) (fun c_29 => ?_) (fun c_29 => ?_)
        · refine lv_aload_n hx hb dX10_readQuarrel_34 rfl (lv_at hl 1 rfl) ?_
          refine tg_mem (ci := 10) (C := RX10) (T := TX10) (N := 49) hx hb hts inX10 hown hK hw 13 m_v_8 rfl (by decide) (hts _ tw_1150) (fun _ h9 => h9) dX10_readQuarrel_35 ?_
          refine lv_iload_n hx hb dX10_readQuarrel_38 rfl (lv_at hl 0 rfl) ?_
          refine lv_icmp_eq (tgt := 61) hx hb dX10_readQuarrel_39 (by decide) (fun c_39 => ?_) (fun c_39 => ?_)
          · exact B61 v_4 v_8 ws _ _ ls r_v_4 r_v_8 m_v_8 x_IP_p0 x_RH_p0 x_TOK_p0_gh hw (lv_sub hl [1, 0] rfl)
          · refine lv_aload_n hx hb dX10_readQuarrel_42 rfl (lv_at hl 1 rfl) ?_
            refine tg_mem (ci := 10) (C := RX10) (T := TX10) (N := 49) hx hb hts inX10 hown hK hw 15 m_u_5 rfl (by decide) (hts _ tw_1152) (fun _ h9 => h9) dX10_readQuarrel_43 ?_
            refine lv_bipush (v := 12) hx hb dX10_readQuarrel_46 (by decide) ?_
            refine lv_iload_n hx hb dX10_readQuarrel_48 rfl (lv_at hl 0 rfl) ?_
            refine lv_iadd hx hb dX10_readQuarrel_49 (lv_topi (fun v_9 e_v_9 => ?_))
            obtain ⟨t_v_9, r_v_9⟩ := tq_add (lo := 12) (hi := 17) rl_12 r_v_4 (by decide +kernel) e_v_9
            have t_v_9 : v_9.toInt = 12 + v_4.toInt := t_v_9
            refine tg_iald (lo := (-2147483648)) (hi := 2147483647) hx hb hK hw h_vu_5 rfl 12 17 r_v_9 (by decide) (by decide +kernel) dX10_readQuarrel_50 (fun v_10 r_v_10 m_v_10 o_v_10 => ?_)
            refine lv_aload_n hx hb dX10_readQuarrel_51 rfl (lv_at hl 1 rfl) ?_
            refine tg_mem (ci := 10) (C := RX10) (T := TX10) (N := 49) hx hb hts inX10 hown hK hw 13 m_v_8 rfl (by decide) (hts _ tw_1150) (fun _ h9 => h9) dX10_readQuarrel_52 ?_
            refine tk_ir (va_runS (As := [.int v_10, .int v_8]) (rest := []) ⟨hx, hb, hml, hown, hts⟩ (c_X10_has__2 l D cy z H.size Ps ws hw.1 v_10 v_8 r_v_10 r_v_8) (va_cwS 2 hts (gS tw_1402 tw_1403 tw_15 tw_1404) rfl rfl rfl (by decide +kernel) ⟨Nat.le_of_ble_eq_true rfl, Nat.le_of_ble_eq_true rfl⟩) (tg_preS hw hK hSD hA) rfl rfl hl.1 rfl (lv_room (Nat.le_of_ble_eq_true rfl)) dX10_readQuarrel_55 ⟨Nat.le_of_ble_eq_true rfl, Nat.le_of_ble_eq_true rfl⟩) hw hA (fun v_11  H locs hp_v_11 hw => ?_)
            have r_v_11 : RI v_11 0 1 := hp_v_11.1
            refine lv_if_eq (tgt := 67) hx hb dX10_readQuarrel_58 (by decide) (fun c_58 => ?_) (fun c_58 => ?_)
            · have r_v_11 : RI v_11 0 0 := rc_eq1 r_v_11 rl_0 (ti_eq c_58) (by decide)
              refine lv_aload_n hx hb dX10_readQuarrel_67 rfl (lv_at hl 1 rfl) ?_
              refine tg_mem (ci := 10) (C := RX10) (T := TX10) (N := 49) hx hb hts inX10 hown hK hw 15 m_u_5 rfl (by decide) (hts _ tw_1152) (fun _ h9 => h9) dX10_readQuarrel_68 ?_
              refine lv_bipush (v := 12) hx hb dX10_readQuarrel_71 (by decide) ?_
              refine lv_iload_n hx hb dX10_readQuarrel_73 rfl (lv_at hl 0 rfl) ?_
              refine lv_iadd hx hb dX10_readQuarrel_74 (lv_topi (fun v_12 e_v_12 => ?_))
              obtain ⟨t_v_12, r_v_12⟩ := tq_add (lo := 12) (hi := 17) rl_12 r_v_4 (by decide +kernel) e_v_12
              have t_v_12 : v_12.toInt = 12 + v_4.toInt := t_v_12
              refine lv_dup2_11 hx hb dX10_readQuarrel_75 rfl rfl ?_
              refine tg_iald (lo := (-2147483648)) (hi := 2147483647) hx hb hK hw h_vu_5 rfl 12 17 r_v_12 (by decide) (by decide +kernel) dX10_readQuarrel_76 (fun v_13 r_v_13 m_v_13 o_v_13 => ?_)
              refine lv_iconst (v := 1) hx hb dX10_readQuarrel_77 (by decide) ?_
              refine lv_aload_n hx hb dX10_readQuarrel_78 rfl (lv_at hl 1 rfl) ?_
              refine tg_mem (ci := 10) (C := RX10) (T := TX10) (N := 49) hx hb hts inX10 hown hK hw 13 m_v_8 rfl (by decide) (hts _ tw_1150) (fun _ h9 => h9) dX10_readQuarrel_79 ?_
              refine lv_ishl hx hb dX10_readQuarrel_82 (lv_topi (fun v_14 e_v_14 => ?_))
              have r_v_14 : RI v_14 1 256 := by rw [e_v_14]; exact ri_shl1 (r_v_8.to (c := 0) (d := 5) (by decide)) (by decide)
              refine lv_ior hx hb dX10_readQuarrel_83 (lv_topi (fun v_15 e_v_15 => ?_))
              have r_v_15 := ri_any v_15
              have hw8 := hw
              refine tg_iast hx hb hK hw h_vu_5 rfl 12 17 r_v_12 (by decide) r_v_15 (by decide +kernel) (fun _ _ _ _ _ => trivial) (by decide) dX10_readQuarrel_84 (fun ws H locs hw hF9 hU9 => ?_)
              have x_RH_p0 : AX 15 35 (fun f => RH2p f) Ps ws p0 := AX.ast hF9 hU9 x_RH_p0 m_u_5 (fun f9 h9 => RH_keep h9 (by have k4 := r_v_12.cl (by decide); have k5 := r_v_12; unfold RI at k5; omega))
              have x_IP_p0 : AX 15 35 (fun f => 0 < (f 0).toInt) Ps ws p0 := AX.ast hF9 hU9 x_IP_p0 m_u_5 (fun f9 h9 => by show _ < _; rw [pk_un (by have k4 := r_v_12.cl (by decide); have k5 := r_v_12; unfold RI at k5; omega)]; exact h9)
              have x_TOK_p0_gh := TKP.over hF9 x_TOK_p0_gh (by decide)
              have m_u_5 := FLD.over hF9 m_u_5 (by decide)
              have m_v_8 := FLD.over hF9 m_v_8 (by decide)
              refine lv_aload_n hx hb dX10_readQuarrel_85 rfl (lv_at hl 1 rfl) ?_
              refine tg_mem (ci := 10) (C := RX10) (T := TX10) (N := 49) hx hb hts inX10 hown hK hw 15 m_u_5 rfl (by decide) (hts _ tw_1152) (fun _ h9 => h9) dX10_readQuarrel_86 ?_
              refine lv_bipush (v := 12) hx hb dX10_readQuarrel_89 (by decide) ?_
              refine lv_aload_n hx hb dX10_readQuarrel_91 rfl (lv_at hl 1 rfl) ?_
              refine tg_mem (ci := 10) (C := RX10) (T := TX10) (N := 49) hx hb hts inX10 hown hK hw 13 m_v_8 rfl (by decide) (hts _ tw_1150) (fun _ h9 => h9) dX10_readQuarrel_92 ?_
              refine lv_iadd hx hb dX10_readQuarrel_95 (lv_topi (fun v_16 e_v_16 => ?_))
              obtain ⟨t_v_16, r_v_16⟩ := tq_add (lo := 12) (hi := 17) rl_12 r_v_8 (by decide +kernel) e_v_16
              have t_v_16 : v_16.toInt = 12 + v_8.toInt := t_v_16
              refine lv_dup2_11 hx hb dX10_readQuarrel_96 rfl rfl ?_
              refine tg_iald (lo := (-2147483648)) (hi := 2147483647) hx hb hK hw h_vu_5 rfl 12 17 r_v_16 (by decide) (by decide +kernel) dX10_readQuarrel_97 (fun v_17 r_v_17 m_v_17 o_v_17 => ?_)
              refine lv_iconst (v := 1) hx hb dX10_readQuarrel_98 (by decide) ?_
              refine lv_iload_n hx hb dX10_readQuarrel_99 rfl (lv_at hl 0 rfl) ?_
              refine lv_ishl hx hb dX10_readQuarrel_100 (lv_topi (fun v_18 e_v_18 => ?_))
              have r_v_18 : RI v_18 1 256 := by rw [e_v_18]; exact ri_shl1 (r_v_4.to (c := 0) (d := 5) (by decide)) (by decide)
              refine lv_ior hx hb dX10_readQuarrel_101 (lv_topi (fun v_19 e_v_19 => ?_))
              have r_v_19 := ri_any v_19
              have hw8 := hw
              refine tg_iast hx hb hK hw h_vu_5 rfl 12 17 r_v_16 (by decide) r_v_19 (by decide +kernel) (fun _ _ _ _ _ => trivial) (by decide) dX10_readQuarrel_102 (fun ws H locs hw hF9 hU9 => ?_)
              have x_RH_p0 : AX 15 35 (fun f => RH2p f) Ps ws p0 := AX.ast hF9 hU9 x_RH_p0 m_u_5 (fun f9 h9 => RH_keep h9 (by have k4 := r_v_16.cl (by decide); have k5 := r_v_16; unfold RI at k5; omega))
              have x_IP_p0 : AX 15 35 (fun f => 0 < (f 0).toInt) Ps ws p0 := AX.ast hF9 hU9 x_IP_p0 m_u_5 (fun f9 h9 => by show _ < _; rw [pk_un (by have k4 := r_v_16.cl (by decide); have k5 := r_v_16; unfold RI at k5; omega)]; exact h9)
              have x_TOK_p0_gh := TKP.over hF9 x_TOK_p0_gh (by decide)
              have m_u_5 := FLD.over hF9 m_u_5 (by decide)
              have m_v_8 := FLD.over hF9 m_v_8 (by decide)
              refine lv_aload_n hx hb dX10_readQuarrel_103 rfl (lv_at hl 1 rfl) ?_
              have x_TO_p0_gh : TOP ws p0 (gh) := TKP.top x_TOK_p0_gh
              refine tk_v (va_runV (As := []) (rest := []) ⟨hx, hb, hml, hown, hts⟩ (c_X10_go__1 l D cy z H.size Ps ws hw.1 p0 (gh) h_p0 x_TO_p0_gh) (cwV 0 hts (gV tw_1298 tw_1300 ts_40 tw_15 tw_1301) rfl rfl rfl (by decide +kernel) ⟨Nat.le_of_ble_eq_true rfl, Nat.le_of_ble_eq_true rfl⟩) (tg_preV hw hK hSD hA (ci := 10) (q := (RX10, TX10, 49)) rfl h_p0 rfl) rfl rfl hl.1 rfl (lv_room (Nat.le_of_ble_eq_true rfl)) dX10_readQuarrel_104 ⟨Nat.le_of_ble_eq_true rfl, Nat.le_of_ble_eq_true rfl⟩) hw hA ⟨by decide, by decide⟩ (fun ws H locs hp_v_20 hw hF9 => ?_)
              have m_u_5 := FLD.over hF9 m_u_5 (by decide)
              have m_v_8 := FLD.over hF9 m_v_8 (by decide)
              have x_RH_p0 := AX.over hF9 x_RH_p0 (by decide)
              have x_IP_p0 := AX.over hF9 x_IP_p0 (by decide)
              have x_TOK_p0_gh := (hp_v_20.1)
              refine lv_iconst (v := 1) hx hb dX10_readQuarrel_107 (by decide) ?_
              subst hQ
              exact W.zret (v := 1) hx hb hr (rfl) (fun t ht hW => ⟨⟨1, ws, rfl, ⟨⟨rl_1.to (by decide), (fun _ => trivial), (fun h0 => ⟨⟨_, m_v_8, r_v_8⟩, x_TOK_p0_gh, x_RH_p0, trivial⟩)⟩, hw.1, hw.2.2.2.2.1⟩, by rw [ht]; exact hw.2.1, va_K.moved hW.alike hK, hw.2.2.1⟩, hw.2.2.2.1.F ht⟩) hw.2.2.2.1.2.2 dX10_readQuarrel_108
            · have r_v_11 : RI v_11 1 1 := rc_neL r_v_11 rl_0 (ti_ne c_58) (by decide)
              exact B61 v_4 v_8 ws _ _ ls r_v_4 r_v_8 m_v_8 x_IP_p0 x_RH_p0 x_TOK_p0_gh hw (lv_sub hl [1, 0] rfl)
        · have r_v_7 : RI v_7 1 0 := rc_eq1 r_v_7 rl_0 (ti_eq c_29) (by decide)
          exact (r_v_7.no (by decide)).elim
    · have r_v_3 : RI v_3 1 0 := rc_eq1 r_v_3 rl_0 (ti_eq c_8) (by decide)
      exact (r_v_3.no (by decide)).elim
abbrev wr_X10_isOne__2 : List (Nat × Nat) := [(10, 10), (10, 11), (10, 13)]
abbrev wa_X10_isOne__2 : List Nat := []
set_option maxHeartbeats 4000000 in
set_option maxRecDepth 100000 in
theorem c_X10_isOne__2 (l : Launch) (D : va_G) (cy : Nat → ClassId) (z : Nat → Nat) (sz : Nat) (Ps : PSI) (w0 : va_W) (hT : HT cy GG Ps w0) (p0 : Nat) (p1 : Int32) (p2 : Int32) (h_p0 : (p0, 55) ∈ Ps) (r_p1 : RI p1 16 16) (r_p2 : RI p2 0 8) : Met l yX10_isOne (Cond.code yX10_isOne cX10_isOne 3 (some .boolean) :: gT) ({ frames := 4, cells := 0, slots := 0, locals := 800 } : Room) (va_Pc [.ref p0, .int p1, .int p2] (PRE D cy z w0 sz)) (va_Qi (fun (r : Int32) (u : va_W) => (RI r 0 1 ∧ (r = 0 → True) ∧ (¬ r = 0 → RI p2 1 8 ∧ (∃ v9 : Int32, FLD u p0 10 13 (.int v9) ∧ RI v9 0 7) ∧ True)) ∧ HT cy GG Ps u ∧ FR wr_X10_isOne__2 wa_X10_isOne__2 Ps w0 u) (BB D cy (va_A w0 sz) (fun (u : va_W) => u)) (va_A w0 sz)) 0 0 (va_A w0 sz) := by
  refine Met.ofW (cc := cX10_isOne) (maxL := 3) (ret := (some .boolean)) (by decide) rfl ?_
  intro p e s m args below meth c s₁ B hml hv
  obtain ⟨rfl, hsz, hP, hK, hD0, hSD⟩ := hv
  have hx := B.exec
  have hb := B.bytes
  have hr := B.returns
  have hlocks := B.notSynchronized
  have hts : ∀ w ∈ gT, w.before _ s = true := fun w h => atoms_spec (ws := Cond.code yX10_isOne cX10_isOne 3 (some .boolean) :: gT) B.pre w (List.mem_cons_of_mem _ h)
  have hown : s.vm.findClass RX10 = some m.cls := findClass_of_methodNamed B.named
  subst hsz
  have hD := hD0.self (sz := s.heap.size)
  generalize hAe : va_A w0 s.heap.size = A at hD hSD ⊢
  have hA : ∀ q : Nat, s.heap.size ≤ q → A q := fun q h => by rw [← hAe]; exact Or.inr h
  have hl := lv_entry ([.ref p0, .int p1, .int p2]) (n := 3) (Nat.le_of_ble_eq_true rfl)
  rw [lg_entry_eq]
  generalize (lg_sl ([.ref p0, .int p1, .int p2]) ++ List.replicate (3 - (lg_sl ([.ref p0, .int p1, .int p2])).length) Slot.unset).toArray = ls at hl ⊢
  have hl : lv_has ls 3 [(0, .ref p0), (1, .int p1), (2, .int p2)] := hl
  refine nameQ (fun Q hQ => ?_)
  have hw : WD D cy GG A s wr_X10_isOne__2 wa_X10_isOne__2 Ps w0 Ps w0 s.heap [] := ⟨hT, hP, hD, va_S.rf, FR.rf, hT.1, [], (List.append_nil _).symm⟩
  refine lv_aload_n hx hb dX10_isOne_0 rfl (lv_at hl 0 rfl) ?_
  refine tk_ir (va_runV (As := []) (rest := []) ⟨hx, hb, hml, hown, hts⟩ (c_X10_isName l D cy z s.heap.size Ps w0 hw.1 p0 h_p0) (cwV 0 hts (gV tw_1344 tw_1346 ts_48 tw_15 tw_1347) rfl rfl rfl (by decide +kernel) ⟨Nat.le_of_ble_eq_true rfl, Nat.le_of_ble_eq_true rfl⟩) (tg_preV hw hK hSD hA (ci := 10) (q := (RX10, TX10, 49)) rfl h_p0 rfl) rfl rfl hl.1 rfl (lv_room (Nat.le_of_ble_eq_true rfl)) dX10_isOne_1 ⟨Nat.le_of_ble_eq_true rfl, Nat.le_of_ble_eq_true rfl⟩) hw hA (fun v_1  H locs hp_v_1 hw => ?_)
  have r_v_1 : RI v_1 0 1 := hp_v_1.1
  refine lv_if_ne (tgt := 13) hx hb dX10_isOne_4 (by decide) (fun c_4 => ?_) (fun c_4 => ?_)
  · have r_v_1 : RI v_1 1 1 := rc_neL r_v_1 rl_0 (ti_ne c_4) (by decide)
    refine lv_aload_n hx hb dX10_isOne_13 rfl (lv_at hl 0 rfl) ?_
    refine lv_aload_n hx hb dX10_isOne_14 rfl (lv_at hl 0 rfl) ?_
    refine tg_get (ci := 10) (ts := ty_MODEL) (C := RX10) (T := TX10) (N := 49) hx hb hts inX10 hown hK hw h_p0 rfl rfl 21 (by decide) (hts _ tw_1158) (fun _ h9 => h9) (ft := vR 42) rfl dX10_isOne_15 (fun u_2 hv_u_2 m_u_2 => ?_)
    obtain ⟨vu_2, rfl, h_vu_2⟩ := hv_u_2
    refine lv_iload_n hx hb dX10_isOne_18 rfl (lv_at hl 1 rfl) ?_
    refine lv_iload_n hx hb dX10_isOne_19 rfl (lv_at hl 2 rfl) ?_
    refine lv_aload_n hx hb dX10_isOne_20 rfl (lv_at hl 0 rfl) ?_
    refine tg_get (ci := 10) (ts := ty_MODEL) (C := RX10) (T := TX10) (N := 49) hx hb hts inX10 hown hK hw h_p0 rfl rfl 12 (by decide) (hts _ tw_1149) (fun _ h9 => h9) (ft := vJ (-9223372036854775808) 9223372036854775807) rfl dX10_isOne_21 (fun u_3 hv_u_3 m_u_3 => ?_)
    obtain ⟨vu_3, rfl, r_vu_3⟩ := hv_u_3
    refine tk_ir (va_runS (As := [.ref vu_2, .int p1, .int p2, .long vu_3]) (rest := [.ref p0]) ⟨hx, hb, hml, hown, hts⟩ (c_X10_findIn__3 l D cy z H.size Ps w0 hw.1 vu_2 p1 p2 vu_3 h_vu_2 r_p1 r_p2 r_vu_3) (va_cwS 4 hts (gS tw_1352 tw_1353 tw_15 tw_1354) rfl rfl rfl (by decide +kernel) ⟨Nat.le_of_ble_eq_true rfl, Nat.le_of_ble_eq_true rfl⟩) (tg_preS hw hK hSD hA) rfl rfl hl.1 rfl (lv_room (Nat.le_of_ble_eq_true rfl)) dX10_isOne_24 ⟨Nat.le_of_ble_eq_true rfl, Nat.le_of_ble_eq_true rfl⟩) hw hA (fun v_4  H locs hp_v_4 hw => ?_)
    have r_v_4 : RI v_4 (-1) 7 := hp_v_4.1
    by_cases c9_v_4 : v_4.toInt < 0
    · have r_v_4 : RI v_4 (-1) (-1) := by unfold RI at r_v_4 ⊢; omega
      have x_NF_vu_2_p1_p2_vu_3 := (hp_v_4.2.2.2.2.1 (by omega)).1
      refine tg_put (ci := 10) (ts := ty_MODEL) (v := .int v_4) (ty := .int) (C := RX10) (T := TX10) (N := 49) hx hb hts inX10 tyX10 tyX10_ok nmX10 hown hK hw h_p0 rfl rfl 13 (by decide) (hts _ tw_1150) (fun _ h9 => h9) rfl (by decide +kernel) rfl rfl (ft := vI (-2147483648) 2147483647) rfl ⟨_, rfl, (r_v_4.to (by decide))⟩ (by decide) dX10_isOne_27 (fun ws H locs hw n_k_5 hF9 => ?_)
      refine lv_aload_n hx hb dX10_isOne_30 rfl (lv_at hl 0 rfl) ?_
      refine tg_mem (ci := 10) (C := RX10) (T := TX10) (N := 49) hx hb hts inX10 hown hK hw 13 n_k_5 rfl (by decide) (hts _ tw_1150) (fun _ h9 => h9) dX10_isOne_31 ?_
      refine lv_iconst (v := (-1)) hx hb dX10_isOne_34 (by decide) ?_
      refine lv_icmp_ne (tgt := 46) hx hb dX10_isOne_35 (by decide) (fun c_35 => ?_) (fun c_35 => ?_)
      · exact absurd (r_v_4.eq.trans rl_m1.eq.symm) ((ti_ne c_35))
      · refine lv_aload_n hx hb dX10_isOne_38 rfl (lv_at hl 0 rfl) ?_
        refine lv_iconst (v := 3) hx hb dX10_isOne_39 (by decide) ?_
        refine tk_i (va_runV (As := [.int 3]) (rest := []) ⟨hx, hb, hml, hown, hts⟩ (c_X10_bad l D cy z H.size Ps ws hw.1 p0 3 h_p0 (rl_3.to (by decide))) (cwV 1 hts (gV tw_1336 tw_1338 ts_46 tw_15 tw_1339) rfl rfl rfl (by decide +kernel) ⟨Nat.le_of_ble_eq_true rfl, Nat.le_of_ble_eq_true rfl⟩) (tg_preV hw hK hSD hA (ci := 10) (q := (RX10, TX10, 49)) rfl h_p0 rfl) rfl rfl hl.1 rfl (lv_room (Nat.le_of_ble_eq_true rfl)) dX10_isOne_40 ⟨Nat.le_of_ble_eq_true rfl, Nat.le_of_ble_eq_true rfl⟩) hw hA ⟨by decide, by decide⟩ (fun v_6 ws H locs hp_v_6 hw hF9 => ?_)
        have n_k_5 := FLD.over hF9 n_k_5 (by decide)
        have r_v_6 : RI v_6 0 0 := hp_v_6.1
        refine lv_if_eq (tgt := 50) hx hb dX10_isOne_43 (by decide) (fun c_43 => ?_) (fun c_43 => ?_)
        · refine lv_iconst (v := 0) hx hb dX10_isOne_50 (by decide) ?_
          subst hQ
          exact W.zret (v := 0) hx hb hr (rfl) (fun t ht hW => ⟨⟨0, ws, rfl, ⟨⟨rl_0.to (by decide), (fun h0 => trivial), (fun h0 => absurd rfl h0)⟩, hw.1, hw.2.2.2.2.1⟩, by rw [ht]; exact hw.2.1, va_K.moved hW.alike hK, hw.2.2.1⟩, hw.2.2.2.1.F ht⟩) hw.2.2.2.1.2.2 dX10_isOne_51
        · exact absurd (r_v_6.eq.trans rl_0.eq.symm) ((ti_ne c_43))
    · have r_v_4 : RI v_4 0 7 := by unfold RI at r_v_4 ⊢; omega
      have x_FD_vu_2_p1_p2_vu_3 := (hp_v_4.2.2.2.2.2 (by omega)).1
      have x_POS_p2 := (hp_v_4.2.2.2.2.2 (by omega)).2.1
      have r_p2 : RI p2 1 8 := ⟨x_POS_p2, r_p2.2⟩
      refine tg_put (ci := 10) (ts := ty_MODEL) (v := .int v_4) (ty := .int) (C := RX10) (T := TX10) (N := 49) hx hb hts inX10 tyX10 tyX10_ok nmX10 hown hK hw h_p0 rfl rfl 13 (by decide) (hts _ tw_1150) (fun _ h9 => h9) rfl (by decide +kernel) rfl rfl (ft := vI (-2147483648) 2147483647) rfl ⟨_, rfl, (r_v_4.to (by decide))⟩ (by decide) dX10_isOne_27 (fun ws H locs hw n_k_7 hF9 => ?_)
      refine lv_aload_n hx hb dX10_isOne_30 rfl (lv_at hl 0 rfl) ?_
      refine tg_mem (ci := 10) (C := RX10) (T := TX10) (N := 49) hx hb hts inX10 hown hK hw 13 n_k_7 rfl (by decide) (hts _ tw_1150) (fun _ h9 => h9) dX10_isOne_31 ?_
      refine lv_iconst (v := (-1)) hx hb dX10_isOne_34 (by decide) ?_
      refine lv_icmp_ne (tgt := 46) hx hb dX10_isOne_35 (by decide) (fun c_35 => ?_) (fun c_35 => ?_)
      · refine lv_iconst (v := 1) hx hb dX10_isOne_46 (by decide) ?_
        refine lv_goto (tgt := 51) hx hb dX10_isOne_47 (by decide) ?_
        subst hQ
        exact W.zret (v := 1) hx hb hr (rfl) (fun t ht hW => ⟨⟨1, ws, rfl, ⟨⟨rl_1.to (by decide), (fun _ => trivial), (fun h0 => ⟨r_p2, ⟨_, n_k_7, r_v_4⟩, trivial⟩)⟩, hw.1, hw.2.2.2.2.1⟩, by rw [ht]; exact hw.2.1, va_K.moved hW.alike hK, hw.2.2.1⟩, hw.2.2.2.1.F ht⟩) hw.2.2.2.1.2.2 dX10_isOne_51
      · have r_v_4 : RI v_4 0 (-1) := rc_eq1 r_v_4 rl_m1 (ti_eq c_35) (by decide)
        exact (r_v_4.no (by decide)).elim
  · have r_v_1 : RI v_1 0 0 := rc_eq1 r_v_1 rl_0 (ti_eq c_4) (by decide)
    refine lv_aload_n hx hb dX10_isOne_7 rfl (lv_at hl 0 rfl) ?_
    refine lv_iconst (v := 1) hx hb dX10_isOne_8 (by decide) ?_
    refine tk_i (va_runV (As := [.int 1]) (rest := []) ⟨hx, hb, hml, hown, hts⟩ (c_X10_bad l D cy z H.size Ps w0 hw.1 p0 1 h_p0 (rl_1.to (by decide))) (cwV 1 hts (gV tw_1336 tw_1338 ts_46 tw_15 tw_1339) rfl rfl rfl (by decide +kernel) ⟨Nat.le_of_ble_eq_true rfl, Nat.le_of_ble_eq_true rfl⟩) (tg_preV hw hK hSD hA (ci := 10) (q := (RX10, TX10, 49)) rfl h_p0 rfl) rfl rfl hl.1 rfl (lv_room (Nat.le_of_ble_eq_true rfl)) dX10_isOne_9 ⟨Nat.le_of_ble_eq_true rfl, Nat.le_of_ble_eq_true rfl⟩) hw hA ⟨by decide, by decide⟩ (fun v_8 ws H locs hp_v_8 hw hF9 => ?_)
    have r_v_8 : RI v_8 0 0 := hp_v_8.1
    subst hQ
    exact W.zret (v := v_8) hx hb hr (tq_nz (r_v_8.to (by decide))) (fun t ht hW => ⟨⟨v_8, ws, rfl, ⟨⟨r_v_8.to (by decide), (fun h0 => trivial), (fun h0 => absurd (Int32.toInt_inj.mp (by have h8 := r_v_8; unfold RI at h8; rw [Int32.toInt_zero]; omega)) h0)⟩, hw.1, hw.2.2.2.2.1⟩, by rw [ht]; exact hw.2.1, va_K.moved hW.alike hK, hw.2.2.1⟩, hw.2.2.2.1.F ht⟩) hw.2.2.2.1.2.2 dX10_isOne_12
abbrev wr_X10_put__6 : List (Nat × Nat) := []
abbrev wa_X10_put__6 : List Nat := []
set_option maxHeartbeats 4000000 in
set_option maxRecDepth 100000 in
theorem c_X10_put__6 (l : Launch) (D : va_G) (cy : Nat → ClassId) (z : Nat → Nat) (sz : Nat) (Ps : PSI) (w0 : va_W) (hT : HT cy GG Ps w0) (p0 : Nat) (p1 : Int32) (p2 : Int32) (F : (Nat → Int32) → Prop) (F2 : (Nat → Int32) → Prop) (h_p0 : (p0, 55) ∈ Ps) (r_p1 : RI p1 40 47) (r_p2 : RI p2 0 0) (x_F : AX 15 35 F Ps w0 p0) (hF : ∀ (f : Nat → Int32) (v : Int32), RI v (-2147483648) 2147483647 → F f → F2 (upd f (Int32.toNatClampNeg p1) v)) : Met l yX10_put (Cond.code yX10_put cX10_put 3 (some .boolean) :: gT) ({ frames := 0, cells := 0, slots := 0, locals := 200 } : Room) (va_Pc [.ref p0, .int p1, .int p2] (PRE D cy z w0 sz)) (va_Qi (fun (r : Int32) (u : Unit) => RI r 0 0 ∧ (r = 0 → AX 15 35 F Ps w0 p0 ∧ True) ∧ (¬ r = 0 → AX 15 35 F2 Ps w0 p0 ∧ True)) (BB D cy (va_A w0 sz) (fun (u : Unit) => w0)) (va_A w0 sz)) 0 0 (va_A w0 sz) := by
  refine Met.ofW (cc := cX10_put) (maxL := 3) (ret := (some .boolean)) (by decide) rfl ?_
  intro p e s m args below meth c s₁ B hml hv
  obtain ⟨rfl, hsz, hP, hK, hD0, hSD⟩ := hv
  have hx := B.exec
  have hb := B.bytes
  have hr := B.returns
  have hlocks := B.notSynchronized
  have hts : ∀ w ∈ gT, w.before _ s = true := fun w h => atoms_spec (ws := Cond.code yX10_put cX10_put 3 (some .boolean) :: gT) B.pre w (List.mem_cons_of_mem _ h)
  have hown : s.vm.findClass RX10 = some m.cls := findClass_of_methodNamed B.named
  subst hsz
  have hD := hD0.self (sz := s.heap.size)
  generalize hAe : va_A w0 s.heap.size = A at hD hSD ⊢
  have hA : ∀ q : Nat, s.heap.size ≤ q → A q := fun q h => by rw [← hAe]; exact Or.inr h
  have hl := lv_entry ([.ref p0, .int p1, .int p2]) (n := 3) (Nat.le_of_ble_eq_true rfl)
  rw [lg_entry_eq]
  generalize (lg_sl ([.ref p0, .int p1, .int p2]) ++ List.replicate (3 - (lg_sl ([.ref p0, .int p1, .int p2])).length) Slot.unset).toArray = ls at hl ⊢
  have hl : lv_has ls 3 [(0, .ref p0), (1, .int p1), (2, .int p2)] := hl
  refine nameQ (fun Q hQ => ?_)
  have hw : WD D cy GG A s wr_X10_put__6 wa_X10_put__6 Ps w0 Ps w0 s.heap [] := ⟨hT, hP, hD, va_S.rf, FR.rf, hT.1, [], (List.append_nil _).symm⟩
  refine lv_iload_n hx hb dX10_put_0 rfl (lv_at hl 2 rfl) ?_
  refine lv_if_eq (tgt := 14) hx hb dX10_put_1 (by decide) (fun c_1 => ?_) (fun c_1 => ?_)
  · refine lv_iload_n hx hb dX10_put_14 rfl (lv_at hl 2 rfl) ?_
    subst hQ
    exact W.zret (v := p2) hx hb hr (tq_nz (r_p2.to (by decide))) (fun t ht hW => ⟨⟨p2, (), rfl, ⟨r_p2.to (by decide), (fun h0 => ⟨x_F, trivial⟩), (fun h0 => absurd (Int32.toInt_inj.mp (by have h8 := r_p2; unfold RI at h8; rw [Int32.toInt_zero]; omega)) h0)⟩, by rw [ht]; exact hw.2.1, va_K.moved hW.alike hK, hw.2.2.1⟩, hw.2.2.2.1.F ht⟩) hw.2.2.2.1.2.2 dX10_put_15
  · exact absurd (r_p2.eq.trans rl_0.eq.symm) ((ti_ne c_1))
abbrev wr_X10_put__7 : List (Nat × Nat) := []
abbrev wa_X10_put__7 : List Nat := [35]
set_option maxHeartbeats 4000000 in
set_option maxRecDepth 100000 in
theorem c_X10_put__7 (l : Launch) (D : va_G) (cy : Nat → ClassId) (z : Nat → Nat) (sz : Nat) (Ps : PSI) (w0 : va_W) (hT : HT cy GG Ps w0) (p0 : Nat) (p1 : Int32) (p2 : Int32) (f0_13 : Int32) (F : (Nat → Int32) → Prop) (F2 : (Nat → Int32) → Prop) (h_p0 : (p0, 55) ∈ Ps) (r_p1 : RI p1 40 47) (r_p2 : RI p2 1 1) (r_f0_13 : RI f0_13 0 5) (m_f0_13 : FLD w0 p0 10 13 (.int f0_13)) (x_F : AX 15 35 F Ps w0 p0) (hF : ∀ (f : Nat → Int32) (v : Int32), RI v 0 5 → F f → F2 (upd f (Int32.toNatClampNeg p1) v)) : Met l yX10_put (Cond.code yX10_put cX10_put 3 (some .boolean) :: gT) ({ frames := 0, cells := 0, slots := 0, locals := 200 } : Room) (va_Pc [.ref p0, .int p1, .int p2] (PRE D cy z w0 sz)) (va_Qi (fun (r : Int32) (u : va_W) => (RI r 1 1 ∧ (r = 0 → AX 15 35 F Ps u p0 ∧ True) ∧ (¬ r = 0 → (∃ v9 : Int32, FLD u p0 10 13 (.int v9) ∧ RI v9 0 5) ∧ AX 15 35 F2 Ps u p0 ∧ True)) ∧ HT cy GG Ps u ∧ FR wr_X10_put__7 wa_X10_put__7 Ps w0 u) (BB D cy (va_A w0 sz) (fun (u : va_W) => u)) (va_A w0 sz)) 0 0 (va_A w0 sz) := by
  refine Met.ofW (cc := cX10_put) (maxL := 3) (ret := (some .boolean)) (by decide) rfl ?_
  intro p e s m args below meth c s₁ B hml hv
  obtain ⟨rfl, hsz, hP, hK, hD0, hSD⟩ := hv
  have hx := B.exec
  have hb := B.bytes
  have hr := B.returns
  have hlocks := B.notSynchronized
  have hts : ∀ w ∈ gT, w.before _ s = true := fun w h => atoms_spec (ws := Cond.code yX10_put cX10_put 3 (some .boolean) :: gT) B.pre w (List.mem_cons_of_mem _ h)
  have hown : s.vm.findClass RX10 = some m.cls := findClass_of_methodNamed B.named
  subst hsz
  have hD := hD0.self (sz := s.heap.size)
  generalize hAe : va_A w0 s.heap.size = A at hD hSD ⊢
  have hA : ∀ q : Nat, s.heap.size ≤ q → A q := fun q h => by rw [← hAe]; exact Or.inr h
  have hl := lv_entry ([.ref p0, .int p1, .int p2]) (n := 3) (Nat.le_of_ble_eq_true rfl)
  rw [lg_entry_eq]
  generalize (lg_sl ([.ref p0, .int p1, .int p2]) ++ List.replicate (3 - (lg_sl ([.ref p0, .int p1, .int p2])).length) Slot.unset).toArray = ls at hl ⊢
  have hl : lv_has ls 3 [(0, .ref p0), (1, .int p1), (2, .int p2)] := hl
  refine nameQ (fun Q hQ => ?_)
  have hw : WD D cy GG A s wr_X10_put__7 wa_X10_put__7 Ps w0 Ps w0 s.heap [] := ⟨hT, hP, hD, va_S.rf, FR.rf, hT.1, [], (List.append_nil _).symm⟩
  refine lv_iload_n hx hb dX10_put_0 rfl (lv_at hl 2 rfl) ?_
  refine lv_if_eq (tgt := 14) hx hb dX10_put_1 (by decide) (fun c_1 => ?_) (fun c_1 => ?_)
  · have r_p2 : RI p2 1 0 := rc_eq1 r_p2 rl_0 (ti_eq c_1) (by decide)
    exact (r_p2.no (by decide)).elim
  · refine lv_aload_n hx hb dX10_put_4 rfl (lv_at hl 0 rfl) ?_
    refine tg_get (ci := 10) (ts := ty_MODEL) (C := RX10) (T := TX10) (N := 49) hx hb hts inX10 hown hK hw h_p0 rfl rfl 15 (by decide) (hts _ tw_1152) (fun _ h9 => h9) (ft := vR 35) rfl dX10_put_5 (fun u_1 hv_u_1 m_u_1 => ?_)
    obtain ⟨vu_1, rfl, h_vu_1⟩ := hv_u_1
    refine lv_iload_n hx hb dX10_put_8 rfl (lv_at hl 1 rfl) ?_
    refine lv_aload_n hx hb dX10_put_9 rfl (lv_at hl 0 rfl) ?_
    refine tg_mem (ci := 10) (C := RX10) (T := TX10) (N := 49) hx hb hts inX10 hown hK hw 13 m_f0_13 rfl (by decide) (hts _ tw_1150) (fun _ h9 => h9) dX10_put_10 ?_
    refine tg_iast hx hb hK hw h_vu_1 rfl 40 47 r_p1 (by decide) r_f0_13 (by decide +kernel) (fun _ _ _ _ _ => trivial) (by decide) dX10_put_13 (fun ws H locs hw hF9 hU9 => ?_)
    have x_GFRB_p0 : AX 15 35 F2 Ps ws p0 := AX.ast hF9 hU9 x_F m_u_1 (fun f9 h9 => hF f9 _ r_f0_13 h9)
    have m_f0_13 := FLD.over hF9 m_f0_13 (by decide)
    refine lv_iload_n hx hb dX10_put_14 rfl (lv_at hl 2 rfl) ?_
    subst hQ
    exact W.zret (v := p2) hx hb hr (tq_nz (r_p2.to (by decide))) (fun t ht hW => ⟨⟨p2, ws, rfl, ⟨⟨r_p2.to (by decide), (fun h0 => absurd (ti_eq h0) (by have h8 := r_p2; unfold RI at h8; rw [Int32.toInt_zero]; omega)), (fun h0 => ⟨⟨_, m_f0_13, r_f0_13⟩, x_GFRB_p0, trivial⟩)⟩, hw.1, hw.2.2.2.2.1⟩, by rw [ht]; exact hw.2.1, va_K.moved hW.alike hK, hw.2.2.1⟩, hw.2.2.2.1.F ht⟩) hw.2.2.2.1.2.2 dX10_put_15
abbrev wr_X10_readSits : List (Nat × Nat) := [(10, 5), (10, 6), (10, 7), (10, 8), (10, 9), (10, 10), (10, 11), (10, 12), (10, 13)]
abbrev wa_X10_readSits : List Nat := [35]
set_option maxHeartbeats 4000000 in
set_option maxRecDepth 100000 in
theorem c_X10_readSits (l : Launch) (D : va_G) (cy : Nat → ClassId) (z : Nat → Nat) (sz : Nat) (Ps : PSI) (w0 : va_W) (hT : HT cy GG Ps w0) (p0 : Nat) (gh : Int) (h_p0 : (p0, 55) ∈ Ps) (x_TO_p0_gh : TOP w0 p0 (gh)) (x_RH_p0 : AX 15 35 (fun f => RH2p f) Ps w0 p0) : Met l yX10_readSits (Cond.code yX10_readSits cX10_readSits 2 (some .boolean) :: gT) ({ frames := 6, cells := 0, slots := 0, locals := 1200 } : Room) (va_Pc [.ref p0] (PRE D cy z w0 sz)) (va_Qi (fun (r : Int32) (u : va_W) => (RI r 0 1 ∧ (r = 0 → True) ∧ (¬ r = 0 → (∃ v9 : Int32, FLD u p0 10 13 (.int v9) ∧ RI v9 0 5) ∧ TKP u p0 (gh) ∧ AX 15 35 (fun f => RH2p f) Ps u p0 ∧ True)) ∧ HT cy GG Ps u ∧ FR wr_X10_readSits wa_X10_readSits Ps w0 u) (BB D cy (va_A w0 sz) (fun (u : va_W) => u)) (va_A w0 sz)) 0 0 (va_A w0 sz) := by
  refine Met.ofW (cc := cX10_readSits) (maxL := 2) (ret := (some .boolean)) (by decide) rfl ?_
  intro p e s m args below meth c s₁ B hml hv
  obtain ⟨rfl, hsz, hP, hK, hD0, hSD⟩ := hv
  have hx := B.exec
  have hb := B.bytes
  have hr := B.returns
  have hlocks := B.notSynchronized
  have hts : ∀ w ∈ gT, w.before _ s = true := fun w h => atoms_spec (ws := Cond.code yX10_readSits cX10_readSits 2 (some .boolean) :: gT) B.pre w (List.mem_cons_of_mem _ h)
  have hown : s.vm.findClass RX10 = some m.cls := findClass_of_methodNamed B.named
  subst hsz
  have hD := hD0.self (sz := s.heap.size)
  generalize hAe : va_A w0 s.heap.size = A at hD hSD ⊢
  have hA : ∀ q : Nat, s.heap.size ≤ q → A q := fun q h => by rw [← hAe]; exact Or.inr h
  have hl := lv_entry ([.ref p0]) (n := 2) (Nat.le_of_ble_eq_true rfl)
  rw [lg_entry_eq]
  generalize (lg_sl ([.ref p0]) ++ List.replicate (2 - (lg_sl ([.ref p0])).length) Slot.unset).toArray = ls at hl ⊢
  have hl : lv_has ls 2 [(0, .ref p0)] := hl
  refine nameQ (fun Q hQ => ?_)
  have hw : WD D cy GG A s wr_X10_readSits wa_X10_readSits Ps w0 Ps w0 s.heap [] := ⟨hT, hP, hD, va_S.rf, FR.rf, hT.1, [], (List.append_nil _).symm⟩
  refine lv_aload_n hx hb dX10_readSits_0 rfl (lv_at hl 0 rfl) ?_
  refine tk_v (va_runV (As := []) (rest := []) ⟨hx, hb, hml, hown, hts⟩ (c_X10_go__1 l D cy z s.heap.size Ps w0 hw.1 p0 (gh) h_p0 x_TO_p0_gh) (cwV 0 hts (gV tw_1298 tw_1300 ts_40 tw_15 tw_1301) rfl rfl rfl (by decide +kernel) ⟨Nat.le_of_ble_eq_true rfl, Nat.le_of_ble_eq_true rfl⟩) (tg_preV hw hK hSD hA (ci := 10) (q := (RX10, TX10, 49)) rfl h_p0 rfl) rfl rfl hl.1 rfl (lv_room (Nat.le_of_ble_eq_true rfl)) dX10_readSits_1 ⟨Nat.le_of_ble_eq_true rfl, Nat.le_of_ble_eq_true rfl⟩) hw hA ⟨by decide, by decide⟩ (fun ws H locs hp_v_1 hw hF9 => ?_)
  have x_RH_p0 := AX.over hF9 x_RH_p0 (by decide)
  have x_TOK_p0_gh := (hp_v_1.1)
  refine lv_aload_n hx hb dX10_readSits_4 rfl (lv_at hl 0 rfl) ?_
  refine lv_bipush (v := 16) hx hb dX10_readSits_5 (by decide) ?_
  refine lv_aload_n hx hb dX10_readSits_7 rfl (lv_at hl 0 rfl) ?_
  refine tg_get (ci := 10) (ts := ty_MODEL) (C := RX10) (T := TX10) (N := 49) hx hb hts inX10 hown hK hw h_p0 rfl rfl 15 (by decide) (hts _ tw_1152) (fun _ h9 => h9) (ft := vR 35) rfl dX10_readSits_8 (fun u_2 hv_u_2 m_u_2 => ?_)
  obtain ⟨vu_2, rfl, h_vu_2⟩ := hv_u_2
  refine lv_iconst (v := 3) hx hb dX10_readSits_11 (by decide) ?_
  refine tg_iald (lo := 0) (hi := 8) hx hb hK hw h_vu_2 rfl 3 3 rl_3 (by decide) (by decide +kernel) dX10_readSits_12 (fun v_3 r_v_3 m_v_3 o_v_3 => ?_)
  have hw8 := hw
  refine tk_i (va_runV (As := [.int 16, .int v_3]) (rest := []) ⟨hx, hb, hml, hown, hts⟩ (c_X10_isOne__2 l D cy z H.size Ps ws hw.1 p0 16 v_3 h_p0 rl_16 r_v_3) (cwV 2 hts (gV tw_1378 tw_1380 ts_55 tw_15 tw_1381) rfl rfl rfl (by decide +kernel) ⟨Nat.le_of_ble_eq_true rfl, Nat.le_of_ble_eq_true rfl⟩) (tg_preV hw hK hSD hA (ci := 10) (q := (RX10, TX10, 49)) rfl h_p0 rfl) rfl rfl hl.1 rfl (lv_room (Nat.le_of_ble_eq_true rfl)) dX10_readSits_13 ⟨Nat.le_of_ble_eq_true rfl, Nat.le_of_ble_eq_true rfl⟩) hw hA ⟨by decide, by decide⟩ (fun v_4 ws H locs hp_v_4 hw hF9 => ?_)
  have m_v_3 := AEL.over hw8 hF9 h_vu_2 m_v_3 (by decide)
  have m_u_2 := FLD.over hF9 m_u_2 (by decide)
  have x_RH_p0 := AX.over hF9 x_RH_p0 (by decide)
  have x_TOK_p0_gh := TKP.over hF9 x_TOK_p0_gh (by decide)
  have r_v_4 : RI v_4 0 1 := hp_v_4.1
  by_cases c9_v_4 : v_4 = 0
  · have r_v_4 : RI v_4 0 0 := by rw [c9_v_4]; exact rl_0
    refine lv_if_ne (tgt := 21) hx hb dX10_readSits_16 (by decide) (fun c_16 => ?_) (fun c_16 => ?_)
    · exact absurd (r_v_4.eq.trans rl_0.eq.symm) ((ti_ne c_16))
    · refine lv_iconst (v := 0) hx hb dX10_readSits_19 (by decide) ?_
      subst hQ
      exact W.zret (v := 0) hx hb hr (rfl) (fun t ht hW => ⟨⟨0, ws, rfl, ⟨⟨rl_0.to (by decide), (fun h0 => trivial), (fun h0 => absurd rfl h0)⟩, hw.1, hw.2.2.2.2.1⟩, by rw [ht]; exact hw.2.1, va_K.moved hW.alike hK, hw.2.2.1⟩, hw.2.2.2.1.F ht⟩) hw.2.2.2.1.2.2 dX10_readSits_20
  · have r_v_4 : RI v_4 1 1 := rc_neL r_v_4 rl_0 (ti_ne c9_v_4) (by decide)
    have r_v_3 : RI v_3 1 8 := ((hp_v_4.2.2 c9_v_4).1)
    obtain ⟨v_5, m_v_5, r_v_5⟩ := ((hp_v_4.2.2 c9_v_4).2.1)
    refine lv_if_ne (tgt := 21) hx hb dX10_readSits_16 (by decide) (fun c_16 => ?_) (fun c_16 => ?_)
    · refine lv_bipush (v := 40) hx hb dX10_readSits_21 (by decide) ?_
      refine lv_aload_n hx hb dX10_readSits_23 rfl (lv_at hl 0 rfl) ?_
      refine tg_mem (ci := 10) (C := RX10) (T := TX10) (N := 49) hx hb hts inX10 hown hK hw 13 m_v_5 rfl (by decide) (hts _ tw_1150) (fun _ h9 => h9) dX10_readSits_24 ?_
      refine lv_iadd hx hb dX10_readSits_27 (lv_topi (fun v_6 e_v_6 => ?_))
      obtain ⟨t_v_6, r_v_6⟩ := tq_add (lo := 40) (hi := 47) rl_40 r_v_5 (by decide +kernel) e_v_6
      have t_v_6 : v_6.toInt = 40 + v_5.toInt := t_v_6
      refine lv_istore_n (lv' := [(1, .int v_6), (0, .ref p0)]) hx hb dX10_readSits_28 rfl hl (by decide) rfl (fun ls hl => ?_)
      refine lv_aload_n hx hb dX10_readSits_29 rfl (lv_at hl 1 rfl) ?_
      refine tg_mem (ci := 10) (C := RX10) (T := TX10) (N := 49) hx hb hts inX10 hown hK hw 15 m_u_2 rfl (by decide) (hts _ tw_1152) (fun _ h9 => h9) dX10_readSits_30 ?_
      refine lv_iload_n hx hb dX10_readSits_33 rfl (lv_at hl 0 rfl) ?_
      refine tg_iald (lo := (-1)) (hi := 5) hx hb hK hw h_vu_2 rfl 40 47 r_v_6 (by decide) (by decide +kernel) dX10_readSits_34 (fun v_7 r_v_7 m_v_7 o_v_7 => ?_)
      refine lv_iconst (v := (-1)) hx hb dX10_readSits_35 (by decide) ?_
      refine lv_icmp_eq (tgt := 45) hx hb dX10_readSits_36 (by decide) (fun c_36 => ?_) (fun c_36 => ?_)
      · have r_v_7 : RI v_7 (-1) (-1) := rc_eq1 r_v_7 rl_m1 (ti_eq c_36) (by decide)
        refine lv_aload_n hx hb dX10_readSits_45 rfl (lv_at hl 1 rfl) ?_
        have x_TO_p0_gh : TOP ws p0 (gh) := TKP.top x_TOK_p0_gh
        have hw8 := hw
        refine tk_v (va_runV (As := []) (rest := []) ⟨hx, hb, hml, hown, hts⟩ (c_X10_go__1 l D cy z H.size Ps ws hw.1 p0 (gh) h_p0 x_TO_p0_gh) (cwV 0 hts (gV tw_1298 tw_1300 ts_40 tw_15 tw_1301) rfl rfl rfl (by decide +kernel) ⟨Nat.le_of_ble_eq_true rfl, Nat.le_of_ble_eq_true rfl⟩) (tg_preV hw hK hSD hA (ci := 10) (q := (RX10, TX10, 49)) rfl h_p0 rfl) rfl rfl hl.1 rfl (lv_room (Nat.le_of_ble_eq_true rfl)) dX10_readSits_46 ⟨Nat.le_of_ble_eq_true rfl, Nat.le_of_ble_eq_true rfl⟩) hw hA ⟨by decide, by decide⟩ (fun ws H locs hp_v_8 hw hF9 => ?_)
        have m_v_3 := AEL.over hw8 hF9 h_vu_2 m_v_3 (by decide)
        have m_v_7 := AEL.over hw8 hF9 h_vu_2 m_v_7 (by decide)
        have m_u_2 := FLD.over hF9 m_u_2 (by decide)
        have m_v_5 := FLD.over hF9 m_v_5 (by decide)
        have x_RH_p0 := AX.over hF9 x_RH_p0 (by decide)
        have x_TOK_p0_gh := (hp_v_8.1)
        refine lv_aload_n hx hb dX10_readSits_49 rfl (lv_at hl 1 rfl) ?_
        refine lv_iload_n hx hb dX10_readSits_50 rfl (lv_at hl 0 rfl) ?_
        refine lv_aload_n hx hb dX10_readSits_51 rfl (lv_at hl 1 rfl) ?_
        refine lv_bipush (v := 10) hx hb dX10_readSits_52 (by decide) ?_
        refine lv_aload_n hx hb dX10_readSits_54 rfl (lv_at hl 1 rfl) ?_
        refine tg_mem (ci := 10) (C := RX10) (T := TX10) (N := 49) hx hb hts inX10 hown hK hw 15 m_u_2 rfl (by decide) (hts _ tw_1152) (fun _ h9 => h9) dX10_readSits_55 ?_
        refine lv_iconst (v := 2) hx hb dX10_readSits_58 (by decide) ?_
        refine tg_iald (lo := 0) (hi := 6) hx hb hK hw h_vu_2 rfl 2 2 rl_2 (by decide) (by decide +kernel) dX10_readSits_59 (fun v_9 r_v_9 m_v_9 o_v_9 => ?_)
        have x_TO_p0_gh : TOP ws p0 (gh) := TKP.top x_TOK_p0_gh
        have hw8 := hw
        refine tk_i (va_runV (As := [.int 10, .int v_9]) (rest := [.int v_6, .ref p0]) ⟨hx, hb, hml, hown, hts⟩ (c_X10_readOne l D cy z H.size Ps ws hw.1 p0 10 v_9 (gh) h_p0 rl_10 r_v_9 x_TO_p0_gh) (cwV 2 hts (gV tw_1374 tw_1376 ts_54 tw_15 tw_1377) rfl rfl rfl (by decide +kernel) ⟨Nat.le_of_ble_eq_true rfl, Nat.le_of_ble_eq_true rfl⟩) (tg_preV hw hK hSD hA (ci := 10) (q := (RX10, TX10, 49)) rfl h_p0 rfl) rfl rfl hl.1 rfl (lv_room (Nat.le_of_ble_eq_true rfl)) dX10_readSits_60 ⟨Nat.le_of_ble_eq_true rfl, Nat.le_of_ble_eq_true rfl⟩) hw hA ⟨by decide, by decide⟩ (fun v_10 ws H locs hp_v_10 hw hF9 => ?_)
        have m_v_3 := AEL.over hw8 hF9 h_vu_2 m_v_3 (by decide)
        have m_v_7 := AEL.over hw8 hF9 h_vu_2 m_v_7 (by decide)
        have m_v_9 := AEL.over hw8 hF9 h_vu_2 m_v_9 (by decide)
        have m_u_2 := FLD.over hF9 m_u_2 (by decide)
        have x_RH_p0 := AX.over hF9 x_RH_p0 (by decide)
        have r_v_10 : RI v_10 0 1 := hp_v_10.1
        by_cases c9_v_10 : v_10 = 0
        · have r_v_10 : RI v_10 0 0 := by rw [c9_v_10]; exact rl_0
          refine tk_ir (va_runV (As := [.int v_6, .int v_10]) (rest := []) ⟨hx, hb, hml, hown, hts⟩ (c_X10_put__6 l D cy z H.size Ps ws hw.1 p0 v_6 v_10 (fun f => RH2p f ∧ True) (fun f => RH2p f ∧ True) h_p0 r_v_6 r_v_10 (AX.and hw x_RH_p0 (rx_true hw h_p0)) (fun f9 v9 hv9 H9 => ⟨(have h9 := H9.1; RH_keep h9 (by have k4 := r_v_6.cl (by decide); have k5 := r_v_6; unfold RI at k5; omega)), trivial⟩)) (cwV 2 hts (gV tw_1362 tw_1364 ts_51 tw_15 tw_1365) rfl rfl rfl (by decide +kernel) ⟨Nat.le_of_ble_eq_true rfl, Nat.le_of_ble_eq_true rfl⟩) (tg_preV hw hK hSD hA (ci := 10) (q := (RX10, TX10, 49)) rfl h_p0 rfl) rfl rfl hl.1 rfl (lv_room (Nat.le_of_ble_eq_true rfl)) dX10_readSits_63 ⟨Nat.le_of_ble_eq_true rfl, Nat.le_of_ble_eq_true rfl⟩) hw hA (fun v_11  H locs hp_v_11 hw => ?_)
          have r_v_11 : RI v_11 0 0 := hp_v_11.1
          by_cases c9_v_11 : v_11 = 0
          · have r_v_11 : RI v_11 0 0 := by rw [c9_v_11]; exact rl_0
            have x_RH_p0 : AX 15 35 (fun f => RH2p f) Ps ws p0 := AX.imp ((hp_v_11.2.1 c9_v_11).1) (fun _ h9 => h9.1)
            subst hQ
            exact W.zret (v := v_11) hx hb hr (tq_nz (r_v_11.to (by decide))) (fun t ht hW => ⟨⟨v_11, ws, rfl, ⟨⟨r_v_11.to (by decide), (fun h0 => trivial), (fun h0 => absurd (Int32.toInt_inj.mp (by have h8 := r_v_11; unfold RI at h8; rw [Int32.toInt_zero]; omega)) h0)⟩, hw.1, hw.2.2.2.2.1⟩, by rw [ht]; exact hw.2.1, va_K.moved hW.alike hK, hw.2.2.1⟩, hw.2.2.2.1.F ht⟩) hw.2.2.2.1.2.2 dX10_readSits_66
          · exact absurd (Int32.toInt_inj.mp (by rw [Int32.toInt_zero]; unfold RI at r_v_11; omega)) c9_v_11
        · have r_v_10 : RI v_10 1 1 := rc_neL r_v_10 rl_0 (ti_ne c9_v_10) (by decide)
          have r_v_9 : RI v_9 1 6 := ((hp_v_10.2.2 c9_v_10).1)
          obtain ⟨v_12, m_v_12, r_v_12⟩ := ((hp_v_10.2.2 c9_v_10).2.1)
          have x_TOK_p0_gh := ((hp_v_10.2.2 c9_v_10).2.2.1)
          have hw8 := hw
          refine tk_i (va_runV (As := [.int v_6, .int v_10]) (rest := []) ⟨hx, hb, hml, hown, hts⟩ (c_X10_put__7 l D cy z H.size Ps ws hw.1 p0 v_6 v_10 v_12 (fun f => RH2p f ∧ True) (fun f => RH2p f ∧ True) h_p0 r_v_6 r_v_10 r_v_12 m_v_12 (AX.and hw x_RH_p0 (rx_true hw h_p0)) (fun f9 v9 hv9 H9 => ⟨(have h9 := H9.1; RH_keep h9 (by have k4 := r_v_6.cl (by decide); have k5 := r_v_6; unfold RI at k5; omega)), trivial⟩)) (cwV 2 hts (gV tw_1362 tw_1364 ts_51 tw_15 tw_1365) rfl rfl rfl (by decide +kernel) ⟨Nat.le_of_ble_eq_true rfl, Nat.le_of_ble_eq_true rfl⟩) (tg_preV hw hK hSD hA (ci := 10) (q := (RX10, TX10, 49)) rfl h_p0 rfl) rfl rfl hl.1 rfl (lv_room (Nat.le_of_ble_eq_true rfl)) dX10_readSits_63 ⟨Nat.le_of_ble_eq_true rfl, Nat.le_of_ble_eq_true rfl⟩) hw hA ⟨by decide, by decide⟩ (fun v_13 ws H locs hp_v_13 hw hF9 => ?_)
          have m_u_2 := FLD.over hF9 m_u_2 (by decide)
          have m_v_12 := FLD.over hF9 m_v_12 (by decide)
          have x_TOK_p0_gh := TKP.over hF9 x_TOK_p0_gh (by decide)
          have r_v_13 : RI v_13 1 1 := hp_v_13.1
          by_cases c9_v_13 : v_13 = 0
          · exact absurd (ti_eq c9_v_13) (by unfold RI at r_v_13; rw [Int32.toInt_zero]; omega)
          · obtain ⟨v_14, m_v_14, r_v_14⟩ := ((hp_v_13.2.2 c9_v_13).1)
            have x_RH_p0 : AX 15 35 (fun f => RH2p f) Ps ws p0 := AX.imp ((hp_v_13.2.2 c9_v_13).2.1) (fun _ h9 => h9.1)
            subst hQ
            exact W.zret (v := v_13) hx hb hr (tq_nz (r_v_13.to (by decide))) (fun t ht hW => ⟨⟨v_13, ws, rfl, ⟨⟨r_v_13.to (by decide), (fun _ => trivial), (fun h0 => ⟨⟨_, m_v_14, r_v_14⟩, x_TOK_p0_gh, x_RH_p0, trivial⟩)⟩, hw.1, hw.2.2.2.2.1⟩, by rw [ht]; exact hw.2.1, va_K.moved hW.alike hK, hw.2.2.1⟩, hw.2.2.2.1.F ht⟩) hw.2.2.2.1.2.2 dX10_readSits_66
      · have r_v_7 : RI v_7 0 5 := rc_neL r_v_7 rl_m1 (ti_ne c_36) (by decide)
        refine lv_aload_n hx hb dX10_readSits_39 rfl (lv_at hl 1 rfl) ?_
        refine lv_iconst (v := 3) hx hb dX10_readSits_40 (by decide) ?_
        have hw8 := hw
        refine tk_i (va_runV (As := [.int 3]) (rest := []) ⟨hx, hb, hml, hown, hts⟩ (c_X10_bad l D cy z H.size Ps ws hw.1 p0 3 h_p0 (rl_3.to (by decide))) (cwV 1 hts (gV tw_1336 tw_1338 ts_46 tw_15 tw_1339) rfl rfl rfl (by decide +kernel) ⟨Nat.le_of_ble_eq_true rfl, Nat.le_of_ble_eq_true rfl⟩) (tg_preV hw hK hSD hA (ci := 10) (q := (RX10, TX10, 49)) rfl h_p0 rfl) rfl rfl hl.1 rfl (lv_room (Nat.le_of_ble_eq_true rfl)) dX10_readSits_41 ⟨Nat.le_of_ble_eq_true rfl, Nat.le_of_ble_eq_true rfl⟩) hw hA ⟨by decide, by decide⟩ (fun v_15 ws H locs hp_v_15 hw hF9 => ?_)
        have m_v_3 := AEL.over hw8 hF9 h_vu_2 m_v_3 (by decide)
        have m_v_7 := AEL.over hw8 hF9 h_vu_2 m_v_7 (by decide)
        have m_u_2 := FLD.over hF9 m_u_2 (by decide)
        have m_v_5 := FLD.over hF9 m_v_5 (by decide)
        have x_RH_p0 := AX.over hF9 x_RH_p0 (by decide)
        have x_TOK_p0_gh := TKP.over hF9 x_TOK_p0_gh (by decide)
        have r_v_15 : RI v_15 0 0 := hp_v_15.1
        subst hQ
        exact W.zret (v := v_15) hx hb hr (tq_nz (r_v_15.to (by decide))) (fun t ht hW => ⟨⟨v_15, ws, rfl, ⟨⟨r_v_15.to (by decide), (fun h0 => trivial), (fun h0 => absurd (Int32.toInt_inj.mp (by have h8 := r_v_15; unfold RI at h8; rw [Int32.toInt_zero]; omega)) h0)⟩, hw.1, hw.2.2.2.2.1⟩, by rw [ht]; exact hw.2.1, va_K.moved hW.alike hK, hw.2.2.1⟩, hw.2.2.2.1.F ht⟩) hw.2.2.2.1.2.2 dX10_readSits_44
    · have r_v_4 : RI v_4 1 0 := rc_eq1 r_v_4 rl_0 (ti_eq c_16) (by decide)
      exact (r_v_4.no (by decide)).elim
abbrev wr_X10_readFirst : List (Nat × Nat) := [(10, 5), (10, 6), (10, 7), (10, 8), (10, 9), (10, 10), (10, 11), (10, 12)]
abbrev wa_X10_readFirst : List Nat := []
set_option maxHeartbeats 4000000 in
set_option maxRecDepth 100000 in
theorem c_X10_readFirst (l : Launch) (D : va_G) (cy : Nat → ClassId) (z : Nat → Nat) (sz : Nat) (Ps : PSI) (w0 : va_W) (hT : HT cy GG Ps w0) (p0 : Nat) (p1 : Int32) (p2 : Int32) (gh : Int) (h_p0 : (p0, 55) ∈ Ps) (r_p1 : RI p1 3 3) (r_p2 : RI p2 8 8) (x_TO_p0_gh : TOP w0 p0 (gh)) : Met l yX10_readFirst (Cond.code yX10_readFirst cX10_readFirst 3 (some .boolean) :: gT) ({ frames := 3, cells := 0, slots := 0, locals := 600 } : Room) (va_Pc [.ref p0, .int p1, .int p2] (PRE D cy z w0 sz)) (va_Qi (fun (r : Int32) (u : va_W) => (RI r 0 1 ∧ (r = 0 → True) ∧ (¬ r = 0 → TKP u p0 (gh) ∧ AX 15 35 (fun f => (f (Int32.toNatClampNeg p1)).toInt < Int32.toInt p2) Ps u p0 ∧ True)) ∧ HT cy GG Ps u ∧ FR wr_X10_readFirst wa_X10_readFirst Ps w0 u) (BB D cy (va_A w0 sz) (fun (u : va_W) => u)) (va_A w0 sz)) 0 0 (va_A w0 sz) := by
  refine Met.ofW (cc := cX10_readFirst) (maxL := 3) (ret := (some .boolean)) (by decide) rfl ?_
  intro p e s m args below meth c s₁ B hml hv
  obtain ⟨rfl, hsz, hP, hK, hD0, hSD⟩ := hv
  have hx := B.exec
  have hb := B.bytes
  have hr := B.returns
  have hlocks := B.notSynchronized
  have hts : ∀ w ∈ gT, w.before _ s = true := fun w h => atoms_spec (ws := Cond.code yX10_readFirst cX10_readFirst 3 (some .boolean) :: gT) B.pre w (List.mem_cons_of_mem _ h)
  have hown : s.vm.findClass RX10 = some m.cls := findClass_of_methodNamed B.named
  subst hsz
  have hD := hD0.self (sz := s.heap.size)
  generalize hAe : va_A w0 s.heap.size = A at hD hSD ⊢
  have hA : ∀ q : Nat, s.heap.size ≤ q → A q := fun q h => by rw [← hAe]; exact Or.inr h
  have hl := lv_entry ([.ref p0, .int p1, .int p2]) (n := 3) (Nat.le_of_ble_eq_true rfl)
  rw [lg_entry_eq]
  generalize (lg_sl ([.ref p0, .int p1, .int p2]) ++ List.replicate (3 - (lg_sl ([.ref p0, .int p1, .int p2])).length) Slot.unset).toArray = ls at hl ⊢
  have hl : lv_has ls 3 [(0, .ref p0), (1, .int p1), (2, .int p2)] := hl
  refine nameQ (fun Q hQ => ?_)
  have hw : WD D cy GG A s wr_X10_readFirst wa_X10_readFirst Ps w0 Ps w0 s.heap [] := ⟨hT, hP, hD, va_S.rf, FR.rf, hT.1, [], (List.append_nil _).symm⟩
  refine lv_aload_n hx hb dX10_readFirst_0 rfl (lv_at hl 0 rfl) ?_
  refine tg_get (ci := 10) (ts := ty_MODEL) (C := RX10) (T := TX10) (N := 49) hx hb hts inX10 hown hK hw h_p0 rfl rfl 15 (by decide) (hts _ tw_1152) (fun _ h9 => h9) (ft := vR 35) rfl dX10_readFirst_1 (fun u_1 hv_u_1 m_u_1 => ?_)
  obtain ⟨vu_1, rfl, h_vu_1⟩ := hv_u_1
  refine lv_iload_n hx hb dX10_readFirst_4 rfl (lv_at hl 1 rfl) ?_
  refine tg_iald (lo := 0) (hi := 8) hx hb hK hw h_vu_1 rfl 3 3 r_p1 (by decide) (by decide +kernel) dX10_readFirst_5 (fun v_2 r_v_2 m_v_2 o_v_2 => ?_)
  refine lv_iload_n hx hb dX10_readFirst_6 rfl (lv_at hl 2 rfl) ?_
  refine lv_icmp_ne (tgt := 16) hx hb dX10_readFirst_7 (by decide) (fun c_7 => ?_) (fun c_7 => ?_)
  · have r_v_2 : RI v_2 0 7 := rc_neU r_v_2 r_p2 (ti_ne c_7) (by decide)
    have x_RLT_p0_p1_p2 : AX 15 35 (fun f => (f (Int32.toNatClampNeg p1)).toInt < Int32.toInt p2) Ps w0 p0 := AX.mk hw h_vu_1 rfl m_u_1 (fun f9 g9 _ => by have e9 := g9 _ _ m_v_2; have j9 : Int32.toNatClampNeg p1 = Int32.toNatClampNeg p1 := rfl; rw [j9] at e9; show _; rw [e9]; have k1 := r_v_2.2; have k2 := r_p2.1; omega)
    refine lv_aload_n hx hb dX10_readFirst_16 rfl (lv_at hl 0 rfl) ?_
    refine tk_v (va_runV (As := []) (rest := []) ⟨hx, hb, hml, hown, hts⟩ (c_X10_go__1 l D cy z s.heap.size Ps w0 hw.1 p0 (gh) h_p0 x_TO_p0_gh) (cwV 0 hts (gV tw_1298 tw_1300 ts_40 tw_15 tw_1301) rfl rfl rfl (by decide +kernel) ⟨Nat.le_of_ble_eq_true rfl, Nat.le_of_ble_eq_true rfl⟩) (tg_preV hw hK hSD hA (ci := 10) (q := (RX10, TX10, 49)) rfl h_p0 rfl) rfl rfl hl.1 rfl (lv_room (Nat.le_of_ble_eq_true rfl)) dX10_readFirst_17 ⟨Nat.le_of_ble_eq_true rfl, Nat.le_of_ble_eq_true rfl⟩) hw hA ⟨by decide, by decide⟩ (fun ws H locs hp_v_3 hw hF9 => ?_)
    have x_RLT_p0_p1_p2 := AX.over hF9 x_RLT_p0_p1_p2 (by decide)
    have x_TOK_p0_gh := (hp_v_3.1)
    refine lv_iconst (v := 1) hx hb dX10_readFirst_20 (by decide) ?_
    subst hQ
    exact W.zret (v := 1) hx hb hr (rfl) (fun t ht hW => ⟨⟨1, ws, rfl, ⟨⟨rl_1.to (by decide), (fun _ => trivial), (fun h0 => ⟨x_TOK_p0_gh, x_RLT_p0_p1_p2, trivial⟩)⟩, hw.1, hw.2.2.2.2.1⟩, by rw [ht]; exact hw.2.1, va_K.moved hW.alike hK, hw.2.2.1⟩, hw.2.2.2.1.F ht⟩) hw.2.2.2.1.2.2 dX10_readFirst_21
  · have r_v_2 : RI v_2 8 8 := rc_eq1 r_v_2 r_p2 (ti_eq c_7) (by decide)
    refine lv_aload_n hx hb dX10_readFirst_10 rfl (lv_at hl 0 rfl) ?_
    refine lv_iconst (v := 4) hx hb dX10_readFirst_11 (by decide) ?_
    refine tk_i (va_runV (As := [.int 4]) (rest := []) ⟨hx, hb, hml, hown, hts⟩ (c_X10_bad l D cy z s.heap.size Ps w0 hw.1 p0 4 h_p0 (rl_4.to (by decide))) (cwV 1 hts (gV tw_1336 tw_1338 ts_46 tw_15 tw_1339) rfl rfl rfl (by decide +kernel) ⟨Nat.le_of_ble_eq_true rfl, Nat.le_of_ble_eq_true rfl⟩) (tg_preV hw hK hSD hA (ci := 10) (q := (RX10, TX10, 49)) rfl h_p0 rfl) rfl rfl hl.1 rfl (lv_room (Nat.le_of_ble_eq_true rfl)) dX10_readFirst_12 ⟨Nat.le_of_ble_eq_true rfl, Nat.le_of_ble_eq_true rfl⟩) hw hA ⟨by decide, by decide⟩ (fun v_4 ws H locs hp_v_4 hw hF9 => ?_)
    have x_TO_p0_gh := TOP.over hF9 x_TO_p0_gh (by decide)
    have r_v_4 : RI v_4 0 0 := hp_v_4.1
    subst hQ
    exact W.zret (v := v_4) hx hb hr (tq_nz (r_v_4.to (by decide))) (fun t ht hW => ⟨⟨v_4, ws, rfl, ⟨⟨r_v_4.to (by decide), (fun h0 => trivial), (fun h0 => absurd (Int32.toInt_inj.mp (by have h8 := r_v_4; unfold RI at h8; rw [Int32.toInt_zero]; omega)) h0)⟩, hw.1, hw.2.2.2.2.1⟩, by rw [ht]; exact hw.2.1, va_K.moved hW.alike hK, hw.2.2.1⟩, hw.2.2.2.1.F ht⟩) hw.2.2.2.1.2.2 dX10_readFirst_15
abbrev wr_X10_readNew : List (Nat × Nat) := [(10, 5), (10, 6), (10, 7), (10, 8), (10, 9), (10, 10), (10, 11), (10, 12)]
abbrev wa_X10_readNew : List Nat := [42]
set_option maxHeartbeats 4000000 in
set_option maxRecDepth 100000 in
theorem c_X10_readNew (l : Launch) (D : va_G) (cy : Nat → ClassId) (z : Nat → Nat) (sz : Nat) (Ps : PSI) (w0 : va_W) (hT : HT cy GG Ps w0) (p0 : Nat) (p1 : Int32) (gh : Int) (h_p0 : (p0, 55) ∈ Ps) (r_p1 : RI p1 16 23) (x_TO_p0_gh : TOP w0 p0 (gh)) : Met l yX10_readNew (Cond.code yX10_readNew cX10_readNew 2 (some .boolean) :: gT) ({ frames := 4, cells := 0, slots := 0, locals := 800 } : Room) (va_Pc [.ref p0, .int p1] (PRE D cy z w0 sz)) (va_Qi (fun (r : Int32) (u : va_W) => (RI r 0 1 ∧ (r = 0 → True) ∧ (¬ r = 0 → TKP u p0 (gh) ∧ True)) ∧ HT cy GG Ps u ∧ FR wr_X10_readNew wa_X10_readNew Ps w0 u) (BB D cy (va_A w0 sz) (fun (u : va_W) => u)) (va_A w0 sz)) 0 0 (va_A w0 sz) := by
  refine Met.ofW (cc := cX10_readNew) (maxL := 2) (ret := (some .boolean)) (by decide) rfl ?_
  intro p e s m args below meth c s₁ B hml hv
  obtain ⟨rfl, hsz, hP, hK, hD0, hSD⟩ := hv
  have hx := B.exec
  have hb := B.bytes
  have hr := B.returns
  have hlocks := B.notSynchronized
  have hts : ∀ w ∈ gT, w.before _ s = true := fun w h => atoms_spec (ws := Cond.code yX10_readNew cX10_readNew 2 (some .boolean) :: gT) B.pre w (List.mem_cons_of_mem _ h)
  have hown : s.vm.findClass RX10 = some m.cls := findClass_of_methodNamed B.named
  subst hsz
  have hD := hD0.self (sz := s.heap.size)
  generalize hAe : va_A w0 s.heap.size = A at hD hSD ⊢
  have hA : ∀ q : Nat, s.heap.size ≤ q → A q := fun q h => by rw [← hAe]; exact Or.inr h
  have hl := lv_entry ([.ref p0, .int p1]) (n := 2) (Nat.le_of_ble_eq_true rfl)
  rw [lg_entry_eq]
  generalize (lg_sl ([.ref p0, .int p1]) ++ List.replicate (2 - (lg_sl ([.ref p0, .int p1])).length) Slot.unset).toArray = ls at hl ⊢
  have hl : lv_has ls 2 [(0, .ref p0), (1, .int p1)] := hl
  refine nameQ (fun Q hQ => ?_)
  have hw : WD D cy GG A s wr_X10_readNew wa_X10_readNew Ps w0 Ps w0 s.heap [] := ⟨hT, hP, hD, va_S.rf, FR.rf, hT.1, [], (List.append_nil _).symm⟩
  refine lv_aload_n hx hb dX10_readNew_0 rfl (lv_at hl 0 rfl) ?_
  refine tk_ir (va_runV (As := []) (rest := []) ⟨hx, hb, hml, hown, hts⟩ (c_X10_isName l D cy z s.heap.size Ps w0 hw.1 p0 h_p0) (cwV 0 hts (gV tw_1344 tw_1346 ts_48 tw_15 tw_1347) rfl rfl rfl (by decide +kernel) ⟨Nat.le_of_ble_eq_true rfl, Nat.le_of_ble_eq_true rfl⟩) (tg_preV hw hK hSD hA (ci := 10) (q := (RX10, TX10, 49)) rfl h_p0 rfl) rfl rfl hl.1 rfl (lv_room (Nat.le_of_ble_eq_true rfl)) dX10_readNew_1 ⟨Nat.le_of_ble_eq_true rfl, Nat.le_of_ble_eq_true rfl⟩) hw hA (fun v_1  H locs hp_v_1 hw => ?_)
  have r_v_1 : RI v_1 0 1 := hp_v_1.1
  refine lv_if_ne (tgt := 13) hx hb dX10_readNew_4 (by decide) (fun c_4 => ?_) (fun c_4 => ?_)
  · have r_v_1 : RI v_1 1 1 := rc_neL r_v_1 rl_0 (ti_ne c_4) (by decide)
    refine lv_aload_n hx hb dX10_readNew_13 rfl (lv_at hl 0 rfl) ?_
    refine tk_ir (va_runV (As := []) (rest := []) ⟨hx, hb, hml, hown, hts⟩ (c_X10_isTaken l D cy z H.size Ps w0 hw.1 p0 h_p0) (cwV 0 hts (gV tw_1348 tw_1350 ts_49 tw_15 tw_1351) rfl rfl rfl (by decide +kernel) ⟨Nat.le_of_ble_eq_true rfl, Nat.le_of_ble_eq_true rfl⟩) (tg_preV hw hK hSD hA (ci := 10) (q := (RX10, TX10, 49)) rfl h_p0 rfl) rfl rfl hl.1 rfl (lv_room (Nat.le_of_ble_eq_true rfl)) dX10_readNew_14 ⟨Nat.le_of_ble_eq_true rfl, Nat.le_of_ble_eq_true rfl⟩) hw hA (fun v_2  H locs hp_v_2 hw => ?_)
    have r_v_2 : RI v_2 0 1 := hp_v_2.1
    refine lv_if_eq (tgt := 26) hx hb dX10_readNew_17 (by decide) (fun c_17 => ?_) (fun c_17 => ?_)
    · have r_v_2 : RI v_2 0 0 := rc_eq1 r_v_2 rl_0 (ti_eq c_17) (by decide)
      refine lv_aload_n hx hb dX10_readNew_26 rfl (lv_at hl 0 rfl) ?_
      refine tg_get (ci := 10) (ts := ty_MODEL) (C := RX10) (T := TX10) (N := 49) hx hb hts inX10 hown hK hw h_p0 rfl rfl 21 (by decide) (hts _ tw_1158) (fun _ h9 => h9) (ft := vR 42) rfl dX10_readNew_27 (fun u_3 hv_u_3 m_u_3 => ?_)
      obtain ⟨vu_3, rfl, h_vu_3⟩ := hv_u_3
      refine lv_iload_n hx hb dX10_readNew_30 rfl (lv_at hl 1 rfl) ?_
      refine lv_aload_n hx hb dX10_readNew_31 rfl (lv_at hl 0 rfl) ?_
      refine tg_get (ci := 10) (ts := ty_MODEL) (C := RX10) (T := TX10) (N := 49) hx hb hts inX10 hown hK hw h_p0 rfl rfl 12 (by decide) (hts _ tw_1149) (fun _ h9 => h9) (ft := vJ (-9223372036854775808) 9223372036854775807) rfl dX10_readNew_32 (fun u_4 hv_u_4 m_u_4 => ?_)
      obtain ⟨vu_4, rfl, r_vu_4⟩ := hv_u_4
      refine tg_last hx hb hK hw h_vu_3 rfl r_p1 (by decide) r_vu_4 (by decide) (by decide) dX10_readNew_35 (fun ws H locs hw hF9 => ?_)
      have x_TO_p0_gh := TOP.over hF9 x_TO_p0_gh (by decide)
      refine lv_aload_n hx hb dX10_readNew_36 rfl (lv_at hl 0 rfl) ?_
      refine tk_v (va_runV (As := []) (rest := []) ⟨hx, hb, hml, hown, hts⟩ (c_X10_go__1 l D cy z H.size Ps ws hw.1 p0 (gh) h_p0 x_TO_p0_gh) (cwV 0 hts (gV tw_1298 tw_1300 ts_40 tw_15 tw_1301) rfl rfl rfl (by decide +kernel) ⟨Nat.le_of_ble_eq_true rfl, Nat.le_of_ble_eq_true rfl⟩) (tg_preV hw hK hSD hA (ci := 10) (q := (RX10, TX10, 49)) rfl h_p0 rfl) rfl rfl hl.1 rfl (lv_room (Nat.le_of_ble_eq_true rfl)) dX10_readNew_37 ⟨Nat.le_of_ble_eq_true rfl, Nat.le_of_ble_eq_true rfl⟩) hw hA ⟨by decide, by decide⟩ (fun ws H locs hp_v_5 hw hF9 => ?_)
      have x_TOK_p0_gh := (hp_v_5.1)
      refine lv_iconst (v := 1) hx hb dX10_readNew_40 (by decide) ?_
      subst hQ
      exact W.zret (v := 1) hx hb hr (rfl) (fun t ht hW => ⟨⟨1, ws, rfl, ⟨⟨rl_1.to (by decide), (fun _ => trivial), (fun h0 => ⟨x_TOK_p0_gh, trivial⟩)⟩, hw.1, hw.2.2.2.2.1⟩, by rw [ht]; exact hw.2.1, va_K.moved hW.alike hK, hw.2.2.1⟩, hw.2.2.2.1.F ht⟩) hw.2.2.2.1.2.2 dX10_readNew_41
    · have r_v_2 : RI v_2 1 1 := rc_neL r_v_2 rl_0 (ti_ne c_17) (by decide)
      refine lv_aload_n hx hb dX10_readNew_20 rfl (lv_at hl 0 rfl) ?_
      refine lv_iconst (v := 3) hx hb dX10_readNew_21 (by decide) ?_
      refine tk_i (va_runV (As := [.int 3]) (rest := []) ⟨hx, hb, hml, hown, hts⟩ (c_X10_bad l D cy z H.size Ps w0 hw.1 p0 3 h_p0 (rl_3.to (by decide))) (cwV 1 hts (gV tw_1336 tw_1338 ts_46 tw_15 tw_1339) rfl rfl rfl (by decide +kernel) ⟨Nat.le_of_ble_eq_true rfl, Nat.le_of_ble_eq_true rfl⟩) (tg_preV hw hK hSD hA (ci := 10) (q := (RX10, TX10, 49)) rfl h_p0 rfl) rfl rfl hl.1 rfl (lv_room (Nat.le_of_ble_eq_true rfl)) dX10_readNew_22 ⟨Nat.le_of_ble_eq_true rfl, Nat.le_of_ble_eq_true rfl⟩) hw hA ⟨by decide, by decide⟩ (fun v_6 ws H locs hp_v_6 hw hF9 => ?_)
      have x_TO_p0_gh := TOP.over hF9 x_TO_p0_gh (by decide)
      have r_v_6 : RI v_6 0 0 := hp_v_6.1
      subst hQ
      exact W.zret (v := v_6) hx hb hr (tq_nz (r_v_6.to (by decide))) (fun t ht hW => ⟨⟨v_6, ws, rfl, ⟨⟨r_v_6.to (by decide), (fun h0 => trivial), (fun h0 => absurd (Int32.toInt_inj.mp (by have h8 := r_v_6; unfold RI at h8; rw [Int32.toInt_zero]; omega)) h0)⟩, hw.1, hw.2.2.2.2.1⟩, by rw [ht]; exact hw.2.1, va_K.moved hW.alike hK, hw.2.2.1⟩, hw.2.2.2.1.F ht⟩) hw.2.2.2.1.2.2 dX10_readNew_25
  · have r_v_1 : RI v_1 0 0 := rc_eq1 r_v_1 rl_0 (ti_eq c_4) (by decide)
    refine lv_aload_n hx hb dX10_readNew_7 rfl (lv_at hl 0 rfl) ?_
    refine lv_iconst (v := 1) hx hb dX10_readNew_8 (by decide) ?_
    refine tk_i (va_runV (As := [.int 1]) (rest := []) ⟨hx, hb, hml, hown, hts⟩ (c_X10_bad l D cy z H.size Ps w0 hw.1 p0 1 h_p0 (rl_1.to (by decide))) (cwV 1 hts (gV tw_1336 tw_1338 ts_46 tw_15 tw_1339) rfl rfl rfl (by decide +kernel) ⟨Nat.le_of_ble_eq_true rfl, Nat.le_of_ble_eq_true rfl⟩) (tg_preV hw hK hSD hA (ci := 10) (q := (RX10, TX10, 49)) rfl h_p0 rfl) rfl rfl hl.1 rfl (lv_room (Nat.le_of_ble_eq_true rfl)) dX10_readNew_9 ⟨Nat.le_of_ble_eq_true rfl, Nat.le_of_ble_eq_true rfl⟩) hw hA ⟨by decide, by decide⟩ (fun v_7 ws H locs hp_v_7 hw hF9 => ?_)
    have x_TO_p0_gh := TOP.over hF9 x_TO_p0_gh (by decide)
    have r_v_7 : RI v_7 0 0 := hp_v_7.1
    subst hQ
    exact W.zret (v := v_7) hx hb hr (tq_nz (r_v_7.to (by decide))) (fun t ht hW => ⟨⟨v_7, ws, rfl, ⟨⟨r_v_7.to (by decide), (fun h0 => trivial), (fun h0 => absurd (Int32.toInt_inj.mp (by have h8 := r_v_7; unfold RI at h8; rw [Int32.toInt_zero]; omega)) h0)⟩, hw.1, hw.2.2.2.2.1⟩, by rw [ht]; exact hw.2.1, va_K.moved hW.alike hK, hw.2.2.1⟩, hw.2.2.2.1.F ht⟩) hw.2.2.2.1.2.2 dX10_readNew_12
abbrev wr_X10_put__8 : List (Nat × Nat) := []
abbrev wa_X10_put__8 : List Nat := []
set_option maxHeartbeats 4000000 in
set_option maxRecDepth 100000 in
theorem c_X10_put__8 (l : Launch) (D : va_G) (cy : Nat → ClassId) (z : Nat → Nat) (sz : Nat) (Ps : PSI) (w0 : va_W) (hT : HT cy GG Ps w0) (p0 : Nat) (p1 : Int32) (p2 : Int32) (F : (Nat → Int32) → Prop) (F2 : (Nat → Int32) → Prop) (h_p0 : (p0, 55) ∈ Ps) (r_p1 : RI p1 24 31) (r_p2 : RI p2 0 0) (x_F : AX 15 35 F Ps w0 p0) (hF : ∀ (f : Nat → Int32) (v : Int32), RI v (-2147483648) 2147483647 → F f → F2 (upd f (Int32.toNatClampNeg p1) v)) : Met l yX10_put (Cond.code yX10_put cX10_put 3 (some .boolean) :: gT) ({ frames := 0, cells := 0, slots := 0, locals := 200 } : Room) (va_Pc [.ref p0, .int p1, .int p2] (PRE D cy z w0 sz)) (va_Qi (fun (r : Int32) (u : Unit) => RI r 0 0 ∧ (r = 0 → AX 15 35 F Ps w0 p0 ∧ True) ∧ (¬ r = 0 → AX 15 35 F2 Ps w0 p0 ∧ True)) (BB D cy (va_A w0 sz) (fun (u : Unit) => w0)) (va_A w0 sz)) 0 0 (va_A w0 sz) := by
  refine Met.ofW (cc := cX10_put) (maxL := 3) (ret := (some .boolean)) (by decide) rfl ?_
  intro p e s m args below meth c s₁ B hml hv
  obtain ⟨rfl, hsz, hP, hK, hD0, hSD⟩ := hv
  have hx := B.exec
  have hb := B.bytes
  have hr := B.returns
  have hlocks := B.notSynchronized
  have hts : ∀ w ∈ gT, w.before _ s = true := fun w h => atoms_spec (ws := Cond.code yX10_put cX10_put 3 (some .boolean) :: gT) B.pre w (List.mem_cons_of_mem _ h)
  have hown : s.vm.findClass RX10 = some m.cls := findClass_of_methodNamed B.named
  subst hsz
  have hD := hD0.self (sz := s.heap.size)
  generalize hAe : va_A w0 s.heap.size = A at hD hSD ⊢
  have hA : ∀ q : Nat, s.heap.size ≤ q → A q := fun q h => by rw [← hAe]; exact Or.inr h
  have hl := lv_entry ([.ref p0, .int p1, .int p2]) (n := 3) (Nat.le_of_ble_eq_true rfl)
  rw [lg_entry_eq]
  generalize (lg_sl ([.ref p0, .int p1, .int p2]) ++ List.replicate (3 - (lg_sl ([.ref p0, .int p1, .int p2])).length) Slot.unset).toArray = ls at hl ⊢
  have hl : lv_has ls 3 [(0, .ref p0), (1, .int p1), (2, .int p2)] := hl
  refine nameQ (fun Q hQ => ?_)
  have hw : WD D cy GG A s wr_X10_put__8 wa_X10_put__8 Ps w0 Ps w0 s.heap [] := ⟨hT, hP, hD, va_S.rf, FR.rf, hT.1, [], (List.append_nil _).symm⟩
  refine lv_iload_n hx hb dX10_put_0 rfl (lv_at hl 2 rfl) ?_
  refine lv_if_eq (tgt := 14) hx hb dX10_put_1 (by decide) (fun c_1 => ?_) (fun c_1 => ?_)
  · refine lv_iload_n hx hb dX10_put_14 rfl (lv_at hl 2 rfl) ?_
    subst hQ
    exact W.zret (v := p2) hx hb hr (tq_nz (r_p2.to (by decide))) (fun t ht hW => ⟨⟨p2, (), rfl, ⟨r_p2.to (by decide), (fun h0 => ⟨x_F, trivial⟩), (fun h0 => absurd (Int32.toInt_inj.mp (by have h8 := r_p2; unfold RI at h8; rw [Int32.toInt_zero]; omega)) h0)⟩, by rw [ht]; exact hw.2.1, va_K.moved hW.alike hK, hw.2.2.1⟩, hw.2.2.2.1.F ht⟩) hw.2.2.2.1.2.2 dX10_put_15
  · exact absurd (r_p2.eq.trans rl_0.eq.symm) ((ti_ne c_1))
