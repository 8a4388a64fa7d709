/-! how long the tape is, in class and reference -/
def TLN (ws : va_W) (t : Nat) (g : Int) : Prop := ∃ v : Int32, FLD ws t 7 2 (.int v) ∧ v.toInt = g
def TLM (ws : va_W) (m : Nat) (g : Int) : Prop := ∃ v : Int32, FLD ws m 10 2 (.int v) ∧ v.toInt = g
def TLX (ws : va_W) (x : Nat) (g : Int) : Prop := ∃ t : Nat, FLD ws x 9 0 (.ref t) ∧ TLN ws t g
theorem TLN.over {wr : List (Nat × Nat)} {wa : List Nat} {Ps : PSI} {ws ws' : va_W} {m : Nat} {g : Int} (h : FR wr wa Ps ws ws') (x : TLN ws m g) (hn : (7, 2) ∉ wr) : TLN ws' m g := by
  obtain ⟨t, h1, h2⟩ := x
  exact ⟨t, FLD.over h h1 hn, h2⟩
theorem TLM.over {wr : List (Nat × Nat)} {wa : List Nat} {Ps : PSI} {ws ws' : va_W} {m : Nat} {g : Int} (h : FR wr wa Ps ws ws') (x : TLM ws m g) (hn : (10, 2) ∉ wr) : TLM ws' m g := by
  obtain ⟨t, h1, h2⟩ := x
  exact ⟨t, FLD.over h h1 hn, h2⟩
theorem TLX.over {wr : List (Nat × Nat)} {wa : List Nat} {Ps : PSI} {ws ws' : va_W} {m : Nat} {g : Int} (h : FR wr wa Ps ws ws') (x : TLX ws m g) (hn : (9, 0) ∉ wr ∧ (7, 2) ∉ wr) : TLX ws' m g := by
  obtain ⟨t, h1, h2⟩ := x
  exact ⟨t, FLD.over h h1 hn.1, TLN.over h h2 hn.2⟩
section FACTS20
variable {s : State} {H : Heap} {locs : List Loc} {D : va_G} {cy : Nat → ClassId} {A : Nat → Prop} {ws w0 : va_W} {G : Nat → Nat → CTy} {Ps P0 : PSI} {wr : List (Nat × Nat)} {wa : List Nat}
theorem TLN.get {t : Nat} {g : Int} {v : Int32} (hw : WD D cy G A s wr wa P0 w0 Ps ws H locs) (x : TLN ws t g) (h : FLD ws t 7 2 (.int v)) : v.toInt = g := by
  obtain ⟨u, h1, h2⟩ := x
  cases FLD.inj hw.2.2.1 h1 h
  exact h2
theorem TLM.get {t : Nat} {g : Int} {v : Int32} (hw : WD D cy G A s wr wa P0 w0 Ps ws H locs) (x : TLM ws t g) (h : FLD ws t 10 2 (.int v)) : v.toInt = g := by
  obtain ⟨u, h1, h2⟩ := x
  cases FLD.inj hw.2.2.1 h1 h
  exact h2
theorem TLX.tape {x t : Nat} {g : Int} (hw : WD D cy G A s wr wa P0 w0 Ps ws H locs) (h : TLX ws x g) (ht : FLD ws x 9 0 (.ref t)) : TLN ws t g := by
  obtain ⟨u, h1, h2⟩ := h
  cases FLD.inj hw.2.2.1 h1 ht
  exact h2
end FACTS20
abbrev wr_X7_putFour__1 : List (Nat × Nat) := [(7, 2)]
abbrev wa_X7_putFour__1 : List Nat := [2]
set_option maxHeartbeats 4000000 in
set_option maxRecDepth 100000 in
theorem c_X7_putFour__1 (l : Launch) (D : va_G) (cy : Nat → ClassId) (z : Nat → Nat) (sz : Nat) (Ps : PSI) (w0 : va_W) (hT : HT cy GG Ps w0) (p0 : Nat) (p1 : Int32) (gh : Int) (h_p0 : (p0, 26) ∈ Ps) (r_p1 : RI p1 (-2147483648) 2147483647) (x_TL_p0_gh : TLN w0 p0 (gh)) (x_L936_gh : ((gh : Int) ≤ 936)) : Met l yX7_putFour (Cond.code yX7_putFour cX7_putFour 3 none :: gT) ({ frames := 0, cells := 0, slots := 0, locals := 200 } : Room) (va_Pc [.ref p0, .int p1] (PRE D cy z w0 sz)) (va_Qv (fun (u : va_W) => ((∃ v9 : Int32, FLD u p0 7 2 (.int v9) ∧ RI v9 4 940) ∧ TLN u p0 (gh+4) ∧ True) ∧ HT cy GG Ps u ∧ FR wr_X7_putFour__1 wa_X7_putFour__1 Ps w0 u) (BB D cy (va_A w0 sz) (fun (u : va_W) => u)) (va_A w0 sz)) 0 0 (va_A w0 sz) := by
  refine Met.ofW (cc := cX7_putFour) (maxL := 3) (ret := none) (by decide) rfl ?_
  intro p e s m args below meth c s₁ B hml hv
  obtain ⟨rfl, hsz, hP, hK, hD0, hSD⟩ := hv
  have hx := B.exec
  have hb := B.bytes
  have hr := B.returns
  have hlocks := B.notSynchronized
  have hts : ∀ w ∈ gT, w.before _ s = true := fun w h => atoms_spec (ws := Cond.code yX7_putFour cX7_putFour 3 none :: gT) B.pre w (List.mem_cons_of_mem _ h)
  have hown : s.vm.findClass RX7 = some m.cls := findClass_of_methodNamed B.named
  subst hsz
  have hD := hD0.self (sz := s.heap.size)
  generalize hAe : va_A w0 s.heap.size = A at hD hSD ⊢
  have hA : ∀ q : Nat, s.heap.size ≤ q → A q := fun q h => by rw [← hAe]; exact Or.inr h
  have hl := lv_entry ([.ref p0, .int p1]) (n := 3) (Nat.le_of_ble_eq_true rfl)
  rw [lg_entry_eq]
  generalize (lg_sl ([.ref p0, .int p1]) ++ List.replicate (3 - (lg_sl ([.ref p0, .int p1])).length) Slot.unset).toArray = ls at hl ⊢
  have hl : lv_has ls 3 [(0, .ref p0), (1, .int p1)] := hl
  refine nameQ (fun Q hQ => ?_)
  have hw : WD D cy GG A s wr_X7_putFour__1 wa_X7_putFour__1 Ps w0 Ps w0 s.heap [] := ⟨hT, hP, hD, va_S.rf, FR.rf, hT.1, [], (List.append_nil _).symm⟩
  refine lv_bipush (v := 24) hx hb dX7_putFour_0 (by decide) ?_
  refine lv_istore_n (lv' := [(2, .int 24), (0, .ref p0), (1, .int p1)]) hx hb dX7_putFour_2 rfl hl (by decide) rfl (fun ls hl => ?_)
  refine lv_iload_n hx hb dX7_putFour_3 rfl (lv_at hl 0 rfl) ?_
  refine lv_if_lt (tgt := 48) hx hb dX7_putFour_4 (by decide) (fun c9 => absurd c9 (by decide)) (fun _ => ?_)
  refine lv_aload_n hx hb dX7_putFour_7 rfl (lv_at hl 1 rfl) ?_
  refine tg_get (ci := 7) (ts := ty_TAPE) (C := RX7) (T := TX7) (N := 12) hx hb hts inX7 hown hK hw h_p0 rfl rfl 2 (by decide) (hts _ tw_89) (fun _ h9 => h9) (ft := vI 0 940) rfl dX7_putFour_8 (fun u_1 hv_u_1 m_u_1 => ?_)
  obtain ⟨vu_1, rfl, r_vu_1⟩ := hv_u_1
  have g_vu_1 := TLN.get hw x_TL_p0_gh m_u_1
  have r_vu_1 : RI vu_1 0 936 := ⟨r_vu_1.1, by have k1 := x_L936_gh; omega⟩
  refine lv_aload_n hx hb dX7_putFour_11 rfl (lv_at hl 1 rfl) ?_
  refine tg_get (ci := 7) (ts := ty_TAPE) (C := RX7) (T := TX7) (N := 12) hx hb hts inX7 hown hK hw h_p0 rfl rfl 0 (by decide) (hts _ tw_87) (fun _ h9 => h9) (ft := vR 2) rfl dX7_putFour_12 (fun u_2 hv_u_2 m_u_2 => ?_)
  obtain ⟨vu_2, rfl, h_vu_2⟩ := hv_u_2
  refine tg_alenI (t0 := 0) (v := 940) hx hb hK hw h_vu_2 rfl rfl rfl dX7_putFour_15 ?_
  refine lv_icmp_ge (tgt := 48) hx hb dX7_putFour_16 (by decide) (fun c_16 => ?_) (fun c_16 => ?_)
  · have r_vu_1 : RI vu_1 940 936 := rc_le2 rl_940 r_vu_1 (ti_le c_16) (by decide)
    exact (r_vu_1.no (by decide)).elim
  · refine lv_aload_n hx hb dX7_putFour_19 rfl (lv_at hl 1 rfl) ?_
    refine tg_mem (ci := 7) (C := RX7) (T := TX7) (N := 12) hx hb hts inX7 hown hK hw 0 m_u_2 rfl (by decide) (hts _ tw_87) (fun _ h9 => h9) dX7_putFour_20 ?_
    refine lv_aload_n hx hb dX7_putFour_23 rfl (lv_at hl 1 rfl) ?_
    refine tg_mem (ci := 7) (C := RX7) (T := TX7) (N := 12) hx hb hts inX7 hown hK hw 2 m_u_1 rfl (by decide) (hts _ tw_89) (fun _ h9 => h9) dX7_putFour_24 ?_
    refine lv_iload_n hx hb dX7_putFour_27 rfl (lv_at hl 2 rfl) ?_
    refine lv_iload_n hx hb dX7_putFour_28 rfl (lv_at hl 0 rfl) ?_
    obtain ⟨v_3, e_v_3⟩ : ∃ q9 : Int32, (Int32.toUInt32 p1 >>> (Int32.toUInt32 24 &&& Int32.toUInt32 31)).toInt32 = q9 := ⟨_, rfl⟩
    refine lv_iushr (v := v_3) hx hb dX7_putFour_29 e_v_3 ?_
    have r_v_3 := ri_any v_3
    obtain ⟨v_4, e_v_4⟩ : ∃ q9 : Int32, (fun x9 : Int32 => x9.toInt8.toInt32) v_3 = q9 := ⟨_, rfl⟩
    refine lv_i2b (v := v_4) hx hb dX7_putFour_30 e_v_4 ?_
    have r_v_4 : RI v_4 (-128) 127 := by rw [← e_v_4]; exact ri_i2b _
    refine tg_bast hx hb hK hw h_vu_2 rfl 0 936 r_vu_1 (by decide) (by decide) dX7_putFour_31 (fun ws H locs hw hF9 => ?_)
    have x_TL_p0_gh := TLN.over hF9 x_TL_p0_gh (by decide)
    have m_u_1 := FLD.over hF9 m_u_1 (by decide)
    have m_u_2 := FLD.over hF9 m_u_2 (by decide)
    refine lv_aload_n hx hb dX7_putFour_32 rfl (lv_at hl 1 rfl) ?_
    refine lv_dup hx hb dX7_putFour_33 rfl ?_
    refine tg_mem (ci := 7) (C := RX7) (T := TX7) (N := 12) hx hb hts inX7 hown hK hw 2 m_u_1 rfl (by decide) (hts _ tw_89) (fun _ h9 => h9) dX7_putFour_34 ?_
    refine lv_iconst (v := 1) hx hb dX7_putFour_37 (by decide) ?_
    refine lv_iadd hx hb dX7_putFour_38 (lv_topi (fun v_5 e_v_5 => ?_))
    obtain ⟨t_v_5, r_v_5⟩ := tq_add (lo := 1) (hi := 937) r_vu_1 rl_1 (by decide +kernel) e_v_5
    have t_v_5 : v_5.toInt = vu_1.toInt + 1 := t_v_5
    refine tg_put (ci := 7) (ts := ty_TAPE) (v := .int v_5) (ty := .int) (C := RX7) (T := TX7) (N := 12) hx hb hts inX7 tyX7 tyX7_ok nmX7 hown hK hw h_p0 rfl rfl 2 (by decide) (hts _ tw_89) (fun _ h9 => h9) rfl (by decide +kernel) rfl rfl (ft := vI 0 940) rfl ⟨_, rfl, (r_v_5.to (by decide))⟩ (by decide) dX7_putFour_39 (fun ws H locs hw n_k_6 hF9 => ?_)
    have m_u_2 := FLD.over hF9 m_u_2 (by decide)
    refine lv_iinc (v := 16) (lv' := [(2, .int 16), (0, .ref p0), (1, .int p1)]) hx hb dX7_putFour_42 hl (k := 0) rfl (by decide) (by decide) rfl (fun ls hl => ?_)
    refine lv_goto (tgt := 3) hx hb dX7_putFour_45 (by decide) ?_
    refine lv_iload_n hx hb dX7_putFour_3 rfl (lv_at hl 0 rfl) ?_
    refine lv_if_lt (tgt := 48) hx hb dX7_putFour_4 (by decide) (fun c9 => absurd c9 (by decide)) (fun _ => ?_)
    refine lv_aload_n hx hb dX7_putFour_7 rfl (lv_at hl 1 rfl) ?_
    refine tg_mem (ci := 7) (C := RX7) (T := TX7) (N := 12) hx hb hts inX7 hown hK hw 2 n_k_6 rfl (by decide) (hts _ tw_89) (fun _ h9 => h9) dX7_putFour_8 ?_
    refine lv_aload_n hx hb dX7_putFour_11 rfl (lv_at hl 1 rfl) ?_
    refine tg_mem (ci := 7) (C := RX7) (T := TX7) (N := 12) hx hb hts inX7 hown hK hw 0 m_u_2 rfl (by decide) (hts _ tw_87) (fun _ h9 => h9) dX7_putFour_12 ?_
    refine tg_alenI (t0 := 0) (v := 940) hx hb hK hw h_vu_2 rfl rfl rfl dX7_putFour_15 ?_
    refine lv_icmp_ge (tgt := 48) hx hb dX7_putFour_16 (by decide) (fun c_16 => ?_) (fun c_16 => ?_)
    · have r_v_5 : RI v_5 940 937 := rc_le2 rl_940 r_v_5 (ti_le c_16) (by decide)
      exact (r_v_5.no (by decide)).elim
    · refine lv_aload_n hx hb dX7_putFour_19 rfl (lv_at hl 1 rfl) ?_
      refine tg_mem (ci := 7) (C := RX7) (T := TX7) (N := 12) hx hb hts inX7 hown hK hw 0 m_u_2 rfl (by decide) (hts _ tw_87) (fun _ h9 => h9) dX7_putFour_20 ?_
      refine lv_aload_n hx hb dX7_putFour_23 rfl (lv_at hl 1 rfl) ?_
      refine tg_mem (ci := 7) (C := RX7) (T := TX7) (N := 12) hx hb hts inX7 hown hK hw 2 n_k_6 rfl (by decide) (hts _ tw_89) (fun _ h9 => h9) dX7_putFour_24 ?_
      refine lv_iload_n hx hb dX7_putFour_27 rfl (lv_at hl 2 rfl) ?_
      refine lv_iload_n hx hb dX7_putFour_28 rfl (lv_at hl 0 rfl) ?_
      obtain ⟨v_7, e_v_7⟩ : ∃ q9 : Int32, (Int32.toUInt32 p1 >>> (Int32.toUInt32 16 &&& Int32.toUInt32 31)).toInt32 = q9 := ⟨_, rfl⟩
      refine lv_iushr (v := v_7) hx hb dX7_putFour_29 e_v_7 ?_
      have r_v_7 := ri_any v_7
      obtain ⟨v_8, e_v_8⟩ : ∃ q9 : Int32, (fun x9 : Int32 => x9.toInt8.toInt32) v_7 = q9 := ⟨_, rfl⟩
      refine lv_i2b (v := v_8) hx hb dX7_putFour_30 e_v_8 ?_
      have r_v_8 : RI v_8 (-128) 127 := by rw [← e_v_8]; exact ri_i2b _
      refine tg_bast hx hb hK hw h_vu_2 rfl 1 937 r_v_5 (by decide) (by decide) dX7_putFour_31 (fun ws H locs hw hF9 => ?_)
      have m_u_2 := FLD.over hF9 m_u_2 (by decide)
      have n_k_6 := FLD.over hF9 n_k_6 (by decide)
      refine lv_aload_n hx hb dX7_putFour_32 rfl (lv_at hl 1 rfl) ?_
      refine lv_dup hx hb dX7_putFour_33 rfl ?_
      refine tg_mem (ci := 7) (C := RX7) (T := TX7) (N := 12) hx hb hts inX7 hown hK hw 2 n_k_6 rfl (by decide) (hts _ tw_89) (fun _ h9 => h9) dX7_putFour_34 ?_
      refine lv_iconst (v := 1) hx hb dX7_putFour_37 (by decide) ?_
      refine lv_iadd hx hb dX7_putFour_38 (lv_topi (fun v_9 e_v_9 => ?_))
      obtain ⟨t_v_9, r_v_9⟩ := tq_add (lo := 2) (hi := 938) r_v_5 rl_1 (by decide +kernel) e_v_9
      have t_v_9 : v_9.toInt = v_5.toInt + 1 := t_v_9
      refine tg_put (ci := 7) (ts := ty_TAPE) (v := .int v_9) (ty := .int) (C := RX7) (T := TX7) (N := 12) hx hb hts inX7 tyX7 tyX7_ok nmX7 hown hK hw h_p0 rfl rfl 2 (by decide) (hts _ tw_89) (fun _ h9 => h9) rfl (by decide +kernel) rfl rfl (ft := vI 0 940) rfl ⟨_, rfl, (r_v_9.to (by decide))⟩ (by decide) dX7_putFour_39 (fun ws H locs hw n_k_10 hF9 => ?_)
      have m_u_2 := FLD.over hF9 m_u_2 (by decide)
      refine lv_iinc (v := 8) (lv' := [(2, .int 8), (0, .ref p0), (1, .int p1)]) hx hb dX7_putFour_42 hl (k := 0) rfl (by decide) (by decide) rfl (fun ls hl => ?_)
      refine lv_goto (tgt := 3) hx hb dX7_putFour_45 (by decide) ?_
      refine lv_iload_n hx hb dX7_putFour_3 rfl (lv_at hl 0 rfl) ?_
      refine lv_if_lt (tgt := 48) hx hb dX7_putFour_4 (by decide) (fun c9 => absurd c9 (by decide)) (fun _ => ?_)
      refine lv_aload_n hx hb dX7_putFour_7 rfl (lv_at hl 1 rfl) ?_
      refine tg_mem (ci := 7) (C := RX7) (T := TX7) (N := 12) hx hb hts inX7 hown hK hw 2 n_k_10 rfl (by decide) (hts _ tw_89) (fun _ h9 => h9) dX7_putFour_8 ?_
      refine lv_aload_n hx hb dX7_putFour_11 rfl (lv_at hl 1 rfl) ?_
      refine tg_mem (ci := 7) (C := RX7) (T := TX7) (N := 12) hx hb hts inX7 hown hK hw 0 m_u_2 rfl (by decide) (hts _ tw_87) (fun _ h9 => h9) dX7_putFour_12 ?_
      refine tg_alenI (t0 := 0) (v := 940) hx hb hK hw h_vu_2 rfl rfl rfl dX7_putFour_15 ?_
      refine lv_icmp_ge (tgt := 48) hx hb dX7_putFour_16 (by decide) (fun c_16 => ?_) (fun c_16 => ?_)
      · have r_v_9 : RI v_9 940 938 := rc_le2 rl_940 r_v_9 (ti_le c_16) (by decide)
        exact (r_v_9.no (by decide)).elim
      · refine lv_aload_n hx hb dX7_putFour_19 rfl (lv_at hl 1 rfl) ?_
        refine tg_mem (ci := 7) (C := RX7) (T := TX7) (N := 12) hx hb hts inX7 hown hK hw 0 m_u_2 rfl (by decide) (hts _ tw_87) (fun _ h9 => h9) dX7_putFour_20 ?_
        refine lv_aload_n hx hb dX7_putFour_23 rfl (lv_at hl 1 rfl) ?_
        refine tg_mem (ci := 7) (C := RX7) (T := TX7) (N := 12) hx hb hts inX7 hown hK hw 2 n_k_10 rfl (by decide) (hts _ tw_89) (fun _ h9 => h9) dX7_putFour_24 ?_
        refine lv_iload_n hx hb dX7_putFour_27 rfl (lv_at hl 2 rfl) ?_
        refine lv_iload_n hx hb dX7_putFour_28 rfl (lv_at hl 0 rfl) ?_
        obtain ⟨v_11, e_v_11⟩ : ∃ q9 : Int32, (Int32.toUInt32 p1 >>> (Int32.toUInt32 8 &&& Int32.toUInt32 31)).toInt32 = q9 := ⟨_, rfl⟩
        refine lv_iushr (v := v_11) hx hb dX7_putFour_29 e_v_11 ?_
        have r_v_11 : RI v_11 0 16777215 := by rw [← e_v_11]; exact ri_ushr8 _
        obtain ⟨v_12, e_v_12⟩ : ∃ q9 : Int32, (fun x9 : Int32 => x9.toInt8.toInt32) v_11 = q9 := ⟨_, rfl⟩
        refine lv_i2b (v := v_12) hx hb dX7_putFour_30 e_v_12 ?_
        have r_v_12 : RI v_12 (-128) 127 := by rw [← e_v_12]; exact ri_i2b _
        refine tg_bast hx hb hK hw h_vu_2 rfl 2 938 r_v_9 (by decide) (by decide) dX7_putFour_31 (fun ws H locs hw hF9 => ?_)
        have m_u_2 := FLD.over hF9 m_u_2 (by decide)
        have n_k_10 := FLD.over hF9 n_k_10 (by decide)
        refine lv_aload_n hx hb dX7_putFour_32 rfl (lv_at hl 1 rfl) ?_
        refine lv_dup hx hb dX7_putFour_33 rfl ?_
        refine tg_mem (ci := 7) (C := RX7) (T := TX7) (N := 12) hx hb hts inX7 hown hK hw 2 n_k_10 rfl (by decide) (hts _ tw_89) (fun _ h9 => h9) dX7_putFour_34 ?_
        refine lv_iconst (v := 1) hx hb dX7_putFour_37 (by decide) ?_
        refine lv_iadd hx hb dX7_putFour_38 (lv_topi (fun v_13 e_v_13 => ?_))
        obtain ⟨t_v_13, r_v_13⟩ := tq_add (lo := 3) (hi := 939) r_v_9 rl_1 (by decide +kernel) e_v_13
        have t_v_13 : v_13.toInt = v_9.toInt + 1 := t_v_13
        refine tg_put (ci := 7) (ts := ty_TAPE) (v := .int v_13) (ty := .int) (C := RX7) (T := TX7) (N := 12) hx hb hts inX7 tyX7 tyX7_ok nmX7 hown hK hw h_p0 rfl rfl 2 (by decide) (hts _ tw_89) (fun _ h9 => h9) rfl (by decide +kernel) rfl rfl (ft := vI 0 940) rfl ⟨_, rfl, (r_v_13.to (by decide))⟩ (by decide) dX7_putFour_39 (fun ws H locs hw n_k_14 hF9 => ?_)
        have m_u_2 := FLD.over hF9 m_u_2 (by decide)
        refine lv_iinc (v := 0) (lv' := [(2, .int 0), (0, .ref p0), (1, .int p1)]) hx hb dX7_putFour_42 hl (k := 0) rfl (by decide) (by decide) rfl (fun ls hl => ?_)
        refine lv_goto (tgt := 3) hx hb dX7_putFour_45 (by decide) ?_
        refine lv_iload_n hx hb dX7_putFour_3 rfl (lv_at hl 0 rfl) ?_
        refine lv_if_lt (tgt := 48) hx hb dX7_putFour_4 (by decide) (fun c9 => absurd c9 (by decide)) (fun _ => ?_)
        refine lv_aload_n hx hb dX7_putFour_7 rfl (lv_at hl 1 rfl) ?_
        refine tg_mem (ci := 7) (C := RX7) (T := TX7) (N := 12) hx hb hts inX7 hown hK hw 2 n_k_14 rfl (by decide) (hts _ tw_89) (fun _ h9 => h9) dX7_putFour_8 ?_
        refine lv_aload_n hx hb dX7_putFour_11 rfl (lv_at hl 1 rfl) ?_
        refine tg_mem (ci := 7) (C := RX7) (T := TX7) (N := 12) hx hb hts inX7 hown hK hw 0 m_u_2 rfl (by decide) (hts _ tw_87) (fun _ h9 => h9) dX7_putFour_12 ?_
        refine tg_alenI (t0 := 0) (v := 940) hx hb hK hw h_vu_2 rfl rfl rfl dX7_putFour_15 ?_
        refine lv_icmp_ge (tgt := 48) hx hb dX7_putFour_16 (by decide) (fun c_16 => ?_) (fun c_16 => ?_)
        · have r_v_13 : RI v_13 940 939 := rc_le2 rl_940 r_v_13 (ti_le c_16) (by decide)
          exact (r_v_13.no (by decide)).elim
        · refine lv_aload_n hx hb dX7_putFour_19 rfl (lv_at hl 1 rfl) ?_
          refine tg_mem (ci := 7) (C := RX7) (T := TX7) (N := 12) hx hb hts inX7 hown hK hw 0 m_u_2 rfl (by decide) (hts _ tw_87) (fun _ h9 => h9) dX7_putFour_20 ?_
          refine lv_aload_n hx hb dX7_putFour_23 rfl (lv_at hl 1 rfl) ?_
          refine tg_mem (ci := 7) (C := RX7) (T := TX7) (N := 12) hx hb hts inX7 hown hK hw 2 n_k_14 rfl (by decide) (hts _ tw_89) (fun _ h9 => h9) dX7_putFour_24 ?_
          refine lv_iload_n hx hb dX7_putFour_27 rfl (lv_at hl 2 rfl) ?_
          refine lv_iload_n hx hb dX7_putFour_28 rfl (lv_at hl 0 rfl) ?_
          obtain ⟨v_15, e_v_15⟩ : ∃ q9 : Int32, (Int32.toUInt32 p1 >>> (Int32.toUInt32 0 &&& Int32.toUInt32 31)).toInt32 = q9 := ⟨_, rfl⟩
          refine lv_iushr (v := v_15) hx hb dX7_putFour_29 e_v_15 ?_
          have r_v_15 := ri_any v_15
          obtain ⟨v_16, e_v_16⟩ : ∃ q9 : Int32, (fun x9 : Int32 => x9.toInt8.toInt32) v_15 = q9 := ⟨_, rfl⟩
          refine lv_i2b (v := v_16) hx hb dX7_putFour_30 e_v_16 ?_
          have r_v_16 : RI v_16 (-128) 127 := by rw [← e_v_16]; exact ri_i2b _
          refine tg_bast hx hb hK hw h_vu_2 rfl 3 939 r_v_13 (by decide) (by decide) dX7_putFour_31 (fun ws H locs hw hF9 => ?_)
          have m_u_2 := FLD.over hF9 m_u_2 (by decide)
          have n_k_14 := FLD.over hF9 n_k_14 (by decide)
          refine lv_aload_n hx hb dX7_putFour_32 rfl (lv_at hl 1 rfl) ?_
          refine lv_dup hx hb dX7_putFour_33 rfl ?_
          refine tg_mem (ci := 7) (C := RX7) (T := TX7) (N := 12) hx hb hts inX7 hown hK hw 2 n_k_14 rfl (by decide) (hts _ tw_89) (fun _ h9 => h9) dX7_putFour_34 ?_
          refine lv_iconst (v := 1) hx hb dX7_putFour_37 (by decide) ?_
          refine lv_iadd hx hb dX7_putFour_38 (lv_topi (fun v_17 e_v_17 => ?_))
          obtain ⟨t_v_17, r_v_17⟩ := tq_add (lo := 4) (hi := 940) r_v_13 rl_1 (by decide +kernel) e_v_17
          have t_v_17 : v_17.toInt = v_13.toInt + 1 := t_v_17
          refine tg_put (ci := 7) (ts := ty_TAPE) (v := .int v_17) (ty := .int) (C := RX7) (T := TX7) (N := 12) hx hb hts inX7 tyX7 tyX7_ok nmX7 hown hK hw h_p0 rfl rfl 2 (by decide) (hts _ tw_89) (fun _ h9 => h9) rfl (by decide +kernel) rfl rfl (ft := vI 0 940) rfl ⟨_, rfl, (r_v_17.to (by decide))⟩ (by decide) dX7_putFour_39 (fun ws H locs hw n_k_18 hF9 => ?_)
          have m_u_2 := FLD.over hF9 m_u_2 (by decide)
          refine lv_iinc (v := (-8)) (lv' := [(2, .int (-8)), (0, .ref p0), (1, .int p1)]) hx hb dX7_putFour_42 hl (k := 0) rfl (by decide) (by decide) rfl (fun ls hl => ?_)
          refine lv_goto (tgt := 3) hx hb dX7_putFour_45 (by decide) ?_
          refine lv_iload_n hx hb dX7_putFour_3 rfl (lv_at hl 0 rfl) ?_
          refine lv_if_lt (tgt := 48) hx hb dX7_putFour_4 (by decide) (fun _ => ?_) (fun c9 => absurd (by decide) c9)
          have x_TL_p0_gh_4 : TLN ws p0 (gh+4) := ⟨_, n_k_18, by omega⟩
          subst hQ
          exact W.vret hx hb hr (fun t ht hW => ⟨⟨ws, rfl, ⟨⟨⟨_, n_k_18, r_v_17⟩, x_TL_p0_gh_4, trivial⟩, hw.1, hw.2.2.2.2.1⟩, by rw [ht]; exact hw.2.1, va_K.moved hW.alike hK, hw.2.2.1⟩, hw.2.2.2.1.F ht⟩) hw.2.2.2.1.2.2 dX7_putFour_48
abbrev wr_X10_come__5 : List (Nat × Nat) := [(10, 2)]
abbrev wa_X10_come__5 : List Nat := [40]
set_option maxHeartbeats 4000000 in
set_option maxRecDepth 100000 in
theorem c_X10_come__5 (l : Launch) (D : va_G) (cy : Nat → ClassId) (z : Nat → Nat) (sz : Nat) (Ps : PSI) (w0 : va_W) (hT : HT cy GG Ps w0) (p0 : Nat) (p1 : Int32) (gh : Int) (h_p0 : (p0, 55) ∈ Ps) (r_p1 : RI p1 (-2147483648) 2147483647) (x_TLM_p0_gh : TLM w0 p0 (gh)) (x_L936_gh : ((gh : Int) ≤ 936)) : Met l yX10_come (Cond.code yX10_come cX10_come 3 none :: gT) ({ frames := 0, cells := 0, slots := 0, locals := 200 } : Room) (va_Pc [.ref p0, .int p1] (PRE D cy z w0 sz)) (va_Qv (fun (u : va_W) => ((∃ v9 : Int32, FLD u p0 10 2 (.int v9) ∧ RI v9 4 940) ∧ TLM u p0 (gh+4) ∧ True) ∧ HT cy GG Ps u ∧ FR wr_X10_come__5 wa_X10_come__5 Ps w0 u) (BB D cy (va_A w0 sz) (fun (u : va_W) => u)) (va_A w0 sz)) 0 0 (va_A w0 sz) := by
  refine Met.ofW (cc := cX10_come) (maxL := 3) (ret := none) (by decide) rfl ?_
  intro p e s m args below meth c s₁ B hml hv
  obtain ⟨rfl, hsz, hP, hK, hD0, hSD⟩ := hv
  have hx := B.exec
  have hb := B.bytes
  have hr := B.returns
  have hlocks := B.notSynchronized
  have hts : ∀ w ∈ gT, w.before _ s = true := fun w h => atoms_spec (ws := Cond.code yX10_come cX10_come 3 none :: gT) B.pre w (List.mem_cons_of_mem _ h)
  have hown : s.vm.findClass RX10 = some m.cls := findClass_of_methodNamed B.named
  subst hsz
  have hD := hD0.self (sz := s.heap.size)
  generalize hAe : va_A w0 s.heap.size = A at hD hSD ⊢
  have hA : ∀ q : Nat, s.heap.size ≤ q → A q := fun q h => by rw [← hAe]; exact Or.inr h
  have hl := lv_entry ([.ref p0, .int p1]) (n := 3) (Nat.le_of_ble_eq_true rfl)
  rw [lg_entry_eq]
  generalize (lg_sl ([.ref p0, .int p1]) ++ List.replicate (3 - (lg_sl ([.ref p0, .int p1])).length) Slot.unset).toArray = ls at hl ⊢
  have hl : lv_has ls 3 [(0, .ref p0), (1, .int p1)] := hl
  refine nameQ (fun Q hQ => ?_)
  have hw : WD D cy GG A s wr_X10_come__5 wa_X10_come__5 Ps w0 Ps w0 s.heap [] := ⟨hT, hP, hD, va_S.rf, FR.rf, hT.1, [], (List.append_nil _).symm⟩
  refine lv_bipush (v := 24) hx hb dX10_come_0 (by decide) ?_
  refine lv_istore_n (lv' := [(2, .int 24), (0, .ref p0), (1, .int p1)]) hx hb dX10_come_2 rfl hl (by decide) rfl (fun ls hl => ?_)
  refine lv_iload_n hx hb dX10_come_3 rfl (lv_at hl 0 rfl) ?_
  refine lv_if_lt (tgt := 39) hx hb dX10_come_4 (by decide) (fun c9 => absurd c9 (by decide)) (fun _ => ?_)
  refine lv_aload_n hx hb dX10_come_7 rfl (lv_at hl 1 rfl) ?_
  refine tg_get (ci := 10) (ts := ty_MODEL) (C := RX10) (T := TX10) (N := 49) hx hb hts inX10 hown hK hw h_p0 rfl rfl 1 (by decide) (hts _ tw_1138) (fun _ h9 => h9) (ft := vR 40) rfl dX10_come_8 (fun u_1 hv_u_1 m_u_1 => ?_)
  obtain ⟨vu_1, rfl, h_vu_1⟩ := hv_u_1
  refine lv_aload_n hx hb dX10_come_11 rfl (lv_at hl 1 rfl) ?_
  refine tg_get (ci := 10) (ts := ty_MODEL) (C := RX10) (T := TX10) (N := 49) hx hb hts inX10 hown hK hw h_p0 rfl rfl 2 (by decide) (hts _ tw_1139) (fun _ h9 => h9) (ft := vI 0 940) rfl dX10_come_12 (fun u_2 hv_u_2 m_u_2 => ?_)
  obtain ⟨vu_2, rfl, r_vu_2⟩ := hv_u_2
  have g_vu_2 := TLM.get hw x_TLM_p0_gh m_u_2
  have r_vu_2 : RI vu_2 0 936 := ⟨r_vu_2.1, by have k1 := x_L936_gh; omega⟩
  refine lv_iload_n hx hb dX10_come_15 rfl (lv_at hl 2 rfl) ?_
  refine lv_iload_n hx hb dX10_come_16 rfl (lv_at hl 0 rfl) ?_
  obtain ⟨v_3, e_v_3⟩ : ∃ q9 : Int32, (Int32.toUInt32 p1 >>> (Int32.toUInt32 24 &&& Int32.toUInt32 31)).toInt32 = q9 := ⟨_, rfl⟩
  refine lv_iushr (v := v_3) hx hb dX10_come_17 e_v_3 ?_
  have r_v_3 := ri_any v_3
  refine lv_sipush (v := 255) hx hb dX10_come_18 (by decide) ?_
  refine lv_iand hx hb dX10_come_21 (lv_topi (fun v_4 e_v_4 => ?_))
  have r_v_4 : RI v_4 0 255 := by rw [e_v_4]; exact ri_and (d := 255) (rl_255.to (by decide)) (by decide)
  refine tg_iast hx hb hK hw h_vu_1 rfl 0 936 r_vu_2 (by decide) r_v_4 (by exact fun _ _ _ => by decide) (fun _ _ _ _ _ => trivial) (by decide) dX10_come_22 (fun ws H locs hw hF9 hU9 => ?_)
  have x_TLM_p0_gh := TLM.over hF9 x_TLM_p0_gh (by decide)
  have m_u_1 := FLD.over hF9 m_u_1 (by decide)
  have m_u_2 := FLD.over hF9 m_u_2 (by decide)
  refine lv_aload_n hx hb dX10_come_23 rfl (lv_at hl 1 rfl) ?_
  refine lv_dup hx hb dX10_come_24 rfl ?_
  refine tg_mem (ci := 10) (C := RX10) (T := TX10) (N := 49) hx hb hts inX10 hown hK hw 2 m_u_2 rfl (by decide) (hts _ tw_1139) (fun _ h9 => h9) dX10_come_25 ?_
  refine lv_iconst (v := 1) hx hb dX10_come_28 (by decide) ?_
  refine lv_iadd hx hb dX10_come_29 (lv_topi (fun v_5 e_v_5 => ?_))
  obtain ⟨t_v_5, r_v_5⟩ := tq_add (lo := 1) (hi := 937) r_vu_2 rl_1 (by decide +kernel) e_v_5
  have t_v_5 : v_5.toInt = vu_2.toInt + 1 := t_v_5
  refine tg_put (ci := 10) (ts := ty_MODEL) (v := .int v_5) (ty := .int) (C := RX10) (T := TX10) (N := 49) hx hb hts inX10 tyX10 tyX10_ok nmX10 hown hK hw h_p0 rfl rfl 2 (by decide) (hts _ tw_1139) (fun _ h9 => h9) rfl (by decide +kernel) rfl rfl (ft := vI 0 940) rfl ⟨_, rfl, (r_v_5.to (by decide))⟩ (by decide) dX10_come_30 (fun ws H locs hw n_k_6 hF9 => ?_)
  have m_u_1 := FLD.over hF9 m_u_1 (by decide)
  refine lv_iinc (v := 16) (lv' := [(2, .int 16), (0, .ref p0), (1, .int p1)]) hx hb dX10_come_33 hl (k := 0) rfl (by decide) (by decide) rfl (fun ls hl => ?_)
  refine lv_goto (tgt := 3) hx hb dX10_come_36 (by decide) ?_
  refine lv_iload_n hx hb dX10_come_3 rfl (lv_at hl 0 rfl) ?_
  refine lv_if_lt (tgt := 39) hx hb dX10_come_4 (by decide) (fun c9 => absurd c9 (by decide)) (fun _ => ?_)
  refine lv_aload_n hx hb dX10_come_7 rfl (lv_at hl 1 rfl) ?_
  refine tg_mem (ci := 10) (C := RX10) (T := TX10) (N := 49) hx hb hts inX10 hown hK hw 1 m_u_1 rfl (by decide) (hts _ tw_1138) (fun _ h9 => h9) dX10_come_8 ?_
  refine lv_aload_n hx hb dX10_come_11 rfl (lv_at hl 1 rfl) ?_
  refine tg_mem (ci := 10) (C := RX10) (T := TX10) (N := 49) hx hb hts inX10 hown hK hw 2 n_k_6 rfl (by decide) (hts _ tw_1139) (fun _ h9 => h9) dX10_come_12 ?_
  refine lv_iload_n hx hb dX10_come_15 rfl (lv_at hl 2 rfl) ?_
  refine lv_iload_n hx hb dX10_come_16 rfl (lv_at hl 0 rfl) ?_
  obtain ⟨v_7, e_v_7⟩ : ∃ q9 : Int32, (Int32.toUInt32 p1 >>> (Int32.toUInt32 16 &&& Int32.toUInt32 31)).toInt32 = q9 := ⟨_, rfl⟩
  refine lv_iushr (v := v_7) hx hb dX10_come_17 e_v_7 ?_
  have r_v_7 := ri_any v_7
  refine lv_sipush (v := 255) hx hb dX10_come_18 (by decide) ?_
  refine lv_iand hx hb dX10_come_21 (lv_topi (fun v_8 e_v_8 => ?_))
  have r_v_8 : RI v_8 0 255 := by rw [e_v_8]; exact ri_and (d := 255) (rl_255.to (by decide)) (by decide)
  refine tg_iast hx hb hK hw h_vu_1 rfl 1 937 r_v_5 (by decide) r_v_8 (by exact fun _ _ _ => by decide) (fun _ _ _ _ _ => trivial) (by decide) dX10_come_22 (fun ws H locs hw hF9 hU9 => ?_)
  have m_u_1 := FLD.over hF9 m_u_1 (by decide)
  have n_k_6 := FLD.over hF9 n_k_6 (by decide)
  refine lv_aload_n hx hb dX10_come_23 rfl (lv_at hl 1 rfl) ?_
  refine lv_dup hx hb dX10_come_24 rfl ?_
  refine tg_mem (ci := 10) (C := RX10) (T := TX10) (N := 49) hx hb hts inX10 hown hK hw 2 n_k_6 rfl (by decide) (hts _ tw_1139) (fun _ h9 => h9) dX10_come_25 ?_
  refine lv_iconst (v := 1) hx hb dX10_come_28 (by decide) ?_
  refine lv_iadd hx hb dX10_come_29 (lv_topi (fun v_9 e_v_9 => ?_))
  obtain ⟨t_v_9, r_v_9⟩ := tq_add (lo := 2) (hi := 938) r_v_5 rl_1 (by decide +kernel) e_v_9
  have t_v_9 : v_9.toInt = v_5.toInt + 1 := t_v_9
  refine tg_put (ci := 10) (ts := ty_MODEL) (v := .int v_9) (ty := .int) (C := RX10) (T := TX10) (N := 49) hx hb hts inX10 tyX10 tyX10_ok nmX10 hown hK hw h_p0 rfl rfl 2 (by decide) (hts _ tw_1139) (fun _ h9 => h9) rfl (by decide +kernel) rfl rfl (ft := vI 0 940) rfl ⟨_, rfl, (r_v_9.to (by decide))⟩ (by decide) dX10_come_30 (fun ws H locs hw n_k_10 hF9 => ?_)
  have m_u_1 := FLD.over hF9 m_u_1 (by decide)
  refine lv_iinc (v := 8) (lv' := [(2, .int 8), (0, .ref p0), (1, .int p1)]) hx hb dX10_come_33 hl (k := 0) rfl (by decide) (by decide) rfl (fun ls hl => ?_)
  refine lv_goto (tgt := 3) hx hb dX10_come_36 (by decide) ?_
  refine lv_iload_n hx hb dX10_come_3 rfl (lv_at hl 0 rfl) ?_
  refine lv_if_lt (tgt := 39) hx hb dX10_come_4 (by decide) (fun c9 => absurd c9 (by decide)) (fun _ => ?_)
  refine lv_aload_n hx hb dX10_come_7 rfl (lv_at hl 1 rfl) ?_
  refine tg_mem (ci := 10) (C := RX10) (T := TX10) (N := 49) hx hb hts inX10 hown hK hw 1 m_u_1 rfl (by decide) (hts _ tw_1138) (fun _ h9 => h9) dX10_come_8 ?_
  refine lv_aload_n hx hb dX10_come_11 rfl (lv_at hl 1 rfl) ?_
  refine tg_mem (ci := 10) (C := RX10) (T := TX10) (N := 49) hx hb hts inX10 hown hK hw 2 n_k_10 rfl (by decide) (hts _ tw_1139) (fun _ h9 => h9) dX10_come_12 ?_
  refine lv_iload_n hx hb dX10_come_15 rfl (lv_at hl 2 rfl) ?_
  refine lv_iload_n hx hb dX10_come_16 rfl (lv_at hl 0 rfl) ?_
  obtain ⟨v_11, e_v_11⟩ : ∃ q9 : Int32, (Int32.toUInt32 p1 >>> (Int32.toUInt32 8 &&& Int32.toUInt32 31)).toInt32 = q9 := ⟨_, rfl⟩
  refine lv_iushr (v := v_11) hx hb dX10_come_17 e_v_11 ?_
  have r_v_11 : RI v_11 0 16777215 := by rw [← e_v_11]; exact ri_ushr8 _
  refine lv_sipush (v := 255) hx hb dX10_come_18 (by decide) ?_
  refine lv_iand hx hb dX10_come_21 (lv_topi (fun v_12 e_v_12 => ?_))
  have r_v_12 : RI v_12 0 255 := by rw [e_v_12]; exact ri_and (d := 255) (rl_255.to (by decide)) (by decide)
  refine tg_iast hx hb hK hw h_vu_1 rfl 2 938 r_v_9 (by decide) r_v_12 (by exact fun _ _ _ => by decide) (fun _ _ _ _ _ => trivial) (by decide) dX10_come_22 (fun ws H locs hw hF9 hU9 => ?_)
  have m_u_1 := FLD.over hF9 m_u_1 (by decide)
  have n_k_10 := FLD.over hF9 n_k_10 (by decide)
  refine lv_aload_n hx hb dX10_come_23 rfl (lv_at hl 1 rfl) ?_
  refine lv_dup hx hb dX10_come_24 rfl ?_
  refine tg_mem (ci := 10) (C := RX10) (T := TX10) (N := 49) hx hb hts inX10 hown hK hw 2 n_k_10 rfl (by decide) (hts _ tw_1139) (fun _ h9 => h9) dX10_come_25 ?_
  refine lv_iconst (v := 1) hx hb dX10_come_28 (by decide) ?_
  refine lv_iadd hx hb dX10_come_29 (lv_topi (fun v_13 e_v_13 => ?_))
  obtain ⟨t_v_13, r_v_13⟩ := tq_add (lo := 3) (hi := 939) r_v_9 rl_1 (by decide +kernel) e_v_13
  have t_v_13 : v_13.toInt = v_9.toInt + 1 := t_v_13
  refine tg_put (ci := 10) (ts := ty_MODEL) (v := .int v_13) (ty := .int) (C := RX10) (T := TX10) (N := 49) hx hb hts inX10 tyX10 tyX10_ok nmX10 hown hK hw h_p0 rfl rfl 2 (by decide) (hts _ tw_1139) (fun _ h9 => h9) rfl (by decide +kernel) rfl rfl (ft := vI 0 940) rfl ⟨_, rfl, (r_v_13.to (by decide))⟩ (by decide) dX10_come_30 (fun ws H locs hw n_k_14 hF9 => ?_)
  have m_u_1 := FLD.over hF9 m_u_1 (by decide)
  refine lv_iinc (v := 0) (lv' := [(2, .int 0), (0, .ref p0), (1, .int p1)]) hx hb dX10_come_33 hl (k := 0) rfl (by decide) (by decide) rfl (fun ls hl => ?_)
  refine lv_goto (tgt := 3) hx hb dX10_come_36 (by decide) ?_
  refine lv_iload_n hx hb dX10_come_3 rfl (lv_at hl 0 rfl) ?_
  refine lv_if_lt (tgt := 39) hx hb dX10_come_4 (by decide) (fun c9 => absurd c9 (by decide)) (fun _ => ?_)
  refine lv_aload_n hx hb dX10_come_7 rfl (lv_at hl 1 rfl) ?_
  refine tg_mem (ci := 10) (C := RX10) (T := TX10) (N := 49) hx hb hts inX10 hown hK hw 1 m_u_1 rfl (by decide) (hts _ tw_1138) (fun _ h9 => h9) dX10_come_8 ?_
  refine lv_aload_n hx hb dX10_come_11 rfl (lv_at hl 1 rfl) ?_
  refine tg_mem (ci := 10) (C := RX10) (T := TX10) (N := 49) hx hb hts inX10 hown hK hw 2 n_k_14 rfl (by decide) (hts _ tw_1139) (fun _ h9 => h9) dX10_come_12 ?_
  refine lv_iload_n hx hb dX10_come_15 rfl (lv_at hl 2 rfl) ?_
  refine lv_iload_n hx hb dX10_come_16 rfl (lv_at hl 0 rfl) ?_
  obtain ⟨v_15, e_v_15⟩ : ∃ q9 : Int32, (Int32.toUInt32 p1 >>> (Int32.toUInt32 0 &&& Int32.toUInt32 31)).toInt32 = q9 := ⟨_, rfl⟩
  refine lv_iushr (v := v_15) hx hb dX10_come_17 e_v_15 ?_
  have r_v_15 := ri_any v_15
  refine lv_sipush (v := 255) hx hb dX10_come_18 (by decide) ?_
  refine lv_iand hx hb dX10_come_21 (lv_topi (fun v_16 e_v_16 => ?_))
  have r_v_16 : RI v_16 0 255 := by rw [e_v_16]; exact ri_and (d := 255) (rl_255.to (by decide)) (by decide)
  refine tg_iast hx hb hK hw h_vu_1 rfl 3 939 r_v_13 (by decide) r_v_16 (by exact fun _ _ _ => by decide) (fun _ _ _ _ _ => trivial) (by decide) dX10_come_22 (fun ws H locs hw hF9 hU9 => ?_)
  have m_u_1 := FLD.over hF9 m_u_1 (by decide)
  have n_k_14 := FLD.over hF9 n_k_14 (by decide)
  refine lv_aload_n hx hb dX10_come_23 rfl (lv_at hl 1 rfl) ?_
  refine lv_dup hx hb dX10_come_24 rfl ?_
  refine tg_mem (ci := 10) (C := RX10) (T := TX10) (N := 49) hx hb hts inX10 hown hK hw 2 n_k_14 rfl (by decide) (hts _ tw_1139) (fun _ h9 => h9) dX10_come_25 ?_
  refine lv_iconst (v := 1) hx hb dX10_come_28 (by decide) ?_
  refine lv_iadd hx hb dX10_come_29 (lv_topi (fun v_17 e_v_17 => ?_))
  obtain ⟨t_v_17, r_v_17⟩ := tq_add (lo := 4) (hi := 940) r_v_13 rl_1 (by decide +kernel) e_v_17
  have t_v_17 : v_17.toInt = v_13.toInt + 1 := t_v_17
  refine tg_put (ci := 10) (ts := ty_MODEL) (v := .int v_17) (ty := .int) (C := RX10) (T := TX10) (N := 49) hx hb hts inX10 tyX10 tyX10_ok nmX10 hown hK hw h_p0 rfl rfl 2 (by decide) (hts _ tw_1139) (fun _ h9 => h9) rfl (by decide +kernel) rfl rfl (ft := vI 0 940) rfl ⟨_, rfl, (r_v_17.to (by decide))⟩ (by decide) dX10_come_30 (fun ws H locs hw n_k_18 hF9 => ?_)
  have m_u_1 := FLD.over hF9 m_u_1 (by decide)
  refine lv_iinc (v := (-8)) (lv' := [(2, .int (-8)), (0, .ref p0), (1, .int p1)]) hx hb dX10_come_33 hl (k := 0) rfl (by decide) (by decide) rfl (fun ls hl => ?_)
  refine lv_goto (tgt := 3) hx hb dX10_come_36 (by decide) ?_
  refine lv_iload_n hx hb dX10_come_3 rfl (lv_at hl 0 rfl) ?_
  refine lv_if_lt (tgt := 39) hx hb dX10_come_4 (by decide) (fun _ => ?_) (fun c9 => absurd (by decide) c9)
  have x_TLM_p0_gh_4 : TLM ws p0 (gh+4) := ⟨_, n_k_18, by omega⟩
  subst hQ
  exact W.vret hx hb hr (fun t ht hW => ⟨⟨ws, rfl, ⟨⟨⟨_, n_k_18, r_v_17⟩, x_TLM_p0_gh_4, trivial⟩, hw.1, hw.2.2.2.2.1⟩, by rw [ht]; exact hw.2.1, va_K.moved hW.alike hK, hw.2.2.1⟩, hw.2.2.2.1.F ht⟩) hw.2.2.2.1.2.2 dX10_come_39
abbrev wr_X7_hasPlaceForTwenty__1 : List (Nat × Nat) := []
abbrev wa_X7_hasPlaceForTwenty__1 : List Nat := []
set_option maxHeartbeats 4000000 in
set_option maxRecDepth 100000 in
theorem c_X7_hasPlaceForTwenty__1 (l : Launch) (D : va_G) (cy : Nat → ClassId) (z : Nat → Nat) (sz : Nat) (Ps : PSI) (w0 : va_W) (hT : HT cy GG Ps w0) (p0 : Nat) (gh : Int) (h_p0 : (p0, 26) ∈ Ps) (x_TL_p0_gh : TLN w0 p0 (gh)) : Met l yX7_hasPlaceForTwenty (Cond.code yX7_hasPlaceForTwenty cX7_hasPlaceForTwenty 1 (some .boolean) :: gT) ({ frames := 0, cells := 0, slots := 0, locals := 200 } : Room) (va_Pc [.ref p0] (PRE D cy z w0 sz)) (va_Qi (fun (r : Int32) (u : Unit) => RI r 0 1 ∧ (r = 0 → (920 < (gh : Int)) ∧ True) ∧ (¬ r = 0 → ((gh : Int) ≤ 920) ∧ True)) (BB D cy (va_A w0 sz) (fun (u : Unit) => w0)) (va_A w0 sz)) 0 0 (va_A w0 sz) := by
  refine Met.ofW (cc := cX7_hasPlaceForTwenty) (maxL := 1) (ret := (some .boolean)) (by decide) rfl ?_
  intro p e s m args below meth c s₁ B hml hv
  obtain ⟨rfl, hsz, hP, hK, hD0, hSD⟩ := hv
  have hx := B.exec
  have hb := B.bytes
  have hr := B.returns
  have hlocks := B.notSynchronized
  have hts : ∀ w ∈ gT, w.before _ s = true := fun w h => atoms_spec (ws := Cond.code yX7_hasPlaceForTwenty cX7_hasPlaceForTwenty 1 (some .boolean) :: gT) B.pre w (List.mem_cons_of_mem _ h)
  have hown : s.vm.findClass RX7 = some m.cls := findClass_of_methodNamed B.named
  subst hsz
  have hD := hD0.self (sz := s.heap.size)
  generalize hAe : va_A w0 s.heap.size = A at hD hSD ⊢
  have hA : ∀ q : Nat, s.heap.size ≤ q → A q := fun q h => by rw [← hAe]; exact Or.inr h
  have hl := lv_entry ([.ref p0]) (n := 1) (Nat.le_of_ble_eq_true rfl)
  rw [lg_entry_eq]
  generalize (lg_sl ([.ref p0]) ++ List.replicate (1 - (lg_sl ([.ref p0])).length) Slot.unset).toArray = ls at hl ⊢
  have hl : lv_has ls 1 [(0, .ref p0)] := hl
  refine nameQ (fun Q hQ => ?_)
  have hw : WD D cy GG A s wr_X7_hasPlaceForTwenty__1 wa_X7_hasPlaceForTwenty__1 Ps w0 Ps w0 s.heap [] := ⟨hT, hP, hD, va_S.rf, FR.rf, hT.1, [], (List.append_nil _).symm⟩
  refine lv_aload_n hx hb dX7_hasPlaceForTwenty_0 rfl (lv_at hl 0 rfl) ?_
  refine tg_get (ci := 7) (ts := ty_TAPE) (C := RX7) (T := TX7) (N := 12) hx hb hts inX7 hown hK hw h_p0 rfl rfl 2 (by decide) (hts _ tw_89) (fun _ h9 => h9) (ft := vI 0 940) rfl dX7_hasPlaceForTwenty_1 (fun u_1 hv_u_1 m_u_1 => ?_)
  obtain ⟨vu_1, rfl, r_vu_1⟩ := hv_u_1
  have g_vu_1 := TLN.get hw x_TL_p0_gh m_u_1
  refine lv_bipush (v := 20) hx hb dX7_hasPlaceForTwenty_4 (by decide) ?_
  refine lv_iadd hx hb dX7_hasPlaceForTwenty_6 (lv_topi (fun v_2 e_v_2 => ?_))
  obtain ⟨t_v_2, r_v_2⟩ := tq_add (lo := 20) (hi := 960) r_vu_1 rl_20 (by decide +kernel) e_v_2
  have t_v_2 : v_2.toInt = vu_1.toInt + 20 := t_v_2
  refine lv_aload_n hx hb dX7_hasPlaceForTwenty_7 rfl (lv_at hl 0 rfl) ?_
  refine tg_get (ci := 7) (ts := ty_TAPE) (C := RX7) (T := TX7) (N := 12) hx hb hts inX7 hown hK hw h_p0 rfl rfl 0 (by decide) (hts _ tw_87) (fun _ h9 => h9) (ft := vR 2) rfl dX7_hasPlaceForTwenty_8 (fun u_3 hv_u_3 m_u_3 => ?_)
  obtain ⟨vu_3, rfl, h_vu_3⟩ := hv_u_3
  refine tg_alenI (t0 := 0) (v := 940) hx hb hK hw h_vu_3 rfl rfl rfl dX7_hasPlaceForTwenty_11 ?_
  refine lv_icmp_gt (tgt := 19) hx hb dX7_hasPlaceForTwenty_12 (by decide) (fun c_12 => ?_) (fun c_12 => ?_)
  · have r_v_2 : RI v_2 941 960 := rc_lt2 rl_940 r_v_2 (ti_lt c_12) (by decide)
    have r_vu_1 : RI vu_1 921 940 := ⟨by have k1 := r_v_2.1; have k2 := r_vu_1.1; omega, by have k1 := r_v_2.2; have k2 := r_vu_1.2; omega⟩
    have x_G920_gh : (920 < (gh : Int)) := (by have k1 := r_v_2.1; have k2 := r_v_2.2; omega)
    refine lv_iconst (v := 0) hx hb dX7_hasPlaceForTwenty_19 (by decide) ?_
    subst hQ
    exact W.zret (v := 0) hx hb hr (rfl) (fun t ht hW => ⟨⟨0, (), rfl, ⟨rl_0.to (by decide), (fun h0 => ⟨x_G920_gh, trivial⟩), (fun h0 => absurd rfl h0)⟩, by rw [ht]; exact hw.2.1, va_K.moved hW.alike hK, hw.2.2.1⟩, hw.2.2.2.1.F ht⟩) hw.2.2.2.1.2.2 dX7_hasPlaceForTwenty_20
  · have r_v_2 : RI v_2 20 940 := rc_le1 r_v_2 rl_940 (ti_nlt c_12) (by decide)
    have r_vu_1 : RI vu_1 0 920 := ⟨by have k1 := r_v_2.1; have k2 := r_vu_1.1; omega, by have k1 := r_v_2.2; have k2 := r_vu_1.2; omega⟩
    have x_L920_gh : ((gh : Int) ≤ 920) := (by have k1 := r_v_2.1; have k2 := r_v_2.2; omega)
    refine lv_iconst (v := 1) hx hb dX7_hasPlaceForTwenty_15 (by decide) ?_
    refine lv_goto (tgt := 20) hx hb dX7_hasPlaceForTwenty_16 (by decide) ?_
    subst hQ
    exact W.zret (v := 1) hx hb hr (rfl) (fun t ht hW => ⟨⟨1, (), rfl, ⟨rl_1.to (by decide), (fun h0 => absurd h0 (by decide)), (fun h0 => ⟨x_L920_gh, trivial⟩)⟩, by rw [ht]; exact hw.2.1, va_K.moved hW.alike hK, hw.2.2.1⟩, hw.2.2.2.1.F ht⟩) hw.2.2.2.1.2.2 dX7_hasPlaceForTwenty_20
abbrev wr_X9_feed__1 : List (Nat × Nat) := [(7, 2)]
abbrev wa_X9_feed__1 : List Nat := [2]
set_option maxHeartbeats 4000000 in
set_option maxRecDepth 100000 in
theorem c_X9_feed__1 (l : Launch) (D : va_G) (cy : Nat → ClassId) (z : Nat → Nat) (sz : Nat) (Ps : PSI) (w0 : va_W) (hT : HT cy GG Ps w0) (p0 : Nat) (p1 : Int32) (p2 : Int32) (p3 : Int32) (p4 : Int32) (p5 : Int32) (gh : Int) (h_p0 : (p0, 33) ∈ Ps) (r_p1 : RI p1 (-2147483648) 2147483647) (r_p2 : RI p2 (-2147483648) 2147483647) (r_p3 : RI p3 (-2147483648) 2147483647) (r_p4 : RI p4 (-2147483648) 2147483647) (r_p5 : RI p5 (-2147483648) 2147483647) (x_TLX_p0_gh : TLX w0 p0 (gh)) : Met l yX9_feed (Cond.code yX9_feed cX9_feed 6 (some .int) :: gT) ({ frames := 2, cells := 0, slots := 0, locals := 400 } : Room) (va_Pc [.ref p0, .int p1, .int p2, .int p3, .int p4, .int p5] (PRE D cy z w0 sz)) (va_Qi (fun (r : Int32) (u : va_W) => (RI r (-1) 940 ∧ (r = 0 → True) ∧ (¬ r = 0 → True) ∧ (True) ∧ (r.toInt < 0 → (920 < (gh : Int)) ∧ TLX u p0 (gh) ∧ True) ∧ (0 ≤ r.toInt → (Int32.toInt r = gh+20) ∧ TLX u p0 (gh+20) ∧ ((gh : Int) ≤ 920) ∧ True)) ∧ HT cy GG Ps u ∧ FR wr_X9_feed__1 wa_X9_feed__1 Ps w0 u) (BB D cy (va_A w0 sz) (fun (u : va_W) => u)) (va_A w0 sz)) 0 0 (va_A w0 sz) := by
  refine Met.ofW (cc := cX9_feed) (maxL := 6) (ret := (some .int)) (by decide) rfl ?_
  intro p e s m args below meth c s₁ B hml hv
  obtain ⟨rfl, hsz, hP, hK, hD0, hSD⟩ := hv
  have hx := B.exec
  have hb := B.bytes
  have hr := B.returns
  have hlocks := B.notSynchronized
  have hts : ∀ w ∈ gT, w.before _ s = true := fun w h => atoms_spec (ws := Cond.code yX9_feed cX9_feed 6 (some .int) :: gT) B.pre w (List.mem_cons_of_mem _ h)
  have hown : s.vm.findClass RX9 = some m.cls := findClass_of_methodNamed B.named
  subst hsz
  have hD := hD0.self (sz := s.heap.size)
  generalize hAe : va_A w0 s.heap.size = A at hD hSD ⊢
  have hA : ∀ q : Nat, s.heap.size ≤ q → A q := fun q h => by rw [← hAe]; exact Or.inr h
  have hl := lv_entry ([.ref p0, .int p1, .int p2, .int p3, .int p4, .int p5]) (n := 6) (Nat.le_of_ble_eq_true rfl)
  rw [lg_entry_eq]
  generalize (lg_sl ([.ref p0, .int p1, .int p2, .int p3, .int p4, .int p5]) ++ List.replicate (6 - (lg_sl ([.ref p0, .int p1, .int p2, .int p3, .int p4, .int p5])).length) Slot.unset).toArray = ls at hl ⊢
  have hl : lv_has ls 6 [(0, .ref p0), (1, .int p1), (2, .int p2), (3, .int p3), (4, .int p4), (5, .int p5)] := hl
  refine nameQ (fun Q hQ => ?_)
  have hw : WD D cy GG A s wr_X9_feed__1 wa_X9_feed__1 Ps w0 Ps w0 s.heap [] := ⟨hT, hP, hD, va_S.rf, FR.rf, hT.1, [], (List.append_nil _).symm⟩
  refine lv_aload_n hx hb dX9_feed_0 rfl (lv_at hl 0 rfl) ?_
  refine tg_get (ci := 9) (ts := ty_WP) (C := RX9) (T := TX9) (N := 15) hx hb hts inX9 hown hK hw h_p0 rfl rfl 0 (by decide) (hts _ tw_346) (fun _ h9 => h9) (ft := vR 26) rfl dX9_feed_1 (fun u_1 hv_u_1 m_u_1 => ?_)
  obtain ⟨vu_1, rfl, h_vu_1⟩ := hv_u_1
  have x_TL_vu_1_gh : TLN w0 vu_1 (gh) := TLX.tape hw x_TLX_p0_gh m_u_1
  refine tk_ir (va_runV (As := []) (rest := []) ⟨hx, hb, hml, hown, hts⟩ (c_X7_hasPlaceForTwenty__1 l D cy z s.heap.size Ps w0 hw.1 vu_1 (gh) h_vu_1 x_TL_vu_1_gh) (cwV 0 hts (gV tw_396 tw_397 tw_398 tw_2 tw_399) rfl rfl rfl (by decide +kernel) ⟨Nat.le_of_ble_eq_true rfl, Nat.le_of_ble_eq_true rfl⟩) (tg_preV hw hK hSD hA (ci := 7) (q := (RX7, TX7, 12)) rfl h_vu_1 rfl) rfl rfl hl.1 rfl (lv_room (Nat.le_of_ble_eq_true rfl)) dX9_feed_4 ⟨Nat.le_of_ble_eq_true rfl, Nat.le_of_ble_eq_true rfl⟩) hw hA (fun v_2  H locs hp_v_2 hw => ?_)
  have r_v_2 : RI v_2 0 1 := hp_v_2.1
  by_cases c9_v_2 : v_2 = 0
  · have r_v_2 : RI v_2 0 0 := by rw [c9_v_2]; exact rl_0
    have x_G920_gh := ((hp_v_2.2.1 c9_v_2).1)
    refine lv_if_ne (tgt := 12) hx hb dX9_feed_7 (by decide) (fun c_7 => ?_) (fun c_7 => ?_)
    · exact absurd (r_v_2.eq.trans rl_0.eq.symm) ((ti_ne c_7))
    · refine lv_iconst (v := (-1)) hx hb dX9_feed_10 (by decide) ?_
      subst hQ
      exact W.iret (v := (-1)) hx hb hr (fun t ht hW => ⟨⟨(-1), w0, rfl, ⟨⟨rl_m1.to (by decide), (fun _ => trivial), (fun h0 => trivial), trivial, (fun h0 => ⟨x_G920_gh, x_TLX_p0_gh, trivial⟩), (fun h0 => absurd h0 (by have h8 := rl_m1; unfold RI at h8; omega))⟩, hw.1, hw.2.2.2.2.1⟩, by rw [ht]; exact hw.2.1, va_K.moved hW.alike hK, hw.2.2.1⟩, hw.2.2.2.1.F ht⟩) hw.2.2.2.1.2.2 dX9_feed_11
  · have r_v_2 : RI v_2 1 1 := rc_neL r_v_2 rl_0 (ti_ne c9_v_2) (by decide)
    have x_L920_gh := ((hp_v_2.2.2 c9_v_2).1)
    refine lv_if_ne (tgt := 12) hx hb dX9_feed_7 (by decide) (fun c_7 => ?_) (fun c_7 => ?_)
    · refine lv_aload_n hx hb dX9_feed_12 rfl (lv_at hl 0 rfl) ?_
      refine tg_mem (ci := 9) (C := RX9) (T := TX9) (N := 15) hx hb hts inX9 hown hK hw 0 m_u_1 rfl (by decide) (hts _ tw_346) (fun _ h9 => h9) dX9_feed_13 ?_
      refine lv_iload_n hx hb dX9_feed_16 rfl (lv_at hl 1 rfl) ?_
      have x_L936_gh : ((gh : Int) ≤ 936) := (by have k1 := x_L920_gh; omega)
      refine tk_v (va_runV (As := [.int p1]) (rest := []) ⟨hx, hb, hml, hown, hts⟩ (c_X7_putFour__1 l D cy z H.size Ps w0 hw.1 vu_1 p1 (gh) h_vu_1 r_p1 x_TL_vu_1_gh x_L936_gh) (cwV 1 hts (gV tw_400 tw_401 tw_402 tw_2 tw_403) rfl rfl rfl (by decide +kernel) ⟨Nat.le_of_ble_eq_true rfl, Nat.le_of_ble_eq_true rfl⟩) (tg_preV hw hK hSD hA (ci := 7) (q := (RX7, TX7, 12)) rfl h_vu_1 rfl) rfl rfl hl.1 rfl (lv_room (Nat.le_of_ble_eq_true rfl)) dX9_feed_17 ⟨Nat.le_of_ble_eq_true rfl, Nat.le_of_ble_eq_true rfl⟩) hw hA ⟨by decide, by decide⟩ (fun ws H locs hp_v_3 hw hF9 => ?_)
      have m_u_1 := FLD.over hF9 m_u_1 (by decide)
      obtain ⟨v_4, m_v_4, r_v_4⟩ := (hp_v_3.1)
      have x_TL_vu_1_gh_4 := (hp_v_3.2.1)
      have x_TL_vu_1_gh_4 : TLN ws vu_1 (gh+4) := by obtain ⟨v9, a9, b9⟩ := x_TL_vu_1_gh_4; exact ⟨v9, a9, (by omega)⟩
      refine lv_aload_n hx hb dX9_feed_20 rfl (lv_at hl 0 rfl) ?_
      refine tg_mem (ci := 9) (C := RX9) (T := TX9) (N := 15) hx hb hts inX9 hown hK hw 0 m_u_1 rfl (by decide) (hts _ tw_346) (fun _ h9 => h9) dX9_feed_21 ?_
      refine lv_iload_n hx hb dX9_feed_24 rfl (lv_at hl 2 rfl) ?_
      have x_L936_gh_4 : ((gh+4 : Int) ≤ 936) := (by have k1 := x_L920_gh; omega)
      refine tk_v (va_runV (As := [.int p2]) (rest := []) ⟨hx, hb, hml, hown, hts⟩ (c_X7_putFour__1 l D cy z H.size Ps ws hw.1 vu_1 p2 (gh+4) h_vu_1 r_p2 x_TL_vu_1_gh_4 x_L936_gh_4) (cwV 1 hts (gV tw_400 tw_401 tw_402 tw_2 tw_403) rfl rfl rfl (by decide +kernel) ⟨Nat.le_of_ble_eq_true rfl, Nat.le_of_ble_eq_true rfl⟩) (tg_preV hw hK hSD hA (ci := 7) (q := (RX7, TX7, 12)) rfl h_vu_1 rfl) rfl rfl hl.1 rfl (lv_room (Nat.le_of_ble_eq_true rfl)) dX9_feed_25 ⟨Nat.le_of_ble_eq_true rfl, Nat.le_of_ble_eq_true rfl⟩) hw hA ⟨by decide, by decide⟩ (fun ws H locs hp_v_5 hw hF9 => ?_)
      have m_u_1 := FLD.over hF9 m_u_1 (by decide)
      obtain ⟨v_6, m_v_6, r_v_6⟩ := (hp_v_5.1)
      have x_TL_vu_1_gh_8 := (hp_v_5.2.1)
      have x_TL_vu_1_gh_8 : TLN ws vu_1 (gh+8) := by obtain ⟨v9, a9, b9⟩ := x_TL_vu_1_gh_8; exact ⟨v9, a9, (by omega)⟩
      refine lv_aload_n hx hb dX9_feed_28 rfl (lv_at hl 0 rfl) ?_
      refine tg_mem (ci := 9) (C := RX9) (T := TX9) (N := 15) hx hb hts inX9 hown hK hw 0 m_u_1 rfl (by decide) (hts _ tw_346) (fun _ h9 => h9) dX9_feed_29 ?_
      refine lv_iload_n hx hb dX9_feed_32 rfl (lv_at hl 3 rfl) ?_
      have x_L936_gh_8 : ((gh+8 : Int) ≤ 936) := (by have k1 := x_L920_gh; omega)
      refine tk_v (va_runV (As := [.int p3]) (rest := []) ⟨hx, hb, hml, hown, hts⟩ (c_X7_putFour__1 l D cy z H.size Ps ws hw.1 vu_1 p3 (gh+8) h_vu_1 r_p3 x_TL_vu_1_gh_8 x_L936_gh_8) (cwV 1 hts (gV tw_400 tw_401 tw_402 tw_2 tw_403) rfl rfl rfl (by decide +kernel) ⟨Nat.le_of_ble_eq_true rfl, Nat.le_of_ble_eq_true rfl⟩) (tg_preV hw hK hSD hA (ci := 7) (q := (RX7, TX7, 12)) rfl h_vu_1 rfl) rfl rfl hl.1 rfl (lv_room (Nat.le_of_ble_eq_true rfl)) dX9_feed_33 ⟨Nat.le_of_ble_eq_true rfl, Nat.le_of_ble_eq_true rfl⟩) hw hA ⟨by decide, by decide⟩ (fun ws H locs hp_v_7 hw hF9 => ?_)
      have m_u_1 := FLD.over hF9 m_u_1 (by decide)
      obtain ⟨v_8, m_v_8, r_v_8⟩ := (hp_v_7.1)
      have x_TL_vu_1_gh_12 := (hp_v_7.2.1)
      have x_TL_vu_1_gh_12 : TLN ws vu_1 (gh+12) := by obtain ⟨v9, a9, b9⟩ := x_TL_vu_1_gh_12; exact ⟨v9, a9, (by omega)⟩
      refine lv_aload_n hx hb dX9_feed_36 rfl (lv_at hl 0 rfl) ?_
      refine tg_mem (ci := 9) (C := RX9) (T := TX9) (N := 15) hx hb hts inX9 hown hK hw 0 m_u_1 rfl (by decide) (hts _ tw_346) (fun _ h9 => h9) dX9_feed_37 ?_
      refine lv_iload hx hb dX9_feed_40 (lv_at hl 4 rfl) ?_
      have x_L936_gh_12 : ((gh+12 : Int) ≤ 936) := (by have k1 := x_L920_gh; omega)
      refine tk_v (va_runV (As := [.int p4]) (rest := []) ⟨hx, hb, hml, hown, hts⟩ (c_X7_putFour__1 l D cy z H.size Ps ws hw.1 vu_1 p4 (gh+12) h_vu_1 r_p4 x_TL_vu_1_gh_12 x_L936_gh_12) (cwV 1 hts (gV tw_400 tw_401 tw_402 tw_2 tw_403) rfl rfl rfl (by decide +kernel) ⟨Nat.le_of_ble_eq_true rfl, Nat.le_of_ble_eq_true rfl⟩) (tg_preV hw hK hSD hA (ci := 7) (q := (RX7, TX7, 12)) rfl h_vu_1 rfl) rfl rfl hl.1 rfl (lv_room (Nat.le_of_ble_eq_true rfl)) dX9_feed_42 ⟨Nat.le_of_ble_eq_true rfl, Nat.le_of_ble_eq_true rfl⟩) hw hA ⟨by decide, by decide⟩ (fun ws H locs hp_v_9 hw hF9 => ?_)
      have m_u_1 := FLD.over hF9 m_u_1 (by decide)
      obtain ⟨v_10, m_v_10, r_v_10⟩ := (hp_v_9.1)
      have x_TL_vu_1_gh_16 := (hp_v_9.2.1)
      have x_TL_vu_1_gh_16 : TLN ws vu_1 (gh+16) := by obtain ⟨v9, a9, b9⟩ := x_TL_vu_1_gh_16; exact ⟨v9, a9, (by omega)⟩
      refine lv_aload_n hx hb dX9_feed_45 rfl (lv_at hl 0 rfl) ?_
      refine tg_mem (ci := 9) (C := RX9) (T := TX9) (N := 15) hx hb hts inX9 hown hK hw 0 m_u_1 rfl (by decide) (hts _ tw_346) (fun _ h9 => h9) dX9_feed_46 ?_
      refine lv_iload hx hb dX9_feed_49 (lv_at hl 5 rfl) ?_
      have x_L936_gh_16 : ((gh+16 : Int) ≤ 936) := (by have k1 := x_L920_gh; omega)
      refine tk_v (va_runV (As := [.int p5]) (rest := []) ⟨hx, hb, hml, hown, hts⟩ (c_X7_putFour__1 l D cy z H.size Ps ws hw.1 vu_1 p5 (gh+16) h_vu_1 r_p5 x_TL_vu_1_gh_16 x_L936_gh_16) (cwV 1 hts (gV tw_400 tw_401 tw_402 tw_2 tw_403) rfl rfl rfl (by decide +kernel) ⟨Nat.le_of_ble_eq_true rfl, Nat.le_of_ble_eq_true rfl⟩) (tg_preV hw hK hSD hA (ci := 7) (q := (RX7, TX7, 12)) rfl h_vu_1 rfl) rfl rfl hl.1 rfl (lv_room (Nat.le_of_ble_eq_true rfl)) dX9_feed_51 ⟨Nat.le_of_ble_eq_true rfl, Nat.le_of_ble_eq_true rfl⟩) hw hA ⟨by decide, by decide⟩ (fun ws H locs hp_v_11 hw hF9 => ?_)
      have m_u_1 := FLD.over hF9 m_u_1 (by decide)
      obtain ⟨v_12, m_v_12, r_v_12⟩ := (hp_v_11.1)
      have x_TL_vu_1_gh_20 := (hp_v_11.2.1)
      have x_TL_vu_1_gh_20 : TLN ws vu_1 (gh+20) := by obtain ⟨v9, a9, b9⟩ := x_TL_vu_1_gh_20; exact ⟨v9, a9, (by omega)⟩
      refine lv_aload_n hx hb dX9_feed_54 rfl (lv_at hl 0 rfl) ?_
      refine tg_mem (ci := 9) (C := RX9) (T := TX9) (N := 15) hx hb hts inX9 hown hK hw 0 m_u_1 rfl (by decide) (hts _ tw_346) (fun _ h9 => h9) dX9_feed_55 ?_
      refine tg_memN (ci := 7) (C := RX7) (T := TX7) (N := 12) hx hb hts inX7 hown hK hw 2 m_v_12 rfl (by decide) (hSD.nest tn_90) (fun _ h9 => h9) dX9_feed_58 ?_
      have x_REQ_v_12_gh_20 : Int32.toInt v_12 = gh + 20 := TLN.get hw x_TL_vu_1_gh_20 m_v_12
      have x_TLX_p0_gh_20 : TLX ws p0 (gh+20) := ⟨_, m_u_1, x_TL_vu_1_gh_20⟩
      subst hQ
      exact W.iret (v := v_12) hx hb hr (fun t ht hW => ⟨⟨v_12, ws, rfl, ⟨⟨r_v_12.to (by decide), (fun _ => trivial), (fun h0 => trivial), trivial, (fun h0 => absurd h0 (by have h8 := r_v_12; unfold RI at h8; omega)), (fun h0 => ⟨x_REQ_v_12_gh_20, x_TLX_p0_gh_20, x_L920_gh, trivial⟩)⟩, hw.1, hw.2.2.2.2.1⟩, by rw [ht]; exact hw.2.1, va_K.moved hW.alike hK, hw.2.2.1⟩, hw.2.2.2.1.F ht⟩) hw.2.2.2.1.2.2 dX9_feed_61
    · have r_v_2 : RI v_2 1 0 := rc_eq1 r_v_2 rl_0 (ti_eq c_7) (by decide)
      exact (r_v_2.no (by decide)).elim
