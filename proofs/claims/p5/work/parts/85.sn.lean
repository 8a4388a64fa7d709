/-! sentence of class and reference, said by facts -/
/-- what sentence answers -/
def SSA (T : Nat → Nat) (g : Int) (R : Nat → Int32) (N : Nat → Nat) : Int32 := sSaysA (sSent T g.toNat 200 R N)
theorem SS_ {T : Nat → Nat} {n : Nat} {s2 : OS} {r : OS × OS × OS} {S : SR} (h : SO T n 200 s2 r S) : (r.2.1.1 10 = 0 → r.1.1 4 = sSaysA S) ∧ (¬ r.2.1.1 10 = 0 → -1 - r.2.1.1 11 = sSaysA S) := by
  cases S with
  | inl e =>
    have q := h.2.1 e rfl
    exact ⟨fun z => absurd z q.ne, fun _ => by rw [q.2.1]; rfl⟩
  | inr w =>
    obtain ⟨c, p⟩ := w
    obtain ⟨a, b⟩ := h.2.2 c p rfl
    exact ⟨fun _ => b, fun z => absurd a.2 z⟩
section FACTS61
variable {s : State} {H : Heap} {locs : List Loc} {D : va_G} {cy : Nat → ClassId} {A : Nat → Prop} {ws ws' w0 wx : va_W} {Ps X : PSI} {wr : List (Nat × Nat)} {wa : List Nat} {x y t w pt : Nat} {T : Nat → Nat} {g : Int} {q : Nat → Nat} {o : OS} {R : Nat → Int32} {L : Nat → Int64} {N : Nat → Nat}
theorem wr_ov (hD : va_D A ws) (h : WR Ps ws (q 0) o) (hx : GWX ws x q) (h1 : FLD ws x 9 1 (.ref w)) (h2 : FLD ws w 8 0 (.ref pt)) : OV vw_POST Ps ws pt o := by
  have e := GWX.wo hD hx h1
  subst e
  obtain ⟨p2, k1, k2⟩ := h
  cases FLD.inj hD k1 h2
  exact k2
theorem md_full2 (hT : HT cy GG Ps ws) (hD : va_D A ws) (h1 : TLM ws y g) (h2 : BYM Ps ws y T) (h3 : AX 14 34 (HDp R) Ps ws y) (h4 : AXL 20 41 (NMp L) Ps ws y) (h5 : NLC R N L) (hp : (y, 55) ∈ Ps) : ∃ o, OV vw_M2 Ps ws y o ∧ RXT o T g.toNat ∧ SNM o R N := by
  obtain ⟨o1, a1, a2, a3⟩ := mx_get hT hD h1 h2 hp
  obtain ⟨o, b⟩ := OV.ex (V := vw_M2) (ts := ty_MODEL) hT hp rfl (by decide) (by decide) (by decide) (by decide) (by decide) (by decide)
  refine ⟨o, b, ⟨a2.1, ?_, fun k hk => ?_, a2.2.2.2⟩, fun s b9 M hs => ?_⟩
  · exact (OV.eqI hD b (a1.1 2 (by decide)) (by decide)).trans a2.2.1
  · obtain ⟨r, c1, c2⟩ := a1.2.2.1 (1, 40) (by decide)
    have e := ARR.inj hD (OV.arrA (V := vw_M2) (t := 40) hD b c1 (by decide)) c2
    exact (congrFun e k).trans (a2.2.2.1 k)
  · obtain ⟨z1, z2, z3⟩ := h5 s b9 M hs
    obtain ⟨r, f, c1, c2, c3⟩ := h3
    have e := ARR.inj hD (OV.arrA (V := vw_M2) (t := 34) hD b c1 (by decide)) c2
    obtain ⟨r2, f2, d1, d2, d3⟩ := h4
    have e2 := ARL.inj hD (OV.arrB (V := vw_M2) (t := 41) hD b d1 (by decide)) d2
    refine ⟨?_, z1, z2, fun k hk => ?_⟩
    · rw [e]; exact c3 s (by omega)
    · obtain ⟨L9, v9, l1, l2, l3⟩ := z3 k hk
      exact ⟨L9, v9, l1, l2, by rw [e2, d3 (b9 + k) (by omega)]; exact l3⟩
/-- a new sentence, as an object -/
theorem sent_new {q u0 u1 u2 t0 t1 t2 : Nat} {e0 e1 e2 : va_E} {v0 v1 v2 : Value} : OV vw_SENT (Ps ++ [(q, 32), (u0, t0), (u1, t1), (u2, t2)]) (ws ++ [(q, .inr (5, [v0, v1, v2, .int 0, .int 0])), (u0, e0), (u1, e1), (u2, e2)]) q dOS := by
  refine ⟨fun k hk => ?_, fun k hk => absurd hk List.not_mem_nil, fun z hz => absurd hz List.not_mem_nil, fun z hz => absurd hz List.not_mem_nil⟩
  have hk : k ∈ ([3, 4] : List Nat) := hk
  simp only [List.mem_cons, List.not_mem_nil, or_false] at hk
  rcases hk with rfl | rfl
  · exact FLD.mid rfl
  · exact FLD.mid rfl
end FACTS61
abbrev wr_X9_sentence__2 : List (Nat × Nat) := [(5, 3), (5, 4), (7, 2), (7, 3), (7, 4), (7, 5), (7, 6), (7, 7), (7, 8), (7, 9), (7, 10), (7, 11), (9, 5), (9, 11)]
abbrev wa_X9_sentence__2 : List Nat := [21]
set_option maxHeartbeats 4000000 in
set_option maxRecDepth 100000 in
theorem c_X9_sentence__2 (l : Launch) (D : va_G) (cy : Nat → ClassId) (z : Nat → Nat) (sz : Nat) (Ps : PSI) (w0 : va_W) (hT : HT cy GG Ps w0) (p0 : Nat) (gh : Int) (gdT : Nat → Nat) (gdq : Nat → Nat) (gdg : Nat → Nat) (gdo : OS) (gdA : OS) (gdB : OS) (gdR : Nat → Int32) (gdN : Nat → Nat) (h_p0 : (p0, 33) ∈ Ps) (x_TLX_p0_gh : TLX w0 p0 (gh)) (x_BYX_p0_gdT : BYX Ps w0 p0 gdT) (x_WKX_p0 : WKX Ps w0 p0) (x_GWX_p0_gdq : GWX w0 p0 gdq) (x_HE_gdq_gdg_gdo_gdA_gdB_false_false : HE Ps w0 gdq gdg gdo gdA gdB false false) (x_PDF_gdo_gdR_gdN : (PDO gdo gdR gdN)) : Met l yX9_sentence (Cond.code yX9_sentence cX9_sentence 2 (some .int) :: gT) ({ frames := 22, cells := 4, slots := 125, locals := 4400 } : Room) (va_Pc [.ref p0] (PRE D cy z w0 sz)) (va_Qi (fun (r : Int32) (u : PSI × va_W) => (RI r (-2147483648) 2147483647 ∧ (r = 0 → True) ∧ (¬ r = 0 → True) ∧ (TLX u.2 p0 (0) ∧ (r = SSA gdT gh gdR gdN) ∧ True) ∧ (r.toInt < 0 → True) ∧ (0 ≤ r.toInt → True)) ∧ (∃ X, u.1 = Ps ++ X) ∧ HT cy GG u.1 u.2 ∧ FR wr_X9_sentence__2 wa_X9_sentence__2 Ps w0 u.2) (BB D cy (va_A w0 sz) (fun (u : PSI × va_W) => u.2)) (va_A w0 sz)) 4 125 (va_A w0 sz) := by
  refine Met.ofW (cc := cX9_sentence) (maxL := 2) (ret := (some .int)) (by decide) rfl ?_
  intro p e s m args below meth c s₁ B hml hv
  obtain ⟨rfl, hsz, hP, hK, hD0, hSD⟩ := hv
  have hx := B.exec
  have hb := B.bytes
  have hr := B.returns
  have hlocks := B.notSynchronized
  have hts : ∀ w ∈ gT, w.before _ s = true := fun w h => atoms_spec (ws := Cond.code yX9_sentence cX9_sentence 2 (some .int) :: gT) B.pre w (List.mem_cons_of_mem _ h)
  have hown : s.vm.findClass RX9 = some m.cls := findClass_of_methodNamed B.named
  subst hsz
  have hD := hD0.self (sz := s.heap.size)
  generalize hAe : va_A w0 s.heap.size = A at hD hSD ⊢
  have hA : ∀ q : Nat, s.heap.size ≤ q → A q := fun q h => by rw [← hAe]; exact Or.inr h
  have hl := lv_entry ([.ref p0]) (n := 2) (Nat.le_of_ble_eq_true rfl)
  rw [lg_entry_eq]
  generalize (lg_sl ([.ref p0]) ++ List.replicate (2 - (lg_sl ([.ref p0])).length) Slot.unset).toArray = ls at hl ⊢
  have hl : lv_has ls 2 [(0, .ref p0)] := hl
  refine nameQ (fun Q hQ => ?_)
  have hw : WD D cy GG A s wr_X9_sentence__2 wa_X9_sentence__2 Ps w0 Ps w0 s.heap [] := ⟨hT, hP, hD, va_S.rf, FR.rf, hT.1, [], (List.append_nil _).symm⟩
  refine va_new (ci := 5) (fs := [.null, .null, .null, .int 0, .int 0]) (C := RX5) (T := TX5) (N := 5) hx hb hts inX5 tyX5 tyX5_ok hown (hts _ tw_945) (hts _ tw_946) (hts _ tw_23) hK hw.2.1 hw.2.2.1 hw.2.2.2.1 hA rfl (dfX5) (Nat.le_of_ble_eq_true rfl) (Nat.le_of_ble_eq_true rfl) dX9_sentence_0 (fun q_1 H hP9 hD9 hS9 => ?_)
  refine lv_dup hx hb dX9_sentence_3 rfl ?_
  refine tkN (va_runIN (As := []) (rest := [.ref q_1]) ⟨hx, hb, hml, hown, hts⟩ (c_Sent_init l D cy z H.size q_1) ⟨va_cnB 0 hts (gC tw_949) rfl rfl rfl (va_Nw.of rfl (hSD.nest (args := #[]) tn_947)) (hts _ tw_23) (by decide +kernel) ⟨Nat.le_of_ble_eq_true rfl, Nat.le_of_ble_eq_true rfl⟩, rfl, hts _ tw_948⟩ (preS hP9 hD9 hK hSD hS9 hA [w0.length] last1 rfl) rfl rfl hl.1 rfl (lv_room (Nat.le_of_ble_eq_true rfl)) dX9_sentence_4 ⟨Nat.le_of_ble_eq_true rfl, Nat.le_of_ble_eq_true rfl⟩) hP9 hD9 hS9 hA (fun u9 H locs hp9 hP9 hD9 hS9 => ?_)
  obtain ⟨u0_1, u1_1, u2_1⟩ := u9
  have hw := WD.app (X := [(q_1, 32), (u0_1, 21), (u1_1, 21), (u2_1, 21)]) (wx := [(q_1, .inr (5, [.ref u0_1, .ref u1_1, .ref u2_1, .int 0, .int 0])), (u0_1, .inl (cy 1, 40, .inl (fun _ => 0))), (u1_1, .inl (cy 1, 40, .inl (fun _ => 0))), (u2_1, .inl (cy 1, 40, .inl (fun _ => 0)))]) hw ⟨⟨rfl, ok_SENT (List.mem_append_right _ (by simp)) (List.mem_append_right _ (by simp)) (List.mem_append_right _ (by simp)) (rl_0.to (by decide)) (rl_0.to (by decide))⟩, ⟨rfl, z_arr (fun _ => 0) (fun j9 _ => (by show ((-2147483648) : Int) ≤ (0 : Int32).toInt ∧ (0 : Int32).toInt ≤ 2147483647; decide)) trivial⟩, ⟨rfl, z_arr (fun _ => 0) (fun j9 _ => (by show ((-2147483648) : Int) ≤ (0 : Int32).toInt ∧ (0 : Int32).toInt ≤ 2147483647; decide)) trivial⟩, ⟨rfl, z_arr (fun _ => 0) (fun j9 _ => (by show ((-2147483648) : Int) ≤ (0 : Int32).toInt ∧ (0 : Int32).toInt ≤ 2147483647; decide)) trivial⟩, trivial⟩ hP9 hD9 hS9
  obtain ⟨Pn, hPn⟩ : ∃ q9 : PSI, q9 = Ps ++ [(q_1, 32), (u0_1, 21), (u1_1, 21), (u2_1, 21)] := ⟨_, rfl⟩
  have hup : ∀ x9 ∈ Ps, x9 ∈ Pn := fun x9 h9 => by rw [hPn]; exact List.mem_append_left _ h9
  obtain ⟨ws, hws⟩ : ∃ q9 : va_W, q9 = w0 ++ [(q_1, .inr (5, [.ref u0_1, .ref u1_1, .ref u2_1, .int 0, .int 0])), (u0_1, .inl (cy 1, 40, .inl (fun _ => 0))), (u1_1, .inl (cy 1, 40, .inl (fun _ => 0))), (u2_1, .inl (cy 1, 40, .inl (fun _ => 0)))] := ⟨_, rfl⟩
  rw [← hPn, ← hws] at hw
  have h_p0 := hup _ h_p0
  have h_q_1 : (q_1, 32) ∈ Pn := by rw [hPn]; exact List.mem_append_right _ (by simp)
  have h_u0_1 : (u0_1, 21) ∈ Pn := by rw [hPn]; exact List.mem_append_right _ (by simp)
  have h_u1_1 : (u1_1, 21) ∈ Pn := by rw [hPn]; exact List.mem_append_right _ (by simp)
  have h_u2_1 : (u2_1, 21) ∈ Pn := by rw [hPn]; exact List.mem_append_right _ (by simp)
  refine W.widen (k := 4) (n := 125) (Nat.le_of_ble_eq_true rfl) (Nat.le_of_ble_eq_true rfl) ?_
  have x_TLX_p0_gh : TLX ws p0 (gh) := by rw [hws]; exact TLX.app x_TLX_p0_gh
  have x_BYX_p0_gdT : BYX Pn ws p0 gdT := by rw [hPn, hws]; exact BYX.app x_BYX_p0_gdT
  have x_WKX_p0 : WKX Pn ws p0 := by rw [hPn, hws]; exact WKX.app x_WKX_p0
  have x_GWX_p0_gdq : GWX ws p0 gdq := by rw [hws]; exact GWX.app x_GWX_p0_gdq
  have x_HE_gdq_gdg_gdo_gdA_gdB_false_false : HE Pn ws gdq gdg gdo gdA gdB false false := by rw [hPn, hws]; exact HE.app x_HE_gdq_gdg_gdo_gdA_gdB_false_false
  have o_n : OV vw_SENT Pn ws q_1 dOS := by rw [hPn, hws]; exact sent_new
  refine lv_astore_n (lv' := [(1, .ref q_1), (0, .ref p0)]) hx hb dX9_sentence_7 rfl hl (by decide) rfl (fun ls hl => ?_)
  refine lv_aload_n hx hb dX9_sentence_8 rfl (lv_at hl 0 rfl) ?_
  refine lv_aload_n hx hb dX9_sentence_9 rfl (lv_at hl 1 rfl) ?_
  refine tg_get (ci := 9) (ts := ty_WP) (C := RX9) (T := TX9) (N := 15) hx hb hts inX9 hown hK hw h_p0 rfl rfl 0 (by decide) (hts _ tw_346) (fun _ h9 => h9) (ft := vR 26) rfl dX9_sentence_10 (fun u_2 hv_u_2 m_u_2 => ?_)
  obtain ⟨vu_2, rfl, h_vu_2⟩ := hv_u_2
  refine lv_aload_n hx hb dX9_sentence_13 rfl (lv_at hl 1 rfl) ?_
  refine tg_get (ci := 9) (ts := ty_WP) (C := RX9) (T := TX9) (N := 15) hx hb hts inX9 hown hK hw h_p0 rfl rfl 1 (by decide) (hts _ tw_347) (fun _ h9 => h9) (ft := vR 24) rfl dX9_sentence_14 (fun u_3 hv_u_3 m_u_3 => ?_)
  obtain ⟨vu_3, rfl, h_vu_3⟩ := hv_u_3
  refine tg_getN (ci := 8) (ts := ty_WORLD) (C := RX8) (T := TX8) (N := 13) hx hb hts inX8 hown hK hw h_vu_3 rfl rfl 0 (by decide) (hSD.nest tn_249) (fun _ h9 => h9) (ft := vR 25) rfl dX9_sentence_17 (fun u_4 hv_u_4 m_u_4 => ?_)
  obtain ⟨vu_4, rfl, h_vu_4⟩ := hv_u_4
  obtain ⟨so, o_t, hCX⟩ := tp_full hw.1 hw.2.2.1 x_TLX_p0_gh x_BYX_p0_gdT x_WKX_p0 m_u_2 h_vu_2
  have o_w : OV vw_POST Pn ws vu_4 gdo := wr_ov hw.2.2.1 (HE.w x_HE_gdq_gdg_gdo_gdA_gdB_false_false) x_GWX_p0_gdq m_u_3 m_u_4
  refine tk_v (va_runV (As := [.ref vu_2, .ref vu_4]) (rest := []) ⟨hx, hb, hml, hown, hts⟩ (c_X5_read__1 l D cy z H.size Pn ws hw.1 q_1 vu_2 vu_4 dOS so gdo h_q_1 h_vu_2 h_vu_4 o_n o_t o_w) (cwV 2 hts (gV tw_968 tw_969 tw_970 tw_23 tw_971) rfl rfl rfl (by decide +kernel) ⟨Nat.le_of_ble_eq_true rfl, Nat.le_of_ble_eq_true rfl⟩) (tg_preV hw hK hSD hA (ci := 5) (q := (RX5, TX5, 5)) rfl h_q_1 rfl) rfl rfl hl.1 rfl (lv_room (Nat.le_of_ble_eq_true rfl)) dX9_sentence_20 ⟨Nat.le_of_ble_eq_true rfl, Nat.le_of_ble_eq_true rfl⟩) hw hA ⟨by decide, by decide⟩ (fun ws H locs hp_v_5 hw hF9 => ?_)
  have m_u_2 := FLD.over hF9 m_u_2 (by decide)
  have m_u_3 := FLD.over hF9 m_u_3 (by decide)
  have m_u_4 := FLD.over hF9 m_u_4 (by decide)
  have x_TLX_p0_gh := TLX.over hF9 x_TLX_p0_gh (by decide)
  have x_BYX_p0_gdT := BYX.over hF9 x_BYX_p0_gdT (by decide)
  have x_WKX_p0 := WKX.over hF9 x_WKX_p0 (by decide)
  have x_GWX_p0_gdq := GWX.over hF9 x_GWX_p0_gdq (by decide)
  have x_HE_gdq_gdg_gdo_gdA_gdB_false_false := HE.over hF9 x_HE_gdq_gdg_gdo_gdA_gdB_false_false (by decide)
  obtain ⟨hfn, hp_v_5⟩ := hp_v_5
  have o_n : OV vw_SENT Pn ws q_1 ((f_X5_read__1 dOS so gdo).1) := hfn.1
  have o_t : OV vw_TAPE Pn ws vu_2 ((f_X5_read__1 dOS so gdo).2.1) := hfn.2.1
  have o_w : OV vw_POST Pn ws vu_4 ((f_X5_read__1 dOS so gdo).2.2) := hfn.2.2.1
  obtain ⟨fv, e_fv⟩ : ∃ q9 : Int32, (((f_X5_read__1 dOS so gdo).2.1)).1 10 = q9 := ⟨_, rfl⟩
  have m_fv : FLD ws vu_2 7 10 (.int fv) := by rw [← e_fv]; exact o_t.1 10 (by decide)
  obtain ⟨pv, e_pv⟩ : ∃ q9 : Int32, (((f_X5_read__1 dOS so gdo).2.1)).1 11 = q9 := ⟨_, rfl⟩
  have m_pv : FLD ws vu_2 7 11 (.int pv) := by rw [← e_pv]; exact o_t.1 11 (by decide)
  obtain ⟨on, e_on⟩ : ∃ q9 : Int32, (((f_X5_read__1 dOS so gdo).1)).1 4 = q9 := ⟨_, rfl⟩
  have m_on : FLD ws q_1 5 4 (.int on) := by rw [← e_on]; exact o_n.1 4 (by decide)
  have hSA : (fv = 0 → on = SSA gdT gh gdR gdN) ∧ (¬ fv = 0 → -1 - pv = SSA gdT gh gdR gdN) := by
    have h9 := SS_ (sread_ (s0 := dOS) hCX x_PDF_gdo_gdR_gdN.1 rfl)
    rw [e_fv, e_pv, e_on] at h9
    exact h9
  have r_fv : RI fv 0 4 := by
    obtain ⟨v9, a9, b9⟩ := ht_fld (k := 10) (ci := 7) (ts := ty_TAPE) (lo := 0) (hi := 4) hw.1 h_vu_2 rfl rfl
    cases FLD.inj hw.2.2.1 a9 m_fv
    exact b9
  have r_pv := ri_any pv
  have r_on := ri_any on
  refine lv_aload_n hx hb dX9_sentence_23 rfl (lv_at hl 1 rfl) ?_
  refine tk_v (va_runV (As := []) (rest := []) ⟨hx, hb, hml, hown, hts⟩ (c_X9_noteFault__2 l D cy z H.size Pn ws hw.1 p0 h_p0) (cwV 0 hts (gV tw_517 tw_519 ts_9 tw_1 tw_520) rfl rfl rfl (by decide +kernel) ⟨Nat.le_of_ble_eq_true rfl, Nat.le_of_ble_eq_true rfl⟩) (tg_preV hw hK hSD hA (ci := 9) (q := (RX9, TX9, 15)) rfl h_p0 rfl) rfl rfl hl.1 rfl (lv_room (Nat.le_of_ble_eq_true rfl)) dX9_sentence_24 ⟨Nat.le_of_ble_eq_true rfl, Nat.le_of_ble_eq_true rfl⟩) hw hA ⟨by decide, by decide⟩ (fun ws H locs hp_v_6 hw hF9 => ?_)
  have m_u_2 := FLD.over hF9 m_u_2 (by decide)
  have m_u_3 := FLD.over hF9 m_u_3 (by decide)
  have m_u_4 := FLD.over hF9 m_u_4 (by decide)
  have m_fv := FLD.over hF9 m_fv (by decide)
  have m_pv := FLD.over hF9 m_pv (by decide)
  have m_on := FLD.over hF9 m_on (by decide)
  have x_BYX_p0_gdT := BYX.over hF9 x_BYX_p0_gdT (by decide)
  have x_WKX_p0 := WKX.over hF9 x_WKX_p0 (by decide)
  have x_GWX_p0_gdq := GWX.over hF9 x_GWX_p0_gdq (by decide)
  have x_HE_gdq_gdg_gdo_gdA_gdB_false_false := HE.over hF9 x_HE_gdq_gdg_gdo_gdA_gdB_false_false (by decide)
  have x_EQF_p0 := (hp_v_6.1)
  have x_TLX_p0_0 := (hp_v_6.2.1)
  have m_lf : FLD ws p0 9 11 (.int fv) := EQF.lf hw.2.2.1 x_EQF_p0 m_u_2 m_fv
  refine lv_aload_n hx hb dX9_sentence_27 rfl (lv_at hl 1 rfl) ?_
  refine tg_mem (ci := 9) (C := RX9) (T := TX9) (N := 15) hx hb hts inX9 hown hK hw 11 m_lf rfl (by decide) (hts _ tw_357) (fun _ h9 => h9) dX9_sentence_28 ?_
  refine lv_if_eq (tgt := 44) hx hb dX9_sentence_31 (by decide) (fun c_31 => ?_) (fun c_31 => ?_)
  · have r_fv : RI fv 0 0 := rc_eq1 r_fv rl_0 (ti_eq c_31) (by decide)
    refine lv_aload_n hx hb dX9_sentence_44 rfl (lv_at hl 1 rfl) ?_
    refine lv_aload_n hx hb dX9_sentence_45 rfl (lv_at hl 0 rfl) ?_
    refine tg_put (ci := 9) (ts := ty_WP) (v := .ref q_1) (ty := .object "WonderParcels$Sentence") (C := RX9) (T := TX9) (N := 15) hx hb hts inX9 tyX9 tyX9_ok nmX9 hown hK hw h_p0 rfl rfl 5 (by decide) (hts _ tw_351) (fun _ h9 => h9) rfl (by decide +kernel) rfl rfl (ft := vN 32) rfl (Or.inr ⟨_, rfl, h_q_1⟩) (by decide) dX9_sentence_46 (fun ws H locs hw n_k_7 hF9 => ?_)
    have m_u_2 := FLD.over hF9 m_u_2 (by decide)
    have m_u_3 := FLD.over hF9 m_u_3 (by decide)
    have m_u_4 := FLD.over hF9 m_u_4 (by decide)
    have m_fv := FLD.over hF9 m_fv (by decide)
    have m_pv := FLD.over hF9 m_pv (by decide)
    have m_on := FLD.over hF9 m_on (by decide)
    have m_lf := FLD.over hF9 m_lf (by decide)
    have x_BYX_p0_gdT := BYX.over hF9 x_BYX_p0_gdT (by decide)
    have x_WKX_p0 := WKX.over hF9 x_WKX_p0 (by decide)
    have x_GWX_p0_gdq := GWX.over hF9 x_GWX_p0_gdq (by decide)
    have x_HE_gdq_gdg_gdo_gdA_gdB_false_false := HE.over hF9 x_HE_gdq_gdg_gdo_gdA_gdB_false_false (by decide)
    have x_EQF_p0 := EQF.over hF9 x_EQF_p0 (by decide)
    have x_TLX_p0_0 := TLX.over hF9 x_TLX_p0_0 (by decide)
    refine lv_aload_n hx hb dX9_sentence_49 rfl (lv_at hl 0 rfl) ?_
    refine tg_memN (ci := 5) (C := RX5) (T := TX5) (N := 5) hx hb hts inX5 hown hK hw 4 m_on rfl (by decide) (hSD.nest tn_956) (fun _ h9 => h9) dX9_sentence_50 ?_
    subst hQ
    exact W.iret (v := on) hx hb hr (fun t ht hW => ⟨⟨on, (Pn, ws), rfl, ⟨⟨r_on.to (by decide), (fun h0 => trivial), (fun h0 => trivial), ⟨x_TLX_p0_0, (hSA.1 c_31), trivial⟩, (fun _ => trivial), (fun _ => trivial)⟩, hw.2.2.2.2.2.2, hw.1, hw.2.2.2.2.1⟩, by rw [ht]; exact hw.2.1, va_K.moved hW.alike hK, hw.2.2.1⟩, hw.2.2.2.1.F ht⟩) hw.2.2.2.1.2.2 dX9_sentence_53
  · have r_fv : RI fv 1 4 := rc_neL r_fv rl_0 (ti_ne c_31) (by decide)
    refine lv_iconst (v := (-1)) hx hb dX9_sentence_34 (by decide) ?_
    refine lv_aload_n hx hb dX9_sentence_35 rfl (lv_at hl 1 rfl) ?_
    refine tg_mem (ci := 9) (C := RX9) (T := TX9) (N := 15) hx hb hts inX9 hown hK hw 0 m_u_2 rfl (by decide) (hts _ tw_346) (fun _ h9 => h9) dX9_sentence_36 ?_
    refine tg_memN (ci := 7) (C := RX7) (T := TX7) (N := 12) hx hb hts inX7 hown hK hw 11 m_pv rfl (by decide) (hSD.nest tn_107) (fun _ h9 => h9) dX9_sentence_39 ?_
    refine lv_isub hx hb dX9_sentence_42 (lv_topi (fun v_8 e_v_8 => ?_))
    obtain ⟨t_v_8, r_v_8⟩ := tq_sub (lo := (-2147483648)) (hi := 2147483647) rl_m1 r_pv (by decide +kernel) e_v_8
    have t_v_8 : v_8.toInt = (-1) - pv.toInt := t_v_8
    subst hQ
    exact W.iret (v := v_8) hx hb hr (fun t ht hW => ⟨⟨v_8, (Pn, ws), rfl, ⟨⟨r_v_8.to (by decide), (fun h0 => trivial), (fun h0 => trivial), ⟨x_TLX_p0_0, (e_v_8.trans (hSA.2 c_31)), trivial⟩, (fun _ => trivial), (fun _ => trivial)⟩, hw.2.2.2.2.2.2, hw.1, hw.2.2.2.2.1⟩, by rw [ht]; exact hw.2.1, va_K.moved hW.alike hK, hw.2.2.1⟩, hw.2.2.2.1.F ht⟩) hw.2.2.2.1.2.2 dX9_sentence_43
abbrev wr_X10_sentence__4 : List (Nat × Nat) := [(10, 0), (10, 2), (10, 3), (10, 4), (10, 5), (10, 6), (10, 7), (10, 8), (10, 9), (10, 10), (10, 11), (10, 12), (10, 13), (10, 45), (10, 46), (10, 47), (10, 48)]
abbrev wa_X10_sentence__4 : List Nat := [34, 54]
set_option maxHeartbeats 4000000 in
set_option maxRecDepth 100000 in
theorem c_X10_sentence__4 (l : Launch) (D : va_G) (cy : Nat → ClassId) (z : Nat → Nat) (sz : Nat) (Ps : PSI) (w0 : va_W) (hT : HT cy GG Ps w0) (p0 : Nat) (gdR : Nat → Int32) (s0 : OS) (h_p0 : (p0, 55) ∈ Ps) (x_HD_p0_gdR : AX 14 34 (HDp gdR) Ps w0 p0) (o_p0 : OV vw_M2 Ps w0 p0 s0) : Met l yX10_sentence (Cond.code yX10_sentence cX10_sentence 2 (some .int) :: gT) ({ frames := 39, cells := 0, slots := 0, locals := 7800 } : Room) (va_Pc [.ref p0] (PRE D cy z w0 sz)) (va_Qi (fun (r : Int32) (u : va_W) => ((AX 14 34 (HDp gdR) Ps u p0) ∧ ((OV vw_M2 Ps u p0 ((f_X10_sentence__3 s0).1) ∧ (f_X10_sentence__3 s0).2 = r ∧ True) ∧ (RI r (-2147483648) 2147483647 ∧ (r = 0 → True) ∧ (¬ r = 0 → True) ∧ (TLM u p0 (0) ∧ True) ∧ (r.toInt < 0 → True) ∧ (0 ≤ r.toInt → True)))) ∧ HT cy GG Ps u ∧ FR wr_X10_sentence__4 wa_X10_sentence__4 Ps w0 u) (BB D cy (va_A w0 sz) (fun (u : va_W) => u)) (va_A w0 sz)) 0 0 (va_A w0 sz) := by
  refine Met.ofW (cc := cX10_sentence) (maxL := 2) (ret := (some .int)) (by decide) rfl ?_
  intro p e s m args below meth c s₁ B hml hv
  obtain ⟨rfl, hsz, hP, hK, hD0, hSD⟩ := hv
  have hx := B.exec
  have hb := B.bytes
  have hr := B.returns
  have hlocks := B.notSynchronized
  have hts : ∀ w ∈ gT, w.before _ s = true := fun w h => atoms_spec (ws := Cond.code yX10_sentence cX10_sentence 2 (some .int) :: gT) B.pre w (List.mem_cons_of_mem _ h)
  have hown : s.vm.findClass RX10 = some m.cls := findClass_of_methodNamed B.named
  subst hsz
  have hD := hD0.self (sz := s.heap.size)
  generalize hAe : va_A w0 s.heap.size = A at hD hSD ⊢
  have hA : ∀ q : Nat, s.heap.size ≤ q → A q := fun q h => by rw [← hAe]; exact Or.inr h
  have hl := lv_entry ([.ref p0]) (n := 2) (Nat.le_of_ble_eq_true rfl)
  rw [lg_entry_eq]
  generalize (lg_sl ([.ref p0]) ++ List.replicate (2 - (lg_sl ([.ref p0])).length) Slot.unset).toArray = ls at hl ⊢
  have hl : lv_has ls 2 [(0, .ref p0)] := hl
  refine nameQ (fun Q hQ => ?_)
  have hw : WD D cy GG A s wr_X10_sentence__4 wa_X10_sentence__4 Ps w0 Ps w0 s.heap [] := ⟨hT, hP, hD, va_S.rf, FR.rf, hT.1, [], (List.append_nil _).symm⟩
  obtain ⟨R9, hR⟩ : ∃ q9 : OS × Int32, f_X10_sentence__3 s0 = q9 := ⟨_, rfl⟩
  have hE := hR
  have B79 : ∀ (nf : Nat) (x1 : Int32) (z0_2 : Int32) (z0_7 : Int32) (z0_46 : Int32) (z0_47 : Int32) (z0_48 : Int32) (za14 : Nat) (za44 : Nat) (s0 : OS) (ws : va_W) (H : Heap) (locs : List Loc) (ls : Array Slot), 240 - x1.toInt < (nf : Int) → RI x1 0 240 → RI z0_2 0 0 → FLD ws p0 10 2 (.int z0_2) → RI z0_7 0 0 → FLD ws p0 10 7 (.int z0_7) → RI z0_46 1 20 → FLD ws p0 10 46 (.int z0_46) → RI z0_47 0 0 → FLD ws p0 10 47 (.int z0_47) → RI z0_48 0 39 → FLD ws p0 10 48 (.int z0_48) → AX 14 34 (HDp gdR) Ps ws p0 → SNT ws p0 (1) (1) (0) → TLM ws p0 (0) → (za14, 34) ∈ Ps → FLD ws p0 10 14 (.ref za14) → (za44, 54) ∈ Ps → FLD ws p0 10 44 (.ref za44) → AX2 14 34 44 54 (fun f g => CNp x1 f g) Ps ws p0 → OV vw_M2 Ps ws p0 s0 → f_X10_sentence__3_79 nf x1 s0 = R9 → WD D cy (GX za14) A s wr_X10_sentence__4 wa_X10_sentence__4 Ps w0 Ps ws H locs → lv_has ls 2 [(0, .ref p0), (1, .int x1)] → W p l e (headSpec (Cond.code yX10_sentence cX10_sentence 2 (some .int) :: gT) ({ frames := 39, cells := 0, slots := 0, locals := 7800 } : Room)).room s m ([.ref p0] : List Value).toArray below meth c H locs 0 0 Q (F0 m 79 ls []) := by
    intro nf79
    induction nf79 with
    | zero =>
      intro x1 z0_2 z0_7 z0_46 z0_47 z0_48 za14 za44 s0 ws H locs ls hn79 r_x1 r_z0_2 m_z0_2 r_z0_7 m_z0_7 r_z0_46 m_z0_46 r_z0_47 m_z0_47 r_z0_48 m_z0_48 x_HD_p0_gdR x_SNT_p0_1_1_0 x_TLM_p0_0 h_za14 m_za14 h_za44 m_za44 x_CSE_p0__1 o_p0 hE hw hl
      exact absurd hn79 (by have q0 := r_x1.1; have u0 := r_x1.2; omega)
    | succ nf79 ih79 =>
      intro x1 z0_2 z0_7 z0_46 z0_47 z0_48 za14 za44 s0 ws H locs ls hn79 r_x1 r_z0_2 m_z0_2 r_z0_7 m_z0_7 r_z0_46 m_z0_46 r_z0_47 m_z0_47 r_z0_48 m_z0_48 x_HD_p0_gdR x_SNT_p0_1_1_0 x_TLM_p0_0 h_za14 m_za14 h_za44 m_za44 x_CSE_p0__1 o_p0 hE hw hl
      have q_z0_2 : s0.1 2 = z0_2 := OV.eqI (V := vw_M2) hw.2.2.1 o_p0 m_z0_2 (by decide)
      have q_z0_7 : s0.1 7 = z0_7 := OV.eqI (V := vw_M2) hw.2.2.1 o_p0 m_z0_7 (by decide)
      have q_z0_46 : s0.1 46 = z0_46 := OV.eqI (V := vw_M2) hw.2.2.1 o_p0 m_z0_46 (by decide)
      have q_z0_47 : s0.1 47 = z0_47 := OV.eqI (V := vw_M2) hw.2.2.1 o_p0 m_z0_47 (by decide)
      have q_z0_48 : s0.1 48 = z0_48 := OV.eqI (V := vw_M2) hw.2.2.1 o_p0 m_z0_48 (by decide)
      refine lv_iload_n hx hb dX10_sentence_79 rfl (lv_at hl 1 rfl) ?_
      refine lv_sipush (v := 240) hx hb dX10_sentence_80 (by decide) ?_
      refine lv_icmp_ge (tgt := 108) hx hb dX10_sentence_83 (by decide) (fun c_83 => ?_) (fun c_83 => ?_)
      · have r_x1 : RI x1 240 240 := rc_le2 rl_240 r_x1 (ti_le c_83) (by decide)
        have hw := WD.back hw h_za14 rfl (fun f9 q9 => by obtain ⟨g9, e9⟩ := AX2.arr hw x_CSE_p0__1 m_za14 f9 q9; exact CN_end e9 (r_x1.to (by decide)))
        refine lv_aload_n hx hb dX10_sentence_108 rfl (lv_at hl 0 rfl) ?_
        refine tg_mem (ci := 10) (C := RX10) (T := TX10) (N := 49) hx hb hts inX10 hown hK hw 46 m_z0_46 rfl (by decide) (hts _ tw_1183) (fun _ h9 => h9) dX10_sentence_109 ?_
        simp only [f_X10_sentence__3_79, ↓reduceIte, q_z0_2, q_z0_7, q_z0_46, q_z0_47, q_z0_48, eq_true c_83] at hE
        subst hQ
        exact W.iret (v := z0_46) hx hb hr (fun t ht hW => ⟨⟨z0_46, ws, rfl, ⟨⟨x_HD_p0_gdR, ⟨(by rw [hR, ← hE]; exact o_p0), (by rw [hR, ← hE]), trivial⟩, r_z0_46.to (by decide), (fun _ => trivial), (fun h0 => trivial), ⟨x_TLM_p0_0, trivial⟩, (fun _ => trivial), (fun _ => trivial)⟩, hw.1, hw.2.2.2.2.1⟩, by rw [ht]; exact hw.2.1, va_K.moved hW.alike hK, hw.2.2.1⟩, hw.2.2.2.1.F ht⟩) hw.2.2.2.1.2.2 dX10_sentence_112
      · have r_x1 : RI x1 0 239 := rc_lt1 r_x1 rl_240 (ti_nle c_83) (by decide)
        refine lv_aload_n hx hb dX10_sentence_86 rfl (lv_at hl 0 rfl) ?_
        refine tg_mem (ci := 10) (C := RX10) (T := TX10) (N := 49) hx hb hts inX10 hown hK hw 14 m_za14 rfl (by decide) (hts _ tw_1151) (fun _ h9 => h9) dX10_sentence_87 ?_
        refine lv_sipush (v := 174) hx hb dX10_sentence_90 (by decide) ?_
        refine lv_iload_n hx hb dX10_sentence_93 rfl (lv_at hl 1 rfl) ?_
        refine lv_iadd hx hb dX10_sentence_94 (lv_topi (fun v_1 e_v_1 => ?_))
        obtain ⟨t_v_1, r_v_1⟩ := tq_add (lo := 174) (hi := 413) rl_174 r_x1 (by decide +kernel) e_v_1
        have t_v_1 : v_1.toInt = 174 + x1.toInt := t_v_1
        have q_v_1 : (174 : Int32) + x1 = v_1 := e_v_1.symm
        refine lv_aload_n hx hb dX10_sentence_95 rfl (lv_at hl 0 rfl) ?_
        refine tg_mem (ci := 10) (C := RX10) (T := TX10) (N := 49) hx hb hts inX10 hown hK hw 44 m_za44 rfl (by decide) (hts _ tw_1181) (fun _ h9 => h9) dX10_sentence_96 ?_
        refine lv_iload_n hx hb dX10_sentence_99 rfl (lv_at hl 1 rfl) ?_
        refine tg_iald (lo := (-2147483648)) (hi := 2147483647) hx hb hK hw h_za44 rfl 0 239 r_x1 (by decide) (by exact fun _ _ _ => ⟨Int.le_refl _, Int.le_refl _⟩) dX10_sentence_100 (fun v_2 r_v_2 m_v_2 o_v_2 => ?_)
        have q_v_2 : s0.2.2.1 44 (Int32.toNatClampNeg x1) = v_2 := OV.eqA (V := vw_M2) (t := 54) hw.2.2.1 o_p0 m_za44 m_v_2 (by decide)
        have x_CSEV_p0_x1_x1_v_2 : AX2 14 34 44 54 (fun f g => CNp x1 f g ∧ g (Int32.toNatClampNeg x1) = v_2) Ps ws p0 := AX2.el hw x_CSE_p0__1 m_za44 m_v_2
        have mo9 := m_za14
        have hw8 := hw
        refine tg_iast hx hb hK hw h_za14 rfl 174 413 r_v_1 (by decide) r_v_2 (by decide +kernel) (fun _ _ _ _ _ => Or.inl rfl) (by decide) dX10_sentence_101 (fun ws H locs hw hF9 hU9 => ?_)
        have x_HD_p0_gdR : AX 14 34 (HDp gdR) Ps ws p0 := AX.ast hF9 hU9 x_HD_p0_gdR m_za14 (fun f9 h9 => HDp.upd h9 (by have k1 := r_v_1.cl (by decide); have k2 := r_v_1.1; omega))
        have x_CSET_p0_x1 : AX2 14 34 44 54 (fun f g => ∀ k9 : Int32, k9.toInt = Int32.toInt x1 + 1 → CNp  k9 f g) Ps ws p0 := AX2.ast hF9 hU9 x_CSEV_p0_x1_x1_v_2 m_za14 (by decide) (fun f9 g9 h9 => fun k9 e9 => CN_step h9 (r_x1.to (by decide)) rfl e9 (by have k1 := t_v_1; omega))
        have m_v_2 := AEL.over hw8 hF9 h_za44 m_v_2 (by decide)
        have x_SNT_p0_1_1_0 := SNT.over hF9 x_SNT_p0_1_1_0 (by decide)
        have x_TLM_p0_0 := TLM.over hF9 x_TLM_p0_0 (by decide)
        have m_z0_2 := FLD.over hF9 m_z0_2 (by decide)
        have m_z0_7 := FLD.over hF9 m_z0_7 (by decide)
        have m_z0_46 := FLD.over hF9 m_z0_46 (by decide)
        have m_z0_47 := FLD.over hF9 m_z0_47 (by decide)
        have m_z0_48 := FLD.over hF9 m_z0_48 (by decide)
        have m_za14 := FLD.over hF9 m_za14 (by decide)
        have m_za44 := FLD.over hF9 m_za44 (by decide)
        obtain ⟨sg_3, q_sg_3⟩ : ∃ q9 : OS, sA s0 14 (Int32.toNatClampNeg v_1) v_2 = q9 := ⟨_, rfl⟩
        have o_p0 : OV vw_M2 Ps ws p0 sg_3 := by rw [← q_sg_3]; exact OV.putA (V := vw_M2) (t := 34) hF9 hU9 o_p0 mo9 (by decide) (by decide)
        obtain ⟨v_4, e_v_4⟩ : ∃ q9 : Int32, q9 = x1 + Int32.ofInt 1 := ⟨_, rfl⟩
        obtain ⟨t_v_4, r_v_4⟩ := tq_add (lo := 1) (hi := 240) r_x1 (show RI (Int32.ofInt 1) 1 1 by unfold RI; decide +kernel) (by decide +kernel) e_v_4
        have t_v_4 : v_4.toInt = x1.toInt + 1 := t_v_4
        refine lv_iinc (v := v_4) (lv' := [(1, .int v_4), (0, .ref p0)]) hx hb dX10_sentence_102 hl (k := 1) rfl e_v_4.symm (by decide) rfl (fun ls hl => ?_)
        have q_v_4 : x1 + (1 : Int32) = v_4 := by rw [e_v_4, show Int32.ofInt 1 = (1 : Int32) by decide]
        refine lv_goto (tgt := 79) hx hb dX10_sentence_105 (by decide) ?_
        simp only [f_X10_sentence__3_79, ↓reduceIte, q_z0_2, q_z0_7, q_z0_46, q_z0_47, q_z0_48, eq_false c_83, q_v_1, q_v_2, q_sg_3, q_v_4] at hE
        have x_CSE_p0_v_4 : AX2 14 34 44 54 (fun f g => CNp v_4 f g) Ps ws p0 := AX2.imp x_CSET_p0_x1 (fun f9 g9 h9 => h9 _ t_v_4)
        exact ih79 v_4 z0_2 z0_7 z0_46 z0_47 z0_48 za14 za44 sg_3 ws _ _ ls (by have q0 := r_v_4.1; have u0 := r_v_4.2; have o0 := r_x1.1; have p0 := r_x1.2; omega) (r_v_4.to (by decide)) r_z0_2 m_z0_2 r_z0_7 m_z0_7 r_z0_46 m_z0_46 r_z0_47 m_z0_47 r_z0_48 m_z0_48 x_HD_p0_gdR x_SNT_p0_1_1_0 x_TLM_p0_0 h_za14 m_za14 h_za44 m_za44 x_CSE_p0_v_4 o_p0 hE hw (lv_sub hl [1, 0] rfl)
  refine lv_aload_n hx hb dX10_sentence_0 rfl (lv_at hl 0 rfl) ?_
  refine lv_sipush (v := 200) hx hb dX10_sentence_1 (by decide) ?_
  refine tk_v (va_runV (As := [.int 200]) (rest := []) ⟨hx, hb, hml, hown, hts⟩ (c_X10_begin__9 l D cy z s.heap.size Ps w0 hw.1 p0 200 s0 h_p0 rl_200 o_p0) (cwV 1 hts (gV tw_1290 tw_1292 ts_38 tw_15 tw_1293) rfl rfl rfl (by decide +kernel) ⟨Nat.le_of_ble_eq_true rfl, Nat.le_of_ble_eq_true rfl⟩) (tg_preV hw hK hSD hA (ci := 10) (q := (RX10, TX10, 49)) rfl h_p0 rfl) rfl rfl hl.1 rfl (lv_room (Nat.le_of_ble_eq_true rfl)) dX10_sentence_4 ⟨Nat.le_of_ble_eq_true rfl, Nat.le_of_ble_eq_true rfl⟩) hw hA ⟨by decide, by decide⟩ (fun ws H locs hp_v_5 hw hF9 => ?_)
  have x_HD_p0_gdR := AX.over hF9 x_HD_p0_gdR (by decide)
  obtain ⟨hfn, hp_v_5⟩ := hp_v_5
  obtain ⟨sg_6, q_sg_6⟩ : ∃ q9 : OS, (f_X10_begin__4 (200 : Int32) s0) = q9 := ⟨_, rfl⟩
  have o_p0 : OV vw_M2 Ps ws p0 sg_6 := by rw [← q_sg_6]; exact hfn.1
  obtain ⟨v_7, m_v_7, r_v_7⟩ := (hp_v_5.1)
  have x_TLM_p0_0 := (hp_v_5.2.1)
  have x_TLM_p0_0 : TLM ws p0 (0) := by obtain ⟨v9, a9, b9⟩ := x_TLM_p0_0; exact ⟨v9, a9, (by omega)⟩
  refine lv_aload_n hx hb dX10_sentence_7 rfl (lv_at hl 0 rfl) ?_
  refine lv_iconst (v := 0) hx hb dX10_sentence_8 (by decide) ?_
  refine tg_put (ci := 10) (ts := ty_MODEL) (v := .int 0) (ty := .int) (C := RX10) (T := TX10) (N := 49) hx hb hts inX10 tyX10 tyX10_ok nmX10 hown hK hw h_p0 rfl rfl 45 (by decide) (hts _ tw_1182) (fun _ h9 => h9) rfl (by decide +kernel) rfl rfl (ft := vI (-2147483648) 2147483647) rfl ⟨_, rfl, (rl_0.to (by decide))⟩ (by decide) dX10_sentence_9 (fun ws H locs hw n_k_8 hF9 => ?_)
  have m_v_7 := FLD.over hF9 m_v_7 (by decide)
  have x_HD_p0_gdR := AX.over hF9 x_HD_p0_gdR (by decide)
  have x_TLM_p0_0 := TLM.over hF9 x_TLM_p0_0 (by decide)
  obtain ⟨sg_9, q_sg_9⟩ : ∃ q9 : OS, sI sg_6 45 (0 : Int32) = q9 := ⟨_, rfl⟩
  have o_p0 : OV vw_M2 Ps ws p0 sg_9 := by rw [← q_sg_9]; exact OV.putI (V := vw_M2) hF9 n_k_8 o_p0 (by decide)
  refine lv_aload_n hx hb dX10_sentence_12 rfl (lv_at hl 0 rfl) ?_
  refine lv_iconst (v := 0) hx hb dX10_sentence_13 (by decide) ?_
  refine tg_put (ci := 10) (ts := ty_MODEL) (v := .int 0) (ty := .int) (C := RX10) (T := TX10) (N := 49) hx hb hts inX10 tyX10 tyX10_ok nmX10 hown hK hw h_p0 rfl rfl 46 (by decide) (hts _ tw_1183) (fun _ h9 => h9) rfl (by decide +kernel) rfl rfl (ft := vI (-2147483648) 2147483647) rfl ⟨_, rfl, (rl_0.to (by decide))⟩ (by decide) dX10_sentence_14 (fun ws H locs hw n_k_10 hF9 => ?_)
  have m_v_7 := FLD.over hF9 m_v_7 (by decide)
  have n_k_8 := FLD.over hF9 n_k_8 (by decide)
  have x_HD_p0_gdR := AX.over hF9 x_HD_p0_gdR (by decide)
  have x_TLM_p0_0 := TLM.over hF9 x_TLM_p0_0 (by decide)
  obtain ⟨sg_11, q_sg_11⟩ : ∃ q9 : OS, sI sg_9 46 (0 : Int32) = q9 := ⟨_, rfl⟩
  have o_p0 : OV vw_M2 Ps ws p0 sg_11 := by rw [← q_sg_11]; exact OV.putI (V := vw_M2) hF9 n_k_10 o_p0 (by decide)
  refine lv_aload_n hx hb dX10_sentence_17 rfl (lv_at hl 0 rfl) ?_
  refine lv_iconst (v := 0) hx hb dX10_sentence_18 (by decide) ?_
  refine tg_put (ci := 10) (ts := ty_MODEL) (v := .int 0) (ty := .int) (C := RX10) (T := TX10) (N := 49) hx hb hts inX10 tyX10 tyX10_ok nmX10 hown hK hw h_p0 rfl rfl 47 (by decide) (hts _ tw_1184) (fun _ h9 => h9) rfl (by decide +kernel) rfl rfl (ft := vI (-2147483648) 2147483647) rfl ⟨_, rfl, (rl_0.to (by decide))⟩ (by decide) dX10_sentence_19 (fun ws H locs hw n_k_12 hF9 => ?_)
  have m_v_7 := FLD.over hF9 m_v_7 (by decide)
  have n_k_8 := FLD.over hF9 n_k_8 (by decide)
  have n_k_10 := FLD.over hF9 n_k_10 (by decide)
  have x_HD_p0_gdR := AX.over hF9 x_HD_p0_gdR (by decide)
  have x_TLM_p0_0 := TLM.over hF9 x_TLM_p0_0 (by decide)
  obtain ⟨sg_13, q_sg_13⟩ : ∃ q9 : OS, sI sg_11 47 (0 : Int32) = q9 := ⟨_, rfl⟩
  have o_p0 : OV vw_M2 Ps ws p0 sg_13 := by rw [← q_sg_13]; exact OV.putI (V := vw_M2) hF9 n_k_12 o_p0 (by decide)
  refine lv_aload_n hx hb dX10_sentence_22 rfl (lv_at hl 0 rfl) ?_
  have x_SN_p0_0_0_0 : SNp ws p0 (0) (0) (0) := ⟨0, 0, n_k_8, n_k_10, by decide⟩
  refine tk_i (va_runV (As := []) (rest := []) ⟨hx, hb, hml, hown, hts⟩ (c_X10_readOr__9 l D cy z H.size Ps ws hw.1 p0 0 (0) (0) (0) sg_13 h_p0 rl_0 n_k_12 x_SN_p0_0_0_0 o_p0) (cwV 0 hts (gV tw_1751 tw_1753 ts_111 tw_15 tw_1754) rfl rfl rfl (by decide +kernel) ⟨Nat.le_of_ble_eq_true rfl, Nat.le_of_ble_eq_true rfl⟩) (tg_preV hw hK hSD hA (ci := 10) (q := (RX10, TX10, 49)) rfl h_p0 rfl) rfl rfl hl.1 rfl (lv_room (Nat.le_of_ble_eq_true rfl)) dX10_sentence_23 ⟨Nat.le_of_ble_eq_true rfl, Nat.le_of_ble_eq_true rfl⟩) hw hA ⟨by decide, by decide⟩ (fun v_14 ws H locs hp_v_14 hw hF9 => ?_)
  have m_v_7 := FLD.over hF9 m_v_7 (by decide)
  have x_HD_p0_gdR := AX.over hF9 x_HD_p0_gdR (by decide)
  have x_TLM_p0_0 := TLM.over hF9 x_TLM_p0_0 (by decide)
  obtain ⟨hfn, hp_v_14⟩ := hp_v_14
  obtain ⟨sg_15, q_sg_15⟩ : ∃ q9 : OS, (f_X10_readOr__9 sg_13).1 = q9 := ⟨_, rfl⟩
  have o_p0 : OV vw_M2 Ps ws p0 sg_15 := by rw [← q_sg_15]; exact hfn.1
  have q_v_14 : (f_X10_readOr__9 sg_13).2 = v_14 := hfn.2.1
  have r_v_14 : RI v_14 0 1 := hp_v_14.1
  by_cases c9_v_14 : v_14 = 0
  · have r_v_14 : RI v_14 0 0 := by rw [c9_v_14]; exact rl_0
    obtain ⟨v_16, m_v_16, r_v_16⟩ := ((hp_v_14.2.1 c9_v_14).1)
    refine lv_if_ne (tgt := 36) hx hb dX10_sentence_26 (by decide) (fun c_26 => ?_) (fun c_26 => ?_)
    · exact absurd (r_v_14.eq.trans rl_0.eq.symm) ((ti_ne c_26))
    · refine lv_iconst (v := (-1)) hx hb dX10_sentence_29 (by decide) ?_
      refine lv_aload_n hx hb dX10_sentence_30 rfl (lv_at hl 0 rfl) ?_
      refine tg_get (ci := 10) (ts := ty_MODEL) (C := RX10) (T := TX10) (N := 49) hx hb hts inX10 hown hK hw h_p0 rfl rfl 11 (by decide) (hts _ tw_1148) (fun _ h9 => h9) (ft := vI (-2147483648) 2147483647) rfl dX10_sentence_31 (fun u_17 hv_u_17 m_u_17 => ?_)
      obtain ⟨vu_17, rfl, r_vu_17⟩ := hv_u_17
      have q_vu_17 : sg_15.1 11 = vu_17 := OV.eqI (V := vw_M2) hw.2.2.1 o_p0 m_u_17 (by decide)
      refine lv_isub hx hb dX10_sentence_34 (lv_topi (fun v_18 e_v_18 => ?_))
      obtain ⟨t_v_18, r_v_18⟩ := tq_sub (lo := (-2147483648)) (hi := 2147483647) rl_m1 r_vu_17 (by decide +kernel) e_v_18
      have t_v_18 : v_18.toInt = (-1) - vu_17.toInt := t_v_18
      have q_v_18 : ((-1) : Int32) - vu_17 = v_18 := e_v_18.symm
      simp only [f_X10_sentence__3, ↓reduceIte, q_sg_6, q_sg_9, q_sg_11, q_sg_13, q_sg_15, q_v_14, eq_true c9_v_14, eq_true c_26, q_vu_17, q_v_18] at hE
      subst hQ
      exact W.iret (v := v_18) hx hb hr (fun t ht hW => ⟨⟨v_18, ws, rfl, ⟨⟨x_HD_p0_gdR, ⟨(by rw [hR, ← hE]; exact o_p0), (by rw [hR, ← hE]), trivial⟩, r_v_18.to (by decide), (fun h0 => trivial), (fun h0 => trivial), ⟨x_TLM_p0_0, trivial⟩, (fun _ => trivial), (fun _ => trivial)⟩, hw.1, hw.2.2.2.2.1⟩, by rw [ht]; exact hw.2.1, va_K.moved hW.alike hK, hw.2.2.1⟩, hw.2.2.2.1.F ht⟩) hw.2.2.2.1.2.2 dX10_sentence_35
  · have r_v_14 : RI v_14 1 1 := rc_neL r_v_14 rl_0 (ti_ne c9_v_14) (by decide)
    obtain ⟨v_19, m_v_19, r_v_19⟩ := ((hp_v_14.2.2 c9_v_14).1)
    obtain ⟨v_20, m_v_20, r_v_20⟩ := ((hp_v_14.2.2 c9_v_14).2.1)
    obtain ⟨v_21, m_v_21, r_v_21⟩ := ((hp_v_14.2.2 c9_v_14).2.2.1)
    have x_SNT_p0_1_1_0 := ((hp_v_14.2.2 c9_v_14).2.2.2.1)
    refine lv_if_ne (tgt := 36) hx hb dX10_sentence_26 (by decide) (fun c_26 => ?_) (fun c_26 => ?_)
    · refine lv_aload_n hx hb dX10_sentence_36 rfl (lv_at hl 0 rfl) ?_
      refine tg_get (ci := 10) (ts := ty_MODEL) (C := RX10) (T := TX10) (N := 49) hx hb hts inX10 hown hK hw h_p0 rfl rfl 7 (by decide) (hts _ tw_1144) (fun _ h9 => h9) (ft := vI (-2147483648) 2147483647) rfl dX10_sentence_37 (fun u_22 hv_u_22 m_u_22 => ?_)
      obtain ⟨vu_22, rfl, r_vu_22⟩ := hv_u_22
      have q_vu_22 : sg_15.1 7 = vu_22 := OV.eqI (V := vw_M2) hw.2.2.1 o_p0 m_u_22 (by decide)
      refine lv_if_eq (tgt := 56) hx hb dX10_sentence_40 (by decide) (fun c_40 => ?_) (fun c_40 => ?_)
      · have r_vu_22 : RI vu_22 0 0 := rc_eq1 r_vu_22 rl_0 (ti_eq c_40) (by decide)
        refine lv_aload_n hx hb dX10_sentence_56 rfl (lv_at hl 0 rfl) ?_
        refine tg_get (ci := 10) (ts := ty_MODEL) (C := RX10) (T := TX10) (N := 49) hx hb hts inX10 hown hK hw h_p0 rfl rfl 14 (by decide) (hts _ tw_1151) (fun _ h9 => h9) (ft := vR 34) rfl dX10_sentence_57 (fun u_23 hv_u_23 m_u_23 => ?_)
        obtain ⟨vu_23, rfl, h_vu_23⟩ := hv_u_23
        refine lv_sipush (v := 172) hx hb dX10_sentence_60 (by decide) ?_
        refine lv_iconst (v := 1) hx hb dX10_sentence_63 (by decide) ?_
        have mo9 := m_u_23
        refine tg_iast hx hb hK hw h_vu_23 rfl 172 172 rl_172 (by decide) rl_1 (by decide +kernel) (RN_upd (by decide) (by decide)) (by decide) dX10_sentence_64 (fun ws H locs hw hF9 hU9 => ?_)
        have x_HD_p0_gdR : AX 14 34 (HDp gdR) Ps ws p0 := AX.ast hF9 hU9 x_HD_p0_gdR m_u_23 (fun f9 h9 => HDp.upd h9 (by have k1 := rl_172.cl (by decide); have k2 := rl_172.1; omega))
        have x_TLM_p0_0 := TLM.over hF9 x_TLM_p0_0 (by decide)
        have x_SNT_p0_1_1_0 := SNT.over hF9 x_SNT_p0_1_1_0 (by decide)
        have m_v_7 := FLD.over hF9 m_v_7 (by decide)
        have m_v_19 := FLD.over hF9 m_v_19 (by decide)
        have m_v_20 := FLD.over hF9 m_v_20 (by decide)
        have m_v_21 := FLD.over hF9 m_v_21 (by decide)
        have m_u_22 := FLD.over hF9 m_u_22 (by decide)
        have m_u_23 := FLD.over hF9 m_u_23 (by decide)
        obtain ⟨sg_24, q_sg_24⟩ : ∃ q9 : OS, sA sg_15 14 (Int32.toNatClampNeg (172 : Int32)) (1 : Int32) = q9 := ⟨_, rfl⟩
        have o_p0 : OV vw_M2 Ps ws p0 sg_24 := by rw [← q_sg_24]; exact OV.putA (V := vw_M2) (t := 34) hF9 hU9 o_p0 mo9 (by decide) (by decide)
        refine lv_aload_n hx hb dX10_sentence_65 rfl (lv_at hl 0 rfl) ?_
        refine tg_mem (ci := 10) (C := RX10) (T := TX10) (N := 49) hx hb hts inX10 hown hK hw 14 m_u_23 rfl (by decide) (hts _ tw_1151) (fun _ h9 => h9) dX10_sentence_66 ?_
        refine lv_sipush (v := 173) hx hb dX10_sentence_69 (by decide) ?_
        refine lv_aload_n hx hb dX10_sentence_72 rfl (lv_at hl 0 rfl) ?_
        refine tg_mem (ci := 10) (C := RX10) (T := TX10) (N := 49) hx hb hts inX10 hown hK hw 48 m_v_21 rfl (by decide) (hts _ tw_1185) (fun _ h9 => h9) dX10_sentence_73 ?_
        have q_v_21 : sg_24.1 48 = v_21 := OV.eqI (V := vw_M2) hw.2.2.1 o_p0 m_v_21 (by decide)
        have r_v_21 : RI v_21 0 39 := SNL.rng (SNT.top hw x_SNT_p0_1_1_0 m_v_21) (by decide)
        have mo9 := m_u_23
        refine tg_iast hx hb hK hw h_vu_23 rfl 173 173 rl_173 (by decide) r_v_21 (by decide +kernel) (RN_upd (by decide) (by decide)) (by decide) dX10_sentence_76 (fun ws H locs hw hF9 hU9 => ?_)
        have x_HD_p0_gdR : AX 14 34 (HDp gdR) Ps ws p0 := AX.ast hF9 hU9 x_HD_p0_gdR m_u_23 (fun f9 h9 => HDp.upd h9 (by have k1 := rl_173.cl (by decide); have k2 := rl_173.1; omega))
        have x_TLM_p0_0 := TLM.over hF9 x_TLM_p0_0 (by decide)
        have x_SNT_p0_1_1_0 := SNT.over hF9 x_SNT_p0_1_1_0 (by decide)
        have m_v_7 := FLD.over hF9 m_v_7 (by decide)
        have m_v_19 := FLD.over hF9 m_v_19 (by decide)
        have m_v_20 := FLD.over hF9 m_v_20 (by decide)
        have m_v_21 := FLD.over hF9 m_v_21 (by decide)
        have m_u_22 := FLD.over hF9 m_u_22 (by decide)
        have m_u_23 := FLD.over hF9 m_u_23 (by decide)
        obtain ⟨sg_25, q_sg_25⟩ : ∃ q9 : OS, sA sg_24 14 (Int32.toNatClampNeg (173 : Int32)) v_21 = q9 := ⟨_, rfl⟩
        have o_p0 : OV vw_M2 Ps ws p0 sg_25 := by rw [← q_sg_25]; exact OV.putA (V := vw_M2) (t := 34) hF9 hU9 o_p0 mo9 (by decide) (by decide)
        refine lv_iconst (v := 0) hx hb dX10_sentence_77 (by decide) ?_
        refine lv_istore_n (lv' := [(1, .int 0), (0, .ref p0)]) hx hb dX10_sentence_78 rfl hl (by decide) rfl (fun ls hl => ?_)
        simp only [f_X10_sentence__3, ↓reduceIte, q_sg_6, q_sg_9, q_sg_11, q_sg_13, q_sg_15, q_v_14, eq_false c9_v_14, eq_false c_26, q_vu_22, eq_true c_40, q_sg_24, q_v_21, q_sg_25] at hE
        obtain ⟨b_26, m_b_26, h_b_26⟩ := tg_fldR (k := 44) (ci := 10) (ts := ty_MODEL) (u := 54) hw h_p0 rfl rfl
        have x_CSE_p0_0 : AX2 14 34 44 54 (fun f g => CNp 0 f g) Ps ws p0 := AX2.imp (AX.two (ax_of (k := 14) (t := 34) hw h_p0 rfl (fun _ => rfl)) (ax_of (k := 44) (t := 54) hw h_p0 rfl (fun _ => rfl))) (fun f9 g9 h9 => ⟨h9.1.1.1, h9.2.1, fun j9 q9 => absurd q9 (by rw [Int32.toInt_zero]; omega)⟩)
        have hw := WD.weak vu_23 hw
        exact B79 4294967298 0 v_7 vu_22 v_19 v_20 v_21 vu_23 b_26 sg_25 ws _ _ ls (by have q0 := rl_0.1; have u0 := rl_0.2; omega) (rl_0.to (by decide)) r_v_7 m_v_7 r_vu_22 m_u_22 r_v_19 m_v_19 r_v_20 m_v_20 r_v_21 m_v_21 x_HD_p0_gdR x_SNT_p0_1_1_0 x_TLM_p0_0 h_vu_23 m_u_23 h_b_26 m_b_26 x_CSE_p0_0 o_p0 hE hw (lv_sub hl [1, 0] rfl)
      · refine lv_aload_n hx hb dX10_sentence_43 rfl (lv_at hl 0 rfl) ?_
        refine lv_iconst (v := 1) hx hb dX10_sentence_44 (by decide) ?_
        refine tk_i (va_runV (As := [.int 1]) (rest := []) ⟨hx, hb, hml, hown, hts⟩ (c_X10_bad__2 l D cy z H.size Ps ws hw.1 p0 1 sg_15 h_p0 (rl_1.to (by decide)) o_p0) (cwV 1 hts (gV tw_1336 tw_1338 ts_46 tw_15 tw_1339) rfl rfl rfl (by decide +kernel) ⟨Nat.le_of_ble_eq_true rfl, Nat.le_of_ble_eq_true rfl⟩) (tg_preV hw hK hSD hA (ci := 10) (q := (RX10, TX10, 49)) rfl h_p0 rfl) rfl rfl hl.1 rfl (lv_room (Nat.le_of_ble_eq_true rfl)) dX10_sentence_45 ⟨Nat.le_of_ble_eq_true rfl, Nat.le_of_ble_eq_true rfl⟩) hw hA ⟨by decide, by decide⟩ (fun v_27 ws H locs hp_v_27 hw hF9 => ?_)
        have m_v_7 := FLD.over hF9 m_v_7 (by decide)
        have m_v_19 := FLD.over hF9 m_v_19 (by decide)
        have m_v_20 := FLD.over hF9 m_v_20 (by decide)
        have m_v_21 := FLD.over hF9 m_v_21 (by decide)
        have m_u_22 := FLD.over hF9 m_u_22 (by decide)
        have x_HD_p0_gdR := AX.over hF9 x_HD_p0_gdR (by decide)
        have x_TLM_p0_0 := TLM.over hF9 x_TLM_p0_0 (by decide)
        have x_SNT_p0_1_1_0 := SNT.over hF9 x_SNT_p0_1_1_0 (by decide)
        obtain ⟨hfn, hp_v_27⟩ := hp_v_27
        obtain ⟨sg_28, q_sg_28⟩ : ∃ q9 : OS, (f_X10_bad__1 (1 : Int32) sg_15).1 = q9 := ⟨_, rfl⟩
        have o_p0 : OV vw_M2 Ps ws p0 sg_28 := by rw [← q_sg_28]; exact hfn.1
        have q_v_27 : (f_X10_bad__1 (1 : Int32) sg_15).2 = v_27 := hfn.2.1
        have r_v_27 : RI v_27 0 0 := hp_v_27.1
        refine lv_pop hx hb dX10_sentence_48 rfl ?_
        refine lv_iconst (v := (-1)) hx hb dX10_sentence_49 (by decide) ?_
        refine lv_aload_n hx hb dX10_sentence_50 rfl (lv_at hl 0 rfl) ?_
        refine tg_get (ci := 10) (ts := ty_MODEL) (C := RX10) (T := TX10) (N := 49) hx hb hts inX10 hown hK hw h_p0 rfl rfl 11 (by decide) (hts _ tw_1148) (fun _ h9 => h9) (ft := vI (-2147483648) 2147483647) rfl dX10_sentence_51 (fun u_29 hv_u_29 m_u_29 => ?_)
        obtain ⟨vu_29, rfl, r_vu_29⟩ := hv_u_29
        have q_vu_29 : sg_28.1 11 = vu_29 := OV.eqI (V := vw_M2) hw.2.2.1 o_p0 m_u_29 (by decide)
        refine lv_isub hx hb dX10_sentence_54 (lv_topi (fun v_30 e_v_30 => ?_))
        obtain ⟨t_v_30, r_v_30⟩ := tq_sub (lo := (-2147483648)) (hi := 2147483647) rl_m1 r_vu_29 (by decide +kernel) e_v_30
        have t_v_30 : v_30.toInt = (-1) - vu_29.toInt := t_v_30
        have q_v_30 : ((-1) : Int32) - vu_29 = v_30 := e_v_30.symm
        simp only [f_X10_sentence__3, ↓reduceIte, q_sg_6, q_sg_9, q_sg_11, q_sg_13, q_sg_15, q_v_14, eq_false c9_v_14, eq_false c_26, q_vu_22, eq_false c_40, q_sg_28, q_v_27, q_vu_29, q_v_30] at hE
        subst hQ
        exact W.iret (v := v_30) hx hb hr (fun t ht hW => ⟨⟨v_30, ws, rfl, ⟨⟨x_HD_p0_gdR, ⟨(by rw [hR, ← hE]; exact o_p0), (by rw [hR, ← hE]), trivial⟩, r_v_30.to (by decide), (fun h0 => trivial), (fun h0 => trivial), ⟨x_TLM_p0_0, trivial⟩, (fun _ => trivial), (fun _ => trivial)⟩, hw.1, hw.2.2.2.2.1⟩, by rw [ht]; exact hw.2.1, va_K.moved hW.alike hK, hw.2.2.1⟩, hw.2.2.2.1.F ht⟩) hw.2.2.2.1.2.2 dX10_sentence_55
    · have r_v_14 : RI v_14 1 0 := rc_eq1 r_v_14 rl_0 (ti_eq c_26) (by decide)
      exact (r_v_14.no (by decide)).elim
set_option maxHeartbeats 4000000 in
set_option maxRecDepth 100000 in
theorem c_X10_sentence__4_sn (l : Launch) (D : va_G) (cy : Nat → ClassId) (z : Nat → Nat) (sz : Nat) (Ps : PSI) (w0 : va_W) (hT : HT cy GG Ps w0) (p0 : Nat) (gh : Int) (gdT : Nat → Nat) (gdR : Nat → Int32) (gdN : Nat → Nat) (gdL : Nat → Int64) (h_p0 : (p0, 55) ∈ Ps) (x_TLM_p0_gh : TLM w0 p0 (gh)) (x_BYM_p0_gdT : BYM Ps w0 p0 gdT) (x_HD_p0_gdR : AX 14 34 (HDp gdR) Ps w0 p0) (x_NAM_p0_gdL : AXL 20 41 (NMp gdL) Ps w0 p0) (x_NLP_gdR_gdN_gdL : (NLC gdR gdN gdL)) : Met l yX10_sentence (Cond.code yX10_sentence cX10_sentence 2 (some .int) :: gT) ({ frames := 39, cells := 0, slots := 0, locals := 7800 } : Room) (va_Pc [.ref p0] (PRE D cy z w0 sz)) (va_Qi (fun (r : Int32) (u : va_W) => (RI r (-2147483648) 2147483647 ∧ (r = 0 → True) ∧ (¬ r = 0 → True) ∧ (TLM u p0 (0) ∧ AX 14 34 (HDp gdR) Ps u p0 ∧ (r = SSA gdT gh gdR gdN) ∧ True) ∧ (r.toInt < 0 → True) ∧ (0 ≤ r.toInt → True)) ∧ HT cy GG Ps u ∧ FR wr_X10_sentence__4 wa_X10_sentence__4 Ps w0 u) (BB D cy (va_A w0 sz) (fun (u : va_W) => u)) (va_A w0 sz)) 0 0 (va_A w0 sz) := by
  refine Met.ofP (φ := ∃ o, OV vw_M2 Ps w0 p0 o ∧ RXT o gdT gh.toNat ∧ SNM o gdR gdN) (fun a st hv => ?_) (fun hφ => ?_)
  · obtain ⟨-, -, -, -, hD0, -⟩ := hv
    exact md_full2 hT hD0 x_TLM_p0_gh x_BYM_p0_gdT x_HD_p0_gdR x_NAM_p0_gdL x_NLP_gdR_gdN_gdL h_p0
  · obtain ⟨s0, o_p0, hφ⟩ := hφ
    refine Met.monoQ (c_X10_sentence__4 l D cy z sz Ps w0 hT p0 gdR s0 h_p0 x_HD_p0_gdR o_p0) (fun a st oc t hq => ?_)
    obtain ⟨⟨r, u, e1, ⟨⟨hH9, hfn, hp⟩, hT1, hF1⟩, hB⟩, hF⟩ := hq
    exact ⟨⟨r, u, e1, ⟨⟨hp.1, fun _ => trivial, fun _ => trivial, ⟨hp.2.2.2.1.1, hH9, hfn.2.1.symm.trans (rsent_ hφ.1 hφ.2), trivial⟩, fun _ => trivial, fun _ => trivial⟩, hT1, hF1⟩, hB⟩, hF⟩
