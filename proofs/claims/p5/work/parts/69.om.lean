/-! other posts keep their views -/
def VN (Ps : PSI) (ws : va_W) (b q : Nat) (o : OS) : Prop := b ≠ q ∧ OV vw_POST Ps ws b o ∧ ∀ k ∈ ([0, 1, 2, 3, 4] : List Nat), ∃ r r', FLD ws b 3 k (.ref r) ∧ FLD ws q 3 k (.ref r') ∧ r ≠ r'
def OTR (Ps : PSI) (w0 ws : va_W) (q : Nat) : Prop := ∀ b o, VN Ps w0 b q o → VN Ps ws b q o
/-- tr has q for its post, no other world another than before -/
def BGF (w0 ws : va_W) (tr q : Nat) : Prop := FLD ws tr 8 0 (.ref q) ∧ ∀ v pt, v ≠ tr → FLD w0 v 8 0 (.ref pt) → FLD ws v 8 0 (.ref pt)
section FACTS49
variable {A : Nat → Prop} {ws ws' w0 w1 w2 wx : va_W} {Ps Pn X : PSI} {wr : List (Nat × Nat)} {wa : List Nat} {q k t a tr : Nat}
theorem OTR.rf : OTR Ps ws ws q := fun _ _ h => h
theorem OTR.trans (h1 : OTR Ps w0 w1 q) (h2 : OTR Ps w1 w2 q) : OTR Ps w0 w2 q := fun b o h => h2 b o (h1 b o h)
theorem OTR.over (hF : FR wr wa Ps ws ws') (h : OTR Ps w0 ws q) (hn : NPp wr wa ∧ ∀ k ∈ ([0, 1, 2, 3, 4] : List Nat), (3, k) ∉ wr) : OTR Ps w0 ws' q := fun b o v => by
  obtain ⟨e, ho, hd⟩ := h b o v
  refine ⟨e, OV.over hF ho hn.1, fun k hk => ?_⟩
  obtain ⟨r, r', h1, h2, h3⟩ := hd k hk
  exact ⟨r, r', FLD.over hF h1 (hn.2 k hk), FLD.over hF h2 (hn.2 k hk), h3⟩
theorem OTR.put (h : OTR Ps w0 ws q) (hF : FR [(3, k)] [] Ps ws ws') (hO : ∀ (b9 : Nat) (u9 : Value), b9 ≠ q → FLD ws b9 3 k u9 → FLD ws' b9 3 k u9) (hk : 5 ≤ k) : OTR Ps w0 ws' q := fun b o v => by
  obtain ⟨e, ho, hd⟩ := h b o v
  have key : ∀ j u, FLD ws b 3 j u → FLD ws' b 3 j u := fun j u hj => by
    by_cases z : j = k
    · subst z; exact hO b _ e hj
    · exact FLD.over hF hj (nm1 z)
  refine ⟨e, ⟨fun j hj => key j _ (ho.1 j hj), fun j hj => key j _ (ho.2.1 j hj), fun z hz => ?_, fun z hz => ?_⟩, fun j hj => ?_⟩
  · obtain ⟨r, h1, h2⟩ := ho.2.2.1 z hz
    exact ⟨r, key _ _ h1, ARR.over hF h2 List.not_mem_nil⟩
  · obtain ⟨r, h1, h2⟩ := ho.2.2.2 z hz
    exact ⟨r, key _ _ h1, ARL.over hF h2 List.not_mem_nil⟩
  · obtain ⟨r, r', h1, h2, h3⟩ := hd j hj
    have hj5 : j ≠ k := fun z => by subst z; simp only [List.mem_cons, List.not_mem_nil, or_false] at hj; omega
    exact ⟨r, r', key _ _ h1, FLD.over hF h2 (nm1 hj5), h3⟩
theorem OTR.ast (h : OTR Ps w0 ws q) (hF : FR [] [t] Ps ws ws') (hD : va_D A ws) (hO : ∀ (b9 : Nat) (f9 : Nat → Int32), b9 ≠ a → ARR Ps ws b9 t f9 → ARR Ps ws' b9 t f9) (hm : FLD ws q 3 k (.ref a)) (hk : k ∈ ([0, 1, 2, 3, 4] : List Nat) ∧ (∀ z ∈ vw_POST.2.2.2.1, z.2 = t → z.1 = k) ∧ ∀ z ∈ vw_POST.2.2.2.2, z.2 ≠ t) : OTR Ps w0 ws' q := fun b o v => by
  obtain ⟨e, ho, hd⟩ := h b o v
  have key : ∀ c j u, FLD ws c 3 j u → FLD ws' c 3 j u := fun c j u hj => FLD.over hF hj List.not_mem_nil
  refine ⟨e, ⟨fun j hj => key _ j _ (ho.1 j hj), fun j hj => key _ j _ (ho.2.1 j hj), fun z hz => ?_, fun z hz => ?_⟩, fun j hj => ?_⟩
  · obtain ⟨r, h1, h2⟩ := ho.2.2.1 z hz
    refine ⟨r, key _ _ _ h1, ?_⟩
    by_cases ez : z.2 = t
    · rw [ez] at h2 ⊢
      rw [hk.2.1 z hz ez] at h1
      obtain ⟨r1, r', g1, g2, g3⟩ := hd k hk.1
      cases FLD.inj hD g1 h1
      cases FLD.inj hD g2 hm
      exact hO r _ g3 h2
    · exact ARR.over hF h2 (fun m => ez (List.mem_singleton.mp m))
  · obtain ⟨r, h1, h2⟩ := ho.2.2.2 z hz
    exact ⟨r, key _ _ _ h1, ARL.over hF h2 (fun m => hk.2.2 z hz (List.mem_singleton.mp m))⟩
  · obtain ⟨r, r', h1, h2, h3⟩ := hd j hj
    exact ⟨r, r', key _ _ _ h1, key _ _ _ h2, h3⟩
theorem OTR.asl (h : OTR Ps w0 ws q) (hF : FR [] [t] Ps ws ws') (hD : va_D A ws) (hO : ∀ (b9 : Nat) (f9 : Nat → Int64), b9 ≠ a → ARL Ps ws b9 t f9 → ARL Ps ws' b9 t f9) (hm : FLD ws q 3 k (.ref a)) (hk : k ∈ ([0, 1, 2, 3, 4] : List Nat) ∧ (∀ z ∈ vw_POST.2.2.2.2, z.2 = t → z.1 = k) ∧ ∀ z ∈ vw_POST.2.2.2.1, z.2 ≠ t) : OTR Ps w0 ws' q := fun b o v => by
  obtain ⟨e, ho, hd⟩ := h b o v
  have key : ∀ c j u, FLD ws c 3 j u → FLD ws' c 3 j u := fun c j u hj => FLD.over hF hj List.not_mem_nil
  refine ⟨e, ⟨fun j hj => key _ j _ (ho.1 j hj), fun j hj => key _ j _ (ho.2.1 j hj), fun z hz => ?_, fun z hz => ?_⟩, fun j hj => ?_⟩
  · obtain ⟨r, h1, h2⟩ := ho.2.2.1 z hz
    exact ⟨r, key _ _ _ h1, ARR.over hF h2 (fun m => hk.2.2 z hz (List.mem_singleton.mp m))⟩
  · obtain ⟨r, h1, h2⟩ := ho.2.2.2 z hz
    refine ⟨r, key _ _ _ h1, ?_⟩
    by_cases ez : z.2 = t
    · rw [ez] at h2 ⊢
      rw [hk.2.1 z hz ez] at h1
      obtain ⟨r1, r', g1, g2, g3⟩ := hd k hk.1
      cases FLD.inj hD g1 h1
      cases FLD.inj hD g2 hm
      exact hO r _ g3 h2
    · exact ARL.over hF h2 (fun m => ez (List.mem_singleton.mp m))
  · obtain ⟨r, r', h1, h2, h3⟩ := hd j hj
    exact ⟨r, r', key _ _ _ h1, key _ _ _ h2, h3⟩
theorem BGF.over (hF : FR wr wa Ps ws ws') (h : BGF w0 ws tr q) (hn : (8, 0) ∉ wr) : BGF w0 ws' tr q := ⟨FLD.over hF h.1 hn, fun v pt hv k => FLD.over hF (h.2 v pt hv k) hn⟩
theorem ARR.other {i b u : Nat} {e : va_E} {f : Nat → Int32} {y : ClassId × vp_A} (h : ws[i]? = some (a, e)) (hn : b ≠ a) (hf : ARR Ps ws b u f) : ARR Ps (ws.set i (a, .inl y)) b u f := by
  obtain ⟨r, cA, n, h1, h2⟩ := hf
  have hq : i ≠ r := fun z => by
    subst z
    rw [h] at h2
    exact hn (congrArg (fun x => x.1) (Option.some.inj h2)).symm
  exact ⟨r, cA, n, h1, by rw [List.getElem?_set_ne hq]; exact h2⟩
theorem ARL.other {i b u : Nat} {e : va_E} {f : Nat → Int64} {y : ClassId × vp_A} (h : ws[i]? = some (a, e)) (hn : b ≠ a) (hf : ARL Ps ws b u f) : ARL Ps (ws.set i (a, .inl y)) b u f := by
  obtain ⟨r, cA, n, h1, h2⟩ := hf
  have hq : i ≠ r := fun z => by
    subst z
    rw [h] at h2
    exact hn (congrArg (fun x => x.1) (Option.some.inj h2)).symm
  exact ⟨r, cA, n, h1, by rw [List.getElem?_set_ne hq]; exact h2⟩
end FACTS49
section ROWSO
variable {p : Program} {l : Launch} {e : Env} {R : Room} {s : State} {m : MethodId} {args : Array Value} {below : List Frame} {meth : Method} {c : Code} {H : Heap} {locs : List Loc} {cells slots : Nat} {Q : State → Prop}
variable {cc : ByteArray} {pc : Nat} {ls : Array Slot} {rest : List Value} {D : va_G} {cy : Nat → ClassId} {z : Nat → Nat} {A : Nat → Prop} {a : Nat} {ws w0 : va_W} {G : Nat → Nat → CTy} {Ps P0 : PSI} {wr : List (Nat × Nat)} {wa : List Nat}
theorem tg_iastE (hexec : p.tables.exec = Jvm.exec) (hb : c.code = cc) (hK : va_K D classes (TY cy) s) (hw : WD D cy G A s wr wa P0 w0 Ps ws H locs) {t n : Nat} {el : Nat → Int × Int} {Rl : (Nat → Int32) → Prop} (ha : (a, t) ∈ Ps) (hG : G a t = .inr (.inl (1, n, el, Rl))) {i v : Int32} {x y lo hi : Int} (AA BB : Nat) (hi0 : RI i x y) (hab : (AA : Int) ≤ x ∧ y ≤ (BB : Int) ∧ BB < n) (hv : RI v lo hi) (hel : ∀ j, j < BB + 1 → AA ≤ j → (el j).1 ≤ lo ∧ hi ≤ (el j).2) (hR : ∀ (f : Nat → Int32) (j : Nat), AA ≤ j → j ≤ BB → Rl f → Rl (upd f j v)) (hm : t ∈ wa) (hdg : decode cc pc = .ok (.iastore, 1))
    (kk : ∀ (ws1 : va_W) (H1 : Heap) (locs1 : List Loc), WD D cy G A s wr wa P0 w0 Ps ws1 H1 locs1 → FR [] [t] Ps ws ws1 → (va_D A ws ∧ ∀ f, ARR Ps ws a t f → ARR Ps ws1 a t (upd f i.toNatClampNeg v)) → (∀ (b9 : Nat) (f9 : Nat → Int32), b9 ≠ a → ARR Ps ws b9 t f9 → ARR Ps ws1 b9 t f9) → W p l e R s m args below meth c H1 locs1 cells slots Q (F0 m (pc + 1) ls rest)) : W p l e R s m args below meth c H locs cells slots Q (F0 m pc ls (.int v :: .int i :: .ref a :: rest)) := by
  obtain ⟨q, e1, h1, h2, h3⟩ := hw.1.find ha
  have h9 := h3
  rw [hG] at h9
  obtain ⟨f, rfl, h4, h5⟩ := h9
  obtain ⟨g1, g2, g3⟩ := tg_idx hi0 hab
  obtain ⟨w1, w2, w3, w4, w5, w6, X, w7⟩ := hw
  subst w7
  exact va_iast hexec hb hK w2 w3 w4 q 1 h2 rfl g1 hdg (fun H1 locs1 a1 a2 a3 => kk _ H1 locs1 ⟨w1.set h1 (by rw [hG]; exact ⟨_, rfl, tg_upd h4 (hv.to (hel _ (by omega) g2)), hR f _ g2 g3 h5⟩), a1, a2, a3, w5.putA h2 h1 hm, w6, X, rfl⟩ (FR.putA (X := []) FR.rf h2 (by rw [List.append_nil]; exact h1) List.mem_cons_self) ⟨w3, fun f' hf' => by
    obtain ⟨e1, u, e2, e3⟩ := ARR.put (h := upd f i.toNatClampNeg v) w3 h2 hf' (fun _ _ => rfl)
    subst e3; rw [e1]; exact e2⟩ (fun b9 f9 hn9 hf9 => ARR.other h2 hn9 hf9))
theorem tg_lastO (hexec : p.tables.exec = Jvm.exec) (hb : c.code = cc) (hK : va_K D classes (TY cy) s) (hw : WD D cy G A s wr wa P0 w0 Ps ws H locs) {t n : Nat} {lo hi : Int} (ha : (a, t) ∈ Ps) (hG : G a t = .inr (.inr (.inl (n, lo, hi)))) {i : Int32} {v : Int64} {x y a1 b1 : Int} (hi0 : RI i x y) (hab : 0 ≤ x ∧ y < (n : Int)) (hv : RJ v a1 b1) (hr : lo ≤ a1 ∧ b1 ≤ hi) (hm : t ∈ wa) (hdg : decode cc pc = .ok (.lastore, 1))
    (kk : ∀ (ws1 : va_W) (H1 : Heap) (locs1 : List Loc), WD D cy G A s wr wa P0 w0 Ps ws1 H1 locs1 → FR [] [t] Ps ws ws1 → (va_D A ws ∧ ∀ f, ARL Ps ws a t f → ARL Ps ws1 a t (vp_updL f i.toNatClampNeg v)) → (∀ (b9 : Nat) (f9 : Nat → Int64), b9 ≠ a → ARL Ps ws b9 t f9 → ARL Ps ws1 b9 t f9) → W p l e R s m args below meth c H1 locs1 cells slots Q (F0 m (pc + 1) ls rest)) : W p l e R s m args below meth c H locs cells slots Q (F0 m pc ls (.long v :: .int i :: .ref a :: rest)) := by
  obtain ⟨q, e1, h1, h2, h3⟩ := hw.1.find ha
  have h9 := h3
  rw [hG] at h9
  obtain ⟨f, rfl, h4⟩ := h9
  have g1 := hi0.inn hab
  obtain ⟨w1, w2, w3, w4, w5, w6, X, w7⟩ := hw
  subst w7
  refine va_last hexec hb hK w2 w3 w4 q 2 h2 rfl g1 hdg (fun H1 locs1 a1 a2 a3 => kk _ H1 locs1 ⟨w1.set h1 (by
    rw [hG]
    refine ⟨_, rfl, fun j hj => ?_⟩
    show RJ (vp_updL f i.toNatClampNeg v j) lo hi
    unfold vp_updL
    split
    · exact hv.to hr
    · exact h4 j hj), a1, a2, a3, w5.putA h2 h1 hm, w6, X, rfl⟩ (FR.putA (X := []) FR.rf h2 (by rw [List.append_nil]; exact h1) List.mem_cons_self) ⟨w3, fun f' hf' => by
    obtain ⟨e1, e2⟩ := ARL.put (h := vp_updL f i.toNatClampNeg v) w3 h2 hf'
    rw [e1]; exact e2⟩ (fun b9 f9 hn9 hf9 => ARL.other h2 hn9 hf9))
end ROWSO
abbrev wr_X3_beginsLine__23 : List (Nat × Nat) := [(7, 10), (7, 11)]
abbrev wa_X3_beginsLine__23 : List Nat := []
set_option maxHeartbeats 4000000 in
set_option maxRecDepth 100000 in
theorem c_X3_beginsLine__23 (l : Launch) (D : va_G) (cy : Nat → ClassId) (z : Nat → Nat) (sz : Nat) (Ps : PSI) (w0 : va_W) (hT : HT cy GG Ps w0) (p0 : Nat) (p1 : Nat) (p2 : Int32) (f1_10 : Int32) (s0 : OS) (s1 : OS) (h_p0 : (p0, 25) ∈ Ps) (h_p1 : (p1, 26) ∈ Ps) (r_p2 : RI p2 (-2147483648) 127) (r_f1_10 : RI f1_10 0 0) (m_f1_10 : FLD w0 p1 7 10 (.int f1_10)) (o_p0 : OV vw_POST Ps w0 p0 s0) (o_p1 : OV vw_TAPE Ps w0 p1 s1) : Met l yX3_beginsLine (Cond.code yX3_beginsLine cX3_beginsLine 3 (some .boolean) :: gT) ({ frames := 2, cells := 0, slots := 0, locals := 400 } : Room) (va_Pc [.ref p0, .ref p1, .int p2] (PRE D cy z w0 sz)) (va_Qi (fun (r : Int32) (u : va_W) => ((OTR Ps w0 u p0) ∧ ((OV vw_POST Ps u p0 ((f_X3_beginsLine__12 p2 s0 s1).1) ∧ OV vw_TAPE Ps u p1 ((f_X3_beginsLine__12 p2 s0 s1).2.1) ∧ (f_X3_beginsLine__12 p2 s0 s1).2.2 = r ∧ True) ∧ (RI r 0 0 ∧ (r = 0 → (∃ v9 : Int32, FLD u p1 7 10 (.int v9) ∧ RI v9 1 4) ∧ True) ∧ (¬ r = 0 → True)))) ∧ HT cy GG Ps u ∧ FR wr_X3_beginsLine__23 wa_X3_beginsLine__23 Ps w0 u) (BB D cy (va_A w0 sz) (fun (u : va_W) => u)) (va_A w0 sz)) 0 0 (va_A w0 sz) := by
  refine Met.ofW (cc := cX3_beginsLine) (maxL := 3) (ret := (some .boolean)) (by decide) rfl ?_
  intro p e s m args below meth c s₁ B hml hv
  obtain ⟨rfl, hsz, hP, hK, hD0, hSD⟩ := hv
  have hx := B.exec
  have hb := B.bytes
  have hr := B.returns
  have hlocks := B.notSynchronized
  have hts : ∀ w ∈ gT, w.before _ s = true := fun w h => atoms_spec (ws := Cond.code yX3_beginsLine cX3_beginsLine 3 (some .boolean) :: gT) B.pre w (List.mem_cons_of_mem _ h)
  have hown : s.vm.findClass RX3 = some m.cls := findClass_of_methodNamed B.named
  subst hsz
  have hD := hD0.self (sz := s.heap.size)
  generalize hAe : va_A w0 s.heap.size = A at hD hSD ⊢
  have hA : ∀ q : Nat, s.heap.size ≤ q → A q := fun q h => by rw [← hAe]; exact Or.inr h
  have hl := lv_entry ([.ref p0, .ref p1, .int p2]) (n := 3) (Nat.le_of_ble_eq_true rfl)
  rw [lg_entry_eq]
  generalize (lg_sl ([.ref p0, .ref p1, .int p2]) ++ List.replicate (3 - (lg_sl ([.ref p0, .ref p1, .int p2])).length) Slot.unset).toArray = ls at hl ⊢
  have hl : lv_has ls 3 [(0, .ref p0), (1, .ref p1), (2, .int p2)] := hl
  refine nameQ (fun Q hQ => ?_)
  have hw : WD D cy GG A s wr_X3_beginsLine__23 wa_X3_beginsLine__23 Ps w0 Ps w0 s.heap [] := ⟨hT, hP, hD, va_S.rf, FR.rf, hT.1, [], (List.append_nil _).symm⟩
  have x_OT_p0 : OTR Ps w0 w0 p0 := OTR.rf
  obtain ⟨R9, hR⟩ : ∃ q9 : OS × OS × Int32, f_X3_beginsLine__12 p2 s0 s1 = q9 := ⟨_, rfl⟩
  have hE := hR
  refine lv_iload_n hx hb dX3_beginsLine_0 rfl (lv_at hl 2 rfl) ?_
  refine lv_sipush (v := 128) hx hb dX3_beginsLine_1 (by decide) ?_
  refine lv_icmp_lt (tgt := 14) hx hb dX3_beginsLine_4 (by decide) (fun c_4 => ?_) (fun c_4 => ?_)
  · refine lv_aload_n hx hb dX3_beginsLine_14 rfl (lv_at hl 1 rfl) ?_
    refine lv_iconst (v := 1) hx hb dX3_beginsLine_15 (by decide) ?_
    refine tk_v (va_runV (As := [.int 1]) (rest := []) ⟨hx, hb, hml, hown, hts⟩ (c_X7_refuse__5 l D cy z s.heap.size Ps w0 hw.1 p1 1 f1_10 s1 h_p1 (rl_1.to (by decide)) r_f1_10 m_f1_10 o_p1) (cwV 1 hts (gV tw_450 tw_443 tw_444 tw_2 tw_445) rfl rfl rfl (by decide +kernel) ⟨Nat.le_of_ble_eq_true rfl, Nat.le_of_ble_eq_true rfl⟩) (tg_preV hw hK hSD hA (ci := 7) (q := (RX7, TX7, 12)) rfl h_p1 rfl) rfl rfl hl.1 rfl (lv_room (Nat.le_of_ble_eq_true rfl)) dX3_beginsLine_16 ⟨Nat.le_of_ble_eq_true rfl, Nat.le_of_ble_eq_true rfl⟩) hw hA ⟨by decide, by decide⟩ (fun ws H locs hp_v_1 hw hF9 => ?_)
    have x_OT_p0 := OTR.over hF9 x_OT_p0 (by decide)
    obtain ⟨hfn, hp_v_1⟩ := hp_v_1
    have o_p0 := OV.over (V := vw_POST) hF9 o_p0 (by decide)
    obtain ⟨sg_2, q_sg_2⟩ : ∃ q9 : OS, (f_X7_refuse__5 (1 : Int32) s1) = q9 := ⟨_, rfl⟩
    have o_p1 : OV vw_TAPE Ps ws p1 sg_2 := by rw [← q_sg_2]; exact hfn.1
    obtain ⟨v_3, m_v_3, r_v_3⟩ := (hp_v_1.1)
    refine lv_goto (tgt := 92) hx hb dX3_beginsLine_19 (by decide) ?_
    refine lv_aload_n hx hb dX3_beginsLine_92 rfl (lv_at hl 1 rfl) ?_
    refine tk_vr (va_runV (As := []) (rest := []) ⟨hx, hb, hml, hown, hts⟩ (c_X7_pass__4 l D cy z H.size Ps ws hw.1 p1 v_3 sg_2 h_p1 r_v_3 m_v_3 o_p1) (cwV 0 hts (gV tw_451 tw_425 tw_426 tw_2 tw_427) rfl rfl rfl (by decide +kernel) ⟨Nat.le_of_ble_eq_true rfl, Nat.le_of_ble_eq_true rfl⟩) (tg_preV hw hK hSD hA (ci := 7) (q := (RX7, TX7, 12)) rfl h_p1 rfl) rfl rfl hl.1 rfl (lv_room (Nat.le_of_ble_eq_true rfl)) dX3_beginsLine_93 ⟨Nat.le_of_ble_eq_true rfl, Nat.le_of_ble_eq_true rfl⟩) hw hA (fun  H locs hp_v_4 hw => ?_)
    obtain ⟨hfn, hp_v_4⟩ := hp_v_4
    refine lv_aload_n hx hb dX3_beginsLine_96 rfl (lv_at hl 1 rfl) ?_
    refine tg_memN (ci := 7) (C := RX7) (T := TX7) (N := 12) hx hb hts inX7 hown hK hw 10 m_v_3 rfl (by decide) (hSD.nest tn_105) (fun _ h9 => h9) dX3_beginsLine_97 ?_
    have q_v_3 : sg_2.1 10 = v_3 := OV.eqI (V := vw_TAPE) hw.2.2.1 o_p1 m_v_3 (by decide)
    refine lv_if_ne (tgt := 107) hx hb dX3_beginsLine_100 (by decide) (fun c_100 => ?_) (fun c_100 => ?_)
    · refine lv_iconst (v := 0) hx hb dX3_beginsLine_107 (by decide) ?_
      simp only [f_X3_beginsLine__12, ↓reduceIte, eq_true c_4, q_sg_2, q_v_3, eq_false c_100] at hE
      subst hQ
      exact W.zret (v := 0) hx hb hr (rfl) (fun t ht hW => ⟨⟨0, ws, rfl, ⟨⟨x_OT_p0, ⟨(by rw [hR, ← hE]; exact o_p0), (by rw [hR, ← hE]; exact o_p1), (by rw [hR, ← hE]), trivial⟩, rl_0.to (by decide), (fun h0 => ⟨⟨_, m_v_3, r_v_3⟩, trivial⟩), (fun _ => trivial)⟩, hw.1, hw.2.2.2.2.1⟩, by rw [ht]; exact hw.2.1, va_K.moved hW.alike hK, hw.2.2.1⟩, hw.2.2.2.1.F ht⟩) hw.2.2.2.1.2.2 dX3_beginsLine_108
    · have r_v_3 : RI v_3 1 0 := rc_eq1 r_v_3 rl_0 (ti_eq c_100) (by decide)
      exact (r_v_3.no (by decide)).elim
  · have r_p2 : RI p2 128 127 := rc_le2 rl_128 r_p2 (ti_nlt c_4) (by decide)
    exact (r_p2.no (by decide)).elim
abbrev wr_X3_beginsLine__24 : List (Nat × Nat) := [(7, 5), (7, 6), (7, 7), (7, 8), (7, 9), (7, 10), (7, 11)]
abbrev wa_X3_beginsLine__24 : List Nat := []
set_option maxHeartbeats 4000000 in
set_option maxRecDepth 100000 in
theorem c_X3_beginsLine__24 (l : Launch) (D : va_G) (cy : Nat → ClassId) (z : Nat → Nat) (sz : Nat) (Ps : PSI) (w0 : va_W) (hT : HT cy GG Ps w0) (p0 : Nat) (p1 : Nat) (p2 : Int32) (f1_10 : Int32) (s0 : OS) (s1 : OS) (h_p0 : (p0, 25) ∈ Ps) (h_p1 : (p1, 26) ∈ Ps) (r_p2 : RI p2 128 128) (r_f1_10 : RI f1_10 0 0) (m_f1_10 : FLD w0 p1 7 10 (.int f1_10)) (o_p0 : OV vw_POST Ps w0 p0 s0) (o_p1 : OV vw_TAPE Ps w0 p1 s1) : Met l yX3_beginsLine (Cond.code yX3_beginsLine cX3_beginsLine 3 (some .boolean) :: gT) ({ frames := 3, cells := 0, slots := 0, locals := 600 } : Room) (va_Pc [.ref p0, .ref p1, .int p2] (PRE D cy z w0 sz)) (va_Qi (fun (r : Int32) (u : va_W) => ((OTR Ps w0 u p0) ∧ ((OV vw_POST Ps u p0 ((f_X3_beginsLine__13 p2 s0 s1).1) ∧ OV vw_TAPE Ps u p1 ((f_X3_beginsLine__13 p2 s0 s1).2.1) ∧ (f_X3_beginsLine__13 p2 s0 s1).2.2 = r ∧ True) ∧ (RI r 0 1 ∧ (r = 0 → (∃ v9 : Int32, FLD u p1 7 10 (.int v9) ∧ RI v9 1 4) ∧ True) ∧ (¬ r = 0 → (∃ v9 : Int32, FLD u p1 7 10 (.int v9) ∧ RI v9 0 0) ∧ AXC 3 1 4 (fun f => (f 0).toInt < 6) Ps u p0 ∧ True)))) ∧ HT cy GG Ps u ∧ FR wr_X3_beginsLine__24 wa_X3_beginsLine__24 Ps w0 u) (BB D cy (va_A w0 sz) (fun (u : va_W) => u)) (va_A w0 sz)) 0 0 (va_A w0 sz) := by
  refine Met.ofW (cc := cX3_beginsLine) (maxL := 3) (ret := (some .boolean)) (by decide) rfl ?_
  intro p e s m args below meth c s₁ B hml hv
  obtain ⟨rfl, hsz, hP, hK, hD0, hSD⟩ := hv
  have hx := B.exec
  have hb := B.bytes
  have hr := B.returns
  have hlocks := B.notSynchronized
  have hts : ∀ w ∈ gT, w.before _ s = true := fun w h => atoms_spec (ws := Cond.code yX3_beginsLine cX3_beginsLine 3 (some .boolean) :: gT) B.pre w (List.mem_cons_of_mem _ h)
  have hown : s.vm.findClass RX3 = some m.cls := findClass_of_methodNamed B.named
  subst hsz
  have hD := hD0.self (sz := s.heap.size)
  generalize hAe : va_A w0 s.heap.size = A at hD hSD ⊢
  have hA : ∀ q : Nat, s.heap.size ≤ q → A q := fun q h => by rw [← hAe]; exact Or.inr h
  have hl := lv_entry ([.ref p0, .ref p1, .int p2]) (n := 3) (Nat.le_of_ble_eq_true rfl)
  rw [lg_entry_eq]
  generalize (lg_sl ([.ref p0, .ref p1, .int p2]) ++ List.replicate (3 - (lg_sl ([.ref p0, .ref p1, .int p2])).length) Slot.unset).toArray = ls at hl ⊢
  have hl : lv_has ls 3 [(0, .ref p0), (1, .ref p1), (2, .int p2)] := hl
  refine nameQ (fun Q hQ => ?_)
  have hw : WD D cy GG A s wr_X3_beginsLine__24 wa_X3_beginsLine__24 Ps w0 Ps w0 s.heap [] := ⟨hT, hP, hD, va_S.rf, FR.rf, hT.1, [], (List.append_nil _).symm⟩
  have x_OT_p0 : OTR Ps w0 w0 p0 := OTR.rf
  obtain ⟨R9, hR⟩ : ∃ q9 : OS × OS × Int32, f_X3_beginsLine__13 p2 s0 s1 = q9 := ⟨_, rfl⟩
  have hE := hR
  refine lv_iload_n hx hb dX3_beginsLine_0 rfl (lv_at hl 2 rfl) ?_
  refine lv_sipush (v := 128) hx hb dX3_beginsLine_1 (by decide) ?_
  refine lv_icmp_lt (tgt := 14) hx hb dX3_beginsLine_4 (by decide) (fun c_4 => ?_) (fun c_4 => ?_)
  · have r_p2 : RI p2 128 127 := rc_lt1 r_p2 rl_128 (ti_lt c_4) (by decide)
    exact (r_p2.no (by decide)).elim
  · refine lv_iload_n hx hb dX3_beginsLine_7 rfl (lv_at hl 2 rfl) ?_
    refine lv_sipush (v := 136) hx hb dX3_beginsLine_8 (by decide) ?_
    refine lv_icmp_le (tgt := 22) hx hb dX3_beginsLine_11 (by decide) (fun c_11 => ?_) (fun c_11 => ?_)
    · refine lv_iload_n hx hb dX3_beginsLine_22 rfl (lv_at hl 2 rfl) ?_
      refine lv_sipush (v := 131) hx hb dX3_beginsLine_23 (by decide) ?_
      refine lv_icmp_gt (tgt := 59) hx hb dX3_beginsLine_26 (by decide) (fun c_26 => ?_) (fun c_26 => ?_)
      · have r_p2 : RI p2 132 128 := rc_lt2 rl_131 r_p2 (ti_lt c_26) (by decide)
        exact (r_p2.no (by decide)).elim
      · refine lv_aload_n hx hb dX3_beginsLine_29 rfl (lv_at hl 0 rfl) ?_
        refine tg_get (ci := 3) (ts := ty_POST) (C := RX3) (T := TX3) (N := 9) hx hb hts inX3 hown hK hw h_p0 rfl rfl 1 (by decide) (hts _ tw_201) (fun _ h9 => h9) (ft := vR 4) rfl dX3_beginsLine_30 (fun u_1 hv_u_1 m_u_1 => ?_)
        obtain ⟨vu_1, rfl, h_vu_1⟩ := hv_u_1
        refine lv_iload_n hx hb dX3_beginsLine_33 rfl (lv_at hl 2 rfl) ?_
        refine lv_sipush (v := 128) hx hb dX3_beginsLine_34 (by decide) ?_
        refine lv_isub hx hb dX3_beginsLine_37 (lv_topi (fun v_2 e_v_2 => ?_))
        obtain ⟨t_v_2, r_v_2⟩ := tq_sub (lo := 0) (hi := 0) r_p2 rl_128 (by decide +kernel) e_v_2
        have t_v_2 : v_2.toInt = p2.toInt - 128 := t_v_2
        have q_v_2 : p2 - (128 : Int32) = v_2 := e_v_2.symm
        refine tg_iald (lo := 0) (hi := 6) hx hb hK hw h_vu_1 rfl 0 0 r_v_2 (by decide) (by decide +kernel) dX3_beginsLine_38 (fun v_3 r_v_3 m_v_3 o_v_3 => ?_)
        have q_v_3 : s0.2.2.1 1 (Int32.toNatClampNeg v_2) = v_3 := OV.eqA (V := vw_POST) (t := 4) hw.2.2.1 o_p0 m_u_1 m_v_3 (by decide)
        refine va_gets (v := .ref (z 0)) hx hb hSD.2.2.2.1 hw.2.2.2.1 hown (hts _ tw_198) (fun _ h9 => h9) dX3_beginsLine_39 ?_
        refine lv_iload_n hx hb dX3_beginsLine_42 rfl (lv_at hl 2 rfl) ?_
        refine lv_sipush (v := 128) hx hb dX3_beginsLine_43 (by decide) ?_
        refine lv_isub hx hb dX3_beginsLine_46 (lv_topi (fun v_4 e_v_4 => ?_))
        obtain ⟨t_v_4, r_v_4⟩ := tq_sub (lo := 0) (hi := 0) r_p2 rl_128 (by decide +kernel) e_v_4
        have t_v_4 : v_4.toInt = p2.toInt - 128 := t_v_4
        have z9 : v_2 = v_4 := q_v_2.symm.trans (e_v_4.symm)
        subst z9
        refine tz_mk 0 6 hx hb hSD.2.2.2.2.1 hw.2.2.2.1 r_v_2 (by decide) rfl dX3_beginsLine_47 (fun v_5 e_v_5 => ?_)
        have r_v_5 : RI v_5 6 6 := by rw [e_v_5]; exact rl_6
        have q_v_5 : (6 : Int32) = v_5 := e_v_5.symm
        refine lv_icmp_lt (tgt := 59) hx hb dX3_beginsLine_48 (by decide) (fun c_48 => ?_) (fun c_48 => ?_)
        · have d_48 := c_48
          rw [← q_v_5] at d_48
          have r_v_3 : RI v_3 0 5 := rc_lt1 r_v_3 r_v_5 (ti_lt c_48) (by decide)
          have x_MLT_p0_0 : AXC 3 1 4 (fun f => (f 0).toInt < 6) Ps w0 p0 := AXC.mk hw h_vu_1 rfl m_u_1 (fun f9 g9 => by have e9 := g9 _ _ m_v_3; have j9 : Int32.toNatClampNeg v_2 = 0 := (by have k1 := r_v_2.cl (by decide); have k2 := r_v_2.eq; omega); rw [j9] at e9; show _ < _; rw [e9]; have k3 := r_v_3.2; omega)
          refine lv_iload_n hx hb dX3_beginsLine_59 rfl (lv_at hl 2 rfl) ?_
          refine lv_sipush (v := 135) hx hb dX3_beginsLine_60 (by decide) ?_
          refine lv_icmp_ne (tgt := 73) hx hb dX3_beginsLine_63 (by decide) (fun c_63 => ?_) (fun c_63 => ?_)
          · refine lv_iload_n hx hb dX3_beginsLine_73 rfl (lv_at hl 2 rfl) ?_
            refine lv_sipush (v := 136) hx hb dX3_beginsLine_74 (by decide) ?_
            refine lv_icmp_ne (tgt := 92) hx hb dX3_beginsLine_77 (by decide) (fun c_77 => ?_) (fun c_77 => ?_)
            · refine lv_aload_n hx hb dX3_beginsLine_92 rfl (lv_at hl 1 rfl) ?_
              have hw8 := hw
              refine tk_v (va_runV (As := []) (rest := []) ⟨hx, hb, hml, hown, hts⟩ (c_X7_pass__5 l D cy z s.heap.size Ps w0 hw.1 p1 f1_10 s1 h_p1 r_f1_10 m_f1_10 o_p1) (cwV 0 hts (gV tw_451 tw_425 tw_426 tw_2 tw_427) rfl rfl rfl (by decide +kernel) ⟨Nat.le_of_ble_eq_true rfl, Nat.le_of_ble_eq_true rfl⟩) (tg_preV hw hK hSD hA (ci := 7) (q := (RX7, TX7, 12)) rfl h_p1 rfl) rfl rfl hl.1 rfl (lv_room (Nat.le_of_ble_eq_true rfl)) dX3_beginsLine_93 ⟨Nat.le_of_ble_eq_true rfl, Nat.le_of_ble_eq_true rfl⟩) hw hA ⟨by decide, by decide⟩ (fun ws H locs hp_v_6 hw hF9 => ?_)
              have m_v_3 := AEL.over hw8 hF9 h_vu_1 m_v_3 (by decide)
              have m_f1_10 := FLD.over hF9 m_f1_10 (by decide)
              have m_u_1 := FLD.over hF9 m_u_1 (by decide)
              have x_OT_p0 := OTR.over hF9 x_OT_p0 (by decide)
              have x_MLT_p0_0 := AXC.over hF9 x_MLT_p0_0 (by decide)
              obtain ⟨hfn, hp_v_6⟩ := hp_v_6
              have o_p0 := OV.over (V := vw_POST) hF9 o_p0 (by decide)
              obtain ⟨sg_7, q_sg_7⟩ : ∃ q9 : OS, (f_X7_pass__5 s1) = q9 := ⟨_, rfl⟩
              have o_p1 : OV vw_TAPE Ps ws p1 sg_7 := by rw [← q_sg_7]; exact hfn.1
              obtain ⟨v_8, m_v_8, r_v_8⟩ := (hp_v_6.1)
              refine lv_aload_n hx hb dX3_beginsLine_96 rfl (lv_at hl 1 rfl) ?_
              refine tg_memN (ci := 7) (C := RX7) (T := TX7) (N := 12) hx hb hts inX7 hown hK hw 10 m_v_8 rfl (by decide) (hSD.nest tn_105) (fun _ h9 => h9) dX3_beginsLine_97 ?_
              have q_v_8 : sg_7.1 10 = v_8 := OV.eqI (V := vw_TAPE) hw.2.2.1 o_p1 m_v_8 (by decide)
              refine lv_if_ne (tgt := 107) hx hb dX3_beginsLine_100 (by decide) (fun c_100 => ?_) (fun c_100 => ?_)
              · exact absurd (r_v_8.eq.trans rl_0.eq.symm) ((ti_ne c_100))
              · refine lv_iconst (v := 1) hx hb dX3_beginsLine_103 (by decide) ?_
                refine lv_goto (tgt := 108) hx hb dX3_beginsLine_104 (by decide) ?_
                simp only [f_X3_beginsLine__13, ↓reduceIte, eq_false c_4, eq_true c_11, eq_false c_26, q_v_2, q_v_3, eq_true d_48, eq_false c_63, eq_false c_77, q_sg_7, q_v_8, eq_true c_100] at hE
                subst hQ
                exact W.zret (v := 1) hx hb hr (rfl) (fun t ht hW => ⟨⟨1, ws, rfl, ⟨⟨x_OT_p0, ⟨(by rw [hR, ← hE]; exact o_p0), (by rw [hR, ← hE]; exact o_p1), (by rw [hR, ← hE]), trivial⟩, rl_1.to (by decide), (fun h0 => absurd h0 (by decide)), (fun h0 => ⟨⟨_, m_v_8, r_v_8⟩, x_MLT_p0_0, trivial⟩)⟩, hw.1, hw.2.2.2.2.1⟩, by rw [ht]; exact hw.2.1, va_K.moved hW.alike hK, hw.2.2.1⟩, hw.2.2.2.1.F ht⟩) hw.2.2.2.1.2.2 dX3_beginsLine_108
            · have r_p2 : RI p2 136 128 := rc_eq1 r_p2 rl_136 (ti_eq c_77) (by decide)
              exact (r_p2.no (by decide)).elim
          · have r_p2 : RI p2 135 128 := rc_eq1 r_p2 rl_135 (ti_eq c_63) (by decide)
            exact (r_p2.no (by decide)).elim
        · have d_48 := c_48
          rw [← q_v_5] at d_48
          have r_v_3 : RI v_3 6 6 := rc_le2 r_v_5 r_v_3 (ti_nlt c_48) (by decide)
          refine lv_aload_n hx hb dX3_beginsLine_51 rfl (lv_at hl 1 rfl) ?_
          refine lv_iconst (v := 4) hx hb dX3_beginsLine_52 (by decide) ?_
          have hw8 := hw
          refine tk_v (va_runV (As := [.int 4]) (rest := []) ⟨hx, hb, hml, hown, hts⟩ (c_X7_refuse__5 l D cy z s.heap.size Ps w0 hw.1 p1 4 f1_10 s1 h_p1 (rl_4.to (by decide)) r_f1_10 m_f1_10 o_p1) (cwV 1 hts (gV tw_450 tw_443 tw_444 tw_2 tw_445) rfl rfl rfl (by decide +kernel) ⟨Nat.le_of_ble_eq_true rfl, Nat.le_of_ble_eq_true rfl⟩) (tg_preV hw hK hSD hA (ci := 7) (q := (RX7, TX7, 12)) rfl h_p1 rfl) rfl rfl hl.1 rfl (lv_room (Nat.le_of_ble_eq_true rfl)) dX3_beginsLine_53 ⟨Nat.le_of_ble_eq_true rfl, Nat.le_of_ble_eq_true rfl⟩) hw hA ⟨by decide, by decide⟩ (fun ws H locs hp_v_9 hw hF9 => ?_)
          have m_v_3 := AEL.over hw8 hF9 h_vu_1 m_v_3 (by decide)
          have m_u_1 := FLD.over hF9 m_u_1 (by decide)
          have x_OT_p0 := OTR.over hF9 x_OT_p0 (by decide)
          obtain ⟨hfn, hp_v_9⟩ := hp_v_9
          have o_p0 := OV.over (V := vw_POST) hF9 o_p0 (by decide)
          obtain ⟨sg_10, q_sg_10⟩ : ∃ q9 : OS, (f_X7_refuse__5 (4 : Int32) s1) = q9 := ⟨_, rfl⟩
          have o_p1 : OV vw_TAPE Ps ws p1 sg_10 := by rw [← q_sg_10]; exact hfn.1
          obtain ⟨v_11, m_v_11, r_v_11⟩ := (hp_v_9.1)
          refine lv_goto (tgt := 92) hx hb dX3_beginsLine_56 (by decide) ?_
          refine lv_aload_n hx hb dX3_beginsLine_92 rfl (lv_at hl 1 rfl) ?_
          refine tk_vr (va_runV (As := []) (rest := []) ⟨hx, hb, hml, hown, hts⟩ (c_X7_pass__4 l D cy z H.size Ps ws hw.1 p1 v_11 sg_10 h_p1 r_v_11 m_v_11 o_p1) (cwV 0 hts (gV tw_451 tw_425 tw_426 tw_2 tw_427) rfl rfl rfl (by decide +kernel) ⟨Nat.le_of_ble_eq_true rfl, Nat.le_of_ble_eq_true rfl⟩) (tg_preV hw hK hSD hA (ci := 7) (q := (RX7, TX7, 12)) rfl h_p1 rfl) rfl rfl hl.1 rfl (lv_room (Nat.le_of_ble_eq_true rfl)) dX3_beginsLine_93 ⟨Nat.le_of_ble_eq_true rfl, Nat.le_of_ble_eq_true rfl⟩) hw hA (fun  H locs hp_v_12 hw => ?_)
          obtain ⟨hfn, hp_v_12⟩ := hp_v_12
          refine lv_aload_n hx hb dX3_beginsLine_96 rfl (lv_at hl 1 rfl) ?_
          refine tg_memN (ci := 7) (C := RX7) (T := TX7) (N := 12) hx hb hts inX7 hown hK hw 10 m_v_11 rfl (by decide) (hSD.nest tn_105) (fun _ h9 => h9) dX3_beginsLine_97 ?_
          have q_v_11 : sg_10.1 10 = v_11 := OV.eqI (V := vw_TAPE) hw.2.2.1 o_p1 m_v_11 (by decide)
          refine lv_if_ne (tgt := 107) hx hb dX3_beginsLine_100 (by decide) (fun c_100 => ?_) (fun c_100 => ?_)
          · refine lv_iconst (v := 0) hx hb dX3_beginsLine_107 (by decide) ?_
            simp only [f_X3_beginsLine__13, ↓reduceIte, eq_false c_4, eq_true c_11, eq_false c_26, q_v_2, q_v_3, eq_false d_48, q_sg_10, q_v_11, eq_false c_100] at hE
            subst hQ
            exact W.zret (v := 0) hx hb hr (rfl) (fun t ht hW => ⟨⟨0, ws, rfl, ⟨⟨x_OT_p0, ⟨(by rw [hR, ← hE]; exact o_p0), (by rw [hR, ← hE]; exact o_p1), (by rw [hR, ← hE]), trivial⟩, rl_0.to (by decide), (fun h0 => ⟨⟨_, m_v_11, r_v_11⟩, trivial⟩), (fun h0 => absurd rfl h0)⟩, hw.1, hw.2.2.2.2.1⟩, by rw [ht]; exact hw.2.1, va_K.moved hW.alike hK, hw.2.2.1⟩, hw.2.2.2.1.F ht⟩) hw.2.2.2.1.2.2 dX3_beginsLine_108
          · have r_v_11 : RI v_11 1 0 := rc_eq1 r_v_11 rl_0 (ti_eq c_100) (by decide)
            exact (r_v_11.no (by decide)).elim
    · have r_p2 : RI p2 137 128 := rc_lt2 rl_136 r_p2 (ti_nle c_11) (by decide)
      exact (r_p2.no (by decide)).elim
abbrev wr_X3_tellName__8 : List (Nat × Nat) := [(7, 5), (7, 6), (7, 7), (7, 8), (7, 9), (7, 10), (7, 11)]
abbrev wa_X3_tellName__8 : List Nat := [1, 4]
set_option maxHeartbeats 4000000 in
set_option maxRecDepth 100000 in
theorem c_X3_tellName__8 (l : Launch) (D : va_G) (cy : Nat → ClassId) (z : Nat → Nat) (sz : Nat) (Ps : PSI) (w0 : va_W) (hT : HT cy GG Ps w0) (p0 : Nat) (p1 : Nat) (p2 : Int32) (s0 : OS) (s1 : OS) (h_p0 : (p0, 25) ∈ Ps) (h_p1 : (p1, 26) ∈ Ps) (r_p2 : RI p2 0 0) (x_MLT_p0_0 : AXC 3 1 4 (fun f => (f 0).toInt < 6) Ps w0 p0) (o_p0 : OV vw_POST Ps w0 p0 s0) (o_p1 : OV vw_TAPE Ps w0 p1 s1) : Met l yX3_tellName (Cond.code yX3_tellName cX3_tellName 4 (some .int) :: gT) ({ frames := 3, cells := 0, slots := 0, locals := 600 } : Room) (va_Pc [.ref p0, .ref p1, .int p2] (PRE D cy z w0 sz)) (va_Qi (fun (r : Int32) (u : va_W) => ((OTR Ps w0 u p0) ∧ ((OV vw_POST Ps u p0 ((f_X3_tellName__4 p2 s0 s1).1) ∧ OV vw_TAPE Ps u p1 ((f_X3_tellName__4 p2 s0 s1).2.1) ∧ (f_X3_tellName__4 p2 s0 s1).2.2 = r ∧ True) ∧ (RI r (-1) 5 ∧ (r = 0 → (∃ v9 : Int32, FLD u p1 7 10 (.int v9) ∧ RI v9 0 0) ∧ True) ∧ (¬ r = 0 → True)))) ∧ HT cy GG Ps u ∧ FR wr_X3_tellName__8 wa_X3_tellName__8 Ps w0 u) (BB D cy (va_A w0 sz) (fun (u : va_W) => u)) (va_A w0 sz)) 0 0 (va_A w0 sz) := by
  refine Met.ofW (cc := cX3_tellName) (maxL := 4) (ret := (some .int)) (by decide) rfl ?_
  intro p e s m args below meth c s₁ B hml hv
  obtain ⟨rfl, hsz, hP, hK, hD0, hSD⟩ := hv
  have hx := B.exec
  have hb := B.bytes
  have hr := B.returns
  have hlocks := B.notSynchronized
  have hts : ∀ w ∈ gT, w.before _ s = true := fun w h => atoms_spec (ws := Cond.code yX3_tellName cX3_tellName 4 (some .int) :: gT) B.pre w (List.mem_cons_of_mem _ h)
  have hown : s.vm.findClass RX3 = some m.cls := findClass_of_methodNamed B.named
  subst hsz
  have hD := hD0.self (sz := s.heap.size)
  generalize hAe : va_A w0 s.heap.size = A at hD hSD ⊢
  have hA : ∀ q : Nat, s.heap.size ≤ q → A q := fun q h => by rw [← hAe]; exact Or.inr h
  have hl := lv_entry ([.ref p0, .ref p1, .int p2]) (n := 4) (Nat.le_of_ble_eq_true rfl)
  rw [lg_entry_eq]
  generalize (lg_sl ([.ref p0, .ref p1, .int p2]) ++ List.replicate (4 - (lg_sl ([.ref p0, .ref p1, .int p2])).length) Slot.unset).toArray = ls at hl ⊢
  have hl : lv_has ls 4 [(0, .ref p0), (1, .ref p1), (2, .int p2)] := hl
  refine nameQ (fun Q hQ => ?_)
  have hw : WD D cy GG A s wr_X3_tellName__8 wa_X3_tellName__8 Ps w0 Ps w0 s.heap [] := ⟨hT, hP, hD, va_S.rf, FR.rf, hT.1, [], (List.append_nil _).symm⟩
  have x_OT_p0 : OTR Ps w0 w0 p0 := OTR.rf
  obtain ⟨R9, hR⟩ : ∃ q9 : OS × OS × Int32, f_X3_tellName__4 p2 s0 s1 = q9 := ⟨_, rfl⟩
  have hE := hR
  have B32 : ∀ (s0 : OS) (s1 : OS) (ws : va_W) (H : Heap) (locs : List Loc) (ls : Array Slot), RI p2 0 0 → AXC 3 1 4 (fun f => (f 0).toInt < 6) Ps ws p0 → OTR Ps w0 ws p0 → OV vw_POST Ps ws p0 s0 → OV vw_TAPE Ps ws p1 s1 → f_X3_tellName__4_32 p2 s0 s1 = R9 → WD D cy GG A s wr_X3_tellName__8 wa_X3_tellName__8 Ps w0 Ps ws H locs → lv_has ls 4 [(0, .ref p0), (1, .ref p1), (2, .int p2)] → W p l e (headSpec (Cond.code yX3_tellName cX3_tellName 4 (some .int) :: gT) ({ frames := 3, cells := 0, slots := 0, locals := 600 } : Room)).room s m ([.ref p0, .ref p1, .int p2] : List Value).toArray below meth c H locs 0 0 Q (F0 m 32 ls []) := by
    intro s0 s1 ws H locs ls r_p2 x_MLT_p0_0 x_OT_p0 o_p0 o_p1 hE hw hl
    refine lv_aload_n hx hb dX3_tellName_32 rfl (lv_at hl 1 rfl) ?_
    refine tg_getN (ci := 7) (ts := ty_TAPE) (C := RX7) (T := TX7) (N := 12) hx hb hts inX7 hown hK hw h_p1 rfl rfl 10 (by decide) (hSD.nest tn_105) (fun _ h9 => h9) (ft := vI 0 4) rfl dX3_tellName_33 (fun u_1 hv_u_1 m_u_1 => ?_)
    obtain ⟨vu_1, rfl, r_vu_1⟩ := hv_u_1
    have q_vu_1 : s1.1 10 = vu_1 := OV.eqI (V := vw_TAPE) hw.2.2.1 o_p1 m_u_1 (by decide)
    refine lv_if_eq (tgt := 41) hx hb dX3_tellName_36 (by decide) (fun c_36 => ?_) (fun c_36 => ?_)
    · have r_vu_1 : RI vu_1 0 0 := rc_eq1 r_vu_1 rl_0 (ti_eq c_36) (by decide)
      refine lv_aload_n hx hb dX3_tellName_41 rfl (lv_at hl 0 rfl) ?_
      refine tg_get (ci := 3) (ts := ty_POST) (C := RX3) (T := TX3) (N := 9) hx hb hts inX3 hown hK hw h_p0 rfl rfl 1 (by decide) (hts _ tw_201) (fun _ h9 => h9) (ft := vR 4) rfl dX3_tellName_42 (fun u_2 hv_u_2 m_u_2 => ?_)
      obtain ⟨vu_2, rfl, h_vu_2⟩ := hv_u_2
      refine lv_iload_n hx hb dX3_tellName_45 rfl (lv_at hl 2 rfl) ?_
      refine tg_iald (lo := 0) (hi := 6) hx hb hK hw h_vu_2 rfl 0 0 r_p2 (by decide) (by decide +kernel) dX3_tellName_46 (fun v_3 r_v_3 m_v_3 o_v_3 => ?_)
      have q_v_3 : s0.2.2.1 1 (Int32.toNatClampNeg p2) = v_3 := OV.eqA (V := vw_POST) (t := 4) hw.2.2.1 o_p0 m_u_2 m_v_3 (by decide)
      have r_v_3 : RI v_3 0 5 := ⟨r_v_3.1, by obtain ⟨f9, q9, e9⟩ := AXC.use hw x_MLT_p0_0 m_u_2 m_v_3; have j9 : Int32.toNatClampNeg p2 = 0 := (by have k1 := r_p2.cl (by decide); have k2 := r_p2.eq; omega); rw [j9] at e9; have q8 : (f9 0).toInt < 6 := q9; rw [e9] at q8; omega⟩
      refine lv_istore_n (lv' := [(3, .int v_3), (0, .ref p0), (1, .ref p1), (2, .int p2)]) hx hb dX3_tellName_47 rfl hl (by decide) rfl (fun ls hl => ?_)
      refine lv_aload_n hx hb dX3_tellName_48 rfl (lv_at hl 1 rfl) ?_
      refine tg_get (ci := 3) (ts := ty_POST) (C := RX3) (T := TX3) (N := 9) hx hb hts inX3 hown hK hw h_p0 rfl rfl 0 (by decide) (hts _ tw_200) (fun _ h9 => h9) (ft := vR 1) rfl dX3_tellName_49 (fun u_4 hv_u_4 m_u_4 => ?_)
      obtain ⟨vu_4, rfl, h_vu_4⟩ := hv_u_4
      refine lv_iload_n hx hb dX3_tellName_52 rfl (lv_at hl 3 rfl) ?_
      refine lv_bipush (v := 8) hx hb dX3_tellName_53 (by decide) ?_
      refine lv_imul hx hb dX3_tellName_55 (lv_topi (fun v_5 e_v_5 => ?_))
      obtain ⟨t_v_5, r_v_5⟩ := tq_mul (lo := 0) (hi := 0) r_p2 rl_8 (by decide +kernel) e_v_5
      have t_v_5 : v_5.toInt = p2.toInt * 8 := t_v_5
      have q_v_5 : p2 * (8 : Int32) = v_5 := e_v_5.symm
      refine lv_iload_n hx hb dX3_tellName_56 rfl (lv_at hl 0 rfl) ?_
      refine lv_iadd hx hb dX3_tellName_57 (lv_topi (fun v_6 e_v_6 => ?_))
      obtain ⟨t_v_6, r_v_6⟩ := tq_add (lo := 0) (hi := 5) r_v_5 r_v_3 (by decide +kernel) e_v_6
      have q_v_6 : v_5 + v_3 = v_6 := e_v_6.symm
      refine lv_aload_n hx hb dX3_tellName_58 rfl (lv_at hl 2 rfl) ?_
      refine tg_getN (ci := 7) (ts := ty_TAPE) (C := RX7) (T := TX7) (N := 12) hx hb hts inX7 hown hK hw h_p1 rfl rfl 8 (by decide) (hSD.nest tn_99) (fun _ h9 => h9) (ft := vJ (-9223372036854775808) 9223372036854775807) rfl dX3_tellName_59 (fun u_7 hv_u_7 m_u_7 => ?_)
      obtain ⟨vu_7, rfl, r_vu_7⟩ := hv_u_7
      have q_vu_7 : s1.2.1 8 = vu_7 := OV.eqL (V := vw_TAPE) hw.2.2.1 o_p1 m_u_7 (by decide)
      have mo8 := m_u_4
      have mo9 := m_u_4
      refine tg_lastO hx hb hK hw h_vu_4 rfl r_v_6 (by decide) r_vu_7 (by decide) (by decide) dX3_tellName_62 (fun ws H locs hw hF9 hU9 hO9 => ?_)
      have x_MLT_p0_0 := AXC.over hF9 x_MLT_p0_0 (by decide)
      have m_u_1 := FLD.over hF9 m_u_1 (by decide)
      have m_u_2 := FLD.over hF9 m_u_2 (by decide)
      have m_u_4 := FLD.over hF9 m_u_4 (by decide)
      have m_u_7 := FLD.over hF9 m_u_7 (by decide)
      have o_p1 := OV.over (V := vw_TAPE) hF9 o_p1 (by decide)
      obtain ⟨sg_8, q_sg_8⟩ : ∃ q9 : OS, sB s0 0 (Int32.toNatClampNeg v_6) vu_7 = q9 := ⟨_, rfl⟩
      have o_p0 : OV vw_POST Ps ws p0 sg_8 := by rw [← q_sg_8]; exact OV.putB (V := vw_POST) (t := 1) hF9 hU9 o_p0 mo9 (by decide) (by decide)
      have x_OT_p0 : OTR Ps w0 ws p0 := OTR.asl x_OT_p0 hF9 hU9.1 hO9 mo8 (by decide)
      refine lv_aload_n hx hb dX3_tellName_63 rfl (lv_at hl 1 rfl) ?_
      refine tg_mem (ci := 3) (C := RX3) (T := TX3) (N := 9) hx hb hts inX3 hown hK hw 1 m_u_2 rfl (by decide) (hts _ tw_201) (fun _ h9 => h9) dX3_tellName_64 ?_
      refine lv_iload_n hx hb dX3_tellName_67 rfl (lv_at hl 3 rfl) ?_
      refine lv_iload_n hx hb dX3_tellName_68 rfl (lv_at hl 0 rfl) ?_
      refine lv_iconst (v := 1) hx hb dX3_tellName_69 (by decide) ?_
      refine lv_iadd hx hb dX3_tellName_70 (lv_topi (fun v_9 e_v_9 => ?_))
      obtain ⟨t_v_9, r_v_9⟩ := tq_add (lo := 1) (hi := 6) r_v_3 rl_1 (by decide +kernel) e_v_9
      have t_v_9 : v_9.toInt = v_3.toInt + 1 := t_v_9
      have q_v_9 : v_3 + (1 : Int32) = v_9 := e_v_9.symm
      have mo8 := m_u_2
      have mo9 := m_u_2
      refine tg_iastE hx hb hK hw h_vu_2 rfl 0 0 r_p2 (by decide) r_v_9 (by decide +kernel) (fun _ _ _ _ _ => trivial) (by decide) dX3_tellName_71 (fun ws H locs hw hF9 hU9 hO9 => ?_)
      have m_u_1 := FLD.over hF9 m_u_1 (by decide)
      have m_u_2 := FLD.over hF9 m_u_2 (by decide)
      have m_u_4 := FLD.over hF9 m_u_4 (by decide)
      have m_u_7 := FLD.over hF9 m_u_7 (by decide)
      have o_p1 := OV.over (V := vw_TAPE) hF9 o_p1 (by decide)
      obtain ⟨sg_10, q_sg_10⟩ : ∃ q9 : OS, sA sg_8 1 (Int32.toNatClampNeg p2) v_9 = q9 := ⟨_, rfl⟩
      have o_p0 : OV vw_POST Ps ws p0 sg_10 := by rw [← q_sg_10]; exact OV.putA (V := vw_POST) (t := 4) hF9 hU9 o_p0 mo9 (by decide) (by decide)
      have x_OT_p0 : OTR Ps w0 ws p0 := OTR.ast x_OT_p0 hF9 hU9.1 hO9 mo8 (by decide)
      refine lv_aload_n hx hb dX3_tellName_72 rfl (lv_at hl 2 rfl) ?_
      refine tk_v (va_runV (As := []) (rest := []) ⟨hx, hb, hml, hown, hts⟩ (c_X7_pass__5 l D cy z H.size Ps ws hw.1 p1 vu_1 s1 h_p1 r_vu_1 m_u_1 o_p1) (cwV 0 hts (gV tw_451 tw_425 tw_426 tw_2 tw_427) rfl rfl rfl (by decide +kernel) ⟨Nat.le_of_ble_eq_true rfl, Nat.le_of_ble_eq_true rfl⟩) (tg_preV hw hK hSD hA (ci := 7) (q := (RX7, TX7, 12)) rfl h_p1 rfl) rfl rfl hl.1 rfl (lv_room (Nat.le_of_ble_eq_true rfl)) dX3_tellName_73 ⟨Nat.le_of_ble_eq_true rfl, Nat.le_of_ble_eq_true rfl⟩) hw hA ⟨by decide, by decide⟩ (fun ws H locs hp_v_11 hw hF9 => ?_)
      have m_u_1 := FLD.over hF9 m_u_1 (by decide)
      have m_u_2 := FLD.over hF9 m_u_2 (by decide)
      have m_u_4 := FLD.over hF9 m_u_4 (by decide)
      have x_OT_p0 := OTR.over hF9 x_OT_p0 (by decide)
      obtain ⟨hfn, hp_v_11⟩ := hp_v_11
      have o_p0 := OV.over (V := vw_POST) hF9 o_p0 (by decide)
      obtain ⟨sg_12, q_sg_12⟩ : ∃ q9 : OS, (f_X7_pass__5 s1) = q9 := ⟨_, rfl⟩
      have o_p1 : OV vw_TAPE Ps ws p1 sg_12 := by rw [← q_sg_12]; exact hfn.1
      obtain ⟨v_13, m_v_13, r_v_13⟩ := (hp_v_11.1)
      refine lv_iload_n hx hb dX3_tellName_76 rfl (lv_at hl 0 rfl) ?_
      simp only [f_X3_tellName__4_32, ↓reduceIte, q_vu_1, eq_true c_36, q_v_3, q_v_5, q_v_6, q_vu_7, q_sg_8, q_v_9, q_sg_10, q_sg_12] at hE
      subst hQ
      exact W.iret (v := v_3) hx hb hr (fun t ht hW => ⟨⟨v_3, ws, rfl, ⟨⟨x_OT_p0, ⟨(by rw [hR, ← hE]; exact o_p0), (by rw [hR, ← hE]; exact o_p1), (by rw [hR, ← hE]), trivial⟩, r_v_3.to (by decide), (fun h0 => ⟨⟨_, m_v_13, r_v_13⟩, trivial⟩), (fun h0 => trivial)⟩, hw.1, hw.2.2.2.2.1⟩, by rw [ht]; exact hw.2.1, va_K.moved hW.alike hK, hw.2.2.1⟩, hw.2.2.2.1.F ht⟩) hw.2.2.2.1.2.2 dX3_tellName_77
    · have r_vu_1 : RI vu_1 1 4 := rc_neL r_vu_1 rl_0 (ti_ne c_36) (by decide)
      refine lv_iconst (v := (-1)) hx hb dX3_tellName_39 (by decide) ?_
      simp only [f_X3_tellName__4_32, ↓reduceIte, q_vu_1, eq_false c_36] at hE
      subst hQ
      exact W.iret (v := (-1)) hx hb hr (fun t ht hW => ⟨⟨(-1), ws, rfl, ⟨⟨x_OT_p0, ⟨(by rw [hR, ← hE]; exact o_p0), (by rw [hR, ← hE]; exact o_p1), (by rw [hR, ← hE]), trivial⟩, rl_m1.to (by decide), (fun h0 => absurd h0 (by decide)), (fun h0 => trivial)⟩, hw.1, hw.2.2.2.2.1⟩, by rw [ht]; exact hw.2.1, va_K.moved hW.alike hK, hw.2.2.1⟩, hw.2.2.2.1.F ht⟩) hw.2.2.2.1.2.2 dX3_tellName_40
  refine lv_aload_n hx hb dX3_tellName_0 rfl (lv_at hl 1 rfl) ?_
  refine tg_getN (ci := 7) (ts := ty_TAPE) (C := RX7) (T := TX7) (N := 12) hx hb hts inX7 hown hK hw h_p1 rfl rfl 7 (by decide) (hSD.nest tn_97) (fun _ h9 => h9) (ft := vI (-2147483648) 2147483647) rfl dX3_tellName_1 (fun u_14 hv_u_14 m_u_14 => ?_)
  obtain ⟨vu_14, rfl, r_vu_14⟩ := hv_u_14
  have q_vu_14 : s1.1 7 = vu_14 := OV.eqI (V := vw_TAPE) hw.2.2.1 o_p1 m_u_14 (by decide)
  refine lv_iconst (v := 2) hx hb dX3_tellName_4 (by decide) ?_
  refine lv_icmp_eq (tgt := 16) hx hb dX3_tellName_5 (by decide) (fun c_5 => ?_) (fun c_5 => ?_)
  · have r_vu_14 : RI vu_14 2 2 := rc_eq1 r_vu_14 rl_2 (ti_eq c_5) (by decide)
    refine lv_aload_n hx hb dX3_tellName_16 rfl (lv_at hl 0 rfl) ?_
    refine lv_aload_n hx hb dX3_tellName_17 rfl (lv_at hl 1 rfl) ?_
    refine tg_getN (ci := 7) (ts := ty_TAPE) (C := RX7) (T := TX7) (N := 12) hx hb hts inX7 hown hK hw h_p1 rfl rfl 8 (by decide) (hSD.nest tn_99) (fun _ h9 => h9) (ft := vJ (-9223372036854775808) 9223372036854775807) rfl dX3_tellName_18 (fun u_15 hv_u_15 m_u_15 => ?_)
    obtain ⟨vu_15, rfl, r_vu_15⟩ := hv_u_15
    have q_vu_15 : s1.2.1 8 = vu_15 := OV.eqL (V := vw_TAPE) hw.2.2.1 o_p1 m_u_15 (by decide)
    refine tk_ir (va_runV (As := [.long vu_15]) (rest := []) ⟨hx, hb, hml, hown, hts⟩ (c_X3_isTold__1 l D cy z s.heap.size Ps w0 hw.1 p0 vu_15 s0 h_p0 r_vu_15 o_p0) (cwV 1 hts (gV tw_507 tw_509 ts_8 tw_11 tw_510) rfl rfl rfl (by decide +kernel) ⟨Nat.le_of_ble_eq_true rfl, Nat.le_of_ble_eq_true rfl⟩) (tg_preV hw hK hSD hA (ci := 3) (q := (RX3, TX3, 9)) rfl h_p0 rfl) rfl rfl hl.1 rfl (lv_room (Nat.le_of_ble_eq_true rfl)) dX3_tellName_21 ⟨Nat.le_of_ble_eq_true rfl, Nat.le_of_ble_eq_true rfl⟩) hw hA (fun v_16  H locs hp_v_16 hw => ?_)
    obtain ⟨hfn, hp_v_16⟩ := hp_v_16
    have q_v_16 : (f_X3_isTold__1 vu_15 s0) = v_16 := hfn.1
    have r_v_16 : RI v_16 0 1 := hp_v_16.1
    refine lv_if_eq (tgt := 32) hx hb dX3_tellName_24 (by decide) (fun c_24 => ?_) (fun c_24 => ?_)
    · have r_v_16 : RI v_16 0 0 := rc_eq1 r_v_16 rl_0 (ti_eq c_24) (by decide)
      simp only [f_X3_tellName__4, ↓reduceIte, q_vu_14, eq_true c_5, q_vu_15, q_v_16, eq_true c_24] at hE
      exact B32 s0 s1 w0 _ _ ls r_p2 x_MLT_p0_0 x_OT_p0 o_p0 o_p1 hE hw hl
    · have r_v_16 : RI v_16 1 1 := rc_neL r_v_16 rl_0 (ti_ne c_24) (by decide)
      refine lv_aload_n hx hb dX3_tellName_27 rfl (lv_at hl 1 rfl) ?_
      refine lv_iconst (v := 3) hx hb dX3_tellName_28 (by decide) ?_
      refine tk_v (va_runV (As := [.int 3]) (rest := []) ⟨hx, hb, hml, hown, hts⟩ (c_X7_refuse__4 l D cy z H.size Ps w0 hw.1 p1 3 s1 h_p1 (rl_3.to (by decide)) o_p1) (cwV 1 hts (gV tw_450 tw_443 tw_444 tw_2 tw_445) rfl rfl rfl (by decide +kernel) ⟨Nat.le_of_ble_eq_true rfl, Nat.le_of_ble_eq_true rfl⟩) (tg_preV hw hK hSD hA (ci := 7) (q := (RX7, TX7, 12)) rfl h_p1 rfl) rfl rfl hl.1 rfl (lv_room (Nat.le_of_ble_eq_true rfl)) dX3_tellName_29 ⟨Nat.le_of_ble_eq_true rfl, Nat.le_of_ble_eq_true rfl⟩) hw hA ⟨by decide, by decide⟩ (fun ws H locs hp_v_17 hw hF9 => ?_)
      have m_u_14 := FLD.over hF9 m_u_14 (by decide)
      have m_u_15 := FLD.over hF9 m_u_15 (by decide)
      have x_MLT_p0_0 := AXC.over hF9 x_MLT_p0_0 (by decide)
      have x_OT_p0 := OTR.over hF9 x_OT_p0 (by decide)
      obtain ⟨hfn, hp_v_17⟩ := hp_v_17
      have o_p0 := OV.over (V := vw_POST) hF9 o_p0 (by decide)
      obtain ⟨sg_18, q_sg_18⟩ : ∃ q9 : OS, (f_X7_refuse__4 (3 : Int32) s1) = q9 := ⟨_, rfl⟩
      have o_p1 : OV vw_TAPE Ps ws p1 sg_18 := by rw [← q_sg_18]; exact hfn.1
      obtain ⟨v_19, m_v_19, r_v_19⟩ := (hp_v_17.1)
      simp only [f_X3_tellName__4, ↓reduceIte, q_vu_14, eq_true c_5, q_vu_15, q_v_16, eq_false c_24, q_sg_18] at hE
      exact B32 s0 sg_18 ws _ _ ls r_p2 x_MLT_p0_0 x_OT_p0 o_p0 o_p1 hE hw hl
  · refine lv_aload_n hx hb dX3_tellName_8 rfl (lv_at hl 1 rfl) ?_
    refine lv_iconst (v := 1) hx hb dX3_tellName_9 (by decide) ?_
    refine tk_v (va_runV (As := [.int 1]) (rest := []) ⟨hx, hb, hml, hown, hts⟩ (c_X7_refuse__4 l D cy z s.heap.size Ps w0 hw.1 p1 1 s1 h_p1 (rl_1.to (by decide)) o_p1) (cwV 1 hts (gV tw_450 tw_443 tw_444 tw_2 tw_445) rfl rfl rfl (by decide +kernel) ⟨Nat.le_of_ble_eq_true rfl, Nat.le_of_ble_eq_true rfl⟩) (tg_preV hw hK hSD hA (ci := 7) (q := (RX7, TX7, 12)) rfl h_p1 rfl) rfl rfl hl.1 rfl (lv_room (Nat.le_of_ble_eq_true rfl)) dX3_tellName_10 ⟨Nat.le_of_ble_eq_true rfl, Nat.le_of_ble_eq_true rfl⟩) hw hA ⟨by decide, by decide⟩ (fun ws H locs hp_v_20 hw hF9 => ?_)
    have m_u_14 := FLD.over hF9 m_u_14 (by decide)
    have x_MLT_p0_0 := AXC.over hF9 x_MLT_p0_0 (by decide)
    have x_OT_p0 := OTR.over hF9 x_OT_p0 (by decide)
    obtain ⟨hfn, hp_v_20⟩ := hp_v_20
    have o_p0 := OV.over (V := vw_POST) hF9 o_p0 (by decide)
    obtain ⟨sg_21, q_sg_21⟩ : ∃ q9 : OS, (f_X7_refuse__4 (1 : Int32) s1) = q9 := ⟨_, rfl⟩
    have o_p1 : OV vw_TAPE Ps ws p1 sg_21 := by rw [← q_sg_21]; exact hfn.1
    obtain ⟨v_22, m_v_22, r_v_22⟩ := (hp_v_20.1)
    refine lv_goto (tgt := 32) hx hb dX3_tellName_13 (by decide) ?_
    simp only [f_X3_tellName__4, ↓reduceIte, q_vu_14, eq_false c_5, q_sg_21] at hE
    exact B32 s0 sg_21 ws _ _ ls r_p2 x_MLT_p0_0 x_OT_p0 o_p0 o_p1 hE hw hl
abbrev wr_X3_readNamed__8 : List (Nat × Nat) := [(7, 5), (7, 6), (7, 7), (7, 8), (7, 9), (7, 10), (7, 11)]
abbrev wa_X3_readNamed__8 : List Nat := [1, 4, 5]
set_option maxHeartbeats 4000000 in
set_option maxRecDepth 100000 in
theorem c_X3_readNamed__8 (l : Launch) (D : va_G) (cy : Nat → ClassId) (z : Nat → Nat) (sz : Nat) (Ps : PSI) (w0 : va_W) (hT : HT cy GG Ps w0) (p0 : Nat) (p1 : Nat) (p2 : Nat) (p3 : Int32) (s0 : OS) (s1 : OS) (s2 : OS) (h_p0 : (p0, 25) ∈ Ps) (h_p1 : (p1, 26) ∈ Ps) (h_p2 : (p2, 24) ∈ Ps) (r_p3 : RI p3 0 0) (x_MLT_p0_0 : AXC 3 1 4 (fun f => (f 0).toInt < 6) Ps w0 p0) (o_p0 : OV vw_POST Ps w0 p0 s0) (o_p1 : OV vw_TAPE Ps w0 p1 s1) (o_p2 : OV vw_WORLD Ps w0 p2 s2) : Met l yX3_readNamed (Cond.code yX3_readNamed cX3_readNamed 5 none :: gT) ({ frames := 4, cells := 0, slots := 0, locals := 800 } : Room) (va_Pc [.ref p0, .ref p1, .ref p2, .int p3] (PRE D cy z w0 sz)) (va_Qv (fun (u : va_W) => ((OTR Ps w0 u p0) ∧ ((OV vw_POST Ps u p0 ((f_X3_readNamed__4 p3 s0 s1 s2).1) ∧ OV vw_TAPE Ps u p1 ((f_X3_readNamed__4 p3 s0 s1 s2).2.1) ∧ OV vw_WORLD Ps u p2 ((f_X3_readNamed__4 p3 s0 s1 s2).2.2) ∧ True) ∧ (True))) ∧ HT cy GG Ps u ∧ FR wr_X3_readNamed__8 wa_X3_readNamed__8 Ps w0 u) (BB D cy (va_A w0 sz) (fun (u : va_W) => u)) (va_A w0 sz)) 0 0 (va_A w0 sz) := by
  refine Met.ofW (cc := cX3_readNamed) (maxL := 5) (ret := none) (by decide) rfl ?_
  intro p e s m args below meth c s₁ B hml hv
  obtain ⟨rfl, hsz, hP, hK, hD0, hSD⟩ := hv
  have hx := B.exec
  have hb := B.bytes
  have hr := B.returns
  have hlocks := B.notSynchronized
  have hts : ∀ w ∈ gT, w.before _ s = true := fun w h => atoms_spec (ws := Cond.code yX3_readNamed cX3_readNamed 5 none :: gT) B.pre w (List.mem_cons_of_mem _ h)
  have hown : s.vm.findClass RX3 = some m.cls := findClass_of_methodNamed B.named
  subst hsz
  have hD := hD0.self (sz := s.heap.size)
  generalize hAe : va_A w0 s.heap.size = A at hD hSD ⊢
  have hA : ∀ q : Nat, s.heap.size ≤ q → A q := fun q h => by rw [← hAe]; exact Or.inr h
  have hl := lv_entry ([.ref p0, .ref p1, .ref p2, .int p3]) (n := 5) (Nat.le_of_ble_eq_true rfl)
  rw [lg_entry_eq]
  generalize (lg_sl ([.ref p0, .ref p1, .ref p2, .int p3]) ++ List.replicate (5 - (lg_sl ([.ref p0, .ref p1, .ref p2, .int p3])).length) Slot.unset).toArray = ls at hl ⊢
  have hl : lv_has ls 5 [(0, .ref p0), (1, .ref p1), (2, .ref p2), (3, .int p3)] := hl
  refine nameQ (fun Q hQ => ?_)
  have hw : WD D cy GG A s wr_X3_readNamed__8 wa_X3_readNamed__8 Ps w0 Ps w0 s.heap [] := ⟨hT, hP, hD, va_S.rf, FR.rf, hT.1, [], (List.append_nil _).symm⟩
  have x_OT_p0 : OTR Ps w0 w0 p0 := OTR.rf
  obtain ⟨R9, hR⟩ : ∃ q9 : OS × OS × OS, f_X3_readNamed__4 p3 s0 s1 s2 = q9 := ⟨_, rfl⟩
  have hE := hR
  refine lv_aload_n hx hb dX3_readNamed_0 rfl (lv_at hl 0 rfl) ?_
  refine lv_aload_n hx hb dX3_readNamed_1 rfl (lv_at hl 1 rfl) ?_
  refine lv_iload_n hx hb dX3_readNamed_2 rfl (lv_at hl 3 rfl) ?_
  refine tk_i (va_runV (As := [.ref p1, .int p3]) (rest := []) ⟨hx, hb, hml, hown, hts⟩ (c_X3_tellName__8 l D cy z s.heap.size Ps w0 hw.1 p0 p1 p3 s0 s1 h_p0 h_p1 r_p3 x_MLT_p0_0 o_p0 o_p1) (cwV 2 hts (gV tw_503 tw_505 ts_7 tw_11 tw_506) rfl rfl rfl (by decide +kernel) ⟨Nat.le_of_ble_eq_true rfl, Nat.le_of_ble_eq_true rfl⟩) (tg_preV hw hK hSD hA (ci := 3) (q := (RX3, TX3, 9)) rfl h_p0 rfl) rfl rfl hl.1 rfl (lv_room (Nat.le_of_ble_eq_true rfl)) dX3_readNamed_3 ⟨Nat.le_of_ble_eq_true rfl, Nat.le_of_ble_eq_true rfl⟩) hw hA ⟨by decide, by decide⟩ (fun v_1 ws H locs hp_v_1 hw hF9 => ?_)
  obtain ⟨hot9, hp_v_1⟩ := hp_v_1
  obtain ⟨hfn, hp_v_1⟩ := hp_v_1
  have o_p2 := OV.over (V := vw_WORLD) hF9 o_p2 (by decide)
  obtain ⟨sg_2, q_sg_2⟩ : ∃ q9 : OS, (f_X3_tellName__4 p3 s0 s1).1 = q9 := ⟨_, rfl⟩
  have o_p0 : OV vw_POST Ps ws p0 sg_2 := by rw [← q_sg_2]; exact hfn.1
  obtain ⟨sg_3, q_sg_3⟩ : ∃ q9 : OS, (f_X3_tellName__4 p3 s0 s1).2.1 = q9 := ⟨_, rfl⟩
  have o_p1 : OV vw_TAPE Ps ws p1 sg_3 := by rw [← q_sg_3]; exact hfn.2.1
  have q_v_1 : (f_X3_tellName__4 p3 s0 s1).2.2 = v_1 := hfn.2.2.1
  have x_OT_p0 : OTR Ps w0 ws p0 := OTR.trans x_OT_p0 hot9
  have r_v_1 : RI v_1 (-1) 5 := hp_v_1.1
  by_cases c9_v_1 : v_1 = 0
  · have r_v_1 : RI v_1 0 0 := by rw [c9_v_1]; exact rl_0
    obtain ⟨v_4, m_v_4, r_v_4⟩ := ((hp_v_1.2.1 c9_v_1).1)
    refine lv_istore (lv' := [(4, .int v_1), (0, .ref p0), (1, .ref p1), (2, .ref p2), (3, .int p3)]) hx hb dX3_readNamed_6 hl (by decide) rfl (fun ls hl => ?_)
    refine lv_iload hx hb dX3_readNamed_8 (lv_at hl 0 rfl) ?_
    refine lv_iconst (v := (-1)) hx hb dX3_readNamed_10 (by decide) ?_
    refine lv_icmp_ne (tgt := 15) hx hb dX3_readNamed_11 (by decide) (fun c_11 => ?_) (fun c_11 => ?_)
    · refine lv_iload_n hx hb dX3_readNamed_15 rfl (lv_at hl 4 rfl) ?_
      refine lv_if_ne (tgt := 36) hx hb dX3_readNamed_16 (by decide) (fun c_16 => ?_) (fun c_16 => ?_)
      · exact absurd (r_p3.eq.trans rl_0.eq.symm) ((ti_ne c_16))
      · refine lv_aload_n hx hb dX3_readNamed_19 rfl (lv_at hl 1 rfl) ?_
        refine tg_get (ci := 3) (ts := ty_POST) (C := RX3) (T := TX3) (N := 9) hx hb hts inX3 hown hK hw h_p0 rfl rfl 2 (by decide) (hts _ tw_205) (fun _ h9 => h9) (ft := vR 5) rfl dX3_readNamed_20 (fun u_5 hv_u_5 m_u_5 => ?_)
        obtain ⟨vu_5, rfl, h_vu_5⟩ := hv_u_5
        refine lv_iload hx hb dX3_readNamed_23 (lv_at hl 0 rfl) ?_
        refine lv_aload_n hx hb dX3_readNamed_25 rfl (lv_at hl 2 rfl) ?_
        refine lv_iconst (v := 1) hx hb dX3_readNamed_26 (by decide) ?_
        refine lv_bipush (v := 60) hx hb dX3_readNamed_27 (by decide) ?_
        refine tk_i (va_runV (As := [.int 1, .int 60]) (rest := [.int v_1, .ref vu_5]) ⟨hx, hb, hml, hown, hts⟩ (c_X7_takeNumber__4 l D cy z H.size Ps ws hw.1 p1 1 60 v_4 sg_3 h_p1 (rl_1.to (by decide)) (rl_60.to (by decide)) r_v_4 m_v_4 o_p1) (cwV 2 hts (gV tw_477 tw_478 tw_479 tw_2 tw_480) rfl rfl rfl (by decide +kernel) ⟨Nat.le_of_ble_eq_true rfl, Nat.le_of_ble_eq_true rfl⟩) (tg_preV hw hK hSD hA (ci := 7) (q := (RX7, TX7, 12)) rfl h_p1 rfl) rfl rfl hl.1 rfl (lv_room (Nat.le_of_ble_eq_true rfl)) dX3_readNamed_29 ⟨Nat.le_of_ble_eq_true rfl, Nat.le_of_ble_eq_true rfl⟩) hw hA ⟨by decide, by decide⟩ (fun v_6 ws H locs hp_v_6 hw hF9 => ?_)
        have m_u_5 := FLD.over hF9 m_u_5 (by decide)
        have x_OT_p0 := OTR.over hF9 x_OT_p0 (by decide)
        obtain ⟨hfn, hp_v_6⟩ := hp_v_6
        have o_p0 := OV.over (V := vw_POST) hF9 o_p0 (by decide)
        have o_p2 := OV.over (V := vw_WORLD) hF9 o_p2 (by decide)
        obtain ⟨sg_7, q_sg_7⟩ : ∃ q9 : OS, (f_X7_takeNumber__4 (1 : Int32) (60 : Int32) sg_3).1 = q9 := ⟨_, rfl⟩
        have o_p1 : OV vw_TAPE Ps ws p1 sg_7 := by rw [← q_sg_7]; exact hfn.1
        have q_v_6 : (f_X7_takeNumber__4 (1 : Int32) (60 : Int32) sg_3).2 = v_6 := hfn.2.1
        have r_v_6 : RI v_6 (-2147483648) 2147483647 := hp_v_6.1
        have mo8 := m_u_5
        have mo9 := m_u_5
        refine tg_iastE hx hb hK hw h_vu_5 rfl 0 0 r_v_1 (by decide) r_v_6 (by exact fun _ _ _ => by decide) (fun _ _ _ _ _ => trivial) (by decide) dX3_readNamed_32 (fun ws H locs hw hF9 hU9 hO9 => ?_)
        have m_u_5 := FLD.over hF9 m_u_5 (by decide)
        have o_p1 := OV.over (V := vw_TAPE) hF9 o_p1 (by decide)
        have o_p2 := OV.over (V := vw_WORLD) hF9 o_p2 (by decide)
        obtain ⟨sg_8, q_sg_8⟩ : ∃ q9 : OS, sA sg_2 2 (Int32.toNatClampNeg v_1) v_6 = q9 := ⟨_, rfl⟩
        have o_p0 : OV vw_POST Ps ws p0 sg_8 := by rw [← q_sg_8]; exact OV.putA (V := vw_POST) (t := 5) hF9 hU9 o_p0 mo9 (by decide) (by decide)
        have x_OT_p0 : OTR Ps w0 ws p0 := OTR.ast x_OT_p0 hF9 hU9.1 hO9 mo8 (by decide)
        refine lv_goto (tgt := 97) hx hb dX3_readNamed_33 (by decide) ?_
        simp only [f_X3_readNamed__4, ↓reduceIte, q_sg_2, q_sg_3, q_v_1, eq_true c9_v_1, eq_false c_11, eq_true c_16, q_sg_7, q_v_6, q_sg_8] at hE
        subst hQ
        exact W.vret hx hb hr (fun t ht hW => ⟨⟨ws, rfl, ⟨⟨x_OT_p0, ⟨⟨(by rw [hR, ← hE]; exact o_p0), (by rw [hR, ← hE]; exact o_p1), (by rw [hR, ← hE]; exact o_p2), trivial⟩, trivial⟩⟩, hw.1, hw.2.2.2.2.1⟩, by rw [ht]; exact hw.2.1, va_K.moved hW.alike hK, hw.2.2.1⟩, hw.2.2.2.1.F ht⟩) hw.2.2.2.1.2.2 dX3_readNamed_97
    · have r_v_1 : RI v_1 0 (-1) := rc_eq1 r_v_1 rl_m1 (ti_eq c_11) (by decide)
      exact (r_v_1.no (by decide)).elim
  · refine lv_istore (lv' := [(4, .int v_1), (0, .ref p0), (1, .ref p1), (2, .ref p2), (3, .int p3)]) hx hb dX3_readNamed_6 hl (by decide) rfl (fun ls hl => ?_)
    refine lv_iload hx hb dX3_readNamed_8 (lv_at hl 0 rfl) ?_
    refine lv_iconst (v := (-1)) hx hb dX3_readNamed_10 (by decide) ?_
    refine lv_icmp_ne (tgt := 15) hx hb dX3_readNamed_11 (by decide) (fun c_11 => ?_) (fun c_11 => ?_)
    · have r_v_1 : RI v_1 0 5 := rc_neL r_v_1 rl_m1 (ti_ne c_11) (by decide)
      refine lv_iload_n hx hb dX3_readNamed_15 rfl (lv_at hl 4 rfl) ?_
      refine lv_if_ne (tgt := 36) hx hb dX3_readNamed_16 (by decide) (fun c_16 => ?_) (fun c_16 => ?_)
      · exact absurd (r_p3.eq.trans rl_0.eq.symm) ((ti_ne c_16))
      · refine lv_aload_n hx hb dX3_readNamed_19 rfl (lv_at hl 1 rfl) ?_
        refine tg_get (ci := 3) (ts := ty_POST) (C := RX3) (T := TX3) (N := 9) hx hb hts inX3 hown hK hw h_p0 rfl rfl 2 (by decide) (hts _ tw_205) (fun _ h9 => h9) (ft := vR 5) rfl dX3_readNamed_20 (fun u_9 hv_u_9 m_u_9 => ?_)
        obtain ⟨vu_9, rfl, h_vu_9⟩ := hv_u_9
        refine lv_iload hx hb dX3_readNamed_23 (lv_at hl 0 rfl) ?_
        refine lv_aload_n hx hb dX3_readNamed_25 rfl (lv_at hl 2 rfl) ?_
        refine lv_iconst (v := 1) hx hb dX3_readNamed_26 (by decide) ?_
        refine lv_bipush (v := 60) hx hb dX3_readNamed_27 (by decide) ?_
        refine tk_i (va_runV (As := [.int 1, .int 60]) (rest := [.int v_1, .ref vu_9]) ⟨hx, hb, hml, hown, hts⟩ (c_X7_takeNumber__5 l D cy z H.size Ps ws hw.1 p1 1 60 sg_3 h_p1 (rl_1.to (by decide)) (rl_60.to (by decide)) o_p1) (cwV 2 hts (gV tw_477 tw_478 tw_479 tw_2 tw_480) rfl rfl rfl (by decide +kernel) ⟨Nat.le_of_ble_eq_true rfl, Nat.le_of_ble_eq_true rfl⟩) (tg_preV hw hK hSD hA (ci := 7) (q := (RX7, TX7, 12)) rfl h_p1 rfl) rfl rfl hl.1 rfl (lv_room (Nat.le_of_ble_eq_true rfl)) dX3_readNamed_29 ⟨Nat.le_of_ble_eq_true rfl, Nat.le_of_ble_eq_true rfl⟩) hw hA ⟨by decide, by decide⟩ (fun v_10 ws H locs hp_v_10 hw hF9 => ?_)
        have m_u_9 := FLD.over hF9 m_u_9 (by decide)
        have x_OT_p0 := OTR.over hF9 x_OT_p0 (by decide)
        obtain ⟨hfn, hp_v_10⟩ := hp_v_10
        have o_p0 := OV.over (V := vw_POST) hF9 o_p0 (by decide)
        have o_p2 := OV.over (V := vw_WORLD) hF9 o_p2 (by decide)
        obtain ⟨sg_11, q_sg_11⟩ : ∃ q9 : OS, (f_X7_takeNumber__5 (1 : Int32) (60 : Int32) sg_3).1 = q9 := ⟨_, rfl⟩
        have o_p1 : OV vw_TAPE Ps ws p1 sg_11 := by rw [← q_sg_11]; exact hfn.1
        have q_v_10 : (f_X7_takeNumber__5 (1 : Int32) (60 : Int32) sg_3).2 = v_10 := hfn.2.1
        have r_v_10 : RI v_10 (-2147483648) 2147483647 := hp_v_10.1
        have mo8 := m_u_9
        have mo9 := m_u_9
        refine tg_iastE hx hb hK hw h_vu_9 rfl 0 5 r_v_1 (by decide) r_v_10 (by exact fun _ _ _ => by decide) (fun _ _ _ _ _ => trivial) (by decide) dX3_readNamed_32 (fun ws H locs hw hF9 hU9 hO9 => ?_)
        have m_u_9 := FLD.over hF9 m_u_9 (by decide)
        have o_p1 := OV.over (V := vw_TAPE) hF9 o_p1 (by decide)
        have o_p2 := OV.over (V := vw_WORLD) hF9 o_p2 (by decide)
        obtain ⟨sg_12, q_sg_12⟩ : ∃ q9 : OS, sA sg_2 2 (Int32.toNatClampNeg v_1) v_10 = q9 := ⟨_, rfl⟩
        have o_p0 : OV vw_POST Ps ws p0 sg_12 := by rw [← q_sg_12]; exact OV.putA (V := vw_POST) (t := 5) hF9 hU9 o_p0 mo9 (by decide) (by decide)
        have x_OT_p0 : OTR Ps w0 ws p0 := OTR.ast x_OT_p0 hF9 hU9.1 hO9 mo8 (by decide)
        refine lv_goto (tgt := 97) hx hb dX3_readNamed_33 (by decide) ?_
        simp only [f_X3_readNamed__4, ↓reduceIte, q_sg_2, q_sg_3, q_v_1, eq_false c9_v_1, eq_false c_11, eq_true c_16, q_sg_11, q_v_10, q_sg_12] at hE
        subst hQ
        exact W.vret hx hb hr (fun t ht hW => ⟨⟨ws, rfl, ⟨⟨x_OT_p0, ⟨⟨(by rw [hR, ← hE]; exact o_p0), (by rw [hR, ← hE]; exact o_p1), (by rw [hR, ← hE]; exact o_p2), trivial⟩, trivial⟩⟩, hw.1, hw.2.2.2.2.1⟩, by rw [ht]; exact hw.2.1, va_K.moved hW.alike hK, hw.2.2.1⟩, hw.2.2.2.1.F ht⟩) hw.2.2.2.1.2.2 dX3_readNamed_97
    · have r_v_1 : RI v_1 (-1) (-1) := rc_eq1 r_v_1 rl_m1 (ti_eq c_11) (by decide)
      simp only [f_X3_readNamed__4, ↓reduceIte, q_sg_2, q_sg_3, q_v_1, eq_false c9_v_1, eq_true c_11] at hE
      subst hQ
      exact W.vret hx hb hr (fun t ht hW => ⟨⟨ws, rfl, ⟨⟨x_OT_p0, ⟨⟨(by rw [hR, ← hE]; exact o_p0), (by rw [hR, ← hE]; exact o_p1), (by rw [hR, ← hE]; exact o_p2), trivial⟩, trivial⟩⟩, hw.1, hw.2.2.2.2.1⟩, by rw [ht]; exact hw.2.1, va_K.moved hW.alike hK, hw.2.2.1⟩, hw.2.2.2.1.F ht⟩) hw.2.2.2.1.2.2 dX3_readNamed_14
abbrev wr_X3_beginsLine__25 : List (Nat × Nat) := [(7, 5), (7, 6), (7, 7), (7, 8), (7, 9), (7, 10), (7, 11)]
abbrev wa_X3_beginsLine__25 : List Nat := []
set_option maxHeartbeats 4000000 in
set_option maxRecDepth 100000 in
theorem c_X3_beginsLine__25 (l : Launch) (D : va_G) (cy : Nat → ClassId) (z : Nat → Nat) (sz : Nat) (Ps : PSI) (w0 : va_W) (hT : HT cy GG Ps w0) (p0 : Nat) (p1 : Nat) (p2 : Int32) (f1_10 : Int32) (s0 : OS) (s1 : OS) (h_p0 : (p0, 25) ∈ Ps) (h_p1 : (p1, 26) ∈ Ps) (r_p2 : RI p2 129 129) (r_f1_10 : RI f1_10 0 0) (m_f1_10 : FLD w0 p1 7 10 (.int f1_10)) (o_p0 : OV vw_POST Ps w0 p0 s0) (o_p1 : OV vw_TAPE Ps w0 p1 s1) : Met l yX3_beginsLine (Cond.code yX3_beginsLine cX3_beginsLine 3 (some .boolean) :: gT) ({ frames := 3, cells := 0, slots := 0, locals := 600 } : Room) (va_Pc [.ref p0, .ref p1, .int p2] (PRE D cy z w0 sz)) (va_Qi (fun (r : Int32) (u : va_W) => ((OTR Ps w0 u p0) ∧ ((OV vw_POST Ps u p0 ((f_X3_beginsLine__14 p2 s0 s1).1) ∧ OV vw_TAPE Ps u p1 ((f_X3_beginsLine__14 p2 s0 s1).2.1) ∧ (f_X3_beginsLine__14 p2 s0 s1).2.2 = r ∧ True) ∧ (RI r 0 1 ∧ (r = 0 → (∃ v9 : Int32, FLD u p1 7 10 (.int v9) ∧ RI v9 1 4) ∧ True) ∧ (¬ r = 0 → (∃ v9 : Int32, FLD u p1 7 10 (.int v9) ∧ RI v9 0 0) ∧ AXC 3 1 4 (fun f => (f 1).toInt < 4) Ps u p0 ∧ True)))) ∧ HT cy GG Ps u ∧ FR wr_X3_beginsLine__25 wa_X3_beginsLine__25 Ps w0 u) (BB D cy (va_A w0 sz) (fun (u : va_W) => u)) (va_A w0 sz)) 0 0 (va_A w0 sz) := by
  refine Met.ofW (cc := cX3_beginsLine) (maxL := 3) (ret := (some .boolean)) (by decide) rfl ?_
  intro p e s m args below meth c s₁ B hml hv
  obtain ⟨rfl, hsz, hP, hK, hD0, hSD⟩ := hv
  have hx := B.exec
  have hb := B.bytes
  have hr := B.returns
  have hlocks := B.notSynchronized
  have hts : ∀ w ∈ gT, w.before _ s = true := fun w h => atoms_spec (ws := Cond.code yX3_beginsLine cX3_beginsLine 3 (some .boolean) :: gT) B.pre w (List.mem_cons_of_mem _ h)
  have hown : s.vm.findClass RX3 = some m.cls := findClass_of_methodNamed B.named
  subst hsz
  have hD := hD0.self (sz := s.heap.size)
  generalize hAe : va_A w0 s.heap.size = A at hD hSD ⊢
  have hA : ∀ q : Nat, s.heap.size ≤ q → A q := fun q h => by rw [← hAe]; exact Or.inr h
  have hl := lv_entry ([.ref p0, .ref p1, .int p2]) (n := 3) (Nat.le_of_ble_eq_true rfl)
  rw [lg_entry_eq]
  generalize (lg_sl ([.ref p0, .ref p1, .int p2]) ++ List.replicate (3 - (lg_sl ([.ref p0, .ref p1, .int p2])).length) Slot.unset).toArray = ls at hl ⊢
  have hl : lv_has ls 3 [(0, .ref p0), (1, .ref p1), (2, .int p2)] := hl
  refine nameQ (fun Q hQ => ?_)
  have hw : WD D cy GG A s wr_X3_beginsLine__25 wa_X3_beginsLine__25 Ps w0 Ps w0 s.heap [] := ⟨hT, hP, hD, va_S.rf, FR.rf, hT.1, [], (List.append_nil _).symm⟩
  have x_OT_p0 : OTR Ps w0 w0 p0 := OTR.rf
  obtain ⟨R9, hR⟩ : ∃ q9 : OS × OS × Int32, f_X3_beginsLine__14 p2 s0 s1 = q9 := ⟨_, rfl⟩
  have hE := hR
  refine lv_iload_n hx hb dX3_beginsLine_0 rfl (lv_at hl 2 rfl) ?_
  refine lv_sipush (v := 128) hx hb dX3_beginsLine_1 (by decide) ?_
  refine lv_icmp_lt (tgt := 14) hx hb dX3_beginsLine_4 (by decide) (fun c_4 => ?_) (fun c_4 => ?_)
  · have r_p2 : RI p2 129 127 := rc_lt1 r_p2 rl_128 (ti_lt c_4) (by decide)
    exact (r_p2.no (by decide)).elim
  · refine lv_iload_n hx hb dX3_beginsLine_7 rfl (lv_at hl 2 rfl) ?_
    refine lv_sipush (v := 136) hx hb dX3_beginsLine_8 (by decide) ?_
    refine lv_icmp_le (tgt := 22) hx hb dX3_beginsLine_11 (by decide) (fun c_11 => ?_) (fun c_11 => ?_)
    · refine lv_iload_n hx hb dX3_beginsLine_22 rfl (lv_at hl 2 rfl) ?_
      refine lv_sipush (v := 131) hx hb dX3_beginsLine_23 (by decide) ?_
      refine lv_icmp_gt (tgt := 59) hx hb dX3_beginsLine_26 (by decide) (fun c_26 => ?_) (fun c_26 => ?_)
      · have r_p2 : RI p2 132 129 := rc_lt2 rl_131 r_p2 (ti_lt c_26) (by decide)
        exact (r_p2.no (by decide)).elim
      · refine lv_aload_n hx hb dX3_beginsLine_29 rfl (lv_at hl 0 rfl) ?_
        refine tg_get (ci := 3) (ts := ty_POST) (C := RX3) (T := TX3) (N := 9) hx hb hts inX3 hown hK hw h_p0 rfl rfl 1 (by decide) (hts _ tw_201) (fun _ h9 => h9) (ft := vR 4) rfl dX3_beginsLine_30 (fun u_1 hv_u_1 m_u_1 => ?_)
        obtain ⟨vu_1, rfl, h_vu_1⟩ := hv_u_1
        refine lv_iload_n hx hb dX3_beginsLine_33 rfl (lv_at hl 2 rfl) ?_
        refine lv_sipush (v := 128) hx hb dX3_beginsLine_34 (by decide) ?_
        refine lv_isub hx hb dX3_beginsLine_37 (lv_topi (fun v_2 e_v_2 => ?_))
        obtain ⟨t_v_2, r_v_2⟩ := tq_sub (lo := 1) (hi := 1) r_p2 rl_128 (by decide +kernel) e_v_2
        have t_v_2 : v_2.toInt = p2.toInt - 128 := t_v_2
        have q_v_2 : p2 - (128 : Int32) = v_2 := e_v_2.symm
        refine tg_iald (lo := 0) (hi := 4) hx hb hK hw h_vu_1 rfl 1 1 r_v_2 (by decide) (by decide +kernel) dX3_beginsLine_38 (fun v_3 r_v_3 m_v_3 o_v_3 => ?_)
        have q_v_3 : s0.2.2.1 1 (Int32.toNatClampNeg v_2) = v_3 := OV.eqA (V := vw_POST) (t := 4) hw.2.2.1 o_p0 m_u_1 m_v_3 (by decide)
        refine va_gets (v := .ref (z 0)) hx hb hSD.2.2.2.1 hw.2.2.2.1 hown (hts _ tw_198) (fun _ h9 => h9) dX3_beginsLine_39 ?_
        refine lv_iload_n hx hb dX3_beginsLine_42 rfl (lv_at hl 2 rfl) ?_
        refine lv_sipush (v := 128) hx hb dX3_beginsLine_43 (by decide) ?_
        refine lv_isub hx hb dX3_beginsLine_46 (lv_topi (fun v_4 e_v_4 => ?_))
        obtain ⟨t_v_4, r_v_4⟩ := tq_sub (lo := 1) (hi := 1) r_p2 rl_128 (by decide +kernel) e_v_4
        have t_v_4 : v_4.toInt = p2.toInt - 128 := t_v_4
        have z9 : v_2 = v_4 := q_v_2.symm.trans (e_v_4.symm)
        subst z9
        refine tz_mk 1 4 hx hb hSD.2.2.2.2.1 hw.2.2.2.1 r_v_2 (by decide) rfl dX3_beginsLine_47 (fun v_5 e_v_5 => ?_)
        have r_v_5 : RI v_5 4 4 := by rw [e_v_5]; exact rl_4
        have q_v_5 : (4 : Int32) = v_5 := e_v_5.symm
        refine lv_icmp_lt (tgt := 59) hx hb dX3_beginsLine_48 (by decide) (fun c_48 => ?_) (fun c_48 => ?_)
        · have d_48 := c_48
          rw [← q_v_5] at d_48
          have r_v_3 : RI v_3 0 3 := rc_lt1 r_v_3 r_v_5 (ti_lt c_48) (by decide)
          have x_MLT_p0_1 : AXC 3 1 4 (fun f => (f 1).toInt < 4) Ps w0 p0 := AXC.mk hw h_vu_1 rfl m_u_1 (fun f9 g9 => by have e9 := g9 _ _ m_v_3; have j9 : Int32.toNatClampNeg v_2 = 1 := (by have k1 := r_v_2.cl (by decide); have k2 := r_v_2.eq; omega); rw [j9] at e9; show _ < _; rw [e9]; have k3 := r_v_3.2; omega)
          refine lv_iload_n hx hb dX3_beginsLine_59 rfl (lv_at hl 2 rfl) ?_
          refine lv_sipush (v := 135) hx hb dX3_beginsLine_60 (by decide) ?_
          refine lv_icmp_ne (tgt := 73) hx hb dX3_beginsLine_63 (by decide) (fun c_63 => ?_) (fun c_63 => ?_)
          · refine lv_iload_n hx hb dX3_beginsLine_73 rfl (lv_at hl 2 rfl) ?_
            refine lv_sipush (v := 136) hx hb dX3_beginsLine_74 (by decide) ?_
            refine lv_icmp_ne (tgt := 92) hx hb dX3_beginsLine_77 (by decide) (fun c_77 => ?_) (fun c_77 => ?_)
            · refine lv_aload_n hx hb dX3_beginsLine_92 rfl (lv_at hl 1 rfl) ?_
              have hw8 := hw
              refine tk_v (va_runV (As := []) (rest := []) ⟨hx, hb, hml, hown, hts⟩ (c_X7_pass__5 l D cy z s.heap.size Ps w0 hw.1 p1 f1_10 s1 h_p1 r_f1_10 m_f1_10 o_p1) (cwV 0 hts (gV tw_451 tw_425 tw_426 tw_2 tw_427) rfl rfl rfl (by decide +kernel) ⟨Nat.le_of_ble_eq_true rfl, Nat.le_of_ble_eq_true rfl⟩) (tg_preV hw hK hSD hA (ci := 7) (q := (RX7, TX7, 12)) rfl h_p1 rfl) rfl rfl hl.1 rfl (lv_room (Nat.le_of_ble_eq_true rfl)) dX3_beginsLine_93 ⟨Nat.le_of_ble_eq_true rfl, Nat.le_of_ble_eq_true rfl⟩) hw hA ⟨by decide, by decide⟩ (fun ws H locs hp_v_6 hw hF9 => ?_)
              have m_v_3 := AEL.over hw8 hF9 h_vu_1 m_v_3 (by decide)
              have m_f1_10 := FLD.over hF9 m_f1_10 (by decide)
              have m_u_1 := FLD.over hF9 m_u_1 (by decide)
              have x_OT_p0 := OTR.over hF9 x_OT_p0 (by decide)
              have x_MLT_p0_1 := AXC.over hF9 x_MLT_p0_1 (by decide)
              obtain ⟨hfn, hp_v_6⟩ := hp_v_6
              have o_p0 := OV.over (V := vw_POST) hF9 o_p0 (by decide)
              obtain ⟨sg_7, q_sg_7⟩ : ∃ q9 : OS, (f_X7_pass__5 s1) = q9 := ⟨_, rfl⟩
              have o_p1 : OV vw_TAPE Ps ws p1 sg_7 := by rw [← q_sg_7]; exact hfn.1
              obtain ⟨v_8, m_v_8, r_v_8⟩ := (hp_v_6.1)
              refine lv_aload_n hx hb dX3_beginsLine_96 rfl (lv_at hl 1 rfl) ?_
              refine tg_memN (ci := 7) (C := RX7) (T := TX7) (N := 12) hx hb hts inX7 hown hK hw 10 m_v_8 rfl (by decide) (hSD.nest tn_105) (fun _ h9 => h9) dX3_beginsLine_97 ?_
              have q_v_8 : sg_7.1 10 = v_8 := OV.eqI (V := vw_TAPE) hw.2.2.1 o_p1 m_v_8 (by decide)
              refine lv_if_ne (tgt := 107) hx hb dX3_beginsLine_100 (by decide) (fun c_100 => ?_) (fun c_100 => ?_)
              · exact absurd (r_v_8.eq.trans rl_0.eq.symm) ((ti_ne c_100))
              · refine lv_iconst (v := 1) hx hb dX3_beginsLine_103 (by decide) ?_
                refine lv_goto (tgt := 108) hx hb dX3_beginsLine_104 (by decide) ?_
                simp only [f_X3_beginsLine__14, ↓reduceIte, eq_false c_4, eq_true c_11, eq_false c_26, q_v_2, q_v_3, eq_true d_48, eq_false c_63, eq_false c_77, q_sg_7, q_v_8, eq_true c_100] at hE
                subst hQ
                exact W.zret (v := 1) hx hb hr (rfl) (fun t ht hW => ⟨⟨1, ws, rfl, ⟨⟨x_OT_p0, ⟨(by rw [hR, ← hE]; exact o_p0), (by rw [hR, ← hE]; exact o_p1), (by rw [hR, ← hE]), trivial⟩, rl_1.to (by decide), (fun h0 => absurd h0 (by decide)), (fun h0 => ⟨⟨_, m_v_8, r_v_8⟩, x_MLT_p0_1, trivial⟩)⟩, hw.1, hw.2.2.2.2.1⟩, by rw [ht]; exact hw.2.1, va_K.moved hW.alike hK, hw.2.2.1⟩, hw.2.2.2.1.F ht⟩) hw.2.2.2.1.2.2 dX3_beginsLine_108
            · have r_p2 : RI p2 136 129 := rc_eq1 r_p2 rl_136 (ti_eq c_77) (by decide)
              exact (r_p2.no (by decide)).elim
          · have r_p2 : RI p2 135 129 := rc_eq1 r_p2 rl_135 (ti_eq c_63) (by decide)
            exact (r_p2.no (by decide)).elim
        · have d_48 := c_48
          rw [← q_v_5] at d_48
          have r_v_3 : RI v_3 4 4 := rc_le2 r_v_5 r_v_3 (ti_nlt c_48) (by decide)
          refine lv_aload_n hx hb dX3_beginsLine_51 rfl (lv_at hl 1 rfl) ?_
          refine lv_iconst (v := 4) hx hb dX3_beginsLine_52 (by decide) ?_
          have hw8 := hw
          refine tk_v (va_runV (As := [.int 4]) (rest := []) ⟨hx, hb, hml, hown, hts⟩ (c_X7_refuse__5 l D cy z s.heap.size Ps w0 hw.1 p1 4 f1_10 s1 h_p1 (rl_4.to (by decide)) r_f1_10 m_f1_10 o_p1) (cwV 1 hts (gV tw_450 tw_443 tw_444 tw_2 tw_445) rfl rfl rfl (by decide +kernel) ⟨Nat.le_of_ble_eq_true rfl, Nat.le_of_ble_eq_true rfl⟩) (tg_preV hw hK hSD hA (ci := 7) (q := (RX7, TX7, 12)) rfl h_p1 rfl) rfl rfl hl.1 rfl (lv_room (Nat.le_of_ble_eq_true rfl)) dX3_beginsLine_53 ⟨Nat.le_of_ble_eq_true rfl, Nat.le_of_ble_eq_true rfl⟩) hw hA ⟨by decide, by decide⟩ (fun ws H locs hp_v_9 hw hF9 => ?_)
          have m_v_3 := AEL.over hw8 hF9 h_vu_1 m_v_3 (by decide)
          have m_u_1 := FLD.over hF9 m_u_1 (by decide)
          have x_OT_p0 := OTR.over hF9 x_OT_p0 (by decide)
          obtain ⟨hfn, hp_v_9⟩ := hp_v_9
          have o_p0 := OV.over (V := vw_POST) hF9 o_p0 (by decide)
          obtain ⟨sg_10, q_sg_10⟩ : ∃ q9 : OS, (f_X7_refuse__5 (4 : Int32) s1) = q9 := ⟨_, rfl⟩
          have o_p1 : OV vw_TAPE Ps ws p1 sg_10 := by rw [← q_sg_10]; exact hfn.1
          obtain ⟨v_11, m_v_11, r_v_11⟩ := (hp_v_9.1)
          refine lv_goto (tgt := 92) hx hb dX3_beginsLine_56 (by decide) ?_
          refine lv_aload_n hx hb dX3_beginsLine_92 rfl (lv_at hl 1 rfl) ?_
          refine tk_vr (va_runV (As := []) (rest := []) ⟨hx, hb, hml, hown, hts⟩ (c_X7_pass__4 l D cy z H.size Ps ws hw.1 p1 v_11 sg_10 h_p1 r_v_11 m_v_11 o_p1) (cwV 0 hts (gV tw_451 tw_425 tw_426 tw_2 tw_427) rfl rfl rfl (by decide +kernel) ⟨Nat.le_of_ble_eq_true rfl, Nat.le_of_ble_eq_true rfl⟩) (tg_preV hw hK hSD hA (ci := 7) (q := (RX7, TX7, 12)) rfl h_p1 rfl) rfl rfl hl.1 rfl (lv_room (Nat.le_of_ble_eq_true rfl)) dX3_beginsLine_93 ⟨Nat.le_of_ble_eq_true rfl, Nat.le_of_ble_eq_true rfl⟩) hw hA (fun  H locs hp_v_12 hw => ?_)
          obtain ⟨hfn, hp_v_12⟩ := hp_v_12
          refine lv_aload_n hx hb dX3_beginsLine_96 rfl (lv_at hl 1 rfl) ?_
          refine tg_memN (ci := 7) (C := RX7) (T := TX7) (N := 12) hx hb hts inX7 hown hK hw 10 m_v_11 rfl (by decide) (hSD.nest tn_105) (fun _ h9 => h9) dX3_beginsLine_97 ?_
          have q_v_11 : sg_10.1 10 = v_11 := OV.eqI (V := vw_TAPE) hw.2.2.1 o_p1 m_v_11 (by decide)
          refine lv_if_ne (tgt := 107) hx hb dX3_beginsLine_100 (by decide) (fun c_100 => ?_) (fun c_100 => ?_)
          · refine lv_iconst (v := 0) hx hb dX3_beginsLine_107 (by decide) ?_
            simp only [f_X3_beginsLine__14, ↓reduceIte, eq_false c_4, eq_true c_11, eq_false c_26, q_v_2, q_v_3, eq_false d_48, q_sg_10, q_v_11, eq_false c_100] at hE
            subst hQ
            exact W.zret (v := 0) hx hb hr (rfl) (fun t ht hW => ⟨⟨0, ws, rfl, ⟨⟨x_OT_p0, ⟨(by rw [hR, ← hE]; exact o_p0), (by rw [hR, ← hE]; exact o_p1), (by rw [hR, ← hE]), trivial⟩, rl_0.to (by decide), (fun h0 => ⟨⟨_, m_v_11, r_v_11⟩, trivial⟩), (fun h0 => absurd rfl h0)⟩, hw.1, hw.2.2.2.2.1⟩, by rw [ht]; exact hw.2.1, va_K.moved hW.alike hK, hw.2.2.1⟩, hw.2.2.2.1.F ht⟩) hw.2.2.2.1.2.2 dX3_beginsLine_108
          · have r_v_11 : RI v_11 1 0 := rc_eq1 r_v_11 rl_0 (ti_eq c_100) (by decide)
            exact (r_v_11.no (by decide)).elim
    · have r_p2 : RI p2 137 129 := rc_lt2 rl_136 r_p2 (ti_nle c_11) (by decide)
      exact (r_p2.no (by decide)).elim
abbrev wr_X3_tellName__9 : List (Nat × Nat) := [(7, 5), (7, 6), (7, 7), (7, 8), (7, 9), (7, 10), (7, 11)]
abbrev wa_X3_tellName__9 : List Nat := [1, 4]
set_option maxHeartbeats 4000000 in
set_option maxRecDepth 100000 in
theorem c_X3_tellName__9 (l : Launch) (D : va_G) (cy : Nat → ClassId) (z : Nat → Nat) (sz : Nat) (Ps : PSI) (w0 : va_W) (hT : HT cy GG Ps w0) (p0 : Nat) (p1 : Nat) (p2 : Int32) (s0 : OS) (s1 : OS) (h_p0 : (p0, 25) ∈ Ps) (h_p1 : (p1, 26) ∈ Ps) (r_p2 : RI p2 1 1) (x_MLT_p0_1 : AXC 3 1 4 (fun f => (f 1).toInt < 4) Ps w0 p0) (o_p0 : OV vw_POST Ps w0 p0 s0) (o_p1 : OV vw_TAPE Ps w0 p1 s1) : Met l yX3_tellName (Cond.code yX3_tellName cX3_tellName 4 (some .int) :: gT) ({ frames := 3, cells := 0, slots := 0, locals := 600 } : Room) (va_Pc [.ref p0, .ref p1, .int p2] (PRE D cy z w0 sz)) (va_Qi (fun (r : Int32) (u : va_W) => ((OTR Ps w0 u p0) ∧ ((OV vw_POST Ps u p0 ((f_X3_tellName__4 p2 s0 s1).1) ∧ OV vw_TAPE Ps u p1 ((f_X3_tellName__4 p2 s0 s1).2.1) ∧ (f_X3_tellName__4 p2 s0 s1).2.2 = r ∧ True) ∧ (RI r (-1) 3 ∧ (r = 0 → (∃ v9 : Int32, FLD u p1 7 10 (.int v9) ∧ RI v9 0 0) ∧ True) ∧ (¬ r = 0 → True)))) ∧ HT cy GG Ps u ∧ FR wr_X3_tellName__9 wa_X3_tellName__9 Ps w0 u) (BB D cy (va_A w0 sz) (fun (u : va_W) => u)) (va_A w0 sz)) 0 0 (va_A w0 sz) := by
  refine Met.ofW (cc := cX3_tellName) (maxL := 4) (ret := (some .int)) (by decide) rfl ?_
  intro p e s m args below meth c s₁ B hml hv
  obtain ⟨rfl, hsz, hP, hK, hD0, hSD⟩ := hv
  have hx := B.exec
  have hb := B.bytes
  have hr := B.returns
  have hlocks := B.notSynchronized
  have hts : ∀ w ∈ gT, w.before _ s = true := fun w h => atoms_spec (ws := Cond.code yX3_tellName cX3_tellName 4 (some .int) :: gT) B.pre w (List.mem_cons_of_mem _ h)
  have hown : s.vm.findClass RX3 = some m.cls := findClass_of_methodNamed B.named
  subst hsz
  have hD := hD0.self (sz := s.heap.size)
  generalize hAe : va_A w0 s.heap.size = A at hD hSD ⊢
  have hA : ∀ q : Nat, s.heap.size ≤ q → A q := fun q h => by rw [← hAe]; exact Or.inr h
  have hl := lv_entry ([.ref p0, .ref p1, .int p2]) (n := 4) (Nat.le_of_ble_eq_true rfl)
  rw [lg_entry_eq]
  generalize (lg_sl ([.ref p0, .ref p1, .int p2]) ++ List.replicate (4 - (lg_sl ([.ref p0, .ref p1, .int p2])).length) Slot.unset).toArray = ls at hl ⊢
  have hl : lv_has ls 4 [(0, .ref p0), (1, .ref p1), (2, .int p2)] := hl
  refine nameQ (fun Q hQ => ?_)
  have hw : WD D cy GG A s wr_X3_tellName__9 wa_X3_tellName__9 Ps w0 Ps w0 s.heap [] := ⟨hT, hP, hD, va_S.rf, FR.rf, hT.1, [], (List.append_nil _).symm⟩
  have x_OT_p0 : OTR Ps w0 w0 p0 := OTR.rf
  obtain ⟨R9, hR⟩ : ∃ q9 : OS × OS × Int32, f_X3_tellName__4 p2 s0 s1 = q9 := ⟨_, rfl⟩
  have hE := hR
  have B32 : ∀ (s0 : OS) (s1 : OS) (ws : va_W) (H : Heap) (locs : List Loc) (ls : Array Slot), RI p2 1 1 → AXC 3 1 4 (fun f => (f 1).toInt < 4) Ps ws p0 → OTR Ps w0 ws p0 → OV vw_POST Ps ws p0 s0 → OV vw_TAPE Ps ws p1 s1 → f_X3_tellName__4_32 p2 s0 s1 = R9 → WD D cy GG A s wr_X3_tellName__9 wa_X3_tellName__9 Ps w0 Ps ws H locs → lv_has ls 4 [(0, .ref p0), (1, .ref p1), (2, .int p2)] → W p l e (headSpec (Cond.code yX3_tellName cX3_tellName 4 (some .int) :: gT) ({ frames := 3, cells := 0, slots := 0, locals := 600 } : Room)).room s m ([.ref p0, .ref p1, .int p2] : List Value).toArray below meth c H locs 0 0 Q (F0 m 32 ls []) := by
    intro s0 s1 ws H locs ls r_p2 x_MLT_p0_1 x_OT_p0 o_p0 o_p1 hE hw hl
    refine lv_aload_n hx hb dX3_tellName_32 rfl (lv_at hl 1 rfl) ?_
    refine tg_getN (ci := 7) (ts := ty_TAPE) (C := RX7) (T := TX7) (N := 12) hx hb hts inX7 hown hK hw h_p1 rfl rfl 10 (by decide) (hSD.nest tn_105) (fun _ h9 => h9) (ft := vI 0 4) rfl dX3_tellName_33 (fun u_1 hv_u_1 m_u_1 => ?_)
    obtain ⟨vu_1, rfl, r_vu_1⟩ := hv_u_1
    have q_vu_1 : s1.1 10 = vu_1 := OV.eqI (V := vw_TAPE) hw.2.2.1 o_p1 m_u_1 (by decide)
    refine lv_if_eq (tgt := 41) hx hb dX3_tellName_36 (by decide) (fun c_36 => ?_) (fun c_36 => ?_)
    · have r_vu_1 : RI vu_1 0 0 := rc_eq1 r_vu_1 rl_0 (ti_eq c_36) (by decide)
      refine lv_aload_n hx hb dX3_tellName_41 rfl (lv_at hl 0 rfl) ?_
      refine tg_get (ci := 3) (ts := ty_POST) (C := RX3) (T := TX3) (N := 9) hx hb hts inX3 hown hK hw h_p0 rfl rfl 1 (by decide) (hts _ tw_201) (fun _ h9 => h9) (ft := vR 4) rfl dX3_tellName_42 (fun u_2 hv_u_2 m_u_2 => ?_)
      obtain ⟨vu_2, rfl, h_vu_2⟩ := hv_u_2
      refine lv_iload_n hx hb dX3_tellName_45 rfl (lv_at hl 2 rfl) ?_
      refine tg_iald (lo := 0) (hi := 4) hx hb hK hw h_vu_2 rfl 1 1 r_p2 (by decide) (by decide +kernel) dX3_tellName_46 (fun v_3 r_v_3 m_v_3 o_v_3 => ?_)
      have q_v_3 : s0.2.2.1 1 (Int32.toNatClampNeg p2) = v_3 := OV.eqA (V := vw_POST) (t := 4) hw.2.2.1 o_p0 m_u_2 m_v_3 (by decide)
      have r_v_3 : RI v_3 0 3 := ⟨r_v_3.1, by obtain ⟨f9, q9, e9⟩ := AXC.use hw x_MLT_p0_1 m_u_2 m_v_3; have j9 : Int32.toNatClampNeg p2 = 1 := (by have k1 := r_p2.cl (by decide); have k2 := r_p2.eq; omega); rw [j9] at e9; have q8 : (f9 1).toInt < 4 := q9; rw [e9] at q8; omega⟩
      refine lv_istore_n (lv' := [(3, .int v_3), (0, .ref p0), (1, .ref p1), (2, .int p2)]) hx hb dX3_tellName_47 rfl hl (by decide) rfl (fun ls hl => ?_)
      refine lv_aload_n hx hb dX3_tellName_48 rfl (lv_at hl 1 rfl) ?_
      refine tg_get (ci := 3) (ts := ty_POST) (C := RX3) (T := TX3) (N := 9) hx hb hts inX3 hown hK hw h_p0 rfl rfl 0 (by decide) (hts _ tw_200) (fun _ h9 => h9) (ft := vR 1) rfl dX3_tellName_49 (fun u_4 hv_u_4 m_u_4 => ?_)
      obtain ⟨vu_4, rfl, h_vu_4⟩ := hv_u_4
      refine lv_iload_n hx hb dX3_tellName_52 rfl (lv_at hl 3 rfl) ?_
      refine lv_bipush (v := 8) hx hb dX3_tellName_53 (by decide) ?_
      refine lv_imul hx hb dX3_tellName_55 (lv_topi (fun v_5 e_v_5 => ?_))
      obtain ⟨t_v_5, r_v_5⟩ := tq_mul (lo := 8) (hi := 8) r_p2 rl_8 (by decide +kernel) e_v_5
      have t_v_5 : v_5.toInt = p2.toInt * 8 := t_v_5
      have q_v_5 : p2 * (8 : Int32) = v_5 := e_v_5.symm
      refine lv_iload_n hx hb dX3_tellName_56 rfl (lv_at hl 0 rfl) ?_
      refine lv_iadd hx hb dX3_tellName_57 (lv_topi (fun v_6 e_v_6 => ?_))
      obtain ⟨t_v_6, r_v_6⟩ := tq_add (lo := 8) (hi := 11) r_v_5 r_v_3 (by decide +kernel) e_v_6
      have q_v_6 : v_5 + v_3 = v_6 := e_v_6.symm
      refine lv_aload_n hx hb dX3_tellName_58 rfl (lv_at hl 2 rfl) ?_
      refine tg_getN (ci := 7) (ts := ty_TAPE) (C := RX7) (T := TX7) (N := 12) hx hb hts inX7 hown hK hw h_p1 rfl rfl 8 (by decide) (hSD.nest tn_99) (fun _ h9 => h9) (ft := vJ (-9223372036854775808) 9223372036854775807) rfl dX3_tellName_59 (fun u_7 hv_u_7 m_u_7 => ?_)
      obtain ⟨vu_7, rfl, r_vu_7⟩ := hv_u_7
      have q_vu_7 : s1.2.1 8 = vu_7 := OV.eqL (V := vw_TAPE) hw.2.2.1 o_p1 m_u_7 (by decide)
      have mo8 := m_u_4
      have mo9 := m_u_4
      refine tg_lastO hx hb hK hw h_vu_4 rfl r_v_6 (by decide) r_vu_7 (by decide) (by decide) dX3_tellName_62 (fun ws H locs hw hF9 hU9 hO9 => ?_)
      have x_MLT_p0_1 := AXC.over hF9 x_MLT_p0_1 (by decide)
      have m_u_1 := FLD.over hF9 m_u_1 (by decide)
      have m_u_2 := FLD.over hF9 m_u_2 (by decide)
      have m_u_4 := FLD.over hF9 m_u_4 (by decide)
      have m_u_7 := FLD.over hF9 m_u_7 (by decide)
      have o_p1 := OV.over (V := vw_TAPE) hF9 o_p1 (by decide)
      obtain ⟨sg_8, q_sg_8⟩ : ∃ q9 : OS, sB s0 0 (Int32.toNatClampNeg v_6) vu_7 = q9 := ⟨_, rfl⟩
      have o_p0 : OV vw_POST Ps ws p0 sg_8 := by rw [← q_sg_8]; exact OV.putB (V := vw_POST) (t := 1) hF9 hU9 o_p0 mo9 (by decide) (by decide)
      have x_OT_p0 : OTR Ps w0 ws p0 := OTR.asl x_OT_p0 hF9 hU9.1 hO9 mo8 (by decide)
      refine lv_aload_n hx hb dX3_tellName_63 rfl (lv_at hl 1 rfl) ?_
      refine tg_mem (ci := 3) (C := RX3) (T := TX3) (N := 9) hx hb hts inX3 hown hK hw 1 m_u_2 rfl (by decide) (hts _ tw_201) (fun _ h9 => h9) dX3_tellName_64 ?_
      refine lv_iload_n hx hb dX3_tellName_67 rfl (lv_at hl 3 rfl) ?_
      refine lv_iload_n hx hb dX3_tellName_68 rfl (lv_at hl 0 rfl) ?_
      refine lv_iconst (v := 1) hx hb dX3_tellName_69 (by decide) ?_
      refine lv_iadd hx hb dX3_tellName_70 (lv_topi (fun v_9 e_v_9 => ?_))
      obtain ⟨t_v_9, r_v_9⟩ := tq_add (lo := 1) (hi := 4) r_v_3 rl_1 (by decide +kernel) e_v_9
      have t_v_9 : v_9.toInt = v_3.toInt + 1 := t_v_9
      have q_v_9 : v_3 + (1 : Int32) = v_9 := e_v_9.symm
      have mo8 := m_u_2
      have mo9 := m_u_2
      refine tg_iastE hx hb hK hw h_vu_2 rfl 1 1 r_p2 (by decide) r_v_9 (by decide +kernel) (fun _ _ _ _ _ => trivial) (by decide) dX3_tellName_71 (fun ws H locs hw hF9 hU9 hO9 => ?_)
      have m_u_1 := FLD.over hF9 m_u_1 (by decide)
      have m_u_2 := FLD.over hF9 m_u_2 (by decide)
      have m_u_4 := FLD.over hF9 m_u_4 (by decide)
      have m_u_7 := FLD.over hF9 m_u_7 (by decide)
      have o_p1 := OV.over (V := vw_TAPE) hF9 o_p1 (by decide)
      obtain ⟨sg_10, q_sg_10⟩ : ∃ q9 : OS, sA sg_8 1 (Int32.toNatClampNeg p2) v_9 = q9 := ⟨_, rfl⟩
      have o_p0 : OV vw_POST Ps ws p0 sg_10 := by rw [← q_sg_10]; exact OV.putA (V := vw_POST) (t := 4) hF9 hU9 o_p0 mo9 (by decide) (by decide)
      have x_OT_p0 : OTR Ps w0 ws p0 := OTR.ast x_OT_p0 hF9 hU9.1 hO9 mo8 (by decide)
      refine lv_aload_n hx hb dX3_tellName_72 rfl (lv_at hl 2 rfl) ?_
      refine tk_v (va_runV (As := []) (rest := []) ⟨hx, hb, hml, hown, hts⟩ (c_X7_pass__5 l D cy z H.size Ps ws hw.1 p1 vu_1 s1 h_p1 r_vu_1 m_u_1 o_p1) (cwV 0 hts (gV tw_451 tw_425 tw_426 tw_2 tw_427) rfl rfl rfl (by decide +kernel) ⟨Nat.le_of_ble_eq_true rfl, Nat.le_of_ble_eq_true rfl⟩) (tg_preV hw hK hSD hA (ci := 7) (q := (RX7, TX7, 12)) rfl h_p1 rfl) rfl rfl hl.1 rfl (lv_room (Nat.le_of_ble_eq_true rfl)) dX3_tellName_73 ⟨Nat.le_of_ble_eq_true rfl, Nat.le_of_ble_eq_true rfl⟩) hw hA ⟨by decide, by decide⟩ (fun ws H locs hp_v_11 hw hF9 => ?_)
      have m_u_1 := FLD.over hF9 m_u_1 (by decide)
      have m_u_2 := FLD.over hF9 m_u_2 (by decide)
      have m_u_4 := FLD.over hF9 m_u_4 (by decide)
      have x_OT_p0 := OTR.over hF9 x_OT_p0 (by decide)
      obtain ⟨hfn, hp_v_11⟩ := hp_v_11
      have o_p0 := OV.over (V := vw_POST) hF9 o_p0 (by decide)
      obtain ⟨sg_12, q_sg_12⟩ : ∃ q9 : OS, (f_X7_pass__5 s1) = q9 := ⟨_, rfl⟩
      have o_p1 : OV vw_TAPE Ps ws p1 sg_12 := by rw [← q_sg_12]; exact hfn.1
      obtain ⟨v_13, m_v_13, r_v_13⟩ := (hp_v_11.1)
      refine lv_iload_n hx hb dX3_tellName_76 rfl (lv_at hl 0 rfl) ?_
      simp only [f_X3_tellName__4_32, ↓reduceIte, q_vu_1, eq_true c_36, q_v_3, q_v_5, q_v_6, q_vu_7, q_sg_8, q_v_9, q_sg_10, q_sg_12] at hE
      subst hQ
      exact W.iret (v := v_3) hx hb hr (fun t ht hW => ⟨⟨v_3, ws, rfl, ⟨⟨x_OT_p0, ⟨(by rw [hR, ← hE]; exact o_p0), (by rw [hR, ← hE]; exact o_p1), (by rw [hR, ← hE]), trivial⟩, r_v_3.to (by decide), (fun h0 => ⟨⟨_, m_v_13, r_v_13⟩, trivial⟩), (fun h0 => trivial)⟩, hw.1, hw.2.2.2.2.1⟩, by rw [ht]; exact hw.2.1, va_K.moved hW.alike hK, hw.2.2.1⟩, hw.2.2.2.1.F ht⟩) hw.2.2.2.1.2.2 dX3_tellName_77
    · have r_vu_1 : RI vu_1 1 4 := rc_neL r_vu_1 rl_0 (ti_ne c_36) (by decide)
      refine lv_iconst (v := (-1)) hx hb dX3_tellName_39 (by decide) ?_
      simp only [f_X3_tellName__4_32, ↓reduceIte, q_vu_1, eq_false c_36] at hE
      subst hQ
      exact W.iret (v := (-1)) hx hb hr (fun t ht hW => ⟨⟨(-1), ws, rfl, ⟨⟨x_OT_p0, ⟨(by rw [hR, ← hE]; exact o_p0), (by rw [hR, ← hE]; exact o_p1), (by rw [hR, ← hE]), trivial⟩, rl_m1.to (by decide), (fun h0 => absurd h0 (by decide)), (fun h0 => trivial)⟩, hw.1, hw.2.2.2.2.1⟩, by rw [ht]; exact hw.2.1, va_K.moved hW.alike hK, hw.2.2.1⟩, hw.2.2.2.1.F ht⟩) hw.2.2.2.1.2.2 dX3_tellName_40
  refine lv_aload_n hx hb dX3_tellName_0 rfl (lv_at hl 1 rfl) ?_
  refine tg_getN (ci := 7) (ts := ty_TAPE) (C := RX7) (T := TX7) (N := 12) hx hb hts inX7 hown hK hw h_p1 rfl rfl 7 (by decide) (hSD.nest tn_97) (fun _ h9 => h9) (ft := vI (-2147483648) 2147483647) rfl dX3_tellName_1 (fun u_14 hv_u_14 m_u_14 => ?_)
  obtain ⟨vu_14, rfl, r_vu_14⟩ := hv_u_14
  have q_vu_14 : s1.1 7 = vu_14 := OV.eqI (V := vw_TAPE) hw.2.2.1 o_p1 m_u_14 (by decide)
  refine lv_iconst (v := 2) hx hb dX3_tellName_4 (by decide) ?_
  refine lv_icmp_eq (tgt := 16) hx hb dX3_tellName_5 (by decide) (fun c_5 => ?_) (fun c_5 => ?_)
  · have r_vu_14 : RI vu_14 2 2 := rc_eq1 r_vu_14 rl_2 (ti_eq c_5) (by decide)
    refine lv_aload_n hx hb dX3_tellName_16 rfl (lv_at hl 0 rfl) ?_
    refine lv_aload_n hx hb dX3_tellName_17 rfl (lv_at hl 1 rfl) ?_
    refine tg_getN (ci := 7) (ts := ty_TAPE) (C := RX7) (T := TX7) (N := 12) hx hb hts inX7 hown hK hw h_p1 rfl rfl 8 (by decide) (hSD.nest tn_99) (fun _ h9 => h9) (ft := vJ (-9223372036854775808) 9223372036854775807) rfl dX3_tellName_18 (fun u_15 hv_u_15 m_u_15 => ?_)
    obtain ⟨vu_15, rfl, r_vu_15⟩ := hv_u_15
    have q_vu_15 : s1.2.1 8 = vu_15 := OV.eqL (V := vw_TAPE) hw.2.2.1 o_p1 m_u_15 (by decide)
    refine tk_ir (va_runV (As := [.long vu_15]) (rest := []) ⟨hx, hb, hml, hown, hts⟩ (c_X3_isTold__1 l D cy z s.heap.size Ps w0 hw.1 p0 vu_15 s0 h_p0 r_vu_15 o_p0) (cwV 1 hts (gV tw_507 tw_509 ts_8 tw_11 tw_510) rfl rfl rfl (by decide +kernel) ⟨Nat.le_of_ble_eq_true rfl, Nat.le_of_ble_eq_true rfl⟩) (tg_preV hw hK hSD hA (ci := 3) (q := (RX3, TX3, 9)) rfl h_p0 rfl) rfl rfl hl.1 rfl (lv_room (Nat.le_of_ble_eq_true rfl)) dX3_tellName_21 ⟨Nat.le_of_ble_eq_true rfl, Nat.le_of_ble_eq_true rfl⟩) hw hA (fun v_16  H locs hp_v_16 hw => ?_)
    obtain ⟨hfn, hp_v_16⟩ := hp_v_16
    have q_v_16 : (f_X3_isTold__1 vu_15 s0) = v_16 := hfn.1
    have r_v_16 : RI v_16 0 1 := hp_v_16.1
    refine lv_if_eq (tgt := 32) hx hb dX3_tellName_24 (by decide) (fun c_24 => ?_) (fun c_24 => ?_)
    · have r_v_16 : RI v_16 0 0 := rc_eq1 r_v_16 rl_0 (ti_eq c_24) (by decide)
      simp only [f_X3_tellName__4, ↓reduceIte, q_vu_14, eq_true c_5, q_vu_15, q_v_16, eq_true c_24] at hE
      exact B32 s0 s1 w0 _ _ ls r_p2 x_MLT_p0_1 x_OT_p0 o_p0 o_p1 hE hw hl
    · have r_v_16 : RI v_16 1 1 := rc_neL r_v_16 rl_0 (ti_ne c_24) (by decide)
      refine lv_aload_n hx hb dX3_tellName_27 rfl (lv_at hl 1 rfl) ?_
      refine lv_iconst (v := 3) hx hb dX3_tellName_28 (by decide) ?_
      refine tk_v (va_runV (As := [.int 3]) (rest := []) ⟨hx, hb, hml, hown, hts⟩ (c_X7_refuse__4 l D cy z H.size Ps w0 hw.1 p1 3 s1 h_p1 (rl_3.to (by decide)) o_p1) (cwV 1 hts (gV tw_450 tw_443 tw_444 tw_2 tw_445) rfl rfl rfl (by decide +kernel) ⟨Nat.le_of_ble_eq_true rfl, Nat.le_of_ble_eq_true rfl⟩) (tg_preV hw hK hSD hA (ci := 7) (q := (RX7, TX7, 12)) rfl h_p1 rfl) rfl rfl hl.1 rfl (lv_room (Nat.le_of_ble_eq_true rfl)) dX3_tellName_29 ⟨Nat.le_of_ble_eq_true rfl, Nat.le_of_ble_eq_true rfl⟩) hw hA ⟨by decide, by decide⟩ (fun ws H locs hp_v_17 hw hF9 => ?_)
      have m_u_14 := FLD.over hF9 m_u_14 (by decide)
      have m_u_15 := FLD.over hF9 m_u_15 (by decide)
      have x_MLT_p0_1 := AXC.over hF9 x_MLT_p0_1 (by decide)
      have x_OT_p0 := OTR.over hF9 x_OT_p0 (by decide)
      obtain ⟨hfn, hp_v_17⟩ := hp_v_17
      have o_p0 := OV.over (V := vw_POST) hF9 o_p0 (by decide)
      obtain ⟨sg_18, q_sg_18⟩ : ∃ q9 : OS, (f_X7_refuse__4 (3 : Int32) s1) = q9 := ⟨_, rfl⟩
      have o_p1 : OV vw_TAPE Ps ws p1 sg_18 := by rw [← q_sg_18]; exact hfn.1
      obtain ⟨v_19, m_v_19, r_v_19⟩ := (hp_v_17.1)
      simp only [f_X3_tellName__4, ↓reduceIte, q_vu_14, eq_true c_5, q_vu_15, q_v_16, eq_false c_24, q_sg_18] at hE
      exact B32 s0 sg_18 ws _ _ ls r_p2 x_MLT_p0_1 x_OT_p0 o_p0 o_p1 hE hw hl
  · refine lv_aload_n hx hb dX3_tellName_8 rfl (lv_at hl 1 rfl) ?_
    refine lv_iconst (v := 1) hx hb dX3_tellName_9 (by decide) ?_
    refine tk_v (va_runV (As := [.int 1]) (rest := []) ⟨hx, hb, hml, hown, hts⟩ (c_X7_refuse__4 l D cy z s.heap.size Ps w0 hw.1 p1 1 s1 h_p1 (rl_1.to (by decide)) o_p1) (cwV 1 hts (gV tw_450 tw_443 tw_444 tw_2 tw_445) rfl rfl rfl (by decide +kernel) ⟨Nat.le_of_ble_eq_true rfl, Nat.le_of_ble_eq_true rfl⟩) (tg_preV hw hK hSD hA (ci := 7) (q := (RX7, TX7, 12)) rfl h_p1 rfl) rfl rfl hl.1 rfl (lv_room (Nat.le_of_ble_eq_true rfl)) dX3_tellName_10 ⟨Nat.le_of_ble_eq_true rfl, Nat.le_of_ble_eq_true rfl⟩) hw hA ⟨by decide, by decide⟩ (fun ws H locs hp_v_20 hw hF9 => ?_)
    have m_u_14 := FLD.over hF9 m_u_14 (by decide)
    have x_MLT_p0_1 := AXC.over hF9 x_MLT_p0_1 (by decide)
    have x_OT_p0 := OTR.over hF9 x_OT_p0 (by decide)
    obtain ⟨hfn, hp_v_20⟩ := hp_v_20
    have o_p0 := OV.over (V := vw_POST) hF9 o_p0 (by decide)
    obtain ⟨sg_21, q_sg_21⟩ : ∃ q9 : OS, (f_X7_refuse__4 (1 : Int32) s1) = q9 := ⟨_, rfl⟩
    have o_p1 : OV vw_TAPE Ps ws p1 sg_21 := by rw [← q_sg_21]; exact hfn.1
    obtain ⟨v_22, m_v_22, r_v_22⟩ := (hp_v_20.1)
    refine lv_goto (tgt := 32) hx hb dX3_tellName_13 (by decide) ?_
    simp only [f_X3_tellName__4, ↓reduceIte, q_vu_14, eq_false c_5, q_sg_21] at hE
    exact B32 s0 sg_21 ws _ _ ls r_p2 x_MLT_p0_1 x_OT_p0 o_p0 o_p1 hE hw hl
abbrev wr_X3_readNamed__9 : List (Nat × Nat) := [(7, 5), (7, 6), (7, 7), (7, 8), (7, 9), (7, 10), (7, 11)]
abbrev wa_X3_readNamed__9 : List Nat := [1, 4]
set_option maxHeartbeats 4000000 in
set_option maxRecDepth 100000 in
theorem c_X3_readNamed__9 (l : Launch) (D : va_G) (cy : Nat → ClassId) (z : Nat → Nat) (sz : Nat) (Ps : PSI) (w0 : va_W) (hT : HT cy GG Ps w0) (p0 : Nat) (p1 : Nat) (p2 : Nat) (p3 : Int32) (s0 : OS) (s1 : OS) (s2 : OS) (h_p0 : (p0, 25) ∈ Ps) (h_p1 : (p1, 26) ∈ Ps) (h_p2 : (p2, 24) ∈ Ps) (r_p3 : RI p3 1 1) (x_MLT_p0_1 : AXC 3 1 4 (fun f => (f 1).toInt < 4) Ps w0 p0) (o_p0 : OV vw_POST Ps w0 p0 s0) (o_p1 : OV vw_TAPE Ps w0 p1 s1) (o_p2 : OV vw_WORLD Ps w0 p2 s2) : Met l yX3_readNamed (Cond.code yX3_readNamed cX3_readNamed 5 none :: gT) ({ frames := 4, cells := 0, slots := 0, locals := 800 } : Room) (va_Pc [.ref p0, .ref p1, .ref p2, .int p3] (PRE D cy z w0 sz)) (va_Qv (fun (u : va_W) => ((OTR Ps w0 u p0) ∧ ((OV vw_POST Ps u p0 ((f_X3_readNamed__5 p3 s0 s1 s2).1) ∧ OV vw_TAPE Ps u p1 ((f_X3_readNamed__5 p3 s0 s1 s2).2.1) ∧ OV vw_WORLD Ps u p2 ((f_X3_readNamed__5 p3 s0 s1 s2).2.2) ∧ True) ∧ (True))) ∧ HT cy GG Ps u ∧ FR wr_X3_readNamed__9 wa_X3_readNamed__9 Ps w0 u) (BB D cy (va_A w0 sz) (fun (u : va_W) => u)) (va_A w0 sz)) 0 0 (va_A w0 sz) := by
  refine Met.ofW (cc := cX3_readNamed) (maxL := 5) (ret := none) (by decide) rfl ?_
  intro p e s m args below meth c s₁ B hml hv
  obtain ⟨rfl, hsz, hP, hK, hD0, hSD⟩ := hv
  have hx := B.exec
  have hb := B.bytes
  have hr := B.returns
  have hlocks := B.notSynchronized
  have hts : ∀ w ∈ gT, w.before _ s = true := fun w h => atoms_spec (ws := Cond.code yX3_readNamed cX3_readNamed 5 none :: gT) B.pre w (List.mem_cons_of_mem _ h)
  have hown : s.vm.findClass RX3 = some m.cls := findClass_of_methodNamed B.named
  subst hsz
  have hD := hD0.self (sz := s.heap.size)
  generalize hAe : va_A w0 s.heap.size = A at hD hSD ⊢
  have hA : ∀ q : Nat, s.heap.size ≤ q → A q := fun q h => by rw [← hAe]; exact Or.inr h
  have hl := lv_entry ([.ref p0, .ref p1, .ref p2, .int p3]) (n := 5) (Nat.le_of_ble_eq_true rfl)
  rw [lg_entry_eq]
  generalize (lg_sl ([.ref p0, .ref p1, .ref p2, .int p3]) ++ List.replicate (5 - (lg_sl ([.ref p0, .ref p1, .ref p2, .int p3])).length) Slot.unset).toArray = ls at hl ⊢
  have hl : lv_has ls 5 [(0, .ref p0), (1, .ref p1), (2, .ref p2), (3, .int p3)] := hl
  refine nameQ (fun Q hQ => ?_)
  have hw : WD D cy GG A s wr_X3_readNamed__9 wa_X3_readNamed__9 Ps w0 Ps w0 s.heap [] := ⟨hT, hP, hD, va_S.rf, FR.rf, hT.1, [], (List.append_nil _).symm⟩
  have x_OT_p0 : OTR Ps w0 w0 p0 := OTR.rf
  obtain ⟨R9, hR⟩ : ∃ q9 : OS × OS × OS, f_X3_readNamed__5 p3 s0 s1 s2 = q9 := ⟨_, rfl⟩
  have hE := hR
  refine lv_aload_n hx hb dX3_readNamed_0 rfl (lv_at hl 0 rfl) ?_
  refine lv_aload_n hx hb dX3_readNamed_1 rfl (lv_at hl 1 rfl) ?_
  refine lv_iload_n hx hb dX3_readNamed_2 rfl (lv_at hl 3 rfl) ?_
  refine tk_i (va_runV (As := [.ref p1, .int p3]) (rest := []) ⟨hx, hb, hml, hown, hts⟩ (c_X3_tellName__9 l D cy z s.heap.size Ps w0 hw.1 p0 p1 p3 s0 s1 h_p0 h_p1 r_p3 x_MLT_p0_1 o_p0 o_p1) (cwV 2 hts (gV tw_503 tw_505 ts_7 tw_11 tw_506) rfl rfl rfl (by decide +kernel) ⟨Nat.le_of_ble_eq_true rfl, Nat.le_of_ble_eq_true rfl⟩) (tg_preV hw hK hSD hA (ci := 3) (q := (RX3, TX3, 9)) rfl h_p0 rfl) rfl rfl hl.1 rfl (lv_room (Nat.le_of_ble_eq_true rfl)) dX3_readNamed_3 ⟨Nat.le_of_ble_eq_true rfl, Nat.le_of_ble_eq_true rfl⟩) hw hA ⟨by decide, by decide⟩ (fun v_1 ws H locs hp_v_1 hw hF9 => ?_)
  obtain ⟨hot9, hp_v_1⟩ := hp_v_1
  obtain ⟨hfn, hp_v_1⟩ := hp_v_1
  have o_p2 := OV.over (V := vw_WORLD) hF9 o_p2 (by decide)
  obtain ⟨sg_2, q_sg_2⟩ : ∃ q9 : OS, (f_X3_tellName__4 p3 s0 s1).1 = q9 := ⟨_, rfl⟩
  have o_p0 : OV vw_POST Ps ws p0 sg_2 := by rw [← q_sg_2]; exact hfn.1
  obtain ⟨sg_3, q_sg_3⟩ : ∃ q9 : OS, (f_X3_tellName__4 p3 s0 s1).2.1 = q9 := ⟨_, rfl⟩
  have o_p1 : OV vw_TAPE Ps ws p1 sg_3 := by rw [← q_sg_3]; exact hfn.2.1
  have q_v_1 : (f_X3_tellName__4 p3 s0 s1).2.2 = v_1 := hfn.2.2.1
  have x_OT_p0 : OTR Ps w0 ws p0 := OTR.trans x_OT_p0 hot9
  have r_v_1 : RI v_1 (-1) 3 := hp_v_1.1
  by_cases c9_v_1 : v_1 = 0
  · have r_v_1 : RI v_1 0 0 := by rw [c9_v_1]; exact rl_0
    obtain ⟨v_4, m_v_4, r_v_4⟩ := ((hp_v_1.2.1 c9_v_1).1)
    refine lv_istore (lv' := [(4, .int v_1), (0, .ref p0), (1, .ref p1), (2, .ref p2), (3, .int p3)]) hx hb dX3_readNamed_6 hl (by decide) rfl (fun ls hl => ?_)
    refine lv_iload hx hb dX3_readNamed_8 (lv_at hl 0 rfl) ?_
    refine lv_iconst (v := (-1)) hx hb dX3_readNamed_10 (by decide) ?_
    refine lv_icmp_ne (tgt := 15) hx hb dX3_readNamed_11 (by decide) (fun c_11 => ?_) (fun c_11 => ?_)
    · refine lv_iload_n hx hb dX3_readNamed_15 rfl (lv_at hl 4 rfl) ?_
      refine lv_if_ne (tgt := 36) hx hb dX3_readNamed_16 (by decide) (fun c_16 => ?_) (fun c_16 => ?_)
      · refine lv_iload_n hx hb dX3_readNamed_36 rfl (lv_at hl 4 rfl) ?_
        refine lv_iconst (v := 2) hx hb dX3_readNamed_37 (by decide) ?_
        refine lv_icmp_ne (tgt := 61) hx hb dX3_readNamed_38 (by decide) (fun c_38 => ?_) (fun c_38 => ?_)
        · refine lv_iload_n hx hb dX3_readNamed_61 rfl (lv_at hl 4 rfl) ?_
          refine lv_iconst (v := 3) hx hb dX3_readNamed_62 (by decide) ?_
          refine lv_icmp_ne (tgt := 97) hx hb dX3_readNamed_63 (by decide) (fun c_63 => ?_) (fun c_63 => ?_)
          · simp only [f_X3_readNamed__5, ↓reduceIte, q_sg_2, q_sg_3, q_v_1, eq_true c9_v_1, eq_false c_11, eq_false c_16, eq_false c_38, eq_false c_63] at hE
            subst hQ
            exact W.vret hx hb hr (fun t ht hW => ⟨⟨ws, rfl, ⟨⟨x_OT_p0, ⟨⟨(by rw [hR, ← hE]; exact o_p0), (by rw [hR, ← hE]; exact o_p1), (by rw [hR, ← hE]; exact o_p2), trivial⟩, trivial⟩⟩, hw.1, hw.2.2.2.2.1⟩, by rw [ht]; exact hw.2.1, va_K.moved hW.alike hK, hw.2.2.1⟩, hw.2.2.2.1.F ht⟩) hw.2.2.2.1.2.2 dX3_readNamed_97
          · have r_p3 : RI p3 3 1 := rc_eq1 r_p3 rl_3 (ti_eq c_63) (by decide)
            exact (r_p3.no (by decide)).elim
        · have r_p3 : RI p3 2 1 := rc_eq1 r_p3 rl_2 (ti_eq c_38) (by decide)
          exact (r_p3.no (by decide)).elim
      · have r_p3 : RI p3 1 0 := rc_eq1 r_p3 rl_0 (ti_eq c_16) (by decide)
        exact (r_p3.no (by decide)).elim
    · have r_v_1 : RI v_1 0 (-1) := rc_eq1 r_v_1 rl_m1 (ti_eq c_11) (by decide)
      exact (r_v_1.no (by decide)).elim
  · refine lv_istore (lv' := [(4, .int v_1), (0, .ref p0), (1, .ref p1), (2, .ref p2), (3, .int p3)]) hx hb dX3_readNamed_6 hl (by decide) rfl (fun ls hl => ?_)
    refine lv_iload hx hb dX3_readNamed_8 (lv_at hl 0 rfl) ?_
    refine lv_iconst (v := (-1)) hx hb dX3_readNamed_10 (by decide) ?_
    refine lv_icmp_ne (tgt := 15) hx hb dX3_readNamed_11 (by decide) (fun c_11 => ?_) (fun c_11 => ?_)
    · have r_v_1 : RI v_1 0 3 := rc_neL r_v_1 rl_m1 (ti_ne c_11) (by decide)
      refine lv_iload_n hx hb dX3_readNamed_15 rfl (lv_at hl 4 rfl) ?_
      refine lv_if_ne (tgt := 36) hx hb dX3_readNamed_16 (by decide) (fun c_16 => ?_) (fun c_16 => ?_)
      · refine lv_iload_n hx hb dX3_readNamed_36 rfl (lv_at hl 4 rfl) ?_
        refine lv_iconst (v := 2) hx hb dX3_readNamed_37 (by decide) ?_
        refine lv_icmp_ne (tgt := 61) hx hb dX3_readNamed_38 (by decide) (fun c_38 => ?_) (fun c_38 => ?_)
        · refine lv_iload_n hx hb dX3_readNamed_61 rfl (lv_at hl 4 rfl) ?_
          refine lv_iconst (v := 3) hx hb dX3_readNamed_62 (by decide) ?_
          refine lv_icmp_ne (tgt := 97) hx hb dX3_readNamed_63 (by decide) (fun c_63 => ?_) (fun c_63 => ?_)
          · simp only [f_X3_readNamed__5, ↓reduceIte, q_sg_2, q_sg_3, q_v_1, eq_false c9_v_1, eq_false c_11, eq_false c_16, eq_false c_38, eq_false c_63] at hE
            subst hQ
            exact W.vret hx hb hr (fun t ht hW => ⟨⟨ws, rfl, ⟨⟨x_OT_p0, ⟨⟨(by rw [hR, ← hE]; exact o_p0), (by rw [hR, ← hE]; exact o_p1), (by rw [hR, ← hE]; exact o_p2), trivial⟩, trivial⟩⟩, hw.1, hw.2.2.2.2.1⟩, by rw [ht]; exact hw.2.1, va_K.moved hW.alike hK, hw.2.2.1⟩, hw.2.2.2.1.F ht⟩) hw.2.2.2.1.2.2 dX3_readNamed_97
          · have r_p3 : RI p3 3 1 := rc_eq1 r_p3 rl_3 (ti_eq c_63) (by decide)
            exact (r_p3.no (by decide)).elim
        · have r_p3 : RI p3 2 1 := rc_eq1 r_p3 rl_2 (ti_eq c_38) (by decide)
          exact (r_p3.no (by decide)).elim
      · have r_p3 : RI p3 1 0 := rc_eq1 r_p3 rl_0 (ti_eq c_16) (by decide)
        exact (r_p3.no (by decide)).elim
    · have r_v_1 : RI v_1 (-1) (-1) := rc_eq1 r_v_1 rl_m1 (ti_eq c_11) (by decide)
      simp only [f_X3_readNamed__5, ↓reduceIte, q_sg_2, q_sg_3, q_v_1, eq_false c9_v_1, eq_true c_11] at hE
      subst hQ
      exact W.vret hx hb hr (fun t ht hW => ⟨⟨ws, rfl, ⟨⟨x_OT_p0, ⟨⟨(by rw [hR, ← hE]; exact o_p0), (by rw [hR, ← hE]; exact o_p1), (by rw [hR, ← hE]; exact o_p2), trivial⟩, trivial⟩⟩, hw.1, hw.2.2.2.2.1⟩, by rw [ht]; exact hw.2.1, va_K.moved hW.alike hK, hw.2.2.1⟩, hw.2.2.2.1.F ht⟩) hw.2.2.2.1.2.2 dX3_readNamed_14
abbrev wr_X3_beginsLine__26 : List (Nat × Nat) := [(7, 5), (7, 6), (7, 7), (7, 8), (7, 9), (7, 10), (7, 11)]
abbrev wa_X3_beginsLine__26 : List Nat := []
set_option maxHeartbeats 4000000 in
set_option maxRecDepth 100000 in
theorem c_X3_beginsLine__26 (l : Launch) (D : va_G) (cy : Nat → ClassId) (z : Nat → Nat) (sz : Nat) (Ps : PSI) (w0 : va_W) (hT : HT cy GG Ps w0) (p0 : Nat) (p1 : Nat) (p2 : Int32) (f1_10 : Int32) (s0 : OS) (s1 : OS) (h_p0 : (p0, 25) ∈ Ps) (h_p1 : (p1, 26) ∈ Ps) (r_p2 : RI p2 130 130) (r_f1_10 : RI f1_10 0 0) (m_f1_10 : FLD w0 p1 7 10 (.int f1_10)) (o_p0 : OV vw_POST Ps w0 p0 s0) (o_p1 : OV vw_TAPE Ps w0 p1 s1) : Met l yX3_beginsLine (Cond.code yX3_beginsLine cX3_beginsLine 3 (some .boolean) :: gT) ({ frames := 3, cells := 0, slots := 0, locals := 600 } : Room) (va_Pc [.ref p0, .ref p1, .int p2] (PRE D cy z w0 sz)) (va_Qi (fun (r : Int32) (u : va_W) => ((OTR Ps w0 u p0) ∧ ((OV vw_POST Ps u p0 ((f_X3_beginsLine__13 p2 s0 s1).1) ∧ OV vw_TAPE Ps u p1 ((f_X3_beginsLine__13 p2 s0 s1).2.1) ∧ (f_X3_beginsLine__13 p2 s0 s1).2.2 = r ∧ True) ∧ (RI r 0 1 ∧ (r = 0 → (∃ v9 : Int32, FLD u p1 7 10 (.int v9) ∧ RI v9 1 4) ∧ True) ∧ (¬ r = 0 → (∃ v9 : Int32, FLD u p1 7 10 (.int v9) ∧ RI v9 0 0) ∧ AXC 3 1 4 (fun f => (f 2).toInt < 6) Ps u p0 ∧ True)))) ∧ HT cy GG Ps u ∧ FR wr_X3_beginsLine__26 wa_X3_beginsLine__26 Ps w0 u) (BB D cy (va_A w0 sz) (fun (u : va_W) => u)) (va_A w0 sz)) 0 0 (va_A w0 sz) := by
  refine Met.ofW (cc := cX3_beginsLine) (maxL := 3) (ret := (some .boolean)) (by decide) rfl ?_
  intro p e s m args below meth c s₁ B hml hv
  obtain ⟨rfl, hsz, hP, hK, hD0, hSD⟩ := hv
  have hx := B.exec
  have hb := B.bytes
  have hr := B.returns
  have hlocks := B.notSynchronized
  have hts : ∀ w ∈ gT, w.before _ s = true := fun w h => atoms_spec (ws := Cond.code yX3_beginsLine cX3_beginsLine 3 (some .boolean) :: gT) B.pre w (List.mem_cons_of_mem _ h)
  have hown : s.vm.findClass RX3 = some m.cls := findClass_of_methodNamed B.named
  subst hsz
  have hD := hD0.self (sz := s.heap.size)
  generalize hAe : va_A w0 s.heap.size = A at hD hSD ⊢
  have hA : ∀ q : Nat, s.heap.size ≤ q → A q := fun q h => by rw [← hAe]; exact Or.inr h
  have hl := lv_entry ([.ref p0, .ref p1, .int p2]) (n := 3) (Nat.le_of_ble_eq_true rfl)
  rw [lg_entry_eq]
  generalize (lg_sl ([.ref p0, .ref p1, .int p2]) ++ List.replicate (3 - (lg_sl ([.ref p0, .ref p1, .int p2])).length) Slot.unset).toArray = ls at hl ⊢
  have hl : lv_has ls 3 [(0, .ref p0), (1, .ref p1), (2, .int p2)] := hl
  refine nameQ (fun Q hQ => ?_)
  have hw : WD D cy GG A s wr_X3_beginsLine__26 wa_X3_beginsLine__26 Ps w0 Ps w0 s.heap [] := ⟨hT, hP, hD, va_S.rf, FR.rf, hT.1, [], (List.append_nil _).symm⟩
  have x_OT_p0 : OTR Ps w0 w0 p0 := OTR.rf
  obtain ⟨R9, hR⟩ : ∃ q9 : OS × OS × Int32, f_X3_beginsLine__13 p2 s0 s1 = q9 := ⟨_, rfl⟩
  have hE := hR
  refine lv_iload_n hx hb dX3_beginsLine_0 rfl (lv_at hl 2 rfl) ?_
  refine lv_sipush (v := 128) hx hb dX3_beginsLine_1 (by decide) ?_
  refine lv_icmp_lt (tgt := 14) hx hb dX3_beginsLine_4 (by decide) (fun c_4 => ?_) (fun c_4 => ?_)
  · have r_p2 : RI p2 130 127 := rc_lt1 r_p2 rl_128 (ti_lt c_4) (by decide)
    exact (r_p2.no (by decide)).elim
  · refine lv_iload_n hx hb dX3_beginsLine_7 rfl (lv_at hl 2 rfl) ?_
    refine lv_sipush (v := 136) hx hb dX3_beginsLine_8 (by decide) ?_
    refine lv_icmp_le (tgt := 22) hx hb dX3_beginsLine_11 (by decide) (fun c_11 => ?_) (fun c_11 => ?_)
    · refine lv_iload_n hx hb dX3_beginsLine_22 rfl (lv_at hl 2 rfl) ?_
      refine lv_sipush (v := 131) hx hb dX3_beginsLine_23 (by decide) ?_
      refine lv_icmp_gt (tgt := 59) hx hb dX3_beginsLine_26 (by decide) (fun c_26 => ?_) (fun c_26 => ?_)
      · have r_p2 : RI p2 132 130 := rc_lt2 rl_131 r_p2 (ti_lt c_26) (by decide)
        exact (r_p2.no (by decide)).elim
      · refine lv_aload_n hx hb dX3_beginsLine_29 rfl (lv_at hl 0 rfl) ?_
        refine tg_get (ci := 3) (ts := ty_POST) (C := RX3) (T := TX3) (N := 9) hx hb hts inX3 hown hK hw h_p0 rfl rfl 1 (by decide) (hts _ tw_201) (fun _ h9 => h9) (ft := vR 4) rfl dX3_beginsLine_30 (fun u_1 hv_u_1 m_u_1 => ?_)
        obtain ⟨vu_1, rfl, h_vu_1⟩ := hv_u_1
        refine lv_iload_n hx hb dX3_beginsLine_33 rfl (lv_at hl 2 rfl) ?_
        refine lv_sipush (v := 128) hx hb dX3_beginsLine_34 (by decide) ?_
        refine lv_isub hx hb dX3_beginsLine_37 (lv_topi (fun v_2 e_v_2 => ?_))
        obtain ⟨t_v_2, r_v_2⟩ := tq_sub (lo := 2) (hi := 2) r_p2 rl_128 (by decide +kernel) e_v_2
        have t_v_2 : v_2.toInt = p2.toInt - 128 := t_v_2
        have q_v_2 : p2 - (128 : Int32) = v_2 := e_v_2.symm
        refine tg_iald (lo := 0) (hi := 6) hx hb hK hw h_vu_1 rfl 2 2 r_v_2 (by decide) (by decide +kernel) dX3_beginsLine_38 (fun v_3 r_v_3 m_v_3 o_v_3 => ?_)
        have q_v_3 : s0.2.2.1 1 (Int32.toNatClampNeg v_2) = v_3 := OV.eqA (V := vw_POST) (t := 4) hw.2.2.1 o_p0 m_u_1 m_v_3 (by decide)
        refine va_gets (v := .ref (z 0)) hx hb hSD.2.2.2.1 hw.2.2.2.1 hown (hts _ tw_198) (fun _ h9 => h9) dX3_beginsLine_39 ?_
        refine lv_iload_n hx hb dX3_beginsLine_42 rfl (lv_at hl 2 rfl) ?_
        refine lv_sipush (v := 128) hx hb dX3_beginsLine_43 (by decide) ?_
        refine lv_isub hx hb dX3_beginsLine_46 (lv_topi (fun v_4 e_v_4 => ?_))
        obtain ⟨t_v_4, r_v_4⟩ := tq_sub (lo := 2) (hi := 2) r_p2 rl_128 (by decide +kernel) e_v_4
        have t_v_4 : v_4.toInt = p2.toInt - 128 := t_v_4
        have z9 : v_2 = v_4 := q_v_2.symm.trans (e_v_4.symm)
        subst z9
        refine tz_mk 2 6 hx hb hSD.2.2.2.2.1 hw.2.2.2.1 r_v_2 (by decide) rfl dX3_beginsLine_47 (fun v_5 e_v_5 => ?_)
        have r_v_5 : RI v_5 6 6 := by rw [e_v_5]; exact rl_6
        have q_v_5 : (6 : Int32) = v_5 := e_v_5.symm
        refine lv_icmp_lt (tgt := 59) hx hb dX3_beginsLine_48 (by decide) (fun c_48 => ?_) (fun c_48 => ?_)
        · have d_48 := c_48
          rw [← q_v_5] at d_48
          have r_v_3 : RI v_3 0 5 := rc_lt1 r_v_3 r_v_5 (ti_lt c_48) (by decide)
          have x_MLT_p0_2 : AXC 3 1 4 (fun f => (f 2).toInt < 6) Ps w0 p0 := AXC.mk hw h_vu_1 rfl m_u_1 (fun f9 g9 => by have e9 := g9 _ _ m_v_3; have j9 : Int32.toNatClampNeg v_2 = 2 := (by have k1 := r_v_2.cl (by decide); have k2 := r_v_2.eq; omega); rw [j9] at e9; show _ < _; rw [e9]; have k3 := r_v_3.2; omega)
          refine lv_iload_n hx hb dX3_beginsLine_59 rfl (lv_at hl 2 rfl) ?_
          refine lv_sipush (v := 135) hx hb dX3_beginsLine_60 (by decide) ?_
          refine lv_icmp_ne (tgt := 73) hx hb dX3_beginsLine_63 (by decide) (fun c_63 => ?_) (fun c_63 => ?_)
          · refine lv_iload_n hx hb dX3_beginsLine_73 rfl (lv_at hl 2 rfl) ?_
            refine lv_sipush (v := 136) hx hb dX3_beginsLine_74 (by decide) ?_
            refine lv_icmp_ne (tgt := 92) hx hb dX3_beginsLine_77 (by decide) (fun c_77 => ?_) (fun c_77 => ?_)
            · refine lv_aload_n hx hb dX3_beginsLine_92 rfl (lv_at hl 1 rfl) ?_
              have hw8 := hw
              refine tk_v (va_runV (As := []) (rest := []) ⟨hx, hb, hml, hown, hts⟩ (c_X7_pass__5 l D cy z s.heap.size Ps w0 hw.1 p1 f1_10 s1 h_p1 r_f1_10 m_f1_10 o_p1) (cwV 0 hts (gV tw_451 tw_425 tw_426 tw_2 tw_427) rfl rfl rfl (by decide +kernel) ⟨Nat.le_of_ble_eq_true rfl, Nat.le_of_ble_eq_true rfl⟩) (tg_preV hw hK hSD hA (ci := 7) (q := (RX7, TX7, 12)) rfl h_p1 rfl) rfl rfl hl.1 rfl (lv_room (Nat.le_of_ble_eq_true rfl)) dX3_beginsLine_93 ⟨Nat.le_of_ble_eq_true rfl, Nat.le_of_ble_eq_true rfl⟩) hw hA ⟨by decide, by decide⟩ (fun ws H locs hp_v_6 hw hF9 => ?_)
              have m_v_3 := AEL.over hw8 hF9 h_vu_1 m_v_3 (by decide)
              have m_f1_10 := FLD.over hF9 m_f1_10 (by decide)
              have m_u_1 := FLD.over hF9 m_u_1 (by decide)
              have x_OT_p0 := OTR.over hF9 x_OT_p0 (by decide)
              have x_MLT_p0_2 := AXC.over hF9 x_MLT_p0_2 (by decide)
              obtain ⟨hfn, hp_v_6⟩ := hp_v_6
              have o_p0 := OV.over (V := vw_POST) hF9 o_p0 (by decide)
              obtain ⟨sg_7, q_sg_7⟩ : ∃ q9 : OS, (f_X7_pass__5 s1) = q9 := ⟨_, rfl⟩
              have o_p1 : OV vw_TAPE Ps ws p1 sg_7 := by rw [← q_sg_7]; exact hfn.1
              obtain ⟨v_8, m_v_8, r_v_8⟩ := (hp_v_6.1)
              refine lv_aload_n hx hb dX3_beginsLine_96 rfl (lv_at hl 1 rfl) ?_
              refine tg_memN (ci := 7) (C := RX7) (T := TX7) (N := 12) hx hb hts inX7 hown hK hw 10 m_v_8 rfl (by decide) (hSD.nest tn_105) (fun _ h9 => h9) dX3_beginsLine_97 ?_
              have q_v_8 : sg_7.1 10 = v_8 := OV.eqI (V := vw_TAPE) hw.2.2.1 o_p1 m_v_8 (by decide)
              refine lv_if_ne (tgt := 107) hx hb dX3_beginsLine_100 (by decide) (fun c_100 => ?_) (fun c_100 => ?_)
              · exact absurd (r_v_8.eq.trans rl_0.eq.symm) ((ti_ne c_100))
              · refine lv_iconst (v := 1) hx hb dX3_beginsLine_103 (by decide) ?_
                refine lv_goto (tgt := 108) hx hb dX3_beginsLine_104 (by decide) ?_
                simp only [f_X3_beginsLine__13, ↓reduceIte, eq_false c_4, eq_true c_11, eq_false c_26, q_v_2, q_v_3, eq_true d_48, eq_false c_63, eq_false c_77, q_sg_7, q_v_8, eq_true c_100] at hE
                subst hQ
                exact W.zret (v := 1) hx hb hr (rfl) (fun t ht hW => ⟨⟨1, ws, rfl, ⟨⟨x_OT_p0, ⟨(by rw [hR, ← hE]; exact o_p0), (by rw [hR, ← hE]; exact o_p1), (by rw [hR, ← hE]), trivial⟩, rl_1.to (by decide), (fun h0 => absurd h0 (by decide)), (fun h0 => ⟨⟨_, m_v_8, r_v_8⟩, x_MLT_p0_2, trivial⟩)⟩, hw.1, hw.2.2.2.2.1⟩, by rw [ht]; exact hw.2.1, va_K.moved hW.alike hK, hw.2.2.1⟩, hw.2.2.2.1.F ht⟩) hw.2.2.2.1.2.2 dX3_beginsLine_108
            · have r_p2 : RI p2 136 130 := rc_eq1 r_p2 rl_136 (ti_eq c_77) (by decide)
              exact (r_p2.no (by decide)).elim
          · have r_p2 : RI p2 135 130 := rc_eq1 r_p2 rl_135 (ti_eq c_63) (by decide)
            exact (r_p2.no (by decide)).elim
        · have d_48 := c_48
          rw [← q_v_5] at d_48
          have r_v_3 : RI v_3 6 6 := rc_le2 r_v_5 r_v_3 (ti_nlt c_48) (by decide)
          refine lv_aload_n hx hb dX3_beginsLine_51 rfl (lv_at hl 1 rfl) ?_
          refine lv_iconst (v := 4) hx hb dX3_beginsLine_52 (by decide) ?_
          have hw8 := hw
          refine tk_v (va_runV (As := [.int 4]) (rest := []) ⟨hx, hb, hml, hown, hts⟩ (c_X7_refuse__5 l D cy z s.heap.size Ps w0 hw.1 p1 4 f1_10 s1 h_p1 (rl_4.to (by decide)) r_f1_10 m_f1_10 o_p1) (cwV 1 hts (gV tw_450 tw_443 tw_444 tw_2 tw_445) rfl rfl rfl (by decide +kernel) ⟨Nat.le_of_ble_eq_true rfl, Nat.le_of_ble_eq_true rfl⟩) (tg_preV hw hK hSD hA (ci := 7) (q := (RX7, TX7, 12)) rfl h_p1 rfl) rfl rfl hl.1 rfl (lv_room (Nat.le_of_ble_eq_true rfl)) dX3_beginsLine_53 ⟨Nat.le_of_ble_eq_true rfl, Nat.le_of_ble_eq_true rfl⟩) hw hA ⟨by decide, by decide⟩ (fun ws H locs hp_v_9 hw hF9 => ?_)
          have m_v_3 := AEL.over hw8 hF9 h_vu_1 m_v_3 (by decide)
          have m_u_1 := FLD.over hF9 m_u_1 (by decide)
          have x_OT_p0 := OTR.over hF9 x_OT_p0 (by decide)
          obtain ⟨hfn, hp_v_9⟩ := hp_v_9
          have o_p0 := OV.over (V := vw_POST) hF9 o_p0 (by decide)
          obtain ⟨sg_10, q_sg_10⟩ : ∃ q9 : OS, (f_X7_refuse__5 (4 : Int32) s1) = q9 := ⟨_, rfl⟩
          have o_p1 : OV vw_TAPE Ps ws p1 sg_10 := by rw [← q_sg_10]; exact hfn.1
          obtain ⟨v_11, m_v_11, r_v_11⟩ := (hp_v_9.1)
          refine lv_goto (tgt := 92) hx hb dX3_beginsLine_56 (by decide) ?_
          refine lv_aload_n hx hb dX3_beginsLine_92 rfl (lv_at hl 1 rfl) ?_
          refine tk_vr (va_runV (As := []) (rest := []) ⟨hx, hb, hml, hown, hts⟩ (c_X7_pass__4 l D cy z H.size Ps ws hw.1 p1 v_11 sg_10 h_p1 r_v_11 m_v_11 o_p1) (cwV 0 hts (gV tw_451 tw_425 tw_426 tw_2 tw_427) rfl rfl rfl (by decide +kernel) ⟨Nat.le_of_ble_eq_true rfl, Nat.le_of_ble_eq_true rfl⟩) (tg_preV hw hK hSD hA (ci := 7) (q := (RX7, TX7, 12)) rfl h_p1 rfl) rfl rfl hl.1 rfl (lv_room (Nat.le_of_ble_eq_true rfl)) dX3_beginsLine_93 ⟨Nat.le_of_ble_eq_true rfl, Nat.le_of_ble_eq_true rfl⟩) hw hA (fun  H locs hp_v_12 hw => ?_)
          obtain ⟨hfn, hp_v_12⟩ := hp_v_12
          refine lv_aload_n hx hb dX3_beginsLine_96 rfl (lv_at hl 1 rfl) ?_
          refine tg_memN (ci := 7) (C := RX7) (T := TX7) (N := 12) hx hb hts inX7 hown hK hw 10 m_v_11 rfl (by decide) (hSD.nest tn_105) (fun _ h9 => h9) dX3_beginsLine_97 ?_
          have q_v_11 : sg_10.1 10 = v_11 := OV.eqI (V := vw_TAPE) hw.2.2.1 o_p1 m_v_11 (by decide)
          refine lv_if_ne (tgt := 107) hx hb dX3_beginsLine_100 (by decide) (fun c_100 => ?_) (fun c_100 => ?_)
          · refine lv_iconst (v := 0) hx hb dX3_beginsLine_107 (by decide) ?_
            simp only [f_X3_beginsLine__13, ↓reduceIte, eq_false c_4, eq_true c_11, eq_false c_26, q_v_2, q_v_3, eq_false d_48, q_sg_10, q_v_11, eq_false c_100] at hE
            subst hQ
            exact W.zret (v := 0) hx hb hr (rfl) (fun t ht hW => ⟨⟨0, ws, rfl, ⟨⟨x_OT_p0, ⟨(by rw [hR, ← hE]; exact o_p0), (by rw [hR, ← hE]; exact o_p1), (by rw [hR, ← hE]), trivial⟩, rl_0.to (by decide), (fun h0 => ⟨⟨_, m_v_11, r_v_11⟩, trivial⟩), (fun h0 => absurd rfl h0)⟩, hw.1, hw.2.2.2.2.1⟩, by rw [ht]; exact hw.2.1, va_K.moved hW.alike hK, hw.2.2.1⟩, hw.2.2.2.1.F ht⟩) hw.2.2.2.1.2.2 dX3_beginsLine_108
          · have r_v_11 : RI v_11 1 0 := rc_eq1 r_v_11 rl_0 (ti_eq c_100) (by decide)
            exact (r_v_11.no (by decide)).elim
    · have r_p2 : RI p2 137 130 := rc_lt2 rl_136 r_p2 (ti_nle c_11) (by decide)
      exact (r_p2.no (by decide)).elim
abbrev wr_X3_tellName__10 : List (Nat × Nat) := [(7, 5), (7, 6), (7, 7), (7, 8), (7, 9), (7, 10), (7, 11)]
abbrev wa_X3_tellName__10 : List Nat := [1, 4]
set_option maxHeartbeats 4000000 in
set_option maxRecDepth 100000 in
theorem c_X3_tellName__10 (l : Launch) (D : va_G) (cy : Nat → ClassId) (z : Nat → Nat) (sz : Nat) (Ps : PSI) (w0 : va_W) (hT : HT cy GG Ps w0) (p0 : Nat) (p1 : Nat) (p2 : Int32) (s0 : OS) (s1 : OS) (h_p0 : (p0, 25) ∈ Ps) (h_p1 : (p1, 26) ∈ Ps) (r_p2 : RI p2 2 2) (x_MLT_p0_2 : AXC 3 1 4 (fun f => (f 2).toInt < 6) Ps w0 p0) (o_p0 : OV vw_POST Ps w0 p0 s0) (o_p1 : OV vw_TAPE Ps w0 p1 s1) : Met l yX3_tellName (Cond.code yX3_tellName cX3_tellName 4 (some .int) :: gT) ({ frames := 3, cells := 0, slots := 0, locals := 600 } : Room) (va_Pc [.ref p0, .ref p1, .int p2] (PRE D cy z w0 sz)) (va_Qi (fun (r : Int32) (u : va_W) => ((OTR Ps w0 u p0) ∧ ((OV vw_POST Ps u p0 ((f_X3_tellName__4 p2 s0 s1).1) ∧ OV vw_TAPE Ps u p1 ((f_X3_tellName__4 p2 s0 s1).2.1) ∧ (f_X3_tellName__4 p2 s0 s1).2.2 = r ∧ True) ∧ (RI r (-1) 5 ∧ (r = 0 → (∃ v9 : Int32, FLD u p1 7 10 (.int v9) ∧ RI v9 0 0) ∧ True) ∧ (¬ r = 0 → True)))) ∧ HT cy GG Ps u ∧ FR wr_X3_tellName__10 wa_X3_tellName__10 Ps w0 u) (BB D cy (va_A w0 sz) (fun (u : va_W) => u)) (va_A w0 sz)) 0 0 (va_A w0 sz) := by
  refine Met.ofW (cc := cX3_tellName) (maxL := 4) (ret := (some .int)) (by decide) rfl ?_
  intro p e s m args below meth c s₁ B hml hv
  obtain ⟨rfl, hsz, hP, hK, hD0, hSD⟩ := hv
  have hx := B.exec
  have hb := B.bytes
  have hr := B.returns
  have hlocks := B.notSynchronized
  have hts : ∀ w ∈ gT, w.before _ s = true := fun w h => atoms_spec (ws := Cond.code yX3_tellName cX3_tellName 4 (some .int) :: gT) B.pre w (List.mem_cons_of_mem _ h)
  have hown : s.vm.findClass RX3 = some m.cls := findClass_of_methodNamed B.named
  subst hsz
  have hD := hD0.self (sz := s.heap.size)
  generalize hAe : va_A w0 s.heap.size = A at hD hSD ⊢
  have hA : ∀ q : Nat, s.heap.size ≤ q → A q := fun q h => by rw [← hAe]; exact Or.inr h
  have hl := lv_entry ([.ref p0, .ref p1, .int p2]) (n := 4) (Nat.le_of_ble_eq_true rfl)
  rw [lg_entry_eq]
  generalize (lg_sl ([.ref p0, .ref p1, .int p2]) ++ List.replicate (4 - (lg_sl ([.ref p0, .ref p1, .int p2])).length) Slot.unset).toArray = ls at hl ⊢
  have hl : lv_has ls 4 [(0, .ref p0), (1, .ref p1), (2, .int p2)] := hl
  refine nameQ (fun Q hQ => ?_)
  have hw : WD D cy GG A s wr_X3_tellName__10 wa_X3_tellName__10 Ps w0 Ps w0 s.heap [] := ⟨hT, hP, hD, va_S.rf, FR.rf, hT.1, [], (List.append_nil _).symm⟩
  have x_OT_p0 : OTR Ps w0 w0 p0 := OTR.rf
  obtain ⟨R9, hR⟩ : ∃ q9 : OS × OS × Int32, f_X3_tellName__4 p2 s0 s1 = q9 := ⟨_, rfl⟩
  have hE := hR
  have B32 : ∀ (s0 : OS) (s1 : OS) (ws : va_W) (H : Heap) (locs : List Loc) (ls : Array Slot), RI p2 2 2 → AXC 3 1 4 (fun f => (f 2).toInt < 6) Ps ws p0 → OTR Ps w0 ws p0 → OV vw_POST Ps ws p0 s0 → OV vw_TAPE Ps ws p1 s1 → f_X3_tellName__4_32 p2 s0 s1 = R9 → WD D cy GG A s wr_X3_tellName__10 wa_X3_tellName__10 Ps w0 Ps ws H locs → lv_has ls 4 [(0, .ref p0), (1, .ref p1), (2, .int p2)] → W p l e (headSpec (Cond.code yX3_tellName cX3_tellName 4 (some .int) :: gT) ({ frames := 3, cells := 0, slots := 0, locals := 600 } : Room)).room s m ([.ref p0, .ref p1, .int p2] : List Value).toArray below meth c H locs 0 0 Q (F0 m 32 ls []) := by
    intro s0 s1 ws H locs ls r_p2 x_MLT_p0_2 x_OT_p0 o_p0 o_p1 hE hw hl
    refine lv_aload_n hx hb dX3_tellName_32 rfl (lv_at hl 1 rfl) ?_
    refine tg_getN (ci := 7) (ts := ty_TAPE) (C := RX7) (T := TX7) (N := 12) hx hb hts inX7 hown hK hw h_p1 rfl rfl 10 (by decide) (hSD.nest tn_105) (fun _ h9 => h9) (ft := vI 0 4) rfl dX3_tellName_33 (fun u_1 hv_u_1 m_u_1 => ?_)
    obtain ⟨vu_1, rfl, r_vu_1⟩ := hv_u_1
    have q_vu_1 : s1.1 10 = vu_1 := OV.eqI (V := vw_TAPE) hw.2.2.1 o_p1 m_u_1 (by decide)
    refine lv_if_eq (tgt := 41) hx hb dX3_tellName_36 (by decide) (fun c_36 => ?_) (fun c_36 => ?_)
    · have r_vu_1 : RI vu_1 0 0 := rc_eq1 r_vu_1 rl_0 (ti_eq c_36) (by decide)
      refine lv_aload_n hx hb dX3_tellName_41 rfl (lv_at hl 0 rfl) ?_
      refine tg_get (ci := 3) (ts := ty_POST) (C := RX3) (T := TX3) (N := 9) hx hb hts inX3 hown hK hw h_p0 rfl rfl 1 (by decide) (hts _ tw_201) (fun _ h9 => h9) (ft := vR 4) rfl dX3_tellName_42 (fun u_2 hv_u_2 m_u_2 => ?_)
      obtain ⟨vu_2, rfl, h_vu_2⟩ := hv_u_2
      refine lv_iload_n hx hb dX3_tellName_45 rfl (lv_at hl 2 rfl) ?_
      refine tg_iald (lo := 0) (hi := 6) hx hb hK hw h_vu_2 rfl 2 2 r_p2 (by decide) (by decide +kernel) dX3_tellName_46 (fun v_3 r_v_3 m_v_3 o_v_3 => ?_)
      have q_v_3 : s0.2.2.1 1 (Int32.toNatClampNeg p2) = v_3 := OV.eqA (V := vw_POST) (t := 4) hw.2.2.1 o_p0 m_u_2 m_v_3 (by decide)
      have r_v_3 : RI v_3 0 5 := ⟨r_v_3.1, by obtain ⟨f9, q9, e9⟩ := AXC.use hw x_MLT_p0_2 m_u_2 m_v_3; have j9 : Int32.toNatClampNeg p2 = 2 := (by have k1 := r_p2.cl (by decide); have k2 := r_p2.eq; omega); rw [j9] at e9; have q8 : (f9 2).toInt < 6 := q9; rw [e9] at q8; omega⟩
      refine lv_istore_n (lv' := [(3, .int v_3), (0, .ref p0), (1, .ref p1), (2, .int p2)]) hx hb dX3_tellName_47 rfl hl (by decide) rfl (fun ls hl => ?_)
      refine lv_aload_n hx hb dX3_tellName_48 rfl (lv_at hl 1 rfl) ?_
      refine tg_get (ci := 3) (ts := ty_POST) (C := RX3) (T := TX3) (N := 9) hx hb hts inX3 hown hK hw h_p0 rfl rfl 0 (by decide) (hts _ tw_200) (fun _ h9 => h9) (ft := vR 1) rfl dX3_tellName_49 (fun u_4 hv_u_4 m_u_4 => ?_)
      obtain ⟨vu_4, rfl, h_vu_4⟩ := hv_u_4
      refine lv_iload_n hx hb dX3_tellName_52 rfl (lv_at hl 3 rfl) ?_
      refine lv_bipush (v := 8) hx hb dX3_tellName_53 (by decide) ?_
      refine lv_imul hx hb dX3_tellName_55 (lv_topi (fun v_5 e_v_5 => ?_))
      obtain ⟨t_v_5, r_v_5⟩ := tq_mul (lo := 16) (hi := 16) r_p2 rl_8 (by decide +kernel) e_v_5
      have t_v_5 : v_5.toInt = p2.toInt * 8 := t_v_5
      have q_v_5 : p2 * (8 : Int32) = v_5 := e_v_5.symm
      refine lv_iload_n hx hb dX3_tellName_56 rfl (lv_at hl 0 rfl) ?_
      refine lv_iadd hx hb dX3_tellName_57 (lv_topi (fun v_6 e_v_6 => ?_))
      obtain ⟨t_v_6, r_v_6⟩ := tq_add (lo := 16) (hi := 21) r_v_5 r_v_3 (by decide +kernel) e_v_6
      have q_v_6 : v_5 + v_3 = v_6 := e_v_6.symm
      refine lv_aload_n hx hb dX3_tellName_58 rfl (lv_at hl 2 rfl) ?_
      refine tg_getN (ci := 7) (ts := ty_TAPE) (C := RX7) (T := TX7) (N := 12) hx hb hts inX7 hown hK hw h_p1 rfl rfl 8 (by decide) (hSD.nest tn_99) (fun _ h9 => h9) (ft := vJ (-9223372036854775808) 9223372036854775807) rfl dX3_tellName_59 (fun u_7 hv_u_7 m_u_7 => ?_)
      obtain ⟨vu_7, rfl, r_vu_7⟩ := hv_u_7
      have q_vu_7 : s1.2.1 8 = vu_7 := OV.eqL (V := vw_TAPE) hw.2.2.1 o_p1 m_u_7 (by decide)
      have mo8 := m_u_4
      have mo9 := m_u_4
      refine tg_lastO hx hb hK hw h_vu_4 rfl r_v_6 (by decide) r_vu_7 (by decide) (by decide) dX3_tellName_62 (fun ws H locs hw hF9 hU9 hO9 => ?_)
      have x_MLT_p0_2 := AXC.over hF9 x_MLT_p0_2 (by decide)
      have m_u_1 := FLD.over hF9 m_u_1 (by decide)
      have m_u_2 := FLD.over hF9 m_u_2 (by decide)
      have m_u_4 := FLD.over hF9 m_u_4 (by decide)
      have m_u_7 := FLD.over hF9 m_u_7 (by decide)
      have o_p1 := OV.over (V := vw_TAPE) hF9 o_p1 (by decide)
      obtain ⟨sg_8, q_sg_8⟩ : ∃ q9 : OS, sB s0 0 (Int32.toNatClampNeg v_6) vu_7 = q9 := ⟨_, rfl⟩
      have o_p0 : OV vw_POST Ps ws p0 sg_8 := by rw [← q_sg_8]; exact OV.putB (V := vw_POST) (t := 1) hF9 hU9 o_p0 mo9 (by decide) (by decide)
      have x_OT_p0 : OTR Ps w0 ws p0 := OTR.asl x_OT_p0 hF9 hU9.1 hO9 mo8 (by decide)
      refine lv_aload_n hx hb dX3_tellName_63 rfl (lv_at hl 1 rfl) ?_
      refine tg_mem (ci := 3) (C := RX3) (T := TX3) (N := 9) hx hb hts inX3 hown hK hw 1 m_u_2 rfl (by decide) (hts _ tw_201) (fun _ h9 => h9) dX3_tellName_64 ?_
      refine lv_iload_n hx hb dX3_tellName_67 rfl (lv_at hl 3 rfl) ?_
      refine lv_iload_n hx hb dX3_tellName_68 rfl (lv_at hl 0 rfl) ?_
      refine lv_iconst (v := 1) hx hb dX3_tellName_69 (by decide) ?_
      refine lv_iadd hx hb dX3_tellName_70 (lv_topi (fun v_9 e_v_9 => ?_))
      obtain ⟨t_v_9, r_v_9⟩ := tq_add (lo := 1) (hi := 6) r_v_3 rl_1 (by decide +kernel) e_v_9
      have t_v_9 : v_9.toInt = v_3.toInt + 1 := t_v_9
      have q_v_9 : v_3 + (1 : Int32) = v_9 := e_v_9.symm
      have mo8 := m_u_2
      have mo9 := m_u_2
      refine tg_iastE hx hb hK hw h_vu_2 rfl 2 2 r_p2 (by decide) r_v_9 (by decide +kernel) (fun _ _ _ _ _ => trivial) (by decide) dX3_tellName_71 (fun ws H locs hw hF9 hU9 hO9 => ?_)
      have m_u_1 := FLD.over hF9 m_u_1 (by decide)
      have m_u_2 := FLD.over hF9 m_u_2 (by decide)
      have m_u_4 := FLD.over hF9 m_u_4 (by decide)
      have m_u_7 := FLD.over hF9 m_u_7 (by decide)
      have o_p1 := OV.over (V := vw_TAPE) hF9 o_p1 (by decide)
      obtain ⟨sg_10, q_sg_10⟩ : ∃ q9 : OS, sA sg_8 1 (Int32.toNatClampNeg p2) v_9 = q9 := ⟨_, rfl⟩
      have o_p0 : OV vw_POST Ps ws p0 sg_10 := by rw [← q_sg_10]; exact OV.putA (V := vw_POST) (t := 4) hF9 hU9 o_p0 mo9 (by decide) (by decide)
      have x_OT_p0 : OTR Ps w0 ws p0 := OTR.ast x_OT_p0 hF9 hU9.1 hO9 mo8 (by decide)
      refine lv_aload_n hx hb dX3_tellName_72 rfl (lv_at hl 2 rfl) ?_
      refine tk_v (va_runV (As := []) (rest := []) ⟨hx, hb, hml, hown, hts⟩ (c_X7_pass__5 l D cy z H.size Ps ws hw.1 p1 vu_1 s1 h_p1 r_vu_1 m_u_1 o_p1) (cwV 0 hts (gV tw_451 tw_425 tw_426 tw_2 tw_427) rfl rfl rfl (by decide +kernel) ⟨Nat.le_of_ble_eq_true rfl, Nat.le_of_ble_eq_true rfl⟩) (tg_preV hw hK hSD hA (ci := 7) (q := (RX7, TX7, 12)) rfl h_p1 rfl) rfl rfl hl.1 rfl (lv_room (Nat.le_of_ble_eq_true rfl)) dX3_tellName_73 ⟨Nat.le_of_ble_eq_true rfl, Nat.le_of_ble_eq_true rfl⟩) hw hA ⟨by decide, by decide⟩ (fun ws H locs hp_v_11 hw hF9 => ?_)
      have m_u_1 := FLD.over hF9 m_u_1 (by decide)
      have m_u_2 := FLD.over hF9 m_u_2 (by decide)
      have m_u_4 := FLD.over hF9 m_u_4 (by decide)
      have x_OT_p0 := OTR.over hF9 x_OT_p0 (by decide)
      obtain ⟨hfn, hp_v_11⟩ := hp_v_11
      have o_p0 := OV.over (V := vw_POST) hF9 o_p0 (by decide)
      obtain ⟨sg_12, q_sg_12⟩ : ∃ q9 : OS, (f_X7_pass__5 s1) = q9 := ⟨_, rfl⟩
      have o_p1 : OV vw_TAPE Ps ws p1 sg_12 := by rw [← q_sg_12]; exact hfn.1
      obtain ⟨v_13, m_v_13, r_v_13⟩ := (hp_v_11.1)
      refine lv_iload_n hx hb dX3_tellName_76 rfl (lv_at hl 0 rfl) ?_
      simp only [f_X3_tellName__4_32, ↓reduceIte, q_vu_1, eq_true c_36, q_v_3, q_v_5, q_v_6, q_vu_7, q_sg_8, q_v_9, q_sg_10, q_sg_12] at hE
      subst hQ
      exact W.iret (v := v_3) hx hb hr (fun t ht hW => ⟨⟨v_3, ws, rfl, ⟨⟨x_OT_p0, ⟨(by rw [hR, ← hE]; exact o_p0), (by rw [hR, ← hE]; exact o_p1), (by rw [hR, ← hE]), trivial⟩, r_v_3.to (by decide), (fun h0 => ⟨⟨_, m_v_13, r_v_13⟩, trivial⟩), (fun h0 => trivial)⟩, hw.1, hw.2.2.2.2.1⟩, by rw [ht]; exact hw.2.1, va_K.moved hW.alike hK, hw.2.2.1⟩, hw.2.2.2.1.F ht⟩) hw.2.2.2.1.2.2 dX3_tellName_77
    · have r_vu_1 : RI vu_1 1 4 := rc_neL r_vu_1 rl_0 (ti_ne c_36) (by decide)
      refine lv_iconst (v := (-1)) hx hb dX3_tellName_39 (by decide) ?_
      simp only [f_X3_tellName__4_32, ↓reduceIte, q_vu_1, eq_false c_36] at hE
      subst hQ
      exact W.iret (v := (-1)) hx hb hr (fun t ht hW => ⟨⟨(-1), ws, rfl, ⟨⟨x_OT_p0, ⟨(by rw [hR, ← hE]; exact o_p0), (by rw [hR, ← hE]; exact o_p1), (by rw [hR, ← hE]), trivial⟩, rl_m1.to (by decide), (fun h0 => absurd h0 (by decide)), (fun h0 => trivial)⟩, hw.1, hw.2.2.2.2.1⟩, by rw [ht]; exact hw.2.1, va_K.moved hW.alike hK, hw.2.2.1⟩, hw.2.2.2.1.F ht⟩) hw.2.2.2.1.2.2 dX3_tellName_40
  refine lv_aload_n hx hb dX3_tellName_0 rfl (lv_at hl 1 rfl) ?_
  refine tg_getN (ci := 7) (ts := ty_TAPE) (C := RX7) (T := TX7) (N := 12) hx hb hts inX7 hown hK hw h_p1 rfl rfl 7 (by decide) (hSD.nest tn_97) (fun _ h9 => h9) (ft := vI (-2147483648) 2147483647) rfl dX3_tellName_1 (fun u_14 hv_u_14 m_u_14 => ?_)
  obtain ⟨vu_14, rfl, r_vu_14⟩ := hv_u_14
  have q_vu_14 : s1.1 7 = vu_14 := OV.eqI (V := vw_TAPE) hw.2.2.1 o_p1 m_u_14 (by decide)
  refine lv_iconst (v := 2) hx hb dX3_tellName_4 (by decide) ?_
  refine lv_icmp_eq (tgt := 16) hx hb dX3_tellName_5 (by decide) (fun c_5 => ?_) (fun c_5 => ?_)
  · have r_vu_14 : RI vu_14 2 2 := rc_eq1 r_vu_14 rl_2 (ti_eq c_5) (by decide)
    refine lv_aload_n hx hb dX3_tellName_16 rfl (lv_at hl 0 rfl) ?_
    refine lv_aload_n hx hb dX3_tellName_17 rfl (lv_at hl 1 rfl) ?_
    refine tg_getN (ci := 7) (ts := ty_TAPE) (C := RX7) (T := TX7) (N := 12) hx hb hts inX7 hown hK hw h_p1 rfl rfl 8 (by decide) (hSD.nest tn_99) (fun _ h9 => h9) (ft := vJ (-9223372036854775808) 9223372036854775807) rfl dX3_tellName_18 (fun u_15 hv_u_15 m_u_15 => ?_)
    obtain ⟨vu_15, rfl, r_vu_15⟩ := hv_u_15
    have q_vu_15 : s1.2.1 8 = vu_15 := OV.eqL (V := vw_TAPE) hw.2.2.1 o_p1 m_u_15 (by decide)
    refine tk_ir (va_runV (As := [.long vu_15]) (rest := []) ⟨hx, hb, hml, hown, hts⟩ (c_X3_isTold__1 l D cy z s.heap.size Ps w0 hw.1 p0 vu_15 s0 h_p0 r_vu_15 o_p0) (cwV 1 hts (gV tw_507 tw_509 ts_8 tw_11 tw_510) rfl rfl rfl (by decide +kernel) ⟨Nat.le_of_ble_eq_true rfl, Nat.le_of_ble_eq_true rfl⟩) (tg_preV hw hK hSD hA (ci := 3) (q := (RX3, TX3, 9)) rfl h_p0 rfl) rfl rfl hl.1 rfl (lv_room (Nat.le_of_ble_eq_true rfl)) dX3_tellName_21 ⟨Nat.le_of_ble_eq_true rfl, Nat.le_of_ble_eq_true rfl⟩) hw hA (fun v_16  H locs hp_v_16 hw => ?_)
    obtain ⟨hfn, hp_v_16⟩ := hp_v_16
    have q_v_16 : (f_X3_isTold__1 vu_15 s0) = v_16 := hfn.1
    have r_v_16 : RI v_16 0 1 := hp_v_16.1
    refine lv_if_eq (tgt := 32) hx hb dX3_tellName_24 (by decide) (fun c_24 => ?_) (fun c_24 => ?_)
    · have r_v_16 : RI v_16 0 0 := rc_eq1 r_v_16 rl_0 (ti_eq c_24) (by decide)
      simp only [f_X3_tellName__4, ↓reduceIte, q_vu_14, eq_true c_5, q_vu_15, q_v_16, eq_true c_24] at hE
      exact B32 s0 s1 w0 _ _ ls r_p2 x_MLT_p0_2 x_OT_p0 o_p0 o_p1 hE hw hl
    · have r_v_16 : RI v_16 1 1 := rc_neL r_v_16 rl_0 (ti_ne c_24) (by decide)
      refine lv_aload_n hx hb dX3_tellName_27 rfl (lv_at hl 1 rfl) ?_
      refine lv_iconst (v := 3) hx hb dX3_tellName_28 (by decide) ?_
      refine tk_v (va_runV (As := [.int 3]) (rest := []) ⟨hx, hb, hml, hown, hts⟩ (c_X7_refuse__4 l D cy z H.size Ps w0 hw.1 p1 3 s1 h_p1 (rl_3.to (by decide)) o_p1) (cwV 1 hts (gV tw_450 tw_443 tw_444 tw_2 tw_445) rfl rfl rfl (by decide +kernel) ⟨Nat.le_of_ble_eq_true rfl, Nat.le_of_ble_eq_true rfl⟩) (tg_preV hw hK hSD hA (ci := 7) (q := (RX7, TX7, 12)) rfl h_p1 rfl) rfl rfl hl.1 rfl (lv_room (Nat.le_of_ble_eq_true rfl)) dX3_tellName_29 ⟨Nat.le_of_ble_eq_true rfl, Nat.le_of_ble_eq_true rfl⟩) hw hA ⟨by decide, by decide⟩ (fun ws H locs hp_v_17 hw hF9 => ?_)
      have m_u_14 := FLD.over hF9 m_u_14 (by decide)
      have m_u_15 := FLD.over hF9 m_u_15 (by decide)
      have x_MLT_p0_2 := AXC.over hF9 x_MLT_p0_2 (by decide)
      have x_OT_p0 := OTR.over hF9 x_OT_p0 (by decide)
      obtain ⟨hfn, hp_v_17⟩ := hp_v_17
      have o_p0 := OV.over (V := vw_POST) hF9 o_p0 (by decide)
      obtain ⟨sg_18, q_sg_18⟩ : ∃ q9 : OS, (f_X7_refuse__4 (3 : Int32) s1) = q9 := ⟨_, rfl⟩
      have o_p1 : OV vw_TAPE Ps ws p1 sg_18 := by rw [← q_sg_18]; exact hfn.1
      obtain ⟨v_19, m_v_19, r_v_19⟩ := (hp_v_17.1)
      simp only [f_X3_tellName__4, ↓reduceIte, q_vu_14, eq_true c_5, q_vu_15, q_v_16, eq_false c_24, q_sg_18] at hE
      exact B32 s0 sg_18 ws _ _ ls r_p2 x_MLT_p0_2 x_OT_p0 o_p0 o_p1 hE hw hl
  · refine lv_aload_n hx hb dX3_tellName_8 rfl (lv_at hl 1 rfl) ?_
    refine lv_iconst (v := 1) hx hb dX3_tellName_9 (by decide) ?_
    refine tk_v (va_runV (As := [.int 1]) (rest := []) ⟨hx, hb, hml, hown, hts⟩ (c_X7_refuse__4 l D cy z s.heap.size Ps w0 hw.1 p1 1 s1 h_p1 (rl_1.to (by decide)) o_p1) (cwV 1 hts (gV tw_450 tw_443 tw_444 tw_2 tw_445) rfl rfl rfl (by decide +kernel) ⟨Nat.le_of_ble_eq_true rfl, Nat.le_of_ble_eq_true rfl⟩) (tg_preV hw hK hSD hA (ci := 7) (q := (RX7, TX7, 12)) rfl h_p1 rfl) rfl rfl hl.1 rfl (lv_room (Nat.le_of_ble_eq_true rfl)) dX3_tellName_10 ⟨Nat.le_of_ble_eq_true rfl, Nat.le_of_ble_eq_true rfl⟩) hw hA ⟨by decide, by decide⟩ (fun ws H locs hp_v_20 hw hF9 => ?_)
    have m_u_14 := FLD.over hF9 m_u_14 (by decide)
    have x_MLT_p0_2 := AXC.over hF9 x_MLT_p0_2 (by decide)
    have x_OT_p0 := OTR.over hF9 x_OT_p0 (by decide)
    obtain ⟨hfn, hp_v_20⟩ := hp_v_20
    have o_p0 := OV.over (V := vw_POST) hF9 o_p0 (by decide)
    obtain ⟨sg_21, q_sg_21⟩ : ∃ q9 : OS, (f_X7_refuse__4 (1 : Int32) s1) = q9 := ⟨_, rfl⟩
    have o_p1 : OV vw_TAPE Ps ws p1 sg_21 := by rw [← q_sg_21]; exact hfn.1
    obtain ⟨v_22, m_v_22, r_v_22⟩ := (hp_v_20.1)
    refine lv_goto (tgt := 32) hx hb dX3_tellName_13 (by decide) ?_
    simp only [f_X3_tellName__4, ↓reduceIte, q_vu_14, eq_false c_5, q_sg_21] at hE
    exact B32 s0 sg_21 ws _ _ ls r_p2 x_MLT_p0_2 x_OT_p0 o_p0 o_p1 hE hw hl
abbrev wr_X3_readNamed__10 : List (Nat × Nat) := [(7, 5), (7, 6), (7, 7), (7, 8), (7, 9), (7, 10), (7, 11)]
abbrev wa_X3_readNamed__10 : List Nat := [1, 4, 9]
set_option maxHeartbeats 4000000 in
set_option maxRecDepth 100000 in
theorem c_X3_readNamed__10 (l : Launch) (D : va_G) (cy : Nat → ClassId) (z : Nat → Nat) (sz : Nat) (Ps : PSI) (w0 : va_W) (hT : HT cy GG Ps w0) (p0 : Nat) (p1 : Nat) (p2 : Nat) (p3 : Int32) (s0 : OS) (s1 : OS) (s2 : OS) (h_p0 : (p0, 25) ∈ Ps) (h_p1 : (p1, 26) ∈ Ps) (h_p2 : (p2, 24) ∈ Ps) (r_p3 : RI p3 2 2) (x_MLT_p0_2 : AXC 3 1 4 (fun f => (f 2).toInt < 6) Ps w0 p0) (o_p0 : OV vw_POST Ps w0 p0 s0) (o_p1 : OV vw_TAPE Ps w0 p1 s1) (o_p2 : OV vw_WORLD Ps w0 p2 s2) : Met l yX3_readNamed (Cond.code yX3_readNamed cX3_readNamed 5 none :: gT) ({ frames := 4, cells := 0, slots := 0, locals := 800 } : Room) (va_Pc [.ref p0, .ref p1, .ref p2, .int p3] (PRE D cy z w0 sz)) (va_Qv (fun (u : va_W) => ((OTR Ps w0 u p0) ∧ ((OV vw_POST Ps u p0 ((f_X3_readNamed__6 p3 s0 s1 s2).1) ∧ OV vw_TAPE Ps u p1 ((f_X3_readNamed__6 p3 s0 s1 s2).2.1) ∧ OV vw_WORLD Ps u p2 ((f_X3_readNamed__6 p3 s0 s1 s2).2.2) ∧ True) ∧ (True))) ∧ HT cy GG Ps u ∧ FR wr_X3_readNamed__10 wa_X3_readNamed__10 Ps w0 u) (BB D cy (va_A w0 sz) (fun (u : va_W) => u)) (va_A w0 sz)) 0 0 (va_A w0 sz) := by
  refine Met.ofW (cc := cX3_readNamed) (maxL := 5) (ret := none) (by decide) rfl ?_
  intro p e s m args below meth c s₁ B hml hv
  obtain ⟨rfl, hsz, hP, hK, hD0, hSD⟩ := hv
  have hx := B.exec
  have hb := B.bytes
  have hr := B.returns
  have hlocks := B.notSynchronized
  have hts : ∀ w ∈ gT, w.before _ s = true := fun w h => atoms_spec (ws := Cond.code yX3_readNamed cX3_readNamed 5 none :: gT) B.pre w (List.mem_cons_of_mem _ h)
  have hown : s.vm.findClass RX3 = some m.cls := findClass_of_methodNamed B.named
  subst hsz
  have hD := hD0.self (sz := s.heap.size)
  generalize hAe : va_A w0 s.heap.size = A at hD hSD ⊢
  have hA : ∀ q : Nat, s.heap.size ≤ q → A q := fun q h => by rw [← hAe]; exact Or.inr h
  have hl := lv_entry ([.ref p0, .ref p1, .ref p2, .int p3]) (n := 5) (Nat.le_of_ble_eq_true rfl)
  rw [lg_entry_eq]
  generalize (lg_sl ([.ref p0, .ref p1, .ref p2, .int p3]) ++ List.replicate (5 - (lg_sl ([.ref p0, .ref p1, .ref p2, .int p3])).length) Slot.unset).toArray = ls at hl ⊢
  have hl : lv_has ls 5 [(0, .ref p0), (1, .ref p1), (2, .ref p2), (3, .int p3)] := hl
  refine nameQ (fun Q hQ => ?_)
  have hw : WD D cy GG A s wr_X3_readNamed__10 wa_X3_readNamed__10 Ps w0 Ps w0 s.heap [] := ⟨hT, hP, hD, va_S.rf, FR.rf, hT.1, [], (List.append_nil _).symm⟩
  have x_OT_p0 : OTR Ps w0 w0 p0 := OTR.rf
  obtain ⟨R9, hR⟩ : ∃ q9 : OS × OS × OS, f_X3_readNamed__6 p3 s0 s1 s2 = q9 := ⟨_, rfl⟩
  have hE := hR
  refine lv_aload_n hx hb dX3_readNamed_0 rfl (lv_at hl 0 rfl) ?_
  refine lv_aload_n hx hb dX3_readNamed_1 rfl (lv_at hl 1 rfl) ?_
  refine lv_iload_n hx hb dX3_readNamed_2 rfl (lv_at hl 3 rfl) ?_
  refine tk_i (va_runV (As := [.ref p1, .int p3]) (rest := []) ⟨hx, hb, hml, hown, hts⟩ (c_X3_tellName__10 l D cy z s.heap.size Ps w0 hw.1 p0 p1 p3 s0 s1 h_p0 h_p1 r_p3 x_MLT_p0_2 o_p0 o_p1) (cwV 2 hts (gV tw_503 tw_505 ts_7 tw_11 tw_506) rfl rfl rfl (by decide +kernel) ⟨Nat.le_of_ble_eq_true rfl, Nat.le_of_ble_eq_true rfl⟩) (tg_preV hw hK hSD hA (ci := 3) (q := (RX3, TX3, 9)) rfl h_p0 rfl) rfl rfl hl.1 rfl (lv_room (Nat.le_of_ble_eq_true rfl)) dX3_readNamed_3 ⟨Nat.le_of_ble_eq_true rfl, Nat.le_of_ble_eq_true rfl⟩) hw hA ⟨by decide, by decide⟩ (fun v_1 ws H locs hp_v_1 hw hF9 => ?_)
  obtain ⟨hot9, hp_v_1⟩ := hp_v_1
  obtain ⟨hfn, hp_v_1⟩ := hp_v_1
  have o_p2 := OV.over (V := vw_WORLD) hF9 o_p2 (by decide)
  obtain ⟨sg_2, q_sg_2⟩ : ∃ q9 : OS, (f_X3_tellName__4 p3 s0 s1).1 = q9 := ⟨_, rfl⟩
  have o_p0 : OV vw_POST Ps ws p0 sg_2 := by rw [← q_sg_2]; exact hfn.1
  obtain ⟨sg_3, q_sg_3⟩ : ∃ q9 : OS, (f_X3_tellName__4 p3 s0 s1).2.1 = q9 := ⟨_, rfl⟩
  have o_p1 : OV vw_TAPE Ps ws p1 sg_3 := by rw [← q_sg_3]; exact hfn.2.1
  have q_v_1 : (f_X3_tellName__4 p3 s0 s1).2.2 = v_1 := hfn.2.2.1
  have x_OT_p0 : OTR Ps w0 ws p0 := OTR.trans x_OT_p0 hot9
  have r_v_1 : RI v_1 (-1) 5 := hp_v_1.1
  by_cases c9_v_1 : v_1 = 0
  · have r_v_1 : RI v_1 0 0 := by rw [c9_v_1]; exact rl_0
    obtain ⟨v_4, m_v_4, r_v_4⟩ := ((hp_v_1.2.1 c9_v_1).1)
    refine lv_istore (lv' := [(4, .int v_1), (0, .ref p0), (1, .ref p1), (2, .ref p2), (3, .int p3)]) hx hb dX3_readNamed_6 hl (by decide) rfl (fun ls hl => ?_)
    refine lv_iload hx hb dX3_readNamed_8 (lv_at hl 0 rfl) ?_
    refine lv_iconst (v := (-1)) hx hb dX3_readNamed_10 (by decide) ?_
    refine lv_icmp_ne (tgt := 15) hx hb dX3_readNamed_11 (by decide) (fun c_11 => ?_) (fun c_11 => ?_)
    · refine lv_iload_n hx hb dX3_readNamed_15 rfl (lv_at hl 4 rfl) ?_
      refine lv_if_ne (tgt := 36) hx hb dX3_readNamed_16 (by decide) (fun c_16 => ?_) (fun c_16 => ?_)
      · refine lv_iload_n hx hb dX3_readNamed_36 rfl (lv_at hl 4 rfl) ?_
        refine lv_iconst (v := 2) hx hb dX3_readNamed_37 (by decide) ?_
        refine lv_icmp_ne (tgt := 61) hx hb dX3_readNamed_38 (by decide) (fun c_38 => ?_) (fun c_38 => ?_)
        · exact absurd (r_p3.eq.trans rl_2.eq.symm) ((ti_ne c_38))
        · refine lv_aload_n hx hb dX3_readNamed_41 rfl (lv_at hl 3 rfl) ?_
          refine tg_getN (ci := 8) (ts := ty_WORLD) (C := RX8) (T := TX8) (N := 13) hx hb hts inX8 hown hK hw h_p2 rfl rfl 3 (by decide) (hSD.nest tn_254) (fun _ h9 => h9) (ft := vR 9) rfl dX3_readNamed_42 (fun u_5 hv_u_5 m_u_5 => ?_)
          obtain ⟨vu_5, rfl, h_vu_5⟩ := hv_u_5
          refine lv_iload hx hb dX3_readNamed_45 (lv_at hl 0 rfl) ?_
          refine lv_iconst (v := 0) hx hb dX3_readNamed_47 (by decide) ?_
          refine lv_aload_n hx hb dX3_readNamed_48 rfl (lv_at hl 2 rfl) ?_
          refine lv_aload_n hx hb dX3_readNamed_49 rfl (lv_at hl 1 rfl) ?_
          refine lv_iconst (v := 1) hx hb dX3_readNamed_50 (by decide) ?_
          refine tk_i (va_runV (As := [.ref p0, .int 1]) (rest := [.int 0, .int v_1, .ref vu_5]) ⟨hx, hb, hml, hown, hts⟩ (c_X7_takeName__11 l D cy z H.size Ps ws hw.1 p1 p0 1 v_4 sg_3 sg_2 h_p1 h_p0 rl_1 r_v_4 m_v_4 o_p1 o_p0) (cwV 2 hts (gV tw_464 tw_465 tw_466 tw_2 tw_467) rfl rfl rfl (by decide +kernel) ⟨Nat.le_of_ble_eq_true rfl, Nat.le_of_ble_eq_true rfl⟩) (tg_preV hw hK hSD hA (ci := 7) (q := (RX7, TX7, 12)) rfl h_p1 rfl) rfl rfl hl.1 rfl (lv_room (Nat.le_of_ble_eq_true rfl)) dX3_readNamed_51 ⟨Nat.le_of_ble_eq_true rfl, Nat.le_of_ble_eq_true rfl⟩) hw hA ⟨by decide, by decide⟩ (fun v_6 ws H locs hp_v_6 hw hF9 => ?_)
          have m_u_5 := FLD.over hF9 m_u_5 (by decide)
          have x_OT_p0 := OTR.over hF9 x_OT_p0 (by decide)
          obtain ⟨hfn, hp_v_6⟩ := hp_v_6
          have o_p2 := OV.over (V := vw_WORLD) hF9 o_p2 (by decide)
          obtain ⟨sg_7, q_sg_7⟩ : ∃ q9 : OS, (f_X7_takeName__11 (1 : Int32) sg_3 sg_2).1 = q9 := ⟨_, rfl⟩
          have o_p1 : OV vw_TAPE Ps ws p1 sg_7 := by rw [← q_sg_7]; exact hfn.1
          obtain ⟨sg_8, q_sg_8⟩ : ∃ q9 : OS, (f_X7_takeName__11 (1 : Int32) sg_3 sg_2).2.1 = q9 := ⟨_, rfl⟩
          have o_p0 : OV vw_POST Ps ws p0 sg_8 := by rw [← q_sg_8]; exact hfn.2.1
          have q_v_6 : (f_X7_takeName__11 (1 : Int32) sg_3 sg_2).2.2 = v_6 := hfn.2.2.1
          have r_v_6 : RI v_6 (-1) 3 := hp_v_6.1
          by_cases c9_v_6 : v_6.toInt < 0
          · have r_v_6 : RI v_6 (-1) (-1) := by unfold RI at r_v_6 ⊢; omega
            have x_FLT_p1 := (hp_v_6.2.2.2.2.1 (by omega)).1
            obtain ⟨v_9, m_v_9, r_v_9⟩ := id x_FLT_p1
            refine va_mmax hx hb (hml.trans hl.1.symm) hown (hts _ tw_512) (hts _ tw_489) (hts _ tw_16) (hts _ tw_490) (Nat.le_of_ble_eq_true rfl) (Nat.le_of_ble_eq_true rfl) (Nat.le_of_ble_eq_true rfl) (Nat.le_of_ble_eq_true rfl) dX3_readNamed_54 (lv_topi (fun v_10 e_v_10 => ?_))
            have r_v_10 : RI v_10 0 0 := by rw [e_v_10]; exact ri_max rl_0 r_v_6 (by decide)
            have q_v_10 : mjmax (0 : Int32) v_6 = v_10 := by rw [e_v_10]; rfl
            have mo9 := m_u_5
            refine tg_iast hx hb hK hw h_vu_5 rfl 0 0 r_v_1 (by decide) r_v_10 (by exact fun _ _ _ => by decide) (fun _ _ _ _ _ => trivial) (by decide) dX3_readNamed_57 (fun ws H locs hw hF9 hU9 => ?_)
            have x_OT_p0 := OTR.over hF9 x_OT_p0 (by decide)
            have x_FLT_p1 := FLTp.over hF9 x_FLT_p1 (by decide)
            have m_u_5 := FLD.over hF9 m_u_5 (by decide)
            have m_v_9 := FLD.over hF9 m_v_9 (by decide)
            have o_p0 := OV.over (V := vw_POST) hF9 o_p0 (by decide)
            have o_p1 := OV.over (V := vw_TAPE) hF9 o_p1 (by decide)
            obtain ⟨sg_11, q_sg_11⟩ : ∃ q9 : OS, sA s2 3 (Int32.toNatClampNeg v_1) v_10 = q9 := ⟨_, rfl⟩
            have o_p2 : OV vw_WORLD Ps ws p2 sg_11 := by rw [← q_sg_11]; exact OV.putA (V := vw_WORLD) (t := 9) hF9 hU9 o_p2 mo9 (by decide) (by decide)
            refine lv_goto (tgt := 97) hx hb dX3_readNamed_58 (by decide) ?_
            simp only [f_X3_readNamed__6, ↓reduceIte, q_sg_2, q_sg_3, q_v_1, eq_true c9_v_1, eq_false c_11, eq_false c_16, eq_true c_38, q_sg_7, q_sg_8, q_v_6, eq_true c9_v_6, q_v_10, q_sg_11] at hE
            subst hQ
            exact W.vret hx hb hr (fun t ht hW => ⟨⟨ws, rfl, ⟨⟨x_OT_p0, ⟨⟨(by rw [hR, ← hE]; exact o_p0), (by rw [hR, ← hE]; exact o_p1), (by rw [hR, ← hE]; exact o_p2), trivial⟩, trivial⟩⟩, hw.1, hw.2.2.2.2.1⟩, by rw [ht]; exact hw.2.1, va_K.moved hW.alike hK, hw.2.2.1⟩, hw.2.2.2.1.F ht⟩) hw.2.2.2.1.2.2 dX3_readNamed_97
          · have r_v_6 : RI v_6 0 3 := by unfold RI at r_v_6 ⊢; omega
            refine va_mmax hx hb (hml.trans hl.1.symm) hown (hts _ tw_512) (hts _ tw_489) (hts _ tw_16) (hts _ tw_490) (Nat.le_of_ble_eq_true rfl) (Nat.le_of_ble_eq_true rfl) (Nat.le_of_ble_eq_true rfl) (Nat.le_of_ble_eq_true rfl) dX3_readNamed_54 (lv_topi (fun v_12 e_v_12 => ?_))
            have r_v_12 : RI v_12 0 3 := by rw [e_v_12]; exact ri_max rl_0 r_v_6 (by decide)
            have q_v_12 : mjmax (0 : Int32) v_6 = v_12 := by rw [e_v_12]; rfl
            have mo9 := m_u_5
            refine tg_iast hx hb hK hw h_vu_5 rfl 0 0 r_v_1 (by decide) r_v_12 (by exact fun _ _ _ => by decide) (fun _ _ _ _ _ => trivial) (by decide) dX3_readNamed_57 (fun ws H locs hw hF9 hU9 => ?_)
            have x_OT_p0 := OTR.over hF9 x_OT_p0 (by decide)
            have m_u_5 := FLD.over hF9 m_u_5 (by decide)
            have o_p0 := OV.over (V := vw_POST) hF9 o_p0 (by decide)
            have o_p1 := OV.over (V := vw_TAPE) hF9 o_p1 (by decide)
            obtain ⟨sg_13, q_sg_13⟩ : ∃ q9 : OS, sA s2 3 (Int32.toNatClampNeg v_1) v_12 = q9 := ⟨_, rfl⟩
            have o_p2 : OV vw_WORLD Ps ws p2 sg_13 := by rw [← q_sg_13]; exact OV.putA (V := vw_WORLD) (t := 9) hF9 hU9 o_p2 mo9 (by decide) (by decide)
            refine lv_goto (tgt := 97) hx hb dX3_readNamed_58 (by decide) ?_
            simp only [f_X3_readNamed__6, ↓reduceIte, q_sg_2, q_sg_3, q_v_1, eq_true c9_v_1, eq_false c_11, eq_false c_16, eq_true c_38, q_sg_7, q_sg_8, q_v_6, eq_false c9_v_6, q_v_12, q_sg_13] at hE
            subst hQ
            exact W.vret hx hb hr (fun t ht hW => ⟨⟨ws, rfl, ⟨⟨x_OT_p0, ⟨⟨(by rw [hR, ← hE]; exact o_p0), (by rw [hR, ← hE]; exact o_p1), (by rw [hR, ← hE]; exact o_p2), trivial⟩, trivial⟩⟩, hw.1, hw.2.2.2.2.1⟩, by rw [ht]; exact hw.2.1, va_K.moved hW.alike hK, hw.2.2.1⟩, hw.2.2.2.1.F ht⟩) hw.2.2.2.1.2.2 dX3_readNamed_97
      · have r_p3 : RI p3 2 0 := rc_eq1 r_p3 rl_0 (ti_eq c_16) (by decide)
        exact (r_p3.no (by decide)).elim
    · have r_v_1 : RI v_1 0 (-1) := rc_eq1 r_v_1 rl_m1 (ti_eq c_11) (by decide)
      exact (r_v_1.no (by decide)).elim
  · refine lv_istore (lv' := [(4, .int v_1), (0, .ref p0), (1, .ref p1), (2, .ref p2), (3, .int p3)]) hx hb dX3_readNamed_6 hl (by decide) rfl (fun ls hl => ?_)
    refine lv_iload hx hb dX3_readNamed_8 (lv_at hl 0 rfl) ?_
    refine lv_iconst (v := (-1)) hx hb dX3_readNamed_10 (by decide) ?_
    refine lv_icmp_ne (tgt := 15) hx hb dX3_readNamed_11 (by decide) (fun c_11 => ?_) (fun c_11 => ?_)
    · have r_v_1 : RI v_1 0 5 := rc_neL r_v_1 rl_m1 (ti_ne c_11) (by decide)
      refine lv_iload_n hx hb dX3_readNamed_15 rfl (lv_at hl 4 rfl) ?_
      refine lv_if_ne (tgt := 36) hx hb dX3_readNamed_16 (by decide) (fun c_16 => ?_) (fun c_16 => ?_)
      · refine lv_iload_n hx hb dX3_readNamed_36 rfl (lv_at hl 4 rfl) ?_
        refine lv_iconst (v := 2) hx hb dX3_readNamed_37 (by decide) ?_
        refine lv_icmp_ne (tgt := 61) hx hb dX3_readNamed_38 (by decide) (fun c_38 => ?_) (fun c_38 => ?_)
        · exact absurd (r_p3.eq.trans rl_2.eq.symm) ((ti_ne c_38))
        · refine lv_aload_n hx hb dX3_readNamed_41 rfl (lv_at hl 3 rfl) ?_
          refine tg_getN (ci := 8) (ts := ty_WORLD) (C := RX8) (T := TX8) (N := 13) hx hb hts inX8 hown hK hw h_p2 rfl rfl 3 (by decide) (hSD.nest tn_254) (fun _ h9 => h9) (ft := vR 9) rfl dX3_readNamed_42 (fun u_14 hv_u_14 m_u_14 => ?_)
          obtain ⟨vu_14, rfl, h_vu_14⟩ := hv_u_14
          refine lv_iload hx hb dX3_readNamed_45 (lv_at hl 0 rfl) ?_
          refine lv_iconst (v := 0) hx hb dX3_readNamed_47 (by decide) ?_
          refine lv_aload_n hx hb dX3_readNamed_48 rfl (lv_at hl 2 rfl) ?_
          refine lv_aload_n hx hb dX3_readNamed_49 rfl (lv_at hl 1 rfl) ?_
          refine lv_iconst (v := 1) hx hb dX3_readNamed_50 (by decide) ?_
          refine tk_i (va_runV (As := [.ref p0, .int 1]) (rest := [.int 0, .int v_1, .ref vu_14]) ⟨hx, hb, hml, hown, hts⟩ (c_X7_takeName__12 l D cy z H.size Ps ws hw.1 p1 p0 1 sg_3 sg_2 h_p1 h_p0 rl_1 o_p1 o_p0) (cwV 2 hts (gV tw_464 tw_465 tw_466 tw_2 tw_467) rfl rfl rfl (by decide +kernel) ⟨Nat.le_of_ble_eq_true rfl, Nat.le_of_ble_eq_true rfl⟩) (tg_preV hw hK hSD hA (ci := 7) (q := (RX7, TX7, 12)) rfl h_p1 rfl) rfl rfl hl.1 rfl (lv_room (Nat.le_of_ble_eq_true rfl)) dX3_readNamed_51 ⟨Nat.le_of_ble_eq_true rfl, Nat.le_of_ble_eq_true rfl⟩) hw hA ⟨by decide, by decide⟩ (fun v_15 ws H locs hp_v_15 hw hF9 => ?_)
          have m_u_14 := FLD.over hF9 m_u_14 (by decide)
          have x_OT_p0 := OTR.over hF9 x_OT_p0 (by decide)
          obtain ⟨hfn, hp_v_15⟩ := hp_v_15
          have o_p2 := OV.over (V := vw_WORLD) hF9 o_p2 (by decide)
          obtain ⟨sg_16, q_sg_16⟩ : ∃ q9 : OS, (f_X7_takeName__12 (1 : Int32) sg_3 sg_2).1 = q9 := ⟨_, rfl⟩
          have o_p1 : OV vw_TAPE Ps ws p1 sg_16 := by rw [← q_sg_16]; exact hfn.1
          obtain ⟨sg_17, q_sg_17⟩ : ∃ q9 : OS, (f_X7_takeName__12 (1 : Int32) sg_3 sg_2).2.1 = q9 := ⟨_, rfl⟩
          have o_p0 : OV vw_POST Ps ws p0 sg_17 := by rw [← q_sg_17]; exact hfn.2.1
          have q_v_15 : (f_X7_takeName__12 (1 : Int32) sg_3 sg_2).2.2 = v_15 := hfn.2.2.1
          have r_v_15 : RI v_15 (-1) 3 := hp_v_15.1
          by_cases c9_v_15 : v_15.toInt < 0
          · have r_v_15 : RI v_15 (-1) (-1) := by unfold RI at r_v_15 ⊢; omega
            have x_FLT_p1 := (hp_v_15.2.2.2.2.1 (by omega)).1
            obtain ⟨v_18, m_v_18, r_v_18⟩ := id x_FLT_p1
            refine va_mmax hx hb (hml.trans hl.1.symm) hown (hts _ tw_512) (hts _ tw_489) (hts _ tw_16) (hts _ tw_490) (Nat.le_of_ble_eq_true rfl) (Nat.le_of_ble_eq_true rfl) (Nat.le_of_ble_eq_true rfl) (Nat.le_of_ble_eq_true rfl) dX3_readNamed_54 (lv_topi (fun v_19 e_v_19 => ?_))
            have r_v_19 : RI v_19 0 0 := by rw [e_v_19]; exact ri_max rl_0 r_v_15 (by decide)
            have q_v_19 : mjmax (0 : Int32) v_15 = v_19 := by rw [e_v_19]; rfl
            have mo9 := m_u_14
            refine tg_iast hx hb hK hw h_vu_14 rfl 0 5 r_v_1 (by decide) r_v_19 (by exact fun _ _ _ => by decide) (fun _ _ _ _ _ => trivial) (by decide) dX3_readNamed_57 (fun ws H locs hw hF9 hU9 => ?_)
            have x_OT_p0 := OTR.over hF9 x_OT_p0 (by decide)
            have x_FLT_p1 := FLTp.over hF9 x_FLT_p1 (by decide)
            have m_u_14 := FLD.over hF9 m_u_14 (by decide)
            have m_v_18 := FLD.over hF9 m_v_18 (by decide)
            have o_p0 := OV.over (V := vw_POST) hF9 o_p0 (by decide)
            have o_p1 := OV.over (V := vw_TAPE) hF9 o_p1 (by decide)
            obtain ⟨sg_20, q_sg_20⟩ : ∃ q9 : OS, sA s2 3 (Int32.toNatClampNeg v_1) v_19 = q9 := ⟨_, rfl⟩
            have o_p2 : OV vw_WORLD Ps ws p2 sg_20 := by rw [← q_sg_20]; exact OV.putA (V := vw_WORLD) (t := 9) hF9 hU9 o_p2 mo9 (by decide) (by decide)
            refine lv_goto (tgt := 97) hx hb dX3_readNamed_58 (by decide) ?_
            simp only [f_X3_readNamed__6, ↓reduceIte, q_sg_2, q_sg_3, q_v_1, eq_false c9_v_1, eq_false c_11, eq_false c_16, eq_true c_38, q_sg_16, q_sg_17, q_v_15, eq_true c9_v_15, q_v_19, q_sg_20] at hE
            subst hQ
            exact W.vret hx hb hr (fun t ht hW => ⟨⟨ws, rfl, ⟨⟨x_OT_p0, ⟨⟨(by rw [hR, ← hE]; exact o_p0), (by rw [hR, ← hE]; exact o_p1), (by rw [hR, ← hE]; exact o_p2), trivial⟩, trivial⟩⟩, hw.1, hw.2.2.2.2.1⟩, by rw [ht]; exact hw.2.1, va_K.moved hW.alike hK, hw.2.2.1⟩, hw.2.2.2.1.F ht⟩) hw.2.2.2.1.2.2 dX3_readNamed_97
          · have r_v_15 : RI v_15 0 3 := by unfold RI at r_v_15 ⊢; omega
            refine va_mmax hx hb (hml.trans hl.1.symm) hown (hts _ tw_512) (hts _ tw_489) (hts _ tw_16) (hts _ tw_490) (Nat.le_of_ble_eq_true rfl) (Nat.le_of_ble_eq_true rfl) (Nat.le_of_ble_eq_true rfl) (Nat.le_of_ble_eq_true rfl) dX3_readNamed_54 (lv_topi (fun v_21 e_v_21 => ?_))
            have r_v_21 : RI v_21 0 3 := by rw [e_v_21]; exact ri_max rl_0 r_v_15 (by decide)
            have q_v_21 : mjmax (0 : Int32) v_15 = v_21 := by rw [e_v_21]; rfl
            have mo9 := m_u_14
            refine tg_iast hx hb hK hw h_vu_14 rfl 0 5 r_v_1 (by decide) r_v_21 (by exact fun _ _ _ => by decide) (fun _ _ _ _ _ => trivial) (by decide) dX3_readNamed_57 (fun ws H locs hw hF9 hU9 => ?_)
            have x_OT_p0 := OTR.over hF9 x_OT_p0 (by decide)
            have m_u_14 := FLD.over hF9 m_u_14 (by decide)
            have o_p0 := OV.over (V := vw_POST) hF9 o_p0 (by decide)
            have o_p1 := OV.over (V := vw_TAPE) hF9 o_p1 (by decide)
            obtain ⟨sg_22, q_sg_22⟩ : ∃ q9 : OS, sA s2 3 (Int32.toNatClampNeg v_1) v_21 = q9 := ⟨_, rfl⟩
            have o_p2 : OV vw_WORLD Ps ws p2 sg_22 := by rw [← q_sg_22]; exact OV.putA (V := vw_WORLD) (t := 9) hF9 hU9 o_p2 mo9 (by decide) (by decide)
            refine lv_goto (tgt := 97) hx hb dX3_readNamed_58 (by decide) ?_
            simp only [f_X3_readNamed__6, ↓reduceIte, q_sg_2, q_sg_3, q_v_1, eq_false c9_v_1, eq_false c_11, eq_false c_16, eq_true c_38, q_sg_16, q_sg_17, q_v_15, eq_false c9_v_15, q_v_21, q_sg_22] at hE
            subst hQ
            exact W.vret hx hb hr (fun t ht hW => ⟨⟨ws, rfl, ⟨⟨x_OT_p0, ⟨⟨(by rw [hR, ← hE]; exact o_p0), (by rw [hR, ← hE]; exact o_p1), (by rw [hR, ← hE]; exact o_p2), trivial⟩, trivial⟩⟩, hw.1, hw.2.2.2.2.1⟩, by rw [ht]; exact hw.2.1, va_K.moved hW.alike hK, hw.2.2.1⟩, hw.2.2.2.1.F ht⟩) hw.2.2.2.1.2.2 dX3_readNamed_97
      · have r_p3 : RI p3 2 0 := rc_eq1 r_p3 rl_0 (ti_eq c_16) (by decide)
        exact (r_p3.no (by decide)).elim
    · have r_v_1 : RI v_1 (-1) (-1) := rc_eq1 r_v_1 rl_m1 (ti_eq c_11) (by decide)
      simp only [f_X3_readNamed__6, ↓reduceIte, q_sg_2, q_sg_3, q_v_1, eq_false c9_v_1, eq_true c_11] at hE
      subst hQ
      exact W.vret hx hb hr (fun t ht hW => ⟨⟨ws, rfl, ⟨⟨x_OT_p0, ⟨⟨(by rw [hR, ← hE]; exact o_p0), (by rw [hR, ← hE]; exact o_p1), (by rw [hR, ← hE]; exact o_p2), trivial⟩, trivial⟩⟩, hw.1, hw.2.2.2.2.1⟩, by rw [ht]; exact hw.2.1, va_K.moved hW.alike hK, hw.2.2.1⟩, hw.2.2.2.1.F ht⟩) hw.2.2.2.1.2.2 dX3_readNamed_14
abbrev wr_X3_beginsLine__27 : List (Nat × Nat) := [(7, 5), (7, 6), (7, 7), (7, 8), (7, 9), (7, 10), (7, 11)]
abbrev wa_X3_beginsLine__27 : List Nat := []
set_option maxHeartbeats 4000000 in
set_option maxRecDepth 100000 in
theorem c_X3_beginsLine__27 (l : Launch) (D : va_G) (cy : Nat → ClassId) (z : Nat → Nat) (sz : Nat) (Ps : PSI) (w0 : va_W) (hT : HT cy GG Ps w0) (p0 : Nat) (p1 : Nat) (p2 : Int32) (f1_10 : Int32) (s0 : OS) (s1 : OS) (h_p0 : (p0, 25) ∈ Ps) (h_p1 : (p1, 26) ∈ Ps) (r_p2 : RI p2 131 131) (r_f1_10 : RI f1_10 0 0) (m_f1_10 : FLD w0 p1 7 10 (.int f1_10)) (o_p0 : OV vw_POST Ps w0 p0 s0) (o_p1 : OV vw_TAPE Ps w0 p1 s1) : Met l yX3_beginsLine (Cond.code yX3_beginsLine cX3_beginsLine 3 (some .boolean) :: gT) ({ frames := 3, cells := 0, slots := 0, locals := 600 } : Room) (va_Pc [.ref p0, .ref p1, .int p2] (PRE D cy z w0 sz)) (va_Qi (fun (r : Int32) (u : va_W) => ((OTR Ps w0 u p0) ∧ ((OV vw_POST Ps u p0 ((f_X3_beginsLine__16 p2 s0 s1).1) ∧ OV vw_TAPE Ps u p1 ((f_X3_beginsLine__16 p2 s0 s1).2.1) ∧ (f_X3_beginsLine__16 p2 s0 s1).2.2 = r ∧ True) ∧ (RI r 0 1 ∧ (r = 0 → (∃ v9 : Int32, FLD u p1 7 10 (.int v9) ∧ RI v9 1 4) ∧ True) ∧ (¬ r = 0 → (∃ v9 : Int32, FLD u p1 7 10 (.int v9) ∧ RI v9 0 0) ∧ AXC 3 1 4 (fun f => (f 3).toInt < 8) Ps u p0 ∧ True)))) ∧ HT cy GG Ps u ∧ FR wr_X3_beginsLine__27 wa_X3_beginsLine__27 Ps w0 u) (BB D cy (va_A w0 sz) (fun (u : va_W) => u)) (va_A w0 sz)) 0 0 (va_A w0 sz) := by
  refine Met.ofW (cc := cX3_beginsLine) (maxL := 3) (ret := (some .boolean)) (by decide) rfl ?_
  intro p e s m args below meth c s₁ B hml hv
  obtain ⟨rfl, hsz, hP, hK, hD0, hSD⟩ := hv
  have hx := B.exec
  have hb := B.bytes
  have hr := B.returns
  have hlocks := B.notSynchronized
  have hts : ∀ w ∈ gT, w.before _ s = true := fun w h => atoms_spec (ws := Cond.code yX3_beginsLine cX3_beginsLine 3 (some .boolean) :: gT) B.pre w (List.mem_cons_of_mem _ h)
  have hown : s.vm.findClass RX3 = some m.cls := findClass_of_methodNamed B.named
  subst hsz
  have hD := hD0.self (sz := s.heap.size)
  generalize hAe : va_A w0 s.heap.size = A at hD hSD ⊢
  have hA : ∀ q : Nat, s.heap.size ≤ q → A q := fun q h => by rw [← hAe]; exact Or.inr h
  have hl := lv_entry ([.ref p0, .ref p1, .int p2]) (n := 3) (Nat.le_of_ble_eq_true rfl)
  rw [lg_entry_eq]
  generalize (lg_sl ([.ref p0, .ref p1, .int p2]) ++ List.replicate (3 - (lg_sl ([.ref p0, .ref p1, .int p2])).length) Slot.unset).toArray = ls at hl ⊢
  have hl : lv_has ls 3 [(0, .ref p0), (1, .ref p1), (2, .int p2)] := hl
  refine nameQ (fun Q hQ => ?_)
  have hw : WD D cy GG A s wr_X3_beginsLine__27 wa_X3_beginsLine__27 Ps w0 Ps w0 s.heap [] := ⟨hT, hP, hD, va_S.rf, FR.rf, hT.1, [], (List.append_nil _).symm⟩
  have x_OT_p0 : OTR Ps w0 w0 p0 := OTR.rf
  obtain ⟨R9, hR⟩ : ∃ q9 : OS × OS × Int32, f_X3_beginsLine__16 p2 s0 s1 = q9 := ⟨_, rfl⟩
  have hE := hR
  refine lv_iload_n hx hb dX3_beginsLine_0 rfl (lv_at hl 2 rfl) ?_
  refine lv_sipush (v := 128) hx hb dX3_beginsLine_1 (by decide) ?_
  refine lv_icmp_lt (tgt := 14) hx hb dX3_beginsLine_4 (by decide) (fun c_4 => ?_) (fun c_4 => ?_)
  · have r_p2 : RI p2 131 127 := rc_lt1 r_p2 rl_128 (ti_lt c_4) (by decide)
    exact (r_p2.no (by decide)).elim
  · refine lv_iload_n hx hb dX3_beginsLine_7 rfl (lv_at hl 2 rfl) ?_
    refine lv_sipush (v := 136) hx hb dX3_beginsLine_8 (by decide) ?_
    refine lv_icmp_le (tgt := 22) hx hb dX3_beginsLine_11 (by decide) (fun c_11 => ?_) (fun c_11 => ?_)
    · refine lv_iload_n hx hb dX3_beginsLine_22 rfl (lv_at hl 2 rfl) ?_
      refine lv_sipush (v := 131) hx hb dX3_beginsLine_23 (by decide) ?_
      refine lv_icmp_gt (tgt := 59) hx hb dX3_beginsLine_26 (by decide) (fun c_26 => ?_) (fun c_26 => ?_)
      · have r_p2 : RI p2 132 131 := rc_lt2 rl_131 r_p2 (ti_lt c_26) (by decide)
        exact (r_p2.no (by decide)).elim
      · refine lv_aload_n hx hb dX3_beginsLine_29 rfl (lv_at hl 0 rfl) ?_
        refine tg_get (ci := 3) (ts := ty_POST) (C := RX3) (T := TX3) (N := 9) hx hb hts inX3 hown hK hw h_p0 rfl rfl 1 (by decide) (hts _ tw_201) (fun _ h9 => h9) (ft := vR 4) rfl dX3_beginsLine_30 (fun u_1 hv_u_1 m_u_1 => ?_)
        obtain ⟨vu_1, rfl, h_vu_1⟩ := hv_u_1
        refine lv_iload_n hx hb dX3_beginsLine_33 rfl (lv_at hl 2 rfl) ?_
        refine lv_sipush (v := 128) hx hb dX3_beginsLine_34 (by decide) ?_
        refine lv_isub hx hb dX3_beginsLine_37 (lv_topi (fun v_2 e_v_2 => ?_))
        obtain ⟨t_v_2, r_v_2⟩ := tq_sub (lo := 3) (hi := 3) r_p2 rl_128 (by decide +kernel) e_v_2
        have t_v_2 : v_2.toInt = p2.toInt - 128 := t_v_2
        have q_v_2 : p2 - (128 : Int32) = v_2 := e_v_2.symm
        refine tg_iald (lo := 0) (hi := 8) hx hb hK hw h_vu_1 rfl 3 3 r_v_2 (by decide) (by decide +kernel) dX3_beginsLine_38 (fun v_3 r_v_3 m_v_3 o_v_3 => ?_)
        have q_v_3 : s0.2.2.1 1 (Int32.toNatClampNeg v_2) = v_3 := OV.eqA (V := vw_POST) (t := 4) hw.2.2.1 o_p0 m_u_1 m_v_3 (by decide)
        refine va_gets (v := .ref (z 0)) hx hb hSD.2.2.2.1 hw.2.2.2.1 hown (hts _ tw_198) (fun _ h9 => h9) dX3_beginsLine_39 ?_
        refine lv_iload_n hx hb dX3_beginsLine_42 rfl (lv_at hl 2 rfl) ?_
        refine lv_sipush (v := 128) hx hb dX3_beginsLine_43 (by decide) ?_
        refine lv_isub hx hb dX3_beginsLine_46 (lv_topi (fun v_4 e_v_4 => ?_))
        obtain ⟨t_v_4, r_v_4⟩ := tq_sub (lo := 3) (hi := 3) r_p2 rl_128 (by decide +kernel) e_v_4
        have t_v_4 : v_4.toInt = p2.toInt - 128 := t_v_4
        have z9 : v_2 = v_4 := q_v_2.symm.trans (e_v_4.symm)
        subst z9
        refine tz_mk 3 8 hx hb hSD.2.2.2.2.1 hw.2.2.2.1 r_v_2 (by decide) rfl dX3_beginsLine_47 (fun v_5 e_v_5 => ?_)
        have r_v_5 : RI v_5 8 8 := by rw [e_v_5]; exact rl_8
        have q_v_5 : (8 : Int32) = v_5 := e_v_5.symm
        refine lv_icmp_lt (tgt := 59) hx hb dX3_beginsLine_48 (by decide) (fun c_48 => ?_) (fun c_48 => ?_)
        · have d_48 := c_48
          rw [← q_v_5] at d_48
          have r_v_3 : RI v_3 0 7 := rc_lt1 r_v_3 r_v_5 (ti_lt c_48) (by decide)
          have x_MLT_p0_3 : AXC 3 1 4 (fun f => (f 3).toInt < 8) Ps w0 p0 := AXC.mk hw h_vu_1 rfl m_u_1 (fun f9 g9 => by have e9 := g9 _ _ m_v_3; have j9 : Int32.toNatClampNeg v_2 = 3 := (by have k1 := r_v_2.cl (by decide); have k2 := r_v_2.eq; omega); rw [j9] at e9; show _ < _; rw [e9]; have k3 := r_v_3.2; omega)
          refine lv_iload_n hx hb dX3_beginsLine_59 rfl (lv_at hl 2 rfl) ?_
          refine lv_sipush (v := 135) hx hb dX3_beginsLine_60 (by decide) ?_
          refine lv_icmp_ne (tgt := 73) hx hb dX3_beginsLine_63 (by decide) (fun c_63 => ?_) (fun c_63 => ?_)
          · refine lv_iload_n hx hb dX3_beginsLine_73 rfl (lv_at hl 2 rfl) ?_
            refine lv_sipush (v := 136) hx hb dX3_beginsLine_74 (by decide) ?_
            refine lv_icmp_ne (tgt := 92) hx hb dX3_beginsLine_77 (by decide) (fun c_77 => ?_) (fun c_77 => ?_)
            · refine lv_aload_n hx hb dX3_beginsLine_92 rfl (lv_at hl 1 rfl) ?_
              have hw8 := hw
              refine tk_v (va_runV (As := []) (rest := []) ⟨hx, hb, hml, hown, hts⟩ (c_X7_pass__5 l D cy z s.heap.size Ps w0 hw.1 p1 f1_10 s1 h_p1 r_f1_10 m_f1_10 o_p1) (cwV 0 hts (gV tw_451 tw_425 tw_426 tw_2 tw_427) rfl rfl rfl (by decide +kernel) ⟨Nat.le_of_ble_eq_true rfl, Nat.le_of_ble_eq_true rfl⟩) (tg_preV hw hK hSD hA (ci := 7) (q := (RX7, TX7, 12)) rfl h_p1 rfl) rfl rfl hl.1 rfl (lv_room (Nat.le_of_ble_eq_true rfl)) dX3_beginsLine_93 ⟨Nat.le_of_ble_eq_true rfl, Nat.le_of_ble_eq_true rfl⟩) hw hA ⟨by decide, by decide⟩ (fun ws H locs hp_v_6 hw hF9 => ?_)
              have m_v_3 := AEL.over hw8 hF9 h_vu_1 m_v_3 (by decide)
              have m_f1_10 := FLD.over hF9 m_f1_10 (by decide)
              have m_u_1 := FLD.over hF9 m_u_1 (by decide)
              have x_OT_p0 := OTR.over hF9 x_OT_p0 (by decide)
              have x_MLT_p0_3 := AXC.over hF9 x_MLT_p0_3 (by decide)
              obtain ⟨hfn, hp_v_6⟩ := hp_v_6
              have o_p0 := OV.over (V := vw_POST) hF9 o_p0 (by decide)
              obtain ⟨sg_7, q_sg_7⟩ : ∃ q9 : OS, (f_X7_pass__5 s1) = q9 := ⟨_, rfl⟩
              have o_p1 : OV vw_TAPE Ps ws p1 sg_7 := by rw [← q_sg_7]; exact hfn.1
              obtain ⟨v_8, m_v_8, r_v_8⟩ := (hp_v_6.1)
              refine lv_aload_n hx hb dX3_beginsLine_96 rfl (lv_at hl 1 rfl) ?_
              refine tg_memN (ci := 7) (C := RX7) (T := TX7) (N := 12) hx hb hts inX7 hown hK hw 10 m_v_8 rfl (by decide) (hSD.nest tn_105) (fun _ h9 => h9) dX3_beginsLine_97 ?_
              have q_v_8 : sg_7.1 10 = v_8 := OV.eqI (V := vw_TAPE) hw.2.2.1 o_p1 m_v_8 (by decide)
              refine lv_if_ne (tgt := 107) hx hb dX3_beginsLine_100 (by decide) (fun c_100 => ?_) (fun c_100 => ?_)
              · exact absurd (r_v_8.eq.trans rl_0.eq.symm) ((ti_ne c_100))
              · refine lv_iconst (v := 1) hx hb dX3_beginsLine_103 (by decide) ?_
                refine lv_goto (tgt := 108) hx hb dX3_beginsLine_104 (by decide) ?_
                simp only [f_X3_beginsLine__16, ↓reduceIte, eq_false c_4, eq_true c_11, eq_false c_26, q_v_2, q_v_3, eq_true d_48, eq_false c_63, eq_false c_77, q_sg_7, q_v_8, eq_true c_100] at hE
                subst hQ
                exact W.zret (v := 1) hx hb hr (rfl) (fun t ht hW => ⟨⟨1, ws, rfl, ⟨⟨x_OT_p0, ⟨(by rw [hR, ← hE]; exact o_p0), (by rw [hR, ← hE]; exact o_p1), (by rw [hR, ← hE]), trivial⟩, rl_1.to (by decide), (fun h0 => absurd h0 (by decide)), (fun h0 => ⟨⟨_, m_v_8, r_v_8⟩, x_MLT_p0_3, trivial⟩)⟩, hw.1, hw.2.2.2.2.1⟩, by rw [ht]; exact hw.2.1, va_K.moved hW.alike hK, hw.2.2.1⟩, hw.2.2.2.1.F ht⟩) hw.2.2.2.1.2.2 dX3_beginsLine_108
            · have r_p2 : RI p2 136 131 := rc_eq1 r_p2 rl_136 (ti_eq c_77) (by decide)
              exact (r_p2.no (by decide)).elim
          · have r_p2 : RI p2 135 131 := rc_eq1 r_p2 rl_135 (ti_eq c_63) (by decide)
            exact (r_p2.no (by decide)).elim
        · have d_48 := c_48
          rw [← q_v_5] at d_48
          have r_v_3 : RI v_3 8 8 := rc_le2 r_v_5 r_v_3 (ti_nlt c_48) (by decide)
          refine lv_aload_n hx hb dX3_beginsLine_51 rfl (lv_at hl 1 rfl) ?_
          refine lv_iconst (v := 4) hx hb dX3_beginsLine_52 (by decide) ?_
          have hw8 := hw
          refine tk_v (va_runV (As := [.int 4]) (rest := []) ⟨hx, hb, hml, hown, hts⟩ (c_X7_refuse__5 l D cy z s.heap.size Ps w0 hw.1 p1 4 f1_10 s1 h_p1 (rl_4.to (by decide)) r_f1_10 m_f1_10 o_p1) (cwV 1 hts (gV tw_450 tw_443 tw_444 tw_2 tw_445) rfl rfl rfl (by decide +kernel) ⟨Nat.le_of_ble_eq_true rfl, Nat.le_of_ble_eq_true rfl⟩) (tg_preV hw hK hSD hA (ci := 7) (q := (RX7, TX7, 12)) rfl h_p1 rfl) rfl rfl hl.1 rfl (lv_room (Nat.le_of_ble_eq_true rfl)) dX3_beginsLine_53 ⟨Nat.le_of_ble_eq_true rfl, Nat.le_of_ble_eq_true rfl⟩) hw hA ⟨by decide, by decide⟩ (fun ws H locs hp_v_9 hw hF9 => ?_)
          have m_v_3 := AEL.over hw8 hF9 h_vu_1 m_v_3 (by decide)
          have m_u_1 := FLD.over hF9 m_u_1 (by decide)
          have x_OT_p0 := OTR.over hF9 x_OT_p0 (by decide)
          obtain ⟨hfn, hp_v_9⟩ := hp_v_9
          have o_p0 := OV.over (V := vw_POST) hF9 o_p0 (by decide)
          obtain ⟨sg_10, q_sg_10⟩ : ∃ q9 : OS, (f_X7_refuse__5 (4 : Int32) s1) = q9 := ⟨_, rfl⟩
          have o_p1 : OV vw_TAPE Ps ws p1 sg_10 := by rw [← q_sg_10]; exact hfn.1
          obtain ⟨v_11, m_v_11, r_v_11⟩ := (hp_v_9.1)
          refine lv_goto (tgt := 92) hx hb dX3_beginsLine_56 (by decide) ?_
          refine lv_aload_n hx hb dX3_beginsLine_92 rfl (lv_at hl 1 rfl) ?_
          refine tk_vr (va_runV (As := []) (rest := []) ⟨hx, hb, hml, hown, hts⟩ (c_X7_pass__4 l D cy z H.size Ps ws hw.1 p1 v_11 sg_10 h_p1 r_v_11 m_v_11 o_p1) (cwV 0 hts (gV tw_451 tw_425 tw_426 tw_2 tw_427) rfl rfl rfl (by decide +kernel) ⟨Nat.le_of_ble_eq_true rfl, Nat.le_of_ble_eq_true rfl⟩) (tg_preV hw hK hSD hA (ci := 7) (q := (RX7, TX7, 12)) rfl h_p1 rfl) rfl rfl hl.1 rfl (lv_room (Nat.le_of_ble_eq_true rfl)) dX3_beginsLine_93 ⟨Nat.le_of_ble_eq_true rfl, Nat.le_of_ble_eq_true rfl⟩) hw hA (fun  H locs hp_v_12 hw => ?_)
          obtain ⟨hfn, hp_v_12⟩ := hp_v_12
          refine lv_aload_n hx hb dX3_beginsLine_96 rfl (lv_at hl 1 rfl) ?_
          refine tg_memN (ci := 7) (C := RX7) (T := TX7) (N := 12) hx hb hts inX7 hown hK hw 10 m_v_11 rfl (by decide) (hSD.nest tn_105) (fun _ h9 => h9) dX3_beginsLine_97 ?_
          have q_v_11 : sg_10.1 10 = v_11 := OV.eqI (V := vw_TAPE) hw.2.2.1 o_p1 m_v_11 (by decide)
          refine lv_if_ne (tgt := 107) hx hb dX3_beginsLine_100 (by decide) (fun c_100 => ?_) (fun c_100 => ?_)
          · refine lv_iconst (v := 0) hx hb dX3_beginsLine_107 (by decide) ?_
            simp only [f_X3_beginsLine__16, ↓reduceIte, eq_false c_4, eq_true c_11, eq_false c_26, q_v_2, q_v_3, eq_false d_48, q_sg_10, q_v_11, eq_false c_100] at hE
            subst hQ
            exact W.zret (v := 0) hx hb hr (rfl) (fun t ht hW => ⟨⟨0, ws, rfl, ⟨⟨x_OT_p0, ⟨(by rw [hR, ← hE]; exact o_p0), (by rw [hR, ← hE]; exact o_p1), (by rw [hR, ← hE]), trivial⟩, rl_0.to (by decide), (fun h0 => ⟨⟨_, m_v_11, r_v_11⟩, trivial⟩), (fun h0 => absurd rfl h0)⟩, hw.1, hw.2.2.2.2.1⟩, by rw [ht]; exact hw.2.1, va_K.moved hW.alike hK, hw.2.2.1⟩, hw.2.2.2.1.F ht⟩) hw.2.2.2.1.2.2 dX3_beginsLine_108
          · have r_v_11 : RI v_11 1 0 := rc_eq1 r_v_11 rl_0 (ti_eq c_100) (by decide)
            exact (r_v_11.no (by decide)).elim
    · have r_p2 : RI p2 137 131 := rc_lt2 rl_136 r_p2 (ti_nle c_11) (by decide)
      exact (r_p2.no (by decide)).elim
abbrev wr_X3_tellName__11 : List (Nat × Nat) := [(7, 5), (7, 6), (7, 7), (7, 8), (7, 9), (7, 10), (7, 11)]
abbrev wa_X3_tellName__11 : List Nat := [1, 4]
set_option maxHeartbeats 4000000 in
set_option maxRecDepth 100000 in
theorem c_X3_tellName__11 (l : Launch) (D : va_G) (cy : Nat → ClassId) (z : Nat → Nat) (sz : Nat) (Ps : PSI) (w0 : va_W) (hT : HT cy GG Ps w0) (p0 : Nat) (p1 : Nat) (p2 : Int32) (s0 : OS) (s1 : OS) (h_p0 : (p0, 25) ∈ Ps) (h_p1 : (p1, 26) ∈ Ps) (r_p2 : RI p2 3 3) (x_MLT_p0_3 : AXC 3 1 4 (fun f => (f 3).toInt < 8) Ps w0 p0) (o_p0 : OV vw_POST Ps w0 p0 s0) (o_p1 : OV vw_TAPE Ps w0 p1 s1) : Met l yX3_tellName (Cond.code yX3_tellName cX3_tellName 4 (some .int) :: gT) ({ frames := 3, cells := 0, slots := 0, locals := 600 } : Room) (va_Pc [.ref p0, .ref p1, .int p2] (PRE D cy z w0 sz)) (va_Qi (fun (r : Int32) (u : va_W) => ((OTR Ps w0 u p0) ∧ ((OV vw_POST Ps u p0 ((f_X3_tellName__4 p2 s0 s1).1) ∧ OV vw_TAPE Ps u p1 ((f_X3_tellName__4 p2 s0 s1).2.1) ∧ (f_X3_tellName__4 p2 s0 s1).2.2 = r ∧ True) ∧ (RI r (-1) 7 ∧ (r = 0 → (∃ v9 : Int32, FLD u p1 7 10 (.int v9) ∧ RI v9 0 0) ∧ True) ∧ (¬ r = 0 → True)))) ∧ HT cy GG Ps u ∧ FR wr_X3_tellName__11 wa_X3_tellName__11 Ps w0 u) (BB D cy (va_A w0 sz) (fun (u : va_W) => u)) (va_A w0 sz)) 0 0 (va_A w0 sz) := by
  refine Met.ofW (cc := cX3_tellName) (maxL := 4) (ret := (some .int)) (by decide) rfl ?_
  intro p e s m args below meth c s₁ B hml hv
  obtain ⟨rfl, hsz, hP, hK, hD0, hSD⟩ := hv
  have hx := B.exec
  have hb := B.bytes
  have hr := B.returns
  have hlocks := B.notSynchronized
  have hts : ∀ w ∈ gT, w.before _ s = true := fun w h => atoms_spec (ws := Cond.code yX3_tellName cX3_tellName 4 (some .int) :: gT) B.pre w (List.mem_cons_of_mem _ h)
  have hown : s.vm.findClass RX3 = some m.cls := findClass_of_methodNamed B.named
  subst hsz
  have hD := hD0.self (sz := s.heap.size)
  generalize hAe : va_A w0 s.heap.size = A at hD hSD ⊢
  have hA : ∀ q : Nat, s.heap.size ≤ q → A q := fun q h => by rw [← hAe]; exact Or.inr h
  have hl := lv_entry ([.ref p0, .ref p1, .int p2]) (n := 4) (Nat.le_of_ble_eq_true rfl)
  rw [lg_entry_eq]
  generalize (lg_sl ([.ref p0, .ref p1, .int p2]) ++ List.replicate (4 - (lg_sl ([.ref p0, .ref p1, .int p2])).length) Slot.unset).toArray = ls at hl ⊢
  have hl : lv_has ls 4 [(0, .ref p0), (1, .ref p1), (2, .int p2)] := hl
  refine nameQ (fun Q hQ => ?_)
  have hw : WD D cy GG A s wr_X3_tellName__11 wa_X3_tellName__11 Ps w0 Ps w0 s.heap [] := ⟨hT, hP, hD, va_S.rf, FR.rf, hT.1, [], (List.append_nil _).symm⟩
  have x_OT_p0 : OTR Ps w0 w0 p0 := OTR.rf
  obtain ⟨R9, hR⟩ : ∃ q9 : OS × OS × Int32, f_X3_tellName__4 p2 s0 s1 = q9 := ⟨_, rfl⟩
  have hE := hR
  have B32 : ∀ (s0 : OS) (s1 : OS) (ws : va_W) (H : Heap) (locs : List Loc) (ls : Array Slot), RI p2 3 3 → AXC 3 1 4 (fun f => (f 3).toInt < 8) Ps ws p0 → OTR Ps w0 ws p0 → OV vw_POST Ps ws p0 s0 → OV vw_TAPE Ps ws p1 s1 → f_X3_tellName__4_32 p2 s0 s1 = R9 → WD D cy GG A s wr_X3_tellName__11 wa_X3_tellName__11 Ps w0 Ps ws H locs → lv_has ls 4 [(0, .ref p0), (1, .ref p1), (2, .int p2)] → W p l e (headSpec (Cond.code yX3_tellName cX3_tellName 4 (some .int) :: gT) ({ frames := 3, cells := 0, slots := 0, locals := 600 } : Room)).room s m ([.ref p0, .ref p1, .int p2] : List Value).toArray below meth c H locs 0 0 Q (F0 m 32 ls []) := by
    intro s0 s1 ws H locs ls r_p2 x_MLT_p0_3 x_OT_p0 o_p0 o_p1 hE hw hl
    refine lv_aload_n hx hb dX3_tellName_32 rfl (lv_at hl 1 rfl) ?_
    refine tg_getN (ci := 7) (ts := ty_TAPE) (C := RX7) (T := TX7) (N := 12) hx hb hts inX7 hown hK hw h_p1 rfl rfl 10 (by decide) (hSD.nest tn_105) (fun _ h9 => h9) (ft := vI 0 4) rfl dX3_tellName_33 (fun u_1 hv_u_1 m_u_1 => ?_)
    obtain ⟨vu_1, rfl, r_vu_1⟩ := hv_u_1
    have q_vu_1 : s1.1 10 = vu_1 := OV.eqI (V := vw_TAPE) hw.2.2.1 o_p1 m_u_1 (by decide)
    refine lv_if_eq (tgt := 41) hx hb dX3_tellName_36 (by decide) (fun c_36 => ?_) (fun c_36 => ?_)
    · have r_vu_1 : RI vu_1 0 0 := rc_eq1 r_vu_1 rl_0 (ti_eq c_36) (by decide)
      refine lv_aload_n hx hb dX3_tellName_41 rfl (lv_at hl 0 rfl) ?_
      refine tg_get (ci := 3) (ts := ty_POST) (C := RX3) (T := TX3) (N := 9) hx hb hts inX3 hown hK hw h_p0 rfl rfl 1 (by decide) (hts _ tw_201) (fun _ h9 => h9) (ft := vR 4) rfl dX3_tellName_42 (fun u_2 hv_u_2 m_u_2 => ?_)
      obtain ⟨vu_2, rfl, h_vu_2⟩ := hv_u_2
      refine lv_iload_n hx hb dX3_tellName_45 rfl (lv_at hl 2 rfl) ?_
      refine tg_iald (lo := 0) (hi := 8) hx hb hK hw h_vu_2 rfl 3 3 r_p2 (by decide) (by decide +kernel) dX3_tellName_46 (fun v_3 r_v_3 m_v_3 o_v_3 => ?_)
      have q_v_3 : s0.2.2.1 1 (Int32.toNatClampNeg p2) = v_3 := OV.eqA (V := vw_POST) (t := 4) hw.2.2.1 o_p0 m_u_2 m_v_3 (by decide)
      have r_v_3 : RI v_3 0 7 := ⟨r_v_3.1, by obtain ⟨f9, q9, e9⟩ := AXC.use hw x_MLT_p0_3 m_u_2 m_v_3; have j9 : Int32.toNatClampNeg p2 = 3 := (by have k1 := r_p2.cl (by decide); have k2 := r_p2.eq; omega); rw [j9] at e9; have q8 : (f9 3).toInt < 8 := q9; rw [e9] at q8; omega⟩
      refine lv_istore_n (lv' := [(3, .int v_3), (0, .ref p0), (1, .ref p1), (2, .int p2)]) hx hb dX3_tellName_47 rfl hl (by decide) rfl (fun ls hl => ?_)
      refine lv_aload_n hx hb dX3_tellName_48 rfl (lv_at hl 1 rfl) ?_
      refine tg_get (ci := 3) (ts := ty_POST) (C := RX3) (T := TX3) (N := 9) hx hb hts inX3 hown hK hw h_p0 rfl rfl 0 (by decide) (hts _ tw_200) (fun _ h9 => h9) (ft := vR 1) rfl dX3_tellName_49 (fun u_4 hv_u_4 m_u_4 => ?_)
      obtain ⟨vu_4, rfl, h_vu_4⟩ := hv_u_4
      refine lv_iload_n hx hb dX3_tellName_52 rfl (lv_at hl 3 rfl) ?_
      refine lv_bipush (v := 8) hx hb dX3_tellName_53 (by decide) ?_
      refine lv_imul hx hb dX3_tellName_55 (lv_topi (fun v_5 e_v_5 => ?_))
      obtain ⟨t_v_5, r_v_5⟩ := tq_mul (lo := 24) (hi := 24) r_p2 rl_8 (by decide +kernel) e_v_5
      have t_v_5 : v_5.toInt = p2.toInt * 8 := t_v_5
      have q_v_5 : p2 * (8 : Int32) = v_5 := e_v_5.symm
      refine lv_iload_n hx hb dX3_tellName_56 rfl (lv_at hl 0 rfl) ?_
      refine lv_iadd hx hb dX3_tellName_57 (lv_topi (fun v_6 e_v_6 => ?_))
      obtain ⟨t_v_6, r_v_6⟩ := tq_add (lo := 24) (hi := 31) r_v_5 r_v_3 (by decide +kernel) e_v_6
      have q_v_6 : v_5 + v_3 = v_6 := e_v_6.symm
      refine lv_aload_n hx hb dX3_tellName_58 rfl (lv_at hl 2 rfl) ?_
      refine tg_getN (ci := 7) (ts := ty_TAPE) (C := RX7) (T := TX7) (N := 12) hx hb hts inX7 hown hK hw h_p1 rfl rfl 8 (by decide) (hSD.nest tn_99) (fun _ h9 => h9) (ft := vJ (-9223372036854775808) 9223372036854775807) rfl dX3_tellName_59 (fun u_7 hv_u_7 m_u_7 => ?_)
      obtain ⟨vu_7, rfl, r_vu_7⟩ := hv_u_7
      have q_vu_7 : s1.2.1 8 = vu_7 := OV.eqL (V := vw_TAPE) hw.2.2.1 o_p1 m_u_7 (by decide)
      have mo8 := m_u_4
      have mo9 := m_u_4
      refine tg_lastO hx hb hK hw h_vu_4 rfl r_v_6 (by decide) r_vu_7 (by decide) (by decide) dX3_tellName_62 (fun ws H locs hw hF9 hU9 hO9 => ?_)
      have x_MLT_p0_3 := AXC.over hF9 x_MLT_p0_3 (by decide)
      have m_u_1 := FLD.over hF9 m_u_1 (by decide)
      have m_u_2 := FLD.over hF9 m_u_2 (by decide)
      have m_u_4 := FLD.over hF9 m_u_4 (by decide)
      have m_u_7 := FLD.over hF9 m_u_7 (by decide)
      have o_p1 := OV.over (V := vw_TAPE) hF9 o_p1 (by decide)
      obtain ⟨sg_8, q_sg_8⟩ : ∃ q9 : OS, sB s0 0 (Int32.toNatClampNeg v_6) vu_7 = q9 := ⟨_, rfl⟩
      have o_p0 : OV vw_POST Ps ws p0 sg_8 := by rw [← q_sg_8]; exact OV.putB (V := vw_POST) (t := 1) hF9 hU9 o_p0 mo9 (by decide) (by decide)
      have x_OT_p0 : OTR Ps w0 ws p0 := OTR.asl x_OT_p0 hF9 hU9.1 hO9 mo8 (by decide)
      refine lv_aload_n hx hb dX3_tellName_63 rfl (lv_at hl 1 rfl) ?_
      refine tg_mem (ci := 3) (C := RX3) (T := TX3) (N := 9) hx hb hts inX3 hown hK hw 1 m_u_2 rfl (by decide) (hts _ tw_201) (fun _ h9 => h9) dX3_tellName_64 ?_
      refine lv_iload_n hx hb dX3_tellName_67 rfl (lv_at hl 3 rfl) ?_
      refine lv_iload_n hx hb dX3_tellName_68 rfl (lv_at hl 0 rfl) ?_
      refine lv_iconst (v := 1) hx hb dX3_tellName_69 (by decide) ?_
      refine lv_iadd hx hb dX3_tellName_70 (lv_topi (fun v_9 e_v_9 => ?_))
      obtain ⟨t_v_9, r_v_9⟩ := tq_add (lo := 1) (hi := 8) r_v_3 rl_1 (by decide +kernel) e_v_9
      have t_v_9 : v_9.toInt = v_3.toInt + 1 := t_v_9
      have q_v_9 : v_3 + (1 : Int32) = v_9 := e_v_9.symm
      have mo8 := m_u_2
      have mo9 := m_u_2
      refine tg_iastE hx hb hK hw h_vu_2 rfl 3 3 r_p2 (by decide) r_v_9 (by decide +kernel) (fun _ _ _ _ _ => trivial) (by decide) dX3_tellName_71 (fun ws H locs hw hF9 hU9 hO9 => ?_)
      have m_u_1 := FLD.over hF9 m_u_1 (by decide)
      have m_u_2 := FLD.over hF9 m_u_2 (by decide)
      have m_u_4 := FLD.over hF9 m_u_4 (by decide)
      have m_u_7 := FLD.over hF9 m_u_7 (by decide)
      have o_p1 := OV.over (V := vw_TAPE) hF9 o_p1 (by decide)
      obtain ⟨sg_10, q_sg_10⟩ : ∃ q9 : OS, sA sg_8 1 (Int32.toNatClampNeg p2) v_9 = q9 := ⟨_, rfl⟩
      have o_p0 : OV vw_POST Ps ws p0 sg_10 := by rw [← q_sg_10]; exact OV.putA (V := vw_POST) (t := 4) hF9 hU9 o_p0 mo9 (by decide) (by decide)
      have x_OT_p0 : OTR Ps w0 ws p0 := OTR.ast x_OT_p0 hF9 hU9.1 hO9 mo8 (by decide)
      refine lv_aload_n hx hb dX3_tellName_72 rfl (lv_at hl 2 rfl) ?_
      refine tk_v (va_runV (As := []) (rest := []) ⟨hx, hb, hml, hown, hts⟩ (c_X7_pass__5 l D cy z H.size Ps ws hw.1 p1 vu_1 s1 h_p1 r_vu_1 m_u_1 o_p1) (cwV 0 hts (gV tw_451 tw_425 tw_426 tw_2 tw_427) rfl rfl rfl (by decide +kernel) ⟨Nat.le_of_ble_eq_true rfl, Nat.le_of_ble_eq_true rfl⟩) (tg_preV hw hK hSD hA (ci := 7) (q := (RX7, TX7, 12)) rfl h_p1 rfl) rfl rfl hl.1 rfl (lv_room (Nat.le_of_ble_eq_true rfl)) dX3_tellName_73 ⟨Nat.le_of_ble_eq_true rfl, Nat.le_of_ble_eq_true rfl⟩) hw hA ⟨by decide, by decide⟩ (fun ws H locs hp_v_11 hw hF9 => ?_)
      have m_u_1 := FLD.over hF9 m_u_1 (by decide)
      have m_u_2 := FLD.over hF9 m_u_2 (by decide)
      have m_u_4 := FLD.over hF9 m_u_4 (by decide)
      have x_OT_p0 := OTR.over hF9 x_OT_p0 (by decide)
      obtain ⟨hfn, hp_v_11⟩ := hp_v_11
      have o_p0 := OV.over (V := vw_POST) hF9 o_p0 (by decide)
      obtain ⟨sg_12, q_sg_12⟩ : ∃ q9 : OS, (f_X7_pass__5 s1) = q9 := ⟨_, rfl⟩
      have o_p1 : OV vw_TAPE Ps ws p1 sg_12 := by rw [← q_sg_12]; exact hfn.1
      obtain ⟨v_13, m_v_13, r_v_13⟩ := (hp_v_11.1)
      refine lv_iload_n hx hb dX3_tellName_76 rfl (lv_at hl 0 rfl) ?_
      simp only [f_X3_tellName__4_32, ↓reduceIte, q_vu_1, eq_true c_36, q_v_3, q_v_5, q_v_6, q_vu_7, q_sg_8, q_v_9, q_sg_10, q_sg_12] at hE
      subst hQ
      exact W.iret (v := v_3) hx hb hr (fun t ht hW => ⟨⟨v_3, ws, rfl, ⟨⟨x_OT_p0, ⟨(by rw [hR, ← hE]; exact o_p0), (by rw [hR, ← hE]; exact o_p1), (by rw [hR, ← hE]), trivial⟩, r_v_3.to (by decide), (fun h0 => ⟨⟨_, m_v_13, r_v_13⟩, trivial⟩), (fun h0 => trivial)⟩, hw.1, hw.2.2.2.2.1⟩, by rw [ht]; exact hw.2.1, va_K.moved hW.alike hK, hw.2.2.1⟩, hw.2.2.2.1.F ht⟩) hw.2.2.2.1.2.2 dX3_tellName_77
    · have r_vu_1 : RI vu_1 1 4 := rc_neL r_vu_1 rl_0 (ti_ne c_36) (by decide)
      refine lv_iconst (v := (-1)) hx hb dX3_tellName_39 (by decide) ?_
      simp only [f_X3_tellName__4_32, ↓reduceIte, q_vu_1, eq_false c_36] at hE
      subst hQ
      exact W.iret (v := (-1)) hx hb hr (fun t ht hW => ⟨⟨(-1), ws, rfl, ⟨⟨x_OT_p0, ⟨(by rw [hR, ← hE]; exact o_p0), (by rw [hR, ← hE]; exact o_p1), (by rw [hR, ← hE]), trivial⟩, rl_m1.to (by decide), (fun h0 => absurd h0 (by decide)), (fun h0 => trivial)⟩, hw.1, hw.2.2.2.2.1⟩, by rw [ht]; exact hw.2.1, va_K.moved hW.alike hK, hw.2.2.1⟩, hw.2.2.2.1.F ht⟩) hw.2.2.2.1.2.2 dX3_tellName_40
  refine lv_aload_n hx hb dX3_tellName_0 rfl (lv_at hl 1 rfl) ?_
  refine tg_getN (ci := 7) (ts := ty_TAPE) (C := RX7) (T := TX7) (N := 12) hx hb hts inX7 hown hK hw h_p1 rfl rfl 7 (by decide) (hSD.nest tn_97) (fun _ h9 => h9) (ft := vI (-2147483648) 2147483647) rfl dX3_tellName_1 (fun u_14 hv_u_14 m_u_14 => ?_)
  obtain ⟨vu_14, rfl, r_vu_14⟩ := hv_u_14
  have q_vu_14 : s1.1 7 = vu_14 := OV.eqI (V := vw_TAPE) hw.2.2.1 o_p1 m_u_14 (by decide)
  refine lv_iconst (v := 2) hx hb dX3_tellName_4 (by decide) ?_
  refine lv_icmp_eq (tgt := 16) hx hb dX3_tellName_5 (by decide) (fun c_5 => ?_) (fun c_5 => ?_)
  · have r_vu_14 : RI vu_14 2 2 := rc_eq1 r_vu_14 rl_2 (ti_eq c_5) (by decide)
    refine lv_aload_n hx hb dX3_tellName_16 rfl (lv_at hl 0 rfl) ?_
    refine lv_aload_n hx hb dX3_tellName_17 rfl (lv_at hl 1 rfl) ?_
    refine tg_getN (ci := 7) (ts := ty_TAPE) (C := RX7) (T := TX7) (N := 12) hx hb hts inX7 hown hK hw h_p1 rfl rfl 8 (by decide) (hSD.nest tn_99) (fun _ h9 => h9) (ft := vJ (-9223372036854775808) 9223372036854775807) rfl dX3_tellName_18 (fun u_15 hv_u_15 m_u_15 => ?_)
    obtain ⟨vu_15, rfl, r_vu_15⟩ := hv_u_15
    have q_vu_15 : s1.2.1 8 = vu_15 := OV.eqL (V := vw_TAPE) hw.2.2.1 o_p1 m_u_15 (by decide)
    refine tk_ir (va_runV (As := [.long vu_15]) (rest := []) ⟨hx, hb, hml, hown, hts⟩ (c_X3_isTold__1 l D cy z s.heap.size Ps w0 hw.1 p0 vu_15 s0 h_p0 r_vu_15 o_p0) (cwV 1 hts (gV tw_507 tw_509 ts_8 tw_11 tw_510) rfl rfl rfl (by decide +kernel) ⟨Nat.le_of_ble_eq_true rfl, Nat.le_of_ble_eq_true rfl⟩) (tg_preV hw hK hSD hA (ci := 3) (q := (RX3, TX3, 9)) rfl h_p0 rfl) rfl rfl hl.1 rfl (lv_room (Nat.le_of_ble_eq_true rfl)) dX3_tellName_21 ⟨Nat.le_of_ble_eq_true rfl, Nat.le_of_ble_eq_true rfl⟩) hw hA (fun v_16  H locs hp_v_16 hw => ?_)
    obtain ⟨hfn, hp_v_16⟩ := hp_v_16
    have q_v_16 : (f_X3_isTold__1 vu_15 s0) = v_16 := hfn.1
    have r_v_16 : RI v_16 0 1 := hp_v_16.1
    refine lv_if_eq (tgt := 32) hx hb dX3_tellName_24 (by decide) (fun c_24 => ?_) (fun c_24 => ?_)
    · have r_v_16 : RI v_16 0 0 := rc_eq1 r_v_16 rl_0 (ti_eq c_24) (by decide)
      simp only [f_X3_tellName__4, ↓reduceIte, q_vu_14, eq_true c_5, q_vu_15, q_v_16, eq_true c_24] at hE
      exact B32 s0 s1 w0 _ _ ls r_p2 x_MLT_p0_3 x_OT_p0 o_p0 o_p1 hE hw hl
    · have r_v_16 : RI v_16 1 1 := rc_neL r_v_16 rl_0 (ti_ne c_24) (by decide)
      refine lv_aload_n hx hb dX3_tellName_27 rfl (lv_at hl 1 rfl) ?_
      refine lv_iconst (v := 3) hx hb dX3_tellName_28 (by decide) ?_
      refine tk_v (va_runV (As := [.int 3]) (rest := []) ⟨hx, hb, hml, hown, hts⟩ (c_X7_refuse__4 l D cy z H.size Ps w0 hw.1 p1 3 s1 h_p1 (rl_3.to (by decide)) o_p1) (cwV 1 hts (gV tw_450 tw_443 tw_444 tw_2 tw_445) rfl rfl rfl (by decide +kernel) ⟨Nat.le_of_ble_eq_true rfl, Nat.le_of_ble_eq_true rfl⟩) (tg_preV hw hK hSD hA (ci := 7) (q := (RX7, TX7, 12)) rfl h_p1 rfl) rfl rfl hl.1 rfl (lv_room (Nat.le_of_ble_eq_true rfl)) dX3_tellName_29 ⟨Nat.le_of_ble_eq_true rfl, Nat.le_of_ble_eq_true rfl⟩) hw hA ⟨by decide, by decide⟩ (fun ws H locs hp_v_17 hw hF9 => ?_)
      have m_u_14 := FLD.over hF9 m_u_14 (by decide)
      have m_u_15 := FLD.over hF9 m_u_15 (by decide)
      have x_MLT_p0_3 := AXC.over hF9 x_MLT_p0_3 (by decide)
      have x_OT_p0 := OTR.over hF9 x_OT_p0 (by decide)
      obtain ⟨hfn, hp_v_17⟩ := hp_v_17
      have o_p0 := OV.over (V := vw_POST) hF9 o_p0 (by decide)
      obtain ⟨sg_18, q_sg_18⟩ : ∃ q9 : OS, (f_X7_refuse__4 (3 : Int32) s1) = q9 := ⟨_, rfl⟩
      have o_p1 : OV vw_TAPE Ps ws p1 sg_18 := by rw [← q_sg_18]; exact hfn.1
      obtain ⟨v_19, m_v_19, r_v_19⟩ := (hp_v_17.1)
      simp only [f_X3_tellName__4, ↓reduceIte, q_vu_14, eq_true c_5, q_vu_15, q_v_16, eq_false c_24, q_sg_18] at hE
      exact B32 s0 sg_18 ws _ _ ls r_p2 x_MLT_p0_3 x_OT_p0 o_p0 o_p1 hE hw hl
  · refine lv_aload_n hx hb dX3_tellName_8 rfl (lv_at hl 1 rfl) ?_
    refine lv_iconst (v := 1) hx hb dX3_tellName_9 (by decide) ?_
    refine tk_v (va_runV (As := [.int 1]) (rest := []) ⟨hx, hb, hml, hown, hts⟩ (c_X7_refuse__4 l D cy z s.heap.size Ps w0 hw.1 p1 1 s1 h_p1 (rl_1.to (by decide)) o_p1) (cwV 1 hts (gV tw_450 tw_443 tw_444 tw_2 tw_445) rfl rfl rfl (by decide +kernel) ⟨Nat.le_of_ble_eq_true rfl, Nat.le_of_ble_eq_true rfl⟩) (tg_preV hw hK hSD hA (ci := 7) (q := (RX7, TX7, 12)) rfl h_p1 rfl) rfl rfl hl.1 rfl (lv_room (Nat.le_of_ble_eq_true rfl)) dX3_tellName_10 ⟨Nat.le_of_ble_eq_true rfl, Nat.le_of_ble_eq_true rfl⟩) hw hA ⟨by decide, by decide⟩ (fun ws H locs hp_v_20 hw hF9 => ?_)
    have m_u_14 := FLD.over hF9 m_u_14 (by decide)
    have x_MLT_p0_3 := AXC.over hF9 x_MLT_p0_3 (by decide)
    have x_OT_p0 := OTR.over hF9 x_OT_p0 (by decide)
    obtain ⟨hfn, hp_v_20⟩ := hp_v_20
    have o_p0 := OV.over (V := vw_POST) hF9 o_p0 (by decide)
    obtain ⟨sg_21, q_sg_21⟩ : ∃ q9 : OS, (f_X7_refuse__4 (1 : Int32) s1) = q9 := ⟨_, rfl⟩
    have o_p1 : OV vw_TAPE Ps ws p1 sg_21 := by rw [← q_sg_21]; exact hfn.1
    obtain ⟨v_22, m_v_22, r_v_22⟩ := (hp_v_20.1)
    refine lv_goto (tgt := 32) hx hb dX3_tellName_13 (by decide) ?_
    simp only [f_X3_tellName__4, ↓reduceIte, q_vu_14, eq_false c_5, q_sg_21] at hE
    exact B32 s0 sg_21 ws _ _ ls r_p2 x_MLT_p0_3 x_OT_p0 o_p0 o_p1 hE hw hl
abbrev wr_X3_readNamed__11 : List (Nat × Nat) := [(7, 5), (7, 6), (7, 7), (7, 8), (7, 9), (7, 10), (7, 11)]
abbrev wa_X3_readNamed__11 : List Nat := [1, 4, 7, 11]
set_option maxHeartbeats 4000000 in
set_option maxRecDepth 100000 in
theorem c_X3_readNamed__11 (l : Launch) (D : va_G) (cy : Nat → ClassId) (z : Nat → Nat) (sz : Nat) (Ps : PSI) (w0 : va_W) (hT : HT cy GG Ps w0) (p0 : Nat) (p1 : Nat) (p2 : Nat) (p3 : Int32) (s0 : OS) (s1 : OS) (s2 : OS) (h_p0 : (p0, 25) ∈ Ps) (h_p1 : (p1, 26) ∈ Ps) (h_p2 : (p2, 24) ∈ Ps) (r_p3 : RI p3 3 3) (x_MLT_p0_3 : AXC 3 1 4 (fun f => (f 3).toInt < 8) Ps w0 p0) (o_p0 : OV vw_POST Ps w0 p0 s0) (o_p1 : OV vw_TAPE Ps w0 p1 s1) (o_p2 : OV vw_WORLD Ps w0 p2 s2) : Met l yX3_readNamed (Cond.code yX3_readNamed cX3_readNamed 5 none :: gT) ({ frames := 4, cells := 0, slots := 0, locals := 800 } : Room) (va_Pc [.ref p0, .ref p1, .ref p2, .int p3] (PRE D cy z w0 sz)) (va_Qv (fun (u : va_W) => ((OTR Ps w0 u p0) ∧ ((OV vw_POST Ps u p0 ((f_X3_readNamed__7 p3 s0 s1 s2).1) ∧ OV vw_TAPE Ps u p1 ((f_X3_readNamed__7 p3 s0 s1 s2).2.1) ∧ OV vw_WORLD Ps u p2 ((f_X3_readNamed__7 p3 s0 s1 s2).2.2) ∧ True) ∧ (True))) ∧ HT cy GG Ps u ∧ FR wr_X3_readNamed__11 wa_X3_readNamed__11 Ps w0 u) (BB D cy (va_A w0 sz) (fun (u : va_W) => u)) (va_A w0 sz)) 0 0 (va_A w0 sz) := by
  refine Met.ofW (cc := cX3_readNamed) (maxL := 5) (ret := none) (by decide) rfl ?_
  intro p e s m args below meth c s₁ B hml hv
  obtain ⟨rfl, hsz, hP, hK, hD0, hSD⟩ := hv
  have hx := B.exec
  have hb := B.bytes
  have hr := B.returns
  have hlocks := B.notSynchronized
  have hts : ∀ w ∈ gT, w.before _ s = true := fun w h => atoms_spec (ws := Cond.code yX3_readNamed cX3_readNamed 5 none :: gT) B.pre w (List.mem_cons_of_mem _ h)
  have hown : s.vm.findClass RX3 = some m.cls := findClass_of_methodNamed B.named
  subst hsz
  have hD := hD0.self (sz := s.heap.size)
  generalize hAe : va_A w0 s.heap.size = A at hD hSD ⊢
  have hA : ∀ q : Nat, s.heap.size ≤ q → A q := fun q h => by rw [← hAe]; exact Or.inr h
  have hl := lv_entry ([.ref p0, .ref p1, .ref p2, .int p3]) (n := 5) (Nat.le_of_ble_eq_true rfl)
  rw [lg_entry_eq]
  generalize (lg_sl ([.ref p0, .ref p1, .ref p2, .int p3]) ++ List.replicate (5 - (lg_sl ([.ref p0, .ref p1, .ref p2, .int p3])).length) Slot.unset).toArray = ls at hl ⊢
  have hl : lv_has ls 5 [(0, .ref p0), (1, .ref p1), (2, .ref p2), (3, .int p3)] := hl
  refine nameQ (fun Q hQ => ?_)
  have hw : WD D cy GG A s wr_X3_readNamed__11 wa_X3_readNamed__11 Ps w0 Ps w0 s.heap [] := ⟨hT, hP, hD, va_S.rf, FR.rf, hT.1, [], (List.append_nil _).symm⟩
  have x_OT_p0 : OTR Ps w0 w0 p0 := OTR.rf
  obtain ⟨R9, hR⟩ : ∃ q9 : OS × OS × OS, f_X3_readNamed__7 p3 s0 s1 s2 = q9 := ⟨_, rfl⟩
  have hE := hR
  refine lv_aload_n hx hb dX3_readNamed_0 rfl (lv_at hl 0 rfl) ?_
  refine lv_aload_n hx hb dX3_readNamed_1 rfl (lv_at hl 1 rfl) ?_
  refine lv_iload_n hx hb dX3_readNamed_2 rfl (lv_at hl 3 rfl) ?_
  refine tk_i (va_runV (As := [.ref p1, .int p3]) (rest := []) ⟨hx, hb, hml, hown, hts⟩ (c_X3_tellName__11 l D cy z s.heap.size Ps w0 hw.1 p0 p1 p3 s0 s1 h_p0 h_p1 r_p3 x_MLT_p0_3 o_p0 o_p1) (cwV 2 hts (gV tw_503 tw_505 ts_7 tw_11 tw_506) rfl rfl rfl (by decide +kernel) ⟨Nat.le_of_ble_eq_true rfl, Nat.le_of_ble_eq_true rfl⟩) (tg_preV hw hK hSD hA (ci := 3) (q := (RX3, TX3, 9)) rfl h_p0 rfl) rfl rfl hl.1 rfl (lv_room (Nat.le_of_ble_eq_true rfl)) dX3_readNamed_3 ⟨Nat.le_of_ble_eq_true rfl, Nat.le_of_ble_eq_true rfl⟩) hw hA ⟨by decide, by decide⟩ (fun v_1 ws H locs hp_v_1 hw hF9 => ?_)
  obtain ⟨hot9, hp_v_1⟩ := hp_v_1
  obtain ⟨hfn, hp_v_1⟩ := hp_v_1
  have o_p2 := OV.over (V := vw_WORLD) hF9 o_p2 (by decide)
  obtain ⟨sg_2, q_sg_2⟩ : ∃ q9 : OS, (f_X3_tellName__4 p3 s0 s1).1 = q9 := ⟨_, rfl⟩
  have o_p0 : OV vw_POST Ps ws p0 sg_2 := by rw [← q_sg_2]; exact hfn.1
  obtain ⟨sg_3, q_sg_3⟩ : ∃ q9 : OS, (f_X3_tellName__4 p3 s0 s1).2.1 = q9 := ⟨_, rfl⟩
  have o_p1 : OV vw_TAPE Ps ws p1 sg_3 := by rw [← q_sg_3]; exact hfn.2.1
  have q_v_1 : (f_X3_tellName__4 p3 s0 s1).2.2 = v_1 := hfn.2.2.1
  have x_OT_p0 : OTR Ps w0 ws p0 := OTR.trans x_OT_p0 hot9
  have r_v_1 : RI v_1 (-1) 7 := hp_v_1.1
  by_cases c9_v_1 : v_1 = 0
  · have r_v_1 : RI v_1 0 0 := by rw [c9_v_1]; exact rl_0
    obtain ⟨v_4, m_v_4, r_v_4⟩ := ((hp_v_1.2.1 c9_v_1).1)
    refine lv_istore (lv' := [(4, .int v_1), (0, .ref p0), (1, .ref p1), (2, .ref p2), (3, .int p3)]) hx hb dX3_readNamed_6 hl (by decide) rfl (fun ls hl => ?_)
    refine lv_iload hx hb dX3_readNamed_8 (lv_at hl 0 rfl) ?_
    refine lv_iconst (v := (-1)) hx hb dX3_readNamed_10 (by decide) ?_
    refine lv_icmp_ne (tgt := 15) hx hb dX3_readNamed_11 (by decide) (fun c_11 => ?_) (fun c_11 => ?_)
    · refine lv_iload_n hx hb dX3_readNamed_15 rfl (lv_at hl 4 rfl) ?_
      refine lv_if_ne (tgt := 36) hx hb dX3_readNamed_16 (by decide) (fun c_16 => ?_) (fun c_16 => ?_)
      · refine lv_iload_n hx hb dX3_readNamed_36 rfl (lv_at hl 4 rfl) ?_
        refine lv_iconst (v := 2) hx hb dX3_readNamed_37 (by decide) ?_
        refine lv_icmp_ne (tgt := 61) hx hb dX3_readNamed_38 (by decide) (fun c_38 => ?_) (fun c_38 => ?_)
        · refine lv_iload_n hx hb dX3_readNamed_61 rfl (lv_at hl 4 rfl) ?_
          refine lv_iconst (v := 3) hx hb dX3_readNamed_62 (by decide) ?_
          refine lv_icmp_ne (tgt := 97) hx hb dX3_readNamed_63 (by decide) (fun c_63 => ?_) (fun c_63 => ?_)
          · exact absurd (r_p3.eq.trans rl_3.eq.symm) ((ti_ne c_63))
          · refine lv_aload_n hx hb dX3_readNamed_66 rfl (lv_at hl 3 rfl) ?_
            refine tg_getN (ci := 8) (ts := ty_WORLD) (C := RX8) (T := TX8) (N := 13) hx hb hts inX8 hown hK hw h_p2 rfl rfl 7 (by decide) (hSD.nest tn_266) (fun _ h9 => h9) (ft := vR 11) rfl dX3_readNamed_67 (fun u_5 hv_u_5 m_u_5 => ?_)
            obtain ⟨vu_5, rfl, h_vu_5⟩ := hv_u_5
            refine lv_iload hx hb dX3_readNamed_70 (lv_at hl 0 rfl) ?_
            refine lv_iconst (v := 0) hx hb dX3_readNamed_72 (by decide) ?_
            refine lv_aload_n hx hb dX3_readNamed_73 rfl (lv_at hl 2 rfl) ?_
            refine lv_aload_n hx hb dX3_readNamed_74 rfl (lv_at hl 1 rfl) ?_
            refine lv_iconst (v := 0) hx hb dX3_readNamed_75 (by decide) ?_
            refine tk_i (va_runV (As := [.ref p0, .int 0]) (rest := [.int 0, .int v_1, .ref vu_5]) ⟨hx, hb, hml, hown, hts⟩ (c_X7_takeName__13 l D cy z H.size Ps ws hw.1 p1 p0 0 v_4 sg_3 sg_2 h_p1 h_p0 rl_0 r_v_4 m_v_4 o_p1 o_p0) (cwV 2 hts (gV tw_464 tw_465 tw_466 tw_2 tw_467) rfl rfl rfl (by decide +kernel) ⟨Nat.le_of_ble_eq_true rfl, Nat.le_of_ble_eq_true rfl⟩) (tg_preV hw hK hSD hA (ci := 7) (q := (RX7, TX7, 12)) rfl h_p1 rfl) rfl rfl hl.1 rfl (lv_room (Nat.le_of_ble_eq_true rfl)) dX3_readNamed_76 ⟨Nat.le_of_ble_eq_true rfl, Nat.le_of_ble_eq_true rfl⟩) hw hA ⟨by decide, by decide⟩ (fun v_6 ws H locs hp_v_6 hw hF9 => ?_)
            have m_u_5 := FLD.over hF9 m_u_5 (by decide)
            have x_OT_p0 := OTR.over hF9 x_OT_p0 (by decide)
            obtain ⟨hfn, hp_v_6⟩ := hp_v_6
            have o_p2 := OV.over (V := vw_WORLD) hF9 o_p2 (by decide)
            obtain ⟨sg_7, q_sg_7⟩ : ∃ q9 : OS, (f_X7_takeName__11 (0 : Int32) sg_3 sg_2).1 = q9 := ⟨_, rfl⟩
            have o_p1 : OV vw_TAPE Ps ws p1 sg_7 := by rw [← q_sg_7]; exact hfn.1
            obtain ⟨sg_8, q_sg_8⟩ : ∃ q9 : OS, (f_X7_takeName__11 (0 : Int32) sg_3 sg_2).2.1 = q9 := ⟨_, rfl⟩
            have o_p0 : OV vw_POST Ps ws p0 sg_8 := by rw [← q_sg_8]; exact hfn.2.1
            have q_v_6 : (f_X7_takeName__11 (0 : Int32) sg_3 sg_2).2.2 = v_6 := hfn.2.2.1
            have r_v_6 : RI v_6 (-1) 5 := hp_v_6.1
            by_cases c9_v_6 : v_6.toInt < 0
            · have r_v_6 : RI v_6 (-1) (-1) := by unfold RI at r_v_6 ⊢; omega
              have x_FLT_p1 := (hp_v_6.2.2.2.2.1 (by omega)).1
              obtain ⟨v_9, m_v_9, r_v_9⟩ := id x_FLT_p1
              refine va_mmax hx hb (hml.trans hl.1.symm) hown (hts _ tw_512) (hts _ tw_489) (hts _ tw_16) (hts _ tw_490) (Nat.le_of_ble_eq_true rfl) (Nat.le_of_ble_eq_true rfl) (Nat.le_of_ble_eq_true rfl) (Nat.le_of_ble_eq_true rfl) dX3_readNamed_79 (lv_topi (fun v_10 e_v_10 => ?_))
              have r_v_10 : RI v_10 0 0 := by rw [e_v_10]; exact ri_max rl_0 r_v_6 (by decide)
              have q_v_10 : mjmax (0 : Int32) v_6 = v_10 := by rw [e_v_10]; rfl
              have mo9 := m_u_5
              refine tg_iast hx hb hK hw h_vu_5 rfl 0 0 r_v_1 (by decide) r_v_10 (by exact fun _ _ _ => by decide) (fun _ _ _ _ _ => trivial) (by decide) dX3_readNamed_82 (fun ws H locs hw hF9 hU9 => ?_)
              have x_OT_p0 := OTR.over hF9 x_OT_p0 (by decide)
              have x_FLT_p1 := FLTp.over hF9 x_FLT_p1 (by decide)
              have m_u_5 := FLD.over hF9 m_u_5 (by decide)
              have m_v_9 := FLD.over hF9 m_v_9 (by decide)
              have o_p0 := OV.over (V := vw_POST) hF9 o_p0 (by decide)
              have o_p1 := OV.over (V := vw_TAPE) hF9 o_p1 (by decide)
              obtain ⟨sg_11, q_sg_11⟩ : ∃ q9 : OS, sA s2 7 (Int32.toNatClampNeg v_1) v_10 = q9 := ⟨_, rfl⟩
              have o_p2 : OV vw_WORLD Ps ws p2 sg_11 := by rw [← q_sg_11]; exact OV.putA (V := vw_WORLD) (t := 11) hF9 hU9 o_p2 mo9 (by decide) (by decide)
              refine lv_aload_n hx hb dX3_readNamed_83 rfl (lv_at hl 1 rfl) ?_
              refine tg_get (ci := 3) (ts := ty_POST) (C := RX3) (T := TX3) (N := 9) hx hb hts inX3 hown hK hw h_p0 rfl rfl 4 (by decide) (hts _ tw_210) (fun _ h9 => h9) (ft := vR 7) rfl dX3_readNamed_84 (fun u_12 hv_u_12 m_u_12 => ?_)
              obtain ⟨vu_12, rfl, h_vu_12⟩ := hv_u_12
              refine lv_iload hx hb dX3_readNamed_87 (lv_at hl 0 rfl) ?_
              refine lv_aload_n hx hb dX3_readNamed_89 rfl (lv_at hl 2 rfl) ?_
              refine lv_iconst (v := 1) hx hb dX3_readNamed_90 (by decide) ?_
              refine lv_bipush (v := 9) hx hb dX3_readNamed_91 (by decide) ?_
              refine tk_ir (va_runV (As := [.int 1, .int 9]) (rest := [.int v_1, .ref vu_12]) ⟨hx, hb, hml, hown, hts⟩ (c_X7_takeNumber__6 l D cy z H.size Ps ws hw.1 p1 1 9 v_9 sg_7 h_p1 (rl_1.to (by decide)) (rl_9.to (by decide)) r_v_9 m_v_9 o_p1) (cwV 2 hts (gV tw_477 tw_478 tw_479 tw_2 tw_480) rfl rfl rfl (by decide +kernel) ⟨Nat.le_of_ble_eq_true rfl, Nat.le_of_ble_eq_true rfl⟩) (tg_preV hw hK hSD hA (ci := 7) (q := (RX7, TX7, 12)) rfl h_p1 rfl) rfl rfl hl.1 rfl (lv_room (Nat.le_of_ble_eq_true rfl)) dX3_readNamed_93 ⟨Nat.le_of_ble_eq_true rfl, Nat.le_of_ble_eq_true rfl⟩) hw hA (fun v_13  H locs hp_v_13 hw => ?_)
              obtain ⟨hfn, hp_v_13⟩ := hp_v_13
              have q_v_13 : (f_X7_takeNumber__6 (1 : Int32) (9 : Int32) sg_7) = v_13 := hfn.1
              have r_v_13 : RI v_13 (-2147483648) 2147483647 := hp_v_13.1
              have mo8 := m_u_12
              have mo9 := m_u_12
              refine tg_iastE hx hb hK hw h_vu_12 rfl 0 0 r_v_1 (by decide) r_v_13 (by exact fun _ _ _ => by decide) (fun _ _ _ _ _ => trivial) (by decide) dX3_readNamed_96 (fun ws H locs hw hF9 hU9 hO9 => ?_)
              have x_FLT_p1 := FLTp.over hF9 x_FLT_p1 (by decide)
              have m_u_5 := FLD.over hF9 m_u_5 (by decide)
              have m_v_9 := FLD.over hF9 m_v_9 (by decide)
              have m_u_12 := FLD.over hF9 m_u_12 (by decide)
              have o_p1 := OV.over (V := vw_TAPE) hF9 o_p1 (by decide)
              have o_p2 := OV.over (V := vw_WORLD) hF9 o_p2 (by decide)
              obtain ⟨sg_14, q_sg_14⟩ : ∃ q9 : OS, sA sg_8 4 (Int32.toNatClampNeg v_1) v_13 = q9 := ⟨_, rfl⟩
              have o_p0 : OV vw_POST Ps ws p0 sg_14 := by rw [← q_sg_14]; exact OV.putA (V := vw_POST) (t := 7) hF9 hU9 o_p0 mo9 (by decide) (by decide)
              have x_OT_p0 : OTR Ps w0 ws p0 := OTR.ast x_OT_p0 hF9 hU9.1 hO9 mo8 (by decide)
              simp only [f_X3_readNamed__7, ↓reduceIte, q_sg_2, q_sg_3, q_v_1, eq_true c9_v_1, eq_false c_11, eq_false c_16, eq_false c_38, eq_true c_63, q_sg_7, q_sg_8, q_v_6, eq_true c9_v_6, q_v_10, q_sg_11, q_v_13, q_sg_14] at hE
              subst hQ
              exact W.vret hx hb hr (fun t ht hW => ⟨⟨ws, rfl, ⟨⟨x_OT_p0, ⟨⟨(by rw [hR, ← hE]; exact o_p0), (by rw [hR, ← hE]; exact o_p1), (by rw [hR, ← hE]; exact o_p2), trivial⟩, trivial⟩⟩, hw.1, hw.2.2.2.2.1⟩, by rw [ht]; exact hw.2.1, va_K.moved hW.alike hK, hw.2.2.1⟩, hw.2.2.2.1.F ht⟩) hw.2.2.2.1.2.2 dX3_readNamed_97
            · have r_v_6 : RI v_6 0 5 := by unfold RI at r_v_6 ⊢; omega
              refine va_mmax hx hb (hml.trans hl.1.symm) hown (hts _ tw_512) (hts _ tw_489) (hts _ tw_16) (hts _ tw_490) (Nat.le_of_ble_eq_true rfl) (Nat.le_of_ble_eq_true rfl) (Nat.le_of_ble_eq_true rfl) (Nat.le_of_ble_eq_true rfl) dX3_readNamed_79 (lv_topi (fun v_15 e_v_15 => ?_))
              have r_v_15 : RI v_15 0 5 := by rw [e_v_15]; exact ri_max rl_0 r_v_6 (by decide)
              have q_v_15 : mjmax (0 : Int32) v_6 = v_15 := by rw [e_v_15]; rfl
              have mo9 := m_u_5
              refine tg_iast hx hb hK hw h_vu_5 rfl 0 0 r_v_1 (by decide) r_v_15 (by exact fun _ _ _ => by decide) (fun _ _ _ _ _ => trivial) (by decide) dX3_readNamed_82 (fun ws H locs hw hF9 hU9 => ?_)
              have x_OT_p0 := OTR.over hF9 x_OT_p0 (by decide)
              have m_u_5 := FLD.over hF9 m_u_5 (by decide)
              have o_p0 := OV.over (V := vw_POST) hF9 o_p0 (by decide)
              have o_p1 := OV.over (V := vw_TAPE) hF9 o_p1 (by decide)
              obtain ⟨sg_16, q_sg_16⟩ : ∃ q9 : OS, sA s2 7 (Int32.toNatClampNeg v_1) v_15 = q9 := ⟨_, rfl⟩
              have o_p2 : OV vw_WORLD Ps ws p2 sg_16 := by rw [← q_sg_16]; exact OV.putA (V := vw_WORLD) (t := 11) hF9 hU9 o_p2 mo9 (by decide) (by decide)
              refine lv_aload_n hx hb dX3_readNamed_83 rfl (lv_at hl 1 rfl) ?_
              refine tg_get (ci := 3) (ts := ty_POST) (C := RX3) (T := TX3) (N := 9) hx hb hts inX3 hown hK hw h_p0 rfl rfl 4 (by decide) (hts _ tw_210) (fun _ h9 => h9) (ft := vR 7) rfl dX3_readNamed_84 (fun u_17 hv_u_17 m_u_17 => ?_)
              obtain ⟨vu_17, rfl, h_vu_17⟩ := hv_u_17
              refine lv_iload hx hb dX3_readNamed_87 (lv_at hl 0 rfl) ?_
              refine lv_aload_n hx hb dX3_readNamed_89 rfl (lv_at hl 2 rfl) ?_
              refine lv_iconst (v := 1) hx hb dX3_readNamed_90 (by decide) ?_
              refine lv_bipush (v := 9) hx hb dX3_readNamed_91 (by decide) ?_
              refine tk_i (va_runV (As := [.int 1, .int 9]) (rest := [.int v_1, .ref vu_17]) ⟨hx, hb, hml, hown, hts⟩ (c_X7_takeNumber__5 l D cy z H.size Ps ws hw.1 p1 1 9 sg_7 h_p1 (rl_1.to (by decide)) (rl_9.to (by decide)) o_p1) (cwV 2 hts (gV tw_477 tw_478 tw_479 tw_2 tw_480) rfl rfl rfl (by decide +kernel) ⟨Nat.le_of_ble_eq_true rfl, Nat.le_of_ble_eq_true rfl⟩) (tg_preV hw hK hSD hA (ci := 7) (q := (RX7, TX7, 12)) rfl h_p1 rfl) rfl rfl hl.1 rfl (lv_room (Nat.le_of_ble_eq_true rfl)) dX3_readNamed_93 ⟨Nat.le_of_ble_eq_true rfl, Nat.le_of_ble_eq_true rfl⟩) hw hA ⟨by decide, by decide⟩ (fun v_18 ws H locs hp_v_18 hw hF9 => ?_)
              have m_u_5 := FLD.over hF9 m_u_5 (by decide)
              have m_u_17 := FLD.over hF9 m_u_17 (by decide)
              have x_OT_p0 := OTR.over hF9 x_OT_p0 (by decide)
              obtain ⟨hfn, hp_v_18⟩ := hp_v_18
              have o_p0 := OV.over (V := vw_POST) hF9 o_p0 (by decide)
              have o_p2 := OV.over (V := vw_WORLD) hF9 o_p2 (by decide)
              obtain ⟨sg_19, q_sg_19⟩ : ∃ q9 : OS, (f_X7_takeNumber__5 (1 : Int32) (9 : Int32) sg_7).1 = q9 := ⟨_, rfl⟩
              have o_p1 : OV vw_TAPE Ps ws p1 sg_19 := by rw [← q_sg_19]; exact hfn.1
              have q_v_18 : (f_X7_takeNumber__5 (1 : Int32) (9 : Int32) sg_7).2 = v_18 := hfn.2.1
              have r_v_18 : RI v_18 (-2147483648) 2147483647 := hp_v_18.1
              have mo8 := m_u_17
              have mo9 := m_u_17
              refine tg_iastE hx hb hK hw h_vu_17 rfl 0 0 r_v_1 (by decide) r_v_18 (by exact fun _ _ _ => by decide) (fun _ _ _ _ _ => trivial) (by decide) dX3_readNamed_96 (fun ws H locs hw hF9 hU9 hO9 => ?_)
              have m_u_5 := FLD.over hF9 m_u_5 (by decide)
              have m_u_17 := FLD.over hF9 m_u_17 (by decide)
              have o_p1 := OV.over (V := vw_TAPE) hF9 o_p1 (by decide)
              have o_p2 := OV.over (V := vw_WORLD) hF9 o_p2 (by decide)
              obtain ⟨sg_20, q_sg_20⟩ : ∃ q9 : OS, sA sg_8 4 (Int32.toNatClampNeg v_1) v_18 = q9 := ⟨_, rfl⟩
              have o_p0 : OV vw_POST Ps ws p0 sg_20 := by rw [← q_sg_20]; exact OV.putA (V := vw_POST) (t := 7) hF9 hU9 o_p0 mo9 (by decide) (by decide)
              have x_OT_p0 : OTR Ps w0 ws p0 := OTR.ast x_OT_p0 hF9 hU9.1 hO9 mo8 (by decide)
              simp only [f_X3_readNamed__7, ↓reduceIte, q_sg_2, q_sg_3, q_v_1, eq_true c9_v_1, eq_false c_11, eq_false c_16, eq_false c_38, eq_true c_63, q_sg_7, q_sg_8, q_v_6, eq_false c9_v_6, q_v_15, q_sg_16, q_sg_19, q_v_18, q_sg_20] at hE
              subst hQ
              exact W.vret hx hb hr (fun t ht hW => ⟨⟨ws, rfl, ⟨⟨x_OT_p0, ⟨⟨(by rw [hR, ← hE]; exact o_p0), (by rw [hR, ← hE]; exact o_p1), (by rw [hR, ← hE]; exact o_p2), trivial⟩, trivial⟩⟩, hw.1, hw.2.2.2.2.1⟩, by rw [ht]; exact hw.2.1, va_K.moved hW.alike hK, hw.2.2.1⟩, hw.2.2.2.1.F ht⟩) hw.2.2.2.1.2.2 dX3_readNamed_97
        · have r_p3 : RI p3 3 2 := rc_eq1 r_p3 rl_2 (ti_eq c_38) (by decide)
          exact (r_p3.no (by decide)).elim
      · have r_p3 : RI p3 3 0 := rc_eq1 r_p3 rl_0 (ti_eq c_16) (by decide)
        exact (r_p3.no (by decide)).elim
    · have r_v_1 : RI v_1 0 (-1) := rc_eq1 r_v_1 rl_m1 (ti_eq c_11) (by decide)
      exact (r_v_1.no (by decide)).elim
  · refine lv_istore (lv' := [(4, .int v_1), (0, .ref p0), (1, .ref p1), (2, .ref p2), (3, .int p3)]) hx hb dX3_readNamed_6 hl (by decide) rfl (fun ls hl => ?_)
    refine lv_iload hx hb dX3_readNamed_8 (lv_at hl 0 rfl) ?_
    refine lv_iconst (v := (-1)) hx hb dX3_readNamed_10 (by decide) ?_
    refine lv_icmp_ne (tgt := 15) hx hb dX3_readNamed_11 (by decide) (fun c_11 => ?_) (fun c_11 => ?_)
    · have r_v_1 : RI v_1 0 7 := rc_neL r_v_1 rl_m1 (ti_ne c_11) (by decide)
      refine lv_iload_n hx hb dX3_readNamed_15 rfl (lv_at hl 4 rfl) ?_
      refine lv_if_ne (tgt := 36) hx hb dX3_readNamed_16 (by decide) (fun c_16 => ?_) (fun c_16 => ?_)
      · refine lv_iload_n hx hb dX3_readNamed_36 rfl (lv_at hl 4 rfl) ?_
        refine lv_iconst (v := 2) hx hb dX3_readNamed_37 (by decide) ?_
        refine lv_icmp_ne (tgt := 61) hx hb dX3_readNamed_38 (by decide) (fun c_38 => ?_) (fun c_38 => ?_)
        · refine lv_iload_n hx hb dX3_readNamed_61 rfl (lv_at hl 4 rfl) ?_
          refine lv_iconst (v := 3) hx hb dX3_readNamed_62 (by decide) ?_
          refine lv_icmp_ne (tgt := 97) hx hb dX3_readNamed_63 (by decide) (fun c_63 => ?_) (fun c_63 => ?_)
          · exact absurd (r_p3.eq.trans rl_3.eq.symm) ((ti_ne c_63))
          · refine lv_aload_n hx hb dX3_readNamed_66 rfl (lv_at hl 3 rfl) ?_
            refine tg_getN (ci := 8) (ts := ty_WORLD) (C := RX8) (T := TX8) (N := 13) hx hb hts inX8 hown hK hw h_p2 rfl rfl 7 (by decide) (hSD.nest tn_266) (fun _ h9 => h9) (ft := vR 11) rfl dX3_readNamed_67 (fun u_21 hv_u_21 m_u_21 => ?_)
            obtain ⟨vu_21, rfl, h_vu_21⟩ := hv_u_21
            refine lv_iload hx hb dX3_readNamed_70 (lv_at hl 0 rfl) ?_
            refine lv_iconst (v := 0) hx hb dX3_readNamed_72 (by decide) ?_
            refine lv_aload_n hx hb dX3_readNamed_73 rfl (lv_at hl 2 rfl) ?_
            refine lv_aload_n hx hb dX3_readNamed_74 rfl (lv_at hl 1 rfl) ?_
            refine lv_iconst (v := 0) hx hb dX3_readNamed_75 (by decide) ?_
            refine tk_i (va_runV (As := [.ref p0, .int 0]) (rest := [.int 0, .int v_1, .ref vu_21]) ⟨hx, hb, hml, hown, hts⟩ (c_X7_takeName__14 l D cy z H.size Ps ws hw.1 p1 p0 0 sg_3 sg_2 h_p1 h_p0 rl_0 o_p1 o_p0) (cwV 2 hts (gV tw_464 tw_465 tw_466 tw_2 tw_467) rfl rfl rfl (by decide +kernel) ⟨Nat.le_of_ble_eq_true rfl, Nat.le_of_ble_eq_true rfl⟩) (tg_preV hw hK hSD hA (ci := 7) (q := (RX7, TX7, 12)) rfl h_p1 rfl) rfl rfl hl.1 rfl (lv_room (Nat.le_of_ble_eq_true rfl)) dX3_readNamed_76 ⟨Nat.le_of_ble_eq_true rfl, Nat.le_of_ble_eq_true rfl⟩) hw hA ⟨by decide, by decide⟩ (fun v_22 ws H locs hp_v_22 hw hF9 => ?_)
            have m_u_21 := FLD.over hF9 m_u_21 (by decide)
            have x_OT_p0 := OTR.over hF9 x_OT_p0 (by decide)
            obtain ⟨hfn, hp_v_22⟩ := hp_v_22
            have o_p2 := OV.over (V := vw_WORLD) hF9 o_p2 (by decide)
            obtain ⟨sg_23, q_sg_23⟩ : ∃ q9 : OS, (f_X7_takeName__12 (0 : Int32) sg_3 sg_2).1 = q9 := ⟨_, rfl⟩
            have o_p1 : OV vw_TAPE Ps ws p1 sg_23 := by rw [← q_sg_23]; exact hfn.1
            obtain ⟨sg_24, q_sg_24⟩ : ∃ q9 : OS, (f_X7_takeName__12 (0 : Int32) sg_3 sg_2).2.1 = q9 := ⟨_, rfl⟩
            have o_p0 : OV vw_POST Ps ws p0 sg_24 := by rw [← q_sg_24]; exact hfn.2.1
            have q_v_22 : (f_X7_takeName__12 (0 : Int32) sg_3 sg_2).2.2 = v_22 := hfn.2.2.1
            have r_v_22 : RI v_22 (-1) 5 := hp_v_22.1
            by_cases c9_v_22 : v_22.toInt < 0
            · have r_v_22 : RI v_22 (-1) (-1) := by unfold RI at r_v_22 ⊢; omega
              have x_FLT_p1 := (hp_v_22.2.2.2.2.1 (by omega)).1
              obtain ⟨v_25, m_v_25, r_v_25⟩ := id x_FLT_p1
              refine va_mmax hx hb (hml.trans hl.1.symm) hown (hts _ tw_512) (hts _ tw_489) (hts _ tw_16) (hts _ tw_490) (Nat.le_of_ble_eq_true rfl) (Nat.le_of_ble_eq_true rfl) (Nat.le_of_ble_eq_true rfl) (Nat.le_of_ble_eq_true rfl) dX3_readNamed_79 (lv_topi (fun v_26 e_v_26 => ?_))
              have r_v_26 : RI v_26 0 0 := by rw [e_v_26]; exact ri_max rl_0 r_v_22 (by decide)
              have q_v_26 : mjmax (0 : Int32) v_22 = v_26 := by rw [e_v_26]; rfl
              have mo9 := m_u_21
              refine tg_iast hx hb hK hw h_vu_21 rfl 0 7 r_v_1 (by decide) r_v_26 (by exact fun _ _ _ => by decide) (fun _ _ _ _ _ => trivial) (by decide) dX3_readNamed_82 (fun ws H locs hw hF9 hU9 => ?_)
              have x_OT_p0 := OTR.over hF9 x_OT_p0 (by decide)
              have x_FLT_p1 := FLTp.over hF9 x_FLT_p1 (by decide)
              have m_u_21 := FLD.over hF9 m_u_21 (by decide)
              have m_v_25 := FLD.over hF9 m_v_25 (by decide)
              have o_p0 := OV.over (V := vw_POST) hF9 o_p0 (by decide)
              have o_p1 := OV.over (V := vw_TAPE) hF9 o_p1 (by decide)
              obtain ⟨sg_27, q_sg_27⟩ : ∃ q9 : OS, sA s2 7 (Int32.toNatClampNeg v_1) v_26 = q9 := ⟨_, rfl⟩
              have o_p2 : OV vw_WORLD Ps ws p2 sg_27 := by rw [← q_sg_27]; exact OV.putA (V := vw_WORLD) (t := 11) hF9 hU9 o_p2 mo9 (by decide) (by decide)
              refine lv_aload_n hx hb dX3_readNamed_83 rfl (lv_at hl 1 rfl) ?_
              refine tg_get (ci := 3) (ts := ty_POST) (C := RX3) (T := TX3) (N := 9) hx hb hts inX3 hown hK hw h_p0 rfl rfl 4 (by decide) (hts _ tw_210) (fun _ h9 => h9) (ft := vR 7) rfl dX3_readNamed_84 (fun u_28 hv_u_28 m_u_28 => ?_)
              obtain ⟨vu_28, rfl, h_vu_28⟩ := hv_u_28
              refine lv_iload hx hb dX3_readNamed_87 (lv_at hl 0 rfl) ?_
              refine lv_aload_n hx hb dX3_readNamed_89 rfl (lv_at hl 2 rfl) ?_
              refine lv_iconst (v := 1) hx hb dX3_readNamed_90 (by decide) ?_
              refine lv_bipush (v := 9) hx hb dX3_readNamed_91 (by decide) ?_
              refine tk_ir (va_runV (As := [.int 1, .int 9]) (rest := [.int v_1, .ref vu_28]) ⟨hx, hb, hml, hown, hts⟩ (c_X7_takeNumber__6 l D cy z H.size Ps ws hw.1 p1 1 9 v_25 sg_23 h_p1 (rl_1.to (by decide)) (rl_9.to (by decide)) r_v_25 m_v_25 o_p1) (cwV 2 hts (gV tw_477 tw_478 tw_479 tw_2 tw_480) rfl rfl rfl (by decide +kernel) ⟨Nat.le_of_ble_eq_true rfl, Nat.le_of_ble_eq_true rfl⟩) (tg_preV hw hK hSD hA (ci := 7) (q := (RX7, TX7, 12)) rfl h_p1 rfl) rfl rfl hl.1 rfl (lv_room (Nat.le_of_ble_eq_true rfl)) dX3_readNamed_93 ⟨Nat.le_of_ble_eq_true rfl, Nat.le_of_ble_eq_true rfl⟩) hw hA (fun v_29  H locs hp_v_29 hw => ?_)
              obtain ⟨hfn, hp_v_29⟩ := hp_v_29
              have q_v_29 : (f_X7_takeNumber__6 (1 : Int32) (9 : Int32) sg_23) = v_29 := hfn.1
              have r_v_29 : RI v_29 (-2147483648) 2147483647 := hp_v_29.1
              have mo8 := m_u_28
              have mo9 := m_u_28
              refine tg_iastE hx hb hK hw h_vu_28 rfl 0 7 r_v_1 (by decide) r_v_29 (by exact fun _ _ _ => by decide) (fun _ _ _ _ _ => trivial) (by decide) dX3_readNamed_96 (fun ws H locs hw hF9 hU9 hO9 => ?_)
              have x_FLT_p1 := FLTp.over hF9 x_FLT_p1 (by decide)
              have m_u_21 := FLD.over hF9 m_u_21 (by decide)
              have m_v_25 := FLD.over hF9 m_v_25 (by decide)
              have m_u_28 := FLD.over hF9 m_u_28 (by decide)
              have o_p1 := OV.over (V := vw_TAPE) hF9 o_p1 (by decide)
              have o_p2 := OV.over (V := vw_WORLD) hF9 o_p2 (by decide)
              obtain ⟨sg_30, q_sg_30⟩ : ∃ q9 : OS, sA sg_24 4 (Int32.toNatClampNeg v_1) v_29 = q9 := ⟨_, rfl⟩
              have o_p0 : OV vw_POST Ps ws p0 sg_30 := by rw [← q_sg_30]; exact OV.putA (V := vw_POST) (t := 7) hF9 hU9 o_p0 mo9 (by decide) (by decide)
              have x_OT_p0 : OTR Ps w0 ws p0 := OTR.ast x_OT_p0 hF9 hU9.1 hO9 mo8 (by decide)
              simp only [f_X3_readNamed__7, ↓reduceIte, q_sg_2, q_sg_3, q_v_1, eq_false c9_v_1, eq_false c_11, eq_false c_16, eq_false c_38, eq_true c_63, q_sg_23, q_sg_24, q_v_22, eq_true c9_v_22, q_v_26, q_sg_27, q_v_29, q_sg_30] at hE
              subst hQ
              exact W.vret hx hb hr (fun t ht hW => ⟨⟨ws, rfl, ⟨⟨x_OT_p0, ⟨⟨(by rw [hR, ← hE]; exact o_p0), (by rw [hR, ← hE]; exact o_p1), (by rw [hR, ← hE]; exact o_p2), trivial⟩, trivial⟩⟩, hw.1, hw.2.2.2.2.1⟩, by rw [ht]; exact hw.2.1, va_K.moved hW.alike hK, hw.2.2.1⟩, hw.2.2.2.1.F ht⟩) hw.2.2.2.1.2.2 dX3_readNamed_97
            · have r_v_22 : RI v_22 0 5 := by unfold RI at r_v_22 ⊢; omega
              refine va_mmax hx hb (hml.trans hl.1.symm) hown (hts _ tw_512) (hts _ tw_489) (hts _ tw_16) (hts _ tw_490) (Nat.le_of_ble_eq_true rfl) (Nat.le_of_ble_eq_true rfl) (Nat.le_of_ble_eq_true rfl) (Nat.le_of_ble_eq_true rfl) dX3_readNamed_79 (lv_topi (fun v_31 e_v_31 => ?_))
              have r_v_31 : RI v_31 0 5 := by rw [e_v_31]; exact ri_max rl_0 r_v_22 (by decide)
              have q_v_31 : mjmax (0 : Int32) v_22 = v_31 := by rw [e_v_31]; rfl
              have mo9 := m_u_21
              refine tg_iast hx hb hK hw h_vu_21 rfl 0 7 r_v_1 (by decide) r_v_31 (by exact fun _ _ _ => by decide) (fun _ _ _ _ _ => trivial) (by decide) dX3_readNamed_82 (fun ws H locs hw hF9 hU9 => ?_)
              have x_OT_p0 := OTR.over hF9 x_OT_p0 (by decide)
              have m_u_21 := FLD.over hF9 m_u_21 (by decide)
              have o_p0 := OV.over (V := vw_POST) hF9 o_p0 (by decide)
              have o_p1 := OV.over (V := vw_TAPE) hF9 o_p1 (by decide)
              obtain ⟨sg_32, q_sg_32⟩ : ∃ q9 : OS, sA s2 7 (Int32.toNatClampNeg v_1) v_31 = q9 := ⟨_, rfl⟩
              have o_p2 : OV vw_WORLD Ps ws p2 sg_32 := by rw [← q_sg_32]; exact OV.putA (V := vw_WORLD) (t := 11) hF9 hU9 o_p2 mo9 (by decide) (by decide)
              refine lv_aload_n hx hb dX3_readNamed_83 rfl (lv_at hl 1 rfl) ?_
              refine tg_get (ci := 3) (ts := ty_POST) (C := RX3) (T := TX3) (N := 9) hx hb hts inX3 hown hK hw h_p0 rfl rfl 4 (by decide) (hts _ tw_210) (fun _ h9 => h9) (ft := vR 7) rfl dX3_readNamed_84 (fun u_33 hv_u_33 m_u_33 => ?_)
              obtain ⟨vu_33, rfl, h_vu_33⟩ := hv_u_33
              refine lv_iload hx hb dX3_readNamed_87 (lv_at hl 0 rfl) ?_
              refine lv_aload_n hx hb dX3_readNamed_89 rfl (lv_at hl 2 rfl) ?_
              refine lv_iconst (v := 1) hx hb dX3_readNamed_90 (by decide) ?_
              refine lv_bipush (v := 9) hx hb dX3_readNamed_91 (by decide) ?_
              refine tk_i (va_runV (As := [.int 1, .int 9]) (rest := [.int v_1, .ref vu_33]) ⟨hx, hb, hml, hown, hts⟩ (c_X7_takeNumber__5 l D cy z H.size Ps ws hw.1 p1 1 9 sg_23 h_p1 (rl_1.to (by decide)) (rl_9.to (by decide)) o_p1) (cwV 2 hts (gV tw_477 tw_478 tw_479 tw_2 tw_480) rfl rfl rfl (by decide +kernel) ⟨Nat.le_of_ble_eq_true rfl, Nat.le_of_ble_eq_true rfl⟩) (tg_preV hw hK hSD hA (ci := 7) (q := (RX7, TX7, 12)) rfl h_p1 rfl) rfl rfl hl.1 rfl (lv_room (Nat.le_of_ble_eq_true rfl)) dX3_readNamed_93 ⟨Nat.le_of_ble_eq_true rfl, Nat.le_of_ble_eq_true rfl⟩) hw hA ⟨by decide, by decide⟩ (fun v_34 ws H locs hp_v_34 hw hF9 => ?_)
              have m_u_21 := FLD.over hF9 m_u_21 (by decide)
              have m_u_33 := FLD.over hF9 m_u_33 (by decide)
              have x_OT_p0 := OTR.over hF9 x_OT_p0 (by decide)
              obtain ⟨hfn, hp_v_34⟩ := hp_v_34
              have o_p0 := OV.over (V := vw_POST) hF9 o_p0 (by decide)
              have o_p2 := OV.over (V := vw_WORLD) hF9 o_p2 (by decide)
              obtain ⟨sg_35, q_sg_35⟩ : ∃ q9 : OS, (f_X7_takeNumber__5 (1 : Int32) (9 : Int32) sg_23).1 = q9 := ⟨_, rfl⟩
              have o_p1 : OV vw_TAPE Ps ws p1 sg_35 := by rw [← q_sg_35]; exact hfn.1
              have q_v_34 : (f_X7_takeNumber__5 (1 : Int32) (9 : Int32) sg_23).2 = v_34 := hfn.2.1
              have r_v_34 : RI v_34 (-2147483648) 2147483647 := hp_v_34.1
              have mo8 := m_u_33
              have mo9 := m_u_33
              refine tg_iastE hx hb hK hw h_vu_33 rfl 0 7 r_v_1 (by decide) r_v_34 (by exact fun _ _ _ => by decide) (fun _ _ _ _ _ => trivial) (by decide) dX3_readNamed_96 (fun ws H locs hw hF9 hU9 hO9 => ?_)
              have m_u_21 := FLD.over hF9 m_u_21 (by decide)
              have m_u_33 := FLD.over hF9 m_u_33 (by decide)
              have o_p1 := OV.over (V := vw_TAPE) hF9 o_p1 (by decide)
              have o_p2 := OV.over (V := vw_WORLD) hF9 o_p2 (by decide)
              obtain ⟨sg_36, q_sg_36⟩ : ∃ q9 : OS, sA sg_24 4 (Int32.toNatClampNeg v_1) v_34 = q9 := ⟨_, rfl⟩
              have o_p0 : OV vw_POST Ps ws p0 sg_36 := by rw [← q_sg_36]; exact OV.putA (V := vw_POST) (t := 7) hF9 hU9 o_p0 mo9 (by decide) (by decide)
              have x_OT_p0 : OTR Ps w0 ws p0 := OTR.ast x_OT_p0 hF9 hU9.1 hO9 mo8 (by decide)
              simp only [f_X3_readNamed__7, ↓reduceIte, q_sg_2, q_sg_3, q_v_1, eq_false c9_v_1, eq_false c_11, eq_false c_16, eq_false c_38, eq_true c_63, q_sg_23, q_sg_24, q_v_22, eq_false c9_v_22, q_v_31, q_sg_32, q_sg_35, q_v_34, q_sg_36] at hE
              subst hQ
              exact W.vret hx hb hr (fun t ht hW => ⟨⟨ws, rfl, ⟨⟨x_OT_p0, ⟨⟨(by rw [hR, ← hE]; exact o_p0), (by rw [hR, ← hE]; exact o_p1), (by rw [hR, ← hE]; exact o_p2), trivial⟩, trivial⟩⟩, hw.1, hw.2.2.2.2.1⟩, by rw [ht]; exact hw.2.1, va_K.moved hW.alike hK, hw.2.2.1⟩, hw.2.2.2.1.F ht⟩) hw.2.2.2.1.2.2 dX3_readNamed_97
        · have r_p3 : RI p3 3 2 := rc_eq1 r_p3 rl_2 (ti_eq c_38) (by decide)
          exact (r_p3.no (by decide)).elim
      · have r_p3 : RI p3 3 0 := rc_eq1 r_p3 rl_0 (ti_eq c_16) (by decide)
        exact (r_p3.no (by decide)).elim
    · have r_v_1 : RI v_1 (-1) (-1) := rc_eq1 r_v_1 rl_m1 (ti_eq c_11) (by decide)
      simp only [f_X3_readNamed__7, ↓reduceIte, q_sg_2, q_sg_3, q_v_1, eq_false c9_v_1, eq_true c_11] at hE
      subst hQ
      exact W.vret hx hb hr (fun t ht hW => ⟨⟨ws, rfl, ⟨⟨x_OT_p0, ⟨⟨(by rw [hR, ← hE]; exact o_p0), (by rw [hR, ← hE]; exact o_p1), (by rw [hR, ← hE]; exact o_p2), trivial⟩, trivial⟩⟩, hw.1, hw.2.2.2.2.1⟩, by rw [ht]; exact hw.2.1, va_K.moved hW.alike hK, hw.2.2.1⟩, hw.2.2.2.1.F ht⟩) hw.2.2.2.1.2.2 dX3_readNamed_14
abbrev wr_X3_beginsLine__28 : List (Nat × Nat) := [(7, 5), (7, 6), (7, 7), (7, 8), (7, 9)]
abbrev wa_X3_beginsLine__28 : List Nat := []
set_option maxHeartbeats 4000000 in
set_option maxRecDepth 100000 in
theorem c_X3_beginsLine__28 (l : Launch) (D : va_G) (cy : Nat → ClassId) (z : Nat → Nat) (sz : Nat) (Ps : PSI) (w0 : va_W) (hT : HT cy GG Ps w0) (p0 : Nat) (p1 : Nat) (p2 : Int32) (f1_10 : Int32) (s0 : OS) (s1 : OS) (h_p0 : (p0, 25) ∈ Ps) (h_p1 : (p1, 26) ∈ Ps) (r_p2 : RI p2 132 132) (r_f1_10 : RI f1_10 0 0) (m_f1_10 : FLD w0 p1 7 10 (.int f1_10)) (o_p0 : OV vw_POST Ps w0 p0 s0) (o_p1 : OV vw_TAPE Ps w0 p1 s1) : Met l yX3_beginsLine (Cond.code yX3_beginsLine cX3_beginsLine 3 (some .boolean) :: gT) ({ frames := 3, cells := 0, slots := 0, locals := 600 } : Room) (va_Pc [.ref p0, .ref p1, .int p2] (PRE D cy z w0 sz)) (va_Qi (fun (r : Int32) (u : va_W) => ((OTR Ps w0 u p0) ∧ ((OV vw_POST Ps u p0 ((f_X3_beginsLine__17 p2 s0 s1).1) ∧ OV vw_TAPE Ps u p1 ((f_X3_beginsLine__17 p2 s0 s1).2.1) ∧ (f_X3_beginsLine__17 p2 s0 s1).2.2 = r ∧ True) ∧ (RI r 1 1 ∧ (r = 0 → True) ∧ (¬ r = 0 → (∃ v9 : Int32, FLD u p1 7 10 (.int v9) ∧ RI v9 0 0) ∧ True)))) ∧ HT cy GG Ps u ∧ FR wr_X3_beginsLine__28 wa_X3_beginsLine__28 Ps w0 u) (BB D cy (va_A w0 sz) (fun (u : va_W) => u)) (va_A w0 sz)) 0 0 (va_A w0 sz) := by
  refine Met.ofW (cc := cX3_beginsLine) (maxL := 3) (ret := (some .boolean)) (by decide) rfl ?_
  intro p e s m args below meth c s₁ B hml hv
  obtain ⟨rfl, hsz, hP, hK, hD0, hSD⟩ := hv
  have hx := B.exec
  have hb := B.bytes
  have hr := B.returns
  have hlocks := B.notSynchronized
  have hts : ∀ w ∈ gT, w.before _ s = true := fun w h => atoms_spec (ws := Cond.code yX3_beginsLine cX3_beginsLine 3 (some .boolean) :: gT) B.pre w (List.mem_cons_of_mem _ h)
  have hown : s.vm.findClass RX3 = some m.cls := findClass_of_methodNamed B.named
  subst hsz
  have hD := hD0.self (sz := s.heap.size)
  generalize hAe : va_A w0 s.heap.size = A at hD hSD ⊢
  have hA : ∀ q : Nat, s.heap.size ≤ q → A q := fun q h => by rw [← hAe]; exact Or.inr h
  have hl := lv_entry ([.ref p0, .ref p1, .int p2]) (n := 3) (Nat.le_of_ble_eq_true rfl)
  rw [lg_entry_eq]
  generalize (lg_sl ([.ref p0, .ref p1, .int p2]) ++ List.replicate (3 - (lg_sl ([.ref p0, .ref p1, .int p2])).length) Slot.unset).toArray = ls at hl ⊢
  have hl : lv_has ls 3 [(0, .ref p0), (1, .ref p1), (2, .int p2)] := hl
  refine nameQ (fun Q hQ => ?_)
  have hw : WD D cy GG A s wr_X3_beginsLine__28 wa_X3_beginsLine__28 Ps w0 Ps w0 s.heap [] := ⟨hT, hP, hD, va_S.rf, FR.rf, hT.1, [], (List.append_nil _).symm⟩
  have x_OT_p0 : OTR Ps w0 w0 p0 := OTR.rf
  obtain ⟨R9, hR⟩ : ∃ q9 : OS × OS × Int32, f_X3_beginsLine__17 p2 s0 s1 = q9 := ⟨_, rfl⟩
  have hE := hR
  refine lv_iload_n hx hb dX3_beginsLine_0 rfl (lv_at hl 2 rfl) ?_
  refine lv_sipush (v := 128) hx hb dX3_beginsLine_1 (by decide) ?_
  refine lv_icmp_lt (tgt := 14) hx hb dX3_beginsLine_4 (by decide) (fun c_4 => ?_) (fun c_4 => ?_)
  · have r_p2 : RI p2 132 127 := rc_lt1 r_p2 rl_128 (ti_lt c_4) (by decide)
    exact (r_p2.no (by decide)).elim
  · refine lv_iload_n hx hb dX3_beginsLine_7 rfl (lv_at hl 2 rfl) ?_
    refine lv_sipush (v := 136) hx hb dX3_beginsLine_8 (by decide) ?_
    refine lv_icmp_le (tgt := 22) hx hb dX3_beginsLine_11 (by decide) (fun c_11 => ?_) (fun c_11 => ?_)
    · refine lv_iload_n hx hb dX3_beginsLine_22 rfl (lv_at hl 2 rfl) ?_
      refine lv_sipush (v := 131) hx hb dX3_beginsLine_23 (by decide) ?_
      refine lv_icmp_gt (tgt := 59) hx hb dX3_beginsLine_26 (by decide) (fun c_26 => ?_) (fun c_26 => ?_)
      · refine lv_iload_n hx hb dX3_beginsLine_59 rfl (lv_at hl 2 rfl) ?_
        refine lv_sipush (v := 135) hx hb dX3_beginsLine_60 (by decide) ?_
        refine lv_icmp_ne (tgt := 73) hx hb dX3_beginsLine_63 (by decide) (fun c_63 => ?_) (fun c_63 => ?_)
        · refine lv_iload_n hx hb dX3_beginsLine_73 rfl (lv_at hl 2 rfl) ?_
          refine lv_sipush (v := 136) hx hb dX3_beginsLine_74 (by decide) ?_
          refine lv_icmp_ne (tgt := 92) hx hb dX3_beginsLine_77 (by decide) (fun c_77 => ?_) (fun c_77 => ?_)
          · refine lv_aload_n hx hb dX3_beginsLine_92 rfl (lv_at hl 1 rfl) ?_
            refine tk_v (va_runV (As := []) (rest := []) ⟨hx, hb, hml, hown, hts⟩ (c_X7_pass__5 l D cy z s.heap.size Ps w0 hw.1 p1 f1_10 s1 h_p1 r_f1_10 m_f1_10 o_p1) (cwV 0 hts (gV tw_451 tw_425 tw_426 tw_2 tw_427) rfl rfl rfl (by decide +kernel) ⟨Nat.le_of_ble_eq_true rfl, Nat.le_of_ble_eq_true rfl⟩) (tg_preV hw hK hSD hA (ci := 7) (q := (RX7, TX7, 12)) rfl h_p1 rfl) rfl rfl hl.1 rfl (lv_room (Nat.le_of_ble_eq_true rfl)) dX3_beginsLine_93 ⟨Nat.le_of_ble_eq_true rfl, Nat.le_of_ble_eq_true rfl⟩) hw hA ⟨by decide, by decide⟩ (fun ws H locs hp_v_1 hw hF9 => ?_)
            have m_f1_10 := FLD.over hF9 m_f1_10 (by decide)
            have x_OT_p0 := OTR.over hF9 x_OT_p0 (by decide)
            obtain ⟨hfn, hp_v_1⟩ := hp_v_1
            have o_p0 := OV.over (V := vw_POST) hF9 o_p0 (by decide)
            obtain ⟨sg_2, q_sg_2⟩ : ∃ q9 : OS, (f_X7_pass__5 s1) = q9 := ⟨_, rfl⟩
            have o_p1 : OV vw_TAPE Ps ws p1 sg_2 := by rw [← q_sg_2]; exact hfn.1
            obtain ⟨v_3, m_v_3, r_v_3⟩ := (hp_v_1.1)
            refine lv_aload_n hx hb dX3_beginsLine_96 rfl (lv_at hl 1 rfl) ?_
            refine tg_memN (ci := 7) (C := RX7) (T := TX7) (N := 12) hx hb hts inX7 hown hK hw 10 m_v_3 rfl (by decide) (hSD.nest tn_105) (fun _ h9 => h9) dX3_beginsLine_97 ?_
            have q_v_3 : sg_2.1 10 = v_3 := OV.eqI (V := vw_TAPE) hw.2.2.1 o_p1 m_v_3 (by decide)
            refine lv_if_ne (tgt := 107) hx hb dX3_beginsLine_100 (by decide) (fun c_100 => ?_) (fun c_100 => ?_)
            · exact absurd (r_v_3.eq.trans rl_0.eq.symm) ((ti_ne c_100))
            · refine lv_iconst (v := 1) hx hb dX3_beginsLine_103 (by decide) ?_
              refine lv_goto (tgt := 108) hx hb dX3_beginsLine_104 (by decide) ?_
              simp only [f_X3_beginsLine__17, ↓reduceIte, eq_false c_4, eq_true c_11, eq_true c_26, eq_false c_63, eq_false c_77, q_sg_2, q_v_3, eq_true c_100] at hE
              subst hQ
              exact W.zret (v := 1) hx hb hr (rfl) (fun t ht hW => ⟨⟨1, ws, rfl, ⟨⟨x_OT_p0, ⟨(by rw [hR, ← hE]; exact o_p0), (by rw [hR, ← hE]; exact o_p1), (by rw [hR, ← hE]), trivial⟩, rl_1.to (by decide), (fun _ => trivial), (fun h0 => ⟨⟨_, m_v_3, r_v_3⟩, trivial⟩)⟩, hw.1, hw.2.2.2.2.1⟩, by rw [ht]; exact hw.2.1, va_K.moved hW.alike hK, hw.2.2.1⟩, hw.2.2.2.1.F ht⟩) hw.2.2.2.1.2.2 dX3_beginsLine_108
          · have r_p2 : RI p2 136 132 := rc_eq1 r_p2 rl_136 (ti_eq c_77) (by decide)
            exact (r_p2.no (by decide)).elim
        · have r_p2 : RI p2 135 132 := rc_eq1 r_p2 rl_135 (ti_eq c_63) (by decide)
          exact (r_p2.no (by decide)).elim
      · have r_p2 : RI p2 132 131 := rc_le1 r_p2 rl_131 (ti_nlt c_26) (by decide)
        exact (r_p2.no (by decide)).elim
    · have r_p2 : RI p2 137 132 := rc_lt2 rl_136 r_p2 (ti_nle c_11) (by decide)
      exact (r_p2.no (by decide)).elim
abbrev wr_X3_beginsLine__29 : List (Nat × Nat) := [(7, 5), (7, 6), (7, 7), (7, 8), (7, 9)]
abbrev wa_X3_beginsLine__29 : List Nat := []
set_option maxHeartbeats 4000000 in
set_option maxRecDepth 100000 in
theorem c_X3_beginsLine__29 (l : Launch) (D : va_G) (cy : Nat → ClassId) (z : Nat → Nat) (sz : Nat) (Ps : PSI) (w0 : va_W) (hT : HT cy GG Ps w0) (p0 : Nat) (p1 : Nat) (p2 : Int32) (f1_10 : Int32) (s0 : OS) (s1 : OS) (h_p0 : (p0, 25) ∈ Ps) (h_p1 : (p1, 26) ∈ Ps) (r_p2 : RI p2 133 133) (r_f1_10 : RI f1_10 0 0) (m_f1_10 : FLD w0 p1 7 10 (.int f1_10)) (o_p0 : OV vw_POST Ps w0 p0 s0) (o_p1 : OV vw_TAPE Ps w0 p1 s1) : Met l yX3_beginsLine (Cond.code yX3_beginsLine cX3_beginsLine 3 (some .boolean) :: gT) ({ frames := 3, cells := 0, slots := 0, locals := 600 } : Room) (va_Pc [.ref p0, .ref p1, .int p2] (PRE D cy z w0 sz)) (va_Qi (fun (r : Int32) (u : va_W) => ((OTR Ps w0 u p0) ∧ ((OV vw_POST Ps u p0 ((f_X3_beginsLine__17 p2 s0 s1).1) ∧ OV vw_TAPE Ps u p1 ((f_X3_beginsLine__17 p2 s0 s1).2.1) ∧ (f_X3_beginsLine__17 p2 s0 s1).2.2 = r ∧ True) ∧ (RI r 1 1 ∧ (r = 0 → True) ∧ (¬ r = 0 → (∃ v9 : Int32, FLD u p1 7 10 (.int v9) ∧ RI v9 0 0) ∧ True)))) ∧ HT cy GG Ps u ∧ FR wr_X3_beginsLine__29 wa_X3_beginsLine__29 Ps w0 u) (BB D cy (va_A w0 sz) (fun (u : va_W) => u)) (va_A w0 sz)) 0 0 (va_A w0 sz) := by
  refine Met.ofW (cc := cX3_beginsLine) (maxL := 3) (ret := (some .boolean)) (by decide) rfl ?_
  intro p e s m args below meth c s₁ B hml hv
  obtain ⟨rfl, hsz, hP, hK, hD0, hSD⟩ := hv
  have hx := B.exec
  have hb := B.bytes
  have hr := B.returns
  have hlocks := B.notSynchronized
  have hts : ∀ w ∈ gT, w.before _ s = true := fun w h => atoms_spec (ws := Cond.code yX3_beginsLine cX3_beginsLine 3 (some .boolean) :: gT) B.pre w (List.mem_cons_of_mem _ h)
  have hown : s.vm.findClass RX3 = some m.cls := findClass_of_methodNamed B.named
  subst hsz
  have hD := hD0.self (sz := s.heap.size)
  generalize hAe : va_A w0 s.heap.size = A at hD hSD ⊢
  have hA : ∀ q : Nat, s.heap.size ≤ q → A q := fun q h => by rw [← hAe]; exact Or.inr h
  have hl := lv_entry ([.ref p0, .ref p1, .int p2]) (n := 3) (Nat.le_of_ble_eq_true rfl)
  rw [lg_entry_eq]
  generalize (lg_sl ([.ref p0, .ref p1, .int p2]) ++ List.replicate (3 - (lg_sl ([.ref p0, .ref p1, .int p2])).length) Slot.unset).toArray = ls at hl ⊢
  have hl : lv_has ls 3 [(0, .ref p0), (1, .ref p1), (2, .int p2)] := hl
  refine nameQ (fun Q hQ => ?_)
  have hw : WD D cy GG A s wr_X3_beginsLine__29 wa_X3_beginsLine__29 Ps w0 Ps w0 s.heap [] := ⟨hT, hP, hD, va_S.rf, FR.rf, hT.1, [], (List.append_nil _).symm⟩
  have x_OT_p0 : OTR Ps w0 w0 p0 := OTR.rf
  obtain ⟨R9, hR⟩ : ∃ q9 : OS × OS × Int32, f_X3_beginsLine__17 p2 s0 s1 = q9 := ⟨_, rfl⟩
  have hE := hR
  refine lv_iload_n hx hb dX3_beginsLine_0 rfl (lv_at hl 2 rfl) ?_
  refine lv_sipush (v := 128) hx hb dX3_beginsLine_1 (by decide) ?_
  refine lv_icmp_lt (tgt := 14) hx hb dX3_beginsLine_4 (by decide) (fun c_4 => ?_) (fun c_4 => ?_)
  · have r_p2 : RI p2 133 127 := rc_lt1 r_p2 rl_128 (ti_lt c_4) (by decide)
    exact (r_p2.no (by decide)).elim
  · refine lv_iload_n hx hb dX3_beginsLine_7 rfl (lv_at hl 2 rfl) ?_
    refine lv_sipush (v := 136) hx hb dX3_beginsLine_8 (by decide) ?_
    refine lv_icmp_le (tgt := 22) hx hb dX3_beginsLine_11 (by decide) (fun c_11 => ?_) (fun c_11 => ?_)
    · refine lv_iload_n hx hb dX3_beginsLine_22 rfl (lv_at hl 2 rfl) ?_
      refine lv_sipush (v := 131) hx hb dX3_beginsLine_23 (by decide) ?_
      refine lv_icmp_gt (tgt := 59) hx hb dX3_beginsLine_26 (by decide) (fun c_26 => ?_) (fun c_26 => ?_)
      · refine lv_iload_n hx hb dX3_beginsLine_59 rfl (lv_at hl 2 rfl) ?_
        refine lv_sipush (v := 135) hx hb dX3_beginsLine_60 (by decide) ?_
        refine lv_icmp_ne (tgt := 73) hx hb dX3_beginsLine_63 (by decide) (fun c_63 => ?_) (fun c_63 => ?_)
        · refine lv_iload_n hx hb dX3_beginsLine_73 rfl (lv_at hl 2 rfl) ?_
          refine lv_sipush (v := 136) hx hb dX3_beginsLine_74 (by decide) ?_
          refine lv_icmp_ne (tgt := 92) hx hb dX3_beginsLine_77 (by decide) (fun c_77 => ?_) (fun c_77 => ?_)
          · refine lv_aload_n hx hb dX3_beginsLine_92 rfl (lv_at hl 1 rfl) ?_
            refine tk_v (va_runV (As := []) (rest := []) ⟨hx, hb, hml, hown, hts⟩ (c_X7_pass__5 l D cy z s.heap.size Ps w0 hw.1 p1 f1_10 s1 h_p1 r_f1_10 m_f1_10 o_p1) (cwV 0 hts (gV tw_451 tw_425 tw_426 tw_2 tw_427) rfl rfl rfl (by decide +kernel) ⟨Nat.le_of_ble_eq_true rfl, Nat.le_of_ble_eq_true rfl⟩) (tg_preV hw hK hSD hA (ci := 7) (q := (RX7, TX7, 12)) rfl h_p1 rfl) rfl rfl hl.1 rfl (lv_room (Nat.le_of_ble_eq_true rfl)) dX3_beginsLine_93 ⟨Nat.le_of_ble_eq_true rfl, Nat.le_of_ble_eq_true rfl⟩) hw hA ⟨by decide, by decide⟩ (fun ws H locs hp_v_1 hw hF9 => ?_)
            have m_f1_10 := FLD.over hF9 m_f1_10 (by decide)
            have x_OT_p0 := OTR.over hF9 x_OT_p0 (by decide)
            obtain ⟨hfn, hp_v_1⟩ := hp_v_1
            have o_p0 := OV.over (V := vw_POST) hF9 o_p0 (by decide)
            obtain ⟨sg_2, q_sg_2⟩ : ∃ q9 : OS, (f_X7_pass__5 s1) = q9 := ⟨_, rfl⟩
            have o_p1 : OV vw_TAPE Ps ws p1 sg_2 := by rw [← q_sg_2]; exact hfn.1
            obtain ⟨v_3, m_v_3, r_v_3⟩ := (hp_v_1.1)
            refine lv_aload_n hx hb dX3_beginsLine_96 rfl (lv_at hl 1 rfl) ?_
            refine tg_memN (ci := 7) (C := RX7) (T := TX7) (N := 12) hx hb hts inX7 hown hK hw 10 m_v_3 rfl (by decide) (hSD.nest tn_105) (fun _ h9 => h9) dX3_beginsLine_97 ?_
            have q_v_3 : sg_2.1 10 = v_3 := OV.eqI (V := vw_TAPE) hw.2.2.1 o_p1 m_v_3 (by decide)
            refine lv_if_ne (tgt := 107) hx hb dX3_beginsLine_100 (by decide) (fun c_100 => ?_) (fun c_100 => ?_)
            · exact absurd (r_v_3.eq.trans rl_0.eq.symm) ((ti_ne c_100))
            · refine lv_iconst (v := 1) hx hb dX3_beginsLine_103 (by decide) ?_
              refine lv_goto (tgt := 108) hx hb dX3_beginsLine_104 (by decide) ?_
              simp only [f_X3_beginsLine__17, ↓reduceIte, eq_false c_4, eq_true c_11, eq_true c_26, eq_false c_63, eq_false c_77, q_sg_2, q_v_3, eq_true c_100] at hE
              subst hQ
              exact W.zret (v := 1) hx hb hr (rfl) (fun t ht hW => ⟨⟨1, ws, rfl, ⟨⟨x_OT_p0, ⟨(by rw [hR, ← hE]; exact o_p0), (by rw [hR, ← hE]; exact o_p1), (by rw [hR, ← hE]), trivial⟩, rl_1.to (by decide), (fun _ => trivial), (fun h0 => ⟨⟨_, m_v_3, r_v_3⟩, trivial⟩)⟩, hw.1, hw.2.2.2.2.1⟩, by rw [ht]; exact hw.2.1, va_K.moved hW.alike hK, hw.2.2.1⟩, hw.2.2.2.1.F ht⟩) hw.2.2.2.1.2.2 dX3_beginsLine_108
          · have r_p2 : RI p2 136 133 := rc_eq1 r_p2 rl_136 (ti_eq c_77) (by decide)
            exact (r_p2.no (by decide)).elim
        · have r_p2 : RI p2 135 133 := rc_eq1 r_p2 rl_135 (ti_eq c_63) (by decide)
          exact (r_p2.no (by decide)).elim
      · have r_p2 : RI p2 133 131 := rc_le1 r_p2 rl_131 (ti_nlt c_26) (by decide)
        exact (r_p2.no (by decide)).elim
    · have r_p2 : RI p2 137 133 := rc_lt2 rl_136 r_p2 (ti_nle c_11) (by decide)
      exact (r_p2.no (by decide)).elim
abbrev wr_X3_beginsLine__30 : List (Nat × Nat) := [(7, 5), (7, 6), (7, 7), (7, 8), (7, 9)]
abbrev wa_X3_beginsLine__30 : List Nat := []
set_option maxHeartbeats 4000000 in
set_option maxRecDepth 100000 in
theorem c_X3_beginsLine__30 (l : Launch) (D : va_G) (cy : Nat → ClassId) (z : Nat → Nat) (sz : Nat) (Ps : PSI) (w0 : va_W) (hT : HT cy GG Ps w0) (p0 : Nat) (p1 : Nat) (p2 : Int32) (f1_10 : Int32) (s0 : OS) (s1 : OS) (h_p0 : (p0, 25) ∈ Ps) (h_p1 : (p1, 26) ∈ Ps) (r_p2 : RI p2 134 134) (r_f1_10 : RI f1_10 0 0) (m_f1_10 : FLD w0 p1 7 10 (.int f1_10)) (o_p0 : OV vw_POST Ps w0 p0 s0) (o_p1 : OV vw_TAPE Ps w0 p1 s1) : Met l yX3_beginsLine (Cond.code yX3_beginsLine cX3_beginsLine 3 (some .boolean) :: gT) ({ frames := 3, cells := 0, slots := 0, locals := 600 } : Room) (va_Pc [.ref p0, .ref p1, .int p2] (PRE D cy z w0 sz)) (va_Qi (fun (r : Int32) (u : va_W) => ((OTR Ps w0 u p0) ∧ ((OV vw_POST Ps u p0 ((f_X3_beginsLine__17 p2 s0 s1).1) ∧ OV vw_TAPE Ps u p1 ((f_X3_beginsLine__17 p2 s0 s1).2.1) ∧ (f_X3_beginsLine__17 p2 s0 s1).2.2 = r ∧ True) ∧ (RI r 1 1 ∧ (r = 0 → True) ∧ (¬ r = 0 → (∃ v9 : Int32, FLD u p1 7 10 (.int v9) ∧ RI v9 0 0) ∧ True)))) ∧ HT cy GG Ps u ∧ FR wr_X3_beginsLine__30 wa_X3_beginsLine__30 Ps w0 u) (BB D cy (va_A w0 sz) (fun (u : va_W) => u)) (va_A w0 sz)) 0 0 (va_A w0 sz) := by
  refine Met.ofW (cc := cX3_beginsLine) (maxL := 3) (ret := (some .boolean)) (by decide) rfl ?_
  intro p e s m args below meth c s₁ B hml hv
  obtain ⟨rfl, hsz, hP, hK, hD0, hSD⟩ := hv
  have hx := B.exec
  have hb := B.bytes
  have hr := B.returns
  have hlocks := B.notSynchronized
  have hts : ∀ w ∈ gT, w.before _ s = true := fun w h => atoms_spec (ws := Cond.code yX3_beginsLine cX3_beginsLine 3 (some .boolean) :: gT) B.pre w (List.mem_cons_of_mem _ h)
  have hown : s.vm.findClass RX3 = some m.cls := findClass_of_methodNamed B.named
  subst hsz
  have hD := hD0.self (sz := s.heap.size)
  generalize hAe : va_A w0 s.heap.size = A at hD hSD ⊢
  have hA : ∀ q : Nat, s.heap.size ≤ q → A q := fun q h => by rw [← hAe]; exact Or.inr h
  have hl := lv_entry ([.ref p0, .ref p1, .int p2]) (n := 3) (Nat.le_of_ble_eq_true rfl)
  rw [lg_entry_eq]
  generalize (lg_sl ([.ref p0, .ref p1, .int p2]) ++ List.replicate (3 - (lg_sl ([.ref p0, .ref p1, .int p2])).length) Slot.unset).toArray = ls at hl ⊢
  have hl : lv_has ls 3 [(0, .ref p0), (1, .ref p1), (2, .int p2)] := hl
  refine nameQ (fun Q hQ => ?_)
  have hw : WD D cy GG A s wr_X3_beginsLine__30 wa_X3_beginsLine__30 Ps w0 Ps w0 s.heap [] := ⟨hT, hP, hD, va_S.rf, FR.rf, hT.1, [], (List.append_nil _).symm⟩
  have x_OT_p0 : OTR Ps w0 w0 p0 := OTR.rf
  obtain ⟨R9, hR⟩ : ∃ q9 : OS × OS × Int32, f_X3_beginsLine__17 p2 s0 s1 = q9 := ⟨_, rfl⟩
  have hE := hR
  refine lv_iload_n hx hb dX3_beginsLine_0 rfl (lv_at hl 2 rfl) ?_
  refine lv_sipush (v := 128) hx hb dX3_beginsLine_1 (by decide) ?_
  refine lv_icmp_lt (tgt := 14) hx hb dX3_beginsLine_4 (by decide) (fun c_4 => ?_) (fun c_4 => ?_)
  · have r_p2 : RI p2 134 127 := rc_lt1 r_p2 rl_128 (ti_lt c_4) (by decide)
    exact (r_p2.no (by decide)).elim
  · refine lv_iload_n hx hb dX3_beginsLine_7 rfl (lv_at hl 2 rfl) ?_
    refine lv_sipush (v := 136) hx hb dX3_beginsLine_8 (by decide) ?_
    refine lv_icmp_le (tgt := 22) hx hb dX3_beginsLine_11 (by decide) (fun c_11 => ?_) (fun c_11 => ?_)
    · refine lv_iload_n hx hb dX3_beginsLine_22 rfl (lv_at hl 2 rfl) ?_
      refine lv_sipush (v := 131) hx hb dX3_beginsLine_23 (by decide) ?_
      refine lv_icmp_gt (tgt := 59) hx hb dX3_beginsLine_26 (by decide) (fun c_26 => ?_) (fun c_26 => ?_)
      · refine lv_iload_n hx hb dX3_beginsLine_59 rfl (lv_at hl 2 rfl) ?_
        refine lv_sipush (v := 135) hx hb dX3_beginsLine_60 (by decide) ?_
        refine lv_icmp_ne (tgt := 73) hx hb dX3_beginsLine_63 (by decide) (fun c_63 => ?_) (fun c_63 => ?_)
        · refine lv_iload_n hx hb dX3_beginsLine_73 rfl (lv_at hl 2 rfl) ?_
          refine lv_sipush (v := 136) hx hb dX3_beginsLine_74 (by decide) ?_
          refine lv_icmp_ne (tgt := 92) hx hb dX3_beginsLine_77 (by decide) (fun c_77 => ?_) (fun c_77 => ?_)
          · refine lv_aload_n hx hb dX3_beginsLine_92 rfl (lv_at hl 1 rfl) ?_
            refine tk_v (va_runV (As := []) (rest := []) ⟨hx, hb, hml, hown, hts⟩ (c_X7_pass__5 l D cy z s.heap.size Ps w0 hw.1 p1 f1_10 s1 h_p1 r_f1_10 m_f1_10 o_p1) (cwV 0 hts (gV tw_451 tw_425 tw_426 tw_2 tw_427) rfl rfl rfl (by decide +kernel) ⟨Nat.le_of_ble_eq_true rfl, Nat.le_of_ble_eq_true rfl⟩) (tg_preV hw hK hSD hA (ci := 7) (q := (RX7, TX7, 12)) rfl h_p1 rfl) rfl rfl hl.1 rfl (lv_room (Nat.le_of_ble_eq_true rfl)) dX3_beginsLine_93 ⟨Nat.le_of_ble_eq_true rfl, Nat.le_of_ble_eq_true rfl⟩) hw hA ⟨by decide, by decide⟩ (fun ws H locs hp_v_1 hw hF9 => ?_)
            have m_f1_10 := FLD.over hF9 m_f1_10 (by decide)
            have x_OT_p0 := OTR.over hF9 x_OT_p0 (by decide)
            obtain ⟨hfn, hp_v_1⟩ := hp_v_1
            have o_p0 := OV.over (V := vw_POST) hF9 o_p0 (by decide)
            obtain ⟨sg_2, q_sg_2⟩ : ∃ q9 : OS, (f_X7_pass__5 s1) = q9 := ⟨_, rfl⟩
            have o_p1 : OV vw_TAPE Ps ws p1 sg_2 := by rw [← q_sg_2]; exact hfn.1
            obtain ⟨v_3, m_v_3, r_v_3⟩ := (hp_v_1.1)
            refine lv_aload_n hx hb dX3_beginsLine_96 rfl (lv_at hl 1 rfl) ?_
            refine tg_memN (ci := 7) (C := RX7) (T := TX7) (N := 12) hx hb hts inX7 hown hK hw 10 m_v_3 rfl (by decide) (hSD.nest tn_105) (fun _ h9 => h9) dX3_beginsLine_97 ?_
            have q_v_3 : sg_2.1 10 = v_3 := OV.eqI (V := vw_TAPE) hw.2.2.1 o_p1 m_v_3 (by decide)
            refine lv_if_ne (tgt := 107) hx hb dX3_beginsLine_100 (by decide) (fun c_100 => ?_) (fun c_100 => ?_)
            · exact absurd (r_v_3.eq.trans rl_0.eq.symm) ((ti_ne c_100))
            · refine lv_iconst (v := 1) hx hb dX3_beginsLine_103 (by decide) ?_
              refine lv_goto (tgt := 108) hx hb dX3_beginsLine_104 (by decide) ?_
              simp only [f_X3_beginsLine__17, ↓reduceIte, eq_false c_4, eq_true c_11, eq_true c_26, eq_false c_63, eq_false c_77, q_sg_2, q_v_3, eq_true c_100] at hE
              subst hQ
              exact W.zret (v := 1) hx hb hr (rfl) (fun t ht hW => ⟨⟨1, ws, rfl, ⟨⟨x_OT_p0, ⟨(by rw [hR, ← hE]; exact o_p0), (by rw [hR, ← hE]; exact o_p1), (by rw [hR, ← hE]), trivial⟩, rl_1.to (by decide), (fun _ => trivial), (fun h0 => ⟨⟨_, m_v_3, r_v_3⟩, trivial⟩)⟩, hw.1, hw.2.2.2.2.1⟩, by rw [ht]; exact hw.2.1, va_K.moved hW.alike hK, hw.2.2.1⟩, hw.2.2.2.1.F ht⟩) hw.2.2.2.1.2.2 dX3_beginsLine_108
          · have r_p2 : RI p2 136 134 := rc_eq1 r_p2 rl_136 (ti_eq c_77) (by decide)
            exact (r_p2.no (by decide)).elim
        · have r_p2 : RI p2 135 134 := rc_eq1 r_p2 rl_135 (ti_eq c_63) (by decide)
          exact (r_p2.no (by decide)).elim
      · have r_p2 : RI p2 134 131 := rc_le1 r_p2 rl_131 (ti_nlt c_26) (by decide)
        exact (r_p2.no (by decide)).elim
    · have r_p2 : RI p2 137 134 := rc_lt2 rl_136 r_p2 (ti_nle c_11) (by decide)
      exact (r_p2.no (by decide)).elim
abbrev wr_X3_quarrel__2 : List (Nat × Nat) := []
abbrev wa_X3_quarrel__2 : List Nat := []
set_option maxHeartbeats 4000000 in
set_option maxRecDepth 100000 in
theorem c_X3_quarrel__2 (l : Launch) (D : va_G) (cy : Nat → ClassId) (z : Nat → Nat) (sz : Nat) (Ps : PSI) (w0 : va_W) (hT : HT cy GG Ps w0) (p0 : Nat) (p1 : Int32) (p2 : Int32) (s0 : OS) (h_p0 : (p0, 25) ∈ Ps) (r_p1 : RI p1 0 5) (r_p2 : RI p2 (-2147483648) 2147483647) (o_p0 : OV vw_POST Ps w0 p0 s0) : Met l yX3_quarrel (Cond.code yX3_quarrel cX3_quarrel 3 (some .boolean) :: gT) ({ frames := 0, cells := 0, slots := 0, locals := 200 } : Room) (va_Pc [.ref p0, .int p1, .int p2] (PRE D cy z w0 sz)) (va_Qi (fun (r : Int32) (u : Unit) => (OTR Ps w0 w0 p0) ∧ (((f_X3_quarrel__1 p1 p2 s0) = r ∧ True) ∧ (RI r 0 1 ∧ (r = 0 → True) ∧ (¬ r = 0 → True)))) (BB D cy (va_A w0 sz) (fun (u : Unit) => w0)) (va_A w0 sz)) 0 0 (va_A w0 sz) := by
  refine Met.ofW (cc := cX3_quarrel) (maxL := 3) (ret := (some .boolean)) (by decide) rfl ?_
  intro p e s m args below meth c s₁ B hml hv
  obtain ⟨rfl, hsz, hP, hK, hD0, hSD⟩ := hv
  have hx := B.exec
  have hb := B.bytes
  have hr := B.returns
  have hlocks := B.notSynchronized
  have hts : ∀ w ∈ gT, w.before _ s = true := fun w h => atoms_spec (ws := Cond.code yX3_quarrel cX3_quarrel 3 (some .boolean) :: gT) B.pre w (List.mem_cons_of_mem _ h)
  have hown : s.vm.findClass RX3 = some m.cls := findClass_of_methodNamed B.named
  subst hsz
  have hD := hD0.self (sz := s.heap.size)
  generalize hAe : va_A w0 s.heap.size = A at hD hSD ⊢
  have hA : ∀ q : Nat, s.heap.size ≤ q → A q := fun q h => by rw [← hAe]; exact Or.inr h
  have hl := lv_entry ([.ref p0, .int p1, .int p2]) (n := 3) (Nat.le_of_ble_eq_true rfl)
  rw [lg_entry_eq]
  generalize (lg_sl ([.ref p0, .int p1, .int p2]) ++ List.replicate (3 - (lg_sl ([.ref p0, .int p1, .int p2])).length) Slot.unset).toArray = ls at hl ⊢
  have hl : lv_has ls 3 [(0, .ref p0), (1, .int p1), (2, .int p2)] := hl
  refine nameQ (fun Q hQ => ?_)
  have hw : WD D cy GG A s wr_X3_quarrel__2 wa_X3_quarrel__2 Ps w0 Ps w0 s.heap [] := ⟨hT, hP, hD, va_S.rf, FR.rf, hT.1, [], (List.append_nil _).symm⟩
  have x_OT_p0 : OTR Ps w0 w0 p0 := OTR.rf
  obtain ⟨R9, hR⟩ : ∃ q9 : Int32, f_X3_quarrel__1 p1 p2 s0 = q9 := ⟨_, rfl⟩
  have hE := hR
  refine lv_aload_n hx hb dX3_quarrel_0 rfl (lv_at hl 0 rfl) ?_
  refine tg_get (ci := 3) (ts := ty_POST) (C := RX3) (T := TX3) (N := 9) hx hb hts inX3 hown hK hw h_p0 rfl rfl 3 (by decide) (hts _ tw_208) (fun _ h9 => h9) (ft := vR 6) rfl dX3_quarrel_1 (fun u_1 hv_u_1 m_u_1 => ?_)
  obtain ⟨vu_1, rfl, h_vu_1⟩ := hv_u_1
  refine lv_iload_n hx hb dX3_quarrel_4 rfl (lv_at hl 1 rfl) ?_
  refine tg_iald (lo := (-2147483648)) (hi := 2147483647) hx hb hK hw h_vu_1 rfl 0 5 r_p1 (by decide) (by exact fun _ _ _ => ⟨Int.le_refl _, Int.le_refl _⟩) dX3_quarrel_5 (fun v_2 r_v_2 m_v_2 o_v_2 => ?_)
  have q_v_2 : s0.2.2.1 3 (Int32.toNatClampNeg p1) = v_2 := OV.eqA (V := vw_POST) (t := 6) hw.2.2.1 o_p0 m_u_1 m_v_2 (by decide)
  refine lv_iload_n hx hb dX3_quarrel_6 rfl (lv_at hl 2 rfl) ?_
  refine lv_ishr hx hb dX3_quarrel_7 (lv_topi (fun v_3 e_v_3 => ?_))
  have r_v_3 := ri_any v_3
  have q_v_3 : v_2 >>> (p2 &&& 31) = v_3 := e_v_3.symm
  refine lv_iconst (v := 1) hx hb dX3_quarrel_8 (by decide) ?_
  refine lv_iand hx hb dX3_quarrel_9 (lv_topi (fun v_4 e_v_4 => ?_))
  have r_v_4 : RI v_4 0 1 := by rw [e_v_4]; exact ri_and (d := 1) (rl_1.to (by decide)) (by decide)
  have q_v_4 : v_3 &&& (1 : Int32) = v_4 := e_v_4.symm
  refine lv_if_eq (tgt := 17) hx hb dX3_quarrel_10 (by decide) (fun c_10 => ?_) (fun c_10 => ?_)
  · have r_v_4 : RI v_4 0 0 := rc_eq1 r_v_4 rl_0 (ti_eq c_10) (by decide)
    refine lv_iconst (v := 0) hx hb dX3_quarrel_17 (by decide) ?_
    simp only [f_X3_quarrel__1, ↓reduceIte, q_v_2, q_v_3, q_v_4, eq_true c_10] at hE
    subst hQ
    exact W.zret (v := 0) hx hb hr (rfl) (fun t ht hW => ⟨⟨0, (), rfl, ⟨x_OT_p0, ⟨(by rw [hR, ← hE]), trivial⟩, rl_0.to (by decide), (fun h0 => trivial), (fun _ => trivial)⟩, by rw [ht]; exact hw.2.1, va_K.moved hW.alike hK, hw.2.2.1⟩, hw.2.2.2.1.F ht⟩) hw.2.2.2.1.2.2 dX3_quarrel_18
  · have r_v_4 : RI v_4 1 1 := rc_neL r_v_4 rl_0 (ti_ne c_10) (by decide)
    refine lv_iconst (v := 1) hx hb dX3_quarrel_13 (by decide) ?_
    refine lv_goto (tgt := 18) hx hb dX3_quarrel_14 (by decide) ?_
    simp only [f_X3_quarrel__1, ↓reduceIte, q_v_2, q_v_3, q_v_4, eq_false c_10] at hE
    subst hQ
    exact W.zret (v := 1) hx hb hr (rfl) (fun t ht hW => ⟨⟨1, (), rfl, ⟨x_OT_p0, ⟨(by rw [hR, ← hE]), trivial⟩, rl_1.to (by decide), (fun _ => trivial), (fun h0 => trivial)⟩, by rw [ht]; exact hw.2.1, va_K.moved hW.alike hK, hw.2.2.1⟩, hw.2.2.2.1.F ht⟩) hw.2.2.2.1.2.2 dX3_quarrel_18
abbrev wr_X3_readQuarrel__2 : List (Nat × Nat) := [(7, 5), (7, 6), (7, 7), (7, 8), (7, 9), (7, 10), (7, 11)]
abbrev wa_X3_readQuarrel__2 : List Nat := [6]
set_option maxHeartbeats 4000000 in
set_option maxRecDepth 100000 in
theorem c_X3_readQuarrel__2 (l : Launch) (D : va_G) (cy : Nat → ClassId) (z : Nat → Nat) (sz : Nat) (Ps : PSI) (w0 : va_W) (hT : HT cy GG Ps w0) (p0 : Nat) (p1 : Nat) (s0 : OS) (s1 : OS) (h_p0 : (p0, 25) ∈ Ps) (h_p1 : (p1, 26) ∈ Ps) (o_p0 : OV vw_POST Ps w0 p0 s0) (o_p1 : OV vw_TAPE Ps w0 p1 s1) : Met l yX3_readQuarrel (Cond.code yX3_readQuarrel cX3_readQuarrel 5 none :: gT) ({ frames := 4, cells := 0, slots := 0, locals := 800 } : Room) (va_Pc [.ref p0, .ref p1] (PRE D cy z w0 sz)) (va_Qv (fun (u : va_W) => ((OTR Ps w0 u p0) ∧ ((OV vw_POST Ps u p0 ((f_X3_readQuarrel__1 s0 s1).1) ∧ OV vw_TAPE Ps u p1 ((f_X3_readQuarrel__1 s0 s1).2) ∧ True) ∧ (True))) ∧ HT cy GG Ps u ∧ FR wr_X3_readQuarrel__2 wa_X3_readQuarrel__2 Ps w0 u) (BB D cy (va_A w0 sz) (fun (u : va_W) => u)) (va_A w0 sz)) 0 0 (va_A w0 sz) := by
  refine Met.ofW (cc := cX3_readQuarrel) (maxL := 5) (ret := none) (by decide) rfl ?_
  intro p e s m args below meth c s₁ B hml hv
  obtain ⟨rfl, hsz, hP, hK, hD0, hSD⟩ := hv
  have hx := B.exec
  have hb := B.bytes
  have hr := B.returns
  have hlocks := B.notSynchronized
  have hts : ∀ w ∈ gT, w.before _ s = true := fun w h => atoms_spec (ws := Cond.code yX3_readQuarrel cX3_readQuarrel 5 none :: gT) B.pre w (List.mem_cons_of_mem _ h)
  have hown : s.vm.findClass RX3 = some m.cls := findClass_of_methodNamed B.named
  subst hsz
  have hD := hD0.self (sz := s.heap.size)
  generalize hAe : va_A w0 s.heap.size = A at hD hSD ⊢
  have hA : ∀ q : Nat, s.heap.size ≤ q → A q := fun q h => by rw [← hAe]; exact Or.inr h
  have hl := lv_entry ([.ref p0, .ref p1]) (n := 5) (Nat.le_of_ble_eq_true rfl)
  rw [lg_entry_eq]
  generalize (lg_sl ([.ref p0, .ref p1]) ++ List.replicate (5 - (lg_sl ([.ref p0, .ref p1])).length) Slot.unset).toArray = ls at hl ⊢
  have hl : lv_has ls 5 [(0, .ref p0), (1, .ref p1)] := hl
  refine nameQ (fun Q hQ => ?_)
  have hw : WD D cy GG A s wr_X3_readQuarrel__2 wa_X3_readQuarrel__2 Ps w0 Ps w0 s.heap [] := ⟨hT, hP, hD, va_S.rf, FR.rf, hT.1, [], (List.append_nil _).symm⟩
  have x_OT_p0 : OTR Ps w0 w0 p0 := OTR.rf
  obtain ⟨R9, hR⟩ : ∃ q9 : OS × OS, f_X3_readQuarrel__1 s0 s1 = q9 := ⟨_, rfl⟩
  have hE := hR
  refine lv_aload_n hx hb dX3_readQuarrel_0 rfl (lv_at hl 1 rfl) ?_
  refine lv_aload_n hx hb dX3_readQuarrel_1 rfl (lv_at hl 0 rfl) ?_
  refine lv_iconst (v := 0) hx hb dX3_readQuarrel_2 (by decide) ?_
  refine tk_i (va_runV (As := [.ref p0, .int 0]) (rest := []) ⟨hx, hb, hml, hown, hts⟩ (c_X7_takeName__14 l D cy z s.heap.size Ps w0 hw.1 p1 p0 0 s1 s0 h_p1 h_p0 rl_0 o_p1 o_p0) (cwV 2 hts (gV tw_464 tw_465 tw_466 tw_2 tw_467) rfl rfl rfl (by decide +kernel) ⟨Nat.le_of_ble_eq_true rfl, Nat.le_of_ble_eq_true rfl⟩) (tg_preV hw hK hSD hA (ci := 7) (q := (RX7, TX7, 12)) rfl h_p1 rfl) rfl rfl hl.1 rfl (lv_room (Nat.le_of_ble_eq_true rfl)) dX3_readQuarrel_3 ⟨Nat.le_of_ble_eq_true rfl, Nat.le_of_ble_eq_true rfl⟩) hw hA ⟨by decide, by decide⟩ (fun v_1 ws H locs hp_v_1 hw hF9 => ?_)
  have x_OT_p0 := OTR.over hF9 x_OT_p0 (by decide)
  obtain ⟨hfn, hp_v_1⟩ := hp_v_1
  obtain ⟨sg_2, q_sg_2⟩ : ∃ q9 : OS, (f_X7_takeName__12 (0 : Int32) s1 s0).1 = q9 := ⟨_, rfl⟩
  have o_p1 : OV vw_TAPE Ps ws p1 sg_2 := by rw [← q_sg_2]; exact hfn.1
  obtain ⟨sg_3, q_sg_3⟩ : ∃ q9 : OS, (f_X7_takeName__12 (0 : Int32) s1 s0).2.1 = q9 := ⟨_, rfl⟩
  have o_p0 : OV vw_POST Ps ws p0 sg_3 := by rw [← q_sg_3]; exact hfn.2.1
  have q_v_1 : (f_X7_takeName__12 (0 : Int32) s1 s0).2.2 = v_1 := hfn.2.2.1
  have r_v_1 : RI v_1 (-1) 5 := hp_v_1.1
  by_cases c9_v_1 : v_1.toInt < 0
  · have r_v_1 : RI v_1 (-1) (-1) := by unfold RI at r_v_1 ⊢; omega
    have x_FLT_p1 := (hp_v_1.2.2.2.2.1 (by omega)).1
    obtain ⟨v_4, m_v_4, r_v_4⟩ := id x_FLT_p1
    refine lv_istore_n (lv' := [(2, .int v_1), (0, .ref p0), (1, .ref p1)]) hx hb dX3_readQuarrel_6 rfl hl (by decide) rfl (fun ls hl => ?_)
    refine lv_aload_n hx hb dX3_readQuarrel_7 rfl (lv_at hl 2 rfl) ?_
    refine lv_aload_n hx hb dX3_readQuarrel_8 rfl (lv_at hl 1 rfl) ?_
    refine lv_iconst (v := 0) hx hb dX3_readQuarrel_9 (by decide) ?_
    refine tk_ir (va_runV (As := [.ref p0, .int 0]) (rest := []) ⟨hx, hb, hml, hown, hts⟩ (c_X7_nameAhead__18 l D cy z H.size Ps ws hw.1 p1 p0 0 v_4 sg_2 sg_3 h_p1 h_p0 rl_0 r_v_4 m_v_4 o_p1 o_p0) (cwV 2 hts (gV tw_456 tw_457 tw_458 tw_2 tw_459) rfl rfl rfl (by decide +kernel) ⟨Nat.le_of_ble_eq_true rfl, Nat.le_of_ble_eq_true rfl⟩) (tg_preV hw hK hSD hA (ci := 7) (q := (RX7, TX7, 12)) rfl h_p1 rfl) rfl rfl hl.1 rfl (lv_room (Nat.le_of_ble_eq_true rfl)) dX3_readQuarrel_10 ⟨Nat.le_of_ble_eq_true rfl, Nat.le_of_ble_eq_true rfl⟩) hw hA (fun v_5  H locs hp_v_5 hw => ?_)
    obtain ⟨hfn, hp_v_5⟩ := hp_v_5
    have q_v_5 : (f_X7_nameAhead__18 (0 : Int32) sg_2 sg_3) = v_5 := hfn.1
    have r_v_5 : RI v_5 (-1) (-1) := hp_v_5.1
    by_cases c9_v_5 : v_5.toInt < 0
    · have r_v_5 : RI v_5 (-1) (-1) := by unfold RI at r_v_5 ⊢; omega
      have x_FLT_p1 := (hp_v_5.2.2.2.2.1 (by omega)).1
      obtain ⟨v_6, m_v_6, r_v_6⟩ := id x_FLT_p1
      refine lv_istore_n (lv' := [(3, .int v_5), (2, .int v_1), (0, .ref p0), (1, .ref p1)]) hx hb dX3_readQuarrel_13 rfl hl (by decide) rfl (fun ls hl => ?_)
      refine lv_iload_n hx hb dX3_readQuarrel_14 rfl (lv_at hl 1 rfl) ?_
      refine lv_iconst (v := (-1)) hx hb dX3_readQuarrel_15 (by decide) ?_
      refine lv_icmp_eq (tgt := 28) hx hb dX3_readQuarrel_16 (by decide) (fun c_16 => ?_) (fun c_16 => ?_)
      · refine lv_iconst (v := 0) hx hb dX3_readQuarrel_28 (by decide) ?_
        refine lv_istore (lv' := [(4, .int 0), (3, .int v_5), (2, .int v_1), (0, .ref p0), (1, .ref p1)]) hx hb dX3_readQuarrel_29 hl (by decide) rfl (fun ls hl => ?_)
        refine lv_iload hx hb dX3_readQuarrel_31 (lv_at hl 0 rfl) ?_
        refine lv_if_eq (tgt := 55) hx hb dX3_readQuarrel_33 (by decide) (fun _ => ?_) (fun c9 => absurd (by decide) c9)
        refine lv_aload_n hx hb dX3_readQuarrel_55 rfl (lv_at hl 4 rfl) ?_
        refine tk_vr (va_runV (As := []) (rest := []) ⟨hx, hb, hml, hown, hts⟩ (c_X7_pass__4 l D cy z H.size Ps ws hw.1 p1 v_6 sg_2 h_p1 r_v_6 m_v_6 o_p1) (cwV 0 hts (gV tw_451 tw_425 tw_426 tw_2 tw_427) rfl rfl rfl (by decide +kernel) ⟨Nat.le_of_ble_eq_true rfl, Nat.le_of_ble_eq_true rfl⟩) (tg_preV hw hK hSD hA (ci := 7) (q := (RX7, TX7, 12)) rfl h_p1 rfl) rfl rfl hl.1 rfl (lv_room (Nat.le_of_ble_eq_true rfl)) dX3_readQuarrel_56 ⟨Nat.le_of_ble_eq_true rfl, Nat.le_of_ble_eq_true rfl⟩) hw hA (fun  H locs hp_v_7 hw => ?_)
        obtain ⟨hfn, hp_v_7⟩ := hp_v_7
        refine lv_iload hx hb dX3_readQuarrel_59 (lv_at hl 0 rfl) ?_
        refine lv_if_eq (tgt := 88) hx hb dX3_readQuarrel_61 (by decide) (fun _ => ?_) (fun c9 => absurd (by decide) c9)
        simp only [f_X3_readQuarrel__1, ↓reduceIte, q_sg_2, q_sg_3, q_v_1, eq_true c9_v_1, q_v_5, eq_true c9_v_5, eq_true c_16] at hE
        subst hQ
        exact W.vret hx hb hr (fun t ht hW => ⟨⟨ws, rfl, ⟨⟨x_OT_p0, ⟨⟨(by rw [hR, ← hE]; exact o_p0), (by rw [hR, ← hE]; exact o_p1), trivial⟩, trivial⟩⟩, hw.1, hw.2.2.2.2.1⟩, by rw [ht]; exact hw.2.1, va_K.moved hW.alike hK, hw.2.2.1⟩, hw.2.2.2.1.F ht⟩) hw.2.2.2.1.2.2 dX3_readQuarrel_88
      · exact absurd (r_v_1.eq.trans rl_m1.eq.symm) ((ti_ne c_16))
    · exact absurd c9_v_5 (by unfold RI at r_v_5; omega)
  · have r_v_1 : RI v_1 0 5 := by unfold RI at r_v_1 ⊢; omega
    refine lv_istore_n (lv' := [(2, .int v_1), (0, .ref p0), (1, .ref p1)]) hx hb dX3_readQuarrel_6 rfl hl (by decide) rfl (fun ls hl => ?_)
    refine lv_aload_n hx hb dX3_readQuarrel_7 rfl (lv_at hl 2 rfl) ?_
    refine lv_aload_n hx hb dX3_readQuarrel_8 rfl (lv_at hl 1 rfl) ?_
    refine lv_iconst (v := 0) hx hb dX3_readQuarrel_9 (by decide) ?_
    refine tk_i (va_runV (As := [.ref p0, .int 0]) (rest := []) ⟨hx, hb, hml, hown, hts⟩ (c_X7_nameAhead__15 l D cy z H.size Ps ws hw.1 p1 p0 0 sg_2 sg_3 h_p1 h_p0 rl_0 o_p1 o_p0) (cwV 2 hts (gV tw_456 tw_457 tw_458 tw_2 tw_459) rfl rfl rfl (by decide +kernel) ⟨Nat.le_of_ble_eq_true rfl, Nat.le_of_ble_eq_true rfl⟩) (tg_preV hw hK hSD hA (ci := 7) (q := (RX7, TX7, 12)) rfl h_p1 rfl) rfl rfl hl.1 rfl (lv_room (Nat.le_of_ble_eq_true rfl)) dX3_readQuarrel_10 ⟨Nat.le_of_ble_eq_true rfl, Nat.le_of_ble_eq_true rfl⟩) hw hA ⟨by decide, by decide⟩ (fun v_8 ws H locs hp_v_8 hw hF9 => ?_)
    have x_OT_p0 := OTR.over hF9 x_OT_p0 (by decide)
    obtain ⟨hfn, hp_v_8⟩ := hp_v_8
    obtain ⟨sg_9, q_sg_9⟩ : ∃ q9 : OS, (f_X7_nameAhead__13 (0 : Int32) sg_2 sg_3).1 = q9 := ⟨_, rfl⟩
    have o_p1 : OV vw_TAPE Ps ws p1 sg_9 := by rw [← q_sg_9]; exact hfn.1
    obtain ⟨sg_10, q_sg_10⟩ : ∃ q9 : OS, (f_X7_nameAhead__13 (0 : Int32) sg_2 sg_3).2.1 = q9 := ⟨_, rfl⟩
    have o_p0 : OV vw_POST Ps ws p0 sg_10 := by rw [← q_sg_10]; exact hfn.2.1
    have q_v_8 : (f_X7_nameAhead__13 (0 : Int32) sg_2 sg_3).2.2 = v_8 := hfn.2.2.1
    have r_v_8 : RI v_8 (-1) 5 := hp_v_8.1
    by_cases c9_v_8 : v_8.toInt < 0
    · have r_v_8 : RI v_8 (-1) (-1) := by unfold RI at r_v_8 ⊢; omega
      have x_FLT_p1 := (hp_v_8.2.2.2.2.1 (by omega)).1
      obtain ⟨v_11, m_v_11, r_v_11⟩ := id x_FLT_p1
      refine lv_istore_n (lv' := [(3, .int v_8), (2, .int v_1), (0, .ref p0), (1, .ref p1)]) hx hb dX3_readQuarrel_13 rfl hl (by decide) rfl (fun ls hl => ?_)
      refine lv_iload_n hx hb dX3_readQuarrel_14 rfl (lv_at hl 1 rfl) ?_
      refine lv_iconst (v := (-1)) hx hb dX3_readQuarrel_15 (by decide) ?_
      refine lv_icmp_eq (tgt := 28) hx hb dX3_readQuarrel_16 (by decide) (fun c_16 => ?_) (fun c_16 => ?_)
      · have r_v_1 : RI v_1 0 (-1) := rc_eq1 r_v_1 rl_m1 (ti_eq c_16) (by decide)
        exact (r_v_1.no (by decide)).elim
      · refine lv_iload_n hx hb dX3_readQuarrel_19 rfl (lv_at hl 0 rfl) ?_
        refine lv_iconst (v := (-1)) hx hb dX3_readQuarrel_20 (by decide) ?_
        refine lv_icmp_eq (tgt := 28) hx hb dX3_readQuarrel_21 (by decide) (fun c_21 => ?_) (fun c_21 => ?_)
        · refine lv_iconst (v := 0) hx hb dX3_readQuarrel_28 (by decide) ?_
          refine lv_istore (lv' := [(4, .int 0), (3, .int v_8), (2, .int v_1), (0, .ref p0), (1, .ref p1)]) hx hb dX3_readQuarrel_29 hl (by decide) rfl (fun ls hl => ?_)
          refine lv_iload hx hb dX3_readQuarrel_31 (lv_at hl 0 rfl) ?_
          refine lv_if_eq (tgt := 55) hx hb dX3_readQuarrel_33 (by decide) (fun _ => ?_) (fun c9 => absurd (by decide) c9)
          refine lv_aload_n hx hb dX3_readQuarrel_55 rfl (lv_at hl 4 rfl) ?_
          refine tk_vr (va_runV (As := []) (rest := []) ⟨hx, hb, hml, hown, hts⟩ (c_X7_pass__4 l D cy z H.size Ps ws hw.1 p1 v_11 sg_9 h_p1 r_v_11 m_v_11 o_p1) (cwV 0 hts (gV tw_451 tw_425 tw_426 tw_2 tw_427) rfl rfl rfl (by decide +kernel) ⟨Nat.le_of_ble_eq_true rfl, Nat.le_of_ble_eq_true rfl⟩) (tg_preV hw hK hSD hA (ci := 7) (q := (RX7, TX7, 12)) rfl h_p1 rfl) rfl rfl hl.1 rfl (lv_room (Nat.le_of_ble_eq_true rfl)) dX3_readQuarrel_56 ⟨Nat.le_of_ble_eq_true rfl, Nat.le_of_ble_eq_true rfl⟩) hw hA (fun  H locs hp_v_12 hw => ?_)
          obtain ⟨hfn, hp_v_12⟩ := hp_v_12
          refine lv_iload hx hb dX3_readQuarrel_59 (lv_at hl 0 rfl) ?_
          refine lv_if_eq (tgt := 88) hx hb dX3_readQuarrel_61 (by decide) (fun _ => ?_) (fun c9 => absurd (by decide) c9)
          simp only [f_X3_readQuarrel__1, ↓reduceIte, q_sg_2, q_sg_3, q_v_1, eq_false c9_v_1, q_sg_9, q_sg_10, q_v_8, eq_true c9_v_8, eq_false c_16, eq_true c_21] at hE
          subst hQ
          exact W.vret hx hb hr (fun t ht hW => ⟨⟨ws, rfl, ⟨⟨x_OT_p0, ⟨⟨(by rw [hR, ← hE]; exact o_p0), (by rw [hR, ← hE]; exact o_p1), trivial⟩, trivial⟩⟩, hw.1, hw.2.2.2.2.1⟩, by rw [ht]; exact hw.2.1, va_K.moved hW.alike hK, hw.2.2.1⟩, hw.2.2.2.1.F ht⟩) hw.2.2.2.1.2.2 dX3_readQuarrel_88
        · exact absurd (r_v_8.eq.trans rl_m1.eq.symm) ((ti_ne c_21))
    · have r_v_8 : RI v_8 0 5 := by unfold RI at r_v_8 ⊢; omega
      refine lv_istore_n (lv' := [(3, .int v_8), (2, .int v_1), (0, .ref p0), (1, .ref p1)]) hx hb dX3_readQuarrel_13 rfl hl (by decide) rfl (fun ls hl => ?_)
      refine lv_iload_n hx hb dX3_readQuarrel_14 rfl (lv_at hl 1 rfl) ?_
      refine lv_iconst (v := (-1)) hx hb dX3_readQuarrel_15 (by decide) ?_
      refine lv_icmp_eq (tgt := 28) hx hb dX3_readQuarrel_16 (by decide) (fun c_16 => ?_) (fun c_16 => ?_)
      · have r_v_1 : RI v_1 0 (-1) := rc_eq1 r_v_1 rl_m1 (ti_eq c_16) (by decide)
        exact (r_v_1.no (by decide)).elim
      · refine lv_iload_n hx hb dX3_readQuarrel_19 rfl (lv_at hl 0 rfl) ?_
        refine lv_iconst (v := (-1)) hx hb dX3_readQuarrel_20 (by decide) ?_
        refine lv_icmp_eq (tgt := 28) hx hb dX3_readQuarrel_21 (by decide) (fun c_21 => ?_) (fun c_21 => ?_)
        · have r_v_8 : RI v_8 0 (-1) := rc_eq1 r_v_8 rl_m1 (ti_eq c_21) (by decide)
          exact (r_v_8.no (by decide)).elim
        · refine lv_iconst (v := 1) hx hb dX3_readQuarrel_24 (by decide) ?_
          refine lv_goto (tgt := 29) hx hb dX3_readQuarrel_25 (by decide) ?_
          refine lv_istore (lv' := [(4, .int 1), (3, .int v_8), (2, .int v_1), (0, .ref p0), (1, .ref p1)]) hx hb dX3_readQuarrel_29 hl (by decide) rfl (fun ls hl => ?_)
          refine lv_iload hx hb dX3_readQuarrel_31 (lv_at hl 0 rfl) ?_
          refine lv_if_eq (tgt := 55) hx hb dX3_readQuarrel_33 (by decide) (fun c9 => absurd c9 (by decide)) (fun _ => ?_)
          refine lv_iload_n hx hb dX3_readQuarrel_36 rfl (lv_at hl 2 rfl) ?_
          refine lv_iload_n hx hb dX3_readQuarrel_37 rfl (lv_at hl 1 rfl) ?_
          refine lv_icmp_eq (tgt := 50) hx hb dX3_readQuarrel_38 (by decide) (fun c_38 => ?_) (fun c_38 => ?_)
          · refine lv_aload_n hx hb dX3_readQuarrel_50 rfl (lv_at hl 4 rfl) ?_
            refine lv_iconst (v := 3) hx hb dX3_readQuarrel_51 (by decide) ?_
            refine tk_v (va_runV (As := [.int 3]) (rest := []) ⟨hx, hb, hml, hown, hts⟩ (c_X7_refuse__4 l D cy z H.size Ps ws hw.1 p1 3 sg_9 h_p1 (rl_3.to (by decide)) o_p1) (cwV 1 hts (gV tw_450 tw_443 tw_444 tw_2 tw_445) rfl rfl rfl (by decide +kernel) ⟨Nat.le_of_ble_eq_true rfl, Nat.le_of_ble_eq_true rfl⟩) (tg_preV hw hK hSD hA (ci := 7) (q := (RX7, TX7, 12)) rfl h_p1 rfl) rfl rfl hl.1 rfl (lv_room (Nat.le_of_ble_eq_true rfl)) dX3_readQuarrel_52 ⟨Nat.le_of_ble_eq_true rfl, Nat.le_of_ble_eq_true rfl⟩) hw hA ⟨by decide, by decide⟩ (fun ws H locs hp_v_13 hw hF9 => ?_)
            have x_OT_p0 := OTR.over hF9 x_OT_p0 (by decide)
            obtain ⟨hfn, hp_v_13⟩ := hp_v_13
            have o_p0 := OV.over (V := vw_POST) hF9 o_p0 (by decide)
            obtain ⟨sg_14, q_sg_14⟩ : ∃ q9 : OS, (f_X7_refuse__4 (3 : Int32) sg_9) = q9 := ⟨_, rfl⟩
            have o_p1 : OV vw_TAPE Ps ws p1 sg_14 := by rw [← q_sg_14]; exact hfn.1
            obtain ⟨v_15, m_v_15, r_v_15⟩ := (hp_v_13.1)
            refine lv_aload_n hx hb dX3_readQuarrel_55 rfl (lv_at hl 4 rfl) ?_
            refine tk_vr (va_runV (As := []) (rest := []) ⟨hx, hb, hml, hown, hts⟩ (c_X7_pass__4 l D cy z H.size Ps ws hw.1 p1 v_15 sg_14 h_p1 r_v_15 m_v_15 o_p1) (cwV 0 hts (gV tw_451 tw_425 tw_426 tw_2 tw_427) rfl rfl rfl (by decide +kernel) ⟨Nat.le_of_ble_eq_true rfl, Nat.le_of_ble_eq_true rfl⟩) (tg_preV hw hK hSD hA (ci := 7) (q := (RX7, TX7, 12)) rfl h_p1 rfl) rfl rfl hl.1 rfl (lv_room (Nat.le_of_ble_eq_true rfl)) dX3_readQuarrel_56 ⟨Nat.le_of_ble_eq_true rfl, Nat.le_of_ble_eq_true rfl⟩) hw hA (fun  H locs hp_v_16 hw => ?_)
            obtain ⟨hfn, hp_v_16⟩ := hp_v_16
            refine lv_iload hx hb dX3_readQuarrel_59 (lv_at hl 0 rfl) ?_
            refine lv_if_eq (tgt := 88) hx hb dX3_readQuarrel_61 (by decide) (fun c9 => absurd c9 (by decide)) (fun _ => ?_)
            refine lv_aload_n hx hb dX3_readQuarrel_64 rfl (lv_at hl 3 rfl) ?_
            refine tg_get (ci := 3) (ts := ty_POST) (C := RX3) (T := TX3) (N := 9) hx hb hts inX3 hown hK hw h_p0 rfl rfl 3 (by decide) (hts _ tw_208) (fun _ h9 => h9) (ft := vR 6) rfl dX3_readQuarrel_65 (fun u_17 hv_u_17 m_u_17 => ?_)
            obtain ⟨vu_17, rfl, h_vu_17⟩ := hv_u_17
            refine lv_iload_n hx hb dX3_readQuarrel_68 rfl (lv_at hl 2 rfl) ?_
            refine lv_dup2_11 hx hb dX3_readQuarrel_69 rfl rfl ?_
            refine tg_iald (lo := (-2147483648)) (hi := 2147483647) hx hb hK hw h_vu_17 rfl 0 5 r_v_1 (by decide) (by exact fun _ _ _ => ⟨Int.le_refl _, Int.le_refl _⟩) dX3_readQuarrel_70 (fun v_18 r_v_18 m_v_18 o_v_18 => ?_)
            have q_v_18 : sg_10.2.2.1 3 (Int32.toNatClampNeg v_1) = v_18 := OV.eqA (V := vw_POST) (t := 6) hw.2.2.1 o_p0 m_u_17 m_v_18 (by decide)
            refine lv_iconst (v := 1) hx hb dX3_readQuarrel_71 (by decide) ?_
            refine lv_iload_n hx hb dX3_readQuarrel_72 rfl (lv_at hl 1 rfl) ?_
            refine lv_ishl hx hb dX3_readQuarrel_73 (lv_topi (fun v_19 e_v_19 => ?_))
            have r_v_19 : RI v_19 1 256 := by rw [e_v_19]; exact ri_shl1 (r_v_8.to (c := 0) (d := 5) (by decide)) (by decide)
            have q_v_19 : (1 : Int32) <<< (v_8 &&& 31) = v_19 := e_v_19.symm
            refine lv_ior hx hb dX3_readQuarrel_74 (lv_topi (fun v_20 e_v_20 => ?_))
            have r_v_20 := ri_any v_20
            have q_v_20 : v_18 ||| v_19 = v_20 := e_v_20.symm
            have mo8 := m_u_17
            have mo9 := m_u_17
            have hw8 := hw
            refine tg_iastE hx hb hK hw h_vu_17 rfl 0 5 r_v_1 (by decide) r_v_20 (by exact fun _ _ _ => by decide) (fun _ _ _ _ _ => trivial) (by decide) dX3_readQuarrel_75 (fun ws H locs hw hF9 hU9 hO9 => ?_)
            have m_v_15 := FLD.over hF9 m_v_15 (by decide)
            have m_u_17 := FLD.over hF9 m_u_17 (by decide)
            have o_p1 := OV.over (V := vw_TAPE) hF9 o_p1 (by decide)
            obtain ⟨sg_21, q_sg_21⟩ : ∃ q9 : OS, sA sg_10 3 (Int32.toNatClampNeg v_1) v_20 = q9 := ⟨_, rfl⟩
            have o_p0 : OV vw_POST Ps ws p0 sg_21 := by rw [← q_sg_21]; exact OV.putA (V := vw_POST) (t := 6) hF9 hU9 o_p0 mo9 (by decide) (by decide)
            have x_OT_p0 : OTR Ps w0 ws p0 := OTR.ast x_OT_p0 hF9 hU9.1 hO9 mo8 (by decide)
            refine lv_aload_n hx hb dX3_readQuarrel_76 rfl (lv_at hl 3 rfl) ?_
            refine tg_mem (ci := 3) (C := RX3) (T := TX3) (N := 9) hx hb hts inX3 hown hK hw 3 m_u_17 rfl (by decide) (hts _ tw_208) (fun _ h9 => h9) dX3_readQuarrel_77 ?_
            refine lv_iload_n hx hb dX3_readQuarrel_80 rfl (lv_at hl 1 rfl) ?_
            refine lv_dup2_11 hx hb dX3_readQuarrel_81 rfl rfl ?_
            refine tg_iald (lo := (-2147483648)) (hi := 2147483647) hx hb hK hw h_vu_17 rfl 0 5 r_v_8 (by decide) (by exact fun _ _ _ => ⟨Int.le_refl _, Int.le_refl _⟩) dX3_readQuarrel_82 (fun v_22 r_v_22 m_v_22 o_v_22 => ?_)
            have q_v_22 : sg_21.2.2.1 3 (Int32.toNatClampNeg v_8) = v_22 := OV.eqA (V := vw_POST) (t := 6) hw.2.2.1 o_p0 m_u_17 m_v_22 (by decide)
            refine lv_iconst (v := 1) hx hb dX3_readQuarrel_83 (by decide) ?_
            refine lv_iload_n hx hb dX3_readQuarrel_84 rfl (lv_at hl 2 rfl) ?_
            refine lv_ishl hx hb dX3_readQuarrel_85 (lv_topi (fun v_23 e_v_23 => ?_))
            have r_v_23 : RI v_23 1 256 := by rw [e_v_23]; exact ri_shl1 (r_v_1.to (c := 0) (d := 5) (by decide)) (by decide)
            have q_v_23 : (1 : Int32) <<< (v_1 &&& 31) = v_23 := e_v_23.symm
            refine lv_ior hx hb dX3_readQuarrel_86 (lv_topi (fun v_24 e_v_24 => ?_))
            have r_v_24 := ri_any v_24
            have q_v_24 : v_22 ||| v_23 = v_24 := e_v_24.symm
            have mo8 := m_u_17
            have mo9 := m_u_17
            have hw8 := hw
            refine tg_iastE hx hb hK hw h_vu_17 rfl 0 5 r_v_8 (by decide) r_v_24 (by exact fun _ _ _ => by decide) (fun _ _ _ _ _ => trivial) (by decide) dX3_readQuarrel_87 (fun ws H locs hw hF9 hU9 hO9 => ?_)
            have m_v_15 := FLD.over hF9 m_v_15 (by decide)
            have m_u_17 := FLD.over hF9 m_u_17 (by decide)
            have o_p1 := OV.over (V := vw_TAPE) hF9 o_p1 (by decide)
            obtain ⟨sg_25, q_sg_25⟩ : ∃ q9 : OS, sA sg_21 3 (Int32.toNatClampNeg v_8) v_24 = q9 := ⟨_, rfl⟩
            have o_p0 : OV vw_POST Ps ws p0 sg_25 := by rw [← q_sg_25]; exact OV.putA (V := vw_POST) (t := 6) hF9 hU9 o_p0 mo9 (by decide) (by decide)
            have x_OT_p0 : OTR Ps w0 ws p0 := OTR.ast x_OT_p0 hF9 hU9.1 hO9 mo8 (by decide)
            simp only [f_X3_readQuarrel__1, ↓reduceIte, q_sg_2, q_sg_3, q_v_1, eq_false c9_v_1, q_sg_9, q_sg_10, q_v_8, eq_false c9_v_8, eq_false c_16, eq_false c_21, eq_true c_38, q_sg_14, q_v_18, q_v_19, q_v_20, q_sg_21, q_v_22, q_v_23, q_v_24, q_sg_25] at hE
            subst hQ
            exact W.vret hx hb hr (fun t ht hW => ⟨⟨ws, rfl, ⟨⟨x_OT_p0, ⟨⟨(by rw [hR, ← hE]; exact o_p0), (by rw [hR, ← hE]; exact o_p1), trivial⟩, trivial⟩⟩, hw.1, hw.2.2.2.2.1⟩, by rw [ht]; exact hw.2.1, va_K.moved hW.alike hK, hw.2.2.1⟩, hw.2.2.2.1.F ht⟩) hw.2.2.2.1.2.2 dX3_readQuarrel_88
          · refine lv_aload_n hx hb dX3_readQuarrel_41 rfl (lv_at hl 3 rfl) ?_
            refine lv_iload_n hx hb dX3_readQuarrel_42 rfl (lv_at hl 2 rfl) ?_
            refine lv_iload_n hx hb dX3_readQuarrel_43 rfl (lv_at hl 1 rfl) ?_
            refine tk_ir (va_runV (As := [.int v_1, .int v_8]) (rest := []) ⟨hx, hb, hml, hown, hts⟩ (c_X3_quarrel__2 l D cy z H.size Ps ws hw.1 p0 v_1 v_8 sg_10 h_p0 r_v_1 (r_v_8.to (by decide)) o_p0) (cwV 2 hts (gV tw_495 tw_497 ts_5 tw_11 tw_498) rfl rfl rfl (by decide +kernel) ⟨Nat.le_of_ble_eq_true rfl, Nat.le_of_ble_eq_true rfl⟩) (tg_preV hw hK hSD hA (ci := 3) (q := (RX3, TX3, 9)) rfl h_p0 rfl) rfl rfl hl.1 rfl (lv_room (Nat.le_of_ble_eq_true rfl)) dX3_readQuarrel_44 ⟨Nat.le_of_ble_eq_true rfl, Nat.le_of_ble_eq_true rfl⟩) hw hA (fun v_26  H locs hp_v_26 hw => ?_)
            obtain ⟨hot9, hp_v_26⟩ := hp_v_26
            obtain ⟨hfn, hp_v_26⟩ := hp_v_26
            have q_v_26 : (f_X3_quarrel__1 v_1 v_8 sg_10) = v_26 := hfn.1
            have r_v_26 : RI v_26 0 1 := hp_v_26.1
            refine lv_if_eq (tgt := 55) hx hb dX3_readQuarrel_47 (by decide) (fun c_47 => ?_) (fun c_47 => ?_)
            · have r_v_26 : RI v_26 0 0 := rc_eq1 r_v_26 rl_0 (ti_eq c_47) (by decide)
              refine lv_aload_n hx hb dX3_readQuarrel_55 rfl (lv_at hl 4 rfl) ?_
              refine tk_v (va_runV (As := []) (rest := []) ⟨hx, hb, hml, hown, hts⟩ (c_X7_pass__6 l D cy z H.size Ps ws hw.1 p1 sg_9 h_p1 o_p1) (cwV 0 hts (gV tw_451 tw_425 tw_426 tw_2 tw_427) rfl rfl rfl (by decide +kernel) ⟨Nat.le_of_ble_eq_true rfl, Nat.le_of_ble_eq_true rfl⟩) (tg_preV hw hK hSD hA (ci := 7) (q := (RX7, TX7, 12)) rfl h_p1 rfl) rfl rfl hl.1 rfl (lv_room (Nat.le_of_ble_eq_true rfl)) dX3_readQuarrel_56 ⟨Nat.le_of_ble_eq_true rfl, Nat.le_of_ble_eq_true rfl⟩) hw hA ⟨by decide, by decide⟩ (fun ws H locs hp_v_27 hw hF9 => ?_)
              have x_OT_p0 := OTR.over hF9 x_OT_p0 (by decide)
              obtain ⟨hfn, hp_v_27⟩ := hp_v_27
              have o_p0 := OV.over (V := vw_POST) hF9 o_p0 (by decide)
              obtain ⟨sg_28, q_sg_28⟩ : ∃ q9 : OS, (f_X7_pass__6 sg_9) = q9 := ⟨_, rfl⟩
              have o_p1 : OV vw_TAPE Ps ws p1 sg_28 := by rw [← q_sg_28]; exact hfn.1
              refine lv_iload hx hb dX3_readQuarrel_59 (lv_at hl 0 rfl) ?_
              refine lv_if_eq (tgt := 88) hx hb dX3_readQuarrel_61 (by decide) (fun c9 => absurd c9 (by decide)) (fun _ => ?_)
              refine lv_aload_n hx hb dX3_readQuarrel_64 rfl (lv_at hl 3 rfl) ?_
              refine tg_get (ci := 3) (ts := ty_POST) (C := RX3) (T := TX3) (N := 9) hx hb hts inX3 hown hK hw h_p0 rfl rfl 3 (by decide) (hts _ tw_208) (fun _ h9 => h9) (ft := vR 6) rfl dX3_readQuarrel_65 (fun u_29 hv_u_29 m_u_29 => ?_)
              obtain ⟨vu_29, rfl, h_vu_29⟩ := hv_u_29
              refine lv_iload_n hx hb dX3_readQuarrel_68 rfl (lv_at hl 2 rfl) ?_
              refine lv_dup2_11 hx hb dX3_readQuarrel_69 rfl rfl ?_
              refine tg_iald (lo := (-2147483648)) (hi := 2147483647) hx hb hK hw h_vu_29 rfl 0 5 r_v_1 (by decide) (by exact fun _ _ _ => ⟨Int.le_refl _, Int.le_refl _⟩) dX3_readQuarrel_70 (fun v_30 r_v_30 m_v_30 o_v_30 => ?_)
              have q_v_30 : sg_10.2.2.1 3 (Int32.toNatClampNeg v_1) = v_30 := OV.eqA (V := vw_POST) (t := 6) hw.2.2.1 o_p0 m_u_29 m_v_30 (by decide)
              refine lv_iconst (v := 1) hx hb dX3_readQuarrel_71 (by decide) ?_
              refine lv_iload_n hx hb dX3_readQuarrel_72 rfl (lv_at hl 1 rfl) ?_
              refine lv_ishl hx hb dX3_readQuarrel_73 (lv_topi (fun v_31 e_v_31 => ?_))
              have r_v_31 : RI v_31 1 256 := by rw [e_v_31]; exact ri_shl1 (r_v_8.to (c := 0) (d := 5) (by decide)) (by decide)
              have q_v_31 : (1 : Int32) <<< (v_8 &&& 31) = v_31 := e_v_31.symm
              refine lv_ior hx hb dX3_readQuarrel_74 (lv_topi (fun v_32 e_v_32 => ?_))
              have r_v_32 := ri_any v_32
              have q_v_32 : v_30 ||| v_31 = v_32 := e_v_32.symm
              have mo8 := m_u_29
              have mo9 := m_u_29
              have hw8 := hw
              refine tg_iastE hx hb hK hw h_vu_29 rfl 0 5 r_v_1 (by decide) r_v_32 (by exact fun _ _ _ => by decide) (fun _ _ _ _ _ => trivial) (by decide) dX3_readQuarrel_75 (fun ws H locs hw hF9 hU9 hO9 => ?_)
              have m_u_29 := FLD.over hF9 m_u_29 (by decide)
              have o_p1 := OV.over (V := vw_TAPE) hF9 o_p1 (by decide)
              obtain ⟨sg_33, q_sg_33⟩ : ∃ q9 : OS, sA sg_10 3 (Int32.toNatClampNeg v_1) v_32 = q9 := ⟨_, rfl⟩
              have o_p0 : OV vw_POST Ps ws p0 sg_33 := by rw [← q_sg_33]; exact OV.putA (V := vw_POST) (t := 6) hF9 hU9 o_p0 mo9 (by decide) (by decide)
              have x_OT_p0 : OTR Ps w0 ws p0 := OTR.ast x_OT_p0 hF9 hU9.1 hO9 mo8 (by decide)
              refine lv_aload_n hx hb dX3_readQuarrel_76 rfl (lv_at hl 3 rfl) ?_
              refine tg_mem (ci := 3) (C := RX3) (T := TX3) (N := 9) hx hb hts inX3 hown hK hw 3 m_u_29 rfl (by decide) (hts _ tw_208) (fun _ h9 => h9) dX3_readQuarrel_77 ?_
              refine lv_iload_n hx hb dX3_readQuarrel_80 rfl (lv_at hl 1 rfl) ?_
              refine lv_dup2_11 hx hb dX3_readQuarrel_81 rfl rfl ?_
              refine tg_iald (lo := (-2147483648)) (hi := 2147483647) hx hb hK hw h_vu_29 rfl 0 5 r_v_8 (by decide) (by exact fun _ _ _ => ⟨Int.le_refl _, Int.le_refl _⟩) dX3_readQuarrel_82 (fun v_34 r_v_34 m_v_34 o_v_34 => ?_)
              have q_v_34 : sg_33.2.2.1 3 (Int32.toNatClampNeg v_8) = v_34 := OV.eqA (V := vw_POST) (t := 6) hw.2.2.1 o_p0 m_u_29 m_v_34 (by decide)
              refine lv_iconst (v := 1) hx hb dX3_readQuarrel_83 (by decide) ?_
              refine lv_iload_n hx hb dX3_readQuarrel_84 rfl (lv_at hl 2 rfl) ?_
              refine lv_ishl hx hb dX3_readQuarrel_85 (lv_topi (fun v_35 e_v_35 => ?_))
              have r_v_35 : RI v_35 1 256 := by rw [e_v_35]; exact ri_shl1 (r_v_1.to (c := 0) (d := 5) (by decide)) (by decide)
              have q_v_35 : (1 : Int32) <<< (v_1 &&& 31) = v_35 := e_v_35.symm
              refine lv_ior hx hb dX3_readQuarrel_86 (lv_topi (fun v_36 e_v_36 => ?_))
              have r_v_36 := ri_any v_36
              have q_v_36 : v_34 ||| v_35 = v_36 := e_v_36.symm
              have mo8 := m_u_29
              have mo9 := m_u_29
              have hw8 := hw
              refine tg_iastE hx hb hK hw h_vu_29 rfl 0 5 r_v_8 (by decide) r_v_36 (by exact fun _ _ _ => by decide) (fun _ _ _ _ _ => trivial) (by decide) dX3_readQuarrel_87 (fun ws H locs hw hF9 hU9 hO9 => ?_)
              have m_u_29 := FLD.over hF9 m_u_29 (by decide)
              have o_p1 := OV.over (V := vw_TAPE) hF9 o_p1 (by decide)
              obtain ⟨sg_37, q_sg_37⟩ : ∃ q9 : OS, sA sg_33 3 (Int32.toNatClampNeg v_8) v_36 = q9 := ⟨_, rfl⟩
              have o_p0 : OV vw_POST Ps ws p0 sg_37 := by rw [← q_sg_37]; exact OV.putA (V := vw_POST) (t := 6) hF9 hU9 o_p0 mo9 (by decide) (by decide)
              have x_OT_p0 : OTR Ps w0 ws p0 := OTR.ast x_OT_p0 hF9 hU9.1 hO9 mo8 (by decide)
              simp only [f_X3_readQuarrel__1, ↓reduceIte, q_sg_2, q_sg_3, q_v_1, eq_false c9_v_1, q_sg_9, q_sg_10, q_v_8, eq_false c9_v_8, eq_false c_16, eq_false c_21, eq_false c_38, q_v_26, eq_true c_47, q_sg_28, q_v_30, q_v_31, q_v_32, q_sg_33, q_v_34, q_v_35, q_v_36, q_sg_37] at hE
              subst hQ
              exact W.vret hx hb hr (fun t ht hW => ⟨⟨ws, rfl, ⟨⟨x_OT_p0, ⟨⟨(by rw [hR, ← hE]; exact o_p0), (by rw [hR, ← hE]; exact o_p1), trivial⟩, trivial⟩⟩, hw.1, hw.2.2.2.2.1⟩, by rw [ht]; exact hw.2.1, va_K.moved hW.alike hK, hw.2.2.1⟩, hw.2.2.2.1.F ht⟩) hw.2.2.2.1.2.2 dX3_readQuarrel_88
            · have r_v_26 : RI v_26 1 1 := rc_neL r_v_26 rl_0 (ti_ne c_47) (by decide)
              refine lv_aload_n hx hb dX3_readQuarrel_50 rfl (lv_at hl 4 rfl) ?_
              refine lv_iconst (v := 3) hx hb dX3_readQuarrel_51 (by decide) ?_
              refine tk_v (va_runV (As := [.int 3]) (rest := []) ⟨hx, hb, hml, hown, hts⟩ (c_X7_refuse__4 l D cy z H.size Ps ws hw.1 p1 3 sg_9 h_p1 (rl_3.to (by decide)) o_p1) (cwV 1 hts (gV tw_450 tw_443 tw_444 tw_2 tw_445) rfl rfl rfl (by decide +kernel) ⟨Nat.le_of_ble_eq_true rfl, Nat.le_of_ble_eq_true rfl⟩) (tg_preV hw hK hSD hA (ci := 7) (q := (RX7, TX7, 12)) rfl h_p1 rfl) rfl rfl hl.1 rfl (lv_room (Nat.le_of_ble_eq_true rfl)) dX3_readQuarrel_52 ⟨Nat.le_of_ble_eq_true rfl, Nat.le_of_ble_eq_true rfl⟩) hw hA ⟨by decide, by decide⟩ (fun ws H locs hp_v_38 hw hF9 => ?_)
              have x_OT_p0 := OTR.over hF9 x_OT_p0 (by decide)
              obtain ⟨hfn, hp_v_38⟩ := hp_v_38
              have o_p0 := OV.over (V := vw_POST) hF9 o_p0 (by decide)
              obtain ⟨sg_39, q_sg_39⟩ : ∃ q9 : OS, (f_X7_refuse__4 (3 : Int32) sg_9) = q9 := ⟨_, rfl⟩
              have o_p1 : OV vw_TAPE Ps ws p1 sg_39 := by rw [← q_sg_39]; exact hfn.1
              obtain ⟨v_40, m_v_40, r_v_40⟩ := (hp_v_38.1)
              refine lv_aload_n hx hb dX3_readQuarrel_55 rfl (lv_at hl 4 rfl) ?_
              refine tk_vr (va_runV (As := []) (rest := []) ⟨hx, hb, hml, hown, hts⟩ (c_X7_pass__4 l D cy z H.size Ps ws hw.1 p1 v_40 sg_39 h_p1 r_v_40 m_v_40 o_p1) (cwV 0 hts (gV tw_451 tw_425 tw_426 tw_2 tw_427) rfl rfl rfl (by decide +kernel) ⟨Nat.le_of_ble_eq_true rfl, Nat.le_of_ble_eq_true rfl⟩) (tg_preV hw hK hSD hA (ci := 7) (q := (RX7, TX7, 12)) rfl h_p1 rfl) rfl rfl hl.1 rfl (lv_room (Nat.le_of_ble_eq_true rfl)) dX3_readQuarrel_56 ⟨Nat.le_of_ble_eq_true rfl, Nat.le_of_ble_eq_true rfl⟩) hw hA (fun  H locs hp_v_41 hw => ?_)
              obtain ⟨hfn, hp_v_41⟩ := hp_v_41
              refine lv_iload hx hb dX3_readQuarrel_59 (lv_at hl 0 rfl) ?_
              refine lv_if_eq (tgt := 88) hx hb dX3_readQuarrel_61 (by decide) (fun c9 => absurd c9 (by decide)) (fun _ => ?_)
              refine lv_aload_n hx hb dX3_readQuarrel_64 rfl (lv_at hl 3 rfl) ?_
              refine tg_get (ci := 3) (ts := ty_POST) (C := RX3) (T := TX3) (N := 9) hx hb hts inX3 hown hK hw h_p0 rfl rfl 3 (by decide) (hts _ tw_208) (fun _ h9 => h9) (ft := vR 6) rfl dX3_readQuarrel_65 (fun u_42 hv_u_42 m_u_42 => ?_)
              obtain ⟨vu_42, rfl, h_vu_42⟩ := hv_u_42
              refine lv_iload_n hx hb dX3_readQuarrel_68 rfl (lv_at hl 2 rfl) ?_
              refine lv_dup2_11 hx hb dX3_readQuarrel_69 rfl rfl ?_
              refine tg_iald (lo := (-2147483648)) (hi := 2147483647) hx hb hK hw h_vu_42 rfl 0 5 r_v_1 (by decide) (by exact fun _ _ _ => ⟨Int.le_refl _, Int.le_refl _⟩) dX3_readQuarrel_70 (fun v_43 r_v_43 m_v_43 o_v_43 => ?_)
              have q_v_43 : sg_10.2.2.1 3 (Int32.toNatClampNeg v_1) = v_43 := OV.eqA (V := vw_POST) (t := 6) hw.2.2.1 o_p0 m_u_42 m_v_43 (by decide)
              refine lv_iconst (v := 1) hx hb dX3_readQuarrel_71 (by decide) ?_
              refine lv_iload_n hx hb dX3_readQuarrel_72 rfl (lv_at hl 1 rfl) ?_
              refine lv_ishl hx hb dX3_readQuarrel_73 (lv_topi (fun v_44 e_v_44 => ?_))
              have r_v_44 : RI v_44 1 256 := by rw [e_v_44]; exact ri_shl1 (r_v_8.to (c := 0) (d := 5) (by decide)) (by decide)
              have q_v_44 : (1 : Int32) <<< (v_8 &&& 31) = v_44 := e_v_44.symm
              refine lv_ior hx hb dX3_readQuarrel_74 (lv_topi (fun v_45 e_v_45 => ?_))
              have r_v_45 := ri_any v_45
              have q_v_45 : v_43 ||| v_44 = v_45 := e_v_45.symm
              have mo8 := m_u_42
              have mo9 := m_u_42
              have hw8 := hw
              refine tg_iastE hx hb hK hw h_vu_42 rfl 0 5 r_v_1 (by decide) r_v_45 (by exact fun _ _ _ => by decide) (fun _ _ _ _ _ => trivial) (by decide) dX3_readQuarrel_75 (fun ws H locs hw hF9 hU9 hO9 => ?_)
              have m_v_40 := FLD.over hF9 m_v_40 (by decide)
              have m_u_42 := FLD.over hF9 m_u_42 (by decide)
              have o_p1 := OV.over (V := vw_TAPE) hF9 o_p1 (by decide)
              obtain ⟨sg_46, q_sg_46⟩ : ∃ q9 : OS, sA sg_10 3 (Int32.toNatClampNeg v_1) v_45 = q9 := ⟨_, rfl⟩
              have o_p0 : OV vw_POST Ps ws p0 sg_46 := by rw [← q_sg_46]; exact OV.putA (V := vw_POST) (t := 6) hF9 hU9 o_p0 mo9 (by decide) (by decide)
              have x_OT_p0 : OTR Ps w0 ws p0 := OTR.ast x_OT_p0 hF9 hU9.1 hO9 mo8 (by decide)
              refine lv_aload_n hx hb dX3_readQuarrel_76 rfl (lv_at hl 3 rfl) ?_
              refine tg_mem (ci := 3) (C := RX3) (T := TX3) (N := 9) hx hb hts inX3 hown hK hw 3 m_u_42 rfl (by decide) (hts _ tw_208) (fun _ h9 => h9) dX3_readQuarrel_77 ?_
              refine lv_iload_n hx hb dX3_readQuarrel_80 rfl (lv_at hl 1 rfl) ?_
              refine lv_dup2_11 hx hb dX3_readQuarrel_81 rfl rfl ?_
              refine tg_iald (lo := (-2147483648)) (hi := 2147483647) hx hb hK hw h_vu_42 rfl 0 5 r_v_8 (by decide) (by exact fun _ _ _ => ⟨Int.le_refl _, Int.le_refl _⟩) dX3_readQuarrel_82 (fun v_47 r_v_47 m_v_47 o_v_47 => ?_)
              have q_v_47 : sg_46.2.2.1 3 (Int32.toNatClampNeg v_8) = v_47 := OV.eqA (V := vw_POST) (t := 6) hw.2.2.1 o_p0 m_u_42 m_v_47 (by decide)
              refine lv_iconst (v := 1) hx hb dX3_readQuarrel_83 (by decide) ?_
              refine lv_iload_n hx hb dX3_readQuarrel_84 rfl (lv_at hl 2 rfl) ?_
              refine lv_ishl hx hb dX3_readQuarrel_85 (lv_topi (fun v_48 e_v_48 => ?_))
              have r_v_48 : RI v_48 1 256 := by rw [e_v_48]; exact ri_shl1 (r_v_1.to (c := 0) (d := 5) (by decide)) (by decide)
              have q_v_48 : (1 : Int32) <<< (v_1 &&& 31) = v_48 := e_v_48.symm
              refine lv_ior hx hb dX3_readQuarrel_86 (lv_topi (fun v_49 e_v_49 => ?_))
              have r_v_49 := ri_any v_49
              have q_v_49 : v_47 ||| v_48 = v_49 := e_v_49.symm
              have mo8 := m_u_42
              have mo9 := m_u_42
              have hw8 := hw
              refine tg_iastE hx hb hK hw h_vu_42 rfl 0 5 r_v_8 (by decide) r_v_49 (by exact fun _ _ _ => by decide) (fun _ _ _ _ _ => trivial) (by decide) dX3_readQuarrel_87 (fun ws H locs hw hF9 hU9 hO9 => ?_)
              have m_v_40 := FLD.over hF9 m_v_40 (by decide)
              have m_u_42 := FLD.over hF9 m_u_42 (by decide)
              have o_p1 := OV.over (V := vw_TAPE) hF9 o_p1 (by decide)
              obtain ⟨sg_50, q_sg_50⟩ : ∃ q9 : OS, sA sg_46 3 (Int32.toNatClampNeg v_8) v_49 = q9 := ⟨_, rfl⟩
              have o_p0 : OV vw_POST Ps ws p0 sg_50 := by rw [← q_sg_50]; exact OV.putA (V := vw_POST) (t := 6) hF9 hU9 o_p0 mo9 (by decide) (by decide)
              have x_OT_p0 : OTR Ps w0 ws p0 := OTR.ast x_OT_p0 hF9 hU9.1 hO9 mo8 (by decide)
              simp only [f_X3_readQuarrel__1, ↓reduceIte, q_sg_2, q_sg_3, q_v_1, eq_false c9_v_1, q_sg_9, q_sg_10, q_v_8, eq_false c9_v_8, eq_false c_16, eq_false c_21, eq_false c_38, q_v_26, eq_false c_47, q_sg_39, q_v_43, q_v_44, q_v_45, q_sg_46, q_v_47, q_v_48, q_v_49, q_sg_50] at hE
              subst hQ
              exact W.vret hx hb hr (fun t ht hW => ⟨⟨ws, rfl, ⟨⟨x_OT_p0, ⟨⟨(by rw [hR, ← hE]; exact o_p0), (by rw [hR, ← hE]; exact o_p1), trivial⟩, trivial⟩⟩, hw.1, hw.2.2.2.2.1⟩, by rw [ht]; exact hw.2.1, va_K.moved hW.alike hK, hw.2.2.1⟩, hw.2.2.2.1.F ht⟩) hw.2.2.2.1.2.2 dX3_readQuarrel_88
abbrev wr_X3_beginsLine__31 : List (Nat × Nat) := [(7, 5), (7, 6), (7, 7), (7, 8), (7, 9), (7, 10), (7, 11)]
abbrev wa_X3_beginsLine__31 : List Nat := []
set_option maxHeartbeats 4000000 in
set_option maxRecDepth 100000 in
theorem c_X3_beginsLine__31 (l : Launch) (D : va_G) (cy : Nat → ClassId) (z : Nat → Nat) (sz : Nat) (Ps : PSI) (w0 : va_W) (hT : HT cy GG Ps w0) (p0 : Nat) (p1 : Nat) (p2 : Int32) (f1_10 : Int32) (s0 : OS) (s1 : OS) (h_p0 : (p0, 25) ∈ Ps) (h_p1 : (p1, 26) ∈ Ps) (r_p2 : RI p2 135 135) (r_f1_10 : RI f1_10 0 0) (m_f1_10 : FLD w0 p1 7 10 (.int f1_10)) (o_p0 : OV vw_POST Ps w0 p0 s0) (o_p1 : OV vw_TAPE Ps w0 p1 s1) : Met l yX3_beginsLine (Cond.code yX3_beginsLine cX3_beginsLine 3 (some .boolean) :: gT) ({ frames := 3, cells := 0, slots := 0, locals := 600 } : Room) (va_Pc [.ref p0, .ref p1, .int p2] (PRE D cy z w0 sz)) (va_Qi (fun (r : Int32) (u : va_W) => ((OTR Ps w0 u p0) ∧ ((OV vw_POST Ps u p0 ((f_X3_beginsLine__20 p2 s0 s1).1) ∧ OV vw_TAPE Ps u p1 ((f_X3_beginsLine__20 p2 s0 s1).2.1) ∧ (f_X3_beginsLine__20 p2 s0 s1).2.2 = r ∧ True) ∧ (RI r 0 1 ∧ (r = 0 → (∃ v9 : Int32, FLD u p1 7 10 (.int v9) ∧ RI v9 1 4) ∧ True) ∧ (¬ r = 0 → (∃ v9 : Int32, FLD u p1 7 10 (.int v9) ∧ RI v9 0 0) ∧ True)))) ∧ HT cy GG Ps u ∧ FR wr_X3_beginsLine__31 wa_X3_beginsLine__31 Ps w0 u) (BB D cy (va_A w0 sz) (fun (u : va_W) => u)) (va_A w0 sz)) 0 0 (va_A w0 sz) := by
  refine Met.ofW (cc := cX3_beginsLine) (maxL := 3) (ret := (some .boolean)) (by decide) rfl ?_
  intro p e s m args below meth c s₁ B hml hv
  obtain ⟨rfl, hsz, hP, hK, hD0, hSD⟩ := hv
  have hx := B.exec
  have hb := B.bytes
  have hr := B.returns
  have hlocks := B.notSynchronized
  have hts : ∀ w ∈ gT, w.before _ s = true := fun w h => atoms_spec (ws := Cond.code yX3_beginsLine cX3_beginsLine 3 (some .boolean) :: gT) B.pre w (List.mem_cons_of_mem _ h)
  have hown : s.vm.findClass RX3 = some m.cls := findClass_of_methodNamed B.named
  subst hsz
  have hD := hD0.self (sz := s.heap.size)
  generalize hAe : va_A w0 s.heap.size = A at hD hSD ⊢
  have hA : ∀ q : Nat, s.heap.size ≤ q → A q := fun q h => by rw [← hAe]; exact Or.inr h
  have hl := lv_entry ([.ref p0, .ref p1, .int p2]) (n := 3) (Nat.le_of_ble_eq_true rfl)
  rw [lg_entry_eq]
  generalize (lg_sl ([.ref p0, .ref p1, .int p2]) ++ List.replicate (3 - (lg_sl ([.ref p0, .ref p1, .int p2])).length) Slot.unset).toArray = ls at hl ⊢
  have hl : lv_has ls 3 [(0, .ref p0), (1, .ref p1), (2, .int p2)] := hl
  refine nameQ (fun Q hQ => ?_)
  have hw : WD D cy GG A s wr_X3_beginsLine__31 wa_X3_beginsLine__31 Ps w0 Ps w0 s.heap [] := ⟨hT, hP, hD, va_S.rf, FR.rf, hT.1, [], (List.append_nil _).symm⟩
  have x_OT_p0 : OTR Ps w0 w0 p0 := OTR.rf
  obtain ⟨R9, hR⟩ : ∃ q9 : OS × OS × Int32, f_X3_beginsLine__20 p2 s0 s1 = q9 := ⟨_, rfl⟩
  have hE := hR
  refine lv_iload_n hx hb dX3_beginsLine_0 rfl (lv_at hl 2 rfl) ?_
  refine lv_sipush (v := 128) hx hb dX3_beginsLine_1 (by decide) ?_
  refine lv_icmp_lt (tgt := 14) hx hb dX3_beginsLine_4 (by decide) (fun c_4 => ?_) (fun c_4 => ?_)
  · have r_p2 : RI p2 135 127 := rc_lt1 r_p2 rl_128 (ti_lt c_4) (by decide)
    exact (r_p2.no (by decide)).elim
  · refine lv_iload_n hx hb dX3_beginsLine_7 rfl (lv_at hl 2 rfl) ?_
    refine lv_sipush (v := 136) hx hb dX3_beginsLine_8 (by decide) ?_
    refine lv_icmp_le (tgt := 22) hx hb dX3_beginsLine_11 (by decide) (fun c_11 => ?_) (fun c_11 => ?_)
    · refine lv_iload_n hx hb dX3_beginsLine_22 rfl (lv_at hl 2 rfl) ?_
      refine lv_sipush (v := 131) hx hb dX3_beginsLine_23 (by decide) ?_
      refine lv_icmp_gt (tgt := 59) hx hb dX3_beginsLine_26 (by decide) (fun c_26 => ?_) (fun c_26 => ?_)
      · refine lv_iload_n hx hb dX3_beginsLine_59 rfl (lv_at hl 2 rfl) ?_
        refine lv_sipush (v := 135) hx hb dX3_beginsLine_60 (by decide) ?_
        refine lv_icmp_ne (tgt := 73) hx hb dX3_beginsLine_63 (by decide) (fun c_63 => ?_) (fun c_63 => ?_)
        · exact absurd (r_p2.eq.trans rl_135.eq.symm) ((ti_ne c_63))
        · refine lv_aload_n hx hb dX3_beginsLine_66 rfl (lv_at hl 0 rfl) ?_
          refine tg_get (ci := 3) (ts := ty_POST) (C := RX3) (T := TX3) (N := 9) hx hb hts inX3 hown hK hw h_p0 rfl rfl 7 (by decide) (hts _ tw_219) (fun _ h9 => h9) (ft := vI 0 1) rfl dX3_beginsLine_67 (fun u_1 hv_u_1 m_u_1 => ?_)
          obtain ⟨vu_1, rfl, r_vu_1⟩ := hv_u_1
          have q_vu_1 : s0.1 7 = vu_1 := OV.eqI (V := vw_POST) hw.2.2.1 o_p0 m_u_1 (by decide)
          refine lv_if_ne (tgt := 87) hx hb dX3_beginsLine_70 (by decide) (fun c_70 => ?_) (fun c_70 => ?_)
          · have r_vu_1 : RI vu_1 1 1 := rc_neL r_vu_1 rl_0 (ti_ne c_70) (by decide)
            refine lv_aload_n hx hb dX3_beginsLine_87 rfl (lv_at hl 1 rfl) ?_
            refine lv_iconst (v := 3) hx hb dX3_beginsLine_88 (by decide) ?_
            refine tk_v (va_runV (As := [.int 3]) (rest := []) ⟨hx, hb, hml, hown, hts⟩ (c_X7_refuse__5 l D cy z s.heap.size Ps w0 hw.1 p1 3 f1_10 s1 h_p1 (rl_3.to (by decide)) r_f1_10 m_f1_10 o_p1) (cwV 1 hts (gV tw_450 tw_443 tw_444 tw_2 tw_445) rfl rfl rfl (by decide +kernel) ⟨Nat.le_of_ble_eq_true rfl, Nat.le_of_ble_eq_true rfl⟩) (tg_preV hw hK hSD hA (ci := 7) (q := (RX7, TX7, 12)) rfl h_p1 rfl) rfl rfl hl.1 rfl (lv_room (Nat.le_of_ble_eq_true rfl)) dX3_beginsLine_89 ⟨Nat.le_of_ble_eq_true rfl, Nat.le_of_ble_eq_true rfl⟩) hw hA ⟨by decide, by decide⟩ (fun ws H locs hp_v_2 hw hF9 => ?_)
            have m_u_1 := FLD.over hF9 m_u_1 (by decide)
            have x_OT_p0 := OTR.over hF9 x_OT_p0 (by decide)
            obtain ⟨hfn, hp_v_2⟩ := hp_v_2
            have o_p0 := OV.over (V := vw_POST) hF9 o_p0 (by decide)
            obtain ⟨sg_3, q_sg_3⟩ : ∃ q9 : OS, (f_X7_refuse__5 (3 : Int32) s1) = q9 := ⟨_, rfl⟩
            have o_p1 : OV vw_TAPE Ps ws p1 sg_3 := by rw [← q_sg_3]; exact hfn.1
            obtain ⟨v_4, m_v_4, r_v_4⟩ := (hp_v_2.1)
            refine lv_aload_n hx hb dX3_beginsLine_92 rfl (lv_at hl 1 rfl) ?_
            refine tk_vr (va_runV (As := []) (rest := []) ⟨hx, hb, hml, hown, hts⟩ (c_X7_pass__4 l D cy z H.size Ps ws hw.1 p1 v_4 sg_3 h_p1 r_v_4 m_v_4 o_p1) (cwV 0 hts (gV tw_451 tw_425 tw_426 tw_2 tw_427) rfl rfl rfl (by decide +kernel) ⟨Nat.le_of_ble_eq_true rfl, Nat.le_of_ble_eq_true rfl⟩) (tg_preV hw hK hSD hA (ci := 7) (q := (RX7, TX7, 12)) rfl h_p1 rfl) rfl rfl hl.1 rfl (lv_room (Nat.le_of_ble_eq_true rfl)) dX3_beginsLine_93 ⟨Nat.le_of_ble_eq_true rfl, Nat.le_of_ble_eq_true rfl⟩) hw hA (fun  H locs hp_v_5 hw => ?_)
            obtain ⟨hfn, hp_v_5⟩ := hp_v_5
            refine lv_aload_n hx hb dX3_beginsLine_96 rfl (lv_at hl 1 rfl) ?_
            refine tg_memN (ci := 7) (C := RX7) (T := TX7) (N := 12) hx hb hts inX7 hown hK hw 10 m_v_4 rfl (by decide) (hSD.nest tn_105) (fun _ h9 => h9) dX3_beginsLine_97 ?_
            have q_v_4 : sg_3.1 10 = v_4 := OV.eqI (V := vw_TAPE) hw.2.2.1 o_p1 m_v_4 (by decide)
            refine lv_if_ne (tgt := 107) hx hb dX3_beginsLine_100 (by decide) (fun c_100 => ?_) (fun c_100 => ?_)
            · refine lv_iconst (v := 0) hx hb dX3_beginsLine_107 (by decide) ?_
              simp only [f_X3_beginsLine__20, ↓reduceIte, eq_false c_4, eq_true c_11, eq_true c_26, eq_true c_63, q_vu_1, eq_false c_70, q_sg_3, q_v_4, eq_false c_100] at hE
              subst hQ
              exact W.zret (v := 0) hx hb hr (rfl) (fun t ht hW => ⟨⟨0, ws, rfl, ⟨⟨x_OT_p0, ⟨(by rw [hR, ← hE]; exact o_p0), (by rw [hR, ← hE]; exact o_p1), (by rw [hR, ← hE]), trivial⟩, rl_0.to (by decide), (fun h0 => ⟨⟨_, m_v_4, r_v_4⟩, trivial⟩), (fun h0 => absurd rfl h0)⟩, hw.1, hw.2.2.2.2.1⟩, by rw [ht]; exact hw.2.1, va_K.moved hW.alike hK, hw.2.2.1⟩, hw.2.2.2.1.F ht⟩) hw.2.2.2.1.2.2 dX3_beginsLine_108
            · have r_v_4 : RI v_4 1 0 := rc_eq1 r_v_4 rl_0 (ti_eq c_100) (by decide)
              exact (r_v_4.no (by decide)).elim
          · have r_vu_1 : RI vu_1 0 0 := rc_eq1 r_vu_1 rl_0 (ti_eq c_70) (by decide)
            refine lv_iload_n hx hb dX3_beginsLine_73 rfl (lv_at hl 2 rfl) ?_
            refine lv_sipush (v := 136) hx hb dX3_beginsLine_74 (by decide) ?_
            refine lv_icmp_ne (tgt := 92) hx hb dX3_beginsLine_77 (by decide) (fun c_77 => ?_) (fun c_77 => ?_)
            · refine lv_aload_n hx hb dX3_beginsLine_92 rfl (lv_at hl 1 rfl) ?_
              refine tk_v (va_runV (As := []) (rest := []) ⟨hx, hb, hml, hown, hts⟩ (c_X7_pass__5 l D cy z s.heap.size Ps w0 hw.1 p1 f1_10 s1 h_p1 r_f1_10 m_f1_10 o_p1) (cwV 0 hts (gV tw_451 tw_425 tw_426 tw_2 tw_427) rfl rfl rfl (by decide +kernel) ⟨Nat.le_of_ble_eq_true rfl, Nat.le_of_ble_eq_true rfl⟩) (tg_preV hw hK hSD hA (ci := 7) (q := (RX7, TX7, 12)) rfl h_p1 rfl) rfl rfl hl.1 rfl (lv_room (Nat.le_of_ble_eq_true rfl)) dX3_beginsLine_93 ⟨Nat.le_of_ble_eq_true rfl, Nat.le_of_ble_eq_true rfl⟩) hw hA ⟨by decide, by decide⟩ (fun ws H locs hp_v_6 hw hF9 => ?_)
              have m_f1_10 := FLD.over hF9 m_f1_10 (by decide)
              have m_u_1 := FLD.over hF9 m_u_1 (by decide)
              have x_OT_p0 := OTR.over hF9 x_OT_p0 (by decide)
              obtain ⟨hfn, hp_v_6⟩ := hp_v_6
              have o_p0 := OV.over (V := vw_POST) hF9 o_p0 (by decide)
              obtain ⟨sg_7, q_sg_7⟩ : ∃ q9 : OS, (f_X7_pass__5 s1) = q9 := ⟨_, rfl⟩
              have o_p1 : OV vw_TAPE Ps ws p1 sg_7 := by rw [← q_sg_7]; exact hfn.1
              obtain ⟨v_8, m_v_8, r_v_8⟩ := (hp_v_6.1)
              refine lv_aload_n hx hb dX3_beginsLine_96 rfl (lv_at hl 1 rfl) ?_
              refine tg_memN (ci := 7) (C := RX7) (T := TX7) (N := 12) hx hb hts inX7 hown hK hw 10 m_v_8 rfl (by decide) (hSD.nest tn_105) (fun _ h9 => h9) dX3_beginsLine_97 ?_
              have q_v_8 : sg_7.1 10 = v_8 := OV.eqI (V := vw_TAPE) hw.2.2.1 o_p1 m_v_8 (by decide)
              refine lv_if_ne (tgt := 107) hx hb dX3_beginsLine_100 (by decide) (fun c_100 => ?_) (fun c_100 => ?_)
              · exact absurd (r_v_8.eq.trans rl_0.eq.symm) ((ti_ne c_100))
              · refine lv_iconst (v := 1) hx hb dX3_beginsLine_103 (by decide) ?_
                refine lv_goto (tgt := 108) hx hb dX3_beginsLine_104 (by decide) ?_
                simp only [f_X3_beginsLine__20, ↓reduceIte, eq_false c_4, eq_true c_11, eq_true c_26, eq_true c_63, q_vu_1, eq_true c_70, eq_false c_77, q_sg_7, q_v_8, eq_true c_100] at hE
                subst hQ
                exact W.zret (v := 1) hx hb hr (rfl) (fun t ht hW => ⟨⟨1, ws, rfl, ⟨⟨x_OT_p0, ⟨(by rw [hR, ← hE]; exact o_p0), (by rw [hR, ← hE]; exact o_p1), (by rw [hR, ← hE]), trivial⟩, rl_1.to (by decide), (fun h0 => absurd h0 (by decide)), (fun h0 => ⟨⟨_, m_v_8, r_v_8⟩, trivial⟩)⟩, hw.1, hw.2.2.2.2.1⟩, by rw [ht]; exact hw.2.1, va_K.moved hW.alike hK, hw.2.2.1⟩, hw.2.2.2.1.F ht⟩) hw.2.2.2.1.2.2 dX3_beginsLine_108
            · have r_p2 : RI p2 136 135 := rc_eq1 r_p2 rl_136 (ti_eq c_77) (by decide)
              exact (r_p2.no (by decide)).elim
      · have r_p2 : RI p2 135 131 := rc_le1 r_p2 rl_131 (ti_nlt c_26) (by decide)
        exact (r_p2.no (by decide)).elim
    · have r_p2 : RI p2 137 135 := rc_lt2 rl_136 r_p2 (ti_nle c_11) (by decide)
      exact (r_p2.no (by decide)).elim
abbrev wr_X3_beginsLine__32 : List (Nat × Nat) := [(7, 5), (7, 6), (7, 7), (7, 8), (7, 9), (7, 10), (7, 11)]
abbrev wa_X3_beginsLine__32 : List Nat := []
set_option maxHeartbeats 4000000 in
set_option maxRecDepth 100000 in
theorem c_X3_beginsLine__32 (l : Launch) (D : va_G) (cy : Nat → ClassId) (z : Nat → Nat) (sz : Nat) (Ps : PSI) (w0 : va_W) (hT : HT cy GG Ps w0) (p0 : Nat) (p1 : Nat) (p2 : Int32) (f1_10 : Int32) (s0 : OS) (s1 : OS) (h_p0 : (p0, 25) ∈ Ps) (h_p1 : (p1, 26) ∈ Ps) (r_p2 : RI p2 136 136) (r_f1_10 : RI f1_10 0 0) (m_f1_10 : FLD w0 p1 7 10 (.int f1_10)) (o_p0 : OV vw_POST Ps w0 p0 s0) (o_p1 : OV vw_TAPE Ps w0 p1 s1) : Met l yX3_beginsLine (Cond.code yX3_beginsLine cX3_beginsLine 3 (some .boolean) :: gT) ({ frames := 3, cells := 0, slots := 0, locals := 600 } : Room) (va_Pc [.ref p0, .ref p1, .int p2] (PRE D cy z w0 sz)) (va_Qi (fun (r : Int32) (u : va_W) => ((OTR Ps w0 u p0) ∧ ((OV vw_POST Ps u p0 ((f_X3_beginsLine__21 p2 s0 s1).1) ∧ OV vw_TAPE Ps u p1 ((f_X3_beginsLine__21 p2 s0 s1).2.1) ∧ (f_X3_beginsLine__21 p2 s0 s1).2.2 = r ∧ True) ∧ (RI r 0 1 ∧ (r = 0 → (∃ v9 : Int32, FLD u p1 7 10 (.int v9) ∧ RI v9 1 4) ∧ True) ∧ (¬ r = 0 → (∃ v9 : Int32, FLD u p1 7 10 (.int v9) ∧ RI v9 0 0) ∧ True)))) ∧ HT cy GG Ps u ∧ FR wr_X3_beginsLine__32 wa_X3_beginsLine__32 Ps w0 u) (BB D cy (va_A w0 sz) (fun (u : va_W) => u)) (va_A w0 sz)) 0 0 (va_A w0 sz) := by
  refine Met.ofW (cc := cX3_beginsLine) (maxL := 3) (ret := (some .boolean)) (by decide) rfl ?_
  intro p e s m args below meth c s₁ B hml hv
  obtain ⟨rfl, hsz, hP, hK, hD0, hSD⟩ := hv
  have hx := B.exec
  have hb := B.bytes
  have hr := B.returns
  have hlocks := B.notSynchronized
  have hts : ∀ w ∈ gT, w.before _ s = true := fun w h => atoms_spec (ws := Cond.code yX3_beginsLine cX3_beginsLine 3 (some .boolean) :: gT) B.pre w (List.mem_cons_of_mem _ h)
  have hown : s.vm.findClass RX3 = some m.cls := findClass_of_methodNamed B.named
  subst hsz
  have hD := hD0.self (sz := s.heap.size)
  generalize hAe : va_A w0 s.heap.size = A at hD hSD ⊢
  have hA : ∀ q : Nat, s.heap.size ≤ q → A q := fun q h => by rw [← hAe]; exact Or.inr h
  have hl := lv_entry ([.ref p0, .ref p1, .int p2]) (n := 3) (Nat.le_of_ble_eq_true rfl)
  rw [lg_entry_eq]
  generalize (lg_sl ([.ref p0, .ref p1, .int p2]) ++ List.replicate (3 - (lg_sl ([.ref p0, .ref p1, .int p2])).length) Slot.unset).toArray = ls at hl ⊢
  have hl : lv_has ls 3 [(0, .ref p0), (1, .ref p1), (2, .int p2)] := hl
  refine nameQ (fun Q hQ => ?_)
  have hw : WD D cy GG A s wr_X3_beginsLine__32 wa_X3_beginsLine__32 Ps w0 Ps w0 s.heap [] := ⟨hT, hP, hD, va_S.rf, FR.rf, hT.1, [], (List.append_nil _).symm⟩
  have x_OT_p0 : OTR Ps w0 w0 p0 := OTR.rf
  obtain ⟨R9, hR⟩ : ∃ q9 : OS × OS × Int32, f_X3_beginsLine__21 p2 s0 s1 = q9 := ⟨_, rfl⟩
  have hE := hR
  refine lv_iload_n hx hb dX3_beginsLine_0 rfl (lv_at hl 2 rfl) ?_
  refine lv_sipush (v := 128) hx hb dX3_beginsLine_1 (by decide) ?_
  refine lv_icmp_lt (tgt := 14) hx hb dX3_beginsLine_4 (by decide) (fun c_4 => ?_) (fun c_4 => ?_)
  · have r_p2 : RI p2 136 127 := rc_lt1 r_p2 rl_128 (ti_lt c_4) (by decide)
    exact (r_p2.no (by decide)).elim
  · refine lv_iload_n hx hb dX3_beginsLine_7 rfl (lv_at hl 2 rfl) ?_
    refine lv_sipush (v := 136) hx hb dX3_beginsLine_8 (by decide) ?_
    refine lv_icmp_le (tgt := 22) hx hb dX3_beginsLine_11 (by decide) (fun c_11 => ?_) (fun c_11 => ?_)
    · refine lv_iload_n hx hb dX3_beginsLine_22 rfl (lv_at hl 2 rfl) ?_
      refine lv_sipush (v := 131) hx hb dX3_beginsLine_23 (by decide) ?_
      refine lv_icmp_gt (tgt := 59) hx hb dX3_beginsLine_26 (by decide) (fun c_26 => ?_) (fun c_26 => ?_)
      · refine lv_iload_n hx hb dX3_beginsLine_59 rfl (lv_at hl 2 rfl) ?_
        refine lv_sipush (v := 135) hx hb dX3_beginsLine_60 (by decide) ?_
        refine lv_icmp_ne (tgt := 73) hx hb dX3_beginsLine_63 (by decide) (fun c_63 => ?_) (fun c_63 => ?_)
        · refine lv_iload_n hx hb dX3_beginsLine_73 rfl (lv_at hl 2 rfl) ?_
          refine lv_sipush (v := 136) hx hb dX3_beginsLine_74 (by decide) ?_
          refine lv_icmp_ne (tgt := 92) hx hb dX3_beginsLine_77 (by decide) (fun c_77 => ?_) (fun c_77 => ?_)
          · exact absurd (r_p2.eq.trans rl_136.eq.symm) ((ti_ne c_77))
          · refine lv_aload_n hx hb dX3_beginsLine_80 rfl (lv_at hl 0 rfl) ?_
            refine tg_get (ci := 3) (ts := ty_POST) (C := RX3) (T := TX3) (N := 9) hx hb hts inX3 hown hK hw h_p0 rfl rfl 8 (by decide) (hts _ tw_220) (fun _ h9 => h9) (ft := vI 0 1) rfl dX3_beginsLine_81 (fun u_1 hv_u_1 m_u_1 => ?_)
            obtain ⟨vu_1, rfl, r_vu_1⟩ := hv_u_1
            have q_vu_1 : s0.1 8 = vu_1 := OV.eqI (V := vw_POST) hw.2.2.1 o_p0 m_u_1 (by decide)
            refine lv_if_eq (tgt := 92) hx hb dX3_beginsLine_84 (by decide) (fun c_84 => ?_) (fun c_84 => ?_)
            · have r_vu_1 : RI vu_1 0 0 := rc_eq1 r_vu_1 rl_0 (ti_eq c_84) (by decide)
              refine lv_aload_n hx hb dX3_beginsLine_92 rfl (lv_at hl 1 rfl) ?_
              refine tk_v (va_runV (As := []) (rest := []) ⟨hx, hb, hml, hown, hts⟩ (c_X7_pass__5 l D cy z s.heap.size Ps w0 hw.1 p1 f1_10 s1 h_p1 r_f1_10 m_f1_10 o_p1) (cwV 0 hts (gV tw_451 tw_425 tw_426 tw_2 tw_427) rfl rfl rfl (by decide +kernel) ⟨Nat.le_of_ble_eq_true rfl, Nat.le_of_ble_eq_true rfl⟩) (tg_preV hw hK hSD hA (ci := 7) (q := (RX7, TX7, 12)) rfl h_p1 rfl) rfl rfl hl.1 rfl (lv_room (Nat.le_of_ble_eq_true rfl)) dX3_beginsLine_93 ⟨Nat.le_of_ble_eq_true rfl, Nat.le_of_ble_eq_true rfl⟩) hw hA ⟨by decide, by decide⟩ (fun ws H locs hp_v_2 hw hF9 => ?_)
              have m_f1_10 := FLD.over hF9 m_f1_10 (by decide)
              have m_u_1 := FLD.over hF9 m_u_1 (by decide)
              have x_OT_p0 := OTR.over hF9 x_OT_p0 (by decide)
              obtain ⟨hfn, hp_v_2⟩ := hp_v_2
              have o_p0 := OV.over (V := vw_POST) hF9 o_p0 (by decide)
              obtain ⟨sg_3, q_sg_3⟩ : ∃ q9 : OS, (f_X7_pass__5 s1) = q9 := ⟨_, rfl⟩
              have o_p1 : OV vw_TAPE Ps ws p1 sg_3 := by rw [← q_sg_3]; exact hfn.1
              obtain ⟨v_4, m_v_4, r_v_4⟩ := (hp_v_2.1)
              refine lv_aload_n hx hb dX3_beginsLine_96 rfl (lv_at hl 1 rfl) ?_
              refine tg_memN (ci := 7) (C := RX7) (T := TX7) (N := 12) hx hb hts inX7 hown hK hw 10 m_v_4 rfl (by decide) (hSD.nest tn_105) (fun _ h9 => h9) dX3_beginsLine_97 ?_
              have q_v_4 : sg_3.1 10 = v_4 := OV.eqI (V := vw_TAPE) hw.2.2.1 o_p1 m_v_4 (by decide)
              refine lv_if_ne (tgt := 107) hx hb dX3_beginsLine_100 (by decide) (fun c_100 => ?_) (fun c_100 => ?_)
              · exact absurd (r_v_4.eq.trans rl_0.eq.symm) ((ti_ne c_100))
              · refine lv_iconst (v := 1) hx hb dX3_beginsLine_103 (by decide) ?_
                refine lv_goto (tgt := 108) hx hb dX3_beginsLine_104 (by decide) ?_
                simp only [f_X3_beginsLine__21, ↓reduceIte, eq_false c_4, eq_true c_11, eq_true c_26, eq_false c_63, eq_true c_77, q_vu_1, eq_true c_84, q_sg_3, q_v_4, eq_true c_100] at hE
                subst hQ
                exact W.zret (v := 1) hx hb hr (rfl) (fun t ht hW => ⟨⟨1, ws, rfl, ⟨⟨x_OT_p0, ⟨(by rw [hR, ← hE]; exact o_p0), (by rw [hR, ← hE]; exact o_p1), (by rw [hR, ← hE]), trivial⟩, rl_1.to (by decide), (fun h0 => absurd h0 (by decide)), (fun h0 => ⟨⟨_, m_v_4, r_v_4⟩, trivial⟩)⟩, hw.1, hw.2.2.2.2.1⟩, by rw [ht]; exact hw.2.1, va_K.moved hW.alike hK, hw.2.2.1⟩, hw.2.2.2.1.F ht⟩) hw.2.2.2.1.2.2 dX3_beginsLine_108
            · have r_vu_1 : RI vu_1 1 1 := rc_neL r_vu_1 rl_0 (ti_ne c_84) (by decide)
              refine lv_aload_n hx hb dX3_beginsLine_87 rfl (lv_at hl 1 rfl) ?_
              refine lv_iconst (v := 3) hx hb dX3_beginsLine_88 (by decide) ?_
              refine tk_v (va_runV (As := [.int 3]) (rest := []) ⟨hx, hb, hml, hown, hts⟩ (c_X7_refuse__5 l D cy z s.heap.size Ps w0 hw.1 p1 3 f1_10 s1 h_p1 (rl_3.to (by decide)) r_f1_10 m_f1_10 o_p1) (cwV 1 hts (gV tw_450 tw_443 tw_444 tw_2 tw_445) rfl rfl rfl (by decide +kernel) ⟨Nat.le_of_ble_eq_true rfl, Nat.le_of_ble_eq_true rfl⟩) (tg_preV hw hK hSD hA (ci := 7) (q := (RX7, TX7, 12)) rfl h_p1 rfl) rfl rfl hl.1 rfl (lv_room (Nat.le_of_ble_eq_true rfl)) dX3_beginsLine_89 ⟨Nat.le_of_ble_eq_true rfl, Nat.le_of_ble_eq_true rfl⟩) hw hA ⟨by decide, by decide⟩ (fun ws H locs hp_v_5 hw hF9 => ?_)
              have m_u_1 := FLD.over hF9 m_u_1 (by decide)
              have x_OT_p0 := OTR.over hF9 x_OT_p0 (by decide)
              obtain ⟨hfn, hp_v_5⟩ := hp_v_5
              have o_p0 := OV.over (V := vw_POST) hF9 o_p0 (by decide)
              obtain ⟨sg_6, q_sg_6⟩ : ∃ q9 : OS, (f_X7_refuse__5 (3 : Int32) s1) = q9 := ⟨_, rfl⟩
              have o_p1 : OV vw_TAPE Ps ws p1 sg_6 := by rw [← q_sg_6]; exact hfn.1
              obtain ⟨v_7, m_v_7, r_v_7⟩ := (hp_v_5.1)
              refine lv_aload_n hx hb dX3_beginsLine_92 rfl (lv_at hl 1 rfl) ?_
              refine tk_vr (va_runV (As := []) (rest := []) ⟨hx, hb, hml, hown, hts⟩ (c_X7_pass__4 l D cy z H.size Ps ws hw.1 p1 v_7 sg_6 h_p1 r_v_7 m_v_7 o_p1) (cwV 0 hts (gV tw_451 tw_425 tw_426 tw_2 tw_427) rfl rfl rfl (by decide +kernel) ⟨Nat.le_of_ble_eq_true rfl, Nat.le_of_ble_eq_true rfl⟩) (tg_preV hw hK hSD hA (ci := 7) (q := (RX7, TX7, 12)) rfl h_p1 rfl) rfl rfl hl.1 rfl (lv_room (Nat.le_of_ble_eq_true rfl)) dX3_beginsLine_93 ⟨Nat.le_of_ble_eq_true rfl, Nat.le_of_ble_eq_true rfl⟩) hw hA (fun  H locs hp_v_8 hw => ?_)
              obtain ⟨hfn, hp_v_8⟩ := hp_v_8
              refine lv_aload_n hx hb dX3_beginsLine_96 rfl (lv_at hl 1 rfl) ?_
              refine tg_memN (ci := 7) (C := RX7) (T := TX7) (N := 12) hx hb hts inX7 hown hK hw 10 m_v_7 rfl (by decide) (hSD.nest tn_105) (fun _ h9 => h9) dX3_beginsLine_97 ?_
              have q_v_7 : sg_6.1 10 = v_7 := OV.eqI (V := vw_TAPE) hw.2.2.1 o_p1 m_v_7 (by decide)
              refine lv_if_ne (tgt := 107) hx hb dX3_beginsLine_100 (by decide) (fun c_100 => ?_) (fun c_100 => ?_)
              · refine lv_iconst (v := 0) hx hb dX3_beginsLine_107 (by decide) ?_
                simp only [f_X3_beginsLine__21, ↓reduceIte, eq_false c_4, eq_true c_11, eq_true c_26, eq_false c_63, eq_true c_77, q_vu_1, eq_false c_84, q_sg_6, q_v_7, eq_false c_100] at hE
                subst hQ
                exact W.zret (v := 0) hx hb hr (rfl) (fun t ht hW => ⟨⟨0, ws, rfl, ⟨⟨x_OT_p0, ⟨(by rw [hR, ← hE]; exact o_p0), (by rw [hR, ← hE]; exact o_p1), (by rw [hR, ← hE]), trivial⟩, rl_0.to (by decide), (fun h0 => ⟨⟨_, m_v_7, r_v_7⟩, trivial⟩), (fun h0 => absurd rfl h0)⟩, hw.1, hw.2.2.2.2.1⟩, by rw [ht]; exact hw.2.1, va_K.moved hW.alike hK, hw.2.2.1⟩, hw.2.2.2.1.F ht⟩) hw.2.2.2.1.2.2 dX3_beginsLine_108
              · have r_v_7 : RI v_7 1 0 := rc_eq1 r_v_7 rl_0 (ti_eq c_100) (by decide)
                exact (r_v_7.no (by decide)).elim
        · have r_p2 : RI p2 136 135 := rc_eq1 r_p2 rl_135 (ti_eq c_63) (by decide)
          exact (r_p2.no (by decide)).elim
      · have r_p2 : RI p2 136 131 := rc_le1 r_p2 rl_131 (ti_nlt c_26) (by decide)
        exact (r_p2.no (by decide)).elim
    · have r_p2 : RI p2 137 136 := rc_lt2 rl_136 r_p2 (ti_nle c_11) (by decide)
      exact (r_p2.no (by decide)).elim
abbrev wr_X3_beginsLine__33 : List (Nat × Nat) := [(7, 10), (7, 11)]
abbrev wa_X3_beginsLine__33 : List Nat := []
set_option maxHeartbeats 4000000 in
set_option maxRecDepth 100000 in
theorem c_X3_beginsLine__33 (l : Launch) (D : va_G) (cy : Nat → ClassId) (z : Nat → Nat) (sz : Nat) (Ps : PSI) (w0 : va_W) (hT : HT cy GG Ps w0) (p0 : Nat) (p1 : Nat) (p2 : Int32) (f1_10 : Int32) (s0 : OS) (s1 : OS) (h_p0 : (p0, 25) ∈ Ps) (h_p1 : (p1, 26) ∈ Ps) (r_p2 : RI p2 137 2147483647) (r_f1_10 : RI f1_10 0 0) (m_f1_10 : FLD w0 p1 7 10 (.int f1_10)) (o_p0 : OV vw_POST Ps w0 p0 s0) (o_p1 : OV vw_TAPE Ps w0 p1 s1) : Met l yX3_beginsLine (Cond.code yX3_beginsLine cX3_beginsLine 3 (some .boolean) :: gT) ({ frames := 2, cells := 0, slots := 0, locals := 400 } : Room) (va_Pc [.ref p0, .ref p1, .int p2] (PRE D cy z w0 sz)) (va_Qi (fun (r : Int32) (u : va_W) => ((OTR Ps w0 u p0) ∧ ((OV vw_POST Ps u p0 ((f_X3_beginsLine__12 p2 s0 s1).1) ∧ OV vw_TAPE Ps u p1 ((f_X3_beginsLine__12 p2 s0 s1).2.1) ∧ (f_X3_beginsLine__12 p2 s0 s1).2.2 = r ∧ True) ∧ (RI r 0 0 ∧ (r = 0 → (∃ v9 : Int32, FLD u p1 7 10 (.int v9) ∧ RI v9 1 4) ∧ True) ∧ (¬ r = 0 → True)))) ∧ HT cy GG Ps u ∧ FR wr_X3_beginsLine__33 wa_X3_beginsLine__33 Ps w0 u) (BB D cy (va_A w0 sz) (fun (u : va_W) => u)) (va_A w0 sz)) 0 0 (va_A w0 sz) := by
  refine Met.ofW (cc := cX3_beginsLine) (maxL := 3) (ret := (some .boolean)) (by decide) rfl ?_
  intro p e s m args below meth c s₁ B hml hv
  obtain ⟨rfl, hsz, hP, hK, hD0, hSD⟩ := hv
  have hx := B.exec
  have hb := B.bytes
  have hr := B.returns
  have hlocks := B.notSynchronized
  have hts : ∀ w ∈ gT, w.before _ s = true := fun w h => atoms_spec (ws := Cond.code yX3_beginsLine cX3_beginsLine 3 (some .boolean) :: gT) B.pre w (List.mem_cons_of_mem _ h)
  have hown : s.vm.findClass RX3 = some m.cls := findClass_of_methodNamed B.named
  subst hsz
  have hD := hD0.self (sz := s.heap.size)
  generalize hAe : va_A w0 s.heap.size = A at hD hSD ⊢
  have hA : ∀ q : Nat, s.heap.size ≤ q → A q := fun q h => by rw [← hAe]; exact Or.inr h
  have hl := lv_entry ([.ref p0, .ref p1, .int p2]) (n := 3) (Nat.le_of_ble_eq_true rfl)
  rw [lg_entry_eq]
  generalize (lg_sl ([.ref p0, .ref p1, .int p2]) ++ List.replicate (3 - (lg_sl ([.ref p0, .ref p1, .int p2])).length) Slot.unset).toArray = ls at hl ⊢
  have hl : lv_has ls 3 [(0, .ref p0), (1, .ref p1), (2, .int p2)] := hl
  refine nameQ (fun Q hQ => ?_)
  have hw : WD D cy GG A s wr_X3_beginsLine__33 wa_X3_beginsLine__33 Ps w0 Ps w0 s.heap [] := ⟨hT, hP, hD, va_S.rf, FR.rf, hT.1, [], (List.append_nil _).symm⟩
  have x_OT_p0 : OTR Ps w0 w0 p0 := OTR.rf
  obtain ⟨R9, hR⟩ : ∃ q9 : OS × OS × Int32, f_X3_beginsLine__12 p2 s0 s1 = q9 := ⟨_, rfl⟩
  have hE := hR
  refine lv_iload_n hx hb dX3_beginsLine_0 rfl (lv_at hl 2 rfl) ?_
  refine lv_sipush (v := 128) hx hb dX3_beginsLine_1 (by decide) ?_
  refine lv_icmp_lt (tgt := 14) hx hb dX3_beginsLine_4 (by decide) (fun c_4 => ?_) (fun c_4 => ?_)
  · have r_p2 : RI p2 137 127 := rc_lt1 r_p2 rl_128 (ti_lt c_4) (by decide)
    exact (r_p2.no (by decide)).elim
  · refine lv_iload_n hx hb dX3_beginsLine_7 rfl (lv_at hl 2 rfl) ?_
    refine lv_sipush (v := 136) hx hb dX3_beginsLine_8 (by decide) ?_
    refine lv_icmp_le (tgt := 22) hx hb dX3_beginsLine_11 (by decide) (fun c_11 => ?_) (fun c_11 => ?_)
    · have r_p2 : RI p2 137 136 := rc_le1 r_p2 rl_136 (ti_le c_11) (by decide)
      exact (r_p2.no (by decide)).elim
    · refine lv_aload_n hx hb dX3_beginsLine_14 rfl (lv_at hl 1 rfl) ?_
      refine lv_iconst (v := 1) hx hb dX3_beginsLine_15 (by decide) ?_
      refine tk_v (va_runV (As := [.int 1]) (rest := []) ⟨hx, hb, hml, hown, hts⟩ (c_X7_refuse__5 l D cy z s.heap.size Ps w0 hw.1 p1 1 f1_10 s1 h_p1 (rl_1.to (by decide)) r_f1_10 m_f1_10 o_p1) (cwV 1 hts (gV tw_450 tw_443 tw_444 tw_2 tw_445) rfl rfl rfl (by decide +kernel) ⟨Nat.le_of_ble_eq_true rfl, Nat.le_of_ble_eq_true rfl⟩) (tg_preV hw hK hSD hA (ci := 7) (q := (RX7, TX7, 12)) rfl h_p1 rfl) rfl rfl hl.1 rfl (lv_room (Nat.le_of_ble_eq_true rfl)) dX3_beginsLine_16 ⟨Nat.le_of_ble_eq_true rfl, Nat.le_of_ble_eq_true rfl⟩) hw hA ⟨by decide, by decide⟩ (fun ws H locs hp_v_1 hw hF9 => ?_)
      have x_OT_p0 := OTR.over hF9 x_OT_p0 (by decide)
      obtain ⟨hfn, hp_v_1⟩ := hp_v_1
      have o_p0 := OV.over (V := vw_POST) hF9 o_p0 (by decide)
      obtain ⟨sg_2, q_sg_2⟩ : ∃ q9 : OS, (f_X7_refuse__5 (1 : Int32) s1) = q9 := ⟨_, rfl⟩
      have o_p1 : OV vw_TAPE Ps ws p1 sg_2 := by rw [← q_sg_2]; exact hfn.1
      obtain ⟨v_3, m_v_3, r_v_3⟩ := (hp_v_1.1)
      refine lv_goto (tgt := 92) hx hb dX3_beginsLine_19 (by decide) ?_
      refine lv_aload_n hx hb dX3_beginsLine_92 rfl (lv_at hl 1 rfl) ?_
      refine tk_vr (va_runV (As := []) (rest := []) ⟨hx, hb, hml, hown, hts⟩ (c_X7_pass__4 l D cy z H.size Ps ws hw.1 p1 v_3 sg_2 h_p1 r_v_3 m_v_3 o_p1) (cwV 0 hts (gV tw_451 tw_425 tw_426 tw_2 tw_427) rfl rfl rfl (by decide +kernel) ⟨Nat.le_of_ble_eq_true rfl, Nat.le_of_ble_eq_true rfl⟩) (tg_preV hw hK hSD hA (ci := 7) (q := (RX7, TX7, 12)) rfl h_p1 rfl) rfl rfl hl.1 rfl (lv_room (Nat.le_of_ble_eq_true rfl)) dX3_beginsLine_93 ⟨Nat.le_of_ble_eq_true rfl, Nat.le_of_ble_eq_true rfl⟩) hw hA (fun  H locs hp_v_4 hw => ?_)
      obtain ⟨hfn, hp_v_4⟩ := hp_v_4
      refine lv_aload_n hx hb dX3_beginsLine_96 rfl (lv_at hl 1 rfl) ?_
      refine tg_memN (ci := 7) (C := RX7) (T := TX7) (N := 12) hx hb hts inX7 hown hK hw 10 m_v_3 rfl (by decide) (hSD.nest tn_105) (fun _ h9 => h9) dX3_beginsLine_97 ?_
      have q_v_3 : sg_2.1 10 = v_3 := OV.eqI (V := vw_TAPE) hw.2.2.1 o_p1 m_v_3 (by decide)
      refine lv_if_ne (tgt := 107) hx hb dX3_beginsLine_100 (by decide) (fun c_100 => ?_) (fun c_100 => ?_)
      · refine lv_iconst (v := 0) hx hb dX3_beginsLine_107 (by decide) ?_
        simp only [f_X3_beginsLine__12, ↓reduceIte, eq_false c_4, eq_false c_11, q_sg_2, q_v_3, eq_false c_100] at hE
        subst hQ
        exact W.zret (v := 0) hx hb hr (rfl) (fun t ht hW => ⟨⟨0, ws, rfl, ⟨⟨x_OT_p0, ⟨(by rw [hR, ← hE]; exact o_p0), (by rw [hR, ← hE]; exact o_p1), (by rw [hR, ← hE]), trivial⟩, rl_0.to (by decide), (fun h0 => ⟨⟨_, m_v_3, r_v_3⟩, trivial⟩), (fun _ => trivial)⟩, hw.1, hw.2.2.2.2.1⟩, by rw [ht]; exact hw.2.1, va_K.moved hW.alike hK, hw.2.2.1⟩, hw.2.2.2.1.F ht⟩) hw.2.2.2.1.2.2 dX3_beginsLine_108
      · have r_v_3 : RI v_3 1 0 := rc_eq1 r_v_3 rl_0 (ti_eq c_100) (by decide)
        exact (r_v_3.no (by decide)).elim
abbrev wr_X8_begin__2 : List (Nat × Nat) := [(8, 0), (8, 1)]
abbrev wa_X8_begin__2 : List Nat := [8, 9, 10, 11, 12, 13]
set_option maxHeartbeats 4000000 in
set_option maxRecDepth 100000 in
theorem c_X8_begin__2 (l : Launch) (D : va_G) (cy : Nat → ClassId) (z : Nat → Nat) (sz : Nat) (Ps : PSI) (w0 : va_W) (hT : HT cy GG Ps w0) (p0 : Nat) (p1 : Nat) (s0 : OS) (s1 : OS) (h_p0 : (p0, 24) ∈ Ps) (h_p1 : (p1, 25) ∈ Ps) (o_p0 : OV vw_WORLD Ps w0 p0 s0) (o_p1 : OV vw_POST Ps w0 p1 s1) : Met l yX8_begin (Cond.code yX8_begin cX8_begin 2 none :: gT) ({ frames := 2, cells := 0, slots := 0, locals := 400 } : Room) (va_Pc [.ref p0, .ref p1] (PRE D cy z w0 sz)) (va_Qv (fun (u : va_W) => ((OV vw_WORLD Ps u p0 ((f_X8_begin__1 s0 s1).1) ∧ OV vw_POST Ps u p1 ((f_X8_begin__1 s0 s1).2) ∧ True) ∧ (BGF w0 u p0 p1 ∧ True)) ∧ HT cy GG Ps u ∧ FR wr_X8_begin__2 wa_X8_begin__2 Ps w0 u) (BB D cy (va_A w0 sz) (fun (u : va_W) => u)) (va_A w0 sz)) 0 0 (va_A w0 sz) := by
  refine Met.ofW (cc := cX8_begin) (maxL := 2) (ret := none) (by decide) rfl ?_
  intro p e s m args below meth c s₁ B hml hv
  obtain ⟨rfl, hsz, hP, hK, hD0, hSD⟩ := hv
  have hx := B.exec
  have hb := B.bytes
  have hr := B.returns
  have hlocks := B.notSynchronized
  have hts : ∀ w ∈ gT, w.before _ s = true := fun w h => atoms_spec (ws := Cond.code yX8_begin cX8_begin 2 none :: gT) B.pre w (List.mem_cons_of_mem _ h)
  have hown : s.vm.findClass RX8 = some m.cls := findClass_of_methodNamed B.named
  subst hsz
  have hD := hD0.self (sz := s.heap.size)
  generalize hAe : va_A w0 s.heap.size = A at hD hSD ⊢
  have hA : ∀ q : Nat, s.heap.size ≤ q → A q := fun q h => by rw [← hAe]; exact Or.inr h
  have hl := lv_entry ([.ref p0, .ref p1]) (n := 2) (Nat.le_of_ble_eq_true rfl)
  rw [lg_entry_eq]
  generalize (lg_sl ([.ref p0, .ref p1]) ++ List.replicate (2 - (lg_sl ([.ref p0, .ref p1])).length) Slot.unset).toArray = ls at hl ⊢
  have hl : lv_has ls 2 [(0, .ref p0), (1, .ref p1)] := hl
  refine nameQ (fun Q hQ => ?_)
  have hw : WD D cy GG A s wr_X8_begin__2 wa_X8_begin__2 Ps w0 Ps w0 s.heap [] := ⟨hT, hP, hD, va_S.rf, FR.rf, hT.1, [], (List.append_nil _).symm⟩
  obtain ⟨R9, hR⟩ : ∃ q9 : OS × OS, f_X8_begin__1 s0 s1 = q9 := ⟨_, rfl⟩
  have hE := hR
  refine lv_aload_n hx hb dX8_begin_0 rfl (lv_at hl 0 rfl) ?_
  refine lv_aload_n hx hb dX8_begin_1 rfl (lv_at hl 1 rfl) ?_
  refine tg_putE (ci := 8) (ts := ty_WORLD) (v := .ref p1) (ty := .object "WonderParcels$Post") (C := RX8) (T := TX8) (N := 13) hx hb hts inX8 tyX8 tyX8_ok nmX8 hown hK hw h_p0 rfl rfl 0 (by decide) (hts _ tw_247) (fun _ h9 => h9) rfl (by decide +kernel) rfl rfl (ft := vR 25) rfl ⟨_, rfl, h_p1⟩ (by decide) dX8_begin_2 (fun ws H locs hw n_k_1 hF9 hO9 => ?_)
  have o_p0 := OV.over (V := vw_WORLD) hF9 o_p0 (by decide)
  have o_p1 := OV.over (V := vw_POST) hF9 o_p1 (by decide)
  have x_BGF_p0_p1 : BGF w0 ws p0 p1 := ⟨n_k_1, fun v9 p9 h9 k9 => hO9 v9 _ h9 k9⟩
  refine lv_aload_n hx hb dX8_begin_5 rfl (lv_at hl 0 rfl) ?_
  refine lv_iconst (v := 0) hx hb dX8_begin_6 (by decide) ?_
  refine tg_put (ci := 8) (ts := ty_WORLD) (v := .int 0) (ty := .int) (C := RX8) (T := TX8) (N := 13) hx hb hts inX8 tyX8 tyX8_ok nmX8 hown hK hw h_p0 rfl rfl 1 (by decide) (hts _ tw_250) (fun _ h9 => h9) rfl (by decide +kernel) rfl rfl (ft := vI (-2147483648) 2147483647) rfl ⟨_, rfl, (rl_0.to (by decide))⟩ (by decide) dX8_begin_7 (fun ws H locs hw n_k_2 hF9 => ?_)
  have x_BGF_p0_p1 := BGF.over hF9 x_BGF_p0_p1 (by decide)
  have o_p1 := OV.over (V := vw_POST) hF9 o_p1 (by decide)
  obtain ⟨sg_3, q_sg_3⟩ : ∃ q9 : OS, sI s0 1 (0 : Int32) = q9 := ⟨_, rfl⟩
  have o_p0 : OV vw_WORLD Ps ws p0 sg_3 := by rw [← q_sg_3]; exact OV.putI (V := vw_WORLD) hF9 n_k_2 o_p0 (by decide)
  refine lv_aload_n hx hb dX8_begin_10 rfl (lv_at hl 0 rfl) ?_
  refine tg_get (ci := 8) (ts := ty_WORLD) (C := RX8) (T := TX8) (N := 13) hx hb hts inX8 hown hK hw h_p0 rfl rfl 2 (by decide) (hts _ tw_252) (fun _ h9 => h9) (ft := vR 8) rfl dX8_begin_11 (fun u_4 hv_u_4 m_u_4 => ?_)
  obtain ⟨vu_4, rfl, h_vu_4⟩ := hv_u_4
  refine lv_iconst (v := 0) hx hb dX8_begin_14 (by decide) ?_
  have oa_vu_4 := OV.arrA (V := vw_WORLD) (t := 8) hw.2.2.1 o_p0 m_u_4 (by decide)
  have mo9_vu_4 := And.intro hw.2.2.1 m_u_4
  refine tk_v (va_runS (As := [.ref vu_4, .int 0]) (rest := []) ⟨hx, hb, hml, hown, hts⟩ (c_J7_fill_53178__9 l D cy z H.size Ps ws hw.1 vu_4 0 (sg_3.2.2.1 2) h_vu_4 rl_0 oa_vu_4) (va_cwS 2 hts (gS tw_246 tw_167 tw_9 tw_168) rfl rfl rfl (by decide +kernel) ⟨Nat.le_of_ble_eq_true rfl, Nat.le_of_ble_eq_true rfl⟩) (tg_preS hw hK hSD hA) rfl rfl hl.1 rfl (lv_room (Nat.le_of_ble_eq_true rfl)) dX8_begin_15 ⟨Nat.le_of_ble_eq_true rfl, Nat.le_of_ble_eq_true rfl⟩) hw hA ⟨by decide, by decide⟩ (fun ws H locs hp_v_5 hw hF9 => ?_)
  have n_k_2 := FLD.over hF9 n_k_2 (by decide)
  have m_u_4 := FLD.over hF9 m_u_4 (by decide)
  have x_BGF_p0_p1 := BGF.over hF9 x_BGF_p0_p1 (by decide)
  obtain ⟨hfn, hp_v_5⟩ := hp_v_5
  have o_p1 := OV.over (V := vw_POST) hF9 o_p1 (by decide)
  obtain ⟨sg_6, q_sg_6⟩ : ∃ q9 : OS, sF sg_3 2 ((f_J7_fill_53178__9 (0 : Int32) (sg_3.2.2.1 2))) = q9 := ⟨_, rfl⟩
  have o_p0 : OV vw_WORLD Ps ws p0 sg_6 := by rw [← q_sg_6]; exact OV.newA (V := vw_WORLD) (t := 8) mo9_vu_4.1 hF9 (hfn.1) o_p0 mo9_vu_4.2 (by decide) (by decide)
  refine lv_aload_n hx hb dX8_begin_18 rfl (lv_at hl 0 rfl) ?_
  refine tg_get (ci := 8) (ts := ty_WORLD) (C := RX8) (T := TX8) (N := 13) hx hb hts inX8 hown hK hw h_p0 rfl rfl 3 (by decide) (hts _ tw_253) (fun _ h9 => h9) (ft := vR 9) rfl dX8_begin_19 (fun u_7 hv_u_7 m_u_7 => ?_)
  obtain ⟨vu_7, rfl, h_vu_7⟩ := hv_u_7
  refine lv_iconst (v := 0) hx hb dX8_begin_22 (by decide) ?_
  have oa_vu_7 := OV.arrA (V := vw_WORLD) (t := 9) hw.2.2.1 o_p0 m_u_7 (by decide)
  have mo9_vu_7 := And.intro hw.2.2.1 m_u_7
  refine tk_v (va_runS (As := [.ref vu_7, .int 0]) (rest := []) ⟨hx, hb, hml, hown, hts⟩ (c_J7_fill_53178__10 l D cy z H.size Ps ws hw.1 vu_7 0 (sg_6.2.2.1 3) h_vu_7 rl_0 oa_vu_7) (va_cwS 2 hts (gS tw_246 tw_167 tw_9 tw_168) rfl rfl rfl (by decide +kernel) ⟨Nat.le_of_ble_eq_true rfl, Nat.le_of_ble_eq_true rfl⟩) (tg_preS hw hK hSD hA) rfl rfl hl.1 rfl (lv_room (Nat.le_of_ble_eq_true rfl)) dX8_begin_23 ⟨Nat.le_of_ble_eq_true rfl, Nat.le_of_ble_eq_true rfl⟩) hw hA ⟨by decide, by decide⟩ (fun ws H locs hp_v_8 hw hF9 => ?_)
  have n_k_2 := FLD.over hF9 n_k_2 (by decide)
  have m_u_4 := FLD.over hF9 m_u_4 (by decide)
  have m_u_7 := FLD.over hF9 m_u_7 (by decide)
  have x_BGF_p0_p1 := BGF.over hF9 x_BGF_p0_p1 (by decide)
  obtain ⟨hfn, hp_v_8⟩ := hp_v_8
  have o_p1 := OV.over (V := vw_POST) hF9 o_p1 (by decide)
  obtain ⟨sg_9, q_sg_9⟩ : ∃ q9 : OS, sF sg_6 3 ((f_J7_fill_53178__10 (0 : Int32) (sg_6.2.2.1 3))) = q9 := ⟨_, rfl⟩
  have o_p0 : OV vw_WORLD Ps ws p0 sg_9 := by rw [← q_sg_9]; exact OV.newA (V := vw_WORLD) (t := 9) mo9_vu_7.1 hF9 (hfn.1) o_p0 mo9_vu_7.2 (by decide) (by decide)
  refine lv_aload_n hx hb dX8_begin_26 rfl (lv_at hl 0 rfl) ?_
  refine tg_get (ci := 8) (ts := ty_WORLD) (C := RX8) (T := TX8) (N := 13) hx hb hts inX8 hown hK hw h_p0 rfl rfl 4 (by decide) (hts _ tw_257) (fun _ h9 => h9) (ft := vR 10) rfl dX8_begin_27 (fun u_10 hv_u_10 m_u_10 => ?_)
  obtain ⟨vu_10, rfl, h_vu_10⟩ := hv_u_10
  refine lv_iconst (v := 0) hx hb dX8_begin_30 (by decide) ?_
  refine tk_v (va_runS (As := [.ref vu_10, .int 0]) (rest := []) ⟨hx, hb, hml, hown, hts⟩ (c_J7_fill_53178__2 l D cy z H.size Ps ws hw.1 vu_10 0 h_vu_10 rl_0) (va_cwS 2 hts (gS tw_246 tw_167 tw_9 tw_168) rfl rfl rfl (by decide +kernel) ⟨Nat.le_of_ble_eq_true rfl, Nat.le_of_ble_eq_true rfl⟩) (tg_preS hw hK hSD hA) rfl rfl hl.1 rfl (lv_room (Nat.le_of_ble_eq_true rfl)) dX8_begin_31 ⟨Nat.le_of_ble_eq_true rfl, Nat.le_of_ble_eq_true rfl⟩) hw hA ⟨by decide, by decide⟩ (fun ws H locs hp_v_11 hw hF9 => ?_)
  have n_k_2 := FLD.over hF9 n_k_2 (by decide)
  have m_u_4 := FLD.over hF9 m_u_4 (by decide)
  have m_u_7 := FLD.over hF9 m_u_7 (by decide)
  have m_u_10 := FLD.over hF9 m_u_10 (by decide)
  have x_BGF_p0_p1 := BGF.over hF9 x_BGF_p0_p1 (by decide)
  have o_p0 := OV.over (V := vw_WORLD) hF9 o_p0 (by decide)
  have o_p1 := OV.over (V := vw_POST) hF9 o_p1 (by decide)
  refine lv_aload_n hx hb dX8_begin_34 rfl (lv_at hl 0 rfl) ?_
  refine tg_get (ci := 8) (ts := ty_WORLD) (C := RX8) (T := TX8) (N := 13) hx hb hts inX8 hown hK hw h_p0 rfl rfl 5 (by decide) (hts _ tw_260) (fun _ h9 => h9) (ft := vR 10) rfl dX8_begin_35 (fun u_12 hv_u_12 m_u_12 => ?_)
  obtain ⟨vu_12, rfl, h_vu_12⟩ := hv_u_12
  refine lv_iconst (v := 0) hx hb dX8_begin_38 (by decide) ?_
  refine tk_v (va_runS (As := [.ref vu_12, .int 0]) (rest := []) ⟨hx, hb, hml, hown, hts⟩ (c_J7_fill_53178__2 l D cy z H.size Ps ws hw.1 vu_12 0 h_vu_12 rl_0) (va_cwS 2 hts (gS tw_246 tw_167 tw_9 tw_168) rfl rfl rfl (by decide +kernel) ⟨Nat.le_of_ble_eq_true rfl, Nat.le_of_ble_eq_true rfl⟩) (tg_preS hw hK hSD hA) rfl rfl hl.1 rfl (lv_room (Nat.le_of_ble_eq_true rfl)) dX8_begin_39 ⟨Nat.le_of_ble_eq_true rfl, Nat.le_of_ble_eq_true rfl⟩) hw hA ⟨by decide, by decide⟩ (fun ws H locs hp_v_13 hw hF9 => ?_)
  have n_k_2 := FLD.over hF9 n_k_2 (by decide)
  have m_u_4 := FLD.over hF9 m_u_4 (by decide)
  have m_u_7 := FLD.over hF9 m_u_7 (by decide)
  have m_u_10 := FLD.over hF9 m_u_10 (by decide)
  have m_u_12 := FLD.over hF9 m_u_12 (by decide)
  have x_BGF_p0_p1 := BGF.over hF9 x_BGF_p0_p1 (by decide)
  have o_p0 := OV.over (V := vw_WORLD) hF9 o_p0 (by decide)
  have o_p1 := OV.over (V := vw_POST) hF9 o_p1 (by decide)
  refine lv_aload_n hx hb dX8_begin_42 rfl (lv_at hl 0 rfl) ?_
  refine tg_get (ci := 8) (ts := ty_WORLD) (C := RX8) (T := TX8) (N := 13) hx hb hts inX8 hown hK hw h_p0 rfl rfl 6 (by decide) (hts _ tw_262) (fun _ h9 => h9) (ft := vR 10) rfl dX8_begin_43 (fun u_14 hv_u_14 m_u_14 => ?_)
  obtain ⟨vu_14, rfl, h_vu_14⟩ := hv_u_14
  refine lv_iconst (v := 0) hx hb dX8_begin_46 (by decide) ?_
  refine tk_v (va_runS (As := [.ref vu_14, .int 0]) (rest := []) ⟨hx, hb, hml, hown, hts⟩ (c_J7_fill_53178__2 l D cy z H.size Ps ws hw.1 vu_14 0 h_vu_14 rl_0) (va_cwS 2 hts (gS tw_246 tw_167 tw_9 tw_168) rfl rfl rfl (by decide +kernel) ⟨Nat.le_of_ble_eq_true rfl, Nat.le_of_ble_eq_true rfl⟩) (tg_preS hw hK hSD hA) rfl rfl hl.1 rfl (lv_room (Nat.le_of_ble_eq_true rfl)) dX8_begin_47 ⟨Nat.le_of_ble_eq_true rfl, Nat.le_of_ble_eq_true rfl⟩) hw hA ⟨by decide, by decide⟩ (fun ws H locs hp_v_15 hw hF9 => ?_)
  have n_k_2 := FLD.over hF9 n_k_2 (by decide)
  have m_u_4 := FLD.over hF9 m_u_4 (by decide)
  have m_u_7 := FLD.over hF9 m_u_7 (by decide)
  have m_u_10 := FLD.over hF9 m_u_10 (by decide)
  have m_u_12 := FLD.over hF9 m_u_12 (by decide)
  have m_u_14 := FLD.over hF9 m_u_14 (by decide)
  have x_BGF_p0_p1 := BGF.over hF9 x_BGF_p0_p1 (by decide)
  have o_p0 := OV.over (V := vw_WORLD) hF9 o_p0 (by decide)
  have o_p1 := OV.over (V := vw_POST) hF9 o_p1 (by decide)
  refine lv_aload_n hx hb dX8_begin_50 rfl (lv_at hl 0 rfl) ?_
  refine tg_get (ci := 8) (ts := ty_WORLD) (C := RX8) (T := TX8) (N := 13) hx hb hts inX8 hown hK hw h_p0 rfl rfl 7 (by decide) (hts _ tw_265) (fun _ h9 => h9) (ft := vR 11) rfl dX8_begin_51 (fun u_16 hv_u_16 m_u_16 => ?_)
  obtain ⟨vu_16, rfl, h_vu_16⟩ := hv_u_16
  refine lv_iconst (v := 0) hx hb dX8_begin_54 (by decide) ?_
  have oa_vu_16 := OV.arrA (V := vw_WORLD) (t := 11) hw.2.2.1 o_p0 m_u_16 (by decide)
  have mo9_vu_16 := And.intro hw.2.2.1 m_u_16
  refine tk_v (va_runS (As := [.ref vu_16, .int 0]) (rest := []) ⟨hx, hb, hml, hown, hts⟩ (c_J7_fill_53178__11 l D cy z H.size Ps ws hw.1 vu_16 0 (sg_9.2.2.1 7) h_vu_16 rl_0 oa_vu_16) (va_cwS 2 hts (gS tw_246 tw_167 tw_9 tw_168) rfl rfl rfl (by decide +kernel) ⟨Nat.le_of_ble_eq_true rfl, Nat.le_of_ble_eq_true rfl⟩) (tg_preS hw hK hSD hA) rfl rfl hl.1 rfl (lv_room (Nat.le_of_ble_eq_true rfl)) dX8_begin_55 ⟨Nat.le_of_ble_eq_true rfl, Nat.le_of_ble_eq_true rfl⟩) hw hA ⟨by decide, by decide⟩ (fun ws H locs hp_v_17 hw hF9 => ?_)
  have n_k_2 := FLD.over hF9 n_k_2 (by decide)
  have m_u_4 := FLD.over hF9 m_u_4 (by decide)
  have m_u_7 := FLD.over hF9 m_u_7 (by decide)
  have m_u_10 := FLD.over hF9 m_u_10 (by decide)
  have m_u_12 := FLD.over hF9 m_u_12 (by decide)
  have m_u_14 := FLD.over hF9 m_u_14 (by decide)
  have m_u_16 := FLD.over hF9 m_u_16 (by decide)
  have x_BGF_p0_p1 := BGF.over hF9 x_BGF_p0_p1 (by decide)
  obtain ⟨hfn, hp_v_17⟩ := hp_v_17
  have o_p1 := OV.over (V := vw_POST) hF9 o_p1 (by decide)
  obtain ⟨sg_18, q_sg_18⟩ : ∃ q9 : OS, sF sg_9 7 ((f_J7_fill_53178__11 (0 : Int32) (sg_9.2.2.1 7))) = q9 := ⟨_, rfl⟩
  have o_p0 : OV vw_WORLD Ps ws p0 sg_18 := by rw [← q_sg_18]; exact OV.newA (V := vw_WORLD) (t := 11) mo9_vu_16.1 hF9 (hfn.1) o_p0 mo9_vu_16.2 (by decide) (by decide)
  refine lv_aload_n hx hb dX8_begin_58 rfl (lv_at hl 0 rfl) ?_
  refine tg_get (ci := 8) (ts := ty_WORLD) (C := RX8) (T := TX8) (N := 13) hx hb hts inX8 hown hK hw h_p0 rfl rfl 8 (by decide) (hts _ tw_268) (fun _ h9 => h9) (ft := vR 12) rfl dX8_begin_59 (fun u_19 hv_u_19 m_u_19 => ?_)
  obtain ⟨vu_19, rfl, h_vu_19⟩ := hv_u_19
  refine lv_iconst (v := (-1)) hx hb dX8_begin_62 (by decide) ?_
  have oa_vu_19 := OV.arrA (V := vw_WORLD) (t := 12) hw.2.2.1 o_p0 m_u_19 (by decide)
  have mo9_vu_19 := And.intro hw.2.2.1 m_u_19
  refine tk_v (va_runS (As := [.ref vu_19, .int (-1)]) (rest := []) ⟨hx, hb, hml, hown, hts⟩ (c_J7_fill_53178__12 l D cy z H.size Ps ws hw.1 vu_19 (-1) (sg_18.2.2.1 8) h_vu_19 rl_m1 oa_vu_19) (va_cwS 2 hts (gS tw_246 tw_167 tw_9 tw_168) rfl rfl rfl (by decide +kernel) ⟨Nat.le_of_ble_eq_true rfl, Nat.le_of_ble_eq_true rfl⟩) (tg_preS hw hK hSD hA) rfl rfl hl.1 rfl (lv_room (Nat.le_of_ble_eq_true rfl)) dX8_begin_63 ⟨Nat.le_of_ble_eq_true rfl, Nat.le_of_ble_eq_true rfl⟩) hw hA ⟨by decide, by decide⟩ (fun ws H locs hp_v_20 hw hF9 => ?_)
  have n_k_2 := FLD.over hF9 n_k_2 (by decide)
  have m_u_4 := FLD.over hF9 m_u_4 (by decide)
  have m_u_7 := FLD.over hF9 m_u_7 (by decide)
  have m_u_10 := FLD.over hF9 m_u_10 (by decide)
  have m_u_12 := FLD.over hF9 m_u_12 (by decide)
  have m_u_14 := FLD.over hF9 m_u_14 (by decide)
  have m_u_16 := FLD.over hF9 m_u_16 (by decide)
  have m_u_19 := FLD.over hF9 m_u_19 (by decide)
  have x_BGF_p0_p1 := BGF.over hF9 x_BGF_p0_p1 (by decide)
  obtain ⟨hfn, hp_v_20⟩ := hp_v_20
  have o_p1 := OV.over (V := vw_POST) hF9 o_p1 (by decide)
  obtain ⟨sg_21, q_sg_21⟩ : ∃ q9 : OS, sF sg_18 8 ((f_J7_fill_53178__11 ((-1) : Int32) (sg_18.2.2.1 8))) = q9 := ⟨_, rfl⟩
  have o_p0 : OV vw_WORLD Ps ws p0 sg_21 := by rw [← q_sg_21]; exact OV.newA (V := vw_WORLD) (t := 12) mo9_vu_19.1 hF9 (hfn.1) o_p0 mo9_vu_19.2 (by decide) (by decide)
  refine lv_aload_n hx hb dX8_begin_66 rfl (lv_at hl 0 rfl) ?_
  refine tg_get (ci := 8) (ts := ty_WORLD) (C := RX8) (T := TX8) (N := 13) hx hb hts inX8 hown hK hw h_p0 rfl rfl 9 (by decide) (hts _ tw_271) (fun _ h9 => h9) (ft := vR 13) rfl dX8_begin_67 (fun u_22 hv_u_22 m_u_22 => ?_)
  obtain ⟨vu_22, rfl, h_vu_22⟩ := hv_u_22
  refine lv_iconst (v := 0) hx hb dX8_begin_70 (by decide) ?_
  refine tk_v (va_runS (As := [.ref vu_22, .int 0]) (rest := []) ⟨hx, hb, hml, hown, hts⟩ (c_J7_fill_53178__5 l D cy z H.size Ps ws hw.1 vu_22 0 h_vu_22 rl_0) (va_cwS 2 hts (gS tw_246 tw_167 tw_9 tw_168) rfl rfl rfl (by decide +kernel) ⟨Nat.le_of_ble_eq_true rfl, Nat.le_of_ble_eq_true rfl⟩) (tg_preS hw hK hSD hA) rfl rfl hl.1 rfl (lv_room (Nat.le_of_ble_eq_true rfl)) dX8_begin_71 ⟨Nat.le_of_ble_eq_true rfl, Nat.le_of_ble_eq_true rfl⟩) hw hA ⟨by decide, by decide⟩ (fun ws H locs hp_v_23 hw hF9 => ?_)
  have n_k_2 := FLD.over hF9 n_k_2 (by decide)
  have m_u_4 := FLD.over hF9 m_u_4 (by decide)
  have m_u_7 := FLD.over hF9 m_u_7 (by decide)
  have m_u_10 := FLD.over hF9 m_u_10 (by decide)
  have m_u_12 := FLD.over hF9 m_u_12 (by decide)
  have m_u_14 := FLD.over hF9 m_u_14 (by decide)
  have m_u_16 := FLD.over hF9 m_u_16 (by decide)
  have m_u_19 := FLD.over hF9 m_u_19 (by decide)
  have m_u_22 := FLD.over hF9 m_u_22 (by decide)
  have x_BGF_p0_p1 := BGF.over hF9 x_BGF_p0_p1 (by decide)
  have o_p0 := OV.over (V := vw_WORLD) hF9 o_p0 (by decide)
  have o_p1 := OV.over (V := vw_POST) hF9 o_p1 (by decide)
  refine lv_aload_n hx hb dX8_begin_74 rfl (lv_at hl 0 rfl) ?_
  refine tg_get (ci := 8) (ts := ty_WORLD) (C := RX8) (T := TX8) (N := 13) hx hb hts inX8 hown hK hw h_p0 rfl rfl 10 (by decide) (hts _ tw_273) (fun _ h9 => h9) (ft := vR 13) rfl dX8_begin_75 (fun u_24 hv_u_24 m_u_24 => ?_)
  obtain ⟨vu_24, rfl, h_vu_24⟩ := hv_u_24
  refine lv_iconst (v := 0) hx hb dX8_begin_78 (by decide) ?_
  refine tk_v (va_runS (As := [.ref vu_24, .int 0]) (rest := []) ⟨hx, hb, hml, hown, hts⟩ (c_J7_fill_53178__5 l D cy z H.size Ps ws hw.1 vu_24 0 h_vu_24 rl_0) (va_cwS 2 hts (gS tw_246 tw_167 tw_9 tw_168) rfl rfl rfl (by decide +kernel) ⟨Nat.le_of_ble_eq_true rfl, Nat.le_of_ble_eq_true rfl⟩) (tg_preS hw hK hSD hA) rfl rfl hl.1 rfl (lv_room (Nat.le_of_ble_eq_true rfl)) dX8_begin_79 ⟨Nat.le_of_ble_eq_true rfl, Nat.le_of_ble_eq_true rfl⟩) hw hA ⟨by decide, by decide⟩ (fun ws H locs hp_v_25 hw hF9 => ?_)
  have n_k_2 := FLD.over hF9 n_k_2 (by decide)
  have m_u_4 := FLD.over hF9 m_u_4 (by decide)
  have m_u_7 := FLD.over hF9 m_u_7 (by decide)
  have m_u_10 := FLD.over hF9 m_u_10 (by decide)
  have m_u_12 := FLD.over hF9 m_u_12 (by decide)
  have m_u_14 := FLD.over hF9 m_u_14 (by decide)
  have m_u_16 := FLD.over hF9 m_u_16 (by decide)
  have m_u_19 := FLD.over hF9 m_u_19 (by decide)
  have m_u_22 := FLD.over hF9 m_u_22 (by decide)
  have m_u_24 := FLD.over hF9 m_u_24 (by decide)
  have x_BGF_p0_p1 := BGF.over hF9 x_BGF_p0_p1 (by decide)
  have o_p0 := OV.over (V := vw_WORLD) hF9 o_p0 (by decide)
  have o_p1 := OV.over (V := vw_POST) hF9 o_p1 (by decide)
  simp only [f_X8_begin__1, ↓reduceIte, q_sg_3, q_sg_6, q_sg_9, q_sg_18, q_sg_21] at hE
  subst hQ
  exact W.vret hx hb hr (fun t ht hW => ⟨⟨ws, rfl, ⟨⟨⟨(by rw [hR, ← hE]; exact o_p0), (by rw [hR, ← hE]; exact o_p1), trivial⟩, ⟨x_BGF_p0_p1, trivial⟩⟩, hw.1, hw.2.2.2.2.1⟩, by rw [ht]; exact hw.2.1, va_K.moved hW.alike hK, hw.2.2.1⟩, hw.2.2.2.1.F ht⟩) hw.2.2.2.1.2.2 dX8_begin_82
abbrev wr_X3_read__2 : List (Nat × Nat) := [(3, 5), (3, 6), (3, 7), (3, 8), (7, 3), (7, 4), (7, 5), (7, 6), (7, 7), (7, 8), (7, 9), (7, 10), (7, 11), (8, 0), (8, 1)]
abbrev wa_X3_read__2 : List Nat := [1, 4, 5, 6, 7, 8, 9, 10, 11, 12, 13]
set_option maxHeartbeats 4000000 in
set_option maxRecDepth 100000 in
theorem c_X3_read__2 (l : Launch) (D : va_G) (cy : Nat → ClassId) (z : Nat → Nat) (sz : Nat) (Ps : PSI) (w0 : va_W) (hT : HT cy GG Ps w0) (p0 : Nat) (p1 : Nat) (p2 : Nat) (s0 : OS) (s1 : OS) (s2 : OS) (h_p0 : (p0, 25) ∈ Ps) (h_p1 : (p1, 26) ∈ Ps) (h_p2 : (p2, 24) ∈ Ps) (o_p0 : OV vw_POST Ps w0 p0 s0) (o_p1 : OV vw_TAPE Ps w0 p1 s1) (o_p2 : OV vw_WORLD Ps w0 p2 s2) : Met l yX3_read (Cond.code yX3_read cX3_read 5 (some .int) :: gT) ({ frames := 5, cells := 0, slots := 0, locals := 1000 } : Room) (va_Pc [.ref p0, .ref p1, .ref p2] (PRE D cy z w0 sz)) (va_Qi (fun (r : Int32) (u : va_W) => ((OTR Ps w0 u p0) ∧ ((OV vw_POST Ps u p0 ((f_X3_read__1 s0 s1 s2).1) ∧ OV vw_TAPE Ps u p1 ((f_X3_read__1 s0 s1 s2).2.1) ∧ OV vw_WORLD Ps u p2 ((f_X3_read__1 s0 s1 s2).2.2.1) ∧ (f_X3_read__1 s0 s1 s2).2.2.2 = r ∧ True) ∧ (RI r (-1) 900 ∧ (r = 0 → True) ∧ (¬ r = 0 → True) ∧ (BGF w0 u p2 p0 ∧ True) ∧ (r.toInt < 0 → True) ∧ (0 ≤ r.toInt → True)))) ∧ HT cy GG Ps u ∧ FR wr_X3_read__2 wa_X3_read__2 Ps w0 u) (BB D cy (va_A w0 sz) (fun (u : va_W) => u)) (va_A w0 sz)) 0 0 (va_A w0 sz) := by
  refine Met.ofW (cc := cX3_read) (maxL := 5) (ret := (some .int)) (by decide) rfl ?_
  intro p e s m args below meth c s₁ B hml hv
  obtain ⟨rfl, hsz, hP, hK, hD0, hSD⟩ := hv
  have hx := B.exec
  have hb := B.bytes
  have hr := B.returns
  have hlocks := B.notSynchronized
  have hts : ∀ w ∈ gT, w.before _ s = true := fun w h => atoms_spec (ws := Cond.code yX3_read cX3_read 5 (some .int) :: gT) B.pre w (List.mem_cons_of_mem _ h)
  have hown : s.vm.findClass RX3 = some m.cls := findClass_of_methodNamed B.named
  subst hsz
  have hD := hD0.self (sz := s.heap.size)
  generalize hAe : va_A w0 s.heap.size = A at hD hSD ⊢
  have hA : ∀ q : Nat, s.heap.size ≤ q → A q := fun q h => by rw [← hAe]; exact Or.inr h
  have hl := lv_entry ([.ref p0, .ref p1, .ref p2]) (n := 5) (Nat.le_of_ble_eq_true rfl)
  rw [lg_entry_eq]
  generalize (lg_sl ([.ref p0, .ref p1, .ref p2]) ++ List.replicate (5 - (lg_sl ([.ref p0, .ref p1, .ref p2])).length) Slot.unset).toArray = ls at hl ⊢
  have hl : lv_has ls 5 [(0, .ref p0), (1, .ref p1), (2, .ref p2)] := hl
  refine nameQ (fun Q hQ => ?_)
  have hw : WD D cy GG A s wr_X3_read__2 wa_X3_read__2 Ps w0 Ps w0 s.heap [] := ⟨hT, hP, hD, va_S.rf, FR.rf, hT.1, [], (List.append_nil _).symm⟩
  have x_OT_p0 : OTR Ps w0 w0 p0 := OTR.rf
  obtain ⟨R9, hR⟩ : ∃ q9 : OS × OS × OS × Int32, f_X3_read__1 s0 s1 s2 = q9 := ⟨_, rfl⟩
  have hE := hR
  have B14 : ∀ (nf : Nat) (x3 : Int32) (s0 : OS) (s1 : OS) (s2 : OS) (ws : va_W) (H : Heap) (locs : List Loc) (ls : Array Slot), 900 - x3.toInt < (nf : Int) → RI x3 0 900 → BGF w0 ws p2 p0 → OTR Ps w0 ws p0 → OV vw_POST Ps ws p0 s0 → OV vw_TAPE Ps ws p1 s1 → OV vw_WORLD Ps ws p2 s2 → f_X3_read__1_14 nf x3 s0 s1 s2 = R9 → WD D cy GG A s wr_X3_read__2 wa_X3_read__2 Ps w0 Ps ws H locs → lv_has ls 5 [(0, .ref p0), (1, .ref p1), (2, .ref p2), (3, .int x3)] → W p l e (headSpec (Cond.code yX3_read cX3_read 5 (some .int) :: gT) ({ frames := 5, cells := 0, slots := 0, locals := 1000 } : Room)).room s m ([.ref p0, .ref p1, .ref p2] : List Value).toArray below meth c H locs 0 0 Q (F0 m 14 ls []) := by
    intro nf14
    induction nf14 with
    | zero =>
      intro x3 s0 s1 s2 ws H locs ls hn14 r_x3 x_BGF_p2_p0 x_OT_p0 o_p0 o_p1 o_p2 hE hw hl
      exact absurd hn14 (by have q0 := r_x3.1; have u0 := r_x3.2; omega)
    | succ nf14 ih14 =>
      intro x3 s0 s1 s2 ws H locs ls hn14 r_x3 x_BGF_p2_p0 x_OT_p0 o_p0 o_p1 o_p2 hE hw hl
      refine lv_iload_n hx hb dX3_read_14 rfl (lv_at hl 3 rfl) ?_
      refine lv_sipush (v := 900) hx hb dX3_read_15 (by decide) ?_
      refine lv_icmp_ge (tgt := 171) hx hb dX3_read_18 (by decide) (fun c_18 => ?_) (fun c_18 => ?_)
      · have r_x3 : RI x3 900 900 := rc_le2 rl_900 r_x3 (ti_le c_18) (by decide)
        refine lv_iload_n hx hb dX3_read_171 rfl (lv_at hl 3 rfl) ?_
        simp only [f_X3_read__1_14, ↓reduceIte, eq_true c_18] at hE
        subst hQ
        exact W.iret (v := x3) hx hb hr (fun t ht hW => ⟨⟨x3, ws, rfl, ⟨⟨x_OT_p0, ⟨(by rw [hR, ← hE]; exact o_p0), (by rw [hR, ← hE]; exact o_p1), (by rw [hR, ← hE]; exact o_p2), (by rw [hR, ← hE]), trivial⟩, r_x3.to (by decide), (fun _ => trivial), (fun h0 => trivial), ⟨x_BGF_p2_p0, trivial⟩, (fun _ => trivial), (fun _ => trivial)⟩, hw.1, hw.2.2.2.2.1⟩, by rw [ht]; exact hw.2.1, va_K.moved hW.alike hK, hw.2.2.1⟩, hw.2.2.2.1.F ht⟩) hw.2.2.2.1.2.2 dX3_read_172
      · have r_x3 : RI x3 0 899 := rc_lt1 r_x3 rl_900 (ti_nle c_18) (by decide)
        refine lv_aload_n hx hb dX3_read_21 rfl (lv_at hl 1 rfl) ?_
        refine tk_i (va_runV (As := []) (rest := []) ⟨hx, hb, hml, hown, hts⟩ (c_X7_goesOn__3 l D cy z H.size Ps ws hw.1 p1 s1 h_p1 o_p1) (cwV 0 hts (gV tw_438 tw_439 tw_440 tw_2 tw_441) rfl rfl rfl (by decide +kernel) ⟨Nat.le_of_ble_eq_true rfl, Nat.le_of_ble_eq_true rfl⟩) (tg_preV hw hK hSD hA (ci := 7) (q := (RX7, TX7, 12)) rfl h_p1 rfl) rfl rfl hl.1 rfl (lv_room (Nat.le_of_ble_eq_true rfl)) dX3_read_22 ⟨Nat.le_of_ble_eq_true rfl, Nat.le_of_ble_eq_true rfl⟩) hw hA ⟨by decide, by decide⟩ (fun v_1 ws H locs hp_v_1 hw hF9 => ?_)
        have x_BGF_p2_p0 := BGF.over hF9 x_BGF_p2_p0 (by decide)
        have x_OT_p0 := OTR.over hF9 x_OT_p0 (by decide)
        obtain ⟨hfn, hp_v_1⟩ := hp_v_1
        have o_p0 := OV.over (V := vw_POST) hF9 o_p0 (by decide)
        have o_p2 := OV.over (V := vw_WORLD) hF9 o_p2 (by decide)
        obtain ⟨sg_2, q_sg_2⟩ : ∃ q9 : OS, (f_X7_goesOn__3 s1).1 = q9 := ⟨_, rfl⟩
        have o_p1 : OV vw_TAPE Ps ws p1 sg_2 := by rw [← q_sg_2]; exact hfn.1
        have q_v_1 : (f_X7_goesOn__3 s1).2 = v_1 := hfn.2.1
        have r_v_1 : RI v_1 0 1 := hp_v_1.1
        by_cases c9_v_1 : v_1 = 0
        · have r_v_1 : RI v_1 0 0 := by rw [c9_v_1]; exact rl_0
          refine lv_if_eq (tgt := 171) hx hb dX3_read_25 (by decide) (fun c_25 => ?_) (fun c_25 => ?_)
          · refine lv_iload_n hx hb dX3_read_171 rfl (lv_at hl 3 rfl) ?_
            simp only [f_X3_read__1_14, ↓reduceIte, eq_false c_18, q_sg_2, q_v_1, eq_true c9_v_1, eq_true c_25] at hE
            subst hQ
            exact W.iret (v := x3) hx hb hr (fun t ht hW => ⟨⟨x3, ws, rfl, ⟨⟨x_OT_p0, ⟨(by rw [hR, ← hE]; exact o_p0), (by rw [hR, ← hE]; exact o_p1), (by rw [hR, ← hE]; exact o_p2), (by rw [hR, ← hE]), trivial⟩, r_x3.to (by decide), (fun h0 => trivial), (fun h0 => trivial), ⟨x_BGF_p2_p0, trivial⟩, (fun _ => trivial), (fun _ => trivial)⟩, hw.1, hw.2.2.2.2.1⟩, by rw [ht]; exact hw.2.1, va_K.moved hW.alike hK, hw.2.2.1⟩, hw.2.2.2.1.F ht⟩) hw.2.2.2.1.2.2 dX3_read_172
          · exact absurd (r_v_1.eq.trans rl_0.eq.symm) ((ti_ne c_25))
        · have r_v_1 : RI v_1 1 1 := rc_neL r_v_1 rl_0 (ti_ne c9_v_1) (by decide)
          obtain ⟨v_3, m_v_3, r_v_3⟩ := ((hp_v_1.2.2 c9_v_1).1)
          refine lv_if_eq (tgt := 171) hx hb dX3_read_25 (by decide) (fun c_25 => ?_) (fun c_25 => ?_)
          · have r_v_1 : RI v_1 1 0 := rc_eq1 r_v_1 rl_0 (ti_eq c_25) (by decide)
            exact (r_v_1.no (by decide)).elim
          · refine lv_aload_n hx hb dX3_read_28 rfl (lv_at hl 1 rfl) ?_
            refine tg_getN (ci := 7) (ts := ty_TAPE) (C := RX7) (T := TX7) (N := 12) hx hb hts inX7 hown hK hw h_p1 rfl rfl 7 (by decide) (hSD.nest tn_97) (fun _ h9 => h9) (ft := vI (-2147483648) 2147483647) rfl dX3_read_29 (fun u_4 hv_u_4 m_u_4 => ?_)
            obtain ⟨vu_4, rfl, r_vu_4⟩ := hv_u_4
            have q_vu_4 : sg_2.1 7 = vu_4 := OV.eqI (V := vw_TAPE) hw.2.2.1 o_p1 m_u_4 (by decide)
            refine lv_istore (lv' := [(4, .int vu_4), (0, .ref p0), (1, .ref p1), (2, .ref p2), (3, .int x3)]) hx hb dX3_read_32 hl (by decide) rfl (fun ls hl => ?_)
            rcases (show ((-2147483648) ≤ vu_4.toInt ∧ vu_4.toInt ≤ 127) ∨ (128 ≤ vu_4.toInt ∧ vu_4.toInt ≤ 128) ∨ (129 ≤ vu_4.toInt ∧ vu_4.toInt ≤ 129) ∨ (130 ≤ vu_4.toInt ∧ vu_4.toInt ≤ 130) ∨ (131 ≤ vu_4.toInt ∧ vu_4.toInt ≤ 131) ∨ (132 ≤ vu_4.toInt ∧ vu_4.toInt ≤ 132) ∨ (133 ≤ vu_4.toInt ∧ vu_4.toInt ≤ 133) ∨ (134 ≤ vu_4.toInt ∧ vu_4.toInt ≤ 134) ∨ (135 ≤ vu_4.toInt ∧ vu_4.toInt ≤ 135) ∨ (136 ≤ vu_4.toInt ∧ vu_4.toInt ≤ 136) ∨ (137 ≤ vu_4.toInt ∧ vu_4.toInt ≤ 2147483647) by have k1 := r_vu_4.1; have k2 := r_vu_4.2; omega) with h_9 | h_9 | h_9 | h_9 | h_9 | h_9 | h_9 | h_9 | h_9 | h_9 | h_9
            · have r_vu_4 : RI vu_4 (-2147483648) 127 := h_9
              have k9_9 := h_9
              refine lv_aload_n hx hb dX3_read_34 rfl (lv_at hl 1 rfl) ?_
              refine lv_aload_n hx hb dX3_read_35 rfl (lv_at hl 2 rfl) ?_
              refine lv_iload hx hb dX3_read_36 (lv_at hl 0 rfl) ?_
              refine tk_i (va_runV (As := [.ref p1, .int vu_4]) (rest := []) ⟨hx, hb, hml, hown, hts⟩ (c_X3_beginsLine__23 l D cy z H.size Ps ws hw.1 p0 p1 vu_4 v_3 s0 sg_2 h_p0 h_p1 r_vu_4 r_v_3 m_v_3 o_p0 o_p1) (cwV 2 hts (gV tw_446 tw_448 ts_1 tw_11 tw_449) rfl rfl rfl (by decide +kernel) ⟨Nat.le_of_ble_eq_true rfl, Nat.le_of_ble_eq_true rfl⟩) (tg_preV hw hK hSD hA (ci := 3) (q := (RX3, TX3, 9)) rfl h_p0 rfl) rfl rfl hl.1 rfl (lv_room (Nat.le_of_ble_eq_true rfl)) dX3_read_38 ⟨Nat.le_of_ble_eq_true rfl, Nat.le_of_ble_eq_true rfl⟩) hw hA ⟨by decide, by decide⟩ (fun v_5 ws H locs hp_v_5 hw hF9 => ?_)
              have m_u_4 := FLD.over hF9 m_u_4 (by decide)
              have x_BGF_p2_p0 := BGF.over hF9 x_BGF_p2_p0 (by decide)
              have x_OT_p0 := OTR.over hF9 x_OT_p0 (by decide)
              obtain ⟨hot9, hp_v_5⟩ := hp_v_5
              obtain ⟨hfn, hp_v_5⟩ := hp_v_5
              have o_p2 := OV.over (V := vw_WORLD) hF9 o_p2 (by decide)
              obtain ⟨sg_6, q_sg_6⟩ : ∃ q9 : OS, (f_X3_beginsLine__12 vu_4 s0 sg_2).1 = q9 := ⟨_, rfl⟩
              have o_p0 : OV vw_POST Ps ws p0 sg_6 := by rw [← q_sg_6]; exact hfn.1
              obtain ⟨sg_7, q_sg_7⟩ : ∃ q9 : OS, (f_X3_beginsLine__12 vu_4 s0 sg_2).2.1 = q9 := ⟨_, rfl⟩
              have o_p1 : OV vw_TAPE Ps ws p1 sg_7 := by rw [← q_sg_7]; exact hfn.2.1
              have q_v_5 : (f_X3_beginsLine__12 vu_4 s0 sg_2).2.2 = v_5 := hfn.2.2.1
              have r_v_5 : RI v_5 0 0 := hp_v_5.1
              by_cases c9_v_5 : v_5 = 0
              · have r_v_5 : RI v_5 0 0 := by rw [c9_v_5]; exact rl_0
                obtain ⟨v_8, m_v_8, r_v_8⟩ := ((hp_v_5.2.1 c9_v_5).1)
                refine lv_if_ne (tgt := 46) hx hb dX3_read_41 (by decide) (fun c_41 => ?_) (fun c_41 => ?_)
                · exact absurd (r_v_5.eq.trans rl_0.eq.symm) ((ti_ne c_41))
                · refine lv_iconst (v := (-1)) hx hb dX3_read_44 (by decide) ?_
                  simp only [f_X3_read__1_14, ↓reduceIte, eq_false c_18, q_sg_2, q_v_1, eq_false c9_v_1, eq_false c_25, q_vu_4, eq_true k9_9, q_sg_6, q_sg_7, q_v_5, eq_true c9_v_5, eq_true c_41] at hE
                  subst hQ
                  exact W.iret (v := (-1)) hx hb hr (fun t ht hW => ⟨⟨(-1), ws, rfl, ⟨⟨x_OT_p0, ⟨(by rw [hR, ← hE]; exact o_p0), (by rw [hR, ← hE]; exact o_p1), (by rw [hR, ← hE]; exact o_p2), (by rw [hR, ← hE]), trivial⟩, rl_m1.to (by decide), (fun _ => trivial), (fun h0 => trivial), ⟨x_BGF_p2_p0, trivial⟩, (fun _ => trivial), (fun _ => trivial)⟩, hw.1, hw.2.2.2.2.1⟩, by rw [ht]; exact hw.2.1, va_K.moved hW.alike hK, hw.2.2.1⟩, hw.2.2.2.1.F ht⟩) hw.2.2.2.1.2.2 dX3_read_45
              · exact absurd (Int32.toInt_inj.mp (by rw [Int32.toInt_zero]; unfold RI at r_v_5; omega)) c9_v_5
            · have r_vu_4 : RI vu_4 128 128 := h_9
              have n9_0 : ¬ ((-2147483648) ≤ vu_4.toInt ∧ vu_4.toInt ≤ 127) := by omega
              have k9_9 := h_9
              refine lv_aload_n hx hb dX3_read_34 rfl (lv_at hl 1 rfl) ?_
              refine lv_aload_n hx hb dX3_read_35 rfl (lv_at hl 2 rfl) ?_
              refine lv_iload hx hb dX3_read_36 (lv_at hl 0 rfl) ?_
              refine tk_i (va_runV (As := [.ref p1, .int vu_4]) (rest := []) ⟨hx, hb, hml, hown, hts⟩ (c_X3_beginsLine__24 l D cy z H.size Ps ws hw.1 p0 p1 vu_4 v_3 s0 sg_2 h_p0 h_p1 r_vu_4 r_v_3 m_v_3 o_p0 o_p1) (cwV 2 hts (gV tw_446 tw_448 ts_1 tw_11 tw_449) rfl rfl rfl (by decide +kernel) ⟨Nat.le_of_ble_eq_true rfl, Nat.le_of_ble_eq_true rfl⟩) (tg_preV hw hK hSD hA (ci := 3) (q := (RX3, TX3, 9)) rfl h_p0 rfl) rfl rfl hl.1 rfl (lv_room (Nat.le_of_ble_eq_true rfl)) dX3_read_38 ⟨Nat.le_of_ble_eq_true rfl, Nat.le_of_ble_eq_true rfl⟩) hw hA ⟨by decide, by decide⟩ (fun v_9 ws H locs hp_v_9 hw hF9 => ?_)
              have x_BGF_p2_p0 := BGF.over hF9 x_BGF_p2_p0 (by decide)
              have x_OT_p0 := OTR.over hF9 x_OT_p0 (by decide)
              obtain ⟨hot9, hp_v_9⟩ := hp_v_9
              obtain ⟨hfn, hp_v_9⟩ := hp_v_9
              have o_p2 := OV.over (V := vw_WORLD) hF9 o_p2 (by decide)
              obtain ⟨sg_10, q_sg_10⟩ : ∃ q9 : OS, (f_X3_beginsLine__13 vu_4 s0 sg_2).1 = q9 := ⟨_, rfl⟩
              have o_p0 : OV vw_POST Ps ws p0 sg_10 := by rw [← q_sg_10]; exact hfn.1
              obtain ⟨sg_11, q_sg_11⟩ : ∃ q9 : OS, (f_X3_beginsLine__13 vu_4 s0 sg_2).2.1 = q9 := ⟨_, rfl⟩
              have o_p1 : OV vw_TAPE Ps ws p1 sg_11 := by rw [← q_sg_11]; exact hfn.2.1
              have q_v_9 : (f_X3_beginsLine__13 vu_4 s0 sg_2).2.2 = v_9 := hfn.2.2.1
              have r_v_9 : RI v_9 0 1 := hp_v_9.1
              by_cases c9_v_9 : v_9 = 0
              · have r_v_9 : RI v_9 0 0 := by rw [c9_v_9]; exact rl_0
                obtain ⟨v_12, m_v_12, r_v_12⟩ := ((hp_v_9.2.1 c9_v_9).1)
                refine lv_if_ne (tgt := 46) hx hb dX3_read_41 (by decide) (fun c_41 => ?_) (fun c_41 => ?_)
                · exact absurd (r_v_9.eq.trans rl_0.eq.symm) ((ti_ne c_41))
                · refine lv_iconst (v := (-1)) hx hb dX3_read_44 (by decide) ?_
                  simp only [f_X3_read__1_14, ↓reduceIte, eq_false c_18, q_sg_2, q_v_1, eq_false c9_v_1, eq_false c_25, q_vu_4, eq_false n9_0, eq_true k9_9, q_sg_10, q_sg_11, q_v_9, eq_true c9_v_9, eq_true c_41] at hE
                  subst hQ
                  exact W.iret (v := (-1)) hx hb hr (fun t ht hW => ⟨⟨(-1), ws, rfl, ⟨⟨x_OT_p0, ⟨(by rw [hR, ← hE]; exact o_p0), (by rw [hR, ← hE]; exact o_p1), (by rw [hR, ← hE]; exact o_p2), (by rw [hR, ← hE]), trivial⟩, rl_m1.to (by decide), (fun _ => trivial), (fun h0 => trivial), ⟨x_BGF_p2_p0, trivial⟩, (fun _ => trivial), (fun _ => trivial)⟩, hw.1, hw.2.2.2.2.1⟩, by rw [ht]; exact hw.2.1, va_K.moved hW.alike hK, hw.2.2.1⟩, hw.2.2.2.1.F ht⟩) hw.2.2.2.1.2.2 dX3_read_45
              · have r_v_9 : RI v_9 1 1 := rc_neL r_v_9 rl_0 (ti_ne c9_v_9) (by decide)
                obtain ⟨v_13, m_v_13, r_v_13⟩ := ((hp_v_9.2.2 c9_v_9).1)
                have x_MLT_p0_0 := ((hp_v_9.2.2 c9_v_9).2.1)
                refine lv_if_ne (tgt := 46) hx hb dX3_read_41 (by decide) (fun c_41 => ?_) (fun c_41 => ?_)
                · refine lv_iload hx hb dX3_read_46 (lv_at hl 0 rfl) ?_
                  have w_48 := r_vu_4
                  by_cases cl_48 : vu_4.toInt < 132 ∨ 136 < vu_4.toInt
                  · refine lv_tableOut (tgt := 147) hx hb dX3_read_48 cl_48 (by decide) ?_
                    refine lv_aload_n hx hb dX3_read_147 rfl (lv_at hl 1 rfl) ?_
                    refine lv_aload_n hx hb dX3_read_148 rfl (lv_at hl 2 rfl) ?_
                    refine lv_aload_n hx hb dX3_read_149 rfl (lv_at hl 3 rfl) ?_
                    refine lv_iload hx hb dX3_read_150 (lv_at hl 0 rfl) ?_
                    refine lv_sipush (v := 128) hx hb dX3_read_152 (by decide) ?_
                    refine lv_isub hx hb dX3_read_155 (lv_topi (fun v_14 e_v_14 => ?_))
                    obtain ⟨t_v_14, r_v_14⟩ := tq_sub (lo := 0) (hi := 0) r_vu_4 rl_128 (by decide +kernel) e_v_14
                    have t_v_14 : v_14.toInt = vu_4.toInt - 128 := t_v_14
                    have q_v_14 : vu_4 - (128 : Int32) = v_14 := e_v_14.symm
                    refine tk_v (va_runV (As := [.ref p1, .ref p2, .int v_14]) (rest := []) ⟨hx, hb, hml, hown, hts⟩ (c_X3_readNamed__8 l D cy z H.size Ps ws hw.1 p0 p1 p2 v_14 sg_10 sg_11 s2 h_p0 h_p1 h_p2 r_v_14 x_MLT_p0_0 o_p0 o_p1 o_p2) (cwV 3 hts (gV tw_499 tw_501 ts_6 tw_11 tw_502) rfl rfl rfl (by decide +kernel) ⟨Nat.le_of_ble_eq_true rfl, Nat.le_of_ble_eq_true rfl⟩) (tg_preV hw hK hSD hA (ci := 3) (q := (RX3, TX3, 9)) rfl h_p0 rfl) rfl rfl hl.1 rfl (lv_room (Nat.le_of_ble_eq_true rfl)) dX3_read_156 ⟨Nat.le_of_ble_eq_true rfl, Nat.le_of_ble_eq_true rfl⟩) hw hA ⟨by decide, by decide⟩ (fun ws H locs hp_v_15 hw hF9 => ?_)
                    have x_BGF_p2_p0 := BGF.over hF9 x_BGF_p2_p0 (by decide)
                    obtain ⟨hot9, hp_v_15⟩ := hp_v_15
                    obtain ⟨hfn, hp_v_15⟩ := hp_v_15
                    obtain ⟨sg_16, q_sg_16⟩ : ∃ q9 : OS, (f_X3_readNamed__4 v_14 sg_10 sg_11 s2).1 = q9 := ⟨_, rfl⟩
                    have o_p0 : OV vw_POST Ps ws p0 sg_16 := by rw [← q_sg_16]; exact hfn.1
                    obtain ⟨sg_17, q_sg_17⟩ : ∃ q9 : OS, (f_X3_readNamed__4 v_14 sg_10 sg_11 s2).2.1 = q9 := ⟨_, rfl⟩
                    have o_p1 : OV vw_TAPE Ps ws p1 sg_17 := by rw [← q_sg_17]; exact hfn.2.1
                    obtain ⟨sg_18, q_sg_18⟩ : ∃ q9 : OS, (f_X3_readNamed__4 v_14 sg_10 sg_11 s2).2.2 = q9 := ⟨_, rfl⟩
                    have o_p2 : OV vw_WORLD Ps ws p2 sg_18 := by rw [← q_sg_18]; exact hfn.2.2.1
                    have x_OT_p0 : OTR Ps w0 ws p0 := OTR.trans x_OT_p0 hot9
                    refine lv_aload_n hx hb dX3_read_159 rfl (lv_at hl 2 rfl) ?_
                    refine lv_bipush (v := 59) hx hb dX3_read_160 (by decide) ?_
                    refine tk_v (va_runV (As := [.int 59]) (rest := []) ⟨hx, hb, hml, hown, hts⟩ (c_X7_passOnly__3 l D cy z H.size Ps ws hw.1 p1 59 sg_17 h_p1 (rl_59.to (by decide)) o_p1) (cwV 1 hts (gV tw_513 tw_514 tw_515 tw_2 tw_516) rfl rfl rfl (by decide +kernel) ⟨Nat.le_of_ble_eq_true rfl, Nat.le_of_ble_eq_true rfl⟩) (tg_preV hw hK hSD hA (ci := 7) (q := (RX7, TX7, 12)) rfl h_p1 rfl) rfl rfl hl.1 rfl (lv_room (Nat.le_of_ble_eq_true rfl)) dX3_read_162 ⟨Nat.le_of_ble_eq_true rfl, Nat.le_of_ble_eq_true rfl⟩) hw hA ⟨by decide, by decide⟩ (fun ws H locs hp_v_19 hw hF9 => ?_)
                    have x_BGF_p2_p0 := BGF.over hF9 x_BGF_p2_p0 (by decide)
                    have x_OT_p0 := OTR.over hF9 x_OT_p0 (by decide)
                    obtain ⟨hfn, hp_v_19⟩ := hp_v_19
                    have o_p0 := OV.over (V := vw_POST) hF9 o_p0 (by decide)
                    have o_p2 := OV.over (V := vw_WORLD) hF9 o_p2 (by decide)
                    obtain ⟨sg_20, q_sg_20⟩ : ∃ q9 : OS, (f_X7_passOnly__3 (59 : Int32) sg_17) = q9 := ⟨_, rfl⟩
                    have o_p1 : OV vw_TAPE Ps ws p1 sg_20 := by rw [← q_sg_20]; exact hfn.1
                    obtain ⟨v_21, e_v_21⟩ : ∃ q9 : Int32, q9 = x3 + Int32.ofInt 1 := ⟨_, rfl⟩
                    obtain ⟨t_v_21, r_v_21⟩ := tq_add (lo := 1) (hi := 900) r_x3 (show RI (Int32.ofInt 1) 1 1 by unfold RI; decide +kernel) (by decide +kernel) e_v_21
                    have t_v_21 : v_21.toInt = x3.toInt + 1 := t_v_21
                    refine lv_iinc (v := v_21) (lv' := [(3, .int v_21), (4, .int vu_4), (0, .ref p0), (1, .ref p1), (2, .ref p2)]) hx hb dX3_read_165 hl (k := 4) rfl e_v_21.symm (by decide) rfl (fun ls hl => ?_)
                    have q_v_21 : x3 + (1 : Int32) = v_21 := by rw [e_v_21, show Int32.ofInt 1 = (1 : Int32) by decide]
                    refine lv_goto (tgt := 14) hx hb dX3_read_168 (by decide) ?_
                    simp only [f_X3_read__1_14, ↓reduceIte, eq_false c_18, q_sg_2, q_v_1, eq_false c9_v_1, eq_false c_25, q_vu_4, eq_false n9_0, eq_true k9_9, q_sg_10, q_sg_11, q_v_9, eq_false c9_v_9, eq_false c_41, eq_true cl_48, q_v_14, q_sg_16, q_sg_17, q_sg_18, q_sg_20, q_v_21] at hE
                    exact ih14 v_21 sg_16 sg_20 sg_18 ws _ _ ls (by have q0 := r_v_21.1; have u0 := r_v_21.2; have o0 := r_x3.1; have p0 := r_x3.2; omega) (r_v_21.to (by decide)) x_BGF_p2_p0 x_OT_p0 o_p0 o_p1 o_p2 hE hw (lv_sub hl [2, 3, 4, 0] rfl)
                  · have e_48 : vu_4.toInt = 132 ∨ vu_4.toInt = 133 ∨ vu_4.toInt = 134 ∨ vu_4.toInt = 135 ∨ vu_4.toInt = 136 := by omega
                    rcases e_48 with h_48 | h_48 | h_48 | h_48 | h_48
                    · exact absurd h_48 (by unfold RI at w_48; omega)
                    · exact absurd h_48 (by unfold RI at w_48; omega)
                    · exact absurd h_48 (by unfold RI at w_48; omega)
                    · exact absurd h_48 (by unfold RI at w_48; omega)
                    · exact absurd h_48 (by unfold RI at w_48; omega)
                · have r_v_9 : RI v_9 1 0 := rc_eq1 r_v_9 rl_0 (ti_eq c_41) (by decide)
                  exact (r_v_9.no (by decide)).elim
            · have r_vu_4 : RI vu_4 129 129 := h_9
              have n9_0 : ¬ ((-2147483648) ≤ vu_4.toInt ∧ vu_4.toInt ≤ 127) := by omega
              have n9_1 : ¬ (128 ≤ vu_4.toInt ∧ vu_4.toInt ≤ 128) := by omega
              have k9_9 := h_9
              refine lv_aload_n hx hb dX3_read_34 rfl (lv_at hl 1 rfl) ?_
              refine lv_aload_n hx hb dX3_read_35 rfl (lv_at hl 2 rfl) ?_
              refine lv_iload hx hb dX3_read_36 (lv_at hl 0 rfl) ?_
              refine tk_i (va_runV (As := [.ref p1, .int vu_4]) (rest := []) ⟨hx, hb, hml, hown, hts⟩ (c_X3_beginsLine__25 l D cy z H.size Ps ws hw.1 p0 p1 vu_4 v_3 s0 sg_2 h_p0 h_p1 r_vu_4 r_v_3 m_v_3 o_p0 o_p1) (cwV 2 hts (gV tw_446 tw_448 ts_1 tw_11 tw_449) rfl rfl rfl (by decide +kernel) ⟨Nat.le_of_ble_eq_true rfl, Nat.le_of_ble_eq_true rfl⟩) (tg_preV hw hK hSD hA (ci := 3) (q := (RX3, TX3, 9)) rfl h_p0 rfl) rfl rfl hl.1 rfl (lv_room (Nat.le_of_ble_eq_true rfl)) dX3_read_38 ⟨Nat.le_of_ble_eq_true rfl, Nat.le_of_ble_eq_true rfl⟩) hw hA ⟨by decide, by decide⟩ (fun v_22 ws H locs hp_v_22 hw hF9 => ?_)
              have x_BGF_p2_p0 := BGF.over hF9 x_BGF_p2_p0 (by decide)
              have x_OT_p0 := OTR.over hF9 x_OT_p0 (by decide)
              obtain ⟨hot9, hp_v_22⟩ := hp_v_22
              obtain ⟨hfn, hp_v_22⟩ := hp_v_22
              have o_p2 := OV.over (V := vw_WORLD) hF9 o_p2 (by decide)
              obtain ⟨sg_23, q_sg_23⟩ : ∃ q9 : OS, (f_X3_beginsLine__14 vu_4 s0 sg_2).1 = q9 := ⟨_, rfl⟩
              have o_p0 : OV vw_POST Ps ws p0 sg_23 := by rw [← q_sg_23]; exact hfn.1
              obtain ⟨sg_24, q_sg_24⟩ : ∃ q9 : OS, (f_X3_beginsLine__14 vu_4 s0 sg_2).2.1 = q9 := ⟨_, rfl⟩
              have o_p1 : OV vw_TAPE Ps ws p1 sg_24 := by rw [← q_sg_24]; exact hfn.2.1
              have q_v_22 : (f_X3_beginsLine__14 vu_4 s0 sg_2).2.2 = v_22 := hfn.2.2.1
              have r_v_22 : RI v_22 0 1 := hp_v_22.1
              by_cases c9_v_22 : v_22 = 0
              · have r_v_22 : RI v_22 0 0 := by rw [c9_v_22]; exact rl_0
                obtain ⟨v_25, m_v_25, r_v_25⟩ := ((hp_v_22.2.1 c9_v_22).1)
                refine lv_if_ne (tgt := 46) hx hb dX3_read_41 (by decide) (fun c_41 => ?_) (fun c_41 => ?_)
                · exact absurd (r_v_22.eq.trans rl_0.eq.symm) ((ti_ne c_41))
                · refine lv_iconst (v := (-1)) hx hb dX3_read_44 (by decide) ?_
                  simp only [f_X3_read__1_14, ↓reduceIte, eq_false c_18, q_sg_2, q_v_1, eq_false c9_v_1, eq_false c_25, q_vu_4, eq_false n9_0, eq_false n9_1, eq_true k9_9, q_sg_23, q_sg_24, q_v_22, eq_true c9_v_22, eq_true c_41] at hE
                  subst hQ
                  exact W.iret (v := (-1)) hx hb hr (fun t ht hW => ⟨⟨(-1), ws, rfl, ⟨⟨x_OT_p0, ⟨(by rw [hR, ← hE]; exact o_p0), (by rw [hR, ← hE]; exact o_p1), (by rw [hR, ← hE]; exact o_p2), (by rw [hR, ← hE]), trivial⟩, rl_m1.to (by decide), (fun _ => trivial), (fun h0 => trivial), ⟨x_BGF_p2_p0, trivial⟩, (fun _ => trivial), (fun _ => trivial)⟩, hw.1, hw.2.2.2.2.1⟩, by rw [ht]; exact hw.2.1, va_K.moved hW.alike hK, hw.2.2.1⟩, hw.2.2.2.1.F ht⟩) hw.2.2.2.1.2.2 dX3_read_45
              · have r_v_22 : RI v_22 1 1 := rc_neL r_v_22 rl_0 (ti_ne c9_v_22) (by decide)
                obtain ⟨v_26, m_v_26, r_v_26⟩ := ((hp_v_22.2.2 c9_v_22).1)
                have x_MLT_p0_1 := ((hp_v_22.2.2 c9_v_22).2.1)
                refine lv_if_ne (tgt := 46) hx hb dX3_read_41 (by decide) (fun c_41 => ?_) (fun c_41 => ?_)
                · refine lv_iload hx hb dX3_read_46 (lv_at hl 0 rfl) ?_
                  have w_48 := r_vu_4
                  by_cases cl_48 : vu_4.toInt < 132 ∨ 136 < vu_4.toInt
                  · refine lv_tableOut (tgt := 147) hx hb dX3_read_48 cl_48 (by decide) ?_
                    refine lv_aload_n hx hb dX3_read_147 rfl (lv_at hl 1 rfl) ?_
                    refine lv_aload_n hx hb dX3_read_148 rfl (lv_at hl 2 rfl) ?_
                    refine lv_aload_n hx hb dX3_read_149 rfl (lv_at hl 3 rfl) ?_
                    refine lv_iload hx hb dX3_read_150 (lv_at hl 0 rfl) ?_
                    refine lv_sipush (v := 128) hx hb dX3_read_152 (by decide) ?_
                    refine lv_isub hx hb dX3_read_155 (lv_topi (fun v_27 e_v_27 => ?_))
                    obtain ⟨t_v_27, r_v_27⟩ := tq_sub (lo := 1) (hi := 1) r_vu_4 rl_128 (by decide +kernel) e_v_27
                    have t_v_27 : v_27.toInt = vu_4.toInt - 128 := t_v_27
                    have q_v_27 : vu_4 - (128 : Int32) = v_27 := e_v_27.symm
                    refine tk_v (va_runV (As := [.ref p1, .ref p2, .int v_27]) (rest := []) ⟨hx, hb, hml, hown, hts⟩ (c_X3_readNamed__9 l D cy z H.size Ps ws hw.1 p0 p1 p2 v_27 sg_23 sg_24 s2 h_p0 h_p1 h_p2 r_v_27 x_MLT_p0_1 o_p0 o_p1 o_p2) (cwV 3 hts (gV tw_499 tw_501 ts_6 tw_11 tw_502) rfl rfl rfl (by decide +kernel) ⟨Nat.le_of_ble_eq_true rfl, Nat.le_of_ble_eq_true rfl⟩) (tg_preV hw hK hSD hA (ci := 3) (q := (RX3, TX3, 9)) rfl h_p0 rfl) rfl rfl hl.1 rfl (lv_room (Nat.le_of_ble_eq_true rfl)) dX3_read_156 ⟨Nat.le_of_ble_eq_true rfl, Nat.le_of_ble_eq_true rfl⟩) hw hA ⟨by decide, by decide⟩ (fun ws H locs hp_v_28 hw hF9 => ?_)
                    have x_BGF_p2_p0 := BGF.over hF9 x_BGF_p2_p0 (by decide)
                    obtain ⟨hot9, hp_v_28⟩ := hp_v_28
                    obtain ⟨hfn, hp_v_28⟩ := hp_v_28
                    obtain ⟨sg_29, q_sg_29⟩ : ∃ q9 : OS, (f_X3_readNamed__5 v_27 sg_23 sg_24 s2).1 = q9 := ⟨_, rfl⟩
                    have o_p0 : OV vw_POST Ps ws p0 sg_29 := by rw [← q_sg_29]; exact hfn.1
                    obtain ⟨sg_30, q_sg_30⟩ : ∃ q9 : OS, (f_X3_readNamed__5 v_27 sg_23 sg_24 s2).2.1 = q9 := ⟨_, rfl⟩
                    have o_p1 : OV vw_TAPE Ps ws p1 sg_30 := by rw [← q_sg_30]; exact hfn.2.1
                    obtain ⟨sg_31, q_sg_31⟩ : ∃ q9 : OS, (f_X3_readNamed__5 v_27 sg_23 sg_24 s2).2.2 = q9 := ⟨_, rfl⟩
                    have o_p2 : OV vw_WORLD Ps ws p2 sg_31 := by rw [← q_sg_31]; exact hfn.2.2.1
                    have x_OT_p0 : OTR Ps w0 ws p0 := OTR.trans x_OT_p0 hot9
                    refine lv_aload_n hx hb dX3_read_159 rfl (lv_at hl 2 rfl) ?_
                    refine lv_bipush (v := 59) hx hb dX3_read_160 (by decide) ?_
                    refine tk_v (va_runV (As := [.int 59]) (rest := []) ⟨hx, hb, hml, hown, hts⟩ (c_X7_passOnly__3 l D cy z H.size Ps ws hw.1 p1 59 sg_30 h_p1 (rl_59.to (by decide)) o_p1) (cwV 1 hts (gV tw_513 tw_514 tw_515 tw_2 tw_516) rfl rfl rfl (by decide +kernel) ⟨Nat.le_of_ble_eq_true rfl, Nat.le_of_ble_eq_true rfl⟩) (tg_preV hw hK hSD hA (ci := 7) (q := (RX7, TX7, 12)) rfl h_p1 rfl) rfl rfl hl.1 rfl (lv_room (Nat.le_of_ble_eq_true rfl)) dX3_read_162 ⟨Nat.le_of_ble_eq_true rfl, Nat.le_of_ble_eq_true rfl⟩) hw hA ⟨by decide, by decide⟩ (fun ws H locs hp_v_32 hw hF9 => ?_)
                    have x_BGF_p2_p0 := BGF.over hF9 x_BGF_p2_p0 (by decide)
                    have x_OT_p0 := OTR.over hF9 x_OT_p0 (by decide)
                    obtain ⟨hfn, hp_v_32⟩ := hp_v_32
                    have o_p0 := OV.over (V := vw_POST) hF9 o_p0 (by decide)
                    have o_p2 := OV.over (V := vw_WORLD) hF9 o_p2 (by decide)
                    obtain ⟨sg_33, q_sg_33⟩ : ∃ q9 : OS, (f_X7_passOnly__3 (59 : Int32) sg_30) = q9 := ⟨_, rfl⟩
                    have o_p1 : OV vw_TAPE Ps ws p1 sg_33 := by rw [← q_sg_33]; exact hfn.1
                    obtain ⟨v_34, e_v_34⟩ : ∃ q9 : Int32, q9 = x3 + Int32.ofInt 1 := ⟨_, rfl⟩
                    obtain ⟨t_v_34, r_v_34⟩ := tq_add (lo := 1) (hi := 900) r_x3 (show RI (Int32.ofInt 1) 1 1 by unfold RI; decide +kernel) (by decide +kernel) e_v_34
                    have t_v_34 : v_34.toInt = x3.toInt + 1 := t_v_34
                    refine lv_iinc (v := v_34) (lv' := [(3, .int v_34), (4, .int vu_4), (0, .ref p0), (1, .ref p1), (2, .ref p2)]) hx hb dX3_read_165 hl (k := 4) rfl e_v_34.symm (by decide) rfl (fun ls hl => ?_)
                    have q_v_34 : x3 + (1 : Int32) = v_34 := by rw [e_v_34, show Int32.ofInt 1 = (1 : Int32) by decide]
                    refine lv_goto (tgt := 14) hx hb dX3_read_168 (by decide) ?_
                    simp only [f_X3_read__1_14, ↓reduceIte, eq_false c_18, q_sg_2, q_v_1, eq_false c9_v_1, eq_false c_25, q_vu_4, eq_false n9_0, eq_false n9_1, eq_true k9_9, q_sg_23, q_sg_24, q_v_22, eq_false c9_v_22, eq_false c_41, eq_true cl_48, q_v_27, q_sg_29, q_sg_30, q_sg_31, q_sg_33, q_v_34] at hE
                    exact ih14 v_34 sg_29 sg_33 sg_31 ws _ _ ls (by have q0 := r_v_34.1; have u0 := r_v_34.2; have o0 := r_x3.1; have p0 := r_x3.2; omega) (r_v_34.to (by decide)) x_BGF_p2_p0 x_OT_p0 o_p0 o_p1 o_p2 hE hw (lv_sub hl [2, 3, 4, 0] rfl)
                  · have e_48 : vu_4.toInt = 132 ∨ vu_4.toInt = 133 ∨ vu_4.toInt = 134 ∨ vu_4.toInt = 135 ∨ vu_4.toInt = 136 := by omega
                    rcases e_48 with h_48 | h_48 | h_48 | h_48 | h_48
                    · exact absurd h_48 (by unfold RI at w_48; omega)
                    · exact absurd h_48 (by unfold RI at w_48; omega)
                    · exact absurd h_48 (by unfold RI at w_48; omega)
                    · exact absurd h_48 (by unfold RI at w_48; omega)
                    · exact absurd h_48 (by unfold RI at w_48; omega)
                · have r_v_22 : RI v_22 1 0 := rc_eq1 r_v_22 rl_0 (ti_eq c_41) (by decide)
                  exact (r_v_22.no (by decide)).elim
            · have r_vu_4 : RI vu_4 130 130 := h_9
              have n9_0 : ¬ ((-2147483648) ≤ vu_4.toInt ∧ vu_4.toInt ≤ 127) := by omega
              have n9_1 : ¬ (128 ≤ vu_4.toInt ∧ vu_4.toInt ≤ 128) := by omega
              have n9_2 : ¬ (129 ≤ vu_4.toInt ∧ vu_4.toInt ≤ 129) := by omega
              have k9_9 := h_9
              refine lv_aload_n hx hb dX3_read_34 rfl (lv_at hl 1 rfl) ?_
              refine lv_aload_n hx hb dX3_read_35 rfl (lv_at hl 2 rfl) ?_
              refine lv_iload hx hb dX3_read_36 (lv_at hl 0 rfl) ?_
              refine tk_i (va_runV (As := [.ref p1, .int vu_4]) (rest := []) ⟨hx, hb, hml, hown, hts⟩ (c_X3_beginsLine__26 l D cy z H.size Ps ws hw.1 p0 p1 vu_4 v_3 s0 sg_2 h_p0 h_p1 r_vu_4 r_v_3 m_v_3 o_p0 o_p1) (cwV 2 hts (gV tw_446 tw_448 ts_1 tw_11 tw_449) rfl rfl rfl (by decide +kernel) ⟨Nat.le_of_ble_eq_true rfl, Nat.le_of_ble_eq_true rfl⟩) (tg_preV hw hK hSD hA (ci := 3) (q := (RX3, TX3, 9)) rfl h_p0 rfl) rfl rfl hl.1 rfl (lv_room (Nat.le_of_ble_eq_true rfl)) dX3_read_38 ⟨Nat.le_of_ble_eq_true rfl, Nat.le_of_ble_eq_true rfl⟩) hw hA ⟨by decide, by decide⟩ (fun v_35 ws H locs hp_v_35 hw hF9 => ?_)
              have x_BGF_p2_p0 := BGF.over hF9 x_BGF_p2_p0 (by decide)
              have x_OT_p0 := OTR.over hF9 x_OT_p0 (by decide)
              obtain ⟨hot9, hp_v_35⟩ := hp_v_35
              obtain ⟨hfn, hp_v_35⟩ := hp_v_35
              have o_p2 := OV.over (V := vw_WORLD) hF9 o_p2 (by decide)
              obtain ⟨sg_36, q_sg_36⟩ : ∃ q9 : OS, (f_X3_beginsLine__13 vu_4 s0 sg_2).1 = q9 := ⟨_, rfl⟩
              have o_p0 : OV vw_POST Ps ws p0 sg_36 := by rw [← q_sg_36]; exact hfn.1
              obtain ⟨sg_37, q_sg_37⟩ : ∃ q9 : OS, (f_X3_beginsLine__13 vu_4 s0 sg_2).2.1 = q9 := ⟨_, rfl⟩
              have o_p1 : OV vw_TAPE Ps ws p1 sg_37 := by rw [← q_sg_37]; exact hfn.2.1
              have q_v_35 : (f_X3_beginsLine__13 vu_4 s0 sg_2).2.2 = v_35 := hfn.2.2.1
              have r_v_35 : RI v_35 0 1 := hp_v_35.1
              by_cases c9_v_35 : v_35 = 0
              · have r_v_35 : RI v_35 0 0 := by rw [c9_v_35]; exact rl_0
                obtain ⟨v_38, m_v_38, r_v_38⟩ := ((hp_v_35.2.1 c9_v_35).1)
                refine lv_if_ne (tgt := 46) hx hb dX3_read_41 (by decide) (fun c_41 => ?_) (fun c_41 => ?_)
                · exact absurd (r_v_35.eq.trans rl_0.eq.symm) ((ti_ne c_41))
                · refine lv_iconst (v := (-1)) hx hb dX3_read_44 (by decide) ?_
                  simp only [f_X3_read__1_14, ↓reduceIte, eq_false c_18, q_sg_2, q_v_1, eq_false c9_v_1, eq_false c_25, q_vu_4, eq_false n9_0, eq_false n9_1, eq_false n9_2, eq_true k9_9, q_sg_36, q_sg_37, q_v_35, eq_true c9_v_35, eq_true c_41] at hE
                  subst hQ
                  exact W.iret (v := (-1)) hx hb hr (fun t ht hW => ⟨⟨(-1), ws, rfl, ⟨⟨x_OT_p0, ⟨(by rw [hR, ← hE]; exact o_p0), (by rw [hR, ← hE]; exact o_p1), (by rw [hR, ← hE]; exact o_p2), (by rw [hR, ← hE]), trivial⟩, rl_m1.to (by decide), (fun _ => trivial), (fun h0 => trivial), ⟨x_BGF_p2_p0, trivial⟩, (fun _ => trivial), (fun _ => trivial)⟩, hw.1, hw.2.2.2.2.1⟩, by rw [ht]; exact hw.2.1, va_K.moved hW.alike hK, hw.2.2.1⟩, hw.2.2.2.1.F ht⟩) hw.2.2.2.1.2.2 dX3_read_45
              · have r_v_35 : RI v_35 1 1 := rc_neL r_v_35 rl_0 (ti_ne c9_v_35) (by decide)
                obtain ⟨v_39, m_v_39, r_v_39⟩ := ((hp_v_35.2.2 c9_v_35).1)
                have x_MLT_p0_2 := ((hp_v_35.2.2 c9_v_35).2.1)
                refine lv_if_ne (tgt := 46) hx hb dX3_read_41 (by decide) (fun c_41 => ?_) (fun c_41 => ?_)
                · refine lv_iload hx hb dX3_read_46 (lv_at hl 0 rfl) ?_
                  have w_48 := r_vu_4
                  by_cases cl_48 : vu_4.toInt < 132 ∨ 136 < vu_4.toInt
                  · refine lv_tableOut (tgt := 147) hx hb dX3_read_48 cl_48 (by decide) ?_
                    refine lv_aload_n hx hb dX3_read_147 rfl (lv_at hl 1 rfl) ?_
                    refine lv_aload_n hx hb dX3_read_148 rfl (lv_at hl 2 rfl) ?_
                    refine lv_aload_n hx hb dX3_read_149 rfl (lv_at hl 3 rfl) ?_
                    refine lv_iload hx hb dX3_read_150 (lv_at hl 0 rfl) ?_
                    refine lv_sipush (v := 128) hx hb dX3_read_152 (by decide) ?_
                    refine lv_isub hx hb dX3_read_155 (lv_topi (fun v_40 e_v_40 => ?_))
                    obtain ⟨t_v_40, r_v_40⟩ := tq_sub (lo := 2) (hi := 2) r_vu_4 rl_128 (by decide +kernel) e_v_40
                    have t_v_40 : v_40.toInt = vu_4.toInt - 128 := t_v_40
                    have q_v_40 : vu_4 - (128 : Int32) = v_40 := e_v_40.symm
                    refine tk_v (va_runV (As := [.ref p1, .ref p2, .int v_40]) (rest := []) ⟨hx, hb, hml, hown, hts⟩ (c_X3_readNamed__10 l D cy z H.size Ps ws hw.1 p0 p1 p2 v_40 sg_36 sg_37 s2 h_p0 h_p1 h_p2 r_v_40 x_MLT_p0_2 o_p0 o_p1 o_p2) (cwV 3 hts (gV tw_499 tw_501 ts_6 tw_11 tw_502) rfl rfl rfl (by decide +kernel) ⟨Nat.le_of_ble_eq_true rfl, Nat.le_of_ble_eq_true rfl⟩) (tg_preV hw hK hSD hA (ci := 3) (q := (RX3, TX3, 9)) rfl h_p0 rfl) rfl rfl hl.1 rfl (lv_room (Nat.le_of_ble_eq_true rfl)) dX3_read_156 ⟨Nat.le_of_ble_eq_true rfl, Nat.le_of_ble_eq_true rfl⟩) hw hA ⟨by decide, by decide⟩ (fun ws H locs hp_v_41 hw hF9 => ?_)
                    have x_BGF_p2_p0 := BGF.over hF9 x_BGF_p2_p0 (by decide)
                    obtain ⟨hot9, hp_v_41⟩ := hp_v_41
                    obtain ⟨hfn, hp_v_41⟩ := hp_v_41
                    obtain ⟨sg_42, q_sg_42⟩ : ∃ q9 : OS, (f_X3_readNamed__6 v_40 sg_36 sg_37 s2).1 = q9 := ⟨_, rfl⟩
                    have o_p0 : OV vw_POST Ps ws p0 sg_42 := by rw [← q_sg_42]; exact hfn.1
                    obtain ⟨sg_43, q_sg_43⟩ : ∃ q9 : OS, (f_X3_readNamed__6 v_40 sg_36 sg_37 s2).2.1 = q9 := ⟨_, rfl⟩
                    have o_p1 : OV vw_TAPE Ps ws p1 sg_43 := by rw [← q_sg_43]; exact hfn.2.1
                    obtain ⟨sg_44, q_sg_44⟩ : ∃ q9 : OS, (f_X3_readNamed__6 v_40 sg_36 sg_37 s2).2.2 = q9 := ⟨_, rfl⟩
                    have o_p2 : OV vw_WORLD Ps ws p2 sg_44 := by rw [← q_sg_44]; exact hfn.2.2.1
                    have x_OT_p0 : OTR Ps w0 ws p0 := OTR.trans x_OT_p0 hot9
                    refine lv_aload_n hx hb dX3_read_159 rfl (lv_at hl 2 rfl) ?_
                    refine lv_bipush (v := 59) hx hb dX3_read_160 (by decide) ?_
                    refine tk_v (va_runV (As := [.int 59]) (rest := []) ⟨hx, hb, hml, hown, hts⟩ (c_X7_passOnly__3 l D cy z H.size Ps ws hw.1 p1 59 sg_43 h_p1 (rl_59.to (by decide)) o_p1) (cwV 1 hts (gV tw_513 tw_514 tw_515 tw_2 tw_516) rfl rfl rfl (by decide +kernel) ⟨Nat.le_of_ble_eq_true rfl, Nat.le_of_ble_eq_true rfl⟩) (tg_preV hw hK hSD hA (ci := 7) (q := (RX7, TX7, 12)) rfl h_p1 rfl) rfl rfl hl.1 rfl (lv_room (Nat.le_of_ble_eq_true rfl)) dX3_read_162 ⟨Nat.le_of_ble_eq_true rfl, Nat.le_of_ble_eq_true rfl⟩) hw hA ⟨by decide, by decide⟩ (fun ws H locs hp_v_45 hw hF9 => ?_)
                    have x_BGF_p2_p0 := BGF.over hF9 x_BGF_p2_p0 (by decide)
                    have x_OT_p0 := OTR.over hF9 x_OT_p0 (by decide)
                    obtain ⟨hfn, hp_v_45⟩ := hp_v_45
                    have o_p0 := OV.over (V := vw_POST) hF9 o_p0 (by decide)
                    have o_p2 := OV.over (V := vw_WORLD) hF9 o_p2 (by decide)
                    obtain ⟨sg_46, q_sg_46⟩ : ∃ q9 : OS, (f_X7_passOnly__3 (59 : Int32) sg_43) = q9 := ⟨_, rfl⟩
                    have o_p1 : OV vw_TAPE Ps ws p1 sg_46 := by rw [← q_sg_46]; exact hfn.1
                    obtain ⟨v_47, e_v_47⟩ : ∃ q9 : Int32, q9 = x3 + Int32.ofInt 1 := ⟨_, rfl⟩
                    obtain ⟨t_v_47, r_v_47⟩ := tq_add (lo := 1) (hi := 900) r_x3 (show RI (Int32.ofInt 1) 1 1 by unfold RI; decide +kernel) (by decide +kernel) e_v_47
                    have t_v_47 : v_47.toInt = x3.toInt + 1 := t_v_47
                    refine lv_iinc (v := v_47) (lv' := [(3, .int v_47), (4, .int vu_4), (0, .ref p0), (1, .ref p1), (2, .ref p2)]) hx hb dX3_read_165 hl (k := 4) rfl e_v_47.symm (by decide) rfl (fun ls hl => ?_)
                    have q_v_47 : x3 + (1 : Int32) = v_47 := by rw [e_v_47, show Int32.ofInt 1 = (1 : Int32) by decide]
                    refine lv_goto (tgt := 14) hx hb dX3_read_168 (by decide) ?_
                    simp only [f_X3_read__1_14, ↓reduceIte, eq_false c_18, q_sg_2, q_v_1, eq_false c9_v_1, eq_false c_25, q_vu_4, eq_false n9_0, eq_false n9_1, eq_false n9_2, eq_true k9_9, q_sg_36, q_sg_37, q_v_35, eq_false c9_v_35, eq_false c_41, eq_true cl_48, q_v_40, q_sg_42, q_sg_43, q_sg_44, q_sg_46, q_v_47] at hE
                    exact ih14 v_47 sg_42 sg_46 sg_44 ws _ _ ls (by have q0 := r_v_47.1; have u0 := r_v_47.2; have o0 := r_x3.1; have p0 := r_x3.2; omega) (r_v_47.to (by decide)) x_BGF_p2_p0 x_OT_p0 o_p0 o_p1 o_p2 hE hw (lv_sub hl [2, 3, 4, 0] rfl)
                  · have e_48 : vu_4.toInt = 132 ∨ vu_4.toInt = 133 ∨ vu_4.toInt = 134 ∨ vu_4.toInt = 135 ∨ vu_4.toInt = 136 := by omega
                    rcases e_48 with h_48 | h_48 | h_48 | h_48 | h_48
                    · exact absurd h_48 (by unfold RI at w_48; omega)
                    · exact absurd h_48 (by unfold RI at w_48; omega)
                    · exact absurd h_48 (by unfold RI at w_48; omega)
                    · exact absurd h_48 (by unfold RI at w_48; omega)
                    · exact absurd h_48 (by unfold RI at w_48; omega)
                · have r_v_35 : RI v_35 1 0 := rc_eq1 r_v_35 rl_0 (ti_eq c_41) (by decide)
                  exact (r_v_35.no (by decide)).elim
            · have r_vu_4 : RI vu_4 131 131 := h_9
              have n9_0 : ¬ ((-2147483648) ≤ vu_4.toInt ∧ vu_4.toInt ≤ 127) := by omega
              have n9_1 : ¬ (128 ≤ vu_4.toInt ∧ vu_4.toInt ≤ 128) := by omega
              have n9_2 : ¬ (129 ≤ vu_4.toInt ∧ vu_4.toInt ≤ 129) := by omega
              have n9_3 : ¬ (130 ≤ vu_4.toInt ∧ vu_4.toInt ≤ 130) := by omega
              have k9_9 := h_9
              refine lv_aload_n hx hb dX3_read_34 rfl (lv_at hl 1 rfl) ?_
              refine lv_aload_n hx hb dX3_read_35 rfl (lv_at hl 2 rfl) ?_
              refine lv_iload hx hb dX3_read_36 (lv_at hl 0 rfl) ?_
              refine tk_i (va_runV (As := [.ref p1, .int vu_4]) (rest := []) ⟨hx, hb, hml, hown, hts⟩ (c_X3_beginsLine__27 l D cy z H.size Ps ws hw.1 p0 p1 vu_4 v_3 s0 sg_2 h_p0 h_p1 r_vu_4 r_v_3 m_v_3 o_p0 o_p1) (cwV 2 hts (gV tw_446 tw_448 ts_1 tw_11 tw_449) rfl rfl rfl (by decide +kernel) ⟨Nat.le_of_ble_eq_true rfl, Nat.le_of_ble_eq_true rfl⟩) (tg_preV hw hK hSD hA (ci := 3) (q := (RX3, TX3, 9)) rfl h_p0 rfl) rfl rfl hl.1 rfl (lv_room (Nat.le_of_ble_eq_true rfl)) dX3_read_38 ⟨Nat.le_of_ble_eq_true rfl, Nat.le_of_ble_eq_true rfl⟩) hw hA ⟨by decide, by decide⟩ (fun v_48 ws H locs hp_v_48 hw hF9 => ?_)
              have x_BGF_p2_p0 := BGF.over hF9 x_BGF_p2_p0 (by decide)
              have x_OT_p0 := OTR.over hF9 x_OT_p0 (by decide)
              obtain ⟨hot9, hp_v_48⟩ := hp_v_48
              obtain ⟨hfn, hp_v_48⟩ := hp_v_48
              have o_p2 := OV.over (V := vw_WORLD) hF9 o_p2 (by decide)
              obtain ⟨sg_49, q_sg_49⟩ : ∃ q9 : OS, (f_X3_beginsLine__16 vu_4 s0 sg_2).1 = q9 := ⟨_, rfl⟩
              have o_p0 : OV vw_POST Ps ws p0 sg_49 := by rw [← q_sg_49]; exact hfn.1
              obtain ⟨sg_50, q_sg_50⟩ : ∃ q9 : OS, (f_X3_beginsLine__16 vu_4 s0 sg_2).2.1 = q9 := ⟨_, rfl⟩
              have o_p1 : OV vw_TAPE Ps ws p1 sg_50 := by rw [← q_sg_50]; exact hfn.2.1
              have q_v_48 : (f_X3_beginsLine__16 vu_4 s0 sg_2).2.2 = v_48 := hfn.2.2.1
              have r_v_48 : RI v_48 0 1 := hp_v_48.1
              by_cases c9_v_48 : v_48 = 0
              · have r_v_48 : RI v_48 0 0 := by rw [c9_v_48]; exact rl_0
                obtain ⟨v_51, m_v_51, r_v_51⟩ := ((hp_v_48.2.1 c9_v_48).1)
                refine lv_if_ne (tgt := 46) hx hb dX3_read_41 (by decide) (fun c_41 => ?_) (fun c_41 => ?_)
                · exact absurd (r_v_48.eq.trans rl_0.eq.symm) ((ti_ne c_41))
                · refine lv_iconst (v := (-1)) hx hb dX3_read_44 (by decide) ?_
                  simp only [f_X3_read__1_14, ↓reduceIte, eq_false c_18, q_sg_2, q_v_1, eq_false c9_v_1, eq_false c_25, q_vu_4, eq_false n9_0, eq_false n9_1, eq_false n9_2, eq_false n9_3, eq_true k9_9, q_sg_49, q_sg_50, q_v_48, eq_true c9_v_48, eq_true c_41] at hE
                  subst hQ
                  exact W.iret (v := (-1)) hx hb hr (fun t ht hW => ⟨⟨(-1), ws, rfl, ⟨⟨x_OT_p0, ⟨(by rw [hR, ← hE]; exact o_p0), (by rw [hR, ← hE]; exact o_p1), (by rw [hR, ← hE]; exact o_p2), (by rw [hR, ← hE]), trivial⟩, rl_m1.to (by decide), (fun _ => trivial), (fun h0 => trivial), ⟨x_BGF_p2_p0, trivial⟩, (fun _ => trivial), (fun _ => trivial)⟩, hw.1, hw.2.2.2.2.1⟩, by rw [ht]; exact hw.2.1, va_K.moved hW.alike hK, hw.2.2.1⟩, hw.2.2.2.1.F ht⟩) hw.2.2.2.1.2.2 dX3_read_45
              · have r_v_48 : RI v_48 1 1 := rc_neL r_v_48 rl_0 (ti_ne c9_v_48) (by decide)
                obtain ⟨v_52, m_v_52, r_v_52⟩ := ((hp_v_48.2.2 c9_v_48).1)
                have x_MLT_p0_3 := ((hp_v_48.2.2 c9_v_48).2.1)
                refine lv_if_ne (tgt := 46) hx hb dX3_read_41 (by decide) (fun c_41 => ?_) (fun c_41 => ?_)
                · refine lv_iload hx hb dX3_read_46 (lv_at hl 0 rfl) ?_
                  have w_48 := r_vu_4
                  by_cases cl_48 : vu_4.toInt < 132 ∨ 136 < vu_4.toInt
                  · refine lv_tableOut (tgt := 147) hx hb dX3_read_48 cl_48 (by decide) ?_
                    refine lv_aload_n hx hb dX3_read_147 rfl (lv_at hl 1 rfl) ?_
                    refine lv_aload_n hx hb dX3_read_148 rfl (lv_at hl 2 rfl) ?_
                    refine lv_aload_n hx hb dX3_read_149 rfl (lv_at hl 3 rfl) ?_
                    refine lv_iload hx hb dX3_read_150 (lv_at hl 0 rfl) ?_
                    refine lv_sipush (v := 128) hx hb dX3_read_152 (by decide) ?_
                    refine lv_isub hx hb dX3_read_155 (lv_topi (fun v_53 e_v_53 => ?_))
                    obtain ⟨t_v_53, r_v_53⟩ := tq_sub (lo := 3) (hi := 3) r_vu_4 rl_128 (by decide +kernel) e_v_53
                    have t_v_53 : v_53.toInt = vu_4.toInt - 128 := t_v_53
                    have q_v_53 : vu_4 - (128 : Int32) = v_53 := e_v_53.symm
                    refine tk_v (va_runV (As := [.ref p1, .ref p2, .int v_53]) (rest := []) ⟨hx, hb, hml, hown, hts⟩ (c_X3_readNamed__11 l D cy z H.size Ps ws hw.1 p0 p1 p2 v_53 sg_49 sg_50 s2 h_p0 h_p1 h_p2 r_v_53 x_MLT_p0_3 o_p0 o_p1 o_p2) (cwV 3 hts (gV tw_499 tw_501 ts_6 tw_11 tw_502) rfl rfl rfl (by decide +kernel) ⟨Nat.le_of_ble_eq_true rfl, Nat.le_of_ble_eq_true rfl⟩) (tg_preV hw hK hSD hA (ci := 3) (q := (RX3, TX3, 9)) rfl h_p0 rfl) rfl rfl hl.1 rfl (lv_room (Nat.le_of_ble_eq_true rfl)) dX3_read_156 ⟨Nat.le_of_ble_eq_true rfl, Nat.le_of_ble_eq_true rfl⟩) hw hA ⟨by decide, by decide⟩ (fun ws H locs hp_v_54 hw hF9 => ?_)
                    have x_BGF_p2_p0 := BGF.over hF9 x_BGF_p2_p0 (by decide)
                    obtain ⟨hot9, hp_v_54⟩ := hp_v_54
                    obtain ⟨hfn, hp_v_54⟩ := hp_v_54
                    obtain ⟨sg_55, q_sg_55⟩ : ∃ q9 : OS, (f_X3_readNamed__7 v_53 sg_49 sg_50 s2).1 = q9 := ⟨_, rfl⟩
                    have o_p0 : OV vw_POST Ps ws p0 sg_55 := by rw [← q_sg_55]; exact hfn.1
                    obtain ⟨sg_56, q_sg_56⟩ : ∃ q9 : OS, (f_X3_readNamed__7 v_53 sg_49 sg_50 s2).2.1 = q9 := ⟨_, rfl⟩
                    have o_p1 : OV vw_TAPE Ps ws p1 sg_56 := by rw [← q_sg_56]; exact hfn.2.1
                    obtain ⟨sg_57, q_sg_57⟩ : ∃ q9 : OS, (f_X3_readNamed__7 v_53 sg_49 sg_50 s2).2.2 = q9 := ⟨_, rfl⟩
                    have o_p2 : OV vw_WORLD Ps ws p2 sg_57 := by rw [← q_sg_57]; exact hfn.2.2.1
                    have x_OT_p0 : OTR Ps w0 ws p0 := OTR.trans x_OT_p0 hot9
                    refine lv_aload_n hx hb dX3_read_159 rfl (lv_at hl 2 rfl) ?_
                    refine lv_bipush (v := 59) hx hb dX3_read_160 (by decide) ?_
                    refine tk_v (va_runV (As := [.int 59]) (rest := []) ⟨hx, hb, hml, hown, hts⟩ (c_X7_passOnly__3 l D cy z H.size Ps ws hw.1 p1 59 sg_56 h_p1 (rl_59.to (by decide)) o_p1) (cwV 1 hts (gV tw_513 tw_514 tw_515 tw_2 tw_516) rfl rfl rfl (by decide +kernel) ⟨Nat.le_of_ble_eq_true rfl, Nat.le_of_ble_eq_true rfl⟩) (tg_preV hw hK hSD hA (ci := 7) (q := (RX7, TX7, 12)) rfl h_p1 rfl) rfl rfl hl.1 rfl (lv_room (Nat.le_of_ble_eq_true rfl)) dX3_read_162 ⟨Nat.le_of_ble_eq_true rfl, Nat.le_of_ble_eq_true rfl⟩) hw hA ⟨by decide, by decide⟩ (fun ws H locs hp_v_58 hw hF9 => ?_)
                    have x_BGF_p2_p0 := BGF.over hF9 x_BGF_p2_p0 (by decide)
                    have x_OT_p0 := OTR.over hF9 x_OT_p0 (by decide)
                    obtain ⟨hfn, hp_v_58⟩ := hp_v_58
                    have o_p0 := OV.over (V := vw_POST) hF9 o_p0 (by decide)
                    have o_p2 := OV.over (V := vw_WORLD) hF9 o_p2 (by decide)
                    obtain ⟨sg_59, q_sg_59⟩ : ∃ q9 : OS, (f_X7_passOnly__3 (59 : Int32) sg_56) = q9 := ⟨_, rfl⟩
                    have o_p1 : OV vw_TAPE Ps ws p1 sg_59 := by rw [← q_sg_59]; exact hfn.1
                    obtain ⟨v_60, e_v_60⟩ : ∃ q9 : Int32, q9 = x3 + Int32.ofInt 1 := ⟨_, rfl⟩
                    obtain ⟨t_v_60, r_v_60⟩ := tq_add (lo := 1) (hi := 900) r_x3 (show RI (Int32.ofInt 1) 1 1 by unfold RI; decide +kernel) (by decide +kernel) e_v_60
                    have t_v_60 : v_60.toInt = x3.toInt + 1 := t_v_60
                    refine lv_iinc (v := v_60) (lv' := [(3, .int v_60), (4, .int vu_4), (0, .ref p0), (1, .ref p1), (2, .ref p2)]) hx hb dX3_read_165 hl (k := 4) rfl e_v_60.symm (by decide) rfl (fun ls hl => ?_)
                    have q_v_60 : x3 + (1 : Int32) = v_60 := by rw [e_v_60, show Int32.ofInt 1 = (1 : Int32) by decide]
                    refine lv_goto (tgt := 14) hx hb dX3_read_168 (by decide) ?_
                    simp only [f_X3_read__1_14, ↓reduceIte, eq_false c_18, q_sg_2, q_v_1, eq_false c9_v_1, eq_false c_25, q_vu_4, eq_false n9_0, eq_false n9_1, eq_false n9_2, eq_false n9_3, eq_true k9_9, q_sg_49, q_sg_50, q_v_48, eq_false c9_v_48, eq_false c_41, eq_true cl_48, q_v_53, q_sg_55, q_sg_56, q_sg_57, q_sg_59, q_v_60] at hE
                    exact ih14 v_60 sg_55 sg_59 sg_57 ws _ _ ls (by have q0 := r_v_60.1; have u0 := r_v_60.2; have o0 := r_x3.1; have p0 := r_x3.2; omega) (r_v_60.to (by decide)) x_BGF_p2_p0 x_OT_p0 o_p0 o_p1 o_p2 hE hw (lv_sub hl [2, 3, 4, 0] rfl)
                  · have e_48 : vu_4.toInt = 132 ∨ vu_4.toInt = 133 ∨ vu_4.toInt = 134 ∨ vu_4.toInt = 135 ∨ vu_4.toInt = 136 := by omega
                    rcases e_48 with h_48 | h_48 | h_48 | h_48 | h_48
                    · exact absurd h_48 (by unfold RI at w_48; omega)
                    · exact absurd h_48 (by unfold RI at w_48; omega)
                    · exact absurd h_48 (by unfold RI at w_48; omega)
                    · exact absurd h_48 (by unfold RI at w_48; omega)
                    · exact absurd h_48 (by unfold RI at w_48; omega)
                · have r_v_48 : RI v_48 1 0 := rc_eq1 r_v_48 rl_0 (ti_eq c_41) (by decide)
                  exact (r_v_48.no (by decide)).elim
            · have r_vu_4 : RI vu_4 132 132 := h_9
              have n9_0 : ¬ ((-2147483648) ≤ vu_4.toInt ∧ vu_4.toInt ≤ 127) := by omega
              have n9_1 : ¬ (128 ≤ vu_4.toInt ∧ vu_4.toInt ≤ 128) := by omega
              have n9_2 : ¬ (129 ≤ vu_4.toInt ∧ vu_4.toInt ≤ 129) := by omega
              have n9_3 : ¬ (130 ≤ vu_4.toInt ∧ vu_4.toInt ≤ 130) := by omega
              have n9_4 : ¬ (131 ≤ vu_4.toInt ∧ vu_4.toInt ≤ 131) := by omega
              have k9_9 := h_9
              refine lv_aload_n hx hb dX3_read_34 rfl (lv_at hl 1 rfl) ?_
              refine lv_aload_n hx hb dX3_read_35 rfl (lv_at hl 2 rfl) ?_
              refine lv_iload hx hb dX3_read_36 (lv_at hl 0 rfl) ?_
              refine tk_i (va_runV (As := [.ref p1, .int vu_4]) (rest := []) ⟨hx, hb, hml, hown, hts⟩ (c_X3_beginsLine__28 l D cy z H.size Ps ws hw.1 p0 p1 vu_4 v_3 s0 sg_2 h_p0 h_p1 r_vu_4 r_v_3 m_v_3 o_p0 o_p1) (cwV 2 hts (gV tw_446 tw_448 ts_1 tw_11 tw_449) rfl rfl rfl (by decide +kernel) ⟨Nat.le_of_ble_eq_true rfl, Nat.le_of_ble_eq_true rfl⟩) (tg_preV hw hK hSD hA (ci := 3) (q := (RX3, TX3, 9)) rfl h_p0 rfl) rfl rfl hl.1 rfl (lv_room (Nat.le_of_ble_eq_true rfl)) dX3_read_38 ⟨Nat.le_of_ble_eq_true rfl, Nat.le_of_ble_eq_true rfl⟩) hw hA ⟨by decide, by decide⟩ (fun v_61 ws H locs hp_v_61 hw hF9 => ?_)
              have m_v_3 := FLD.over hF9 m_v_3 (by decide)
              have x_BGF_p2_p0 := BGF.over hF9 x_BGF_p2_p0 (by decide)
              have x_OT_p0 := OTR.over hF9 x_OT_p0 (by decide)
              obtain ⟨hot9, hp_v_61⟩ := hp_v_61
              obtain ⟨hfn, hp_v_61⟩ := hp_v_61
              have o_p2 := OV.over (V := vw_WORLD) hF9 o_p2 (by decide)
              obtain ⟨sg_62, q_sg_62⟩ : ∃ q9 : OS, (f_X3_beginsLine__17 vu_4 s0 sg_2).1 = q9 := ⟨_, rfl⟩
              have o_p0 : OV vw_POST Ps ws p0 sg_62 := by rw [← q_sg_62]; exact hfn.1
              obtain ⟨sg_63, q_sg_63⟩ : ∃ q9 : OS, (f_X3_beginsLine__17 vu_4 s0 sg_2).2.1 = q9 := ⟨_, rfl⟩
              have o_p1 : OV vw_TAPE Ps ws p1 sg_63 := by rw [← q_sg_63]; exact hfn.2.1
              have q_v_61 : (f_X3_beginsLine__17 vu_4 s0 sg_2).2.2 = v_61 := hfn.2.2.1
              have r_v_61 : RI v_61 1 1 := hp_v_61.1
              by_cases c9_v_61 : v_61 = 0
              · exact absurd (ti_eq c9_v_61) (by unfold RI at r_v_61; rw [Int32.toInt_zero]; omega)
              · obtain ⟨v_64, m_v_64, r_v_64⟩ := ((hp_v_61.2.2 c9_v_61).1)
                refine lv_if_ne (tgt := 46) hx hb dX3_read_41 (by decide) (fun c_41 => ?_) (fun c_41 => ?_)
                · refine lv_iload hx hb dX3_read_46 (lv_at hl 0 rfl) ?_
                  have w_48 := r_vu_4
                  by_cases cl_48 : vu_4.toInt < 132 ∨ 136 < vu_4.toInt
                  · refine lv_tableOut (tgt := 147) hx hb dX3_read_48 cl_48 (by decide) ?_
                    exact absurd cl_48 (by unfold RI at w_48; omega)
                  · have e_48 : vu_4.toInt = 132 ∨ vu_4.toInt = 133 ∨ vu_4.toInt = 134 ∨ vu_4.toInt = 135 ∨ vu_4.toInt = 136 := by omega
                    rcases e_48 with h_48 | h_48 | h_48 | h_48 | h_48
                    · refine lv_tableIn (tgt := 84) (off := 36) hx hb dX3_read_48 (by omega) (by omega) (by rw [h_48]; rfl) (by decide) ?_
                      have r_vu_4 : RI vu_4 132 132 := ⟨by omega, by omega⟩
                      refine lv_aload_n hx hb dX3_read_84 rfl (lv_at hl 1 rfl) ?_
                      refine lv_aload_n hx hb dX3_read_85 rfl (lv_at hl 2 rfl) ?_
                      refine lv_aload_n hx hb dX3_read_86 rfl (lv_at hl 3 rfl) ?_
                      refine tk_v (va_runV (As := [.ref p1, .ref p2]) (rest := []) ⟨hx, hb, hml, hown, hts⟩ (c_X3_readSits__1 l D cy z H.size Ps ws hw.1 p0 p1 p2 sg_62 sg_63 s2 h_p0 h_p1 h_p2 o_p0 o_p1 o_p2) (cwV 2 hts (gV tw_452 tw_454 ts_2 tw_11 tw_455) rfl rfl rfl (by decide +kernel) ⟨Nat.le_of_ble_eq_true rfl, Nat.le_of_ble_eq_true rfl⟩) (tg_preV hw hK hSD hA (ci := 3) (q := (RX3, TX3, 9)) rfl h_p0 rfl) rfl rfl hl.1 rfl (lv_room (Nat.le_of_ble_eq_true rfl)) dX3_read_87 ⟨Nat.le_of_ble_eq_true rfl, Nat.le_of_ble_eq_true rfl⟩) hw hA ⟨by decide, by decide⟩ (fun ws H locs hp_v_65 hw hF9 => ?_)
                      have x_BGF_p2_p0 := BGF.over hF9 x_BGF_p2_p0 (by decide)
                      have x_OT_p0 := OTR.over hF9 x_OT_p0 (by decide)
                      obtain ⟨hfn, hp_v_65⟩ := hp_v_65
                      obtain ⟨sg_66, q_sg_66⟩ : ∃ q9 : OS, (f_X3_readSits__1 sg_62 sg_63 s2).1 = q9 := ⟨_, rfl⟩
                      have o_p0 : OV vw_POST Ps ws p0 sg_66 := by rw [← q_sg_66]; exact hfn.1
                      obtain ⟨sg_67, q_sg_67⟩ : ∃ q9 : OS, (f_X3_readSits__1 sg_62 sg_63 s2).2.1 = q9 := ⟨_, rfl⟩
                      have o_p1 : OV vw_TAPE Ps ws p1 sg_67 := by rw [← q_sg_67]; exact hfn.2.1
                      obtain ⟨sg_68, q_sg_68⟩ : ∃ q9 : OS, (f_X3_readSits__1 sg_62 sg_63 s2).2.2 = q9 := ⟨_, rfl⟩
                      have o_p2 : OV vw_WORLD Ps ws p2 sg_68 := by rw [← q_sg_68]; exact hfn.2.2.1
                      refine lv_goto (tgt := 159) hx hb dX3_read_90 (by decide) ?_
                      refine lv_aload_n hx hb dX3_read_159 rfl (lv_at hl 2 rfl) ?_
                      refine lv_bipush (v := 59) hx hb dX3_read_160 (by decide) ?_
                      refine tk_v (va_runV (As := [.int 59]) (rest := []) ⟨hx, hb, hml, hown, hts⟩ (c_X7_passOnly__3 l D cy z H.size Ps ws hw.1 p1 59 sg_67 h_p1 (rl_59.to (by decide)) o_p1) (cwV 1 hts (gV tw_513 tw_514 tw_515 tw_2 tw_516) rfl rfl rfl (by decide +kernel) ⟨Nat.le_of_ble_eq_true rfl, Nat.le_of_ble_eq_true rfl⟩) (tg_preV hw hK hSD hA (ci := 7) (q := (RX7, TX7, 12)) rfl h_p1 rfl) rfl rfl hl.1 rfl (lv_room (Nat.le_of_ble_eq_true rfl)) dX3_read_162 ⟨Nat.le_of_ble_eq_true rfl, Nat.le_of_ble_eq_true rfl⟩) hw hA ⟨by decide, by decide⟩ (fun ws H locs hp_v_69 hw hF9 => ?_)
                      have x_BGF_p2_p0 := BGF.over hF9 x_BGF_p2_p0 (by decide)
                      have x_OT_p0 := OTR.over hF9 x_OT_p0 (by decide)
                      obtain ⟨hfn, hp_v_69⟩ := hp_v_69
                      have o_p0 := OV.over (V := vw_POST) hF9 o_p0 (by decide)
                      have o_p2 := OV.over (V := vw_WORLD) hF9 o_p2 (by decide)
                      obtain ⟨sg_70, q_sg_70⟩ : ∃ q9 : OS, (f_X7_passOnly__3 (59 : Int32) sg_67) = q9 := ⟨_, rfl⟩
                      have o_p1 : OV vw_TAPE Ps ws p1 sg_70 := by rw [← q_sg_70]; exact hfn.1
                      obtain ⟨v_71, e_v_71⟩ : ∃ q9 : Int32, q9 = x3 + Int32.ofInt 1 := ⟨_, rfl⟩
                      obtain ⟨t_v_71, r_v_71⟩ := tq_add (lo := 1) (hi := 900) r_x3 (show RI (Int32.ofInt 1) 1 1 by unfold RI; decide +kernel) (by decide +kernel) e_v_71
                      have t_v_71 : v_71.toInt = x3.toInt + 1 := t_v_71
                      refine lv_iinc (v := v_71) (lv' := [(3, .int v_71), (4, .int vu_4), (0, .ref p0), (1, .ref p1), (2, .ref p2)]) hx hb dX3_read_165 hl (k := 4) rfl e_v_71.symm (by decide) rfl (fun ls hl => ?_)
                      have q_v_71 : x3 + (1 : Int32) = v_71 := by rw [e_v_71, show Int32.ofInt 1 = (1 : Int32) by decide]
                      refine lv_goto (tgt := 14) hx hb dX3_read_168 (by decide) ?_
                      simp only [f_X3_read__1_14, ↓reduceIte, eq_false c_18, q_sg_2, q_v_1, eq_false c9_v_1, eq_false c_25, q_vu_4, eq_false n9_0, eq_false n9_1, eq_false n9_2, eq_false n9_3, eq_false n9_4, eq_true k9_9, q_sg_62, q_sg_63, q_v_61, eq_false c9_v_61, eq_false c_41, q_sg_66, q_sg_67, q_sg_68, q_sg_70, q_v_71] at hE
                      exact ih14 v_71 sg_66 sg_70 sg_68 ws _ _ ls (by have q0 := r_v_71.1; have u0 := r_v_71.2; have o0 := r_x3.1; have p0 := r_x3.2; omega) (r_v_71.to (by decide)) x_BGF_p2_p0 x_OT_p0 o_p0 o_p1 o_p2 hE hw (lv_sub hl [2, 3, 4, 0] rfl)
                    · exact absurd h_48 (by unfold RI at w_48; omega)
                    · exact absurd h_48 (by unfold RI at w_48; omega)
                    · exact absurd h_48 (by unfold RI at w_48; omega)
                    · exact absurd h_48 (by unfold RI at w_48; omega)
                · have r_v_61 : RI v_61 1 0 := rc_eq1 r_v_61 rl_0 (ti_eq c_41) (by decide)
                  exact (r_v_61.no (by decide)).elim
            · have r_vu_4 : RI vu_4 133 133 := h_9
              have n9_0 : ¬ ((-2147483648) ≤ vu_4.toInt ∧ vu_4.toInt ≤ 127) := by omega
              have n9_1 : ¬ (128 ≤ vu_4.toInt ∧ vu_4.toInt ≤ 128) := by omega
              have n9_2 : ¬ (129 ≤ vu_4.toInt ∧ vu_4.toInt ≤ 129) := by omega
              have n9_3 : ¬ (130 ≤ vu_4.toInt ∧ vu_4.toInt ≤ 130) := by omega
              have n9_4 : ¬ (131 ≤ vu_4.toInt ∧ vu_4.toInt ≤ 131) := by omega
              have n9_5 : ¬ (132 ≤ vu_4.toInt ∧ vu_4.toInt ≤ 132) := by omega
              have k9_9 := h_9
              refine lv_aload_n hx hb dX3_read_34 rfl (lv_at hl 1 rfl) ?_
              refine lv_aload_n hx hb dX3_read_35 rfl (lv_at hl 2 rfl) ?_
              refine lv_iload hx hb dX3_read_36 (lv_at hl 0 rfl) ?_
              refine tk_i (va_runV (As := [.ref p1, .int vu_4]) (rest := []) ⟨hx, hb, hml, hown, hts⟩ (c_X3_beginsLine__29 l D cy z H.size Ps ws hw.1 p0 p1 vu_4 v_3 s0 sg_2 h_p0 h_p1 r_vu_4 r_v_3 m_v_3 o_p0 o_p1) (cwV 2 hts (gV tw_446 tw_448 ts_1 tw_11 tw_449) rfl rfl rfl (by decide +kernel) ⟨Nat.le_of_ble_eq_true rfl, Nat.le_of_ble_eq_true rfl⟩) (tg_preV hw hK hSD hA (ci := 3) (q := (RX3, TX3, 9)) rfl h_p0 rfl) rfl rfl hl.1 rfl (lv_room (Nat.le_of_ble_eq_true rfl)) dX3_read_38 ⟨Nat.le_of_ble_eq_true rfl, Nat.le_of_ble_eq_true rfl⟩) hw hA ⟨by decide, by decide⟩ (fun v_72 ws H locs hp_v_72 hw hF9 => ?_)
              have m_v_3 := FLD.over hF9 m_v_3 (by decide)
              have x_BGF_p2_p0 := BGF.over hF9 x_BGF_p2_p0 (by decide)
              have x_OT_p0 := OTR.over hF9 x_OT_p0 (by decide)
              obtain ⟨hot9, hp_v_72⟩ := hp_v_72
              obtain ⟨hfn, hp_v_72⟩ := hp_v_72
              have o_p2 := OV.over (V := vw_WORLD) hF9 o_p2 (by decide)
              obtain ⟨sg_73, q_sg_73⟩ : ∃ q9 : OS, (f_X3_beginsLine__17 vu_4 s0 sg_2).1 = q9 := ⟨_, rfl⟩
              have o_p0 : OV vw_POST Ps ws p0 sg_73 := by rw [← q_sg_73]; exact hfn.1
              obtain ⟨sg_74, q_sg_74⟩ : ∃ q9 : OS, (f_X3_beginsLine__17 vu_4 s0 sg_2).2.1 = q9 := ⟨_, rfl⟩
              have o_p1 : OV vw_TAPE Ps ws p1 sg_74 := by rw [← q_sg_74]; exact hfn.2.1
              have q_v_72 : (f_X3_beginsLine__17 vu_4 s0 sg_2).2.2 = v_72 := hfn.2.2.1
              have r_v_72 : RI v_72 1 1 := hp_v_72.1
              by_cases c9_v_72 : v_72 = 0
              · exact absurd (ti_eq c9_v_72) (by unfold RI at r_v_72; rw [Int32.toInt_zero]; omega)
              · obtain ⟨v_75, m_v_75, r_v_75⟩ := ((hp_v_72.2.2 c9_v_72).1)
                refine lv_if_ne (tgt := 46) hx hb dX3_read_41 (by decide) (fun c_41 => ?_) (fun c_41 => ?_)
                · refine lv_iload hx hb dX3_read_46 (lv_at hl 0 rfl) ?_
                  have w_48 := r_vu_4
                  by_cases cl_48 : vu_4.toInt < 132 ∨ 136 < vu_4.toInt
                  · refine lv_tableOut (tgt := 147) hx hb dX3_read_48 cl_48 (by decide) ?_
                    exact absurd cl_48 (by unfold RI at w_48; omega)
                  · have e_48 : vu_4.toInt = 132 ∨ vu_4.toInt = 133 ∨ vu_4.toInt = 134 ∨ vu_4.toInt = 135 ∨ vu_4.toInt = 136 := by omega
                    rcases e_48 with h_48 | h_48 | h_48 | h_48 | h_48
                    · exact absurd h_48 (by unfold RI at w_48; omega)
                    · refine lv_tableIn (tgt := 93) (off := 45) hx hb dX3_read_48 (by omega) (by omega) (by rw [h_48]; rfl) (by decide) ?_
                      have r_vu_4 : RI vu_4 133 133 := ⟨by omega, by omega⟩
                      refine lv_aload_n hx hb dX3_read_93 rfl (lv_at hl 1 rfl) ?_
                      refine lv_aload_n hx hb dX3_read_94 rfl (lv_at hl 2 rfl) ?_
                      refine lv_aload_n hx hb dX3_read_95 rfl (lv_at hl 3 rfl) ?_
                      refine tk_v (va_runV (As := [.ref p1, .ref p2]) (rest := []) ⟨hx, hb, hml, hown, hts⟩ (c_X3_readHas__1 l D cy z H.size Ps ws hw.1 p0 p1 p2 sg_73 sg_74 s2 h_p0 h_p1 h_p2 o_p0 o_p1 o_p2) (cwV 2 hts (gV tw_469 tw_471 ts_3 tw_11 tw_472) rfl rfl rfl (by decide +kernel) ⟨Nat.le_of_ble_eq_true rfl, Nat.le_of_ble_eq_true rfl⟩) (tg_preV hw hK hSD hA (ci := 3) (q := (RX3, TX3, 9)) rfl h_p0 rfl) rfl rfl hl.1 rfl (lv_room (Nat.le_of_ble_eq_true rfl)) dX3_read_96 ⟨Nat.le_of_ble_eq_true rfl, Nat.le_of_ble_eq_true rfl⟩) hw hA ⟨by decide, by decide⟩ (fun ws H locs hp_v_76 hw hF9 => ?_)
                      have x_BGF_p2_p0 := BGF.over hF9 x_BGF_p2_p0 (by decide)
                      have x_OT_p0 := OTR.over hF9 x_OT_p0 (by decide)
                      obtain ⟨hfn, hp_v_76⟩ := hp_v_76
                      obtain ⟨sg_77, q_sg_77⟩ : ∃ q9 : OS, (f_X3_readHas__1 sg_73 sg_74 s2).1 = q9 := ⟨_, rfl⟩
                      have o_p0 : OV vw_POST Ps ws p0 sg_77 := by rw [← q_sg_77]; exact hfn.1
                      obtain ⟨sg_78, q_sg_78⟩ : ∃ q9 : OS, (f_X3_readHas__1 sg_73 sg_74 s2).2.1 = q9 := ⟨_, rfl⟩
                      have o_p1 : OV vw_TAPE Ps ws p1 sg_78 := by rw [← q_sg_78]; exact hfn.2.1
                      obtain ⟨sg_79, q_sg_79⟩ : ∃ q9 : OS, (f_X3_readHas__1 sg_73 sg_74 s2).2.2 = q9 := ⟨_, rfl⟩
                      have o_p2 : OV vw_WORLD Ps ws p2 sg_79 := by rw [← q_sg_79]; exact hfn.2.2.1
                      refine lv_goto (tgt := 159) hx hb dX3_read_99 (by decide) ?_
                      refine lv_aload_n hx hb dX3_read_159 rfl (lv_at hl 2 rfl) ?_
                      refine lv_bipush (v := 59) hx hb dX3_read_160 (by decide) ?_
                      refine tk_v (va_runV (As := [.int 59]) (rest := []) ⟨hx, hb, hml, hown, hts⟩ (c_X7_passOnly__3 l D cy z H.size Ps ws hw.1 p1 59 sg_78 h_p1 (rl_59.to (by decide)) o_p1) (cwV 1 hts (gV tw_513 tw_514 tw_515 tw_2 tw_516) rfl rfl rfl (by decide +kernel) ⟨Nat.le_of_ble_eq_true rfl, Nat.le_of_ble_eq_true rfl⟩) (tg_preV hw hK hSD hA (ci := 7) (q := (RX7, TX7, 12)) rfl h_p1 rfl) rfl rfl hl.1 rfl (lv_room (Nat.le_of_ble_eq_true rfl)) dX3_read_162 ⟨Nat.le_of_ble_eq_true rfl, Nat.le_of_ble_eq_true rfl⟩) hw hA ⟨by decide, by decide⟩ (fun ws H locs hp_v_80 hw hF9 => ?_)
                      have x_BGF_p2_p0 := BGF.over hF9 x_BGF_p2_p0 (by decide)
                      have x_OT_p0 := OTR.over hF9 x_OT_p0 (by decide)
                      obtain ⟨hfn, hp_v_80⟩ := hp_v_80
                      have o_p0 := OV.over (V := vw_POST) hF9 o_p0 (by decide)
                      have o_p2 := OV.over (V := vw_WORLD) hF9 o_p2 (by decide)
                      obtain ⟨sg_81, q_sg_81⟩ : ∃ q9 : OS, (f_X7_passOnly__3 (59 : Int32) sg_78) = q9 := ⟨_, rfl⟩
                      have o_p1 : OV vw_TAPE Ps ws p1 sg_81 := by rw [← q_sg_81]; exact hfn.1
                      obtain ⟨v_82, e_v_82⟩ : ∃ q9 : Int32, q9 = x3 + Int32.ofInt 1 := ⟨_, rfl⟩
                      obtain ⟨t_v_82, r_v_82⟩ := tq_add (lo := 1) (hi := 900) r_x3 (show RI (Int32.ofInt 1) 1 1 by unfold RI; decide +kernel) (by decide +kernel) e_v_82
                      have t_v_82 : v_82.toInt = x3.toInt + 1 := t_v_82
                      refine lv_iinc (v := v_82) (lv' := [(3, .int v_82), (4, .int vu_4), (0, .ref p0), (1, .ref p1), (2, .ref p2)]) hx hb dX3_read_165 hl (k := 4) rfl e_v_82.symm (by decide) rfl (fun ls hl => ?_)
                      have q_v_82 : x3 + (1 : Int32) = v_82 := by rw [e_v_82, show Int32.ofInt 1 = (1 : Int32) by decide]
                      refine lv_goto (tgt := 14) hx hb dX3_read_168 (by decide) ?_
                      simp only [f_X3_read__1_14, ↓reduceIte, eq_false c_18, q_sg_2, q_v_1, eq_false c9_v_1, eq_false c_25, q_vu_4, eq_false n9_0, eq_false n9_1, eq_false n9_2, eq_false n9_3, eq_false n9_4, eq_false n9_5, eq_true k9_9, q_sg_73, q_sg_74, q_v_72, eq_false c9_v_72, eq_false c_41, q_sg_77, q_sg_78, q_sg_79, q_sg_81, q_v_82] at hE
                      exact ih14 v_82 sg_77 sg_81 sg_79 ws _ _ ls (by have q0 := r_v_82.1; have u0 := r_v_82.2; have o0 := r_x3.1; have p0 := r_x3.2; omega) (r_v_82.to (by decide)) x_BGF_p2_p0 x_OT_p0 o_p0 o_p1 o_p2 hE hw (lv_sub hl [2, 3, 4, 0] rfl)
                    · exact absurd h_48 (by unfold RI at w_48; omega)
                    · exact absurd h_48 (by unfold RI at w_48; omega)
                    · exact absurd h_48 (by unfold RI at w_48; omega)
                · have r_v_72 : RI v_72 1 0 := rc_eq1 r_v_72 rl_0 (ti_eq c_41) (by decide)
                  exact (r_v_72.no (by decide)).elim
            · have r_vu_4 : RI vu_4 134 134 := h_9
              have n9_0 : ¬ ((-2147483648) ≤ vu_4.toInt ∧ vu_4.toInt ≤ 127) := by omega
              have n9_1 : ¬ (128 ≤ vu_4.toInt ∧ vu_4.toInt ≤ 128) := by omega
              have n9_2 : ¬ (129 ≤ vu_4.toInt ∧ vu_4.toInt ≤ 129) := by omega
              have n9_3 : ¬ (130 ≤ vu_4.toInt ∧ vu_4.toInt ≤ 130) := by omega
              have n9_4 : ¬ (131 ≤ vu_4.toInt ∧ vu_4.toInt ≤ 131) := by omega
              have n9_5 : ¬ (132 ≤ vu_4.toInt ∧ vu_4.toInt ≤ 132) := by omega
              have n9_6 : ¬ (133 ≤ vu_4.toInt ∧ vu_4.toInt ≤ 133) := by omega
              have k9_9 := h_9
              refine lv_aload_n hx hb dX3_read_34 rfl (lv_at hl 1 rfl) ?_
              refine lv_aload_n hx hb dX3_read_35 rfl (lv_at hl 2 rfl) ?_
              refine lv_iload hx hb dX3_read_36 (lv_at hl 0 rfl) ?_
              refine tk_i (va_runV (As := [.ref p1, .int vu_4]) (rest := []) ⟨hx, hb, hml, hown, hts⟩ (c_X3_beginsLine__30 l D cy z H.size Ps ws hw.1 p0 p1 vu_4 v_3 s0 sg_2 h_p0 h_p1 r_vu_4 r_v_3 m_v_3 o_p0 o_p1) (cwV 2 hts (gV tw_446 tw_448 ts_1 tw_11 tw_449) rfl rfl rfl (by decide +kernel) ⟨Nat.le_of_ble_eq_true rfl, Nat.le_of_ble_eq_true rfl⟩) (tg_preV hw hK hSD hA (ci := 3) (q := (RX3, TX3, 9)) rfl h_p0 rfl) rfl rfl hl.1 rfl (lv_room (Nat.le_of_ble_eq_true rfl)) dX3_read_38 ⟨Nat.le_of_ble_eq_true rfl, Nat.le_of_ble_eq_true rfl⟩) hw hA ⟨by decide, by decide⟩ (fun v_83 ws H locs hp_v_83 hw hF9 => ?_)
              have m_v_3 := FLD.over hF9 m_v_3 (by decide)
              have x_BGF_p2_p0 := BGF.over hF9 x_BGF_p2_p0 (by decide)
              have x_OT_p0 := OTR.over hF9 x_OT_p0 (by decide)
              obtain ⟨hot9, hp_v_83⟩ := hp_v_83
              obtain ⟨hfn, hp_v_83⟩ := hp_v_83
              have o_p2 := OV.over (V := vw_WORLD) hF9 o_p2 (by decide)
              obtain ⟨sg_84, q_sg_84⟩ : ∃ q9 : OS, (f_X3_beginsLine__17 vu_4 s0 sg_2).1 = q9 := ⟨_, rfl⟩
              have o_p0 : OV vw_POST Ps ws p0 sg_84 := by rw [← q_sg_84]; exact hfn.1
              obtain ⟨sg_85, q_sg_85⟩ : ∃ q9 : OS, (f_X3_beginsLine__17 vu_4 s0 sg_2).2.1 = q9 := ⟨_, rfl⟩
              have o_p1 : OV vw_TAPE Ps ws p1 sg_85 := by rw [← q_sg_85]; exact hfn.2.1
              have q_v_83 : (f_X3_beginsLine__17 vu_4 s0 sg_2).2.2 = v_83 := hfn.2.2.1
              have r_v_83 : RI v_83 1 1 := hp_v_83.1
              by_cases c9_v_83 : v_83 = 0
              · exact absurd (ti_eq c9_v_83) (by unfold RI at r_v_83; rw [Int32.toInt_zero]; omega)
              · obtain ⟨v_86, m_v_86, r_v_86⟩ := ((hp_v_83.2.2 c9_v_83).1)
                refine lv_if_ne (tgt := 46) hx hb dX3_read_41 (by decide) (fun c_41 => ?_) (fun c_41 => ?_)
                · refine lv_iload hx hb dX3_read_46 (lv_at hl 0 rfl) ?_
                  have w_48 := r_vu_4
                  by_cases cl_48 : vu_4.toInt < 132 ∨ 136 < vu_4.toInt
                  · refine lv_tableOut (tgt := 147) hx hb dX3_read_48 cl_48 (by decide) ?_
                    exact absurd cl_48 (by unfold RI at w_48; omega)
                  · have e_48 : vu_4.toInt = 132 ∨ vu_4.toInt = 133 ∨ vu_4.toInt = 134 ∨ vu_4.toInt = 135 ∨ vu_4.toInt = 136 := by omega
                    rcases e_48 with h_48 | h_48 | h_48 | h_48 | h_48
                    · exact absurd h_48 (by unfold RI at w_48; omega)
                    · exact absurd h_48 (by unfold RI at w_48; omega)
                    · refine lv_tableIn (tgt := 102) (off := 54) hx hb dX3_read_48 (by omega) (by omega) (by rw [h_48]; rfl) (by decide) ?_
                      have r_vu_4 : RI vu_4 134 134 := ⟨by omega, by omega⟩
                      refine lv_aload_n hx hb dX3_read_102 rfl (lv_at hl 1 rfl) ?_
                      refine lv_aload_n hx hb dX3_read_103 rfl (lv_at hl 2 rfl) ?_
                      refine tk_v (va_runV (As := [.ref p1]) (rest := []) ⟨hx, hb, hml, hown, hts⟩ (c_X3_readQuarrel__2 l D cy z H.size Ps ws hw.1 p0 p1 sg_84 sg_85 h_p0 h_p1 o_p0 o_p1) (cwV 1 hts (gV tw_491 tw_493 ts_4 tw_11 tw_494) rfl rfl rfl (by decide +kernel) ⟨Nat.le_of_ble_eq_true rfl, Nat.le_of_ble_eq_true rfl⟩) (tg_preV hw hK hSD hA (ci := 3) (q := (RX3, TX3, 9)) rfl h_p0 rfl) rfl rfl hl.1 rfl (lv_room (Nat.le_of_ble_eq_true rfl)) dX3_read_104 ⟨Nat.le_of_ble_eq_true rfl, Nat.le_of_ble_eq_true rfl⟩) hw hA ⟨by decide, by decide⟩ (fun ws H locs hp_v_87 hw hF9 => ?_)
                      have x_BGF_p2_p0 := BGF.over hF9 x_BGF_p2_p0 (by decide)
                      obtain ⟨hot9, hp_v_87⟩ := hp_v_87
                      obtain ⟨hfn, hp_v_87⟩ := hp_v_87
                      have o_p2 := OV.over (V := vw_WORLD) hF9 o_p2 (by decide)
                      obtain ⟨sg_88, q_sg_88⟩ : ∃ q9 : OS, (f_X3_readQuarrel__1 sg_84 sg_85).1 = q9 := ⟨_, rfl⟩
                      have o_p0 : OV vw_POST Ps ws p0 sg_88 := by rw [← q_sg_88]; exact hfn.1
                      obtain ⟨sg_89, q_sg_89⟩ : ∃ q9 : OS, (f_X3_readQuarrel__1 sg_84 sg_85).2 = q9 := ⟨_, rfl⟩
                      have o_p1 : OV vw_TAPE Ps ws p1 sg_89 := by rw [← q_sg_89]; exact hfn.2.1
                      have x_OT_p0 : OTR Ps w0 ws p0 := OTR.trans x_OT_p0 hot9
                      refine lv_goto (tgt := 159) hx hb dX3_read_107 (by decide) ?_
                      refine lv_aload_n hx hb dX3_read_159 rfl (lv_at hl 2 rfl) ?_
                      refine lv_bipush (v := 59) hx hb dX3_read_160 (by decide) ?_
                      refine tk_v (va_runV (As := [.int 59]) (rest := []) ⟨hx, hb, hml, hown, hts⟩ (c_X7_passOnly__3 l D cy z H.size Ps ws hw.1 p1 59 sg_89 h_p1 (rl_59.to (by decide)) o_p1) (cwV 1 hts (gV tw_513 tw_514 tw_515 tw_2 tw_516) rfl rfl rfl (by decide +kernel) ⟨Nat.le_of_ble_eq_true rfl, Nat.le_of_ble_eq_true rfl⟩) (tg_preV hw hK hSD hA (ci := 7) (q := (RX7, TX7, 12)) rfl h_p1 rfl) rfl rfl hl.1 rfl (lv_room (Nat.le_of_ble_eq_true rfl)) dX3_read_162 ⟨Nat.le_of_ble_eq_true rfl, Nat.le_of_ble_eq_true rfl⟩) hw hA ⟨by decide, by decide⟩ (fun ws H locs hp_v_90 hw hF9 => ?_)
                      have x_BGF_p2_p0 := BGF.over hF9 x_BGF_p2_p0 (by decide)
                      have x_OT_p0 := OTR.over hF9 x_OT_p0 (by decide)
                      obtain ⟨hfn, hp_v_90⟩ := hp_v_90
                      have o_p0 := OV.over (V := vw_POST) hF9 o_p0 (by decide)
                      have o_p2 := OV.over (V := vw_WORLD) hF9 o_p2 (by decide)
                      obtain ⟨sg_91, q_sg_91⟩ : ∃ q9 : OS, (f_X7_passOnly__3 (59 : Int32) sg_89) = q9 := ⟨_, rfl⟩
                      have o_p1 : OV vw_TAPE Ps ws p1 sg_91 := by rw [← q_sg_91]; exact hfn.1
                      obtain ⟨v_92, e_v_92⟩ : ∃ q9 : Int32, q9 = x3 + Int32.ofInt 1 := ⟨_, rfl⟩
                      obtain ⟨t_v_92, r_v_92⟩ := tq_add (lo := 1) (hi := 900) r_x3 (show RI (Int32.ofInt 1) 1 1 by unfold RI; decide +kernel) (by decide +kernel) e_v_92
                      have t_v_92 : v_92.toInt = x3.toInt + 1 := t_v_92
                      refine lv_iinc (v := v_92) (lv' := [(3, .int v_92), (4, .int vu_4), (0, .ref p0), (1, .ref p1), (2, .ref p2)]) hx hb dX3_read_165 hl (k := 4) rfl e_v_92.symm (by decide) rfl (fun ls hl => ?_)
                      have q_v_92 : x3 + (1 : Int32) = v_92 := by rw [e_v_92, show Int32.ofInt 1 = (1 : Int32) by decide]
                      refine lv_goto (tgt := 14) hx hb dX3_read_168 (by decide) ?_
                      simp only [f_X3_read__1_14, ↓reduceIte, eq_false c_18, q_sg_2, q_v_1, eq_false c9_v_1, eq_false c_25, q_vu_4, eq_false n9_0, eq_false n9_1, eq_false n9_2, eq_false n9_3, eq_false n9_4, eq_false n9_5, eq_false n9_6, eq_true k9_9, q_sg_84, q_sg_85, q_v_83, eq_false c9_v_83, eq_false c_41, q_sg_88, q_sg_89, q_sg_91, q_v_92] at hE
                      exact ih14 v_92 sg_88 sg_91 s2 ws _ _ ls (by have q0 := r_v_92.1; have u0 := r_v_92.2; have o0 := r_x3.1; have p0 := r_x3.2; omega) (r_v_92.to (by decide)) x_BGF_p2_p0 x_OT_p0 o_p0 o_p1 o_p2 hE hw (lv_sub hl [2, 3, 4, 0] rfl)
                    · exact absurd h_48 (by unfold RI at w_48; omega)
                    · exact absurd h_48 (by unfold RI at w_48; omega)
                · have r_v_83 : RI v_83 1 0 := rc_eq1 r_v_83 rl_0 (ti_eq c_41) (by decide)
                  exact (r_v_83.no (by decide)).elim
            · have r_vu_4 : RI vu_4 135 135 := h_9
              have n9_0 : ¬ ((-2147483648) ≤ vu_4.toInt ∧ vu_4.toInt ≤ 127) := by omega
              have n9_1 : ¬ (128 ≤ vu_4.toInt ∧ vu_4.toInt ≤ 128) := by omega
              have n9_2 : ¬ (129 ≤ vu_4.toInt ∧ vu_4.toInt ≤ 129) := by omega
              have n9_3 : ¬ (130 ≤ vu_4.toInt ∧ vu_4.toInt ≤ 130) := by omega
              have n9_4 : ¬ (131 ≤ vu_4.toInt ∧ vu_4.toInt ≤ 131) := by omega
              have n9_5 : ¬ (132 ≤ vu_4.toInt ∧ vu_4.toInt ≤ 132) := by omega
              have n9_6 : ¬ (133 ≤ vu_4.toInt ∧ vu_4.toInt ≤ 133) := by omega
              have n9_7 : ¬ (134 ≤ vu_4.toInt ∧ vu_4.toInt ≤ 134) := by omega
              have k9_9 := h_9
              refine lv_aload_n hx hb dX3_read_34 rfl (lv_at hl 1 rfl) ?_
              refine lv_aload_n hx hb dX3_read_35 rfl (lv_at hl 2 rfl) ?_
              refine lv_iload hx hb dX3_read_36 (lv_at hl 0 rfl) ?_
              refine tk_i (va_runV (As := [.ref p1, .int vu_4]) (rest := []) ⟨hx, hb, hml, hown, hts⟩ (c_X3_beginsLine__31 l D cy z H.size Ps ws hw.1 p0 p1 vu_4 v_3 s0 sg_2 h_p0 h_p1 r_vu_4 r_v_3 m_v_3 o_p0 o_p1) (cwV 2 hts (gV tw_446 tw_448 ts_1 tw_11 tw_449) rfl rfl rfl (by decide +kernel) ⟨Nat.le_of_ble_eq_true rfl, Nat.le_of_ble_eq_true rfl⟩) (tg_preV hw hK hSD hA (ci := 3) (q := (RX3, TX3, 9)) rfl h_p0 rfl) rfl rfl hl.1 rfl (lv_room (Nat.le_of_ble_eq_true rfl)) dX3_read_38 ⟨Nat.le_of_ble_eq_true rfl, Nat.le_of_ble_eq_true rfl⟩) hw hA ⟨by decide, by decide⟩ (fun v_93 ws H locs hp_v_93 hw hF9 => ?_)
              have x_BGF_p2_p0 := BGF.over hF9 x_BGF_p2_p0 (by decide)
              have x_OT_p0 := OTR.over hF9 x_OT_p0 (by decide)
              obtain ⟨hot9, hp_v_93⟩ := hp_v_93
              obtain ⟨hfn, hp_v_93⟩ := hp_v_93
              have o_p2 := OV.over (V := vw_WORLD) hF9 o_p2 (by decide)
              obtain ⟨sg_94, q_sg_94⟩ : ∃ q9 : OS, (f_X3_beginsLine__20 vu_4 s0 sg_2).1 = q9 := ⟨_, rfl⟩
              have o_p0 : OV vw_POST Ps ws p0 sg_94 := by rw [← q_sg_94]; exact hfn.1
              obtain ⟨sg_95, q_sg_95⟩ : ∃ q9 : OS, (f_X3_beginsLine__20 vu_4 s0 sg_2).2.1 = q9 := ⟨_, rfl⟩
              have o_p1 : OV vw_TAPE Ps ws p1 sg_95 := by rw [← q_sg_95]; exact hfn.2.1
              have q_v_93 : (f_X3_beginsLine__20 vu_4 s0 sg_2).2.2 = v_93 := hfn.2.2.1
              have r_v_93 : RI v_93 0 1 := hp_v_93.1
              by_cases c9_v_93 : v_93 = 0
              · have r_v_93 : RI v_93 0 0 := by rw [c9_v_93]; exact rl_0
                obtain ⟨v_96, m_v_96, r_v_96⟩ := ((hp_v_93.2.1 c9_v_93).1)
                refine lv_if_ne (tgt := 46) hx hb dX3_read_41 (by decide) (fun c_41 => ?_) (fun c_41 => ?_)
                · exact absurd (r_v_93.eq.trans rl_0.eq.symm) ((ti_ne c_41))
                · refine lv_iconst (v := (-1)) hx hb dX3_read_44 (by decide) ?_
                  simp only [f_X3_read__1_14, ↓reduceIte, eq_false c_18, q_sg_2, q_v_1, eq_false c9_v_1, eq_false c_25, q_vu_4, eq_false n9_0, eq_false n9_1, eq_false n9_2, eq_false n9_3, eq_false n9_4, eq_false n9_5, eq_false n9_6, eq_false n9_7, eq_true k9_9, q_sg_94, q_sg_95, q_v_93, eq_true c9_v_93, eq_true c_41] at hE
                  subst hQ
                  exact W.iret (v := (-1)) hx hb hr (fun t ht hW => ⟨⟨(-1), ws, rfl, ⟨⟨x_OT_p0, ⟨(by rw [hR, ← hE]; exact o_p0), (by rw [hR, ← hE]; exact o_p1), (by rw [hR, ← hE]; exact o_p2), (by rw [hR, ← hE]), trivial⟩, rl_m1.to (by decide), (fun _ => trivial), (fun h0 => trivial), ⟨x_BGF_p2_p0, trivial⟩, (fun _ => trivial), (fun _ => trivial)⟩, hw.1, hw.2.2.2.2.1⟩, by rw [ht]; exact hw.2.1, va_K.moved hW.alike hK, hw.2.2.1⟩, hw.2.2.2.1.F ht⟩) hw.2.2.2.1.2.2 dX3_read_45
              · have r_v_93 : RI v_93 1 1 := rc_neL r_v_93 rl_0 (ti_ne c9_v_93) (by decide)
                obtain ⟨v_97, m_v_97, r_v_97⟩ := ((hp_v_93.2.2 c9_v_93).1)
                refine lv_if_ne (tgt := 46) hx hb dX3_read_41 (by decide) (fun c_41 => ?_) (fun c_41 => ?_)
                · refine lv_iload hx hb dX3_read_46 (lv_at hl 0 rfl) ?_
                  have w_48 := r_vu_4
                  by_cases cl_48 : vu_4.toInt < 132 ∨ 136 < vu_4.toInt
                  · refine lv_tableOut (tgt := 147) hx hb dX3_read_48 cl_48 (by decide) ?_
                    exact absurd cl_48 (by unfold RI at w_48; omega)
                  · have e_48 : vu_4.toInt = 132 ∨ vu_4.toInt = 133 ∨ vu_4.toInt = 134 ∨ vu_4.toInt = 135 ∨ vu_4.toInt = 136 := by omega
                    rcases e_48 with h_48 | h_48 | h_48 | h_48 | h_48
                    · exact absurd h_48 (by unfold RI at w_48; omega)
                    · exact absurd h_48 (by unfold RI at w_48; omega)
                    · exact absurd h_48 (by unfold RI at w_48; omega)
                    · refine lv_tableIn (tgt := 110) (off := 62) hx hb dX3_read_48 (by omega) (by omega) (by rw [h_48]; rfl) (by decide) ?_
                      have r_vu_4 : RI vu_4 135 135 := ⟨by omega, by omega⟩
                      refine lv_aload_n hx hb dX3_read_110 rfl (lv_at hl 1 rfl) ?_
                      refine lv_aload_n hx hb dX3_read_111 rfl (lv_at hl 2 rfl) ?_
                      refine lv_iconst (v := 0) hx hb dX3_read_112 (by decide) ?_
                      refine lv_iconst (v := 5) hx hb dX3_read_113 (by decide) ?_
                      refine tk_i (va_runV (As := [.int 0, .int 5]) (rest := [.ref p0]) ⟨hx, hb, hml, hown, hts⟩ (c_X7_takeNumber__4 l D cy z H.size Ps ws hw.1 p1 0 5 v_97 sg_95 h_p1 (rl_0.to (by decide)) (rl_5.to (by decide)) r_v_97 m_v_97 o_p1) (cwV 2 hts (gV tw_477 tw_478 tw_479 tw_2 tw_480) rfl rfl rfl (by decide +kernel) ⟨Nat.le_of_ble_eq_true rfl, Nat.le_of_ble_eq_true rfl⟩) (tg_preV hw hK hSD hA (ci := 7) (q := (RX7, TX7, 12)) rfl h_p1 rfl) rfl rfl hl.1 rfl (lv_room (Nat.le_of_ble_eq_true rfl)) dX3_read_114 ⟨Nat.le_of_ble_eq_true rfl, Nat.le_of_ble_eq_true rfl⟩) hw hA ⟨by decide, by decide⟩ (fun v_98 ws H locs hp_v_98 hw hF9 => ?_)
                      have x_BGF_p2_p0 := BGF.over hF9 x_BGF_p2_p0 (by decide)
                      have x_OT_p0 := OTR.over hF9 x_OT_p0 (by decide)
                      obtain ⟨hfn, hp_v_98⟩ := hp_v_98
                      have o_p0 := OV.over (V := vw_POST) hF9 o_p0 (by decide)
                      have o_p2 := OV.over (V := vw_WORLD) hF9 o_p2 (by decide)
                      obtain ⟨sg_99, q_sg_99⟩ : ∃ q9 : OS, (f_X7_takeNumber__4 (0 : Int32) (5 : Int32) sg_95).1 = q9 := ⟨_, rfl⟩
                      have o_p1 : OV vw_TAPE Ps ws p1 sg_99 := by rw [← q_sg_99]; exact hfn.1
                      have q_v_98 : (f_X7_takeNumber__4 (0 : Int32) (5 : Int32) sg_95).2 = v_98 := hfn.2.1
                      have r_v_98 : RI v_98 (-2147483648) 2147483647 := hp_v_98.1
                      refine tg_putE (ci := 3) (ts := ty_POST) (v := .int v_98) (ty := .int) (C := RX3) (T := TX3) (N := 9) hx hb hts inX3 tyX3 tyX3_ok nmX3 hown hK hw h_p0 rfl rfl 5 (by decide) (hts _ tw_213) (fun _ h9 => h9) rfl (by decide +kernel) rfl rfl (ft := vI (-2147483648) 2147483647) rfl ⟨_, rfl, r_v_98⟩ (by decide) dX3_read_117 (fun ws H locs hw n_k_100 hF9 hO9 => ?_)
                      have x_BGF_p2_p0 := BGF.over hF9 x_BGF_p2_p0 (by decide)
                      have o_p1 := OV.over (V := vw_TAPE) hF9 o_p1 (by decide)
                      have o_p2 := OV.over (V := vw_WORLD) hF9 o_p2 (by decide)
                      obtain ⟨sg_101, q_sg_101⟩ : ∃ q9 : OS, sI sg_94 5 v_98 = q9 := ⟨_, rfl⟩
                      have o_p0 : OV vw_POST Ps ws p0 sg_101 := by rw [← q_sg_101]; exact OV.putI (V := vw_POST) hF9 n_k_100 o_p0 (by decide)
                      have x_OT_p0 : OTR Ps w0 ws p0 := OTR.put x_OT_p0 hF9 hO9 (by decide)
                      refine lv_aload_n hx hb dX3_read_120 rfl (lv_at hl 1 rfl) ?_
                      refine lv_iconst (v := 1) hx hb dX3_read_121 (by decide) ?_
                      refine tg_putE (ci := 3) (ts := ty_POST) (v := .int 1) (ty := .boolean) (C := RX3) (T := TX3) (N := 9) hx hb hts inX3 tyX3 tyX3_ok nmX3 hown hK hw h_p0 rfl rfl 7 (by decide) (hts _ tw_219) (fun _ h9 => h9) rfl (by decide +kernel) rfl rfl (ft := vI 0 1) rfl ⟨_, rfl, (rl_1.to (by decide))⟩ (by decide) dX3_read_122 (fun ws H locs hw n_k_102 hF9 hO9 => ?_)
                      have n_k_100 := FLD.over hF9 n_k_100 (by decide)
                      have x_BGF_p2_p0 := BGF.over hF9 x_BGF_p2_p0 (by decide)
                      have o_p1 := OV.over (V := vw_TAPE) hF9 o_p1 (by decide)
                      have o_p2 := OV.over (V := vw_WORLD) hF9 o_p2 (by decide)
                      obtain ⟨sg_103, q_sg_103⟩ : ∃ q9 : OS, sI sg_101 7 (1 : Int32) = q9 := ⟨_, rfl⟩
                      have o_p0 : OV vw_POST Ps ws p0 sg_103 := by rw [← q_sg_103]; exact OV.putI (V := vw_POST) hF9 n_k_102 o_p0 (by decide)
                      have x_OT_p0 : OTR Ps w0 ws p0 := OTR.put x_OT_p0 hF9 hO9 (by decide)
                      refine lv_goto (tgt := 159) hx hb dX3_read_125 (by decide) ?_
                      refine lv_aload_n hx hb dX3_read_159 rfl (lv_at hl 2 rfl) ?_
                      refine lv_bipush (v := 59) hx hb dX3_read_160 (by decide) ?_
                      refine tk_v (va_runV (As := [.int 59]) (rest := []) ⟨hx, hb, hml, hown, hts⟩ (c_X7_passOnly__3 l D cy z H.size Ps ws hw.1 p1 59 sg_99 h_p1 (rl_59.to (by decide)) o_p1) (cwV 1 hts (gV tw_513 tw_514 tw_515 tw_2 tw_516) rfl rfl rfl (by decide +kernel) ⟨Nat.le_of_ble_eq_true rfl, Nat.le_of_ble_eq_true rfl⟩) (tg_preV hw hK hSD hA (ci := 7) (q := (RX7, TX7, 12)) rfl h_p1 rfl) rfl rfl hl.1 rfl (lv_room (Nat.le_of_ble_eq_true rfl)) dX3_read_162 ⟨Nat.le_of_ble_eq_true rfl, Nat.le_of_ble_eq_true rfl⟩) hw hA ⟨by decide, by decide⟩ (fun ws H locs hp_v_104 hw hF9 => ?_)
                      have n_k_100 := FLD.over hF9 n_k_100 (by decide)
                      have n_k_102 := FLD.over hF9 n_k_102 (by decide)
                      have x_BGF_p2_p0 := BGF.over hF9 x_BGF_p2_p0 (by decide)
                      have x_OT_p0 := OTR.over hF9 x_OT_p0 (by decide)
                      obtain ⟨hfn, hp_v_104⟩ := hp_v_104
                      have o_p0 := OV.over (V := vw_POST) hF9 o_p0 (by decide)
                      have o_p2 := OV.over (V := vw_WORLD) hF9 o_p2 (by decide)
                      obtain ⟨sg_105, q_sg_105⟩ : ∃ q9 : OS, (f_X7_passOnly__3 (59 : Int32) sg_99) = q9 := ⟨_, rfl⟩
                      have o_p1 : OV vw_TAPE Ps ws p1 sg_105 := by rw [← q_sg_105]; exact hfn.1
                      obtain ⟨v_106, e_v_106⟩ : ∃ q9 : Int32, q9 = x3 + Int32.ofInt 1 := ⟨_, rfl⟩
                      obtain ⟨t_v_106, r_v_106⟩ := tq_add (lo := 1) (hi := 900) r_x3 (show RI (Int32.ofInt 1) 1 1 by unfold RI; decide +kernel) (by decide +kernel) e_v_106
                      have t_v_106 : v_106.toInt = x3.toInt + 1 := t_v_106
                      refine lv_iinc (v := v_106) (lv' := [(3, .int v_106), (4, .int vu_4), (0, .ref p0), (1, .ref p1), (2, .ref p2)]) hx hb dX3_read_165 hl (k := 4) rfl e_v_106.symm (by decide) rfl (fun ls hl => ?_)
                      have q_v_106 : x3 + (1 : Int32) = v_106 := by rw [e_v_106, show Int32.ofInt 1 = (1 : Int32) by decide]
                      refine lv_goto (tgt := 14) hx hb dX3_read_168 (by decide) ?_
                      simp only [f_X3_read__1_14, ↓reduceIte, eq_false c_18, q_sg_2, q_v_1, eq_false c9_v_1, eq_false c_25, q_vu_4, eq_false n9_0, eq_false n9_1, eq_false n9_2, eq_false n9_3, eq_false n9_4, eq_false n9_5, eq_false n9_6, eq_false n9_7, eq_true k9_9, q_sg_94, q_sg_95, q_v_93, eq_false c9_v_93, eq_false c_41, q_sg_99, q_v_98, q_sg_101, q_sg_103, q_sg_105, q_v_106] at hE
                      exact ih14 v_106 sg_103 sg_105 s2 ws _ _ ls (by have q0 := r_v_106.1; have u0 := r_v_106.2; have o0 := r_x3.1; have p0 := r_x3.2; omega) (r_v_106.to (by decide)) x_BGF_p2_p0 x_OT_p0 o_p0 o_p1 o_p2 hE hw (lv_sub hl [2, 3, 4, 0] rfl)
                    · exact absurd h_48 (by unfold RI at w_48; omega)
                · have r_v_93 : RI v_93 1 0 := rc_eq1 r_v_93 rl_0 (ti_eq c_41) (by decide)
                  exact (r_v_93.no (by decide)).elim
            · have r_vu_4 : RI vu_4 136 136 := h_9
              have n9_0 : ¬ ((-2147483648) ≤ vu_4.toInt ∧ vu_4.toInt ≤ 127) := by omega
              have n9_1 : ¬ (128 ≤ vu_4.toInt ∧ vu_4.toInt ≤ 128) := by omega
              have n9_2 : ¬ (129 ≤ vu_4.toInt ∧ vu_4.toInt ≤ 129) := by omega
              have n9_3 : ¬ (130 ≤ vu_4.toInt ∧ vu_4.toInt ≤ 130) := by omega
              have n9_4 : ¬ (131 ≤ vu_4.toInt ∧ vu_4.toInt ≤ 131) := by omega
              have n9_5 : ¬ (132 ≤ vu_4.toInt ∧ vu_4.toInt ≤ 132) := by omega
              have n9_6 : ¬ (133 ≤ vu_4.toInt ∧ vu_4.toInt ≤ 133) := by omega
              have n9_7 : ¬ (134 ≤ vu_4.toInt ∧ vu_4.toInt ≤ 134) := by omega
              have n9_8 : ¬ (135 ≤ vu_4.toInt ∧ vu_4.toInt ≤ 135) := by omega
              have k9_9 := h_9
              refine lv_aload_n hx hb dX3_read_34 rfl (lv_at hl 1 rfl) ?_
              refine lv_aload_n hx hb dX3_read_35 rfl (lv_at hl 2 rfl) ?_
              refine lv_iload hx hb dX3_read_36 (lv_at hl 0 rfl) ?_
              refine tk_i (va_runV (As := [.ref p1, .int vu_4]) (rest := []) ⟨hx, hb, hml, hown, hts⟩ (c_X3_beginsLine__32 l D cy z H.size Ps ws hw.1 p0 p1 vu_4 v_3 s0 sg_2 h_p0 h_p1 r_vu_4 r_v_3 m_v_3 o_p0 o_p1) (cwV 2 hts (gV tw_446 tw_448 ts_1 tw_11 tw_449) rfl rfl rfl (by decide +kernel) ⟨Nat.le_of_ble_eq_true rfl, Nat.le_of_ble_eq_true rfl⟩) (tg_preV hw hK hSD hA (ci := 3) (q := (RX3, TX3, 9)) rfl h_p0 rfl) rfl rfl hl.1 rfl (lv_room (Nat.le_of_ble_eq_true rfl)) dX3_read_38 ⟨Nat.le_of_ble_eq_true rfl, Nat.le_of_ble_eq_true rfl⟩) hw hA ⟨by decide, by decide⟩ (fun v_107 ws H locs hp_v_107 hw hF9 => ?_)
              have x_BGF_p2_p0 := BGF.over hF9 x_BGF_p2_p0 (by decide)
              have x_OT_p0 := OTR.over hF9 x_OT_p0 (by decide)
              obtain ⟨hot9, hp_v_107⟩ := hp_v_107
              obtain ⟨hfn, hp_v_107⟩ := hp_v_107
              have o_p2 := OV.over (V := vw_WORLD) hF9 o_p2 (by decide)
              obtain ⟨sg_108, q_sg_108⟩ : ∃ q9 : OS, (f_X3_beginsLine__21 vu_4 s0 sg_2).1 = q9 := ⟨_, rfl⟩
              have o_p0 : OV vw_POST Ps ws p0 sg_108 := by rw [← q_sg_108]; exact hfn.1
              obtain ⟨sg_109, q_sg_109⟩ : ∃ q9 : OS, (f_X3_beginsLine__21 vu_4 s0 sg_2).2.1 = q9 := ⟨_, rfl⟩
              have o_p1 : OV vw_TAPE Ps ws p1 sg_109 := by rw [← q_sg_109]; exact hfn.2.1
              have q_v_107 : (f_X3_beginsLine__21 vu_4 s0 sg_2).2.2 = v_107 := hfn.2.2.1
              have r_v_107 : RI v_107 0 1 := hp_v_107.1
              by_cases c9_v_107 : v_107 = 0
              · have r_v_107 : RI v_107 0 0 := by rw [c9_v_107]; exact rl_0
                obtain ⟨v_110, m_v_110, r_v_110⟩ := ((hp_v_107.2.1 c9_v_107).1)
                refine lv_if_ne (tgt := 46) hx hb dX3_read_41 (by decide) (fun c_41 => ?_) (fun c_41 => ?_)
                · exact absurd (r_v_107.eq.trans rl_0.eq.symm) ((ti_ne c_41))
                · refine lv_iconst (v := (-1)) hx hb dX3_read_44 (by decide) ?_
                  simp only [f_X3_read__1_14, ↓reduceIte, eq_false c_18, q_sg_2, q_v_1, eq_false c9_v_1, eq_false c_25, q_vu_4, eq_false n9_0, eq_false n9_1, eq_false n9_2, eq_false n9_3, eq_false n9_4, eq_false n9_5, eq_false n9_6, eq_false n9_7, eq_false n9_8, eq_true k9_9, q_sg_108, q_sg_109, q_v_107, eq_true c9_v_107, eq_true c_41] at hE
                  subst hQ
                  exact W.iret (v := (-1)) hx hb hr (fun t ht hW => ⟨⟨(-1), ws, rfl, ⟨⟨x_OT_p0, ⟨(by rw [hR, ← hE]; exact o_p0), (by rw [hR, ← hE]; exact o_p1), (by rw [hR, ← hE]; exact o_p2), (by rw [hR, ← hE]), trivial⟩, rl_m1.to (by decide), (fun _ => trivial), (fun h0 => trivial), ⟨x_BGF_p2_p0, trivial⟩, (fun _ => trivial), (fun _ => trivial)⟩, hw.1, hw.2.2.2.2.1⟩, by rw [ht]; exact hw.2.1, va_K.moved hW.alike hK, hw.2.2.1⟩, hw.2.2.2.1.F ht⟩) hw.2.2.2.1.2.2 dX3_read_45
              · have r_v_107 : RI v_107 1 1 := rc_neL r_v_107 rl_0 (ti_ne c9_v_107) (by decide)
                obtain ⟨v_111, m_v_111, r_v_111⟩ := ((hp_v_107.2.2 c9_v_107).1)
                refine lv_if_ne (tgt := 46) hx hb dX3_read_41 (by decide) (fun c_41 => ?_) (fun c_41 => ?_)
                · refine lv_iload hx hb dX3_read_46 (lv_at hl 0 rfl) ?_
                  have w_48 := r_vu_4
                  by_cases cl_48 : vu_4.toInt < 132 ∨ 136 < vu_4.toInt
                  · refine lv_tableOut (tgt := 147) hx hb dX3_read_48 cl_48 (by decide) ?_
                    exact absurd cl_48 (by unfold RI at w_48; omega)
                  · have e_48 : vu_4.toInt = 132 ∨ vu_4.toInt = 133 ∨ vu_4.toInt = 134 ∨ vu_4.toInt = 135 ∨ vu_4.toInt = 136 := by omega
                    rcases e_48 with h_48 | h_48 | h_48 | h_48 | h_48
                    · exact absurd h_48 (by unfold RI at w_48; omega)
                    · exact absurd h_48 (by unfold RI at w_48; omega)
                    · exact absurd h_48 (by unfold RI at w_48; omega)
                    · exact absurd h_48 (by unfold RI at w_48; omega)
                    · refine lv_tableIn (tgt := 128) (off := 80) hx hb dX3_read_48 (by omega) (by omega) (by rw [h_48]; rfl) (by decide) ?_
                      have r_vu_4 : RI vu_4 136 136 := ⟨by omega, by omega⟩
                      refine lv_aload_n hx hb dX3_read_128 rfl (lv_at hl 1 rfl) ?_
                      refine lv_aload_n hx hb dX3_read_129 rfl (lv_at hl 2 rfl) ?_
                      refine lv_iconst (v := 1) hx hb dX3_read_130 (by decide) ?_
                      refine lv_bipush (v := 20) hx hb dX3_read_131 (by decide) ?_
                      refine tk_i (va_runV (As := [.int 1, .int 20]) (rest := [.ref p0]) ⟨hx, hb, hml, hown, hts⟩ (c_X7_takeNumber__4 l D cy z H.size Ps ws hw.1 p1 1 20 v_111 sg_109 h_p1 (rl_1.to (by decide)) (rl_20.to (by decide)) r_v_111 m_v_111 o_p1) (cwV 2 hts (gV tw_477 tw_478 tw_479 tw_2 tw_480) rfl rfl rfl (by decide +kernel) ⟨Nat.le_of_ble_eq_true rfl, Nat.le_of_ble_eq_true rfl⟩) (tg_preV hw hK hSD hA (ci := 7) (q := (RX7, TX7, 12)) rfl h_p1 rfl) rfl rfl hl.1 rfl (lv_room (Nat.le_of_ble_eq_true rfl)) dX3_read_133 ⟨Nat.le_of_ble_eq_true rfl, Nat.le_of_ble_eq_true rfl⟩) hw hA ⟨by decide, by decide⟩ (fun v_112 ws H locs hp_v_112 hw hF9 => ?_)
                      have x_BGF_p2_p0 := BGF.over hF9 x_BGF_p2_p0 (by decide)
                      have x_OT_p0 := OTR.over hF9 x_OT_p0 (by decide)
                      obtain ⟨hfn, hp_v_112⟩ := hp_v_112
                      have o_p0 := OV.over (V := vw_POST) hF9 o_p0 (by decide)
                      have o_p2 := OV.over (V := vw_WORLD) hF9 o_p2 (by decide)
                      obtain ⟨sg_113, q_sg_113⟩ : ∃ q9 : OS, (f_X7_takeNumber__4 (1 : Int32) (20 : Int32) sg_109).1 = q9 := ⟨_, rfl⟩
                      have o_p1 : OV vw_TAPE Ps ws p1 sg_113 := by rw [← q_sg_113]; exact hfn.1
                      have q_v_112 : (f_X7_takeNumber__4 (1 : Int32) (20 : Int32) sg_109).2 = v_112 := hfn.2.1
                      have r_v_112 : RI v_112 (-2147483648) 2147483647 := hp_v_112.1
                      refine tg_putE (ci := 3) (ts := ty_POST) (v := .int v_112) (ty := .int) (C := RX3) (T := TX3) (N := 9) hx hb hts inX3 tyX3 tyX3_ok nmX3 hown hK hw h_p0 rfl rfl 6 (by decide) (hts _ tw_216) (fun _ h9 => h9) rfl (by decide +kernel) rfl rfl (ft := vI (-2147483648) 2147483647) rfl ⟨_, rfl, r_v_112⟩ (by decide) dX3_read_136 (fun ws H locs hw n_k_114 hF9 hO9 => ?_)
                      have x_BGF_p2_p0 := BGF.over hF9 x_BGF_p2_p0 (by decide)
                      have o_p1 := OV.over (V := vw_TAPE) hF9 o_p1 (by decide)
                      have o_p2 := OV.over (V := vw_WORLD) hF9 o_p2 (by decide)
                      obtain ⟨sg_115, q_sg_115⟩ : ∃ q9 : OS, sI sg_108 6 v_112 = q9 := ⟨_, rfl⟩
                      have o_p0 : OV vw_POST Ps ws p0 sg_115 := by rw [← q_sg_115]; exact OV.putI (V := vw_POST) hF9 n_k_114 o_p0 (by decide)
                      have x_OT_p0 : OTR Ps w0 ws p0 := OTR.put x_OT_p0 hF9 hO9 (by decide)
                      refine lv_aload_n hx hb dX3_read_139 rfl (lv_at hl 1 rfl) ?_
                      refine lv_iconst (v := 1) hx hb dX3_read_140 (by decide) ?_
                      refine tg_putE (ci := 3) (ts := ty_POST) (v := .int 1) (ty := .boolean) (C := RX3) (T := TX3) (N := 9) hx hb hts inX3 tyX3 tyX3_ok nmX3 hown hK hw h_p0 rfl rfl 8 (by decide) (hts _ tw_220) (fun _ h9 => h9) rfl (by decide +kernel) rfl rfl (ft := vI 0 1) rfl ⟨_, rfl, (rl_1.to (by decide))⟩ (by decide) dX3_read_141 (fun ws H locs hw n_k_116 hF9 hO9 => ?_)
                      have n_k_114 := FLD.over hF9 n_k_114 (by decide)
                      have x_BGF_p2_p0 := BGF.over hF9 x_BGF_p2_p0 (by decide)
                      have o_p1 := OV.over (V := vw_TAPE) hF9 o_p1 (by decide)
                      have o_p2 := OV.over (V := vw_WORLD) hF9 o_p2 (by decide)
                      obtain ⟨sg_117, q_sg_117⟩ : ∃ q9 : OS, sI sg_115 8 (1 : Int32) = q9 := ⟨_, rfl⟩
                      have o_p0 : OV vw_POST Ps ws p0 sg_117 := by rw [← q_sg_117]; exact OV.putI (V := vw_POST) hF9 n_k_116 o_p0 (by decide)
                      have x_OT_p0 : OTR Ps w0 ws p0 := OTR.put x_OT_p0 hF9 hO9 (by decide)
                      refine lv_goto (tgt := 159) hx hb dX3_read_144 (by decide) ?_
                      refine lv_aload_n hx hb dX3_read_159 rfl (lv_at hl 2 rfl) ?_
                      refine lv_bipush (v := 59) hx hb dX3_read_160 (by decide) ?_
                      refine tk_v (va_runV (As := [.int 59]) (rest := []) ⟨hx, hb, hml, hown, hts⟩ (c_X7_passOnly__3 l D cy z H.size Ps ws hw.1 p1 59 sg_113 h_p1 (rl_59.to (by decide)) o_p1) (cwV 1 hts (gV tw_513 tw_514 tw_515 tw_2 tw_516) rfl rfl rfl (by decide +kernel) ⟨Nat.le_of_ble_eq_true rfl, Nat.le_of_ble_eq_true rfl⟩) (tg_preV hw hK hSD hA (ci := 7) (q := (RX7, TX7, 12)) rfl h_p1 rfl) rfl rfl hl.1 rfl (lv_room (Nat.le_of_ble_eq_true rfl)) dX3_read_162 ⟨Nat.le_of_ble_eq_true rfl, Nat.le_of_ble_eq_true rfl⟩) hw hA ⟨by decide, by decide⟩ (fun ws H locs hp_v_118 hw hF9 => ?_)
                      have n_k_114 := FLD.over hF9 n_k_114 (by decide)
                      have n_k_116 := FLD.over hF9 n_k_116 (by decide)
                      have x_BGF_p2_p0 := BGF.over hF9 x_BGF_p2_p0 (by decide)
                      have x_OT_p0 := OTR.over hF9 x_OT_p0 (by decide)
                      obtain ⟨hfn, hp_v_118⟩ := hp_v_118
                      have o_p0 := OV.over (V := vw_POST) hF9 o_p0 (by decide)
                      have o_p2 := OV.over (V := vw_WORLD) hF9 o_p2 (by decide)
                      obtain ⟨sg_119, q_sg_119⟩ : ∃ q9 : OS, (f_X7_passOnly__3 (59 : Int32) sg_113) = q9 := ⟨_, rfl⟩
                      have o_p1 : OV vw_TAPE Ps ws p1 sg_119 := by rw [← q_sg_119]; exact hfn.1
                      obtain ⟨v_120, e_v_120⟩ : ∃ q9 : Int32, q9 = x3 + Int32.ofInt 1 := ⟨_, rfl⟩
                      obtain ⟨t_v_120, r_v_120⟩ := tq_add (lo := 1) (hi := 900) r_x3 (show RI (Int32.ofInt 1) 1 1 by unfold RI; decide +kernel) (by decide +kernel) e_v_120
                      have t_v_120 : v_120.toInt = x3.toInt + 1 := t_v_120
                      refine lv_iinc (v := v_120) (lv' := [(3, .int v_120), (4, .int vu_4), (0, .ref p0), (1, .ref p1), (2, .ref p2)]) hx hb dX3_read_165 hl (k := 4) rfl e_v_120.symm (by decide) rfl (fun ls hl => ?_)
                      have q_v_120 : x3 + (1 : Int32) = v_120 := by rw [e_v_120, show Int32.ofInt 1 = (1 : Int32) by decide]
                      refine lv_goto (tgt := 14) hx hb dX3_read_168 (by decide) ?_
                      simp only [f_X3_read__1_14, ↓reduceIte, eq_false c_18, q_sg_2, q_v_1, eq_false c9_v_1, eq_false c_25, q_vu_4, eq_false n9_0, eq_false n9_1, eq_false n9_2, eq_false n9_3, eq_false n9_4, eq_false n9_5, eq_false n9_6, eq_false n9_7, eq_false n9_8, eq_true k9_9, q_sg_108, q_sg_109, q_v_107, eq_false c9_v_107, eq_false c_41, q_sg_113, q_v_112, q_sg_115, q_sg_117, q_sg_119, q_v_120] at hE
                      exact ih14 v_120 sg_117 sg_119 s2 ws _ _ ls (by have q0 := r_v_120.1; have u0 := r_v_120.2; have o0 := r_x3.1; have p0 := r_x3.2; omega) (r_v_120.to (by decide)) x_BGF_p2_p0 x_OT_p0 o_p0 o_p1 o_p2 hE hw (lv_sub hl [2, 3, 4, 0] rfl)
                · have r_v_107 : RI v_107 1 0 := rc_eq1 r_v_107 rl_0 (ti_eq c_41) (by decide)
                  exact (r_v_107.no (by decide)).elim
            · have r_vu_4 : RI vu_4 137 2147483647 := h_9
              have n9_0 : ¬ ((-2147483648) ≤ vu_4.toInt ∧ vu_4.toInt ≤ 127) := by omega
              have n9_1 : ¬ (128 ≤ vu_4.toInt ∧ vu_4.toInt ≤ 128) := by omega
              have n9_2 : ¬ (129 ≤ vu_4.toInt ∧ vu_4.toInt ≤ 129) := by omega
              have n9_3 : ¬ (130 ≤ vu_4.toInt ∧ vu_4.toInt ≤ 130) := by omega
              have n9_4 : ¬ (131 ≤ vu_4.toInt ∧ vu_4.toInt ≤ 131) := by omega
              have n9_5 : ¬ (132 ≤ vu_4.toInt ∧ vu_4.toInt ≤ 132) := by omega
              have n9_6 : ¬ (133 ≤ vu_4.toInt ∧ vu_4.toInt ≤ 133) := by omega
              have n9_7 : ¬ (134 ≤ vu_4.toInt ∧ vu_4.toInt ≤ 134) := by omega
              have n9_8 : ¬ (135 ≤ vu_4.toInt ∧ vu_4.toInt ≤ 135) := by omega
              have n9_9 : ¬ (136 ≤ vu_4.toInt ∧ vu_4.toInt ≤ 136) := by omega
              refine lv_aload_n hx hb dX3_read_34 rfl (lv_at hl 1 rfl) ?_
              refine lv_aload_n hx hb dX3_read_35 rfl (lv_at hl 2 rfl) ?_
              refine lv_iload hx hb dX3_read_36 (lv_at hl 0 rfl) ?_
              refine tk_i (va_runV (As := [.ref p1, .int vu_4]) (rest := []) ⟨hx, hb, hml, hown, hts⟩ (c_X3_beginsLine__33 l D cy z H.size Ps ws hw.1 p0 p1 vu_4 v_3 s0 sg_2 h_p0 h_p1 r_vu_4 r_v_3 m_v_3 o_p0 o_p1) (cwV 2 hts (gV tw_446 tw_448 ts_1 tw_11 tw_449) rfl rfl rfl (by decide +kernel) ⟨Nat.le_of_ble_eq_true rfl, Nat.le_of_ble_eq_true rfl⟩) (tg_preV hw hK hSD hA (ci := 3) (q := (RX3, TX3, 9)) rfl h_p0 rfl) rfl rfl hl.1 rfl (lv_room (Nat.le_of_ble_eq_true rfl)) dX3_read_38 ⟨Nat.le_of_ble_eq_true rfl, Nat.le_of_ble_eq_true rfl⟩) hw hA ⟨by decide, by decide⟩ (fun v_121 ws H locs hp_v_121 hw hF9 => ?_)
              have m_u_4 := FLD.over hF9 m_u_4 (by decide)
              have x_BGF_p2_p0 := BGF.over hF9 x_BGF_p2_p0 (by decide)
              have x_OT_p0 := OTR.over hF9 x_OT_p0 (by decide)
              obtain ⟨hot9, hp_v_121⟩ := hp_v_121
              obtain ⟨hfn, hp_v_121⟩ := hp_v_121
              have o_p2 := OV.over (V := vw_WORLD) hF9 o_p2 (by decide)
              obtain ⟨sg_122, q_sg_122⟩ : ∃ q9 : OS, (f_X3_beginsLine__12 vu_4 s0 sg_2).1 = q9 := ⟨_, rfl⟩
              have o_p0 : OV vw_POST Ps ws p0 sg_122 := by rw [← q_sg_122]; exact hfn.1
              obtain ⟨sg_123, q_sg_123⟩ : ∃ q9 : OS, (f_X3_beginsLine__12 vu_4 s0 sg_2).2.1 = q9 := ⟨_, rfl⟩
              have o_p1 : OV vw_TAPE Ps ws p1 sg_123 := by rw [← q_sg_123]; exact hfn.2.1
              have q_v_121 : (f_X3_beginsLine__12 vu_4 s0 sg_2).2.2 = v_121 := hfn.2.2.1
              have r_v_121 : RI v_121 0 0 := hp_v_121.1
              by_cases c9_v_121 : v_121 = 0
              · have r_v_121 : RI v_121 0 0 := by rw [c9_v_121]; exact rl_0
                obtain ⟨v_124, m_v_124, r_v_124⟩ := ((hp_v_121.2.1 c9_v_121).1)
                refine lv_if_ne (tgt := 46) hx hb dX3_read_41 (by decide) (fun c_41 => ?_) (fun c_41 => ?_)
                · exact absurd (r_v_121.eq.trans rl_0.eq.symm) ((ti_ne c_41))
                · refine lv_iconst (v := (-1)) hx hb dX3_read_44 (by decide) ?_
                  simp only [f_X3_read__1_14, ↓reduceIte, eq_false c_18, q_sg_2, q_v_1, eq_false c9_v_1, eq_false c_25, q_vu_4, eq_false n9_0, eq_false n9_1, eq_false n9_2, eq_false n9_3, eq_false n9_4, eq_false n9_5, eq_false n9_6, eq_false n9_7, eq_false n9_8, eq_false n9_9, q_sg_122, q_sg_123, q_v_121, eq_true c9_v_121, eq_true c_41] at hE
                  subst hQ
                  exact W.iret (v := (-1)) hx hb hr (fun t ht hW => ⟨⟨(-1), ws, rfl, ⟨⟨x_OT_p0, ⟨(by rw [hR, ← hE]; exact o_p0), (by rw [hR, ← hE]; exact o_p1), (by rw [hR, ← hE]; exact o_p2), (by rw [hR, ← hE]), trivial⟩, rl_m1.to (by decide), (fun _ => trivial), (fun h0 => trivial), ⟨x_BGF_p2_p0, trivial⟩, (fun _ => trivial), (fun _ => trivial)⟩, hw.1, hw.2.2.2.2.1⟩, by rw [ht]; exact hw.2.1, va_K.moved hW.alike hK, hw.2.2.1⟩, hw.2.2.2.1.F ht⟩) hw.2.2.2.1.2.2 dX3_read_45
              · exact absurd (Int32.toInt_inj.mp (by rw [Int32.toInt_zero]; unfold RI at r_v_121; omega)) c9_v_121
  refine lv_aload_n hx hb dX3_read_0 rfl (lv_at hl 2 rfl) ?_
  refine lv_aload_n hx hb dX3_read_1 rfl (lv_at hl 0 rfl) ?_
  refine tk_v (va_runV (As := [.ref p0]) (rest := []) ⟨hx, hb, hml, hown, hts⟩ (c_X8_begin__2 l D cy z s.heap.size Ps w0 hw.1 p2 p0 s2 s0 h_p2 h_p0 o_p2 o_p0) (cwV 1 hts (gV tw_416 tw_417 tw_418 tw_12 tw_419) rfl rfl rfl (by decide +kernel) ⟨Nat.le_of_ble_eq_true rfl, Nat.le_of_ble_eq_true rfl⟩) (tg_preV hw hK hSD hA (ci := 8) (q := (RX8, TX8, 13)) rfl h_p2 rfl) rfl rfl hl.1 rfl (lv_room (Nat.le_of_ble_eq_true rfl)) dX3_read_2 ⟨Nat.le_of_ble_eq_true rfl, Nat.le_of_ble_eq_true rfl⟩) hw hA ⟨by decide, by decide⟩ (fun ws H locs hp_v_125 hw hF9 => ?_)
  have x_OT_p0 := OTR.over hF9 x_OT_p0 (by decide)
  obtain ⟨hfn, hp_v_125⟩ := hp_v_125
  have o_p1 := OV.over (V := vw_TAPE) hF9 o_p1 (by decide)
  obtain ⟨sg_126, q_sg_126⟩ : ∃ q9 : OS, (f_X8_begin__1 s2 s0).1 = q9 := ⟨_, rfl⟩
  have o_p2 : OV vw_WORLD Ps ws p2 sg_126 := by rw [← q_sg_126]; exact hfn.1
  obtain ⟨sg_127, q_sg_127⟩ : ∃ q9 : OS, (f_X8_begin__1 s2 s0).2 = q9 := ⟨_, rfl⟩
  have o_p0 : OV vw_POST Ps ws p0 sg_127 := by rw [← q_sg_127]; exact hfn.2.1
  have x_BGF_p2_p0 := (hp_v_125.1)
  refine lv_aload_n hx hb dX3_read_5 rfl (lv_at hl 1 rfl) ?_
  refine lv_sipush (v := 900) hx hb dX3_read_6 (by decide) ?_
  refine tk_v (va_runV (As := [.int 900]) (rest := []) ⟨hx, hb, hml, hown, hts⟩ (c_X7_startText__3 l D cy z H.size Ps ws hw.1 p1 900 s1 h_p1 rl_900 o_p1) (cwV 1 hts (gV tw_420 tw_421 tw_422 tw_2 tw_423) rfl rfl rfl (by decide +kernel) ⟨Nat.le_of_ble_eq_true rfl, Nat.le_of_ble_eq_true rfl⟩) (tg_preV hw hK hSD hA (ci := 7) (q := (RX7, TX7, 12)) rfl h_p1 rfl) rfl rfl hl.1 rfl (lv_room (Nat.le_of_ble_eq_true rfl)) dX3_read_9 ⟨Nat.le_of_ble_eq_true rfl, Nat.le_of_ble_eq_true rfl⟩) hw hA ⟨by decide, by decide⟩ (fun ws H locs hp_v_128 hw hF9 => ?_)
  have x_OT_p0 := OTR.over hF9 x_OT_p0 (by decide)
  have x_BGF_p2_p0 := BGF.over hF9 x_BGF_p2_p0 (by decide)
  obtain ⟨hfn, hp_v_128⟩ := hp_v_128
  have o_p0 := OV.over (V := vw_POST) hF9 o_p0 (by decide)
  have o_p2 := OV.over (V := vw_WORLD) hF9 o_p2 (by decide)
  obtain ⟨sg_129, q_sg_129⟩ : ∃ q9 : OS, (f_X7_startText__3 (900 : Int32) s1) = q9 := ⟨_, rfl⟩
  have o_p1 : OV vw_TAPE Ps ws p1 sg_129 := by rw [← q_sg_129]; exact hfn.1
  obtain ⟨v_130, m_v_130, r_v_130⟩ := (hp_v_128.1)
  refine lv_iconst (v := 0) hx hb dX3_read_12 (by decide) ?_
  refine lv_istore_n (lv' := [(3, .int 0), (0, .ref p0), (1, .ref p1), (2, .ref p2)]) hx hb dX3_read_13 rfl hl (by decide) rfl (fun ls hl => ?_)
  simp only [f_X3_read__1, ↓reduceIte, q_sg_126, q_sg_127, q_sg_129] at hE
  exact B14 4294967298 0 sg_127 sg_129 sg_126 ws _ _ ls (by have q0 := rl_0.1; have u0 := rl_0.2; omega) (rl_0.to (by decide)) x_BGF_p2_p0 x_OT_p0 o_p0 o_p1 o_p2 hE hw (lv_sub hl [1, 2, 3, 0] rfl)
