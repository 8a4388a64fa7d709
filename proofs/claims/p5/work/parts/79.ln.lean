/-! names: what the reference's arrays of names hold -/
def AXL (k t : Nat) (F : (Nat → Int64) → Prop) (Ps : PSI) (ws : va_W) (m : Nat) : Prop := ∃ (a : Nat) (f : Nat → Int64), FLD ws m 10 k (.ref a) ∧ ARL Ps ws a t f ∧ F f
def AXL2 (k1 t1 k2 t2 : Nat) (F : (Nat → Int64) → (Nat → Int64) → Prop) (Ps : PSI) (ws : va_W) (m : Nat) : Prop := ∃ (a : Nat) (f : Nat → Int64) (b : Nat) (g : Nat → Int64), FLD ws m 10 k1 (.ref a) ∧ ARL Ps ws a t1 f ∧ FLD ws m 10 k2 (.ref b) ∧ ARL Ps ws b t2 g ∧ F f g
abbrev vw_M3 : VW := (10, [], [], [], [(20, 41), (21, 42)])
section FACTS60
variable {s : State} {H : Heap} {locs : List Loc} {D : va_G} {cy : Nat → ClassId} {A : Nat → Prop} {ws ws' ws1 w0 wx : va_W} {G : Nat → Nat → CTy} {Ps X : PSI} {wr : List (Nat × Nat)} {wa : List Nat} {k t m a j : Nat} {k1 t1 k2 t2 : Nat} {F F2 : (Nat → Int64) → Prop} {E E2 : (Nat → Int64) → (Nat → Int64) → Prop} {v : Int64} {i : Int32}
theorem AXL.over (h : FR wr wa Ps ws ws') (x : AXL k t F Ps ws m) (hn : (10, k) ∉ wr ∧ t ∉ wa) : AXL k t F Ps ws' m := by
  obtain ⟨a, f, h1, h2, h3⟩ := x
  exact ⟨a, f, FLD.over h h1 hn.1, ARL.over h h2 hn.2, h3⟩
theorem AXL.imp (x : AXL k t F Ps ws m) (h : ∀ f, F f → F2 f) : AXL k t F2 Ps ws m := by
  obtain ⟨a, f, h1, h2, h3⟩ := x
  exact ⟨a, f, h1, h2, h f h3⟩
theorem AXL.ast (hF : FR [] [t] Ps ws ws1) (hU : va_D A ws ∧ ∀ f, ARL Ps ws a t f → ARL Ps ws1 a t (vp_updL f j v)) (x : AXL k t F Ps ws m) (hf : FLD ws m 10 k (.ref a)) (h : ∀ f, F f → F2 (vp_updL f j v)) : AXL k t F2 Ps ws1 m := by
  obtain ⟨a', f, h1, h2, h3⟩ := x
  cases FLD.inj hU.1 h1 hf
  exact ⟨a, vp_updL f j v, FLD.over hF h1 List.not_mem_nil, hU.2 f h2, h f h3⟩
theorem AXL.el (hD : va_D A ws) (x : AXL k t F Ps ws m) (hf : FLD ws m 10 k (.ref a)) (he : ∃ f, LAR ws a f ∧ f i.toNatClampNeg = v) : ∃ f, F f ∧ f i.toNatClampNeg = v := by
  obtain ⟨a', f, h1, h2, h3⟩ := x
  cases FLD.inj hD h1 hf
  exact ⟨f, h3, ARL.lel hD h2 he⟩
theorem AXL.app (h : AXL k t F Ps ws m) : AXL k t F (Ps ++ X) (ws ++ wx) m := by
  obtain ⟨a, f, h1, h2, h4⟩ := h
  exact ⟨a, f, FLD.app h1, ARL.app h2, h4⟩
theorem AXL.up {P1 : PSI} (hup : ∀ q ∈ P1, q ∈ Ps) (hw : WD D cy G A s wr wa X w0 Ps ws H locs) (h : AXL k t F P1 ws m) : AXL k t F Ps ws m := by
  obtain ⟨a, f, h1, h2, h4⟩ := h
  exact ⟨a, f, h1, ARL.up hup hw h2, h4⟩
theorem AXL2.over (h : FR wr wa Ps ws ws') (x : AXL2 k1 t1 k2 t2 E Ps ws m) (hn : (10, k1) ∉ wr ∧ (10, k2) ∉ wr ∧ t1 ∉ wa ∧ t2 ∉ wa) : AXL2 k1 t1 k2 t2 E Ps ws' m := by
  obtain ⟨a, f, b, g, h1, h2, h3, h4, h5⟩ := x
  exact ⟨a, f, b, g, FLD.over h h1 hn.1, ARL.over h h2 hn.2.2.1, FLD.over h h3 hn.2.1, ARL.over h h4 hn.2.2.2, h5⟩
theorem AXL2.imp (x : AXL2 k1 t1 k2 t2 E Ps ws m) (h : ∀ f g, E f g → E2 f g) : AXL2 k1 t1 k2 t2 E2 Ps ws m := by
  obtain ⟨a, f, b, g, h1, h2, h3, h4, h5⟩ := x
  exact ⟨a, f, b, g, h1, h2, h3, h4, h _ _ h5⟩
theorem AXL2.ast {r : Nat} (hF : FR [] [t1] Ps ws ws1) (hU : va_D A ws ∧ ∀ f, ARL Ps ws a t1 f → ARL Ps ws1 a t1 (vp_updL f j v)) (x : AXL2 k1 t1 k2 t2 E Ps ws m) (hf : FLD ws m 10 k1 (.ref a)) (hf2 : FLD ws m 10 k2 (.ref r)) (he : ∃ f, LAR ws r f ∧ f i.toNatClampNeg = v) (hne : t2 ≠ t1) (h : ∀ f g, E f g → g i.toNatClampNeg = v → E2 (vp_updL f j v) g) : AXL2 k1 t1 k2 t2 E2 Ps ws1 m := by
  obtain ⟨a', f, b, g, h1, h2, h3, h4, h5⟩ := x
  cases FLD.inj hU.1 h1 hf
  cases FLD.inj hU.1 h3 hf2
  exact ⟨a, vp_updL f j v, r, g, FLD.over hF h1 List.not_mem_nil, hU.2 f h2, FLD.over hF h3 List.not_mem_nil, ARL.over hF h4 (fun q => hne (List.mem_singleton.mp q)), h f g h5 (ARL.lel hU.1 h4 he)⟩
/-- the two arrays of names -/
theorem axl2_of (hT : HT cy GG Ps ws) (hp : (m, 55) ∈ Ps) : AXL2 20 41 21 42 (fun _ _ => True) Ps ws m := by
  obtain ⟨o, b⟩ := OV.ex (V := vw_M3) (ts := ty_MODEL) hT hp rfl (by decide) (by decide) (by decide) (by decide) (by decide) (by decide)
  obtain ⟨r1, a1, a2⟩ := b.2.2.2 (20, 41) (by decide)
  obtain ⟨r2, b1, b2⟩ := b.2.2.2 (21, 42) (by decide)
  exact ⟨r1, _, r2, _, a1, a2, b1, b2, trivial⟩
end FACTS60
/-- the names told -/
def NLC (R : Nat → Int32) (N : Nat → Nat) (f : Nat → Int64) : Prop := ∀ s b M, SORT s b M → R s = nI (ct R s) ∧ ct R s ≤ M ∧ ∀ k, k < ct R s → ∃ L v, L ≤ 7 ∧ LC L (N (b + k)) v ∧ f (b + k) = lN v
def NMp (L f : Nat → Int64) : Prop := ∀ j, j < 24 → f j = L j
def KNp (U V f : Nat → Int64) : Prop := ∀ j, j < 24 → f j = U j ∧ f (24 + j) = V j
def CKp (L U V : Nat → Int64) (p k : Int32) (f : Nat → Int64) : Prop := (∀ j : Nat, (j : Int) < k.toInt → j < 24 → f (24 * p.toNatClampNeg + j) = L j) ∧ (p.toInt ≠ 0 → ∀ j, j < 24 → f j = U j) ∧ (p.toInt ≠ 1 → ∀ j, j < 24 → f (24 + j) = V j)
def RNp (L : Nat → Int64) (k : Int32) (f : Nat → Int64) : Prop := ∀ j : Nat, (j : Int) < k.toInt → j < 24 → f j = L j
theorem CKn_0 {L U V f : Nat → Int64} {p : Int32} (h : KNp U V f) : CKp L U V p 0 f := ⟨fun j hj => absurd hj (by rw [Int32.toInt_zero]; omega), fun _ j hj => (h j hj).1, fun _ j hj => (h j hj).2⟩
theorem CKn_step {L U V f : Nat → Int64} {p k i t k2 : Int32} {v : Int64} (h : CKp L U V p k f) (hv : ∃ g, NMp L g ∧ g i.toNatClampNeg = v) (hp : RI p 0 1) (hk : RI k 0 23) (e : i.toInt = k.toInt) (e2 : k2.toInt = k.toInt + 1) (et : t.toInt = 24 * p.toInt + k.toInt) : CKp L U V p k2 (vp_updL f t.toNatClampNeg v) := by
  obtain ⟨g, hg, hv⟩ := hv
  have a1 := hp.1
  have a2 := hp.2
  have a3 := hk.1
  have a4 := hk.2
  have c1 := hp.cl (by decide)
  have c2 := hk.cl (by decide)
  have c3 := (show RI t 0 47 from ⟨by omega, by omega⟩).cl (by decide)
  have c4 := (show RI i 0 23 from ⟨by omega, by omega⟩).cl (by decide)
  refine ⟨fun j hj h24 => ?_, fun hn j hj => ?_, fun hn j hj => ?_⟩
  · by_cases e9 : j = k.toNatClampNeg
    · rw [show 24 * p.toNatClampNeg + j = t.toNatClampNeg by omega, pk_uLs, ← hv, hg _ (by omega), show i.toNatClampNeg = j by omega]
    · rw [pk_uLn (by omega)]
      exact h.1 j (by omega) h24
  · rw [pk_uLn (by omega)]
    exact h.2.1 hn j hj
  · rw [pk_uLn (by omega)]
    exact h.2.2 hn j hj
theorem CKn_end {L U V f : Nat → Int64} {p k : Int32} (h : CKp L U V p k f) (hp : RI p 0 1) (hk : RI k 24 24) : KNp (pick p 0 L U) (pick p 1 L V) f := by
  have a1 := hp.1
  have a2 := hp.2
  have a3 := hk.1
  have c1 := hp.cl (by decide)
  intro j hj
  rcases (show p.toInt = 0 ∨ p.toInt = 1 by omega) with e | e
  · have z := h.1 j (by omega) hj
    rw [show 24 * p.toNatClampNeg + j = j by omega] at z
    rw [pick_eq e, pick_ne (show p.toInt ≠ 1 by omega)]
    exact ⟨z, h.2.2 (by omega) j hj⟩
  · have z := h.1 j (by omega) hj
    rw [show 24 * p.toNatClampNeg + j = 24 + j by omega] at z
    rw [pick_ne (show p.toInt ≠ 0 by omega), pick_eq e]
    exact ⟨h.2.1 (by omega) j hj, z⟩
theorem RN_0 {L f : Nat → Int64} : RNp L 0 f := fun j hj => absurd hj (by rw [Int32.toInt_zero]; omega)
theorem RN_step {U V f : Nat → Int64} {p k i k2 : Int32} {v : Int64} (h : RNp (pick p 0 U V) k f) (hv : ∃ g, KNp U V g ∧ g i.toNatClampNeg = v) (hp : RI p 0 1) (hk : RI k 0 23) (e : i.toInt = 24 * p.toInt + k.toInt) (e2 : k2.toInt = k.toInt + 1) : RNp (pick p 0 U V) k2 (vp_updL f k.toNatClampNeg v) := by
  obtain ⟨g, hg, hv⟩ := hv
  have a1 := hp.1
  have a2 := hp.2
  have a3 := hk.1
  have a4 := hk.2
  have c1 := hp.cl (by decide)
  have c2 := hk.cl (by decide)
  have c4 := (show RI i 0 47 from ⟨by omega, by omega⟩).cl (by decide)
  intro j hj h24
  by_cases e9 : j = k.toNatClampNeg
  · rw [e9, pk_uLs, ← hv]
    rcases (show p.toInt = 0 ∨ p.toInt = 1 by omega) with e1 | e1
    · rw [pick_eq e1, show i.toNatClampNeg = k.toNatClampNeg by omega]
      exact (hg _ (by omega)).1
    · rw [pick_ne (show p.toInt ≠ 0 by omega), show i.toNatClampNeg = 24 + k.toNatClampNeg by omega]
      exact (hg _ (by omega)).2
  · rw [pk_uLn e9]
    exact h j (by omega) h24
theorem RN_end {L f : Nat → Int64} {k : Int32} (h : RNp L k f) (hk : RI k 24 24) : NMp L f := fun j hj => h j (by have a := hk.1; omega) hj
/-- post: the names read, copied so far -/
def PNp (k : Int32) (f g : Nat → Int64) : Prop := ∀ j : Nat, (j : Int) < k.toInt → f j = g j
theorem PN_0 {f g : Nat → Int64} : PNp 0 f g := fun j hj => absurd hj (by rw [Int32.toInt_zero]; omega)
theorem PN_step {f g : Nat → Int64} {k k2 : Int32} {v : Int64} (h : PNp k f g) (hv : g k.toNatClampNeg = v) (hk : RI k 0 23) (e2 : k2.toInt = k.toInt + 1) : PNp k2 (vp_updL f k.toNatClampNeg v) g := by
  have c2 := hk.cl (by decide)
  have a3 := hk.1
  intro j hj
  by_cases e9 : j = k.toNatClampNeg
  · rw [e9, pk_uLs]; exact hv.symm
  · rw [pk_uLn e9]; exact h j (by omega)
abbrev wr_X10_image__2 : List (Nat × Nat) := [(10, 0)]
abbrev wa_X10_image__2 : List Nat := [36, 43, 44]
set_option maxHeartbeats 4000000 in
set_option maxRecDepth 100000 in
theorem c_X10_image__2 (l : Launch) (D : va_G) (cy : Nat → ClassId) (z : Nat → Nat) (sz : Nat) (Ps : PSI) (w0 : va_W) (hT : HT cy GG Ps w0) (p0 : Nat) (p1 : Int32) (gdR : Nat → Int32) (gdU : Nat → Int32) (gdV : Nat → Int32) (gda : Int32) (gdb : Int32) (gdL : Nat → Int64) (gdLU : Nat → Int64) (gdLV : Nat → Int64) (h_p0 : (p0, 55) ∈ Ps) (r_p1 : RI p1 (-2147483648) 2147483647) (x_HD_p0_gdR : AX 14 34 (HDp gdR) Ps w0 p0) (x_KP_p0_gdU_gdV : AX 16 36 (KPp gdU gdV) Ps w0 p0) (x_ISA_p0_gda_gdb : AX 23 44 (ISp gda gdb) Ps w0 p0) (x_NAM_p0_gdL : AXL 20 41 (NMp gdL) Ps w0 p0) (x_KNM_p0_gdLU_gdLV : AXL 22 43 (KNp gdLU gdLV) Ps w0 p0) : Met l yX10_image (Cond.code yX10_image cX10_image 3 (some .boolean) :: gT) ({ frames := 2, cells := 0, slots := 0, locals := 400 } : Room) (va_Pc [.ref p0, .int p1] (PRE D cy z w0 sz)) (va_Qi (fun (r : Int32) (u : va_W) => (RI r 0 1 ∧ (r = 0 → True) ∧ (¬ r = 0 → True) ∧ (AX 14 34 (HDp gdR) Ps u p0 ∧ AX 16 36 (KPp (pick p1 0 gdR gdU) (pick p1 1 gdR gdV)) Ps u p0 ∧ AX 23 44 (ISp (pick p1 0 1 gda) (pick p1 1 1 gdb)) Ps u p0 ∧ AXL 20 41 (NMp gdL) Ps u p0 ∧ AXL 22 43 (KNp (pick p1 0 gdL gdLU) (pick p1 1 gdL gdLV)) Ps u p0 ∧ True) ∧ (r.toInt < 0 → True) ∧ (0 ≤ r.toInt → True)) ∧ HT cy GG Ps u ∧ FR wr_X10_image__2 wa_X10_image__2 Ps w0 u) (BB D cy (va_A w0 sz) (fun (u : va_W) => u)) (va_A w0 sz)) 0 0 (va_A w0 sz) := by
  refine Met.ofW (cc := cX10_image) (maxL := 3) (ret := (some .boolean)) (by decide) rfl ?_
  intro p e s m args below meth c s₁ B hml hv
  obtain ⟨rfl, hsz, hP, hK, hD0, hSD⟩ := hv
  have hx := B.exec
  have hb := B.bytes
  have hr := B.returns
  have hlocks := B.notSynchronized
  have hts : ∀ w ∈ gT, w.before _ s = true := fun w h => atoms_spec (ws := Cond.code yX10_image cX10_image 3 (some .boolean) :: gT) B.pre w (List.mem_cons_of_mem _ h)
  have hown : s.vm.findClass RX10 = some m.cls := findClass_of_methodNamed B.named
  subst hsz
  have hD := hD0.self (sz := s.heap.size)
  generalize hAe : va_A w0 s.heap.size = A at hD hSD ⊢
  have hA : ∀ q : Nat, s.heap.size ≤ q → A q := fun q h => by rw [← hAe]; exact Or.inr h
  have hl := lv_entry ([.ref p0, .int p1]) (n := 3) (Nat.le_of_ble_eq_true rfl)
  rw [lg_entry_eq]
  generalize (lg_sl ([.ref p0, .int p1]) ++ List.replicate (3 - (lg_sl ([.ref p0, .int p1])).length) Slot.unset).toArray = ls at hl ⊢
  have hl : lv_has ls 3 [(0, .ref p0), (1, .int p1)] := hl
  refine nameQ (fun Q hQ => ?_)
  have hw : WD D cy GG A s wr_X10_image__2 wa_X10_image__2 Ps w0 Ps w0 s.heap [] := ⟨hT, hP, hD, va_S.rf, FR.rf, hT.1, [], (List.append_nil _).symm⟩
  have B51 : ∀ (nf : Nat) (x2 : Int32) (z0_0 : Int32) (ws : va_W) (H : Heap) (locs : List Loc) (ls : Array Slot), 24 - x2.toInt < (nf : Int) → RI p1 0 1 → RI x2 0 24 → RI z0_0 0 0 → FLD ws p0 10 0 (.int z0_0) → AX 14 34 (HDp gdR) Ps ws p0 → (0 ≤ Int32.toInt p1 ∧ Int32.toInt p1 ≤ 1) → AX 23 44 (ISp gda gdb) Ps ws p0 → AX 16 36 (KOp p1 gdU gdV) Ps ws p0 → AX 16 36 (KPp (pick p1 0 gdR gdU) (pick p1 1 gdR gdV)) Ps ws p0 → AXL 20 41 (NMp gdL) Ps ws p0 → AXL 22 43 (CKp gdL gdLU gdLV p1 x2) Ps ws p0 → WD D cy GG A s wr_X10_image__2 wa_X10_image__2 Ps w0 Ps ws H locs → lv_has ls 3 [(0, .ref p0), (1, .int p1), (2, .int x2)] → W p l e (headSpec (Cond.code yX10_image cX10_image 3 (some .boolean) :: gT) ({ frames := 2, cells := 0, slots := 0, locals := 400 } : Room)).room s m ([.ref p0, .int p1] : List Value).toArray below meth c H locs 0 0 Q (F0 m 51 ls []) := by
    intro nf51
    induction nf51 with
    | zero =>
      intro x2 z0_0 ws H locs ls hn51 r_p1 r_x2 r_z0_0 m_z0_0 x_HD_p0_gdR x_IMG1_p1 x_ISA_p0_gda_gdb x_KO_p0_p1_gdU_gdV x_KPI_p0_p1_gdR_gdU_gdV x_NAM_p0_gdL x_CNI_p0_p1__2 hw hl
      exact absurd hn51 (by have q0 := r_x2.1; have u0 := r_x2.2; omega)
    | succ nf51 ih51 =>
      intro x2 z0_0 ws H locs ls hn51 r_p1 r_x2 r_z0_0 m_z0_0 x_HD_p0_gdR x_IMG1_p1 x_ISA_p0_gda_gdb x_KO_p0_p1_gdU_gdV x_KPI_p0_p1_gdR_gdU_gdV x_NAM_p0_gdL x_CNI_p0_p1__2 hw hl
      refine lv_iload_n hx hb dX10_image_51 rfl (lv_at hl 2 rfl) ?_
      refine lv_bipush (v := 24) hx hb dX10_image_52 (by decide) ?_
      refine lv_icmp_ge (tgt := 80) hx hb dX10_image_54 (by decide) (fun c_54 => ?_) (fun c_54 => ?_)
      · have r_x2 : RI x2 24 24 := rc_le2 rl_24 r_x2 (ti_le c_54) (by decide)
        have x_KNI_p0_p1_gdL_gdLU_gdLV : AXL 22 43 (KNp (pick p1 0 gdL gdLU) (pick p1 1 gdL gdLV)) Ps ws p0 := AXL.imp x_CNI_p0_p1__2 (fun f9 h9 => CKn_end h9 (r_p1.to (by decide)) (r_x2.to (by decide)))
        refine lv_aload_n hx hb dX10_image_80 rfl (lv_at hl 0 rfl) ?_
        refine tg_get (ci := 10) (ts := ty_MODEL) (C := RX10) (T := TX10) (N := 49) hx hb hts inX10 hown hK hw h_p0 rfl rfl 23 (by decide) (hts _ tw_1160) (fun _ h9 => h9) (ft := vR 44) rfl dX10_image_81 (fun u_1 hv_u_1 m_u_1 => ?_)
        obtain ⟨vu_1, rfl, h_vu_1⟩ := hv_u_1
        refine lv_iload_n hx hb dX10_image_84 rfl (lv_at hl 1 rfl) ?_
        refine lv_iconst (v := 1) hx hb dX10_image_85 (by decide) ?_
        refine tg_zastE hx hb hK hw h_vu_1 rfl 0 1 r_p1 (by decide) (by decide) dX10_image_86 (fun ws H locs hw hF9 hU9 => ?_)
        have x_ISI_p0_p1_gda_gdb : AX 23 44 (ISp (pick p1 0 1 gda) (pick p1 1 1 gdb)) Ps ws p0 := AX.ast hF9 hU9 x_ISA_p0_gda_gdb m_u_1 (fun f9 h9 => IS_upd (r_p1.to (by decide)) h9)
        have x_HD_p0_gdR := AX.over hF9 x_HD_p0_gdR (by decide)
        have x_KO_p0_p1_gdU_gdV := AX.over hF9 x_KO_p0_p1_gdU_gdV (by decide)
        have x_KPI_p0_p1_gdR_gdU_gdV := AX.over hF9 x_KPI_p0_p1_gdR_gdU_gdV (by decide)
        have x_NAM_p0_gdL := AXL.over hF9 x_NAM_p0_gdL (by decide)
        have x_CNI_p0_p1__2 := AXL.over hF9 x_CNI_p0_p1__2 (by decide)
        have x_KNI_p0_p1_gdL_gdLU_gdLV := AXL.over hF9 x_KNI_p0_p1_gdL_gdLU_gdLV (by decide)
        have m_z0_0 := FLD.over hF9 m_z0_0 (by decide)
        have m_u_1 := FLD.over hF9 m_u_1 (by decide)
        refine lv_iconst (v := 1) hx hb dX10_image_87 (by decide) ?_
        subst hQ
        exact W.zret (v := 1) hx hb hr (rfl) (fun t ht hW => ⟨⟨1, ws, rfl, ⟨⟨rl_1.to (by decide), (fun _ => trivial), (fun h0 => trivial), ⟨x_HD_p0_gdR, x_KPI_p0_p1_gdR_gdU_gdV, x_ISI_p0_p1_gda_gdb, x_NAM_p0_gdL, x_KNI_p0_p1_gdL_gdLU_gdLV, trivial⟩, (fun _ => trivial), (fun _ => trivial)⟩, hw.1, hw.2.2.2.2.1⟩, by rw [ht]; exact hw.2.1, va_K.moved hW.alike hK, hw.2.2.1⟩, hw.2.2.2.1.F ht⟩) hw.2.2.2.1.2.2 dX10_image_88
      · have r_x2 : RI x2 0 23 := rc_lt1 r_x2 rl_24 (ti_nle c_54) (by decide)
        refine lv_aload_n hx hb dX10_image_57 rfl (lv_at hl 0 rfl) ?_
        refine tg_get (ci := 10) (ts := ty_MODEL) (C := RX10) (T := TX10) (N := 49) hx hb hts inX10 hown hK hw h_p0 rfl rfl 22 (by decide) (hts _ tw_1159) (fun _ h9 => h9) (ft := vR 43) rfl dX10_image_58 (fun u_2 hv_u_2 m_u_2 => ?_)
        obtain ⟨vu_2, rfl, h_vu_2⟩ := hv_u_2
        refine lv_bipush (v := 24) hx hb dX10_image_61 (by decide) ?_
        refine lv_iload_n hx hb dX10_image_63 rfl (lv_at hl 1 rfl) ?_
        refine lv_imul hx hb dX10_image_64 (lv_topi (fun v_3 e_v_3 => ?_))
        obtain ⟨t_v_3, r_v_3⟩ := tq_mul (lo := 0) (hi := 24) rl_24 r_p1 (by decide +kernel) e_v_3
        have t_v_3 : v_3.toInt = 24 * p1.toInt := t_v_3
        refine lv_iload_n hx hb dX10_image_65 rfl (lv_at hl 2 rfl) ?_
        refine lv_iadd hx hb dX10_image_66 (lv_topi (fun v_4 e_v_4 => ?_))
        obtain ⟨t_v_4, r_v_4⟩ := tq_add (lo := 0) (hi := 47) r_v_3 r_x2 (by decide +kernel) e_v_4
        refine lv_aload_n hx hb dX10_image_67 rfl (lv_at hl 0 rfl) ?_
        refine tg_get (ci := 10) (ts := ty_MODEL) (C := RX10) (T := TX10) (N := 49) hx hb hts inX10 hown hK hw h_p0 rfl rfl 20 (by decide) (hts _ tw_1157) (fun _ h9 => h9) (ft := vR 41) rfl dX10_image_68 (fun u_5 hv_u_5 m_u_5 => ?_)
        obtain ⟨vu_5, rfl, h_vu_5⟩ := hv_u_5
        refine lv_iload_n hx hb dX10_image_71 rfl (lv_at hl 2 rfl) ?_
        refine tg_laldE hx hb hK hw h_vu_5 rfl r_x2 (by decide) dX10_image_72 (fun w_6 r_w_6 l_w_6 => ?_)
        have mp8 := m_u_2
        have me8 := AXL.el hw.2.2.1 x_NAM_p0_gdL m_u_5 l_w_6
        refine tg_lastE hx hb hK hw h_vu_2 rfl r_v_4 (by decide) r_w_6 (by decide) (by decide) dX10_image_73 (fun ws H locs hw hF9 hU9 => ?_)
        have x_HD_p0_gdR := AX.over hF9 x_HD_p0_gdR (by decide)
        have x_ISA_p0_gda_gdb := AX.over hF9 x_ISA_p0_gda_gdb (by decide)
        have x_KO_p0_p1_gdU_gdV := AX.over hF9 x_KO_p0_p1_gdU_gdV (by decide)
        have x_KPI_p0_p1_gdR_gdU_gdV := AX.over hF9 x_KPI_p0_p1_gdR_gdU_gdV (by decide)
        have x_NAM_p0_gdL := AXL.over hF9 x_NAM_p0_gdL (by decide)
        have m_z0_0 := FLD.over hF9 m_z0_0 (by decide)
        have m_u_2 := FLD.over hF9 m_u_2 (by decide)
        have m_u_5 := FLD.over hF9 m_u_5 (by decide)
        have x_CNIT_p0_p1_x2 : AXL 22 43 (fun f => ∀ k9 : Int32, k9.toInt = Int32.toInt x2 + 1 → CKp gdL gdLU gdLV p1 k9 f) Ps ws p0 := AXL.ast hF9 hU9 x_CNI_p0_p1__2 mp8 (fun f9 h9 k9 t9 => CKn_step h9 me8 (r_p1.to (by decide)) (r_x2.to (by decide)) rfl t9 (by have k1 := t_v_4; omega))
        obtain ⟨v_7, e_v_7⟩ : ∃ q9 : Int32, q9 = x2 + Int32.ofInt 1 := ⟨_, rfl⟩
        obtain ⟨t_v_7, r_v_7⟩ := tq_add (lo := 1) (hi := 24) r_x2 (show RI (Int32.ofInt 1) 1 1 by unfold RI; decide +kernel) (by decide +kernel) e_v_7
        have t_v_7 : v_7.toInt = x2.toInt + 1 := t_v_7
        refine lv_iinc (v := v_7) (lv' := [(2, .int v_7), (0, .ref p0), (1, .int p1)]) hx hb dX10_image_74 hl (k := 2) rfl e_v_7.symm (by decide) rfl (fun ls hl => ?_)
        refine lv_goto (tgt := 51) hx hb dX10_image_77 (by decide) ?_
        have x_CNI_p0_p1_v_7 : AXL 22 43 (CKp gdL gdLU gdLV p1 v_7) Ps ws p0 := AXL.imp x_CNIT_p0_p1_x2 (fun f9 h9 => h9 _ t_v_7)
        exact ih51 v_7 z0_0 ws _ _ ls (by have q0 := r_v_7.1; have u0 := r_v_7.2; have o0 := r_x2.1; have p0 := r_x2.2; omega) r_p1 (r_v_7.to (by decide)) r_z0_0 m_z0_0 x_HD_p0_gdR x_IMG1_p1 x_ISA_p0_gda_gdb x_KO_p0_p1_gdU_gdV x_KPI_p0_p1_gdR_gdU_gdV x_NAM_p0_gdL x_CNI_p0_p1_v_7 hw (lv_sub hl [1, 2, 0] rfl)
  have B18 : ∀ (nf : Nat) (x2 : Int32) (z0_0 : Int32) (za16 : Nat) (za14 : Nat) (ws : va_W) (H : Heap) (locs : List Loc) (ls : Array Slot), 414 - x2.toInt < (nf : Int) → RI p1 0 1 → RI x2 0 414 → RI z0_0 0 0 → FLD ws p0 10 0 (.int z0_0) → AX 14 34 (HDp gdR) Ps ws p0 → (0 ≤ Int32.toInt p1 ∧ Int32.toInt p1 ≤ 1) → AX 23 44 (ISp gda gdb) Ps ws p0 → AXL 22 43 (KNp gdLU gdLV) Ps ws p0 → AX 16 36 (KOp p1 gdU gdV) Ps ws p0 → AXL 20 41 (NMp gdL) Ps ws p0 → (za16, 36) ∈ Ps → FLD ws p0 10 16 (.ref za16) → (za14, 34) ∈ Ps → FLD ws p0 10 14 (.ref za14) → AX2 16 36 14 34 (fun f g => CIp p1 x2 f g) Ps ws p0 → WD D cy (GX za16) A s wr_X10_image__2 wa_X10_image__2 Ps w0 Ps ws H locs → lv_has ls 3 [(0, .ref p0), (1, .int p1), (2, .int x2)] → W p l e (headSpec (Cond.code yX10_image cX10_image 3 (some .boolean) :: gT) ({ frames := 2, cells := 0, slots := 0, locals := 400 } : Room)).room s m ([.ref p0, .int p1] : List Value).toArray below meth c H locs 0 0 Q (F0 m 18 ls []) := by
    intro nf18
    induction nf18 with
    | zero =>
      intro x2 z0_0 za16 za14 ws H locs ls hn18 r_p1 r_x2 r_z0_0 m_z0_0 x_HD_p0_gdR x_IMG1_p1 x_ISA_p0_gda_gdb x_KNM_p0_gdLU_gdLV x_KO_p0_p1_gdU_gdV x_NAM_p0_gdL h_za16 m_za16 h_za14 m_za14 x_CIM_p0_p1__2 hw hl
      exact absurd hn18 (by have q0 := r_x2.1; have u0 := r_x2.2; omega)
    | succ nf18 ih18 =>
      intro x2 z0_0 za16 za14 ws H locs ls hn18 r_p1 r_x2 r_z0_0 m_z0_0 x_HD_p0_gdR x_IMG1_p1 x_ISA_p0_gda_gdb x_KNM_p0_gdLU_gdLV x_KO_p0_p1_gdU_gdV x_NAM_p0_gdL h_za16 m_za16 h_za14 m_za14 x_CIM_p0_p1__2 hw hl
      refine lv_iload_n hx hb dX10_image_18 rfl (lv_at hl 2 rfl) ?_
      refine lv_sipush (v := 414) hx hb dX10_image_19 (by decide) ?_
      refine lv_icmp_ge (tgt := 49) hx hb dX10_image_22 (by decide) (fun c_22 => ?_) (fun c_22 => ?_)
      · have r_x2 : RI x2 414 414 := rc_le2 rl_414 r_x2 (ti_le c_22) (by decide)
        have hw := WD.back hw h_za16 rfl (fun f9 q9 => by obtain ⟨g9, e9⟩ := AX2.arr hw x_CIM_p0_p1__2 m_za16 f9 q9; exact CI_end e9 (r_p1.to (by decide)) (r_x2.to (by decide)))
        have x_KPI_p0_p1_gdR_gdU_gdV : AX 16 36 (KPp (pick p1 0 gdR gdU) (pick p1 1 gdR gdV)) Ps ws p0 := AX2.fst hw.2.2.1 x_CIM_p0_p1__2 x_KO_p0_p1_gdU_gdV x_HD_p0_gdR (fun f9 g9 a9 b9 c9 => KP_end a9 (r_x2.to (by decide)) (r_p1.to (by decide)) b9 c9)
        refine lv_iconst (v := 0) hx hb dX10_image_49 (by decide) ?_
        refine lv_istore_n (lv' := [(2, .int 0), (0, .ref p0), (1, .int p1)]) hx hb dX10_image_50 rfl hl (by decide) rfl (fun ls hl => ?_)
        have x_CNI_p0_p1_0 : AXL 22 43 (CKp gdL gdLU gdLV p1 0) Ps ws p0 := AXL.imp x_KNM_p0_gdLU_gdLV (fun f9 h9 => CKn_0 h9)
        exact B51 4294967298 0 z0_0 ws _ _ ls (by have q0 := rl_0.1; have u0 := rl_0.2; omega) r_p1 (rl_0.to (by decide)) r_z0_0 m_z0_0 x_HD_p0_gdR x_IMG1_p1 x_ISA_p0_gda_gdb x_KO_p0_p1_gdU_gdV x_KPI_p0_p1_gdR_gdU_gdV x_NAM_p0_gdL x_CNI_p0_p1_0 hw (lv_sub hl [1, 2, 0] rfl)
      · have r_x2 : RI x2 0 413 := rc_lt1 r_x2 rl_414 (ti_nle c_22) (by decide)
        refine lv_aload_n hx hb dX10_image_25 rfl (lv_at hl 0 rfl) ?_
        refine tg_mem (ci := 10) (C := RX10) (T := TX10) (N := 49) hx hb hts inX10 hown hK hw 16 m_za16 rfl (by decide) (hts _ tw_1153) (fun _ h9 => h9) dX10_image_26 ?_
        refine lv_sipush (v := 414) hx hb dX10_image_29 (by decide) ?_
        refine lv_iload_n hx hb dX10_image_32 rfl (lv_at hl 1 rfl) ?_
        refine lv_imul hx hb dX10_image_33 (lv_topi (fun v_8 e_v_8 => ?_))
        obtain ⟨t_v_8, r_v_8⟩ := tq_mul (lo := 0) (hi := 414) rl_414 r_p1 (by decide +kernel) e_v_8
        have t_v_8 : v_8.toInt = 414 * p1.toInt := t_v_8
        refine lv_iload_n hx hb dX10_image_34 rfl (lv_at hl 2 rfl) ?_
        refine lv_iadd hx hb dX10_image_35 (lv_topi (fun v_9 e_v_9 => ?_))
        obtain ⟨t_v_9, r_v_9⟩ := tq_add (lo := 0) (hi := 827) r_v_8 r_x2 (by decide +kernel) e_v_9
        refine lv_aload_n hx hb dX10_image_36 rfl (lv_at hl 0 rfl) ?_
        refine tg_mem (ci := 10) (C := RX10) (T := TX10) (N := 49) hx hb hts inX10 hown hK hw 14 m_za14 rfl (by decide) (hts _ tw_1151) (fun _ h9 => h9) dX10_image_37 ?_
        refine lv_iload_n hx hb dX10_image_40 rfl (lv_at hl 2 rfl) ?_
        refine tg_iald (lo := (-2147483648)) (hi := 2147483647) hx hb hK hw h_za14 rfl 0 413 r_x2 (by decide) (by decide +kernel) dX10_image_41 (fun v_10 r_v_10 m_v_10 o_v_10 => ?_)
        have x_CIMV_p0_p1_x2_x2_v_10 : AX2 16 36 14 34 (fun f g => CIp p1 x2 f g ∧ g (Int32.toNatClampNeg x2) = v_10) Ps ws p0 := AX2.el hw x_CIM_p0_p1__2 m_za14 m_v_10
        have hw8 := hw
        have e_11 : x2.toNatClampNeg = v_9.toNatClampNeg % 414 := by have k1 := r_x2.cl (by decide); have k2 := r_v_9.cl (by decide); have b10 := r_p1.1; have b20 := r_p1.2; have b11 := r_x2.1; have b21 := r_x2.2; have b12 := r_z0_0.1; have b22 := r_z0_0.2; have b13 := r_v_8.1; have b23 := r_v_8.2; have b14 := r_v_9.1; have b24 := r_v_9.2; have b15 := r_v_10.1; have b25 := r_v_10.2; omega
        refine tg_iasto hx hb hK hw h_za16 rfl 0 827 r_v_9 (by decide) (show RI _ (canon (v_9.toNatClampNeg % 414)).1 (canon (v_9.toNatClampNeg % 414)).2 by rw [← e_11]; exact o_v_10) (fun _ _ _ _ _ => Or.inl rfl) (by decide) dX10_image_42 (fun ws H locs hw hF9 hU9 => ?_)
        have x_KO_p0_p1_gdU_gdV : AX 16 36 (KOp p1 gdU gdV) Ps ws p0 := AX.ast hF9 hU9 x_KO_p0_p1_gdU_gdV m_za16 (fun f9 h9 => KOp.upd h9 (r_p1.to (by decide)) (r_x2.to (by decide)) (by have k1 := t_v_9; omega))
        have x_CIMT_p0_p1_x2 : AX2 16 36 14 34 (fun f g => ∀ k9 : Int32, k9.toInt = Int32.toInt x2 + 1 → CIp p1 k9 f g) Ps ws p0 := AX2.ast hF9 hU9 x_CIMV_p0_p1_x2_x2_v_10 m_za16 (by decide) (fun f9 g9 h9 => fun k9 e9 => CI_step h9 (r_p1.to (by decide)) (r_x2.to (by decide)) rfl e9 (by have k1 := t_v_9; omega))
        have m_v_10 := AEL.over hw8 hF9 h_za14 m_v_10 (by decide)
        have x_HD_p0_gdR := AX.over hF9 x_HD_p0_gdR (by decide)
        have x_ISA_p0_gda_gdb := AX.over hF9 x_ISA_p0_gda_gdb (by decide)
        have x_KNM_p0_gdLU_gdLV := AXL.over hF9 x_KNM_p0_gdLU_gdLV (by decide)
        have x_NAM_p0_gdL := AXL.over hF9 x_NAM_p0_gdL (by decide)
        have m_z0_0 := FLD.over hF9 m_z0_0 (by decide)
        have m_za16 := FLD.over hF9 m_za16 (by decide)
        have m_za14 := FLD.over hF9 m_za14 (by decide)
        obtain ⟨v_12, e_v_12⟩ : ∃ q9 : Int32, q9 = x2 + Int32.ofInt 1 := ⟨_, rfl⟩
        obtain ⟨t_v_12, r_v_12⟩ := tq_add (lo := 1) (hi := 414) r_x2 (show RI (Int32.ofInt 1) 1 1 by unfold RI; decide +kernel) (by decide +kernel) e_v_12
        have t_v_12 : v_12.toInt = x2.toInt + 1 := t_v_12
        refine lv_iinc (v := v_12) (lv' := [(2, .int v_12), (0, .ref p0), (1, .int p1)]) hx hb dX10_image_43 hl (k := 2) rfl e_v_12.symm (by decide) rfl (fun ls hl => ?_)
        refine lv_goto (tgt := 18) hx hb dX10_image_46 (by decide) ?_
        have x_CIM_p0_p1_v_12 : AX2 16 36 14 34 (fun f g => CIp p1 v_12 f g) Ps ws p0 := AX2.imp x_CIMT_p0_p1_x2 (fun f9 g9 h9 => h9 _ t_v_12)
        exact ih18 v_12 z0_0 za16 za14 ws _ _ ls (by have q0 := r_v_12.1; have u0 := r_v_12.2; have o0 := r_x2.1; have p0 := r_x2.2; omega) r_p1 (r_v_12.to (by decide)) r_z0_0 m_z0_0 x_HD_p0_gdR x_IMG1_p1 x_ISA_p0_gda_gdb x_KNM_p0_gdLU_gdLV x_KO_p0_p1_gdU_gdV x_NAM_p0_gdL h_za16 m_za16 h_za14 m_za14 x_CIM_p0_p1_v_12 hw (lv_sub hl [1, 2, 0] rfl)
  refine lv_aload_n hx hb dX10_image_0 rfl (lv_at hl 0 rfl) ?_
  refine lv_iconst (v := 0) hx hb dX10_image_1 (by decide) ?_
  refine tg_put (ci := 10) (ts := ty_MODEL) (v := .int 0) (ty := .int) (C := RX10) (T := TX10) (N := 49) hx hb hts inX10 tyX10 tyX10_ok nmX10 hown hK hw h_p0 rfl rfl 0 (by decide) (hts _ tw_1137) (fun _ h9 => h9) rfl (by decide +kernel) rfl rfl (ft := vI (-2147483648) 2147483647) rfl ⟨_, rfl, (rl_0.to (by decide))⟩ (by decide) dX10_image_2 (fun ws H locs hw n_k_13 hF9 => ?_)
  have x_HD_p0_gdR := AX.over hF9 x_HD_p0_gdR (by decide)
  have x_KP_p0_gdU_gdV := AX.over hF9 x_KP_p0_gdU_gdV (by decide)
  have x_ISA_p0_gda_gdb := AX.over hF9 x_ISA_p0_gda_gdb (by decide)
  have x_NAM_p0_gdL := AXL.over hF9 x_NAM_p0_gdL (by decide)
  have x_KNM_p0_gdLU_gdLV := AXL.over hF9 x_KNM_p0_gdLU_gdLV (by decide)
  refine lv_iload_n hx hb dX10_image_5 rfl (lv_at hl 1 rfl) ?_
  refine lv_iconst (v := 0) hx hb dX10_image_6 (by decide) ?_
  refine lv_iconst (v := 1) hx hb dX10_image_7 (by decide) ?_
  refine tk_ir (va_runS (As := [.int p1, .int 0, .int 1]) (rest := []) ⟨hx, hb, hml, hown, hts⟩ (c_X10_isIn__12 l D cy z H.size Ps ws hw.1 p1 0 1 r_p1 rl_0 rl_1) (va_cwS 3 hts (gS tw_1359 tw_1360 tw_15 tw_1361) rfl rfl rfl (by decide +kernel) ⟨Nat.le_of_ble_eq_true rfl, Nat.le_of_ble_eq_true rfl⟩) (tg_preS hw hK hSD hA) rfl rfl hl.1 rfl (lv_room (Nat.le_of_ble_eq_true rfl)) dX10_image_8 ⟨Nat.le_of_ble_eq_true rfl, Nat.le_of_ble_eq_true rfl⟩) hw hA (fun v_14  H locs hp_v_14 hw => ?_)
  have r_v_14 : RI v_14 0 1 := hp_v_14.1
  by_cases c9_v_14 : v_14 = 0
  · have r_v_14 : RI v_14 0 0 := by rw [c9_v_14]; exact rl_0
    have x_IMG0_p1 := ((hp_v_14.2.1 c9_v_14).1)
    refine lv_if_ne (tgt := 16) hx hb dX10_image_11 (by decide) (fun c_11 => ?_) (fun c_11 => ?_)
    · exact absurd (r_v_14.eq.trans rl_0.eq.symm) ((ti_ne c_11))
    · have x_KPI_p0_p1_gdR_gdU_gdV : AX 16 36 (KPp (pick p1 0 gdR gdU) (pick p1 1 gdR gdV)) Ps ws p0 := AX.imp x_KP_p0_gdU_gdV (fun f9 h9 => by rw [pick_ne (n := 0) (by have k1 := x_IMG0_p1; omega), pick_ne (n := 1) (by have k1 := x_IMG0_p1; omega)]; exact h9)
      have x_ISI_p0_p1_gda_gdb : AX 23 44 (ISp (pick p1 0 1 gda) (pick p1 1 1 gdb)) Ps ws p0 := AX.imp x_ISA_p0_gda_gdb (fun f9 h9 => by rw [pick_ne (n := 0) (by have k1 := x_IMG0_p1; omega), pick_ne (n := 1) (by have k1 := x_IMG0_p1; omega)]; exact h9)
      have x_KNI_p0_p1_gdL_gdLU_gdLV : AXL 22 43 (KNp (pick p1 0 gdL gdLU) (pick p1 1 gdL gdLV)) Ps ws p0 := AXL.imp x_KNM_p0_gdLU_gdLV (fun f9 h9 => by rw [pick_ne (n := 0) (by have k1 := x_IMG0_p1; omega), pick_ne (n := 1) (by have k1 := x_IMG0_p1; omega)]; exact h9)
      refine lv_iconst (v := 0) hx hb dX10_image_14 (by decide) ?_
      subst hQ
      exact W.zret (v := 0) hx hb hr (rfl) (fun t ht hW => ⟨⟨0, ws, rfl, ⟨⟨rl_0.to (by decide), (fun h0 => trivial), (fun _ => trivial), ⟨x_HD_p0_gdR, x_KPI_p0_p1_gdR_gdU_gdV, x_ISI_p0_p1_gda_gdb, x_NAM_p0_gdL, x_KNI_p0_p1_gdL_gdLU_gdLV, trivial⟩, (fun _ => trivial), (fun _ => trivial)⟩, hw.1, hw.2.2.2.2.1⟩, by rw [ht]; exact hw.2.1, va_K.moved hW.alike hK, hw.2.2.1⟩, hw.2.2.2.1.F ht⟩) hw.2.2.2.1.2.2 dX10_image_15
  · have r_v_14 : RI v_14 1 1 := rc_neL r_v_14 rl_0 (ti_ne c9_v_14) (by decide)
    have r_p1 : RI p1 0 1 := ((hp_v_14.2.2 c9_v_14).1)
    have x_IMG1_p1 := ((hp_v_14.2.2 c9_v_14).2.1)
    refine lv_if_ne (tgt := 16) hx hb dX10_image_11 (by decide) (fun c_11 => ?_) (fun c_11 => ?_)
    · have x_IMG1_p1 : (0 ≤ Int32.toInt p1 ∧ Int32.toInt p1 ≤ 1) := by have k1 := r_p1.1; have k2 := r_p1.2; omega
      have x_KO_p0_p1_gdU_gdV : AX 16 36 (KOp p1 gdU gdV) Ps ws p0 := AX.imp x_KP_p0_gdU_gdV (fun f9 h9 => ⟨fun _ => h9.2, fun _ => h9.1⟩)
      refine lv_iconst (v := 0) hx hb dX10_image_16 (by decide) ?_
      refine lv_istore_n (lv' := [(2, .int 0), (0, .ref p0), (1, .int p1)]) hx hb dX10_image_17 rfl hl (by decide) rfl (fun ls hl => ?_)
      obtain ⟨b_15, m_b_15, h_b_15⟩ := tg_fldR (k := 16) (ci := 10) (ts := ty_MODEL) (u := 36) hw h_p0 rfl rfl
      obtain ⟨b_16, m_b_16, h_b_16⟩ := tg_fldR (k := 14) (ci := 10) (ts := ty_MODEL) (u := 34) hw h_p0 rfl rfl
      have x_CIM_p0_p1_0 : AX2 16 36 14 34 (fun f g => CIp p1 0 f g) Ps ws p0 := AX2.imp (AX.two (ax_of (k := 16) (t := 36) hw h_p0 rfl (fun _ => rfl)) (ax_of (k := 14) (t := 34) hw h_p0 rfl (fun _ => rfl))) (fun f9 g9 h9 => ⟨h9.2.1, ⟨fun _ => h9.1.1.2, fun _ => h9.1.1.1⟩, fun j9 q9 => absurd q9 (by rw [Int32.toInt_zero]; omega)⟩)
      have hw := WD.weak b_15 hw
      exact B18 4294967298 0 0 b_15 b_16 ws _ _ ls (by have q0 := rl_0.1; have u0 := rl_0.2; omega) r_p1 (rl_0.to (by decide)) rl_0 n_k_13 x_HD_p0_gdR x_IMG1_p1 x_ISA_p0_gda_gdb x_KNM_p0_gdLU_gdLV x_KO_p0_p1_gdU_gdV x_NAM_p0_gdL h_b_15 m_b_15 h_b_16 m_b_16 x_CIM_p0_p1_0 hw (lv_sub hl [1, 2, 0] rfl)
    · have r_v_14 : RI v_14 1 0 := rc_eq1 r_v_14 rl_0 (ti_eq c_11) (by decide)
      exact (r_v_14.no (by decide)).elim
abbrev wr_X10_restore__2 : List (Nat × Nat) := [(10, 0), (10, 25)]
abbrev wa_X10_restore__2 : List Nat := [34, 41]
set_option maxHeartbeats 4000000 in
set_option maxRecDepth 100000 in
theorem c_X10_restore__2 (l : Launch) (D : va_G) (cy : Nat → ClassId) (z : Nat → Nat) (sz : Nat) (Ps : PSI) (w0 : va_W) (hT : HT cy GG Ps w0) (p0 : Nat) (p1 : Int32) (gdR : Nat → Int32) (gdU : Nat → Int32) (gdV : Nat → Int32) (gda : Int32) (gdb : Int32) (gdL : Nat → Int64) (gdLU : Nat → Int64) (gdLV : Nat → Int64) (h_p0 : (p0, 55) ∈ Ps) (r_p1 : RI p1 (-2147483648) 2147483647) (x_HD_p0_gdR : AX 14 34 (HDp gdR) Ps w0 p0) (x_KP_p0_gdU_gdV : AX 16 36 (KPp gdU gdV) Ps w0 p0) (x_ISA_p0_gda_gdb : AX 23 44 (ISp gda gdb) Ps w0 p0) (x_NAM_p0_gdL : AXL 20 41 (NMp gdL) Ps w0 p0) (x_KNM_p0_gdLU_gdLV : AXL 22 43 (KNp gdLU gdLV) Ps w0 p0) : Met l yX10_restore (Cond.code yX10_restore cX10_restore 3 (some .boolean) :: gT) ({ frames := 2, cells := 0, slots := 0, locals := 400 } : Room) (va_Pc [.ref p0, .int p1] (PRE D cy z w0 sz)) (va_Qi (fun (r : Int32) (u : va_W) => (RI r 0 1 ∧ (r = 0 → (¬ RSP p1 gda gdb) ∧ AX 14 34 (HDp gdR) Ps u p0 ∧ AX 16 36 (KPp gdU gdV) Ps u p0 ∧ AX 23 44 (ISp gda gdb) Ps u p0 ∧ AXL 20 41 (NMp gdL) Ps u p0 ∧ AXL 22 43 (KNp gdLU gdLV) Ps u p0 ∧ True) ∧ (¬ r = 0 → RSP p1 gda gdb ∧ AX 14 34 (HDp (pick p1 0 gdU gdV)) Ps u p0 ∧ AX 16 36 (KPp gdU gdV) Ps u p0 ∧ AX 23 44 (ISp gda gdb) Ps u p0 ∧ AXL 20 41 (NMp (pick p1 0 gdLU gdLV)) Ps u p0 ∧ AXL 22 43 (KNp gdLU gdLV) Ps u p0 ∧ True)) ∧ HT cy GG Ps u ∧ FR wr_X10_restore__2 wa_X10_restore__2 Ps w0 u) (BB D cy (va_A w0 sz) (fun (u : va_W) => u)) (va_A w0 sz)) 0 0 (va_A w0 sz) := by
  refine Met.ofW (cc := cX10_restore) (maxL := 3) (ret := (some .boolean)) (by decide) rfl ?_
  intro p e s m args below meth c s₁ B hml hv
  obtain ⟨rfl, hsz, hP, hK, hD0, hSD⟩ := hv
  have hx := B.exec
  have hb := B.bytes
  have hr := B.returns
  have hlocks := B.notSynchronized
  have hts : ∀ w ∈ gT, w.before _ s = true := fun w h => atoms_spec (ws := Cond.code yX10_restore cX10_restore 3 (some .boolean) :: gT) B.pre w (List.mem_cons_of_mem _ h)
  have hown : s.vm.findClass RX10 = some m.cls := findClass_of_methodNamed B.named
  subst hsz
  have hD := hD0.self (sz := s.heap.size)
  generalize hAe : va_A w0 s.heap.size = A at hD hSD ⊢
  have hA : ∀ q : Nat, s.heap.size ≤ q → A q := fun q h => by rw [← hAe]; exact Or.inr h
  have hl := lv_entry ([.ref p0, .int p1]) (n := 3) (Nat.le_of_ble_eq_true rfl)
  rw [lg_entry_eq]
  generalize (lg_sl ([.ref p0, .int p1]) ++ List.replicate (3 - (lg_sl ([.ref p0, .int p1])).length) Slot.unset).toArray = ls at hl ⊢
  have hl : lv_has ls 3 [(0, .ref p0), (1, .int p1)] := hl
  refine nameQ (fun Q hQ => ?_)
  have hw : WD D cy GG A s wr_X10_restore__2 wa_X10_restore__2 Ps w0 Ps w0 s.heap [] := ⟨hT, hP, hD, va_S.rf, FR.rf, hT.1, [], (List.append_nil _).symm⟩
  have B60 : ∀ (nf : Nat) (x2 : Int32) (z0_0 : Int32) (ws : va_W) (H : Heap) (locs : List Loc) (ls : Array Slot), 24 - x2.toInt < (nf : Int) → RI p1 0 1 → RI x2 0 24 → RI z0_0 0 0 → FLD ws p0 10 0 (.int z0_0) → AX 14 34 (HDp (pick p1 0 gdU gdV)) Ps ws p0 → (0 ≤ Int32.toInt p1 ∧ Int32.toInt p1 ≤ 1) → AX 23 44 (ISp gda gdb) Ps ws p0 → AXL 22 43 (KNp gdLU gdLV) Ps ws p0 → AX 16 36 (KPp gdU gdV) Ps ws p0 → RSP p1 gda gdb → AXL 20 41 (RNp (pick p1 0 gdLU gdLV) x2) Ps ws p0 → WD D cy GG A s wr_X10_restore__2 wa_X10_restore__2 Ps w0 Ps ws H locs → lv_has ls 3 [(0, .ref p0), (1, .int p1), (2, .int x2)] → W p l e (headSpec (Cond.code yX10_restore cX10_restore 3 (some .boolean) :: gT) ({ frames := 2, cells := 0, slots := 0, locals := 400 } : Room)).room s m ([.ref p0, .int p1] : List Value).toArray below meth c H locs 0 0 Q (F0 m 60 ls []) := by
    intro nf60
    induction nf60 with
    | zero =>
      intro x2 z0_0 ws H locs ls hn60 r_p1 r_x2 r_z0_0 m_z0_0 x_HDR_p0_p1_gdU_gdV x_IMG1_p1 x_ISA_p0_gda_gdb x_KNM_p0_gdLU_gdLV x_KP_p0_gdU_gdV x_RS1_p1_gda_gdb x_RNI_p0_p1__2 hw hl
      exact absurd hn60 (by have q0 := r_x2.1; have u0 := r_x2.2; omega)
    | succ nf60 ih60 =>
      intro x2 z0_0 ws H locs ls hn60 r_p1 r_x2 r_z0_0 m_z0_0 x_HDR_p0_p1_gdU_gdV x_IMG1_p1 x_ISA_p0_gda_gdb x_KNM_p0_gdLU_gdLV x_KP_p0_gdU_gdV x_RS1_p1_gda_gdb x_RNI_p0_p1__2 hw hl
      refine lv_iload_n hx hb dX10_restore_60 rfl (lv_at hl 2 rfl) ?_
      refine lv_bipush (v := 24) hx hb dX10_restore_61 (by decide) ?_
      refine lv_icmp_ge (tgt := 89) hx hb dX10_restore_63 (by decide) (fun c_63 => ?_) (fun c_63 => ?_)
      · have r_x2 : RI x2 24 24 := rc_le2 rl_24 r_x2 (ti_le c_63) (by decide)
        have x_NMR_p0_p1_gdLU_gdLV : AXL 20 41 (NMp (pick p1 0 gdLU gdLV)) Ps ws p0 := AXL.imp x_RNI_p0_p1__2 (fun f9 h9 => RN_end h9 (r_x2.to (by decide)))
        refine lv_aload_n hx hb dX10_restore_89 rfl (lv_at hl 0 rfl) ?_
        refine lv_iconst (v := 0) hx hb dX10_restore_90 (by decide) ?_
        refine tg_put (ci := 10) (ts := ty_MODEL) (v := .int 0) (ty := .int) (C := RX10) (T := TX10) (N := 49) hx hb hts inX10 tyX10 tyX10_ok nmX10 hown hK hw h_p0 rfl rfl 25 (by decide) (hts _ tw_1162) (fun _ h9 => h9) rfl (by decide +kernel) rfl rfl (ft := vI 0 8) rfl ⟨_, rfl, (rl_0.to (by decide))⟩ (by decide) dX10_restore_91 (fun ws H locs hw n_k_1 hF9 => ?_)
        have m_z0_0 := FLD.over hF9 m_z0_0 (by decide)
        have x_HDR_p0_p1_gdU_gdV := AX.over hF9 x_HDR_p0_p1_gdU_gdV (by decide)
        have x_ISA_p0_gda_gdb := AX.over hF9 x_ISA_p0_gda_gdb (by decide)
        have x_KNM_p0_gdLU_gdLV := AXL.over hF9 x_KNM_p0_gdLU_gdLV (by decide)
        have x_KP_p0_gdU_gdV := AX.over hF9 x_KP_p0_gdU_gdV (by decide)
        have x_RNI_p0_p1__2 := AXL.over hF9 x_RNI_p0_p1__2 (by decide)
        have x_NMR_p0_p1_gdLU_gdLV := AXL.over hF9 x_NMR_p0_p1_gdLU_gdLV (by decide)
        refine lv_iconst (v := 1) hx hb dX10_restore_94 (by decide) ?_
        subst hQ
        exact W.zret (v := 1) hx hb hr (rfl) (fun t ht hW => ⟨⟨1, ws, rfl, ⟨⟨rl_1.to (by decide), (fun h0 => absurd h0 (by decide)), (fun h0 => ⟨x_RS1_p1_gda_gdb, x_HDR_p0_p1_gdU_gdV, x_KP_p0_gdU_gdV, x_ISA_p0_gda_gdb, x_NMR_p0_p1_gdLU_gdLV, x_KNM_p0_gdLU_gdLV, trivial⟩)⟩, hw.1, hw.2.2.2.2.1⟩, by rw [ht]; exact hw.2.1, va_K.moved hW.alike hK, hw.2.2.1⟩, hw.2.2.2.1.F ht⟩) hw.2.2.2.1.2.2 dX10_restore_95
      · have r_x2 : RI x2 0 23 := rc_lt1 r_x2 rl_24 (ti_nle c_63) (by decide)
        refine lv_aload_n hx hb dX10_restore_66 rfl (lv_at hl 0 rfl) ?_
        refine tg_get (ci := 10) (ts := ty_MODEL) (C := RX10) (T := TX10) (N := 49) hx hb hts inX10 hown hK hw h_p0 rfl rfl 20 (by decide) (hts _ tw_1157) (fun _ h9 => h9) (ft := vR 41) rfl dX10_restore_67 (fun u_2 hv_u_2 m_u_2 => ?_)
        obtain ⟨vu_2, rfl, h_vu_2⟩ := hv_u_2
        refine lv_iload_n hx hb dX10_restore_70 rfl (lv_at hl 2 rfl) ?_
        refine lv_aload_n hx hb dX10_restore_71 rfl (lv_at hl 0 rfl) ?_
        refine tg_get (ci := 10) (ts := ty_MODEL) (C := RX10) (T := TX10) (N := 49) hx hb hts inX10 hown hK hw h_p0 rfl rfl 22 (by decide) (hts _ tw_1159) (fun _ h9 => h9) (ft := vR 43) rfl dX10_restore_72 (fun u_3 hv_u_3 m_u_3 => ?_)
        obtain ⟨vu_3, rfl, h_vu_3⟩ := hv_u_3
        refine lv_bipush (v := 24) hx hb dX10_restore_75 (by decide) ?_
        refine lv_iload_n hx hb dX10_restore_77 rfl (lv_at hl 1 rfl) ?_
        refine lv_imul hx hb dX10_restore_78 (lv_topi (fun v_4 e_v_4 => ?_))
        obtain ⟨t_v_4, r_v_4⟩ := tq_mul (lo := 0) (hi := 24) rl_24 r_p1 (by decide +kernel) e_v_4
        have t_v_4 : v_4.toInt = 24 * p1.toInt := t_v_4
        refine lv_iload_n hx hb dX10_restore_79 rfl (lv_at hl 2 rfl) ?_
        refine lv_iadd hx hb dX10_restore_80 (lv_topi (fun v_5 e_v_5 => ?_))
        obtain ⟨t_v_5, r_v_5⟩ := tq_add (lo := 0) (hi := 47) r_v_4 r_x2 (by decide +kernel) e_v_5
        refine tg_laldE hx hb hK hw h_vu_3 rfl r_v_5 (by decide) dX10_restore_81 (fun w_6 r_w_6 l_w_6 => ?_)
        have mp8 := m_u_2
        have me8 := AXL.el hw.2.2.1 x_KNM_p0_gdLU_gdLV m_u_3 l_w_6
        refine tg_lastE hx hb hK hw h_vu_2 rfl r_x2 (by decide) r_w_6 (by decide) (by decide) dX10_restore_82 (fun ws H locs hw hF9 hU9 => ?_)
        have x_HDR_p0_p1_gdU_gdV := AX.over hF9 x_HDR_p0_p1_gdU_gdV (by decide)
        have x_ISA_p0_gda_gdb := AX.over hF9 x_ISA_p0_gda_gdb (by decide)
        have x_KNM_p0_gdLU_gdLV := AXL.over hF9 x_KNM_p0_gdLU_gdLV (by decide)
        have x_KP_p0_gdU_gdV := AX.over hF9 x_KP_p0_gdU_gdV (by decide)
        have m_z0_0 := FLD.over hF9 m_z0_0 (by decide)
        have m_u_2 := FLD.over hF9 m_u_2 (by decide)
        have m_u_3 := FLD.over hF9 m_u_3 (by decide)
        have x_RNIT_p0_p1_x2 : AXL 20 41 (fun f => ∀ k9 : Int32, k9.toInt = Int32.toInt x2 + 1 → RNp (pick p1 0 gdLU gdLV) k9 f) Ps ws p0 := AXL.ast hF9 hU9 x_RNI_p0_p1__2 mp8 (fun f9 h9 k9 t9 => RN_step h9 me8 (r_p1.to (by decide)) (r_x2.to (by decide)) (by have k1 := t_v_5; omega) t9)
        obtain ⟨v_7, e_v_7⟩ : ∃ q9 : Int32, q9 = x2 + Int32.ofInt 1 := ⟨_, rfl⟩
        obtain ⟨t_v_7, r_v_7⟩ := tq_add (lo := 1) (hi := 24) r_x2 (show RI (Int32.ofInt 1) 1 1 by unfold RI; decide +kernel) (by decide +kernel) e_v_7
        have t_v_7 : v_7.toInt = x2.toInt + 1 := t_v_7
        refine lv_iinc (v := v_7) (lv' := [(2, .int v_7), (0, .ref p0), (1, .int p1)]) hx hb dX10_restore_83 hl (k := 2) rfl e_v_7.symm (by decide) rfl (fun ls hl => ?_)
        refine lv_goto (tgt := 60) hx hb dX10_restore_86 (by decide) ?_
        have x_RNI_p0_p1_v_7 : AXL 20 41 (RNp (pick p1 0 gdLU gdLV) v_7) Ps ws p0 := AXL.imp x_RNIT_p0_p1_x2 (fun f9 h9 => h9 _ t_v_7)
        exact ih60 v_7 z0_0 ws _ _ ls (by have q0 := r_v_7.1; have u0 := r_v_7.2; have o0 := r_x2.1; have p0 := r_x2.2; omega) r_p1 (r_v_7.to (by decide)) r_z0_0 m_z0_0 x_HDR_p0_p1_gdU_gdV x_IMG1_p1 x_ISA_p0_gda_gdb x_KNM_p0_gdLU_gdLV x_KP_p0_gdU_gdV x_RS1_p1_gda_gdb x_RNI_p0_p1_v_7 hw (lv_sub hl [1, 2, 0] rfl)
  have B27 : ∀ (nf : Nat) (x2 : Int32) (z0_0 : Int32) (za14 : Nat) (za16 : Nat) (ws : va_W) (H : Heap) (locs : List Loc) (ls : Array Slot), 414 - x2.toInt < (nf : Int) → RI p1 0 1 → RI x2 0 414 → RI z0_0 0 0 → FLD ws p0 10 0 (.int z0_0) → (0 ≤ Int32.toInt p1 ∧ Int32.toInt p1 ≤ 1) → AX 23 44 (ISp gda gdb) Ps ws p0 → AXL 22 43 (KNp gdLU gdLV) Ps ws p0 → AX 16 36 (KPp gdU gdV) Ps ws p0 → AXL 20 41 (NMp gdL) Ps ws p0 → RSP p1 gda gdb → (za14, 34) ∈ Ps → FLD ws p0 10 14 (.ref za14) → (za16, 36) ∈ Ps → FLD ws p0 10 16 (.ref za16) → AX2 14 34 16 36 (fun f g => CSp p1 x2 f g) Ps ws p0 → WD D cy (GX za14) A s wr_X10_restore__2 wa_X10_restore__2 Ps w0 Ps ws H locs → lv_has ls 3 [(0, .ref p0), (1, .int p1), (2, .int x2)] → W p l e (headSpec (Cond.code yX10_restore cX10_restore 3 (some .boolean) :: gT) ({ frames := 2, cells := 0, slots := 0, locals := 400 } : Room)).room s m ([.ref p0, .int p1] : List Value).toArray below meth c H locs 0 0 Q (F0 m 27 ls []) := by
    intro nf27
    induction nf27 with
    | zero =>
      intro x2 z0_0 za14 za16 ws H locs ls hn27 r_p1 r_x2 r_z0_0 m_z0_0 x_IMG1_p1 x_ISA_p0_gda_gdb x_KNM_p0_gdLU_gdLV x_KP_p0_gdU_gdV x_NAM_p0_gdL x_RS1_p1_gda_gdb h_za14 m_za14 h_za16 m_za16 x_CRS_p0_p1__2 hw hl
      exact absurd hn27 (by have q0 := r_x2.1; have u0 := r_x2.2; omega)
    | succ nf27 ih27 =>
      intro x2 z0_0 za14 za16 ws H locs ls hn27 r_p1 r_x2 r_z0_0 m_z0_0 x_IMG1_p1 x_ISA_p0_gda_gdb x_KNM_p0_gdLU_gdLV x_KP_p0_gdU_gdV x_NAM_p0_gdL x_RS1_p1_gda_gdb h_za14 m_za14 h_za16 m_za16 x_CRS_p0_p1__2 hw hl
      refine lv_iload_n hx hb dX10_restore_27 rfl (lv_at hl 2 rfl) ?_
      refine lv_sipush (v := 414) hx hb dX10_restore_28 (by decide) ?_
      refine lv_icmp_ge (tgt := 58) hx hb dX10_restore_31 (by decide) (fun c_31 => ?_) (fun c_31 => ?_)
      · have r_x2 : RI x2 414 414 := rc_le2 rl_414 r_x2 (ti_le c_31) (by decide)
        have hw := WD.back hw h_za14 rfl (fun f9 q9 => by obtain ⟨g9, e9⟩ := AX2.arr hw x_CRS_p0_p1__2 m_za14 f9 q9; exact CS_end e9 (r_p1.to (by decide)) (r_x2.to (by decide)))
        have x_HDR_p0_p1_gdU_gdV : AX 14 34 (HDp (pick p1 0 gdU gdV)) Ps ws p0 := AX2.fst1 hw.2.2.1 x_CRS_p0_p1__2 x_KP_p0_gdU_gdV (fun f9 g9 a9 b9 => RS_end a9 (r_x2.to (by decide)) (r_p1.to (by decide)) b9)
        refine lv_iconst (v := 0) hx hb dX10_restore_58 (by decide) ?_
        refine lv_istore_n (lv' := [(2, .int 0), (0, .ref p0), (1, .int p1)]) hx hb dX10_restore_59 rfl hl (by decide) rfl (fun ls hl => ?_)
        have x_RNI_p0_p1_0 : AXL 20 41 (RNp (pick p1 0 gdLU gdLV) 0) Ps ws p0 := AXL.imp x_NAM_p0_gdL (fun f9 h9 => RN_0)
        exact B60 4294967298 0 z0_0 ws _ _ ls (by have q0 := rl_0.1; have u0 := rl_0.2; omega) r_p1 (rl_0.to (by decide)) r_z0_0 m_z0_0 x_HDR_p0_p1_gdU_gdV x_IMG1_p1 x_ISA_p0_gda_gdb x_KNM_p0_gdLU_gdLV x_KP_p0_gdU_gdV x_RS1_p1_gda_gdb x_RNI_p0_p1_0 hw (lv_sub hl [1, 2, 0] rfl)
      · have r_x2 : RI x2 0 413 := rc_lt1 r_x2 rl_414 (ti_nle c_31) (by decide)
        refine lv_aload_n hx hb dX10_restore_34 rfl (lv_at hl 0 rfl) ?_
        refine tg_mem (ci := 10) (C := RX10) (T := TX10) (N := 49) hx hb hts inX10 hown hK hw 14 m_za14 rfl (by decide) (hts _ tw_1151) (fun _ h9 => h9) dX10_restore_35 ?_
        refine lv_iload_n hx hb dX10_restore_38 rfl (lv_at hl 2 rfl) ?_
        refine lv_aload_n hx hb dX10_restore_39 rfl (lv_at hl 0 rfl) ?_
        refine tg_mem (ci := 10) (C := RX10) (T := TX10) (N := 49) hx hb hts inX10 hown hK hw 16 m_za16 rfl (by decide) (hts _ tw_1153) (fun _ h9 => h9) dX10_restore_40 ?_
        refine lv_sipush (v := 414) hx hb dX10_restore_43 (by decide) ?_
        refine lv_iload_n hx hb dX10_restore_46 rfl (lv_at hl 1 rfl) ?_
        refine lv_imul hx hb dX10_restore_47 (lv_topi (fun v_8 e_v_8 => ?_))
        obtain ⟨t_v_8, r_v_8⟩ := tq_mul (lo := 0) (hi := 414) rl_414 r_p1 (by decide +kernel) e_v_8
        have t_v_8 : v_8.toInt = 414 * p1.toInt := t_v_8
        refine lv_iload_n hx hb dX10_restore_48 rfl (lv_at hl 2 rfl) ?_
        refine lv_iadd hx hb dX10_restore_49 (lv_topi (fun v_9 e_v_9 => ?_))
        obtain ⟨t_v_9, r_v_9⟩ := tq_add (lo := 0) (hi := 827) r_v_8 r_x2 (by decide +kernel) e_v_9
        refine tg_iald (lo := (-2147483648)) (hi := 2147483647) hx hb hK hw h_za16 rfl 0 827 r_v_9 (by decide) (by decide +kernel) dX10_restore_50 (fun v_10 r_v_10 m_v_10 o_v_10 => ?_)
        have x_CRSV_p0_p1_x2_v_9_v_10 : AX2 14 34 16 36 (fun f g => CSp p1 x2 f g ∧ g (Int32.toNatClampNeg v_9) = v_10) Ps ws p0 := AX2.el hw x_CRS_p0_p1__2 m_za16 m_v_10
        have hw8 := hw
        have e_11 : v_9.toNatClampNeg % 414 = x2.toNatClampNeg := by have k1 := r_v_9.cl (by decide); have k2 := r_x2.cl (by decide); have b10 := r_p1.1; have b20 := r_p1.2; have b11 := r_x2.1; have b21 := r_x2.2; have b12 := r_z0_0.1; have b22 := r_z0_0.2; have b13 := r_v_8.1; have b23 := r_v_8.2; have b14 := r_v_9.1; have b24 := r_v_9.2; have b15 := r_v_10.1; have b25 := r_v_10.2; omega
        refine tg_iasto hx hb hK hw h_za14 rfl 0 413 r_x2 (by decide) (show RI _ (canon (x2.toNatClampNeg)).1 (canon (x2.toNatClampNeg)).2 by rw [← e_11]; exact o_v_10) (fun _ _ _ _ _ => Or.inl rfl) (by decide) dX10_restore_51 (fun ws H locs hw hF9 hU9 => ?_)
        have x_CRST_p0_p1_x2 : AX2 14 34 16 36 (fun f g => ∀ k9 : Int32, k9.toInt = Int32.toInt x2 + 1 → CSp p1 k9 f g) Ps ws p0 := AX2.ast hF9 hU9 x_CRSV_p0_p1_x2_v_9_v_10 m_za14 (by decide) (fun f9 g9 h9 => fun k9 e9 => CS_step h9 (r_p1.to (by decide)) (r_x2.to (by decide)) (by have k1 := t_v_9; omega) e9)
        have m_v_10 := AEL.over hw8 hF9 h_za16 m_v_10 (by decide)
        have x_ISA_p0_gda_gdb := AX.over hF9 x_ISA_p0_gda_gdb (by decide)
        have x_KNM_p0_gdLU_gdLV := AXL.over hF9 x_KNM_p0_gdLU_gdLV (by decide)
        have x_KP_p0_gdU_gdV := AX.over hF9 x_KP_p0_gdU_gdV (by decide)
        have x_NAM_p0_gdL := AXL.over hF9 x_NAM_p0_gdL (by decide)
        have m_z0_0 := FLD.over hF9 m_z0_0 (by decide)
        have m_za14 := FLD.over hF9 m_za14 (by decide)
        have m_za16 := FLD.over hF9 m_za16 (by decide)
        obtain ⟨v_12, e_v_12⟩ : ∃ q9 : Int32, q9 = x2 + Int32.ofInt 1 := ⟨_, rfl⟩
        obtain ⟨t_v_12, r_v_12⟩ := tq_add (lo := 1) (hi := 414) r_x2 (show RI (Int32.ofInt 1) 1 1 by unfold RI; decide +kernel) (by decide +kernel) e_v_12
        have t_v_12 : v_12.toInt = x2.toInt + 1 := t_v_12
        refine lv_iinc (v := v_12) (lv' := [(2, .int v_12), (0, .ref p0), (1, .int p1)]) hx hb dX10_restore_52 hl (k := 2) rfl e_v_12.symm (by decide) rfl (fun ls hl => ?_)
        refine lv_goto (tgt := 27) hx hb dX10_restore_55 (by decide) ?_
        have x_CRS_p0_p1_v_12 : AX2 14 34 16 36 (fun f g => CSp p1 v_12 f g) Ps ws p0 := AX2.imp x_CRST_p0_p1_x2 (fun f9 g9 h9 => h9 _ t_v_12)
        exact ih27 v_12 z0_0 za14 za16 ws _ _ ls (by have q0 := r_v_12.1; have u0 := r_v_12.2; have o0 := r_x2.1; have p0 := r_x2.2; omega) r_p1 (r_v_12.to (by decide)) r_z0_0 m_z0_0 x_IMG1_p1 x_ISA_p0_gda_gdb x_KNM_p0_gdLU_gdLV x_KP_p0_gdU_gdV x_NAM_p0_gdL x_RS1_p1_gda_gdb h_za14 m_za14 h_za16 m_za16 x_CRS_p0_p1_v_12 hw (lv_sub hl [1, 2, 0] rfl)
  refine lv_aload_n hx hb dX10_restore_0 rfl (lv_at hl 0 rfl) ?_
  refine lv_iconst (v := 0) hx hb dX10_restore_1 (by decide) ?_
  refine tg_put (ci := 10) (ts := ty_MODEL) (v := .int 0) (ty := .int) (C := RX10) (T := TX10) (N := 49) hx hb hts inX10 tyX10 tyX10_ok nmX10 hown hK hw h_p0 rfl rfl 0 (by decide) (hts _ tw_1137) (fun _ h9 => h9) rfl (by decide +kernel) rfl rfl (ft := vI (-2147483648) 2147483647) rfl ⟨_, rfl, (rl_0.to (by decide))⟩ (by decide) dX10_restore_2 (fun ws H locs hw n_k_13 hF9 => ?_)
  have x_HD_p0_gdR := AX.over hF9 x_HD_p0_gdR (by decide)
  have x_KP_p0_gdU_gdV := AX.over hF9 x_KP_p0_gdU_gdV (by decide)
  have x_ISA_p0_gda_gdb := AX.over hF9 x_ISA_p0_gda_gdb (by decide)
  have x_NAM_p0_gdL := AXL.over hF9 x_NAM_p0_gdL (by decide)
  have x_KNM_p0_gdLU_gdLV := AXL.over hF9 x_KNM_p0_gdLU_gdLV (by decide)
  refine lv_iload_n hx hb dX10_restore_5 rfl (lv_at hl 1 rfl) ?_
  refine lv_iconst (v := 0) hx hb dX10_restore_6 (by decide) ?_
  refine lv_iconst (v := 1) hx hb dX10_restore_7 (by decide) ?_
  refine tk_ir (va_runS (As := [.int p1, .int 0, .int 1]) (rest := []) ⟨hx, hb, hml, hown, hts⟩ (c_X10_isIn__12 l D cy z H.size Ps ws hw.1 p1 0 1 r_p1 rl_0 rl_1) (va_cwS 3 hts (gS tw_1359 tw_1360 tw_15 tw_1361) rfl rfl rfl (by decide +kernel) ⟨Nat.le_of_ble_eq_true rfl, Nat.le_of_ble_eq_true rfl⟩) (tg_preS hw hK hSD hA) rfl rfl hl.1 rfl (lv_room (Nat.le_of_ble_eq_true rfl)) dX10_restore_8 ⟨Nat.le_of_ble_eq_true rfl, Nat.le_of_ble_eq_true rfl⟩) hw hA (fun v_14  H locs hp_v_14 hw => ?_)
  have r_v_14 : RI v_14 0 1 := hp_v_14.1
  by_cases c9_v_14 : v_14 = 0
  · have r_v_14 : RI v_14 0 0 := by rw [c9_v_14]; exact rl_0
    have x_IMG0_p1 := ((hp_v_14.2.1 c9_v_14).1)
    refine lv_if_eq (tgt := 23) hx hb dX10_restore_11 (by decide) (fun c_11 => ?_) (fun c_11 => ?_)
    · have x_RS0_p1_gda_gdb : (¬ RSP p1 gda gdb) := RSP.out x_IMG0_p1
      refine lv_iconst (v := 0) hx hb dX10_restore_23 (by decide) ?_
      subst hQ
      exact W.zret (v := 0) hx hb hr (rfl) (fun t ht hW => ⟨⟨0, ws, rfl, ⟨⟨rl_0.to (by decide), (fun h0 => ⟨x_RS0_p1_gda_gdb, x_HD_p0_gdR, x_KP_p0_gdU_gdV, x_ISA_p0_gda_gdb, x_NAM_p0_gdL, x_KNM_p0_gdLU_gdLV, trivial⟩), (fun h0 => absurd rfl h0)⟩, hw.1, hw.2.2.2.2.1⟩, by rw [ht]; exact hw.2.1, va_K.moved hW.alike hK, hw.2.2.1⟩, hw.2.2.2.1.F ht⟩) hw.2.2.2.1.2.2 dX10_restore_24
    · exact absurd (r_v_14.eq.trans rl_0.eq.symm) ((ti_ne c_11))
  · have r_v_14 : RI v_14 1 1 := rc_neL r_v_14 rl_0 (ti_ne c9_v_14) (by decide)
    have r_p1 : RI p1 0 1 := ((hp_v_14.2.2 c9_v_14).1)
    have x_IMG1_p1 := ((hp_v_14.2.2 c9_v_14).2.1)
    refine lv_if_eq (tgt := 23) hx hb dX10_restore_11 (by decide) (fun c_11 => ?_) (fun c_11 => ?_)
    · have r_v_14 : RI v_14 1 0 := rc_eq1 r_v_14 rl_0 (ti_eq c_11) (by decide)
      exact (r_v_14.no (by decide)).elim
    · refine lv_aload_n hx hb dX10_restore_14 rfl (lv_at hl 0 rfl) ?_
      refine tg_get (ci := 10) (ts := ty_MODEL) (C := RX10) (T := TX10) (N := 49) hx hb hts inX10 hown hK hw h_p0 rfl rfl 23 (by decide) (hts _ tw_1160) (fun _ h9 => h9) (ft := vR 44) rfl dX10_restore_15 (fun u_15 hv_u_15 m_u_15 => ?_)
      obtain ⟨vu_15, rfl, h_vu_15⟩ := hv_u_15
      refine lv_iload_n hx hb dX10_restore_18 rfl (lv_at hl 1 rfl) ?_
      refine tg_zaldE (lo := (-2147483648)) (hi := 2147483647) hx hb hK hw h_vu_15 rfl 0 1 r_p1 (by decide) (by exact fun _ _ _ => ⟨Int.le_refl _, Int.le_refl _⟩) dX10_restore_19 (fun v_16 r_v_16 l_v_16 => ?_)
      have rs9 := AX.rs hw x_ISA_p0_gda_gdb m_u_15 l_v_16 (r_p1.to (by decide))
      refine lv_if_ne (tgt := 25) hx hb dX10_restore_20 (by decide) (fun c_20 => ?_) (fun c_20 => ?_)
      · have x_RS1_p1_gda_gdb : RSP p1 gda gdb := rs9.mpr c_20
        refine lv_iconst (v := 0) hx hb dX10_restore_25 (by decide) ?_
        refine lv_istore_n (lv' := [(2, .int 0), (0, .ref p0), (1, .int p1)]) hx hb dX10_restore_26 rfl hl (by decide) rfl (fun ls hl => ?_)
        obtain ⟨b_17, m_b_17, h_b_17⟩ := tg_fldR (k := 14) (ci := 10) (ts := ty_MODEL) (u := 34) hw h_p0 rfl rfl
        obtain ⟨b_18, m_b_18, h_b_18⟩ := tg_fldR (k := 16) (ci := 10) (ts := ty_MODEL) (u := 36) hw h_p0 rfl rfl
        have x_CRS_p0_p1_0 : AX2 14 34 16 36 (fun f g => CSp p1 0 f g) Ps ws p0 := AX2.imp (AX.two (ax_of (k := 14) (t := 34) hw h_p0 rfl (fun _ => rfl)) (ax_of (k := 16) (t := 36) hw h_p0 rfl (fun _ => rfl))) (fun f9 g9 h9 => ⟨h9.2.1, fun j9 q9 => absurd q9 (by rw [Int32.toInt_zero]; omega)⟩)
        have hw := WD.weak b_17 hw
        exact B27 4294967298 0 0 b_17 b_18 ws _ _ ls (by have q0 := rl_0.1; have u0 := rl_0.2; omega) r_p1 (rl_0.to (by decide)) rl_0 n_k_13 x_IMG1_p1 x_ISA_p0_gda_gdb x_KNM_p0_gdLU_gdLV x_KP_p0_gdU_gdV x_NAM_p0_gdL x_RS1_p1_gda_gdb h_b_17 m_b_17 h_b_18 m_b_18 x_CRS_p0_p1_0 hw (lv_sub hl [1, 2, 0] rfl)
      · have r_v_16 : RI v_16 0 0 := rc_eq1 r_v_16 rl_0 (ti_eq c_20) (by decide)
        have x_RS0_p1_gda_gdb : (¬ RSP p1 gda gdb) := (fun h9 => rs9.mp h9 c_20)
        refine lv_iconst (v := 0) hx hb dX10_restore_23 (by decide) ?_
        subst hQ
        exact W.zret (v := 0) hx hb hr (rfl) (fun t ht hW => ⟨⟨0, ws, rfl, ⟨⟨rl_0.to (by decide), (fun h0 => ⟨x_RS0_p1_gda_gdb, x_HD_p0_gdR, x_KP_p0_gdU_gdV, x_ISA_p0_gda_gdb, x_NAM_p0_gdL, x_KNM_p0_gdLU_gdLV, trivial⟩), (fun h0 => absurd rfl h0)⟩, hw.1, hw.2.2.2.2.1⟩, by rw [ht]; exact hw.2.1, va_K.moved hW.alike hK, hw.2.2.1⟩, hw.2.2.2.1.F ht⟩) hw.2.2.2.1.2.2 dX10_restore_24
abbrev wr_X10_post__4 : List (Nat × Nat) := [(10, 0), (10, 2), (10, 3), (10, 4), (10, 5), (10, 6), (10, 7), (10, 8), (10, 9), (10, 10), (10, 11), (10, 12), (10, 13), (10, 25)]
abbrev wa_X10_post__4 : List Nat := [34, 35, 41, 42, 45]
set_option maxHeartbeats 4000000 in
set_option maxRecDepth 100000 in
theorem c_X10_post__4 (l : Launch) (D : va_G) (cy : Nat → ClassId) (z : Nat → Nat) (sz : Nat) (Ps : PSI) (w0 : va_W) (hT : HT cy GG Ps w0) (p0 : Nat) (gdR : Nat → Int32) (gdL : Nat → Int64) (s0 : OS) (h_p0 : (p0, 55) ∈ Ps) (x_HD_p0_gdR : AX 14 34 (HDp gdR) Ps w0 p0) (x_NAM_p0_gdL : AXL 20 41 (NMp gdL) Ps w0 p0) (o_p0 : OV vw_MODEL Ps w0 p0 s0) : Met l yX10_post (Cond.code yX10_post cX10_post 3 (some .int) :: gT) ({ frames := 9, cells := 0, slots := 0, locals := 1800 } : Room) (va_Pc [.ref p0] (PRE D cy z w0 sz)) (va_Qi (fun (r : Int32) (u : va_W) => (((f_X10_post__3 s0).1.1 99 = 2 → AXL 20 41 (NMp gdL) Ps u p0) ∧ ((f_X10_post__3 s0).1.1 99 = 1 → AXL2 20 41 21 42 (fun f g => ∀ j, j < 24 → f j = g j) Ps u p0) ∧ (((f_X10_post__3 s0).1.1 99 = 2 → AX 14 34 (HDp gdR) Ps u p0) ∧ ((f_X10_post__3 s0).1.1 99 = 1 → AX2 14 34 15 35 (fun f g => NRp f g) Ps u p0) ∧ ((OV vw_MODEL Ps u p0 ((f_X10_post__3 s0).1) ∧ (f_X10_post__3 s0).2 = r ∧ True) ∧ (RI r (-2147483648) 2147483647 ∧ (r = 0 → True) ∧ (¬ r = 0 → True) ∧ (TLM u p0 (0) ∧ True) ∧ (r.toInt < 0 → True) ∧ (0 ≤ r.toInt → True))))) ∧ HT cy GG Ps u ∧ FR wr_X10_post__4 wa_X10_post__4 Ps w0 u) (BB D cy (va_A w0 sz) (fun (u : va_W) => u)) (va_A w0 sz)) 0 0 (va_A w0 sz) := by
  refine Met.ofW (cc := cX10_post) (maxL := 3) (ret := (some .int)) (by decide) rfl ?_
  intro p e s m args below meth c s₁ B hml hv
  obtain ⟨rfl, hsz, hP, hK, hD0, hSD⟩ := hv
  have hx := B.exec
  have hb := B.bytes
  have hr := B.returns
  have hlocks := B.notSynchronized
  have hts : ∀ w ∈ gT, w.before _ s = true := fun w h => atoms_spec (ws := Cond.code yX10_post cX10_post 3 (some .int) :: gT) B.pre w (List.mem_cons_of_mem _ h)
  have hown : s.vm.findClass RX10 = some m.cls := findClass_of_methodNamed B.named
  subst hsz
  have hD := hD0.self (sz := s.heap.size)
  generalize hAe : va_A w0 s.heap.size = A at hD hSD ⊢
  have hA : ∀ q : Nat, s.heap.size ≤ q → A q := fun q h => by rw [← hAe]; exact Or.inr h
  have hl := lv_entry ([.ref p0]) (n := 3) (Nat.le_of_ble_eq_true rfl)
  rw [lg_entry_eq]
  generalize (lg_sl ([.ref p0]) ++ List.replicate (3 - (lg_sl ([.ref p0])).length) Slot.unset).toArray = ls at hl ⊢
  have hl : lv_has ls 3 [(0, .ref p0)] := hl
  refine nameQ (fun Q hQ => ?_)
  have hw : WD D cy GG A s wr_X10_post__4 wa_X10_post__4 Ps w0 Ps w0 s.heap [] := ⟨hT, hP, hD, va_S.rf, FR.rf, hT.1, [], (List.append_nil _).symm⟩
  obtain ⟨R9, hR⟩ : ∃ q9 : OS × Int32, f_X10_post__3 s0 = q9 := ⟨_, rfl⟩
  have hE := hR
  have B113 : ∀ (nf : Nat) (x1 : Int32) (x2 : Int32) (z0_2 : Int32) (z0_7 : Int32) (s0 : OS) (ws : va_W) (H : Heap) (locs : List Loc) (ls : Array Slot), 24 - x2.toInt < (nf : Int) → RI x1 (-2147483648) 2147483647 → RI x2 0 24 → RI z0_2 0 0 → FLD ws p0 10 2 (.int z0_2) → RI z0_7 0 0 → FLD ws p0 10 7 (.int z0_7) → AX2 14 34 15 35 (fun f g => NRp f g) Ps ws p0 → AX 15 35 (fun f => RH2p f) Ps ws p0 → TLM ws p0 (0) → AXL2 20 41 21 42 (fun f g => PNp x2 f g) Ps ws p0 → OV vw_MODEL Ps ws p0 s0 → f_X10_post__3_113 nf x1 x2 s0 = R9 → WD D cy GG A s wr_X10_post__4 wa_X10_post__4 Ps w0 Ps ws H locs → lv_has ls 3 [(0, .ref p0), (1, .int x1), (2, .int x2)] → W p l e (headSpec (Cond.code yX10_post cX10_post 3 (some .int) :: gT) ({ frames := 9, cells := 0, slots := 0, locals := 1800 } : Room)).room s m ([.ref p0] : List Value).toArray below meth c H locs 0 0 Q (F0 m 113 ls []) := by
    intro nf113
    induction nf113 with
    | zero =>
      intro x1 x2 z0_2 z0_7 s0 ws H locs ls hn113 r_x1 r_x2 r_z0_2 m_z0_2 r_z0_7 m_z0_7 x_NR_p0 x_RH_p0 x_TLM_p0_0 x_PNI_p0__2 o_p0 hE hw hl
      exact absurd hn113 (by have q0 := r_x2.1; have u0 := r_x2.2; omega)
    | succ nf113 ih113 =>
      intro x1 x2 z0_2 z0_7 s0 ws H locs ls hn113 r_x1 r_x2 r_z0_2 m_z0_2 r_z0_7 m_z0_7 x_NR_p0 x_RH_p0 x_TLM_p0_0 x_PNI_p0__2 o_p0 hE hw hl
      have q_z0_2 : s0.1 2 = z0_2 := OV.eqI (V := vw_MODEL) hw.2.2.1 o_p0 m_z0_2 (by decide)
      have q_z0_7 : s0.1 7 = z0_7 := OV.eqI (V := vw_MODEL) hw.2.2.1 o_p0 m_z0_7 (by decide)
      refine lv_iload_n hx hb dX10_post_113 rfl (lv_at hl 2 rfl) ?_
      refine lv_bipush (v := 24) hx hb dX10_post_114 (by decide) ?_
      refine lv_icmp_ge (tgt := 137) hx hb dX10_post_116 (by decide) (fun c_116 => ?_) (fun c_116 => ?_)
      · have r_x2 : RI x2 24 24 := rc_le2 rl_24 r_x2 (ti_le c_116) (by decide)
        have x_NRL_p0 : AXL2 20 41 21 42 (fun f g => ∀ j, j < 24 → f j = g j) Ps ws p0 := AXL2.imp x_PNI_p0__2 (fun f9 g9 h9 j9 q9 => h9 j9 (by have k1 := r_x2.1; omega))
        refine lv_aload_n hx hb dX10_post_137 rfl (lv_at hl 0 rfl) ?_
        refine tk_v (va_runV (As := []) (rest := []) ⟨hx, hb, hml, hown, hts⟩ (c_X10_startSo__1 l D cy z H.size Ps ws hw.1 p0 h_p0 x_NR_p0) (cwV 0 hts (gV tw_1417 tw_1419 ts_64 tw_15 tw_1420) rfl rfl rfl (by decide +kernel) ⟨Nat.le_of_ble_eq_true rfl, Nat.le_of_ble_eq_true rfl⟩) (tg_preV hw hK hSD hA (ci := 10) (q := (RX10, TX10, 49)) rfl h_p0 rfl) rfl rfl hl.1 rfl (lv_room (Nat.le_of_ble_eq_true rfl)) dX10_post_138 ⟨Nat.le_of_ble_eq_true rfl, Nat.le_of_ble_eq_true rfl⟩) hw hA ⟨by decide, by decide⟩ (fun ws H locs hp_v_1 hw hF9 => ?_)
        have m_z0_2 := FLD.over hF9 m_z0_2 (by decide)
        have m_z0_7 := FLD.over hF9 m_z0_7 (by decide)
        have x_RH_p0 := AX.over hF9 x_RH_p0 (by decide)
        have x_TLM_p0_0 := TLM.over hF9 x_TLM_p0_0 (by decide)
        have x_PNI_p0__2 := AXL2.over hF9 x_PNI_p0__2 (by decide)
        have x_NRL_p0 := AXL2.over hF9 x_NRL_p0 (by decide)
        have o_p0 := OV.over (V := vw_MODEL) hF9 o_p0 (by decide)
        have x_NR_p0 := (hp_v_1.1)
        refine lv_aload_n hx hb dX10_post_141 rfl (lv_at hl 0 rfl) ?_
        refine lv_iconst (v := 0) hx hb dX10_post_142 (by decide) ?_
        refine tg_put (ci := 10) (ts := ty_MODEL) (v := .int 0) (ty := .int) (C := RX10) (T := TX10) (N := 49) hx hb hts inX10 tyX10 tyX10_ok nmX10 hown hK hw h_p0 rfl rfl 25 (by decide) (hts _ tw_1162) (fun _ h9 => h9) rfl (by decide +kernel) rfl rfl (ft := vI 0 8) rfl ⟨_, rfl, (rl_0.to (by decide))⟩ (by decide) dX10_post_143 (fun ws H locs hw n_k_2 hF9 => ?_)
        have m_z0_2 := FLD.over hF9 m_z0_2 (by decide)
        have m_z0_7 := FLD.over hF9 m_z0_7 (by decide)
        have x_RH_p0 := AX.over hF9 x_RH_p0 (by decide)
        have x_TLM_p0_0 := TLM.over hF9 x_TLM_p0_0 (by decide)
        have x_PNI_p0__2 := AXL2.over hF9 x_PNI_p0__2 (by decide)
        have x_NRL_p0 := AXL2.over hF9 x_NRL_p0 (by decide)
        have x_NR_p0 := AX2.over hF9 x_NR_p0 (by decide)
        obtain ⟨sg_3, q_sg_3⟩ : ∃ q9 : OS, sI s0 25 (0 : Int32) = q9 := ⟨_, rfl⟩
        have o_p0 : OV vw_MODEL Ps ws p0 sg_3 := by rw [← q_sg_3]; exact OV.putI (V := vw_MODEL) hF9 n_k_2 o_p0 (by decide)
        refine lv_iload_n hx hb dX10_post_146 rfl (lv_at hl 1 rfl) ?_
        obtain ⟨sg_4, q_sg_4⟩ : ∃ q9 : OS, sI sg_3 99 (1 : Int32) = q9 := ⟨_, rfl⟩
        have o_p0 : OV vw_MODEL Ps ws p0 sg_4 := by rw [← q_sg_4]; exact OV.gh o_p0 (by decide)
        simp only [f_X10_post__3_113, ↓reduceIte, q_z0_2, q_z0_7, eq_true c_116, q_sg_3, q_sg_4] at hE
        subst hQ
        exact W.iret (v := x1) hx hb hr (fun t ht hW => ⟨⟨x1, ws, rfl, ⟨⟨(by rw [hR, ← hE, ← q_sg_4]; intro h9; exact absurd (show (1 : Int32) = 2 from h9) (by decide)), (by rw [hR, ← hE, ← q_sg_4]; intro h9; exact x_NRL_p0), (by rw [hR, ← hE, ← q_sg_4]; intro h9; exact absurd (show (1 : Int32) = 2 from h9) (by decide)), (by rw [hR, ← hE, ← q_sg_4]; intro h9; exact x_NR_p0), ⟨(by rw [hR, ← hE]; exact o_p0), (by rw [hR, ← hE]), trivial⟩, r_x1.to (by decide), (fun h0 => trivial), (fun h0 => trivial), ⟨x_TLM_p0_0, trivial⟩, (fun _ => trivial), (fun _ => trivial)⟩, hw.1, hw.2.2.2.2.1⟩, by rw [ht]; exact hw.2.1, va_K.moved hW.alike hK, hw.2.2.1⟩, hw.2.2.2.1.F ht⟩) hw.2.2.2.1.2.2 dX10_post_147
      · have r_x2 : RI x2 0 23 := rc_lt1 r_x2 rl_24 (ti_nle c_116) (by decide)
        refine lv_aload_n hx hb dX10_post_119 rfl (lv_at hl 0 rfl) ?_
        refine tg_get (ci := 10) (ts := ty_MODEL) (C := RX10) (T := TX10) (N := 49) hx hb hts inX10 hown hK hw h_p0 rfl rfl 20 (by decide) (hts _ tw_1157) (fun _ h9 => h9) (ft := vR 41) rfl dX10_post_120 (fun u_5 hv_u_5 m_u_5 => ?_)
        obtain ⟨vu_5, rfl, h_vu_5⟩ := hv_u_5
        refine lv_iload_n hx hb dX10_post_123 rfl (lv_at hl 2 rfl) ?_
        refine lv_aload_n hx hb dX10_post_124 rfl (lv_at hl 0 rfl) ?_
        refine tg_get (ci := 10) (ts := ty_MODEL) (C := RX10) (T := TX10) (N := 49) hx hb hts inX10 hown hK hw h_p0 rfl rfl 21 (by decide) (hts _ tw_1158) (fun _ h9 => h9) (ft := vR 42) rfl dX10_post_125 (fun u_6 hv_u_6 m_u_6 => ?_)
        obtain ⟨vu_6, rfl, h_vu_6⟩ := hv_u_6
        refine lv_iload_n hx hb dX10_post_128 rfl (lv_at hl 2 rfl) ?_
        refine tg_laldE hx hb hK hw h_vu_6 rfl r_x2 (by decide) dX10_post_129 (fun w_7 r_w_7 l_w_7 => ?_)
        have q_w_7 : s0.2.2.2 21 (Int32.toNatClampNeg x2) = w_7 := OV.eqB (V := vw_MODEL) (t := 42) hw.2.2.1 o_p0 m_u_6 l_w_7 (by decide)
        have mp8 := m_u_5
        have mq8 := m_u_6
        refine tg_lastE hx hb hK hw h_vu_5 rfl r_x2 (by decide) r_w_7 (by decide) (by decide) dX10_post_130 (fun ws H locs hw hF9 hU9 => ?_)
        have x_NR_p0 := AX2.over hF9 x_NR_p0 (by decide)
        have x_RH_p0 := AX.over hF9 x_RH_p0 (by decide)
        have x_TLM_p0_0 := TLM.over hF9 x_TLM_p0_0 (by decide)
        have m_z0_2 := FLD.over hF9 m_z0_2 (by decide)
        have m_z0_7 := FLD.over hF9 m_z0_7 (by decide)
        have m_u_5 := FLD.over hF9 m_u_5 (by decide)
        have m_u_6 := FLD.over hF9 m_u_6 (by decide)
        have o_p0 := OV.over (V := vw_MODEL) hF9 o_p0 (by decide)
        have x_PNIT_p0_x2 : AXL2 20 41 21 42 (fun f g => ∀ k9 : Int32, k9.toInt = Int32.toInt x2 + 1 → PNp k9 f g) Ps ws p0 := AXL2.ast hF9 hU9 x_PNI_p0__2 mp8 mq8 l_w_7 (by decide) (fun f9 g9 h9 e9 k9 t9 => PN_step h9 e9 (r_x2.to (by decide)) t9)
        obtain ⟨v_8, e_v_8⟩ : ∃ q9 : Int32, q9 = x2 + Int32.ofInt 1 := ⟨_, rfl⟩
        obtain ⟨t_v_8, r_v_8⟩ := tq_add (lo := 1) (hi := 24) r_x2 (show RI (Int32.ofInt 1) 1 1 by unfold RI; decide +kernel) (by decide +kernel) e_v_8
        have t_v_8 : v_8.toInt = x2.toInt + 1 := t_v_8
        refine lv_iinc (v := v_8) (lv' := [(2, .int v_8), (0, .ref p0), (1, .int x1)]) hx hb dX10_post_131 hl (k := 2) rfl e_v_8.symm (by decide) rfl (fun ls hl => ?_)
        have q_v_8 : x2 + (1 : Int32) = v_8 := by rw [e_v_8, show Int32.ofInt 1 = (1 : Int32) by decide]
        refine lv_goto (tgt := 113) hx hb dX10_post_134 (by decide) ?_
        simp only [f_X10_post__3_113, ↓reduceIte, q_z0_2, q_z0_7, eq_false c_116, q_w_7, q_v_8] at hE
        have x_PNI_p0_v_8 : AXL2 20 41 21 42 (fun f g => PNp v_8 f g) Ps ws p0 := AXL2.imp x_PNIT_p0_x2 (fun f9 g9 h9 => h9 _ t_v_8)
        exact ih113 x1 v_8 z0_2 z0_7 s0 ws _ _ ls (by have q0 := r_v_8.1; have u0 := r_v_8.2; have o0 := r_x2.1; have p0 := r_x2.2; omega) r_x1 (r_v_8.to (by decide)) r_z0_2 m_z0_2 r_z0_7 m_z0_7 x_NR_p0 x_RH_p0 x_TLM_p0_0 x_PNI_p0_v_8 o_p0 hE hw (lv_sub hl [1, 2, 0] rfl)
  have B87 : ∀ (nf : Nat) (x1 : Int32) (x2 : Int32) (z0_2 : Int32) (z0_7 : Int32) (za14 : Nat) (za15 : Nat) (s0 : OS) (ws : va_W) (H : Heap) (locs : List Loc) (ls : Array Slot), 84 - x2.toInt < (nf : Int) → RI x1 (-2147483648) 2147483647 → RI x2 0 84 → RI z0_2 0 0 → FLD ws p0 10 2 (.int z0_2) → RI z0_7 0 0 → FLD ws p0 10 7 (.int z0_7) → AXL 20 41 (NMp gdL) Ps ws p0 → AX 15 35 (fun f => RH2p f) Ps ws p0 → TLM ws p0 (0) → (za14, 34) ∈ Ps → FLD ws p0 10 14 (.ref za14) → (za15, 35) ∈ Ps → FLD ws p0 10 15 (.ref za15) → AX2 14 34 15 35 (fun f g => CRp x2 f g) Ps ws p0 → OV vw_MODEL Ps ws p0 s0 → f_X10_post__3_87 nf x1 x2 s0 = R9 → WD D cy (GX za14) A s wr_X10_post__4 wa_X10_post__4 Ps w0 Ps ws H locs → lv_has ls 3 [(0, .ref p0), (1, .int x1), (2, .int x2)] → W p l e (headSpec (Cond.code yX10_post cX10_post 3 (some .int) :: gT) ({ frames := 9, cells := 0, slots := 0, locals := 1800 } : Room)).room s m ([.ref p0] : List Value).toArray below meth c H locs 0 0 Q (F0 m 87 ls []) := by
    intro nf87
    induction nf87 with
    | zero =>
      intro x1 x2 z0_2 z0_7 za14 za15 s0 ws H locs ls hn87 r_x1 r_x2 r_z0_2 m_z0_2 r_z0_7 m_z0_7 x_NAM_p0_gdL x_RH_p0 x_TLM_p0_0 h_za14 m_za14 h_za15 m_za15 x_CPR_p0__2 o_p0 hE hw hl
      exact absurd hn87 (by have q0 := r_x2.1; have u0 := r_x2.2; omega)
    | succ nf87 ih87 =>
      intro x1 x2 z0_2 z0_7 za14 za15 s0 ws H locs ls hn87 r_x1 r_x2 r_z0_2 m_z0_2 r_z0_7 m_z0_7 x_NAM_p0_gdL x_RH_p0 x_TLM_p0_0 h_za14 m_za14 h_za15 m_za15 x_CPR_p0__2 o_p0 hE hw hl
      have q_z0_2 : s0.1 2 = z0_2 := OV.eqI (V := vw_MODEL) hw.2.2.1 o_p0 m_z0_2 (by decide)
      have q_z0_7 : s0.1 7 = z0_7 := OV.eqI (V := vw_MODEL) hw.2.2.1 o_p0 m_z0_7 (by decide)
      refine lv_iload_n hx hb dX10_post_87 rfl (lv_at hl 2 rfl) ?_
      refine lv_bipush (v := 84) hx hb dX10_post_88 (by decide) ?_
      refine lv_icmp_ge (tgt := 111) hx hb dX10_post_90 (by decide) (fun c_90 => ?_) (fun c_90 => ?_)
      · have r_x2 : RI x2 84 84 := rc_le2 rl_84 r_x2 (ti_le c_90) (by decide)
        have x_NR_p0 : AX2 14 34 15 35 (fun f g => NRp f g) Ps ws p0 := AX2.imp x_CPR_p0__2 (fun f9 g9 h9 j9 k9 => h9.2.2 j9 (by have q9 := r_x2.1; omega))
        have hw := WD.back hw h_za14 rfl (fun f9 q9 => by obtain ⟨g9, e9⟩ := AX2.arr hw x_CPR_p0__2 m_za14 f9 q9; exact CR_end e9 (r_x2.to (by decide)))
        refine lv_iconst (v := 0) hx hb dX10_post_111 (by decide) ?_
        refine lv_istore_n (lv' := [(2, .int 0), (0, .ref p0), (1, .int x1)]) hx hb dX10_post_112 rfl hl (by decide) rfl (fun ls hl => ?_)
        simp only [f_X10_post__3_87, ↓reduceIte, q_z0_2, q_z0_7, eq_true c_90] at hE
        have x_PNI_p0_0 : AXL2 20 41 21 42 (fun f g => PNp 0 f g) Ps ws p0 := AXL2.imp (axl2_of hw.1 h_p0) (fun f9 g9 h9 => PN_0)
        exact B113 4294967298 x1 0 z0_2 z0_7 s0 ws _ _ ls (by have q0 := rl_0.1; have u0 := rl_0.2; omega) r_x1 (rl_0.to (by decide)) r_z0_2 m_z0_2 r_z0_7 m_z0_7 x_NR_p0 x_RH_p0 x_TLM_p0_0 x_PNI_p0_0 o_p0 hE hw (lv_sub hl [1, 2, 0] rfl)
      · have r_x2 : RI x2 0 83 := rc_lt1 r_x2 rl_84 (ti_nle c_90) (by decide)
        refine lv_aload_n hx hb dX10_post_93 rfl (lv_at hl 0 rfl) ?_
        refine tg_mem (ci := 10) (C := RX10) (T := TX10) (N := 49) hx hb hts inX10 hown hK hw 14 m_za14 rfl (by decide) (hts _ tw_1151) (fun _ h9 => h9) dX10_post_94 ?_
        refine lv_iload_n hx hb dX10_post_97 rfl (lv_at hl 2 rfl) ?_
        refine lv_aload_n hx hb dX10_post_98 rfl (lv_at hl 0 rfl) ?_
        refine tg_mem (ci := 10) (C := RX10) (T := TX10) (N := 49) hx hb hts inX10 hown hK hw 15 m_za15 rfl (by decide) (hts _ tw_1152) (fun _ h9 => h9) dX10_post_99 ?_
        refine lv_iload_n hx hb dX10_post_102 rfl (lv_at hl 2 rfl) ?_
        refine tg_iald (lo := (-2147483648)) (hi := 2147483647) hx hb hK hw h_za15 rfl 0 83 r_x2 (by decide) (by decide +kernel) dX10_post_103 (fun v_9 r_v_9 m_v_9 o_v_9 => ?_)
        have q_v_9 : s0.2.2.1 15 (Int32.toNatClampNeg x2) = v_9 := OV.eqA (V := vw_MODEL) (t := 35) hw.2.2.1 o_p0 m_za15 m_v_9 (by decide)
        have x_CPRV_p0_x2_x2_v_9 : AX2 14 34 15 35 (fun f g => CRp x2 f g ∧ g (Int32.toNatClampNeg x2) = v_9) Ps ws p0 := AX2.el hw x_CPR_p0__2 m_za15 m_v_9
        have hw8 := hw
        have e_10 : x2.toNatClampNeg = x2.toNatClampNeg := by have k1 := r_x2.cl (by decide); have k2 := r_x2.cl (by decide); have b10 := r_x1.1; have b20 := r_x1.2; have b11 := r_x2.1; have b21 := r_x2.2; have b12 := r_z0_2.1; have b22 := r_z0_2.2; have b13 := r_z0_7.1; have b23 := r_z0_7.2; have b14 := r_v_9.1; have b24 := r_v_9.2; omega
        refine tg_iasto hx hb hK hw h_za14 rfl 0 83 r_x2 (by decide) (show RI _ (canon (x2.toNatClampNeg)).1 (canon (x2.toNatClampNeg)).2 by rw [← e_10]; exact o_v_9) (fun _ _ _ _ _ => Or.inl rfl) (by decide) dX10_post_104 (fun ws H locs hw hF9 hU9 => ?_)
        have x_CPRT_p0_x2 : AX2 14 34 15 35 (fun f g => ∀ k9 : Int32, k9.toInt = Int32.toInt x2 + 1 → CRp  k9 f g) Ps ws p0 := AX2.ast hF9 hU9 x_CPRV_p0_x2_x2_v_9 m_za14 (by decide) (fun f9 g9 h9 => fun k9 e9 => CR_step h9 (r_x2.to (by decide)) rfl e9)
        have m_v_9 := AEL.over hw8 hF9 h_za15 m_v_9 (by decide)
        have x_NAM_p0_gdL := AXL.over hF9 x_NAM_p0_gdL (by decide)
        have x_RH_p0 := AX.over hF9 x_RH_p0 (by decide)
        have x_TLM_p0_0 := TLM.over hF9 x_TLM_p0_0 (by decide)
        have m_z0_2 := FLD.over hF9 m_z0_2 (by decide)
        have m_z0_7 := FLD.over hF9 m_z0_7 (by decide)
        have m_za14 := FLD.over hF9 m_za14 (by decide)
        have m_za15 := FLD.over hF9 m_za15 (by decide)
        have o_p0 := OV.over (V := vw_MODEL) hF9 o_p0 (by decide)
        obtain ⟨v_11, e_v_11⟩ : ∃ q9 : Int32, q9 = x2 + Int32.ofInt 1 := ⟨_, rfl⟩
        obtain ⟨t_v_11, r_v_11⟩ := tq_add (lo := 1) (hi := 84) r_x2 (show RI (Int32.ofInt 1) 1 1 by unfold RI; decide +kernel) (by decide +kernel) e_v_11
        have t_v_11 : v_11.toInt = x2.toInt + 1 := t_v_11
        refine lv_iinc (v := v_11) (lv' := [(2, .int v_11), (0, .ref p0), (1, .int x1)]) hx hb dX10_post_105 hl (k := 2) rfl e_v_11.symm (by decide) rfl (fun ls hl => ?_)
        have q_v_11 : x2 + (1 : Int32) = v_11 := by rw [e_v_11, show Int32.ofInt 1 = (1 : Int32) by decide]
        refine lv_goto (tgt := 87) hx hb dX10_post_108 (by decide) ?_
        simp only [f_X10_post__3_87, ↓reduceIte, q_z0_2, q_z0_7, eq_false c_90, q_v_9, q_v_11] at hE
        have x_CPR_p0_v_11 : AX2 14 34 15 35 (fun f g => CRp v_11 f g) Ps ws p0 := AX2.imp x_CPRT_p0_x2 (fun f9 g9 h9 => h9 _ t_v_11)
        exact ih87 x1 v_11 z0_2 z0_7 za14 za15 s0 ws _ _ ls (by have q0 := r_v_11.1; have u0 := r_v_11.2; have o0 := r_x2.1; have p0 := r_x2.2; omega) r_x1 (r_v_11.to (by decide)) r_z0_2 m_z0_2 r_z0_7 m_z0_7 x_NAM_p0_gdL x_RH_p0 x_TLM_p0_0 h_za14 m_za14 h_za15 m_za15 x_CPR_p0_v_11 o_p0 hE hw (lv_sub hl [1, 2, 0] rfl)
  have B51 : ∀ (nf : Nat) (x1 : Int32) (z0_2 : Int32) (gz : Int) (s0 : OS) (ws : va_W) (H : Heap) (locs : List Loc) (ls : Array Slot), 941 - gz < (nf : Int) → RI x1 (-2147483648) 2147483647 → RI z0_2 0 0 → FLD ws p0 10 2 (.int z0_2) → AX 14 34 (HDp gdR) Ps ws p0 → AXL 20 41 (NMp gdL) Ps ws p0 → AX 15 35 (fun f => RH2p f) Ps ws p0 → TLM ws p0 (0) → TOP ws p0 (gz) → OV vw_MODEL Ps ws p0 s0 → f_X10_post__3_51 nf x1 s0 = R9 → WD D cy GG A s wr_X10_post__4 wa_X10_post__4 Ps w0 Ps ws H locs → lv_has ls 3 [(0, .ref p0), (1, .int x1)] → W p l e (headSpec (Cond.code yX10_post cX10_post 3 (some .int) :: gT) ({ frames := 9, cells := 0, slots := 0, locals := 1800 } : Room)).room s m ([.ref p0] : List Value).toArray below meth c H locs 0 0 Q (F0 m 51 ls []) := by
    intro nf51
    induction nf51 with
    | zero =>
      intro x1 z0_2 gz s0 ws H locs ls hn51 r_x1 r_z0_2 m_z0_2 x_HD_p0_gdR x_NAM_p0_gdL x_RH_p0 x_TLM_p0_0 x_TO_p0_gz o_p0 hE hw hl
      exact absurd hn51 (by obtain ⟨_, _, q9, u9⟩ := x_TO_p0_gz; omega)
    | succ nf51 ih51 =>
      intro x1 z0_2 gz s0 ws H locs ls hn51 r_x1 r_z0_2 m_z0_2 x_HD_p0_gdR x_NAM_p0_gdL x_RH_p0 x_TLM_p0_0 x_TO_p0_gz o_p0 hE hw hl
      have q_z0_2 : s0.1 2 = z0_2 := OV.eqI (V := vw_MODEL) hw.2.2.1 o_p0 m_z0_2 (by decide)
      refine lv_aload_n hx hb dX10_post_51 rfl (lv_at hl 0 rfl) ?_
      refine tg_get (ci := 10) (ts := ty_MODEL) (C := RX10) (T := TX10) (N := 49) hx hb hts inX10 hown hK hw h_p0 rfl rfl 7 (by decide) (hts _ tw_1144) (fun _ h9 => h9) (ft := vI (-2147483648) 2147483647) rfl dX10_post_52 (fun u_12 hv_u_12 m_u_12 => ?_)
      obtain ⟨vu_12, rfl, r_vu_12⟩ := hv_u_12
      have q_vu_12 : s0.1 7 = vu_12 := OV.eqI (V := vw_MODEL) hw.2.2.1 o_p0 m_u_12 (by decide)
      refine lv_if_eq (tgt := 85) hx hb dX10_post_55 (by decide) (fun c_55 => ?_) (fun c_55 => ?_)
      · have r_vu_12 : RI vu_12 0 0 := rc_eq1 r_vu_12 rl_0 (ti_eq c_55) (by decide)
        refine lv_iconst (v := 0) hx hb dX10_post_85 (by decide) ?_
        refine lv_istore_n (lv' := [(2, .int 0), (0, .ref p0), (1, .int x1)]) hx hb dX10_post_86 rfl hl (by decide) rfl (fun ls hl => ?_)
        simp only [f_X10_post__3_51, ↓reduceIte, q_z0_2, q_vu_12, eq_true c_55] at hE
        obtain ⟨b_13, m_b_13, h_b_13⟩ := tg_fldR (k := 14) (ci := 10) (ts := ty_MODEL) (u := 34) hw h_p0 rfl rfl
        obtain ⟨b_14, m_b_14, h_b_14⟩ := tg_fldR (k := 15) (ci := 10) (ts := ty_MODEL) (u := 35) hw h_p0 rfl rfl
        have x_CPR_p0_0 : AX2 14 34 15 35 (fun f g => CRp 0 f g) Ps ws p0 := AX2.imp (AX.two (ax_of (k := 14) (t := 34) hw h_p0 rfl (fun _ => rfl)) x_RH_p0) (fun f9 g9 h9 => ⟨h9.1.1.2, h9.2, fun j9 q9 => absurd q9 (by rw [Int32.toInt_zero]; omega)⟩)
        have hw := WD.weak b_13 hw
        exact B87 4294967298 x1 0 z0_2 vu_12 b_13 b_14 s0 ws _ _ ls (by have q0 := rl_0.1; have u0 := rl_0.2; omega) r_x1 (rl_0.to (by decide)) r_z0_2 m_z0_2 r_vu_12 m_u_12 x_NAM_p0_gdL x_RH_p0 x_TLM_p0_0 h_b_13 m_b_13 h_b_14 m_b_14 x_CPR_p0_0 o_p0 hE hw (lv_sub hl [1, 2, 0] rfl)
      · refine lv_aload_n hx hb dX10_post_58 rfl (lv_at hl 0 rfl) ?_
        refine tk_i (va_runV (As := []) (rest := []) ⟨hx, hb, hml, hown, hts⟩ (c_X10_readLine__1 l D cy z H.size Ps ws hw.1 p0 (gz) s0 h_p0 x_TO_p0_gz x_RH_p0 o_p0) (cwV 0 hts (gV tw_1314 tw_1316 ts_42 tw_15 tw_1317) rfl rfl rfl (by decide +kernel) ⟨Nat.le_of_ble_eq_true rfl, Nat.le_of_ble_eq_true rfl⟩) (tg_preV hw hK hSD hA (ci := 10) (q := (RX10, TX10, 49)) rfl h_p0 rfl) rfl rfl hl.1 rfl (lv_room (Nat.le_of_ble_eq_true rfl)) dX10_post_59 ⟨Nat.le_of_ble_eq_true rfl, Nat.le_of_ble_eq_true rfl⟩) hw hA ⟨by decide, by decide⟩ (fun v_15 ws H locs hp_v_15 hw hF9 => ?_)
        have m_z0_2 := FLD.over hF9 m_z0_2 (by decide)
        have x_HD_p0_gdR := AX.over hF9 x_HD_p0_gdR (by decide)
        have x_NAM_p0_gdL := AXL.over hF9 x_NAM_p0_gdL (by decide)
        have x_TLM_p0_0 := TLM.over hF9 x_TLM_p0_0 (by decide)
        obtain ⟨hfn, hp_v_15⟩ := hp_v_15
        obtain ⟨sg_16, q_sg_16⟩ : ∃ q9 : OS, (f_X10_readLine__1 s0).1 = q9 := ⟨_, rfl⟩
        have o_p0 : OV vw_MODEL Ps ws p0 sg_16 := by rw [← q_sg_16]; exact hfn.1
        have q_v_15 : (f_X10_readLine__1 s0).2 = v_15 := hfn.2.1
        have r_v_15 : RI v_15 0 1 := hp_v_15.1
        by_cases c9_v_15 : v_15 = 0
        · have r_v_15 : RI v_15 0 0 := by rw [c9_v_15]; exact rl_0
          refine lv_if_eq (tgt := 72) hx hb dX10_post_62 (by decide) (fun c_62 => ?_) (fun c_62 => ?_)
          · refine lv_iconst (v := (-1)) hx hb dX10_post_72 (by decide) ?_
            refine lv_aload_n hx hb dX10_post_73 rfl (lv_at hl 0 rfl) ?_
            refine tg_get (ci := 10) (ts := ty_MODEL) (C := RX10) (T := TX10) (N := 49) hx hb hts inX10 hown hK hw h_p0 rfl rfl 11 (by decide) (hts _ tw_1148) (fun _ h9 => h9) (ft := vI (-2147483648) 2147483647) rfl dX10_post_74 (fun u_17 hv_u_17 m_u_17 => ?_)
            obtain ⟨vu_17, rfl, r_vu_17⟩ := hv_u_17
            have q_vu_17 : sg_16.1 11 = vu_17 := OV.eqI (V := vw_MODEL) hw.2.2.1 o_p0 m_u_17 (by decide)
            refine lv_isub hx hb dX10_post_77 (lv_topi (fun v_18 e_v_18 => ?_))
            obtain ⟨t_v_18, r_v_18⟩ := tq_sub (lo := (-2147483648)) (hi := 2147483647) rl_m1 r_vu_17 (by decide +kernel) e_v_18
            have t_v_18 : v_18.toInt = (-1) - vu_17.toInt := t_v_18
            have q_v_18 : ((-1) : Int32) - vu_17 = v_18 := e_v_18.symm
            obtain ⟨sg_19, q_sg_19⟩ : ∃ q9 : OS, sI sg_16 99 (2 : Int32) = q9 := ⟨_, rfl⟩
            have o_p0 : OV vw_MODEL Ps ws p0 sg_19 := by rw [← q_sg_19]; exact OV.gh o_p0 (by decide)
            simp only [f_X10_post__3_51, ↓reduceIte, q_z0_2, q_vu_12, eq_false c_55, q_sg_16, q_v_15, eq_true c9_v_15, eq_true c_62, q_vu_17, q_v_18, q_sg_19] at hE
            subst hQ
            exact W.iret (v := v_18) hx hb hr (fun t ht hW => ⟨⟨v_18, ws, rfl, ⟨⟨(by rw [hR, ← hE, ← q_sg_19]; intro h9; exact x_NAM_p0_gdL), (by rw [hR, ← hE, ← q_sg_19]; intro h9; exact absurd (show (2 : Int32) = 1 from h9) (by decide)), (by rw [hR, ← hE, ← q_sg_19]; intro h9; exact x_HD_p0_gdR), (by rw [hR, ← hE, ← q_sg_19]; intro h9; exact absurd (show (2 : Int32) = 1 from h9) (by decide)), ⟨(by rw [hR, ← hE]; exact o_p0), (by rw [hR, ← hE]), trivial⟩, r_v_18.to (by decide), (fun h0 => trivial), (fun h0 => trivial), ⟨x_TLM_p0_0, trivial⟩, (fun _ => trivial), (fun _ => trivial)⟩, hw.1, hw.2.2.2.2.1⟩, by rw [ht]; exact hw.2.1, va_K.moved hW.alike hK, hw.2.2.1⟩, hw.2.2.2.1.F ht⟩) hw.2.2.2.1.2.2 dX10_post_78
          · exact absurd (r_v_15.eq.trans rl_0.eq.symm) ((ti_ne c_62))
        · have r_v_15 : RI v_15 1 1 := rc_neL r_v_15 rl_0 (ti_ne c9_v_15) (by decide)
          have x_TOK_p0_gz := ((hp_v_15.2.2 c9_v_15).1)
          have x_RH_p0 := ((hp_v_15.2.2 c9_v_15).2.1)
          refine lv_if_eq (tgt := 72) hx hb dX10_post_62 (by decide) (fun c_62 => ?_) (fun c_62 => ?_)
          · have r_v_15 : RI v_15 1 0 := rc_eq1 r_v_15 rl_0 (ti_eq c_62) (by decide)
            exact (r_v_15.no (by decide)).elim
          · refine lv_aload_n hx hb dX10_post_65 rfl (lv_at hl 0 rfl) ?_
            refine tk_i (va_runV (As := []) (rest := []) ⟨hx, hb, hml, hown, hts⟩ (c_X10_readEnd__2 l D cy z H.size Ps ws hw.1 p0 (gz) sg_16 h_p0 x_TOK_p0_gz o_p0) (cwV 0 hts (gV tw_1409 tw_1411 ts_62 tw_15 tw_1412) rfl rfl rfl (by decide +kernel) ⟨Nat.le_of_ble_eq_true rfl, Nat.le_of_ble_eq_true rfl⟩) (tg_preV hw hK hSD hA (ci := 10) (q := (RX10, TX10, 49)) rfl h_p0 rfl) rfl rfl hl.1 rfl (lv_room (Nat.le_of_ble_eq_true rfl)) dX10_post_66 ⟨Nat.le_of_ble_eq_true rfl, Nat.le_of_ble_eq_true rfl⟩) hw hA ⟨by decide, by decide⟩ (fun v_20 ws H locs hp_v_20 hw hF9 => ?_)
            have m_z0_2 := FLD.over hF9 m_z0_2 (by decide)
            have x_HD_p0_gdR := AX.over hF9 x_HD_p0_gdR (by decide)
            have x_NAM_p0_gdL := AXL.over hF9 x_NAM_p0_gdL (by decide)
            have x_TLM_p0_0 := TLM.over hF9 x_TLM_p0_0 (by decide)
            have x_RH_p0 := AX.over hF9 x_RH_p0 (by decide)
            obtain ⟨hfn, hp_v_20⟩ := hp_v_20
            obtain ⟨sg_21, q_sg_21⟩ : ∃ q9 : OS, (f_X10_readEnd__2 sg_16).1 = q9 := ⟨_, rfl⟩
            have o_p0 : OV vw_MODEL Ps ws p0 sg_21 := by rw [← q_sg_21]; exact hfn.1
            have q_v_20 : (f_X10_readEnd__2 sg_16).2 = v_20 := hfn.2.1
            have r_v_20 : RI v_20 0 1 := hp_v_20.1
            by_cases c9_v_20 : v_20 = 0
            · have r_v_20 : RI v_20 0 0 := by rw [c9_v_20]; exact rl_0
              refine lv_if_ne (tgt := 79) hx hb dX10_post_69 (by decide) (fun c_69 => ?_) (fun c_69 => ?_)
              · exact absurd (r_v_20.eq.trans rl_0.eq.symm) ((ti_ne c_69))
              · refine lv_iconst (v := (-1)) hx hb dX10_post_72 (by decide) ?_
                refine lv_aload_n hx hb dX10_post_73 rfl (lv_at hl 0 rfl) ?_
                refine tg_get (ci := 10) (ts := ty_MODEL) (C := RX10) (T := TX10) (N := 49) hx hb hts inX10 hown hK hw h_p0 rfl rfl 11 (by decide) (hts _ tw_1148) (fun _ h9 => h9) (ft := vI (-2147483648) 2147483647) rfl dX10_post_74 (fun u_22 hv_u_22 m_u_22 => ?_)
                obtain ⟨vu_22, rfl, r_vu_22⟩ := hv_u_22
                have q_vu_22 : sg_21.1 11 = vu_22 := OV.eqI (V := vw_MODEL) hw.2.2.1 o_p0 m_u_22 (by decide)
                refine lv_isub hx hb dX10_post_77 (lv_topi (fun v_23 e_v_23 => ?_))
                obtain ⟨t_v_23, r_v_23⟩ := tq_sub (lo := (-2147483648)) (hi := 2147483647) rl_m1 r_vu_22 (by decide +kernel) e_v_23
                have t_v_23 : v_23.toInt = (-1) - vu_22.toInt := t_v_23
                have q_v_23 : ((-1) : Int32) - vu_22 = v_23 := e_v_23.symm
                obtain ⟨sg_24, q_sg_24⟩ : ∃ q9 : OS, sI sg_21 99 (2 : Int32) = q9 := ⟨_, rfl⟩
                have o_p0 : OV vw_MODEL Ps ws p0 sg_24 := by rw [← q_sg_24]; exact OV.gh o_p0 (by decide)
                simp only [f_X10_post__3_51, ↓reduceIte, q_z0_2, q_vu_12, eq_false c_55, q_sg_16, q_v_15, eq_false c9_v_15, eq_false c_62, q_sg_21, q_v_20, eq_true c9_v_20, eq_true c_69, q_vu_22, q_v_23, q_sg_24] at hE
                subst hQ
                exact W.iret (v := v_23) hx hb hr (fun t ht hW => ⟨⟨v_23, ws, rfl, ⟨⟨(by rw [hR, ← hE, ← q_sg_24]; intro h9; exact x_NAM_p0_gdL), (by rw [hR, ← hE, ← q_sg_24]; intro h9; exact absurd (show (2 : Int32) = 1 from h9) (by decide)), (by rw [hR, ← hE, ← q_sg_24]; intro h9; exact x_HD_p0_gdR), (by rw [hR, ← hE, ← q_sg_24]; intro h9; exact absurd (show (2 : Int32) = 1 from h9) (by decide)), ⟨(by rw [hR, ← hE]; exact o_p0), (by rw [hR, ← hE]), trivial⟩, r_v_23.to (by decide), (fun h0 => trivial), (fun h0 => trivial), ⟨x_TLM_p0_0, trivial⟩, (fun _ => trivial), (fun _ => trivial)⟩, hw.1, hw.2.2.2.2.1⟩, by rw [ht]; exact hw.2.1, va_K.moved hW.alike hK, hw.2.2.1⟩, hw.2.2.2.1.F ht⟩) hw.2.2.2.1.2.2 dX10_post_78
            · have r_v_20 : RI v_20 1 1 := rc_neL r_v_20 rl_0 (ti_ne c9_v_20) (by decide)
              have x_TOK_p0_gz_1 := ((hp_v_20.2.2 c9_v_20).1)
              refine lv_if_ne (tgt := 79) hx hb dX10_post_69 (by decide) (fun c_69 => ?_) (fun c_69 => ?_)
              · have x_TO_p0_gz_1 : TOP ws p0 (gz+1) := TKP.top x_TOK_p0_gz_1
                obtain ⟨v_25, e_v_25⟩ : ∃ q9 : Int32, q9 = x1 + Int32.ofInt 1 := ⟨_, rfl⟩
                have r_v_25 := ri_any v_25
                refine lv_iinc (v := v_25) (lv' := [(1, .int v_25), (0, .ref p0)]) hx hb dX10_post_79 hl (k := 1) rfl e_v_25.symm (by decide) rfl (fun ls hl => ?_)
                have q_v_25 : x1 + (1 : Int32) = v_25 := by rw [e_v_25, show Int32.ofInt 1 = (1 : Int32) by decide]
                refine lv_goto (tgt := 51) hx hb dX10_post_82 (by decide) ?_
                simp only [f_X10_post__3_51, ↓reduceIte, q_z0_2, q_vu_12, eq_false c_55, q_sg_16, q_v_15, eq_false c9_v_15, eq_false c_62, q_sg_21, q_v_20, eq_false c9_v_20, eq_false c_69, q_v_25] at hE
                exact ih51 v_25 z0_2 (gz+1) sg_21 ws _ _ ls (by omega) r_v_25 r_z0_2 m_z0_2 x_HD_p0_gdR x_NAM_p0_gdL x_RH_p0 x_TLM_p0_0 x_TO_p0_gz_1 o_p0 hE hw (lv_sub hl [1, 0] rfl)
              · have r_v_20 : RI v_20 1 0 := rc_eq1 r_v_20 rl_0 (ti_eq c_69) (by decide)
                exact (r_v_20.no (by decide)).elim
  have B9 : ∀ (nf : Nat) (x1 : Int32) (z0_2 : Int32) (s0 : OS) (ws : va_W) (H : Heap) (locs : List Loc) (ls : Array Slot), 84 - x1.toInt < (nf : Int) → RI x1 0 84 → RI z0_2 0 0 → FLD ws p0 10 2 (.int z0_2) → AX 14 34 (HDp gdR) Ps ws p0 → AXL 20 41 (NMp gdL) Ps ws p0 → TLM ws p0 (0) → AX 15 35 (fun f => ∀ j : Nat, (j : Int) < Int32.toInt x1 → f j = 0) Ps ws p0 → OV vw_MODEL Ps ws p0 s0 → f_X10_post__3_9 nf x1 s0 = R9 → WD D cy GG A s wr_X10_post__4 wa_X10_post__4 Ps w0 Ps ws H locs → lv_has ls 3 [(0, .ref p0), (1, .int x1)] → W p l e (headSpec (Cond.code yX10_post cX10_post 3 (some .int) :: gT) ({ frames := 9, cells := 0, slots := 0, locals := 1800 } : Room)).room s m ([.ref p0] : List Value).toArray below meth c H locs 0 0 Q (F0 m 9 ls []) := by
    intro nf9
    induction nf9 with
    | zero =>
      intro x1 z0_2 s0 ws H locs ls hn9 r_x1 r_z0_2 m_z0_2 x_HD_p0_gdR x_NAM_p0_gdL x_TLM_p0_0 x_ZR_p0__1 o_p0 hE hw hl
      exact absurd hn9 (by have q0 := r_x1.1; have u0 := r_x1.2; omega)
    | succ nf9 ih9 =>
      intro x1 z0_2 s0 ws H locs ls hn9 r_x1 r_z0_2 m_z0_2 x_HD_p0_gdR x_NAM_p0_gdL x_TLM_p0_0 x_ZR_p0__1 o_p0 hE hw hl
      have q_z0_2 : s0.1 2 = z0_2 := OV.eqI (V := vw_MODEL) hw.2.2.1 o_p0 m_z0_2 (by decide)
      refine lv_iload_n hx hb dX10_post_9 rfl (lv_at hl 1 rfl) ?_
      refine lv_bipush (v := 84) hx hb dX10_post_10 (by decide) ?_
      refine lv_icmp_ge (tgt := 28) hx hb dX10_post_12 (by decide) (fun c_12 => ?_) (fun c_12 => ?_)
      · have r_x1 : RI x1 84 84 := rc_le2 rl_84 r_x1 (ti_le c_12) (by decide)
        refine lv_aload_n hx hb dX10_post_28 rfl (lv_at hl 0 rfl) ?_
        refine tg_get (ci := 10) (ts := ty_MODEL) (C := RX10) (T := TX10) (N := 49) hx hb hts inX10 hown hK hw h_p0 rfl rfl 24 (by decide) (hts _ tw_1161) (fun _ h9 => h9) (ft := vR 45) rfl dX10_post_29 (fun u_26 hv_u_26 m_u_26 => ?_)
        obtain ⟨vu_26, rfl, h_vu_26⟩ := hv_u_26
        refine lv_iconst (v := 0) hx hb dX10_post_32 (by decide) ?_
        refine lv_iconst (v := 0) hx hb dX10_post_33 (by decide) ?_
        have mo9 := m_u_26
        refine tg_zastE hx hb hK hw h_vu_26 rfl 0 0 rl_0 (by decide) (by decide) dX10_post_34 (fun ws H locs hw hF9 hU9 => ?_)
        have x_HD_p0_gdR := AX.over hF9 x_HD_p0_gdR (by decide)
        have x_NAM_p0_gdL := AXL.over hF9 x_NAM_p0_gdL (by decide)
        have x_TLM_p0_0 := TLM.over hF9 x_TLM_p0_0 (by decide)
        have x_ZR_p0__1 := AX.over hF9 x_ZR_p0__1 (by decide)
        have m_z0_2 := FLD.over hF9 m_z0_2 (by decide)
        have m_u_26 := FLD.over hF9 m_u_26 (by decide)
        obtain ⟨sg_27, q_sg_27⟩ : ∃ q9 : OS, sA s0 24 (Int32.toNatClampNeg (0 : Int32)) (vp_nar .boolean (0 : Int32)) = q9 := ⟨_, rfl⟩
        have o_p0 : OV vw_MODEL Ps ws p0 sg_27 := by rw [← q_sg_27]; exact OV.putA (V := vw_MODEL) (t := 45) hF9 hU9 o_p0 mo9 (by decide) (by decide)
        refine lv_aload_n hx hb dX10_post_35 rfl (lv_at hl 0 rfl) ?_
        refine tg_mem (ci := 10) (C := RX10) (T := TX10) (N := 49) hx hb hts inX10 hown hK hw 24 m_u_26 rfl (by decide) (hts _ tw_1161) (fun _ h9 => h9) dX10_post_36 ?_
        refine lv_iconst (v := 1) hx hb dX10_post_39 (by decide) ?_
        refine lv_iconst (v := 0) hx hb dX10_post_40 (by decide) ?_
        have mo9 := m_u_26
        refine tg_zastE hx hb hK hw h_vu_26 rfl 1 1 rl_1 (by decide) (by decide) dX10_post_41 (fun ws H locs hw hF9 hU9 => ?_)
        have x_HD_p0_gdR := AX.over hF9 x_HD_p0_gdR (by decide)
        have x_NAM_p0_gdL := AXL.over hF9 x_NAM_p0_gdL (by decide)
        have x_TLM_p0_0 := TLM.over hF9 x_TLM_p0_0 (by decide)
        have x_ZR_p0__1 := AX.over hF9 x_ZR_p0__1 (by decide)
        have m_z0_2 := FLD.over hF9 m_z0_2 (by decide)
        have m_u_26 := FLD.over hF9 m_u_26 (by decide)
        obtain ⟨sg_28, q_sg_28⟩ : ∃ q9 : OS, sA sg_27 24 (Int32.toNatClampNeg (1 : Int32)) (vp_nar .boolean (0 : Int32)) = q9 := ⟨_, rfl⟩
        have o_p0 : OV vw_MODEL Ps ws p0 sg_28 := by rw [← q_sg_28]; exact OV.putA (V := vw_MODEL) (t := 45) hF9 hU9 o_p0 mo9 (by decide) (by decide)
        refine lv_aload_n hx hb dX10_post_42 rfl (lv_at hl 0 rfl) ?_
        refine tg_get (ci := 10) (ts := ty_MODEL) (C := RX10) (T := TX10) (N := 49) hx hb hts inX10 hown hK hw h_p0 rfl rfl 15 (by decide) (hts _ tw_1152) (fun _ h9 => h9) (ft := vR 35) rfl dX10_post_43 (fun u_29 hv_u_29 m_u_29 => ?_)
        obtain ⟨vu_29, rfl, h_vu_29⟩ := hv_u_29
        refine lv_iconst (v := 5) hx hb dX10_post_46 (by decide) ?_
        refine lv_iconst (v := 5) hx hb dX10_post_47 (by decide) ?_
        have x_RHI_p0 : AX 15 35 (fun f => f 0 = 0 ∧ f 3 = 0) Ps ws p0 := AX.imp x_ZR_p0__1 (fun f9 h9 => ⟨h9 0 (by have k1 := r_x1.1; omega), h9 3 (by have k1 := r_x1.1; omega)⟩)
        have mo9 := m_u_29
        refine tg_iast hx hb hK hw h_vu_29 rfl 5 5 rl_5 (by decide) rl_5 (by decide +kernel) (fun _ _ _ _ _ => trivial) (by decide) dX10_post_48 (fun ws H locs hw hF9 hU9 => ?_)
        have x_RH_p0 : AX 15 35 (fun f => RH2p f) Ps ws p0 := AX.ast hF9 hU9 x_RHI_p0 m_u_29 (fun f9 h9 => RH_init h9.1 h9.2 (Int.le_trans (by decide) rl_5.1))
        have x_HD_p0_gdR := AX.over hF9 x_HD_p0_gdR (by decide)
        have x_NAM_p0_gdL := AXL.over hF9 x_NAM_p0_gdL (by decide)
        have x_TLM_p0_0 := TLM.over hF9 x_TLM_p0_0 (by decide)
        have m_z0_2 := FLD.over hF9 m_z0_2 (by decide)
        have m_u_26 := FLD.over hF9 m_u_26 (by decide)
        have m_u_29 := FLD.over hF9 m_u_29 (by decide)
        obtain ⟨sg_30, q_sg_30⟩ : ∃ q9 : OS, sA sg_28 15 (Int32.toNatClampNeg (5 : Int32)) (5 : Int32) = q9 := ⟨_, rfl⟩
        have o_p0 : OV vw_MODEL Ps ws p0 sg_30 := by rw [← q_sg_30]; exact OV.putA (V := vw_MODEL) (t := 35) hF9 hU9 o_p0 mo9 (by decide) (by decide)
        refine lv_iconst (v := 0) hx hb dX10_post_49 (by decide) ?_
        refine lv_istore_n (lv' := [(1, .int 0), (0, .ref p0)]) hx hb dX10_post_50 rfl hl (by decide) rfl (fun ls hl => ?_)
        simp only [f_X10_post__3_9, ↓reduceIte, q_z0_2, eq_true c_12, q_sg_27, q_sg_28, q_sg_30] at hE
        obtain ⟨v_31, m_v_31, r_v_31⟩ := tg_fld (k := 5) (ci := 10) (ts := ty_MODEL) (lo := 0) (hi := 940) hw h_p0 rfl rfl
        have x_TO_p0_0 : TOP ws p0 (0) := ⟨v_31, m_v_31, r_v_31.1, r_v_31.2⟩
        exact B51 4294967298 0 z0_2 (0) sg_30 ws _ _ ls (by omega) (rl_0.to (by decide)) r_z0_2 m_z0_2 x_HD_p0_gdR x_NAM_p0_gdL x_RH_p0 x_TLM_p0_0 x_TO_p0_0 o_p0 hE hw (lv_sub hl [1, 0] rfl)
      · have r_x1 : RI x1 0 83 := rc_lt1 r_x1 rl_84 (ti_nle c_12) (by decide)
        refine lv_aload_n hx hb dX10_post_15 rfl (lv_at hl 0 rfl) ?_
        refine tg_get (ci := 10) (ts := ty_MODEL) (C := RX10) (T := TX10) (N := 49) hx hb hts inX10 hown hK hw h_p0 rfl rfl 15 (by decide) (hts _ tw_1152) (fun _ h9 => h9) (ft := vR 35) rfl dX10_post_16 (fun u_32 hv_u_32 m_u_32 => ?_)
        obtain ⟨vu_32, rfl, h_vu_32⟩ := hv_u_32
        refine lv_iload_n hx hb dX10_post_19 rfl (lv_at hl 1 rfl) ?_
        refine lv_iconst (v := 0) hx hb dX10_post_20 (by decide) ?_
        have mo9 := m_u_32
        refine tg_iast hx hb hK hw h_vu_32 rfl 0 83 r_x1 (by decide) rl_0 (by decide +kernel) (fun _ _ _ _ _ => trivial) (by decide) dX10_post_21 (fun ws H locs hw hF9 hU9 => ?_)
        have x_ZS_p0_x1 : AX 15 35 (fun f => ∀ j : Nat, (j : Int) < Int32.toInt x1 + 1 → f j = 0) Ps ws p0 := AX.ast hF9 hU9 x_ZR_p0__1 m_u_32 (fun f9 h9 => fun j9 q9 => (Decidable.em (j9 = Int32.toNatClampNeg x1)).elim (fun e9 => by rw [e9, pk_us]) (fun e9 => by rw [pk_un e9]; exact h9 j9 (by have k4 := r_x1.cl (by decide); omega)))
        have x_HD_p0_gdR := AX.over hF9 x_HD_p0_gdR (by decide)
        have x_NAM_p0_gdL := AXL.over hF9 x_NAM_p0_gdL (by decide)
        have x_TLM_p0_0 := TLM.over hF9 x_TLM_p0_0 (by decide)
        have m_z0_2 := FLD.over hF9 m_z0_2 (by decide)
        have m_u_32 := FLD.over hF9 m_u_32 (by decide)
        obtain ⟨sg_33, q_sg_33⟩ : ∃ q9 : OS, sA s0 15 (Int32.toNatClampNeg x1) (0 : Int32) = q9 := ⟨_, rfl⟩
        have o_p0 : OV vw_MODEL Ps ws p0 sg_33 := by rw [← q_sg_33]; exact OV.putA (V := vw_MODEL) (t := 35) hF9 hU9 o_p0 mo9 (by decide) (by decide)
        obtain ⟨v_34, e_v_34⟩ : ∃ q9 : Int32, q9 = x1 + Int32.ofInt 1 := ⟨_, rfl⟩
        obtain ⟨t_v_34, r_v_34⟩ := tq_add (lo := 1) (hi := 84) r_x1 (show RI (Int32.ofInt 1) 1 1 by unfold RI; decide +kernel) (by decide +kernel) e_v_34
        have t_v_34 : v_34.toInt = x1.toInt + 1 := t_v_34
        refine lv_iinc (v := v_34) (lv' := [(1, .int v_34), (0, .ref p0)]) hx hb dX10_post_22 hl (k := 1) rfl e_v_34.symm (by decide) rfl (fun ls hl => ?_)
        have q_v_34 : x1 + (1 : Int32) = v_34 := by rw [e_v_34, show Int32.ofInt 1 = (1 : Int32) by decide]
        refine lv_goto (tgt := 9) hx hb dX10_post_25 (by decide) ?_
        simp only [f_X10_post__3_9, ↓reduceIte, q_z0_2, eq_false c_12, q_sg_33, q_v_34] at hE
        have x_ZR_p0_v_34 : AX 15 35 (fun f => ∀ j : Nat, (j : Int) < Int32.toInt v_34 → f j = 0) Ps ws p0 := AX.imp x_ZS_p0_x1 (fun f9 h9 => fun j9 q9 => h9 j9 (by have k1 := t_v_34; omega))
        exact ih9 v_34 z0_2 sg_33 ws _ _ ls (by have q0 := r_v_34.1; have u0 := r_v_34.2; have o0 := r_x1.1; have p0 := r_x1.2; omega) (r_v_34.to (by decide)) r_z0_2 m_z0_2 x_HD_p0_gdR x_NAM_p0_gdL x_TLM_p0_0 x_ZR_p0_v_34 o_p0 hE hw (lv_sub hl [1, 0] rfl)
  refine lv_aload_n hx hb dX10_post_0 rfl (lv_at hl 0 rfl) ?_
  refine lv_sipush (v := 900) hx hb dX10_post_1 (by decide) ?_
  refine tk_v (va_runV (As := [.int 900]) (rest := []) ⟨hx, hb, hml, hown, hts⟩ (c_X10_begin__6 l D cy z s.heap.size Ps w0 hw.1 p0 900 s0 h_p0 rl_900 o_p0) (cwV 1 hts (gV tw_1290 tw_1292 ts_38 tw_15 tw_1293) rfl rfl rfl (by decide +kernel) ⟨Nat.le_of_ble_eq_true rfl, Nat.le_of_ble_eq_true rfl⟩) (tg_preV hw hK hSD hA (ci := 10) (q := (RX10, TX10, 49)) rfl h_p0 rfl) rfl rfl hl.1 rfl (lv_room (Nat.le_of_ble_eq_true rfl)) dX10_post_4 ⟨Nat.le_of_ble_eq_true rfl, Nat.le_of_ble_eq_true rfl⟩) hw hA ⟨by decide, by decide⟩ (fun ws H locs hp_v_35 hw hF9 => ?_)
  have x_HD_p0_gdR := AX.over hF9 x_HD_p0_gdR (by decide)
  have x_NAM_p0_gdL := AXL.over hF9 x_NAM_p0_gdL (by decide)
  obtain ⟨hfn, hp_v_35⟩ := hp_v_35
  obtain ⟨sg_36, q_sg_36⟩ : ∃ q9 : OS, (f_X10_begin__4 (900 : Int32) s0) = q9 := ⟨_, rfl⟩
  have o_p0 : OV vw_MODEL Ps ws p0 sg_36 := by rw [← q_sg_36]; exact hfn.1
  obtain ⟨v_37, m_v_37, r_v_37⟩ := (hp_v_35.1)
  have x_TLM_p0_0 := (hp_v_35.2.1)
  have x_TLM_p0_0 : TLM ws p0 (0) := by obtain ⟨v9, a9, b9⟩ := x_TLM_p0_0; exact ⟨v9, a9, (by omega)⟩
  refine lv_iconst (v := 0) hx hb dX10_post_7 (by decide) ?_
  refine lv_istore_n (lv' := [(1, .int 0), (0, .ref p0)]) hx hb dX10_post_8 rfl hl (by decide) rfl (fun ls hl => ?_)
  simp only [f_X10_post__3, ↓reduceIte, q_sg_36] at hE
  have x_ZR_p0_0 : AX 15 35 (fun f => ∀ j : Nat, (j : Int) < Int32.toInt 0 → f j = 0) Ps ws p0 := AX.imp (rx_true hw h_p0) (fun f9 _ => fun j9 q9 => absurd q9 (by rw [Int32.toInt_zero]; omega))
  exact B9 4294967298 0 v_37 sg_36 ws _ _ ls (by have q0 := rl_0.1; have u0 := rl_0.2; omega) (rl_0.to (by decide)) r_v_37 m_v_37 x_HD_p0_gdR x_NAM_p0_gdL x_TLM_p0_0 x_ZR_p0_0 o_p0 hE hw (lv_sub hl [1, 0] rfl)
/-! the reference's post, with the names that it leaves -/
def POE3 (S : (Nat × Nat) ⊕ (Nat × (Nat → Int32) × (Nat → Nat))) (r : OS × Int32) : Prop := ∀ l R N, S = .inr (l, R, N) → NLC R N (r.1.2.2.2 21)
theorem RP.nlc {o : OS} {R : Nat → Int32} {N : Nat → Nat} (h : RP o R N) : NLC R N (o.2.2.2 21) := fun s b M q => h.2.2.2 s b M q
theorem p3_51 {T : Nat → Nat} {n lim : Nat} : ∀ (f l : Nat) (o : OS) (p : Nat) (R : Nat → Int32) (N : Nat → Nat), RT o T n lim p → RP o R N → n - p + 1 < f → POE3 (sPost T n lim f R N p l) (f_X10_post__3_51 f (nI l) o) := by
  intro f
  induction f with
  | zero => intro l o p R N _ _ h; omega
  | succ f ih =>
    intro l o p R N h hP hf
    rw [f_X10_post__3_51, sPost, h.2.2.1]
    have c := nI_eq (a := RK (tK T n lim p)) (b := 0) (by have := RK_lt (tK T n lim p); omega) (by decide)
    by_cases e0 : tK T n lim p = 0
    · rw [if_pos (show nI _ = (0 : Int32) from c.mpr (RK_is0.mpr e0)), if_pos e0]
      have z := po_87 (x1 := nI l) (o := o) 4294967298 0 (by decide) (by decide)
      rw [nI_0] at z
      rw [z]
      exact fun l R N q => (by cases q; exact hP.nlc)
    · rw [if_neg (fun q : nI _ = (0 : Int32) => e0 (RK_is0.mp (c.mp q))), if_neg e0]
      have q := readLine_ h hP
      generalize f_X10_readLine__1 o = r at q ⊢
      cases e1 : sLine T n lim R N p with
      | inl b => exact fun _ _ _ q => (by cases q)
      | inr w =>
        obtain ⟨p1, R1, N1⟩ := w
        obtain ⟨a1, a2, a3⟩ := q.2 p1 R1 N1 e1
        have hp := sLine_p e1
        rw [if_neg (ne1 a1)]
        have q2 := readEnd_ a2 a3
        generalize f_X10_readEnd__2 r.1 = r2 at q2 ⊢
        show POE3 (if tK T n lim p1 ≠ 59 then _ else _) _
        by_cases e2 : tK T n lim p1 = 59
        · obtain ⟨b1, b2, b3⟩ := q2.2 e2
          rw [if_neg (ne1 b1), nI_1, if_neg (nn e2)]
          have hg := tA_gt (T := T) (n := n) (lim := lim) (p := p1) (by omega) (by omega)
          exact ih (l + 1) r2.1 (tA T n lim p1) R1 N1 b2 b3 (by omega)
        · rw [if_pos e2]
          exact fun _ _ _ q => (by cases q)
theorem p3_9 {T : Nat → Nat} {n lim : Nat} (hn9 : n ≤ 940) : ∀ (f k : Nat) (o : OS), k ≤ 84 → 84 - k < f → RT o T n lim 0 → (∀ j, j < k → o.2.2.1 15 j = 0) → POE3 (sPost T n lim 4294967298 R0 N0 0 0) (f_X10_post__3_9 f (nI k) o) := by
  intro f
  induction f with
  | zero => intro k o _ h; omega
  | succ f ih =>
    intro k o hk hf h hz
    rw [f_X10_post__3_9]
    by_cases e : 84 ≤ k
    · rw [if_pos (show (84 : Int32) ≤ nI k from nI_le (a := 84) e (by omega))]
      have hA : ∀ j, (sA (sA (sA o 24 (Int32.toNatClampNeg (0 : Int32)) (vp_nar .boolean (0 : Int32))) 24 (Int32.toNatClampNeg (1 : Int32)) (vp_nar .boolean (0 : Int32))) 15 (Int32.toNatClampNeg (5 : Int32)) (5 : Int32)).2.2.1 15 j = upd (o.2.2.1 15) 5 5 j := fun j => rfl
      refine p3_51 4294967298 0 _ 0 R0 N0 (((h.of (fun _ _ => rfl) rfl rfl).of (fun _ _ => rfl) rfl rfl).of (fun _ _ => rfl) rfl rfl) ⟨fun j hj => ?_, ?_, ?_, fun s b m q => ?_⟩ (by omega)
      · rw [hA j]
        by_cases e5 : j = 5
        · rw [e5, pk_us]; rfl
        · rw [pk_un e5, hz j (by omega)]
          exact (if_neg e5).symm
      · rfl
      · rfl
      · have e0 : R0 s = 0 := if_neg (by omega)
        have ec : ct R0 s = 0 := by
          show (R0 s).toNatClampNeg = 0
          rw [e0]
          rfl
        rw [ec, e0]
        exact ⟨rfl, Nat.zero_le _, fun k hk => by omega⟩
    · rw [if_neg (show ¬ (84 : Int32) ≤ nI k from nI_ge (b := 84) (by omega) (by decide)), nI_1, nI_clamp (by omega)]
      refine ih (k + 1) _ (by omega) (by omega) (h.of (fun _ _ => rfl) rfl (sA_ne (by decide))) (fun j hj => ?_)
      rw [sA_get]
      by_cases e5 : j = k
      · rw [e5, pk_us]
      · rw [pk_un e5]; exact hz j (by omega)
theorem po3_ {T : Nat → Nat} {g : Int} {o : OS} (h : RXT o T g.toNat) : POE3 (SP T g) (f_X10_post__3 o) := by
  unfold f_X10_post__3
  exact p3_9 h.1 4294967298 0 _ (by decide) (by decide) (begin_ h) (fun j hj => by omega)
/-- what post leaves in the reference: numbers and names -/
def PXM3 (Ps : PSI) (ws : va_W) (y : Nat) (R : Nat → Int32) (L : Nat → Int64) (T : Nat → Nat) (gh : Int) : Prop := (∀ e, SP T gh = .inl e → AX 14 34 (HDp R) Ps ws y ∧ AXL 20 41 (NMp L) Ps ws y) ∧ ∀ l R' N, SP T gh = .inr (l, R', N) → AX 14 34 (HDp R') Ps ws y ∧ ∃ L', AXL 20 41 (NMp L') Ps ws y ∧ NLC R' N L'
theorem pxm3_ {A : Nat → Prop} {Ps : PSI} {u : va_W} {y : Nat} {R : Nat → Int32} {L : Nat → Int64} {T : Nat → Nat} {gh : Int} {r : OS × Int32} (hD : va_D A u) (hP : POE (SP T gh) r) (h3 : POE3 (SP T gh) r) (ho : OV vw_MODEL Ps u y r.1) (hA : r.1.1 99 = 2 → AX 14 34 (HDp R) Ps u y) (hB : r.1.1 99 = 1 → AX2 14 34 15 35 (fun f g => NRp f g) Ps u y) (hC : r.1.1 99 = 2 → AXL 20 41 (NMp L) Ps u y) (hE : r.1.1 99 = 1 → AXL2 20 41 21 42 (fun f g => ∀ j, j < 24 → f j = g j) Ps u y) : PXM3 Ps u y R L T gh := by
  have q := pxm_ hD hP ho hA hB
  refine ⟨fun e z => ⟨q.1 e z, hC (hP.2.1 e z)⟩, fun l R' N z => ⟨q.2 l R' N z, ?_⟩⟩
  obtain ⟨h1, -⟩ := hP.2.2 l R' N z
  obtain ⟨a, f, b, g, x1, x2, x3, x4, x5⟩ := hE h1
  have e := ARL.inj hD (OV.arrB (V := vw_MODEL) (t := 42) hD ho x3 (by decide)) x4
  exact ⟨r.1.2.2.2 21, ⟨a, f, x1, x2, fun j hj => by rw [x5 j hj, ← e]⟩, h3 l R' N z⟩
theorem PXM3.over {wr : List (Nat × Nat)} {wa : List Nat} {Ps : PSI} {ws ws' : va_W} {y : Nat} {R : Nat → Int32} {L : Nat → Int64} {T : Nat → Nat} {gh : Int} (hF : FR wr wa Ps ws ws') (h : PXM3 Ps ws y R L T gh) (hn : ((10, 14) ∉ wr ∧ 34 ∉ wa) ∧ (10, 20) ∉ wr ∧ 41 ∉ wa) : PXM3 Ps ws' y R L T gh := ⟨fun e z => ⟨AX.over hF (h.1 e z).1 hn.1, AXL.over hF (h.1 e z).2 hn.2⟩, fun l R' N z => by
  obtain ⟨h1, L', h2, h3⟩ := h.2 l R' N z
  exact ⟨AX.over hF h1 hn.1, L', AXL.over hF h2 hn.2, h3⟩⟩
set_option maxHeartbeats 4000000 in
set_option maxRecDepth 100000 in
theorem c_X10_post__4_pn (l : Launch) (D : va_G) (cy : Nat → ClassId) (z : Nat → Nat) (sz : Nat) (Ps : PSI) (w0 : va_W) (hT : HT cy GG Ps w0) (p0 : Nat) (gh : Int) (gdT : Nat → Nat) (gdR : Nat → Int32) (gdL : Nat → Int64) (h_p0 : (p0, 55) ∈ Ps) (x_TLM_p0_gh : TLM w0 p0 (gh)) (x_BYM_p0_gdT : BYM Ps w0 p0 gdT) (x_HD_p0_gdR : AX 14 34 (HDp gdR) Ps w0 p0) (x_NAM_p0_gdL : AXL 20 41 (NMp gdL) Ps w0 p0) : Met l yX10_post (Cond.code yX10_post cX10_post 3 (some .int) :: gT) ({ frames := 9, cells := 0, slots := 0, locals := 1800 } : Room) (va_Pc [.ref p0] (PRE D cy z w0 sz)) (va_Qi (fun (r : Int32) (u : va_W) => (RI r (-2147483648) 2147483647 ∧ (r = 0 → True) ∧ (¬ r = 0 → True) ∧ (TLM u p0 (0) ∧ (r = PAN gdT gh) ∧ PXM3 Ps u p0 gdR gdL gdT gh ∧ True) ∧ (r.toInt < 0 → True) ∧ (0 ≤ r.toInt → True)) ∧ HT cy GG Ps u ∧ FR wr_X10_post__4 wa_X10_post__4 Ps w0 u) (BB D cy (va_A w0 sz) (fun (u : va_W) => u)) (va_A w0 sz)) 0 0 (va_A w0 sz) := by
  refine Met.ofP (φ := ∃ o, OV vw_MODEL Ps w0 p0 o ∧ RXT o gdT gh.toNat) (fun a st hv => ?_) (fun hφ => ?_)
  · obtain ⟨-, -, -, -, hD0, -⟩ := hv
    exact md_full hT hD0 x_TLM_p0_gh x_BYM_p0_gdT h_p0
  · obtain ⟨s0, o_p0, hφ⟩ := hφ
    refine Met.monoQ (c_X10_post__4 l D cy z sz Ps w0 hT p0 gdR gdL s0 h_p0 x_HD_p0_gdR x_NAM_p0_gdL o_p0) (fun a st oc t hq => ?_)
    obtain ⟨⟨r, u, e1, ⟨⟨hC9, hD9, hA9, hB9, hfn, hp⟩, hT1, hF1⟩, hB⟩, hF⟩ := hq
    exact ⟨⟨r, u, e1, ⟨⟨hp.1, fun _ => trivial, fun _ => trivial, ⟨hp.2.2.2.1.1, hfn.2.1.symm.trans (po_ hφ).1, pxm3_ hB.2.2 (po_ hφ) (po3_ hφ) hfn.1 hA9 hB9 hC9 hD9, trivial⟩, fun _ => trivial, fun _ => trivial⟩, hT1, hF1⟩, hB⟩, hF⟩
