set_option maxHeartbeats 4000000 in
set_option maxRecDepth 100000 in
theorem c_fill (l : Launch) (D : va_G) (cy : Nat → ClassId) (z : Nat → Nat) (sz : Nat) (a : Nat) (n : Nat) (f : Nat → Int32) (v : Int32) (hn : n < 2 ^ 31) : Met l yJ7_fill_53178 (Cond.code yJ7_fill_53178 cJ7_fill_53178 4 none :: gT) ({ frames := 0, cells := 0, slots := 0, locals := 200 } : Room) (va_Pc [.ref a, .int v] (PRE D cy z [(a, .inl (cy 1, n, .inl f))] sz)) (va_Qv (fun (u : Unit) => True) (BB D cy (va_A [(a, .inl (cy 1, n, .inl f))] sz) (fun (u : Unit) => [(a, .inl (cy 1, n, .inl (fun _ => v)))])) (va_A [(a, .inl (cy 1, n, .inl f))] sz)) 0 0 (va_A [(a, .inl (cy 1, n, .inl f))] sz) := by
  refine Met.ofW (cc := cJ7_fill_53178) (maxL := 4) (ret := none) (by decide) rfl ?_
  intro p e s m args below meth c s₁ B hml hv
  obtain ⟨rfl, hsz, hP, hK, hD0, hSD⟩ := hv
  have hx := B.exec
  have hb := B.bytes
  have hr := B.returns
  have hlocks := B.notSynchronized
  have hts : ∀ w ∈ gT, w.before _ s = true := fun w h => atoms_spec (ws := Cond.code yJ7_fill_53178 cJ7_fill_53178 4 none :: gT) B.pre w (List.mem_cons_of_mem _ h)
  have hown : s.vm.findClass RJ7 = some m.cls := findClass_of_methodNamed B.named
  subst hsz
  have hD := hD0.self (sz := s.heap.size)
  generalize hAe : va_A [(a, .inl (cy 1, n, .inl f))] s.heap.size = A at hD hSD ⊢
  have hA : ∀ q : Nat, s.heap.size ≤ q → A q := fun q h => by rw [← hAe]; exact Or.inr h
  have hS : va_S A s.heap s.heap [] := va_S.rf
  have hl := lv_entry ([.ref a, .int v]) (n := 4) (Nat.le_of_ble_eq_true rfl)
  rw [lg_entry_eq]
  generalize (lg_sl ([.ref a, .int v]) ++ List.replicate (4 - (lg_sl ([.ref a, .int v])).length) Slot.unset).toArray = ls at hl ⊢
  have hl : lv_has ls 4 [(0, .ref a), (1, .int v)] := hl
  refine lv_iconst (v := 0) hx hb dJ7_fill_53178_0 (by decide) ?_
  refine lv_istore_n (lv' := [(2, .int 0), (0, .ref a), (1, .int v)]) hx hb dJ7_fill_53178_1 rfl hl (by decide) rfl (fun ls hl => ?_)
  refine lv_aload_n hx hb dJ7_fill_53178_2 rfl (lv_at hl 1 rfl) ?_
  refine va_alen (v := nI n) hx hb hK hP 0 1 rfl rfl rfl dJ7_fill_53178_3 ?_
  refine lv_istore_n (lv' := [(3, .int (nI n)), (2, .int 0), (0, .ref a), (1, .int v)]) hx hb dJ7_fill_53178_4 rfl hl (by decide) rfl (fun ls hl => ?_)
  have LP : ∀ (Q : State → Prop), (∀ (g_1 : Nat → Int32) (H : Heap) (locs : List Loc) (ls : Array Slot), (∀ j, j < (n) → g_1 j = v) → va_P D classes [(a, .inl (cy 1, n, .inl g_1))] H → va_D A [(a, .inl (cy 1, n, .inl g_1))] → va_S A s.heap H locs → lv_has ls 4 [(3, .int (nI n)), (2, .int (nI (n))), (0, .ref a), (1, .int v)] → W p l e (headSpec (Cond.code yJ7_fill_53178 cJ7_fill_53178 4 none :: gT) ({ frames := 0, cells := 0, slots := 0, locals := 200 } : Room)).room s m ([.ref a, .int v] : List Value).toArray below meth c H locs 0 0 Q (F0 m 20 ls [])) → ∀ (nf i : Nat) (g_1 : Nat → Int32) (H : Heap) (locs : List Loc) (ls : Array Slot), i ≤ n → n + 1 ≤ i + nf → (∀ j, j < i → g_1 j = v) → va_P D classes [(a, .inl (cy 1, n, .inl g_1))] H → va_D A [(a, .inl (cy 1, n, .inl g_1))] → va_S A s.heap H locs → lv_has ls 4 [(3, .int (nI n)), (2, .int (nI i)), (0, .ref a), (1, .int v)] → W p l e (headSpec (Cond.code yJ7_fill_53178 cJ7_fill_53178 4 none :: gT) ({ frames := 0, cells := 0, slots := 0, locals := 200 } : Room)).room s m ([.ref a, .int v] : List Value).toArray below meth c H locs 0 0 Q (F0 m 5 ls []) := by
    intro Q kx nf
    induction nf with
    | zero => intro i g_1 H locs ls h1 h2; exact absurd h2 (by omega)
    | succ nf ih =>
      intro i g_1 H locs ls hi hin hI hP hD hS hl
      refine lv_iload_n hx hb dJ7_fill_53178_5 rfl (lv_at hl 1 rfl) ?_
      refine lv_iload_n hx hb dJ7_fill_53178_6 rfl (lv_at hl 0 rfl) ?_
      refine lv_icmp_ge (tgt := 20) hx hb dJ7_fill_53178_7 (by decide) (fun c9 => ?_) (fun c9 => ?_)
      · have e9 : i = n := lpGe rfl (by omega) hi c9
        subst e9
        exact kx g_1 H locs ls hI (subP hP [0] rfl) (hD.sub [0] (by decide) rfl) hS (lv_sub hl [0, 1, 2, 3] rfl)
      · have hlt : i < n := lpLt rfl (by omega) hi c9
        refine lv_aload_n hx hb dJ7_fill_53178_10 rfl (lv_at hl 2 rfl) ?_
        refine lv_iload_n hx hb dJ7_fill_53178_11 rfl (lv_at hl 1 rfl) ?_
        refine lv_iload_n hx hb dJ7_fill_53178_12 rfl (lv_at hl 3 rfl) ?_
        refine va_iast hx hb hK hP hD hS 0 1 rfl rfl (vp_in_nI (by omega) (by omega)) dJ7_fill_53178_13 (fun H locs hP hD hS => ?_)
        obtain ⟨g_2, eg_2⟩ : ∃ g, g = upd g_1 (Int32.toNatClampNeg (nI i)) v := ⟨_, rfl⟩
        have hP : va_P D classes [(a, .inl (cy 1, n, .inl g_2))] H := by rw [eg_2]; exact hP
        have hD : va_D A [(a, .inl (cy 1, n, .inl g_2))] := by rw [eg_2]; exact hD
        refine lv_iinc (v := nI (i + 1)) (lv' := [(2, .int (nI (i + 1))), (3, .int (nI n)), (0, .ref a), (1, .int v)]) hx hb dJ7_fill_53178_14 hl (k := 1) rfl (nI_1 _) (by decide) rfl (fun ls hl => ?_)
        refine lv_goto (tgt := 5) hx hb dJ7_fill_53178_17 (by decide) ?_
        exact ih (i + 1) g_2 H locs ls hlt (by omega) (by rw [eg_2, nI_clamp (by omega)]; exact fillS hI) (subP hP [0] rfl) (hD.sub [0] (by decide) rfl) hS (lv_sub hl [1, 0, 2, 3] rfl)
  refine LP _ (fun g_1 H locs ls hI hP hD hS hl => ?_) (n + 1) 0 f _ _ ls (by omega) (by omega) (fun j h => absurd h (by omega)) hP hD hS (lv_sub hl [0, 1, 2, 3] rfl)
  have hP := congP (g := fun _ => v) hP 0 rfl hI rfl
  have hD := congD (f := g_1) (g := fun _ => v) hD 0 rfl rfl
  have hP : va_P D classes [(a, .inl (cy 1, n, .inl (fun _ => v)))] H := hP
  have hD : va_D A [(a, .inl (cy 1, n, .inl (fun _ => v)))] := hD
  have hP9 : va_P D classes [(a, .inl (cy 1, n, .inl (fun _ => v)))] H := subP hP [0] rfl
  have hD9 : va_D A [(a, .inl (cy 1, n, .inl (fun _ => v)))] := hD.sub [0] (by decide) rfl
  exact W.vret hx hb hr (fun t ht hW => ⟨⟨(), rfl, trivial, by rw [ht]; exact hP9, va_K.moved hW.alike hK, hD9⟩, hS.F ht⟩) hS.2.2 dJ7_fill_53178_20
set_option maxHeartbeats 4000000 in
set_option maxRecDepth 100000 in
theorem c_Tag_init (l : Launch) (D : va_G) (cy : Nat → ClassId) (z : Nat → Nat) (sz : Nat) (h : Nat) : Met l yX6_init (Cond.code yX6_init cX6_init 1 none :: gT) ({ frames := 2, cells := 1, slots := 26, locals := 400 } : Room) (va_Pc [.ref h] (PRE D cy z [(h, .inr (6, [.null, .int 0]))] sz)) (va_Qv (fun (u : (Nat)) => True) (BB D cy (va_A [(h, .inr (6, [.null, .int 0]))] sz) (fun (u : (Nat)) => [(h, .inr (6, [.ref u, .int 0])), (u, .inl (cy 0, 26, .inl (fun _ => 0)))])) (va_A [(h, .inr (6, [.null, .int 0]))] sz)) 1 26 (va_A [(h, .inr (6, [.null, .int 0]))] sz) := by
  refine Met.ofW (cc := cX6_init) (maxL := 1) (ret := none) (by decide) rfl ?_
  intro p e s m args below meth c s₁ B hml hv
  obtain ⟨rfl, hsz, hP, hK, hD0, hSD⟩ := hv
  have hx := B.exec
  have hb := B.bytes
  have hr := B.returns
  have hlocks := B.notSynchronized
  have hts : ∀ w ∈ gT, w.before _ s = true := fun w h => atoms_spec (ws := Cond.code yX6_init cX6_init 1 none :: gT) B.pre w (List.mem_cons_of_mem _ h)
  have hown : s.vm.findClass RX6 = some m.cls := findClass_of_methodNamed B.named
  have hin : meth.name = "<init>" := (name_of_methodNamed B.named B.method).1
  subst hsz
  have hD := hD0.self (sz := s.heap.size)
  generalize hAe : va_A [(h, .inr (6, [.null, .int 0]))] s.heap.size = A at hD hSD ⊢
  have hA : ∀ q : Nat, s.heap.size ≤ q → A q := fun q h => by rw [← hAe]; exact Or.inr h
  have hS : va_S A s.heap s.heap [] := va_S.rf
  have hl := lv_entry ([.ref h]) (n := 1) (Nat.le_of_ble_eq_true rfl)
  rw [lg_entry_eq]
  generalize (lg_sl ([.ref h]) ++ List.replicate (1 - (lg_sl ([.ref h])).length) Slot.unset).toArray = ls at hl ⊢
  have hl : lv_has ls 1 [(0, .ref h)] := hl
  refine lv_aload_n hx hb dX6_init_0 rfl (lv_at hl 0 rfl) ?_
  refine W.objInit hx hb hown (hts _ tw_182) (hts _ tw_30) (hts _ tw_31) rfl (by rw [hml]; exact hl.1) rfl dX6_init_1 (Nat.le_of_ble_eq_true rfl) (Nat.le_of_ble_eq_true rfl) ?_
  refine W.eq (g2 := F0 m 4 ls []) rfl ?_
  refine lv_aload_n hx hb dX6_init_4 rfl (lv_at hl 0 rfl) ?_
  refine lv_bipush (v := 26) hx hb dX6_init_5 (by decide) ?_
  refine newaC (atype := .byte) (ty := .byte) (N' := 26) (a0 := (26, .inl (fun _ => 0))) hx hb (hts _ tw_134) rfl (fun C h => by cases h) hK hP hD hS hA 0 rfl (fun _ => rfl) (by decide) (by decide) (by decide) (Nat.le_of_ble_eq_true rfl) (Nat.le_of_ble_eq_true rfl) dX6_init_7 (fun q_1 H hP hD hS => ?_)
  have hP : va_P D classes [(h, .inr (6, [.null, .int 0])), (q_1, .inl (cy 0, 26, .inl (fun _ => 0)))] H := hP
  have hD : va_D A [(h, .inr (6, [.null, .int 0])), (q_1, .inl (cy 0, 26, .inl (fun _ => 0)))] := hD
  refine W.widen (k := 1) (n := 26) (Nat.le_of_ble_eq_true rfl) (Nat.le_of_ble_eq_true rfl) ?_
  refine va_putF (D := D) (ci := 6) (v := .ref q_1) (ty := .array .byte) (C := RX6) (T := TX6) (N := 2) hx hb hts inX6 tyX6 tyX6_ok nmX6 hown hK hP hD hS 0 rfl rfl 0 (by decide) (hts _ tw_183) (fun _ h9 => h9) rfl hin rfl (by decide +kernel) rfl rfl (Nat.le_of_ble_eq_true rfl) dX6_init_9 (fun H locs hP hD hS => ?_)
  have hP : va_P D classes [(h, .inr (6, [.ref q_1, .int 0])), (q_1, .inl (cy 0, 26, .inl (fun _ => 0)))] H := hP
  have hD : va_D A [(h, .inr (6, [.ref q_1, .int 0])), (q_1, .inl (cy 0, 26, .inl (fun _ => 0)))] := hD
  refine lv_aload_n hx hb dX6_init_12 rfl (lv_at hl 0 rfl) ?_
  refine lv_iconst (v := 0) hx hb dX6_init_13 (by decide) ?_
  refine va_put (D := D) (ci := 6) (v := .int 0) (ty := .int) (C := RX6) (T := TX6) (N := 2) hx hb hts inX6 tyX6 tyX6_ok nmX6 hown hK hP hD hS 0 rfl rfl 1 (by decide) (hts _ tw_185) (fun _ h9 => h9) rfl (by decide +kernel) rfl rfl (Nat.le_of_ble_eq_true rfl) dX6_init_14 (fun H locs hP hD hS => ?_)
  have hP : va_P D classes [(h, .inr (6, [.ref q_1, .int 0])), (q_1, .inl (cy 0, 26, .inl (fun _ => 0)))] H := hP
  have hD : va_D A [(h, .inr (6, [.ref q_1, .int 0])), (q_1, .inl (cy 0, 26, .inl (fun _ => 0)))] := hD
  have hP9 : va_P D classes [(h, .inr (6, [.ref q_1, .int 0])), (q_1, .inl (cy 0, 26, .inl (fun _ => 0)))] H := subP hP [0, 1] rfl
  have hD9 : va_D A [(h, .inr (6, [.ref q_1, .int 0])), (q_1, .inl (cy 0, 26, .inl (fun _ => 0)))] := hD.sub [0, 1] (by decide) rfl
  refine W.widen (k := 1) (n := 26) (Nat.le_of_ble_eq_true rfl) (Nat.le_of_ble_eq_true rfl) ?_
  exact W.vret hx hb hr (fun t ht hW => ⟨⟨((q_1)), rfl, trivial, by rw [ht]; exact hP9, va_K.moved hW.alike hK, hD9⟩, hS.F ht⟩) hS.2.2 dX6_init_17
set_option maxHeartbeats 4000000 in
set_option maxRecDepth 100000 in
theorem c_Rooms_init (l : Launch) (D : va_G) (cy : Nat → ClassId) (z : Nat → Nat) (sz : Nat) (h : Nat) : Met l yX4_init (Cond.code yX4_init cX4_init 1 none :: gT) ({ frames := 2, cells := 2, slots := 12, locals := 400 } : Room) (va_Pc [.ref h] (PRE D cy z [(h, .inr (4, [.null, .null]))] sz)) (va_Qv (fun (u : (Nat) × (Nat)) => True) (BB D cy (va_A [(h, .inr (4, [.null, .null]))] sz) (fun (u : (Nat) × (Nat)) => [(h, .inr (4, [.ref u.1, .ref u.2])), (u.1, .inl (cy 1, 6, .inl (fun _ => 0))), (u.2, .inl (cy 1, 6, .inl (fun _ => (-1))))])) (va_A [(h, .inr (4, [.null, .null]))] sz)) 2 12 (va_A [(h, .inr (4, [.null, .null]))] sz) := by
  refine Met.ofW (cc := cX4_init) (maxL := 1) (ret := none) (by decide) rfl ?_
  intro p e s m args below meth c s₁ B hml hv
  obtain ⟨rfl, hsz, hP, hK, hD0, hSD⟩ := hv
  have hx := B.exec
  have hb := B.bytes
  have hr := B.returns
  have hlocks := B.notSynchronized
  have hts : ∀ w ∈ gT, w.before _ s = true := fun w h => atoms_spec (ws := Cond.code yX4_init cX4_init 1 none :: gT) B.pre w (List.mem_cons_of_mem _ h)
  have hown : s.vm.findClass RX4 = some m.cls := findClass_of_methodNamed B.named
  have hin : meth.name = "<init>" := (name_of_methodNamed B.named B.method).1
  subst hsz
  have hD := hD0.self (sz := s.heap.size)
  generalize hAe : va_A [(h, .inr (4, [.null, .null]))] s.heap.size = A at hD hSD ⊢
  have hA : ∀ q : Nat, s.heap.size ≤ q → A q := fun q h => by rw [← hAe]; exact Or.inr h
  have hS : va_S A s.heap s.heap [] := va_S.rf
  have hl := lv_entry ([.ref h]) (n := 1) (Nat.le_of_ble_eq_true rfl)
  rw [lg_entry_eq]
  generalize (lg_sl ([.ref h]) ++ List.replicate (1 - (lg_sl ([.ref h])).length) Slot.unset).toArray = ls at hl ⊢
  have hl : lv_has ls 1 [(0, .ref h)] := hl
  refine lv_aload_n hx hb dX4_init_0 rfl (lv_at hl 0 rfl) ?_
  refine W.objInit hx hb hown (hts _ tw_165) (hts _ tw_30) (hts _ tw_31) rfl (by rw [hml]; exact hl.1) rfl dX4_init_1 (Nat.le_of_ble_eq_true rfl) (Nat.le_of_ble_eq_true rfl) ?_
  refine W.eq (g2 := F0 m 4 ls []) rfl ?_
  refine lv_aload_n hx hb dX4_init_4 rfl (lv_at hl 0 rfl) ?_
  refine lv_bipush (v := 6) hx hb dX4_init_5 (by decide) ?_
  refine newaC (atype := .int) (ty := .int) (N' := 6) (a0 := (6, .inl (fun _ => 0))) hx hb (hts _ tw_159) rfl (fun C h => by cases h) hK hP hD hS hA 1 rfl (fun _ => rfl) (by decide) (by decide) (by decide) (Nat.le_of_ble_eq_true rfl) (Nat.le_of_ble_eq_true rfl) dX4_init_7 (fun q_1 H hP hD hS => ?_)
  have hP : va_P D classes [(h, .inr (4, [.null, .null])), (q_1, .inl (cy 1, 6, .inl (fun _ => 0)))] H := hP
  have hD : va_D A [(h, .inr (4, [.null, .null])), (q_1, .inl (cy 1, 6, .inl (fun _ => 0)))] := hD
  refine W.widen (k := 1) (n := 6) (Nat.le_of_ble_eq_true rfl) (Nat.le_of_ble_eq_true rfl) ?_
  refine va_putF (D := D) (ci := 4) (v := .ref q_1) (ty := .array .int) (C := RX4) (T := TX4) (N := 2) hx hb hts inX4 tyX4 tyX4_ok nmX4 hown hK hP hD hS 0 rfl rfl 0 (by decide) (hts _ tw_169) (fun _ h9 => h9) rfl hin rfl (by decide +kernel) rfl rfl (Nat.le_of_ble_eq_true rfl) dX4_init_9 (fun H locs hP hD hS => ?_)
  have hP : va_P D classes [(h, .inr (4, [.ref q_1, .null])), (q_1, .inl (cy 1, 6, .inl (fun _ => 0)))] H := hP
  have hD : va_D A [(h, .inr (4, [.ref q_1, .null])), (q_1, .inl (cy 1, 6, .inl (fun _ => 0)))] := hD
  refine lv_aload_n hx hb dX4_init_12 rfl (lv_at hl 0 rfl) ?_
  refine lv_bipush (v := 6) hx hb dX4_init_13 (by decide) ?_
  refine newaC (atype := .int) (ty := .int) (N' := 6) (a0 := (6, .inl (fun _ => 0))) hx hb (hts _ tw_159) rfl (fun C h => by cases h) hK hP hD hS hA 1 rfl (fun _ => rfl) (by decide) (by decide) (by decide) (Nat.le_of_ble_eq_true rfl) (Nat.le_of_ble_eq_true rfl) dX4_init_15 (fun q_2 H hP hD hS => ?_)
  have hP : va_P D classes [(h, .inr (4, [.ref q_1, .null])), (q_1, .inl (cy 1, 6, .inl (fun _ => 0))), (q_2, .inl (cy 1, 6, .inl (fun _ => 0)))] H := hP
  have hD : va_D A [(h, .inr (4, [.ref q_1, .null])), (q_1, .inl (cy 1, 6, .inl (fun _ => 0))), (q_2, .inl (cy 1, 6, .inl (fun _ => 0)))] := hD
  refine W.widen (k := 2) (n := 12) (Nat.le_of_ble_eq_true rfl) (Nat.le_of_ble_eq_true rfl) ?_
  refine va_putF (D := D) (ci := 4) (v := .ref q_2) (ty := .array .int) (C := RX4) (T := TX4) (N := 2) hx hb hts inX4 tyX4 tyX4_ok nmX4 hown hK hP hD hS 0 rfl rfl 1 (by decide) (hts _ tw_170) (fun _ h9 => h9) rfl hin rfl (by decide +kernel) rfl rfl (Nat.le_of_ble_eq_true rfl) dX4_init_17 (fun H locs hP hD hS => ?_)
  have hP : va_P D classes [(h, .inr (4, [.ref q_1, .ref q_2])), (q_1, .inl (cy 1, 6, .inl (fun _ => 0))), (q_2, .inl (cy 1, 6, .inl (fun _ => 0)))] H := hP
  have hD : va_D A [(h, .inr (4, [.ref q_1, .ref q_2])), (q_1, .inl (cy 1, 6, .inl (fun _ => 0))), (q_2, .inl (cy 1, 6, .inl (fun _ => 0)))] := hD
  refine lv_aload_n hx hb dX4_init_20 rfl (lv_at hl 0 rfl) ?_
  refine va_get (D := D) (ci := 4) (v := .ref q_2) (C := RX4) (T := TX4) (N := 2) hx hb hts inX4 hown hK hP 0 rfl rfl 1 (by decide) (hts _ tw_170) (fun _ h9 => h9) rfl dX4_init_21 ?_
  refine lv_iconst (v := (-1)) hx hb dX4_init_24 (by decide) ?_
  refine endv (wr := [(h, .inr (4, [.ref q_1, .ref q_2])), (q_1, .inl (cy 1, 6, .inl (fun _ => 0)))]) (va_runS (As := [.ref q_2, .int (-1)]) (rest := []) ⟨hx, hb, hml, hown, hts⟩ (c_fill l D cy z H.size q_2 6 (fun _ => 0) (-1) (by decide)) (va_cwS 2 hts (gS tw_166 tw_167 tw_9 tw_168) rfl rfl rfl (by decide +kernel) ⟨Nat.le_of_ble_eq_true rfl, Nat.le_of_ble_eq_true rfl⟩) (preS hP hD hK hSD hS hA [2] rfl (by decide)) rfl rfl hl.1 rfl (lv_room (Nat.le_of_ble_eq_true rfl)) dX4_init_25 ⟨Nat.le_of_ble_eq_true rfl, Nat.le_of_ble_eq_true rfl⟩) hP hD hS hA [2] [0, 1] rfl rfl (by decide) (by decide) (fun u_3 H locs hw_4 hP hD hS => ?_)
  have hP : va_P D classes [(h, .inr (4, [.ref q_1, .ref q_2])), (q_1, .inl (cy 1, 6, .inl (fun _ => 0))), (q_2, .inl (cy 1, 6, .inl (fun _ => (-1))))] H := hP
  have hD : va_D A [(h, .inr (4, [.ref q_1, .ref q_2])), (q_1, .inl (cy 1, 6, .inl (fun _ => 0))), (q_2, .inl (cy 1, 6, .inl (fun _ => (-1))))] := hD
  have hP9 : va_P D classes [(h, .inr (4, [.ref q_1, .ref q_2])), (q_1, .inl (cy 1, 6, .inl (fun _ => 0))), (q_2, .inl (cy 1, 6, .inl (fun _ => (-1))))] H := subP hP [0, 1, 2] rfl
  have hD9 : va_D A [(h, .inr (4, [.ref q_1, .ref q_2])), (q_1, .inl (cy 1, 6, .inl (fun _ => 0))), (q_2, .inl (cy 1, 6, .inl (fun _ => (-1))))] := hD.sub [0, 1, 2] (by decide) rfl
  refine W.widen (k := 2) (n := 12) (Nat.le_of_ble_eq_true rfl) (Nat.le_of_ble_eq_true rfl) ?_
  exact W.vret hx hb hr (fun t ht hW => ⟨⟨((q_1), (q_2)), rfl, trivial, by rw [ht]; exact hP9, va_K.moved hW.alike hK, hD9⟩, hS.F ht⟩) hS.2.2 dX4_init_28
set_option maxHeartbeats 4000000 in
set_option maxRecDepth 100000 in
theorem c_Book_init (l : Launch) (D : va_G) (cy : Nat → ClassId) (z : Nat → Nat) (sz : Nat) (h : Nat) : Met l yX0_init (Cond.code yX0_init cX0_init 1 none :: gT) ({ frames := 2, cells := 3, slots := 120, locals := 400 } : Room) (va_Pc [.ref h] (PRE D cy z [(h, .inr (0, [.null, .null, .null, .int 0, .int 0]))] sz)) (va_Qv (fun (u : (Nat) × (Nat) × (Nat)) => True) (BB D cy (va_A [(h, .inr (0, [.null, .null, .null, .int 0, .int 0]))] sz) (fun (u : (Nat) × (Nat) × (Nat)) => [(h, .inr (0, [.ref u.1, .ref u.2.1, .ref u.2.2, .int 0, .int 0])), (u.1, .inl (cy 1, 40, .inl (fun _ => 0))), (u.2.1, .inl (cy 1, 40, .inl (fun _ => 0))), (u.2.2, .inl (cy 1, 40, .inl (fun _ => 0)))])) (va_A [(h, .inr (0, [.null, .null, .null, .int 0, .int 0]))] sz)) 3 120 (va_A [(h, .inr (0, [.null, .null, .null, .int 0, .int 0]))] sz) := by
  refine Met.ofW (cc := cX0_init) (maxL := 1) (ret := none) (by decide) rfl ?_
  intro p e s m args below meth c s₁ B hml hv
  obtain ⟨rfl, hsz, hP, hK, hD0, hSD⟩ := hv
  have hx := B.exec
  have hb := B.bytes
  have hr := B.returns
  have hlocks := B.notSynchronized
  have hts : ∀ w ∈ gT, w.before _ s = true := fun w h => atoms_spec (ws := Cond.code yX0_init cX0_init 1 none :: gT) B.pre w (List.mem_cons_of_mem _ h)
  have hown : s.vm.findClass RX0 = some m.cls := findClass_of_methodNamed B.named
  have hin : meth.name = "<init>" := (name_of_methodNamed B.named B.method).1
  subst hsz
  have hD := hD0.self (sz := s.heap.size)
  generalize hAe : va_A [(h, .inr (0, [.null, .null, .null, .int 0, .int 0]))] s.heap.size = A at hD hSD ⊢
  have hA : ∀ q : Nat, s.heap.size ≤ q → A q := fun q h => by rw [← hAe]; exact Or.inr h
  have hS : va_S A s.heap s.heap [] := va_S.rf
  have hl := lv_entry ([.ref h]) (n := 1) (Nat.le_of_ble_eq_true rfl)
  rw [lg_entry_eq]
  generalize (lg_sl ([.ref h]) ++ List.replicate (1 - (lg_sl ([.ref h])).length) Slot.unset).toArray = ls at hl ⊢
  have hl : lv_has ls 1 [(0, .ref h)] := hl
  refine lv_aload_n hx hb dX0_init_0 rfl (lv_at hl 0 rfl) ?_
  refine W.objInit hx hb hown (hts _ tw_141) (hts _ tw_30) (hts _ tw_31) rfl (by rw [hml]; exact hl.1) rfl dX0_init_1 (Nat.le_of_ble_eq_true rfl) (Nat.le_of_ble_eq_true rfl) ?_
  refine W.eq (g2 := F0 m 4 ls []) rfl ?_
  refine lv_aload_n hx hb dX0_init_4 rfl (lv_at hl 0 rfl) ?_
  refine lv_bipush (v := 40) hx hb dX0_init_5 (by decide) ?_
  refine newaC (atype := .int) (ty := .int) (N' := 40) (a0 := (40, .inl (fun _ => 0))) hx hb (hts _ tw_159) rfl (fun C h => by cases h) hK hP hD hS hA 1 rfl (fun _ => rfl) (by decide) (by decide) (by decide) (Nat.le_of_ble_eq_true rfl) (Nat.le_of_ble_eq_true rfl) dX0_init_7 (fun q_1 H hP hD hS => ?_)
  have hP : va_P D classes [(h, .inr (0, [.null, .null, .null, .int 0, .int 0])), (q_1, .inl (cy 1, 40, .inl (fun _ => 0)))] H := hP
  have hD : va_D A [(h, .inr (0, [.null, .null, .null, .int 0, .int 0])), (q_1, .inl (cy 1, 40, .inl (fun _ => 0)))] := hD
  refine W.widen (k := 1) (n := 40) (Nat.le_of_ble_eq_true rfl) (Nat.le_of_ble_eq_true rfl) ?_
  refine va_putF (D := D) (ci := 0) (v := .ref q_1) (ty := .array .int) (C := RX0) (T := TX0) (N := 5) hx hb hts inX0 tyX0 tyX0_ok nmX0 hown hK hP hD hS 0 rfl rfl 0 (by decide) (hts _ tw_142) (fun _ h9 => h9) rfl hin rfl (by decide +kernel) rfl rfl (Nat.le_of_ble_eq_true rfl) dX0_init_9 (fun H locs hP hD hS => ?_)
  have hP : va_P D classes [(h, .inr (0, [.ref q_1, .null, .null, .int 0, .int 0])), (q_1, .inl (cy 1, 40, .inl (fun _ => 0)))] H := hP
  have hD : va_D A [(h, .inr (0, [.ref q_1, .null, .null, .int 0, .int 0])), (q_1, .inl (cy 1, 40, .inl (fun _ => 0)))] := hD
  refine lv_aload_n hx hb dX0_init_12 rfl (lv_at hl 0 rfl) ?_
  refine lv_bipush (v := 40) hx hb dX0_init_13 (by decide) ?_
  refine newaC (atype := .int) (ty := .int) (N' := 40) (a0 := (40, .inl (fun _ => 0))) hx hb (hts _ tw_159) rfl (fun C h => by cases h) hK hP hD hS hA 1 rfl (fun _ => rfl) (by decide) (by decide) (by decide) (Nat.le_of_ble_eq_true rfl) (Nat.le_of_ble_eq_true rfl) dX0_init_15 (fun q_2 H hP hD hS => ?_)
  have hP : va_P D classes [(h, .inr (0, [.ref q_1, .null, .null, .int 0, .int 0])), (q_1, .inl (cy 1, 40, .inl (fun _ => 0))), (q_2, .inl (cy 1, 40, .inl (fun _ => 0)))] H := hP
  have hD : va_D A [(h, .inr (0, [.ref q_1, .null, .null, .int 0, .int 0])), (q_1, .inl (cy 1, 40, .inl (fun _ => 0))), (q_2, .inl (cy 1, 40, .inl (fun _ => 0)))] := hD
  refine W.widen (k := 2) (n := 80) (Nat.le_of_ble_eq_true rfl) (Nat.le_of_ble_eq_true rfl) ?_
  refine va_putF (D := D) (ci := 0) (v := .ref q_2) (ty := .array .int) (C := RX0) (T := TX0) (N := 5) hx hb hts inX0 tyX0 tyX0_ok nmX0 hown hK hP hD hS 0 rfl rfl 1 (by decide) (hts _ tw_143) (fun _ h9 => h9) rfl hin rfl (by decide +kernel) rfl rfl (Nat.le_of_ble_eq_true rfl) dX0_init_17 (fun H locs hP hD hS => ?_)
  have hP : va_P D classes [(h, .inr (0, [.ref q_1, .ref q_2, .null, .int 0, .int 0])), (q_1, .inl (cy 1, 40, .inl (fun _ => 0))), (q_2, .inl (cy 1, 40, .inl (fun _ => 0)))] H := hP
  have hD : va_D A [(h, .inr (0, [.ref q_1, .ref q_2, .null, .int 0, .int 0])), (q_1, .inl (cy 1, 40, .inl (fun _ => 0))), (q_2, .inl (cy 1, 40, .inl (fun _ => 0)))] := hD
  refine lv_aload_n hx hb dX0_init_20 rfl (lv_at hl 0 rfl) ?_
  refine lv_bipush (v := 40) hx hb dX0_init_21 (by decide) ?_
  refine newaC (atype := .int) (ty := .int) (N' := 40) (a0 := (40, .inl (fun _ => 0))) hx hb (hts _ tw_159) rfl (fun C h => by cases h) hK hP hD hS hA 1 rfl (fun _ => rfl) (by decide) (by decide) (by decide) (Nat.le_of_ble_eq_true rfl) (Nat.le_of_ble_eq_true rfl) dX0_init_23 (fun q_3 H hP hD hS => ?_)
  have hP : va_P D classes [(h, .inr (0, [.ref q_1, .ref q_2, .null, .int 0, .int 0])), (q_1, .inl (cy 1, 40, .inl (fun _ => 0))), (q_2, .inl (cy 1, 40, .inl (fun _ => 0))), (q_3, .inl (cy 1, 40, .inl (fun _ => 0)))] H := hP
  have hD : va_D A [(h, .inr (0, [.ref q_1, .ref q_2, .null, .int 0, .int 0])), (q_1, .inl (cy 1, 40, .inl (fun _ => 0))), (q_2, .inl (cy 1, 40, .inl (fun _ => 0))), (q_3, .inl (cy 1, 40, .inl (fun _ => 0)))] := hD
  refine W.widen (k := 3) (n := 120) (Nat.le_of_ble_eq_true rfl) (Nat.le_of_ble_eq_true rfl) ?_
  refine va_putF (D := D) (ci := 0) (v := .ref q_3) (ty := .array .int) (C := RX0) (T := TX0) (N := 5) hx hb hts inX0 tyX0 tyX0_ok nmX0 hown hK hP hD hS 0 rfl rfl 2 (by decide) (hts _ tw_144) (fun _ h9 => h9) rfl hin rfl (by decide +kernel) rfl rfl (Nat.le_of_ble_eq_true rfl) dX0_init_25 (fun H locs hP hD hS => ?_)
  have hP : va_P D classes [(h, .inr (0, [.ref q_1, .ref q_2, .ref q_3, .int 0, .int 0])), (q_1, .inl (cy 1, 40, .inl (fun _ => 0))), (q_2, .inl (cy 1, 40, .inl (fun _ => 0))), (q_3, .inl (cy 1, 40, .inl (fun _ => 0)))] H := hP
  have hD : va_D A [(h, .inr (0, [.ref q_1, .ref q_2, .ref q_3, .int 0, .int 0])), (q_1, .inl (cy 1, 40, .inl (fun _ => 0))), (q_2, .inl (cy 1, 40, .inl (fun _ => 0))), (q_3, .inl (cy 1, 40, .inl (fun _ => 0)))] := hD
  refine lv_aload_n hx hb dX0_init_28 rfl (lv_at hl 0 rfl) ?_
  refine lv_iconst (v := 0) hx hb dX0_init_29 (by decide) ?_
  refine va_put (D := D) (ci := 0) (v := .int 0) (ty := .int) (C := RX0) (T := TX0) (N := 5) hx hb hts inX0 tyX0 tyX0_ok nmX0 hown hK hP hD hS 0 rfl rfl 3 (by decide) (hts _ tw_145) (fun _ h9 => h9) rfl (by decide +kernel) rfl rfl (Nat.le_of_ble_eq_true rfl) dX0_init_30 (fun H locs hP hD hS => ?_)
  have hP : va_P D classes [(h, .inr (0, [.ref q_1, .ref q_2, .ref q_3, .int 0, .int 0])), (q_1, .inl (cy 1, 40, .inl (fun _ => 0))), (q_2, .inl (cy 1, 40, .inl (fun _ => 0))), (q_3, .inl (cy 1, 40, .inl (fun _ => 0)))] H := hP
  have hD : va_D A [(h, .inr (0, [.ref q_1, .ref q_2, .ref q_3, .int 0, .int 0])), (q_1, .inl (cy 1, 40, .inl (fun _ => 0))), (q_2, .inl (cy 1, 40, .inl (fun _ => 0))), (q_3, .inl (cy 1, 40, .inl (fun _ => 0)))] := hD
  refine lv_aload_n hx hb dX0_init_33 rfl (lv_at hl 0 rfl) ?_
  refine lv_iconst (v := 0) hx hb dX0_init_34 (by decide) ?_
  refine va_put (D := D) (ci := 0) (v := .int 0) (ty := .int) (C := RX0) (T := TX0) (N := 5) hx hb hts inX0 tyX0 tyX0_ok nmX0 hown hK hP hD hS 0 rfl rfl 4 (by decide) (hts _ tw_146) (fun _ h9 => h9) rfl (by decide +kernel) rfl rfl (Nat.le_of_ble_eq_true rfl) dX0_init_35 (fun H locs hP hD hS => ?_)
  have hP : va_P D classes [(h, .inr (0, [.ref q_1, .ref q_2, .ref q_3, .int 0, .int 0])), (q_1, .inl (cy 1, 40, .inl (fun _ => 0))), (q_2, .inl (cy 1, 40, .inl (fun _ => 0))), (q_3, .inl (cy 1, 40, .inl (fun _ => 0)))] H := hP
  have hD : va_D A [(h, .inr (0, [.ref q_1, .ref q_2, .ref q_3, .int 0, .int 0])), (q_1, .inl (cy 1, 40, .inl (fun _ => 0))), (q_2, .inl (cy 1, 40, .inl (fun _ => 0))), (q_3, .inl (cy 1, 40, .inl (fun _ => 0)))] := hD
  have hP9 : va_P D classes [(h, .inr (0, [.ref q_1, .ref q_2, .ref q_3, .int 0, .int 0])), (q_1, .inl (cy 1, 40, .inl (fun _ => 0))), (q_2, .inl (cy 1, 40, .inl (fun _ => 0))), (q_3, .inl (cy 1, 40, .inl (fun _ => 0)))] H := subP hP [0, 1, 2, 3] rfl
  have hD9 : va_D A [(h, .inr (0, [.ref q_1, .ref q_2, .ref q_3, .int 0, .int 0])), (q_1, .inl (cy 1, 40, .inl (fun _ => 0))), (q_2, .inl (cy 1, 40, .inl (fun _ => 0))), (q_3, .inl (cy 1, 40, .inl (fun _ => 0)))] := hD.sub [0, 1, 2, 3] (by decide) rfl
  refine W.widen (k := 3) (n := 120) (Nat.le_of_ble_eq_true rfl) (Nat.le_of_ble_eq_true rfl) ?_
  exact W.vret hx hb hr (fun t ht hW => ⟨⟨((q_1), (q_2), (q_3)), rfl, trivial, by rw [ht]; exact hP9, va_K.moved hW.alike hK, hD9⟩, hS.F ht⟩) hS.2.2 dX0_init_38
set_option maxHeartbeats 4000000 in
set_option maxRecDepth 100000 in
theorem c_World_init (l : Launch) (D : va_G) (cy : Nat → ClassId) (z : Nat → Nat) (sz : Nat) (h : Nat) (pt : Nat) : Met l yX8_init (Cond.code yX8_init cX8_init 2 none :: gT) ({ frames := 2, cells := 10, slots := 98, locals := 400 } : Room) (va_Pc [.ref h, .ref pt] (PRE D cy z [(h, .inr (8, [.null, .int 0, .null, .null, .null, .null, .null, .null, .null, .null, .null, .null, .int 0]))] sz)) (va_Qv (fun (u : (Nat) × (Nat) × (Nat) × (Nat) × (Nat) × (Nat) × (Nat) × (Nat) × (Nat) × (Nat)) => True) (BB D cy (va_A [(h, .inr (8, [.null, .int 0, .null, .null, .null, .null, .null, .null, .null, .null, .null, .null, .int 0]))] sz) (fun (u : (Nat) × (Nat) × (Nat) × (Nat) × (Nat) × (Nat) × (Nat) × (Nat) × (Nat) × (Nat)) => [(h, .inr (8, [.ref pt, .int 0, .ref u.1, .ref u.2.1, .ref u.2.2.1, .ref u.2.2.2.1, .ref u.2.2.2.2.1, .ref u.2.2.2.2.2.1, .ref u.2.2.2.2.2.2.1, .ref u.2.2.2.2.2.2.2.1, .ref u.2.2.2.2.2.2.2.2.1, .ref u.2.2.2.2.2.2.2.2.2, .int 0])), (u.1, .inl (cy 1, 36, .inl (fun _ => 0))), (u.2.1, .inl (cy 1, 6, .inl (fun _ => 0))), (u.2.2.1, .inl (cy 1, 6, .inl (fun _ => 0))), (u.2.2.2.1, .inl (cy 1, 6, .inl (fun _ => 0))), (u.2.2.2.2.1, .inl (cy 1, 6, .inl (fun _ => 0))), (u.2.2.2.2.2.1, .inl (cy 1, 8, .inl (fun _ => 0))), (u.2.2.2.2.2.2.2.1, .inl (cy 1, 8, .inl (fun _ => 0))), (u.2.2.2.2.2.2.2.2.1, .inl (cy 1, 8, .inl (fun _ => 0))), (u.2.2.2.2.2.2.2.2.2, .inl (cy 1, 6, .inl (fun _ => 0))), (u.2.2.2.2.2.2.1, .inl (cy 1, 8, .inl (fun _ => (-1))))])) (va_A [(h, .inr (8, [.null, .int 0, .null, .null, .null, .null, .null, .null, .null, .null, .null, .null, .int 0]))] sz)) 10 98 (va_A [(h, .inr (8, [.null, .int 0, .null, .null, .null, .null, .null, .null, .null, .null, .null, .null, .int 0]))] sz) := by
  refine Met.ofW (cc := cX8_init) (maxL := 2) (ret := none) (by decide) rfl ?_
  intro p e s m args below meth c s₁ B hml hv
  obtain ⟨rfl, hsz, hP, hK, hD0, hSD⟩ := hv
  have hx := B.exec
  have hb := B.bytes
  have hr := B.returns
  have hlocks := B.notSynchronized
  have hts : ∀ w ∈ gT, w.before _ s = true := fun w h => atoms_spec (ws := Cond.code yX8_init cX8_init 2 none :: gT) B.pre w (List.mem_cons_of_mem _ h)
  have hown : s.vm.findClass RX8 = some m.cls := findClass_of_methodNamed B.named
  have hin : meth.name = "<init>" := (name_of_methodNamed B.named B.method).1
  subst hsz
  have hD := hD0.self (sz := s.heap.size)
  generalize hAe : va_A [(h, .inr (8, [.null, .int 0, .null, .null, .null, .null, .null, .null, .null, .null, .null, .null, .int 0]))] s.heap.size = A at hD hSD ⊢
  have hA : ∀ q : Nat, s.heap.size ≤ q → A q := fun q h => by rw [← hAe]; exact Or.inr h
  have hS : va_S A s.heap s.heap [] := va_S.rf
  have hl := lv_entry ([.ref h, .ref pt]) (n := 2) (Nat.le_of_ble_eq_true rfl)
  rw [lg_entry_eq]
  generalize (lg_sl ([.ref h, .ref pt]) ++ List.replicate (2 - (lg_sl ([.ref h, .ref pt])).length) Slot.unset).toArray = ls at hl ⊢
  have hl : lv_has ls 2 [(0, .ref h), (1, .ref pt)] := hl
  refine lv_aload_n hx hb dX8_init_0 rfl (lv_at hl 0 rfl) ?_
  refine W.objInit hx hb hown (hts _ tw_245) (hts _ tw_30) (hts _ tw_31) rfl (by rw [hml]; exact hl.1) rfl dX8_init_1 (Nat.le_of_ble_eq_true rfl) (Nat.le_of_ble_eq_true rfl) ?_
  refine W.eq (g2 := F0 m 4 ls []) rfl ?_
  refine lv_aload_n hx hb dX8_init_4 rfl (lv_at hl 0 rfl) ?_
  refine lv_bipush (v := 36) hx hb dX8_init_5 (by decide) ?_
  refine newaC (atype := .int) (ty := .int) (N' := 36) (a0 := (36, .inl (fun _ => 0))) hx hb (hts _ tw_159) rfl (fun C h => by cases h) hK hP hD hS hA 1 rfl (fun _ => rfl) (by decide) (by decide) (by decide) (Nat.le_of_ble_eq_true rfl) (Nat.le_of_ble_eq_true rfl) dX8_init_7 (fun q_1 H hP hD hS => ?_)
  have hP : va_P D classes [(h, .inr (8, [.null, .int 0, .null, .null, .null, .null, .null, .null, .null, .null, .null, .null, .int 0])), (q_1, .inl (cy 1, 36, .inl (fun _ => 0)))] H := hP
  have hD : va_D A [(h, .inr (8, [.null, .int 0, .null, .null, .null, .null, .null, .null, .null, .null, .null, .null, .int 0])), (q_1, .inl (cy 1, 36, .inl (fun _ => 0)))] := hD
  refine W.widen (k := 1) (n := 36) (Nat.le_of_ble_eq_true rfl) (Nat.le_of_ble_eq_true rfl) ?_
  refine va_putF (D := D) (ci := 8) (v := .ref q_1) (ty := .array .int) (C := RX8) (T := TX8) (N := 13) hx hb hts inX8 tyX8 tyX8_ok nmX8 hown hK hP hD hS 0 rfl rfl 2 (by decide) (hts _ tw_252) (fun _ h9 => h9) rfl hin rfl (by decide +kernel) rfl rfl (Nat.le_of_ble_eq_true rfl) dX8_init_9 (fun H locs hP hD hS => ?_)
  have hP : va_P D classes [(h, .inr (8, [.null, .int 0, .ref q_1, .null, .null, .null, .null, .null, .null, .null, .null, .null, .int 0])), (q_1, .inl (cy 1, 36, .inl (fun _ => 0)))] H := hP
  have hD : va_D A [(h, .inr (8, [.null, .int 0, .ref q_1, .null, .null, .null, .null, .null, .null, .null, .null, .null, .int 0])), (q_1, .inl (cy 1, 36, .inl (fun _ => 0)))] := hD
  refine lv_aload_n hx hb dX8_init_12 rfl (lv_at hl 0 rfl) ?_
  refine lv_bipush (v := 6) hx hb dX8_init_13 (by decide) ?_
  refine newaC (atype := .int) (ty := .int) (N' := 6) (a0 := (6, .inl (fun _ => 0))) hx hb (hts _ tw_159) rfl (fun C h => by cases h) hK hP hD hS hA 1 rfl (fun _ => rfl) (by decide) (by decide) (by decide) (Nat.le_of_ble_eq_true rfl) (Nat.le_of_ble_eq_true rfl) dX8_init_15 (fun q_2 H hP hD hS => ?_)
  have hP : va_P D classes [(h, .inr (8, [.null, .int 0, .ref q_1, .null, .null, .null, .null, .null, .null, .null, .null, .null, .int 0])), (q_1, .inl (cy 1, 36, .inl (fun _ => 0))), (q_2, .inl (cy 1, 6, .inl (fun _ => 0)))] H := hP
  have hD : va_D A [(h, .inr (8, [.null, .int 0, .ref q_1, .null, .null, .null, .null, .null, .null, .null, .null, .null, .int 0])), (q_1, .inl (cy 1, 36, .inl (fun _ => 0))), (q_2, .inl (cy 1, 6, .inl (fun _ => 0)))] := hD
  refine W.widen (k := 2) (n := 42) (Nat.le_of_ble_eq_true rfl) (Nat.le_of_ble_eq_true rfl) ?_
  refine va_putF (D := D) (ci := 8) (v := .ref q_2) (ty := .array .int) (C := RX8) (T := TX8) (N := 13) hx hb hts inX8 tyX8 tyX8_ok nmX8 hown hK hP hD hS 0 rfl rfl 3 (by decide) (hts _ tw_253) (fun _ h9 => h9) rfl hin rfl (by decide +kernel) rfl rfl (Nat.le_of_ble_eq_true rfl) dX8_init_17 (fun H locs hP hD hS => ?_)
  have hP : va_P D classes [(h, .inr (8, [.null, .int 0, .ref q_1, .ref q_2, .null, .null, .null, .null, .null, .null, .null, .null, .int 0])), (q_1, .inl (cy 1, 36, .inl (fun _ => 0))), (q_2, .inl (cy 1, 6, .inl (fun _ => 0)))] H := hP
  have hD : va_D A [(h, .inr (8, [.null, .int 0, .ref q_1, .ref q_2, .null, .null, .null, .null, .null, .null, .null, .null, .int 0])), (q_1, .inl (cy 1, 36, .inl (fun _ => 0))), (q_2, .inl (cy 1, 6, .inl (fun _ => 0)))] := hD
  refine lv_aload_n hx hb dX8_init_20 rfl (lv_at hl 0 rfl) ?_
  refine lv_bipush (v := 6) hx hb dX8_init_21 (by decide) ?_
  refine newaC (atype := .int) (ty := .int) (N' := 6) (a0 := (6, .inl (fun _ => 0))) hx hb (hts _ tw_159) rfl (fun C h => by cases h) hK hP hD hS hA 1 rfl (fun _ => rfl) (by decide) (by decide) (by decide) (Nat.le_of_ble_eq_true rfl) (Nat.le_of_ble_eq_true rfl) dX8_init_23 (fun q_3 H hP hD hS => ?_)
  have hP : va_P D classes [(h, .inr (8, [.null, .int 0, .ref q_1, .ref q_2, .null, .null, .null, .null, .null, .null, .null, .null, .int 0])), (q_1, .inl (cy 1, 36, .inl (fun _ => 0))), (q_2, .inl (cy 1, 6, .inl (fun _ => 0))), (q_3, .inl (cy 1, 6, .inl (fun _ => 0)))] H := hP
  have hD : va_D A [(h, .inr (8, [.null, .int 0, .ref q_1, .ref q_2, .null, .null, .null, .null, .null, .null, .null, .null, .int 0])), (q_1, .inl (cy 1, 36, .inl (fun _ => 0))), (q_2, .inl (cy 1, 6, .inl (fun _ => 0))), (q_3, .inl (cy 1, 6, .inl (fun _ => 0)))] := hD
  refine W.widen (k := 3) (n := 48) (Nat.le_of_ble_eq_true rfl) (Nat.le_of_ble_eq_true rfl) ?_
  refine va_putF (D := D) (ci := 8) (v := .ref q_3) (ty := .array .int) (C := RX8) (T := TX8) (N := 13) hx hb hts inX8 tyX8 tyX8_ok nmX8 hown hK hP hD hS 0 rfl rfl 4 (by decide) (hts _ tw_257) (fun _ h9 => h9) rfl hin rfl (by decide +kernel) rfl rfl (Nat.le_of_ble_eq_true rfl) dX8_init_25 (fun H locs hP hD hS => ?_)
  have hP : va_P D classes [(h, .inr (8, [.null, .int 0, .ref q_1, .ref q_2, .ref q_3, .null, .null, .null, .null, .null, .null, .null, .int 0])), (q_1, .inl (cy 1, 36, .inl (fun _ => 0))), (q_2, .inl (cy 1, 6, .inl (fun _ => 0))), (q_3, .inl (cy 1, 6, .inl (fun _ => 0)))] H := hP
  have hD : va_D A [(h, .inr (8, [.null, .int 0, .ref q_1, .ref q_2, .ref q_3, .null, .null, .null, .null, .null, .null, .null, .int 0])), (q_1, .inl (cy 1, 36, .inl (fun _ => 0))), (q_2, .inl (cy 1, 6, .inl (fun _ => 0))), (q_3, .inl (cy 1, 6, .inl (fun _ => 0)))] := hD
  refine lv_aload_n hx hb dX8_init_28 rfl (lv_at hl 0 rfl) ?_
  refine lv_bipush (v := 6) hx hb dX8_init_29 (by decide) ?_
  refine newaC (atype := .int) (ty := .int) (N' := 6) (a0 := (6, .inl (fun _ => 0))) hx hb (hts _ tw_159) rfl (fun C h => by cases h) hK hP hD hS hA 1 rfl (fun _ => rfl) (by decide) (by decide) (by decide) (Nat.le_of_ble_eq_true rfl) (Nat.le_of_ble_eq_true rfl) dX8_init_31 (fun q_4 H hP hD hS => ?_)
  have hP : va_P D classes [(h, .inr (8, [.null, .int 0, .ref q_1, .ref q_2, .ref q_3, .null, .null, .null, .null, .null, .null, .null, .int 0])), (q_1, .inl (cy 1, 36, .inl (fun _ => 0))), (q_2, .inl (cy 1, 6, .inl (fun _ => 0))), (q_3, .inl (cy 1, 6, .inl (fun _ => 0))), (q_4, .inl (cy 1, 6, .inl (fun _ => 0)))] H := hP
  have hD : va_D A [(h, .inr (8, [.null, .int 0, .ref q_1, .ref q_2, .ref q_3, .null, .null, .null, .null, .null, .null, .null, .int 0])), (q_1, .inl (cy 1, 36, .inl (fun _ => 0))), (q_2, .inl (cy 1, 6, .inl (fun _ => 0))), (q_3, .inl (cy 1, 6, .inl (fun _ => 0))), (q_4, .inl (cy 1, 6, .inl (fun _ => 0)))] := hD
  refine W.widen (k := 4) (n := 54) (Nat.le_of_ble_eq_true rfl) (Nat.le_of_ble_eq_true rfl) ?_
  refine va_putF (D := D) (ci := 8) (v := .ref q_4) (ty := .array .int) (C := RX8) (T := TX8) (N := 13) hx hb hts inX8 tyX8 tyX8_ok nmX8 hown hK hP hD hS 0 rfl rfl 5 (by decide) (hts _ tw_260) (fun _ h9 => h9) rfl hin rfl (by decide +kernel) rfl rfl (Nat.le_of_ble_eq_true rfl) dX8_init_33 (fun H locs hP hD hS => ?_)
  have hP : va_P D classes [(h, .inr (8, [.null, .int 0, .ref q_1, .ref q_2, .ref q_3, .ref q_4, .null, .null, .null, .null, .null, .null, .int 0])), (q_1, .inl (cy 1, 36, .inl (fun _ => 0))), (q_2, .inl (cy 1, 6, .inl (fun _ => 0))), (q_3, .inl (cy 1, 6, .inl (fun _ => 0))), (q_4, .inl (cy 1, 6, .inl (fun _ => 0)))] H := hP
  have hD : va_D A [(h, .inr (8, [.null, .int 0, .ref q_1, .ref q_2, .ref q_3, .ref q_4, .null, .null, .null, .null, .null, .null, .int 0])), (q_1, .inl (cy 1, 36, .inl (fun _ => 0))), (q_2, .inl (cy 1, 6, .inl (fun _ => 0))), (q_3, .inl (cy 1, 6, .inl (fun _ => 0))), (q_4, .inl (cy 1, 6, .inl (fun _ => 0)))] := hD
  refine lv_aload_n hx hb dX8_init_36 rfl (lv_at hl 0 rfl) ?_
  refine lv_bipush (v := 6) hx hb dX8_init_37 (by decide) ?_
  refine newaC (atype := .int) (ty := .int) (N' := 6) (a0 := (6, .inl (fun _ => 0))) hx hb (hts _ tw_159) rfl (fun C h => by cases h) hK hP hD hS hA 1 rfl (fun _ => rfl) (by decide) (by decide) (by decide) (Nat.le_of_ble_eq_true rfl) (Nat.le_of_ble_eq_true rfl) dX8_init_39 (fun q_5 H hP hD hS => ?_)
  have hP : va_P D classes [(h, .inr (8, [.null, .int 0, .ref q_1, .ref q_2, .ref q_3, .ref q_4, .null, .null, .null, .null, .null, .null, .int 0])), (q_1, .inl (cy 1, 36, .inl (fun _ => 0))), (q_2, .inl (cy 1, 6, .inl (fun _ => 0))), (q_3, .inl (cy 1, 6, .inl (fun _ => 0))), (q_4, .inl (cy 1, 6, .inl (fun _ => 0))), (q_5, .inl (cy 1, 6, .inl (fun _ => 0)))] H := hP
  have hD : va_D A [(h, .inr (8, [.null, .int 0, .ref q_1, .ref q_2, .ref q_3, .ref q_4, .null, .null, .null, .null, .null, .null, .int 0])), (q_1, .inl (cy 1, 36, .inl (fun _ => 0))), (q_2, .inl (cy 1, 6, .inl (fun _ => 0))), (q_3, .inl (cy 1, 6, .inl (fun _ => 0))), (q_4, .inl (cy 1, 6, .inl (fun _ => 0))), (q_5, .inl (cy 1, 6, .inl (fun _ => 0)))] := hD
  refine W.widen (k := 5) (n := 60) (Nat.le_of_ble_eq_true rfl) (Nat.le_of_ble_eq_true rfl) ?_
  refine va_putF (D := D) (ci := 8) (v := .ref q_5) (ty := .array .int) (C := RX8) (T := TX8) (N := 13) hx hb hts inX8 tyX8 tyX8_ok nmX8 hown hK hP hD hS 0 rfl rfl 6 (by decide) (hts _ tw_262) (fun _ h9 => h9) rfl hin rfl (by decide +kernel) rfl rfl (Nat.le_of_ble_eq_true rfl) dX8_init_41 (fun H locs hP hD hS => ?_)
  have hP : va_P D classes [(h, .inr (8, [.null, .int 0, .ref q_1, .ref q_2, .ref q_3, .ref q_4, .ref q_5, .null, .null, .null, .null, .null, .int 0])), (q_1, .inl (cy 1, 36, .inl (fun _ => 0))), (q_2, .inl (cy 1, 6, .inl (fun _ => 0))), (q_3, .inl (cy 1, 6, .inl (fun _ => 0))), (q_4, .inl (cy 1, 6, .inl (fun _ => 0))), (q_5, .inl (cy 1, 6, .inl (fun _ => 0)))] H := hP
  have hD : va_D A [(h, .inr (8, [.null, .int 0, .ref q_1, .ref q_2, .ref q_3, .ref q_4, .ref q_5, .null, .null, .null, .null, .null, .int 0])), (q_1, .inl (cy 1, 36, .inl (fun _ => 0))), (q_2, .inl (cy 1, 6, .inl (fun _ => 0))), (q_3, .inl (cy 1, 6, .inl (fun _ => 0))), (q_4, .inl (cy 1, 6, .inl (fun _ => 0))), (q_5, .inl (cy 1, 6, .inl (fun _ => 0)))] := hD
  refine lv_aload_n hx hb dX8_init_44 rfl (lv_at hl 0 rfl) ?_
  refine lv_bipush (v := 8) hx hb dX8_init_45 (by decide) ?_
  refine newaC (atype := .int) (ty := .int) (N' := 8) (a0 := (8, .inl (fun _ => 0))) hx hb (hts _ tw_159) rfl (fun C h => by cases h) hK hP hD hS hA 1 rfl (fun _ => rfl) (by decide) (by decide) (by decide) (Nat.le_of_ble_eq_true rfl) (Nat.le_of_ble_eq_true rfl) dX8_init_47 (fun q_6 H hP hD hS => ?_)
  have hP : va_P D classes [(h, .inr (8, [.null, .int 0, .ref q_1, .ref q_2, .ref q_3, .ref q_4, .ref q_5, .null, .null, .null, .null, .null, .int 0])), (q_1, .inl (cy 1, 36, .inl (fun _ => 0))), (q_2, .inl (cy 1, 6, .inl (fun _ => 0))), (q_3, .inl (cy 1, 6, .inl (fun _ => 0))), (q_4, .inl (cy 1, 6, .inl (fun _ => 0))), (q_5, .inl (cy 1, 6, .inl (fun _ => 0))), (q_6, .inl (cy 1, 8, .inl (fun _ => 0)))] H := hP
  have hD : va_D A [(h, .inr (8, [.null, .int 0, .ref q_1, .ref q_2, .ref q_3, .ref q_4, .ref q_5, .null, .null, .null, .null, .null, .int 0])), (q_1, .inl (cy 1, 36, .inl (fun _ => 0))), (q_2, .inl (cy 1, 6, .inl (fun _ => 0))), (q_3, .inl (cy 1, 6, .inl (fun _ => 0))), (q_4, .inl (cy 1, 6, .inl (fun _ => 0))), (q_5, .inl (cy 1, 6, .inl (fun _ => 0))), (q_6, .inl (cy 1, 8, .inl (fun _ => 0)))] := hD
  refine W.widen (k := 6) (n := 68) (Nat.le_of_ble_eq_true rfl) (Nat.le_of_ble_eq_true rfl) ?_
  refine va_putF (D := D) (ci := 8) (v := .ref q_6) (ty := .array .int) (C := RX8) (T := TX8) (N := 13) hx hb hts inX8 tyX8 tyX8_ok nmX8 hown hK hP hD hS 0 rfl rfl 7 (by decide) (hts _ tw_265) (fun _ h9 => h9) rfl hin rfl (by decide +kernel) rfl rfl (Nat.le_of_ble_eq_true rfl) dX8_init_49 (fun H locs hP hD hS => ?_)
  have hP : va_P D classes [(h, .inr (8, [.null, .int 0, .ref q_1, .ref q_2, .ref q_3, .ref q_4, .ref q_5, .ref q_6, .null, .null, .null, .null, .int 0])), (q_1, .inl (cy 1, 36, .inl (fun _ => 0))), (q_2, .inl (cy 1, 6, .inl (fun _ => 0))), (q_3, .inl (cy 1, 6, .inl (fun _ => 0))), (q_4, .inl (cy 1, 6, .inl (fun _ => 0))), (q_5, .inl (cy 1, 6, .inl (fun _ => 0))), (q_6, .inl (cy 1, 8, .inl (fun _ => 0)))] H := hP
  have hD : va_D A [(h, .inr (8, [.null, .int 0, .ref q_1, .ref q_2, .ref q_3, .ref q_4, .ref q_5, .ref q_6, .null, .null, .null, .null, .int 0])), (q_1, .inl (cy 1, 36, .inl (fun _ => 0))), (q_2, .inl (cy 1, 6, .inl (fun _ => 0))), (q_3, .inl (cy 1, 6, .inl (fun _ => 0))), (q_4, .inl (cy 1, 6, .inl (fun _ => 0))), (q_5, .inl (cy 1, 6, .inl (fun _ => 0))), (q_6, .inl (cy 1, 8, .inl (fun _ => 0)))] := hD
  refine lv_aload_n hx hb dX8_init_52 rfl (lv_at hl 0 rfl) ?_
  refine lv_bipush (v := 8) hx hb dX8_init_53 (by decide) ?_
  refine newaC (atype := .int) (ty := .int) (N' := 8) (a0 := (8, .inl (fun _ => 0))) hx hb (hts _ tw_159) rfl (fun C h => by cases h) hK hP hD hS hA 1 rfl (fun _ => rfl) (by decide) (by decide) (by decide) (Nat.le_of_ble_eq_true rfl) (Nat.le_of_ble_eq_true rfl) dX8_init_55 (fun q_7 H hP hD hS => ?_)
  have hP : va_P D classes [(h, .inr (8, [.null, .int 0, .ref q_1, .ref q_2, .ref q_3, .ref q_4, .ref q_5, .ref q_6, .null, .null, .null, .null, .int 0])), (q_1, .inl (cy 1, 36, .inl (fun _ => 0))), (q_2, .inl (cy 1, 6, .inl (fun _ => 0))), (q_3, .inl (cy 1, 6, .inl (fun _ => 0))), (q_4, .inl (cy 1, 6, .inl (fun _ => 0))), (q_5, .inl (cy 1, 6, .inl (fun _ => 0))), (q_6, .inl (cy 1, 8, .inl (fun _ => 0))), (q_7, .inl (cy 1, 8, .inl (fun _ => 0)))] H := hP
  have hD : va_D A [(h, .inr (8, [.null, .int 0, .ref q_1, .ref q_2, .ref q_3, .ref q_4, .ref q_5, .ref q_6, .null, .null, .null, .null, .int 0])), (q_1, .inl (cy 1, 36, .inl (fun _ => 0))), (q_2, .inl (cy 1, 6, .inl (fun _ => 0))), (q_3, .inl (cy 1, 6, .inl (fun _ => 0))), (q_4, .inl (cy 1, 6, .inl (fun _ => 0))), (q_5, .inl (cy 1, 6, .inl (fun _ => 0))), (q_6, .inl (cy 1, 8, .inl (fun _ => 0))), (q_7, .inl (cy 1, 8, .inl (fun _ => 0)))] := hD
  refine W.widen (k := 7) (n := 76) (Nat.le_of_ble_eq_true rfl) (Nat.le_of_ble_eq_true rfl) ?_
  refine va_putF (D := D) (ci := 8) (v := .ref q_7) (ty := .array .int) (C := RX8) (T := TX8) (N := 13) hx hb hts inX8 tyX8 tyX8_ok nmX8 hown hK hP hD hS 0 rfl rfl 8 (by decide) (hts _ tw_268) (fun _ h9 => h9) rfl hin rfl (by decide +kernel) rfl rfl (Nat.le_of_ble_eq_true rfl) dX8_init_57 (fun H locs hP hD hS => ?_)
  have hP : va_P D classes [(h, .inr (8, [.null, .int 0, .ref q_1, .ref q_2, .ref q_3, .ref q_4, .ref q_5, .ref q_6, .ref q_7, .null, .null, .null, .int 0])), (q_1, .inl (cy 1, 36, .inl (fun _ => 0))), (q_2, .inl (cy 1, 6, .inl (fun _ => 0))), (q_3, .inl (cy 1, 6, .inl (fun _ => 0))), (q_4, .inl (cy 1, 6, .inl (fun _ => 0))), (q_5, .inl (cy 1, 6, .inl (fun _ => 0))), (q_6, .inl (cy 1, 8, .inl (fun _ => 0))), (q_7, .inl (cy 1, 8, .inl (fun _ => 0)))] H := hP
  have hD : va_D A [(h, .inr (8, [.null, .int 0, .ref q_1, .ref q_2, .ref q_3, .ref q_4, .ref q_5, .ref q_6, .ref q_7, .null, .null, .null, .int 0])), (q_1, .inl (cy 1, 36, .inl (fun _ => 0))), (q_2, .inl (cy 1, 6, .inl (fun _ => 0))), (q_3, .inl (cy 1, 6, .inl (fun _ => 0))), (q_4, .inl (cy 1, 6, .inl (fun _ => 0))), (q_5, .inl (cy 1, 6, .inl (fun _ => 0))), (q_6, .inl (cy 1, 8, .inl (fun _ => 0))), (q_7, .inl (cy 1, 8, .inl (fun _ => 0)))] := hD
  refine lv_aload_n hx hb dX8_init_60 rfl (lv_at hl 0 rfl) ?_
  refine lv_bipush (v := 8) hx hb dX8_init_61 (by decide) ?_
  refine newaC (atype := .int) (ty := .int) (N' := 8) (a0 := (8, .inl (fun _ => 0))) hx hb (hts _ tw_159) rfl (fun C h => by cases h) hK hP hD hS hA 1 rfl (fun _ => rfl) (by decide) (by decide) (by decide) (Nat.le_of_ble_eq_true rfl) (Nat.le_of_ble_eq_true rfl) dX8_init_63 (fun q_8 H hP hD hS => ?_)
  have hP : va_P D classes [(h, .inr (8, [.null, .int 0, .ref q_1, .ref q_2, .ref q_3, .ref q_4, .ref q_5, .ref q_6, .ref q_7, .null, .null, .null, .int 0])), (q_1, .inl (cy 1, 36, .inl (fun _ => 0))), (q_2, .inl (cy 1, 6, .inl (fun _ => 0))), (q_3, .inl (cy 1, 6, .inl (fun _ => 0))), (q_4, .inl (cy 1, 6, .inl (fun _ => 0))), (q_5, .inl (cy 1, 6, .inl (fun _ => 0))), (q_6, .inl (cy 1, 8, .inl (fun _ => 0))), (q_7, .inl (cy 1, 8, .inl (fun _ => 0))), (q_8, .inl (cy 1, 8, .inl (fun _ => 0)))] H := hP
  have hD : va_D A [(h, .inr (8, [.null, .int 0, .ref q_1, .ref q_2, .ref q_3, .ref q_4, .ref q_5, .ref q_6, .ref q_7, .null, .null, .null, .int 0])), (q_1, .inl (cy 1, 36, .inl (fun _ => 0))), (q_2, .inl (cy 1, 6, .inl (fun _ => 0))), (q_3, .inl (cy 1, 6, .inl (fun _ => 0))), (q_4, .inl (cy 1, 6, .inl (fun _ => 0))), (q_5, .inl (cy 1, 6, .inl (fun _ => 0))), (q_6, .inl (cy 1, 8, .inl (fun _ => 0))), (q_7, .inl (cy 1, 8, .inl (fun _ => 0))), (q_8, .inl (cy 1, 8, .inl (fun _ => 0)))] := hD
  refine W.widen (k := 8) (n := 84) (Nat.le_of_ble_eq_true rfl) (Nat.le_of_ble_eq_true rfl) ?_
  refine va_putF (D := D) (ci := 8) (v := .ref q_8) (ty := .array .int) (C := RX8) (T := TX8) (N := 13) hx hb hts inX8 tyX8 tyX8_ok nmX8 hown hK hP hD hS 0 rfl rfl 9 (by decide) (hts _ tw_271) (fun _ h9 => h9) rfl hin rfl (by decide +kernel) rfl rfl (Nat.le_of_ble_eq_true rfl) dX8_init_65 (fun H locs hP hD hS => ?_)
  have hP : va_P D classes [(h, .inr (8, [.null, .int 0, .ref q_1, .ref q_2, .ref q_3, .ref q_4, .ref q_5, .ref q_6, .ref q_7, .ref q_8, .null, .null, .int 0])), (q_1, .inl (cy 1, 36, .inl (fun _ => 0))), (q_2, .inl (cy 1, 6, .inl (fun _ => 0))), (q_3, .inl (cy 1, 6, .inl (fun _ => 0))), (q_4, .inl (cy 1, 6, .inl (fun _ => 0))), (q_5, .inl (cy 1, 6, .inl (fun _ => 0))), (q_6, .inl (cy 1, 8, .inl (fun _ => 0))), (q_7, .inl (cy 1, 8, .inl (fun _ => 0))), (q_8, .inl (cy 1, 8, .inl (fun _ => 0)))] H := hP
  have hD : va_D A [(h, .inr (8, [.null, .int 0, .ref q_1, .ref q_2, .ref q_3, .ref q_4, .ref q_5, .ref q_6, .ref q_7, .ref q_8, .null, .null, .int 0])), (q_1, .inl (cy 1, 36, .inl (fun _ => 0))), (q_2, .inl (cy 1, 6, .inl (fun _ => 0))), (q_3, .inl (cy 1, 6, .inl (fun _ => 0))), (q_4, .inl (cy 1, 6, .inl (fun _ => 0))), (q_5, .inl (cy 1, 6, .inl (fun _ => 0))), (q_6, .inl (cy 1, 8, .inl (fun _ => 0))), (q_7, .inl (cy 1, 8, .inl (fun _ => 0))), (q_8, .inl (cy 1, 8, .inl (fun _ => 0)))] := hD
  refine lv_aload_n hx hb dX8_init_68 rfl (lv_at hl 0 rfl) ?_
  refine lv_bipush (v := 8) hx hb dX8_init_69 (by decide) ?_
  refine newaC (atype := .int) (ty := .int) (N' := 8) (a0 := (8, .inl (fun _ => 0))) hx hb (hts _ tw_159) rfl (fun C h => by cases h) hK hP hD hS hA 1 rfl (fun _ => rfl) (by decide) (by decide) (by decide) (Nat.le_of_ble_eq_true rfl) (Nat.le_of_ble_eq_true rfl) dX8_init_71 (fun q_9 H hP hD hS => ?_)
  have hP : va_P D classes [(h, .inr (8, [.null, .int 0, .ref q_1, .ref q_2, .ref q_3, .ref q_4, .ref q_5, .ref q_6, .ref q_7, .ref q_8, .null, .null, .int 0])), (q_1, .inl (cy 1, 36, .inl (fun _ => 0))), (q_2, .inl (cy 1, 6, .inl (fun _ => 0))), (q_3, .inl (cy 1, 6, .inl (fun _ => 0))), (q_4, .inl (cy 1, 6, .inl (fun _ => 0))), (q_5, .inl (cy 1, 6, .inl (fun _ => 0))), (q_6, .inl (cy 1, 8, .inl (fun _ => 0))), (q_7, .inl (cy 1, 8, .inl (fun _ => 0))), (q_8, .inl (cy 1, 8, .inl (fun _ => 0))), (q_9, .inl (cy 1, 8, .inl (fun _ => 0)))] H := hP
  have hD : va_D A [(h, .inr (8, [.null, .int 0, .ref q_1, .ref q_2, .ref q_3, .ref q_4, .ref q_5, .ref q_6, .ref q_7, .ref q_8, .null, .null, .int 0])), (q_1, .inl (cy 1, 36, .inl (fun _ => 0))), (q_2, .inl (cy 1, 6, .inl (fun _ => 0))), (q_3, .inl (cy 1, 6, .inl (fun _ => 0))), (q_4, .inl (cy 1, 6, .inl (fun _ => 0))), (q_5, .inl (cy 1, 6, .inl (fun _ => 0))), (q_6, .inl (cy 1, 8, .inl (fun _ => 0))), (q_7, .inl (cy 1, 8, .inl (fun _ => 0))), (q_8, .inl (cy 1, 8, .inl (fun _ => 0))), (q_9, .inl (cy 1, 8, .inl (fun _ => 0)))] := hD
  refine W.widen (k := 9) (n := 92) (Nat.le_of_ble_eq_true rfl) (Nat.le_of_ble_eq_true rfl) ?_
  refine va_putF (D := D) (ci := 8) (v := .ref q_9) (ty := .array .int) (C := RX8) (T := TX8) (N := 13) hx hb hts inX8 tyX8 tyX8_ok nmX8 hown hK hP hD hS 0 rfl rfl 10 (by decide) (hts _ tw_273) (fun _ h9 => h9) rfl hin rfl (by decide +kernel) rfl rfl (Nat.le_of_ble_eq_true rfl) dX8_init_73 (fun H locs hP hD hS => ?_)
  have hP : va_P D classes [(h, .inr (8, [.null, .int 0, .ref q_1, .ref q_2, .ref q_3, .ref q_4, .ref q_5, .ref q_6, .ref q_7, .ref q_8, .ref q_9, .null, .int 0])), (q_1, .inl (cy 1, 36, .inl (fun _ => 0))), (q_2, .inl (cy 1, 6, .inl (fun _ => 0))), (q_3, .inl (cy 1, 6, .inl (fun _ => 0))), (q_4, .inl (cy 1, 6, .inl (fun _ => 0))), (q_5, .inl (cy 1, 6, .inl (fun _ => 0))), (q_6, .inl (cy 1, 8, .inl (fun _ => 0))), (q_7, .inl (cy 1, 8, .inl (fun _ => 0))), (q_8, .inl (cy 1, 8, .inl (fun _ => 0))), (q_9, .inl (cy 1, 8, .inl (fun _ => 0)))] H := hP
  have hD : va_D A [(h, .inr (8, [.null, .int 0, .ref q_1, .ref q_2, .ref q_3, .ref q_4, .ref q_5, .ref q_6, .ref q_7, .ref q_8, .ref q_9, .null, .int 0])), (q_1, .inl (cy 1, 36, .inl (fun _ => 0))), (q_2, .inl (cy 1, 6, .inl (fun _ => 0))), (q_3, .inl (cy 1, 6, .inl (fun _ => 0))), (q_4, .inl (cy 1, 6, .inl (fun _ => 0))), (q_5, .inl (cy 1, 6, .inl (fun _ => 0))), (q_6, .inl (cy 1, 8, .inl (fun _ => 0))), (q_7, .inl (cy 1, 8, .inl (fun _ => 0))), (q_8, .inl (cy 1, 8, .inl (fun _ => 0))), (q_9, .inl (cy 1, 8, .inl (fun _ => 0)))] := hD
  refine lv_aload_n hx hb dX8_init_76 rfl (lv_at hl 0 rfl) ?_
  refine lv_bipush (v := 6) hx hb dX8_init_77 (by decide) ?_
  refine newaC (atype := .int) (ty := .int) (N' := 6) (a0 := (6, .inl (fun _ => 0))) hx hb (hts _ tw_159) rfl (fun C h => by cases h) hK hP hD hS hA 1 rfl (fun _ => rfl) (by decide) (by decide) (by decide) (Nat.le_of_ble_eq_true rfl) (Nat.le_of_ble_eq_true rfl) dX8_init_79 (fun q_10 H hP hD hS => ?_)
  have hP : va_P D classes [(h, .inr (8, [.null, .int 0, .ref q_1, .ref q_2, .ref q_3, .ref q_4, .ref q_5, .ref q_6, .ref q_7, .ref q_8, .ref q_9, .null, .int 0])), (q_1, .inl (cy 1, 36, .inl (fun _ => 0))), (q_2, .inl (cy 1, 6, .inl (fun _ => 0))), (q_3, .inl (cy 1, 6, .inl (fun _ => 0))), (q_4, .inl (cy 1, 6, .inl (fun _ => 0))), (q_5, .inl (cy 1, 6, .inl (fun _ => 0))), (q_6, .inl (cy 1, 8, .inl (fun _ => 0))), (q_7, .inl (cy 1, 8, .inl (fun _ => 0))), (q_8, .inl (cy 1, 8, .inl (fun _ => 0))), (q_9, .inl (cy 1, 8, .inl (fun _ => 0))), (q_10, .inl (cy 1, 6, .inl (fun _ => 0)))] H := hP
  have hD : va_D A [(h, .inr (8, [.null, .int 0, .ref q_1, .ref q_2, .ref q_3, .ref q_4, .ref q_5, .ref q_6, .ref q_7, .ref q_8, .ref q_9, .null, .int 0])), (q_1, .inl (cy 1, 36, .inl (fun _ => 0))), (q_2, .inl (cy 1, 6, .inl (fun _ => 0))), (q_3, .inl (cy 1, 6, .inl (fun _ => 0))), (q_4, .inl (cy 1, 6, .inl (fun _ => 0))), (q_5, .inl (cy 1, 6, .inl (fun _ => 0))), (q_6, .inl (cy 1, 8, .inl (fun _ => 0))), (q_7, .inl (cy 1, 8, .inl (fun _ => 0))), (q_8, .inl (cy 1, 8, .inl (fun _ => 0))), (q_9, .inl (cy 1, 8, .inl (fun _ => 0))), (q_10, .inl (cy 1, 6, .inl (fun _ => 0)))] := hD
  refine W.widen (k := 10) (n := 98) (Nat.le_of_ble_eq_true rfl) (Nat.le_of_ble_eq_true rfl) ?_
  refine va_putF (D := D) (ci := 8) (v := .ref q_10) (ty := .array .int) (C := RX8) (T := TX8) (N := 13) hx hb hts inX8 tyX8 tyX8_ok nmX8 hown hK hP hD hS 0 rfl rfl 11 (by decide) (hts _ tw_275) (fun _ h9 => h9) rfl hin rfl (by decide +kernel) rfl rfl (Nat.le_of_ble_eq_true rfl) dX8_init_81 (fun H locs hP hD hS => ?_)
  have hP : va_P D classes [(h, .inr (8, [.null, .int 0, .ref q_1, .ref q_2, .ref q_3, .ref q_4, .ref q_5, .ref q_6, .ref q_7, .ref q_8, .ref q_9, .ref q_10, .int 0])), (q_1, .inl (cy 1, 36, .inl (fun _ => 0))), (q_2, .inl (cy 1, 6, .inl (fun _ => 0))), (q_3, .inl (cy 1, 6, .inl (fun _ => 0))), (q_4, .inl (cy 1, 6, .inl (fun _ => 0))), (q_5, .inl (cy 1, 6, .inl (fun _ => 0))), (q_6, .inl (cy 1, 8, .inl (fun _ => 0))), (q_7, .inl (cy 1, 8, .inl (fun _ => 0))), (q_8, .inl (cy 1, 8, .inl (fun _ => 0))), (q_9, .inl (cy 1, 8, .inl (fun _ => 0))), (q_10, .inl (cy 1, 6, .inl (fun _ => 0)))] H := hP
  have hD : va_D A [(h, .inr (8, [.null, .int 0, .ref q_1, .ref q_2, .ref q_3, .ref q_4, .ref q_5, .ref q_6, .ref q_7, .ref q_8, .ref q_9, .ref q_10, .int 0])), (q_1, .inl (cy 1, 36, .inl (fun _ => 0))), (q_2, .inl (cy 1, 6, .inl (fun _ => 0))), (q_3, .inl (cy 1, 6, .inl (fun _ => 0))), (q_4, .inl (cy 1, 6, .inl (fun _ => 0))), (q_5, .inl (cy 1, 6, .inl (fun _ => 0))), (q_6, .inl (cy 1, 8, .inl (fun _ => 0))), (q_7, .inl (cy 1, 8, .inl (fun _ => 0))), (q_8, .inl (cy 1, 8, .inl (fun _ => 0))), (q_9, .inl (cy 1, 8, .inl (fun _ => 0))), (q_10, .inl (cy 1, 6, .inl (fun _ => 0)))] := hD
  refine lv_aload_n hx hb dX8_init_84 rfl (lv_at hl 0 rfl) ?_
  refine lv_aload_n hx hb dX8_init_85 rfl (lv_at hl 1 rfl) ?_
  refine va_put (D := D) (ci := 8) (v := .ref pt) (ty := .object "WonderParcels$Post") (C := RX8) (T := TX8) (N := 13) hx hb hts inX8 tyX8 tyX8_ok nmX8 hown hK hP hD hS 0 rfl rfl 0 (by decide) (hts _ tw_247) (fun _ h9 => h9) rfl (by decide +kernel) rfl rfl (Nat.le_of_ble_eq_true rfl) dX8_init_86 (fun H locs hP hD hS => ?_)
  have hP : va_P D classes [(h, .inr (8, [.ref pt, .int 0, .ref q_1, .ref q_2, .ref q_3, .ref q_4, .ref q_5, .ref q_6, .ref q_7, .ref q_8, .ref q_9, .ref q_10, .int 0])), (q_1, .inl (cy 1, 36, .inl (fun _ => 0))), (q_2, .inl (cy 1, 6, .inl (fun _ => 0))), (q_3, .inl (cy 1, 6, .inl (fun _ => 0))), (q_4, .inl (cy 1, 6, .inl (fun _ => 0))), (q_5, .inl (cy 1, 6, .inl (fun _ => 0))), (q_6, .inl (cy 1, 8, .inl (fun _ => 0))), (q_7, .inl (cy 1, 8, .inl (fun _ => 0))), (q_8, .inl (cy 1, 8, .inl (fun _ => 0))), (q_9, .inl (cy 1, 8, .inl (fun _ => 0))), (q_10, .inl (cy 1, 6, .inl (fun _ => 0)))] H := hP
  have hD : va_D A [(h, .inr (8, [.ref pt, .int 0, .ref q_1, .ref q_2, .ref q_3, .ref q_4, .ref q_5, .ref q_6, .ref q_7, .ref q_8, .ref q_9, .ref q_10, .int 0])), (q_1, .inl (cy 1, 36, .inl (fun _ => 0))), (q_2, .inl (cy 1, 6, .inl (fun _ => 0))), (q_3, .inl (cy 1, 6, .inl (fun _ => 0))), (q_4, .inl (cy 1, 6, .inl (fun _ => 0))), (q_5, .inl (cy 1, 6, .inl (fun _ => 0))), (q_6, .inl (cy 1, 8, .inl (fun _ => 0))), (q_7, .inl (cy 1, 8, .inl (fun _ => 0))), (q_8, .inl (cy 1, 8, .inl (fun _ => 0))), (q_9, .inl (cy 1, 8, .inl (fun _ => 0))), (q_10, .inl (cy 1, 6, .inl (fun _ => 0)))] := hD
  refine lv_aload_n hx hb dX8_init_89 rfl (lv_at hl 0 rfl) ?_
  refine va_get (D := D) (ci := 8) (v := .ref q_7) (C := RX8) (T := TX8) (N := 13) hx hb hts inX8 hown hK hP 0 rfl rfl 8 (by decide) (hts _ tw_268) (fun _ h9 => h9) rfl dX8_init_90 ?_
  refine lv_iconst (v := (-1)) hx hb dX8_init_93 (by decide) ?_
  refine endv (wr := [(h, .inr (8, [.ref pt, .int 0, .ref q_1, .ref q_2, .ref q_3, .ref q_4, .ref q_5, .ref q_6, .ref q_7, .ref q_8, .ref q_9, .ref q_10, .int 0])), (q_1, .inl (cy 1, 36, .inl (fun _ => 0))), (q_2, .inl (cy 1, 6, .inl (fun _ => 0))), (q_3, .inl (cy 1, 6, .inl (fun _ => 0))), (q_4, .inl (cy 1, 6, .inl (fun _ => 0))), (q_5, .inl (cy 1, 6, .inl (fun _ => 0))), (q_6, .inl (cy 1, 8, .inl (fun _ => 0))), (q_8, .inl (cy 1, 8, .inl (fun _ => 0))), (q_9, .inl (cy 1, 8, .inl (fun _ => 0))), (q_10, .inl (cy 1, 6, .inl (fun _ => 0)))]) (va_runS (As := [.ref q_7, .int (-1)]) (rest := []) ⟨hx, hb, hml, hown, hts⟩ (c_fill l D cy z H.size q_7 8 (fun _ => 0) (-1) (by decide)) (va_cwS 2 hts (gS tw_246 tw_167 tw_9 tw_168) rfl rfl rfl (by decide +kernel) ⟨Nat.le_of_ble_eq_true rfl, Nat.le_of_ble_eq_true rfl⟩) (preS hP hD hK hSD hS hA [7] rfl (by decide)) rfl rfl hl.1 rfl (lv_room (Nat.le_of_ble_eq_true rfl)) dX8_init_94 ⟨Nat.le_of_ble_eq_true rfl, Nat.le_of_ble_eq_true rfl⟩) hP hD hS hA [7] [0, 1, 2, 3, 4, 5, 6, 8, 9, 10] rfl rfl (by decide) (by decide) (fun u_11 H locs hw_12 hP hD hS => ?_)
  have hP : va_P D classes [(h, .inr (8, [.ref pt, .int 0, .ref q_1, .ref q_2, .ref q_3, .ref q_4, .ref q_5, .ref q_6, .ref q_7, .ref q_8, .ref q_9, .ref q_10, .int 0])), (q_1, .inl (cy 1, 36, .inl (fun _ => 0))), (q_2, .inl (cy 1, 6, .inl (fun _ => 0))), (q_3, .inl (cy 1, 6, .inl (fun _ => 0))), (q_4, .inl (cy 1, 6, .inl (fun _ => 0))), (q_5, .inl (cy 1, 6, .inl (fun _ => 0))), (q_6, .inl (cy 1, 8, .inl (fun _ => 0))), (q_8, .inl (cy 1, 8, .inl (fun _ => 0))), (q_9, .inl (cy 1, 8, .inl (fun _ => 0))), (q_10, .inl (cy 1, 6, .inl (fun _ => 0))), (q_7, .inl (cy 1, 8, .inl (fun _ => (-1))))] H := hP
  have hD : va_D A [(h, .inr (8, [.ref pt, .int 0, .ref q_1, .ref q_2, .ref q_3, .ref q_4, .ref q_5, .ref q_6, .ref q_7, .ref q_8, .ref q_9, .ref q_10, .int 0])), (q_1, .inl (cy 1, 36, .inl (fun _ => 0))), (q_2, .inl (cy 1, 6, .inl (fun _ => 0))), (q_3, .inl (cy 1, 6, .inl (fun _ => 0))), (q_4, .inl (cy 1, 6, .inl (fun _ => 0))), (q_5, .inl (cy 1, 6, .inl (fun _ => 0))), (q_6, .inl (cy 1, 8, .inl (fun _ => 0))), (q_8, .inl (cy 1, 8, .inl (fun _ => 0))), (q_9, .inl (cy 1, 8, .inl (fun _ => 0))), (q_10, .inl (cy 1, 6, .inl (fun _ => 0))), (q_7, .inl (cy 1, 8, .inl (fun _ => (-1))))] := hD
  have hP9 : va_P D classes [(h, .inr (8, [.ref pt, .int 0, .ref q_1, .ref q_2, .ref q_3, .ref q_4, .ref q_5, .ref q_6, .ref q_7, .ref q_8, .ref q_9, .ref q_10, .int 0])), (q_1, .inl (cy 1, 36, .inl (fun _ => 0))), (q_2, .inl (cy 1, 6, .inl (fun _ => 0))), (q_3, .inl (cy 1, 6, .inl (fun _ => 0))), (q_4, .inl (cy 1, 6, .inl (fun _ => 0))), (q_5, .inl (cy 1, 6, .inl (fun _ => 0))), (q_6, .inl (cy 1, 8, .inl (fun _ => 0))), (q_8, .inl (cy 1, 8, .inl (fun _ => 0))), (q_9, .inl (cy 1, 8, .inl (fun _ => 0))), (q_10, .inl (cy 1, 6, .inl (fun _ => 0))), (q_7, .inl (cy 1, 8, .inl (fun _ => (-1))))] H := subP hP [0, 1, 2, 3, 4, 5, 6, 7, 8, 9, 10] rfl
  have hD9 : va_D A [(h, .inr (8, [.ref pt, .int 0, .ref q_1, .ref q_2, .ref q_3, .ref q_4, .ref q_5, .ref q_6, .ref q_7, .ref q_8, .ref q_9, .ref q_10, .int 0])), (q_1, .inl (cy 1, 36, .inl (fun _ => 0))), (q_2, .inl (cy 1, 6, .inl (fun _ => 0))), (q_3, .inl (cy 1, 6, .inl (fun _ => 0))), (q_4, .inl (cy 1, 6, .inl (fun _ => 0))), (q_5, .inl (cy 1, 6, .inl (fun _ => 0))), (q_6, .inl (cy 1, 8, .inl (fun _ => 0))), (q_8, .inl (cy 1, 8, .inl (fun _ => 0))), (q_9, .inl (cy 1, 8, .inl (fun _ => 0))), (q_10, .inl (cy 1, 6, .inl (fun _ => 0))), (q_7, .inl (cy 1, 8, .inl (fun _ => (-1))))] := hD.sub [0, 1, 2, 3, 4, 5, 6, 7, 8, 9, 10] (by decide) rfl
  refine W.widen (k := 10) (n := 98) (Nat.le_of_ble_eq_true rfl) (Nat.le_of_ble_eq_true rfl) ?_
  exact W.vret hx hb hr (fun t ht hW => ⟨⟨((q_1), (q_2), (q_3), (q_4), (q_5), (q_6), (q_7), (q_8), (q_9), (q_10)), rfl, trivial, by rw [ht]; exact hP9, va_K.moved hW.alike hK, hD9⟩, hS.F ht⟩) hS.2.2 dX8_init_97
