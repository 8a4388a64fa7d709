/-! the words that stay good, as one list; every contract of ours has its own code and these -/
def gT : List Cond := lw_tbl.filter goodWord
theorem gT_of {w : Cond} (h : w ∈ lw_tbl) (hg : goodWord w = true) : w ∈ gT := List.mem_filter.mpr ⟨h, hg⟩
theorem gT_t {w : Cond} (h : w ∈ tables_1) (hg : goodWord w = true) : w ∈ gT := gT_of (List.mem_append_right _ h) hg
theorem gT_s {w : Cond} (h : w ∈ k2_sels lw_privs) (hg : goodWord w = true) : w ∈ gT := gT_of (List.mem_append_left _ h) hg
theorem gT_good {w : Cond} (h : w ∈ gT) : (w.onTables && w.keeps) = true ∨ ∃ ty, w = .arrayClass ty := good_of_word (List.mem_filter.mp h).2
theorem gC {y : MethodName} {b : ByteArray} {n : Nat} {r : Option FieldType} (h : Cond.code y b n r ∈ gT) : GoodIn gT (Cond.code y b n r :: gT) := fun w hw => (List.mem_cons.mp hw).elim (fun e => by rw [e]; exact ⟨h, gT_good h⟩) (fun h2 => ⟨h2, gT_good h2⟩)
theorem gV {own : String} {idx : Nat} {C : String} {y : MethodName} {b : ByteArray} {n : Nat} {r : Option FieldType} (h1 : Cond.methodLink own idx y ∈ gT) (h2 : Cond.instanceMethod y ∈ gT) (h3 : Cond.selects C y y ∈ gT) (h4 : Cond.initialized C ∈ gT) (h5 : Cond.code y b n r ∈ gT) : GoodIn gT (wsV own idx C y (Cond.code y b n r :: gT)) := by
  intro w hw
  rcases List.mem_append.mp hw with h | h
  · simp only [List.mem_cons, List.not_mem_nil, or_false] at h
    rcases h with e | e | e | e
    · rw [e]; exact ⟨h1, gT_good h1⟩
    · rw [e]; exact ⟨h2, gT_good h2⟩
    · rw [e]; exact ⟨h3, gT_good h3⟩
    · rw [e]; exact ⟨h4, gT_good h4⟩
  · exact gC h5 w h
theorem gS {own : String} {idx : Nat} {y : MethodName} {b : ByteArray} {n : Nat} {r : Option FieldType} (h1 : Cond.methodLink own idx y ∈ gT) (h2 : Cond.static y ∈ gT) (h4 : Cond.initialized y.cls ∈ gT) (h5 : Cond.code y b n r ∈ gT) : GoodIn gT (va_wsS own idx y (Cond.code y b n r :: gT)) := by
  intro w hw
  rcases List.mem_append.mp hw with h | h
  · simp only [List.mem_cons, List.not_mem_nil, or_false] at h
    rcases h with e | e | e
    · rw [e]; exact ⟨h1, gT_good h1⟩
    · rw [e]; exact ⟨h2, gT_good h2⟩
    · rw [e]; exact ⟨h4, gT_good h4⟩
  · exact gC h5 w h
abbrev classes : List vw_C := [(RX0, TX0, 5), (RX1, TX1, 3), (RX2, TX2, 3), (RX3, TX3, 9), (RX4, TX4, 2), (RX5, TX5, 5), (RX6, TX6, 2), (RX7, TX7, 12), (RX8, TX8, 13), (RX9, TX9, 15), (RX10, TX10, 49)]
abbrev TY (cy : Nat → ClassId) : List (ClassId × FieldType) := [(cy 0, .byte), (cy 1, .int), (cy 2, .long), (cy 3, .boolean), (cy 4, .object "WonderParcels$World"), (cy 5, .object "WonderParcels$Image")]
def isNest : Cond → Bool
  | .fieldLinkNest .. => true
  | .methodLinkNest .. => true
  | _ => false
def nW : List Cond := tables_1.filter isNest
theorem nW_t {w : Cond} (h : w ∈ tables_1) (hg : isNest w = true) : w ∈ nW := List.mem_filter.mpr ⟨h, hg⟩
theorem nW_warm {s U : State} (hW : s.WarmedH U.vm) {w : Cond} (hw : isNest w = true) (h : va_Nw w s) : va_Nw w U := by
  cases w <;> first | exact va_Nw.warmF hW h | exact va_Nw.warmM hW h | exact absurd hw (by simp [isNest])
theorem nW_same {u U : State} (hv : U.vm = u.vm) {w : Cond} (hw : isNest w = true) (h : va_Nw w u) : va_Nw w U := by
  cases w <;> first | exact va_Nw.same rfl hv.symm h | exact absurd hw (by simp [isNest])
/-- the statics and texts that are read -/
def SD (z : Nat → Nat) (A : Nat → Prop) (U : State) : Prop :=
  (∀ w ∈ nW, va_Nw w U) ∧ va_AO "WonderParcels$World" U ∧ va_AO "WonderParcels$Image" U ∧
  va_Z "WonderParcels$Post" "MOST_OF_SORT" "[I" (.ref (z 0)) A U U.heap ∧ va_T .int (z 0) 4 (fun j => .int (([6, 4, 6, 8] : List Int32).getD j 0)) A U U.heap ∧
  va_Z "java/lang/String" "COMPACT_STRINGS" "Z" (.int 1) A U U.heap ∧ va_Zq "jdk/internal/util/Preconditions" "SIOOBE_FORMATTER" "Ljava/util/function/BiFunction;" A U U.heap ∧
  (va_O "java/lang/String" (z 1) A U U.heap ∧ va_OF "java/lang/String" "coder" "B" (.int 0) (z 1) A U U.heap ∧ va_OF "java/lang/String" "value" "[B" (.ref (z 2)) (z 1) A U U.heap ∧ ∃ f : Nat → Int32, va_T .byte (z 2) 160 (fun j => .int (f j)) A U U.heap) ∧
  vk_R "WonderParcels$Tape" 23 "idea room parcel person sits has quarrel leak guess joins stands wishes guesses open carry day or and not opened nothing watched is in size bulge turned number " (z 1) U
theorem SD.pass {z : Nat → Nat} {A B : Nat → Prop} {s U : State} (h : SD z A s) (hq : ∀ a : Nat, a < s.heap.size → ¬ A a → U.heap[a]? = s.heap[a]?) (hW : s.WarmedH U.vm) (hAB : ∀ q, B q → A q) : SD z B U := by
  obtain ⟨hn, ha1, ha2, h1, h2, h3, h4, ⟨h5, h6, h7, f, h8⟩, h9⟩ := h
  have hv := hW.alike
  exact ⟨fun w hw => nW_warm hW (List.mem_filter.mp hw).2 (hn w hw), ha1.moved hv, ha2.moved hv, ((h1.kept hq).narrow hAB).moved hv, ((h2.kept hq).narrow hAB).moved hv, ((h3.kept hq).narrow hAB).moved hv, va_Zq.moved hv ((h4.kept hq).narrow hAB), ⟨va_O.moved hv ((h5.kept hq).narrow hAB), va_OF.moved hv ((h6.kept hq).narrow hAB), va_OF.moved hv ((h7.kept hq).narrow hAB), f, va_T.moved hv ((h8.kept hq).narrow hAB)⟩, h9.warm hW⟩
theorem SD.same {z : Nat → Nat} {A : Nat → Prop} {u U : State} (hv : U.vm = u.vm) (hh : U.heap = u.heap) (h : SD z A u) : SD z A U := by
  obtain ⟨hn, ha1, ha2, h1, h2, h3, h4, ⟨h5, h6, h7, f, h8⟩, h9⟩ := h
  have ha : u.vm.Alike U.vm := by rw [hv]; exact Vm.Alike.refl _
  unfold SD
  rw [hh]
  exact ⟨fun w hw => nW_same hv (List.mem_filter.mp hw).2 (hn w hw), ha1.moved ha, ha2.moved ha, h1.moved ha, h2.moved ha, h3.moved ha, va_Zq.moved ha h4, ⟨va_O.moved ha h5, va_OF.moved ha h6, va_OF.moved ha h7, f, va_T.moved ha h8⟩, h9.same hv⟩
theorem SD.nest {z : Nat → Nat} {A : Nat → Prop} {U : State} (h : SD z A U) {args : Array Value} {w : Cond} (hw : w ∈ nW) : w.before args U = true := by
  have h1 := h.1 w hw
  have h2 := (List.mem_filter.mp hw).2
  cases w <;> first | exact va_Nw.use rfl h1 | exact absurd h2 (by simp [isNest])
/-- what a contract of ours begins with -/
def PRE (D : va_G) (cy : Nat → ClassId) (z : Nat → Nat) (ws : va_W) (sz : Nat) (U : State) : Prop :=
  U.heap.size = sz ∧ va_P D classes ws U.heap ∧ va_K D classes (TY cy) U ∧ va_D (fun _ => True) ws ∧ SD z (va_A ws sz) U
/-- and what cells it ends with -/
def BB (D : va_G) (cy : Nat → ClassId) (A : Nat → Prop) {S : Type} (E : S → va_W) (u : S) (t : State) : Prop := va_P D classes (E u) t.heap ∧ va_K D classes (TY cy) t ∧ va_D A (E u)
theorem PRE.blind {D : va_G} {cy : Nat → ClassId} {z : Nat → Nat} {ws : va_W} {sz : Nat} {av : List Value} : FrameBlind (va_Pc av (PRE D cy z ws sz)) := fun a U g mk q => by
  obtain ⟨q0, q1, qP, qK, qD, qS⟩ := q
  exact ⟨q0, q1, qP, va_K.moved (u := U) (U := U.calling g mk a) (Vm.Alike.refl U.vm) qK, qD, SD.same (u := U) (U := U.calling g mk a) rfl rfl qS⟩
section OWN
variable {p : Program} {l : Launch} {e : Env} {R : Room} {s : State} {m : MethodId} {args : Array Value} {below : List Frame} {meth : Method} {c : Code} {H : Heap} {locs : List Loc} {cells slots : Nat} {Q : State → Prop}
variable {cc : ByteArray} {pc : Nat} {ls : Array Slot} {rest : List Value} {D : va_G} {cy : Nat → ClassId} {z : Nat → Nat} {A : Nat → Prop} {a : Nat} {ws wc wr : va_W}
theorem tI {x y : Int32} (h : x = y) (k : W p l e R s m args below meth c H locs cells slots Q (F0 m pc ls (.int y :: rest))) : W p l e R s m args below meth c H locs cells slots Q (F0 m pc ls (.int x :: rest)) := h ▸ k
theorem tL {x y : Int64} (h : x = y) (k : W p l e R s m args below meth c H locs cells slots Q (F0 m pc ls (.long y :: rest))) : W p l e R s m args below meth c H locs cells slots Q (F0 m pc ls (.long x :: rest)) := h ▸ k
theorem tV {x y : Value} (h : x = y) (k : W p l e R s m args below meth c H locs cells slots Q (F0 m pc ls (y :: rest))) : W p l e R s m args below meth c H locs cells slots Q (F0 m pc ls (x :: rest)) := h ▸ k
theorem subP (hP : va_P D classes ws H) (is : List Nat) (hC : is.map (fun i => ws[i]?) = wc.map some) : va_P D classes wc H := by
  intro k q hk
  have h1 : (is.map (fun i => ws[i]?))[k]? = some (some q) := by rw [hC, List.getElem?_map, hk]; rfl
  rw [List.getElem?_map] at h1
  cases hi : is[k]? with
  | none => rw [hi] at h1; cases h1
  | some i => rw [hi] at h1; exact hP i q (Option.some.inj h1)
theorem preS (hP : va_P D classes ws H) (hD : va_D A ws) (hK : va_K D classes (TY cy) s) (hSD : SD z A s) (hS : va_S A s.heap H locs) (hA : ∀ q, s.heap.size ≤ q → A q) (isC : List Nat) (hC : isC.map (fun i => ws[i]?) = wc.map some) (hn : va_nd isC = true) {As : List Value} : PreS s H (va_Pc As (PRE D cy z wc H.size)) As :=
  ⟨PRE.blind, fun U hU hW => ⟨rfl, by rw [hU], by rw [hU]; exact subP hP isC hC, va_K.moved hW.alike hK, (hD.sub isC hn hC).weaken (fun _ _ _ _ => trivial), hSD.pass (fun a h1 h2 => by rw [hU]; exact hS.2.1 a h1 h2) hW (va_free hD hS hA isC hC)⟩⟩
theorem preV (hP : va_P D classes ws H) (hD : va_D A ws) (hK : va_K D classes (TY cy) s) (hSD : SD z A s) (hS : va_S A s.heap H locs) (hA : ∀ q, s.heap.size ≤ q → A q) (isC : List Nat) (hC : isC.map (fun i => ws[i]?) = wc.map some) (hn : va_nd isC = true) {As : List Value} {b q0 ci : Nat} {fs : List Value} {q : vw_C} (hc : classes[ci]? = some q) (he : wc[q0]? = some (b, .inr (ci, fs))) : PreV s H q.1 b (va_Pc (.ref b :: As) (PRE D cy z wc H.size)) As :=
  ⟨PRE.blind, va_recv hK (subP hP isC hC) hc he, (preS (As := .ref b :: As) hP hD hK hSD hS hA isC hC hn).2⟩
theorem endi {S : Type} {post : Int32 → S → Prop} {E : S → va_W} {mc ms pc : Nat} {st0 : List Value} {ar : Array Value} (hr : va_Run p l e R s m args below meth c H locs cells slots mc ms (F0 m pc ls st0) rest (va_Qi post (BB D cy (va_A wc H.size) E) (va_A wc H.size) ar) (va_A wc H.size)) (hP : va_P D classes ws H) (hD : va_D A ws) (hS : va_S A s.heap H locs) (hA : ∀ q, s.heap.size ≤ q → A q) (isC isR : List Nat) (hC : isC.map (fun i => ws[i]?) = wc.map some) (hR : isR.map (fun i => ws[i]?) = wr.map some) (hn : va_nd isR = true) (hdis : ∀ i ∈ isR, i ∉ isC)
    (kk : ∀ (r : Int32) (u : S) (H1 : Heap) (locs1 : List Loc), post r u → va_P D classes (wr ++ E u) H1 → va_D A (wr ++ E u) → va_S A s.heap H1 locs1 → W p l e R s m args below meth c H1 locs1 (cells + mc) (slots + ms) Q (F0 m (pc + 3) ls (.int r :: rest))) : W p l e R s m args below meth c H locs cells slots Q (F0 m pc ls st0) := by
  have hF := va_free (wc := wc) hD hS hA isC hC
  refine va_calli hr hS (fun q _ h => hF q h) hF (fun r u t H1 locs1 ht hvm hw hB hz1 hk1 hS1 => ?_)
  obtain ⟨hP1, -, hD1⟩ := hB
  rw [ht] at hP1
  obtain ⟨j1, j2⟩ := va_join hP hD isC isR hC hR hn hdis hk1 hF hP1 hD1
  exact kk r u H1 locs1 hw j1 j2 hS1
theorem endl {S : Type} {post : Int64 → S → Prop} {E : S → va_W} {mc ms pc : Nat} {st0 : List Value} {ar : Array Value} (hr : va_Run p l e R s m args below meth c H locs cells slots mc ms (F0 m pc ls st0) rest (va_Ql post (BB D cy (va_A wc H.size) E) (va_A wc H.size) ar) (va_A wc H.size)) (hP : va_P D classes ws H) (hD : va_D A ws) (hS : va_S A s.heap H locs) (hA : ∀ q, s.heap.size ≤ q → A q) (isC isR : List Nat) (hC : isC.map (fun i => ws[i]?) = wc.map some) (hR : isR.map (fun i => ws[i]?) = wr.map some) (hn : va_nd isR = true) (hdis : ∀ i ∈ isR, i ∉ isC)
    (kk : ∀ (r : Int64) (u : S) (H1 : Heap) (locs1 : List Loc), post r u → va_P D classes (wr ++ E u) H1 → va_D A (wr ++ E u) → va_S A s.heap H1 locs1 → W p l e R s m args below meth c H1 locs1 (cells + mc) (slots + ms) Q (F0 m (pc + 3) ls (.long r :: rest))) : W p l e R s m args below meth c H locs cells slots Q (F0 m pc ls st0) := by
  have hF := va_free (wc := wc) hD hS hA isC hC
  refine va_calll hr hS (fun q _ h => hF q h) hF (fun r u t H1 locs1 ht hvm hw hB hz1 hk1 hS1 => ?_)
  obtain ⟨hP1, -, hD1⟩ := hB
  rw [ht] at hP1
  obtain ⟨j1, j2⟩ := va_join hP hD isC isR hC hR hn hdis hk1 hF hP1 hD1
  exact kk r u H1 locs1 hw j1 j2 hS1
theorem endv {S : Type} {post : S → Prop} {E : S → va_W} {mc ms pc : Nat} {st0 : List Value} {ar : Array Value} (hr : va_Run p l e R s m args below meth c H locs cells slots mc ms (F0 m pc ls st0) rest (va_Qv post (BB D cy (va_A wc H.size) E) (va_A wc H.size) ar) (va_A wc H.size)) (hP : va_P D classes ws H) (hD : va_D A ws) (hS : va_S A s.heap H locs) (hA : ∀ q, s.heap.size ≤ q → A q) (isC isR : List Nat) (hC : isC.map (fun i => ws[i]?) = wc.map some) (hR : isR.map (fun i => ws[i]?) = wr.map some) (hn : va_nd isR = true) (hdis : ∀ i ∈ isR, i ∉ isC)
    (kk : ∀ (u : S) (H1 : Heap) (locs1 : List Loc), post u → va_P D classes (wr ++ E u) H1 → va_D A (wr ++ E u) → va_S A s.heap H1 locs1 → W p l e R s m args below meth c H1 locs1 (cells + mc) (slots + ms) Q (F0 m (pc + 3) ls rest)) : W p l e R s m args below meth c H locs cells slots Q (F0 m pc ls st0) := by
  have hF := va_free (wc := wc) hD hS hA isC hC
  refine va_callv hr hS (fun q _ h => hF q h) hF (fun u t H1 locs1 ht hvm hw hB hz1 hk1 hS1 => ?_)
  obtain ⟨hP1, -, hD1⟩ := hB
  rw [ht] at hP1
  obtain ⟨j1, j2⟩ := va_join hP hD isC isR hC hR hn hdis hk1 hF hP1 hD1
  exact kk u H1 locs1 hw j1 j2 hS1
theorem newaC {atype : ArrayType} (hexec : p.tables.exec = Jvm.exec) (hb : c.code = cc) (harr : (Cond.arrayClass (newarray.typeOf atype)).before args s = true) {ty : FieldType} (hty : newarray.typeOf atype = ty) (hobj : ∀ C, ty ≠ .object C) (hK : va_K D classes (TY cy) s) (hP : va_P D classes ws H) (hD : va_D A ws) (hS : va_S A s.heap H locs) (hA : ∀ q, s.heap.size ≤ q → A q) (t0 : Nat) {cA : ClassId} (ht : (TY cy)[t0]? = some (cA, ty))
    {n : Int32} {N' : Nat} {a0 : vp_A} (ha : ∀ cA : ClassId, vp_cell cA a0 = arrV cA N' (fun _ => defaultValue ty)) (hn : ¬ n < 0) (hN : n.toNatClampNeg = N') (hbytes : N' * componentBytes ty ≤ 536870912) (hcells : cells + 1 ≤ R.cells) (hslots : slots + N' ≤ R.slots) (hdg : decode cc pc = .ok (.newarray atype, 2))
    (kk : ∀ (q : Nat) (H1 : Heap), va_P D classes (ws ++ [(q, .inl (cA, a0))]) H1 → va_D A (ws ++ [(q, .inl (cA, a0))]) → va_S A s.heap H1 locs →
      W p l e R s m args below meth c H1 locs (cells + 1) (slots + N') Q (F0 m (pc + 2) ls (.ref q :: rest))) : W p l e R s m args below meth c H locs cells slots Q (F0 m pc ls (.int n :: rest)) := by
  refine va_newa hexec hb harr hty hK hP hD hS hA ha hn hN hbytes hcells hslots hdg (fun q cB H1 hK1 hP1 hD1 hS1 => ?_)
  have e1 := (hK1.2 6 (cB, ty) rfl).2
  have e2 := (hK.2 t0 (cA, ty) ht).2
  have e : cB = cA := by
    cases ty with
    | object C => exact absurd rfl (hobj C)
    | _ => exact Option.some.inj (e1.symm.trans e2)
  subst e
  exact kk q H1 hP1 hD1 hS1
theorem newqC (hexec : p.tables.exec = Jvm.exec) (hb : c.code = cc) {own C : String} {index : Nat} (hown : s.vm.findClass own = some m.cls) (hclink : (Cond.classLink own index C).before args s = true) (hover : va_AO C s) (hK : va_K D classes (TY cy) s) (hP : va_P D classes ws H) (hD : va_D A ws) (hS : va_S A s.heap H locs) (hA : ∀ q, s.heap.size ≤ q → A q) (t0 : Nat) {cA : ClassId} (ht : (TY cy)[t0]? = some (cA, .object C))
    {n : Int32} {N' : Nat} (hn : ¬ n < 0) (hN : n.toNatClampNeg = N') (hbytes : N' * 4 ≤ 536870912) (hcells : cells + 1 ≤ R.cells) (hslots : slots + N' ≤ R.slots) (hdg : decode cc pc = .ok (.anewarray index, 3))
    (kk : ∀ (q : Nat) (H1 : Heap), va_P D classes (ws ++ [(q, .inl (cA, N', .inr (.inr (.inr (.inr (fun _ => none))))))]) H1 → va_D A (ws ++ [(q, .inl (cA, N', .inr (.inr (.inr (.inr (fun _ => none))))))]) → va_S A s.heap H1 locs →
      W p l e R s m args below meth c H1 locs (cells + 1) (slots + N') Q (F0 m (pc + 3) ls (.ref q :: rest))) : W p l e R s m args below meth c H locs cells slots Q (F0 m pc ls (.int n :: rest)) := by
  refine va_newq hexec hb hown hclink hover hK hP hD hS hA hn hN hbytes hcells hslots hdg (fun q cB H1 hK1 hP1 hD1 hS1 => ?_)
  obtain ⟨_, _, _, _, _, e1⟩ := (hK1.2 6 (cB, .object C) rfl).2
  obtain ⟨_, _, _, _, _, e2⟩ := (hK.2 t0 (cA, .object C) ht).2
  have e : cB = cA := Option.some.inj (e1.symm.trans e2)
  subst e
  exact kk q H1 hP1 hD1 hS1
end OWN
theorem fillEq {cA : ClassId} {n : Nat} {f g : Nat → Int32} (h : ∀ j, j < n → f j = g j) : vp_cell cA (n, .inl f) = vp_cell cA (n, .inl g) := by
  rw [vp_cell_i, vp_cell_i]
  unfold arrV
  congr 1
  first
    | (apply Array.ext (by simp); intro i h1 h2; simp at h1 ⊢; exact h i (by simpa using h1))
    | (apply congrArg; apply List.map_congr_left; intro i hi; rw [h i (List.mem_range.mp hi)])
theorem congP {D : va_G} {ws ws' : va_W} {H : Heap} (hP : va_P D classes ws H) (k : Nat) {a : Nat} {cA : ClassId} {n : Nat} {f g : Nat → Int32} (hk : ws[k]? = some (a, .inl (cA, n, .inl f))) (h : ∀ j, j < n → f j = g j) (hs : ws.set k (a, .inl (cA, n, .inl g)) = ws') : va_P D classes ws' H := by
  subst hs
  intro j q hj
  by_cases e : k = j
  · subst e
    have hlt : k < ws.length := (List.getElem?_eq_some_iff.mp hk).1
    rw [List.getElem?_set_self hlt] at hj
    cases hj
    show H[a]? = some (vp_cell cA (n, .inl g))
    rw [← fillEq h]
    exact hP k _ hk
  · rw [List.getElem?_set_ne e] at hj
    exact hP j q hj
theorem lpGe {i N : Nat} {v : Int32} (hv : v = nI N) (hN : N < 2 ^ 31) (hi : i ≤ N) (c : v ≤ nI i) : i = N := by
  subst hv
  rcases Nat.lt_or_ge i N with h | h
  · exact absurd c (nI_ge h hN)
  · omega
theorem lpLt {i N : Nat} {v : Int32} (hv : v = nI N) (hN : N < 2 ^ 31) (hi : i ≤ N) (c : ¬ v ≤ nI i) : i < N := by
  subst hv
  rcases Nat.lt_or_ge i N with h | h
  · exact h
  · exact absurd (nI_le h (by omega)) c
theorem fillS {g : Nat → Int32} {i : Nat} {v : Int32} (h : ∀ j, j < i → g j = v) : ∀ j, j < i + 1 → upd g i v j = v := by
  intro j hj
  by_cases e : j = i
  · rw [e]; exact pk_us
  · rw [pk_un e]; exact h j (by omega)
theorem congD {A : Nat → Prop} {ws ws' : va_W} (hD : va_D A ws) (k : Nat) {a : Nat} {cA : ClassId} {n : Nat} {f g : Nat → Int32} (hk : ws[k]? = some (a, .inl (cA, n, .inl f))) (hs : ws.set k (a, .inl (cA, n, .inl g)) = ws') : va_D A ws' := by
  subst hs
  exact hD.set hk
theorem preT {s : State} {H : Heap} {locs : List Loc} {D : va_G} {cy : Nat → ClassId} {z : Nat → Nat} {A : Nat → Prop} {ws wc : va_W} (hP : va_P D classes ws H) (hD : va_D A ws) (hK : va_K D classes (TY cy) s) (hSD : SD z A s) (hS : va_S A s.heap H locs) (hA : ∀ q, s.heap.size ≤ q → A q) (isC : List Nat) (hC : isC.map (fun i => ws[i]?) = wc.map some) (hn : va_nd isC = true) {As : List Value} : PreV s H "java/lang/String" (z 1) (va_Pc (.ref (z 1) :: As) (PRE D cy z wc H.size)) As := by
  refine ⟨PRE.blind, ?_, (preS (As := .ref (z 1) :: As) hP hD hK hSD hS hA isC hC hn).2⟩
  obtain ⟨cell, h1, h2, h3, -⟩ := (hSD.2.2.2.2.2.2.2.1.1).kept hS.2.1
  exact ⟨cell, h1, h2, h3⟩
theorem clOf {v : Int32} {n : Nat} (h0 : ¬ v < 0) (h1 : ¬ nI n ≤ v) (hn : n < 2 ^ 31) : v.toNatClampNeg < n := by
  obtain ⟨j, hj, e, -, e2, -⟩ := pk_mu h0 h1 hn
  rw [e2]; exact hj
theorem inOf {v : Int32} {n : Nat} (h0 : ¬ v < 0) (h1 : ¬ nI n ≤ v) (hn : n < 2 ^ 31) : vp_in v n := fun h => h.elim h0 (fun h2 => absurd (clOf h0 h1 hn) (Nat.not_lt.mpr h2))
theorem twoOf {v : Int32} (h0 : ¬ v < 0) (h1 : ¬ (2 : Int32) ≤ v) : v = 0 ∨ v = 1 := by
  obtain ⟨j, hj, e, -⟩ := pk_mu (L := 2) h0 h1 (by decide)
  rcases (show j = 0 ∨ j = 1 by omega) with h | h
  · rw [h] at e; exact Or.inl e
  · rw [h] at e; exact Or.inr e
theorem daysOf {v : Int32} (h0 : ¬ v < 1) (h1 : v ≤ 60) : ∃ j : Nat, 1 ≤ j ∧ j ≤ 60 ∧ v = nI j := by
  have a0 : ¬ v.toInt < 1 := fun h => h0 (Int32.lt_iff_toInt_lt.mpr h)
  have a1 : v.toInt ≤ 60 := Int32.le_iff_toInt_le.mp h1
  have h2 : ¬ v < 0 := fun h => a0 (by have := Int32.lt_iff_toInt_lt.mp h; have e : (0 : Int32).toInt = 0 := rfl; omega)
  obtain ⟨j, hj, e⟩ := nI_of2 (M := 60) (n := 60) rfl h2 h1
  refine ⟨j, ?_, hj, e⟩
  rw [e, nI_toInt (by omega)] at a0
  omega
