/-! a world that grows -/
theorem vok.app {Ps : PSI} (X : PSI) {t : VT} {v : Value} (h : vok Ps t v) : vok (Ps ++ X) t v := by
  match t with
  | .inl q => exact h
  | .inr (.inl q) => exact h
  | .inr (.inr (.inl u)) =>
    obtain ⟨a, h1, h2⟩ := h
    exact ⟨a, h1, List.mem_append_left _ h2⟩
  | .inr (.inr (.inr u)) =>
    rcases h with h | ⟨a, h1, h2⟩
    · exact Or.inl h
    · exact Or.inr ⟨a, h1, List.mem_append_left _ h2⟩
theorem cok.app {cy : Nat → ClassId} {Ps : PSI} (X : PSI) {t : CTy} {e : va_E} (h : cok cy Ps t e) : cok cy (Ps ++ X) t e := by
  match t with
  | .inl q =>
    obtain ⟨fs, h1, h2⟩ := h
    refine ⟨fs, h1, fun k t hk => ?_⟩
    obtain ⟨v, h3, h4⟩ := h2 k t hk
    exact ⟨v, h3, h4.app X⟩
  | .inr (.inl q) => exact h
  | .inr (.inr (.inl q)) => exact h
  | .inr (.inr (.inr q)) =>
    obtain ⟨g, h1, h2⟩ := h
    refine ⟨g, h1, fun j hj => ?_⟩
    obtain ⟨a, h3, h4⟩ := h2 j hj
    exact ⟨a, h3, List.mem_append_left _ h4⟩
/-- cells of types -/
def CK (cy : Nat → ClassId) (G : Nat → Nat → CTy) (Ps : PSI) : PSI → va_W → Prop
  | [], [] => True
  | (a, t) :: X, (b, e) :: wx => (a = b ∧ cok cy Ps (G a t) e) ∧ CK cy G Ps X wx
  | _, _ => False
theorem CK.get {cy : Nat → ClassId} {G : Nat → Nat → CTy} {Ps : PSI} : ∀ {X : PSI} {wx : va_W}, CK cy G Ps X wx → X.length = wx.length ∧ ∀ (k a t : Nat), X[k]? = some (a, t) → ∃ e, wx[k]? = some (a, e) ∧ cok cy Ps (G a t) e
  | [], [], _ => ⟨rfl, fun k a t h => by simp at h⟩
  | (a, t) :: X, (b, e) :: wx, h => by
    obtain ⟨⟨rfl, h1⟩, h2⟩ := h
    obtain ⟨h3, h4⟩ := CK.get h2
    refine ⟨by simp [h3], fun k a' t' hk => ?_⟩
    match k with
    | 0 => cases hk; exact ⟨e, rfl, h1⟩
    | k + 1 => exact h4 k a' t' hk
theorem HT.app {cy : Nat → ClassId} {G : Nat → Nat → CTy} {Ps X : PSI} {ws wx : va_W} (h : HT cy G Ps ws) (hX : CK cy G (Ps ++ X) X wx) : HT cy G (Ps ++ X) (ws ++ wx) := by
  obtain ⟨h1, h2⟩ := hX.get
  refine ⟨by rw [List.length_append, List.length_append, h.1, h1], fun k a t hk => ?_⟩
  by_cases c : k < Ps.length
  · rw [List.getElem?_append_left c] at hk
    obtain ⟨e, h3, h4⟩ := h.2 k a t hk
    exact ⟨e, by rw [List.getElem?_append_left (by rw [← h.1]; exact c)]; exact h3, h4.app X⟩
  · rw [List.getElem?_append_right (by omega)] at hk
    obtain ⟨e, h3, h4⟩ := h2 _ a t hk
    exact ⟨e, by rw [List.getElem?_append_right (by rw [← h.1]; omega), ← h.1]; exact h3, h4⟩
theorem FR.app {wr : List (Nat × Nat)} {wa : List Nat} {Ps : PSI} {w0 ws : va_W} (wx : va_W) (h : FR wr wa Ps w0 ws) : FR wr wa Ps w0 (ws ++ wx) := by
  refine ⟨by rw [List.length_append]; have := h.1; omega, fun k a e hk => ?_⟩
  obtain ⟨e', g1, g2⟩ := h.2 k a e hk
  exact ⟨e', by rw [List.getElem?_append_left (List.getElem?_eq_some_iff.mp g1).1]; exact g1, g2⟩
section GROW
variable {p : Program} {l : Launch} {e : Env} {R : Room} {s : State} {m : MethodId} {args : Array Value} {below : List Frame} {meth : Method} {c : Code} {H : Heap} {locs : List Loc} {cells slots : Nat} {Q : State → Prop}
variable {cc : ByteArray} {pc : Nat} {ls : Array Slot} {rest : List Value} {D : va_G} {cy : Nat → ClassId} {z : Nat → Nat} {A : Nat → Prop} {ws w0 wc : va_W} {G : Nat → Nat → CTy} {Ps P0 X : PSI} {wr : List (Nat × Nat)} {wa : List Nat}
theorem WD.app {H1 : Heap} {locs1 : List Loc} {wx : va_W} (hw : WD D cy G A s wr wa P0 w0 Ps ws H locs) (hX : CK cy G (Ps ++ X) X wx) (hP : va_P D classes (ws ++ wx) H1) (hD : va_D A (ws ++ wx)) (hS : va_S A s.heap H1 locs1) : WD D cy G A s wr wa P0 w0 (Ps ++ X) (ws ++ wx) H1 locs1 := by
  obtain ⟨w1, w2, w3, w4, w5, w6, Y, w7⟩ := hw
  exact ⟨w1.app hX, hP, hD, hS, w5.app wx, w6, Y ++ X, by rw [w7, List.append_assoc]⟩
/-- the cell made last -/
theorem last1 {x : Nat × va_E} : ([ws.length] : List Nat).map (fun i => (ws ++ [x])[i]?) = ([x] : va_W).map some := by
  rw [List.map_singleton, List.map_singleton, List.getElem?_append_right (Nat.le_refl _), Nat.sub_self]
  rfl
/-- a call that works on the last cells alone -/
theorem tkN {S : Type} {post : S → Prop} {E : S → va_W} {mc ms pc : Nat} {st0 : List Value} {ar : Array Value} (hr : va_Run p l e R s m args below meth c H locs cells slots mc ms (F0 m pc ls st0) rest (va_Qv post (BB D cy (va_A wc H.size) E) (va_A wc H.size) ar) (va_A wc H.size)) (hP : va_P D classes (ws ++ wc) H) (hD : va_D A (ws ++ wc)) (hS : va_S A s.heap H locs) (hA : ∀ q, s.heap.size ≤ q → A q)
    (kk : ∀ (u : S) (H1 : Heap) (locs1 : List Loc), post u → va_P D classes (ws ++ E u) H1 → va_D A (ws ++ E u) → va_S A s.heap H1 locs1 → W p l e R s m args below meth c H1 locs1 (cells + mc) (slots + ms) Q (F0 m (pc + 3) ls rest)) : W p l e R s m args below meth c H locs cells slots Q (F0 m pc ls st0) := by
  have inc : ∀ (k : Nat) (q : Nat × va_E), wc[k]? = some q → (ws ++ wc)[ws.length + k]? = some q := fun k q hk => by
    rw [List.getElem?_append_right (Nat.le_add_right _ _), Nat.add_sub_cancel_left]; exact hk
  have inw : ∀ (k : Nat) (q : Nat × va_E), ws[k]? = some q → (ws ++ wc)[k]? = some q := fun k q hk => by
    rw [List.getElem?_append_left (List.getElem?_eq_some_iff.mp hk).1]; exact hk
  have hF : ∀ q, va_A wc H.size q → A q := fun q h => by
    rcases h with ⟨k, e9, h⟩ | h
    · exact hD.2 _ _ (inc k _ h)
    · exact hA q (Nat.le_trans hS.1 h)
  refine va_callv hr hS (fun q _ h => hF q h) hF (fun u t H1 locs1 ht hvm hp hB hz1 hk1 hS1 => ?_)
  obtain ⟨hP1, -, hD1⟩ := hB
  rw [ht] at hP1
  have out : ∀ (k : Nat) (q : Nat × va_E), ws[k]? = some q → ¬ va_A wc H.size q.1 := fun k q hk h => by
    rcases h with ⟨j, e9, h⟩ | h
    · have e8 := hD.1 _ _ _ _ (inw k q hk) (inc j _ h) rfl
      have := (List.getElem?_eq_some_iff.mp hk).1
      omega
    · have := (hP _ _ (inw k q hk)).lt
      omega
  refine kk u H1 locs1 hp ?_ ?_ hS1
  · intro k q hk
    by_cases c9 : k < ws.length
    · rw [List.getElem?_append_left c9] at hk
      exact (hP _ _ (inw k q hk)).kept (hk1 _ ((hP _ _ (inw k q hk)).lt) (out k q hk))
    · rw [List.getElem?_append_right (by omega)] at hk
      exact hP1 _ q hk
  · refine ⟨fun i j x y hx hy hxy => ?_, fun k q hk => ?_⟩
    · by_cases ci : i < ws.length <;> by_cases cj : j < ws.length
      · rw [List.getElem?_append_left ci] at hx
        rw [List.getElem?_append_left cj] at hy
        exact hD.1 _ _ _ _ (inw i x hx) (inw j y hy) hxy
      · rw [List.getElem?_append_left ci] at hx
        rw [List.getElem?_append_right (by omega)] at hy
        exact absurd (by rw [hxy]; exact hD1.2 _ _ hy) (out i x hx)
      · rw [List.getElem?_append_right (by omega)] at hx
        rw [List.getElem?_append_left cj] at hy
        exact absurd (by rw [← hxy]; exact hD1.2 _ _ hx) (out j y hy)
      · rw [List.getElem?_append_right (by omega)] at hx hy
        have := hD1.1 _ _ _ _ hx hy hxy
        omega
    · by_cases c9 : k < ws.length
      · rw [List.getElem?_append_left c9] at hk
        exact hD.2 _ _ (inw k q hk)
      · rw [List.getElem?_append_right (by omega)] at hk
        exact hF _ (hD1.2 _ _ hk)
/-- a call that may make cells -/
theorem tk_iA {post : Int32 → PSI × va_W → Prop} {wr2 : List (Nat × Nat)} {wa2 : List Nat} {mc ms pc : Nat} {st0 : List Value} {ar : Array Value} (hr : va_Run p l e R s m args below meth c H locs cells slots mc ms (F0 m pc ls st0) rest (va_Qi (fun (r : Int32) (u : PSI × va_W) => post r u ∧ (∃ X, u.1 = Ps ++ X) ∧ HT cy G u.1 u.2 ∧ FR wr2 wa2 Ps ws u.2) (BB D cy (va_A ws H.size) (fun (u : PSI × va_W) => u.2)) (va_A ws H.size) ar) (va_A ws H.size)) (hw : WD D cy G A s wr wa P0 w0 Ps ws H locs) (hA : ∀ q, s.heap.size ≤ q → A q) (hs : (∀ q ∈ wr2, q ∈ wr) ∧ ∀ q ∈ wa2, q ∈ wa)
    (kk : ∀ (r : Int32) (Pn : PSI) (ws1 : va_W) (H1 : Heap) (locs1 : List Loc), post r (Pn, ws1) → (∀ x ∈ Ps, x ∈ Pn) → WD D cy G A s wr wa P0 w0 Pn ws1 H1 locs1 → FR wr2 wa2 Ps ws ws1 → W p l e R s m args below meth c H1 locs1 (cells + mc) (slots + ms) Q (F0 m (pc + 3) ls (.int r :: rest))) : W p l e R s m args below meth c H locs cells slots Q (F0 m pc ls st0) := by
  have hF := tg_free hw hA
  refine va_calli hr hw.2.2.2.1 (fun q _ h => hF q h) hF (fun r u t H1 locs1 ht hvm hp hB hz1 hk1 hS1 => ?_)
  obtain ⟨hP1, -, hD1⟩ := hB
  rw [ht] at hP1
  obtain ⟨hp1, ⟨X, hX⟩, hp2, hp3⟩ := hp
  obtain ⟨u1, u2⟩ := u
  have hX : u1 = Ps ++ X := hX
  subst hX
  obtain ⟨w1, w2, w3, w4, w5, w6, Y, w7⟩ := hw
  refine kk r (Ps ++ X) u2 H1 locs1 hp1 (fun x h => List.mem_append_left _ h) ⟨hp2, hP1, ⟨hD1.1, fun k q hk => hF _ (hD1.2 k q hk)⟩, hS1, FR.tr0 w6 w7 w5 hp3 hs, w6, Y ++ X, by rw [w7, List.append_assoc]⟩ hp3
end GROW
theorem z_arr {cy : Nat → ClassId} {Ps : PSI} {t0 n : Nat} {el : Nat → Int × Int} {R : (Nat → Int32) → Prop} (f : Nat → Int32) (h : ∀ j, j < n → (el j).1 ≤ (f j).toInt ∧ (f j).toInt ≤ (el j).2) (hR : R f) : cok cy Ps (.inr (.inl (t0, n, el, R))) (.inl (cy t0, n, .inl f)) := ⟨f, rfl, h, hR⟩
theorem z_lon {cy : Nat → ClassId} {Ps : PSI} {n : Nat} (f : Nat → Int64) : cok cy Ps (.inr (.inr (.inl (n, -9223372036854775808, 9223372036854775807)))) (.inl (cy 2, n, .inr (.inl f))) := ⟨f, rfl, fun j _ => rj_any (f j)⟩
theorem ok_WORLD {cy : Nat → ClassId} {Ps : PSI} {q : Nat} {v0 : Nat} {v1 : Int32} {v2 : Nat} {v3 : Nat} {v4 : Nat} {v5 : Nat} {v6 : Nat} {v7 : Nat} {v8 : Nat} {v9 : Nat} {v10 : Nat} {v11 : Nat} {v12 : Int32} (h0 : (v0, 25) ∈ Ps) (h1 : RI v1 (-2147483648) 2147483647) (h2 : (v2, 8) ∈ Ps) (h3 : (v3, 9) ∈ Ps) (h4 : (v4, 10) ∈ Ps) (h5 : (v5, 10) ∈ Ps) (h6 : (v6, 10) ∈ Ps) (h7 : (v7, 11) ∈ Ps) (h8 : (v8, 12) ∈ Ps) (h9 : (v9, 13) ∈ Ps) (h10 : (v10, 13) ∈ Ps) (h11 : (v11, 14) ∈ Ps) (h12 : RI v12 (-2147483648) 2147483647) : cok cy Ps (GG q 24) (.inr (8, [.ref v0, .int v1, .ref v2, .ref v3, .ref v4, .ref v5, .ref v6, .ref v7, .ref v8, .ref v9, .ref v10, .ref v11, .int v12])) := by
  refine ⟨_, rfl, fun k t hk => ?_⟩
  match k, hk with
  | 0, hk => cases hk; exact ⟨_, rfl, _, rfl, h0⟩
  | 1, hk => cases hk; exact ⟨_, rfl, _, rfl, h1⟩
  | 2, hk => cases hk; exact ⟨_, rfl, _, rfl, h2⟩
  | 3, hk => cases hk; exact ⟨_, rfl, _, rfl, h3⟩
  | 4, hk => cases hk; exact ⟨_, rfl, _, rfl, h4⟩
  | 5, hk => cases hk; exact ⟨_, rfl, _, rfl, h5⟩
  | 6, hk => cases hk; exact ⟨_, rfl, _, rfl, h6⟩
  | 7, hk => cases hk; exact ⟨_, rfl, _, rfl, h7⟩
  | 8, hk => cases hk; exact ⟨_, rfl, _, rfl, h8⟩
  | 9, hk => cases hk; exact ⟨_, rfl, _, rfl, h9⟩
  | 10, hk => cases hk; exact ⟨_, rfl, _, rfl, h10⟩
  | 11, hk => cases hk; exact ⟨_, rfl, _, rfl, h11⟩
  | 12, hk => cases hk; exact ⟨_, rfl, _, rfl, h12⟩
  | k + 13, hk => exact absurd hk (by simp [ty_WORLD])
theorem ok_POST {cy : Nat → ClassId} {Ps : PSI} {q : Nat} {v0 : Nat} {v1 : Nat} {v2 : Nat} {v3 : Nat} {v4 : Nat} {v5 : Int32} {v6 : Int32} {v7 : Int32} {v8 : Int32} (h0 : (v0, 1) ∈ Ps) (h1 : (v1, 4) ∈ Ps) (h2 : (v2, 5) ∈ Ps) (h3 : (v3, 6) ∈ Ps) (h4 : (v4, 7) ∈ Ps) (h5 : RI v5 (-2147483648) 2147483647) (h6 : RI v6 (-2147483648) 2147483647) (h7 : RI v7 0 1) (h8 : RI v8 0 1) : cok cy Ps (GG q 25) (.inr (3, [.ref v0, .ref v1, .ref v2, .ref v3, .ref v4, .int v5, .int v6, .int v7, .int v8])) := by
  refine ⟨_, rfl, fun k t hk => ?_⟩
  match k, hk with
  | 0, hk => cases hk; exact ⟨_, rfl, _, rfl, h0⟩
  | 1, hk => cases hk; exact ⟨_, rfl, _, rfl, h1⟩
  | 2, hk => cases hk; exact ⟨_, rfl, _, rfl, h2⟩
  | 3, hk => cases hk; exact ⟨_, rfl, _, rfl, h3⟩
  | 4, hk => cases hk; exact ⟨_, rfl, _, rfl, h4⟩
  | 5, hk => cases hk; exact ⟨_, rfl, _, rfl, h5⟩
  | 6, hk => cases hk; exact ⟨_, rfl, _, rfl, h6⟩
  | 7, hk => cases hk; exact ⟨_, rfl, _, rfl, h7⟩
  | 8, hk => cases hk; exact ⟨_, rfl, _, rfl, h8⟩
  | k + 9, hk => exact absurd hk (by simp [ty_POST])
theorem ok_TAPE {cy : Nat → ClassId} {Ps : PSI} {q : Nat} {v0 : Nat} {v1 : Nat} {v2 : Int32} {v3 : Int32} {v4 : Int32} {v5 : Int32} {v6 : Int32} {v7 : Int32} {v8 : Int64} {v9 : Int32} {v10 : Int32} {v11 : Int32} (h0 : (v0, 2) ∈ Ps) (h1 : (v1, 0) ∈ Ps) (h2 : RI v2 0 940) (h3 : RI v3 0 940) (h4 : RI v4 0 1) (h5 : RI v5 0 940) (h6 : RI v6 0 940) (h7 : RI v7 (-2147483648) 2147483647) (h8 : RJ v8 (-9223372036854775808) 9223372036854775807) (h9 : RI v9 (-2147483648) 2147483647) (h10 : RI v10 0 4) (h11 : RI v11 (-2147483648) 2147483647) : cok cy Ps (GG q 26) (.inr (7, [.ref v0, .ref v1, .int v2, .int v3, .int v4, .int v5, .int v6, .int v7, .long v8, .int v9, .int v10, .int v11])) := by
  refine ⟨_, rfl, fun k t hk => ?_⟩
  match k, hk with
  | 0, hk => cases hk; exact ⟨_, rfl, _, rfl, h0⟩
  | 1, hk => cases hk; exact ⟨_, rfl, _, rfl, h1⟩
  | 2, hk => cases hk; exact ⟨_, rfl, _, rfl, h2⟩
  | 3, hk => cases hk; exact ⟨_, rfl, _, rfl, h3⟩
  | 4, hk => cases hk; exact ⟨_, rfl, _, rfl, h4⟩
  | 5, hk => cases hk; exact ⟨_, rfl, _, rfl, h5⟩
  | 6, hk => cases hk; exact ⟨_, rfl, _, rfl, h6⟩
  | 7, hk => cases hk; exact ⟨_, rfl, _, rfl, h7⟩
  | 8, hk => cases hk; exact ⟨_, rfl, _, rfl, h8⟩
  | 9, hk => cases hk; exact ⟨_, rfl, _, rfl, h9⟩
  | 10, hk => cases hk; exact ⟨_, rfl, _, rfl, h10⟩
  | 11, hk => cases hk; exact ⟨_, rfl, _, rfl, h11⟩
  | k + 12, hk => exact absurd hk (by simp [ty_TAPE])
theorem ok_HIST {cy : Nat → ClassId} {Ps : PSI} {q : Nat} {v0 : Nat} {v1 : Int32} {v2 : Int32} (h0 : (v0, 22) ∈ Ps) (h1 : RI v1 0 8) (h2 : RI v2 (-2147483648) 2147483647) : cok cy Ps (GG q 27) (.inr (1, [.ref v0, .int v1, .int v2])) := by
  refine ⟨_, rfl, fun k t hk => ?_⟩
  match k, hk with
  | 0, hk => cases hk; exact ⟨_, rfl, _, rfl, h0⟩
  | 1, hk => cases hk; exact ⟨_, rfl, _, rfl, h1⟩
  | 2, hk => cases hk; exact ⟨_, rfl, _, rfl, h2⟩
  | k + 3, hk => exact absurd hk (by simp [ty_HIST])
theorem ok_IMAGE {cy : Nat → ClassId} {Ps : PSI} {q : Nat} {v0 : Nat} {v1 : Value} {v2 : Int32} (h0 : (v0, 24) ∈ Ps) (h1 : vok Ps (vN 32) v1) (h2 : RI v2 0 1) : cok cy Ps (GG q 28) (.inr (2, [.ref v0, v1, .int v2])) := by
  refine ⟨_, rfl, fun k t hk => ?_⟩
  match k, hk with
  | 0, hk => cases hk; exact ⟨_, rfl, _, rfl, h0⟩
  | 1, hk => cases hk; exact ⟨_, rfl, h1⟩
  | 2, hk => cases hk; exact ⟨_, rfl, _, rfl, h2⟩
  | k + 3, hk => exact absurd hk (by simp [ty_IMAGE])
theorem ok_ROOMS {cy : Nat → ClassId} {Ps : PSI} {q : Nat} {v0 : Nat} {v1 : Nat} (h0 : (v0, 16) ∈ Ps) (h1 : (v1, 17) ∈ Ps) : cok cy Ps (GG q 29) (.inr (4, [.ref v0, .ref v1])) := by
  refine ⟨_, rfl, fun k t hk => ?_⟩
  match k, hk with
  | 0, hk => cases hk; exact ⟨_, rfl, _, rfl, h0⟩
  | 1, hk => cases hk; exact ⟨_, rfl, _, rfl, h1⟩
  | k + 2, hk => exact absurd hk (by simp [ty_ROOMS])
theorem ok_TAG {cy : Nat → ClassId} {Ps : PSI} {q : Nat} {v0 : Nat} {v1 : Int32} (h0 : (v0, 3) ∈ Ps) (h1 : RI v1 0 26) : cok cy Ps (GG q 30) (.inr (6, [.ref v0, .int v1])) := by
  refine ⟨_, rfl, fun k t hk => ?_⟩
  match k, hk with
  | 0, hk => cases hk; exact ⟨_, rfl, _, rfl, h0⟩
  | 1, hk => cases hk; exact ⟨_, rfl, _, rfl, h1⟩
  | k + 2, hk => exact absurd hk (by simp [ty_TAG])
theorem ok_BOOK {cy : Nat → ClassId} {Ps : PSI} {q : Nat} {v0 : Nat} {v1 : Nat} {v2 : Nat} {v3 : Int32} {v4 : Int32} (h0 : (v0, 18) ∈ Ps) (h1 : (v1, 19) ∈ Ps) (h2 : (v2, 20) ∈ Ps) (h3 : RI v3 0 40) (h4 : RI v4 (-2147483648) 2147483647) : cok cy Ps (GG q 31) (.inr (0, [.ref v0, .ref v1, .ref v2, .int v3, .int v4])) := by
  refine ⟨_, rfl, fun k t hk => ?_⟩
  match k, hk with
  | 0, hk => cases hk; exact ⟨_, rfl, _, rfl, h0⟩
  | 1, hk => cases hk; exact ⟨_, rfl, _, rfl, h1⟩
  | 2, hk => cases hk; exact ⟨_, rfl, _, rfl, h2⟩
  | 3, hk => cases hk; exact ⟨_, rfl, _, rfl, h3⟩
  | 4, hk => cases hk; exact ⟨_, rfl, _, rfl, h4⟩
  | k + 5, hk => exact absurd hk (by simp [ty_BOOK])
theorem ok_SENT {cy : Nat → ClassId} {Ps : PSI} {q : Nat} {v0 : Nat} {v1 : Nat} {v2 : Nat} {v3 : Int32} {v4 : Int32} (h0 : (v0, 21) ∈ Ps) (h1 : (v1, 21) ∈ Ps) (h2 : (v2, 21) ∈ Ps) (h3 : RI v3 0 40) (h4 : RI v4 (-2147483648) 2147483647) : cok cy Ps (GG q 32) (.inr (5, [.ref v0, .ref v1, .ref v2, .int v3, .int v4])) := by
  refine ⟨_, rfl, fun k t hk => ?_⟩
  match k, hk with
  | 0, hk => cases hk; exact ⟨_, rfl, _, rfl, h0⟩
  | 1, hk => cases hk; exact ⟨_, rfl, _, rfl, h1⟩
  | 2, hk => cases hk; exact ⟨_, rfl, _, rfl, h2⟩
  | 3, hk => cases hk; exact ⟨_, rfl, _, rfl, h3⟩
  | 4, hk => cases hk; exact ⟨_, rfl, _, rfl, h4⟩
  | k + 5, hk => exact absurd hk (by simp [ty_SENT])
theorem ok_WP {cy : Nat → ClassId} {Ps : PSI} {q : Nat} {v0 : Nat} {v1 : Nat} {v2 : Nat} {v3 : Nat} {v4 : Nat} {v5 : Value} {v6 : Nat} {v7 : Nat} {v8 : Nat} {v9 : Nat} {v10 : Nat} {v11 : Int32} {v12 : Int32} {v13 : Int32} {v14 : Int32} (h0 : (v0, 26) ∈ Ps) (h1 : (v1, 24) ∈ Ps) (h2 : (v2, 24) ∈ Ps) (h3 : (v3, 27) ∈ Ps) (h4 : (v4, 23) ∈ Ps) (h5 : vok Ps (vN 32) v5) (h6 : (v6, 31) ∈ Ps) (h7 : (v7, 15) ∈ Ps) (h8 : (v8, 29) ∈ Ps) (h9 : (v9, 13) ∈ Ps) (h10 : (v10, 30) ∈ Ps) (h11 : RI v11 (-2147483648) 2147483647) (h12 : RI v12 (-2147483648) 2147483647) (h13 : RI v13 (-2147483648) 2147483647) (h14 : RI v14 (-2147483648) 2147483647) : cok cy Ps (GG q 33) (.inr (9, [.ref v0, .ref v1, .ref v2, .ref v3, .ref v4, v5, .ref v6, .ref v7, .ref v8, .ref v9, .ref v10, .int v11, .int v12, .int v13, .int v14])) := by
  refine ⟨_, rfl, fun k t hk => ?_⟩
  match k, hk with
  | 0, hk => cases hk; exact ⟨_, rfl, _, rfl, h0⟩
  | 1, hk => cases hk; exact ⟨_, rfl, _, rfl, h1⟩
  | 2, hk => cases hk; exact ⟨_, rfl, _, rfl, h2⟩
  | 3, hk => cases hk; exact ⟨_, rfl, _, rfl, h3⟩
  | 4, hk => cases hk; exact ⟨_, rfl, _, rfl, h4⟩
  | 5, hk => cases hk; exact ⟨_, rfl, h5⟩
  | 6, hk => cases hk; exact ⟨_, rfl, _, rfl, h6⟩
  | 7, hk => cases hk; exact ⟨_, rfl, _, rfl, h7⟩
  | 8, hk => cases hk; exact ⟨_, rfl, _, rfl, h8⟩
  | 9, hk => cases hk; exact ⟨_, rfl, _, rfl, h9⟩
  | 10, hk => cases hk; exact ⟨_, rfl, _, rfl, h10⟩
  | 11, hk => cases hk; exact ⟨_, rfl, _, rfl, h11⟩
  | 12, hk => cases hk; exact ⟨_, rfl, _, rfl, h12⟩
  | 13, hk => cases hk; exact ⟨_, rfl, _, rfl, h13⟩
  | 14, hk => cases hk; exact ⟨_, rfl, _, rfl, h14⟩
  | k + 15, hk => exact absurd hk (by simp [ty_WP])
theorem ok_MODEL {cy : Nat → ClassId} {Ps : PSI} {q : Nat} {v0 : Int32} {v1 : Nat} {v2 : Int32} {v3 : Int32} {v4 : Int32} {v5 : Int32} {v6 : Int32} {v7 : Int32} {v8 : Int32} {v9 : Int32} {v10 : Int32} {v11 : Int32} {v12 : Int64} {v13 : Int32} {v14 : Nat} {v15 : Nat} {v16 : Nat} {v17 : Nat} {v18 : Nat} {v19 : Nat} {v20 : Nat} {v21 : Nat} {v22 : Nat} {v23 : Nat} {v24 : Nat} {v25 : Int32} {v26 : Nat} {v27 : Int32} {v28 : Nat} {v29 : Int32} {v30 : Int32} {v31 : Nat} {v32 : Nat} {v33 : Int32} {v34 : Int32} {v35 : Nat} {v36 : Int32} {v37 : Nat} {v38 : Int32} {v39 : Int32} {v40 : Nat} {v41 : Nat} {v42 : Int32} {v43 : Int32} {v44 : Nat} {v45 : Int32} {v46 : Int32} {v47 : Int32} {v48 : Int32} (h0 : RI v0 (-2147483648) 2147483647) (h1 : (v1, 40) ∈ Ps) (h2 : RI v2 0 940) (h3 : RI v3 0 940) (h4 : RI v4 (-2147483648) 2147483647) (h5 : RI v5 0 940) (h6 : RI v6 (-2147483648) 2147483647) (h7 : RI v7 (-2147483648) 2147483647) (h8 : RI v8 (-2147483648) 2147483647) (h9 : RI v9 (-2147483648) 2147483647) (h10 : RI v10 (-2147483648) 2147483647) (h11 : RI v11 (-2147483648) 2147483647) (h12 : RJ v12 (-9223372036854775808) 9223372036854775807) (h13 : RI v13 (-2147483648) 2147483647) (h14 : (v14, 34) ∈ Ps) (h15 : (v15, 35) ∈ Ps) (h16 : (v16, 36) ∈ Ps) (h17 : (v17, 37) ∈ Ps) (h18 : (v18, 38) ∈ Ps) (h19 : (v19, 39) ∈ Ps) (h20 : (v20, 41) ∈ Ps) (h21 : (v21, 42) ∈ Ps) (h22 : (v22, 43) ∈ Ps) (h23 : (v23, 44) ∈ Ps) (h24 : (v24, 45) ∈ Ps) (h25 : RI v25 0 8) (h26 : (v26, 46) ∈ Ps) (h27 : RI v27 (-2147483648) 2147483647) (h28 : (v28, 47) ∈ Ps) (h29 : RI v29 (-2147483648) 2147483647) (h30 : RI v30 (-1) 7) (h31 : (v31, 48) ∈ Ps) (h32 : (v32, 49) ∈ Ps) (h33 : RI v33 0 6) (h34 : RI v34 0 1) (h35 : (v35, 50) ∈ Ps) (h36 : RI v36 0 8) (h37 : (v37, 51) ∈ Ps) (h38 : RI v38 0 64) (h39 : RI v39 (-2147483648) 2147483647) (h40 : (v40, 52) ∈ Ps) (h41 : (v41, 53) ∈ Ps) (h42 : RI v42 0 40) (h43 : RI v43 0 1) (h44 : (v44, 54) ∈ Ps) (h45 : RI v45 (-2147483648) 2147483647) (h46 : RI v46 (-2147483648) 2147483647) (h47 : RI v47 (-2147483648) 2147483647) (h48 : RI v48 (-2147483648) 2147483647) : cok cy Ps (GG q 55) (.inr (10, [.int v0, .ref v1, .int v2, .int v3, .int v4, .int v5, .int v6, .int v7, .int v8, .int v9, .int v10, .int v11, .long v12, .int v13, .ref v14, .ref v15, .ref v16, .ref v17, .ref v18, .ref v19, .ref v20, .ref v21, .ref v22, .ref v23, .ref v24, .int v25, .ref v26, .int v27, .ref v28, .int v29, .int v30, .ref v31, .ref v32, .int v33, .int v34, .ref v35, .int v36, .ref v37, .int v38, .int v39, .ref v40, .ref v41, .int v42, .int v43, .ref v44, .int v45, .int v46, .int v47, .int v48])) := by
  refine ⟨_, rfl, fun k t hk => ?_⟩
  match k, hk with
  | 0, hk => cases hk; exact ⟨_, rfl, _, rfl, h0⟩
  | 1, hk => cases hk; exact ⟨_, rfl, _, rfl, h1⟩
  | 2, hk => cases hk; exact ⟨_, rfl, _, rfl, h2⟩
  | 3, hk => cases hk; exact ⟨_, rfl, _, rfl, h3⟩
  | 4, hk => cases hk; exact ⟨_, rfl, _, rfl, h4⟩
  | 5, hk => cases hk; exact ⟨_, rfl, _, rfl, h5⟩
  | 6, hk => cases hk; exact ⟨_, rfl, _, rfl, h6⟩
  | 7, hk => cases hk; exact ⟨_, rfl, _, rfl, h7⟩
  | 8, hk => cases hk; exact ⟨_, rfl, _, rfl, h8⟩
  | 9, hk => cases hk; exact ⟨_, rfl, _, rfl, h9⟩
  | 10, hk => cases hk; exact ⟨_, rfl, _, rfl, h10⟩
  | 11, hk => cases hk; exact ⟨_, rfl, _, rfl, h11⟩
  | 12, hk => cases hk; exact ⟨_, rfl, _, rfl, h12⟩
  | 13, hk => cases hk; exact ⟨_, rfl, _, rfl, h13⟩
  | 14, hk => cases hk; exact ⟨_, rfl, _, rfl, h14⟩
  | 15, hk => cases hk; exact ⟨_, rfl, _, rfl, h15⟩
  | 16, hk => cases hk; exact ⟨_, rfl, _, rfl, h16⟩
  | 17, hk => cases hk; exact ⟨_, rfl, _, rfl, h17⟩
  | 18, hk => cases hk; exact ⟨_, rfl, _, rfl, h18⟩
  | 19, hk => cases hk; exact ⟨_, rfl, _, rfl, h19⟩
  | 20, hk => cases hk; exact ⟨_, rfl, _, rfl, h20⟩
  | 21, hk => cases hk; exact ⟨_, rfl, _, rfl, h21⟩
  | 22, hk => cases hk; exact ⟨_, rfl, _, rfl, h22⟩
  | 23, hk => cases hk; exact ⟨_, rfl, _, rfl, h23⟩
  | 24, hk => cases hk; exact ⟨_, rfl, _, rfl, h24⟩
  | 25, hk => cases hk; exact ⟨_, rfl, _, rfl, h25⟩
  | 26, hk => cases hk; exact ⟨_, rfl, _, rfl, h26⟩
  | 27, hk => cases hk; exact ⟨_, rfl, _, rfl, h27⟩
  | 28, hk => cases hk; exact ⟨_, rfl, _, rfl, h28⟩
  | 29, hk => cases hk; exact ⟨_, rfl, _, rfl, h29⟩
  | 30, hk => cases hk; exact ⟨_, rfl, _, rfl, h30⟩
  | 31, hk => cases hk; exact ⟨_, rfl, _, rfl, h31⟩
  | 32, hk => cases hk; exact ⟨_, rfl, _, rfl, h32⟩
  | 33, hk => cases hk; exact ⟨_, rfl, _, rfl, h33⟩
  | 34, hk => cases hk; exact ⟨_, rfl, _, rfl, h34⟩
  | 35, hk => cases hk; exact ⟨_, rfl, _, rfl, h35⟩
  | 36, hk => cases hk; exact ⟨_, rfl, _, rfl, h36⟩
  | 37, hk => cases hk; exact ⟨_, rfl, _, rfl, h37⟩
  | 38, hk => cases hk; exact ⟨_, rfl, _, rfl, h38⟩
  | 39, hk => cases hk; exact ⟨_, rfl, _, rfl, h39⟩
  | 40, hk => cases hk; exact ⟨_, rfl, _, rfl, h40⟩
  | 41, hk => cases hk; exact ⟨_, rfl, _, rfl, h41⟩
  | 42, hk => cases hk; exact ⟨_, rfl, _, rfl, h42⟩
  | 43, hk => cases hk; exact ⟨_, rfl, _, rfl, h43⟩
  | 44, hk => cases hk; exact ⟨_, rfl, _, rfl, h44⟩
  | 45, hk => cases hk; exact ⟨_, rfl, _, rfl, h45⟩
  | 46, hk => cases hk; exact ⟨_, rfl, _, rfl, h46⟩
  | 47, hk => cases hk; exact ⟨_, rfl, _, rfl, h47⟩
  | 48, hk => cases hk; exact ⟨_, rfl, _, rfl, h48⟩
  | k + 49, hk => exact absurd hk (by simp [ty_MODEL])
abbrev wr_X9_post : List (Nat × Nat) := [(1, 2), (3, 5), (3, 6), (3, 7), (3, 8), (7, 2), (7, 3), (7, 4), (7, 5), (7, 6), (7, 7), (7, 8), (7, 9), (7, 10), (7, 11), (8, 0), (8, 1), (9, 5), (9, 11)]
abbrev wa_X9_post : List Nat := [1, 4, 5, 6, 7, 8, 9, 10, 11, 12, 13]
set_option maxHeartbeats 4000000 in
set_option maxRecDepth 100000 in
theorem c_X9_post (l : Launch) (D : va_G) (cy : Nat → ClassId) (z : Nat → Nat) (sz : Nat) (Ps : PSI) (w0 : va_W) (hT : HT cy GG Ps w0) (p0 : Nat) (h_p0 : (p0, 33) ∈ Ps) : Met l yX9_post (Cond.code yX9_post cX9_post 3 (some .int) :: gT) ({ frames := 6, cells := 6, slots := 65, locals := 1200 } : Room) (va_Pc [.ref p0] (PRE D cy z w0 sz)) (va_Qi (fun (r : Int32) (u : PSI × va_W) => (RI r (-2147483648) 2147483647 ∧ (r = 0 → True) ∧ (¬ r = 0 → True)) ∧ (∃ X, u.1 = Ps ++ X) ∧ HT cy GG u.1 u.2 ∧ FR wr_X9_post wa_X9_post Ps w0 u.2) (BB D cy (va_A w0 sz) (fun (u : PSI × va_W) => u.2)) (va_A w0 sz)) 6 65 (va_A w0 sz) := by
  refine Met.ofW (cc := cX9_post) (maxL := 3) (ret := (some .int)) (by decide) rfl ?_
  intro p e s m args below meth c s₁ B hml hv
  obtain ⟨rfl, hsz, hP, hK, hD0, hSD⟩ := hv
  have hx := B.exec
  have hb := B.bytes
  have hr := B.returns
  have hlocks := B.notSynchronized
  have hts : ∀ w ∈ gT, w.before _ s = true := fun w h => atoms_spec (ws := Cond.code yX9_post cX9_post 3 (some .int) :: gT) B.pre w (List.mem_cons_of_mem _ h)
  have hown : s.vm.findClass RX9 = some m.cls := findClass_of_methodNamed B.named
  subst hsz
  have hD := hD0.self (sz := s.heap.size)
  generalize hAe : va_A w0 s.heap.size = A at hD hSD ⊢
  have hA : ∀ q : Nat, s.heap.size ≤ q → A q := fun q h => by rw [← hAe]; exact Or.inr h
  have hl := lv_entry ([.ref p0]) (n := 3) (Nat.le_of_ble_eq_true rfl)
  rw [lg_entry_eq]
  generalize (lg_sl ([.ref p0]) ++ List.replicate (3 - (lg_sl ([.ref p0])).length) Slot.unset).toArray = ls at hl ⊢
  have hl : lv_has ls 3 [(0, .ref p0)] := hl
  refine nameQ (fun Q hQ => ?_)
  have hw : WD D cy GG A s wr_X9_post wa_X9_post Ps w0 Ps w0 s.heap [] := ⟨hT, hP, hD, va_S.rf, FR.rf, hT.1, [], (List.append_nil _).symm⟩
  refine va_new (ci := 3) (fs := [.null, .null, .null, .null, .null, .int 0, .int 0, .int 0, .int 0]) (C := RX3) (T := TX3) (N := 9) hx hb hts inX3 tyX3 tyX3_ok hown (hts _ tw_192) (hts _ tw_193) (hts _ tw_11) hK hw.2.1 hw.2.2.1 hw.2.2.2.1 hA rfl (dfX3) (Nat.le_of_ble_eq_true rfl) (Nat.le_of_ble_eq_true rfl) dX9_post_0 (fun q_1 H hP9 hD9 hS9 => ?_)
  refine lv_dup hx hb dX9_post_3 rfl ?_
  refine tkN (va_runIN (As := []) (rest := [.ref q_1]) ⟨hx, hb, hml, hown, hts⟩ (c_Post_init l D cy z H.size q_1) ⟨va_cnB 0 hts (gC tw_196) rfl rfl rfl (va_Nw.of rfl (hSD.nest (args := #[]) tn_194)) (hts _ tw_11) (by decide +kernel) ⟨Nat.le_of_ble_eq_true rfl, Nat.le_of_ble_eq_true rfl⟩, rfl, hts _ tw_195⟩ (preS hP9 hD9 hK hSD hS9 hA [w0.length] last1 rfl) rfl rfl hl.1 rfl (lv_room (Nat.le_of_ble_eq_true rfl)) dX9_post_4 ⟨Nat.le_of_ble_eq_true rfl, Nat.le_of_ble_eq_true rfl⟩) hP9 hD9 hS9 hA (fun u9 H locs hp9 hP9 hD9 hS9 => ?_)
  obtain ⟨u0_1, u1_1, u2_1, u3_1, u4_1⟩ := u9
  have hw := WD.app (X := [(q_1, 25), (u0_1, 1), (u1_1, 4), (u2_1, 5), (u3_1, 6), (u4_1, 7)]) (wx := [(q_1, .inr (3, [.ref u0_1, .ref u1_1, .ref u2_1, .ref u3_1, .ref u4_1, .int 0, .int 5, .int 0, .int 0])), (u0_1, .inl (cy 2, 32, .inr (.inl (fun _ => 0)))), (u1_1, .inl (cy 1, 4, .inl (fun _ => 0))), (u2_1, .inl (cy 1, 6, .inl (fun _ => 0))), (u3_1, .inl (cy 1, 6, .inl (fun _ => 0))), (u4_1, .inl (cy 1, 8, .inl (fun _ => 0)))]) hw ⟨⟨rfl, ok_POST (List.mem_append_right _ (by simp)) (List.mem_append_right _ (by simp)) (List.mem_append_right _ (by simp)) (List.mem_append_right _ (by simp)) (List.mem_append_right _ (by simp)) (rl_0.to (by decide)) (rl_5.to (by decide)) (rl_0.to (by decide)) (rl_0.to (by decide))⟩, ⟨rfl, z_lon (fun _ => 0)⟩, ⟨rfl, z_arr (fun _ => 0) (by decide +kernel) trivial⟩, ⟨rfl, z_arr (fun _ => 0) (fun j9 _ => (by show ((-2147483648) : Int) ≤ (0 : Int32).toInt ∧ (0 : Int32).toInt ≤ 2147483647; decide)) trivial⟩, ⟨rfl, z_arr (fun _ => 0) (fun j9 _ => (by show ((-2147483648) : Int) ≤ (0 : Int32).toInt ∧ (0 : Int32).toInt ≤ 2147483647; decide)) trivial⟩, ⟨rfl, z_arr (fun _ => 0) (fun j9 _ => (by show ((-2147483648) : Int) ≤ (0 : Int32).toInt ∧ (0 : Int32).toInt ≤ 2147483647; decide)) trivial⟩, trivial⟩ hP9 hD9 hS9
  obtain ⟨Pn, hPn⟩ : ∃ q9 : PSI, q9 = Ps ++ [(q_1, 25), (u0_1, 1), (u1_1, 4), (u2_1, 5), (u3_1, 6), (u4_1, 7)] := ⟨_, rfl⟩
  have hup : ∀ x9 ∈ Ps, x9 ∈ Pn := fun x9 h9 => by rw [hPn]; exact List.mem_append_left _ h9
  obtain ⟨ws, hws⟩ : ∃ q9 : va_W, q9 = w0 ++ [(q_1, .inr (3, [.ref u0_1, .ref u1_1, .ref u2_1, .ref u3_1, .ref u4_1, .int 0, .int 5, .int 0, .int 0])), (u0_1, .inl (cy 2, 32, .inr (.inl (fun _ => 0)))), (u1_1, .inl (cy 1, 4, .inl (fun _ => 0))), (u2_1, .inl (cy 1, 6, .inl (fun _ => 0))), (u3_1, .inl (cy 1, 6, .inl (fun _ => 0))), (u4_1, .inl (cy 1, 8, .inl (fun _ => 0)))] := ⟨_, rfl⟩
  rw [← hPn, ← hws] at hw
  have h_p0 := hup _ h_p0
  have h_q_1 : (q_1, 25) ∈ Pn := by rw [hPn]; exact List.mem_append_right _ (by simp)
  have h_u0_1 : (u0_1, 1) ∈ Pn := by rw [hPn]; exact List.mem_append_right _ (by simp)
  have h_u1_1 : (u1_1, 4) ∈ Pn := by rw [hPn]; exact List.mem_append_right _ (by simp)
  have h_u2_1 : (u2_1, 5) ∈ Pn := by rw [hPn]; exact List.mem_append_right _ (by simp)
  have h_u3_1 : (u3_1, 6) ∈ Pn := by rw [hPn]; exact List.mem_append_right _ (by simp)
  have h_u4_1 : (u4_1, 7) ∈ Pn := by rw [hPn]; exact List.mem_append_right _ (by simp)
  refine W.widen (k := 6) (n := 65) (Nat.le_of_ble_eq_true rfl) (Nat.le_of_ble_eq_true rfl) ?_
  refine lv_astore_n (lv' := [(1, .ref q_1), (0, .ref p0)]) hx hb dX9_post_7 rfl hl (by decide) rfl (fun ls hl => ?_)
  refine lv_aload_n hx hb dX9_post_8 rfl (lv_at hl 0 rfl) ?_
  refine lv_aload_n hx hb dX9_post_9 rfl (lv_at hl 1 rfl) ?_
  refine tg_get (ci := 9) (ts := ty_WP) (C := RX9) (T := TX9) (N := 15) hx hb hts inX9 hown hK hw h_p0 rfl rfl 0 (by decide) (hts _ tw_346) (fun _ h9 => h9) (ft := vR 26) rfl dX9_post_10 (fun u_2 hv_u_2 m_u_2 => ?_)
  obtain ⟨vu_2, rfl, h_vu_2⟩ := hv_u_2
  refine lv_aload_n hx hb dX9_post_13 rfl (lv_at hl 1 rfl) ?_
  refine tg_get (ci := 9) (ts := ty_WP) (C := RX9) (T := TX9) (N := 15) hx hb hts inX9 hown hK hw h_p0 rfl rfl 2 (by decide) (hts _ tw_348) (fun _ h9 => h9) (ft := vR 24) rfl dX9_post_14 (fun u_3 hv_u_3 m_u_3 => ?_)
  obtain ⟨vu_3, rfl, h_vu_3⟩ := hv_u_3
  refine tk_i (va_runV (As := [.ref vu_2, .ref vu_3]) (rest := []) ⟨hx, hb, hml, hown, hts⟩ (c_X3_read l D cy z H.size Pn ws hw.1 q_1 vu_2 vu_3 h_q_1 h_vu_2 h_vu_3) (cwV 2 hts (gV tw_412 tw_413 tw_414 tw_11 tw_415) rfl rfl rfl (by decide +kernel) ⟨Nat.le_of_ble_eq_true rfl, Nat.le_of_ble_eq_true rfl⟩) (tg_preV hw hK hSD hA (ci := 3) (q := (RX3, TX3, 9)) rfl h_q_1 rfl) rfl rfl hl.1 rfl (lv_room (Nat.le_of_ble_eq_true rfl)) dX9_post_17 ⟨Nat.le_of_ble_eq_true rfl, Nat.le_of_ble_eq_true rfl⟩) hw hA ⟨by decide, by decide⟩ (fun v_4 ws H locs hp_v_4 hw hF9 => ?_)
  have r_v_4 : RI v_4 (-1) 900 := hp_v_4.1
  refine lv_istore_n (lv' := [(2, .int v_4), (1, .ref q_1), (0, .ref p0)]) hx hb dX9_post_20 rfl hl (by decide) rfl (fun ls hl => ?_)
  refine lv_aload_n hx hb dX9_post_21 rfl (lv_at hl 2 rfl) ?_
  refine tk_v (va_runV (As := []) (rest := []) ⟨hx, hb, hml, hown, hts⟩ (c_X9_noteFault__1 l D cy z H.size Pn ws hw.1 p0 h_p0) (cwV 0 hts (gV tw_517 tw_519 ts_9 tw_1 tw_520) rfl rfl rfl (by decide +kernel) ⟨Nat.le_of_ble_eq_true rfl, Nat.le_of_ble_eq_true rfl⟩) (tg_preV hw hK hSD hA (ci := 9) (q := (RX9, TX9, 15)) rfl h_p0 rfl) rfl rfl hl.1 rfl (lv_room (Nat.le_of_ble_eq_true rfl)) dX9_post_22 ⟨Nat.le_of_ble_eq_true rfl, Nat.le_of_ble_eq_true rfl⟩) hw hA ⟨by decide, by decide⟩ (fun ws H locs hp_v_5 hw hF9 => ?_)
  have x_EQF_p0 := (hp_v_5.1)
  refine lv_aload_n hx hb dX9_post_25 rfl (lv_at hl 2 rfl) ?_
  refine tg_get (ci := 9) (ts := ty_WP) (C := RX9) (T := TX9) (N := 15) hx hb hts inX9 hown hK hw h_p0 rfl rfl 11 (by decide) (hts _ tw_357) (fun _ h9 => h9) (ft := vI (-2147483648) 2147483647) rfl dX9_post_26 (fun u_6 hv_u_6 m_u_6 => ?_)
  obtain ⟨vu_6, rfl, r_vu_6⟩ := hv_u_6
  refine lv_if_eq (tgt := 42) hx hb dX9_post_29 (by decide) (fun c_29 => ?_) (fun c_29 => ?_)
  · have r_vu_6 : RI vu_6 0 0 := rc_eq1 r_vu_6 rl_0 (ti_eq c_29) (by decide)
    refine lv_aload_n hx hb dX9_post_42 rfl (lv_at hl 2 rfl) ?_
    refine tg_get (ci := 9) (ts := ty_WP) (C := RX9) (T := TX9) (N := 15) hx hb hts inX9 hown hK hw h_p0 rfl rfl 1 (by decide) (hts _ tw_347) (fun _ h9 => h9) (ft := vR 24) rfl dX9_post_43 (fun u_7 hv_u_7 m_u_7 => ?_)
    obtain ⟨vu_7, rfl, h_vu_7⟩ := hv_u_7
    refine lv_aload_n hx hb dX9_post_46 rfl (lv_at hl 2 rfl) ?_
    refine tg_get (ci := 9) (ts := ty_WP) (C := RX9) (T := TX9) (N := 15) hx hb hts inX9 hown hK hw h_p0 rfl rfl 2 (by decide) (hts _ tw_348) (fun _ h9 => h9) (ft := vR 24) rfl dX9_post_47 (fun u_8 hv_u_8 m_u_8 => ?_)
    obtain ⟨vu_8, rfl, h_vu_8⟩ := hv_u_8
    refine tk_v (va_runV (As := [.ref vu_8]) (rest := []) ⟨hx, hb, hml, hown, hts⟩ (c_X8_takeFrom l D cy z H.size Pn ws hw.1 vu_7 vu_8 h_vu_7 h_vu_8) (cwV 1 hts (gV tw_521 tw_522 tw_523 tw_12 tw_524) rfl rfl rfl (by decide +kernel) ⟨Nat.le_of_ble_eq_true rfl, Nat.le_of_ble_eq_true rfl⟩) (tg_preV hw hK hSD hA (ci := 8) (q := (RX8, TX8, 13)) rfl h_vu_7 rfl) rfl rfl hl.1 rfl (lv_room (Nat.le_of_ble_eq_true rfl)) dX9_post_50 ⟨Nat.le_of_ble_eq_true rfl, Nat.le_of_ble_eq_true rfl⟩) hw hA ⟨by decide, by decide⟩ (fun ws H locs hp_v_9 hw hF9 => ?_)
    have m_u_6 := FLD.over hF9 m_u_6 (by decide)
    have x_EQF_p0 := EQF.over hF9 x_EQF_p0 (by decide)
    refine lv_aload_n hx hb dX9_post_53 rfl (lv_at hl 2 rfl) ?_
    refine lv_null hx hb dX9_post_54 ?_
    refine tg_put (ci := 9) (ts := ty_WP) (v := .null) (ty := .object "WonderParcels$Sentence") (C := RX9) (T := TX9) (N := 15) hx hb hts inX9 tyX9 tyX9_ok nmX9 hown hK hw h_p0 rfl rfl 5 (by decide) (hts _ tw_351) (fun _ h9 => h9) rfl (by decide +kernel) rfl rfl (ft := vN 32) rfl (Or.inl rfl) (by decide) dX9_post_55 (fun ws H locs hw n_k_10 hF9 => ?_)
    have m_u_6 := FLD.over hF9 m_u_6 (by decide)
    have x_EQF_p0 := EQF.over hF9 x_EQF_p0 (by decide)
    refine lv_aload_n hx hb dX9_post_58 rfl (lv_at hl 2 rfl) ?_
    refine tg_get (ci := 9) (ts := ty_WP) (C := RX9) (T := TX9) (N := 15) hx hb hts inX9 hown hK hw h_p0 rfl rfl 3 (by decide) (hts _ tw_349) (fun _ h9 => h9) (ft := vR 27) rfl dX9_post_59 (fun u_11 hv_u_11 m_u_11 => ?_)
    obtain ⟨vu_11, rfl, h_vu_11⟩ := hv_u_11
    refine tk_v (va_runV (As := []) (rest := []) ⟨hx, hb, hml, hown, hts⟩ (c_X1_forget l D cy z H.size Pn ws hw.1 vu_11 h_vu_11) (cwV 0 hts (gV tw_528 tw_529 tw_530 tw_13 tw_531) rfl rfl rfl (by decide +kernel) ⟨Nat.le_of_ble_eq_true rfl, Nat.le_of_ble_eq_true rfl⟩) (tg_preV hw hK hSD hA (ci := 1) (q := (RX1, TX1, 3)) rfl h_vu_11 rfl) rfl rfl hl.1 rfl (lv_room (Nat.le_of_ble_eq_true rfl)) dX9_post_62 ⟨Nat.le_of_ble_eq_true rfl, Nat.le_of_ble_eq_true rfl⟩) hw hA ⟨by decide, by decide⟩ (fun ws H locs hp_v_12 hw hF9 => ?_)
    have m_u_6 := FLD.over hF9 m_u_6 (by decide)
    have x_EQF_p0 := EQF.over hF9 x_EQF_p0 (by decide)
    refine lv_iload_n hx hb dX9_post_65 rfl (lv_at hl 0 rfl) ?_
    subst hQ
    exact W.iret (v := v_4) hx hb hr (fun t ht hW => ⟨⟨v_4, (Pn, ws), rfl, ⟨⟨r_v_4.to (by decide), (fun h0 => trivial), (fun h0 => trivial)⟩, hw.2.2.2.2.2.2, hw.1, hw.2.2.2.2.1⟩, by rw [ht]; exact hw.2.1, va_K.moved hW.alike hK, hw.2.2.1⟩, hw.2.2.2.1.F ht⟩) hw.2.2.2.1.2.2 dX9_post_66
  · refine lv_iconst (v := (-1)) hx hb dX9_post_32 (by decide) ?_
    refine lv_aload_n hx hb dX9_post_33 rfl (lv_at hl 2 rfl) ?_
    refine tg_get (ci := 9) (ts := ty_WP) (C := RX9) (T := TX9) (N := 15) hx hb hts inX9 hown hK hw h_p0 rfl rfl 0 (by decide) (hts _ tw_346) (fun _ h9 => h9) (ft := vR 26) rfl dX9_post_34 (fun u_13 hv_u_13 m_u_13 => ?_)
    obtain ⟨vu_13, rfl, h_vu_13⟩ := hv_u_13
    refine tg_getN (ci := 7) (ts := ty_TAPE) (C := RX7) (T := TX7) (N := 12) hx hb hts inX7 hown hK hw h_vu_13 rfl rfl 11 (by decide) (hSD.nest tn_107) (fun _ h9 => h9) (ft := vI (-2147483648) 2147483647) rfl dX9_post_37 (fun u_14 hv_u_14 m_u_14 => ?_)
    obtain ⟨vu_14, rfl, r_vu_14⟩ := hv_u_14
    refine lv_isub hx hb dX9_post_40 (lv_topi (fun v_15 e_v_15 => ?_))
    obtain ⟨t_v_15, r_v_15⟩ := tq_sub (lo := (-2147483648)) (hi := 2147483647) rl_m1 r_vu_14 (by decide +kernel) e_v_15
    have t_v_15 : v_15.toInt = (-1) - vu_14.toInt := t_v_15
    subst hQ
    exact W.iret (v := v_15) hx hb hr (fun t ht hW => ⟨⟨v_15, (Pn, ws), rfl, ⟨⟨r_v_15.to (by decide), (fun h0 => trivial), (fun h0 => trivial)⟩, hw.2.2.2.2.2.2, hw.1, hw.2.2.2.2.1⟩, by rw [ht]; exact hw.2.1, va_K.moved hW.alike hK, hw.2.2.1⟩, hw.2.2.2.1.F ht⟩) hw.2.2.2.1.2.2 dX9_post_41
abbrev wr_X9_setsThatSat : List (Nat × Nat) := [(8, 0), (8, 1), (9, 13), (9, 14)]
abbrev wa_X9_setsThatSat : List Nat := [8, 9, 10, 11, 12, 13, 14]
set_option maxHeartbeats 4000000 in
set_option maxRecDepth 100000 in
theorem c_X9_setsThatSat (l : Launch) (D : va_G) (cy : Nat → ClassId) (z : Nat → Nat) (sz : Nat) (Ps : PSI) (w0 : va_W) (hT : HT cy GG Ps w0) (p0 : Nat) (p1 : Int32) (p2 : Int32) (p3 : Int32) (p4 : Int32) (h_p0 : (p0, 33) ∈ Ps) (r_p1 : RI p1 0 5) (r_p2 : RI p2 1 30) (r_p3 : RI p3 (-1) 5) (r_p4 : RI p4 (-2147483648) 2147483647) : Met l yX9_setsThatSat (Cond.code yX9_setsThatSat cX9_setsThatSat 12 (some .int) :: gT) ({ frames := 3, cells := 1, slots := 8, locals := 600 } : Room) (va_Pc [.ref p0, .int p1, .int p2, .int p3, .int p4] (PRE D cy z w0 sz)) (va_Qi (fun (r : Int32) (u : PSI × va_W) => (RI r (-2147483648) 2147483647 ∧ (r = 0 → True) ∧ (¬ r = 0 → True)) ∧ (∃ X, u.1 = Ps ++ X) ∧ HT cy GG u.1 u.2 ∧ FR wr_X9_setsThatSat wa_X9_setsThatSat Ps w0 u.2) (BB D cy (va_A w0 sz) (fun (u : PSI × va_W) => u.2)) (va_A w0 sz)) 1 8 (va_A w0 sz) := by
  refine Met.ofW (cc := cX9_setsThatSat) (maxL := 12) (ret := (some .int)) (by decide) rfl ?_
  intro p e s m args below meth c s₁ B hml hv
  obtain ⟨rfl, hsz, hP, hK, hD0, hSD⟩ := hv
  have hx := B.exec
  have hb := B.bytes
  have hr := B.returns
  have hlocks := B.notSynchronized
  have hts : ∀ w ∈ gT, w.before _ s = true := fun w h => atoms_spec (ws := Cond.code yX9_setsThatSat cX9_setsThatSat 12 (some .int) :: gT) B.pre w (List.mem_cons_of_mem _ h)
  have hown : s.vm.findClass RX9 = some m.cls := findClass_of_methodNamed B.named
  subst hsz
  have hD := hD0.self (sz := s.heap.size)
  generalize hAe : va_A w0 s.heap.size = A at hD hSD ⊢
  have hA : ∀ q : Nat, s.heap.size ≤ q → A q := fun q h => by rw [← hAe]; exact Or.inr h
  have hl := lv_entry ([.ref p0, .int p1, .int p2, .int p3, .int p4]) (n := 12) (Nat.le_of_ble_eq_true rfl)
  rw [lg_entry_eq]
  generalize (lg_sl ([.ref p0, .int p1, .int p2, .int p3, .int p4]) ++ List.replicate (12 - (lg_sl ([.ref p0, .int p1, .int p2, .int p3, .int p4])).length) Slot.unset).toArray = ls at hl ⊢
  have hl : lv_has ls 12 [(0, .ref p0), (1, .int p1), (2, .int p2), (3, .int p3), (4, .int p4)] := hl
  refine nameQ (fun Q hQ => ?_)
  have hw : WD D cy GG A s wr_X9_setsThatSat wa_X9_setsThatSat Ps w0 Ps w0 s.heap [] := ⟨hT, hP, hD, va_S.rf, FR.rf, hT.1, [], (List.append_nil _).symm⟩
  refine lv_aload_n hx hb dX9_setsThatSat_0 rfl (lv_at hl 0 rfl) ?_
  refine tg_get (ci := 9) (ts := ty_WP) (C := RX9) (T := TX9) (N := 15) hx hb hts inX9 hown hK hw h_p0 rfl rfl 1 (by decide) (hts _ tw_347) (fun _ h9 => h9) (ft := vR 24) rfl dX9_setsThatSat_1 (fun u_1 hv_u_1 m_u_1 => ?_)
  obtain ⟨vu_1, rfl, h_vu_1⟩ := hv_u_1
  refine tg_getN (ci := 8) (ts := ty_WORLD) (C := RX8) (T := TX8) (N := 13) hx hb hts inX8 hown hK hw h_vu_1 rfl rfl 0 (by decide) (hSD.nest tn_249) (fun _ h9 => h9) (ft := vR 25) rfl dX9_setsThatSat_4 (fun u_2 hv_u_2 m_u_2 => ?_)
  obtain ⟨vu_2, rfl, h_vu_2⟩ := hv_u_2
  refine tg_getN (ci := 3) (ts := ty_POST) (C := RX3) (T := TX3) (N := 9) hx hb hts inX3 hown hK hw h_vu_2 rfl rfl 1 (by decide) (hSD.nest tn_204) (fun _ h9 => h9) (ft := vR 4) rfl dX9_setsThatSat_7 (fun u_3 hv_u_3 m_u_3 => ?_)
  obtain ⟨vu_3, rfl, h_vu_3⟩ := hv_u_3
  refine lv_iconst (v := 3) hx hb dX9_setsThatSat_10 (by decide) ?_
  refine tg_iald (lo := 0) (hi := 8) hx hb hK hw h_vu_3 rfl 3 3 rl_3 (by decide) (by decide +kernel) dX9_setsThatSat_11 (fun v_4 r_v_4 m_v_4 o_v_4 => ?_)
  refine lv_istore (lv' := [(5, .int v_4), (0, .ref p0), (1, .int p1), (2, .int p2), (3, .int p3), (4, .int p4)]) hx hb dX9_setsThatSat_12 hl (by decide) rfl (fun ls hl => ?_)
  refine lv_iconst (v := 1) hx hb dX9_setsThatSat_14 (by decide) ?_
  refine lv_iload hx hb dX9_setsThatSat_15 (lv_at hl 0 rfl) ?_
  refine lv_ishl hx hb dX9_setsThatSat_17 (lv_topi (fun v_5 e_v_5 => ?_))
  have r_v_5 : RI v_5 1 256 := by rw [e_v_5]; exact ri_shl1 (r_v_4.to (c := 0) (d := 8) (by decide)) (by decide)
  refine lv_istore (lv' := [(6, .int v_5), (5, .int v_4), (0, .ref p0), (1, .int p1), (2, .int p2), (3, .int p3), (4, .int p4)]) hx hb dX9_setsThatSat_18 hl (by decide) rfl (fun ls hl => ?_)
  refine lv_iconst (v := 0) hx hb dX9_setsThatSat_20 (by decide) ?_
  refine lv_istore (lv' := [(7, .int 0), (6, .int v_5), (5, .int v_4), (0, .ref p0), (1, .int p1), (2, .int p2), (3, .int p3), (4, .int p4)]) hx hb dX9_setsThatSat_21 hl (by decide) rfl (fun ls hl => ?_)
  refine lv_iload hx hb dX9_setsThatSat_23 (lv_at hl 1 rfl) ?_
  refine lv_iconst (v := 1) hx hb dX9_setsThatSat_25 (by decide) ?_
  refine lv_isub hx hb dX9_setsThatSat_26 (lv_topi (fun v_6 e_v_6 => ?_))
  obtain ⟨t_v_6, r_v_6⟩ := tq_sub (lo := 0) (hi := 255) r_v_5 rl_1 (by decide +kernel) e_v_6
  have t_v_6 : v_6.toInt = v_5.toInt - 1 := t_v_6
  refine lv_istore (lv' := [(8, .int v_6), (7, .int 0), (6, .int v_5), (5, .int v_4), (0, .ref p0), (1, .int p1), (2, .int p2), (3, .int p3), (4, .int p4)]) hx hb dX9_setsThatSat_27 hl (by decide) rfl (fun ls hl => ?_)
  refine lv_bipush (v := 8) hx hb dX9_setsThatSat_29 (by decide) ?_
  refine newaC (atype := .int) (ty := .int) (N' := 8) (a0 := (8, .inl (fun _ => 0))) hx hb (hts _ tw_159) rfl (fun C h => by cases h) hK hw.2.1 hw.2.2.1 hw.2.2.2.1 hA 1 rfl (fun _ => rfl) (by decide) (by decide) (by decide) (Nat.le_of_ble_eq_true rfl) (Nat.le_of_ble_eq_true rfl) dX9_setsThatSat_31 (fun q_7 H hP9 hD9 hS9 => ?_)
  have hw := WD.app (X := [(q_7, 13)]) (wx := [(q_7, .inl (cy 1, 8, .inl (fun _ => 0)))]) hw ⟨⟨rfl, z_arr (fun _ => 0) (fun j9 _ => (by show (-2147483648 : Int) ≤ (0 : Int32).toInt ∧ (0 : Int32).toInt ≤ 2147483647; decide)) trivial⟩, trivial⟩ hP9 hD9 hS9
  obtain ⟨Pn, hPn⟩ : ∃ q9 : PSI, q9 = Ps ++ [(q_7, 13)] := ⟨_, rfl⟩
  have hup : ∀ x9 ∈ Ps, x9 ∈ Pn := fun x9 h9 => by rw [hPn]; exact List.mem_append_left _ h9
  obtain ⟨ws, hws⟩ : ∃ q9 : va_W, q9 = w0 ++ [(q_7, .inl (cy 1, 8, .inl (fun _ => 0)))] := ⟨_, rfl⟩
  rw [← hPn, ← hws] at hw
  have h_p0 := hup _ h_p0
  have h_vu_1 := hup _ h_vu_1
  have h_vu_2 := hup _ h_vu_2
  have h_vu_3 := hup _ h_vu_3
  have h_q_7 : (q_7, 13) ∈ Pn := by rw [hPn]; exact List.mem_append_right _ (by simp)
  refine W.widen (k := 1) (n := 8) (Nat.le_of_ble_eq_true rfl) (Nat.le_of_ble_eq_true rfl) ?_
  have B60 : ∀ (nf : Nat) (x5 : Int32) (x6 : Int32) (x7 : Int32) (x8 : Int32) (x9 : Nat) (x10 : Int32) (ws : va_W) (H : Heap) (locs : List Loc) (ls : Array Slot), 256 - x10.toInt < (nf : Int) → RI p1 0 5 → RI p2 1 30 → RI p3 (-1) 5 → RI p4 (-2147483648) 2147483647 → RI x5 0 8 → RI x6 1 256 → RI x7 (-2147483648) 2147483647 → RI x8 0 255 → (x9, 13) ∈ Pn → RI x10 0 256 → WD D cy GG A s wr_X9_setsThatSat wa_X9_setsThatSat Ps w0 Pn ws H locs → lv_has ls 12 [(0, .ref p0), (1, .int p1), (2, .int p2), (3, .int p3), (4, .int p4), (5, .int x5), (6, .int x6), (7, .int x7), (8, .int x8), (9, .ref x9), (10, .int x10)] → W p l e (headSpec (Cond.code yX9_setsThatSat cX9_setsThatSat 12 (some .int) :: gT) ({ frames := 3, cells := 1, slots := 8, locals := 600 } : Room)).room s m ([.ref p0, .int p1, .int p2, .int p3, .int p4] : List Value).toArray below meth c H locs 1 8 Q (F0 m 60 ls []) := by
    intro nf60
    induction nf60 with
    | zero =>
      intro x5 x6 x7 x8 x9 x10 ws H locs ls hn60 r_p1 r_p2 r_p3 r_p4 r_x5 r_x6 r_x7 r_x8 h_x9 r_x10 hw hl
      exact absurd hn60 (by have q0 := r_x10.1; have u0 := r_x10.2; omega)
    | succ nf60 ih60 =>
      have B130 : ∀ (nf : Nat) (x5 : Int32) (x6 : Int32) (x7 : Int32) (x8 : Int32) (x9 : Nat) (x10 : Int32) (x11 : Int32) (ws : va_W) (H : Heap) (locs : List Loc) (ls : Array Slot), 8 - x11.toInt < (nf : Int) → RI p1 0 5 → RI p2 1 30 → RI p3 (-1) 5 → RI p4 (-2147483648) 2147483647 → RI x5 0 8 → RI x6 1 256 → RI x7 (-2147483648) 2147483647 → RI x8 0 255 → (x9, 13) ∈ Pn → RI x10 0 255 → RI x11 0 8 → 256 - x10.toInt < ((nf60 + 1 : Nat) : Int) → WD D cy GG A s wr_X9_setsThatSat wa_X9_setsThatSat Ps w0 Pn ws H locs → lv_has ls 12 [(0, .ref p0), (1, .int p1), (2, .int p2), (3, .int p3), (4, .int p4), (5, .int x5), (6, .int x6), (7, .int x7), (8, .int x8), (9, .ref x9), (10, .int x10), (11, .int x11)] → W p l e (headSpec (Cond.code yX9_setsThatSat cX9_setsThatSat 12 (some .int) :: gT) ({ frames := 3, cells := 1, slots := 8, locals := 600 } : Room)).room s m ([.ref p0, .int p1, .int p2, .int p3, .int p4] : List Value).toArray below meth c H locs 1 8 Q (F0 m 130 ls []) := by
        intro nf130
        induction nf130 with
        | zero =>
          intro x5 x6 x7 x8 x9 x10 x11 ws H locs ls hn130 r_p1 r_p2 r_p3 r_p4 r_x5 r_x6 r_x7 r_x8 h_x9 r_x10 r_x11 hn60 hw hl
          exact absurd hn130 (by have q0 := r_x11.1; have u0 := r_x11.2; omega)
        | succ nf130 ih130 =>
          intro x5 x6 x7 x8 x9 x10 x11 ws H locs ls hn130 r_p1 r_p2 r_p3 r_p4 r_x5 r_x6 r_x7 r_x8 h_x9 r_x10 r_x11 hn60 hw hl
          refine lv_iload hx hb dX9_setsThatSat_130 (lv_at hl 11 rfl) ?_
          refine lv_iload hx hb dX9_setsThatSat_132 (lv_at hl 5 rfl) ?_
          refine lv_icmp_ge (tgt := 158) hx hb dX9_setsThatSat_134 (by decide) (fun c_134 => ?_) (fun c_134 => ?_)
          · obtain ⟨v_8, e_v_8⟩ : ∃ q9 : Int32, q9 = x10 + Int32.ofInt 1 := ⟨_, rfl⟩
            obtain ⟨t_v_8, r_v_8⟩ := tq_add (lo := 1) (hi := 256) r_x10 (show RI (Int32.ofInt 1) 1 1 by unfold RI; decide +kernel) (by decide +kernel) e_v_8
            have t_v_8 : v_8.toInt = x10.toInt + 1 := t_v_8
            refine lv_iinc (v := v_8) (lv' := [(10, .int v_8), (0, .ref p0), (1, .int p1), (2, .int p2), (3, .int p3), (4, .int p4), (5, .int x5), (6, .int x6), (7, .int x7), (8, .int x8), (9, .ref x9), (11, .int x11)]) hx hb dX9_setsThatSat_158 hl (k := 10) rfl e_v_8.symm (by decide) rfl (fun ls hl => ?_)
            refine lv_goto (tgt := 60) hx hb dX9_setsThatSat_161 (by decide) ?_
            exact ih60 x5 x6 x7 x8 x9 v_8 ws _ _ ls (by have q0 := r_v_8.1; have u0 := r_v_8.2; have o0 := r_x10.1; have p0 := r_x10.2; omega) r_p1 r_p2 r_p3 r_p4 r_x5 r_x6 r_x7 r_x8 h_x9 (r_v_8.to (by decide)) hw (lv_sub hl [1, 2, 3, 4, 5, 6, 7, 8, 9, 10, 0] rfl)
          · have r_x11 : RI x11 0 7 := rc_lt1 r_x11 r_x5 (ti_nle c_134) (by decide)
            have r_x5 : RI x5 1 8 := rc_lt2 r_x11 r_x5 (ti_nle c_134) (by decide)
            refine lv_aload hx hb dX9_setsThatSat_137 (lv_at hl 9 rfl) ?_
            refine lv_iload hx hb dX9_setsThatSat_139 (lv_at hl 11 rfl) ?_
            refine lv_dup2_11 hx hb dX9_setsThatSat_141 rfl rfl ?_
            refine tg_iald (lo := (-2147483648)) (hi := 2147483647) hx hb hK hw h_x9 rfl 0 7 r_x11 (by decide) (by exact fun _ _ _ => ⟨Int.le_refl _, Int.le_refl _⟩) dX9_setsThatSat_142 (fun v_9 r_v_9 m_v_9 o_v_9 => ?_)
            refine lv_iload hx hb dX9_setsThatSat_143 (lv_at hl 10 rfl) ?_
            refine lv_iload hx hb dX9_setsThatSat_145 (lv_at hl 11 rfl) ?_
            refine lv_ishr hx hb dX9_setsThatSat_147 (lv_topi (fun v_10 e_v_10 => ?_))
            have r_v_10 := ri_any v_10
            refine lv_iconst (v := 1) hx hb dX9_setsThatSat_148 (by decide) ?_
            refine lv_iand hx hb dX9_setsThatSat_149 (lv_topi (fun v_11 e_v_11 => ?_))
            have r_v_11 : RI v_11 0 1 := by rw [e_v_11]; exact ri_and (d := 1) (rl_1.to (by decide)) (by decide)
            refine lv_iadd hx hb dX9_setsThatSat_150 (lv_topi (fun v_12 e_v_12 => ?_))
            have r_v_12 := ri_any v_12
            refine tg_iast hx hb hK hw h_x9 rfl 0 7 r_x11 (by decide) r_v_12 (by exact fun _ _ _ => by decide) (fun _ _ _ _ _ => trivial) (by decide) dX9_setsThatSat_151 (fun ws H locs hw hF9 hU9 => ?_)
            obtain ⟨v_13, e_v_13⟩ : ∃ q9 : Int32, q9 = x11 + Int32.ofInt 1 := ⟨_, rfl⟩
            obtain ⟨t_v_13, r_v_13⟩ := tq_add (lo := 1) (hi := 8) r_x11 (show RI (Int32.ofInt 1) 1 1 by unfold RI; decide +kernel) (by decide +kernel) e_v_13
            have t_v_13 : v_13.toInt = x11.toInt + 1 := t_v_13
            refine lv_iinc (v := v_13) (lv' := [(11, .int v_13), (0, .ref p0), (1, .int p1), (2, .int p2), (3, .int p3), (4, .int p4), (5, .int x5), (6, .int x6), (7, .int x7), (8, .int x8), (9, .ref x9), (10, .int x10)]) hx hb dX9_setsThatSat_152 hl (k := 11) rfl e_v_13.symm (by decide) rfl (fun ls hl => ?_)
            refine lv_goto (tgt := 130) hx hb dX9_setsThatSat_155 (by decide) ?_
            exact ih130 x5 x6 x7 x8 x9 x10 v_13 ws _ _ ls (by have q0 := r_v_13.1; have u0 := r_v_13.2; have o0 := r_x11.1; have p0 := r_x11.2; omega) r_p1 r_p2 r_p3 r_p4 (r_x5.to (by decide)) r_x6 r_x7 r_x8 h_x9 r_x10 (r_v_13.to (by decide)) (by have q0 := r_x10.1; have u0 := r_x10.2; omega) hw (lv_sub hl [1, 2, 3, 4, 5, 6, 7, 8, 9, 10, 11, 0] rfl)
      intro x5 x6 x7 x8 x9 x10 ws H locs ls hn60 r_p1 r_p2 r_p3 r_p4 r_x5 r_x6 r_x7 r_x8 h_x9 r_x10 hw hl
      refine lv_iload hx hb dX9_setsThatSat_60 (lv_at hl 10 rfl) ?_
      refine lv_iload hx hb dX9_setsThatSat_62 (lv_at hl 6 rfl) ?_
      refine lv_icmp_ge (tgt := 164) hx hb dX9_setsThatSat_64 (by decide) (fun c_64 => ?_) (fun c_64 => ?_)
      · have r_x10 : RI x10 1 256 := rc_le2 r_x6 r_x10 (ti_le c_64) (by decide)
        refine lv_iload hx hb dX9_setsThatSat_164 (lv_at hl 7 rfl) ?_
        refine lv_if_le (tgt := 188) hx hb dX9_setsThatSat_166 (by decide) (fun c_166 => ?_) (fun c_166 => ?_)
        · have r_x7 : RI x7 (-2147483648) 0 := rc_le1 r_x7 rl_0 (ti_le c_166) (by decide)
          refine lv_iload hx hb dX9_setsThatSat_188 (lv_at hl 7 rfl) ?_
          subst hQ
          exact W.iret (v := x7) hx hb hr (fun t ht hW => ⟨⟨x7, (Pn, ws), rfl, ⟨⟨r_x7.to (by decide), (fun h0 => trivial), (fun h0 => trivial)⟩, hw.2.2.2.2.2.2, hw.1, hw.2.2.2.2.1⟩, by rw [ht]; exact hw.2.1, va_K.moved hW.alike hK, hw.2.2.1⟩, hw.2.2.2.1.F ht⟩) hw.2.2.2.1.2.2 dX9_setsThatSat_190
        · have r_x7 : RI x7 1 2147483647 := rc_lt2 rl_0 r_x7 (ti_nle c_166) (by decide)
          refine lv_aload_n hx hb dX9_setsThatSat_169 rfl (lv_at hl 0 rfl) ?_
          refine lv_iload hx hb dX9_setsThatSat_170 (lv_at hl 8 rfl) ?_
          refine tg_put (ci := 9) (ts := ty_WP) (v := .int x8) (ty := .int) (C := RX9) (T := TX9) (N := 15) hx hb hts inX9 tyX9 tyX9_ok nmX9 hown hK hw h_p0 rfl rfl 13 (by decide) (hts _ tw_359) (fun _ h9 => h9) rfl (by decide +kernel) rfl rfl (ft := vI (-2147483648) 2147483647) rfl ⟨_, rfl, (r_x8.to (by decide))⟩ (by decide) dX9_setsThatSat_172 (fun ws H locs hw n_k_14 hF9 => ?_)
          refine lv_aload_n hx hb dX9_setsThatSat_175 rfl (lv_at hl 0 rfl) ?_
          refine lv_aload hx hb dX9_setsThatSat_176 (lv_at hl 9 rfl) ?_
          refine lv_iload hx hb dX9_setsThatSat_178 (lv_at hl 5 rfl) ?_
          refine lv_iload hx hb dX9_setsThatSat_180 (lv_at hl 7 rfl) ?_
          refine tk_ir (va_runS (As := [.ref x9, .int x5, .int x7]) (rest := [.ref p0]) ⟨hx, hb, hml, hown, hts⟩ (c_X9_nearestToHalf l D cy z H.size Pn ws hw.1 x9 x5 x7 h_x9 r_x5 (r_x7.to (by decide))) (va_cwS 3 hts (gS tw_765 tw_766 tw_1 tw_767) rfl rfl rfl (by decide +kernel) ⟨Nat.le_of_ble_eq_true rfl, Nat.le_of_ble_eq_true rfl⟩) (tg_preS hw hK hSD hA) rfl rfl hl.1 rfl (lv_room (Nat.le_of_ble_eq_true rfl)) dX9_setsThatSat_182 ⟨Nat.le_of_ble_eq_true rfl, Nat.le_of_ble_eq_true rfl⟩) hw hA (fun v_15  H locs hp_v_15 hw => ?_)
          have r_v_15 : RI v_15 (-1) 7 := hp_v_15.1
          refine tg_put (ci := 9) (ts := ty_WP) (v := .int v_15) (ty := .int) (C := RX9) (T := TX9) (N := 15) hx hb hts inX9 tyX9 tyX9_ok nmX9 hown hK hw h_p0 rfl rfl 14 (by decide) (hts _ tw_360) (fun _ h9 => h9) rfl (by decide +kernel) rfl rfl (ft := vI (-2147483648) 2147483647) rfl ⟨_, rfl, (r_v_15.to (by decide))⟩ (by decide) dX9_setsThatSat_185 (fun ws H locs hw n_k_16 hF9 => ?_)
          have n_k_14 := FLD.over hF9 n_k_14 (by decide)
          refine lv_iload hx hb dX9_setsThatSat_188 (lv_at hl 7 rfl) ?_
          subst hQ
          exact W.iret (v := x7) hx hb hr (fun t ht hW => ⟨⟨x7, (Pn, ws), rfl, ⟨⟨r_x7.to (by decide), (fun _ => trivial), (fun h0 => trivial)⟩, hw.2.2.2.2.2.2, hw.1, hw.2.2.2.2.1⟩, by rw [ht]; exact hw.2.1, va_K.moved hW.alike hK, hw.2.2.1⟩, hw.2.2.2.1.F ht⟩) hw.2.2.2.1.2.2 dX9_setsThatSat_190
      · have r_x10 : RI x10 0 255 := rc_lt1 r_x10 r_x6 (ti_nle c_64) (by decide)
        refine lv_aload_n hx hb dX9_setsThatSat_67 rfl (lv_at hl 0 rfl) ?_
        refine tg_get (ci := 9) (ts := ty_WP) (C := RX9) (T := TX9) (N := 15) hx hb hts inX9 hown hK hw h_p0 rfl rfl 2 (by decide) (hts _ tw_348) (fun _ h9 => h9) (ft := vR 24) rfl dX9_setsThatSat_68 (fun u_17 hv_u_17 m_u_17 => ?_)
        obtain ⟨vu_17, rfl, h_vu_17⟩ := hv_u_17
        refine lv_iload hx hb dX9_setsThatSat_71 (lv_at hl 10 rfl) ?_
        refine lv_iload_n hx hb dX9_setsThatSat_73 rfl (lv_at hl 1 rfl) ?_
        refine lv_aload_n hx hb dX9_setsThatSat_74 rfl (lv_at hl 0 rfl) ?_
        refine tg_mem (ci := 9) (C := RX9) (T := TX9) (N := 15) hx hb hts inX9 hown hK hw 2 m_u_17 rfl (by decide) (hts _ tw_348) (fun _ h9 => h9) dX9_setsThatSat_75 ?_
        refine tk_v (va_runV (As := [.int x10, .int p1, .ref vu_17]) (rest := []) ⟨hx, hb, hml, hown, hts⟩ (c_X8_seatJust l D cy z H.size Pn ws hw.1 vu_17 x10 p1 vu_17 h_vu_17 (r_x10.to (by decide)) r_p1 h_vu_17) (cwV 3 hts (gV tw_744 tw_745 tw_746 tw_12 tw_747) rfl rfl rfl (by decide +kernel) ⟨Nat.le_of_ble_eq_true rfl, Nat.le_of_ble_eq_true rfl⟩) (tg_preV hw hK hSD hA (ci := 8) (q := (RX8, TX8, 13)) rfl h_vu_17 rfl) rfl rfl hl.1 rfl (lv_room (Nat.le_of_ble_eq_true rfl)) dX9_setsThatSat_78 ⟨Nat.le_of_ble_eq_true rfl, Nat.le_of_ble_eq_true rfl⟩) hw hA ⟨by decide, by decide⟩ (fun ws H locs hp_v_18 hw hF9 => ?_)
        refine lv_aload_n hx hb dX9_setsThatSat_81 rfl (lv_at hl 0 rfl) ?_
        refine tg_get (ci := 9) (ts := ty_WP) (C := RX9) (T := TX9) (N := 15) hx hb hts inX9 hown hK hw h_p0 rfl rfl 2 (by decide) (hts _ tw_348) (fun _ h9 => h9) (ft := vR 24) rfl dX9_setsThatSat_82 (fun u_19 hv_u_19 m_u_19 => ?_)
        obtain ⟨vu_19, rfl, h_vu_19⟩ := hv_u_19
        refine lv_iload_n hx hb dX9_setsThatSat_85 rfl (lv_at hl 1 rfl) ?_
        refine tk_i (va_runV (As := [.int p1]) (rest := []) ⟨hx, hb, hml, hown, hts⟩ (c_X8_reckonGain l D cy z H.size Pn ws hw.1 vu_19 p1 h_vu_19 r_p1) (cwV 1 hts (gV tw_727 tw_690 tw_691 tw_12 tw_692) rfl rfl rfl (by decide +kernel) ⟨Nat.le_of_ble_eq_true rfl, Nat.le_of_ble_eq_true rfl⟩) (tg_preV hw hK hSD hA (ci := 8) (q := (RX8, TX8, 13)) rfl h_vu_19 rfl) rfl rfl hl.1 rfl (lv_room (Nat.le_of_ble_eq_true rfl)) dX9_setsThatSat_86 ⟨Nat.le_of_ble_eq_true rfl, Nat.le_of_ble_eq_true rfl⟩) hw hA ⟨by decide, by decide⟩ (fun v_20 ws H locs hp_v_20 hw hF9 => ?_)
        have r_v_20 : RI v_20 0 1 := hp_v_20.1
        refine lv_pop hx hb dX9_setsThatSat_89 rfl ?_
        refine lv_aload_n hx hb dX9_setsThatSat_90 rfl (lv_at hl 0 rfl) ?_
        refine tg_get (ci := 9) (ts := ty_WP) (C := RX9) (T := TX9) (N := 15) hx hb hts inX9 hown hK hw h_p0 rfl rfl 2 (by decide) (hts _ tw_348) (fun _ h9 => h9) (ft := vR 24) rfl dX9_setsThatSat_91 (fun u_21 hv_u_21 m_u_21 => ?_)
        obtain ⟨vu_21, rfl, h_vu_21⟩ := hv_u_21
        refine lv_iload_n hx hb dX9_setsThatSat_94 rfl (lv_at hl 1 rfl) ?_
        refine lv_iload_n hx hb dX9_setsThatSat_95 rfl (lv_at hl 2 rfl) ?_
        refine tk_ir (va_runV (As := [.int p1, .int p2]) (rest := []) ⟨hx, hb, hml, hown, hts⟩ (c_X8_becomes l D cy z H.size Pn ws hw.1 vu_21 p1 p2 h_vu_21 r_p1 (r_p2.to (by decide))) (cwV 2 hts (gV tw_728 tw_574 tw_575 tw_12 tw_576) rfl rfl rfl (by decide +kernel) ⟨Nat.le_of_ble_eq_true rfl, Nat.le_of_ble_eq_true rfl⟩) (tg_preV hw hK hSD hA (ci := 8) (q := (RX8, TX8, 13)) rfl h_vu_21 rfl) rfl rfl hl.1 rfl (lv_room (Nat.le_of_ble_eq_true rfl)) dX9_setsThatSat_96 ⟨Nat.le_of_ble_eq_true rfl, Nat.le_of_ble_eq_true rfl⟩) hw hA (fun v_22  H locs hp_v_22 hw => ?_)
        have r_v_22 : RI v_22 (-1) 5 := hp_v_22.1
        refine lv_iload_n hx hb dX9_setsThatSat_99 rfl (lv_at hl 3 rfl) ?_
        refine lv_icmp_ne (tgt := 158) hx hb dX9_setsThatSat_100 (by decide) (fun c_100 => ?_) (fun c_100 => ?_)
        · obtain ⟨v_23, e_v_23⟩ : ∃ q9 : Int32, q9 = x10 + Int32.ofInt 1 := ⟨_, rfl⟩
          obtain ⟨t_v_23, r_v_23⟩ := tq_add (lo := 1) (hi := 256) r_x10 (show RI (Int32.ofInt 1) 1 1 by unfold RI; decide +kernel) (by decide +kernel) e_v_23
          have t_v_23 : v_23.toInt = x10.toInt + 1 := t_v_23
          refine lv_iinc (v := v_23) (lv' := [(10, .int v_23), (0, .ref p0), (1, .int p1), (2, .int p2), (3, .int p3), (4, .int p4), (5, .int x5), (6, .int x6), (7, .int x7), (8, .int x8), (9, .ref x9)]) hx hb dX9_setsThatSat_158 hl (k := 10) rfl e_v_23.symm (by decide) rfl (fun ls hl => ?_)
          refine lv_goto (tgt := 60) hx hb dX9_setsThatSat_161 (by decide) ?_
          exact ih60 x5 x6 x7 x8 x9 v_23 ws _ _ ls (by have q0 := r_v_23.1; have u0 := r_v_23.2; have o0 := r_x10.1; have p0 := r_x10.2; omega) r_p1 r_p2 r_p3 r_p4 r_x5 r_x6 r_x7 r_x8 h_x9 (r_v_23.to (by decide)) hw (lv_sub hl [1, 2, 3, 4, 5, 6, 7, 8, 9, 10, 0] rfl)
        · refine lv_aload_n hx hb dX9_setsThatSat_103 rfl (lv_at hl 0 rfl) ?_
          refine tg_mem (ci := 9) (C := RX9) (T := TX9) (N := 15) hx hb hts inX9 hown hK hw 2 m_u_21 rfl (by decide) (hts _ tw_348) (fun _ h9 => h9) dX9_setsThatSat_104 ?_
          refine lv_iload_n hx hb dX9_setsThatSat_107 rfl (lv_at hl 1 rfl) ?_
          refine lv_iload_n hx hb dX9_setsThatSat_108 rfl (lv_at hl 2 rfl) ?_
          refine tk_ir (va_runV (As := [.int p1, .int p2]) (rest := []) ⟨hx, hb, hml, hown, hts⟩ (c_X8_bulgesMore l D cy z H.size Pn ws hw.1 vu_21 p1 p2 h_vu_21 r_p1 (r_p2.to (by decide))) (cwV 2 hts (gV tw_764 tw_702 tw_703 tw_12 tw_704) rfl rfl rfl (by decide +kernel) ⟨Nat.le_of_ble_eq_true rfl, Nat.le_of_ble_eq_true rfl⟩) (tg_preV hw hK hSD hA (ci := 8) (q := (RX8, TX8, 13)) rfl h_vu_21 rfl) rfl rfl hl.1 rfl (lv_room (Nat.le_of_ble_eq_true rfl)) dX9_setsThatSat_109 ⟨Nat.le_of_ble_eq_true rfl, Nat.le_of_ble_eq_true rfl⟩) hw hA (fun v_24  H locs hp_v_24 hw => ?_)
          have r_v_24 : RI v_24 (-2147483648) 2147483647 := hp_v_24.1
          refine lv_iload hx hb dX9_setsThatSat_112 (lv_at hl 4 rfl) ?_
          refine lv_icmp_ne (tgt := 158) hx hb dX9_setsThatSat_114 (by decide) (fun c_114 => ?_) (fun c_114 => ?_)
          · obtain ⟨v_25, e_v_25⟩ : ∃ q9 : Int32, q9 = x10 + Int32.ofInt 1 := ⟨_, rfl⟩
            obtain ⟨t_v_25, r_v_25⟩ := tq_add (lo := 1) (hi := 256) r_x10 (show RI (Int32.ofInt 1) 1 1 by unfold RI; decide +kernel) (by decide +kernel) e_v_25
            have t_v_25 : v_25.toInt = x10.toInt + 1 := t_v_25
            refine lv_iinc (v := v_25) (lv' := [(10, .int v_25), (0, .ref p0), (1, .int p1), (2, .int p2), (3, .int p3), (4, .int p4), (5, .int x5), (6, .int x6), (7, .int x7), (8, .int x8), (9, .ref x9)]) hx hb dX9_setsThatSat_158 hl (k := 10) rfl e_v_25.symm (by decide) rfl (fun ls hl => ?_)
            refine lv_goto (tgt := 60) hx hb dX9_setsThatSat_161 (by decide) ?_
            exact ih60 x5 x6 x7 x8 x9 v_25 ws _ _ ls (by have q0 := r_v_25.1; have u0 := r_v_25.2; have o0 := r_x10.1; have p0 := r_x10.2; omega) r_p1 r_p2 r_p3 r_p4 r_x5 r_x6 r_x7 r_x8 h_x9 (r_v_25.to (by decide)) hw (lv_sub hl [1, 2, 3, 4, 5, 6, 7, 8, 9, 10, 0] rfl)
          · obtain ⟨v_26, e_v_26⟩ : ∃ q9 : Int32, q9 = x7 + Int32.ofInt 1 := ⟨_, rfl⟩
            have r_v_26 := ri_any v_26
            refine lv_iinc (v := v_26) (lv' := [(7, .int v_26), (0, .ref p0), (1, .int p1), (2, .int p2), (3, .int p3), (4, .int p4), (5, .int x5), (6, .int x6), (8, .int x8), (9, .ref x9), (10, .int x10)]) hx hb dX9_setsThatSat_117 hl (k := 7) rfl e_v_26.symm (by decide) rfl (fun ls hl => ?_)
            refine lv_iload hx hb dX9_setsThatSat_120 (lv_at hl 8 rfl) ?_
            refine lv_iload hx hb dX9_setsThatSat_122 (lv_at hl 10 rfl) ?_
            refine lv_iand hx hb dX9_setsThatSat_124 (lv_topi (fun v_27 e_v_27 => ?_))
            have r_v_27 : RI v_27 0 255 := by rw [e_v_27]; exact ri_and (d := 255) (r_x10.to (by decide)) (by decide)
            refine lv_istore (lv' := [(8, .int v_27), (7, .int v_26), (0, .ref p0), (1, .int p1), (2, .int p2), (3, .int p3), (4, .int p4), (5, .int x5), (6, .int x6), (9, .ref x9), (10, .int x10)]) hx hb dX9_setsThatSat_125 hl (by decide) rfl (fun ls hl => ?_)
            refine lv_iconst (v := 0) hx hb dX9_setsThatSat_127 (by decide) ?_
            refine lv_istore (lv' := [(11, .int 0), (8, .int v_27), (7, .int v_26), (0, .ref p0), (1, .int p1), (2, .int p2), (3, .int p3), (4, .int p4), (5, .int x5), (6, .int x6), (9, .ref x9), (10, .int x10)]) hx hb dX9_setsThatSat_128 hl (by decide) rfl (fun ls hl => ?_)
            exact B130 4294967298 x5 x6 v_26 v_27 x9 x10 0 ws _ _ ls (by have q0 := rl_0.1; have u0 := rl_0.2; omega) r_p1 r_p2 r_p3 r_p4 r_x5 r_x6 r_v_26 r_v_27 h_x9 r_x10 (rl_0.to (by decide)) (by have q0 := r_x10.1; have u0 := r_x10.2; omega) hw (lv_sub hl [3, 4, 5, 6, 7, 8, 9, 2, 1, 10, 11, 0] rfl)
  refine lv_astore (lv' := [(9, .ref q_7), (8, .int v_6), (7, .int 0), (6, .int v_5), (5, .int v_4), (0, .ref p0), (1, .int p1), (2, .int p2), (3, .int p3), (4, .int p4)]) hx hb dX9_setsThatSat_33 hl (by decide) rfl (fun ls hl => ?_)
  refine lv_aload_n hx hb dX9_setsThatSat_35 rfl (lv_at hl 5 rfl) ?_
  refine tg_get (ci := 9) (ts := ty_WP) (C := RX9) (T := TX9) (N := 15) hx hb hts inX9 hown hK hw h_p0 rfl rfl 2 (by decide) (hts _ tw_348) (fun _ h9 => h9) (ft := vR 24) rfl dX9_setsThatSat_36 (fun u_28 hv_u_28 m_u_28 => ?_)
  obtain ⟨vu_28, rfl, h_vu_28⟩ := hv_u_28
  refine lv_aload_n hx hb dX9_setsThatSat_39 rfl (lv_at hl 5 rfl) ?_
  refine tg_get (ci := 9) (ts := ty_WP) (C := RX9) (T := TX9) (N := 15) hx hb hts inX9 hown hK hw h_p0 rfl rfl 1 (by decide) (hts _ tw_347) (fun _ h9 => h9) (ft := vR 24) rfl dX9_setsThatSat_40 (fun u_29 hv_u_29 m_u_29 => ?_)
  obtain ⟨vu_29, rfl, h_vu_29⟩ := hv_u_29
  refine tk_v (va_runV (As := [.ref vu_29]) (rest := []) ⟨hx, hb, hml, hown, hts⟩ (c_X8_takeFrom l D cy z H.size Pn ws hw.1 vu_28 vu_29 h_vu_28 h_vu_29) (cwV 1 hts (gV tw_521 tw_522 tw_523 tw_12 tw_524) rfl rfl rfl (by decide +kernel) ⟨Nat.le_of_ble_eq_true rfl, Nat.le_of_ble_eq_true rfl⟩) (tg_preV hw hK hSD hA (ci := 8) (q := (RX8, TX8, 13)) rfl h_vu_28 rfl) rfl rfl hl.1 rfl (lv_room (Nat.le_of_ble_eq_true rfl)) dX9_setsThatSat_43 ⟨Nat.le_of_ble_eq_true rfl, Nat.le_of_ble_eq_true rfl⟩) hw hA ⟨by decide, by decide⟩ (fun ws H locs hp_v_30 hw hF9 => ?_)
  refine lv_aload_n hx hb dX9_setsThatSat_46 rfl (lv_at hl 5 rfl) ?_
  refine tg_get (ci := 9) (ts := ty_WP) (C := RX9) (T := TX9) (N := 15) hx hb hts inX9 hown hK hw h_p0 rfl rfl 2 (by decide) (hts _ tw_348) (fun _ h9 => h9) (ft := vR 24) rfl dX9_setsThatSat_47 (fun u_31 hv_u_31 m_u_31 => ?_)
  obtain ⟨vu_31, rfl, h_vu_31⟩ := hv_u_31
  refine tg_getN (ci := 8) (ts := ty_WORLD) (C := RX8) (T := TX8) (N := 13) hx hb hts inX8 hown hK hw h_vu_31 rfl rfl 8 (by decide) (hSD.nest tn_269) (fun _ h9 => h9) (ft := vR 12) rfl dX9_setsThatSat_50 (fun u_32 hv_u_32 m_u_32 => ?_)
  obtain ⟨vu_32, rfl, h_vu_32⟩ := hv_u_32
  refine lv_iconst (v := (-1)) hx hb dX9_setsThatSat_53 (by decide) ?_
  refine tk_v (va_runS (As := [.ref vu_32, .int (-1)]) (rest := []) ⟨hx, hb, hml, hown, hts⟩ (c_J7_fill_53178__4 l D cy z H.size Pn ws hw.1 vu_32 (-1) h_vu_32 rl_m1) (va_cwS 2 hts (gS tw_345 tw_167 tw_9 tw_168) rfl rfl rfl (by decide +kernel) ⟨Nat.le_of_ble_eq_true rfl, Nat.le_of_ble_eq_true rfl⟩) (tg_preS hw hK hSD hA) rfl rfl hl.1 rfl (lv_room (Nat.le_of_ble_eq_true rfl)) dX9_setsThatSat_54 ⟨Nat.le_of_ble_eq_true rfl, Nat.le_of_ble_eq_true rfl⟩) hw hA ⟨by decide, by decide⟩ (fun ws H locs hp_v_33 hw hF9 => ?_)
  refine lv_iconst (v := 0) hx hb dX9_setsThatSat_57 (by decide) ?_
  refine lv_istore (lv' := [(10, .int 0), (9, .ref q_7), (8, .int v_6), (7, .int 0), (6, .int v_5), (5, .int v_4), (0, .ref p0), (1, .int p1), (2, .int p2), (3, .int p3), (4, .int p4)]) hx hb dX9_setsThatSat_58 hl (by decide) rfl (fun ls hl => ?_)
  exact B60 4294967298 v_4 v_5 0 v_6 q_7 0 ws _ _ ls (by have q0 := rl_0.1; have u0 := rl_0.2; omega) r_p1 r_p2 r_p3 r_p4 r_v_4 r_v_5 (rl_0.to (by decide)) r_v_6 h_q_7 (rl_0.to (by decide)) hw (lv_sub hl [6, 7, 8, 9, 10, 5, 4, 3, 2, 1, 0] rfl)
abbrev wr_X9_sat : List (Nat × Nat) := [(7, 2), (8, 0), (8, 1), (9, 13), (9, 14)]
abbrev wa_X9_sat : List Nat := [8, 9, 10, 11, 12, 13, 14]
set_option maxHeartbeats 4000000 in
set_option maxRecDepth 100000 in
theorem c_X9_sat (l : Launch) (D : va_G) (cy : Nat → ClassId) (z : Nat → Nat) (sz : Nat) (Ps : PSI) (w0 : va_W) (hT : HT cy GG Ps w0) (p0 : Nat) (h_p0 : (p0, 33) ∈ Ps) : Met l yX9_sat (Cond.code yX9_sat cX9_sat 6 (some .int) :: gT) ({ frames := 4, cells := 1, slots := 8, locals := 800 } : Room) (va_Pc [.ref p0] (PRE D cy z w0 sz)) (va_Qi (fun (r : Int32) (u : PSI × va_W) => (RI r (-2147483648) 2147483647 ∧ (r = 0 → True) ∧ (¬ r = 0 → True)) ∧ (∃ X, u.1 = Ps ++ X) ∧ HT cy GG u.1 u.2 ∧ FR wr_X9_sat wa_X9_sat Ps w0 u.2) (BB D cy (va_A w0 sz) (fun (u : PSI × va_W) => u.2)) (va_A w0 sz)) 1 8 (va_A w0 sz) := by
  refine Met.ofW (cc := cX9_sat) (maxL := 6) (ret := (some .int)) (by decide) rfl ?_
  intro p e s m args below meth c s₁ B hml hv
  obtain ⟨rfl, hsz, hP, hK, hD0, hSD⟩ := hv
  have hx := B.exec
  have hb := B.bytes
  have hr := B.returns
  have hlocks := B.notSynchronized
  have hts : ∀ w ∈ gT, w.before _ s = true := fun w h => atoms_spec (ws := Cond.code yX9_sat cX9_sat 6 (some .int) :: gT) B.pre w (List.mem_cons_of_mem _ h)
  have hown : s.vm.findClass RX9 = some m.cls := findClass_of_methodNamed B.named
  subst hsz
  have hD := hD0.self (sz := s.heap.size)
  generalize hAe : va_A w0 s.heap.size = A at hD hSD ⊢
  have hA : ∀ q : Nat, s.heap.size ≤ q → A q := fun q h => by rw [← hAe]; exact Or.inr h
  have hl := lv_entry ([.ref p0]) (n := 6) (Nat.le_of_ble_eq_true rfl)
  rw [lg_entry_eq]
  generalize (lg_sl ([.ref p0]) ++ List.replicate (6 - (lg_sl ([.ref p0])).length) Slot.unset).toArray = ls at hl ⊢
  have hl : lv_has ls 6 [(0, .ref p0)] := hl
  refine nameQ (fun Q hQ => ?_)
  have hw : WD D cy GG A s wr_X9_sat wa_X9_sat Ps w0 Ps w0 s.heap [] := ⟨hT, hP, hD, va_S.rf, FR.rf, hT.1, [], (List.append_nil _).symm⟩
  have B16 : ∀ (y0 : Int32) (ws : va_W) (H : Heap) (locs : List Loc) (ls : Array Slot), RI y0 0 1 → WD D cy GG A s wr_X9_sat wa_X9_sat Ps w0 Ps ws H locs → lv_has ls 6 [(0, .ref p0)] → W p l e (headSpec (Cond.code yX9_sat cX9_sat 6 (some .int) :: gT) ({ frames := 4, cells := 1, slots := 8, locals := 800 } : Room)).room s m ([.ref p0] : List Value).toArray below meth c H locs 0 0 Q (F0 m 16 ls [.int y0]) := by
    intro y0 ws H locs ls r_y0 hw hl
    refine lv_istore_n (lv' := [(1, .int y0), (0, .ref p0)]) hx hb dX9_sat_16 rfl hl (by decide) rfl (fun ls hl => ?_)
    refine lv_aload_n hx hb dX9_sat_17 rfl (lv_at hl 1 rfl) ?_
    refine tg_get (ci := 9) (ts := ty_WP) (C := RX9) (T := TX9) (N := 15) hx hb hts inX9 hown hK hw h_p0 rfl rfl 0 (by decide) (hts _ tw_346) (fun _ h9 => h9) (ft := vR 26) rfl dX9_sat_18 (fun u_1 hv_u_1 m_u_1 => ?_)
    obtain ⟨vu_1, rfl, h_vu_1⟩ := hv_u_1
    refine lv_iconst (v := 0) hx hb dX9_sat_21 (by decide) ?_
    refine tk_ir (va_runV (As := [.int 0]) (rest := []) ⟨hx, hb, hml, hown, hts⟩ (c_X7_at l D cy z H.size Ps ws hw.1 vu_1 0 h_vu_1 (rl_0.to (by decide))) (cwV 1 hts (gV tw_756 tw_757 tw_758 tw_2 tw_759) rfl rfl rfl (by decide +kernel) ⟨Nat.le_of_ble_eq_true rfl, Nat.le_of_ble_eq_true rfl⟩) (tg_preV hw hK hSD hA (ci := 7) (q := (RX7, TX7, 12)) rfl h_vu_1 rfl) rfl rfl hl.1 rfl (lv_room (Nat.le_of_ble_eq_true rfl)) dX9_sat_22 ⟨Nat.le_of_ble_eq_true rfl, Nat.le_of_ble_eq_true rfl⟩) hw hA (fun v_2  H locs hp_v_2 hw => ?_)
    have r_v_2 : RI v_2 (-1) 255 := hp_v_2.1
    refine lv_istore_n (lv' := [(2, .int v_2), (1, .int y0), (0, .ref p0)]) hx hb dX9_sat_25 rfl hl (by decide) rfl (fun ls hl => ?_)
    refine lv_aload_n hx hb dX9_sat_26 rfl (lv_at hl 2 rfl) ?_
    refine tg_mem (ci := 9) (C := RX9) (T := TX9) (N := 15) hx hb hts inX9 hown hK hw 0 m_u_1 rfl (by decide) (hts _ tw_346) (fun _ h9 => h9) dX9_sat_27 ?_
    refine lv_iconst (v := 1) hx hb dX9_sat_30 (by decide) ?_
    refine tk_ir (va_runV (As := [.int 1]) (rest := []) ⟨hx, hb, hml, hown, hts⟩ (c_X7_at l D cy z H.size Ps ws hw.1 vu_1 1 h_vu_1 (rl_1.to (by decide))) (cwV 1 hts (gV tw_756 tw_757 tw_758 tw_2 tw_759) rfl rfl rfl (by decide +kernel) ⟨Nat.le_of_ble_eq_true rfl, Nat.le_of_ble_eq_true rfl⟩) (tg_preV hw hK hSD hA (ci := 7) (q := (RX7, TX7, 12)) rfl h_vu_1 rfl) rfl rfl hl.1 rfl (lv_room (Nat.le_of_ble_eq_true rfl)) dX9_sat_31 ⟨Nat.le_of_ble_eq_true rfl, Nat.le_of_ble_eq_true rfl⟩) hw hA (fun v_3  H locs hp_v_3 hw => ?_)
    have r_v_3 : RI v_3 (-1) 255 := hp_v_3.1
    refine lv_istore_n (lv' := [(3, .int v_3), (2, .int v_2), (1, .int y0), (0, .ref p0)]) hx hb dX9_sat_34 rfl hl (by decide) rfl (fun ls hl => ?_)
    refine lv_aload_n hx hb dX9_sat_35 rfl (lv_at hl 3 rfl) ?_
    refine tg_mem (ci := 9) (C := RX9) (T := TX9) (N := 15) hx hb hts inX9 hown hK hw 0 m_u_1 rfl (by decide) (hts _ tw_346) (fun _ h9 => h9) dX9_sat_36 ?_
    refine lv_iconst (v := 2) hx hb dX9_sat_39 (by decide) ?_
    refine tk_ir (va_runV (As := [.int 2]) (rest := []) ⟨hx, hb, hml, hown, hts⟩ (c_X7_at l D cy z H.size Ps ws hw.1 vu_1 2 h_vu_1 (rl_2.to (by decide))) (cwV 1 hts (gV tw_756 tw_757 tw_758 tw_2 tw_759) rfl rfl rfl (by decide +kernel) ⟨Nat.le_of_ble_eq_true rfl, Nat.le_of_ble_eq_true rfl⟩) (tg_preV hw hK hSD hA (ci := 7) (q := (RX7, TX7, 12)) rfl h_vu_1 rfl) rfl rfl hl.1 rfl (lv_room (Nat.le_of_ble_eq_true rfl)) dX9_sat_40 ⟨Nat.le_of_ble_eq_true rfl, Nat.le_of_ble_eq_true rfl⟩) hw hA (fun v_4  H locs hp_v_4 hw => ?_)
    have r_v_4 : RI v_4 (-1) 255 := hp_v_4.1
    refine lv_istore (lv' := [(4, .int v_4), (3, .int v_3), (2, .int v_2), (1, .int y0), (0, .ref p0)]) hx hb dX9_sat_43 hl (by decide) rfl (fun ls hl => ?_)
    refine lv_aload_n hx hb dX9_sat_45 rfl (lv_at hl 4 rfl) ?_
    refine tg_mem (ci := 9) (C := RX9) (T := TX9) (N := 15) hx hb hts inX9 hown hK hw 0 m_u_1 rfl (by decide) (hts _ tw_346) (fun _ h9 => h9) dX9_sat_46 ?_
    refine lv_iconst (v := 3) hx hb dX9_sat_49 (by decide) ?_
    refine tk_ir (va_runV (As := [.int 3]) (rest := []) ⟨hx, hb, hml, hown, hts⟩ (c_X7_at l D cy z H.size Ps ws hw.1 vu_1 3 h_vu_1 (rl_3.to (by decide))) (cwV 1 hts (gV tw_756 tw_757 tw_758 tw_2 tw_759) rfl rfl rfl (by decide +kernel) ⟨Nat.le_of_ble_eq_true rfl, Nat.le_of_ble_eq_true rfl⟩) (tg_preV hw hK hSD hA (ci := 7) (q := (RX7, TX7, 12)) rfl h_vu_1 rfl) rfl rfl hl.1 rfl (lv_room (Nat.le_of_ble_eq_true rfl)) dX9_sat_50 ⟨Nat.le_of_ble_eq_true rfl, Nat.le_of_ble_eq_true rfl⟩) hw hA (fun v_5  H locs hp_v_5 hw => ?_)
    have r_v_5 : RI v_5 (-1) 255 := hp_v_5.1
    refine lv_istore (lv' := [(5, .int v_5), (4, .int v_4), (3, .int v_3), (2, .int v_2), (1, .int y0), (0, .ref p0)]) hx hb dX9_sat_53 hl (by decide) rfl (fun ls hl => ?_)
    refine lv_aload_n hx hb dX9_sat_55 rfl (lv_at hl 5 rfl) ?_
    refine tg_mem (ci := 9) (C := RX9) (T := TX9) (N := 15) hx hb hts inX9 hown hK hw 0 m_u_1 rfl (by decide) (hts _ tw_346) (fun _ h9 => h9) dX9_sat_56 ?_
    refine lv_iconst (v := 0) hx hb dX9_sat_59 (by decide) ?_
    refine tg_putN (ci := 7) (ts := ty_TAPE) (v := .int 0) (ty := .int) (C := RX7) (T := TX7) (N := 12) hx hb hts inX7 tyX7 tyX7_ok nmX7 hown hK hw h_vu_1 rfl rfl 2 (by decide) (hSD.nest tn_90) (fun _ h9 => h9) rfl (by decide +kernel) rfl rfl (ft := vI 0 940) rfl ⟨_, rfl, (rl_0.to (by decide))⟩ (by decide) dX9_sat_60 (fun ws H locs hw n_k_6 hF9 => ?_)
    refine lv_iload_n hx hb dX9_sat_63 rfl (lv_at hl 4 rfl) ?_
    refine lv_if_eq (tgt := 87) hx hb dX9_sat_64 (by decide) (fun c_64 => ?_) (fun c_64 => ?_)
    · have r_y0 : RI y0 0 0 := rc_eq1 r_y0 rl_0 (ti_eq c_64) (by decide)
      refine lv_iconst (v := (-1)) hx hb dX9_sat_87 (by decide) ?_
      refine W.widen (k := 1) (n := 8) (Nat.le_of_ble_eq_true rfl) (Nat.le_of_ble_eq_true rfl) ?_
      subst hQ
      exact W.iret (v := (-1)) hx hb hr (fun t ht hW => ⟨⟨(-1), (Ps, ws), rfl, ⟨⟨rl_m1.to (by decide), (fun _ => trivial), (fun h0 => trivial)⟩, hw.2.2.2.2.2.2, hw.1, hw.2.2.2.2.1⟩, by rw [ht]; exact hw.2.1, va_K.moved hW.alike hK, hw.2.2.1⟩, hw.2.2.2.1.F ht⟩) hw.2.2.2.1.2.2 dX9_sat_88
    · have r_y0 : RI y0 1 1 := rc_neL r_y0 rl_0 (ti_ne c_64) (by decide)
      refine lv_aload_n hx hb dX9_sat_67 rfl (lv_at hl 5 rfl) ?_
      refine lv_iconst (v := 2) hx hb dX9_sat_68 (by decide) ?_
      refine lv_iload_n hx hb dX9_sat_69 rfl (lv_at hl 3 rfl) ?_
      refine tk_ir (va_runV (As := [.int 2, .int v_2]) (rest := []) ⟨hx, hb, hml, hown, hts⟩ (c_X9_isOf l D cy z H.size Ps ws hw.1 p0 2 v_2 h_p0 rl_2 (r_v_2.to (by decide))) (cwV 2 hts (gV tw_540 tw_542 ts_10 tw_1 tw_543) rfl rfl rfl (by decide +kernel) ⟨Nat.le_of_ble_eq_true rfl, Nat.le_of_ble_eq_true rfl⟩) (tg_preV hw hK hSD hA (ci := 9) (q := (RX9, TX9, 15)) rfl h_p0 rfl) rfl rfl hl.1 rfl (lv_room (Nat.le_of_ble_eq_true rfl)) dX9_sat_70 ⟨Nat.le_of_ble_eq_true rfl, Nat.le_of_ble_eq_true rfl⟩) hw hA (fun v_7  H locs hp_v_7 hw => ?_)
      have r_v_7 : RI v_7 0 1 := hp_v_7.1
      refine lv_if_eq (tgt := 87) hx hb dX9_sat_73 (by decide) (fun c_73 => ?_) (fun c_73 => ?_)
      · have r_v_7 : RI v_7 0 0 := rc_eq1 r_v_7 rl_0 (ti_eq c_73) (by decide)
        refine lv_iconst (v := (-1)) hx hb dX9_sat_87 (by decide) ?_
        refine W.widen (k := 1) (n := 8) (Nat.le_of_ble_eq_true rfl) (Nat.le_of_ble_eq_true rfl) ?_
        subst hQ
        exact W.iret (v := (-1)) hx hb hr (fun t ht hW => ⟨⟨(-1), (Ps, ws), rfl, ⟨⟨rl_m1.to (by decide), (fun _ => trivial), (fun h0 => trivial)⟩, hw.2.2.2.2.2.2, hw.1, hw.2.2.2.2.1⟩, by rw [ht]; exact hw.2.1, va_K.moved hW.alike hK, hw.2.2.1⟩, hw.2.2.2.1.F ht⟩) hw.2.2.2.1.2.2 dX9_sat_88
      · have r_v_7 : RI v_7 1 1 := rc_neL r_v_7 rl_0 (ti_ne c_73) (by decide)
        have r_v_2 : RI v_2 0 5 := ((hp_v_7.2.2 c_73).1)
        refine lv_iload_n hx hb dX9_sat_76 rfl (lv_at hl 2 rfl) ?_
        refine lv_iconst (v := 1) hx hb dX9_sat_77 (by decide) ?_
        refine lv_icmp_lt (tgt := 87) hx hb dX9_sat_78 (by decide) (fun c_78 => ?_) (fun c_78 => ?_)
        · have r_v_3 : RI v_3 (-1) 0 := rc_lt1 r_v_3 rl_1 (ti_lt c_78) (by decide)
          refine lv_iconst (v := (-1)) hx hb dX9_sat_87 (by decide) ?_
          refine W.widen (k := 1) (n := 8) (Nat.le_of_ble_eq_true rfl) (Nat.le_of_ble_eq_true rfl) ?_
          subst hQ
          exact W.iret (v := (-1)) hx hb hr (fun t ht hW => ⟨⟨(-1), (Ps, ws), rfl, ⟨⟨rl_m1.to (by decide), (fun _ => trivial), (fun h0 => trivial)⟩, hw.2.2.2.2.2.2, hw.1, hw.2.2.2.2.1⟩, by rw [ht]; exact hw.2.1, va_K.moved hW.alike hK, hw.2.2.1⟩, hw.2.2.2.1.F ht⟩) hw.2.2.2.1.2.2 dX9_sat_88
        · have r_v_3 : RI v_3 1 255 := rc_le2 rl_1 r_v_3 (ti_nlt c_78) (by decide)
          refine lv_iload_n hx hb dX9_sat_81 rfl (lv_at hl 2 rfl) ?_
          refine lv_bipush (v := 30) hx hb dX9_sat_82 (by decide) ?_
          refine lv_icmp_le (tgt := 89) hx hb dX9_sat_84 (by decide) (fun c_84 => ?_) (fun c_84 => ?_)
          · have r_v_3 : RI v_3 1 30 := rc_le1 r_v_3 rl_30 (ti_le c_84) (by decide)
            refine lv_iload hx hb dX9_sat_89 (lv_at hl 1 rfl) ?_
            refine lv_sipush (v := 255) hx hb dX9_sat_91 (by decide) ?_
            refine lv_icmp_eq (tgt := 107) hx hb dX9_sat_94 (by decide) (fun c_94 => ?_) (fun c_94 => ?_)
            · have r_v_4 : RI v_4 255 255 := rc_eq1 r_v_4 rl_255 (ti_eq c_94) (by decide)
              refine lv_aload_n hx hb dX9_sat_107 rfl (lv_at hl 5 rfl) ?_
              refine tg_get (ci := 9) (ts := ty_WP) (C := RX9) (T := TX9) (N := 15) hx hb hts inX9 hown hK hw h_p0 rfl rfl 1 (by decide) (hts _ tw_347) (fun _ h9 => h9) (ft := vR 24) rfl dX9_sat_108 (fun u_8 hv_u_8 m_u_8 => ?_)
              obtain ⟨vu_8, rfl, h_vu_8⟩ := hv_u_8
              refine lv_iload_n hx hb dX9_sat_111 rfl (lv_at hl 3 rfl) ?_
              refine tk_ir (va_runV (As := [.int v_2]) (rest := []) ⟨hx, hb, hml, hown, hts⟩ (c_X8_isOpen l D cy z H.size Ps ws hw.1 vu_8 v_2 h_vu_8 r_v_2) (cwV 1 hts (gV tw_733 tw_562 tw_563 tw_12 tw_564) rfl rfl rfl (by decide +kernel) ⟨Nat.le_of_ble_eq_true rfl, Nat.le_of_ble_eq_true rfl⟩) (tg_preV hw hK hSD hA (ci := 8) (q := (RX8, TX8, 13)) rfl h_vu_8 rfl) rfl rfl hl.1 rfl (lv_room (Nat.le_of_ble_eq_true rfl)) dX9_sat_112 ⟨Nat.le_of_ble_eq_true rfl, Nat.le_of_ble_eq_true rfl⟩) hw hA (fun v_9  H locs hp_v_9 hw => ?_)
              have r_v_9 : RI v_9 0 1 := hp_v_9.1
              refine lv_if_eq (tgt := 120) hx hb dX9_sat_115 (by decide) (fun c_115 => ?_) (fun c_115 => ?_)
              · have r_v_9 : RI v_9 0 0 := rc_eq1 r_v_9 rl_0 (ti_eq c_115) (by decide)
                refine lv_aload_n hx hb dX9_sat_120 rfl (lv_at hl 5 rfl) ?_
                refine lv_iload_n hx hb dX9_sat_121 rfl (lv_at hl 3 rfl) ?_
                refine lv_iload_n hx hb dX9_sat_122 rfl (lv_at hl 2 rfl) ?_
                refine lv_iload hx hb dX9_sat_123 (lv_at hl 1 rfl) ?_
                refine lv_sipush (v := 255) hx hb dX9_sat_125 (by decide) ?_
                refine lv_icmp_ne (tgt := 135) hx hb dX9_sat_128 (by decide) (fun c_128 => ?_) (fun c_128 => ?_)
                · exact absurd (r_v_4.eq.trans rl_255.eq.symm) ((ti_ne c_128))
                · refine lv_iconst (v := (-1)) hx hb dX9_sat_131 (by decide) ?_
                  refine lv_goto (tgt := 137) hx hb dX9_sat_132 (by decide) ?_
                  refine lv_iload hx hb dX9_sat_137 (lv_at hl 0 rfl) ?_
                  refine tk_iA (va_runV (As := [.int v_2, .int v_3, .int (-1), .int v_5]) (rest := []) ⟨hx, hb, hml, hown, hts⟩ (c_X9_setsThatSat l D cy z H.size Ps ws hw.1 p0 v_2 v_3 (-1) v_5 h_p0 r_v_2 r_v_3 (rl_m1.to (by decide)) (r_v_5.to (by decide))) (cwV 4 hts (gV tw_760 tw_762 ts_19 tw_1 tw_763) rfl rfl rfl (by decide +kernel) ⟨Nat.le_of_ble_eq_true rfl, Nat.le_of_ble_eq_true rfl⟩) (tg_preV hw hK hSD hA (ci := 9) (q := (RX9, TX9, 15)) rfl h_p0 rfl) rfl rfl hl.1 rfl (lv_room (Nat.le_of_ble_eq_true rfl)) dX9_sat_139 ⟨Nat.le_of_ble_eq_true rfl, Nat.le_of_ble_eq_true rfl⟩) hw hA ⟨by decide, by decide⟩ (fun v_10 Pn ws H locs hp_v_10 hup hw hF9 => ?_)
                  refine W.widen (k := 1) (n := 8) (Nat.le_of_ble_eq_true rfl) (Nat.le_of_ble_eq_true rfl) ?_
                  have h_p0 := hup _ h_p0
                  have h_vu_1 := hup _ h_vu_1
                  have h_vu_8 := hup _ h_vu_8
                  have r_v_10 : RI v_10 (-2147483648) 2147483647 := hp_v_10.1
                  subst hQ
                  exact W.iret (v := v_10) hx hb hr (fun t ht hW => ⟨⟨v_10, (Pn, ws), rfl, ⟨⟨r_v_10.to (by decide), (fun h0 => trivial), (fun h0 => trivial)⟩, hw.2.2.2.2.2.2, hw.1, hw.2.2.2.2.1⟩, by rw [ht]; exact hw.2.1, va_K.moved hW.alike hK, hw.2.2.1⟩, hw.2.2.2.1.F ht⟩) hw.2.2.2.1.2.2 dX9_sat_142
              · have r_v_9 : RI v_9 1 1 := rc_neL r_v_9 rl_0 (ti_ne c_115) (by decide)
                refine lv_iconst (v := (-1)) hx hb dX9_sat_118 (by decide) ?_
                refine W.widen (k := 1) (n := 8) (Nat.le_of_ble_eq_true rfl) (Nat.le_of_ble_eq_true rfl) ?_
                subst hQ
                exact W.iret (v := (-1)) hx hb hr (fun t ht hW => ⟨⟨(-1), (Ps, ws), rfl, ⟨⟨rl_m1.to (by decide), (fun _ => trivial), (fun h0 => trivial)⟩, hw.2.2.2.2.2.2, hw.1, hw.2.2.2.2.1⟩, by rw [ht]; exact hw.2.1, va_K.moved hW.alike hK, hw.2.2.1⟩, hw.2.2.2.1.F ht⟩) hw.2.2.2.1.2.2 dX9_sat_119
            · have r_v_4 : RI v_4 (-1) 254 := rc_neU r_v_4 rl_255 (ti_ne c_94) (by decide)
              refine lv_aload_n hx hb dX9_sat_97 rfl (lv_at hl 5 rfl) ?_
              refine lv_iconst (v := 0) hx hb dX9_sat_98 (by decide) ?_
              refine lv_iload hx hb dX9_sat_99 (lv_at hl 1 rfl) ?_
              refine tk_ir (va_runV (As := [.int 0, .int v_4]) (rest := []) ⟨hx, hb, hml, hown, hts⟩ (c_X9_isOf__3 l D cy z H.size Ps ws hw.1 p0 0 v_4 h_p0 rl_0 (r_v_4.to (by decide))) (cwV 2 hts (gV tw_540 tw_542 ts_10 tw_1 tw_543) rfl rfl rfl (by decide +kernel) ⟨Nat.le_of_ble_eq_true rfl, Nat.le_of_ble_eq_true rfl⟩) (tg_preV hw hK hSD hA (ci := 9) (q := (RX9, TX9, 15)) rfl h_p0 rfl) rfl rfl hl.1 rfl (lv_room (Nat.le_of_ble_eq_true rfl)) dX9_sat_101 ⟨Nat.le_of_ble_eq_true rfl, Nat.le_of_ble_eq_true rfl⟩) hw hA (fun v_11  H locs hp_v_11 hw => ?_)
              have r_v_11 : RI v_11 0 1 := hp_v_11.1
              refine lv_if_eq (tgt := 118) hx hb dX9_sat_104 (by decide) (fun c_104 => ?_) (fun c_104 => ?_)
              · have r_v_11 : RI v_11 0 0 := rc_eq1 r_v_11 rl_0 (ti_eq c_104) (by decide)
                refine lv_iconst (v := (-1)) hx hb dX9_sat_118 (by decide) ?_
                refine W.widen (k := 1) (n := 8) (Nat.le_of_ble_eq_true rfl) (Nat.le_of_ble_eq_true rfl) ?_
                subst hQ
                exact W.iret (v := (-1)) hx hb hr (fun t ht hW => ⟨⟨(-1), (Ps, ws), rfl, ⟨⟨rl_m1.to (by decide), (fun _ => trivial), (fun h0 => trivial)⟩, hw.2.2.2.2.2.2, hw.1, hw.2.2.2.2.1⟩, by rw [ht]; exact hw.2.1, va_K.moved hW.alike hK, hw.2.2.1⟩, hw.2.2.2.1.F ht⟩) hw.2.2.2.1.2.2 dX9_sat_119
              · have r_v_11 : RI v_11 1 1 := rc_neL r_v_11 rl_0 (ti_ne c_104) (by decide)
                have r_v_4 : RI v_4 0 5 := ((hp_v_11.2.2 c_104).1)
                refine lv_aload_n hx hb dX9_sat_107 rfl (lv_at hl 5 rfl) ?_
                refine tg_get (ci := 9) (ts := ty_WP) (C := RX9) (T := TX9) (N := 15) hx hb hts inX9 hown hK hw h_p0 rfl rfl 1 (by decide) (hts _ tw_347) (fun _ h9 => h9) (ft := vR 24) rfl dX9_sat_108 (fun u_12 hv_u_12 m_u_12 => ?_)
                obtain ⟨vu_12, rfl, h_vu_12⟩ := hv_u_12
                refine lv_iload_n hx hb dX9_sat_111 rfl (lv_at hl 3 rfl) ?_
                refine tk_ir (va_runV (As := [.int v_2]) (rest := []) ⟨hx, hb, hml, hown, hts⟩ (c_X8_isOpen l D cy z H.size Ps ws hw.1 vu_12 v_2 h_vu_12 r_v_2) (cwV 1 hts (gV tw_733 tw_562 tw_563 tw_12 tw_564) rfl rfl rfl (by decide +kernel) ⟨Nat.le_of_ble_eq_true rfl, Nat.le_of_ble_eq_true rfl⟩) (tg_preV hw hK hSD hA (ci := 8) (q := (RX8, TX8, 13)) rfl h_vu_12 rfl) rfl rfl hl.1 rfl (lv_room (Nat.le_of_ble_eq_true rfl)) dX9_sat_112 ⟨Nat.le_of_ble_eq_true rfl, Nat.le_of_ble_eq_true rfl⟩) hw hA (fun v_13  H locs hp_v_13 hw => ?_)
                have r_v_13 : RI v_13 0 1 := hp_v_13.1
                refine lv_if_eq (tgt := 120) hx hb dX9_sat_115 (by decide) (fun c_115 => ?_) (fun c_115 => ?_)
                · have r_v_13 : RI v_13 0 0 := rc_eq1 r_v_13 rl_0 (ti_eq c_115) (by decide)
                  refine lv_aload_n hx hb dX9_sat_120 rfl (lv_at hl 5 rfl) ?_
                  refine lv_iload_n hx hb dX9_sat_121 rfl (lv_at hl 3 rfl) ?_
                  refine lv_iload_n hx hb dX9_sat_122 rfl (lv_at hl 2 rfl) ?_
                  refine lv_iload hx hb dX9_sat_123 (lv_at hl 1 rfl) ?_
                  refine lv_sipush (v := 255) hx hb dX9_sat_125 (by decide) ?_
                  refine lv_icmp_ne (tgt := 135) hx hb dX9_sat_128 (by decide) (fun c_128 => ?_) (fun c_128 => ?_)
                  · refine lv_iload hx hb dX9_sat_135 (lv_at hl 1 rfl) ?_
                    refine lv_iload hx hb dX9_sat_137 (lv_at hl 0 rfl) ?_
                    refine tk_iA (va_runV (As := [.int v_2, .int v_3, .int v_4, .int v_5]) (rest := []) ⟨hx, hb, hml, hown, hts⟩ (c_X9_setsThatSat l D cy z H.size Ps ws hw.1 p0 v_2 v_3 v_4 v_5 h_p0 r_v_2 r_v_3 (r_v_4.to (by decide)) (r_v_5.to (by decide))) (cwV 4 hts (gV tw_760 tw_762 ts_19 tw_1 tw_763) rfl rfl rfl (by decide +kernel) ⟨Nat.le_of_ble_eq_true rfl, Nat.le_of_ble_eq_true rfl⟩) (tg_preV hw hK hSD hA (ci := 9) (q := (RX9, TX9, 15)) rfl h_p0 rfl) rfl rfl hl.1 rfl (lv_room (Nat.le_of_ble_eq_true rfl)) dX9_sat_139 ⟨Nat.le_of_ble_eq_true rfl, Nat.le_of_ble_eq_true rfl⟩) hw hA ⟨by decide, by decide⟩ (fun v_14 Pn ws H locs hp_v_14 hup hw hF9 => ?_)
                    refine W.widen (k := 1) (n := 8) (Nat.le_of_ble_eq_true rfl) (Nat.le_of_ble_eq_true rfl) ?_
                    have h_p0 := hup _ h_p0
                    have h_vu_1 := hup _ h_vu_1
                    have h_vu_12 := hup _ h_vu_12
                    have r_v_14 : RI v_14 (-2147483648) 2147483647 := hp_v_14.1
                    subst hQ
                    exact W.iret (v := v_14) hx hb hr (fun t ht hW => ⟨⟨v_14, (Pn, ws), rfl, ⟨⟨r_v_14.to (by decide), (fun h0 => trivial), (fun h0 => trivial)⟩, hw.2.2.2.2.2.2, hw.1, hw.2.2.2.2.1⟩, by rw [ht]; exact hw.2.1, va_K.moved hW.alike hK, hw.2.2.1⟩, hw.2.2.2.1.F ht⟩) hw.2.2.2.1.2.2 dX9_sat_142
                  · have r_v_4 : RI v_4 255 5 := rc_eq1 r_v_4 rl_255 (ti_eq c_128) (by decide)
                    exact (r_v_4.no (by decide)).elim
                · have r_v_13 : RI v_13 1 1 := rc_neL r_v_13 rl_0 (ti_ne c_115) (by decide)
                  refine lv_iconst (v := (-1)) hx hb dX9_sat_118 (by decide) ?_
                  refine W.widen (k := 1) (n := 8) (Nat.le_of_ble_eq_true rfl) (Nat.le_of_ble_eq_true rfl) ?_
                  subst hQ
                  exact W.iret (v := (-1)) hx hb hr (fun t ht hW => ⟨⟨(-1), (Ps, ws), rfl, ⟨⟨rl_m1.to (by decide), (fun _ => trivial), (fun h0 => trivial)⟩, hw.2.2.2.2.2.2, hw.1, hw.2.2.2.2.1⟩, by rw [ht]; exact hw.2.1, va_K.moved hW.alike hK, hw.2.2.1⟩, hw.2.2.2.1.F ht⟩) hw.2.2.2.1.2.2 dX9_sat_119
          · have r_v_3 : RI v_3 31 255 := rc_lt2 rl_30 r_v_3 (ti_nle c_84) (by decide)
            refine lv_iconst (v := (-1)) hx hb dX9_sat_87 (by decide) ?_
            refine W.widen (k := 1) (n := 8) (Nat.le_of_ble_eq_true rfl) (Nat.le_of_ble_eq_true rfl) ?_
            subst hQ
            exact W.iret (v := (-1)) hx hb hr (fun t ht hW => ⟨⟨(-1), (Ps, ws), rfl, ⟨⟨rl_m1.to (by decide), (fun _ => trivial), (fun h0 => trivial)⟩, hw.2.2.2.2.2.2, hw.1, hw.2.2.2.2.1⟩, by rw [ht]; exact hw.2.1, va_K.moved hW.alike hK, hw.2.2.1⟩, hw.2.2.2.1.F ht⟩) hw.2.2.2.1.2.2 dX9_sat_88
  refine lv_aload_n hx hb dX9_sat_0 rfl (lv_at hl 0 rfl) ?_
  refine tg_get (ci := 9) (ts := ty_WP) (C := RX9) (T := TX9) (N := 15) hx hb hts inX9 hown hK hw h_p0 rfl rfl 0 (by decide) (hts _ tw_346) (fun _ h9 => h9) (ft := vR 26) rfl dX9_sat_1 (fun u_15 hv_u_15 m_u_15 => ?_)
  obtain ⟨vu_15, rfl, h_vu_15⟩ := hv_u_15
  refine tg_getN (ci := 7) (ts := ty_TAPE) (C := RX7) (T := TX7) (N := 12) hx hb hts inX7 hown hK hw h_vu_15 rfl rfl 2 (by decide) (hSD.nest tn_90) (fun _ h9 => h9) (ft := vI 0 940) rfl dX9_sat_4 (fun u_16 hv_u_16 m_u_16 => ?_)
  obtain ⟨vu_16, rfl, r_vu_16⟩ := hv_u_16
  refine lv_iconst (v := 4) hx hb dX9_sat_7 (by decide) ?_
  refine lv_icmp_ne (tgt := 15) hx hb dX9_sat_8 (by decide) (fun c_8 => ?_) (fun c_8 => ?_)
  · refine lv_iconst (v := 0) hx hb dX9_sat_15 (by decide) ?_
    exact B16 0 w0 _ _ ls (rl_0.to (by decide)) hw hl
  · have r_vu_16 : RI vu_16 4 4 := rc_eq1 r_vu_16 rl_4 (ti_eq c_8) (by decide)
    refine lv_iconst (v := 1) hx hb dX9_sat_11 (by decide) ?_
    refine lv_goto (tgt := 16) hx hb dX9_sat_12 (by decide) ?_
    exact B16 1 w0 _ _ ls (rl_1.to (by decide)) hw hl
abbrev wr_X9_sentence : List (Nat × Nat) := [(5, 3), (5, 4), (7, 2), (7, 3), (7, 4), (7, 5), (7, 6), (7, 7), (7, 8), (7, 9), (7, 10), (7, 11), (9, 5), (9, 11)]
abbrev wa_X9_sentence : List Nat := [21]
set_option maxHeartbeats 4000000 in
set_option maxRecDepth 100000 in
theorem c_X9_sentence (l : Launch) (D : va_G) (cy : Nat → ClassId) (z : Nat → Nat) (sz : Nat) (Ps : PSI) (w0 : va_W) (hT : HT cy GG Ps w0) (p0 : Nat) (h_p0 : (p0, 33) ∈ Ps) : Met l yX9_sentence (Cond.code yX9_sentence cX9_sentence 2 (some .int) :: gT) ({ frames := 22, cells := 4, slots := 125, locals := 4400 } : Room) (va_Pc [.ref p0] (PRE D cy z w0 sz)) (va_Qi (fun (r : Int32) (u : PSI × va_W) => (RI r (-2147483648) 2147483647 ∧ (r = 0 → True) ∧ (¬ r = 0 → True)) ∧ (∃ X, u.1 = Ps ++ X) ∧ HT cy GG u.1 u.2 ∧ FR wr_X9_sentence wa_X9_sentence Ps w0 u.2) (BB D cy (va_A w0 sz) (fun (u : PSI × va_W) => u.2)) (va_A w0 sz)) 4 125 (va_A w0 sz) := by
  refine Met.ofW (cc := cX9_sentence) (maxL := 2) (ret := (some .int)) (by decide) rfl ?_
  intro p e s m args below meth c s₁ B hml hv
  obtain ⟨rfl, hsz, hP, hK, hD0, hSD⟩ := hv
  have hx := B.exec
  have hb := B.bytes
  have hr := B.returns
  have hlocks := B.notSynchronized
  have hts : ∀ w ∈ gT, w.before _ s = true := fun w h => atoms_spec (ws := Cond.code yX9_sentence cX9_sentence 2 (some .int) :: gT) B.pre w (List.mem_cons_of_mem _ h)
  have hown : s.vm.findClass RX9 = some m.cls := findClass_of_methodNamed B.named
  subst hsz
  have hD := hD0.self (sz := s.heap.size)
  generalize hAe : va_A w0 s.heap.size = A at hD hSD ⊢
  have hA : ∀ q : Nat, s.heap.size ≤ q → A q := fun q h => by rw [← hAe]; exact Or.inr h
  have hl := lv_entry ([.ref p0]) (n := 2) (Nat.le_of_ble_eq_true rfl)
  rw [lg_entry_eq]
  generalize (lg_sl ([.ref p0]) ++ List.replicate (2 - (lg_sl ([.ref p0])).length) Slot.unset).toArray = ls at hl ⊢
  have hl : lv_has ls 2 [(0, .ref p0)] := hl
  refine nameQ (fun Q hQ => ?_)
  have hw : WD D cy GG A s wr_X9_sentence wa_X9_sentence Ps w0 Ps w0 s.heap [] := ⟨hT, hP, hD, va_S.rf, FR.rf, hT.1, [], (List.append_nil _).symm⟩
  refine va_new (ci := 5) (fs := [.null, .null, .null, .int 0, .int 0]) (C := RX5) (T := TX5) (N := 5) hx hb hts inX5 tyX5 tyX5_ok hown (hts _ tw_945) (hts _ tw_946) (hts _ tw_23) hK hw.2.1 hw.2.2.1 hw.2.2.2.1 hA rfl (dfX5) (Nat.le_of_ble_eq_true rfl) (Nat.le_of_ble_eq_true rfl) dX9_sentence_0 (fun q_1 H hP9 hD9 hS9 => ?_)
  refine lv_dup hx hb dX9_sentence_3 rfl ?_
  refine tkN (va_runIN (As := []) (rest := [.ref q_1]) ⟨hx, hb, hml, hown, hts⟩ (c_Sent_init l D cy z H.size q_1) ⟨va_cnB 0 hts (gC tw_949) rfl rfl rfl (va_Nw.of rfl (hSD.nest (args := #[]) tn_947)) (hts _ tw_23) (by decide +kernel) ⟨Nat.le_of_ble_eq_true rfl, Nat.le_of_ble_eq_true rfl⟩, rfl, hts _ tw_948⟩ (preS hP9 hD9 hK hSD hS9 hA [w0.length] last1 rfl) rfl rfl hl.1 rfl (lv_room (Nat.le_of_ble_eq_true rfl)) dX9_sentence_4 ⟨Nat.le_of_ble_eq_true rfl, Nat.le_of_ble_eq_true rfl⟩) hP9 hD9 hS9 hA (fun u9 H locs hp9 hP9 hD9 hS9 => ?_)
  obtain ⟨u0_1, u1_1, u2_1⟩ := u9
  have hw := WD.app (X := [(q_1, 32), (u0_1, 21), (u1_1, 21), (u2_1, 21)]) (wx := [(q_1, .inr (5, [.ref u0_1, .ref u1_1, .ref u2_1, .int 0, .int 0])), (u0_1, .inl (cy 1, 40, .inl (fun _ => 0))), (u1_1, .inl (cy 1, 40, .inl (fun _ => 0))), (u2_1, .inl (cy 1, 40, .inl (fun _ => 0)))]) hw ⟨⟨rfl, ok_SENT (List.mem_append_right _ (by simp)) (List.mem_append_right _ (by simp)) (List.mem_append_right _ (by simp)) (rl_0.to (by decide)) (rl_0.to (by decide))⟩, ⟨rfl, z_arr (fun _ => 0) (fun j9 _ => (by show ((-2147483648) : Int) ≤ (0 : Int32).toInt ∧ (0 : Int32).toInt ≤ 2147483647; decide)) trivial⟩, ⟨rfl, z_arr (fun _ => 0) (fun j9 _ => (by show ((-2147483648) : Int) ≤ (0 : Int32).toInt ∧ (0 : Int32).toInt ≤ 2147483647; decide)) trivial⟩, ⟨rfl, z_arr (fun _ => 0) (fun j9 _ => (by show ((-2147483648) : Int) ≤ (0 : Int32).toInt ∧ (0 : Int32).toInt ≤ 2147483647; decide)) trivial⟩, trivial⟩ hP9 hD9 hS9
  obtain ⟨Pn, hPn⟩ : ∃ q9 : PSI, q9 = Ps ++ [(q_1, 32), (u0_1, 21), (u1_1, 21), (u2_1, 21)] := ⟨_, rfl⟩
  have hup : ∀ x9 ∈ Ps, x9 ∈ Pn := fun x9 h9 => by rw [hPn]; exact List.mem_append_left _ h9
  obtain ⟨ws, hws⟩ : ∃ q9 : va_W, q9 = w0 ++ [(q_1, .inr (5, [.ref u0_1, .ref u1_1, .ref u2_1, .int 0, .int 0])), (u0_1, .inl (cy 1, 40, .inl (fun _ => 0))), (u1_1, .inl (cy 1, 40, .inl (fun _ => 0))), (u2_1, .inl (cy 1, 40, .inl (fun _ => 0)))] := ⟨_, rfl⟩
  rw [← hPn, ← hws] at hw
  have h_p0 := hup _ h_p0
  have h_q_1 : (q_1, 32) ∈ Pn := by rw [hPn]; exact List.mem_append_right _ (by simp)
  have h_u0_1 : (u0_1, 21) ∈ Pn := by rw [hPn]; exact List.mem_append_right _ (by simp)
  have h_u1_1 : (u1_1, 21) ∈ Pn := by rw [hPn]; exact List.mem_append_right _ (by simp)
  have h_u2_1 : (u2_1, 21) ∈ Pn := by rw [hPn]; exact List.mem_append_right _ (by simp)
  refine W.widen (k := 4) (n := 125) (Nat.le_of_ble_eq_true rfl) (Nat.le_of_ble_eq_true rfl) ?_
  refine lv_astore_n (lv' := [(1, .ref q_1), (0, .ref p0)]) hx hb dX9_sentence_7 rfl hl (by decide) rfl (fun ls hl => ?_)
  refine lv_aload_n hx hb dX9_sentence_8 rfl (lv_at hl 0 rfl) ?_
  refine lv_aload_n hx hb dX9_sentence_9 rfl (lv_at hl 1 rfl) ?_
  refine tg_get (ci := 9) (ts := ty_WP) (C := RX9) (T := TX9) (N := 15) hx hb hts inX9 hown hK hw h_p0 rfl rfl 0 (by decide) (hts _ tw_346) (fun _ h9 => h9) (ft := vR 26) rfl dX9_sentence_10 (fun u_2 hv_u_2 m_u_2 => ?_)
  obtain ⟨vu_2, rfl, h_vu_2⟩ := hv_u_2
  refine lv_aload_n hx hb dX9_sentence_13 rfl (lv_at hl 1 rfl) ?_
  refine tg_get (ci := 9) (ts := ty_WP) (C := RX9) (T := TX9) (N := 15) hx hb hts inX9 hown hK hw h_p0 rfl rfl 1 (by decide) (hts _ tw_347) (fun _ h9 => h9) (ft := vR 24) rfl dX9_sentence_14 (fun u_3 hv_u_3 m_u_3 => ?_)
  obtain ⟨vu_3, rfl, h_vu_3⟩ := hv_u_3
  refine tg_getN (ci := 8) (ts := ty_WORLD) (C := RX8) (T := TX8) (N := 13) hx hb hts inX8 hown hK hw h_vu_3 rfl rfl 0 (by decide) (hSD.nest tn_249) (fun _ h9 => h9) (ft := vR 25) rfl dX9_sentence_17 (fun u_4 hv_u_4 m_u_4 => ?_)
  obtain ⟨vu_4, rfl, h_vu_4⟩ := hv_u_4
  refine tk_v (va_runV (As := [.ref vu_2, .ref vu_4]) (rest := []) ⟨hx, hb, hml, hown, hts⟩ (c_X5_read l D cy z H.size Pn ws hw.1 q_1 vu_2 vu_4 h_q_1 h_vu_2 h_vu_4) (cwV 2 hts (gV tw_968 tw_969 tw_970 tw_23 tw_971) rfl rfl rfl (by decide +kernel) ⟨Nat.le_of_ble_eq_true rfl, Nat.le_of_ble_eq_true rfl⟩) (tg_preV hw hK hSD hA (ci := 5) (q := (RX5, TX5, 5)) rfl h_q_1 rfl) rfl rfl hl.1 rfl (lv_room (Nat.le_of_ble_eq_true rfl)) dX9_sentence_20 ⟨Nat.le_of_ble_eq_true rfl, Nat.le_of_ble_eq_true rfl⟩) hw hA ⟨by decide, by decide⟩ (fun ws H locs hp_v_5 hw hF9 => ?_)
  refine lv_aload_n hx hb dX9_sentence_23 rfl (lv_at hl 1 rfl) ?_
  refine tk_v (va_runV (As := []) (rest := []) ⟨hx, hb, hml, hown, hts⟩ (c_X9_noteFault__1 l D cy z H.size Pn ws hw.1 p0 h_p0) (cwV 0 hts (gV tw_517 tw_519 ts_9 tw_1 tw_520) rfl rfl rfl (by decide +kernel) ⟨Nat.le_of_ble_eq_true rfl, Nat.le_of_ble_eq_true rfl⟩) (tg_preV hw hK hSD hA (ci := 9) (q := (RX9, TX9, 15)) rfl h_p0 rfl) rfl rfl hl.1 rfl (lv_room (Nat.le_of_ble_eq_true rfl)) dX9_sentence_24 ⟨Nat.le_of_ble_eq_true rfl, Nat.le_of_ble_eq_true rfl⟩) hw hA ⟨by decide, by decide⟩ (fun ws H locs hp_v_6 hw hF9 => ?_)
  have x_EQF_p0 := (hp_v_6.1)
  refine lv_aload_n hx hb dX9_sentence_27 rfl (lv_at hl 1 rfl) ?_
  refine tg_get (ci := 9) (ts := ty_WP) (C := RX9) (T := TX9) (N := 15) hx hb hts inX9 hown hK hw h_p0 rfl rfl 11 (by decide) (hts _ tw_357) (fun _ h9 => h9) (ft := vI (-2147483648) 2147483647) rfl dX9_sentence_28 (fun u_7 hv_u_7 m_u_7 => ?_)
  obtain ⟨vu_7, rfl, r_vu_7⟩ := hv_u_7
  refine lv_if_eq (tgt := 44) hx hb dX9_sentence_31 (by decide) (fun c_31 => ?_) (fun c_31 => ?_)
  · have r_vu_7 : RI vu_7 0 0 := rc_eq1 r_vu_7 rl_0 (ti_eq c_31) (by decide)
    refine lv_aload_n hx hb dX9_sentence_44 rfl (lv_at hl 1 rfl) ?_
    refine lv_aload_n hx hb dX9_sentence_45 rfl (lv_at hl 0 rfl) ?_
    refine tg_put (ci := 9) (ts := ty_WP) (v := .ref q_1) (ty := .object "WonderParcels$Sentence") (C := RX9) (T := TX9) (N := 15) hx hb hts inX9 tyX9 tyX9_ok nmX9 hown hK hw h_p0 rfl rfl 5 (by decide) (hts _ tw_351) (fun _ h9 => h9) rfl (by decide +kernel) rfl rfl (ft := vN 32) rfl (Or.inr ⟨_, rfl, h_q_1⟩) (by decide) dX9_sentence_46 (fun ws H locs hw n_k_8 hF9 => ?_)
    have m_u_7 := FLD.over hF9 m_u_7 (by decide)
    have x_EQF_p0 := EQF.over hF9 x_EQF_p0 (by decide)
    refine lv_aload_n hx hb dX9_sentence_49 rfl (lv_at hl 0 rfl) ?_
    refine tg_getN (ci := 5) (ts := ty_SENT) (C := RX5) (T := TX5) (N := 5) hx hb hts inX5 hown hK hw h_q_1 rfl rfl 4 (by decide) (hSD.nest tn_956) (fun _ h9 => h9) (ft := vI (-2147483648) 2147483647) rfl dX9_sentence_50 (fun u_9 hv_u_9 m_u_9 => ?_)
    obtain ⟨vu_9, rfl, r_vu_9⟩ := hv_u_9
    subst hQ
    exact W.iret (v := vu_9) hx hb hr (fun t ht hW => ⟨⟨vu_9, (Pn, ws), rfl, ⟨⟨r_vu_9.to (by decide), (fun h0 => trivial), (fun h0 => trivial)⟩, hw.2.2.2.2.2.2, hw.1, hw.2.2.2.2.1⟩, by rw [ht]; exact hw.2.1, va_K.moved hW.alike hK, hw.2.2.1⟩, hw.2.2.2.1.F ht⟩) hw.2.2.2.1.2.2 dX9_sentence_53
  · refine lv_iconst (v := (-1)) hx hb dX9_sentence_34 (by decide) ?_
    refine lv_aload_n hx hb dX9_sentence_35 rfl (lv_at hl 1 rfl) ?_
    refine tg_get (ci := 9) (ts := ty_WP) (C := RX9) (T := TX9) (N := 15) hx hb hts inX9 hown hK hw h_p0 rfl rfl 0 (by decide) (hts _ tw_346) (fun _ h9 => h9) (ft := vR 26) rfl dX9_sentence_36 (fun u_10 hv_u_10 m_u_10 => ?_)
    obtain ⟨vu_10, rfl, h_vu_10⟩ := hv_u_10
    refine tg_getN (ci := 7) (ts := ty_TAPE) (C := RX7) (T := TX7) (N := 12) hx hb hts inX7 hown hK hw h_vu_10 rfl rfl 11 (by decide) (hSD.nest tn_107) (fun _ h9 => h9) (ft := vI (-2147483648) 2147483647) rfl dX9_sentence_39 (fun u_11 hv_u_11 m_u_11 => ?_)
    obtain ⟨vu_11, rfl, r_vu_11⟩ := hv_u_11
    refine lv_isub hx hb dX9_sentence_42 (lv_topi (fun v_12 e_v_12 => ?_))
    obtain ⟨t_v_12, r_v_12⟩ := tq_sub (lo := (-2147483648)) (hi := 2147483647) rl_m1 r_vu_11 (by decide +kernel) e_v_12
    have t_v_12 : v_12.toInt = (-1) - vu_11.toInt := t_v_12
    subst hQ
    exact W.iret (v := v_12) hx hb hr (fun t ht hW => ⟨⟨v_12, (Pn, ws), rfl, ⟨⟨r_v_12.to (by decide), (fun h0 => trivial), (fun h0 => trivial)⟩, hw.2.2.2.2.2.2, hw.1, hw.2.2.2.2.1⟩, by rw [ht]; exact hw.2.1, va_K.moved hW.alike hK, hw.2.2.1⟩, hw.2.2.2.1.F ht⟩) hw.2.2.2.1.2.2 dX9_sentence_43
