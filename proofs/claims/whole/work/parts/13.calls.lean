section R4
variable {X : ge_X} {S : List ge_S} {y : ge_Y} {d : Nat} {Q : Option Value → ge_G → Prop} {l : List (Nat × Value)} {st rest : List Value} {g : ge_G} {pc : Nat}
theorem ge_blind (X : ge_X) (S : List ge_S) (g : ge_G) (a : List Value) : FrameBlind (ge_P X S g a) := by
  intro v U fr mk h
  obtain ⟨h1, h2, h3⟩ := h
  exact ⟨h1, h2, ge_K_same (s := U) (U := U.calling fr mk v) rfl rfl h3⟩
theorem ge_after {p : Program} {lc : Launch} {e : Env} {R : Room} {s : State} {m : MethodId} {args : Array Value} {below : List Frame} {meth : Method} {c : Code} {H : Heap} {locs : List Loc} {cells slots : Nat} {Qw : State → Prop} {ls : Array Slot} {st0 : List Value} {a : Array Value} {Q' : Option Value → ge_G → Prop} {H0 : Heap}
    (hr : va_Run p lc e R s m args below meth c H locs cells slots 0 0 (F0 m pc ls st0) rest (ge_Q X S Q' a) (fun q => X.2.1 ≤ q)) (hS : va_S (fun q => X.2.1 ≤ q) H0 H locs)
    (kk : ∀ (v : Option Value) (g' : ge_G), Q' v g' → ∀ (H1 : Heap) (locs1 : List Loc), ge_H X S g' H1 → va_S (fun q => X.2.1 ≤ q) H0 H1 locs1 → W p lc e R s m args below meth c H1 locs1 cells slots Qw (F0 m (pc + 3) ls (v.toList ++ rest))) :
    W p lc e R s m args below meth c H locs cells slots Qw (F0 m pc ls st0) := by
  intro T hT hX
  obtain ⟨v, st₀, t, T', L, h0, X', hL, e1, e2, ⟨v', g', hv, hq, hH, hz, hk⟩, stp⟩ := hr T hT hX
  cases hv
  rw [h0] at hz hk
  obtain ⟨t2, a1, b1⟩ := kk v g' hq T'.heap (locs ++ L) (by rw [e1]; exact hH)
    ⟨Nat.le_trans hS.1 (by rw [e1]; exact hz), fun q h1 h2 => by rw [e1, hk q (Nat.lt_of_lt_of_le h1 hS.1) h2]; exact hS.2.1 q h1 h2, fun q hq => by
      rcases List.mem_append.mp hq with h | h
      · exact hS.2.2 q h
      · exact hL q h⟩ T' rfl X'
  exact ⟨t2, stp t2 a1, b1⟩
/-- room enough for the callee -/
def ge_ok (y' : ge_Y) (d' d : Nat) : Prop := d' + 1 ≤ d ∧ y'.2.2.1 ≤ 29
theorem ge_ok.room {y' : ge_Y} {d' d : Nat} (h : ge_ok y' d' d) : (ge_R d').frames + 1 ≤ (ge_R d).frames ∧ 8 + (y'.2.2.1 + 11) + (ge_R d').locals ≤ (ge_R d).locals := by
  obtain ⟨h1, h2⟩ := h
  refine ⟨h1, ?_⟩
  show 8 + (y'.2.2.1 + 11) + 48 * d' ≤ 48 * d
  omega
/-- a callee's words: its own code among the tables' -/
theorem ge_gin {y y' : ge_Y} {ws : List Cond} (hc : Cond.code y'.1 y'.2.1 y'.2.2.1 y'.2.2.2 ∈ ge_tbl) (hw : ∀ w ∈ ws, w ∈ ge_tbl) : GoodIn ge_tbl (ws ++ (Cond.code y'.1 y'.2.1 y'.2.2.1 y'.2.2.2 :: ge_tbl)) := by
  intro w h
  have h1 : w ∈ ge_tbl := by
    rcases List.mem_append.mp h with h | h
    · exact hw w h
    · rcases List.mem_cons.mp h with rfl | h
      · exact hc
      · exact h
  exact ⟨h1, good_of_word (ge_gd w h1)⟩
/-- an invokevirtual of the class's own method: pool entry idx of class own is y', n its parameters -/
def ge_cv (own : String) (idx n : Nat) (y' : ge_Y) : Prop := (∀ w ∈ ([.methodLink own idx y'.1, .instanceMethod y'.1, .selects y'.1.cls y'.1 y'.1, .initialized y'.1.cls] : List Cond), w ∈ ge_tbl) ∧ Cond.code y'.1 y'.2.1 y'.2.2.1 y'.2.2.2 ∈ ge_tbl ∧
  (y'.1.cls ≠ "java/lang/invoke/MethodHandle" ∧ y'.1.cls ≠ "java/lang/invoke/VarHandle" ∧ (parseMethodDescriptor y'.1.desc).map (fun d => d.parameters.length) = some n)
/-- an invokestatic -/
def ge_cs (own : String) (idx n : Nat) (y' : ge_Y) : Prop := (∀ w ∈ ([.methodLink own idx y'.1, .static y'.1, .initialized y'.1.cls] : List Cond), w ∈ ge_tbl) ∧ Cond.code y'.1 y'.2.1 y'.2.2.1 y'.2.2.2 ∈ ge_tbl ∧
  (y'.1.cls ≠ "java/lang/invoke/MethodHandle" ∧ y'.1.cls ≠ "java/lang/invoke/VarHandle" ∧ (parseMethodDescriptor y'.1.desc).map (fun d => d.parameters.length) = some n)
/-- an invokevirtual of x, which a receiver of class C takes as y' (of class y'.1.cls); ow: the class that declares x -/
def ge_cu (own : String) (idx n : Nat) (C ow : String) (x : MethodName) (y0 y' : ge_Y) : Prop := (∀ w ∈ ([.methodLink own idx x, .sameMethod x.cls ow x.name x.desc, .instanceMethod ⟨ow, x.name, x.desc⟩, .selects C x y'.1, .instanceMethod y'.1, .initialized y'.1.cls] : List Cond), w ∈ ge_tbl) ∧ Cond.code y'.1 y'.2.1 y'.2.2.1 y'.2.2.2 ∈ ge_tbl ∧
  Cond.code ⟨ow, x.name, x.desc⟩ y0.2.1 y0.2.2.1 y0.2.2.2 ∈ ge_tbl ∧ (ow ≠ "java/lang/invoke/MethodHandle" ∧ ow ≠ "java/lang/invoke/VarHandle" ∧ (parseMethodDescriptor x.desc).map (fun d => d.parameters.length) = some n)
/-- an invokespecial of the superclass's method -/
def ge_cp (own : String) (idx n : Nat) (y' : ge_Y) : Prop := (∀ w ∈ ([.methodLink own idx y'.1, .sameMethod y'.1.cls y'.1.cls y'.1.name y'.1.desc, .superclass own y'.1.cls, .instanceMethod y'.1, .initialized y'.1.cls] : List Cond), w ∈ ge_tbl) ∧ Cond.code y'.1 y'.2.1 y'.2.2.1 y'.2.2.2 ∈ ge_tbl ∧
  (y'.1.name ≠ "<init>" ∧ (parseMethodDescriptor y'.1.desc).map (fun d => d.parameters.length) = some n)
theorem ge_callV {idx n p ci d' : Nat} {y' : ge_Y} {As : List Value} {fs : List ge_F} {q : vw_C} {Q' : Option Value → ge_G → Prop} (dg : decode y.2.1 pc = .ok (.invokevirtual idx, 3)) (hc : ge_cv y.1.cls idx n y') (hd : ge_ok y' d' d)
    (hs : S[p]? = some (.inl (ci, fs))) (hq : vwCl[ci]? = some q) (hq1 : q.1 = y'.1.cls) (hn : As.length = n) (hst : st = As.reverse ++ .ref (ge_ad X.1 p) :: rest) (hr : (rest.map fun v => v.category).sum ≤ 8)
    (hM : ge_M X S y' d' (.ref (ge_ad X.1 p) :: As) g Q') (kk : ∀ (v : Option Value) (g' : ge_G), Q' v g' → ge_A X S y d Q (pc + 3) l (v.toList ++ rest) g') : ge_A X S y d Q pc l st g := by
  intro pr lc e s m args below meth c H locs ls C hH hS hls
  obtain ⟨hc1, hc2, hc3⟩ := hc
  refine ge_after (va_runV (As := As) (rest := rest) (b := ge_ad X.1 p) (nL := y.2.2.1) (Ts := ge_tbl) (own := y.1.cls) ⟨C.1, C.2.1, C.2.2.1, C.2.2.2.1, C.2.2.2.2.1⟩ (hM lc) (cwV (own := y.1.cls) (C := y'.1.cls) (index := idx) n C.2.2.2.2.1 (ge_gin (y := y) (y' := y') hc2 hc1) rfl rfl rfl ⟨rfl, hc3⟩ hd.room)
    ⟨ge_blind X S g _, ?_, fun U hU hW => ⟨rfl, by rw [hU]; exact hH, ge_K_moved hW hU hS C.2.2.2.2.2.2.2⟩⟩ rfl hn hls.1 hst (lv_room hr) dg ⟨Nat.zero_le _, Nat.zero_le _⟩) hS ?_
  · rw [← hq1]
    exact va_recv C.2.2.2.2.2.2.2.1 hH.1 hq (ge_w_get X S g hs)
  · intro v g' hv H1 locs1 hH1 hS1
    exact kk v g' hv pr lc e s m args below meth c H1 locs1 ls C hH1 hS1 hls
theorem ge_callS {idx n d' : Nat} {y' : ge_Y} {As : List Value} {Q' : Option Value → ge_G → Prop} (dg : decode y.2.1 pc = .ok (.invokestatic idx, 3)) (hc : ge_cs y.1.cls idx n y') (hd : ge_ok y' d' d)
    (hn : As.length = n) (hst : st = As.reverse ++ rest) (hr : (rest.map fun v => v.category).sum ≤ 8)
    (hM : ge_M X S y' d' As g Q') (kk : ∀ (v : Option Value) (g' : ge_G), Q' v g' → ge_A X S y d Q (pc + 3) l (v.toList ++ rest) g') : ge_A X S y d Q pc l st g := by
  intro pr lc e s m args below meth c H locs ls C hH hS hls
  obtain ⟨hc1, hc2, hc3⟩ := hc
  refine ge_after (va_runS (As := As) (rest := rest) (nL := y.2.2.1) (Ts := ge_tbl) (own := y.1.cls) ⟨C.1, C.2.1, C.2.2.1, C.2.2.2.1, C.2.2.2.2.1⟩ (hM lc) (va_cwS (own := y.1.cls) (index := idx) n C.2.2.2.2.1 (ge_gin (y := y) (y' := y') hc2 hc1) rfl rfl rfl hc3 hd.room)
    ⟨ge_blind X S g _, fun U hU hW => ⟨rfl, by rw [hU]; exact hH, ge_K_moved hW hU hS C.2.2.2.2.2.2.2⟩⟩ rfl hn hls.1 hst (lv_room hr) dg ⟨Nat.zero_le _, Nat.zero_le _⟩) hS ?_
  intro v g' hv H1 locs1 hH1 hS1
  exact kk v g' hv pr lc e s m args below meth c H1 locs1 ls C hH1 hS1 hls
theorem ge_callU {idx n p ci d' : Nat} {Cn ow : String} {x : MethodName} {y0 y' : ge_Y} {As : List Value} {fs : List ge_F} {q : vw_C} {Q' : Option Value → ge_G → Prop} (dg : decode y.2.1 pc = .ok (.invokevirtual idx, 3)) (hc : ge_cu y.1.cls idx n Cn ow x y0 y') (hd : ge_ok y' d' d)
    (hs : S[p]? = some (.inl (ci, fs))) (hq : vwCl[ci]? = some q) (hq1 : q.1 = Cn) (hn : As.length = n) (hst : st = As.reverse ++ .ref (ge_ad X.1 p) :: rest) (hr : (rest.map fun v => v.category).sum ≤ 8)
    (hM : ge_M X S y' d' (.ref (ge_ad X.1 p) :: As) g Q') (kk : ∀ (v : Option Value) (g' : ge_G), Q' v g' → ge_A X S y d Q (pc + 3) l (v.toList ++ rest) g') : ge_A X S y d Q pc l st g := by
  intro pr lc e s m args below meth c H locs ls C hH hS hls
  obtain ⟨hc1, hc2, hc3, hc4⟩ := hc
  refine ge_after (va_runU (As := As) (rest := rest) (b := ge_ad X.1 p) (nL := y.2.2.1) (Ts := ge_tbl) (own := y.1.cls) (C := Cn) ⟨C.1, C.2.1, C.2.2.1, C.2.2.2.1, C.2.2.2.2.1⟩ (hM lc) (va_cwO (own := y.1.cls) (C := Cn) (owner := ow) (x := x) (index := idx) n C.2.2.2.2.1 (ge_gin (y := y) (y' := y') hc2 hc1) rfl rfl rfl hc3 hc4 hd.room)
    ⟨ge_blind X S g _, ?_, fun U hU hW => ⟨rfl, by rw [hU]; exact hH, ge_K_moved hW hU hS C.2.2.2.2.2.2.2⟩⟩ rfl hn hls.1 hst (lv_room hr) dg ⟨Nat.zero_le _, Nat.zero_le _⟩) hS ?_
  · rw [← hq1]
    exact va_recv C.2.2.2.2.2.2.2.1 hH.1 hq (ge_w_get X S g hs)
  · intro v g' hv H1 locs1 hH1 hS1
    exact kk v g' hv pr lc e s m args below meth c H1 locs1 ls C hH1 hS1 hls
theorem ge_callP {idx n p ci d' : Nat} {y' : ge_Y} {As : List Value} {fs : List ge_F} {q : vw_C} {Q' : Option Value → ge_G → Prop} (dg : decode y.2.1 pc = .ok (.invokespecial idx, 3)) (hc : ge_cp y.1.cls idx n y') (hd : ge_ok y' d' d)
    (hs : S[p]? = some (.inl (ci, fs))) (hq : vwCl[ci]? = some q) (hn : As.length = n) (hst : st = As.reverse ++ .ref (ge_ad X.1 p) :: rest) (hr : (rest.map fun v => v.category).sum ≤ 8)
    (hM : ge_M X S y' d' (.ref (ge_ad X.1 p) :: As) g Q') (kk : ∀ (v : Option Value) (g' : ge_G), Q' v g' → ge_A X S y d Q (pc + 3) l (v.toList ++ rest) g') : ge_A X S y d Q pc l st g := by
  intro pr lc e s m args below meth c H locs ls C hH hS hls
  obtain ⟨hc1, hc2, hc3⟩ := hc
  refine ge_after (va_runSU (As := As) (rest := rest) (b := ge_ad X.1 p) (nL := y.2.2.1) (Ts := ge_tbl) (own := y.1.cls) (C := q.1) (C.2.2.2.2.2.2.2.1.1 ci q hq).2 ⟨C.1, C.2.1, C.2.2.1, C.2.2.2.1, C.2.2.2.2.1⟩ (hM lc) (va_cwSU (own := y.1.cls) (index := idx) n C.2.2.2.2.1 (ge_gin (y := y) (y' := y') hc2 hc1) rfl rfl rfl hc3 hd.room)
    ⟨ge_blind X S g _, va_recv C.2.2.2.2.2.2.2.1 hH.1 hq (ge_w_get X S g hs), fun U hU hW => ⟨rfl, by rw [hU]; exact hH, ge_K_moved hW hU hS C.2.2.2.2.2.2.2⟩⟩ rfl hn hls.1 hst (lv_room hr) dg ⟨Nat.zero_le _, Nat.zero_le _⟩) hS ?_
  intro v g' hv H1 locs1 hH1 hS1
  exact kk v g' hv pr lc e s m args below meth c H1 locs1 ls C hH1 hS1 hls
end R4
