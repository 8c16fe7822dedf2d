/-! THE CONSTRUCTORS' LOGIC: a world is a list of cells that grows (addresses as they come); nw_A: the walk, nw_M: a contract -/
abbrev nw_Z : Type := Nat × va_G × ClassId × (Nat → ClassId)
def nw_ty (Z : nw_Z) : List (ClassId × FieldType) := [(Z.2.2.1, .int), (Z.2.2.2 0, .object RX1), (Z.2.2.2 1, .object RX7)]
def nw_cs : List String := [RX0, RX2, RX3, RX5, RX6, RX8]
def nw_Kx (U : State) : Prop := va_AO RX1 U ∧ va_AO RX7 U ∧ ∀ C ∈ nw_cs, va_Nw (.castable C RX1) U
def nw_K (Z : nw_Z) (U : State) : Prop := va_K Z.2.1 vwCl (nw_ty Z) U ∧ nw_Kx U
theorem nw_K_moved {Z : nw_Z} {s U : State} (hW : s.WarmedH U.vm) (h : nw_K Z s) : nw_K Z U := ⟨va_K.moved hW.alike h.1, va_AO.moved hW.alike h.2.1, va_AO.moved hW.alike h.2.2.1, fun C hC => va_Nw.warmC hW (h.2.2.2 C hC)⟩
theorem nw_K_same {Z : nw_Z} {s U : State} (hv : U.vm = s.vm) (h : nw_K Z s) : nw_K Z U := by
  have ha : s.vm.Alike U.vm := by rw [hv]; exact Vm.Alike.refl _
  exact ⟨va_K.moved ha h.1, va_AO.moved ha h.2.1, va_AO.moved ha h.2.2.1, fun C hC => va_Nw.same rfl hv.symm (h.2.2.2 C hC)⟩
def nw_H (Z : nw_Z) (ws : va_W) (H : Heap) : Prop := va_P Z.2.1 vwCl ws H ∧ va_D (fun q => Z.1 ≤ q) ws
def nw_C (Z : nw_Z) (y : ge_Y) (p : Program) (s : State) (m : MethodId) (args : Array Value) (meth : Method) (c : Code) : Prop :=
  p.tables.exec = Jvm.exec ∧ c.code = y.2.1 ∧ c.maxLocals = y.2.2.1 ∧ s.vm.findClass y.1.cls = some m.cls ∧ (∀ w ∈ ge_tbl, w.before args s = true) ∧ meth.sig.returnType = y.2.2.2 ∧ meth.locks = false ∧ nw_K Z s ∧ meth.name = y.1.name ∧ Z.1 ≤ s.heap.size
def nw_R (d M S : Nat) : Room := { frames := d, cells := M, slots := S, locals := 48 * d }
def nw_Q (Z : nw_Z) (Q : Option Value → va_W → Prop) : Array Value → State → Outcome → State → Prop := fun _ st o t => ∃ (v : Option Value) (ws : va_W), o = .returned v ∧ Q v ws ∧ nw_H Z ws t.heap ∧ va_F (fun q => Z.1 ≤ q) st t
def nw_A (Z : nw_Z) (y : ge_Y) (d M S : Nat) (Q : Option Value → va_W → Prop) (pc : Nat) (l : List (Nat × Value)) (st : List Value) (ws : va_W) (k n : Nat) : Prop :=
  ∀ (p : Program) (lc : Launch) (e : Env) (s : State) (m : MethodId) (args : Array Value) (below : List Frame) (meth : Method) (c : Code) (H : Heap) (locs : List Loc) (ls : Array Slot),
    nw_C Z y p s m args meth c → nw_H Z ws H → va_S (fun q => Z.1 ≤ q) s.heap H locs → lv_has ls y.2.2.1 l →
    W p lc e (nw_R d M S) s m args below meth c H locs k n (MQ below (nw_Q Z Q) args s M S (fun q => Z.1 ≤ q)) (F0 m pc ls st)
def nw_P (Z : nw_Z) (ws : va_W) (a : List Value) : Array Value → State → Prop := va_Pc a (fun U => nw_H Z ws U.heap ∧ nw_K Z U ∧ Z.1 ≤ U.heap.size)
def nw_M (Z : nw_Z) (y : ge_Y) (d M S : Nat) (a : List Value) (ws : va_W) (Q : Option Value → va_W → Prop) : Prop :=
  ∀ lc : Launch, Met lc y.1 (Cond.code y.1 y.2.1 y.2.2.1 y.2.2.2 :: ge_tbl) (nw_R d M S) (nw_P Z ws a) (nw_Q Z Q) M S (fun q => Z.1 ≤ q)
theorem nw_at {pre blk : va_W} {i : Nat} {e : Nat × va_E} (h : blk[i]? = some e) : (pre ++ blk)[pre.length + i]? = some e := by
  rw [List.getElem?_append_right (Nat.le_add_right _ _), Nat.add_sub_cancel_left]
  exact h
theorem nw_st {pre blk : va_W} {i : Nat} {e : Nat × va_E} : (pre ++ blk).set (pre.length + i) e = pre ++ blk.set i e := by
  rw [List.set_append_right _ _ (Nat.le_add_right _ _), Nat.add_sub_cancel_left]
section N1
variable {Z : nw_Z} {y : ge_Y} {d M S : Nat} {Q : Option Value → va_W → Prop} {l : List (Nat × Value)} {st rest : List Value} {ws pre blk blk' : va_W} {pc k n : Nat}
theorem nw_ofA {a : List Value} (hy : plainName y.1.cls = true) (hn : (lg_sl a).length ≤ y.2.2.1) (hl : lv_args 0 a = l) (kk : nw_A Z y d M S Q 0 l [] ws 0 0) : nw_M Z y d M S a ws Q := by
  intro lc
  refine Met.ofW (cc := y.2.1) (maxL := y.2.2.1) (ret := y.2.2.2) hy rfl ?_
  intro p e s m args below meth c s₁ B hml hv
  obtain ⟨rfl, hH, hK, hz⟩ := hv
  have hts := atoms_spec (ws := Cond.code y.1 y.2.1 y.2.2.1 y.2.2.2 :: ge_tbl) B.pre
  have hown : s.vm.findClass y.1.cls = some m.cls := findClass_of_methodNamed B.named
  have hnm : meth.name = y.1.name := (name_of_methodNamed B.named B.method).1
  have he := lv_entry a (n := y.2.2.1) hn
  rw [hl] at he
  rw [lg_entry_eq]
  exact kk p lc e s m _ below meth c s.heap [] _ ⟨B.exec, B.bytes, hml, hown, fun w h => hts w (List.mem_cons_of_mem _ h), B.returns, B.notSynchronized, hK, hnm, hz⟩ hH va_S.rf he
theorem nw_sub {l' : List (Nat × Value)} (ks : List Nat) (hl : lv_pick l ks = l') (kk : nw_A Z y d M S Q pc l' st ws k n) : nw_A Z y d M S Q pc l st ws k n := by
  intro p lc e s m args below meth c H locs ls C hH hS hls
  exact kk p lc e s m args below meth c H locs ls C hH hS (lv_sub hls ks hl)
theorem nw_to {ws' : va_W} (h : ws' = ws) (kk : nw_A Z y d M S Q pc l st ws k n) : nw_A Z y d M S Q pc l st ws' k n := h ▸ kk
theorem nw_vret (hr : y.2.2.2 = none) (dg : decode y.2.1 pc = .ok (.return_, 1)) (hq : Q none ws) : nw_A Z y d M S Q pc l [] ws M S := by
  intro p lc e s m args below meth c H locs ls C hH hS hls
  exact W.vret C.1 C.2.1 (C.2.2.2.2.2.1.trans hr) (fun t ht hW => ⟨_, ws, rfl, hq, by rw [ht]; exact hH, hS.F ht⟩) hS.2.2 dg C.2.2.2.2.2.2.1
theorem nw_iconst {j : Int} {v : Int32} (dg : decode y.2.1 pc = .ok (.iconst j, 1)) (hv : Int32.ofInt j = v) (kk : nw_A Z y d M S Q (pc + 1) l (.int v :: st) ws k n) : nw_A Z y d M S Q pc l st ws k n :=
  fun p lc e s m args below meth c H locs ls C hH hS hls => lv_iconst C.1 C.2.1 dg hv (kk p lc e s m args below meth c H locs ls C hH hS hls)
theorem nw_bipush {j : Int} {v : Int32} (dg : decode y.2.1 pc = .ok (.bipush j, 2)) (hv : (Int8.ofInt j).toInt32 = v) (kk : nw_A Z y d M S Q (pc + 2) l (.int v :: st) ws k n) : nw_A Z y d M S Q pc l st ws k n :=
  fun p lc e s m args below meth c H locs ls C hH hS hls => lv_bipush C.1 C.2.1 dg hv (kk p lc e s m args below meth c H locs ls C hH hS hls)
theorem nw_sipush {j : Int} {v : Int32} (dg : decode y.2.1 pc = .ok (.sipush j, 3)) (hv : (Int16.ofInt j).toInt32 = v) (kk : nw_A Z y d M S Q (pc + 3) l (.int v :: st) ws k n) : nw_A Z y d M S Q pc l st ws k n :=
  fun p lc e s m args below meth c H locs ls C hH hS hls => lv_sipush C.1 C.2.1 dg hv (kk p lc e s m args below meth c H locs ls C hH hS hls)
theorem nw_iload_n {i : Fin 4} {x : Int32} (dg : decode y.2.1 pc = .ok (.iload_n i, 1)) (hl : l.lookup (i : Nat) = some (.int x)) (kk : nw_A Z y d M S Q (pc + 1) l (.int x :: st) ws k n) : nw_A Z y d M S Q pc l st ws k n :=
  fun p lc e s m args below meth c H locs ls C hH hS hls => lv_iload_n C.1 C.2.1 dg rfl (ge_at hls hl) (kk p lc e s m args below meth c H locs ls C hH hS hls)
theorem nw_aload_n {i : Fin 4} {x : Nat} (dg : decode y.2.1 pc = .ok (.aload_n i, 1)) (hl : l.lookup (i : Nat) = some (.ref x)) (kk : nw_A Z y d M S Q (pc + 1) l (.ref x :: st) ws k n) : nw_A Z y d M S Q pc l st ws k n :=
  fun p lc e s m args below meth c H locs ls C hH hS hls => lv_aload_n C.1 C.2.1 dg rfl (ge_at hls hl) (kk p lc e s m args below meth c H locs ls C hH hS hls)
theorem nw_istore_n {i : Fin 4} {x : Int32} {l' : List (Nat × Value)} (dg : decode y.2.1 pc = .ok (.istore_n i, 1)) (hn : (i : Nat) < y.2.2.1) (hl : ((i : Nat), Value.int x) :: ge_lf i l = l') (kk : nw_A Z y d M S Q (pc + 1) l' st ws k n) : nw_A Z y d M S Q pc l (.int x :: st) ws k n :=
  fun p lc e s m args below meth c H locs ls C hH hS hls => lv_istore_n C.1 C.2.1 dg rfl hls hn hl (fun ls' h' => kk p lc e s m args below meth c H locs ls' C hH hS h')
theorem nw_astore_n {i : Fin 4} {x : Nat} {l' : List (Nat × Value)} (dg : decode y.2.1 pc = .ok (.astore_n i, 1)) (hn : (i : Nat) < y.2.2.1) (hl : ((i : Nat), Value.ref x) :: ge_lf i l = l') (kk : nw_A Z y d M S Q (pc + 1) l' st ws k n) : nw_A Z y d M S Q pc l (.ref x :: st) ws k n :=
  fun p lc e s m args below meth c H locs ls C hH hS hls => lv_astore_n C.1 C.2.1 dg rfl hls hn hl (fun ls' h' => kk p lc e s m args below meth c H locs ls' C hH hS h')
theorem nw_iinc {i : Nat} {j : Int} {x v : Int32} {l' : List (Nat × Value)} (dg : decode y.2.1 pc = .ok (.iinc i j, 3)) (hx : l.lookup i = some (.int x)) (hv : x + Int32.ofInt j = v) (hn : i < y.2.2.1) (hl : (i, Value.int v) :: ge_lf i l = l') (kk : nw_A Z y d M S Q (pc + 3) l' st ws k n) : nw_A Z y d M S Q pc l st ws k n := by
  intro p lc e s m args below meth c H locs ls C hH hS hls
  obtain ⟨j, hj⟩ := List.getElem?_of_mem (ge_lk hx)
  exact lv_iinc C.1 C.2.1 dg hls hj hv hn hl (fun ls' h' => kk p lc e s m args below meth c H locs ls' C hH hS h')
theorem nw_iadd {x z v : Int32} (dg : decode y.2.1 pc = .ok (.iadd, 1)) (hv : x + z = v) (kk : nw_A Z y d M S Q (pc + 1) l (.int v :: st) ws k n) : nw_A Z y d M S Q pc l (.int z :: .int x :: st) ws k n := by
  subst hv
  exact fun p lc e s m args below meth c H locs ls C hH hS hls => lv_iadd C.1 C.2.1 dg (kk p lc e s m args below meth c H locs ls C hH hS hls)
theorem nw_dup {v : Value} (dg : decode y.2.1 pc = .ok (.dup, 1)) (hv : v.category = 1) (kk : nw_A Z y d M S Q (pc + 1) l (v :: v :: st) ws k n) : nw_A Z y d M S Q pc l (v :: st) ws k n :=
  fun p lc e s m args below meth c H locs ls C hH hS hls => lv_dup C.1 C.2.1 dg hv (kk p lc e s m args below meth c H locs ls C hH hS hls)
theorem nw_goto {off : Int} (tgt : Nat) (dg : decode y.2.1 pc = .ok (.goto off, 3)) (ht : (pc : Int) + off = (tgt : Int)) (kk : nw_A Z y d M S Q tgt l st ws k n) : nw_A Z y d M S Q pc l st ws k n :=
  fun p lc e s m args below meth c H locs ls C hH hS hls => lv_goto C.1 C.2.1 dg ht (kk p lc e s m args below meth c H locs ls C hH hS hls)
theorem nw_ic_geY {x z : Int32} {off : Int} (tgt : Nat) (dg : decode y.2.1 pc = .ok (.if_icmp .ge off, 3)) (ht : (pc : Int) + off = (tgt : Int)) (h : z ≤ x) (kk : nw_A Z y d M S Q tgt l st ws k n) : nw_A Z y d M S Q pc l (.int z :: .int x :: st) ws k n :=
  fun p lc e s m args below meth c H locs ls C hH hS hls => lv_icmp_ge C.1 C.2.1 dg ht (fun _ => kk p lc e s m args below meth c H locs ls C hH hS hls) (fun q => absurd h q)
theorem nw_ic_geN {x z : Int32} {off : Int} (tgt : Nat) (dg : decode y.2.1 pc = .ok (.if_icmp .ge off, 3)) (ht : (pc : Int) + off = (tgt : Int)) (h : ¬ z ≤ x) (kk : nw_A Z y d M S Q (pc + 3) l st ws k n) : nw_A Z y d M S Q pc l (.int z :: .int x :: st) ws k n :=
  fun p lc e s m args below meth c H locs ls C hH hS hls => lv_icmp_ge C.1 C.2.1 dg ht (fun q => absurd q h) (fun _ => kk p lc e s m args below meth c H locs ls C hH hS hls)
/-- Object's own constructor -/
def nw_oi (own : String) (idx : Nat) : Prop := Cond.methodLink own idx objectInit ∈ ge_tbl ∧ Cond.instanceMethod objectInit ∈ ge_tbl ∧ Cond.code objectInit ⟨#[0xb1]⟩ 1 none ∈ ge_tbl
theorem nw_obj {idx a : Nat} (dg : decode y.2.1 pc = .ok (.invokespecial idx, 3)) (hw : nw_oi y.1.cls idx) (hd : 1 ≤ d) (kk : nw_A Z y d M S Q (pc + 3) l [] ws k n) : nw_A Z y d M S Q pc l [.ref a] ws k n :=
  fun p lc e s m args below meth c H locs ls C hH hS hls => W.objInit C.1 C.2.1 C.2.2.2.1 (C.2.2.2.2.1 _ hw.1) (C.2.2.2.2.1 _ hw.2.1) (C.2.2.2.2.1 _ hw.2.2) rfl (by rw [C.2.2.1]; exact hls.1) rfl dg hd (by show 0 + 0 + 12 ≤ 48 * d; omega) (kk p lc e s m args below meth c H locs ls C hH hS hls)
theorem nw_get {idx a i ci j : Nat} {fs : List Value} {v : Value} (dg : decode y.2.1 pc = .ok (.getfield idx, 3)) (hf : ge_fl y.1.cls idx ci j) (hs : blk[i]? = some (a, .inr (ci, fs))) (hv : fs[j]? = some v)
    (kk : nw_A Z y d M S Q (pc + 3) l (v :: st) (pre ++ blk) k n) : nw_A Z y d M S Q pc l (.ref a :: st) (pre ++ blk) k n := by
  intro pr lc e s m args below meth c H locs ls C hH hS hls
  obtain ⟨Cn, T, N, ref, h1, h2, h3, h4, h5⟩ := hf
  exact va_get (D := Z.2.1) (cl := vwCl) (tys := nw_ty Z) (ws := pre ++ blk) (ci := ci) (C := Cn) (T := T) (N := N) (v := v) C.1 C.2.1 (C.2.2.2.2.1) h3 C.2.2.2.1 C.2.2.2.2.2.2.2.1.1 hH.1 (pre.length + i) (nw_at hs) h1 j h2 (C.2.2.2.2.1 _ h4) (ge_sm C.2.2.2.2.1 h5) hv dg (kk pr lc e s m args below meth c H locs ls C hH hS hls)
theorem nw_put {idx a i ci j : Nat} {fs fs' : List Value} {v : Value} {ty : FieldType} (dg : decode y.2.1 pc = .ok (.putfield idx, 3)) (hf : ge_fp y.1.cls idx ci j ty) (hs : blk[i]? = some (a, .inr (ci, fs))) (hj : j < fs.length) (hn : narrow ty v = v) (hfit : fits ty v = true) (hb : blk.set i (a, .inr (ci, fs.set j v)) = blk')
    (kk : nw_A Z y d M S Q (pc + 3) l st (pre ++ blk') k n) : nw_A Z y d M S Q pc l (v :: .ref a :: st) (pre ++ blk) k n := by
  intro pr lc e s m args below meth c H locs ls C hH hS hls
  obtain ⟨Cn, T, N, ref, t0, h1, h2, h3, h4, h5, h6, h7, h8, h9⟩ := hf
  refine va_put (D := Z.2.1) (cl := vwCl) (tys := nw_ty Z) (ws := pre ++ blk) (ci := ci) (C := Cn) (T := T) (N := N) (v := v) (ty := ty) C.1 C.2.1 (C.2.2.2.2.1) h3 t0 h6 h7 C.2.2.2.1 C.2.2.2.2.2.2.2.1.1 hH.1 hH.2 hS (pre.length + i) (nw_at hs) h1 j h2 (C.2.2.2.2.1 _ h4) (ge_sm C.2.2.2.2.1 h5) h8 h9 hn hfit hj dg ?_
  intro H1 locs1 hP1 hD1 hS1
  rw [nw_st, hb] at hP1 hD1
  exact kk pr lc e s m args below meth c H1 locs1 ls C ⟨hP1, hD1⟩ hS1 hls
/-- a final field, in its class's own constructor -/
def nw_fp (own : String) (idx ci k : Nat) (ty : FieldType) : Prop := ∃ (C : String) (T : u_T) (N : Nat) (ref : String) (t0 : Nat → FieldType), vwCl[ci]? = some (C, T, N) ∧ k < N ∧ (∀ w ∈ u_ws C T N, w ∈ ge_tbl) ∧ Cond.fieldLink own idx ref (T k).2.1 (T k).2.2.1 ∈ ge_tbl ∧ (ref = (T k).1 ∨ Cond.sameField ref (T k).1 (T k).2.1 (T k).2.2.1 ∈ ge_tbl) ∧
  (∀ k, k < N → parseFieldDescriptor (T k).2.2.1 = some (t0 k)) ∧ (∀ a, a < N → ∀ b, b < N → a ≠ b → (T a).2.1 ≠ (T b).2.1) ∧ (T k).2.2.2 = true ∧ (T k).1 = own ∧ parseFieldDescriptor (T k).2.2.1 = some ty
theorem nw_putF {idx a i ci j : Nat} {fs : List Value} {v : Value} {ty : FieldType} (dg : decode y.2.1 pc = .ok (.putfield idx, 3)) (hf : nw_fp y.1.cls idx ci j ty) (hy : y.1.name = "<init>") (hs : blk[i]? = some (a, .inr (ci, fs))) (hj : j < fs.length) (hn : narrow ty v = v) (hfit : fits ty v = true) (hb : blk.set i (a, .inr (ci, fs.set j v)) = blk')
    (kk : nw_A Z y d M S Q (pc + 3) l st (pre ++ blk') k n) : nw_A Z y d M S Q pc l (v :: .ref a :: st) (pre ++ blk) k n := by
  intro pr lc e s m args below meth c H locs ls C hH hS hls
  obtain ⟨Cn, T, N, ref, t0, h1, h2, h3, h4, h5, h6, h7, h8, h9, h10⟩ := hf
  refine va_putF (D := Z.2.1) (cl := vwCl) (tys := nw_ty Z) (ws := pre ++ blk) (ci := ci) (C := Cn) (T := T) (N := N) (v := v) (ty := ty) C.1 C.2.1 (C.2.2.2.2.1) h3 t0 h6 h7 C.2.2.2.1 C.2.2.2.2.2.2.2.1.1 hH.1 hH.2 hS (pre.length + i) (nw_at hs) h1 j h2 (C.2.2.2.2.1 _ h4) (ge_sm C.2.2.2.2.1 h5) h8 (C.2.2.2.2.2.2.2.2.1.trans hy) h9 h10 hn hfit hj dg ?_
  intro H1 locs1 hP1 hD1 hS1
  rw [nw_st, hb] at hP1 hD1
  exact kk pr lc e s m args below meth c H1 locs1 ls C ⟨hP1, hD1⟩ hS1 hls
/-- new -/
def nw_cl (own : String) (idx ci N : Nat) (fs : List Value) : Prop := ∃ (C : String) (T : u_T) (ty : Nat → FieldType), vwCl[ci]? = some (C, T, N) ∧ (∀ w ∈ u_ws C T N, w ∈ ge_tbl) ∧ (∀ k, k < N → parseFieldDescriptor (T k).2.2.1 = some (ty k)) ∧ Cond.classLink own idx C ∈ ge_tbl ∧ Cond.instantiable C N ∈ ge_tbl ∧ Cond.initialized C ∈ ge_tbl ∧ ∀ j, j < N → defaultValue (ty j) = vp_V fs j
theorem nw_new {idx ci N : Nat} {fs : List Value} (dg : decode y.2.1 pc = .ok (.new idx, 3)) (hc : nw_cl y.1.cls idx ci N fs) (hk : k + 1 ≤ M) (hn : n + N ≤ S)
    (kk : ∀ q : Nat, nw_A Z y d M S Q (pc + 3) l (.ref q :: st) (pre ++ (blk ++ [(q, .inr (ci, fs))])) (k + 1) (n + N)) : nw_A Z y d M S Q pc l st (pre ++ blk) k n := by
  intro pr lc e s m args below meth c H locs ls C hH hS hls
  obtain ⟨Cn, T, ty, h1, h3, h4, h5, h6, h7, h8⟩ := hc
  refine va_new (D := Z.2.1) (cl := vwCl) (tys := nw_ty Z) (ws := pre ++ blk) (ci := ci) (C := Cn) (T := T) (N := N) (fs := fs) C.1 C.2.1 C.2.2.2.2.1 h3 ty h4 C.2.2.2.1 (C.2.2.2.2.1 _ h5) (C.2.2.2.2.1 _ h6) (C.2.2.2.2.1 _ h7) C.2.2.2.2.2.2.2.1.1 hH.1 hH.2 hS (fun q hq => Nat.le_trans C.2.2.2.2.2.2.2.2.2 hq) h1 h8 hk hn dg ?_
  intro q H1 hP1 hD1 hS1
  rw [List.append_assoc] at hP1 hD1
  exact kk q pr lc e s m args below meth c H1 locs ls C ⟨hP1, hD1⟩ hS1 hls
/-- new int[N] -/
theorem nw_newi {v : Int32} {N : Nat} (dg : decode y.2.1 pc = .ok (.newarray .int, 2)) (hw : Cond.arrayClass .int ∈ ge_tbl) (hv : v = nI N) (hN : N < 1000) (hk : k + 1 ≤ M) (hn : n + N ≤ S)
    (kk : ∀ q : Nat, nw_A Z y d M S Q (pc + 2) l (.ref q :: st) (pre ++ (blk ++ [(q, .inl (Z.2.2.1, N, .inl (fun _ => 0)))])) (k + 1) (n + N)) : nw_A Z y d M S Q pc l (.int v :: st) (pre ++ blk) k n := by
  intro pr lc e s m args below meth c H locs ls C hH hS hls
  subst hv
  refine va_newa (atype := .int) (D := Z.2.1) (cl := vwCl) (tys := nw_ty Z) (ws := pre ++ blk) (a0 := (N, .inl (fun _ => 0))) C.1 C.2.1 (C.2.2.2.2.1 _ hw) (ty := .int) rfl C.2.2.2.2.2.2.2.1.1 hH.1 hH.2 hS (fun q hq => Nat.le_trans C.2.2.2.2.2.2.2.2.2 hq) (fun cA => by rw [vp_cell_i]; rfl) (nI_pos (by omega)) (nI_clamp (by omega)) (by show N * 4 ≤ 536870912; omega) hk hn dg ?_
  intro q cA H1 hK1 hP1 hD1 hS1
  have e1 : va_RA s cA .int := (hK1.2 3 (cA, .int) rfl).2
  have e2 : va_RA s Z.2.2.1 .int := (hK1.2 0 (Z.2.2.1, .int) rfl).2
  obtain rfl : cA = Z.2.2.1 := Option.some.inj (e1.symm.trans e2)
  rw [List.append_assoc] at hP1 hD1
  exact kk q pr lc e s m args below meth c H1 locs ls C ⟨hP1, hD1⟩ hS1 hls
/-- new C[N] -/
theorem nw_newq {v : Int32} {idx N t : Nat} {Cn : String} (dg : decode y.2.1 pc = .ok (.anewarray idx, 3)) (hw : Cond.classLink y.1.cls idx Cn ∈ ge_tbl) (ht : (nw_ty Z)[t + 1]? = some (Z.2.2.2 t, .object Cn)) (hC : Cn = RX1 ∨ Cn = RX7) (hv : v = nI N) (hN : N < 1000) (hk : k + 1 ≤ M) (hn : n + N ≤ S)
    (kk : ∀ q : Nat, nw_A Z y d M S Q (pc + 3) l (.ref q :: st) (pre ++ (blk ++ [(q, .inl (Z.2.2.2 t, N, .inr (.inr (.inr (.inr (fun _ => none))))))])) (k + 1) (n + N)) : nw_A Z y d M S Q pc l (.int v :: st) (pre ++ blk) k n := by
  intro pr lc e s m args below meth c H locs ls C hH hS hls
  subst hv
  have hAO : va_AO Cn s := by
    rcases hC with rfl | rfl
    · exact C.2.2.2.2.2.2.2.1.2.1
    · exact C.2.2.2.2.2.2.2.1.2.2.1
  refine va_newq (D := Z.2.1) (cl := vwCl) (tys := nw_ty Z) (ws := pre ++ blk) (C := Cn) C.1 C.2.1 C.2.2.2.1 (C.2.2.2.2.1 _ hw) hAO C.2.2.2.2.2.2.2.1.1 hH.1 hH.2 hS (fun q hq => Nat.le_trans C.2.2.2.2.2.2.2.2.2 hq) (nI_pos (by omega)) (nI_clamp (by omega)) (by omega) hk hn dg ?_
  intro q cA H1 hK1 hP1 hD1 hS1
  obtain ⟨-, -, -, -, -, e1⟩ : va_RA s cA (.object Cn) := (hK1.2 3 (cA, .object Cn) rfl).2
  obtain ⟨-, -, -, -, -, e2⟩ : va_RA s (Z.2.2.2 t) (.object Cn) := (C.2.2.2.2.2.2.2.1.1.2 (t + 1) _ ht).2
  obtain rfl : cA = Z.2.2.2 t := Option.some.inj (e1.symm.trans e2)
  rw [List.append_assoc] at hP1 hD1
  exact kk q pr lc e s m args below meth c H1 locs ls C ⟨hP1, hD1⟩ hS1 hls
theorem nw_iast {a i N j : Nat} {v x : Int32} {f : Nat → Int32} (dg : decode y.2.1 pc = .ok (.iastore, 1)) (hs : blk[i]? = some (a, .inl (Z.2.2.1, N, .inl f))) (hv : v = nI j) (hj : j < N) (hN : N < 1000) (hb : blk.set i (a, .inl (Z.2.2.1, N, .inl (upd f j x))) = blk')
    (kk : nw_A Z y d M S Q (pc + 1) l st (pre ++ blk') k n) : nw_A Z y d M S Q pc l (.int x :: .int v :: .ref a :: st) (pre ++ blk) k n := by
  intro pr lc e s m args below meth c H locs ls C hH hS hls
  obtain ⟨h1, h2⟩ := ge_ix hv hj hN
  subst h2
  refine va_iast (D := Z.2.1) (cl := vwCl) (tys := nw_ty Z) (ws := pre ++ blk) C.1 C.2.1 C.2.2.2.2.2.2.2.1.1 hH.1 hH.2 hS (pre.length + i) 0 (nw_at hs) rfl h1 dg ?_
  intro H1 locs1 hP1 hD1 hS1
  rw [nw_st, hb] at hP1 hD1
  exact kk pr lc e s m args below meth c H1 locs1 ls C ⟨hP1, hD1⟩ hS1 hls
theorem nw_alen {a i N : Nat} {v : Int32} {f : Nat → Int32} (dg : decode y.2.1 pc = .ok (.arraylength, 1)) (hs : blk[i]? = some (a, .inl (Z.2.2.1, N, .inl f))) (hv : nI N = v)
    (kk : nw_A Z y d M S Q (pc + 1) l (.int v :: st) (pre ++ blk) k n) : nw_A Z y d M S Q pc l (.ref a :: st) (pre ++ blk) k n := by
  intro pr lc e s m args below meth c H locs ls C hH hS hls
  exact va_alen (D := Z.2.1) (cl := vwCl) (tys := nw_ty Z) (ws := pre ++ blk) C.1 C.2.1 C.2.2.2.2.2.2.2.1.1 hH.1 (pre.length + i) 0 (nw_at hs) rfl hv dg (kk pr lc e s m args below meth c H locs ls C hH hS hls)
theorem nw_aast {a i N j t b i2 ci : Nat} {Cn : String} {r : vw_C} {v : Int32} {f : Nat → Option Nat} {vs : List Value} (dg : decode y.2.1 pc = .ok (.aastore, 1)) (hs : blk[i]? = some (a, .inl (Z.2.2.2 t, N, .inr (.inr (.inr (.inr f)))))) (ht : (nw_ty Z)[t + 1]? = some (Z.2.2.2 t, .object Cn)) (hv2 : blk[i2]? = some (b, .inr (ci, vs))) (hc : vwCl[ci]? = some r) (hC : r.1 = Cn ∨ (Cn = RX1 ∧ r.1 ∈ nw_cs)) (hv : v = nI j) (hj : j < N) (hN : N < 1000) (hb : blk.set i (a, .inl (Z.2.2.2 t, N, .inr (.inr (.inr (.inr (va_up f j (some b))))))) = blk')
    (kk : nw_A Z y d M S Q (pc + 1) l st (pre ++ blk') k n) : nw_A Z y d M S Q pc l (.ref b :: .int v :: .ref a :: st) (pre ++ blk) k n := by
  intro pr lc e s m args below meth c H locs ls C hH hS hls
  obtain ⟨h1, h2⟩ := ge_ix hv hj hN
  subst h2
  rcases hC with rfl | ⟨rfl, hC⟩
  · refine va_astq (D := Z.2.1) (cl := vwCl) (tys := nw_ty Z) (ws := pre ++ blk) C.1 C.2.1 C.2.2.2.2.2.2.2.1.1 hH.1 hH.2 hS (pre.length + i) (t + 1) (pre.length + i2) ci (nw_at hs) ht (nw_at hv2) hc h1 dg ?_
    intro H1 locs1 hP1 hD1 hS1
    rw [nw_st, hb] at hP1 hD1
    exact kk pr lc e s m args below meth c H1 locs1 ls C ⟨hP1, hD1⟩ hS1 hls
  · refine va_astqO (D := Z.2.1) (cl := vwCl) (tys := nw_ty Z) (ws := pre ++ blk) C.1 C.2.1 C.2.2.2.2.2.2.2.1.1 hH.1 hH.2 hS (pre.length + i) (t + 1) (pre.length + i2) ci (nw_at hs) ht (C.2.2.2.2.2.2.2.1.2.2.2 _ hC) (nw_at hv2) hc h1 dg ?_
    intro H1 locs1 hP1 hD1 hS1
    rw [nw_st, hb] at hP1 hD1
    exact kk pr lc e s m args below meth c H1 locs1 ls C ⟨hP1, hD1⟩ hS1 hls
theorem nw_aald {a i N j t b : Nat} {Cn : String} {v : Int32} {f : Nat → Option Nat} (dg : decode y.2.1 pc = .ok (.aaload, 1)) (hs : blk[i]? = some (a, .inl (Z.2.2.2 t, N, .inr (.inr (.inr (.inr f)))))) (ht : (nw_ty Z)[t + 1]? = some (Z.2.2.2 t, .object Cn)) (hv : v = nI j) (hj : j < N) (hN : N < 1000) (hf : f j = some b)
    (kk : nw_A Z y d M S Q (pc + 1) l (.ref b :: st) (pre ++ blk) k n) : nw_A Z y d M S Q pc l (.int v :: .ref a :: st) (pre ++ blk) k n := by
  intro pr lc e s m args below meth c H locs ls C hH hS hls
  obtain ⟨h1, h2⟩ := ge_ix hv hj hN
  subst h2
  refine va_aldq (D := Z.2.1) (cl := vwCl) (tys := nw_ty Z) (ws := pre ++ blk) C.1 C.2.1 C.2.2.2.2.2.2.2.1.1 hH.1 (pre.length + i) (t + 1) (nw_at hs) ht h1 dg ?_
  rw [hf]
  exact kk pr lc e s m args below meth c H locs ls C hH hS hls
theorem nw_blind (Z : nw_Z) (ws : va_W) (a : List Value) : FrameBlind (nw_P Z ws a) := by
  intro v U fr mk h
  obtain ⟨h1, h2, h3, h4⟩ := h
  exact ⟨h1, h2, nw_K_same (s := U) (U := U.calling fr mk v) rfl h3, h4⟩
theorem nw_after {p : Program} {lc : Launch} {e : Env} {R : Room} {s : State} {m : MethodId} {args : Array Value} {below : List Frame} {meth : Method} {c : Code} {H : Heap} {locs : List Loc} {cells slots mc ms : Nat} {Qw : State → Prop} {ls : Array Slot} {st0 : List Value} {a : Array Value} {Q' : Option Value → va_W → Prop} {H0 : Heap}
    (hr : va_Run p lc e R s m args below meth c H locs cells slots mc ms (F0 m pc ls st0) rest (nw_Q Z Q' a) (fun q => Z.1 ≤ q)) (hS : va_S (fun q => Z.1 ≤ q) H0 H locs)
    (kk : ∀ (v : Option Value) (ws' : va_W), Q' v ws' → ∀ (H1 : Heap) (locs1 : List Loc), nw_H Z ws' H1 → va_S (fun q => Z.1 ≤ q) H0 H1 locs1 → W p lc e R s m args below meth c H1 locs1 (cells + mc) (slots + ms) Qw (F0 m (pc + 3) ls (v.toList ++ rest))) :
    W p lc e R s m args below meth c H locs cells slots Qw (F0 m pc ls st0) := by
  intro T hT hX
  obtain ⟨v, st₀, t, T', L, h0, X', hL, e1, e2, ⟨v', ws', hv, hq, hH, hz, hk⟩, stp⟩ := hr T hT hX
  cases hv
  rw [h0] at hz hk
  obtain ⟨t2, a1, b1⟩ := kk v ws' hq T'.heap (locs ++ L) (by rw [e1]; exact hH)
    ⟨Nat.le_trans hS.1 (by rw [e1]; exact hz), fun q h1 h2 => by rw [e1, hk q (Nat.lt_of_lt_of_le h1 hS.1) h2]; exact hS.2.1 q h1 h2, fun q hq => by
      rcases List.mem_append.mp hq with h | h
      · exact hS.2.2 q h
      · exact hL q h⟩ T' rfl X'
  exact ⟨t2, stp t2 a1, b1⟩
/-- a call of a constructor -/
def nw_ci (own : String) (idx j : Nat) (ym : MethodName) (yb : ByteArray) (yl : Nat) : Prop := (Cond.methodLink own idx ym ∈ ge_tbl ∧ Cond.instanceMethod ym ∈ ge_tbl ∧ Cond.initialized ym.cls ∈ ge_tbl) ∧ Cond.code ym yb yl none ∈ ge_tbl ∧ ym.name = "<init>" ∧ (ym.cls ≠ "java/lang/invoke/MethodHandle" ∧ ym.cls ≠ "java/lang/invoke/VarHandle" ∧ (parseMethodDescriptor ym.desc).map (fun d => d.parameters.length) = some j) ∧ yl ≤ 29
theorem nw_callI {idx j b d' M' S' yl : Nat} {ym : MethodName} {yb : ByteArray} {As : List Value} {Q' : Option Value → va_W → Prop} (dg : decode y.2.1 pc = .ok (.invokespecial idx, 3)) (hc : nw_ci y.1.cls idx j ym yb yl) (hM : nw_M Z (ym, yb, yl, none) d' M' S' (.ref b :: As) ws Q') (hd : d' + 1 ≤ d)
    (hn : As.length = j) (hst : st = As.reverse ++ .ref b :: rest) (hr : (rest.map fun v => v.category).sum ≤ 8) (hk : k + M' ≤ M) (hs : n + S' ≤ S)
    (kk : ∀ (v : Option Value) (ws' : va_W), Q' v ws' → nw_A Z y d M S Q (pc + 3) l (v.toList ++ rest) ws' (k + M') (n + S')) : nw_A Z y d M S Q pc l st ws k n := by
  intro pr lc e s m args below meth c H locs ls C hH hS hls
  obtain ⟨⟨hc1, hc2, hc3⟩, hc4, hc5, hc6, hc7⟩ := hc
  refine nw_after (va_runI (As := As) (rest := rest) (b := b) (nL := y.2.2.1) (Ts := ge_tbl) (own := y.1.cls) ⟨C.1, C.2.1, C.2.2.1, C.2.2.2.1, C.2.2.2.2.1⟩ (hM lc) (cwI (own := y.1.cls) (index := idx) j C.2.2.2.2.1 (ge_gin (y := y) (y' := (ym, yb, yl, none)) (ws := []) hc4 (fun w h => by cases h)) rfl rfl rfl (C.2.2.2.2.1 _ hc3) (C.2.2.2.2.1 _ hc1) (C.2.2.2.2.1 _ hc2) hc5 hc6 ⟨hd, by show 8 + (yl + 11) + 48 * d' ≤ 48 * d; omega⟩)
    ⟨nw_blind Z ws _, fun U hU hW => ⟨rfl, by rw [hU]; exact hH, nw_K_moved hW C.2.2.2.2.2.2.2.1, by rw [hU]; exact Nat.le_trans C.2.2.2.2.2.2.2.2.2 hS.1⟩⟩ rfl hn hls.1 hst (lv_room hr) dg ⟨hk, hs⟩) hS ?_
  intro v ws' hv H1 locs1 hH1 hS1
  exact kk v ws' hv pr lc e s m args below meth c H1 locs1 ls C hH1 hS1 hls
theorem nw_callV {idx j b i ci d' M' S' : Nat} {y' : ge_Y} {As fs : List Value} {q : vw_C} {Q' : Option Value → va_W → Prop} (dg : decode y.2.1 pc = .ok (.invokevirtual idx, 3)) (hc : ge_cv y.1.cls idx j y') (hM : nw_M Z y' d' M' S' (.ref b :: As) (pre ++ blk) Q') (hd : ge_ok y' d' d)
    (hs : blk[i]? = some (b, .inr (ci, fs))) (hq : vwCl[ci]? = some q) (hq1 : q.1 = y'.1.cls) (hn : As.length = j) (hst : st = As.reverse ++ .ref b :: rest) (hr : (rest.map fun v => v.category).sum ≤ 8) (hk : k + M' ≤ M) (hs2 : n + S' ≤ S)
    (kk : ∀ (v : Option Value) (ws' : va_W), Q' v ws' → nw_A Z y d M S Q (pc + 3) l (v.toList ++ rest) ws' (k + M') (n + S')) : nw_A Z y d M S Q pc l st (pre ++ blk) k n := by
  intro pr lc e s m args below meth c H locs ls C hH hS hls
  obtain ⟨hc1, hc2, hc3⟩ := hc
  refine nw_after (va_runV (As := As) (rest := rest) (b := b) (nL := y.2.2.1) (Ts := ge_tbl) (own := y.1.cls) ⟨C.1, C.2.1, C.2.2.1, C.2.2.2.1, C.2.2.2.2.1⟩ (hM lc) (cwV (own := y.1.cls) (C := y'.1.cls) (index := idx) j C.2.2.2.2.1 (ge_gin (y := y) (y' := y') hc2 hc1) rfl rfl rfl ⟨rfl, hc3⟩ ⟨hd.1, by have := hd.1; have := hd.2; show 8 + (y'.2.2.1 + 11) + 48 * d' ≤ 48 * d; omega⟩)
    ⟨nw_blind Z (pre ++ blk) _, ?_, fun U hU hW => ⟨rfl, by rw [hU]; exact hH, nw_K_moved hW C.2.2.2.2.2.2.2.1, by rw [hU]; exact Nat.le_trans C.2.2.2.2.2.2.2.2.2 hS.1⟩⟩ rfl hn hls.1 hst (lv_room hr) dg ⟨hk, hs2⟩) hS ?_
  · rw [← hq1]
    exact va_recv C.2.2.2.2.2.2.2.1.1 hH.1 hq (nw_at hs)
  · intro v ws' hv H1 locs1 hH1 hS1
    exact kk v ws' hv pr lc e s m args below meth c H1 locs1 ls C hH1 hS1 hls
theorem nw_nf (h : blk = blk') (kk : nw_A Z y d M S Q pc l st (pre ++ blk') k n) : nw_A Z y d M S Q pc l st (pre ++ blk) k n := h ▸ kk
theorem nw_num {k' n' : Nat} (h1 : k = k') (h2 : n = n') (kk : nw_A Z y d M S Q pc l st ws k' n') : nw_A Z y d M S Q pc l st ws k n := h1 ▸ h2 ▸ kk
theorem nw_wide {k' n' : Nat} (h1 : k ≤ k') (h2 : n ≤ n') (kk : nw_A Z y d M S Q pc l st ws k' n') : nw_A Z y d M S Q pc l st ws k n :=
  fun p lc e s m args below meth c H locs ls C hH hS hls => W.widen (k := k') (n := n') h1 h2 (kk p lc e s m args below meth c H locs ls C hH hS hls)
/-- what a constructor leaves: the cells that were there, and its own block, by some x (the addresses) -/
def nw_po {T : Type} (pre : va_W) (B : T → va_W) : Option Value → va_W → Prop := fun v ws => v = none ∧ ∃ x : T, ws = pre ++ B x
/-- a call of a constructor on the cell that was made last -/
theorem nw_rI {idx j b d' M' S' yl : Nat} {ym : MethodName} {yb : ByteArray} {As : List Value} {fr : Nat × va_E} {T : Type} {B : T → va_W} (dg : decode y.2.1 pc = .ok (.invokespecial idx, 3)) (hc : nw_ci y.1.cls idx j ym yb yl) (hM : nw_M Z (ym, yb, yl, none) d' M' S' (.ref b :: As) ((pre ++ blk) ++ [fr]) (nw_po (pre ++ blk) B)) (hd : d' + 1 ≤ d)
    (hn : As.length = j) (hst : st = As.reverse ++ .ref b :: rest) (hr : (rest.map fun v => v.category).sum ≤ 8) (hk : k + M' ≤ M) (hs : n + S' ≤ S)
    (kk : ∀ x : T, nw_A Z y d M S Q (pc + 3) l rest (pre ++ (blk ++ B x)) (k + M') (n + S')) : nw_A Z y d M S Q pc l st (pre ++ (blk ++ [fr])) k n := by
  refine nw_to (List.append_assoc _ _ _).symm ?_
  refine nw_callI dg hc hM hd hn hst hr hk hs ?_
  rintro v ws' ⟨rfl, x, rfl⟩
  exact nw_to (List.append_assoc _ _ _) (kk x)
/-- the same in a method that has called none but its super's -/
theorem nw_rP {idx j b d' M' S' yl : Nat} {ym : MethodName} {yb : ByteArray} {As : List Value} {fr : Nat × va_E} {T : Type} {B : T → va_W} (dg : decode y.2.1 pc = .ok (.invokespecial idx, 3)) (hc : nw_ci y.1.cls idx j ym yb yl) (hM : nw_M Z (ym, yb, yl, none) d' M' S' (.ref b :: As) (pre ++ [fr]) (nw_po pre B)) (hd : d' + 1 ≤ d)
    (hn : As.length = j) (hst : st = As.reverse ++ .ref b :: rest) (hr : (rest.map fun v => v.category).sum ≤ 8) (hk : k + M' ≤ M) (hs : n + S' ≤ S)
    (kk : ∀ x : T, nw_A Z y d M S Q (pc + 3) l rest (pre ++ B x) (k + M') (n + S')) : nw_A Z y d M S Q pc l st (pre ++ [fr]) k n := by
  refine nw_callI dg hc hM hd hn hst hr hk hs ?_
  rintro v ws' ⟨rfl, x, rfl⟩
  exact kk x
end N1
