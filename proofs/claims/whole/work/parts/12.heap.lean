/-- the pool entry idx of class own names field k of class ci (of the world's classes) -/
def ge_fl (own : String) (idx ci k : Nat) : Prop := ∃ (C : String) (T : u_T) (N : Nat) (ref : String), vwCl[ci]? = some (C, T, N) ∧ k < N ∧ (∀ w ∈ u_ws C T N, w ∈ ge_tbl) ∧ Cond.fieldLink own idx ref (T k).2.1 (T k).2.2.1 ∈ ge_tbl ∧ (ref = (T k).1 ∨ Cond.sameField ref (T k).1 (T k).2.1 (T k).2.2.1 ∈ ge_tbl)
/-- .. and it may be written: its type -/
def ge_fp (own : String) (idx ci k : Nat) (ty : FieldType) : Prop := ∃ (C : String) (T : u_T) (N : Nat) (ref : String) (t0 : Nat → FieldType), vwCl[ci]? = some (C, T, N) ∧ k < N ∧ (∀ w ∈ u_ws C T N, w ∈ ge_tbl) ∧ Cond.fieldLink own idx ref (T k).2.1 (T k).2.2.1 ∈ ge_tbl ∧ (ref = (T k).1 ∨ Cond.sameField ref (T k).1 (T k).2.1 (T k).2.2.1 ∈ ge_tbl) ∧
  (∀ k, k < N → parseFieldDescriptor (T k).2.2.1 = some (t0 k)) ∧ (∀ a, a < N → ∀ b, b < N → a ≠ b → (T a).2.1 ≠ (T b).2.1) ∧ (T k).2.2.2 = false ∧ parseFieldDescriptor (T k).2.2.1 = some ty
theorem ge_sm {args : Array Value} {s : State} {ref : String} {T : u_T} {k : Nat} (hts : ∀ w ∈ ge_tbl, w.before args s = true) (h : ref = (T k).1 ∨ Cond.sameField ref (T k).1 (T k).2.1 (T k).2.2.1 ∈ ge_tbl) :
    ∀ x, s.fieldFound? (T k).1 (T k).2.1 (T k).2.2.1 = some x → s.fieldFound? ref (T k).2.1 (T k).2.2.1 = some x := by
  intro x hx
  rcases h with rfl | h
  · exact hx
  · exact u_same (hts _ h) x hx
section R3
variable {X : ge_X} {S : List ge_S} {y : ge_Y} {d : Nat} {Q : Option Value → ge_G → Prop} {l : List (Nat × Value)} {st : List Value} {g : ge_G} {pc : Nat}
theorem ge_getv {idx p ci k : Nat} {fs : List ge_F} {b : ge_F} {v : Value} (dg : decode y.2.1 pc = .ok (.getfield idx, 3)) (hf : ge_fl y.1.cls idx ci k) (hs : S[p]? = some (.inl (ci, fs))) (hb : fs[k]? = some b) (hv : ge_v X.1 (g p k) b = v)
    (kk : ge_A X S y d Q (pc + 3) l (v :: st) g) : ge_A X S y d Q pc l (.ref (ge_ad X.1 p) :: st) g := by
  intro pr lc e s m args below meth c H locs ls C hH hS hls
  obtain ⟨Cn, T, N, ref, h1, h2, h3, h4, h5⟩ := hf
  refine va_get (D := X.2.2.1) (cl := vwCl) (tys := ge_ty X) (ws := ge_w X S g) (ci := ci) (C := Cn) (T := T) (N := N) (v := v) C.1 C.2.1 (C.2.2.2.2.1) h3 C.2.2.2.1 C.2.2.2.2.2.2.2.1 hH.1 p (ge_w_get X S g hs) h1 k h2 (C.2.2.2.2.1 _ h4) (ge_sm C.2.2.2.2.1 h5) ?_ dg (kk pr lc e s m args below meth c H locs ls C hH hS hls)
  simp [hb, hv]
theorem ge_geti {idx p ci k : Nat} {fs : List ge_F} (dg : decode y.2.1 pc = .ok (.getfield idx, 3)) (hf : ge_fl y.1.cls idx ci k) (hs : S[p]? = some (.inl (ci, fs))) (hb : fs[k]? = some none)
    (kk : ge_A X S y d Q (pc + 3) l (.int (g p k) :: st) g) : ge_A X S y d Q pc l (.ref (ge_ad X.1 p) :: st) g := ge_getv dg hf hs hb rfl kk
theorem ge_getr {idx p ci k r : Nat} {fs : List ge_F} (dg : decode y.2.1 pc = .ok (.getfield idx, 3)) (hf : ge_fl y.1.cls idx ci k) (hs : S[p]? = some (.inl (ci, fs))) (hb : fs[k]? = some (some (true, r)))
    (kk : ge_A X S y d Q (pc + 3) l (.ref (ge_ad X.1 r) :: st) g) : ge_A X S y d Q pc l (.ref (ge_ad X.1 p) :: st) g := ge_getv dg hf hs hb rfl kk
theorem ge_geto {idx p ci k r : Nat} {fs : List ge_F} (dg : decode y.2.1 pc = .ok (.getfield idx, 3)) (hf : ge_fl y.1.cls idx ci k) (hs : S[p]? = some (.inl (ci, fs))) (hb : fs[k]? = some (some (false, r))) (hn : ¬ g p k = 0)
    (kk : ge_A X S y d Q (pc + 3) l (.ref (ge_ad X.1 r) :: st) g) : ge_A X S y d Q pc l (.ref (ge_ad X.1 p) :: st) g := ge_getv dg hf hs hb (if_neg hn) kk
theorem ge_wo {X : ge_X} {S : List ge_S} {g : ge_G} {p ci k : Nat} {fs : List ge_F} {b : ge_F} {v : Value} (x : Int32) (hs : S[p]? = some (.inl (ci, fs))) (hb : fs[k]? = some b) (hv : ge_v X.1 x b = v) :
    (ge_w X S g).set p (ge_ad X.1 p, .inr (ci, (fs.mapIdx (fun k a => ge_v X.1 (g p k) a)).set k v)) = ge_w X S (ge_up g p k x) := by
  rw [ge_fs_set X.1 (g p) fs k x v b hb hv]
  exact ge_w_row X S g hs (upd (g p) k x)
theorem ge_putv {idx p ci k : Nat} {fs : List ge_F} {b : ge_F} {v : Value} {ty : FieldType} (x : Int32) (dg : decode y.2.1 pc = .ok (.putfield idx, 3)) (hf : ge_fp y.1.cls idx ci k ty) (hs : S[p]? = some (.inl (ci, fs))) (hb : fs[k]? = some b) (hv : ge_v X.1 x b = v) (hn : narrow ty v = v) (hfit : fits ty v = true)
    (kk : ge_A X S y d Q (pc + 3) l st (ge_up g p k x)) : ge_A X S y d Q pc l (v :: .ref (ge_ad X.1 p) :: st) g := by
  intro pr lc e s m args below meth c H locs ls C hH hS hls
  obtain ⟨Cn, T, N, ref, t0, h1, h2, h3, h4, h5, h6, h7, h8, h9⟩ := hf
  have hkl : k < fs.length := (List.getElem?_eq_some_iff.mp hb).1
  refine va_put (D := X.2.2.1) (cl := vwCl) (tys := ge_ty X) (ws := ge_w X S g) (ci := ci) (C := Cn) (T := T) (N := N) (v := v) (ty := ty) C.1 C.2.1 (C.2.2.2.2.1) h3 t0 h6 h7 C.2.2.2.1 C.2.2.2.2.2.2.2.1 hH.1 hH.2 hS p (ge_w_get X S g hs) h1 k h2 (C.2.2.2.2.1 _ h4) (ge_sm C.2.2.2.2.1 h5) h8 h9 hn hfit (by simp [hkl]) dg ?_
  intro H1 locs1 hP1 hD1 hS1
  rw [ge_wo x hs hb hv] at hP1 hD1
  exact kk pr lc e s m args below meth c H1 locs1 ls C ⟨hP1, hD1⟩ hS1 hls
theorem ge_puti {idx p ci k : Nat} {fs : List ge_F} {x : Int32} (dg : decode y.2.1 pc = .ok (.putfield idx, 3)) (hf : ge_fp y.1.cls idx ci k .int) (hs : S[p]? = some (.inl (ci, fs))) (hb : fs[k]? = some none)
    (kk : ge_A X S y d Q (pc + 3) l st (ge_up g p k x)) : ge_A X S y d Q pc l (.int x :: .ref (ge_ad X.1 p) :: st) g := ge_putv x dg hf hs hb rfl rfl rfl kk
theorem ge_putz {idx p ci k : Nat} {fs : List ge_F} {x : Int32} (dg : decode y.2.1 pc = .ok (.putfield idx, 3)) (hf : ge_fp y.1.cls idx ci k .boolean) (hs : S[p]? = some (.inl (ci, fs))) (hb : fs[k]? = some none) (hx : narrow .boolean (.int x) = .int x ∧ fits .boolean (.int x) = true)
    (kk : ge_A X S y d Q (pc + 3) l st (ge_up g p k x)) : ge_A X S y d Q pc l (.int x :: .ref (ge_ad X.1 p) :: st) g := ge_putv x dg hf hs hb rfl hx.1 hx.2 kk
theorem ge_puto {idx p ci k r : Nat} {fs : List ge_F} {cn : String} (dg : decode y.2.1 pc = .ok (.putfield idx, 3)) (hf : ge_fp y.1.cls idx ci k (.object cn)) (hs : S[p]? = some (.inl (ci, fs))) (hb : fs[k]? = some (some (false, r)))
    (kk : ge_A X S y d Q (pc + 3) l st (ge_up g p k 1)) : ge_A X S y d Q pc l (.ref (ge_ad X.1 r) :: .ref (ge_ad X.1 p) :: st) g := ge_putv 1 dg hf hs hb rfl rfl rfl kk
/-- a number that is an index below n -/
theorem ge_ix {i : Int32} {j n : Nat} (hi : i = nI j) (hj : j < n) (hn : n < 1000) : vp_in i n ∧ i.toNatClampNeg = j := by
  subst hi
  exact ⟨vp_in_nI hj (by omega), nI_clamp (by omega)⟩
theorem ge_wa {X : ge_X} {S : List ge_S} {g : ge_G} {p n : Nat} {f : Nat → Int32} (hs : S[p]? = some (.inr (.inl n))) : (ge_w X S g).set p (ge_ad X.1 p, .inl (X.2.2.2.1, n, .inl f)) = ge_w X S (ge_row g p f) := ge_w_row X S g hs f
theorem ge_ald {p n : Nat} {i : Int32} {j : Nat} (dg : decode y.2.1 pc = .ok (.iaload, 1)) (hs : S[p]? = some (.inr (.inl n))) (hi : i = nI j) (hj : j < n) (hn : n < 1000)
    (kk : ge_A X S y d Q (pc + 1) l (.int (g p j) :: st) g) : ge_A X S y d Q pc l (.int i :: .ref (ge_ad X.1 p) :: st) g := by
  intro pr lc e s m args below meth c H locs ls C hH hS hls
  obtain ⟨h1, h2⟩ := ge_ix hi hj hn
  subst h2
  exact va_iald (D := X.2.2.1) (cl := vwCl) (tys := ge_ty X) (ws := ge_w X S g) C.1 C.2.1 C.2.2.2.2.2.2.2.1 hH.1 p 0 (ge_w_get X S g hs) rfl h1 dg (kk pr lc e s m args below meth c H locs ls C hH hS hls)
theorem ge_ast {p n : Nat} {i x : Int32} {j : Nat} (dg : decode y.2.1 pc = .ok (.iastore, 1)) (hs : S[p]? = some (.inr (.inl n))) (hi : i = nI j) (hj : j < n) (hn : n < 1000)
    (kk : ge_A X S y d Q (pc + 1) l st (ge_up g p j x)) : ge_A X S y d Q pc l (.int x :: .int i :: .ref (ge_ad X.1 p) :: st) g := by
  intro pr lc e s m args below meth c H locs ls C hH hS hls
  obtain ⟨h1, h2⟩ := ge_ix hi hj hn
  subst h2
  refine va_iast (D := X.2.2.1) (cl := vwCl) (tys := ge_ty X) (ws := ge_w X S g) C.1 C.2.1 C.2.2.2.2.2.2.2.1 hH.1 hH.2 hS p 0 (ge_w_get X S g hs) rfl h1 dg ?_
  intro H1 locs1 hP1 hD1 hS1
  rw [ge_wa hs] at hP1 hD1
  exact kk pr lc e s m args below meth c H1 locs1 ls C ⟨hP1, hD1⟩ hS1 hls
theorem ge_alen {p n : Nat} {v : Int32} (dg : decode y.2.1 pc = .ok (.arraylength, 1)) (hs : S[p]? = some (.inr (.inl n))) (hv : nI n = v)
    (kk : ge_A X S y d Q (pc + 1) l (.int v :: st) g) : ge_A X S y d Q pc l (.ref (ge_ad X.1 p) :: st) g := by
  intro pr lc e s m args below meth c H locs ls C hH hS hls
  exact va_alen (D := X.2.2.1) (cl := vwCl) (tys := ge_ty X) (ws := ge_w X S g) C.1 C.2.1 C.2.2.2.2.2.2.2.1 hH.1 p 0 (ge_w_get X S g hs) rfl hv dg (kk pr lc e s m args below meth c H locs ls C hH hS hls)
theorem ge_aald {p t r : Nat} {rs : List Nat} {i : Int32} {j : Nat} {cn : String} (dg : decode y.2.1 pc = .ok (.aaload, 1)) (hs : S[p]? = some (.inr (.inr (t, rs)))) (ht : (ge_ty X)[t + 1]? = some (X.2.2.2.2 t, .object cn)) (hi : i = nI j) (hr : rs[j]? = some r) (hn : rs.length < 1000)
    (kk : ge_A X S y d Q (pc + 1) l (.ref (ge_ad X.1 r) :: st) g) : ge_A X S y d Q pc l (.int i :: .ref (ge_ad X.1 p) :: st) g := by
  intro pr lc e s m args below meth c H locs ls C hH hS hls
  have hj : j < rs.length := (List.getElem?_eq_some_iff.mp hr).1
  obtain ⟨h1, h2⟩ := ge_ix hi hj hn
  refine va_aldq (D := X.2.2.1) (cl := vwCl) (tys := ge_ty X) (ws := ge_w X S g) C.1 C.2.1 C.2.2.2.2.2.2.2.1 hH.1 p (t + 1) (ge_w_get X S g hs) ht h1 dg ?_
  rw [h2, hr]
  exact kk pr lc e s m args below meth c H locs ls C hH hS hls
end R3
