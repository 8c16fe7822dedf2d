/-! THE LOGIC: a state is one function g (place, slot) -> Int32 over a fixed shape S; ge_A: the walk of a method's body from pc on; ge_M: a method's contract; ge_Ret: a contract with one answer. -/
/-- the tables' words that hold in every frame -/
def ge_tbl : List Cond := lw_tbl.filter goodWord
theorem ge_in {w : Cond} (h : w ∈ lw_tbl) (hg : goodWord w = true) : w ∈ ge_tbl := List.mem_filter.mpr ⟨h, hg⟩
theorem ge_tb {w : Cond} (i : Nat) (h : tables_1[i]? = some w) (hg : goodWord w = true) : w ∈ ge_tbl := ge_in (List.mem_append_right _ (List.mem_of_getElem? h)) hg
theorem ge_sl {w : Cond} (i : Nat) (h : (k2_sels lw_privs)[i]? = some w) (hg : goodWord w = true) : w ∈ ge_tbl := ge_in (List.mem_append_left _ (List.mem_of_getElem? h)) hg
theorem ge_gd (w : Cond) (h : w ∈ ge_tbl) : goodWord w = true := (List.mem_filter.mp h).2
abbrev ge_G : Type := Nat → Nat → Int32
abbrev ge_F : Type := Option (Bool × Nat)
abbrev ge_S : Type := (Nat × List ge_F) ⊕ (Nat ⊕ (Nat × List Nat))
def ge_ad (z : Nat → Nat) (p : Nat) : Nat := z p
def ge_v (z : Nat → Nat) (x : Int32) : ge_F → Value
  | none => .int x
  | some (true, r) => .ref (ge_ad z r)
  | some (false, r) => if x = 0 then .null else .ref (ge_ad z r)
/-- the cells' addresses, the first of them, the classes' numbers and slots, the arrays' classes -/
abbrev ge_X : Type := (Nat → Nat) × Nat × va_G × ClassId × (Nat → ClassId)
def ge_e (X : ge_X) (f : Nat → Int32) : ge_S → va_E
  | .inl (ci, fs) => .inr (ci, fs.mapIdx (fun k a => ge_v X.1 (f k) a))
  | .inr (.inl n) => .inl (X.2.2.2.1, n, .inl f)
  | .inr (.inr (t, rs)) => .inl (X.2.2.2.2 t, rs.length, .inr (.inr (.inr (.inr (fun i => (rs[i]?).map (ge_ad X.1))))))
def ge_w (X : ge_X) (S : List ge_S) (g : ge_G) : va_W := S.mapIdx (fun p a => (ge_ad X.1 p, ge_e X (g p) a))
def ge_row (g : ge_G) (p : Nat) (f : Nat → Int32) : ge_G := fun q => if q = p then f else g q
def ge_up (g : ge_G) (p k : Nat) (x : Int32) : ge_G := ge_row g p (upd (g p) k x)
theorem ge_row_self (g : ge_G) (p : Nat) (f : Nat → Int32) : ge_row g p f p = f := by simp [ge_row]
theorem ge_row_ne (g : ge_G) {p q : Nat} (f : Nat → Int32) (h : q ≠ p) : ge_row g p f q = g q := by simp [ge_row, h]
theorem ge_up_self (g : ge_G) (p k : Nat) (x : Int32) : ge_up g p k x p k = x := by simp [ge_up, ge_row, upd]
theorem ge_up_at (g : ge_G) (p k j : Nat) (x : Int32) : ge_up g p k x p j = if j = k then x else g p j := by simp [ge_up, ge_row, upd]
theorem ge_up_row (g : ge_G) {p q : Nat} (k : Nat) (x : Int32) (h : q ≠ p) : ge_up g p k x q = g q := by simp [ge_up, ge_row, h]
theorem ge_w_get (X : ge_X) (S : List ge_S) (g : ge_G) {p : Nat} {a : ge_S} (h : S[p]? = some a) : (ge_w X S g)[p]? = some (ge_ad X.1 p, ge_e X (g p) a) := by
  simp [ge_w, h]
theorem ge_w_of {X : ge_X} {S : List ge_S} {g : ge_G} {k : Nat} {q : Nat × va_E} (h : (ge_w X S g)[k]? = some q) : q.1 = ge_ad X.1 k := by
  simp only [ge_w, List.getElem?_mapIdx, Option.map_eq_some_iff] at h
  obtain ⟨a, -, rfl⟩ := h
  rfl
theorem ge_w_row (X : ge_X) (S : List ge_S) (g : ge_G) {p : Nat} {a : ge_S} (h : S[p]? = some a) (f : Nat → Int32) : (ge_w X S g).set p (ge_ad X.1 p, ge_e X f a) = ge_w X S (ge_row g p f) := by
  apply List.ext_getElem?
  intro i
  by_cases hi : p = i
  · subst hi
    have hl : p < (ge_w X S g).length := by
      simp only [ge_w, List.length_mapIdx]
      exact (List.getElem?_eq_some_iff.mp h).1
    rw [List.getElem?_set_self hl, ge_w_get X S _ h, ge_row_self]
  · rw [List.getElem?_set_ne hi]
    simp only [ge_w, List.getElem?_mapIdx]
    rw [ge_row_ne g f (Ne.symm hi)]
theorem ge_fs_set (z : Nat → Nat) (f : Nat → Int32) (fs : List ge_F) (k : Nat) (x : Int32) (v : Value) (b : ge_F) (hk : fs[k]? = some b) (hv : ge_v z x b = v) :
    (fs.mapIdx (fun k a => ge_v z (f k) a)).set k v = fs.mapIdx (fun j a => ge_v z (upd f k x j) a) := by
  apply List.ext_getElem?
  intro i
  by_cases hi : k = i
  · subst hi
    have hl : k < (fs.mapIdx (fun k a => ge_v z (f k) a)).length := by
      simp only [List.length_mapIdx]
      exact (List.getElem?_eq_some_iff.mp hk).1
    rw [List.getElem?_set_self hl]
    simp [hk, upd, hv]
  · rw [List.getElem?_set_ne hi]
    simp only [List.getElem?_mapIdx]
    have : upd f k x i = f i := by simp [upd, Ne.symm hi]
    rw [this]
abbrev ge_Y : Type := MethodName × ByteArray × Nat × Option FieldType
def ge_R (d : Nat) : Room := { frames := d, cells := 0, slots := 0, locals := 48 * d }
def ge_ty (X : ge_X) : List (ClassId × FieldType) := [(X.2.2.2.1, .int), (X.2.2.2.2 0, .object RX1), (X.2.2.2.2 1, .object RX7)]
def ge_fv (X : ge_X) : Value := if ge_ad X.1 1020 = 0 then .null else .ref (ge_ad X.1 1021)
/-- the two texts that the reader compares with, and the JDK's own -/
def ge_T (X : ge_X) (U : State) : Prop := vk_R RX9 79 "bhm" (ge_ad X.1 1000) U ∧ vk_R RX9 81 "lrh" (ge_ad X.1 1001) U ∧
  vk_S 2 [3, 3] [[98, 104, 109], [108, 114, 104]] (fun i => ge_ad X.1 (1000 + i)) (fun i => ge_ad X.1 (1010 + i)) (fun q => X.2.1 ≤ q) U U.heap ∧ va_Z "java/lang/String" "COMPACT_STRINGS" "Z" (.int 1) (fun q => X.2.1 ≤ q) U U.heap ∧ va_Z "jdk/internal/util/Preconditions" "SIOOBE_FORMATTER" "Ljava/util/function/BiFunction;" (ge_fv X) (fun q => X.2.1 ≤ q) U U.heap
def ge_K (X : ge_X) (U : State) : Prop := va_K X.2.2.1 vwCl (ge_ty X) U ∧ ge_T X U
theorem ge_K_moved {X : ge_X} {s U : State} {H : Heap} {locs : List Loc} (hW : s.WarmedH U.vm) (hU : U.heap = H) (hS : va_S (fun q => X.2.1 ≤ q) s.heap H locs) (h : ge_K X s) : ge_K X U := by
  subst hU
  exact ⟨va_K.moved hW.alike h.1, vk_R.warm hW h.2.1, vk_R.warm hW h.2.2.1, vk_S.moved hW.alike (vk_S.kept h.2.2.2.1 hS.2.1), va_Z.moved hW.alike (va_Z.kept h.2.2.2.2.1 hS.2.1), va_Z.moved hW.alike (va_Z.kept h.2.2.2.2.2 hS.2.1)⟩
theorem ge_K_same {X : ge_X} {s U : State} (hv : U.vm = s.vm) (hh : U.heap = s.heap) (h : ge_K X s) : ge_K X U := by
  have ha : s.vm.Alike U.vm := by rw [hv]; exact Vm.Alike.refl _
  refine ⟨va_K.moved ha h.1, vk_R.same hv h.2.1, vk_R.same hv h.2.2.1, ?_, ?_, ?_⟩
  · rw [hh]; exact vk_S.moved ha h.2.2.2.1
  · rw [hh]; exact va_Z.moved ha h.2.2.2.2.1
  · rw [hh]; exact va_Z.moved ha h.2.2.2.2.2
def ge_C (X : ge_X) (y : ge_Y) (p : Program) (s : State) (m : MethodId) (args : Array Value) (meth : Method) (c : Code) : Prop :=
  p.tables.exec = Jvm.exec ∧ c.code = y.2.1 ∧ c.maxLocals = y.2.2.1 ∧ s.vm.findClass y.1.cls = some m.cls ∧ (∀ w ∈ ge_tbl, w.before args s = true) ∧ meth.sig.returnType = y.2.2.2 ∧ meth.locks = false ∧ ge_K X s
def ge_H (X : ge_X) (S : List ge_S) (g : ge_G) (H : Heap) : Prop := va_P X.2.2.1 vwCl (ge_w X S g) H ∧ va_D (fun q => X.2.1 ≤ q) (ge_w X S g)
def ge_Q (X : ge_X) (S : List ge_S) (Q : Option Value → ge_G → Prop) : Array Value → State → Outcome → State → Prop := fun _ st o t => ∃ (v : Option Value) (g : ge_G), o = .returned v ∧ Q v g ∧ ge_H X S g t.heap ∧ va_F (fun q => X.2.1 ≤ q) st t
def ge_A (X : ge_X) (S : List ge_S) (y : ge_Y) (d : Nat) (Q : Option Value → ge_G → Prop) (pc : Nat) (l : List (Nat × Value)) (st : List Value) (g : ge_G) : Prop :=
  ∀ (p : Program) (lc : Launch) (e : Env) (s : State) (m : MethodId) (args : Array Value) (below : List Frame) (meth : Method) (c : Code) (H : Heap) (locs : List Loc) (ls : Array Slot),
    ge_C X y p s m args meth c → ge_H X S g H → va_S (fun q => X.2.1 ≤ q) s.heap H locs → lv_has ls y.2.2.1 l →
    W p lc e (ge_R d) s m args below meth c H locs 0 0 (MQ below (ge_Q X S Q) args s 0 0 (fun q => X.2.1 ≤ q)) (F0 m pc ls st)
def ge_P (X : ge_X) (S : List ge_S) (g : ge_G) (a : List Value) : Array Value → State → Prop := va_Pc a (fun U => ge_H X S g U.heap ∧ ge_K X U)
def ge_M (X : ge_X) (S : List ge_S) (y : ge_Y) (d : Nat) (a : List Value) (g : ge_G) (Q : Option Value → ge_G → Prop) : Prop :=
  ∀ lc : Launch, Met lc y.1 (Cond.code y.1 y.2.1 y.2.2.1 y.2.2.2 :: ge_tbl) (ge_R d) (ge_P X S g a) (ge_Q X S Q) 0 0 (fun q => X.2.1 ≤ q)
def ge_Ret (X : ge_X) (S : List ge_S) (y : ge_Y) (d : Nat) (a : List Value) (g : ge_G) (v : Option Value) (g' : ge_G) : Prop := ge_M X S y d a g (fun v2 g2 => v2 = v ∧ g2 = g')
section R1
variable {X : ge_X} {S : List ge_S} {y : ge_Y} {d : Nat} {Q : Option Value → ge_G → Prop} {l : List (Nat × Value)} {st : List Value} {g : ge_G}
/-- a contract out of the walk of its body -/
theorem ge_ofA {a : List Value} (hy : plainName y.1.cls = true) (hn : (lg_sl a).length ≤ y.2.2.1) (hl : lv_args 0 a = l) (k : ge_A X S y d Q 0 l [] g) : ge_M X S y d a g Q := by
  intro lc
  refine Met.ofW (cc := y.2.1) (maxL := y.2.2.1) (ret := y.2.2.2) hy rfl ?_
  intro p e s m args below meth c s₁ B hml hv
  obtain ⟨rfl, hH, hK⟩ := hv
  have hts := atoms_spec (ws := Cond.code y.1 y.2.1 y.2.2.1 y.2.2.2 :: ge_tbl) B.pre
  have hown : s.vm.findClass y.1.cls = some m.cls := findClass_of_methodNamed B.named
  have he := lv_entry a (n := y.2.2.1) hn
  rw [hl] at he
  rw [lg_entry_eq]
  exact k p lc e s m _ below meth c s.heap [] _ ⟨B.exec, B.bytes, hml, hown, fun w h => hts w (List.mem_cons_of_mem _ h), B.returns, B.notSynchronized, hK⟩ hH va_S.rf he
theorem ge_retOf {a : List Value} {v : Option Value} {g' : ge_G} (h : ge_M X S y d a g (fun v2 g2 => v2 = v ∧ g2 = g')) : ge_Ret X S y d a g v g' := h
/-- the same locals, fewer or in another order -/
theorem ge_sub {pc : Nat} {l' : List (Nat × Value)} (ks : List Nat) (hl : lv_pick l ks = l') (k : ge_A X S y d Q pc l' st g) : ge_A X S y d Q pc l st g := by
  intro p lc e s m args below meth c H locs ls C hH hS hls
  exact k p lc e s m args below meth c H locs ls C hH hS (lv_sub hls ks hl)
theorem ge_mono {pc : Nat} {Q' : Option Value → ge_G → Prop} (hq : ∀ v g, Q v g → Q' v g) (k : ge_A X S y d Q pc l st g) : ge_A X S y d Q' pc l st g := by
  intro p lc e s m args below meth c H locs ls C hH hS hls T hT hX
  obtain ⟨t, h1, o, h2, h3, ⟨v, g1, h4, h5, h6⟩, h7⟩ := k p lc e s m args below meth c H locs ls C hH hS hls T hT hX
  exact ⟨t, h1, o, h2, h3, ⟨v, g1, h4, hq v g1 h5, h6⟩, h7⟩
theorem ge_iret {pc : Nat} {x : Int32} (hr : y.2.2.2 = some .int) (dg : decode y.2.1 pc = .ok (.ireturn, 1)) (hq : Q (some (.int x)) g) : ge_A X S y d Q pc l [.int x] g := by
  intro p lc e s m args below meth c H locs ls C hH hS hls
  exact W.iret C.1 C.2.1 (C.2.2.2.2.2.1.trans hr) (fun t ht hW => ⟨_, g, rfl, hq, by rw [ht]; exact hH, hS.F ht⟩) hS.2.2 dg C.2.2.2.2.2.2.1
theorem ge_zret {pc : Nat} {x : Int32} (hr : y.2.2.2 = some .boolean) (hx : narrow .boolean (.int x) = .int x) (dg : decode y.2.1 pc = .ok (.ireturn, 1)) (hq : Q (some (.int x)) g) : ge_A X S y d Q pc l [.int x] g := by
  intro p lc e s m args below meth c H locs ls C hH hS hls
  exact W.zret C.1 C.2.1 (C.2.2.2.2.2.1.trans hr) hx (fun t ht hW => ⟨_, g, rfl, hq, by rw [ht]; exact hH, hS.F ht⟩) hS.2.2 dg C.2.2.2.2.2.2.1
theorem ge_vret {pc : Nat} (hr : y.2.2.2 = none) (dg : decode y.2.1 pc = .ok (.return_, 1)) (hq : Q none g) : ge_A X S y d Q pc l [] g := by
  intro p lc e s m args below meth c H locs ls C hH hS hls
  exact W.vret C.1 C.2.1 (C.2.2.2.2.2.1.trans hr) (fun t ht hW => ⟨_, g, rfl, hq, by rw [ht]; exact hH, hS.F ht⟩) hS.2.2 dg C.2.2.2.2.2.2.1
end R1
