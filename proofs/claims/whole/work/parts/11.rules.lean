section R2
variable {X : ge_X} {S : List ge_S} {y : ge_Y} {d : Nat} {Q : Option Value → ge_G → Prop} {l : List (Nat × Value)} {st : List Value} {g : ge_G} {pc : Nat}
theorem ge_lk {l : List (Nat × Value)} {i : Nat} {v : Value} (h : l.lookup i = some v) : (i, v) ∈ l := by
  induction l with
  | nil => simp at h
  | cons q l ih =>
    obtain ⟨a, b⟩ := q
    by_cases hq : i = a
    · subst hq
      simp [List.lookup] at h
      simp [h]
    · have : (i == a) = false := by simp [hq]
      simp [List.lookup, this] at h
      exact List.mem_cons_of_mem _ (ih h)
theorem ge_at {ls : Array Slot} {nL : Nat} {l : List (Nat × Value)} (h : lv_has ls nL l) {i : Nat} {v : Value} (hk : l.lookup i = some v) : ls[i]? = some (.val v) := h.2.2 (i, v) (ge_lk hk)
theorem ge_iconst {n : Int} {v : Int32} (dg : decode y.2.1 pc = .ok (.iconst n, 1)) (hv : Int32.ofInt n = v) (k : ge_A X S y d Q (pc + 1) l (.int v :: st) g) : ge_A X S y d Q pc l st g :=
  fun p lc e s m args below meth c H locs ls C hH hS hls => lv_iconst C.1 C.2.1 dg hv (k p lc e s m args below meth c H locs ls C hH hS hls)
theorem ge_bipush {n : Int} {v : Int32} (dg : decode y.2.1 pc = .ok (.bipush n, 2)) (hv : (Int8.ofInt n).toInt32 = v) (k : ge_A X S y d Q (pc + 2) l (.int v :: st) g) : ge_A X S y d Q pc l st g :=
  fun p lc e s m args below meth c H locs ls C hH hS hls => lv_bipush C.1 C.2.1 dg hv (k p lc e s m args below meth c H locs ls C hH hS hls)
theorem ge_sipush {n : Int} {v : Int32} (dg : decode y.2.1 pc = .ok (.sipush n, 3)) (hv : (Int16.ofInt n).toInt32 = v) (k : ge_A X S y d Q (pc + 3) l (.int v :: st) g) : ge_A X S y d Q pc l st g :=
  fun p lc e s m args below meth c H locs ls C hH hS hls => lv_sipush C.1 C.2.1 dg hv (k p lc e s m args below meth c H locs ls C hH hS hls)
theorem ge_ldc {i : Nat} {v : Int32} (dg : decode y.2.1 pc = .ok (.ldc i, 2)) (hw : Cond.constant y.1.cls i v ∈ ge_tbl) (k : ge_A X S y d Q (pc + 2) l (.int v :: st) g) : ge_A X S y d Q pc l st g :=
  fun p lc e s m args below meth c H locs ls C hH hS hls => lv_ldc C.1 C.2.1 C.2.2.2.1 (C.2.2.2.2.1 _ hw) dg (k p lc e s m args below meth c H locs ls C hH hS hls)
theorem ge_ldcw {i : Nat} {v : Int32} (dg : decode y.2.1 pc = .ok (.ldc_w i, 3)) (hw : Cond.constant y.1.cls i v ∈ ge_tbl) (k : ge_A X S y d Q (pc + 3) l (.int v :: st) g) : ge_A X S y d Q pc l st g :=
  fun p lc e s m args below meth c H locs ls C hH hS hls => lv_ldcw C.1 C.2.1 C.2.2.2.1 (C.2.2.2.2.1 _ hw) dg (k p lc e s m args below meth c H locs ls C hH hS hls)
theorem ge_ldc2 {i : Nat} {v : Int64} (dg : decode y.2.1 pc = .ok (.ldc2_w i, 3)) (hw : Cond.constantLong y.1.cls i v ∈ ge_tbl) (k : ge_A X S y d Q (pc + 3) l (.long v :: st) g) : ge_A X S y d Q pc l st g :=
  fun p lc e s m args below meth c H locs ls C hH hS hls => lv_ldc2 C.1 C.2.1 C.2.2.2.1 (C.2.2.2.2.1 _ hw) dg (k p lc e s m args below meth c H locs ls C hH hS hls)
theorem ge_iload_n {i : Fin 4} {x : Int32} (dg : decode y.2.1 pc = .ok (.iload_n i, 1)) (hl : l.lookup (i : Nat) = some (.int x)) (k : ge_A X S y d Q (pc + 1) l (.int x :: st) g) : ge_A X S y d Q pc l st g :=
  fun p lc e s m args below meth c H locs ls C hH hS hls => lv_iload_n C.1 C.2.1 dg rfl (ge_at hls hl) (k p lc e s m args below meth c H locs ls C hH hS hls)
theorem ge_iload {i : Nat} {x : Int32} (dg : decode y.2.1 pc = .ok (.iload i, 2)) (hl : l.lookup i = some (.int x)) (k : ge_A X S y d Q (pc + 2) l (.int x :: st) g) : ge_A X S y d Q pc l st g :=
  fun p lc e s m args below meth c H locs ls C hH hS hls => lv_iload C.1 C.2.1 dg (ge_at hls hl) (k p lc e s m args below meth c H locs ls C hH hS hls)
theorem ge_lload_n {i : Fin 4} {x : Int64} (dg : decode y.2.1 pc = .ok (.lload_n i, 1)) (hl : l.lookup (i : Nat) = some (.long x)) (k : ge_A X S y d Q (pc + 1) l (.long x :: st) g) : ge_A X S y d Q pc l st g :=
  fun p lc e s m args below meth c H locs ls C hH hS hls => lv_lload_n C.1 C.2.1 dg rfl (ge_at hls hl) (k p lc e s m args below meth c H locs ls C hH hS hls)
theorem ge_aload_n {i : Fin 4} {x : Nat} (dg : decode y.2.1 pc = .ok (.aload_n i, 1)) (hl : l.lookup (i : Nat) = some (.ref x)) (k : ge_A X S y d Q (pc + 1) l (.ref x :: st) g) : ge_A X S y d Q pc l st g :=
  fun p lc e s m args below meth c H locs ls C hH hS hls => lv_aload_n C.1 C.2.1 dg rfl (ge_at hls hl) (k p lc e s m args below meth c H locs ls C hH hS hls)
theorem ge_aload {i : Nat} {x : Nat} (dg : decode y.2.1 pc = .ok (.aload i, 2)) (hl : l.lookup i = some (.ref x)) (k : ge_A X S y d Q (pc + 2) l (.ref x :: st) g) : ge_A X S y d Q pc l st g :=
  fun p lc e s m args below meth c H locs ls C hH hS hls => lv_aload C.1 C.2.1 dg (ge_at hls hl) (k p lc e s m args below meth c H locs ls C hH hS hls)
abbrev ge_lf (i : Nat) (l : List (Nat × Value)) : List (Nat × Value) := l.filter (fun q => !(q.1 == i) && !(q.1 + 1 == i && q.2.category == 2))
theorem ge_istore_n {i : Fin 4} {x : Int32} {l' : List (Nat × Value)} (dg : decode y.2.1 pc = .ok (.istore_n i, 1)) (hn : (i : Nat) < y.2.2.1) (hl : ((i : Nat), Value.int x) :: ge_lf i l = l') (k : ge_A X S y d Q (pc + 1) l' st g) : ge_A X S y d Q pc l (.int x :: st) g :=
  fun p lc e s m args below meth c H locs ls C hH hS hls => lv_istore_n C.1 C.2.1 dg rfl hls hn hl (fun ls' h' => k p lc e s m args below meth c H locs ls' C hH hS h')
theorem ge_istore {i : Nat} {x : Int32} {l' : List (Nat × Value)} (dg : decode y.2.1 pc = .ok (.istore i, 2)) (hn : i < y.2.2.1) (hl : (i, Value.int x) :: ge_lf i l = l') (k : ge_A X S y d Q (pc + 2) l' st g) : ge_A X S y d Q pc l (.int x :: st) g :=
  fun p lc e s m args below meth c H locs ls C hH hS hls => lv_istore C.1 C.2.1 dg hls hn hl (fun ls' h' => k p lc e s m args below meth c H locs ls' C hH hS h')
theorem ge_astore_n {i : Fin 4} {x : Nat} {l' : List (Nat × Value)} (dg : decode y.2.1 pc = .ok (.astore_n i, 1)) (hn : (i : Nat) < y.2.2.1) (hl : ((i : Nat), Value.ref x) :: ge_lf i l = l') (k : ge_A X S y d Q (pc + 1) l' st g) : ge_A X S y d Q pc l (.ref x :: st) g :=
  fun p lc e s m args below meth c H locs ls C hH hS hls => lv_astore_n C.1 C.2.1 dg rfl hls hn hl (fun ls' h' => k p lc e s m args below meth c H locs ls' C hH hS h')
theorem ge_astore {i : Nat} {x : Nat} {l' : List (Nat × Value)} (dg : decode y.2.1 pc = .ok (.astore i, 2)) (hn : i < y.2.2.1) (hl : (i, Value.ref x) :: ge_lf i l = l') (k : ge_A X S y d Q (pc + 2) l' st g) : ge_A X S y d Q pc l (.ref x :: st) g :=
  fun p lc e s m args below meth c H locs ls C hH hS hls => lv_astore C.1 C.2.1 dg hls hn hl (fun ls' h' => k p lc e s m args below meth c H locs ls' C hH hS h')
theorem ge_iinc {i : Nat} {n : Int} {x v : Int32} {l' : List (Nat × Value)} (dg : decode y.2.1 pc = .ok (.iinc i n, 3)) (hx : l.lookup i = some (.int x)) (hv : x + Int32.ofInt n = v) (hn : i < y.2.2.1) (hl : (i, Value.int v) :: ge_lf i l = l') (k : ge_A X S y d Q (pc + 3) l' st g) : ge_A X S y d Q pc l st g := by
  intro p lc e s m args below meth c H locs ls C hH hS hls
  obtain ⟨j, hj⟩ := List.getElem?_of_mem (ge_lk hx)
  exact lv_iinc C.1 C.2.1 dg hls hj hv hn hl (fun ls' h' => k p lc e s m args below meth c H locs ls' C hH hS h')
theorem ge_iadd {x z : Int32} (dg : decode y.2.1 pc = .ok (.iadd, 1)) (k : ge_A X S y d Q (pc + 1) l (.int (x + z) :: st) g) : ge_A X S y d Q pc l (.int z :: .int x :: st) g :=
  fun p lc e s m args below meth c H locs ls C hH hS hls => lv_iadd C.1 C.2.1 dg (k p lc e s m args below meth c H locs ls C hH hS hls)
theorem ge_isub {x z : Int32} (dg : decode y.2.1 pc = .ok (.isub, 1)) (k : ge_A X S y d Q (pc + 1) l (.int (x - z) :: st) g) : ge_A X S y d Q pc l (.int z :: .int x :: st) g :=
  fun p lc e s m args below meth c H locs ls C hH hS hls => lv_isub C.1 C.2.1 dg (k p lc e s m args below meth c H locs ls C hH hS hls)
theorem ge_imul {x z : Int32} (dg : decode y.2.1 pc = .ok (.imul, 1)) (k : ge_A X S y d Q (pc + 1) l (.int (x * z) :: st) g) : ge_A X S y d Q pc l (.int z :: .int x :: st) g :=
  fun p lc e s m args below meth c H locs ls C hH hS hls => lv_imul C.1 C.2.1 dg (k p lc e s m args below meth c H locs ls C hH hS hls)
theorem ge_iand {x z : Int32} (dg : decode y.2.1 pc = .ok (.iand, 1)) (k : ge_A X S y d Q (pc + 1) l (.int (x &&& z) :: st) g) : ge_A X S y d Q pc l (.int z :: .int x :: st) g :=
  fun p lc e s m args below meth c H locs ls C hH hS hls => lv_iand C.1 C.2.1 dg (k p lc e s m args below meth c H locs ls C hH hS hls)
theorem ge_ior {x z : Int32} (dg : decode y.2.1 pc = .ok (.ior, 1)) (k : ge_A X S y d Q (pc + 1) l (.int (x ||| z) :: st) g) : ge_A X S y d Q pc l (.int z :: .int x :: st) g :=
  fun p lc e s m args below meth c H locs ls C hH hS hls => lv_ior C.1 C.2.1 dg (k p lc e s m args below meth c H locs ls C hH hS hls)
theorem ge_ixor {x z : Int32} (dg : decode y.2.1 pc = .ok (.ixor, 1)) (k : ge_A X S y d Q (pc + 1) l (.int (x ^^^ z) :: st) g) : ge_A X S y d Q pc l (.int z :: .int x :: st) g :=
  fun p lc e s m args below meth c H locs ls C hH hS hls => lv_ixor C.1 C.2.1 dg (k p lc e s m args below meth c H locs ls C hH hS hls)
theorem ge_idiv {x z : Int32} (dg : decode y.2.1 pc = .ok (.idiv, 1)) (hz : ¬ z = 0) (k : ge_A X S y d Q (pc + 1) l (.int (x / z) :: st) g) : ge_A X S y d Q pc l (.int z :: .int x :: st) g :=
  fun p lc e s m args below meth c H locs ls C hH hS hls => lv_idiv C.1 C.2.1 dg hz (k p lc e s m args below meth c H locs ls C hH hS hls)
theorem ge_irem {x z v : Int32} (dg : decode y.2.1 pc = .ok (.irem, 1)) (hz : ¬ z = 0) (hv : x - x / z * z = v) (k : ge_A X S y d Q (pc + 1) l (.int v :: st) g) : ge_A X S y d Q pc l (.int z :: .int x :: st) g :=
  fun p lc e s m args below meth c H locs ls C hH hS hls => lv_irem C.1 C.2.1 dg hz (by rw [hv]; exact k p lc e s m args below meth c H locs ls C hH hS hls)
theorem ge_ineg {x : Int32} (dg : decode y.2.1 pc = .ok (.ineg, 1)) (k : ge_A X S y d Q (pc + 1) l (.int (-x) :: st) g) : ge_A X S y d Q pc l (.int x :: st) g :=
  fun p lc e s m args below meth c H locs ls C hH hS hls => lv_ineg C.1 C.2.1 dg (k p lc e s m args below meth c H locs ls C hH hS hls)
theorem ge_ishl {x z : Int32} (dg : decode y.2.1 pc = .ok (.ishl, 1)) (k : ge_A X S y d Q (pc + 1) l (.int (x <<< (z &&& 31)) :: st) g) : ge_A X S y d Q pc l (.int z :: .int x :: st) g :=
  fun p lc e s m args below meth c H locs ls C hH hS hls => lv_ishl C.1 C.2.1 dg (k p lc e s m args below meth c H locs ls C hH hS hls)
theorem ge_ishr {x z : Int32} (dg : decode y.2.1 pc = .ok (.ishr, 1)) (k : ge_A X S y d Q (pc + 1) l (.int (x >>> (z &&& 31)) :: st) g) : ge_A X S y d Q pc l (.int z :: .int x :: st) g :=
  fun p lc e s m args below meth c H locs ls C hH hS hls => lv_ishr C.1 C.2.1 dg (k p lc e s m args below meth c H locs ls C hH hS hls)
def ge_us (x z : Int32) : Int32 := (x.toUInt32 >>> (z.toUInt32 &&& Int32.toUInt32 31)).toInt32
theorem ge_iushr {x z : Int32} (dg : decode y.2.1 pc = .ok (.iushr, 1)) (k : ge_A X S y d Q (pc + 1) l (.int (ge_us x z) :: st) g) : ge_A X S y d Q pc l (.int z :: .int x :: st) g :=
  fun p lc e s m args below meth c H locs ls C hH hS hls => lv_iushr C.1 C.2.1 dg rfl (k p lc e s m args below meth c H locs ls C hH hS hls)
theorem ge_i2b {x : Int32} (dg : decode y.2.1 pc = .ok (.i2b, 1)) (k : ge_A X S y d Q (pc + 1) l (.int x.toInt8.toInt32 :: st) g) : ge_A X S y d Q pc l (.int x :: st) g :=
  fun p lc e s m args below meth c H locs ls C hH hS hls => lv_i2b C.1 C.2.1 dg rfl (k p lc e s m args below meth c H locs ls C hH hS hls)
theorem ge_i2s {x : Int32} (dg : decode y.2.1 pc = .ok (.i2s, 1)) (k : ge_A X S y d Q (pc + 1) l (.int x.toInt16.toInt32 :: st) g) : ge_A X S y d Q pc l (.int x :: st) g :=
  fun p lc e s m args below meth c H locs ls C hH hS hls => lv_i2s C.1 C.2.1 dg rfl (k p lc e s m args below meth c H locs ls C hH hS hls)
theorem ge_i2l {x : Int32} (dg : decode y.2.1 pc = .ok (.i2l, 1)) (k : ge_A X S y d Q (pc + 1) l (.long x.toInt64 :: st) g) : ge_A X S y d Q pc l (.int x :: st) g :=
  fun p lc e s m args below meth c H locs ls C hH hS hls => lv_i2l C.1 C.2.1 dg rfl (k p lc e s m args below meth c H locs ls C hH hS hls)
theorem ge_l2i {x : Int64} (dg : decode y.2.1 pc = .ok (.l2i, 1)) (k : ge_A X S y d Q (pc + 1) l (.int x.toInt32 :: st) g) : ge_A X S y d Q pc l (.long x :: st) g :=
  fun p lc e s m args below meth c H locs ls C hH hS hls => lv_l2i C.1 C.2.1 dg rfl (k p lc e s m args below meth c H locs ls C hH hS hls)
theorem ge_land {x z : Int64} (dg : decode y.2.1 pc = .ok (.land, 1)) (k : ge_A X S y d Q (pc + 1) l (.long (x &&& z) :: st) g) : ge_A X S y d Q pc l (.long z :: .long x :: st) g :=
  fun p lc e s m args below meth c H locs ls C hH hS hls => lv_land C.1 C.2.1 dg (k p lc e s m args below meth c H locs ls C hH hS hls)
theorem ge_lshr {x : Int64} {z : Int32} (dg : decode y.2.1 pc = .ok (.lshr, 1)) (k : ge_A X S y d Q (pc + 1) l (.long (x >>> (z.toInt64 &&& 63)) :: st) g) : ge_A X S y d Q pc l (.int z :: .long x :: st) g :=
  fun p lc e s m args below meth c H locs ls C hH hS hls => lv_lshr C.1 C.2.1 dg rfl (k p lc e s m args below meth c H locs ls C hH hS hls)
def ge_lus (x : Int64) (z : Int32) : Int64 := (x.toUInt64 >>> (z.toInt64.toUInt64 &&& Int64.toUInt64 63)).toInt64
theorem ge_lushr {x : Int64} {z : Int32} (dg : decode y.2.1 pc = .ok (.lushr, 1)) (k : ge_A X S y d Q (pc + 1) l (.long (ge_lus x z) :: st) g) : ge_A X S y d Q pc l (.int z :: .long x :: st) g :=
  fun p lc e s m args below meth c H locs ls C hH hS hls => lv_lushr C.1 C.2.1 dg rfl (k p lc e s m args below meth c H locs ls C hH hS hls)
theorem ge_dup {v : Value} (dg : decode y.2.1 pc = .ok (.dup, 1)) (hv : v.category = 1) (k : ge_A X S y d Q (pc + 1) l (v :: v :: st) g) : ge_A X S y d Q pc l (v :: st) g :=
  fun p lc e s m args below meth c H locs ls C hH hS hls => lv_dup C.1 C.2.1 dg hv (k p lc e s m args below meth c H locs ls C hH hS hls)
theorem ge_pop {v : Value} (dg : decode y.2.1 pc = .ok (.pop, 1)) (hv : v.category = 1) (k : ge_A X S y d Q (pc + 1) l st g) : ge_A X S y d Q pc l (v :: st) g :=
  fun p lc e s m args below meth c H locs ls C hH hS hls => lv_pop C.1 C.2.1 dg hv (k p lc e s m args below meth c H locs ls C hH hS hls)
theorem ge_dup2 {v u : Value} (dg : decode y.2.1 pc = .ok (.dup2, 1)) (hv : v.category = 1) (hu : u.category = 1) (k : ge_A X S y d Q (pc + 1) l (v :: u :: v :: u :: st) g) : ge_A X S y d Q pc l (v :: u :: st) g :=
  fun p lc e s m args below meth c H locs ls C hH hS hls => lv_dup2_11 C.1 C.2.1 dg hv hu (k p lc e s m args below meth c H locs ls C hH hS hls)
theorem ge_goto {off : Int} (tgt : Nat) (dg : decode y.2.1 pc = .ok (.goto off, 3)) (ht : (pc : Int) + off = (tgt : Int)) (k : ge_A X S y d Q tgt l st g) : ge_A X S y d Q pc l st g :=
  fun p lc e s m args below meth c H locs ls C hH hS hls => lv_goto C.1 C.2.1 dg ht (k p lc e s m args below meth c H locs ls C hH hS hls)
theorem ge_if_eq {x : Int32} {off : Int} (tgt : Nat) (dg : decode y.2.1 pc = .ok (.ifCond .eq off, 3)) (ht : (pc : Int) + off = (tgt : Int)) (kt : x = 0 → ge_A X S y d Q tgt l st g) (kf : ¬ (x = 0) → ge_A X S y d Q (pc + 3) l st g) : ge_A X S y d Q pc l (.int x :: st) g :=
  fun p lc e s m args below meth c H locs ls C hH hS hls => lv_if_eq C.1 C.2.1 dg ht (fun h => kt h p lc e s m args below meth c H locs ls C hH hS hls) (fun h => kf h p lc e s m args below meth c H locs ls C hH hS hls)
theorem ge_if_ne {x : Int32} {off : Int} (tgt : Nat) (dg : decode y.2.1 pc = .ok (.ifCond .ne off, 3)) (ht : (pc : Int) + off = (tgt : Int)) (kt : ¬ x = 0 → ge_A X S y d Q tgt l st g) (kf : x = 0 → ge_A X S y d Q (pc + 3) l st g) : ge_A X S y d Q pc l (.int x :: st) g :=
  fun p lc e s m args below meth c H locs ls C hH hS hls => lv_if_ne C.1 C.2.1 dg ht (fun h => kt h p lc e s m args below meth c H locs ls C hH hS hls) (fun h => kf h p lc e s m args below meth c H locs ls C hH hS hls)
theorem ge_if_lt {x : Int32} {off : Int} (tgt : Nat) (dg : decode y.2.1 pc = .ok (.ifCond .lt off, 3)) (ht : (pc : Int) + off = (tgt : Int)) (kt : x < 0 → ge_A X S y d Q tgt l st g) (kf : ¬ (x < 0) → ge_A X S y d Q (pc + 3) l st g) : ge_A X S y d Q pc l (.int x :: st) g :=
  fun p lc e s m args below meth c H locs ls C hH hS hls => lv_if_lt C.1 C.2.1 dg ht (fun h => kt h p lc e s m args below meth c H locs ls C hH hS hls) (fun h => kf h p lc e s m args below meth c H locs ls C hH hS hls)
theorem ge_if_ge {x : Int32} {off : Int} (tgt : Nat) (dg : decode y.2.1 pc = .ok (.ifCond .ge off, 3)) (ht : (pc : Int) + off = (tgt : Int)) (kt : 0 ≤ x → ge_A X S y d Q tgt l st g) (kf : ¬ (0 ≤ x) → ge_A X S y d Q (pc + 3) l st g) : ge_A X S y d Q pc l (.int x :: st) g :=
  fun p lc e s m args below meth c H locs ls C hH hS hls => lv_if_ge C.1 C.2.1 dg ht (fun h => kt h p lc e s m args below meth c H locs ls C hH hS hls) (fun h => kf h p lc e s m args below meth c H locs ls C hH hS hls)
theorem ge_if_gt {x : Int32} {off : Int} (tgt : Nat) (dg : decode y.2.1 pc = .ok (.ifCond .gt off, 3)) (ht : (pc : Int) + off = (tgt : Int)) (kt : 0 < x → ge_A X S y d Q tgt l st g) (kf : ¬ (0 < x) → ge_A X S y d Q (pc + 3) l st g) : ge_A X S y d Q pc l (.int x :: st) g :=
  fun p lc e s m args below meth c H locs ls C hH hS hls => lv_if_gt C.1 C.2.1 dg ht (fun h => kt h p lc e s m args below meth c H locs ls C hH hS hls) (fun h => kf h p lc e s m args below meth c H locs ls C hH hS hls)
theorem ge_if_le {x : Int32} {off : Int} (tgt : Nat) (dg : decode y.2.1 pc = .ok (.ifCond .le off, 3)) (ht : (pc : Int) + off = (tgt : Int)) (kt : x ≤ 0 → ge_A X S y d Q tgt l st g) (kf : ¬ (x ≤ 0) → ge_A X S y d Q (pc + 3) l st g) : ge_A X S y d Q pc l (.int x :: st) g :=
  fun p lc e s m args below meth c H locs ls C hH hS hls => lv_if_le C.1 C.2.1 dg ht (fun h => kt h p lc e s m args below meth c H locs ls C hH hS hls) (fun h => kf h p lc e s m args below meth c H locs ls C hH hS hls)
theorem ge_ic_eq {x z : Int32} {off : Int} (tgt : Nat) (dg : decode y.2.1 pc = .ok (.if_icmp .eq off, 3)) (ht : (pc : Int) + off = (tgt : Int)) (kt : x = z → ge_A X S y d Q tgt l st g) (kf : ¬ (x = z) → ge_A X S y d Q (pc + 3) l st g) : ge_A X S y d Q pc l (.int z :: .int x :: st) g :=
  fun p lc e s m args below meth c H locs ls C hH hS hls => lv_icmp_eq C.1 C.2.1 dg ht (fun h => kt h p lc e s m args below meth c H locs ls C hH hS hls) (fun h => kf h p lc e s m args below meth c H locs ls C hH hS hls)
theorem ge_ic_ne {x z : Int32} {off : Int} (tgt : Nat) (dg : decode y.2.1 pc = .ok (.if_icmp .ne off, 3)) (ht : (pc : Int) + off = (tgt : Int)) (kt : ¬ x = z → ge_A X S y d Q tgt l st g) (kf : x = z → ge_A X S y d Q (pc + 3) l st g) : ge_A X S y d Q pc l (.int z :: .int x :: st) g :=
  fun p lc e s m args below meth c H locs ls C hH hS hls => lv_icmp_ne C.1 C.2.1 dg ht (fun h => kt h p lc e s m args below meth c H locs ls C hH hS hls) (fun h => kf h p lc e s m args below meth c H locs ls C hH hS hls)
theorem ge_ic_lt {x z : Int32} {off : Int} (tgt : Nat) (dg : decode y.2.1 pc = .ok (.if_icmp .lt off, 3)) (ht : (pc : Int) + off = (tgt : Int)) (kt : x < z → ge_A X S y d Q tgt l st g) (kf : ¬ (x < z) → ge_A X S y d Q (pc + 3) l st g) : ge_A X S y d Q pc l (.int z :: .int x :: st) g :=
  fun p lc e s m args below meth c H locs ls C hH hS hls => lv_icmp_lt C.1 C.2.1 dg ht (fun h => kt h p lc e s m args below meth c H locs ls C hH hS hls) (fun h => kf h p lc e s m args below meth c H locs ls C hH hS hls)
theorem ge_ic_ge {x z : Int32} {off : Int} (tgt : Nat) (dg : decode y.2.1 pc = .ok (.if_icmp .ge off, 3)) (ht : (pc : Int) + off = (tgt : Int)) (kt : z ≤ x → ge_A X S y d Q tgt l st g) (kf : ¬ (z ≤ x) → ge_A X S y d Q (pc + 3) l st g) : ge_A X S y d Q pc l (.int z :: .int x :: st) g :=
  fun p lc e s m args below meth c H locs ls C hH hS hls => lv_icmp_ge C.1 C.2.1 dg ht (fun h => kt h p lc e s m args below meth c H locs ls C hH hS hls) (fun h => kf h p lc e s m args below meth c H locs ls C hH hS hls)
theorem ge_ic_gt {x z : Int32} {off : Int} (tgt : Nat) (dg : decode y.2.1 pc = .ok (.if_icmp .gt off, 3)) (ht : (pc : Int) + off = (tgt : Int)) (kt : z < x → ge_A X S y d Q tgt l st g) (kf : ¬ (z < x) → ge_A X S y d Q (pc + 3) l st g) : ge_A X S y d Q pc l (.int z :: .int x :: st) g :=
  fun p lc e s m args below meth c H locs ls C hH hS hls => lv_icmp_gt C.1 C.2.1 dg ht (fun h => kt h p lc e s m args below meth c H locs ls C hH hS hls) (fun h => kf h p lc e s m args below meth c H locs ls C hH hS hls)
theorem ge_ic_le {x z : Int32} {off : Int} (tgt : Nat) (dg : decode y.2.1 pc = .ok (.if_icmp .le off, 3)) (ht : (pc : Int) + off = (tgt : Int)) (kt : x ≤ z → ge_A X S y d Q tgt l st g) (kf : ¬ (x ≤ z) → ge_A X S y d Q (pc + 3) l st g) : ge_A X S y d Q pc l (.int z :: .int x :: st) g :=
  fun p lc e s m args below meth c H locs ls C hH hS hls => lv_icmp_le C.1 C.2.1 dg ht (fun h => kt h p lc e s m args below meth c H locs ls C hH hS hls) (fun h => kf h p lc e s m args below meth c H locs ls C hH hS hls)
theorem ge_tabO {dflt lo hi : Int} {offs : Array Int} {len : Nat} {x : Int32} (tgt : Nat) (dg : decode y.2.1 pc = .ok (.tableswitch dflt lo hi offs, len)) (h : x.toInt < lo ∨ hi < x.toInt) (ht : (pc : Int) + dflt = (tgt : Int)) (k : ge_A X S y d Q tgt l st g) : ge_A X S y d Q pc l (.int x :: st) g :=
  fun p lc e s m args below meth c H locs ls C hH hS hls => lv_tableOut C.1 C.2.1 dg h ht (k p lc e s m args below meth c H locs ls C hH hS hls)
theorem ge_tabI {dflt lo hi : Int} {offs : Array Int} {len : Nat} {x : Int32} {off : Int} (tgt : Nat) (dg : decode y.2.1 pc = .ok (.tableswitch dflt lo hi offs, len)) (h1 : ¬ x.toInt < lo) (h2 : ¬ hi < x.toInt) (ho : offs[(x.toInt - lo).toNat]? = some off) (ht : (pc : Int) + off = (tgt : Int)) (k : ge_A X S y d Q tgt l st g) : ge_A X S y d Q pc l (.int x :: st) g :=
  fun p lc e s m args below meth c H locs ls C hH hS hls => lv_tableIn C.1 C.2.1 dg h1 h2 ho ht (k p lc e s m args below meth c H locs ls C hH hS hls)
theorem ge_lkup {dflt : Int} {ps : Array (Int × Int)} {len : Nat} {x : Int32} {off : Int} (tgt : Nat) (dg : decode y.2.1 pc = .ok (.lookupswitch dflt ps, len)) (hp : (ps.toList.zip (ps.toList.drop 1)).all (fun (a, next) => a.1 < next.1) = true) (ho : Op.lookupswitch.offset ps.toList dflt x.toInt = off) (ht : (pc : Int) + off = (tgt : Int)) (k : ge_A X S y d Q tgt l st g) : ge_A X S y d Q pc l (.int x :: st) g :=
  fun p lc e s m args below meth c H locs ls C hH hS hls => lv_lookup C.1 C.2.1 dg hp ho ht (k p lc e s m args below meth c H locs ls C hH hS hls)
end R2
