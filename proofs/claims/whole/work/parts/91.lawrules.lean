/-! the law's own walk: like ge_B, in the law's frame, its script at b -/
def ge_HQ (X : ge_X) (g : ge_G) (H : Heap) : Prop := ∃ g1, ge_q g1 g ∧ ge_H X ge_SH g1 H
/-- what stands at the law's entry, and what the constructors gave -/
def ge_LC (X : ge_X) (p : Program) (s : State) (m : MethodId) (meth : Method) (c : Code) (b L : Nat) (xs : Nat → Int32) : Prop := lw_At p s m meth c b L xs ∧ ge_K X s ∧ X.2.1 = s.heap.size
def ge_Lw (X : ge_X) (p : Program) (lc : Launch) (e : Env) (s : State) (m : MethodId) (below : List Frame) (meth : Method) (c : Code) (b : Nat) (pc : Nat) (l : List (Nat × Value)) (st : List Value) (g : ge_G) : Prop :=
  ∀ (H : Heap) (locs : List Loc) (ls : Array Slot) (cells slots : Nat), cells ≤ 1000 → slots ≤ 10000 → ge_HQ X g H → va_S (fun q => X.2.1 ≤ q) s.heap H locs → lv_has ls 4 l → W p lc e room_1 s m #[Value.ref b] below meth c H locs cells slots (lw_Z below #[Value.ref b] s) (F0 m pc ls st)
section G1
variable {X : ge_X} {p : Program} {lc : Launch} {e : Env} {s : State} {m : MethodId} {below : List Frame} {meth : Method} {c : Code} {b L : Nat} {xs : Nat → Int32} {l : List (Nat × Value)} {st rest : List Value} {g : ge_G} {pc : Nat}
theorem gl_tb (C : ge_LC X p s m meth c b L xs) : ∀ w ∈ ge_tbl, w.before #[Value.ref b] s = true := fun w h => C.1.2.2.2.2.2.1 w (List.mem_filter.mp h).1
theorem gl_iconst {n : Int} {v : Int32} (C : ge_LC X p s m meth c b L xs) (dg : decode code pc = .ok (.iconst n, 1)) (hv : Int32.ofInt n = v) (k : ge_Lw X p lc e s m below meth c b (pc + 1) l (.int v :: st) g) : ge_Lw X p lc e s m below meth c b pc l st g :=
  fun H locs ls cells slots h1 h2 hH hS hls => lv_iconst C.1.1 C.1.2.1 dg hv (k H locs ls cells slots h1 h2 hH hS hls)
theorem gl_bipush {n : Int} {v : Int32} (C : ge_LC X p s m meth c b L xs) (dg : decode code pc = .ok (.bipush n, 2)) (hv : (Int8.ofInt n).toInt32 = v) (k : ge_Lw X p lc e s m below meth c b (pc + 2) l (.int v :: st) g) : ge_Lw X p lc e s m below meth c b pc l st g :=
  fun H locs ls cells slots h1 h2 hH hS hls => lv_bipush C.1.1 C.1.2.1 dg hv (k H locs ls cells slots h1 h2 hH hS hls)
theorem gl_iload_n {i : Fin 4} {x : Int32} (C : ge_LC X p s m meth c b L xs) (dg : decode code pc = .ok (.iload_n i, 1)) (hl : l.lookup (i : Nat) = some (.int x)) (k : ge_Lw X p lc e s m below meth c b (pc + 1) l (.int x :: st) g) : ge_Lw X p lc e s m below meth c b pc l st g :=
  fun H locs ls cells slots h1 h2 hH hS hls => lv_iload_n C.1.1 C.1.2.1 dg rfl (ge_at hls hl) (k H locs ls cells slots h1 h2 hH hS hls)
theorem gl_aload_n {i : Fin 4} {x : Nat} (C : ge_LC X p s m meth c b L xs) (dg : decode code pc = .ok (.aload_n i, 1)) (hl : l.lookup (i : Nat) = some (.ref x)) (k : ge_Lw X p lc e s m below meth c b (pc + 1) l (.ref x :: st) g) : ge_Lw X p lc e s m below meth c b pc l st g :=
  fun H locs ls cells slots h1 h2 hH hS hls => lv_aload_n C.1.1 C.1.2.1 dg rfl (ge_at hls hl) (k H locs ls cells slots h1 h2 hH hS hls)
theorem gl_iadd {x z : Int32} (C : ge_LC X p s m meth c b L xs) (dg : decode code pc = .ok (.iadd, 1)) (k : ge_Lw X p lc e s m below meth c b (pc + 1) l (.int (x + z) :: st) g) : ge_Lw X p lc e s m below meth c b pc l (.int z :: .int x :: st) g :=
  fun H locs ls cells slots h1 h2 hH hS hls => lv_iadd C.1.1 C.1.2.1 dg (k H locs ls cells slots h1 h2 hH hS hls)
theorem gl_isub {x z : Int32} (C : ge_LC X p s m meth c b L xs) (dg : decode code pc = .ok (.isub, 1)) (k : ge_Lw X p lc e s m below meth c b (pc + 1) l (.int (x - z) :: st) g) : ge_Lw X p lc e s m below meth c b pc l (.int z :: .int x :: st) g :=
  fun H locs ls cells slots h1 h2 hH hS hls => lv_isub C.1.1 C.1.2.1 dg (k H locs ls cells slots h1 h2 hH hS hls)
theorem gl_iand {x z : Int32} (C : ge_LC X p s m meth c b L xs) (dg : decode code pc = .ok (.iand, 1)) (k : ge_Lw X p lc e s m below meth c b (pc + 1) l (.int (x &&& z) :: st) g) : ge_Lw X p lc e s m below meth c b pc l (.int z :: .int x :: st) g :=
  fun H locs ls cells slots h1 h2 hH hS hls => lv_iand C.1.1 C.1.2.1 dg (k H locs ls cells slots h1 h2 hH hS hls)
theorem gl_i2l {x : Int32} (C : ge_LC X p s m meth c b L xs) (dg : decode code pc = .ok (.i2l, 1)) (k : ge_Lw X p lc e s m below meth c b (pc + 1) l (.long x.toInt64 :: st) g) : ge_Lw X p lc e s m below meth c b pc l (.int x :: st) g :=
  fun H locs ls cells slots h1 h2 hH hS hls => lv_i2l C.1.1 C.1.2.1 dg rfl (k H locs ls cells slots h1 h2 hH hS hls)
theorem gl_land {x z : Int64} (C : ge_LC X p s m meth c b L xs) (dg : decode code pc = .ok (.land, 1)) (k : ge_Lw X p lc e s m below meth c b (pc + 1) l (.long (x &&& z) :: st) g) : ge_Lw X p lc e s m below meth c b pc l (.long z :: .long x :: st) g :=
  fun H locs ls cells slots h1 h2 hH hS hls => lv_land C.1.1 C.1.2.1 dg (k H locs ls cells slots h1 h2 hH hS hls)
theorem gl_lor {x z : Int64} (C : ge_LC X p s m meth c b L xs) (dg : decode code pc = .ok (.lor, 1)) (k : ge_Lw X p lc e s m below meth c b (pc + 1) l (.long (x ||| z) :: st) g) : ge_Lw X p lc e s m below meth c b pc l (.long z :: .long x :: st) g :=
  fun H locs ls cells slots h1 h2 hH hS hls => lv_lor C.1.1 C.1.2.1 dg (k H locs ls cells slots h1 h2 hH hS hls)
theorem gl_lshl {x : Int64} {z : Int32} (C : ge_LC X p s m meth c b L xs) (dg : decode code pc = .ok (.lshl, 1)) (k : ge_Lw X p lc e s m below meth c b (pc + 1) l (.long (x <<< (z.toInt64 &&& 63)) :: st) g) : ge_Lw X p lc e s m below meth c b pc l (.int z :: .long x :: st) g :=
  fun H locs ls cells slots h1 h2 hH hS hls => lv_lshl C.1.1 C.1.2.1 dg rfl (k H locs ls cells slots h1 h2 hH hS hls)
theorem gl_ldc2 {i : Nat} {v : Int64} (C : ge_LC X p s m meth c b L xs) (dg : decode code pc = .ok (.ldc2_w i, 3)) (hw : Cond.constantLong R_law i v ∈ ge_tbl) (k : ge_Lw X p lc e s m below meth c b (pc + 3) l (.long v :: st) g) : ge_Lw X p lc e s m below meth c b pc l st g :=
  fun H locs ls cells slots h1 h2 hH hS hls => lv_ldc2 C.1.1 C.1.2.1 C.1.2.2.2.2.1 (gl_tb C _ hw) dg (k H locs ls cells slots h1 h2 hH hS hls)
theorem gl_goto {off : Int} (tgt : Nat) (C : ge_LC X p s m meth c b L xs) (dg : decode code pc = .ok (.goto off, 3)) (ht : (pc : Int) + off = (tgt : Int)) (k : ge_Lw X p lc e s m below meth c b tgt l st g) : ge_Lw X p lc e s m below meth c b pc l st g :=
  fun H locs ls cells slots h1 h2 hH hS hls => lv_goto C.1.1 C.1.2.1 dg ht (k H locs ls cells slots h1 h2 hH hS hls)
theorem gl_slen (C : ge_LC X p s m meth c b L xs) (dg : decode code pc = .ok (.arraylength, 1)) (k : ge_Lw X p lc e s m below meth c b (pc + 1) l (.int (Int32.ofNat L) :: st) g) : ge_Lw X p lc e s m below meth c b pc l (.ref b :: st) g :=
  fun H locs ls cells slots h1 h2 hH hS hls => va_slen C.1.1 C.1.2.1 C.1.2.2.2.2.2.2.1 C.1.2.2.2.2.2.2.2.1 (by rw [C.2.2]; exact Nat.not_le.mpr C.1.2.2.2.2.2.2.2.1) hS dg (k H locs ls cells slots h1 h2 hH hS hls)
theorem gl_sld {i : Int32} {j : Nat} (C : ge_LC X p s m meth c b L xs) (dg : decode code pc = .ok (.iaload, 1)) (hi : i = nI j) (hj : j < L) (hL : L ≤ 3072) (k : ge_Lw X p lc e s m below meth c b (pc + 1) l (.int (xs j) :: st) g) : ge_Lw X p lc e s m below meth c b pc l (.int i :: .ref b :: st) g :=
  fun H locs ls cells slots h1 h2 hH hS hls => by
    subst hi
    refine va_sld C.1.1 C.1.2.1 C.1.2.2.2.2.2.2.1 C.1.2.2.2.2.2.2.2.1 (by rw [C.2.2]; exact Nat.not_le.mpr C.1.2.2.2.2.2.2.2.1) hS (vp_in_nI hj (by omega)) dg ?_
    rw [nI_clamp (by omega)]
    exact (k H locs ls cells slots h1 h2 hH hS hls)
theorem gl_iinc {i : Nat} {n : Int} {x v : Int32} {l' : List (Nat × Value)} (C : ge_LC X p s m meth c b L xs) (dg : decode code pc = .ok (.iinc i n, 3)) (hx : l.lookup i = some (.int x)) (hv : x + Int32.ofInt n = v) (hn : i < 4) (hl : (i, Value.int v) :: ge_lf i l = l') (k : ge_Lw X p lc e s m below meth c b (pc + 3) l' st g) : ge_Lw X p lc e s m below meth c b pc l st g := by
  intro H locs ls cells slots h1 h2 hH hS hls
  obtain ⟨j, hj⟩ := List.getElem?_of_mem (ge_lk hx)
  exact lv_iinc C.1.1 C.1.2.1 dg hls hj hv hn hl (fun ls' h' => k H locs ls' cells slots h1 h2 hH hS h')
theorem gl_sub {l' : List (Nat × Value)} (ks : List Nat) (hl : lv_pick l ks = l') (k : ge_Lw X p lc e s m below meth c b pc l' st g) : ge_Lw X p lc e s m below meth c b pc l st g := fun H locs ls cells slots h1 h2 hH hS hls => k H locs ls cells slots h1 h2 hH hS (lv_sub hls ks hl)
theorem gl_ic_eq {x z : Int32} {off : Int} (tgt : Nat) (C : ge_LC X p s m meth c b L xs) (dg : decode code pc = .ok (.if_icmp .eq off, 3)) (ht : (pc : Int) + off = (tgt : Int)) (he : x = z) (k : ge_Lw X p lc e s m below meth c b tgt l st g) : ge_Lw X p lc e s m below meth c b pc l (.int z :: .int x :: st) g :=
  fun H locs ls cells slots h1 h2 hH hS hls => lv_icmp_eq C.1.1 C.1.2.1 dg ht (fun _ => k H locs ls cells slots h1 h2 hH hS hls) (fun h => absurd he h)
theorem gl_ic_gt {x z : Int32} {off : Int} (tgt : Nat) (C : ge_LC X p s m meth c b L xs) (dg : decode code pc = .ok (.if_icmp .gt off, 3)) (ht : (pc : Int) + off = (tgt : Int)) (kt : z < x → ge_Lw X p lc e s m below meth c b tgt l st g) (kf : ¬ z < x → ge_Lw X p lc e s m below meth c b (pc + 3) l st g) : ge_Lw X p lc e s m below meth c b pc l (.int z :: .int x :: st) g :=
  fun H locs ls cells slots h1 h2 hH hS hls => lv_icmp_gt C.1.1 C.1.2.1 dg ht (fun h => kt h H locs ls cells slots h1 h2 hH hS hls) (fun h => kf h H locs ls cells slots h1 h2 hH hS hls)
theorem gl_tabO {dflt lo hi : Int} {offs : Array Int} {len : Nat} {x : Int32} (tgt : Nat) (C : ge_LC X p s m meth c b L xs) (dg : decode code pc = .ok (.tableswitch dflt lo hi offs, len)) (h : x.toInt < lo ∨ hi < x.toInt) (ht : (pc : Int) + dflt = (tgt : Int)) (k : ge_Lw X p lc e s m below meth c b tgt l st g) : ge_Lw X p lc e s m below meth c b pc l (.int x :: st) g :=
  fun H locs ls cells slots h1 h2 hH hS hls => lv_tableOut C.1.1 C.1.2.1 dg h ht (k H locs ls cells slots h1 h2 hH hS hls)
theorem gl_tabI {dflt lo hi : Int} {offs : Array Int} {len : Nat} {x : Int32} {off : Int} (tgt : Nat) (C : ge_LC X p s m meth c b L xs) (dg : decode code pc = .ok (.tableswitch dflt lo hi offs, len)) (q1 : ¬ x.toInt < lo) (q2 : ¬ hi < x.toInt) (ho : offs[(x.toInt - lo).toNat]? = some off) (ht : (pc : Int) + off = (tgt : Int)) (k : ge_Lw X p lc e s m below meth c b tgt l st g) : ge_Lw X p lc e s m below meth c b pc l (.int x :: st) g :=
  fun H locs ls cells slots h1 h2 hH hS hls => lv_tableIn C.1.1 C.1.2.1 dg q1 q2 ho ht (k H locs ls cells slots h1 h2 hH hS hls)
/-- the law's end -/
theorem gl_end (C : ge_LC X p s m meth c b L xs) (dg : decode code pc = .ok (.ireturn, 1)) : ge_Lw X p lc e s m below meth c b pc l [.int 1] g := by
  intro H locs ls cells slots h1 h2 hH hS hls
  refine va_forget (fun q hq => by have := hS.2.2 q hq; rw [C.2.2] at this; exact this) ?_
  refine W.widen (k := 600000) (n := 7302250) (by omega) (by omega) ?_
  exact lw_ret C.1.1 C.1.2.1 C.1.2.2.1 C.1.2.2.2.2.2.2.2.2.1 dg
/-- a call of a method of one of the two objects -/
theorem gl_call {idx n q ci d' : Nat} {y' : ge_Y} {As : List Value} {fs : List ge_F} {vc : vw_C} {v : Option Value} {g' : ge_G} (C : ge_LC X p s m meth c b L xs) (dg : decode code pc = .ok (.invokevirtual idx, 3)) (hc : ge_cv R_law idx n y') (hd : d' ≤ 1500 ∧ y'.2.2.1 ≤ 29)
    (hs : ge_SH[q]? = some (.inl (ci, fs))) (hq : vwCl[ci]? = some vc) (hq1 : vc.1 = y'.1.cls) (hn : As.length = n) (hst : st = As.reverse ++ .ref (ge_ad X.1 q) :: rest) (hr : (rest.map fun v => v.category).sum ≤ 8)
    (hM : ge_N X ge_SH y' d' (.ref (ge_ad X.1 q) :: As) g v g') (k : ge_Lw X p lc e s m below meth c b (pc + 3) l (v.toList ++ rest) g') : ge_Lw X p lc e s m below meth c b pc l st g := by
  intro H locs ls cells slots h1 h2 hH hS hls
  obtain ⟨g1, hg, hH⟩ := hH
  obtain ⟨hc1, hc2, hc3⟩ := hc
  have hroom : (ge_R d').frames + 1 ≤ room_1.frames ∧ 8 + (y'.2.2.1 + 11) + (ge_R d').locals ≤ room_1.locals := by
    obtain ⟨a1, a2⟩ := hd
    refine ⟨?_, ?_⟩
    · show d' + 1 ≤ 2048; omega
    · show 8 + (y'.2.2.1 + 11) + 48 * d' ≤ 84000; omega
  refine ge_after (va_runV (As := As) (rest := rest) (b := ge_ad X.1 q) (nL := 4) (Ts := ge_tbl) (own := R_law) ⟨C.1.1, C.1.2.1, C.1.2.2.2.1, C.1.2.2.2.2.1, gl_tb C⟩ (hM g1 hg lc) (cwV (own := R_law) (C := y'.1.cls) (index := idx) n (gl_tb C) (ge_gin (y := y') (y' := y') hc2 hc1) rfl rfl rfl ⟨rfl, hc3⟩ hroom)
    ⟨ge_blind X ge_SH g1 _, ?_, fun U hU hW => ⟨rfl, by rw [hU]; exact hH, ge_K_moved hW hU hS C.2.1⟩⟩ rfl hn hls.1 hst (lv_room hr) dg ⟨by show cells + 0 ≤ 600000; omega, by show slots + 0 ≤ 7302250; omega⟩) hS ?_
  · rw [← hq1]
    exact va_recv C.2.1.1 hH.1 hq (ge_w_get X ge_SH g1 hs)
  · intro v2 g2 hv H1 locs1 hH1 hS1
    obtain ⟨g3, hg3, rfl, rfl⟩ := hv
    exact k H1 locs1 ls cells slots h1 h2 ⟨g2, hg3, hH1⟩ hS1 hls
theorem gl_r0 {idx q ci d' : Nat} {y' : ge_Y} {fs : List ge_F} {vc : vw_C} {x : Int32} {g' : ge_G} (C : ge_LC X p s m meth c b L xs) (dg : decode code pc = .ok (.invokevirtual idx, 3)) (hc : ge_cv R_law idx 0 y') (hs : ge_SH[q]? = some (.inl (ci, fs))) (hM : ge_N X ge_SH y' d' [.ref (ge_ad X.1 q)] g (some (.int x)) g') (hd : d' ≤ 1500 ∧ y'.2.2.1 ≤ 29) (hq : vwCl[ci]? = some vc) (hq1 : vc.1 = y'.1.cls) (hr : (rest.map fun v => v.category).sum ≤ 8)
    (k : ge_Lw X p lc e s m below meth c b (pc + 3) l (.int x :: rest) g') : ge_Lw X p lc e s m below meth c b pc l (.ref (ge_ad X.1 q) :: rest) g := gl_call (As := []) C dg hc hd hs hq hq1 rfl rfl hr hM k
theorem gl_r1 {idx q ci d' : Nat} {y' : ge_Y} {a1 : Value} {fs : List ge_F} {vc : vw_C} {x : Int32} {g' : ge_G} (C : ge_LC X p s m meth c b L xs) (dg : decode code pc = .ok (.invokevirtual idx, 3)) (hc : ge_cv R_law idx 1 y') (hs : ge_SH[q]? = some (.inl (ci, fs))) (hM : ge_N X ge_SH y' d' [.ref (ge_ad X.1 q), a1] g (some (.int x)) g') (hd : d' ≤ 1500 ∧ y'.2.2.1 ≤ 29) (hq : vwCl[ci]? = some vc) (hq1 : vc.1 = y'.1.cls) (hr : (rest.map fun v => v.category).sum ≤ 8)
    (k : ge_Lw X p lc e s m below meth c b (pc + 3) l (.int x :: rest) g') : ge_Lw X p lc e s m below meth c b pc l (a1 :: .ref (ge_ad X.1 q) :: rest) g := gl_call (As := [a1]) C dg hc hd hs hq hq1 rfl rfl hr hM k
theorem gl_r2 {idx q ci d' : Nat} {y' : ge_Y} {a1 a2 : Value} {fs : List ge_F} {vc : vw_C} {x : Int32} {g' : ge_G} (C : ge_LC X p s m meth c b L xs) (dg : decode code pc = .ok (.invokevirtual idx, 3)) (hc : ge_cv R_law idx 2 y') (hs : ge_SH[q]? = some (.inl (ci, fs))) (hM : ge_N X ge_SH y' d' [.ref (ge_ad X.1 q), a1, a2] g (some (.int x)) g') (hd : d' ≤ 1500 ∧ y'.2.2.1 ≤ 29) (hq : vwCl[ci]? = some vc) (hq1 : vc.1 = y'.1.cls) (hr : (rest.map fun v => v.category).sum ≤ 8)
    (k : ge_Lw X p lc e s m below meth c b (pc + 3) l (.int x :: rest) g') : ge_Lw X p lc e s m below meth c b pc l (a2 :: a1 :: .ref (ge_ad X.1 q) :: rest) g := gl_call (As := [a1, a2]) C dg hc hd hs hq hq1 rfl rfl hr hM k
theorem gl_r3 {idx q ci d' : Nat} {y' : ge_Y} {a1 a2 a3 : Value} {fs : List ge_F} {vc : vw_C} {x : Int32} {g' : ge_G} (C : ge_LC X p s m meth c b L xs) (dg : decode code pc = .ok (.invokevirtual idx, 3)) (hc : ge_cv R_law idx 3 y') (hs : ge_SH[q]? = some (.inl (ci, fs))) (hM : ge_N X ge_SH y' d' [.ref (ge_ad X.1 q), a1, a2, a3] g (some (.int x)) g') (hd : d' ≤ 1500 ∧ y'.2.2.1 ≤ 29) (hq : vwCl[ci]? = some vc) (hq1 : vc.1 = y'.1.cls) (hr : (rest.map fun v => v.category).sum ≤ 8)
    (k : ge_Lw X p lc e s m below meth c b (pc + 3) l (.int x :: rest) g') : ge_Lw X p lc e s m below meth c b pc l (a3 :: a2 :: a1 :: .ref (ge_ad X.1 q) :: rest) g := gl_call (As := [a1, a2, a3]) C dg hc hd hs hq hq1 rfl rfl hr hM k
theorem gl_r4 {idx q ci d' : Nat} {y' : ge_Y} {a1 a2 a3 a4 : Value} {fs : List ge_F} {vc : vw_C} {x : Int32} {g' : ge_G} (C : ge_LC X p s m meth c b L xs) (dg : decode code pc = .ok (.invokevirtual idx, 3)) (hc : ge_cv R_law idx 4 y') (hs : ge_SH[q]? = some (.inl (ci, fs))) (hM : ge_N X ge_SH y' d' [.ref (ge_ad X.1 q), a1, a2, a3, a4] g (some (.int x)) g') (hd : d' ≤ 1500 ∧ y'.2.2.1 ≤ 29) (hq : vwCl[ci]? = some vc) (hq1 : vc.1 = y'.1.cls) (hr : (rest.map fun v => v.category).sum ≤ 8)
    (k : ge_Lw X p lc e s m below meth c b (pc + 3) l (.int x :: rest) g') : ge_Lw X p lc e s m below meth c b pc l (a4 :: a3 :: a2 :: a1 :: .ref (ge_ad X.1 q) :: rest) g := gl_call (As := [a1, a2, a3, a4]) C dg hc hd hs hq hq1 rfl rfl hr hM k
theorem gl_r5 {idx q ci d' : Nat} {y' : ge_Y} {a1 a2 a3 a4 a5 : Value} {fs : List ge_F} {vc : vw_C} {x : Int32} {g' : ge_G} (C : ge_LC X p s m meth c b L xs) (dg : decode code pc = .ok (.invokevirtual idx, 3)) (hc : ge_cv R_law idx 5 y') (hs : ge_SH[q]? = some (.inl (ci, fs))) (hM : ge_N X ge_SH y' d' [.ref (ge_ad X.1 q), a1, a2, a3, a4, a5] g (some (.int x)) g') (hd : d' ≤ 1500 ∧ y'.2.2.1 ≤ 29) (hq : vwCl[ci]? = some vc) (hq1 : vc.1 = y'.1.cls) (hr : (rest.map fun v => v.category).sum ≤ 8)
    (k : ge_Lw X p lc e s m below meth c b (pc + 3) l (.int x :: rest) g') : ge_Lw X p lc e s m below meth c b pc l (a5 :: a4 :: a3 :: a2 :: a1 :: .ref (ge_ad X.1 q) :: rest) g := gl_call (As := [a1, a2, a3, a4, a5]) C dg hc hd hs hq hq1 rfl rfl hr hM k
end G1
