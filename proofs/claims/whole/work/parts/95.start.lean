section S0
variable {p : Program} {s : State} {m : MethodId} {meth : Method} {c : Code} {b L : Nat} {xs : Nat → Int32}
theorem st_cls (hts : ∀ w ∈ ge_tbl, w.before #[Value.ref b] s = true) : ∃ D : va_G, ∀ (k : Nat) (q : vw_C), vwCl[k]? = some q → u_Kn s q.1 q.2.1 q.2.2 (D.1 k) (D.2 k) := by
  obtain ⟨c0, j0, K0⟩ := u_known (C := RX0) (T := TX0) (N := 1) (n := 1) hts uw_X0 (hts _ (ge_tl 167 (by decide +kernel) rfl))
  obtain ⟨c1, j1, K1⟩ := u_known (C := RX1) (T := TX1) (N := 1) (n := 1) hts uw_X1 (hts _ (ge_tl 121 (by decide +kernel) rfl))
  obtain ⟨c2, j2, K2⟩ := u_known (C := RX2) (T := TX2) (N := 1) (n := 1) hts uw_X2 (hts _ (ge_tl 151 (by decide +kernel) rfl))
  obtain ⟨c3, j3, K3⟩ := u_known (C := RX3) (T := TX3) (N := 1) (n := 1) hts uw_X3 (hts _ (ge_tl 159 (by decide +kernel) rfl))
  obtain ⟨c4, j4, K4⟩ := u_known (C := RX4) (T := TX4) (N := 2) (n := 2) hts uw_X4 (hts _ (ge_tl 191 (by decide +kernel) rfl))
  obtain ⟨c5, j5, K5⟩ := u_known (C := RX5) (T := TX5) (N := 1) (n := 1) hts uw_X5 (hts _ (ge_tl 183 (by decide +kernel) rfl))
  obtain ⟨c6, j6, K6⟩ := u_known (C := RX6) (T := TX6) (N := 1) (n := 1) hts uw_X6 (hts _ (ge_tl 143 (by decide +kernel) rfl))
  obtain ⟨c7, j7, K7⟩ := u_known (C := RX7) (T := TX7) (N := 3) (n := 3) hts uw_X7 (hts _ (ge_tl 96 (by decide +kernel) rfl))
  obtain ⟨c8, j8, K8⟩ := u_known (C := RX8) (T := TX8) (N := 1) (n := 1) hts uw_X8 (hts _ (ge_tl 175 (by decide +kernel) rfl))
  obtain ⟨c9, j9, K9⟩ := u_known (C := RX9) (T := TX9) (N := 4) (n := 4) hts uw_X9 (hts _ (ge_tl 299 (by decide +kernel) rfl))
  obtain ⟨c10, j10, K10⟩ := u_known (C := RX10) (T := TX10) (N := 19) (n := 19) hts uw_X10 (hts _ (ge_tl 212 (by decide +kernel) rfl))
  obtain ⟨c11, j11, K11⟩ := u_known (C := RX11) (T := TX11) (N := 15) (n := 15) hts uw_X11 (hts _ (ge_tl 88 (by decide +kernel) rfl))
  obtain ⟨c12, j12, K12⟩ := u_known (C := RX12) (T := TX12) (N := 26) (n := 26) hts uw_X12 (hts _ (ge_tl 981 (by decide +kernel) rfl))
  refine ⟨(fun k => if k = 0 then c0 else if k = 1 then c1 else if k = 2 then c2 else if k = 3 then c3 else if k = 4 then c4 else if k = 5 then c5 else if k = 6 then c6 else if k = 7 then c7 else if k = 8 then c8 else if k = 9 then c9 else if k = 10 then c10 else if k = 11 then c11 else c12, fun k => if k = 0 then j0 else if k = 1 then j1 else if k = 2 then j2 else if k = 3 then j3 else if k = 4 then j4 else if k = 5 then j5 else if k = 6 then j6 else if k = 7 then j7 else if k = 8 then j8 else if k = 9 then j9 else if k = 10 then j10 else if k = 11 then j11 else j12), fun k q hq => ?_⟩
  match k, hq with
  | 0, hq => cases hq; exact K0
  | 1, hq => cases hq; exact K1
  | 2, hq => cases hq; exact K2
  | 3, hq => cases hq; exact K3
  | 4, hq => cases hq; exact K4
  | 5, hq => cases hq; exact K5
  | 6, hq => cases hq; exact K6
  | 7, hq => cases hq; exact K7
  | 8, hq => cases hq; exact K8
  | 9, hq => cases hq; exact K9
  | 10, hq => cases hq; exact K10
  | 11, hq => cases hq; exact K11
  | 12, hq => cases hq; exact K12
  | k + 13, hq => simp [vwCl] at hq
theorem st_arr (hts : ∀ w ∈ lw_tbl, w.before #[Value.ref b] s = true) : ∃ (cI : ClassId) (cT : Nat → ClassId), ∀ (k : Nat) (q : ClassId × FieldType), [(cI, FieldType.int), (cT 0, .object RX1), (cT 1, .object RX7)][k]? = some q → ArrOfT s q.1 q.2 ∧ va_RA s q.1 q.2 := by
  obtain ⟨cI, kI, pI, a1, a2, a3⟩ := Cond.arrayClass_spec (hts (.arrayClass .int) (List.mem_of_getElem? (i := 118) (by decide +kernel)))
  obtain ⟨p1, c1, k1, o1, -, o3, o4, o5⟩ := Cond.arrayOver_spec (hts (.arrayOver (.object RX1)) (List.mem_of_getElem? (i := 120) (by decide +kernel)))
  obtain ⟨p7, c7, k7, r1, -, r3, r4, r5⟩ := Cond.arrayOver_spec (hts (.arrayOver (.object RX7)) (List.mem_of_getElem? (i := 197) (by decide +kernel)))
  refine ⟨cI, fun k => if k = 0 then c1 else c7, fun k q hq => ?_⟩
  match k, hq with
  | 0, hq => cases hq; exact ⟨fun N z => ⟨(fun k h => by cases h), kI, a2, pI, a3⟩, a1⟩
  | 1, hq => cases hq; exact ⟨fun N z => ⟨(fun k h => by cases h), k1, o3, p1, o4⟩, k1, p1, o3, o4, o1, o5⟩
  | 2, hq => cases hq; exact ⟨fun N z => ⟨(fun k h => by cases h), k7, r3, p7, r4⟩, k7, p7, r3, r4, r1, r5⟩
  | k + 3, hq => simp at hq
theorem st_kx (hts : ∀ w ∈ lw_tbl, w.before #[Value.ref b] s = true) : nw_Kx s :=
  ⟨va_AO.of (hts (.arrayOver (.object RX1)) (List.mem_of_getElem? (i := 120) (by decide +kernel))), va_AO.of (hts (.arrayOver (.object RX7)) (List.mem_of_getElem? (i := 197) (by decide +kernel))), (List.forall_mem_cons.mpr ⟨va_Nw.of rfl (hts (.castable RX0 RX1) (List.mem_of_getElem? (i := 1453) (by decide +kernel))), (List.forall_mem_cons.mpr ⟨va_Nw.of rfl (hts (.castable RX2 RX1) (List.mem_of_getElem? (i := 1451) (by decide +kernel))), (List.forall_mem_cons.mpr ⟨va_Nw.of rfl (hts (.castable RX3 RX1) (List.mem_of_getElem? (i := 1452) (by decide +kernel))), (List.forall_mem_cons.mpr ⟨va_Nw.of rfl (hts (.castable RX5 RX1) (List.mem_of_getElem? (i := 1455) (by decide +kernel))), (List.forall_mem_cons.mpr ⟨va_Nw.of rfl (hts (.castable RX6 RX1) (List.mem_of_getElem? (i := 1450) (by decide +kernel))), (List.forall_mem_cons.mpr ⟨va_Nw.of rfl (hts (.castable RX8 RX1) (List.mem_of_getElem? (i := 1454) (by decide +kernel))), (fun _ h => by cases h)⟩)⟩)⟩)⟩)⟩)⟩)⟩
def st_tm (i : Nat) : Term := if i = 0 then .string "GlassEyes$TextReader" 79 else .string "GlassEyes$TextReader" 81
set_option maxHeartbeats 4000000 in
theorem st_str (hgv : (Jvm.Cond.and given_1 narrow_1).before #[Value.ref b] s = true) : ∃ adK adV : Nat → Nat, vk_S 2 [3, 3] [[98, 104, 109], [108, 114, 104]] adK adV (fun q => s.heap.size ≤ q) s s.heap ∧ ∀ i : Nat, i < 2 → (st_tm i).eval #[Value.ref b] s none [] s = some (.ref (adK i)) := by
  have hs := flat_of_before _ hgv
  exact vk_Sof (tm := st_tm) (fun i hi => by
    rcases (by omega : i = 0 ∨ i = 1) with rfl | rfl <;> decide)
    (fun i hi => by
    rcases (by omega : i = 0 ∨ i = 1) with rfl | rfl
    · exact hs (.exactly (.string "GlassEyes$TextReader" 79) "java/lang/String") (by decide +kernel)
    · exact hs (.exactly (.string "GlassEyes$TextReader" 81) "java/lang/String") (by decide +kernel))
    (fun i hi => by
    rcases (by omega : i = 0 ∨ i = 1) with rfl | rfl
    · exact hs (.eq (.field (.string "GlassEyes$TextReader" 79) "java/lang/String" "coder" "B") (.int 0)) (by decide +kernel)
    · exact hs (.eq (.field (.string "GlassEyes$TextReader" 81) "java/lang/String" "coder" "B") (.int 0)) (by decide +kernel))
    (fun i hi => by
    rcases (by omega : i = 0 ∨ i = 1) with rfl | rfl
    · exact hs (.arrayOf (.field (.string "GlassEyes$TextReader" 79) "java/lang/String" "value" "[B") .byte) (by decide +kernel)
    · exact hs (.arrayOf (.field (.string "GlassEyes$TextReader" 81) "java/lang/String" "value" "[B") .byte) (by decide +kernel))
    (fun i hi => by
    rcases (by omega : i = 0 ∨ i = 1) with rfl | rfl
    · exact hs (.eq (.length (.field (.string "GlassEyes$TextReader" 79) "java/lang/String" "value" "[B")) (.int 3)) (by decide +kernel)
    · exact hs (.eq (.length (.field (.string "GlassEyes$TextReader" 81) "java/lang/String" "value" "[B")) (.int 3)) (by decide +kernel))
    (fun i hi j hj => by
    rcases (by omega : i = 0 ∨ i = 1) with rfl | rfl
    · rcases (by have : j < 3 := hj; omega : j = 0 ∨ j = 1 ∨ j = 2) with rfl | rfl | rfl
      · exact hs (.eq (.elem (.field (.string "GlassEyes$TextReader" 79) "java/lang/String" "value" "[B") (.int 0)) (.int 98)) (by decide +kernel)
      · exact hs (.eq (.elem (.field (.string "GlassEyes$TextReader" 79) "java/lang/String" "value" "[B") (.int 1)) (.int 104)) (by decide +kernel)
      · exact hs (.eq (.elem (.field (.string "GlassEyes$TextReader" 79) "java/lang/String" "value" "[B") (.int 2)) (.int 109)) (by decide +kernel)
    · rcases (by have : j < 3 := hj; omega : j = 0 ∨ j = 1 ∨ j = 2) with rfl | rfl | rfl
      · exact hs (.eq (.elem (.field (.string "GlassEyes$TextReader" 81) "java/lang/String" "value" "[B") (.int 0)) (.int 108)) (by decide +kernel)
      · exact hs (.eq (.elem (.field (.string "GlassEyes$TextReader" 81) "java/lang/String" "value" "[B") (.int 1)) (.int 114)) (by decide +kernel)
      · exact hs (.eq (.elem (.field (.string "GlassEyes$TextReader" 81) "java/lang/String" "value" "[B") (.int 2)) (.int 104)) (by decide +kernel))
    (fun i j hi hj hne => by
    rcases (by omega : i = 0 ∧ j = 1 ∨ i = 1 ∧ j = 0) with ⟨rfl, rfl⟩ | ⟨rfl, rfl⟩
    · exact Or.inl (hs (.not (.eq (.string "GlassEyes$TextReader" 79) (.string "GlassEyes$TextReader" 81))) (by decide +kernel))
    · exact Or.inr (hs (.not (.eq (.string "GlassEyes$TextReader" 79) (.string "GlassEyes$TextReader" 81))) (by decide +kernel))) (fun a ha => Nat.not_le.mpr ha)
/-- what the start gives: the classes, the arrays' classes, the two texts, the JDK's own statics -/
theorem lw_start (C0 : lw_At p s m meth c b L xs) : ∃ (Z : nw_Z) (k v : Nat → Nat) (z t : Nat), Z.1 = s.heap.size ∧ nw_K Z s ∧ ∀ x : Nat → Nat, x 1000 = k 0 → x 1001 = k 1 → x 1010 = v 0 → x 1011 = v 1 → x 1020 = z → x 1021 = t → ge_K (x, Z) s := by
  obtain ⟨hx, hb, hr, hml, hown, hts, hX, hbl, hlocks, hgv⟩ := C0
  have hts2 : ∀ w ∈ ge_tbl, w.before #[Value.ref b] s = true := fun w h => hts w (List.mem_filter.mp h).1
  obtain ⟨D, hD⟩ := st_cls hts2
  obtain ⟨cI, cT, hA⟩ := st_arr hts
  obtain ⟨k, v, hS, hev⟩ := st_str hgv
  have hs := flat_of_before _ hgv
  have hz : ∀ a : Nat, a < s.heap.size → ¬ (fun q => s.heap.size ≤ q) a := fun a ha => Nat.not_le.mpr ha
  have hC : va_Z "java/lang/String" "COMPACT_STRINGS" "Z" (.int 1) (fun q => s.heap.size ≤ q) s s.heap := va_Zof (hts (.laysStatic "java/lang/String" "COMPACT_STRINGS" "Z") (List.mem_of_getElem? (i := 629) (by decide +kernel))) (hts (.initialized "java/lang/String") (List.mem_of_getElem? (i := 81) (by decide +kernel))) (va_eqi (hs (.eq (.static "java/lang/String" "COMPACT_STRINGS" "Z") (.int 1)) (by decide +kernel))) hz
  have hF : va_Zq "jdk/internal/util/Preconditions" "SIOOBE_FORMATTER" "Ljava/util/function/BiFunction;" (fun q => s.heap.size ≤ q) s s.heap := va_Zqof (hts (.laysStatic "jdk/internal/util/Preconditions" "SIOOBE_FORMATTER" "Ljava/util/function/BiFunction;") (List.mem_of_getElem? (i := 645) (by decide +kernel))) (hts (.initialized "jdk/internal/util/Preconditions") (List.mem_of_getElem? (i := 83) (by decide +kernel))) (hs (.isRef (.static "jdk/internal/util/Preconditions" "SIOOBE_FORMATTER" "Ljava/util/function/BiFunction;")) (by decide +kernel)) hz
  obtain ⟨z, t, hF⟩ : ∃ z t : Nat, va_Z "jdk/internal/util/Preconditions" "SIOOBE_FORMATTER" "Ljava/util/function/BiFunction;" (if z = 0 then Value.null else .ref t) (fun q => s.heap.size ≤ q) s s.heap := by
    rcases hF with h | ⟨t, h⟩
    · exact ⟨0, 0, h⟩
    · exact ⟨1, t, h⟩
  refine ⟨(s.heap.size, D, cI, cT), k, v, z, t, rfl, ⟨⟨hD, hA⟩, st_kx hts⟩, fun x e0 e1 e2 e3 e4 e5 => ⟨⟨hD, hA⟩, vk_R.of (A := #[Value.ref b]) (hts (.stringRef RX9 79 "bhm") (List.mem_of_getElem? (i := 618) (by decide +kernel))) ?_, vk_R.of (A := #[Value.ref b]) (hts (.stringRef RX9 81 "lrh") (List.mem_of_getElem? (i := 619) (by decide +kernel))) ?_, ⟨fun i hi => ?_, fun i j hi hj e => ?_⟩, hC, ?_⟩⟩
  · show _ = some (Value.ref (x 1000))
    rw [e0]; exact hev 0 (by decide)
  · show _ = some (Value.ref (x 1001))
    rw [e1]; exact hev 1 (by decide)
  · rcases (by omega : i = 0 ∨ i = 1) with rfl | rfl
    · have h := hS.1 0 (by decide)
      rw [← e0, ← e2] at h
      exact h
    · have h := hS.1 1 (by decide)
      rw [← e1, ← e3] at h
      exact h
  · apply hS.2 i j hi hj
    rcases (by omega : i = 0 ∨ i = 1) with rfl | rfl
    · rcases (by omega : j = 0 ∨ j = 1) with rfl | rfl
      · rfl
      · rw [← e0, ← e1]; exact e
    · rcases (by omega : j = 0 ∨ j = 1) with rfl | rfl
      · rw [← e0, ← e1]; exact e
      · rfl
  · show va_Z _ _ _ (if x 1020 = 0 then Value.null else .ref (x 1021)) _ _ _
    rw [e4, e5]; exact hF
end S0
