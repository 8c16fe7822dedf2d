section S1
variable {p : Program} {lc : Launch} {e : Env} {s : State} {m : MethodId} {below : List Frame} {meth : Method} {c : Code} {b L : Nat} {xs : Nat → Int32} {Z : nw_Z} {H : Heap} {locs : List Loc} {ls : Array Slot} {st rest : List Value} {k n pc : Nat} {Qw : State → Prop} {ws pre : va_W}
theorem lw_tb (C0 : lw_At p s m meth c b L xs) : ∀ w ∈ ge_tbl, w.before #[Value.ref b] s = true := fun w h => C0.2.2.2.2.2.1 w (List.mem_filter.mp h).1
theorem lw_new {idx ci N : Nat} {fs : List Value} (C0 : lw_At p s m meth c b L xs) (hZ : Z.1 = s.heap.size) (hK : nw_K Z s) (hH : nw_H Z ws H) (hS : va_S (fun q => Z.1 ≤ q) s.heap H locs) (dg : decode code pc = .ok (.new idx, 3)) (hc : nw_cl R_law idx ci N fs) (hk : k + 1 ≤ 600000) (hn : n + N ≤ 7302250)
    (kk : ∀ (q : Nat) (H1 : Heap), nw_H Z (ws ++ [(q, .inr (ci, fs))]) H1 → va_S (fun q => Z.1 ≤ q) s.heap H1 locs → W p lc e room_1 s m #[Value.ref b] below meth c H1 locs (k + 1) (n + N) Qw (F0 m (pc + 3) ls (.ref q :: st))) : W p lc e room_1 s m #[Value.ref b] below meth c H locs k n Qw (F0 m pc ls st) := by
  obtain ⟨Cn, T, ty, h1, h3, h4, h5, h6, h7, h8⟩ := hc
  refine va_new (D := Z.2.1) (cl := vwCl) (tys := nw_ty Z) (ws := ws) (ci := ci) (C := Cn) (T := T) (N := N) (fs := fs) C0.1 C0.2.1 (lw_tb C0) h3 ty h4 C0.2.2.2.2.1 (lw_tb C0 _ h5) (lw_tb C0 _ h6) (lw_tb C0 _ h7) hK.1 hH.1 hH.2 hS (fun q hq => by rw [hZ]; exact hq) h1 h8 hk hn dg ?_
  intro q H1 hP1 hD1 hS1
  exact kk q H1 ⟨hP1, hD1⟩ hS1
theorem lw_init {idx d' M' S' yl a : Nat} {ym : MethodName} {yb : ByteArray} {fr : Nat × va_E} {B : (Nat → Nat) → va_W} (C0 : lw_At p s m meth c b L xs) (hZ : Z.1 = s.heap.size) (hK : nw_K Z s) (hH : nw_H Z (pre ++ [fr]) H) (hS : va_S (fun q => Z.1 ≤ q) s.heap H locs) (hls : ls.size = 4) (dg : decode code pc = .ok (.invokespecial idx, 3)) (hc : nw_ci R_law idx 0 ym yb yl) (hM : nw_M Z (ym, yb, yl, none) d' M' S' [.ref a] (pre ++ [fr]) (nw_po pre B)) (hd : d' ≤ 1000)
    (hr : (rest.map fun v => v.category).sum ≤ 8) (hk : k + M' ≤ 600000) (hs : n + S' ≤ 7302250)
    (kk : ∀ (f : Nat → Nat) (H1 : Heap) (locs1 : List Loc), nw_H Z (pre ++ B f) H1 → va_S (fun q => Z.1 ≤ q) s.heap H1 locs1 → W p lc e room_1 s m #[Value.ref b] below meth c H1 locs1 (k + M') (n + S') Qw (F0 m (pc + 3) ls rest)) : W p lc e room_1 s m #[Value.ref b] below meth c H locs k n Qw (F0 m pc ls (.ref a :: rest)) := by
  obtain ⟨⟨hc1, hc2, hc3⟩, hc4, hc5, hc6, hc7⟩ := hc
  refine nw_after (va_runI (As := []) (rest := rest) (b := a) (nL := 4) (Ts := ge_tbl) (own := R_law) ⟨C0.1, C0.2.1, C0.2.2.2.1, C0.2.2.2.2.1, lw_tb C0⟩ (hM lc) (cwI (own := R_law) (index := idx) 0 (lw_tb C0) (ge_gin (y := (ym, yb, yl, none)) (y' := (ym, yb, yl, none)) (ws := []) hc4 (fun w h => by cases h)) rfl rfl rfl (lw_tb C0 _ hc3) (lw_tb C0 _ hc1) (lw_tb C0 _ hc2) hc5 hc6 ⟨by show d' + 1 ≤ 2048; omega, by show 8 + (yl + 11) + 48 * d' ≤ 84000; omega⟩)
    ⟨nw_blind Z (pre ++ [fr]) _, fun U hU hW => ⟨rfl, by rw [hU]; exact hH, nw_K_moved hW hK, by rw [hU, hZ]; exact hS.1⟩⟩ rfl rfl hls rfl (lv_room hr) dg ⟨hk, hs⟩) hS ?_
  rintro v ws' ⟨rfl, f, rfl⟩ H1 locs1 hH1 hS1
  exact kk f H1 locs1 hH1 hS1
end S1
/-- YOUR PART: from the entry, for every script of at most 3072 ints, the law comes to its end with true -/
theorem whole_start {p : Program} {e : Env} {s : State} {m : MethodId} {below : List Frame} {meth : Method} {c : Code} (l : Launch) {b L : Nat} {xs : Nat → Int32} (hL : L ≤ 3072) (C0 : lw_At p s m meth c b L xs) : W p l e room_1 s m #[Value.ref b] below meth c s.heap [] 0 0 (lw_Z below #[Value.ref b] s) (entryFrame m ([Value.ref b] : List Value).toArray 4) := by
  obtain ⟨Z, kk, vv, z, t, hZ, hK, hG⟩ := lw_start C0
  have hl := lv_entry ([.ref b]) (n := 4) (Nat.le_of_ble_eq_true rfl)
  rw [lg_entry_eq]
  generalize ((lg_sl [Value.ref b] ++ List.replicate (4 - (lg_sl [Value.ref b]).length) Slot.unset).toArray) = ls at hl ⊢
  have hl1 : lv_has ls 4 [(0, .ref b)] := hl
  have hH0 : nw_H Z [] s.heap := ⟨fun k q h => by simp at h, fun i j p q h => by simp at h, fun k q h => by simp at h⟩
  refine lw_new (Z := Z) (ws := []) C0 hZ hK hH0 va_S.rf dL_law_0 nl_L_7 (by decide) (by decide) (fun a H1 hH1 hS1 => ?_)
  refine lv_dup C0.1 C0.2.1 dL_law_3 rfl ?_
  refine lw_init (pre := []) C0 hZ hK hH1 hS1 hl1.1 dL_law_4 ni_L_9 n_X11 (by decide) (Nat.le_of_ble_eq_true rfl) (by decide) (by decide) (fun f H2 locs2 hH2 hS2 => ?_)
  refine lv_astore_n C0.1 C0.2.1 dL_law_7 rfl hl1 (by decide) rfl (fun ls2 hl2 => ?_)
  refine lw_new (Z := Z) (ws := [] ++ nb_ge Z a f) C0 hZ hK hH2 hS2 dL_law_8 nl_L_10 (by decide) (by decide) (fun a2 H3 hH3 hS3 => ?_)
  refine lv_dup C0.1 C0.2.1 dL_law_11 rfl ?_
  refine lw_init (pre := [] ++ nb_ge Z a f) C0 hZ hK hH3 hS3 hl2.1 dL_law_12 ni_L_12 n_X12 (by decide) (Nat.le_of_ble_eq_true rfl) (by decide) (by decide) (fun f2 H4 locs4 hH4 hS4 => ?_)
  refine lv_astore_n C0.1 C0.2.1 dL_law_15 rfl hl2 (by decide) rfl (fun ls3 hl3 => ?_)
  refine lv_iconst C0.1 C0.2.1 dL_law_16 kc_0 ?_
  refine lv_istore_n C0.1 C0.2.1 dL_law_17 rfl hl3 (by decide) rfl (fun ls4 hl4 => ?_)
  have hKX : ge_K (x_ad (x_L a f a2 f2) kk vv z t, Z) s := hG _ rfl rfl rfl rfl rfl rfl
  have C : ge_LC (x_ad (x_L a f a2 f2) kk vv z t, Z) p s m meth c b L xs := ⟨C0, hKX, hZ⟩
  have hgo := lw_loop (lc := l) (e := e) (below := below) C hL ge_I (fun n g x0 ys hn => ge_all n g x0 ys hn) (fun n g h => ge_I_1 h) 513 0 0 i0 (by omega) rfl (by omega) ge_I_0
  exact hgo H4 locs4 ls4 _ _ (by decide) (by decide) ⟨i0, ge_q_rf _, i0_H hH4⟩ hS4 (lv_sub hl4 [0, 3, 2, 1] rfl)
