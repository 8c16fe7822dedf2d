/-! states that agree within the shape are one; a World's cells out of a row -/
def ge_len : ge_S → Nat
  | .inl (_, fs) => fs.length
  | .inr (.inl n) => n
  | .inr (.inr _) => 0
def ge_ag (S : List ge_S) (g g' : ge_G) : Prop := ∀ (p : Nat) (a : ge_S), S[p]? = some a → ∀ k, k < ge_len a → g p k = g' p k
section W1
variable {X : ge_X} {S : List ge_S} {y : ge_Y} {d : Nat} {Q : Option Value → ge_G → Prop} {l : List (Nat × Value)} {st : List Value} {g g' : ge_G} {pc : Nat}
theorem ge_H_ag {H : Heap} (h : ge_ag S g g') (hH : ge_H X S g H) : ge_H X S g' H := by
  have hat : ∀ (k : Nat) (q : Nat × va_E), (ge_w X S g')[k]? = some q → ∃ q', (ge_w X S g)[k]? = some q' ∧ q'.1 = q.1 ∧ (va_at X.2.2.1 vwCl q' H → va_at X.2.2.1 vwCl q H) := by
    intro k q hk
    simp only [ge_w, List.getElem?_mapIdx, Option.map_eq_some_iff] at hk
    obtain ⟨a, ha, rfl⟩ := hk
    refine ⟨_, ge_w_get X S g ha, rfl, ?_⟩
    have hg := h k a ha
    match a, hg with
    | .inl (ci, fs), hg =>
      have e : ge_e X (g k) (.inl (ci, fs)) = ge_e X (g' k) (.inl (ci, fs)) := by
        unfold ge_e
        have e2 : fs.mapIdx (fun j b => ge_v X.1 (g k j) b) = fs.mapIdx (fun j b => ge_v X.1 (g' k j) b) := by
          apply List.ext_getElem?
          intro i
          simp only [List.getElem?_mapIdx]
          by_cases hi : i < fs.length
          · rw [hg i hi]
          · rw [List.getElem?_eq_none (by omega)]; rfl
        simp only [e2]
      rw [e]
      exact fun z => z
    | .inr (.inl n), hg =>
      intro hq
      have hq' : H[ge_ad X.1 k]? = some (vp_cell X.2.2.2.1 (n, .inl (g k))) := hq
      show H[ge_ad X.1 k]? = some (vp_cell X.2.2.2.1 (n, .inl (g' k)))
      rw [hq', vp_cell_i, vp_cell_i, arrV_congr _ n (fun j hj => by rw [hg j hj])]
    | .inr (.inr (t, rs)), hg => exact fun z => z
  refine ⟨fun k q hk => ?_, fun i j a b hi hj hab => ?_, fun k q hk => ?_⟩
  · obtain ⟨q', h1, h2, h3⟩ := hat k q hk
    exact h3 (hH.1 k q' h1)
  · obtain ⟨a', h1, h2, -⟩ := hat i a hi
    obtain ⟨b', h3, h4, -⟩ := hat j b hj
    exact hH.2.1 i j a' b' h1 h3 (by rw [h2, h4]; exact hab)
  · obtain ⟨q', h1, h2, -⟩ := hat k q hk
    rw [← h2]
    exact hH.2.2 k q' h1
theorem ge_Aag (h : ge_ag S g g') (k : ge_A X S y d Q pc l st g') : ge_A X S y d Q pc l st g :=
  fun pr lc e s m args below meth c H locs ls C hH hS hls => k pr lc e s m args below meth c H locs ls C (ge_H_ag h hH) hS hls
theorem gq_ag (h : ge_ag S g g') (k : ge_B X S y d Q pc l st g') : ge_B X S y d Q pc l st g := by
  classical
  intro g1 hg
  refine ge_Aag (g' := fun p i => if ∃ a, S[p]? = some a ∧ i < ge_len a then g1 p i else g' p i) (fun p a ha i hi => ?_) (k _ (fun p i hz => ?_))
  · exact (if_pos ⟨a, ha, hi⟩).symm
  · by_cases hc : ∃ a, S[p]? = some a ∧ i < ge_len a
    · rw [if_pos hc]
      obtain ⟨a, ha, hi⟩ := hc
      rw [hg p i hz]
      exact h p a ha i hi
    · rw [if_neg hc]
end W1
/-- the World at place pw (its object, then nine arrays) as a row has it; x: outs, firstOut, lost, spared; hb: what was heeded -/
def ge_k (g : ge_G) (pw : Nat) (r x hb : Nat → Int32) : ge_G := fun q =>
  if q = pw then (fun k => if k = 11 then r 2 else if k = 12 then r 3 else if k = 13 then r 0 else if k = 14 then r 1 else x k)
  else if q = pw + 1 then (fun t => r (8 + t)) else if q = pw + 2 then (fun e => p_e r e 0) else if q = pw + 3 then (fun e => p_e r e 1)
  else if q = pw + 4 then (fun e => p_e r e 2) else if q = pw + 5 then (fun e => p_e r e 3) else if q = pw + 6 then (fun s => p_o r (s / 2) (s % 2))
  else if q = pw + 7 then (fun w => p_o r w 2) else if q = pw + 8 then (fun w => p_o r w 3) else if q = pw + 9 then hb else g q
theorem ge_k_o (g : ge_G) (pw : Nat) (r x hb : Nat → Int32) {q : Nat} (h : q < pw ∨ pw + 9 < q) : ge_k g pw r x hb q = g q := by
  unfold ge_k
  repeat rw [if_neg (by omega)]
/-- rows alike where a World looks -/
def ge_ra (r r' : Nat → Int32) : Prop := r 0 = r' 0 ∧ r 1 = r' 1 ∧ r 2 = r' 2 ∧ r 3 = r' 3 ∧ (∀ t, t < 10 → r (8 + t) = r' (8 + t)) ∧ (∀ e, e < 8 → ∀ k, k < 4 → p_e r e k = p_e r' e k) ∧ (∀ w, w < 6 → ∀ k, k < 4 → p_o r w k = p_o r' w k)
theorem ge_hw {pw : Nat} (hp : pw = 25 ∨ pw = 35 ∨ pw = 45) : (∃ fs, ge_SH[pw]? = some (.inl (10, fs)) ∧ fs.length = 19) ∧ ge_SH[pw + 1]? = some (.inr (.inl 10)) ∧ ge_SH[pw + 2]? = some (.inr (.inl 8)) ∧ ge_SH[pw + 3]? = some (.inr (.inl 8)) ∧ ge_SH[pw + 4]? = some (.inr (.inl 8)) ∧ ge_SH[pw + 5]? = some (.inr (.inl 8)) ∧ ge_SH[pw + 6]? = some (.inr (.inl 12)) ∧ ge_SH[pw + 7]? = some (.inr (.inl 6)) ∧ ge_SH[pw + 8]? = some (.inr (.inl 6)) ∧ ge_SH[pw + 9]? = some (.inr (.inl 6)) := by
  rcases hp with rfl | rfl | rfl
  · exact ⟨⟨_, sh_25, rfl⟩, sh_26, sh_27, sh_28, sh_29, sh_30, sh_31, sh_32, sh_33, sh_34⟩
  · exact ⟨⟨_, sh_35, rfl⟩, sh_36, sh_37, sh_38, sh_39, sh_40, sh_41, sh_42, sh_43, sh_44⟩
  · exact ⟨⟨_, sh_45, rfl⟩, sh_46, sh_47, sh_48, sh_49, sh_50, sh_51, sh_52, sh_53, sh_54⟩
/-- a World's cells may be told by another row that is alike -/
theorem ge_k_ag {g G : ge_G} {pw : Nat} (hp : pw = 25 ∨ pw = 35 ∨ pw = 45) {r x hb : Nat → Int32}
    (h0 : ∀ k, k < 19 → G pw k = ge_k g pw r x hb pw k) (h1 : ∀ t, t < 10 → G (pw + 1) t = r (8 + t)) (h2 : ∀ e, e < 8 → G (pw + 2) e = p_e r e 0) (h3 : ∀ e, e < 8 → G (pw + 3) e = p_e r e 1) (h4 : ∀ e, e < 8 → G (pw + 4) e = p_e r e 2) (h5 : ∀ e, e < 8 → G (pw + 5) e = p_e r e 3)
    (h6 : ∀ s, s < 12 → G (pw + 6) s = p_o r (s / 2) (s % 2)) (h7 : ∀ w, w < 6 → G (pw + 7) w = p_o r w 2) (h8 : ∀ w, w < 6 → G (pw + 8) w = p_o r w 3) (h9 : ∀ w, w < 6 → G (pw + 9) w = hb w) (ho : ∀ q, q < pw ∨ pw + 9 < q → G q = g q) : ge_ag ge_SH G (ge_k g pw r x hb) := by
  obtain ⟨⟨fs, s0, hfs⟩, s1, s2, s3, s4, s5, s6, s7, s8, s9⟩ := ge_hw hp
  intro p a ha k hk
  rcases (by omega : (p < pw ∨ pw + 9 < p) ∨ p = pw ∨ p = pw + 1 ∨ p = pw + 2 ∨ p = pw + 3 ∨ p = pw + 4 ∨ p = pw + 5 ∨ p = pw + 6 ∨ p = pw + 7 ∨ p = pw + 8 ∨ p = pw + 9) with h | rfl | rfl | rfl | rfl | rfl | rfl | rfl | rfl | rfl | rfl
  · rw [ge_k_o g pw r x hb h, ho p h]
  · rw [s0] at ha; cases ha; exact h0 k (by have : k < fs.length := hk; omega)
  · rw [s1] at ha; cases ha; rw [h1 k hk]; simp [ge_k]
  · rw [s2] at ha; cases ha; rw [h2 k hk]; simp [ge_k]
  · rw [s3] at ha; cases ha; rw [h3 k hk]; simp [ge_k]
  · rw [s4] at ha; cases ha; rw [h4 k hk]; simp [ge_k]
  · rw [s5] at ha; cases ha; rw [h5 k hk]; simp [ge_k]
  · rw [s6] at ha; cases ha; rw [h6 k hk]; simp [ge_k]
  · rw [s7] at ha; cases ha; rw [h7 k hk]; simp [ge_k]
  · rw [s8] at ha; cases ha; rw [h8 k hk]; simp [ge_k]
  · rw [s9] at ha; cases ha; rw [h9 k hk]; simp [ge_k]
