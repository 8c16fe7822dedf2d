section R7
variable {X : ge_X} {S : List ge_S} {y : ge_Y} {d : Nat} {Q : Option Value → ge_G → Prop} {l : List (Nat × Value)} {st rest : List Value} {g : ge_G} {pc : Nat}
theorem ge_inc1 (k : Nat) : nI k + Int32.ofInt 1 = nI (k + 1) := by rw [kc_1]; exact nI_1 k
theorem ge_inci {a : Int32} {k : Nat} (h : a = nI k) : a + Int32.ofInt 1 = nI (k + 1) := by rw [h]; exact ge_inc1 k
/-- a value that both sides of a choice bring to the place J -/
theorem ge_cutc {J : Nat} {a b : Value} (v : Int32) (kJ : ge_A X S y d Q J l (.int v :: st) g) (k : ge_A X S y d Q J l (.int v :: st) g → ge_A X S y d Q pc l (a :: b :: st) g) : ge_A X S y d Q pc l (a :: b :: st) g := k kJ
theorem ge_cutz {J : Nat} {a : Value} (v : Int32) (kJ : ge_A X S y d Q J l (.int v :: st) g) (k : ge_A X S y d Q J l (.int v :: st) g → ge_A X S y d Q pc l (a :: st) g) : ge_A X S y d Q pc l (a :: st) g := k kJ
theorem ge_tov {v w : Int32} (h : v = w) (k : ge_A X S y d Q pc l (.int v :: st) g) : ge_A X S y d Q pc l (.int w :: st) g := h ▸ k
theorem ge_tog {g' : ge_G} (h : g = g') (k : ge_A X S y d Q pc l st g) : ge_A X S y d Q pc l st g' := h ▸ k
theorem ge_totog {v : Option Value} {a : List Value} {g1 g2 : ge_G} (h : g1 = g2) (k : ge_Ret X S y d a g v g1) : ge_Ret X S y d a g v g2 := h ▸ k
theorem arrV_congr (cA : ClassId) (n : Nat) {f f' : Nat → Value} (h : ∀ k, k < n → f k = f' k) : arrV cA n f = arrV cA n f' := by
  unfold arrV
  congr 1
  congr 1
  funext j
  exact h j.val j.isLt
/-- two rows that agree within the array's length are one -/
theorem ge_H_row {p n : Nat} {f f' : Nat → Int32} (hs : S[p]? = some (.inr (.inl n))) (h : ∀ k, k < n → f k = f' k) {H : Heap} (hH : ge_H X S (ge_row g p f) H) : ge_H X S (ge_row g p f') H := by
  have hat : ∀ (k : Nat) (q : Nat × va_E), (ge_w X S (ge_row g p f'))[k]? = some q → ∃ q', (ge_w X S (ge_row g p f))[k]? = some q' ∧ q'.1 = q.1 ∧ (va_at X.2.2.1 vwCl q' H → va_at X.2.2.1 vwCl q H) := by
    intro k q hk
    by_cases hp : k = p
    · subst hp
      rw [ge_w_get X S _ hs, ge_row_self] at hk
      refine ⟨_, ge_w_get X S _ hs, ?_, ?_⟩
      · cases hk; rfl
      · cases hk
        rw [ge_row_self]
        intro hq
        show H[_]? = some (vp_cell _ _)
        have hq' : H[ge_ad X.1 k]? = some (vp_cell X.2.2.2.1 (n, .inl f)) := hq
        show H[ge_ad X.1 k]? = some (vp_cell X.2.2.2.1 (n, .inl f'))
        rw [hq', vp_cell_i, vp_cell_i, arrV_congr _ n (fun j hj => by rw [h j hj])]
    · have e : (ge_w X S (ge_row g p f))[k]? = (ge_w X S (ge_row g p f'))[k]? := by
        simp only [ge_w, List.getElem?_mapIdx]
        rw [ge_row_ne g f hp, ge_row_ne g f' hp]
      exact ⟨q, by rw [e]; exact hk, rfl, fun h => h⟩
  refine ⟨fun k q hk => ?_, fun i j a b hi hj hab => ?_, fun k q hk => ?_⟩
  · obtain ⟨q', h1, h2, h3⟩ := hat k q hk
    exact h3 (hH.1 k q' h1)
  · obtain ⟨a', h1, h2, -⟩ := hat i a hi
    obtain ⟨b', h3, h4, -⟩ := hat j b hj
    exact hH.2.1 i j a' b' h1 h3 (by rw [h2, h4]; exact hab)
  · obtain ⟨q', h1, h2, -⟩ := hat k q hk
    rw [← h2]
    exact hH.2.2 k q' h1
theorem ge_eqv {p n : Nat} {f f' : Nat → Int32} (hs : S[p]? = some (.inr (.inl n))) (h : ∀ k, k < n → f k = f' k) (k : ge_A X S y d Q pc l st (ge_row g p f')) : ge_A X S y d Q pc l st (ge_row g p f) :=
  fun pr lc e s m args below meth c H locs ls C hH hS hls => k pr lc e s m args below meth c H locs ls C (ge_H_row hs h hH) hS hls
end R7
