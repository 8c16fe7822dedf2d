section W3
variable {X : ge_X} {y : ge_Y} {d : Nat} {Q : Option Value → ge_G → Prop} {l : List (Nat × Value)} {st : List Value} {g : ge_G} {pw : Nat} {r x hb : Nat → Int32} {pc : Nat}
theorem kq_ald1 (hp : pw = 25 ∨ pw = 35 ∨ pw = 45) {i : Int32} {j : Nat} (dg : decode y.2.1 pc = .ok (.iaload, 1)) (hi : i = nI j) (hj : j < 10) (kk : ge_B X ge_SH y d Q (pc + 1) l (.int (r (8 + j)) :: st) (ge_k g pw r x hb)) : ge_B X ge_SH y d Q pc l (.int i :: .ref (ge_ad X.1 (pw + 1)) :: st) (ge_k g pw r x hb) :=
  gq_ald dg (ge_hw hp).2.1 (by omega) hi hj (by decide) (by rw [ge_k_1]; exact kk)
theorem kq_ast1 (hp : pw = 25 ∨ pw = 35 ∨ pw = 45) {i v : Int32} {j : Nat} (dg : decode y.2.1 pc = .ok (.iastore, 1)) (hi : i = nI j) (hj : j < 10) (kk : ge_B X ge_SH y d Q (pc + 1) l st (ge_k g pw (upd r (8 + j) v) x hb)) : ge_B X ge_SH y d Q pc l (.int v :: .int i :: .ref (ge_ad X.1 (pw + 1)) :: st) (ge_k g pw r x hb) :=
  gq_ast dg (ge_hw hp).2.1 hi hj (by decide) (gq_ag (kw_up1 hp hj v) kk)
theorem kq_ald2 (hp : pw = 25 ∨ pw = 35 ∨ pw = 45) {i : Int32} {j : Nat} (dg : decode y.2.1 pc = .ok (.iaload, 1)) (hi : i = nI j) (hj : j < 8) (kk : ge_B X ge_SH y d Q (pc + 1) l (.int (p_e r j 0) :: st) (ge_k g pw r x hb)) : ge_B X ge_SH y d Q pc l (.int i :: .ref (ge_ad X.1 (pw + 2)) :: st) (ge_k g pw r x hb) :=
  gq_ald dg (ge_hw hp).2.2.1 (by omega) hi hj (by decide) (by rw [ge_k_2]; exact kk)
theorem kq_ast2 (hp : pw = 25 ∨ pw = 35 ∨ pw = 45) {i v : Int32} {j : Nat} (dg : decode y.2.1 pc = .ok (.iastore, 1)) (hi : i = nI j) (hj : j < 8) (kk : ge_B X ge_SH y d Q (pc + 1) l st (ge_k g pw (p_ue r j 0 v) x hb)) : ge_B X ge_SH y d Q pc l (.int v :: .int i :: .ref (ge_ad X.1 (pw + 2)) :: st) (ge_k g pw r x hb) :=
  gq_ast dg (ge_hw hp).2.2.1 hi hj (by decide) (gq_ag (kw_up2 hp hj v) kk)
theorem kq_ald3 (hp : pw = 25 ∨ pw = 35 ∨ pw = 45) {i : Int32} {j : Nat} (dg : decode y.2.1 pc = .ok (.iaload, 1)) (hi : i = nI j) (hj : j < 8) (kk : ge_B X ge_SH y d Q (pc + 1) l (.int (p_e r j 1) :: st) (ge_k g pw r x hb)) : ge_B X ge_SH y d Q pc l (.int i :: .ref (ge_ad X.1 (pw + 3)) :: st) (ge_k g pw r x hb) :=
  gq_ald dg (ge_hw hp).2.2.2.1 (by omega) hi hj (by decide) (by rw [ge_k_3]; exact kk)
theorem kq_ast3 (hp : pw = 25 ∨ pw = 35 ∨ pw = 45) {i v : Int32} {j : Nat} (dg : decode y.2.1 pc = .ok (.iastore, 1)) (hi : i = nI j) (hj : j < 8) (kk : ge_B X ge_SH y d Q (pc + 1) l st (ge_k g pw (p_ue r j 1 v) x hb)) : ge_B X ge_SH y d Q pc l (.int v :: .int i :: .ref (ge_ad X.1 (pw + 3)) :: st) (ge_k g pw r x hb) :=
  gq_ast dg (ge_hw hp).2.2.2.1 hi hj (by decide) (gq_ag (kw_up3 hp hj v) kk)
theorem kq_ald4 (hp : pw = 25 ∨ pw = 35 ∨ pw = 45) {i : Int32} {j : Nat} (dg : decode y.2.1 pc = .ok (.iaload, 1)) (hi : i = nI j) (hj : j < 8) (kk : ge_B X ge_SH y d Q (pc + 1) l (.int (p_e r j 2) :: st) (ge_k g pw r x hb)) : ge_B X ge_SH y d Q pc l (.int i :: .ref (ge_ad X.1 (pw + 4)) :: st) (ge_k g pw r x hb) :=
  gq_ald dg (ge_hw hp).2.2.2.2.1 (by omega) hi hj (by decide) (by rw [ge_k_4]; exact kk)
theorem kq_ast4 (hp : pw = 25 ∨ pw = 35 ∨ pw = 45) {i v : Int32} {j : Nat} (dg : decode y.2.1 pc = .ok (.iastore, 1)) (hi : i = nI j) (hj : j < 8) (kk : ge_B X ge_SH y d Q (pc + 1) l st (ge_k g pw (p_ue r j 2 v) x hb)) : ge_B X ge_SH y d Q pc l (.int v :: .int i :: .ref (ge_ad X.1 (pw + 4)) :: st) (ge_k g pw r x hb) :=
  gq_ast dg (ge_hw hp).2.2.2.2.1 hi hj (by decide) (gq_ag (kw_up4 hp hj v) kk)
theorem kq_ald5 (hp : pw = 25 ∨ pw = 35 ∨ pw = 45) {i : Int32} {j : Nat} (dg : decode y.2.1 pc = .ok (.iaload, 1)) (hi : i = nI j) (hj : j < 8) (kk : ge_B X ge_SH y d Q (pc + 1) l (.int (p_e r j 3) :: st) (ge_k g pw r x hb)) : ge_B X ge_SH y d Q pc l (.int i :: .ref (ge_ad X.1 (pw + 5)) :: st) (ge_k g pw r x hb) :=
  gq_ald dg (ge_hw hp).2.2.2.2.2.1 (by omega) hi hj (by decide) (by rw [ge_k_5]; exact kk)
theorem kq_ast5 (hp : pw = 25 ∨ pw = 35 ∨ pw = 45) {i v : Int32} {j : Nat} (dg : decode y.2.1 pc = .ok (.iastore, 1)) (hi : i = nI j) (hj : j < 8) (kk : ge_B X ge_SH y d Q (pc + 1) l st (ge_k g pw (p_ue r j 3 v) x hb)) : ge_B X ge_SH y d Q pc l (.int v :: .int i :: .ref (ge_ad X.1 (pw + 5)) :: st) (ge_k g pw r x hb) :=
  gq_ast dg (ge_hw hp).2.2.2.2.2.1 hi hj (by decide) (gq_ag (kw_up5 hp hj v) kk)
theorem kq_ald6 (hp : pw = 25 ∨ pw = 35 ∨ pw = 45) {i : Int32} {w s : Nat} (dg : decode y.2.1 pc = .ok (.iaload, 1)) (hi : i = nI (2 * w + s)) (hw : w < 6) (hs : s < 2) (kk : ge_B X ge_SH y d Q (pc + 1) l (.int (p_o r w s) :: st) (ge_k g pw r x hb)) : ge_B X ge_SH y d Q pc l (.int i :: .ref (ge_ad X.1 (pw + 6)) :: st) (ge_k g pw r x hb) :=
  gq_ald dg (ge_hw hp).2.2.2.2.2.2.1 (by omega) hi (by omega) (by decide) (by rw [ge_k_6, show (2 * w + s) / 2 = w by omega, show (2 * w + s) % 2 = s by omega]; exact kk)
theorem kq_ast6 (hp : pw = 25 ∨ pw = 35 ∨ pw = 45) {i v : Int32} {w s : Nat} (dg : decode y.2.1 pc = .ok (.iastore, 1)) (hi : i = nI (2 * w + s)) (hw : w < 6) (hs : s < 2) (kk : ge_B X ge_SH y d Q (pc + 1) l st (ge_k g pw (p_uo r w s v) x hb)) : ge_B X ge_SH y d Q pc l (.int v :: .int i :: .ref (ge_ad X.1 (pw + 6)) :: st) (ge_k g pw r x hb) :=
  gq_ast dg (ge_hw hp).2.2.2.2.2.2.1 hi (by omega) (by decide) (gq_ag (kw_up6 hp hw hs v) kk)
theorem kq_ald7 (hp : pw = 25 ∨ pw = 35 ∨ pw = 45) {i : Int32} {j : Nat} (dg : decode y.2.1 pc = .ok (.iaload, 1)) (hi : i = nI j) (hj : j < 6) (kk : ge_B X ge_SH y d Q (pc + 1) l (.int (p_o r j 2) :: st) (ge_k g pw r x hb)) : ge_B X ge_SH y d Q pc l (.int i :: .ref (ge_ad X.1 (pw + 7)) :: st) (ge_k g pw r x hb) :=
  gq_ald dg (ge_hw hp).2.2.2.2.2.2.2.1 (by omega) hi hj (by decide) (by rw [ge_k_7]; exact kk)
theorem kq_ast7 (hp : pw = 25 ∨ pw = 35 ∨ pw = 45) {i v : Int32} {j : Nat} (dg : decode y.2.1 pc = .ok (.iastore, 1)) (hi : i = nI j) (hj : j < 6) (kk : ge_B X ge_SH y d Q (pc + 1) l st (ge_k g pw (p_uo r j 2 v) x hb)) : ge_B X ge_SH y d Q pc l (.int v :: .int i :: .ref (ge_ad X.1 (pw + 7)) :: st) (ge_k g pw r x hb) :=
  gq_ast dg (ge_hw hp).2.2.2.2.2.2.2.1 hi hj (by decide) (gq_ag (kw_up7 hp hj v) kk)
theorem kq_ald8 (hp : pw = 25 ∨ pw = 35 ∨ pw = 45) {i : Int32} {j : Nat} (dg : decode y.2.1 pc = .ok (.iaload, 1)) (hi : i = nI j) (hj : j < 6) (kk : ge_B X ge_SH y d Q (pc + 1) l (.int (p_o r j 3) :: st) (ge_k g pw r x hb)) : ge_B X ge_SH y d Q pc l (.int i :: .ref (ge_ad X.1 (pw + 8)) :: st) (ge_k g pw r x hb) :=
  gq_ald dg (ge_hw hp).2.2.2.2.2.2.2.2.1 (by omega) hi hj (by decide) (by rw [ge_k_8]; exact kk)
theorem kq_ast8 (hp : pw = 25 ∨ pw = 35 ∨ pw = 45) {i v : Int32} {j : Nat} (dg : decode y.2.1 pc = .ok (.iastore, 1)) (hi : i = nI j) (hj : j < 6) (kk : ge_B X ge_SH y d Q (pc + 1) l st (ge_k g pw (p_uo r j 3 v) x hb)) : ge_B X ge_SH y d Q pc l (.int v :: .int i :: .ref (ge_ad X.1 (pw + 8)) :: st) (ge_k g pw r x hb) :=
  gq_ast dg (ge_hw hp).2.2.2.2.2.2.2.2.1 hi hj (by decide) (gq_ag (kw_up8 hp hj v) kk)
theorem kq_ald9 (hp : pw = 25 ∨ pw = 35 ∨ pw = 45) {i : Int32} {j : Nat} (dg : decode y.2.1 pc = .ok (.iaload, 1)) (hi : i = nI j) (hj : j < 6) (kk : ge_B X ge_SH y d Q (pc + 1) l (.int (hb j) :: st) (ge_k g pw r x hb)) : ge_B X ge_SH y d Q pc l (.int i :: .ref (ge_ad X.1 (pw + 9)) :: st) (ge_k g pw r x hb) :=
  gq_ald dg (ge_hw hp).2.2.2.2.2.2.2.2.2 (by omega) hi hj (by decide) (by rw [ge_k_9]; exact kk)
theorem kq_ast9 (hp : pw = 25 ∨ pw = 35 ∨ pw = 45) {i v : Int32} {j : Nat} (dg : decode y.2.1 pc = .ok (.iastore, 1)) (hi : i = nI j) (hj : j < 6) (kk : ge_B X ge_SH y d Q (pc + 1) l st (ge_k g pw r x (upd hb j v))) : ge_B X ge_SH y d Q pc l (.int v :: .int i :: .ref (ge_ad X.1 (pw + 9)) :: st) (ge_k g pw r x hb) :=
  gq_ast dg (ge_hw hp).2.2.2.2.2.2.2.2.2 hi hj (by decide) (gq_ag (kw_up9 hp  v) kk)
theorem ge_fsw (hp : pw = 25 ∨ pw = 35 ∨ pw = 45) : ∃ fs, ge_SH[pw]? = some (.inl (10, fs)) ∧ ∀ k, 11 ≤ k → k < 19 → fs[k]? = some none := by
  rcases hp with rfl | rfl | rfl
  · exact ⟨_, sh_25, fun k h1 h2 => by rcases (by omega : k = 11 ∨ k = 12 ∨ k = 13 ∨ k = 14 ∨ k = 15 ∨ k = 16 ∨ k = 17 ∨ k = 18) with rfl | rfl | rfl | rfl | rfl | rfl | rfl | rfl <;> rfl⟩
  · exact ⟨_, sh_35, fun k h1 h2 => by rcases (by omega : k = 11 ∨ k = 12 ∨ k = 13 ∨ k = 14 ∨ k = 15 ∨ k = 16 ∨ k = 17 ∨ k = 18) with rfl | rfl | rfl | rfl | rfl | rfl | rfl | rfl <;> rfl⟩
  · exact ⟨_, sh_45, fun k h1 h2 => by rcases (by omega : k = 11 ∨ k = 12 ∨ k = 13 ∨ k = 14 ∨ k = 15 ∨ k = 16 ∨ k = 17 ∨ k = 18) with rfl | rfl | rfl | rfl | rfl | rfl | rfl | rfl <;> rfl⟩
theorem kq_get11 (hp : pw = 25 ∨ pw = 35 ∨ pw = 45) {idx : Nat} (dg : decode y.2.1 pc = .ok (.getfield idx, 3)) (hf : ge_fl y.1.cls idx 10 11) (kk : ge_B X ge_SH y d Q (pc + 3) l (.int (r 2) :: st) (ge_k g pw r x hb)) : ge_B X ge_SH y d Q pc l (.ref (ge_ad X.1 pw) :: st) (ge_k g pw r x hb) := by
  obtain ⟨fs, h1, h2⟩ := ge_fsw hp
  exact gq_geti dg hf h1 (h2 11 (by omega) (by omega)) (by unfold ge_Z; omega) (by rw [ge_k_0]; exact kk)
theorem kq_put11 (hp : pw = 25 ∨ pw = 35 ∨ pw = 45) {idx : Nat} {v : Int32} (dg : decode y.2.1 pc = .ok (.putfield idx, 3)) (hf : ge_fp y.1.cls idx 10 11 .int) (kk : ge_B X ge_SH y d Q (pc + 3) l st (ge_k g pw (upd r 2 v) x hb)) : ge_B X ge_SH y d Q pc l (.int v :: .ref (ge_ad X.1 pw) :: st) (ge_k g pw r x hb) := by
  obtain ⟨fs, h1, h2⟩ := ge_fsw hp
  exact gq_puti dg hf h1 (h2 11 (by omega) (by omega)) (gq_ag (kw_f11 hp v) kk)
theorem kq_get12 (hp : pw = 25 ∨ pw = 35 ∨ pw = 45) {idx : Nat} (dg : decode y.2.1 pc = .ok (.getfield idx, 3)) (hf : ge_fl y.1.cls idx 10 12) (kk : ge_B X ge_SH y d Q (pc + 3) l (.int (r 3) :: st) (ge_k g pw r x hb)) : ge_B X ge_SH y d Q pc l (.ref (ge_ad X.1 pw) :: st) (ge_k g pw r x hb) := by
  obtain ⟨fs, h1, h2⟩ := ge_fsw hp
  exact gq_geti dg hf h1 (h2 12 (by omega) (by omega)) (by unfold ge_Z; omega) (by rw [ge_k_0]; exact kk)
theorem kq_put12 (hp : pw = 25 ∨ pw = 35 ∨ pw = 45) {idx : Nat} {v : Int32} (dg : decode y.2.1 pc = .ok (.putfield idx, 3)) (hf : ge_fp y.1.cls idx 10 12 .int) (kk : ge_B X ge_SH y d Q (pc + 3) l st (ge_k g pw (upd r 3 v) x hb)) : ge_B X ge_SH y d Q pc l (.int v :: .ref (ge_ad X.1 pw) :: st) (ge_k g pw r x hb) := by
  obtain ⟨fs, h1, h2⟩ := ge_fsw hp
  exact gq_puti dg hf h1 (h2 12 (by omega) (by omega)) (gq_ag (kw_f12 hp v) kk)
theorem kq_get13 (hp : pw = 25 ∨ pw = 35 ∨ pw = 45) {idx : Nat} (dg : decode y.2.1 pc = .ok (.getfield idx, 3)) (hf : ge_fl y.1.cls idx 10 13) (kk : ge_B X ge_SH y d Q (pc + 3) l (.int (r 0) :: st) (ge_k g pw r x hb)) : ge_B X ge_SH y d Q pc l (.ref (ge_ad X.1 pw) :: st) (ge_k g pw r x hb) := by
  obtain ⟨fs, h1, h2⟩ := ge_fsw hp
  exact gq_geti dg hf h1 (h2 13 (by omega) (by omega)) (by unfold ge_Z; omega) (by rw [ge_k_0]; exact kk)
theorem kq_put13 (hp : pw = 25 ∨ pw = 35 ∨ pw = 45) {idx : Nat} {v : Int32} (dg : decode y.2.1 pc = .ok (.putfield idx, 3)) (hf : ge_fp y.1.cls idx 10 13 .int) (kk : ge_B X ge_SH y d Q (pc + 3) l st (ge_k g pw (upd r 0 v) x hb)) : ge_B X ge_SH y d Q pc l (.int v :: .ref (ge_ad X.1 pw) :: st) (ge_k g pw r x hb) := by
  obtain ⟨fs, h1, h2⟩ := ge_fsw hp
  exact gq_puti dg hf h1 (h2 13 (by omega) (by omega)) (gq_ag (kw_f13 hp v) kk)
theorem kq_get14 (hp : pw = 25 ∨ pw = 35 ∨ pw = 45) {idx : Nat} (dg : decode y.2.1 pc = .ok (.getfield idx, 3)) (hf : ge_fl y.1.cls idx 10 14) (kk : ge_B X ge_SH y d Q (pc + 3) l (.int (r 1) :: st) (ge_k g pw r x hb)) : ge_B X ge_SH y d Q pc l (.ref (ge_ad X.1 pw) :: st) (ge_k g pw r x hb) := by
  obtain ⟨fs, h1, h2⟩ := ge_fsw hp
  exact gq_geti dg hf h1 (h2 14 (by omega) (by omega)) (by unfold ge_Z; omega) (by rw [ge_k_0]; exact kk)
theorem kq_put14 (hp : pw = 25 ∨ pw = 35 ∨ pw = 45) {idx : Nat} {v : Int32} (dg : decode y.2.1 pc = .ok (.putfield idx, 3)) (hf : ge_fp y.1.cls idx 10 14 .int) (kk : ge_B X ge_SH y d Q (pc + 3) l st (ge_k g pw (upd r 1 v) x hb)) : ge_B X ge_SH y d Q pc l (.int v :: .ref (ge_ad X.1 pw) :: st) (ge_k g pw r x hb) := by
  obtain ⟨fs, h1, h2⟩ := ge_fsw hp
  exact gq_puti dg hf h1 (h2 14 (by omega) (by omega)) (gq_ag (kw_f14 hp v) kk)
theorem kq_get15 (hp : pw = 25 ∨ pw = 35 ∨ pw = 45) {idx : Nat} (dg : decode y.2.1 pc = .ok (.getfield idx, 3)) (hf : ge_fl y.1.cls idx 10 15) (kk : ge_B X ge_SH y d Q (pc + 3) l (.int (x 15) :: st) (ge_k g pw r x hb)) : ge_B X ge_SH y d Q pc l (.ref (ge_ad X.1 pw) :: st) (ge_k g pw r x hb) := by
  obtain ⟨fs, h1, h2⟩ := ge_fsw hp
  exact gq_geti dg hf h1 (h2 15 (by omega) (by omega)) (by unfold ge_Z; omega) (by rw [ge_k_0]; exact kk)
theorem kq_put15 (hp : pw = 25 ∨ pw = 35 ∨ pw = 45) {idx : Nat} {v : Int32} (dg : decode y.2.1 pc = .ok (.putfield idx, 3)) (hf : ge_fp y.1.cls idx 10 15 .int) (kk : ge_B X ge_SH y d Q (pc + 3) l st (ge_k g pw r (upd x 15 v) hb)) : ge_B X ge_SH y d Q pc l (.int v :: .ref (ge_ad X.1 pw) :: st) (ge_k g pw r x hb) := by
  obtain ⟨fs, h1, h2⟩ := ge_fsw hp
  exact gq_puti dg hf h1 (h2 15 (by omega) (by omega)) (gq_ag (kw_f15 hp v) kk)
theorem kq_get16 (hp : pw = 25 ∨ pw = 35 ∨ pw = 45) {idx : Nat} (dg : decode y.2.1 pc = .ok (.getfield idx, 3)) (hf : ge_fl y.1.cls idx 10 16) (kk : ge_B X ge_SH y d Q (pc + 3) l (.int (x 16) :: st) (ge_k g pw r x hb)) : ge_B X ge_SH y d Q pc l (.ref (ge_ad X.1 pw) :: st) (ge_k g pw r x hb) := by
  obtain ⟨fs, h1, h2⟩ := ge_fsw hp
  exact gq_geti dg hf h1 (h2 16 (by omega) (by omega)) (by unfold ge_Z; omega) (by rw [ge_k_0]; exact kk)
theorem kq_put16 (hp : pw = 25 ∨ pw = 35 ∨ pw = 45) {idx : Nat} {v : Int32} (dg : decode y.2.1 pc = .ok (.putfield idx, 3)) (hf : ge_fp y.1.cls idx 10 16 .int) (kk : ge_B X ge_SH y d Q (pc + 3) l st (ge_k g pw r (upd x 16 v) hb)) : ge_B X ge_SH y d Q pc l (.int v :: .ref (ge_ad X.1 pw) :: st) (ge_k g pw r x hb) := by
  obtain ⟨fs, h1, h2⟩ := ge_fsw hp
  exact gq_puti dg hf h1 (h2 16 (by omega) (by omega)) (gq_ag (kw_f16 hp v) kk)
theorem kq_get17 (hp : pw = 25 ∨ pw = 35 ∨ pw = 45) {idx : Nat} (dg : decode y.2.1 pc = .ok (.getfield idx, 3)) (hf : ge_fl y.1.cls idx 10 17) (kk : ge_B X ge_SH y d Q (pc + 3) l (.int (x 17) :: st) (ge_k g pw r x hb)) : ge_B X ge_SH y d Q pc l (.ref (ge_ad X.1 pw) :: st) (ge_k g pw r x hb) := by
  obtain ⟨fs, h1, h2⟩ := ge_fsw hp
  exact gq_geti dg hf h1 (h2 17 (by omega) (by omega)) (by unfold ge_Z; omega) (by rw [ge_k_0]; exact kk)
theorem kq_put17 (hp : pw = 25 ∨ pw = 35 ∨ pw = 45) {idx : Nat} {v : Int32} (dg : decode y.2.1 pc = .ok (.putfield idx, 3)) (hf : ge_fp y.1.cls idx 10 17 .int) (kk : ge_B X ge_SH y d Q (pc + 3) l st (ge_k g pw r (upd x 17 v) hb)) : ge_B X ge_SH y d Q pc l (.int v :: .ref (ge_ad X.1 pw) :: st) (ge_k g pw r x hb) := by
  obtain ⟨fs, h1, h2⟩ := ge_fsw hp
  exact gq_puti dg hf h1 (h2 17 (by omega) (by omega)) (gq_ag (kw_f17 hp v) kk)
theorem kq_get18 (hp : pw = 25 ∨ pw = 35 ∨ pw = 45) {idx : Nat} (dg : decode y.2.1 pc = .ok (.getfield idx, 3)) (hf : ge_fl y.1.cls idx 10 18) (kk : ge_B X ge_SH y d Q (pc + 3) l (.int (x 18) :: st) (ge_k g pw r x hb)) : ge_B X ge_SH y d Q pc l (.ref (ge_ad X.1 pw) :: st) (ge_k g pw r x hb) := by
  obtain ⟨fs, h1, h2⟩ := ge_fsw hp
  exact gq_geti dg hf h1 (h2 18 (by omega) (by omega)) (by unfold ge_Z; omega) (by rw [ge_k_0]; exact kk)
theorem kq_put18 (hp : pw = 25 ∨ pw = 35 ∨ pw = 45) {idx : Nat} {v : Int32} (dg : decode y.2.1 pc = .ok (.putfield idx, 3)) (hf : ge_fp y.1.cls idx 10 18 .int) (kk : ge_B X ge_SH y d Q (pc + 3) l st (ge_k g pw r (upd x 18 v) hb)) : ge_B X ge_SH y d Q pc l (.int v :: .ref (ge_ad X.1 pw) :: st) (ge_k g pw r x hb) := by
  obtain ⟨fs, h1, h2⟩ := ge_fsw hp
  exact gq_puti dg hf h1 (h2 18 (by omega) (by omega)) (gq_ag (kw_f18 hp v) kk)
end W3
section W4
variable {X : ge_X} {g : ge_G} {r x hb : Nat → Int32} {c : Nat}
set_option maxHeartbeats 400000 in
theorem k_hv_X1 (t : Nat) (h : Int32) : ge_N X ge_SH YX1_heavyAt 0 [.ref t, .int h] g (some (.int 1)) g := by
  refine gq_ofB (l := [(0, .ref t), (1, .int h)]) (by decide) (Nat.le_of_ble_eq_true rfl) rfl ?_
  refine gq_iconst (pc := 0) dX1_heavyAt_0 kc_1 ?_
  exact gq_iret (pc := 1) rfl dX1_heavyAt_1 ⟨rfl, rfl⟩
set_option maxHeartbeats 400000 in
theorem k_hv_X2 (t : Nat) (h : Int32) : ge_N X ge_SH YX2_heavyAt 0 [.ref t, .int h] g (some (.int 2)) g := by
  refine gq_ofB (l := [(0, .ref t), (1, .int h)]) (by decide) (Nat.le_of_ble_eq_true rfl) rfl ?_
  refine gq_iconst (pc := 0) dX2_heavyAt_0 kc_2 ?_
  exact gq_iret (pc := 1) rfl dX2_heavyAt_1 ⟨rfl, rfl⟩
set_option maxHeartbeats 400000 in
theorem k_hv_X0 (t : Nat) (h : Int32) : ge_N X ge_SH YX0_heavyAt 0 [.ref t, .int h] g (some (.int 0)) g := by
  refine gq_ofB (l := [(0, .ref t), (1, .int h)]) (by decide) (Nat.le_of_ble_eq_true rfl) rfl ?_
  refine gq_iconst (pc := 0) dX0_heavyAt_0 kc_0 ?_
  exact gq_iret (pc := 1) rfl dX0_heavyAt_1 ⟨rfl, rfl⟩
set_option maxHeartbeats 400000 in
theorem k_hv_X8 (h : Int32) : ge_N X ge_SH YX8_heavyAt 1 [.ref (ge_ad X.1 9), .int h] g (some (.int (if p_rem h 4 = 0 then 0 else 2))) g := by
  refine gq_ofB (l := [(0, .ref (ge_ad X.1 9)), (1, .int h)]) (by decide) (Nat.le_of_ble_eq_true rfl) rfl ?_
  refine gq_iload_n (pc := 0) dX8_heavyAt_0 rfl ?_
  refine gq_iconst (pc := 1) dX8_heavyAt_1 kc_4 ?_
  refine gq_irem (pc := 2) dX8_heavyAt_2 (by decide) (rfl : _ = p_rem _ _) ?_
  refine gq_if_ne (pc := 3) 10 dX8_heavyAt_3 (by decide) (fun h_3 => ?_) (fun h_3 => ?_)
  · refine gq_aload_n (pc := 10) dX8_heavyAt_10 rfl ?_
    refine gq_iload_n (pc := 11) dX8_heavyAt_11 rfl ?_
    refine gq_rP1i (pc := 12) dX8_heavyAt_12 cp_X8_25 sh_9 (k_hv_X2 _ _) ⟨by decide, by decide⟩ rfl (Nat.le_of_ble_eq_true rfl) ?_
    exact gq_iret (pc := 15) rfl dX8_heavyAt_15 ⟨by first | rw [if_pos h_3] | rw [if_neg h_3], rfl⟩
  · refine gq_iconst (pc := 6) dX8_heavyAt_6 kc_0 ?_
    refine gq_goto (pc := 7) 15 dX8_heavyAt_7 (by decide) ?_
    exact gq_iret (pc := 15) rfl dX8_heavyAt_15 ⟨by first | rw [if_pos h_3] | rw [if_neg h_3], rfl⟩
set_option maxHeartbeats 400000 in
theorem k_sh_X1_25 (t : Nat) {v e : Int32} {j : Nat} (he : e = nI j) (hj : j < 8) : ge_N X ge_SH YX1_shows 0 [.ref t, .int v, .ref (ge_ad X.1 25), .int e] (ge_k g 25 r x hb) (some (.int (v))) (ge_k g 25 r x hb) := by
  refine gq_ofB (l := [(0, .ref t), (1, .int v), (2, .ref (ge_ad X.1 25)), (3, .int e)]) (by decide) (Nat.le_of_ble_eq_true rfl) rfl ?_
  refine gq_iload_n (pc := 0) dX1_shows_0 rfl ?_
  exact gq_iret (pc := 1) rfl dX1_shows_1 ⟨rfl, rfl⟩
set_option maxHeartbeats 400000 in
theorem k_sh_X2_25 (t : Nat) {v e : Int32} {j : Nat} (he : e = nI j) (hj : j < 8) : ge_N X ge_SH YX2_shows 0 [.ref t, .int v, .ref (ge_ad X.1 25), .int e] (ge_k g 25 r x hb) (some (.int (9 - p_rem v 10))) (ge_k g 25 r x hb) := by
  refine gq_ofB (l := [(0, .ref t), (1, .int v), (2, .ref (ge_ad X.1 25)), (3, .int e)]) (by decide) (Nat.le_of_ble_eq_true rfl) rfl ?_
  refine gq_bipush (pc := 0) dX2_shows_0 kb_9 ?_
  refine gq_iload_n (pc := 2) dX2_shows_2 rfl ?_
  refine gq_bipush (pc := 3) dX2_shows_3 kb_10 ?_
  refine gq_irem (pc := 5) dX2_shows_5 (by decide) (rfl : _ = p_rem _ _) ?_
  refine gq_isub (pc := 6) dX2_shows_6 ?_
  exact gq_iret (pc := 7) rfl dX2_shows_7 ⟨rfl, rfl⟩
set_option maxHeartbeats 400000 in
theorem k_sh_X3_25 (t : Nat) {v e : Int32} {j : Nat} (he : e = nI j) (hj : j < 8) : ge_N X ge_SH YX3_shows 0 [.ref t, .int v, .ref (ge_ad X.1 25), .int e] (ge_k g 25 r x hb) (some (.int (p_e r j 2))) (ge_k g 25 r x hb) := by
  refine gq_ofB (l := [(0, .ref t), (1, .int v), (2, .ref (ge_ad X.1 25)), (3, .int e)]) (by decide) (Nat.le_of_ble_eq_true rfl) rfl ?_
  refine gq_aload_n (pc := 0) dX3_shows_0 rfl ?_
  refine gq_getr (pc := 1) dX3_shows_1 fl_X3_11_10 sh_25 rfl ?_
  refine gq_iload_n (pc := 4) dX3_shows_4 rfl ?_
  refine kq_ald4 (pw := 25) (pc := 5) (by decide) dX3_shows_5 (by first | assumption | rfl) (by first | decide | omega) ?_
  exact gq_iret (pc := 6) rfl dX3_shows_6 ⟨rfl, rfl⟩
set_option maxHeartbeats 400000 in
theorem k_sh_X6_25 (t : Nat) {v e : Int32} {j : Nat} (he : e = nI j) (hj : j < 8) : ge_N X ge_SH YX6_shows 0 [.ref t, .int v, .ref (ge_ad X.1 25), .int e] (ge_k g 25 r x hb) (some (.int (v + p_e r j 1))) (ge_k g 25 r x hb) := by
  refine gq_ofB (l := [(0, .ref t), (1, .int v), (2, .ref (ge_ad X.1 25)), (3, .int e)]) (by decide) (Nat.le_of_ble_eq_true rfl) rfl ?_
  refine gq_iload_n (pc := 0) dX6_shows_0 rfl ?_
  refine gq_aload_n (pc := 1) dX6_shows_1 rfl ?_
  refine gq_getr (pc := 2) dX6_shows_2 fl_X6_11_10 sh_25 rfl ?_
  refine gq_iload_n (pc := 5) dX6_shows_5 rfl ?_
  refine kq_ald3 (pw := 25) (pc := 6) (by decide) dX6_shows_6 (by first | assumption | rfl) (by first | decide | omega) ?_
  refine gq_iadd (pc := 7) dX6_shows_7 ?_
  exact gq_iret (pc := 8) rfl dX6_shows_8 ⟨rfl, rfl⟩
set_option maxHeartbeats 400000 in
theorem k_sh_X0_25 {v e : Int32} {j : Nat} (he : e = nI j) (hj : j < 8) : ge_N X ge_SH YX0_shows 1 [.ref (ge_ad X.1 8), .int v, .ref (ge_ad X.1 25), .int e] (ge_k g 25 r x hb) (some (.int (v + p_e r j 1 + p_rem (p_e r j 3) 3))) (ge_k g 25 r x hb) := by
  refine gq_ofB (l := [(0, .ref (ge_ad X.1 8)), (1, .int v), (2, .ref (ge_ad X.1 25)), (3, .int e)]) (by decide) (Nat.le_of_ble_eq_true rfl) rfl ?_
  refine gq_aload_n (pc := 0) dX0_shows_0 rfl ?_
  refine gq_iload_n (pc := 1) dX0_shows_1 rfl ?_
  refine gq_aload_n (pc := 2) dX0_shows_2 rfl ?_
  refine gq_iload_n (pc := 3) dX0_shows_3 rfl ?_
  refine gq_rP3i (pc := 4) dX0_shows_4 cp_X0_11 sh_8 (k_sh_X6_25 _ he hj) ⟨by decide, by decide⟩ rfl (Nat.le_of_ble_eq_true rfl) ?_
  refine gq_aload_n (pc := 7) dX0_shows_7 rfl ?_
  refine gq_getr (pc := 8) dX0_shows_8 fl_X0_15_10 sh_25 rfl ?_
  refine gq_iload_n (pc := 11) dX0_shows_11 rfl ?_
  refine kq_ald5 (pw := 25) (pc := 12) (by decide) dX0_shows_12 (by first | assumption | rfl) (by first | decide | omega) ?_
  refine gq_iconst (pc := 13) dX0_shows_13 kc_3 ?_
  refine gq_irem (pc := 14) dX0_shows_14 (by decide) (rfl : _ = p_rem _ _) ?_
  refine gq_iadd (pc := 15) dX0_shows_15 ?_
  exact gq_iret (pc := 16) rfl dX0_shows_16 ⟨rfl, rfl⟩
set_option maxHeartbeats 400000 in
theorem k_sh_X5_25 {v e : Int32} {j : Nat} (he : e = nI j) (hj : j < 8) : ge_N X ge_SH YX5_shows 1 [.ref (ge_ad X.1 10), .int v, .ref (ge_ad X.1 25), .int e] (ge_k g 25 r x hb) (some (.int (p_e r j 2 + p_rem (r 0) 2))) (ge_k g 25 r x hb) := by
  refine gq_ofB (l := [(0, .ref (ge_ad X.1 10)), (1, .int v), (2, .ref (ge_ad X.1 25)), (3, .int e)]) (by decide) (Nat.le_of_ble_eq_true rfl) rfl ?_
  refine gq_aload_n (pc := 0) dX5_shows_0 rfl ?_
  refine gq_iload_n (pc := 1) dX5_shows_1 rfl ?_
  refine gq_aload_n (pc := 2) dX5_shows_2 rfl ?_
  refine gq_iload_n (pc := 3) dX5_shows_3 rfl ?_
  refine gq_rP3i (pc := 4) dX5_shows_4 cp_X5_11 sh_10 (k_sh_X3_25 _ he hj) ⟨by decide, by decide⟩ rfl (Nat.le_of_ble_eq_true rfl) ?_
  refine gq_aload_n (pc := 7) dX5_shows_7 rfl ?_
  refine kq_get13 (pw := 25) (pc := 8) (by decide) dX5_shows_8 fl_X5_15_10 ?_
  refine gq_iconst (pc := 11) dX5_shows_11 kc_2 ?_
  refine gq_irem (pc := 12) dX5_shows_12 (by decide) (rfl : _ = p_rem _ _) ?_
  refine gq_iadd (pc := 13) dX5_shows_13 ?_
  exact gq_iret (pc := 14) rfl dX5_shows_14 ⟨rfl, rfl⟩
set_option maxHeartbeats 400000 in
theorem k_sh_X8_25 {v e : Int32} {j : Nat} (he : e = nI j) (hj : j < 8) : ge_N X ge_SH YX8_shows 1 [.ref (ge_ad X.1 9), .int v, .ref (ge_ad X.1 25), .int e] (ge_k g 25 r x hb) (some (.int (if p_rem (r 0) 4 = 0 then p_e r j 2 else 9 - p_rem v 10))) (ge_k g 25 r x hb) := by
  refine gq_ofB (l := [(0, .ref (ge_ad X.1 9)), (1, .int v), (2, .ref (ge_ad X.1 25)), (3, .int e)]) (by decide) (Nat.le_of_ble_eq_true rfl) rfl ?_
  refine gq_aload_n (pc := 0) dX8_shows_0 rfl ?_
  refine kq_get13 (pw := 25) (pc := 1) (by decide) dX8_shows_1 fl_X8_11_10 ?_
  refine gq_iconst (pc := 4) dX8_shows_4 kc_4 ?_
  refine gq_irem (pc := 5) dX8_shows_5 (by decide) (rfl : _ = p_rem _ _) ?_
  refine gq_if_ne (pc := 6) 18 dX8_shows_6 (by decide) (fun h_6 => ?_) (fun h_6 => ?_)
  · refine gq_aload_n (pc := 18) dX8_shows_18 rfl ?_
    refine gq_iload_n (pc := 19) dX8_shows_19 rfl ?_
    refine gq_aload_n (pc := 20) dX8_shows_20 rfl ?_
    refine gq_iload_n (pc := 21) dX8_shows_21 rfl ?_
    refine gq_rP3i (pc := 22) dX8_shows_22 cp_X8_21 sh_9 (k_sh_X2_25 _ he hj) ⟨by decide, by decide⟩ rfl (Nat.le_of_ble_eq_true rfl) ?_
    exact gq_iret (pc := 25) rfl dX8_shows_25 ⟨by first | rw [if_pos h_6] | rw [if_neg h_6], rfl⟩
  · refine gq_aload_n (pc := 9) dX8_shows_9 rfl ?_
    refine gq_getr (pc := 10) dX8_shows_10 fl_X8_17_10 sh_25 rfl ?_
    refine gq_iload_n (pc := 13) dX8_shows_13 rfl ?_
    refine kq_ald4 (pw := 25) (pc := 14) (by decide) dX8_shows_14 (by first | assumption | rfl) (by first | decide | omega) ?_
    refine gq_goto (pc := 15) 25 dX8_shows_15 (by decide) ?_
    exact gq_iret (pc := 25) rfl dX8_shows_25 ⟨by first | rw [if_pos h_6] | rw [if_neg h_6], rfl⟩
set_option maxHeartbeats 400000 in
theorem k_sh_X1_35 (t : Nat) {v e : Int32} {j : Nat} (he : e = nI j) (hj : j < 8) : ge_N X ge_SH YX1_shows 0 [.ref t, .int v, .ref (ge_ad X.1 35), .int e] (ge_k g 35 r x hb) (some (.int (v))) (ge_k g 35 r x hb) := by
  refine gq_ofB (l := [(0, .ref t), (1, .int v), (2, .ref (ge_ad X.1 35)), (3, .int e)]) (by decide) (Nat.le_of_ble_eq_true rfl) rfl ?_
  refine gq_iload_n (pc := 0) dX1_shows_0 rfl ?_
  exact gq_iret (pc := 1) rfl dX1_shows_1 ⟨rfl, rfl⟩
set_option maxHeartbeats 400000 in
theorem k_sh_X2_35 (t : Nat) {v e : Int32} {j : Nat} (he : e = nI j) (hj : j < 8) : ge_N X ge_SH YX2_shows 0 [.ref t, .int v, .ref (ge_ad X.1 35), .int e] (ge_k g 35 r x hb) (some (.int (9 - p_rem v 10))) (ge_k g 35 r x hb) := by
  refine gq_ofB (l := [(0, .ref t), (1, .int v), (2, .ref (ge_ad X.1 35)), (3, .int e)]) (by decide) (Nat.le_of_ble_eq_true rfl) rfl ?_
  refine gq_bipush (pc := 0) dX2_shows_0 kb_9 ?_
  refine gq_iload_n (pc := 2) dX2_shows_2 rfl ?_
  refine gq_bipush (pc := 3) dX2_shows_3 kb_10 ?_
  refine gq_irem (pc := 5) dX2_shows_5 (by decide) (rfl : _ = p_rem _ _) ?_
  refine gq_isub (pc := 6) dX2_shows_6 ?_
  exact gq_iret (pc := 7) rfl dX2_shows_7 ⟨rfl, rfl⟩
set_option maxHeartbeats 400000 in
theorem k_sh_X3_35 (t : Nat) {v e : Int32} {j : Nat} (he : e = nI j) (hj : j < 8) : ge_N X ge_SH YX3_shows 0 [.ref t, .int v, .ref (ge_ad X.1 35), .int e] (ge_k g 35 r x hb) (some (.int (p_e r j 2))) (ge_k g 35 r x hb) := by
  refine gq_ofB (l := [(0, .ref t), (1, .int v), (2, .ref (ge_ad X.1 35)), (3, .int e)]) (by decide) (Nat.le_of_ble_eq_true rfl) rfl ?_
  refine gq_aload_n (pc := 0) dX3_shows_0 rfl ?_
  refine gq_getr (pc := 1) dX3_shows_1 fl_X3_11_10 sh_35 rfl ?_
  refine gq_iload_n (pc := 4) dX3_shows_4 rfl ?_
  refine kq_ald4 (pw := 35) (pc := 5) (by decide) dX3_shows_5 (by first | assumption | rfl) (by first | decide | omega) ?_
  exact gq_iret (pc := 6) rfl dX3_shows_6 ⟨rfl, rfl⟩
set_option maxHeartbeats 400000 in
theorem k_sh_X6_35 (t : Nat) {v e : Int32} {j : Nat} (he : e = nI j) (hj : j < 8) : ge_N X ge_SH YX6_shows 0 [.ref t, .int v, .ref (ge_ad X.1 35), .int e] (ge_k g 35 r x hb) (some (.int (v + p_e r j 1))) (ge_k g 35 r x hb) := by
  refine gq_ofB (l := [(0, .ref t), (1, .int v), (2, .ref (ge_ad X.1 35)), (3, .int e)]) (by decide) (Nat.le_of_ble_eq_true rfl) rfl ?_
  refine gq_iload_n (pc := 0) dX6_shows_0 rfl ?_
  refine gq_aload_n (pc := 1) dX6_shows_1 rfl ?_
  refine gq_getr (pc := 2) dX6_shows_2 fl_X6_11_10 sh_35 rfl ?_
  refine gq_iload_n (pc := 5) dX6_shows_5 rfl ?_
  refine kq_ald3 (pw := 35) (pc := 6) (by decide) dX6_shows_6 (by first | assumption | rfl) (by first | decide | omega) ?_
  refine gq_iadd (pc := 7) dX6_shows_7 ?_
  exact gq_iret (pc := 8) rfl dX6_shows_8 ⟨rfl, rfl⟩
set_option maxHeartbeats 400000 in
theorem k_sh_X0_35 {v e : Int32} {j : Nat} (he : e = nI j) (hj : j < 8) : ge_N X ge_SH YX0_shows 1 [.ref (ge_ad X.1 8), .int v, .ref (ge_ad X.1 35), .int e] (ge_k g 35 r x hb) (some (.int (v + p_e r j 1 + p_rem (p_e r j 3) 3))) (ge_k g 35 r x hb) := by
  refine gq_ofB (l := [(0, .ref (ge_ad X.1 8)), (1, .int v), (2, .ref (ge_ad X.1 35)), (3, .int e)]) (by decide) (Nat.le_of_ble_eq_true rfl) rfl ?_
  refine gq_aload_n (pc := 0) dX0_shows_0 rfl ?_
  refine gq_iload_n (pc := 1) dX0_shows_1 rfl ?_
  refine gq_aload_n (pc := 2) dX0_shows_2 rfl ?_
  refine gq_iload_n (pc := 3) dX0_shows_3 rfl ?_
  refine gq_rP3i (pc := 4) dX0_shows_4 cp_X0_11 sh_8 (k_sh_X6_35 _ he hj) ⟨by decide, by decide⟩ rfl (Nat.le_of_ble_eq_true rfl) ?_
  refine gq_aload_n (pc := 7) dX0_shows_7 rfl ?_
  refine gq_getr (pc := 8) dX0_shows_8 fl_X0_15_10 sh_35 rfl ?_
  refine gq_iload_n (pc := 11) dX0_shows_11 rfl ?_
  refine kq_ald5 (pw := 35) (pc := 12) (by decide) dX0_shows_12 (by first | assumption | rfl) (by first | decide | omega) ?_
  refine gq_iconst (pc := 13) dX0_shows_13 kc_3 ?_
  refine gq_irem (pc := 14) dX0_shows_14 (by decide) (rfl : _ = p_rem _ _) ?_
  refine gq_iadd (pc := 15) dX0_shows_15 ?_
  exact gq_iret (pc := 16) rfl dX0_shows_16 ⟨rfl, rfl⟩
set_option maxHeartbeats 400000 in
theorem k_sh_X5_35 {v e : Int32} {j : Nat} (he : e = nI j) (hj : j < 8) : ge_N X ge_SH YX5_shows 1 [.ref (ge_ad X.1 10), .int v, .ref (ge_ad X.1 35), .int e] (ge_k g 35 r x hb) (some (.int (p_e r j 2 + p_rem (r 0) 2))) (ge_k g 35 r x hb) := by
  refine gq_ofB (l := [(0, .ref (ge_ad X.1 10)), (1, .int v), (2, .ref (ge_ad X.1 35)), (3, .int e)]) (by decide) (Nat.le_of_ble_eq_true rfl) rfl ?_
  refine gq_aload_n (pc := 0) dX5_shows_0 rfl ?_
  refine gq_iload_n (pc := 1) dX5_shows_1 rfl ?_
  refine gq_aload_n (pc := 2) dX5_shows_2 rfl ?_
  refine gq_iload_n (pc := 3) dX5_shows_3 rfl ?_
  refine gq_rP3i (pc := 4) dX5_shows_4 cp_X5_11 sh_10 (k_sh_X3_35 _ he hj) ⟨by decide, by decide⟩ rfl (Nat.le_of_ble_eq_true rfl) ?_
  refine gq_aload_n (pc := 7) dX5_shows_7 rfl ?_
  refine kq_get13 (pw := 35) (pc := 8) (by decide) dX5_shows_8 fl_X5_15_10 ?_
  refine gq_iconst (pc := 11) dX5_shows_11 kc_2 ?_
  refine gq_irem (pc := 12) dX5_shows_12 (by decide) (rfl : _ = p_rem _ _) ?_
  refine gq_iadd (pc := 13) dX5_shows_13 ?_
  exact gq_iret (pc := 14) rfl dX5_shows_14 ⟨rfl, rfl⟩
set_option maxHeartbeats 400000 in
theorem k_sh_X8_35 {v e : Int32} {j : Nat} (he : e = nI j) (hj : j < 8) : ge_N X ge_SH YX8_shows 1 [.ref (ge_ad X.1 9), .int v, .ref (ge_ad X.1 35), .int e] (ge_k g 35 r x hb) (some (.int (if p_rem (r 0) 4 = 0 then p_e r j 2 else 9 - p_rem v 10))) (ge_k g 35 r x hb) := by
  refine gq_ofB (l := [(0, .ref (ge_ad X.1 9)), (1, .int v), (2, .ref (ge_ad X.1 35)), (3, .int e)]) (by decide) (Nat.le_of_ble_eq_true rfl) rfl ?_
  refine gq_aload_n (pc := 0) dX8_shows_0 rfl ?_
  refine kq_get13 (pw := 35) (pc := 1) (by decide) dX8_shows_1 fl_X8_11_10 ?_
  refine gq_iconst (pc := 4) dX8_shows_4 kc_4 ?_
  refine gq_irem (pc := 5) dX8_shows_5 (by decide) (rfl : _ = p_rem _ _) ?_
  refine gq_if_ne (pc := 6) 18 dX8_shows_6 (by decide) (fun h_6 => ?_) (fun h_6 => ?_)
  · refine gq_aload_n (pc := 18) dX8_shows_18 rfl ?_
    refine gq_iload_n (pc := 19) dX8_shows_19 rfl ?_
    refine gq_aload_n (pc := 20) dX8_shows_20 rfl ?_
    refine gq_iload_n (pc := 21) dX8_shows_21 rfl ?_
    refine gq_rP3i (pc := 22) dX8_shows_22 cp_X8_21 sh_9 (k_sh_X2_35 _ he hj) ⟨by decide, by decide⟩ rfl (Nat.le_of_ble_eq_true rfl) ?_
    exact gq_iret (pc := 25) rfl dX8_shows_25 ⟨by first | rw [if_pos h_6] | rw [if_neg h_6], rfl⟩
  · refine gq_aload_n (pc := 9) dX8_shows_9 rfl ?_
    refine gq_getr (pc := 10) dX8_shows_10 fl_X8_17_10 sh_35 rfl ?_
    refine gq_iload_n (pc := 13) dX8_shows_13 rfl ?_
    refine kq_ald4 (pw := 35) (pc := 14) (by decide) dX8_shows_14 (by first | assumption | rfl) (by first | decide | omega) ?_
    refine gq_goto (pc := 15) 25 dX8_shows_15 (by decide) ?_
    exact gq_iret (pc := 25) rfl dX8_shows_25 ⟨by first | rw [if_pos h_6] | rw [if_neg h_6], rfl⟩
/-- the class's laws are worth what the row's are -/
def c_lw (g : ge_G) (r : Nat → Int32) : Prop := (∃ L, c_law g 13 L ∧ ∀ A B C, p_max 0 (p_min 99 (L A B C)) = p_law r 0 A B C) ∧ (∃ L, c_law g 15 L ∧ ∀ A B C, p_max 0 (p_min 1 (L A B C)) = p_law r 1 A B C)
theorem c_law_k {pw p : Nat} {L : Int32 → Int32 → Int32 → Int32} (hp : p + 1 < pw) (h : c_law g p L) : c_law (ge_k g pw r x hb) p L := by
  unfold c_law c_code at *
  rw [ge_k_o g pw r x hb (q := p) (by omega), ge_k_o g pw r x hb (q := p + 1) (by omega)]
  exact h
theorem kw_worth0_25 {A B C : Int32} (hL : c_lw g r) : ge_N X ge_SH YX4_worth 1 [.ref (ge_ad X.1 11), .int 0, .int A, .int B, .int C] (ge_k g 25 r x hb) (some (.int (p_law r 0 A B C))) (ge_k g 25 r x hb) := by
  obtain ⟨L, h1, h2⟩ := hL.1
  rw [← h2]
  exact k_worth0 (c_law_k (by decide) h1)
theorem kw_worth0_35 {A B C : Int32} (hL : c_lw g r) : ge_N X ge_SH YX4_worth 1 [.ref (ge_ad X.1 11), .int 0, .int A, .int B, .int C] (ge_k g 35 r x hb) (some (.int (p_law r 0 A B C))) (ge_k g 35 r x hb) := by
  obtain ⟨L, h1, h2⟩ := hL.1
  rw [← h2]
  exact k_worth0 (c_law_k (by decide) h1)
theorem kw_worth1_25 {A B C : Int32} (hL : c_lw g r) : ge_N X ge_SH YX4_worth 1 [.ref (ge_ad X.1 11), .int 1, .int A, .int B, .int C] (ge_k g 25 r x hb) (some (.int (p_law r 1 A B C))) (ge_k g 25 r x hb) := by
  obtain ⟨L, h1, h2⟩ := hL.2
  rw [← h2]
  exact k_worth1 (c_law_k (by decide) h1)
theorem kw_worth1_35 {A B C : Int32} (hL : c_lw g r) : ge_N X ge_SH YX4_worth 1 [.ref (ge_ad X.1 11), .int 1, .int A, .int B, .int C] (ge_k g 35 r x hb) (some (.int (p_law r 1 A B C))) (ge_k g 35 r x hb) := by
  obtain ⟨L, h1, h2⟩ := hL.2
  rw [← h2]
  exact k_worth1 (c_law_k (by decide) h1)
theorem p_rem10 {a : Nat} (h : a < 10) : p_rem (nI a) 10 = nI a := by
  have := p_rem_nI (a := a) (d := 10) (by omega) (by decide) (by decide)
  rw [Nat.mod_eq_of_lt h] at this
  exact this
theorem p_sh2 {r : Nat → Int32} {e : Nat} : p_rem (9 - p_rem (p_v r e) 10) 10 = 9 - p_rem (p_v r e) 10 := by
  obtain ⟨v, hv, ev⟩ := p_law_in r (p_e r e 2) (p_rem (r 0) 12) (p_e r e 1)
  have ev : p_v r e = nI v := ev
  rw [ev, show p_rem (nI v) 10 = nI (v % 10) from p_rem_nI (d := 10) (by omega) (by decide) (by decide), show (9 : Int32) - nI (v % 10) = nI (9 - v % 10) from pk_sub (a := 9) (by omega)]
  exact p_rem10 (by omega)
theorem p_shb (hI : p_inv c r) {e : Nat} (he : e < 8) : p_rem (p_e r e 2) 10 = p_e r e 2 := by
  obtain ⟨b, hb, eb⟩ := (hI.2.2.2.2.1 e he).2.2.1
  rw [eb]; exact p_rem10 (by omega)
theorem p_shows_0 {e : Nat} (ek : p_e r e 0 = nI 0) : p_shows r e = p_rem (p_v r e) 10 := by unfold p_shows; rw [ek]; rfl
theorem p_shows_1 {e : Nat} (ek : p_e r e 0 = nI 1) : p_shows r e = p_rem (p_v r e + p_e r e 1) 10 := by unfold p_shows; rw [ek]; rfl
theorem p_shows_2 {e : Nat} (ek : p_e r e 0 = nI 2) : p_shows r e = 9 - p_rem (p_v r e) 10 := by unfold p_shows; rw [ek]; rfl
theorem p_shows_3 {e : Nat} (ek : p_e r e 0 = nI 3) : p_shows r e = p_e r e 2 := by unfold p_shows; rw [ek]; rfl
theorem p_shows_4 {e : Nat} (ek : p_e r e 0 = nI 4) : p_shows r e = p_rem (p_v r e + p_e r e 1 + p_rem (p_e r e 3) 3) 10 := by unfold p_shows; rw [ek]; rfl
theorem p_shows_5 {e : Nat} (ek : p_e r e 0 = nI 5) : p_shows r e = (if p_rem (r 0) 4 = 0 then p_e r e 2 else 9 - p_rem (p_v r e) 10) := by unfold p_shows; rw [ek]; rfl
theorem p_shows_6 {e : Nat} (ek : p_e r e 0 = nI 6) : p_shows r e = p_rem (p_e r e 2 + p_rem (r 0) 2) 10 := by unfold p_shows; rw [ek]; rfl
set_option maxHeartbeats 1000000 in
theorem k_thing_25 {e : Int32} {j : Nat} (hI : p_inv c r) (hL : c_lw g r) (he : e = nI j) (hj : j < 8) : ge_N X ge_SH YX10_thingOf 2 [.ref (ge_ad X.1 25), .int e] (ge_k g 25 r x hb) (some (.int (p_shows r j))) (ge_k g 25 r x hb) := by
  refine gq_ofB (l := [(0, .ref (ge_ad X.1 25)), (1, .int e)]) (by decide) (Nat.le_of_ble_eq_true rfl) rfl ?_
  refine gq_aload_n (pc := 0) dX10_thingOf_0 rfl ?_
  refine gq_getr (pc := 1) dX10_thingOf_1 fl_X10_9_10 sh_25 rfl ?_
  refine gq_iconst (pc := 4) dX10_thingOf_4 kc_0 ?_
  refine gq_aload_n (pc := 5) dX10_thingOf_5 rfl ?_
  refine gq_getr (pc := 6) dX10_thingOf_6 fl_X10_29_10 sh_25 rfl ?_
  refine gq_iload_n (pc := 9) dX10_thingOf_9 rfl ?_
  refine kq_ald4 (pw := 25) (pc := 10) (by decide) dX10_thingOf_10 he (by first | decide | omega) ?_
  refine gq_aload_n (pc := 11) dX10_thingOf_11 rfl ?_
  refine kq_get13 (pw := 25) (pc := 12) (by decide) dX10_thingOf_12 fl_X10_69_10 ?_
  refine gq_bipush (pc := 15) dX10_thingOf_15 kb_12 ?_
  refine gq_irem (pc := 17) dX10_thingOf_17 (by decide) (rfl : _ = p_rem _ _) ?_
  refine gq_aload_n (pc := 18) dX10_thingOf_18 rfl ?_
  refine gq_getr (pc := 19) dX10_thingOf_19 fl_X10_26_10 sh_25 rfl ?_
  refine gq_iload_n (pc := 22) dX10_thingOf_22 rfl ?_
  refine kq_ald3 (pw := 25) (pc := 23) (by decide) dX10_thingOf_23 he (by first | decide | omega) ?_
  refine gq_rV4i (pc := 24) dX10_thingOf_24 cv_X10_90 sh_11 (kw_worth0_25 hL) ⟨by decide, by decide⟩ rfl rfl (Nat.le_of_ble_eq_true rfl) ?_
  refine gq_istore_n (pc := 27) (l' := [(2, _), (0, _), (1, _)]) dX10_thingOf_27 (by decide) rfl ?_
  refine gq_aload_n (pc := 28) dX10_thingOf_28 rfl ?_
  refine gq_getr (pc := 29) dX10_thingOf_29 fl_X10_15_10 sh_25 rfl ?_
  refine gq_aload_n (pc := 32) dX10_thingOf_32 rfl ?_
  refine gq_getr (pc := 33) dX10_thingOf_33 fl_X10_23_10 sh_25 rfl ?_
  refine gq_iload_n (pc := 36) dX10_thingOf_36 rfl ?_
  refine kq_ald2 (pw := 25) (pc := 37) (by decide) dX10_thingOf_37 he (by first | decide | omega) ?_
  obtain ⟨k, hk, ek⟩ := (hI.2.2.2.2.1 j hj).1
  rcases (by omega : k = 0 ∨ k = 1 ∨ k = 2 ∨ k = 3 ∨ k = 4 ∨ k = 5 ∨ k = 6) with rfl | rfl | rfl | rfl | rfl | rfl | rfl
  · refine gq_aald (pc := 38) dX10_thingOf_38 sh_3 rfl ek rfl (by decide) ?_
    refine gq_iload_n (pc := 39) dX10_thingOf_39 rfl ?_
    refine gq_aload_n (pc := 40) dX10_thingOf_40 rfl ?_
    refine gq_iload_n (pc := 41) dX10_thingOf_41 rfl ?_
    refine gq_rU3i (pc := 42) dX10_thingOf_42 cu_X10_96_1 sh_4 (k_sh_X1_25 _ he hj) ⟨by decide, by decide⟩ rfl rfl (Nat.le_of_ble_eq_true rfl) ?_
    refine gq_bipush (pc := 45) dX10_thingOf_45 kb_10 ?_
    refine gq_irem (pc := 47) dX10_thingOf_47 (by decide) (rfl : _ = p_rem _ _) ?_
    exact gq_iret (pc := 48) rfl dX10_thingOf_48 ⟨by rw [p_shows_0 ek]; rfl, rfl⟩
  · refine gq_aald (pc := 38) dX10_thingOf_38 sh_3 rfl ek rfl (by decide) ?_
    refine gq_iload_n (pc := 39) dX10_thingOf_39 rfl ?_
    refine gq_aload_n (pc := 40) dX10_thingOf_40 rfl ?_
    refine gq_iload_n (pc := 41) dX10_thingOf_41 rfl ?_
    refine gq_rU3i (pc := 42) dX10_thingOf_42 cu_X10_96_6 sh_5 (k_sh_X6_25 _ he hj) ⟨by decide, by decide⟩ rfl rfl (Nat.le_of_ble_eq_true rfl) ?_
    refine gq_bipush (pc := 45) dX10_thingOf_45 kb_10 ?_
    refine gq_irem (pc := 47) dX10_thingOf_47 (by decide) (rfl : _ = p_rem _ _) ?_
    exact gq_iret (pc := 48) rfl dX10_thingOf_48 ⟨by rw [p_shows_1 ek]; rfl, rfl⟩
  · refine gq_aald (pc := 38) dX10_thingOf_38 sh_3 rfl ek rfl (by decide) ?_
    refine gq_iload_n (pc := 39) dX10_thingOf_39 rfl ?_
    refine gq_aload_n (pc := 40) dX10_thingOf_40 rfl ?_
    refine gq_iload_n (pc := 41) dX10_thingOf_41 rfl ?_
    refine gq_rU3i (pc := 42) dX10_thingOf_42 cu_X10_96_2 sh_6 (k_sh_X2_25 _ he hj) ⟨by decide, by decide⟩ rfl rfl (Nat.le_of_ble_eq_true rfl) ?_
    refine gq_bipush (pc := 45) dX10_thingOf_45 kb_10 ?_
    refine gq_irem (pc := 47) dX10_thingOf_47 (by decide) (rfl : _ = p_rem _ _) ?_
    exact gq_iret (pc := 48) rfl dX10_thingOf_48 ⟨by rw [p_shows_2 ek]; exact congrArg (fun v => some (Value.int v)) p_sh2, rfl⟩
  · refine gq_aald (pc := 38) dX10_thingOf_38 sh_3 rfl ek rfl (by decide) ?_
    refine gq_iload_n (pc := 39) dX10_thingOf_39 rfl ?_
    refine gq_aload_n (pc := 40) dX10_thingOf_40 rfl ?_
    refine gq_iload_n (pc := 41) dX10_thingOf_41 rfl ?_
    refine gq_rU3i (pc := 42) dX10_thingOf_42 cu_X10_96_3 sh_7 (k_sh_X3_25 _ he hj) ⟨by decide, by decide⟩ rfl rfl (Nat.le_of_ble_eq_true rfl) ?_
    refine gq_bipush (pc := 45) dX10_thingOf_45 kb_10 ?_
    refine gq_irem (pc := 47) dX10_thingOf_47 (by decide) (rfl : _ = p_rem _ _) ?_
    exact gq_iret (pc := 48) rfl dX10_thingOf_48 ⟨by rw [p_shows_3 ek]; exact congrArg (fun v => some (Value.int v)) (p_shb hI hj), rfl⟩
  · refine gq_aald (pc := 38) dX10_thingOf_38 sh_3 rfl ek rfl (by decide) ?_
    refine gq_iload_n (pc := 39) dX10_thingOf_39 rfl ?_
    refine gq_aload_n (pc := 40) dX10_thingOf_40 rfl ?_
    refine gq_iload_n (pc := 41) dX10_thingOf_41 rfl ?_
    refine gq_rU3i (pc := 42) dX10_thingOf_42 cu_X10_96_0 sh_8 (k_sh_X0_25 he hj) ⟨by decide, by decide⟩ rfl rfl (Nat.le_of_ble_eq_true rfl) ?_
    refine gq_bipush (pc := 45) dX10_thingOf_45 kb_10 ?_
    refine gq_irem (pc := 47) dX10_thingOf_47 (by decide) (rfl : _ = p_rem _ _) ?_
    exact gq_iret (pc := 48) rfl dX10_thingOf_48 ⟨by rw [p_shows_4 ek]; rfl, rfl⟩
  · refine gq_aald (pc := 38) dX10_thingOf_38 sh_3 rfl ek rfl (by decide) ?_
    refine gq_iload_n (pc := 39) dX10_thingOf_39 rfl ?_
    refine gq_aload_n (pc := 40) dX10_thingOf_40 rfl ?_
    refine gq_iload_n (pc := 41) dX10_thingOf_41 rfl ?_
    refine gq_rU3i (pc := 42) dX10_thingOf_42 cu_X10_96_8 sh_9 (k_sh_X8_25 he hj) ⟨by decide, by decide⟩ rfl rfl (Nat.le_of_ble_eq_true rfl) ?_
    refine gq_bipush (pc := 45) dX10_thingOf_45 kb_10 ?_
    refine gq_irem (pc := 47) dX10_thingOf_47 (by decide) (rfl : _ = p_rem _ _) ?_
    exact gq_iret (pc := 48) rfl dX10_thingOf_48 ⟨by rw [p_shows_5 ek]; by_cases h4 : p_rem (r 0) 4 = 0; simp only [if_pos h4]; exact congrArg (fun v => some (Value.int v)) (p_shb hI hj); simp only [if_neg h4]; exact congrArg (fun v => some (Value.int v)) p_sh2, rfl⟩
  · refine gq_aald (pc := 38) dX10_thingOf_38 sh_3 rfl ek rfl (by decide) ?_
    refine gq_iload_n (pc := 39) dX10_thingOf_39 rfl ?_
    refine gq_aload_n (pc := 40) dX10_thingOf_40 rfl ?_
    refine gq_iload_n (pc := 41) dX10_thingOf_41 rfl ?_
    refine gq_rU3i (pc := 42) dX10_thingOf_42 cu_X10_96_5 sh_10 (k_sh_X5_25 he hj) ⟨by decide, by decide⟩ rfl rfl (Nat.le_of_ble_eq_true rfl) ?_
    refine gq_bipush (pc := 45) dX10_thingOf_45 kb_10 ?_
    refine gq_irem (pc := 47) dX10_thingOf_47 (by decide) (rfl : _ = p_rem _ _) ?_
    exact gq_iret (pc := 48) rfl dX10_thingOf_48 ⟨by rw [p_shows_6 ek], rfl⟩
set_option maxHeartbeats 1000000 in
theorem k_heavy_25 {e : Int32} {j : Nat} (hI : p_inv c r) (he : e = nI j) (hj : j < 8) : ge_N X ge_SH YX10_heavyOf 2 [.ref (ge_ad X.1 25), .int e] (ge_k g 25 r x hb) (some (.int (p_heavy r j))) (ge_k g 25 r x hb) := by
  refine gq_ofB (l := [(0, .ref (ge_ad X.1 25)), (1, .int e)]) (by decide) (Nat.le_of_ble_eq_true rfl) rfl ?_
  refine gq_aload_n (pc := 0) dX10_heavyOf_0 rfl ?_
  refine gq_getr (pc := 1) dX10_heavyOf_1 fl_X10_15_10 sh_25 rfl ?_
  refine gq_aload_n (pc := 4) dX10_heavyOf_4 rfl ?_
  refine gq_getr (pc := 5) dX10_heavyOf_5 fl_X10_23_10 sh_25 rfl ?_
  refine gq_iload_n (pc := 8) dX10_heavyOf_8 rfl ?_
  refine kq_ald2 (pw := 25) (pc := 9) (by decide) dX10_heavyOf_9 he (by first | decide | omega) ?_
  obtain ⟨k, hk, ek⟩ := (hI.2.2.2.2.1 j hj).1
  rcases (by omega : k = 0 ∨ k = 1 ∨ k = 2 ∨ k = 3 ∨ k = 4 ∨ k = 5 ∨ k = 6) with rfl | rfl | rfl | rfl | rfl | rfl | rfl
  · refine gq_aald (pc := 10) dX10_heavyOf_10 sh_3 rfl ek rfl (by decide) ?_
    refine gq_aload_n (pc := 11) dX10_heavyOf_11 rfl ?_
    refine kq_get13 (pw := 25) (pc := 12) (by decide) dX10_heavyOf_12 fl_X10_69_10 ?_
    refine gq_rU1i (pc := 15) dX10_heavyOf_15 cu_X10_102_1 sh_4 (k_hv_X1 _ _) ⟨by decide, by decide⟩ rfl rfl (Nat.le_of_ble_eq_true rfl) ?_
    exact gq_iret (pc := 18) rfl dX10_heavyOf_18 ⟨by unfold p_heavy; rw [ek]; rfl, rfl⟩
  · refine gq_aald (pc := 10) dX10_heavyOf_10 sh_3 rfl ek rfl (by decide) ?_
    refine gq_aload_n (pc := 11) dX10_heavyOf_11 rfl ?_
    refine kq_get13 (pw := 25) (pc := 12) (by decide) dX10_heavyOf_12 fl_X10_69_10 ?_
    refine gq_rU1i (pc := 15) dX10_heavyOf_15 cu_X10_102_6 sh_5 (k_hv_X1 _ _) ⟨by decide, by decide⟩ rfl rfl (Nat.le_of_ble_eq_true rfl) ?_
    exact gq_iret (pc := 18) rfl dX10_heavyOf_18 ⟨by unfold p_heavy; rw [ek]; rfl, rfl⟩
  · refine gq_aald (pc := 10) dX10_heavyOf_10 sh_3 rfl ek rfl (by decide) ?_
    refine gq_aload_n (pc := 11) dX10_heavyOf_11 rfl ?_
    refine kq_get13 (pw := 25) (pc := 12) (by decide) dX10_heavyOf_12 fl_X10_69_10 ?_
    refine gq_rU1i (pc := 15) dX10_heavyOf_15 cu_X10_102_2 sh_6 (k_hv_X2 _ _) ⟨by decide, by decide⟩ rfl rfl (Nat.le_of_ble_eq_true rfl) ?_
    exact gq_iret (pc := 18) rfl dX10_heavyOf_18 ⟨by unfold p_heavy; rw [ek]; rfl, rfl⟩
  · refine gq_aald (pc := 10) dX10_heavyOf_10 sh_3 rfl ek rfl (by decide) ?_
    refine gq_aload_n (pc := 11) dX10_heavyOf_11 rfl ?_
    refine kq_get13 (pw := 25) (pc := 12) (by decide) dX10_heavyOf_12 fl_X10_69_10 ?_
    refine gq_rU1i (pc := 15) dX10_heavyOf_15 cu_X10_102_3 sh_7 (k_hv_X1 _ _) ⟨by decide, by decide⟩ rfl rfl (Nat.le_of_ble_eq_true rfl) ?_
    exact gq_iret (pc := 18) rfl dX10_heavyOf_18 ⟨by unfold p_heavy; rw [ek]; rfl, rfl⟩
  · refine gq_aald (pc := 10) dX10_heavyOf_10 sh_3 rfl ek rfl (by decide) ?_
    refine gq_aload_n (pc := 11) dX10_heavyOf_11 rfl ?_
    refine kq_get13 (pw := 25) (pc := 12) (by decide) dX10_heavyOf_12 fl_X10_69_10 ?_
    refine gq_rU1i (pc := 15) dX10_heavyOf_15 cu_X10_102_0 sh_8 (k_hv_X0 _ _) ⟨by decide, by decide⟩ rfl rfl (Nat.le_of_ble_eq_true rfl) ?_
    exact gq_iret (pc := 18) rfl dX10_heavyOf_18 ⟨by unfold p_heavy; rw [ek]; rfl, rfl⟩
  · refine gq_aald (pc := 10) dX10_heavyOf_10 sh_3 rfl ek rfl (by decide) ?_
    refine gq_aload_n (pc := 11) dX10_heavyOf_11 rfl ?_
    refine kq_get13 (pw := 25) (pc := 12) (by decide) dX10_heavyOf_12 fl_X10_69_10 ?_
    refine gq_rU1i (pc := 15) dX10_heavyOf_15 cu_X10_102_8 sh_9 (k_hv_X8 _) ⟨by decide, by decide⟩ rfl rfl (Nat.le_of_ble_eq_true rfl) ?_
    exact gq_iret (pc := 18) rfl dX10_heavyOf_18 ⟨by unfold p_heavy; rw [ek]; rfl, rfl⟩
  · refine gq_aald (pc := 10) dX10_heavyOf_10 sh_3 rfl ek rfl (by decide) ?_
    refine gq_aload_n (pc := 11) dX10_heavyOf_11 rfl ?_
    refine kq_get13 (pw := 25) (pc := 12) (by decide) dX10_heavyOf_12 fl_X10_69_10 ?_
    refine gq_rU1i (pc := 15) dX10_heavyOf_15 cu_X10_102_5 sh_10 (k_hv_X1 _ _) ⟨by decide, by decide⟩ rfl rfl (Nat.le_of_ble_eq_true rfl) ?_
    exact gq_iret (pc := 18) rfl dX10_heavyOf_18 ⟨by unfold p_heavy; rw [ek]; rfl, rfl⟩
set_option maxHeartbeats 1000000 in
theorem k_thing_35 {e : Int32} {j : Nat} (hI : p_inv c r) (hL : c_lw g r) (he : e = nI j) (hj : j < 8) : ge_N X ge_SH YX10_thingOf 2 [.ref (ge_ad X.1 35), .int e] (ge_k g 35 r x hb) (some (.int (p_shows r j))) (ge_k g 35 r x hb) := by
  refine gq_ofB (l := [(0, .ref (ge_ad X.1 35)), (1, .int e)]) (by decide) (Nat.le_of_ble_eq_true rfl) rfl ?_
  refine gq_aload_n (pc := 0) dX10_thingOf_0 rfl ?_
  refine gq_getr (pc := 1) dX10_thingOf_1 fl_X10_9_10 sh_35 rfl ?_
  refine gq_iconst (pc := 4) dX10_thingOf_4 kc_0 ?_
  refine gq_aload_n (pc := 5) dX10_thingOf_5 rfl ?_
  refine gq_getr (pc := 6) dX10_thingOf_6 fl_X10_29_10 sh_35 rfl ?_
  refine gq_iload_n (pc := 9) dX10_thingOf_9 rfl ?_
  refine kq_ald4 (pw := 35) (pc := 10) (by decide) dX10_thingOf_10 he (by first | decide | omega) ?_
  refine gq_aload_n (pc := 11) dX10_thingOf_11 rfl ?_
  refine kq_get13 (pw := 35) (pc := 12) (by decide) dX10_thingOf_12 fl_X10_69_10 ?_
  refine gq_bipush (pc := 15) dX10_thingOf_15 kb_12 ?_
  refine gq_irem (pc := 17) dX10_thingOf_17 (by decide) (rfl : _ = p_rem _ _) ?_
  refine gq_aload_n (pc := 18) dX10_thingOf_18 rfl ?_
  refine gq_getr (pc := 19) dX10_thingOf_19 fl_X10_26_10 sh_35 rfl ?_
  refine gq_iload_n (pc := 22) dX10_thingOf_22 rfl ?_
  refine kq_ald3 (pw := 35) (pc := 23) (by decide) dX10_thingOf_23 he (by first | decide | omega) ?_
  refine gq_rV4i (pc := 24) dX10_thingOf_24 cv_X10_90 sh_11 (kw_worth0_35 hL) ⟨by decide, by decide⟩ rfl rfl (Nat.le_of_ble_eq_true rfl) ?_
  refine gq_istore_n (pc := 27) (l' := [(2, _), (0, _), (1, _)]) dX10_thingOf_27 (by decide) rfl ?_
  refine gq_aload_n (pc := 28) dX10_thingOf_28 rfl ?_
  refine gq_getr (pc := 29) dX10_thingOf_29 fl_X10_15_10 sh_35 rfl ?_
  refine gq_aload_n (pc := 32) dX10_thingOf_32 rfl ?_
  refine gq_getr (pc := 33) dX10_thingOf_33 fl_X10_23_10 sh_35 rfl ?_
  refine gq_iload_n (pc := 36) dX10_thingOf_36 rfl ?_
  refine kq_ald2 (pw := 35) (pc := 37) (by decide) dX10_thingOf_37 he (by first | decide | omega) ?_
  obtain ⟨k, hk, ek⟩ := (hI.2.2.2.2.1 j hj).1
  rcases (by omega : k = 0 ∨ k = 1 ∨ k = 2 ∨ k = 3 ∨ k = 4 ∨ k = 5 ∨ k = 6) with rfl | rfl | rfl | rfl | rfl | rfl | rfl
  · refine gq_aald (pc := 38) dX10_thingOf_38 sh_3 rfl ek rfl (by decide) ?_
    refine gq_iload_n (pc := 39) dX10_thingOf_39 rfl ?_
    refine gq_aload_n (pc := 40) dX10_thingOf_40 rfl ?_
    refine gq_iload_n (pc := 41) dX10_thingOf_41 rfl ?_
    refine gq_rU3i (pc := 42) dX10_thingOf_42 cu_X10_96_1 sh_4 (k_sh_X1_35 _ he hj) ⟨by decide, by decide⟩ rfl rfl (Nat.le_of_ble_eq_true rfl) ?_
    refine gq_bipush (pc := 45) dX10_thingOf_45 kb_10 ?_
    refine gq_irem (pc := 47) dX10_thingOf_47 (by decide) (rfl : _ = p_rem _ _) ?_
    exact gq_iret (pc := 48) rfl dX10_thingOf_48 ⟨by rw [p_shows_0 ek]; rfl, rfl⟩
  · refine gq_aald (pc := 38) dX10_thingOf_38 sh_3 rfl ek rfl (by decide) ?_
    refine gq_iload_n (pc := 39) dX10_thingOf_39 rfl ?_
    refine gq_aload_n (pc := 40) dX10_thingOf_40 rfl ?_
    refine gq_iload_n (pc := 41) dX10_thingOf_41 rfl ?_
    refine gq_rU3i (pc := 42) dX10_thingOf_42 cu_X10_96_6 sh_5 (k_sh_X6_35 _ he hj) ⟨by decide, by decide⟩ rfl rfl (Nat.le_of_ble_eq_true rfl) ?_
    refine gq_bipush (pc := 45) dX10_thingOf_45 kb_10 ?_
    refine gq_irem (pc := 47) dX10_thingOf_47 (by decide) (rfl : _ = p_rem _ _) ?_
    exact gq_iret (pc := 48) rfl dX10_thingOf_48 ⟨by rw [p_shows_1 ek]; rfl, rfl⟩
  · refine gq_aald (pc := 38) dX10_thingOf_38 sh_3 rfl ek rfl (by decide) ?_
    refine gq_iload_n (pc := 39) dX10_thingOf_39 rfl ?_
    refine gq_aload_n (pc := 40) dX10_thingOf_40 rfl ?_
    refine gq_iload_n (pc := 41) dX10_thingOf_41 rfl ?_
    refine gq_rU3i (pc := 42) dX10_thingOf_42 cu_X10_96_2 sh_6 (k_sh_X2_35 _ he hj) ⟨by decide, by decide⟩ rfl rfl (Nat.le_of_ble_eq_true rfl) ?_
    refine gq_bipush (pc := 45) dX10_thingOf_45 kb_10 ?_
    refine gq_irem (pc := 47) dX10_thingOf_47 (by decide) (rfl : _ = p_rem _ _) ?_
    exact gq_iret (pc := 48) rfl dX10_thingOf_48 ⟨by rw [p_shows_2 ek]; exact congrArg (fun v => some (Value.int v)) p_sh2, rfl⟩
  · refine gq_aald (pc := 38) dX10_thingOf_38 sh_3 rfl ek rfl (by decide) ?_
    refine gq_iload_n (pc := 39) dX10_thingOf_39 rfl ?_
    refine gq_aload_n (pc := 40) dX10_thingOf_40 rfl ?_
    refine gq_iload_n (pc := 41) dX10_thingOf_41 rfl ?_
    refine gq_rU3i (pc := 42) dX10_thingOf_42 cu_X10_96_3 sh_7 (k_sh_X3_35 _ he hj) ⟨by decide, by decide⟩ rfl rfl (Nat.le_of_ble_eq_true rfl) ?_
    refine gq_bipush (pc := 45) dX10_thingOf_45 kb_10 ?_
    refine gq_irem (pc := 47) dX10_thingOf_47 (by decide) (rfl : _ = p_rem _ _) ?_
    exact gq_iret (pc := 48) rfl dX10_thingOf_48 ⟨by rw [p_shows_3 ek]; exact congrArg (fun v => some (Value.int v)) (p_shb hI hj), rfl⟩
  · refine gq_aald (pc := 38) dX10_thingOf_38 sh_3 rfl ek rfl (by decide) ?_
    refine gq_iload_n (pc := 39) dX10_thingOf_39 rfl ?_
    refine gq_aload_n (pc := 40) dX10_thingOf_40 rfl ?_
    refine gq_iload_n (pc := 41) dX10_thingOf_41 rfl ?_
    refine gq_rU3i (pc := 42) dX10_thingOf_42 cu_X10_96_0 sh_8 (k_sh_X0_35 he hj) ⟨by decide, by decide⟩ rfl rfl (Nat.le_of_ble_eq_true rfl) ?_
    refine gq_bipush (pc := 45) dX10_thingOf_45 kb_10 ?_
    refine gq_irem (pc := 47) dX10_thingOf_47 (by decide) (rfl : _ = p_rem _ _) ?_
    exact gq_iret (pc := 48) rfl dX10_thingOf_48 ⟨by rw [p_shows_4 ek]; rfl, rfl⟩
  · refine gq_aald (pc := 38) dX10_thingOf_38 sh_3 rfl ek rfl (by decide) ?_
    refine gq_iload_n (pc := 39) dX10_thingOf_39 rfl ?_
    refine gq_aload_n (pc := 40) dX10_thingOf_40 rfl ?_
    refine gq_iload_n (pc := 41) dX10_thingOf_41 rfl ?_
    refine gq_rU3i (pc := 42) dX10_thingOf_42 cu_X10_96_8 sh_9 (k_sh_X8_35 he hj) ⟨by decide, by decide⟩ rfl rfl (Nat.le_of_ble_eq_true rfl) ?_
    refine gq_bipush (pc := 45) dX10_thingOf_45 kb_10 ?_
    refine gq_irem (pc := 47) dX10_thingOf_47 (by decide) (rfl : _ = p_rem _ _) ?_
    exact gq_iret (pc := 48) rfl dX10_thingOf_48 ⟨by rw [p_shows_5 ek]; by_cases h4 : p_rem (r 0) 4 = 0; simp only [if_pos h4]; exact congrArg (fun v => some (Value.int v)) (p_shb hI hj); simp only [if_neg h4]; exact congrArg (fun v => some (Value.int v)) p_sh2, rfl⟩
  · refine gq_aald (pc := 38) dX10_thingOf_38 sh_3 rfl ek rfl (by decide) ?_
    refine gq_iload_n (pc := 39) dX10_thingOf_39 rfl ?_
    refine gq_aload_n (pc := 40) dX10_thingOf_40 rfl ?_
    refine gq_iload_n (pc := 41) dX10_thingOf_41 rfl ?_
    refine gq_rU3i (pc := 42) dX10_thingOf_42 cu_X10_96_5 sh_10 (k_sh_X5_35 he hj) ⟨by decide, by decide⟩ rfl rfl (Nat.le_of_ble_eq_true rfl) ?_
    refine gq_bipush (pc := 45) dX10_thingOf_45 kb_10 ?_
    refine gq_irem (pc := 47) dX10_thingOf_47 (by decide) (rfl : _ = p_rem _ _) ?_
    exact gq_iret (pc := 48) rfl dX10_thingOf_48 ⟨by rw [p_shows_6 ek], rfl⟩
set_option maxHeartbeats 1000000 in
theorem k_heavy_35 {e : Int32} {j : Nat} (hI : p_inv c r) (he : e = nI j) (hj : j < 8) : ge_N X ge_SH YX10_heavyOf 2 [.ref (ge_ad X.1 35), .int e] (ge_k g 35 r x hb) (some (.int (p_heavy r j))) (ge_k g 35 r x hb) := by
  refine gq_ofB (l := [(0, .ref (ge_ad X.1 35)), (1, .int e)]) (by decide) (Nat.le_of_ble_eq_true rfl) rfl ?_
  refine gq_aload_n (pc := 0) dX10_heavyOf_0 rfl ?_
  refine gq_getr (pc := 1) dX10_heavyOf_1 fl_X10_15_10 sh_35 rfl ?_
  refine gq_aload_n (pc := 4) dX10_heavyOf_4 rfl ?_
  refine gq_getr (pc := 5) dX10_heavyOf_5 fl_X10_23_10 sh_35 rfl ?_
  refine gq_iload_n (pc := 8) dX10_heavyOf_8 rfl ?_
  refine kq_ald2 (pw := 35) (pc := 9) (by decide) dX10_heavyOf_9 he (by first | decide | omega) ?_
  obtain ⟨k, hk, ek⟩ := (hI.2.2.2.2.1 j hj).1
  rcases (by omega : k = 0 ∨ k = 1 ∨ k = 2 ∨ k = 3 ∨ k = 4 ∨ k = 5 ∨ k = 6) with rfl | rfl | rfl | rfl | rfl | rfl | rfl
  · refine gq_aald (pc := 10) dX10_heavyOf_10 sh_3 rfl ek rfl (by decide) ?_
    refine gq_aload_n (pc := 11) dX10_heavyOf_11 rfl ?_
    refine kq_get13 (pw := 35) (pc := 12) (by decide) dX10_heavyOf_12 fl_X10_69_10 ?_
    refine gq_rU1i (pc := 15) dX10_heavyOf_15 cu_X10_102_1 sh_4 (k_hv_X1 _ _) ⟨by decide, by decide⟩ rfl rfl (Nat.le_of_ble_eq_true rfl) ?_
    exact gq_iret (pc := 18) rfl dX10_heavyOf_18 ⟨by unfold p_heavy; rw [ek]; rfl, rfl⟩
  · refine gq_aald (pc := 10) dX10_heavyOf_10 sh_3 rfl ek rfl (by decide) ?_
    refine gq_aload_n (pc := 11) dX10_heavyOf_11 rfl ?_
    refine kq_get13 (pw := 35) (pc := 12) (by decide) dX10_heavyOf_12 fl_X10_69_10 ?_
    refine gq_rU1i (pc := 15) dX10_heavyOf_15 cu_X10_102_6 sh_5 (k_hv_X1 _ _) ⟨by decide, by decide⟩ rfl rfl (Nat.le_of_ble_eq_true rfl) ?_
    exact gq_iret (pc := 18) rfl dX10_heavyOf_18 ⟨by unfold p_heavy; rw [ek]; rfl, rfl⟩
  · refine gq_aald (pc := 10) dX10_heavyOf_10 sh_3 rfl ek rfl (by decide) ?_
    refine gq_aload_n (pc := 11) dX10_heavyOf_11 rfl ?_
    refine kq_get13 (pw := 35) (pc := 12) (by decide) dX10_heavyOf_12 fl_X10_69_10 ?_
    refine gq_rU1i (pc := 15) dX10_heavyOf_15 cu_X10_102_2 sh_6 (k_hv_X2 _ _) ⟨by decide, by decide⟩ rfl rfl (Nat.le_of_ble_eq_true rfl) ?_
    exact gq_iret (pc := 18) rfl dX10_heavyOf_18 ⟨by unfold p_heavy; rw [ek]; rfl, rfl⟩
  · refine gq_aald (pc := 10) dX10_heavyOf_10 sh_3 rfl ek rfl (by decide) ?_
    refine gq_aload_n (pc := 11) dX10_heavyOf_11 rfl ?_
    refine kq_get13 (pw := 35) (pc := 12) (by decide) dX10_heavyOf_12 fl_X10_69_10 ?_
    refine gq_rU1i (pc := 15) dX10_heavyOf_15 cu_X10_102_3 sh_7 (k_hv_X1 _ _) ⟨by decide, by decide⟩ rfl rfl (Nat.le_of_ble_eq_true rfl) ?_
    exact gq_iret (pc := 18) rfl dX10_heavyOf_18 ⟨by unfold p_heavy; rw [ek]; rfl, rfl⟩
  · refine gq_aald (pc := 10) dX10_heavyOf_10 sh_3 rfl ek rfl (by decide) ?_
    refine gq_aload_n (pc := 11) dX10_heavyOf_11 rfl ?_
    refine kq_get13 (pw := 35) (pc := 12) (by decide) dX10_heavyOf_12 fl_X10_69_10 ?_
    refine gq_rU1i (pc := 15) dX10_heavyOf_15 cu_X10_102_0 sh_8 (k_hv_X0 _ _) ⟨by decide, by decide⟩ rfl rfl (Nat.le_of_ble_eq_true rfl) ?_
    exact gq_iret (pc := 18) rfl dX10_heavyOf_18 ⟨by unfold p_heavy; rw [ek]; rfl, rfl⟩
  · refine gq_aald (pc := 10) dX10_heavyOf_10 sh_3 rfl ek rfl (by decide) ?_
    refine gq_aload_n (pc := 11) dX10_heavyOf_11 rfl ?_
    refine kq_get13 (pw := 35) (pc := 12) (by decide) dX10_heavyOf_12 fl_X10_69_10 ?_
    refine gq_rU1i (pc := 15) dX10_heavyOf_15 cu_X10_102_8 sh_9 (k_hv_X8 _) ⟨by decide, by decide⟩ rfl rfl (Nat.le_of_ble_eq_true rfl) ?_
    exact gq_iret (pc := 18) rfl dX10_heavyOf_18 ⟨by unfold p_heavy; rw [ek]; rfl, rfl⟩
  · refine gq_aald (pc := 10) dX10_heavyOf_10 sh_3 rfl ek rfl (by decide) ?_
    refine gq_aload_n (pc := 11) dX10_heavyOf_11 rfl ?_
    refine kq_get13 (pw := 35) (pc := 12) (by decide) dX10_heavyOf_12 fl_X10_69_10 ?_
    refine gq_rU1i (pc := 15) dX10_heavyOf_15 cu_X10_102_5 sh_10 (k_hv_X1 _ _) ⟨by decide, by decide⟩ rfl rfl (Nat.le_of_ble_eq_true rfl) ?_
    exact gq_iret (pc := 18) rfl dX10_heavyOf_18 ⟨by unfold p_heavy; rw [ek]; rfl, rfl⟩
end W4
