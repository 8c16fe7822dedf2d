section L1
variable {X : ge_X} {g : ge_G}
theorem ge_ofF {S : List ge_S} {y : ge_Y} {d : Nat} {Q : Option Value → ge_G → Prop} {l : List (Nat × Value)} {a : List Value} (hy : plainFor y.1 = true) (hn : (lg_sl a).length ≤ y.2.2.1) (hl : lv_args 0 a = l) (k : ge_A X S y d Q 0 l [] g) : ge_M X S y d a g Q := by
  intro lc
  refine va_MetF (cc := y.2.1) (maxL := y.2.2.1) (ret := y.2.2.2) hy rfl ?_
  intro p e s m args below meth c s₁ B hml hv
  obtain ⟨rfl, hH, hK⟩ := hv
  have hts := atoms_spec (ws := Cond.code y.1 y.2.1 y.2.2.1 y.2.2.2 :: ge_tbl) B.pre
  have hown : s.vm.findClass y.1.cls = some m.cls := findClass_of_methodNamed B.named
  have he := lv_entry a (n := y.2.2.1) hn
  rw [hl] at he
  rw [lg_entry_eq]
  exact k p lc e s m _ below meth c s.heap [] _ ⟨B.exec, B.bytes, hml, hown, fun w h => hts w (List.mem_cons_of_mem _ h), B.returns, B.notSynchronized, hK⟩ hH va_S.rf he
theorem gq_ofF {S : List ge_S} {y : ge_Y} {d : Nat} {Q : Option Value → ge_G → Prop} {l : List (Nat × Value)} {a : List Value} (hy : plainFor y.1 = true) (hn : (lg_sl a).length ≤ y.2.2.1) (hl : lv_args 0 a = l) (k : ge_B X S y d Q 0 l [] g) : ge_NQ X S y d a g Q := fun g1 hg => ge_ofF hy hn hl (k g1 hg)
def p_min (a b : Int32) : Int32 := if b < a then b else a
def p_max (a b : Int32) : Int32 := if a < b then b else a
set_option maxHeartbeats 400000 in
theorem k_min (a b : Int32) : ge_N X ge_SH YJ9_min_7cf53 0 [.int a, .int b] g (some (.int (p_min a b))) g := by
  refine gq_ofF (l := [(0, .int a), (1, .int b)]) (by decide +kernel) (Nat.le_of_ble_eq_true rfl) rfl ?_
  refine gq_iload_n (pc := 0) dJ9_min_7cf53_0 rfl ?_
  refine gq_iload_n (pc := 1) dJ9_min_7cf53_1 rfl ?_
  refine gq_ic_gt (pc := 2) 9 dJ9_min_7cf53_2 (by decide) (fun h_2 => ?_) (fun h_2 => ?_)
  · refine gq_iload_n (pc := 9) dJ9_min_7cf53_9 rfl ?_
    exact gq_iret (pc := 10) rfl dJ9_min_7cf53_10 ⟨by unfold p_min; first | rw [if_pos h_2] | rw [if_neg h_2], rfl⟩
  · refine gq_iload_n (pc := 5) dJ9_min_7cf53_5 rfl ?_
    refine gq_goto (pc := 6) 10 dJ9_min_7cf53_6 (by decide) ?_
    exact gq_iret (pc := 10) rfl dJ9_min_7cf53_10 ⟨by unfold p_min; first | rw [if_pos h_2] | rw [if_neg h_2], rfl⟩
set_option maxHeartbeats 400000 in
theorem k_max (a b : Int32) : ge_N X ge_SH YJ9_max_7cf53 0 [.int a, .int b] g (some (.int (p_max a b))) g := by
  refine gq_ofF (l := [(0, .int a), (1, .int b)]) (by decide +kernel) (Nat.le_of_ble_eq_true rfl) rfl ?_
  refine gq_iload_n (pc := 0) dJ9_max_7cf53_0 rfl ?_
  refine gq_iload_n (pc := 1) dJ9_max_7cf53_1 rfl ?_
  refine gq_ic_lt (pc := 2) 9 dJ9_max_7cf53_2 (by decide) (fun h_2 => ?_) (fun h_2 => ?_)
  · refine gq_iload_n (pc := 9) dJ9_max_7cf53_9 rfl ?_
    exact gq_iret (pc := 10) rfl dJ9_max_7cf53_10 ⟨by unfold p_max; first | rw [if_pos h_2] | rw [if_neg h_2], rfl⟩
  · refine gq_iload_n (pc := 5) dJ9_max_7cf53_5 rfl ?_
    refine gq_goto (pc := 6) 10 dJ9_max_7cf53_6 (by decide) ?_
    exact gq_iret (pc := 10) rfl dJ9_max_7cf53_10 ⟨by unfold p_max; first | rw [if_pos h_2] | rw [if_neg h_2], rfl⟩
set_option maxHeartbeats 400000 in
theorem x_min (a b : Int32) : ge_Ret X ge_SH YJ9_min_7cf53 0 [.int a, .int b] g (some (.int (p_min a b))) g := by
  refine ge_ofF (l := [(0, .int a), (1, .int b)]) (by decide +kernel) (Nat.le_of_ble_eq_true rfl) rfl ?_
  refine ge_iload_n (pc := 0) dJ9_min_7cf53_0 rfl ?_
  refine ge_iload_n (pc := 1) dJ9_min_7cf53_1 rfl ?_
  refine ge_ic_gt (pc := 2) 9 dJ9_min_7cf53_2 (by decide) (fun h_2 => ?_) (fun h_2 => ?_)
  · refine ge_iload_n (pc := 9) dJ9_min_7cf53_9 rfl ?_
    exact ge_iret (pc := 10) rfl dJ9_min_7cf53_10 ⟨by unfold p_min; first | rw [if_pos h_2] | rw [if_neg h_2], rfl⟩
  · refine ge_iload_n (pc := 5) dJ9_min_7cf53_5 rfl ?_
    refine ge_goto (pc := 6) 10 dJ9_min_7cf53_6 (by decide) ?_
    exact ge_iret (pc := 10) rfl dJ9_min_7cf53_10 ⟨by unfold p_min; first | rw [if_pos h_2] | rw [if_neg h_2], rfl⟩
set_option maxHeartbeats 400000 in
theorem x_max (a b : Int32) : ge_Ret X ge_SH YJ9_max_7cf53 0 [.int a, .int b] g (some (.int (p_max a b))) g := by
  refine ge_ofF (l := [(0, .int a), (1, .int b)]) (by decide +kernel) (Nat.le_of_ble_eq_true rfl) rfl ?_
  refine ge_iload_n (pc := 0) dJ9_max_7cf53_0 rfl ?_
  refine ge_iload_n (pc := 1) dJ9_max_7cf53_1 rfl ?_
  refine ge_ic_lt (pc := 2) 9 dJ9_max_7cf53_2 (by decide) (fun h_2 => ?_) (fun h_2 => ?_)
  · refine ge_iload_n (pc := 9) dJ9_max_7cf53_9 rfl ?_
    exact ge_iret (pc := 10) rfl dJ9_max_7cf53_10 ⟨by unfold p_max; first | rw [if_pos h_2] | rw [if_neg h_2], rfl⟩
  · refine ge_iload_n (pc := 5) dJ9_max_7cf53_5 rfl ?_
    refine ge_goto (pc := 6) 10 dJ9_max_7cf53_6 (by decide) ?_
    exact ge_iret (pc := 10) rfl dJ9_max_7cf53_10 ⟨by unfold p_max; first | rw [if_pos h_2] | rw [if_neg h_2], rfl⟩
/-- what an operator makes of two values -/
def c_op (s a b : Int32) : Int32 := if s = 124 then e_orf s a b else if s = 38 then e_andf s a b else if s = 60 ∨ s = 61 ∨ s = 62 then e_cmpf s a b else if s = 43 ∨ s = 45 then e_addf s a b else e_mulf s a b
def c_isop (s : Int32) : Prop := s = 124 ∨ s = 38 ∨ s = 60 ∨ s = 61 ∨ s = 62 ∨ s = 43 ∨ s = 45 ∨ s = 42 ∨ s = 47 ∨ s = 37
set_option maxHeartbeats 1000000 in
theorem x_join {s a b : Int32} (hs : c_isop s) : ge_Ret X ge_SH YX4_join 0 [.int s, .int a, .int b] g (some (.int (c_op s a b))) g := by
  refine ge_ofA (l := [(0, .int s), (1, .int a), (2, .int b)]) (by decide) (Nat.le_of_ble_eq_true rfl) rfl ?_
  refine ge_iload_n (pc := 0) dX4_join_0 rfl ?_
  rcases hs with rfl | rfl | rfl | rfl | rfl | rfl | rfl | rfl | rfl | rfl
  · refine ge_lkup (pc := 1) (off := 83) 84 dX4_join_1 (by decide) (by decide) (by decide) ?_
    refine ge_iload_n (pc := 84) dX4_join_84 rfl ?_
    refine ge_if_ne (pc := 85) 92 dX4_join_85 (by decide) (fun h_85 => ?_) (fun h_85 => ?_)
    · refine ge_iconst (pc := 92) dX4_join_92 kc_1 ?_
      refine ge_goto (pc := 93) 97 dX4_join_93 (by decide) ?_
      exact ge_iret (pc := 97) rfl dX4_join_97 ⟨by simp [c_op, e_orf, e_andf, e_cmpf, e_addf, e_mulf, *], rfl⟩
    · refine ge_iload_n (pc := 88) dX4_join_88 rfl ?_
      refine ge_if_eq (pc := 89) 96 dX4_join_89 (by decide) (fun h_89 => ?_) (fun h_89 => ?_)
      · refine ge_iconst (pc := 96) dX4_join_96 kc_0 ?_
        exact ge_iret (pc := 97) rfl dX4_join_97 ⟨by simp [c_op, e_orf, e_andf, e_cmpf, e_addf, e_mulf, *], rfl⟩
      · refine ge_iconst (pc := 92) dX4_join_92 kc_1 ?_
        refine ge_goto (pc := 93) 97 dX4_join_93 (by decide) ?_
        exact ge_iret (pc := 97) rfl dX4_join_97 ⟨by simp [c_op, e_orf, e_andf, e_cmpf, e_addf, e_mulf, *], rfl⟩
  · refine ge_lkup (pc := 1) (off := 97) 98 dX4_join_1 (by decide) (by decide) (by decide) ?_
    refine ge_iload_n (pc := 98) dX4_join_98 rfl ?_
    refine ge_if_eq (pc := 99) 110 dX4_join_99 (by decide) (fun h_99 => ?_) (fun h_99 => ?_)
    · refine ge_iconst (pc := 110) dX4_join_110 kc_0 ?_
      exact ge_iret (pc := 111) rfl dX4_join_111 ⟨by simp [c_op, e_orf, e_andf, e_cmpf, e_addf, e_mulf, *], rfl⟩
    · refine ge_iload_n (pc := 102) dX4_join_102 rfl ?_
      refine ge_if_eq (pc := 103) 110 dX4_join_103 (by decide) (fun h_103 => ?_) (fun h_103 => ?_)
      · refine ge_iconst (pc := 110) dX4_join_110 kc_0 ?_
        exact ge_iret (pc := 111) rfl dX4_join_111 ⟨by simp [c_op, e_orf, e_andf, e_cmpf, e_addf, e_mulf, *], rfl⟩
      · refine ge_iconst (pc := 106) dX4_join_106 kc_1 ?_
        refine ge_goto (pc := 107) 111 dX4_join_107 (by decide) ?_
        exact ge_iret (pc := 111) rfl dX4_join_111 ⟨by simp [c_op, e_orf, e_andf, e_cmpf, e_addf, e_mulf, *], rfl⟩
  · refine ge_lkup (pc := 1) (off := 111) 112 dX4_join_1 (by decide) (by decide) (by decide) ?_
    refine ge_iload_n (pc := 112) dX4_join_112 rfl ?_
    refine ge_iload_n (pc := 113) dX4_join_113 rfl ?_
    refine ge_ic_ge (pc := 114) 121 dX4_join_114 (by decide) (fun h_114 => ?_) (fun h_114 => ?_)
    · refine ge_iconst (pc := 121) dX4_join_121 kc_0 ?_
      exact ge_iret (pc := 122) rfl dX4_join_122 ⟨by simp [c_op, e_orf, e_andf, e_cmpf, e_addf, e_mulf, *], rfl⟩
    · refine ge_iconst (pc := 117) dX4_join_117 kc_1 ?_
      refine ge_goto (pc := 118) 122 dX4_join_118 (by decide) ?_
      exact ge_iret (pc := 122) rfl dX4_join_122 ⟨by simp [c_op, e_orf, e_andf, e_cmpf, e_addf, e_mulf, *], rfl⟩
  · refine ge_lkup (pc := 1) (off := 122) 123 dX4_join_1 (by decide) (by decide) (by decide) ?_
    refine ge_iload_n (pc := 123) dX4_join_123 rfl ?_
    refine ge_iload_n (pc := 124) dX4_join_124 rfl ?_
    refine ge_ic_ne (pc := 125) 132 dX4_join_125 (by decide) (fun h_125 => ?_) (fun h_125 => ?_)
    · refine ge_iconst (pc := 132) dX4_join_132 kc_0 ?_
      exact ge_iret (pc := 133) rfl dX4_join_133 ⟨by simp [c_op, e_orf, e_andf, e_cmpf, e_addf, e_mulf, *], rfl⟩
    · refine ge_iconst (pc := 128) dX4_join_128 kc_1 ?_
      refine ge_goto (pc := 129) 133 dX4_join_129 (by decide) ?_
      exact ge_iret (pc := 133) rfl dX4_join_133 ⟨by simp [c_op, e_orf, e_andf, e_cmpf, e_addf, e_mulf, *], rfl⟩
  · refine ge_lkup (pc := 1) (off := 133) 134 dX4_join_1 (by decide) (by decide) (by decide) ?_
    refine ge_iload_n (pc := 134) dX4_join_134 rfl ?_
    refine ge_iload_n (pc := 135) dX4_join_135 rfl ?_
    refine ge_ic_le (pc := 136) 143 dX4_join_136 (by decide) (fun h_136 => ?_) (fun h_136 => ?_)
    · refine ge_iconst (pc := 143) dX4_join_143 kc_0 ?_
      exact ge_iret (pc := 144) rfl dX4_join_144 ⟨by simp [c_op, e_orf, e_andf, e_cmpf, e_addf, e_mulf, *], rfl⟩
    · refine ge_iconst (pc := 139) dX4_join_139 kc_1 ?_
      refine ge_goto (pc := 140) 144 dX4_join_140 (by decide) ?_
      exact ge_iret (pc := 144) rfl dX4_join_144 ⟨by simp [c_op, e_orf, e_andf, e_cmpf, e_addf, e_mulf, *], rfl⟩
  · refine ge_lkup (pc := 1) (off := 144) 145 dX4_join_1 (by decide) (by decide) (by decide) ?_
    refine ge_iload_n (pc := 145) dX4_join_145 rfl ?_
    refine ge_iload_n (pc := 146) dX4_join_146 rfl ?_
    refine ge_iadd (pc := 147) dX4_join_147 ?_
    exact ge_iret (pc := 148) rfl dX4_join_148 ⟨by simp [c_op, e_orf, e_andf, e_cmpf, e_addf, e_mulf, *], rfl⟩
  · refine ge_lkup (pc := 1) (off := 148) 149 dX4_join_1 (by decide) (by decide) (by decide) ?_
    refine ge_iload_n (pc := 149) dX4_join_149 rfl ?_
    refine ge_iload_n (pc := 150) dX4_join_150 rfl ?_
    refine ge_isub (pc := 151) dX4_join_151 ?_
    exact ge_iret (pc := 152) rfl dX4_join_152 ⟨by simp [c_op, e_orf, e_andf, e_cmpf, e_addf, e_mulf, *], rfl⟩
  · refine ge_lkup (pc := 1) (off := 152) 153 dX4_join_1 (by decide) (by decide) (by decide) ?_
    refine ge_iload_n (pc := 153) dX4_join_153 rfl ?_
    refine ge_iload_n (pc := 154) dX4_join_154 rfl ?_
    refine ge_imul (pc := 155) dX4_join_155 ?_
    exact ge_iret (pc := 156) rfl dX4_join_156 ⟨by simp [c_op, e_orf, e_andf, e_cmpf, e_addf, e_mulf, *], rfl⟩
  · refine ge_lkup (pc := 1) (off := 156) 157 dX4_join_1 (by decide) (by decide) (by decide) ?_
    refine ge_iload_n (pc := 157) dX4_join_157 rfl ?_
    refine ge_if_ne (pc := 158) 165 dX4_join_158 (by decide) (fun h_158 => ?_) (fun h_158 => ?_)
    · refine ge_iload_n (pc := 165) dX4_join_165 rfl ?_
      refine ge_iload_n (pc := 166) dX4_join_166 rfl ?_
      refine ge_idiv (pc := 167) dX4_join_167 h_158 ?_
      exact ge_iret (pc := 168) rfl dX4_join_168 ⟨by simp [c_op, e_orf, e_andf, e_cmpf, e_addf, e_mulf, *], rfl⟩
    · refine ge_iconst (pc := 161) dX4_join_161 kc_0 ?_
      refine ge_goto (pc := 162) 168 dX4_join_162 (by decide) ?_
      exact ge_iret (pc := 168) rfl dX4_join_168 ⟨by simp [c_op, e_orf, e_andf, e_cmpf, e_addf, e_mulf, *], rfl⟩
  · refine ge_lkup (pc := 1) (off := 168) 169 dX4_join_1 (by decide) (by decide) (by decide) ?_
    refine ge_iload_n (pc := 169) dX4_join_169 rfl ?_
    refine ge_if_ne (pc := 170) 177 dX4_join_170 (by decide) (fun h_170 => ?_) (fun h_170 => ?_)
    · refine ge_iload_n (pc := 177) dX4_join_177 rfl ?_
      refine ge_iload_n (pc := 178) dX4_join_178 rfl ?_
      refine ge_irem (pc := 179) dX4_join_179 h_170 (rfl : _ = p_rem _ _) ?_
      exact ge_iret (pc := 180) rfl dX4_join_180 ⟨by simp [c_op, e_orf, e_andf, e_cmpf, e_addf, e_mulf, *], rfl⟩
    · refine ge_iconst (pc := 173) dX4_join_173 kc_0 ?_
      refine ge_goto (pc := 174) 180 dX4_join_174 (by decide) ?_
      exact ge_iret (pc := 180) rfl dX4_join_180 ⟨by simp [c_op, e_orf, e_andf, e_cmpf, e_addf, e_mulf, *], rfl⟩
def c_val (A B C s : Int32) : Int32 := if s < 0 then (if s = -1 then A else if s = -2 then B else C) else s
def c_st (A B C s : Int32) (k : List Int32) : Option (List Int32) :=
  if -3 ≤ s then some (c_val A B C s :: k) else if s = -33 then (match k with | a :: t => some ((if a = 0 then 1 else 0) :: t) | [] => none)
  else (match k with | b :: a :: t => some (c_op (-s) a b :: t) | _ => none)
def c_run (A B C : Int32) : List Int32 → List Int32 → Option (List Int32)
  | [], k => some k
  | s :: cs, k => match c_st A B C s k with | some k' => c_run A B C cs k' | none => none
theorem c_st_cases {A B C s : Int32} {k k' : List Int32} (h : c_st A B C s k = some k') : (-3 ≤ s ∧ k' = c_val A B C s :: k) ∨ (¬ -3 ≤ s ∧ s = -33 ∧ ∃ a t, k = a :: t ∧ k' = (if a = 0 then 1 else 0) :: t) ∨ (¬ -3 ≤ s ∧ ¬ s = -33 ∧ ∃ b a t, k = b :: a :: t ∧ k' = c_op (-s) a b :: t) := by
  unfold c_st at h
  by_cases h3 : -3 ≤ s
  · rw [if_pos h3] at h; cases h; exact Or.inl ⟨h3, rfl⟩
  · rw [if_neg h3] at h
    by_cases h33 : s = -33
    · rw [if_pos h33] at h
      match k, h with
      | a :: t, h => cases h; exact Or.inr (Or.inl ⟨h3, h33, a, t, rfl, rfl⟩)
    · rw [if_neg h33] at h
      match k, h with
      | b :: a :: t, h => cases h; exact Or.inr (Or.inr ⟨h3, h33, b, a, t, rfl, rfl⟩)
theorem c_run_cons {A B C s : Int32} {cs k w : List Int32} (h : c_run A B C (s :: cs) k = some w) : ∃ k', c_st A B C s k = some k' ∧ c_run A B C cs k' = some w := by
  unfold c_run at h
  split at h
  · rename_i k' e; exact ⟨k', e, h⟩
  · cases h
/-- an item of code: a value, '!', or an operator -/
def c_ok (s : Int32) : Prop := -3 ≤ s ∨ s = -33 ∨ c_isop (-s)
/-- the stack k (its top first) lies in the row σ -/
def c_in (σ : Nat → Int32) (k : List Int32) : Prop := ∀ j, j < k.length → σ j = k.getD (k.length - 1 - j) 0
theorem c_in_push {σ : Nat → Int32} {k : List Int32} (h : c_in σ k) (v : Int32) : c_in (upd σ k.length v) (v :: k) := by
  intro j hj
  by_cases e : j = k.length
  · subst e
    have : (v :: k).length - 1 - k.length = 0 := by simp
    rw [this]
    simp [upd]
  · have hj2 : j < k.length := by simp at hj; omega
    have : (v :: k).length - 1 - j = (k.length - 1 - j) + 1 := by simp; omega
    rw [this, List.getD_cons_succ, ← h j hj2]
    simp [upd, e]
theorem c_in_tail {σ : Nat → Int32} {a : Int32} {t : List Int32} (h : c_in σ (a :: t)) : c_in σ t ∧ σ t.length = a := by
  refine ⟨fun j hj => ?_, ?_⟩
  · have := h j (by simp; omega)
    have e : (a :: t).length - 1 - j = (t.length - 1 - j) + 1 := by simp; omega
    rw [e, List.getD_cons_succ] at this
    exact this
  · have := h t.length (by simp)
    have e : (a :: t).length - 1 - t.length = 0 := by simp
    rw [e] at this
    simpa using this
theorem ge_up17 (g : ge_G) (σ : Nat → Int32) (p k : Nat) (v : Int32) : ge_up (ge_row g p σ) p k v = ge_row g p (upd σ k v) := by
  unfold ge_up
  rw [ge_row_self]
  funext q
  by_cases h : q = p <;> simp [ge_row, h]
/-- the code of use u, as the class's rows hold it -/
def c_code (g : ge_G) (p n : Nat) : List Int32 := (List.range n).map (g p)
theorem c_code_at (g : ge_G) (p : Nat) {n i : Nat} (h : i < n) : (c_code g p n).drop i = g p i :: (c_code g p n).drop (i + 1) := by
  have hl : i < (c_code g p n).length := by simp [c_code, h]
  rw [List.drop_eq_getElem_cons hl]
  simp [c_code]
def c_most (u : Nat) : Int32 := if u = 0 then 99 else 1
/-- the tests of top that the class makes: a stack of n has its top at n - 1 -/
theorem c_top_lt {n : Nat} (h : n ≤ 49) : ¬ (49 : Int32) ≤ nI n - 1 := by
  cases n with
  | zero => decide
  | succ m => rw [nI_pred, kl_49]; exact fun z => absurd ((nI_leI (by omega) (by omega)).mp z) (by omega)
theorem c_top_0 {n : Nat} (h : n ≤ 49) : ¬ nI (n + 1) - 1 < 0 := by
  rw [nI_pred]; exact Int32.not_lt.mpr ((nI_leI (a := 0) (by omega) (by omega)).mpr (by omega))
theorem c_top_1 {n : Nat} (h : n ≤ 48) : ¬ nI (n + 1 + 1) - 1 ≤ 0 := by
  rw [nI_pred]; exact fun z => absurd ((nI_leI (b := 0) (by omega) (by omega)).mp z) (by omega)
set_option maxHeartbeats 1000000 in
theorem x_worth0 {A B C v : Int32} {n : Nat} (hn : n ≤ 50) (hsz : g 13 1 = nI n) (hok : ∀ i, i < n → c_ok (g 14 i)) (hrun : c_run A B C (c_code g 14 n) [] = some [v]) : ge_M X ge_SH YX4_worth 1 [.ref (ge_ad X.1 11), .int 0, .int A, .int B, .int C] g (fun v2 g2 => v2 = some (.int (p_max 0 (p_min 99 v))) ∧ ∃ σ, g2 = ge_row g 17 σ) := by
  refine ge_ofA (l := [(0, .ref (ge_ad X.1 11)), (1, .int 0), (2, .int A), (3, .int B), (4, .int C)]) (by decide) (Nat.le_of_ble_eq_true rfl) rfl ?_
  have key : ∀ (m i : Nat) (k : List Int32) (σ : Nat → Int32), m = n - i → i ≤ n → k.length ≤ i → c_in σ k → c_run A B C ((c_code g 14 n).drop i) k = some [v] → ge_A X ge_SH YX4_worth 1 (fun v2 g2 => v2 = some (.int (p_max 0 (p_min 99 v))) ∧ ∃ σ, g2 = ge_row g 17 σ) 14 [(7, .int (nI i)), (6, .int (nI k.length - 1)), (5, .ref (ge_ad X.1 13)), (0, .ref (ge_ad X.1 11)), (1, .int 0), (2, .int A), (3, .int B), (4, .int C)] [] (ge_row g 17 σ) := by
    intro m
    induction m using Nat.strongRecOn with
    | ind m ih =>
      intro i k σ hm hi hk hin hr
      refine ge_iload (pc := 14) dX4_worth_14 rfl ?_
      refine ge_aload (pc := 16) dX4_worth_16 rfl ?_
      refine ge_geti (pc := 18) dX4_worth_18 fl_X4_31_7 sh_13 rfl ?_
      rw [show ge_row g 17 σ 13 1 = nI n from hsz]
      refine ge_ic_ge (pc := 21) 174 dX4_worth_21 (by decide) (fun h_21 => ?_) (fun h_21 => ?_)
      · have hiV : i = n := by have := (nI_leI (by omega) (by omega)).mp h_21; omega
        subst hiV
        rw [List.drop_of_length_le (by simp [c_code])] at hr
        obtain rfl : k = [v] := by unfold c_run at hr; exact Option.some.inj hr
        have hv0 : σ 0 = v := (c_in_tail hin).2
        refine ge_iconst (pc := 174) dX4_worth_174 kc_0 ?_
        refine ge_iload_n (pc := 175) dX4_worth_175 rfl ?_
        refine ge_if_ne (pc := 176) 184 dX4_worth_176 (by decide) (fun h_176 => ?_) (fun h_176 => ?_)
        · exact absurd h_176 (by decide)
        · refine ge_bipush (pc := 179) dX4_worth_179 kb_99 ?_
          refine ge_goto (pc := 181) 185 dX4_worth_181 (by decide) ?_
          refine ge_aload_n (pc := 185) dX4_worth_185 rfl ?_
          refine ge_getr (pc := 186) dX4_worth_186 fl_X4_23_4 sh_11 rfl ?_
          refine ge_iconst (pc := 189) dX4_worth_189 kc_0 ?_
          refine ge_ald (pc := 190) dX4_worth_190 sh_17 kl_0 (by first | decide | omega) (by decide) ?_
          rw [show ge_row g 17 σ 17 0 = v from hv0]
          refine ge_rS2i (pc := 191) dX4_worth_191 cs_X4_42 (x_min _ _) ⟨by decide, by decide⟩ (Nat.le_of_ble_eq_true rfl) ?_
          refine ge_rS2i (pc := 194) dX4_worth_194 cs_X4_48 (x_max _ _) ⟨by decide, by decide⟩ (Nat.le_of_ble_eq_true rfl) ?_
          exact ge_iret (pc := 197) rfl dX4_worth_197 ⟨rfl, σ, rfl⟩
      · have hlt : i < n := Nat.lt_of_not_le fun z => h_21 ((nI_leI (by omega) (by omega)).mpr z)
        refine ge_aload (pc := 24) dX4_worth_24 rfl ?_
        refine ge_getr (pc := 26) dX4_worth_26 fl_X4_35_7 sh_13 rfl ?_
        refine ge_iload (pc := 29) dX4_worth_29 rfl ?_
        refine ge_ald (pc := 31) dX4_worth_31 sh_14 (by first | assumption | rfl) (by first | decide | omega) (by decide) ?_
        rw [show ge_row g 17 σ 14 i = g 14 i from rfl]
        refine ge_istore (pc := 32) (l' := [(8, _), (7, _), (6, _), (5, _), (0, _), (1, _), (2, _), (3, _), (4, _)]) dX4_worth_32 (by decide) rfl ?_
        obtain ⟨s, hs⟩ : ∃ s, s = g 14 i := ⟨_, rfl⟩
        rw [← hs]
        rw [c_code_at g 14 hlt, ← hs] at hr
        obtain ⟨k2, hst, hr2⟩ := c_run_cons hr
        rcases c_st_cases hst with ⟨h3, rfl⟩ | ⟨h3, h33, a, t, rfl, rfl⟩ | ⟨h3, h33, b, a, t, rfl, rfl⟩
        · refine ge_iload (pc := 34) dX4_worth_34 rfl ?_
          refine ge_bipush (pc := 36) dX4_worth_36 kb_m3 ?_
          refine ge_ic_lt (pc := 38) 94 dX4_worth_38 (by decide) (fun h_38 => ?_) (fun h_38 => ?_)
          · exact absurd h3 (Int32.not_le.mpr h_38)
          · refine ge_iload (pc := 41) dX4_worth_41 rfl ?_
            refine ge_bipush (pc := 43) dX4_worth_43 kb_49 ?_
            refine ge_ic_ge (pc := 45) 94 dX4_worth_45 (by decide) (fun h_45 => ?_) (fun h_45 => ?_)
            · exact absurd h_45 (c_top_lt (n := k.length) (by omega))
            · refine ge_iinc (pc := 48) (l' := [(6, _), (8, _), (7, _), (5, _), (0, _), (1, _), (2, _), (3, _), (4, _)]) dX4_worth_48 rfl (show nI k.length - 1 + Int32.ofInt 1 = nI (k.length + 1) - 1 by rw [kc_1, Int32.sub_add_cancel, nI_pred]) (by decide) rfl ?_
              refine ge_aload_n (pc := 51) dX4_worth_51 rfl ?_
              refine ge_getr (pc := 52) dX4_worth_52 fl_X4_23_4 sh_11 rfl ?_
              refine ge_iload (pc := 55) dX4_worth_55 rfl ?_
              refine ge_iload (pc := 57) dX4_worth_57 rfl ?_
              refine ge_cutz (J := 90) (c_val A B C s) ?_ (fun J_90 => ?_)
              · refine ge_ast (pc := 90) dX4_worth_90 sh_17 (nI_pred k.length) (by omega) (by decide) ?_
                rw [ge_up17]
                refine ge_goto (pc := 91) 168 dX4_worth_91 (by decide) ?_
                refine ge_iinc (pc := 168) (l' := [(7, _), (6, _), (8, _), (5, _), (0, _), (1, _), (2, _), (3, _), (4, _)]) dX4_worth_168 rfl (ge_inc1 i) (by decide) rfl ?_
                refine ge_goto (pc := 171) 14 dX4_worth_171 (by decide) ?_
                refine ge_sub [0, 1, 3, 4, 5, 6, 7, 8] rfl ?_
                exact ih (n - (i + 1)) (by omega) (i + 1) (c_val A B C s :: k) _ rfl (by omega) (by simp; omega) (c_in_push hin _) hr2
              · refine ge_if_lt (pc := 59) 67 dX4_worth_59 (by decide) (fun h_59 => ?_) (fun h_59 => ?_)
                · refine ge_iload (pc := 67) dX4_worth_67 rfl ?_
                  refine ge_iconst (pc := 69) dX4_worth_69 kc_m1 ?_
                  refine ge_ic_ne (pc := 70) 77 dX4_worth_70 (by decide) (fun h_70 => ?_) (fun h_70 => ?_)
                  · refine ge_iload (pc := 77) dX4_worth_77 rfl ?_
                    refine ge_bipush (pc := 79) dX4_worth_79 kb_m2 ?_
                    refine ge_ic_ne (pc := 81) 88 dX4_worth_81 (by decide) (fun h_81 => ?_) (fun h_81 => ?_)
                    · refine ge_iload (pc := 88) dX4_worth_88 rfl ?_
                      (refine ge_tov ?_ J_90; unfold c_val; first | rw [if_neg h_59] | (rw [if_pos h_59]; first | rw [if_pos h_70] | (rw [if_neg h_70]; first | rw [if_pos h_81] | rw [if_neg h_81])))
                    · refine ge_iload_n (pc := 84) dX4_worth_84 rfl ?_
                      refine ge_goto (pc := 85) 90 dX4_worth_85 (by decide) ?_
                      (refine ge_tov ?_ J_90; unfold c_val; first | rw [if_neg h_59] | (rw [if_pos h_59]; first | rw [if_pos h_70] | (rw [if_neg h_70]; first | rw [if_pos h_81] | rw [if_neg h_81])))
                  · refine ge_iload_n (pc := 73) dX4_worth_73 rfl ?_
                    refine ge_goto (pc := 74) 90 dX4_worth_74 (by decide) ?_
                    (refine ge_tov ?_ J_90; unfold c_val; first | rw [if_neg h_59] | (rw [if_pos h_59]; first | rw [if_pos h_70] | (rw [if_neg h_70]; first | rw [if_pos h_81] | rw [if_neg h_81])))
                · refine ge_iload (pc := 62) dX4_worth_62 rfl ?_
                  refine ge_goto (pc := 64) 90 dX4_worth_64 (by decide) ?_
                  (refine ge_tov ?_ J_90; unfold c_val; first | rw [if_neg h_59] | (rw [if_pos h_59]; first | rw [if_pos h_70] | (rw [if_neg h_70]; first | rw [if_pos h_81] | rw [if_neg h_81])))
        · obtain ⟨hin1, hin2⟩ := c_in_tail hin
          refine ge_iload (pc := 34) dX4_worth_34 rfl ?_
          refine ge_bipush (pc := 36) dX4_worth_36 kb_m3 ?_
          refine ge_ic_lt (pc := 38) 94 dX4_worth_38 (by decide) (fun h_38 => ?_) (fun h_38 => ?_)
          · refine ge_iload (pc := 94) dX4_worth_94 rfl ?_
            refine ge_bipush (pc := 96) dX4_worth_96 kb_m33 ?_
            refine ge_ic_ne (pc := 98) 131 dX4_worth_98 (by decide) (fun h_98 => ?_) (fun h_98 => ?_)
            · exact absurd h33 h_98
            · refine ge_iload (pc := 101) dX4_worth_101 rfl ?_
              refine ge_if_lt (pc := 103) 131 dX4_worth_103 (by decide) (fun h_103 => ?_) (fun h_103 => ?_)
              · exact absurd h_103 (c_top_0 (n := t.length) (by simp at hk; omega))
              · refine ge_aload_n (pc := 106) dX4_worth_106 rfl ?_
                refine ge_getr (pc := 107) dX4_worth_107 fl_X4_23_4 sh_11 rfl ?_
                refine ge_iload (pc := 110) dX4_worth_110 rfl ?_
                refine ge_aload_n (pc := 112) dX4_worth_112 rfl ?_
                refine ge_getr (pc := 113) dX4_worth_113 fl_X4_23_4 sh_11 rfl ?_
                refine ge_iload (pc := 116) dX4_worth_116 rfl ?_
                refine ge_ald (pc := 118) dX4_worth_118 sh_17 (nI_pred t.length) (by simp at hk; omega) (by decide) ?_
                rw [ge_row_self, hin2]
                refine ge_cutz (J := 127) ((if a = 0 then 1 else 0)) ?_ (fun J_127 => ?_)
                · refine ge_ast (pc := 127) dX4_worth_127 sh_17 (nI_pred t.length) (by simp at hk; omega) (by decide) ?_
                  rw [ge_up17]
                  refine ge_goto (pc := 128) 168 dX4_worth_128 (by decide) ?_
                  refine ge_iinc (pc := 168) (l' := [(7, _), (8, _), (6, _), (5, _), (0, _), (1, _), (2, _), (3, _), (4, _)]) dX4_worth_168 rfl (ge_inc1 i) (by decide) rfl ?_
                  refine ge_goto (pc := 171) 14 dX4_worth_171 (by decide) ?_
                  refine ge_sub [0, 2, 3, 4, 5, 6, 7, 8] rfl ?_
                  exact ih (n - (i + 1)) (by omega) (i + 1) ((if a = 0 then 1 else 0) :: t) _ rfl (by omega) (by simp at hk ⊢; omega) (c_in_push hin1 _) hr2
                · refine ge_if_ne (pc := 119) 126 dX4_worth_119 (by decide) (fun h_119 => ?_) (fun h_119 => ?_)
                  · refine ge_iconst (pc := 126) dX4_worth_126 kc_0 ?_
                    (refine ge_tov ?_ J_127; first | rw [if_pos h_119] | rw [if_neg h_119])
                  · refine ge_iconst (pc := 122) dX4_worth_122 kc_1 ?_
                    refine ge_goto (pc := 123) 127 dX4_worth_123 (by decide) ?_
                    (refine ge_tov ?_ J_127; first | rw [if_pos h_119] | rw [if_neg h_119])
          · exact absurd (Int32.not_lt.mp h_38) h3
        · obtain ⟨hin1, hin2⟩ := c_in_tail hin
          obtain ⟨hin3, hin4⟩ := c_in_tail hin1
          have hop : c_isop (-s) := by rcases hok i hlt with q | q | q; exact absurd (hs ▸ q) h3; exact absurd (hs.trans q) h33; exact hs ▸ q
          refine ge_iload (pc := 34) dX4_worth_34 rfl ?_
          refine ge_bipush (pc := 36) dX4_worth_36 kb_m3 ?_
          refine ge_ic_lt (pc := 38) 94 dX4_worth_38 (by decide) (fun h_38 => ?_) (fun h_38 => ?_)
          · refine ge_iload (pc := 94) dX4_worth_94 rfl ?_
            refine ge_bipush (pc := 96) dX4_worth_96 kb_m33 ?_
            refine ge_ic_ne (pc := 98) 131 dX4_worth_98 (by decide) (fun h_98 => ?_) (fun h_98 => ?_)
            · refine ge_iload (pc := 131) dX4_worth_131 rfl ?_
              refine ge_if_le (pc := 133) 168 dX4_worth_133 (by decide) (fun h_133 => ?_) (fun h_133 => ?_)
              · exact absurd h_133 (c_top_1 (n := t.length) (by simp at hk; omega))
              · refine ge_iinc (pc := 136) (l' := [(6, _), (8, _), (7, _), (5, _), (0, _), (1, _), (2, _), (3, _), (4, _)]) dX4_worth_136 rfl (show nI (t.length + 1 + 1) - 1 + Int32.ofInt (-1) = nI (t.length + 1) - 1 by rw [nI_pred, kc_m1, pk_m1, nI_pred]) (by decide) rfl ?_
                refine ge_aload_n (pc := 139) dX4_worth_139 rfl ?_
                refine ge_getr (pc := 140) dX4_worth_140 fl_X4_23_4 sh_11 rfl ?_
                refine ge_iload (pc := 143) dX4_worth_143 rfl ?_
                refine ge_iload (pc := 145) dX4_worth_145 rfl ?_
                refine ge_ineg (pc := 147) dX4_worth_147 ?_
                refine ge_aload_n (pc := 148) dX4_worth_148 rfl ?_
                refine ge_getr (pc := 149) dX4_worth_149 fl_X4_23_4 sh_11 rfl ?_
                refine ge_iload (pc := 152) dX4_worth_152 rfl ?_
                refine ge_ald (pc := 154) dX4_worth_154 sh_17 (nI_pred t.length) (by simp at hk; omega) (by decide) ?_
                rw [ge_row_self, hin4]
                refine ge_aload_n (pc := 155) dX4_worth_155 rfl ?_
                refine ge_getr (pc := 156) dX4_worth_156 fl_X4_23_4 sh_11 rfl ?_
                refine ge_iload (pc := 159) dX4_worth_159 rfl ?_
                refine ge_iconst (pc := 161) dX4_worth_161 kc_1 ?_
                refine ge_iadd (pc := 162) dX4_worth_162 ?_
                refine ge_ald (pc := 163) dX4_worth_163 sh_17 (ge_nadd (nI_pred t.length) kl_1) (by simp at hk; omega) (by decide) ?_
                rw [ge_row_self, show σ (t.length + 1) = b from hin2]
                refine ge_rS3i (pc := 164) dX4_worth_164 cs_X4_38 (x_join hop) ⟨by decide, by decide⟩ (Nat.le_of_ble_eq_true rfl) ?_
                refine ge_ast (pc := 167) dX4_worth_167 sh_17 (nI_pred t.length) (by simp at hk; omega) (by decide) ?_
                rw [ge_up17]
                refine ge_iinc (pc := 168) (l' := [(7, _), (6, _), (8, _), (5, _), (0, _), (1, _), (2, _), (3, _), (4, _)]) dX4_worth_168 rfl (ge_inc1 i) (by decide) rfl ?_
                refine ge_goto (pc := 171) 14 dX4_worth_171 (by decide) ?_
                refine ge_sub [0, 1, 3, 4, 5, 6, 7, 8] rfl ?_
                exact ih (n - (i + 1)) (by omega) (i + 1) (c_op (-s) a b :: t) _ rfl (by omega) (by simp at hk ⊢; omega) (c_in_push hin3 _) hr2
            · exact absurd h_98 h33
          · exact absurd (Int32.not_lt.mp h_38) h3
  refine ge_aload_n (pc := 0) dX4_worth_0 rfl ?_
  refine ge_getr (pc := 1) dX4_worth_1 fl_X4_11_4 sh_11 rfl ?_
  refine ge_iload_n (pc := 4) dX4_worth_4 rfl ?_
  refine ge_aald (pc := 5) dX4_worth_5 sh_12 rfl kl_0 rfl (by decide) ?_
  refine ge_astore (pc := 6) (l' := [(5, _), (0, _), (1, _), (2, _), (3, _), (4, _)]) dX4_worth_6 (by decide) rfl ?_
  refine ge_iconst (pc := 8) dX4_worth_8 kc_m1 ?_
  refine ge_istore (pc := 9) (l' := [(6, _), (5, _), (0, _), (1, _), (2, _), (3, _), (4, _)]) dX4_worth_9 (by decide) rfl ?_
  refine ge_iconst (pc := 11) dX4_worth_11 kc_0 ?_
  refine ge_istore (pc := 12) (l' := [(7, _), (6, _), (5, _), (0, _), (1, _), (2, _), (3, _), (4, _)]) dX4_worth_12 (by decide) rfl ?_
  refine ge_tog (g := ge_row g 17 (g 17)) (by funext q; by_cases h : q = 17 <;> simp [ge_row, h]) ?_
  exact key n 0 [] (g 17) rfl (Nat.zero_le _) (Nat.le_refl _) (fun j hj => absurd hj (Nat.not_lt_zero _)) hrun
set_option maxHeartbeats 1000000 in
theorem x_worth1 {A B C v : Int32} {n : Nat} (hn : n ≤ 50) (hsz : g 15 1 = nI n) (hok : ∀ i, i < n → c_ok (g 16 i)) (hrun : c_run A B C (c_code g 16 n) [] = some [v]) : ge_M X ge_SH YX4_worth 1 [.ref (ge_ad X.1 11), .int 1, .int A, .int B, .int C] g (fun v2 g2 => v2 = some (.int (p_max 0 (p_min 1 v))) ∧ ∃ σ, g2 = ge_row g 17 σ) := by
  refine ge_ofA (l := [(0, .ref (ge_ad X.1 11)), (1, .int 1), (2, .int A), (3, .int B), (4, .int C)]) (by decide) (Nat.le_of_ble_eq_true rfl) rfl ?_
  have key : ∀ (m i : Nat) (k : List Int32) (σ : Nat → Int32), m = n - i → i ≤ n → k.length ≤ i → c_in σ k → c_run A B C ((c_code g 16 n).drop i) k = some [v] → ge_A X ge_SH YX4_worth 1 (fun v2 g2 => v2 = some (.int (p_max 0 (p_min 1 v))) ∧ ∃ σ, g2 = ge_row g 17 σ) 14 [(7, .int (nI i)), (6, .int (nI k.length - 1)), (5, .ref (ge_ad X.1 15)), (0, .ref (ge_ad X.1 11)), (1, .int 1), (2, .int A), (3, .int B), (4, .int C)] [] (ge_row g 17 σ) := by
    intro m
    induction m using Nat.strongRecOn with
    | ind m ih =>
      intro i k σ hm hi hk hin hr
      refine ge_iload (pc := 14) dX4_worth_14 rfl ?_
      refine ge_aload (pc := 16) dX4_worth_16 rfl ?_
      refine ge_geti (pc := 18) dX4_worth_18 fl_X4_31_7 sh_15 rfl ?_
      rw [show ge_row g 17 σ 15 1 = nI n from hsz]
      refine ge_ic_ge (pc := 21) 174 dX4_worth_21 (by decide) (fun h_21 => ?_) (fun h_21 => ?_)
      · have hiV : i = n := by have := (nI_leI (by omega) (by omega)).mp h_21; omega
        subst hiV
        rw [List.drop_of_length_le (by simp [c_code])] at hr
        obtain rfl : k = [v] := by unfold c_run at hr; exact Option.some.inj hr
        have hv0 : σ 0 = v := (c_in_tail hin).2
        refine ge_iconst (pc := 174) dX4_worth_174 kc_0 ?_
        refine ge_iload_n (pc := 175) dX4_worth_175 rfl ?_
        refine ge_if_ne (pc := 176) 184 dX4_worth_176 (by decide) (fun h_176 => ?_) (fun h_176 => ?_)
        · refine ge_iconst (pc := 184) dX4_worth_184 kc_1 ?_
          refine ge_aload_n (pc := 185) dX4_worth_185 rfl ?_
          refine ge_getr (pc := 186) dX4_worth_186 fl_X4_23_4 sh_11 rfl ?_
          refine ge_iconst (pc := 189) dX4_worth_189 kc_0 ?_
          refine ge_ald (pc := 190) dX4_worth_190 sh_17 kl_0 (by first | decide | omega) (by decide) ?_
          rw [show ge_row g 17 σ 17 0 = v from hv0]
          refine ge_rS2i (pc := 191) dX4_worth_191 cs_X4_42 (x_min _ _) ⟨by decide, by decide⟩ (Nat.le_of_ble_eq_true rfl) ?_
          refine ge_rS2i (pc := 194) dX4_worth_194 cs_X4_48 (x_max _ _) ⟨by decide, by decide⟩ (Nat.le_of_ble_eq_true rfl) ?_
          exact ge_iret (pc := 197) rfl dX4_worth_197 ⟨rfl, σ, rfl⟩
        · exact absurd h_176 (by decide)
      · have hlt : i < n := Nat.lt_of_not_le fun z => h_21 ((nI_leI (by omega) (by omega)).mpr z)
        refine ge_aload (pc := 24) dX4_worth_24 rfl ?_
        refine ge_getr (pc := 26) dX4_worth_26 fl_X4_35_7 sh_15 rfl ?_
        refine ge_iload (pc := 29) dX4_worth_29 rfl ?_
        refine ge_ald (pc := 31) dX4_worth_31 sh_16 (by first | assumption | rfl) (by first | decide | omega) (by decide) ?_
        rw [show ge_row g 17 σ 16 i = g 16 i from rfl]
        refine ge_istore (pc := 32) (l' := [(8, _), (7, _), (6, _), (5, _), (0, _), (1, _), (2, _), (3, _), (4, _)]) dX4_worth_32 (by decide) rfl ?_
        obtain ⟨s, hs⟩ : ∃ s, s = g 16 i := ⟨_, rfl⟩
        rw [← hs]
        rw [c_code_at g 16 hlt, ← hs] at hr
        obtain ⟨k2, hst, hr2⟩ := c_run_cons hr
        rcases c_st_cases hst with ⟨h3, rfl⟩ | ⟨h3, h33, a, t, rfl, rfl⟩ | ⟨h3, h33, b, a, t, rfl, rfl⟩
        · refine ge_iload (pc := 34) dX4_worth_34 rfl ?_
          refine ge_bipush (pc := 36) dX4_worth_36 kb_m3 ?_
          refine ge_ic_lt (pc := 38) 94 dX4_worth_38 (by decide) (fun h_38 => ?_) (fun h_38 => ?_)
          · exact absurd h3 (Int32.not_le.mpr h_38)
          · refine ge_iload (pc := 41) dX4_worth_41 rfl ?_
            refine ge_bipush (pc := 43) dX4_worth_43 kb_49 ?_
            refine ge_ic_ge (pc := 45) 94 dX4_worth_45 (by decide) (fun h_45 => ?_) (fun h_45 => ?_)
            · exact absurd h_45 (c_top_lt (n := k.length) (by omega))
            · refine ge_iinc (pc := 48) (l' := [(6, _), (8, _), (7, _), (5, _), (0, _), (1, _), (2, _), (3, _), (4, _)]) dX4_worth_48 rfl (show nI k.length - 1 + Int32.ofInt 1 = nI (k.length + 1) - 1 by rw [kc_1, Int32.sub_add_cancel, nI_pred]) (by decide) rfl ?_
              refine ge_aload_n (pc := 51) dX4_worth_51 rfl ?_
              refine ge_getr (pc := 52) dX4_worth_52 fl_X4_23_4 sh_11 rfl ?_
              refine ge_iload (pc := 55) dX4_worth_55 rfl ?_
              refine ge_iload (pc := 57) dX4_worth_57 rfl ?_
              refine ge_cutz (J := 90) (c_val A B C s) ?_ (fun J_90 => ?_)
              · refine ge_ast (pc := 90) dX4_worth_90 sh_17 (nI_pred k.length) (by omega) (by decide) ?_
                rw [ge_up17]
                refine ge_goto (pc := 91) 168 dX4_worth_91 (by decide) ?_
                refine ge_iinc (pc := 168) (l' := [(7, _), (6, _), (8, _), (5, _), (0, _), (1, _), (2, _), (3, _), (4, _)]) dX4_worth_168 rfl (ge_inc1 i) (by decide) rfl ?_
                refine ge_goto (pc := 171) 14 dX4_worth_171 (by decide) ?_
                refine ge_sub [0, 1, 3, 4, 5, 6, 7, 8] rfl ?_
                exact ih (n - (i + 1)) (by omega) (i + 1) (c_val A B C s :: k) _ rfl (by omega) (by simp; omega) (c_in_push hin _) hr2
              · refine ge_if_lt (pc := 59) 67 dX4_worth_59 (by decide) (fun h_59 => ?_) (fun h_59 => ?_)
                · refine ge_iload (pc := 67) dX4_worth_67 rfl ?_
                  refine ge_iconst (pc := 69) dX4_worth_69 kc_m1 ?_
                  refine ge_ic_ne (pc := 70) 77 dX4_worth_70 (by decide) (fun h_70 => ?_) (fun h_70 => ?_)
                  · refine ge_iload (pc := 77) dX4_worth_77 rfl ?_
                    refine ge_bipush (pc := 79) dX4_worth_79 kb_m2 ?_
                    refine ge_ic_ne (pc := 81) 88 dX4_worth_81 (by decide) (fun h_81 => ?_) (fun h_81 => ?_)
                    · refine ge_iload (pc := 88) dX4_worth_88 rfl ?_
                      (refine ge_tov ?_ J_90; unfold c_val; first | rw [if_neg h_59] | (rw [if_pos h_59]; first | rw [if_pos h_70] | (rw [if_neg h_70]; first | rw [if_pos h_81] | rw [if_neg h_81])))
                    · refine ge_iload_n (pc := 84) dX4_worth_84 rfl ?_
                      refine ge_goto (pc := 85) 90 dX4_worth_85 (by decide) ?_
                      (refine ge_tov ?_ J_90; unfold c_val; first | rw [if_neg h_59] | (rw [if_pos h_59]; first | rw [if_pos h_70] | (rw [if_neg h_70]; first | rw [if_pos h_81] | rw [if_neg h_81])))
                  · refine ge_iload_n (pc := 73) dX4_worth_73 rfl ?_
                    refine ge_goto (pc := 74) 90 dX4_worth_74 (by decide) ?_
                    (refine ge_tov ?_ J_90; unfold c_val; first | rw [if_neg h_59] | (rw [if_pos h_59]; first | rw [if_pos h_70] | (rw [if_neg h_70]; first | rw [if_pos h_81] | rw [if_neg h_81])))
                · refine ge_iload (pc := 62) dX4_worth_62 rfl ?_
                  refine ge_goto (pc := 64) 90 dX4_worth_64 (by decide) ?_
                  (refine ge_tov ?_ J_90; unfold c_val; first | rw [if_neg h_59] | (rw [if_pos h_59]; first | rw [if_pos h_70] | (rw [if_neg h_70]; first | rw [if_pos h_81] | rw [if_neg h_81])))
        · obtain ⟨hin1, hin2⟩ := c_in_tail hin
          refine ge_iload (pc := 34) dX4_worth_34 rfl ?_
          refine ge_bipush (pc := 36) dX4_worth_36 kb_m3 ?_
          refine ge_ic_lt (pc := 38) 94 dX4_worth_38 (by decide) (fun h_38 => ?_) (fun h_38 => ?_)
          · refine ge_iload (pc := 94) dX4_worth_94 rfl ?_
            refine ge_bipush (pc := 96) dX4_worth_96 kb_m33 ?_
            refine ge_ic_ne (pc := 98) 131 dX4_worth_98 (by decide) (fun h_98 => ?_) (fun h_98 => ?_)
            · exact absurd h33 h_98
            · refine ge_iload (pc := 101) dX4_worth_101 rfl ?_
              refine ge_if_lt (pc := 103) 131 dX4_worth_103 (by decide) (fun h_103 => ?_) (fun h_103 => ?_)
              · exact absurd h_103 (c_top_0 (n := t.length) (by simp at hk; omega))
              · refine ge_aload_n (pc := 106) dX4_worth_106 rfl ?_
                refine ge_getr (pc := 107) dX4_worth_107 fl_X4_23_4 sh_11 rfl ?_
                refine ge_iload (pc := 110) dX4_worth_110 rfl ?_
                refine ge_aload_n (pc := 112) dX4_worth_112 rfl ?_
                refine ge_getr (pc := 113) dX4_worth_113 fl_X4_23_4 sh_11 rfl ?_
                refine ge_iload (pc := 116) dX4_worth_116 rfl ?_
                refine ge_ald (pc := 118) dX4_worth_118 sh_17 (nI_pred t.length) (by simp at hk; omega) (by decide) ?_
                rw [ge_row_self, hin2]
                refine ge_cutz (J := 127) ((if a = 0 then 1 else 0)) ?_ (fun J_127 => ?_)
                · refine ge_ast (pc := 127) dX4_worth_127 sh_17 (nI_pred t.length) (by simp at hk; omega) (by decide) ?_
                  rw [ge_up17]
                  refine ge_goto (pc := 128) 168 dX4_worth_128 (by decide) ?_
                  refine ge_iinc (pc := 168) (l' := [(7, _), (8, _), (6, _), (5, _), (0, _), (1, _), (2, _), (3, _), (4, _)]) dX4_worth_168 rfl (ge_inc1 i) (by decide) rfl ?_
                  refine ge_goto (pc := 171) 14 dX4_worth_171 (by decide) ?_
                  refine ge_sub [0, 2, 3, 4, 5, 6, 7, 8] rfl ?_
                  exact ih (n - (i + 1)) (by omega) (i + 1) ((if a = 0 then 1 else 0) :: t) _ rfl (by omega) (by simp at hk ⊢; omega) (c_in_push hin1 _) hr2
                · refine ge_if_ne (pc := 119) 126 dX4_worth_119 (by decide) (fun h_119 => ?_) (fun h_119 => ?_)
                  · refine ge_iconst (pc := 126) dX4_worth_126 kc_0 ?_
                    (refine ge_tov ?_ J_127; first | rw [if_pos h_119] | rw [if_neg h_119])
                  · refine ge_iconst (pc := 122) dX4_worth_122 kc_1 ?_
                    refine ge_goto (pc := 123) 127 dX4_worth_123 (by decide) ?_
                    (refine ge_tov ?_ J_127; first | rw [if_pos h_119] | rw [if_neg h_119])
          · exact absurd (Int32.not_lt.mp h_38) h3
        · obtain ⟨hin1, hin2⟩ := c_in_tail hin
          obtain ⟨hin3, hin4⟩ := c_in_tail hin1
          have hop : c_isop (-s) := by rcases hok i hlt with q | q | q; exact absurd (hs ▸ q) h3; exact absurd (hs.trans q) h33; exact hs ▸ q
          refine ge_iload (pc := 34) dX4_worth_34 rfl ?_
          refine ge_bipush (pc := 36) dX4_worth_36 kb_m3 ?_
          refine ge_ic_lt (pc := 38) 94 dX4_worth_38 (by decide) (fun h_38 => ?_) (fun h_38 => ?_)
          · refine ge_iload (pc := 94) dX4_worth_94 rfl ?_
            refine ge_bipush (pc := 96) dX4_worth_96 kb_m33 ?_
            refine ge_ic_ne (pc := 98) 131 dX4_worth_98 (by decide) (fun h_98 => ?_) (fun h_98 => ?_)
            · refine ge_iload (pc := 131) dX4_worth_131 rfl ?_
              refine ge_if_le (pc := 133) 168 dX4_worth_133 (by decide) (fun h_133 => ?_) (fun h_133 => ?_)
              · exact absurd h_133 (c_top_1 (n := t.length) (by simp at hk; omega))
              · refine ge_iinc (pc := 136) (l' := [(6, _), (8, _), (7, _), (5, _), (0, _), (1, _), (2, _), (3, _), (4, _)]) dX4_worth_136 rfl (show nI (t.length + 1 + 1) - 1 + Int32.ofInt (-1) = nI (t.length + 1) - 1 by rw [nI_pred, kc_m1, pk_m1, nI_pred]) (by decide) rfl ?_
                refine ge_aload_n (pc := 139) dX4_worth_139 rfl ?_
                refine ge_getr (pc := 140) dX4_worth_140 fl_X4_23_4 sh_11 rfl ?_
                refine ge_iload (pc := 143) dX4_worth_143 rfl ?_
                refine ge_iload (pc := 145) dX4_worth_145 rfl ?_
                refine ge_ineg (pc := 147) dX4_worth_147 ?_
                refine ge_aload_n (pc := 148) dX4_worth_148 rfl ?_
                refine ge_getr (pc := 149) dX4_worth_149 fl_X4_23_4 sh_11 rfl ?_
                refine ge_iload (pc := 152) dX4_worth_152 rfl ?_
                refine ge_ald (pc := 154) dX4_worth_154 sh_17 (nI_pred t.length) (by simp at hk; omega) (by decide) ?_
                rw [ge_row_self, hin4]
                refine ge_aload_n (pc := 155) dX4_worth_155 rfl ?_
                refine ge_getr (pc := 156) dX4_worth_156 fl_X4_23_4 sh_11 rfl ?_
                refine ge_iload (pc := 159) dX4_worth_159 rfl ?_
                refine ge_iconst (pc := 161) dX4_worth_161 kc_1 ?_
                refine ge_iadd (pc := 162) dX4_worth_162 ?_
                refine ge_ald (pc := 163) dX4_worth_163 sh_17 (ge_nadd (nI_pred t.length) kl_1) (by simp at hk; omega) (by decide) ?_
                rw [ge_row_self, show σ (t.length + 1) = b from hin2]
                refine ge_rS3i (pc := 164) dX4_worth_164 cs_X4_38 (x_join hop) ⟨by decide, by decide⟩ (Nat.le_of_ble_eq_true rfl) ?_
                refine ge_ast (pc := 167) dX4_worth_167 sh_17 (nI_pred t.length) (by simp at hk; omega) (by decide) ?_
                rw [ge_up17]
                refine ge_iinc (pc := 168) (l' := [(7, _), (6, _), (8, _), (5, _), (0, _), (1, _), (2, _), (3, _), (4, _)]) dX4_worth_168 rfl (ge_inc1 i) (by decide) rfl ?_
                refine ge_goto (pc := 171) 14 dX4_worth_171 (by decide) ?_
                refine ge_sub [0, 1, 3, 4, 5, 6, 7, 8] rfl ?_
                exact ih (n - (i + 1)) (by omega) (i + 1) (c_op (-s) a b :: t) _ rfl (by omega) (by simp at hk ⊢; omega) (c_in_push hin3 _) hr2
            · exact absurd h_98 h33
          · exact absurd (Int32.not_lt.mp h_38) h3
  refine ge_aload_n (pc := 0) dX4_worth_0 rfl ?_
  refine ge_getr (pc := 1) dX4_worth_1 fl_X4_11_4 sh_11 rfl ?_
  refine ge_iload_n (pc := 4) dX4_worth_4 rfl ?_
  refine ge_aald (pc := 5) dX4_worth_5 sh_12 rfl kl_1 rfl (by decide) ?_
  refine ge_astore (pc := 6) (l' := [(5, _), (0, _), (1, _), (2, _), (3, _), (4, _)]) dX4_worth_6 (by decide) rfl ?_
  refine ge_iconst (pc := 8) dX4_worth_8 kc_m1 ?_
  refine ge_istore (pc := 9) (l' := [(6, _), (5, _), (0, _), (1, _), (2, _), (3, _), (4, _)]) dX4_worth_9 (by decide) rfl ?_
  refine ge_iconst (pc := 11) dX4_worth_11 kc_0 ?_
  refine ge_istore (pc := 12) (l' := [(7, _), (6, _), (5, _), (0, _), (1, _), (2, _), (3, _), (4, _)]) dX4_worth_12 (by decide) rfl ?_
  refine ge_tog (g := ge_row g 17 (g 17)) (by funext q; by_cases h : q = 17 <;> simp [ge_row, h]) ?_
  exact key n 0 [] (g 17) rfl (Nat.zero_le _) (Nat.le_refl _) (fun j hj => absurd hj (Nat.not_lt_zero _)) hrun
/-- the class's code of use u (row p, its numbers behind it) is worth what L says -/
def c_law (g : ge_G) (p : Nat) (L : Int32 → Int32 → Int32 → Int32) : Prop := ∃ n, n ≤ 50 ∧ g p 1 = nI n ∧ (∀ i, i < n → c_ok (g (p + 1) i)) ∧ ∀ A B C, c_run A B C (c_code g (p + 1) n) [] = some [L A B C]
theorem c_code_q {g1 g : ge_G} (h : ge_q g1 g) {p : Nat} (hp : p ≠ 17 ∧ p ≠ 76) (n : Nat) : c_code g1 p n = c_code g p n := by
  unfold c_code
  apply List.map_congr_left
  intro i _
  exact h p i (by unfold ge_Z; omega)
theorem k_worth0 {A B C : Int32} {L : Int32 → Int32 → Int32 → Int32} (hL : c_law g 13 L) : ge_N X ge_SH YX4_worth 1 [.ref (ge_ad X.1 11), .int 0, .int A, .int B, .int C] g (some (.int (p_max 0 (p_min 99 (L A B C))))) g := by
  obtain ⟨n, hn, hs, ho, hr⟩ := hL
  intro g1 hg
  refine ge_M_mono (fun v2 g2 hq => ?_) (x_worth0 (X := X) (g := g1) hn ((hg 13 1 (by unfold ge_Z; omega)).trans hs) (fun i hi => by rw [hg 14 i (by unfold ge_Z; omega)]; exact ho i hi) (by rw [c_code_q hg (by decide)]; exact hr A B C))
  obtain ⟨rfl, σ, rfl⟩ := hq
  refine ⟨g, fun p k hz => ?_, rfl, rfl⟩
  have : p ≠ 17 := fun z => hz (Or.inr z)
  rw [ge_row_ne _ _ this]
  exact hg p k hz
theorem k_worth1 {A B C : Int32} {L : Int32 → Int32 → Int32 → Int32} (hL : c_law g 15 L) : ge_N X ge_SH YX4_worth 1 [.ref (ge_ad X.1 11), .int 1, .int A, .int B, .int C] g (some (.int (p_max 0 (p_min 1 (L A B C))))) g := by
  obtain ⟨n, hn, hs, ho, hr⟩ := hL
  intro g1 hg
  refine ge_M_mono (fun v2 g2 hq => ?_) (x_worth1 (X := X) (g := g1) hn ((hg 15 1 (by unfold ge_Z; omega)).trans hs) (fun i hi => by rw [hg 16 i (by unfold ge_Z; omega)]; exact ho i hi) (by rw [c_code_q hg (by decide)]; exact hr A B C))
  obtain ⟨rfl, σ, rfl⟩ := hq
  refine ⟨g, fun p k hz => ?_, rfl, rfl⟩
  have : p ≠ 17 := fun z => hz (Or.inr z)
  rw [ge_row_ne _ _ this]
  exact hg p k hz
end L1
