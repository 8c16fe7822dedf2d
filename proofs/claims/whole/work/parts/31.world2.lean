section W2
variable {g : ge_G} {pw : Nat} {r x hb : Nat → Int32}
theorem ge_k_0 (k : Nat) : ge_k g pw r x hb pw k = if k = 11 then r 2 else if k = 12 then r 3 else if k = 13 then r 0 else if k = 14 then r 1 else x k := by simp [ge_k]
theorem ge_k_1 (k : Nat) : ge_k g pw r x hb (pw + 1) k = r (8 + k) := by simp [ge_k]
theorem ge_k_2 (k : Nat) : ge_k g pw r x hb (pw + 2) k = p_e r k 0 := by simp [ge_k]
theorem ge_k_3 (k : Nat) : ge_k g pw r x hb (pw + 3) k = p_e r k 1 := by simp [ge_k]
theorem ge_k_4 (k : Nat) : ge_k g pw r x hb (pw + 4) k = p_e r k 2 := by simp [ge_k]
theorem ge_k_5 (k : Nat) : ge_k g pw r x hb (pw + 5) k = p_e r k 3 := by simp [ge_k]
theorem ge_k_6 (k : Nat) : ge_k g pw r x hb (pw + 6) k = p_o r (k / 2) (k % 2) := by simp [ge_k]
theorem ge_k_7 (k : Nat) : ge_k g pw r x hb (pw + 7) k = p_o r k 2 := by simp [ge_k]
theorem ge_k_8 (k : Nat) : ge_k g pw r x hb (pw + 8) k = p_o r k 3 := by simp [ge_k]
theorem ge_k_9 (k : Nat) : ge_k g pw r x hb (pw + 9) k = hb k := by simp [ge_k]
theorem lo_upd {t : Nat} {v : Int32} (i : Nat) (hi : i < 8) : upd r (8 + t) v i = r i := by simp only [upd]; rw [if_neg (by omega)]
theorem kw_up1 (hp : pw = 25 ∨ pw = 35 ∨ pw = 45) {t : Nat} (ht : t < 10) (v : Int32) : ge_ag ge_SH (ge_up (ge_k g pw r x hb) (pw + 1) t v) (ge_k g pw (upd r (8 + t) v) x hb) := by
  refine ge_k_ag hp ?_ ?_ ?_ ?_ ?_ ?_ ?_ ?_ ?_ ?_ ?_
  · intro k hk; rw [ge_up_row _ _ _ (by omega), ge_k_0, ge_k_0]; rw [lo_upd 0 (by omega), lo_upd 1 (by omega), lo_upd 2 (by omega), lo_upd 3 (by omega)]
  · intro k hk; rw [ge_up_at, ge_k_1]; simp only [p_e, p_o, upd]; (repeat' split) <;> first | rfl | omega
  · intro k hk; rw [ge_up_row _ _ _ (by omega), ge_k_2]; simp only [p_e, p_o, upd]; (repeat' split) <;> first | rfl | omega
  · intro k hk; rw [ge_up_row _ _ _ (by omega), ge_k_3]; simp only [p_e, p_o, upd]; (repeat' split) <;> first | rfl | omega
  · intro k hk; rw [ge_up_row _ _ _ (by omega), ge_k_4]; simp only [p_e, p_o, upd]; (repeat' split) <;> first | rfl | omega
  · intro k hk; rw [ge_up_row _ _ _ (by omega), ge_k_5]; simp only [p_e, p_o, upd]; (repeat' split) <;> first | rfl | omega
  · intro k hk; rw [ge_up_row _ _ _ (by omega), ge_k_6]; simp only [p_e, p_o, upd]; (repeat' split) <;> first | rfl | omega
  · intro k hk; rw [ge_up_row _ _ _ (by omega), ge_k_7]; simp only [p_e, p_o, upd]; (repeat' split) <;> first | rfl | omega
  · intro k hk; rw [ge_up_row _ _ _ (by omega), ge_k_8]; simp only [p_e, p_o, upd]; (repeat' split) <;> first | rfl | omega
  · intro k hk; rw [ge_up_row _ _ _ (by omega), ge_k_9]
  · intro q hq; rw [ge_up_row _ _ _ (by omega)]; exact ge_k_o _ _ _ _ _ hq
theorem kw_up2 (hp : pw = 25 ∨ pw = 35 ∨ pw = 45) {e : Nat} (he : e < 8) (v : Int32) : ge_ag ge_SH (ge_up (ge_k g pw r x hb) (pw + 2) e v) (ge_k g pw (p_ue r e 0 v) x hb) := by
  refine ge_k_ag hp ?_ ?_ ?_ ?_ ?_ ?_ ?_ ?_ ?_ ?_ ?_
  · intro k hk; rw [ge_up_row _ _ _ (by omega), ge_k_0, ge_k_0]; rw [p_lo_ue _ _ _ _ 0 (by omega), p_lo_ue _ _ _ _ 1 (by omega), p_lo_ue _ _ _ _ 2 (by omega), p_lo_ue _ _ _ _ 3 (by omega)]
  · intro k hk; rw [ge_up_row _ _ _ (by omega), ge_k_1]; rw [p_lo_ue _ _ _ _ _ (by omega)]
  · intro k hk; rw [ge_up_at, ge_k_2]; rw [p_e_ue _ _ _ _ _ _ (by omega) (by omega)]; (repeat' split) <;> first | rfl | omega
  · intro k hk; rw [ge_up_row _ _ _ (by omega), ge_k_3]; rw [p_e_ue _ _ _ _ _ _ (by omega) (by omega)]; (repeat' split) <;> first | rfl | omega
  · intro k hk; rw [ge_up_row _ _ _ (by omega), ge_k_4]; rw [p_e_ue _ _ _ _ _ _ (by omega) (by omega)]; (repeat' split) <;> first | rfl | omega
  · intro k hk; rw [ge_up_row _ _ _ (by omega), ge_k_5]; rw [p_e_ue _ _ _ _ _ _ (by omega) (by omega)]; (repeat' split) <;> first | rfl | omega
  · intro k hk; rw [ge_up_row _ _ _ (by omega), ge_k_6]; rw [p_o_ue _ _ _ _ _ _ (by omega) (by omega)]
  · intro k hk; rw [ge_up_row _ _ _ (by omega), ge_k_7]; rw [p_o_ue _ _ _ _ _ _ (by omega) (by omega)]
  · intro k hk; rw [ge_up_row _ _ _ (by omega), ge_k_8]; rw [p_o_ue _ _ _ _ _ _ (by omega) (by omega)]
  · intro k hk; rw [ge_up_row _ _ _ (by omega), ge_k_9]
  · intro q hq; rw [ge_up_row _ _ _ (by omega)]; exact ge_k_o _ _ _ _ _ hq
theorem kw_up3 (hp : pw = 25 ∨ pw = 35 ∨ pw = 45) {e : Nat} (he : e < 8) (v : Int32) : ge_ag ge_SH (ge_up (ge_k g pw r x hb) (pw + 3) e v) (ge_k g pw (p_ue r e 1 v) x hb) := by
  refine ge_k_ag hp ?_ ?_ ?_ ?_ ?_ ?_ ?_ ?_ ?_ ?_ ?_
  · intro k hk; rw [ge_up_row _ _ _ (by omega), ge_k_0, ge_k_0]; rw [p_lo_ue _ _ _ _ 0 (by omega), p_lo_ue _ _ _ _ 1 (by omega), p_lo_ue _ _ _ _ 2 (by omega), p_lo_ue _ _ _ _ 3 (by omega)]
  · intro k hk; rw [ge_up_row _ _ _ (by omega), ge_k_1]; rw [p_lo_ue _ _ _ _ _ (by omega)]
  · intro k hk; rw [ge_up_row _ _ _ (by omega), ge_k_2]; rw [p_e_ue _ _ _ _ _ _ (by omega) (by omega)]; (repeat' split) <;> first | rfl | omega
  · intro k hk; rw [ge_up_at, ge_k_3]; rw [p_e_ue _ _ _ _ _ _ (by omega) (by omega)]; (repeat' split) <;> first | rfl | omega
  · intro k hk; rw [ge_up_row _ _ _ (by omega), ge_k_4]; rw [p_e_ue _ _ _ _ _ _ (by omega) (by omega)]; (repeat' split) <;> first | rfl | omega
  · intro k hk; rw [ge_up_row _ _ _ (by omega), ge_k_5]; rw [p_e_ue _ _ _ _ _ _ (by omega) (by omega)]; (repeat' split) <;> first | rfl | omega
  · intro k hk; rw [ge_up_row _ _ _ (by omega), ge_k_6]; rw [p_o_ue _ _ _ _ _ _ (by omega) (by omega)]
  · intro k hk; rw [ge_up_row _ _ _ (by omega), ge_k_7]; rw [p_o_ue _ _ _ _ _ _ (by omega) (by omega)]
  · intro k hk; rw [ge_up_row _ _ _ (by omega), ge_k_8]; rw [p_o_ue _ _ _ _ _ _ (by omega) (by omega)]
  · intro k hk; rw [ge_up_row _ _ _ (by omega), ge_k_9]
  · intro q hq; rw [ge_up_row _ _ _ (by omega)]; exact ge_k_o _ _ _ _ _ hq
theorem kw_up4 (hp : pw = 25 ∨ pw = 35 ∨ pw = 45) {e : Nat} (he : e < 8) (v : Int32) : ge_ag ge_SH (ge_up (ge_k g pw r x hb) (pw + 4) e v) (ge_k g pw (p_ue r e 2 v) x hb) := by
  refine ge_k_ag hp ?_ ?_ ?_ ?_ ?_ ?_ ?_ ?_ ?_ ?_ ?_
  · intro k hk; rw [ge_up_row _ _ _ (by omega), ge_k_0, ge_k_0]; rw [p_lo_ue _ _ _ _ 0 (by omega), p_lo_ue _ _ _ _ 1 (by omega), p_lo_ue _ _ _ _ 2 (by omega), p_lo_ue _ _ _ _ 3 (by omega)]
  · intro k hk; rw [ge_up_row _ _ _ (by omega), ge_k_1]; rw [p_lo_ue _ _ _ _ _ (by omega)]
  · intro k hk; rw [ge_up_row _ _ _ (by omega), ge_k_2]; rw [p_e_ue _ _ _ _ _ _ (by omega) (by omega)]; (repeat' split) <;> first | rfl | omega
  · intro k hk; rw [ge_up_row _ _ _ (by omega), ge_k_3]; rw [p_e_ue _ _ _ _ _ _ (by omega) (by omega)]; (repeat' split) <;> first | rfl | omega
  · intro k hk; rw [ge_up_at, ge_k_4]; rw [p_e_ue _ _ _ _ _ _ (by omega) (by omega)]; (repeat' split) <;> first | rfl | omega
  · intro k hk; rw [ge_up_row _ _ _ (by omega), ge_k_5]; rw [p_e_ue _ _ _ _ _ _ (by omega) (by omega)]; (repeat' split) <;> first | rfl | omega
  · intro k hk; rw [ge_up_row _ _ _ (by omega), ge_k_6]; rw [p_o_ue _ _ _ _ _ _ (by omega) (by omega)]
  · intro k hk; rw [ge_up_row _ _ _ (by omega), ge_k_7]; rw [p_o_ue _ _ _ _ _ _ (by omega) (by omega)]
  · intro k hk; rw [ge_up_row _ _ _ (by omega), ge_k_8]; rw [p_o_ue _ _ _ _ _ _ (by omega) (by omega)]
  · intro k hk; rw [ge_up_row _ _ _ (by omega), ge_k_9]
  · intro q hq; rw [ge_up_row _ _ _ (by omega)]; exact ge_k_o _ _ _ _ _ hq
theorem kw_up5 (hp : pw = 25 ∨ pw = 35 ∨ pw = 45) {e : Nat} (he : e < 8) (v : Int32) : ge_ag ge_SH (ge_up (ge_k g pw r x hb) (pw + 5) e v) (ge_k g pw (p_ue r e 3 v) x hb) := by
  refine ge_k_ag hp ?_ ?_ ?_ ?_ ?_ ?_ ?_ ?_ ?_ ?_ ?_
  · intro k hk; rw [ge_up_row _ _ _ (by omega), ge_k_0, ge_k_0]; rw [p_lo_ue _ _ _ _ 0 (by omega), p_lo_ue _ _ _ _ 1 (by omega), p_lo_ue _ _ _ _ 2 (by omega), p_lo_ue _ _ _ _ 3 (by omega)]
  · intro k hk; rw [ge_up_row _ _ _ (by omega), ge_k_1]; rw [p_lo_ue _ _ _ _ _ (by omega)]
  · intro k hk; rw [ge_up_row _ _ _ (by omega), ge_k_2]; rw [p_e_ue _ _ _ _ _ _ (by omega) (by omega)]; (repeat' split) <;> first | rfl | omega
  · intro k hk; rw [ge_up_row _ _ _ (by omega), ge_k_3]; rw [p_e_ue _ _ _ _ _ _ (by omega) (by omega)]; (repeat' split) <;> first | rfl | omega
  · intro k hk; rw [ge_up_row _ _ _ (by omega), ge_k_4]; rw [p_e_ue _ _ _ _ _ _ (by omega) (by omega)]; (repeat' split) <;> first | rfl | omega
  · intro k hk; rw [ge_up_at, ge_k_5]; rw [p_e_ue _ _ _ _ _ _ (by omega) (by omega)]; (repeat' split) <;> first | rfl | omega
  · intro k hk; rw [ge_up_row _ _ _ (by omega), ge_k_6]; rw [p_o_ue _ _ _ _ _ _ (by omega) (by omega)]
  · intro k hk; rw [ge_up_row _ _ _ (by omega), ge_k_7]; rw [p_o_ue _ _ _ _ _ _ (by omega) (by omega)]
  · intro k hk; rw [ge_up_row _ _ _ (by omega), ge_k_8]; rw [p_o_ue _ _ _ _ _ _ (by omega) (by omega)]
  · intro k hk; rw [ge_up_row _ _ _ (by omega), ge_k_9]
  · intro q hq; rw [ge_up_row _ _ _ (by omega)]; exact ge_k_o _ _ _ _ _ hq
theorem kw_up6 (hp : pw = 25 ∨ pw = 35 ∨ pw = 45) {w s : Nat} (hw : w < 6) (hs : s < 2) (v : Int32) : ge_ag ge_SH (ge_up (ge_k g pw r x hb) (pw + 6) (2 * w + s) v) (ge_k g pw (p_uo r w s v) x hb) := by
  refine ge_k_ag hp ?_ ?_ ?_ ?_ ?_ ?_ ?_ ?_ ?_ ?_ ?_
  · intro k hk; rw [ge_up_row _ _ _ (by omega), ge_k_0, ge_k_0]; rw [p_lo_uo _ _ _ _ 0 (by omega), p_lo_uo _ _ _ _ 1 (by omega), p_lo_uo _ _ _ _ 2 (by omega), p_lo_uo _ _ _ _ 3 (by omega)]
  · intro k hk; rw [ge_up_row _ _ _ (by omega), ge_k_1]; rw [p_lo_uo _ _ _ _ _ (by omega)]
  · intro k hk; rw [ge_up_row _ _ _ (by omega), ge_k_2]; rw [p_e_uo _ _ _ _ _ _ hk (by omega)]
  · intro k hk; rw [ge_up_row _ _ _ (by omega), ge_k_3]; rw [p_e_uo _ _ _ _ _ _ hk (by omega)]
  · intro k hk; rw [ge_up_row _ _ _ (by omega), ge_k_4]; rw [p_e_uo _ _ _ _ _ _ hk (by omega)]
  · intro k hk; rw [ge_up_row _ _ _ (by omega), ge_k_5]; rw [p_e_uo _ _ _ _ _ _ hk (by omega)]
  · intro k hk; rw [ge_up_at, ge_k_6]; rw [p_o_uo _ _ _ _ _ _ (by omega) (by omega)]; (repeat' split) <;> first | rfl | omega
  · intro k hk; rw [ge_up_row _ _ _ (by omega), ge_k_7]; rw [p_o_uo _ _ _ _ _ _ (by omega) (by omega)]; (repeat' split) <;> first | rfl | omega
  · intro k hk; rw [ge_up_row _ _ _ (by omega), ge_k_8]; rw [p_o_uo _ _ _ _ _ _ (by omega) (by omega)]; (repeat' split) <;> first | rfl | omega
  · intro k hk; rw [ge_up_row _ _ _ (by omega), ge_k_9]
  · intro q hq; rw [ge_up_row _ _ _ (by omega)]; exact ge_k_o _ _ _ _ _ hq
theorem kw_up7 (hp : pw = 25 ∨ pw = 35 ∨ pw = 45) {w : Nat} (hw : w < 6) (v : Int32) : ge_ag ge_SH (ge_up (ge_k g pw r x hb) (pw + 7) w v) (ge_k g pw (p_uo r w 2 v) x hb) := by
  refine ge_k_ag hp ?_ ?_ ?_ ?_ ?_ ?_ ?_ ?_ ?_ ?_ ?_
  · intro k hk; rw [ge_up_row _ _ _ (by omega), ge_k_0, ge_k_0]; rw [p_lo_uo _ _ _ _ 0 (by omega), p_lo_uo _ _ _ _ 1 (by omega), p_lo_uo _ _ _ _ 2 (by omega), p_lo_uo _ _ _ _ 3 (by omega)]
  · intro k hk; rw [ge_up_row _ _ _ (by omega), ge_k_1]; rw [p_lo_uo _ _ _ _ _ (by omega)]
  · intro k hk; rw [ge_up_row _ _ _ (by omega), ge_k_2]; rw [p_e_uo _ _ _ _ _ _ hk (by omega)]
  · intro k hk; rw [ge_up_row _ _ _ (by omega), ge_k_3]; rw [p_e_uo _ _ _ _ _ _ hk (by omega)]
  · intro k hk; rw [ge_up_row _ _ _ (by omega), ge_k_4]; rw [p_e_uo _ _ _ _ _ _ hk (by omega)]
  · intro k hk; rw [ge_up_row _ _ _ (by omega), ge_k_5]; rw [p_e_uo _ _ _ _ _ _ hk (by omega)]
  · intro k hk; rw [ge_up_row _ _ _ (by omega), ge_k_6]; rw [p_o_uo _ _ _ _ _ _ (by omega) (by omega)]; (repeat' split) <;> first | rfl | omega
  · intro k hk; rw [ge_up_at, ge_k_7]; rw [p_o_uo _ _ _ _ _ _ (by omega) (by omega)]; (repeat' split) <;> first | rfl | omega
  · intro k hk; rw [ge_up_row _ _ _ (by omega), ge_k_8]; rw [p_o_uo _ _ _ _ _ _ (by omega) (by omega)]; (repeat' split) <;> first | rfl | omega
  · intro k hk; rw [ge_up_row _ _ _ (by omega), ge_k_9]
  · intro q hq; rw [ge_up_row _ _ _ (by omega)]; exact ge_k_o _ _ _ _ _ hq
theorem kw_up8 (hp : pw = 25 ∨ pw = 35 ∨ pw = 45) {w : Nat} (hw : w < 6) (v : Int32) : ge_ag ge_SH (ge_up (ge_k g pw r x hb) (pw + 8) w v) (ge_k g pw (p_uo r w 3 v) x hb) := by
  refine ge_k_ag hp ?_ ?_ ?_ ?_ ?_ ?_ ?_ ?_ ?_ ?_ ?_
  · intro k hk; rw [ge_up_row _ _ _ (by omega), ge_k_0, ge_k_0]; rw [p_lo_uo _ _ _ _ 0 (by omega), p_lo_uo _ _ _ _ 1 (by omega), p_lo_uo _ _ _ _ 2 (by omega), p_lo_uo _ _ _ _ 3 (by omega)]
  · intro k hk; rw [ge_up_row _ _ _ (by omega), ge_k_1]; rw [p_lo_uo _ _ _ _ _ (by omega)]
  · intro k hk; rw [ge_up_row _ _ _ (by omega), ge_k_2]; rw [p_e_uo _ _ _ _ _ _ hk (by omega)]
  · intro k hk; rw [ge_up_row _ _ _ (by omega), ge_k_3]; rw [p_e_uo _ _ _ _ _ _ hk (by omega)]
  · intro k hk; rw [ge_up_row _ _ _ (by omega), ge_k_4]; rw [p_e_uo _ _ _ _ _ _ hk (by omega)]
  · intro k hk; rw [ge_up_row _ _ _ (by omega), ge_k_5]; rw [p_e_uo _ _ _ _ _ _ hk (by omega)]
  · intro k hk; rw [ge_up_row _ _ _ (by omega), ge_k_6]; rw [p_o_uo _ _ _ _ _ _ (by omega) (by omega)]; (repeat' split) <;> first | rfl | omega
  · intro k hk; rw [ge_up_row _ _ _ (by omega), ge_k_7]; rw [p_o_uo _ _ _ _ _ _ (by omega) (by omega)]; (repeat' split) <;> first | rfl | omega
  · intro k hk; rw [ge_up_at, ge_k_8]; rw [p_o_uo _ _ _ _ _ _ (by omega) (by omega)]; (repeat' split) <;> first | rfl | omega
  · intro k hk; rw [ge_up_row _ _ _ (by omega), ge_k_9]
  · intro q hq; rw [ge_up_row _ _ _ (by omega)]; exact ge_k_o _ _ _ _ _ hq
theorem kw_up9 (hp : pw = 25 ∨ pw = 35 ∨ pw = 45) {w : Nat} (v : Int32) : ge_ag ge_SH (ge_up (ge_k g pw r x hb) (pw + 9) w v) (ge_k g pw r x (upd hb w v)) := by
  refine ge_k_ag hp ?_ ?_ ?_ ?_ ?_ ?_ ?_ ?_ ?_ ?_ ?_
  · intro k hk; rw [ge_up_row _ _ _ (by omega), ge_k_0, ge_k_0]
  · intro k hk; rw [ge_up_row _ _ _ (by omega), ge_k_1]
  · intro k hk; rw [ge_up_row _ _ _ (by omega), ge_k_2]
  · intro k hk; rw [ge_up_row _ _ _ (by omega), ge_k_3]
  · intro k hk; rw [ge_up_row _ _ _ (by omega), ge_k_4]
  · intro k hk; rw [ge_up_row _ _ _ (by omega), ge_k_5]
  · intro k hk; rw [ge_up_row _ _ _ (by omega), ge_k_6]
  · intro k hk; rw [ge_up_row _ _ _ (by omega), ge_k_7]
  · intro k hk; rw [ge_up_row _ _ _ (by omega), ge_k_8]
  · intro k hk; rw [ge_up_at, ge_k_9]; rfl
  · intro q hq; rw [ge_up_row _ _ _ (by omega)]; exact ge_k_o _ _ _ _ _ hq
theorem kw_f11 (hp : pw = 25 ∨ pw = 35 ∨ pw = 45)  (v : Int32) : ge_ag ge_SH (ge_up (ge_k g pw r x hb) pw 11 v) (ge_k g pw (upd r 2 v) x hb) := by
  refine ge_k_ag hp ?_ ?_ ?_ ?_ ?_ ?_ ?_ ?_ ?_ ?_ ?_
  · intro k hk; rw [ge_up_at, ge_k_0, ge_k_0]; simp [upd]; try ((repeat' split) <;> first | rfl | omega | simp_all)
  · intro k hk; rw [ge_up_row _ _ _ (by omega), ge_k_1]; simp only [p_e, p_o, upd]; (repeat' split) <;> first | rfl | omega
  · intro k hk; rw [ge_up_row _ _ _ (by omega), ge_k_2]; simp only [p_e, p_o, upd]; (repeat' split) <;> first | rfl | omega
  · intro k hk; rw [ge_up_row _ _ _ (by omega), ge_k_3]; simp only [p_e, p_o, upd]; (repeat' split) <;> first | rfl | omega
  · intro k hk; rw [ge_up_row _ _ _ (by omega), ge_k_4]; simp only [p_e, p_o, upd]; (repeat' split) <;> first | rfl | omega
  · intro k hk; rw [ge_up_row _ _ _ (by omega), ge_k_5]; simp only [p_e, p_o, upd]; (repeat' split) <;> first | rfl | omega
  · intro k hk; rw [ge_up_row _ _ _ (by omega), ge_k_6]; simp only [p_e, p_o, upd]; (repeat' split) <;> first | rfl | omega
  · intro k hk; rw [ge_up_row _ _ _ (by omega), ge_k_7]; simp only [p_e, p_o, upd]; (repeat' split) <;> first | rfl | omega
  · intro k hk; rw [ge_up_row _ _ _ (by omega), ge_k_8]; simp only [p_e, p_o, upd]; (repeat' split) <;> first | rfl | omega
  · intro k hk; rw [ge_up_row _ _ _ (by omega), ge_k_9]
  · intro q hq; rw [ge_up_row _ _ _ (by omega)]; exact ge_k_o _ _ _ _ _ hq
theorem kw_f12 (hp : pw = 25 ∨ pw = 35 ∨ pw = 45)  (v : Int32) : ge_ag ge_SH (ge_up (ge_k g pw r x hb) pw 12 v) (ge_k g pw (upd r 3 v) x hb) := by
  refine ge_k_ag hp ?_ ?_ ?_ ?_ ?_ ?_ ?_ ?_ ?_ ?_ ?_
  · intro k hk; rw [ge_up_at, ge_k_0, ge_k_0]; simp [upd]; try ((repeat' split) <;> first | rfl | omega | simp_all)
  · intro k hk; rw [ge_up_row _ _ _ (by omega), ge_k_1]; simp only [p_e, p_o, upd]; (repeat' split) <;> first | rfl | omega
  · intro k hk; rw [ge_up_row _ _ _ (by omega), ge_k_2]; simp only [p_e, p_o, upd]; (repeat' split) <;> first | rfl | omega
  · intro k hk; rw [ge_up_row _ _ _ (by omega), ge_k_3]; simp only [p_e, p_o, upd]; (repeat' split) <;> first | rfl | omega
  · intro k hk; rw [ge_up_row _ _ _ (by omega), ge_k_4]; simp only [p_e, p_o, upd]; (repeat' split) <;> first | rfl | omega
  · intro k hk; rw [ge_up_row _ _ _ (by omega), ge_k_5]; simp only [p_e, p_o, upd]; (repeat' split) <;> first | rfl | omega
  · intro k hk; rw [ge_up_row _ _ _ (by omega), ge_k_6]; simp only [p_e, p_o, upd]; (repeat' split) <;> first | rfl | omega
  · intro k hk; rw [ge_up_row _ _ _ (by omega), ge_k_7]; simp only [p_e, p_o, upd]; (repeat' split) <;> first | rfl | omega
  · intro k hk; rw [ge_up_row _ _ _ (by omega), ge_k_8]; simp only [p_e, p_o, upd]; (repeat' split) <;> first | rfl | omega
  · intro k hk; rw [ge_up_row _ _ _ (by omega), ge_k_9]
  · intro q hq; rw [ge_up_row _ _ _ (by omega)]; exact ge_k_o _ _ _ _ _ hq
theorem kw_f13 (hp : pw = 25 ∨ pw = 35 ∨ pw = 45)  (v : Int32) : ge_ag ge_SH (ge_up (ge_k g pw r x hb) pw 13 v) (ge_k g pw (upd r 0 v) x hb) := by
  refine ge_k_ag hp ?_ ?_ ?_ ?_ ?_ ?_ ?_ ?_ ?_ ?_ ?_
  · intro k hk; rw [ge_up_at, ge_k_0, ge_k_0]; simp [upd]; try ((repeat' split) <;> first | rfl | omega | simp_all)
  · intro k hk; rw [ge_up_row _ _ _ (by omega), ge_k_1]; simp only [p_e, p_o, upd]; (repeat' split) <;> first | rfl | omega
  · intro k hk; rw [ge_up_row _ _ _ (by omega), ge_k_2]; simp only [p_e, p_o, upd]; (repeat' split) <;> first | rfl | omega
  · intro k hk; rw [ge_up_row _ _ _ (by omega), ge_k_3]; simp only [p_e, p_o, upd]; (repeat' split) <;> first | rfl | omega
  · intro k hk; rw [ge_up_row _ _ _ (by omega), ge_k_4]; simp only [p_e, p_o, upd]; (repeat' split) <;> first | rfl | omega
  · intro k hk; rw [ge_up_row _ _ _ (by omega), ge_k_5]; simp only [p_e, p_o, upd]; (repeat' split) <;> first | rfl | omega
  · intro k hk; rw [ge_up_row _ _ _ (by omega), ge_k_6]; simp only [p_e, p_o, upd]; (repeat' split) <;> first | rfl | omega
  · intro k hk; rw [ge_up_row _ _ _ (by omega), ge_k_7]; simp only [p_e, p_o, upd]; (repeat' split) <;> first | rfl | omega
  · intro k hk; rw [ge_up_row _ _ _ (by omega), ge_k_8]; simp only [p_e, p_o, upd]; (repeat' split) <;> first | rfl | omega
  · intro k hk; rw [ge_up_row _ _ _ (by omega), ge_k_9]
  · intro q hq; rw [ge_up_row _ _ _ (by omega)]; exact ge_k_o _ _ _ _ _ hq
theorem kw_f14 (hp : pw = 25 ∨ pw = 35 ∨ pw = 45)  (v : Int32) : ge_ag ge_SH (ge_up (ge_k g pw r x hb) pw 14 v) (ge_k g pw (upd r 1 v) x hb) := by
  refine ge_k_ag hp ?_ ?_ ?_ ?_ ?_ ?_ ?_ ?_ ?_ ?_ ?_
  · intro k hk; rw [ge_up_at, ge_k_0, ge_k_0]; simp [upd]; try ((repeat' split) <;> first | rfl | omega | simp_all)
  · intro k hk; rw [ge_up_row _ _ _ (by omega), ge_k_1]; simp only [p_e, p_o, upd]; (repeat' split) <;> first | rfl | omega
  · intro k hk; rw [ge_up_row _ _ _ (by omega), ge_k_2]; simp only [p_e, p_o, upd]; (repeat' split) <;> first | rfl | omega
  · intro k hk; rw [ge_up_row _ _ _ (by omega), ge_k_3]; simp only [p_e, p_o, upd]; (repeat' split) <;> first | rfl | omega
  · intro k hk; rw [ge_up_row _ _ _ (by omega), ge_k_4]; simp only [p_e, p_o, upd]; (repeat' split) <;> first | rfl | omega
  · intro k hk; rw [ge_up_row _ _ _ (by omega), ge_k_5]; simp only [p_e, p_o, upd]; (repeat' split) <;> first | rfl | omega
  · intro k hk; rw [ge_up_row _ _ _ (by omega), ge_k_6]; simp only [p_e, p_o, upd]; (repeat' split) <;> first | rfl | omega
  · intro k hk; rw [ge_up_row _ _ _ (by omega), ge_k_7]; simp only [p_e, p_o, upd]; (repeat' split) <;> first | rfl | omega
  · intro k hk; rw [ge_up_row _ _ _ (by omega), ge_k_8]; simp only [p_e, p_o, upd]; (repeat' split) <;> first | rfl | omega
  · intro k hk; rw [ge_up_row _ _ _ (by omega), ge_k_9]
  · intro q hq; rw [ge_up_row _ _ _ (by omega)]; exact ge_k_o _ _ _ _ _ hq
theorem kw_f15 (hp : pw = 25 ∨ pw = 35 ∨ pw = 45)  (v : Int32) : ge_ag ge_SH (ge_up (ge_k g pw r x hb) pw 15 v) (ge_k g pw r (upd x 15 v) hb) := by
  refine ge_k_ag hp ?_ ?_ ?_ ?_ ?_ ?_ ?_ ?_ ?_ ?_ ?_
  · intro k hk; rw [ge_up_at, ge_k_0, ge_k_0]; simp [upd]; try ((repeat' split) <;> first | rfl | omega | simp_all)
  · intro k hk; rw [ge_up_row _ _ _ (by omega), ge_k_1]
  · intro k hk; rw [ge_up_row _ _ _ (by omega), ge_k_2]
  · intro k hk; rw [ge_up_row _ _ _ (by omega), ge_k_3]
  · intro k hk; rw [ge_up_row _ _ _ (by omega), ge_k_4]
  · intro k hk; rw [ge_up_row _ _ _ (by omega), ge_k_5]
  · intro k hk; rw [ge_up_row _ _ _ (by omega), ge_k_6]
  · intro k hk; rw [ge_up_row _ _ _ (by omega), ge_k_7]
  · intro k hk; rw [ge_up_row _ _ _ (by omega), ge_k_8]
  · intro k hk; rw [ge_up_row _ _ _ (by omega), ge_k_9]
  · intro q hq; rw [ge_up_row _ _ _ (by omega)]; exact ge_k_o _ _ _ _ _ hq
theorem kw_f16 (hp : pw = 25 ∨ pw = 35 ∨ pw = 45)  (v : Int32) : ge_ag ge_SH (ge_up (ge_k g pw r x hb) pw 16 v) (ge_k g pw r (upd x 16 v) hb) := by
  refine ge_k_ag hp ?_ ?_ ?_ ?_ ?_ ?_ ?_ ?_ ?_ ?_ ?_
  · intro k hk; rw [ge_up_at, ge_k_0, ge_k_0]; simp [upd]; try ((repeat' split) <;> first | rfl | omega | simp_all)
  · intro k hk; rw [ge_up_row _ _ _ (by omega), ge_k_1]
  · intro k hk; rw [ge_up_row _ _ _ (by omega), ge_k_2]
  · intro k hk; rw [ge_up_row _ _ _ (by omega), ge_k_3]
  · intro k hk; rw [ge_up_row _ _ _ (by omega), ge_k_4]
  · intro k hk; rw [ge_up_row _ _ _ (by omega), ge_k_5]
  · intro k hk; rw [ge_up_row _ _ _ (by omega), ge_k_6]
  · intro k hk; rw [ge_up_row _ _ _ (by omega), ge_k_7]
  · intro k hk; rw [ge_up_row _ _ _ (by omega), ge_k_8]
  · intro k hk; rw [ge_up_row _ _ _ (by omega), ge_k_9]
  · intro q hq; rw [ge_up_row _ _ _ (by omega)]; exact ge_k_o _ _ _ _ _ hq
theorem kw_f17 (hp : pw = 25 ∨ pw = 35 ∨ pw = 45)  (v : Int32) : ge_ag ge_SH (ge_up (ge_k g pw r x hb) pw 17 v) (ge_k g pw r (upd x 17 v) hb) := by
  refine ge_k_ag hp ?_ ?_ ?_ ?_ ?_ ?_ ?_ ?_ ?_ ?_ ?_
  · intro k hk; rw [ge_up_at, ge_k_0, ge_k_0]; simp [upd]; try ((repeat' split) <;> first | rfl | omega | simp_all)
  · intro k hk; rw [ge_up_row _ _ _ (by omega), ge_k_1]
  · intro k hk; rw [ge_up_row _ _ _ (by omega), ge_k_2]
  · intro k hk; rw [ge_up_row _ _ _ (by omega), ge_k_3]
  · intro k hk; rw [ge_up_row _ _ _ (by omega), ge_k_4]
  · intro k hk; rw [ge_up_row _ _ _ (by omega), ge_k_5]
  · intro k hk; rw [ge_up_row _ _ _ (by omega), ge_k_6]
  · intro k hk; rw [ge_up_row _ _ _ (by omega), ge_k_7]
  · intro k hk; rw [ge_up_row _ _ _ (by omega), ge_k_8]
  · intro k hk; rw [ge_up_row _ _ _ (by omega), ge_k_9]
  · intro q hq; rw [ge_up_row _ _ _ (by omega)]; exact ge_k_o _ _ _ _ _ hq
theorem kw_f18 (hp : pw = 25 ∨ pw = 35 ∨ pw = 45)  (v : Int32) : ge_ag ge_SH (ge_up (ge_k g pw r x hb) pw 18 v) (ge_k g pw r (upd x 18 v) hb) := by
  refine ge_k_ag hp ?_ ?_ ?_ ?_ ?_ ?_ ?_ ?_ ?_ ?_ ?_
  · intro k hk; rw [ge_up_at, ge_k_0, ge_k_0]; simp [upd]; try ((repeat' split) <;> first | rfl | omega | simp_all)
  · intro k hk; rw [ge_up_row _ _ _ (by omega), ge_k_1]
  · intro k hk; rw [ge_up_row _ _ _ (by omega), ge_k_2]
  · intro k hk; rw [ge_up_row _ _ _ (by omega), ge_k_3]
  · intro k hk; rw [ge_up_row _ _ _ (by omega), ge_k_4]
  · intro k hk; rw [ge_up_row _ _ _ (by omega), ge_k_5]
  · intro k hk; rw [ge_up_row _ _ _ (by omega), ge_k_6]
  · intro k hk; rw [ge_up_row _ _ _ (by omega), ge_k_7]
  · intro k hk; rw [ge_up_row _ _ _ (by omega), ge_k_8]
  · intro k hk; rw [ge_up_row _ _ _ (by omega), ge_k_9]
  · intro q hq; rw [ge_up_row _ _ _ (by omega)]; exact ge_k_o _ _ _ _ _ hq
end W2
