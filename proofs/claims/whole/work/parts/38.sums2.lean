section W10
variable {X : ge_X} {g : ge_G} {r x hb : Nat → Int32} {c : Nat}
/-- how many heeded a thing, of that which most did -/
def p_mc (hb : Nat → Int32) (t : Int32) : Nat → Nat
  | 0 => 0
  | w + 1 => if hb w = t then p_mc hb t w + 1 else p_mc hb t w
def p_mm (hb : Nat → Int32) (V : Nat) : Nat → Nat
  | 0 => 0
  | t + 1 => max (p_mm hb V t) (p_mc hb (nI t) V)
theorem p_mc_le (hb : Nat → Int32) (t : Int32) : ∀ w, p_mc hb t w ≤ w := by
  intro w
  induction w with
  | zero => exact Nat.le_refl _
  | succ w ih => unfold p_mc; split <;> omega
theorem p_mm_le (hb : Nat → Int32) (V : Nat) : ∀ t, p_mm hb V t ≤ V := by
  intro t
  induction t with
  | zero => exact Nat.zero_le _
  | succ t ih => unfold p_mm; exact Nat.max_le.mpr ⟨ih, p_mc_le _ _ _⟩
theorem p_max_nI {a b : Nat} (ha : a < 2 ^ 31) (hb : b < 2 ^ 31) : p_max (nI a) (nI b) = nI (max a b) := by
  unfold p_max
  by_cases h : a < b
  · rw [if_pos ((nI_ltI ha hb).mpr h), Nat.max_eq_right (Nat.le_of_lt h)]
  · rw [if_neg (fun z => h ((nI_ltI ha hb).mp z)), Nat.max_eq_left (by omega)]
def p_we (r : Nat → Int32) (V : Nat) : Nat → Int32
  | 0 => 0
  | e + 1 => if p_sk r (nI e) (2 * V) 0 < 0 then p_we r V e else p_we r V e ||| ((1 : Int32) <<< (nI e &&& 31))
theorem p_we_s (r : Nat → Int32) (V e : Nat) : p_we r V (e + 1) = if p_sk r (nI e) (2 * V) 0 < 0 then p_we r V e else p_we r V e ||| ((1 : Int32) <<< (nI e &&& 31)) := rfl
/-- an eye comes in -/
def p_addE (r : Nat → Int32) (E : Nat) (k m b : Int32) : Nat → Int32 := p_ue (p_ue (p_ue (p_ue r E 0 k) E 1 m) E 2 b) E 3 0
def p_addW (r : Nat → Int32) (V : Nat) : Nat → Int32 := p_uo (p_uo (p_uo (p_uo r V 0 (-1)) V 1 (-1)) V 2 20) V 3 0
set_option maxHeartbeats 1000000 in
theorem k_seenW_25 {V : Nat} (hV : V ≤ 6) (e3 : r 3 = nI V) : ge_N X ge_SH YX10_seenByAnybody 0 [.ref (ge_ad X.1 25)] (ge_k g 25 r x hb) (some (.int (p_sn r V))) (ge_k g 25 r x hb) := by
  refine gq_ofB (l := [(0, .ref (ge_ad X.1 25))]) (by decide) (Nat.le_of_ble_eq_true rfl) rfl ?_
  have key : ∀ (n i : Nat), n = V - i → i ≤ V → ge_B X ge_SH YX10_seenByAnybody 0 (fun v2 g2 => v2 = some (.int (p_sn r V)) ∧ g2 = (ge_k g 25 r x hb)) 4 [(2, .int (nI i)), (1, .int (p_sn r i)), (0, .ref (ge_ad X.1 25))] [] (ge_k g 25 r x hb) := by
    intro n
    induction n using Nat.strongRecOn with
    | ind n ih =>
      intro i hn hi
      refine gq_iload_n (pc := 4) dX10_seenByAnybody_4 rfl ?_
      refine gq_aload_n (pc := 5) dX10_seenByAnybody_5 rfl ?_
      refine kq_get12 (pw := 25) (pc := 6) (by decide) dX10_seenByAnybody_6 fl_X10_66_10 ?_
      rw [e3]
      refine gq_ic_ge (pc := 9) 27 dX10_seenByAnybody_9 (by decide) (fun h_9 => ?_) (fun h_9 => ?_)
      · have hiV : i = V := by have := (nI_leI (by omega) (by omega)).mp h_9; omega
        subst hiV
        refine gq_iload_n (pc := 27) dX10_seenByAnybody_27 rfl ?_
        exact gq_iret (pc := 28) rfl dX10_seenByAnybody_28 ⟨rfl, rfl⟩
      · have hiV : i < V := Nat.lt_of_not_le fun z => h_9 ((nI_leI (by omega) (by omega)).mpr z)
        refine gq_iload_n (pc := 12) dX10_seenByAnybody_12 rfl ?_
        refine gq_aload_n (pc := 13) dX10_seenByAnybody_13 rfl ?_
        refine gq_getr (pc := 14) dX10_seenByAnybody_14 fl_X10_41_10 sh_25 rfl ?_
        refine gq_iload_n (pc := 17) dX10_seenByAnybody_17 rfl ?_
        refine kq_ald8 (pw := 25) (pc := 18) (by decide) dX10_seenByAnybody_18 (by first | assumption | rfl) (by first | decide | omega) ?_
        refine gq_ior (pc := 19) dX10_seenByAnybody_19 ?_
        refine gq_istore_n (pc := 20) (l' := [(1, _), (2, _), (0, _)]) dX10_seenByAnybody_20 (by decide) rfl ?_
        refine gq_iinc (pc := 21) (l' := [(2, _), (1, _), (0, _)]) dX10_seenByAnybody_21 rfl (ge_inc1 i) (by decide) rfl ?_
        refine gq_goto (pc := 24) 4 dX10_seenByAnybody_24 (by decide) ?_
        exact ih (V - (i + 1)) (by omega) (i + 1) rfl (by omega)
  refine gq_iconst (pc := 0) dX10_seenByAnybody_0 kc_0 ?_
  refine gq_istore_n (pc := 1) (l' := [(1, _), (0, _)]) dX10_seenByAnybody_1 (by decide) rfl ?_
  refine gq_iconst (pc := 2) dX10_seenByAnybody_2 kc_0 ?_
  refine gq_istore_n (pc := 3) (l' := [(2, _), (1, _), (0, _)]) dX10_seenByAnybody_3 (by decide) rfl ?_
  exact key V 0 rfl (Nat.zero_le _)
set_option maxHeartbeats 1000000 in
theorem k_bearsW_25 {V : Nat} (hV : V ≤ 6) (e3 : r 3 = nI V) : ge_N X ge_SH YX10_bearsOfAll 0 [.ref (ge_ad X.1 25)] (ge_k g 25 r x hb) (some (.int (p_bs r V))) (ge_k g 25 r x hb) := by
  refine gq_ofB (l := [(0, .ref (ge_ad X.1 25))]) (by decide) (Nat.le_of_ble_eq_true rfl) rfl ?_
  have key : ∀ (n i : Nat), n = V - i → i ≤ V → ge_B X ge_SH YX10_bearsOfAll 0 (fun v2 g2 => v2 = some (.int (p_bs r V)) ∧ g2 = (ge_k g 25 r x hb)) 4 [(2, .int (nI i)), (1, .int (p_bs r i)), (0, .ref (ge_ad X.1 25))] [] (ge_k g 25 r x hb) := by
    intro n
    induction n using Nat.strongRecOn with
    | ind n ih =>
      intro i hn hi
      refine gq_iload_n (pc := 4) dX10_bearsOfAll_4 rfl ?_
      refine gq_aload_n (pc := 5) dX10_bearsOfAll_5 rfl ?_
      refine kq_get12 (pw := 25) (pc := 6) (by decide) dX10_bearsOfAll_6 fl_X10_66_10 ?_
      rw [e3]
      refine gq_ic_ge (pc := 9) 27 dX10_bearsOfAll_9 (by decide) (fun h_9 => ?_) (fun h_9 => ?_)
      · have hiV : i = V := by have := (nI_leI (by omega) (by omega)).mp h_9; omega
        subst hiV
        refine gq_iload_n (pc := 27) dX10_bearsOfAll_27 rfl ?_
        exact gq_iret (pc := 28) rfl dX10_bearsOfAll_28 ⟨rfl, rfl⟩
      · have hiV : i < V := Nat.lt_of_not_le fun z => h_9 ((nI_leI (by omega) (by omega)).mpr z)
        refine gq_iload_n (pc := 12) dX10_bearsOfAll_12 rfl ?_
        refine gq_aload_n (pc := 13) dX10_bearsOfAll_13 rfl ?_
        refine gq_getr (pc := 14) dX10_bearsOfAll_14 fl_X10_38_10 sh_25 rfl ?_
        refine gq_iload_n (pc := 17) dX10_bearsOfAll_17 rfl ?_
        refine kq_ald7 (pw := 25) (pc := 18) (by decide) dX10_bearsOfAll_18 (by first | assumption | rfl) (by first | decide | omega) ?_
        refine gq_iadd (pc := 19) dX10_bearsOfAll_19 ?_
        refine gq_istore_n (pc := 20) (l' := [(1, _), (2, _), (0, _)]) dX10_bearsOfAll_20 (by decide) rfl ?_
        refine gq_iinc (pc := 21) (l' := [(2, _), (1, _), (0, _)]) dX10_bearsOfAll_21 rfl (ge_inc1 i) (by decide) rfl ?_
        refine gq_goto (pc := 24) 4 dX10_bearsOfAll_24 (by decide) ?_
        exact ih (V - (i + 1)) (by omega) (i + 1) rfl (by omega)
  refine gq_iconst (pc := 0) dX10_bearsOfAll_0 kc_0 ?_
  refine gq_istore_n (pc := 1) (l' := [(1, _), (0, _)]) dX10_bearsOfAll_1 (by decide) rfl ?_
  refine gq_iconst (pc := 2) dX10_bearsOfAll_2 kc_0 ?_
  refine gq_istore_n (pc := 3) (l' := [(2, _), (1, _), (0, _)]) dX10_bearsOfAll_3 (by decide) rfl ?_
  exact key V 0 rfl (Nat.zero_le _)
set_option maxHeartbeats 1000000 in
theorem k_wornE_25 {V E : Nat} (hV : V ≤ 6) (e3 : r 3 = nI V) (hE : E ≤ 8) (e2 : r 2 = nI E) : ge_N X ge_SH YX10_wornEyes 1 [.ref (ge_ad X.1 25)] (ge_k g 25 r x hb) (some (.int (p_we r V E))) (ge_k g 25 r x hb) := by
  refine gq_ofB (l := [(0, .ref (ge_ad X.1 25))]) (by decide) (Nat.le_of_ble_eq_true rfl) rfl ?_
  have key : ∀ (n i : Nat), n = E - i → i ≤ E → ge_B X ge_SH YX10_wornEyes 1 (fun v2 g2 => v2 = some (.int (p_we r V E)) ∧ g2 = (ge_k g 25 r x hb)) 4 [(2, .int (nI i)), (1, .int (p_we r V i)), (0, .ref (ge_ad X.1 25))] [] (ge_k g 25 r x hb) := by
    intro n
    induction n using Nat.strongRecOn with
    | ind n ih =>
      intro i hn hi
      refine gq_iload_n (pc := 4) dX10_wornEyes_4 rfl ?_
      refine gq_aload_n (pc := 5) dX10_wornEyes_5 rfl ?_
      refine kq_get11 (pw := 25) (pc := 6) (by decide) dX10_wornEyes_6 fl_X10_63_10 ?_
      rw [e2]
      refine gq_ic_ge (pc := 9) 32 dX10_wornEyes_9 (by decide) (fun h_9 => ?_) (fun h_9 => ?_)
      · have hiV : i = E := by have := (nI_leI (by omega) (by omega)).mp h_9; omega
        subst hiV
        refine gq_iload_n (pc := 32) dX10_wornEyes_32 rfl ?_
        exact gq_iret (pc := 33) rfl dX10_wornEyes_33 ⟨rfl, rfl⟩
      · have hiV : i < E := Nat.lt_of_not_le fun z => h_9 ((nI_leI (by omega) (by omega)).mpr z)
        refine gq_aload_n (pc := 12) dX10_wornEyes_12 rfl ?_
        refine gq_iload_n (pc := 13) dX10_wornEyes_13 rfl ?_
        refine gq_rV1i (pc := 14) dX10_wornEyes_14 cv_X10_82 sh_25 (k_sock_25 hV e3) ⟨by decide, by decide⟩ rfl rfl (Nat.le_of_ble_eq_true rfl) ?_
        refine gq_if_lt (pc := 17) 26 dX10_wornEyes_17 (by decide) (fun h_17 => ?_) (fun h_17 => ?_)
        · have hw1 : p_we r V i = p_we r V (i + 1) := by rw [p_we_s, if_pos h_17]
          rw [hw1]
          refine gq_iinc (pc := 26) (l' := [(2, _), (1, _), (0, _)]) dX10_wornEyes_26 rfl (ge_inc1 i) (by decide) rfl ?_
          refine gq_goto (pc := 29) 4 dX10_wornEyes_29 (by decide) ?_
          refine gq_sub [0, 1, 2] rfl ?_
          exact ih (E - (i + 1)) (by omega) (i + 1) rfl (by omega)
        · have hw1 : p_we r V i ||| ((1 : Int32) <<< (nI i &&& 31)) = p_we r V (i + 1) := by rw [p_we_s, if_neg h_17]
          refine gq_iload_n (pc := 20) dX10_wornEyes_20 rfl ?_
          refine gq_iconst (pc := 21) dX10_wornEyes_21 kc_1 ?_
          refine gq_iload_n (pc := 22) dX10_wornEyes_22 rfl ?_
          refine gq_ishl (pc := 23) dX10_wornEyes_23 ?_
          refine gq_ior (pc := 24) dX10_wornEyes_24 ?_
          rw [hw1]
          refine gq_istore_n (pc := 25) (l' := [(1, _), (2, _), (0, _)]) dX10_wornEyes_25 (by decide) rfl ?_
          refine gq_iinc (pc := 26) (l' := [(2, _), (1, _), (0, _)]) dX10_wornEyes_26 rfl (ge_inc1 i) (by decide) rfl ?_
          refine gq_goto (pc := 29) 4 dX10_wornEyes_29 (by decide) ?_
          refine gq_sub [0, 1, 2] rfl ?_
          exact ih (E - (i + 1)) (by omega) (i + 1) rfl (by omega)
  refine gq_iconst (pc := 0) dX10_wornEyes_0 kc_0 ?_
  refine gq_istore_n (pc := 1) (l' := [(1, _), (0, _)]) dX10_wornEyes_1 (by decide) rfl ?_
  refine gq_iconst (pc := 2) dX10_wornEyes_2 kc_0 ?_
  refine gq_istore_n (pc := 3) (l' := [(2, _), (1, _), (0, _)]) dX10_wornEyes_3 (by decide) rfl ?_
  exact key E 0 rfl (Nat.zero_le _)
set_option maxHeartbeats 1000000 in
theorem k_mostH_25 {V : Nat} (hV : V ≤ 6) (e3 : r 3 = nI V) : ge_N X ge_SH YX10_mostHeeding 1 [.ref (ge_ad X.1 25)] (ge_k g 25 r x hb) (some (.int (nI (p_mm hb V 10)))) (ge_k g 25 r x hb) := by
  refine gq_ofB (l := [(0, .ref (ge_ad X.1 25))]) (by decide) (Nat.le_of_ble_eq_true rfl) rfl ?_
  have key : ∀ (n i : Nat), n = 10 - i → i ≤ 10 → ge_B X ge_SH YX10_mostHeeding 1 (fun v2 g2 => v2 = some (.int (nI (p_mm hb V 10))) ∧ g2 = (ge_k g 25 r x hb)) 4 [(2, .int (nI i)), (1, .int (nI (p_mm hb V i))), (0, .ref (ge_ad X.1 25))] [] (ge_k g 25 r x hb) := by
    intro n
    induction n using Nat.strongRecOn with
    | ind n ih =>
      intro i hn hi
      refine gq_iload_n (pc := 4) dX10_mostHeeding_4 rfl ?_
      refine gq_bipush (pc := 5) dX10_mostHeeding_5 kb_10 ?_
      refine gq_ic_ge (pc := 7) 56 dX10_mostHeeding_7 (by decide) (fun h_7 => ?_) (fun h_7 => ?_)
      · have hi10 : i = 10 := by have := (nI_leI (a := 10) (by omega) (by omega)).mp h_7; omega
        subst hi10
        refine gq_iload_n (pc := 56) dX10_mostHeeding_56 rfl ?_
        exact gq_iret (pc := 57) rfl dX10_mostHeeding_57 ⟨rfl, rfl⟩
      · have hi10 : i < 10 := Nat.lt_of_not_le fun z => h_7 ((nI_leI (a := 10) (by omega) (by omega)).mpr z)
        have inner : ∀ (n2 w : Nat), n2 = V - w → w ≤ V → ge_B X ge_SH YX10_mostHeeding 1 (fun v2 g2 => v2 = some (.int (nI (p_mm hb V 10))) ∧ g2 = (ge_k g 25 r x hb)) 15 [(4, .int (nI w)), (3, .int (nI (p_mc hb (nI i) w))), (2, .int (nI i)), (1, .int (nI (p_mm hb V i))), (0, .ref (ge_ad X.1 25))] [] (ge_k g 25 r x hb) := by
          intro n2
          induction n2 using Nat.strongRecOn with
          | ind n2 ih2 =>
            intro w hn2 hw
            refine gq_iload (pc := 15) dX10_mostHeeding_15 rfl ?_
            refine gq_aload_n (pc := 17) dX10_mostHeeding_17 rfl ?_
            refine kq_get12 (pw := 25) (pc := 18) (by decide) dX10_mostHeeding_18 fl_X10_66_10 ?_
            rw [e3]
            refine gq_ic_ge (pc := 21) 44 dX10_mostHeeding_21 (by decide) (fun h_21 => ?_) (fun h_21 => ?_)
            · have hwV : w = V := by have := (nI_leI (by omega) (by omega)).mp h_21; omega
              subst hwV
              refine gq_iload_n (pc := 44) dX10_mostHeeding_44 rfl ?_
              refine gq_iload_n (pc := 45) dX10_mostHeeding_45 rfl ?_
              refine gq_rS2i (pc := 46) dX10_mostHeeding_46 cs_X10_130 (k_max _ _) ⟨by decide, by decide⟩ (Nat.le_of_ble_eq_true rfl) ?_
              rw [p_max_nI (by have := p_mm_le hb w i; omega) (by have := p_mc_le hb (nI i) w; omega)]
              refine gq_istore_n (pc := 49) (l' := [(1, _), (4, _), (3, _), (2, _), (0, _)]) dX10_mostHeeding_49 (by decide) rfl ?_
              refine gq_iinc (pc := 50) (l' := [(2, _), (1, _), (4, _), (3, _), (0, _)]) dX10_mostHeeding_50 rfl (ge_inc1 i) (by decide) rfl ?_
              refine gq_goto (pc := 53) 4 dX10_mostHeeding_53 (by decide) ?_
              refine gq_sub [0, 1, 4] rfl ?_
              exact ih (10 - (i + 1)) (by omega) (i + 1) rfl (by omega)
            · have hwV : w < V := Nat.lt_of_not_le fun z => h_21 ((nI_leI (by omega) (by omega)).mpr z)
              refine gq_aload_n (pc := 24) dX10_mostHeeding_24 rfl ?_
              refine gq_getr (pc := 25) dX10_mostHeeding_25 fl_X10_44_10 sh_25 rfl ?_
              refine gq_iload (pc := 28) dX10_mostHeeding_28 rfl ?_
              refine kq_ald9 (pw := 25) (pc := 30) (by decide) dX10_mostHeeding_30 (by first | assumption | rfl) (by first | decide | omega) ?_
              refine gq_iload_n (pc := 31) dX10_mostHeeding_31 rfl ?_
              refine gq_ic_ne (pc := 32) 38 dX10_mostHeeding_32 (by decide) (fun h_32 => ?_) (fun h_32 => ?_)
              · have hm1 : p_mc hb (nI i) w = p_mc hb (nI i) (w + 1) := by show _ = ite _ _ _; rw [if_neg h_32]
                rw [hm1]
                refine gq_iinc (pc := 38) (l' := [(4, _), (3, _), (2, _), (1, _), (0, _)]) dX10_mostHeeding_38 rfl (ge_inc1 w) (by decide) rfl ?_
                refine gq_goto (pc := 41) 15 dX10_mostHeeding_41 (by decide) ?_
                refine gq_sub [0, 1, 2, 3, 4] rfl ?_
                exact ih2 (V - (w + 1)) (by omega) (w + 1) rfl (by omega)
              · have hm1 : p_mc hb (nI i) w + 1 = p_mc hb (nI i) (w + 1) := by show _ = ite _ _ _; rw [if_pos h_32]
                refine gq_iinc (pc := 35) (l' := [(3, _), (4, _), (2, _), (1, _), (0, _)]) dX10_mostHeeding_35 rfl (by rw [ge_inc1, hm1]) (by decide) rfl ?_
                refine gq_iinc (pc := 38) (l' := [(4, _), (3, _), (2, _), (1, _), (0, _)]) dX10_mostHeeding_38 rfl (ge_inc1 w) (by decide) rfl ?_
                refine gq_goto (pc := 41) 15 dX10_mostHeeding_41 (by decide) ?_
                refine gq_sub [0, 1, 2, 3, 4] rfl ?_
                exact ih2 (V - (w + 1)) (by omega) (w + 1) rfl (by omega)
        refine gq_iconst (pc := 10) dX10_mostHeeding_10 kc_0 ?_
        refine gq_istore_n (pc := 11) (l' := [(3, _), (2, _), (1, _), (0, _)]) dX10_mostHeeding_11 (by decide) rfl ?_
        refine gq_iconst (pc := 12) dX10_mostHeeding_12 kc_0 ?_
        refine gq_istore (pc := 13) (l' := [(4, _), (3, _), (2, _), (1, _), (0, _)]) dX10_mostHeeding_13 (by decide) rfl ?_
        exact inner V 0 rfl (Nat.zero_le _)
  refine gq_iconst (pc := 0) dX10_mostHeeding_0 kc_0 ?_
  refine gq_istore_n (pc := 1) (l' := [(1, _), (0, _)]) dX10_mostHeeding_1 (by decide) rfl ?_
  refine gq_iconst (pc := 2) dX10_mostHeeding_2 kc_0 ?_
  refine gq_istore_n (pc := 3) (l' := [(2, _), (1, _), (0, _)]) dX10_mostHeeding_3 (by decide) rfl ?_
  exact key 10 0 rfl (Nat.zero_le _)
set_option maxHeartbeats 400000 in
theorem k_has_25 {w a : Int32} {i k : Nat} (hw : w = nI i) (hi : i < 6) (hk : a = nI k) (hk4 : k < 4) : ge_N X ge_SH YX10_wearerHas 0 [.ref (ge_ad X.1 25), .int w, .int a] (ge_k g 25 r x hb) (some (.int (p_o r i k))) (ge_k g 25 r x hb) := by
  refine gq_ofB (l := [(0, .ref (ge_ad X.1 25)), (1, .int w), (2, .int a)]) (by decide) (Nat.le_of_ble_eq_true rfl) rfl ?_
  refine gq_iload_n (pc := 0) dX10_wearerHas_0 rfl ?_
  rcases (by omega : k = 0 ∨ k = 1 ∨ k = 2 ∨ k = 3) with rfl | rfl | rfl | rfl
  · refine gq_tabI (pc := 1) (off := 27) 28 dX10_wearerHas_1 (by rw [hk]; decide) (by rw [hk]; decide) (by rw [hk]; decide) (by decide) ?_
    refine gq_aload_n (pc := 28) dX10_wearerHas_28 rfl ?_
    refine gq_getr (pc := 29) dX10_wearerHas_29 fl_X10_35_10 sh_25 rfl ?_
    refine gq_iconst (pc := 32) dX10_wearerHas_32 kc_2 ?_
    refine gq_iload_n (pc := 33) dX10_wearerHas_33 rfl ?_
    refine gq_imul (pc := 34) dX10_wearerHas_34 ?_
    refine gq_iconst (pc := 35) dX10_wearerHas_35 kc_0 ?_
    refine gq_iadd (pc := 36) dX10_wearerHas_36 ?_
    refine kq_ald6 (pw := 25) (pc := 37) (by decide) dX10_wearerHas_37 (ge_nadd (ge_nmul kl_2 hw) kl_0) (by omega) (by omega) ?_
    exact gq_iret (pc := 38) rfl dX10_wearerHas_38 ⟨rfl, rfl⟩
  · refine gq_tabI (pc := 1) (off := 38) 39 dX10_wearerHas_1 (by rw [hk]; decide) (by rw [hk]; decide) (by rw [hk]; decide) (by decide) ?_
    refine gq_aload_n (pc := 39) dX10_wearerHas_39 rfl ?_
    refine gq_getr (pc := 40) dX10_wearerHas_40 fl_X10_35_10 sh_25 rfl ?_
    refine gq_iconst (pc := 43) dX10_wearerHas_43 kc_2 ?_
    refine gq_iload_n (pc := 44) dX10_wearerHas_44 rfl ?_
    refine gq_imul (pc := 45) dX10_wearerHas_45 ?_
    refine gq_iconst (pc := 46) dX10_wearerHas_46 kc_1 ?_
    refine gq_iadd (pc := 47) dX10_wearerHas_47 ?_
    refine kq_ald6 (pw := 25) (pc := 48) (by decide) dX10_wearerHas_48 (ge_nadd (ge_nmul kl_2 hw) kl_1) (by omega) (by omega) ?_
    exact gq_iret (pc := 49) rfl dX10_wearerHas_49 ⟨rfl, rfl⟩
  · refine gq_tabI (pc := 1) (off := 49) 50 dX10_wearerHas_1 (by rw [hk]; decide) (by rw [hk]; decide) (by rw [hk]; decide) (by decide) ?_
    refine gq_aload_n (pc := 50) dX10_wearerHas_50 rfl ?_
    refine gq_getr (pc := 51) dX10_wearerHas_51 fl_X10_38_10 sh_25 rfl ?_
    refine gq_iload_n (pc := 54) dX10_wearerHas_54 rfl ?_
    refine kq_ald7 (pw := 25) (pc := 55) (by decide) dX10_wearerHas_55 hw (by first | decide | omega) ?_
    exact gq_iret (pc := 56) rfl dX10_wearerHas_56 ⟨rfl, rfl⟩
  · refine gq_tabO (pc := 1) 57 dX10_wearerHas_1 (by rw [hk]; decide) (by decide) ?_
    refine gq_aload_n (pc := 57) dX10_wearerHas_57 rfl ?_
    refine gq_getr (pc := 58) dX10_wearerHas_58 fl_X10_41_10 sh_25 rfl ?_
    refine gq_iload_n (pc := 61) dX10_wearerHas_61 rfl ?_
    refine kq_ald8 (pw := 25) (pc := 62) (by decide) dX10_wearerHas_62 hw (by first | decide | omega) ?_
    exact gq_iret (pc := 63) rfl dX10_wearerHas_63 ⟨rfl, rfl⟩
set_option maxHeartbeats 400000 in
theorem k_fit_25 {w s e : Int32} {i k V : Nat} (hV : V ≤ 6) (e3 : r 3 = nI V) (hw : w = nI i) (hi : i < 6) (hs : s = nI k) (hk : k < 2) : ge_N X ge_SH YX10_fit 2 [.ref (ge_ad X.1 25), .int w, .int s, .int e] (ge_k g 25 r x hb) (some (.int (p_o r i k))) (ge_k g 25 (p_uo (p_tf r e V) i k e) x hb) := by
  refine gq_ofB (l := [(0, .ref (ge_ad X.1 25)), (1, .int w), (2, .int s), (3, .int e)]) (by decide) (Nat.le_of_ble_eq_true rfl) rfl ?_
  refine gq_aload_n (pc := 0) dX10_fit_0 rfl ?_
  refine gq_getr (pc := 1) dX10_fit_1 fl_X10_35_10 sh_25 rfl ?_
  refine gq_iconst (pc := 4) dX10_fit_4 kc_2 ?_
  refine gq_iload_n (pc := 5) dX10_fit_5 rfl ?_
  refine gq_imul (pc := 6) dX10_fit_6 ?_
  refine gq_iload_n (pc := 7) dX10_fit_7 rfl ?_
  refine gq_iadd (pc := 8) dX10_fit_8 ?_
  refine kq_ald6 (pw := 25) (pc := 9) (by decide) dX10_fit_9 (ge_nadd (ge_nmul kl_2 hw) hs) (by omega) (by omega) ?_
  refine gq_istore (pc := 10) (l' := [(4, _), (0, _), (1, _), (2, _), (3, _)]) dX10_fit_10 (by decide) rfl ?_
  refine gq_aload_n (pc := 12) dX10_fit_12 rfl ?_
  refine gq_iload_n (pc := 13) dX10_fit_13 rfl ?_
  refine gq_rV1v (pc := 14) dX10_fit_14 cv_X10_78 sh_25 (k_tf_25 hV e3) ⟨by decide, by decide⟩ rfl rfl (Nat.le_of_ble_eq_true rfl) ?_
  refine gq_aload_n (pc := 17) dX10_fit_17 rfl ?_
  refine gq_getr (pc := 18) dX10_fit_18 fl_X10_35_10 sh_25 rfl ?_
  refine gq_iconst (pc := 21) dX10_fit_21 kc_2 ?_
  refine gq_iload_n (pc := 22) dX10_fit_22 rfl ?_
  refine gq_imul (pc := 23) dX10_fit_23 ?_
  refine gq_iload_n (pc := 24) dX10_fit_24 rfl ?_
  refine gq_iadd (pc := 25) dX10_fit_25 ?_
  refine gq_iload_n (pc := 26) dX10_fit_26 rfl ?_
  refine kq_ast6 (pw := 25) (pc := 27) (by decide) dX10_fit_27 (ge_nadd (ge_nmul kl_2 hw) hs) (by omega) (by omega) ?_
  refine gq_iload (pc := 28) dX10_fit_28 rfl ?_
  exact gq_iret (pc := 30) rfl dX10_fit_30 ⟨rfl, rfl⟩
set_option maxHeartbeats 400000 in
theorem k_fitA_25 {w e : Int32} {i V : Nat} (hV : V ≤ 6) (e3 : r 3 = nI V) (hw : w = nI i) (hi : i < 6) : ge_N X ge_SH YX10_fitAlone 3 [.ref (ge_ad X.1 25), .int w, .int e] (ge_k g 25 r x hb) none (ge_k g 25 (p_uo (p_uo (p_tf r e V) i 0 e) i 1 (-1)) x hb) := by
  refine gq_ofB (l := [(0, .ref (ge_ad X.1 25)), (1, .int w), (2, .int e)]) (by decide) (Nat.le_of_ble_eq_true rfl) rfl ?_
  refine gq_aload_n (pc := 0) dX10_fitAlone_0 rfl ?_
  refine gq_iload_n (pc := 1) dX10_fitAlone_1 rfl ?_
  refine gq_iconst (pc := 2) dX10_fitAlone_2 kc_0 ?_
  refine gq_iload_n (pc := 3) dX10_fitAlone_3 rfl ?_
  refine gq_rV3i (pc := 4) dX10_fitAlone_4 cv_X10_86 sh_25 (k_fit_25 hV e3 hw hi kl_0 (by omega)) ⟨by decide, by decide⟩ rfl rfl (Nat.le_of_ble_eq_true rfl) ?_
  refine gq_pop (pc := 7) dX10_fitAlone_7 rfl ?_
  refine gq_aload_n (pc := 8) dX10_fitAlone_8 rfl ?_
  refine gq_getr (pc := 9) dX10_fitAlone_9 fl_X10_35_10 sh_25 rfl ?_
  refine gq_iconst (pc := 12) dX10_fitAlone_12 kc_2 ?_
  refine gq_iload_n (pc := 13) dX10_fitAlone_13 rfl ?_
  refine gq_imul (pc := 14) dX10_fitAlone_14 ?_
  refine gq_iconst (pc := 15) dX10_fitAlone_15 kc_1 ?_
  refine gq_iadd (pc := 16) dX10_fitAlone_16 ?_
  refine gq_iconst (pc := 17) dX10_fitAlone_17 kc_m1 ?_
  refine kq_ast6 (pw := 25) (pc := 18) (by decide) dX10_fitAlone_18 (ge_nadd (ge_nmul kl_2 hw) kl_1) (by omega) (by omega) ?_
  exact gq_vret (pc := 19) rfl dX10_fitAlone_19 ⟨rfl, rfl⟩
set_option maxHeartbeats 400000 in
theorem k_addEye {a b d : Int32} {E : Nat} (hE : E < 8) (e2 : r 2 = nI E) : ge_N X ge_SH YX10_addEye 0 [.ref (ge_ad X.1 25), .int a, .int b, .int d] (ge_k g 25 r x hb) (some (.int (nI E))) (ge_k g 25 (upd (p_addE r E a b d) 2 (nI (E + 1))) x hb) := by
  refine gq_ofB (l := [(0, .ref (ge_ad X.1 25)), (1, .int a), (2, .int b), (3, .int d)]) (by decide) (Nat.le_of_ble_eq_true rfl) rfl ?_
  refine gq_aload_n (pc := 0) dX10_addEye_0 rfl ?_
  refine gq_getr (pc := 1) dX10_addEye_1 fl_X10_23_10 sh_25 rfl ?_
  refine gq_aload_n (pc := 4) dX10_addEye_4 rfl ?_
  refine kq_get11 (pw := 25) (pc := 5) (by decide) dX10_addEye_5 fl_X10_63_10 ?_
  refine gq_iload_n (pc := 8) dX10_addEye_8 rfl ?_
  refine kq_ast2 (pw := 25) (pc := 9) (by decide) dX10_addEye_9 (by (repeat rw [p_lo_ue _ _ _ _ _ (show 2 < 18 by omega)]); exact e2) (by first | decide | omega) ?_
  refine gq_aload_n (pc := 10) dX10_addEye_10 rfl ?_
  refine gq_getr (pc := 11) dX10_addEye_11 fl_X10_26_10 sh_25 rfl ?_
  refine gq_aload_n (pc := 14) dX10_addEye_14 rfl ?_
  refine kq_get11 (pw := 25) (pc := 15) (by decide) dX10_addEye_15 fl_X10_63_10 ?_
  refine gq_iload_n (pc := 18) dX10_addEye_18 rfl ?_
  refine kq_ast3 (pw := 25) (pc := 19) (by decide) dX10_addEye_19 (by (repeat rw [p_lo_ue _ _ _ _ _ (show 2 < 18 by omega)]); exact e2) (by first | decide | omega) ?_
  refine gq_aload_n (pc := 20) dX10_addEye_20 rfl ?_
  refine gq_getr (pc := 21) dX10_addEye_21 fl_X10_29_10 sh_25 rfl ?_
  refine gq_aload_n (pc := 24) dX10_addEye_24 rfl ?_
  refine kq_get11 (pw := 25) (pc := 25) (by decide) dX10_addEye_25 fl_X10_63_10 ?_
  refine gq_iload_n (pc := 28) dX10_addEye_28 rfl ?_
  refine kq_ast4 (pw := 25) (pc := 29) (by decide) dX10_addEye_29 (by (repeat rw [p_lo_ue _ _ _ _ _ (show 2 < 18 by omega)]); exact e2) (by first | decide | omega) ?_
  refine gq_aload_n (pc := 30) dX10_addEye_30 rfl ?_
  refine gq_getr (pc := 31) dX10_addEye_31 fl_X10_32_10 sh_25 rfl ?_
  refine gq_aload_n (pc := 34) dX10_addEye_34 rfl ?_
  refine kq_get11 (pw := 25) (pc := 35) (by decide) dX10_addEye_35 fl_X10_63_10 ?_
  refine gq_iconst (pc := 38) dX10_addEye_38 kc_0 ?_
  refine kq_ast5 (pw := 25) (pc := 39) (by decide) dX10_addEye_39 (by (repeat rw [p_lo_ue _ _ _ _ _ (show 2 < 18 by omega)]); exact e2) (by first | decide | omega) ?_
  refine gq_aload_n (pc := 40) dX10_addEye_40 rfl ?_
  refine gq_dup (pc := 41) dX10_addEye_41 rfl ?_
  refine kq_get11 (pw := 25) (pc := 42) (by decide) dX10_addEye_42 fl_X10_63_10 ?_
  refine gq_iconst (pc := 45) dX10_addEye_45 kc_1 ?_
  rw [show (p_ue (p_ue (p_ue (p_ue r E 0 a) E 1 b) E 2 d) E 3 0) 2 = nI E from (by (repeat rw [p_lo_ue _ _ _ _ _ (show 2 < 18 by omega)]); exact e2)]
  refine gq_iadd (pc := 46) dX10_addEye_46 ?_
  rw [nI_1]
  refine kq_put11 (pw := 25) (pc := 47) (by decide) dX10_addEye_47 fp_X10_63_10 ?_
  refine gq_aload_n (pc := 50) dX10_addEye_50 rfl ?_
  refine kq_get11 (pw := 25) (pc := 51) (by decide) dX10_addEye_51 fl_X10_63_10 ?_
  refine gq_iconst (pc := 54) dX10_addEye_54 kc_1 ?_
  refine gq_isub (pc := 55) dX10_addEye_55 ?_
  exact gq_iret (pc := 56) rfl dX10_addEye_56 ⟨by show some (Value.int (nI (E + 1) - 1)) = _; rw [nI_pred], rfl⟩
set_option maxHeartbeats 400000 in
theorem k_addWearer {V : Nat} (hV : V < 6) (e3 : r 3 = nI V) : ge_N X ge_SH YX10_addWearer 0 [.ref (ge_ad X.1 25)] (ge_k g 25 r x hb) (some (.int (nI V))) (ge_k g 25 (upd (p_addW r V) 3 (nI (V + 1))) x hb) := by
  refine gq_ofB (l := [(0, .ref (ge_ad X.1 25))]) (by decide) (Nat.le_of_ble_eq_true rfl) rfl ?_
  refine gq_aload_n (pc := 0) dX10_addWearer_0 rfl ?_
  refine gq_getr (pc := 1) dX10_addWearer_1 fl_X10_35_10 sh_25 rfl ?_
  refine gq_iconst (pc := 4) dX10_addWearer_4 kc_2 ?_
  refine gq_aload_n (pc := 5) dX10_addWearer_5 rfl ?_
  refine kq_get12 (pw := 25) (pc := 6) (by decide) dX10_addWearer_6 fl_X10_66_10 ?_
  refine gq_imul (pc := 9) dX10_addWearer_9 ?_
  refine gq_iconst (pc := 10) dX10_addWearer_10 kc_0 ?_
  refine gq_iadd (pc := 11) dX10_addWearer_11 ?_
  refine gq_iconst (pc := 12) dX10_addWearer_12 kc_m1 ?_
  refine kq_ast6 (pw := 25) (pc := 13) (by decide) dX10_addWearer_13 (ge_nadd (ge_nmul kl_2 (by (repeat rw [p_lo_uo _ _ _ _ _ (show 3 < 50 by omega)]); exact e3)) kl_0) (by omega) (by omega) ?_
  refine gq_aload_n (pc := 14) dX10_addWearer_14 rfl ?_
  refine gq_getr (pc := 15) dX10_addWearer_15 fl_X10_35_10 sh_25 rfl ?_
  refine gq_iconst (pc := 18) dX10_addWearer_18 kc_2 ?_
  refine gq_aload_n (pc := 19) dX10_addWearer_19 rfl ?_
  refine kq_get12 (pw := 25) (pc := 20) (by decide) dX10_addWearer_20 fl_X10_66_10 ?_
  refine gq_imul (pc := 23) dX10_addWearer_23 ?_
  refine gq_iconst (pc := 24) dX10_addWearer_24 kc_1 ?_
  refine gq_iadd (pc := 25) dX10_addWearer_25 ?_
  refine gq_iconst (pc := 26) dX10_addWearer_26 kc_m1 ?_
  refine kq_ast6 (pw := 25) (pc := 27) (by decide) dX10_addWearer_27 (ge_nadd (ge_nmul kl_2 (by (repeat rw [p_lo_uo _ _ _ _ _ (show 3 < 50 by omega)]); exact e3)) kl_1) (by omega) (by omega) ?_
  refine gq_aload_n (pc := 28) dX10_addWearer_28 rfl ?_
  refine gq_getr (pc := 29) dX10_addWearer_29 fl_X10_38_10 sh_25 rfl ?_
  refine gq_aload_n (pc := 32) dX10_addWearer_32 rfl ?_
  refine kq_get12 (pw := 25) (pc := 33) (by decide) dX10_addWearer_33 fl_X10_66_10 ?_
  refine gq_bipush (pc := 36) dX10_addWearer_36 kb_20 ?_
  refine kq_ast7 (pw := 25) (pc := 38) (by decide) dX10_addWearer_38 (by (repeat rw [p_lo_uo _ _ _ _ _ (show 3 < 50 by omega)]); exact e3) (by first | decide | omega) ?_
  refine gq_aload_n (pc := 39) dX10_addWearer_39 rfl ?_
  refine gq_getr (pc := 40) dX10_addWearer_40 fl_X10_41_10 sh_25 rfl ?_
  refine gq_aload_n (pc := 43) dX10_addWearer_43 rfl ?_
  refine kq_get12 (pw := 25) (pc := 44) (by decide) dX10_addWearer_44 fl_X10_66_10 ?_
  refine gq_iconst (pc := 47) dX10_addWearer_47 kc_0 ?_
  refine kq_ast8 (pw := 25) (pc := 48) (by decide) dX10_addWearer_48 (by (repeat rw [p_lo_uo _ _ _ _ _ (show 3 < 50 by omega)]); exact e3) (by first | decide | omega) ?_
  refine gq_aload_n (pc := 49) dX10_addWearer_49 rfl ?_
  refine gq_dup (pc := 50) dX10_addWearer_50 rfl ?_
  refine kq_get12 (pw := 25) (pc := 51) (by decide) dX10_addWearer_51 fl_X10_66_10 ?_
  refine gq_iconst (pc := 54) dX10_addWearer_54 kc_1 ?_
  rw [show (p_uo (p_uo (p_uo (p_uo r V 0 (-1)) V 1 (-1)) V 2 20) V 3 0) 3 = nI V from (by (repeat rw [p_lo_uo _ _ _ _ _ (show 3 < 50 by omega)]); exact e3)]
  refine gq_iadd (pc := 55) dX10_addWearer_55 ?_
  rw [nI_1]
  refine kq_put12 (pw := 25) (pc := 56) (by decide) dX10_addWearer_56 fp_X10_66_10 ?_
  refine gq_aload_n (pc := 59) dX10_addWearer_59 rfl ?_
  refine kq_get12 (pw := 25) (pc := 60) (by decide) dX10_addWearer_60 fl_X10_66_10 ?_
  refine gq_iconst (pc := 63) dX10_addWearer_63 kc_1 ?_
  refine gq_isub (pc := 64) dX10_addWearer_64 ?_
  exact gq_iret (pc := 65) rfl dX10_addWearer_65 ⟨by show some (Value.int (nI (V + 1) - 1)) = _; rw [nI_pred], rfl⟩
set_option maxHeartbeats 1000000 in
theorem k_seenW_35 {V : Nat} (hV : V ≤ 6) (e3 : r 3 = nI V) : ge_N X ge_SH YX10_seenByAnybody 0 [.ref (ge_ad X.1 35)] (ge_k g 35 r x hb) (some (.int (p_sn r V))) (ge_k g 35 r x hb) := by
  refine gq_ofB (l := [(0, .ref (ge_ad X.1 35))]) (by decide) (Nat.le_of_ble_eq_true rfl) rfl ?_
  have key : ∀ (n i : Nat), n = V - i → i ≤ V → ge_B X ge_SH YX10_seenByAnybody 0 (fun v2 g2 => v2 = some (.int (p_sn r V)) ∧ g2 = (ge_k g 35 r x hb)) 4 [(2, .int (nI i)), (1, .int (p_sn r i)), (0, .ref (ge_ad X.1 35))] [] (ge_k g 35 r x hb) := by
    intro n
    induction n using Nat.strongRecOn with
    | ind n ih =>
      intro i hn hi
      refine gq_iload_n (pc := 4) dX10_seenByAnybody_4 rfl ?_
      refine gq_aload_n (pc := 5) dX10_seenByAnybody_5 rfl ?_
      refine kq_get12 (pw := 35) (pc := 6) (by decide) dX10_seenByAnybody_6 fl_X10_66_10 ?_
      rw [e3]
      refine gq_ic_ge (pc := 9) 27 dX10_seenByAnybody_9 (by decide) (fun h_9 => ?_) (fun h_9 => ?_)
      · have hiV : i = V := by have := (nI_leI (by omega) (by omega)).mp h_9; omega
        subst hiV
        refine gq_iload_n (pc := 27) dX10_seenByAnybody_27 rfl ?_
        exact gq_iret (pc := 28) rfl dX10_seenByAnybody_28 ⟨rfl, rfl⟩
      · have hiV : i < V := Nat.lt_of_not_le fun z => h_9 ((nI_leI (by omega) (by omega)).mpr z)
        refine gq_iload_n (pc := 12) dX10_seenByAnybody_12 rfl ?_
        refine gq_aload_n (pc := 13) dX10_seenByAnybody_13 rfl ?_
        refine gq_getr (pc := 14) dX10_seenByAnybody_14 fl_X10_41_10 sh_35 rfl ?_
        refine gq_iload_n (pc := 17) dX10_seenByAnybody_17 rfl ?_
        refine kq_ald8 (pw := 35) (pc := 18) (by decide) dX10_seenByAnybody_18 (by first | assumption | rfl) (by first | decide | omega) ?_
        refine gq_ior (pc := 19) dX10_seenByAnybody_19 ?_
        refine gq_istore_n (pc := 20) (l' := [(1, _), (2, _), (0, _)]) dX10_seenByAnybody_20 (by decide) rfl ?_
        refine gq_iinc (pc := 21) (l' := [(2, _), (1, _), (0, _)]) dX10_seenByAnybody_21 rfl (ge_inc1 i) (by decide) rfl ?_
        refine gq_goto (pc := 24) 4 dX10_seenByAnybody_24 (by decide) ?_
        exact ih (V - (i + 1)) (by omega) (i + 1) rfl (by omega)
  refine gq_iconst (pc := 0) dX10_seenByAnybody_0 kc_0 ?_
  refine gq_istore_n (pc := 1) (l' := [(1, _), (0, _)]) dX10_seenByAnybody_1 (by decide) rfl ?_
  refine gq_iconst (pc := 2) dX10_seenByAnybody_2 kc_0 ?_
  refine gq_istore_n (pc := 3) (l' := [(2, _), (1, _), (0, _)]) dX10_seenByAnybody_3 (by decide) rfl ?_
  exact key V 0 rfl (Nat.zero_le _)
set_option maxHeartbeats 1000000 in
theorem k_bearsW_35 {V : Nat} (hV : V ≤ 6) (e3 : r 3 = nI V) : ge_N X ge_SH YX10_bearsOfAll 0 [.ref (ge_ad X.1 35)] (ge_k g 35 r x hb) (some (.int (p_bs r V))) (ge_k g 35 r x hb) := by
  refine gq_ofB (l := [(0, .ref (ge_ad X.1 35))]) (by decide) (Nat.le_of_ble_eq_true rfl) rfl ?_
  have key : ∀ (n i : Nat), n = V - i → i ≤ V → ge_B X ge_SH YX10_bearsOfAll 0 (fun v2 g2 => v2 = some (.int (p_bs r V)) ∧ g2 = (ge_k g 35 r x hb)) 4 [(2, .int (nI i)), (1, .int (p_bs r i)), (0, .ref (ge_ad X.1 35))] [] (ge_k g 35 r x hb) := by
    intro n
    induction n using Nat.strongRecOn with
    | ind n ih =>
      intro i hn hi
      refine gq_iload_n (pc := 4) dX10_bearsOfAll_4 rfl ?_
      refine gq_aload_n (pc := 5) dX10_bearsOfAll_5 rfl ?_
      refine kq_get12 (pw := 35) (pc := 6) (by decide) dX10_bearsOfAll_6 fl_X10_66_10 ?_
      rw [e3]
      refine gq_ic_ge (pc := 9) 27 dX10_bearsOfAll_9 (by decide) (fun h_9 => ?_) (fun h_9 => ?_)
      · have hiV : i = V := by have := (nI_leI (by omega) (by omega)).mp h_9; omega
        subst hiV
        refine gq_iload_n (pc := 27) dX10_bearsOfAll_27 rfl ?_
        exact gq_iret (pc := 28) rfl dX10_bearsOfAll_28 ⟨rfl, rfl⟩
      · have hiV : i < V := Nat.lt_of_not_le fun z => h_9 ((nI_leI (by omega) (by omega)).mpr z)
        refine gq_iload_n (pc := 12) dX10_bearsOfAll_12 rfl ?_
        refine gq_aload_n (pc := 13) dX10_bearsOfAll_13 rfl ?_
        refine gq_getr (pc := 14) dX10_bearsOfAll_14 fl_X10_38_10 sh_35 rfl ?_
        refine gq_iload_n (pc := 17) dX10_bearsOfAll_17 rfl ?_
        refine kq_ald7 (pw := 35) (pc := 18) (by decide) dX10_bearsOfAll_18 (by first | assumption | rfl) (by first | decide | omega) ?_
        refine gq_iadd (pc := 19) dX10_bearsOfAll_19 ?_
        refine gq_istore_n (pc := 20) (l' := [(1, _), (2, _), (0, _)]) dX10_bearsOfAll_20 (by decide) rfl ?_
        refine gq_iinc (pc := 21) (l' := [(2, _), (1, _), (0, _)]) dX10_bearsOfAll_21 rfl (ge_inc1 i) (by decide) rfl ?_
        refine gq_goto (pc := 24) 4 dX10_bearsOfAll_24 (by decide) ?_
        exact ih (V - (i + 1)) (by omega) (i + 1) rfl (by omega)
  refine gq_iconst (pc := 0) dX10_bearsOfAll_0 kc_0 ?_
  refine gq_istore_n (pc := 1) (l' := [(1, _), (0, _)]) dX10_bearsOfAll_1 (by decide) rfl ?_
  refine gq_iconst (pc := 2) dX10_bearsOfAll_2 kc_0 ?_
  refine gq_istore_n (pc := 3) (l' := [(2, _), (1, _), (0, _)]) dX10_bearsOfAll_3 (by decide) rfl ?_
  exact key V 0 rfl (Nat.zero_le _)
set_option maxHeartbeats 1000000 in
theorem k_wornE_35 {V E : Nat} (hV : V ≤ 6) (e3 : r 3 = nI V) (hE : E ≤ 8) (e2 : r 2 = nI E) : ge_N X ge_SH YX10_wornEyes 1 [.ref (ge_ad X.1 35)] (ge_k g 35 r x hb) (some (.int (p_we r V E))) (ge_k g 35 r x hb) := by
  refine gq_ofB (l := [(0, .ref (ge_ad X.1 35))]) (by decide) (Nat.le_of_ble_eq_true rfl) rfl ?_
  have key : ∀ (n i : Nat), n = E - i → i ≤ E → ge_B X ge_SH YX10_wornEyes 1 (fun v2 g2 => v2 = some (.int (p_we r V E)) ∧ g2 = (ge_k g 35 r x hb)) 4 [(2, .int (nI i)), (1, .int (p_we r V i)), (0, .ref (ge_ad X.1 35))] [] (ge_k g 35 r x hb) := by
    intro n
    induction n using Nat.strongRecOn with
    | ind n ih =>
      intro i hn hi
      refine gq_iload_n (pc := 4) dX10_wornEyes_4 rfl ?_
      refine gq_aload_n (pc := 5) dX10_wornEyes_5 rfl ?_
      refine kq_get11 (pw := 35) (pc := 6) (by decide) dX10_wornEyes_6 fl_X10_63_10 ?_
      rw [e2]
      refine gq_ic_ge (pc := 9) 32 dX10_wornEyes_9 (by decide) (fun h_9 => ?_) (fun h_9 => ?_)
      · have hiV : i = E := by have := (nI_leI (by omega) (by omega)).mp h_9; omega
        subst hiV
        refine gq_iload_n (pc := 32) dX10_wornEyes_32 rfl ?_
        exact gq_iret (pc := 33) rfl dX10_wornEyes_33 ⟨rfl, rfl⟩
      · have hiV : i < E := Nat.lt_of_not_le fun z => h_9 ((nI_leI (by omega) (by omega)).mpr z)
        refine gq_aload_n (pc := 12) dX10_wornEyes_12 rfl ?_
        refine gq_iload_n (pc := 13) dX10_wornEyes_13 rfl ?_
        refine gq_rV1i (pc := 14) dX10_wornEyes_14 cv_X10_82 sh_35 (k_sock_35 hV e3) ⟨by decide, by decide⟩ rfl rfl (Nat.le_of_ble_eq_true rfl) ?_
        refine gq_if_lt (pc := 17) 26 dX10_wornEyes_17 (by decide) (fun h_17 => ?_) (fun h_17 => ?_)
        · have hw1 : p_we r V i = p_we r V (i + 1) := by rw [p_we_s, if_pos h_17]
          rw [hw1]
          refine gq_iinc (pc := 26) (l' := [(2, _), (1, _), (0, _)]) dX10_wornEyes_26 rfl (ge_inc1 i) (by decide) rfl ?_
          refine gq_goto (pc := 29) 4 dX10_wornEyes_29 (by decide) ?_
          refine gq_sub [0, 1, 2] rfl ?_
          exact ih (E - (i + 1)) (by omega) (i + 1) rfl (by omega)
        · have hw1 : p_we r V i ||| ((1 : Int32) <<< (nI i &&& 31)) = p_we r V (i + 1) := by rw [p_we_s, if_neg h_17]
          refine gq_iload_n (pc := 20) dX10_wornEyes_20 rfl ?_
          refine gq_iconst (pc := 21) dX10_wornEyes_21 kc_1 ?_
          refine gq_iload_n (pc := 22) dX10_wornEyes_22 rfl ?_
          refine gq_ishl (pc := 23) dX10_wornEyes_23 ?_
          refine gq_ior (pc := 24) dX10_wornEyes_24 ?_
          rw [hw1]
          refine gq_istore_n (pc := 25) (l' := [(1, _), (2, _), (0, _)]) dX10_wornEyes_25 (by decide) rfl ?_
          refine gq_iinc (pc := 26) (l' := [(2, _), (1, _), (0, _)]) dX10_wornEyes_26 rfl (ge_inc1 i) (by decide) rfl ?_
          refine gq_goto (pc := 29) 4 dX10_wornEyes_29 (by decide) ?_
          refine gq_sub [0, 1, 2] rfl ?_
          exact ih (E - (i + 1)) (by omega) (i + 1) rfl (by omega)
  refine gq_iconst (pc := 0) dX10_wornEyes_0 kc_0 ?_
  refine gq_istore_n (pc := 1) (l' := [(1, _), (0, _)]) dX10_wornEyes_1 (by decide) rfl ?_
  refine gq_iconst (pc := 2) dX10_wornEyes_2 kc_0 ?_
  refine gq_istore_n (pc := 3) (l' := [(2, _), (1, _), (0, _)]) dX10_wornEyes_3 (by decide) rfl ?_
  exact key E 0 rfl (Nat.zero_le _)
set_option maxHeartbeats 1000000 in
theorem k_mostH_35 {V : Nat} (hV : V ≤ 6) (e3 : r 3 = nI V) : ge_N X ge_SH YX10_mostHeeding 1 [.ref (ge_ad X.1 35)] (ge_k g 35 r x hb) (some (.int (nI (p_mm hb V 10)))) (ge_k g 35 r x hb) := by
  refine gq_ofB (l := [(0, .ref (ge_ad X.1 35))]) (by decide) (Nat.le_of_ble_eq_true rfl) rfl ?_
  have key : ∀ (n i : Nat), n = 10 - i → i ≤ 10 → ge_B X ge_SH YX10_mostHeeding 1 (fun v2 g2 => v2 = some (.int (nI (p_mm hb V 10))) ∧ g2 = (ge_k g 35 r x hb)) 4 [(2, .int (nI i)), (1, .int (nI (p_mm hb V i))), (0, .ref (ge_ad X.1 35))] [] (ge_k g 35 r x hb) := by
    intro n
    induction n using Nat.strongRecOn with
    | ind n ih =>
      intro i hn hi
      refine gq_iload_n (pc := 4) dX10_mostHeeding_4 rfl ?_
      refine gq_bipush (pc := 5) dX10_mostHeeding_5 kb_10 ?_
      refine gq_ic_ge (pc := 7) 56 dX10_mostHeeding_7 (by decide) (fun h_7 => ?_) (fun h_7 => ?_)
      · have hi10 : i = 10 := by have := (nI_leI (a := 10) (by omega) (by omega)).mp h_7; omega
        subst hi10
        refine gq_iload_n (pc := 56) dX10_mostHeeding_56 rfl ?_
        exact gq_iret (pc := 57) rfl dX10_mostHeeding_57 ⟨rfl, rfl⟩
      · have hi10 : i < 10 := Nat.lt_of_not_le fun z => h_7 ((nI_leI (a := 10) (by omega) (by omega)).mpr z)
        have inner : ∀ (n2 w : Nat), n2 = V - w → w ≤ V → ge_B X ge_SH YX10_mostHeeding 1 (fun v2 g2 => v2 = some (.int (nI (p_mm hb V 10))) ∧ g2 = (ge_k g 35 r x hb)) 15 [(4, .int (nI w)), (3, .int (nI (p_mc hb (nI i) w))), (2, .int (nI i)), (1, .int (nI (p_mm hb V i))), (0, .ref (ge_ad X.1 35))] [] (ge_k g 35 r x hb) := by
          intro n2
          induction n2 using Nat.strongRecOn with
          | ind n2 ih2 =>
            intro w hn2 hw
            refine gq_iload (pc := 15) dX10_mostHeeding_15 rfl ?_
            refine gq_aload_n (pc := 17) dX10_mostHeeding_17 rfl ?_
            refine kq_get12 (pw := 35) (pc := 18) (by decide) dX10_mostHeeding_18 fl_X10_66_10 ?_
            rw [e3]
            refine gq_ic_ge (pc := 21) 44 dX10_mostHeeding_21 (by decide) (fun h_21 => ?_) (fun h_21 => ?_)
            · have hwV : w = V := by have := (nI_leI (by omega) (by omega)).mp h_21; omega
              subst hwV
              refine gq_iload_n (pc := 44) dX10_mostHeeding_44 rfl ?_
              refine gq_iload_n (pc := 45) dX10_mostHeeding_45 rfl ?_
              refine gq_rS2i (pc := 46) dX10_mostHeeding_46 cs_X10_130 (k_max _ _) ⟨by decide, by decide⟩ (Nat.le_of_ble_eq_true rfl) ?_
              rw [p_max_nI (by have := p_mm_le hb w i; omega) (by have := p_mc_le hb (nI i) w; omega)]
              refine gq_istore_n (pc := 49) (l' := [(1, _), (4, _), (3, _), (2, _), (0, _)]) dX10_mostHeeding_49 (by decide) rfl ?_
              refine gq_iinc (pc := 50) (l' := [(2, _), (1, _), (4, _), (3, _), (0, _)]) dX10_mostHeeding_50 rfl (ge_inc1 i) (by decide) rfl ?_
              refine gq_goto (pc := 53) 4 dX10_mostHeeding_53 (by decide) ?_
              refine gq_sub [0, 1, 4] rfl ?_
              exact ih (10 - (i + 1)) (by omega) (i + 1) rfl (by omega)
            · have hwV : w < V := Nat.lt_of_not_le fun z => h_21 ((nI_leI (by omega) (by omega)).mpr z)
              refine gq_aload_n (pc := 24) dX10_mostHeeding_24 rfl ?_
              refine gq_getr (pc := 25) dX10_mostHeeding_25 fl_X10_44_10 sh_35 rfl ?_
              refine gq_iload (pc := 28) dX10_mostHeeding_28 rfl ?_
              refine kq_ald9 (pw := 35) (pc := 30) (by decide) dX10_mostHeeding_30 (by first | assumption | rfl) (by first | decide | omega) ?_
              refine gq_iload_n (pc := 31) dX10_mostHeeding_31 rfl ?_
              refine gq_ic_ne (pc := 32) 38 dX10_mostHeeding_32 (by decide) (fun h_32 => ?_) (fun h_32 => ?_)
              · have hm1 : p_mc hb (nI i) w = p_mc hb (nI i) (w + 1) := by show _ = ite _ _ _; rw [if_neg h_32]
                rw [hm1]
                refine gq_iinc (pc := 38) (l' := [(4, _), (3, _), (2, _), (1, _), (0, _)]) dX10_mostHeeding_38 rfl (ge_inc1 w) (by decide) rfl ?_
                refine gq_goto (pc := 41) 15 dX10_mostHeeding_41 (by decide) ?_
                refine gq_sub [0, 1, 2, 3, 4] rfl ?_
                exact ih2 (V - (w + 1)) (by omega) (w + 1) rfl (by omega)
              · have hm1 : p_mc hb (nI i) w + 1 = p_mc hb (nI i) (w + 1) := by show _ = ite _ _ _; rw [if_pos h_32]
                refine gq_iinc (pc := 35) (l' := [(3, _), (4, _), (2, _), (1, _), (0, _)]) dX10_mostHeeding_35 rfl (by rw [ge_inc1, hm1]) (by decide) rfl ?_
                refine gq_iinc (pc := 38) (l' := [(4, _), (3, _), (2, _), (1, _), (0, _)]) dX10_mostHeeding_38 rfl (ge_inc1 w) (by decide) rfl ?_
                refine gq_goto (pc := 41) 15 dX10_mostHeeding_41 (by decide) ?_
                refine gq_sub [0, 1, 2, 3, 4] rfl ?_
                exact ih2 (V - (w + 1)) (by omega) (w + 1) rfl (by omega)
        refine gq_iconst (pc := 10) dX10_mostHeeding_10 kc_0 ?_
        refine gq_istore_n (pc := 11) (l' := [(3, _), (2, _), (1, _), (0, _)]) dX10_mostHeeding_11 (by decide) rfl ?_
        refine gq_iconst (pc := 12) dX10_mostHeeding_12 kc_0 ?_
        refine gq_istore (pc := 13) (l' := [(4, _), (3, _), (2, _), (1, _), (0, _)]) dX10_mostHeeding_13 (by decide) rfl ?_
        exact inner V 0 rfl (Nat.zero_le _)
  refine gq_iconst (pc := 0) dX10_mostHeeding_0 kc_0 ?_
  refine gq_istore_n (pc := 1) (l' := [(1, _), (0, _)]) dX10_mostHeeding_1 (by decide) rfl ?_
  refine gq_iconst (pc := 2) dX10_mostHeeding_2 kc_0 ?_
  refine gq_istore_n (pc := 3) (l' := [(2, _), (1, _), (0, _)]) dX10_mostHeeding_3 (by decide) rfl ?_
  exact key 10 0 rfl (Nat.zero_le _)
set_option maxHeartbeats 400000 in
theorem k_has_35 {w a : Int32} {i k : Nat} (hw : w = nI i) (hi : i < 6) (hk : a = nI k) (hk4 : k < 4) : ge_N X ge_SH YX10_wearerHas 0 [.ref (ge_ad X.1 35), .int w, .int a] (ge_k g 35 r x hb) (some (.int (p_o r i k))) (ge_k g 35 r x hb) := by
  refine gq_ofB (l := [(0, .ref (ge_ad X.1 35)), (1, .int w), (2, .int a)]) (by decide) (Nat.le_of_ble_eq_true rfl) rfl ?_
  refine gq_iload_n (pc := 0) dX10_wearerHas_0 rfl ?_
  rcases (by omega : k = 0 ∨ k = 1 ∨ k = 2 ∨ k = 3) with rfl | rfl | rfl | rfl
  · refine gq_tabI (pc := 1) (off := 27) 28 dX10_wearerHas_1 (by rw [hk]; decide) (by rw [hk]; decide) (by rw [hk]; decide) (by decide) ?_
    refine gq_aload_n (pc := 28) dX10_wearerHas_28 rfl ?_
    refine gq_getr (pc := 29) dX10_wearerHas_29 fl_X10_35_10 sh_35 rfl ?_
    refine gq_iconst (pc := 32) dX10_wearerHas_32 kc_2 ?_
    refine gq_iload_n (pc := 33) dX10_wearerHas_33 rfl ?_
    refine gq_imul (pc := 34) dX10_wearerHas_34 ?_
    refine gq_iconst (pc := 35) dX10_wearerHas_35 kc_0 ?_
    refine gq_iadd (pc := 36) dX10_wearerHas_36 ?_
    refine kq_ald6 (pw := 35) (pc := 37) (by decide) dX10_wearerHas_37 (ge_nadd (ge_nmul kl_2 hw) kl_0) (by omega) (by omega) ?_
    exact gq_iret (pc := 38) rfl dX10_wearerHas_38 ⟨rfl, rfl⟩
  · refine gq_tabI (pc := 1) (off := 38) 39 dX10_wearerHas_1 (by rw [hk]; decide) (by rw [hk]; decide) (by rw [hk]; decide) (by decide) ?_
    refine gq_aload_n (pc := 39) dX10_wearerHas_39 rfl ?_
    refine gq_getr (pc := 40) dX10_wearerHas_40 fl_X10_35_10 sh_35 rfl ?_
    refine gq_iconst (pc := 43) dX10_wearerHas_43 kc_2 ?_
    refine gq_iload_n (pc := 44) dX10_wearerHas_44 rfl ?_
    refine gq_imul (pc := 45) dX10_wearerHas_45 ?_
    refine gq_iconst (pc := 46) dX10_wearerHas_46 kc_1 ?_
    refine gq_iadd (pc := 47) dX10_wearerHas_47 ?_
    refine kq_ald6 (pw := 35) (pc := 48) (by decide) dX10_wearerHas_48 (ge_nadd (ge_nmul kl_2 hw) kl_1) (by omega) (by omega) ?_
    exact gq_iret (pc := 49) rfl dX10_wearerHas_49 ⟨rfl, rfl⟩
  · refine gq_tabI (pc := 1) (off := 49) 50 dX10_wearerHas_1 (by rw [hk]; decide) (by rw [hk]; decide) (by rw [hk]; decide) (by decide) ?_
    refine gq_aload_n (pc := 50) dX10_wearerHas_50 rfl ?_
    refine gq_getr (pc := 51) dX10_wearerHas_51 fl_X10_38_10 sh_35 rfl ?_
    refine gq_iload_n (pc := 54) dX10_wearerHas_54 rfl ?_
    refine kq_ald7 (pw := 35) (pc := 55) (by decide) dX10_wearerHas_55 hw (by first | decide | omega) ?_
    exact gq_iret (pc := 56) rfl dX10_wearerHas_56 ⟨rfl, rfl⟩
  · refine gq_tabO (pc := 1) 57 dX10_wearerHas_1 (by rw [hk]; decide) (by decide) ?_
    refine gq_aload_n (pc := 57) dX10_wearerHas_57 rfl ?_
    refine gq_getr (pc := 58) dX10_wearerHas_58 fl_X10_41_10 sh_35 rfl ?_
    refine gq_iload_n (pc := 61) dX10_wearerHas_61 rfl ?_
    refine kq_ald8 (pw := 35) (pc := 62) (by decide) dX10_wearerHas_62 hw (by first | decide | omega) ?_
    exact gq_iret (pc := 63) rfl dX10_wearerHas_63 ⟨rfl, rfl⟩
set_option maxHeartbeats 400000 in
theorem k_fit_35 {w s e : Int32} {i k V : Nat} (hV : V ≤ 6) (e3 : r 3 = nI V) (hw : w = nI i) (hi : i < 6) (hs : s = nI k) (hk : k < 2) : ge_N X ge_SH YX10_fit 2 [.ref (ge_ad X.1 35), .int w, .int s, .int e] (ge_k g 35 r x hb) (some (.int (p_o r i k))) (ge_k g 35 (p_uo (p_tf r e V) i k e) x hb) := by
  refine gq_ofB (l := [(0, .ref (ge_ad X.1 35)), (1, .int w), (2, .int s), (3, .int e)]) (by decide) (Nat.le_of_ble_eq_true rfl) rfl ?_
  refine gq_aload_n (pc := 0) dX10_fit_0 rfl ?_
  refine gq_getr (pc := 1) dX10_fit_1 fl_X10_35_10 sh_35 rfl ?_
  refine gq_iconst (pc := 4) dX10_fit_4 kc_2 ?_
  refine gq_iload_n (pc := 5) dX10_fit_5 rfl ?_
  refine gq_imul (pc := 6) dX10_fit_6 ?_
  refine gq_iload_n (pc := 7) dX10_fit_7 rfl ?_
  refine gq_iadd (pc := 8) dX10_fit_8 ?_
  refine kq_ald6 (pw := 35) (pc := 9) (by decide) dX10_fit_9 (ge_nadd (ge_nmul kl_2 hw) hs) (by omega) (by omega) ?_
  refine gq_istore (pc := 10) (l' := [(4, _), (0, _), (1, _), (2, _), (3, _)]) dX10_fit_10 (by decide) rfl ?_
  refine gq_aload_n (pc := 12) dX10_fit_12 rfl ?_
  refine gq_iload_n (pc := 13) dX10_fit_13 rfl ?_
  refine gq_rV1v (pc := 14) dX10_fit_14 cv_X10_78 sh_35 (k_tf_35 hV e3) ⟨by decide, by decide⟩ rfl rfl (Nat.le_of_ble_eq_true rfl) ?_
  refine gq_aload_n (pc := 17) dX10_fit_17 rfl ?_
  refine gq_getr (pc := 18) dX10_fit_18 fl_X10_35_10 sh_35 rfl ?_
  refine gq_iconst (pc := 21) dX10_fit_21 kc_2 ?_
  refine gq_iload_n (pc := 22) dX10_fit_22 rfl ?_
  refine gq_imul (pc := 23) dX10_fit_23 ?_
  refine gq_iload_n (pc := 24) dX10_fit_24 rfl ?_
  refine gq_iadd (pc := 25) dX10_fit_25 ?_
  refine gq_iload_n (pc := 26) dX10_fit_26 rfl ?_
  refine kq_ast6 (pw := 35) (pc := 27) (by decide) dX10_fit_27 (ge_nadd (ge_nmul kl_2 hw) hs) (by omega) (by omega) ?_
  refine gq_iload (pc := 28) dX10_fit_28 rfl ?_
  exact gq_iret (pc := 30) rfl dX10_fit_30 ⟨rfl, rfl⟩
set_option maxHeartbeats 400000 in
theorem k_fitA_35 {w e : Int32} {i V : Nat} (hV : V ≤ 6) (e3 : r 3 = nI V) (hw : w = nI i) (hi : i < 6) : ge_N X ge_SH YX10_fitAlone 3 [.ref (ge_ad X.1 35), .int w, .int e] (ge_k g 35 r x hb) none (ge_k g 35 (p_uo (p_uo (p_tf r e V) i 0 e) i 1 (-1)) x hb) := by
  refine gq_ofB (l := [(0, .ref (ge_ad X.1 35)), (1, .int w), (2, .int e)]) (by decide) (Nat.le_of_ble_eq_true rfl) rfl ?_
  refine gq_aload_n (pc := 0) dX10_fitAlone_0 rfl ?_
  refine gq_iload_n (pc := 1) dX10_fitAlone_1 rfl ?_
  refine gq_iconst (pc := 2) dX10_fitAlone_2 kc_0 ?_
  refine gq_iload_n (pc := 3) dX10_fitAlone_3 rfl ?_
  refine gq_rV3i (pc := 4) dX10_fitAlone_4 cv_X10_86 sh_35 (k_fit_35 hV e3 hw hi kl_0 (by omega)) ⟨by decide, by decide⟩ rfl rfl (Nat.le_of_ble_eq_true rfl) ?_
  refine gq_pop (pc := 7) dX10_fitAlone_7 rfl ?_
  refine gq_aload_n (pc := 8) dX10_fitAlone_8 rfl ?_
  refine gq_getr (pc := 9) dX10_fitAlone_9 fl_X10_35_10 sh_35 rfl ?_
  refine gq_iconst (pc := 12) dX10_fitAlone_12 kc_2 ?_
  refine gq_iload_n (pc := 13) dX10_fitAlone_13 rfl ?_
  refine gq_imul (pc := 14) dX10_fitAlone_14 ?_
  refine gq_iconst (pc := 15) dX10_fitAlone_15 kc_1 ?_
  refine gq_iadd (pc := 16) dX10_fitAlone_16 ?_
  refine gq_iconst (pc := 17) dX10_fitAlone_17 kc_m1 ?_
  refine kq_ast6 (pw := 35) (pc := 18) (by decide) dX10_fitAlone_18 (ge_nadd (ge_nmul kl_2 hw) kl_1) (by omega) (by omega) ?_
  exact gq_vret (pc := 19) rfl dX10_fitAlone_19 ⟨rfl, rfl⟩
end W10
