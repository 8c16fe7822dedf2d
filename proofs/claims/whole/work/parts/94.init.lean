section V0
def i0_0 : Nat → Int32 := (upd (fun _ => 0) 1 (nI 3))
def i0_1 : Nat → Int32 := (upd (upd (upd (fun _ => 0) 0 (-1)) 1 (-2)) 2 (-43))
def i0_2 : Nat → Int32 := (upd (upd (upd (fun _ => 0) 0 (-3)) 1 2) 2 (-37))
def i0_3 : Nat → Int32 := (upd (upd (upd (fun _ => 0) 14 1) 16 (-1)) 18 (-1))
def i0_4 : Nat → Int32 := (upd (upd (upd (upd (upd (upd (upd (upd (upd (upd (fun _ => 0) 0 0) 1 1) 2 2) 3 3) 4 4) 5 5) 6 6) 7 7) 8 8) 9 9)
def i0_5 : Nat → Int32 := (upd (upd (upd (upd (upd (upd (upd (upd (upd (upd (upd (upd (upd (fun _ => 0) 1 1) 6 (-1)) 7 (-1)) 8 0) 9 1) 10 2) 11 3) 12 4) 13 5) 14 6) 15 7) 16 8) 17 9)
/-- the numbers of all cells behind the constructors -/
def i0 : ge_G := fun p => if p = 13 ∨ p = 15 ∨ p = 20 ∨ p = 22 then i0_0 else if p = 14 ∨ p = 21 then i0_1 else if p = 16 ∨ p = 23 then i0_2 else if p = 25 ∨ p = 35 ∨ p = 45 then i0_3 else if p = 26 ∨ p = 36 ∨ p = 46 then i0_4 else if p = 77 then i0_5 else (fun _ => 0)
def x_L (a : Nat) (f : Nat → Nat) (a2 : Nat) (f2 : Nat → Nat) : List Nat := [a, f 1, f 2, f 3, f 4, f 5, f 6, f 7, f 8, f 9, f 10, f 11, f 12, f 13, f 14, f 15, f 16, f 17, f 18, f 19, f 20, f 21, f 22, f 23, f 24, f 25, f 26, f 27, f 28, f 29, f 30, f 31, f 32, f 33, f 34, f 35, f 36, f 37, f 38, f 39, f 40, f 41, f 42, f 43, f 44, f 45, f 46, f 47, f 48, f 49, f 50, f 51, f 52, f 53, f 54, f 55, f 56, f 57, f 58, f 59, f 60, f 61, f 62, f 63, f 64, f 65, f 66, f 67, f 68, f 69, f 70, f 71, f 72, f 73, f 74, f 75, a2, f2 1, f2 2, f2 3, f2 4, f2 5, f2 6, f2 7, f2 8, f2 9, f2 10]
def x_ad (L : List Nat) (k v : Nat → Nat) (z t p : Nat) : Nat := if p < 87 then L.getD p 0 else if p < 1010 then k (p - 1000) else if p < 1020 then v (p - 1010) else if p = 1020 then z else t
theorem q_up2 {h : Nat → Nat} {r0 r1 : Nat} : va_up (va_up (fun _ => none) 0 (some (h r0))) 1 (some (h r1)) = fun i => ([r0, r1][i]?).map h := by
  funext i
  match i with
  | 0 => rfl
  | 1 => rfl
  | n + 2 => rfl
theorem q_up4 {h : Nat → Nat} {r0 r1 r2 r3 : Nat} : va_up (va_up (va_up (va_up (fun _ => none) 0 (some (h r0))) 1 (some (h r1))) 2 (some (h r2))) 3 (some (h r3)) = fun i => ([r0, r1, r2, r3][i]?).map h := by
  funext i
  match i with
  | 0 => rfl
  | 1 => rfl
  | 2 => rfl
  | 3 => rfl
  | n + 4 => rfl
theorem q_up7 {h : Nat → Nat} {r0 r1 r2 r3 r4 r5 r6 : Nat} : va_up (va_up (va_up (va_up (va_up (va_up (va_up (fun _ => none) 0 (some (h r0))) 1 (some (h r1))) 2 (some (h r2))) 3 (some (h r3))) 4 (some (h r4))) 5 (some (h r5))) 6 (some (h r6)) = fun i => ([r0, r1, r2, r3, r4, r5, r6][i]?).map h := by
  funext i
  match i with
  | 0 => rfl
  | 1 => rfl
  | 2 => rfl
  | 3 => rfl
  | 4 => rfl
  | 5 => rfl
  | 6 => rfl
  | n + 7 => rfl
variable {Z : nw_Z} {a a2 z t : Nat} {f f2 k v : Nat → Nat} {H : Heap}
theorem q_at3 : (va_up (va_up (va_up (va_up (va_up (va_up (va_up (fun _ => none) 0 (some (f 4))) 1 (some (f 5))) 2 (some (f 6))) 3 (some (f 7))) 4 (some (f 8))) 5 (some (f 9))) 6 (some (f 10))) = fun i => (([4, 5, 6, 7, 8, 9, 10] : List Nat)[i]?).map (ge_ad (x_ad (x_L a f a2 f2) k v z t)) := q_up7 (h := ge_ad (x_ad (x_L a f a2 f2) k v z t)) (r0 := 4) (r1 := 5) (r2 := 6) (r3 := 7) (r4 := 8) (r5 := 9) (r6 := 10)
theorem q_at12 : (va_up (va_up (fun _ => none) 0 (some (f 13))) 1 (some (f 15))) = fun i => (([13, 15] : List Nat)[i]?).map (ge_ad (x_ad (x_L a f a2 f2) k v z t)) := q_up2 (h := ge_ad (x_ad (x_L a f a2 f2) k v z t)) (r0 := 13) (r1 := 15)
theorem q_at19 : (va_up (va_up (fun _ => none) 0 (some (f 20))) 1 (some (f 22))) = fun i => (([20, 22] : List Nat)[i]?).map (ge_ad (x_ad (x_L a f a2 f2) k v z t)) := q_up2 (h := ge_ad (x_ad (x_L a f a2 f2) k v z t)) (r0 := 20) (r1 := 22)
theorem q_at66 : (va_up (va_up (va_up (va_up (fun _ => none) 0 (some (f 67))) 1 (some (f 69))) 2 (some (f 71))) 3 (some (f 73))) = fun i => (([67, 69, 71, 73] : List Nat)[i]?).map (ge_ad (x_ad (x_L a f a2 f2) k v z t)) := q_up4 (h := ge_ad (x_ad (x_L a f a2 f2) k v z t)) (r0 := 67) (r1 := 69) (r2 := 71) (r3 := 73)
theorem e_0 : ((ge_ad (x_ad (x_L a f a2 f2) k v z t) 0, ge_e ((x_ad (x_L a f a2 f2) k v z t), Z) (i0 0) (.inl (11, [some (true, 3), some (true, 25), some (true, 35), some (true, 45), some (true, 11), some (true, 18), some (true, 55), some (true, 58), some (true, 60), some (true, 62), some (true, 64), some (true, 1), some (true, 66), some (true, 75), none]))) : Nat × va_E) = (a, .inr (11, [.ref (f 3), .ref (f 25), .ref (f 35), .ref (f 45), .ref (f 11), .ref (f 18), .ref (f 55), .ref (f 58), .ref (f 60), .ref (f 62), .ref (f 64), .ref (f 1), .ref (f 66), .ref (f 75), .int 0])) := by
  simp only [ge_e, ge_v, List.mapIdx_cons, List.mapIdx_nil, Nat.zero_add, Nat.reduceAdd]
  rfl
theorem e_1 : ((ge_ad (x_ad (x_L a f a2 f2) k v z t) 1, ge_e ((x_ad (x_L a f a2 f2) k v z t), Z) (i0 1) (.inl (7, [some (true, 2), none, none]))) : Nat × va_E) = ((f 1), .inr (7, [.ref (f 2), .int 0, .int 0])) := by
  simp only [ge_e, ge_v, List.mapIdx_cons, List.mapIdx_nil, Nat.zero_add, Nat.reduceAdd]
  rfl
theorem e_2 : ((ge_ad (x_ad (x_L a f a2 f2) k v z t) 2, ge_e ((x_ad (x_L a f a2 f2) k v z t), Z) (i0 2) (.inr (.inl 40))) : Nat × va_E) = ((f 2), .inl (Z.2.2.1, 40, .inl (fun _ => 0))) := rfl
theorem e_3 : ((ge_ad (x_ad (x_L a f a2 f2) k v z t) 3, ge_e ((x_ad (x_L a f a2 f2) k v z t), Z) (i0 3) (.inr (.inr (0, [4, 5, 6, 7, 8, 9, 10])))) : Nat × va_E) = ((f 3), .inl (Z.2.2.2 0, 7, .inr (.inr (.inr (.inr (va_up (va_up (va_up (va_up (va_up (va_up (va_up (fun _ => none) 0 (some (f 4))) 1 (some (f 5))) 2 (some (f 6))) 3 (some (f 7))) 4 (some (f 8))) 5 (some (f 9))) 6 (some (f 10)))))))) := by
  rw [q_at3 (a := a) (a2 := a2) (f2 := f2) (k := k) (v := v) (z := z) (t := t)]
  rfl
theorem e_4 : ((ge_ad (x_ad (x_L a f a2 f2) k v z t) 4, ge_e ((x_ad (x_L a f a2 f2) k v z t), Z) (i0 4) (.inl (1, [some (true, 1)]))) : Nat × va_E) = ((f 4), .inr (1, [.ref (f 1)])) := by
  simp only [ge_e, ge_v, List.mapIdx_cons, List.mapIdx_nil, Nat.zero_add, Nat.reduceAdd]
  rfl
theorem e_5 : ((ge_ad (x_ad (x_L a f a2 f2) k v z t) 5, ge_e ((x_ad (x_L a f a2 f2) k v z t), Z) (i0 5) (.inl (6, [some (true, 1)]))) : Nat × va_E) = ((f 5), .inr (6, [.ref (f 1)])) := by
  simp only [ge_e, ge_v, List.mapIdx_cons, List.mapIdx_nil, Nat.zero_add, Nat.reduceAdd]
  rfl
theorem e_6 : ((ge_ad (x_ad (x_L a f a2 f2) k v z t) 6, ge_e ((x_ad (x_L a f a2 f2) k v z t), Z) (i0 6) (.inl (2, [some (true, 1)]))) : Nat × va_E) = ((f 6), .inr (2, [.ref (f 1)])) := by
  simp only [ge_e, ge_v, List.mapIdx_cons, List.mapIdx_nil, Nat.zero_add, Nat.reduceAdd]
  rfl
theorem e_7 : ((ge_ad (x_ad (x_L a f a2 f2) k v z t) 7, ge_e ((x_ad (x_L a f a2 f2) k v z t), Z) (i0 7) (.inl (3, [some (true, 1)]))) : Nat × va_E) = ((f 7), .inr (3, [.ref (f 1)])) := by
  simp only [ge_e, ge_v, List.mapIdx_cons, List.mapIdx_nil, Nat.zero_add, Nat.reduceAdd]
  rfl
theorem e_8 : ((ge_ad (x_ad (x_L a f a2 f2) k v z t) 8, ge_e ((x_ad (x_L a f a2 f2) k v z t), Z) (i0 8) (.inl (0, [some (true, 1)]))) : Nat × va_E) = ((f 8), .inr (0, [.ref (f 1)])) := by
  simp only [ge_e, ge_v, List.mapIdx_cons, List.mapIdx_nil, Nat.zero_add, Nat.reduceAdd]
  rfl
theorem e_9 : ((ge_ad (x_ad (x_L a f a2 f2) k v z t) 9, ge_e ((x_ad (x_L a f a2 f2) k v z t), Z) (i0 9) (.inl (8, [some (true, 1)]))) : Nat × va_E) = ((f 9), .inr (8, [.ref (f 1)])) := by
  simp only [ge_e, ge_v, List.mapIdx_cons, List.mapIdx_nil, Nat.zero_add, Nat.reduceAdd]
  rfl
theorem e_10 : ((ge_ad (x_ad (x_L a f a2 f2) k v z t) 10, ge_e ((x_ad (x_L a f a2 f2) k v z t), Z) (i0 10) (.inl (5, [some (true, 1)]))) : Nat × va_E) = ((f 10), .inr (5, [.ref (f 1)])) := by
  simp only [ge_e, ge_v, List.mapIdx_cons, List.mapIdx_nil, Nat.zero_add, Nat.reduceAdd]
  rfl
theorem e_11 : ((ge_ad (x_ad (x_L a f a2 f2) k v z t) 11, ge_e ((x_ad (x_L a f a2 f2) k v z t), Z) (i0 11) (.inl (4, [some (true, 12), some (true, 17)]))) : Nat × va_E) = ((f 11), .inr (4, [.ref (f 12), .ref (f 17)])) := by
  simp only [ge_e, ge_v, List.mapIdx_cons, List.mapIdx_nil, Nat.zero_add, Nat.reduceAdd]
  rfl
theorem e_12 : ((ge_ad (x_ad (x_L a f a2 f2) k v z t) 12, ge_e ((x_ad (x_L a f a2 f2) k v z t), Z) (i0 12) (.inr (.inr (1, [13, 15])))) : Nat × va_E) = ((f 12), .inl (Z.2.2.2 1, 2, .inr (.inr (.inr (.inr (va_up (va_up (fun _ => none) 0 (some (f 13))) 1 (some (f 15)))))))) := by
  rw [q_at12 (a := a) (a2 := a2) (f2 := f2) (k := k) (v := v) (z := z) (t := t)]
  rfl
theorem e_13 : ((ge_ad (x_ad (x_L a f a2 f2) k v z t) 13, ge_e ((x_ad (x_L a f a2 f2) k v z t), Z) (i0 13) (.inl (7, [some (true, 14), none, none]))) : Nat × va_E) = ((f 13), .inr (7, [.ref (f 14), .int (nI 3), .int 0])) := by
  simp only [ge_e, ge_v, List.mapIdx_cons, List.mapIdx_nil, Nat.zero_add, Nat.reduceAdd]
  rfl
theorem e_14 : ((ge_ad (x_ad (x_L a f a2 f2) k v z t) 14, ge_e ((x_ad (x_L a f a2 f2) k v z t), Z) (i0 14) (.inr (.inl 50))) : Nat × va_E) = ((f 14), .inl (Z.2.2.1, 50, .inl (upd (upd (upd (fun _ => 0) 0 (-1)) 1 (-2)) 2 (-43)))) := rfl
theorem e_15 : ((ge_ad (x_ad (x_L a f a2 f2) k v z t) 15, ge_e ((x_ad (x_L a f a2 f2) k v z t), Z) (i0 15) (.inl (7, [some (true, 16), none, none]))) : Nat × va_E) = ((f 15), .inr (7, [.ref (f 16), .int (nI 3), .int 0])) := by
  simp only [ge_e, ge_v, List.mapIdx_cons, List.mapIdx_nil, Nat.zero_add, Nat.reduceAdd]
  rfl
theorem e_16 : ((ge_ad (x_ad (x_L a f a2 f2) k v z t) 16, ge_e ((x_ad (x_L a f a2 f2) k v z t), Z) (i0 16) (.inr (.inl 50))) : Nat × va_E) = ((f 16), .inl (Z.2.2.1, 50, .inl (upd (upd (upd (fun _ => 0) 0 (-3)) 1 2) 2 (-37)))) := rfl
theorem e_17 : ((ge_ad (x_ad (x_L a f a2 f2) k v z t) 17, ge_e ((x_ad (x_L a f a2 f2) k v z t), Z) (i0 17) (.inr (.inl 50))) : Nat × va_E) = ((f 17), .inl (Z.2.2.1, 50, .inl (fun _ => 0))) := rfl
theorem e_18 : ((ge_ad (x_ad (x_L a f a2 f2) k v z t) 18, ge_e ((x_ad (x_L a f a2 f2) k v z t), Z) (i0 18) (.inl (4, [some (true, 19), some (true, 24)]))) : Nat × va_E) = ((f 18), .inr (4, [.ref (f 19), .ref (f 24)])) := by
  simp only [ge_e, ge_v, List.mapIdx_cons, List.mapIdx_nil, Nat.zero_add, Nat.reduceAdd]
  rfl
theorem e_19 : ((ge_ad (x_ad (x_L a f a2 f2) k v z t) 19, ge_e ((x_ad (x_L a f a2 f2) k v z t), Z) (i0 19) (.inr (.inr (1, [20, 22])))) : Nat × va_E) = ((f 19), .inl (Z.2.2.2 1, 2, .inr (.inr (.inr (.inr (va_up (va_up (fun _ => none) 0 (some (f 20))) 1 (some (f 22)))))))) := by
  rw [q_at19 (a := a) (a2 := a2) (f2 := f2) (k := k) (v := v) (z := z) (t := t)]
  rfl
theorem e_20 : ((ge_ad (x_ad (x_L a f a2 f2) k v z t) 20, ge_e ((x_ad (x_L a f a2 f2) k v z t), Z) (i0 20) (.inl (7, [some (true, 21), none, none]))) : Nat × va_E) = ((f 20), .inr (7, [.ref (f 21), .int (nI 3), .int 0])) := by
  simp only [ge_e, ge_v, List.mapIdx_cons, List.mapIdx_nil, Nat.zero_add, Nat.reduceAdd]
  rfl
theorem e_21 : ((ge_ad (x_ad (x_L a f a2 f2) k v z t) 21, ge_e ((x_ad (x_L a f a2 f2) k v z t), Z) (i0 21) (.inr (.inl 50))) : Nat × va_E) = ((f 21), .inl (Z.2.2.1, 50, .inl (upd (upd (upd (fun _ => 0) 0 (-1)) 1 (-2)) 2 (-43)))) := rfl
theorem e_22 : ((ge_ad (x_ad (x_L a f a2 f2) k v z t) 22, ge_e ((x_ad (x_L a f a2 f2) k v z t), Z) (i0 22) (.inl (7, [some (true, 23), none, none]))) : Nat × va_E) = ((f 22), .inr (7, [.ref (f 23), .int (nI 3), .int 0])) := by
  simp only [ge_e, ge_v, List.mapIdx_cons, List.mapIdx_nil, Nat.zero_add, Nat.reduceAdd]
  rfl
theorem e_23 : ((ge_ad (x_ad (x_L a f a2 f2) k v z t) 23, ge_e ((x_ad (x_L a f a2 f2) k v z t), Z) (i0 23) (.inr (.inl 50))) : Nat × va_E) = ((f 23), .inl (Z.2.2.1, 50, .inl (upd (upd (upd (fun _ => 0) 0 (-3)) 1 2) 2 (-37)))) := rfl
theorem e_24 : ((ge_ad (x_ad (x_L a f a2 f2) k v z t) 24, ge_e ((x_ad (x_L a f a2 f2) k v z t), Z) (i0 24) (.inr (.inl 50))) : Nat × va_E) = ((f 24), .inl (Z.2.2.1, 50, .inl (fun _ => 0))) := rfl
theorem e_25 : ((ge_ad (x_ad (x_L a f a2 f2) k v z t) 25, ge_e ((x_ad (x_L a f a2 f2) k v z t), Z) (i0 25) (.inl (10, [some (true, 11), some (true, 3), some (true, 26), some (true, 27), some (true, 28), some (true, 29), some (true, 30), some (true, 31), some (true, 32), some (true, 33), some (true, 34), none, none, none, none, none, none, none, none]))) : Nat × va_E) = ((f 25), .inr (10, [.ref (f 11), .ref (f 3), .ref (f 26), .ref (f 27), .ref (f 28), .ref (f 29), .ref (f 30), .ref (f 31), .ref (f 32), .ref (f 33), .ref (f 34), .int 0, .int 0, .int 0, .int 1, .int 0, .int (-1), .int 0, .int (-1)])) := by
  simp only [ge_e, ge_v, List.mapIdx_cons, List.mapIdx_nil, Nat.zero_add, Nat.reduceAdd]
  rfl
theorem e_26 : ((ge_ad (x_ad (x_L a f a2 f2) k v z t) 26, ge_e ((x_ad (x_L a f a2 f2) k v z t), Z) (i0 26) (.inr (.inl 10))) : Nat × va_E) = ((f 26), .inl (Z.2.2.1, 10, .inl (upd (upd (upd (upd (upd (upd (upd (upd (upd (upd (fun _ => 0) 0 0) 1 1) 2 2) 3 3) 4 4) 5 5) 6 6) 7 7) 8 8) 9 9))) := rfl
theorem e_27 : ((ge_ad (x_ad (x_L a f a2 f2) k v z t) 27, ge_e ((x_ad (x_L a f a2 f2) k v z t), Z) (i0 27) (.inr (.inl 8))) : Nat × va_E) = ((f 27), .inl (Z.2.2.1, 8, .inl (fun _ => 0))) := rfl
theorem e_28 : ((ge_ad (x_ad (x_L a f a2 f2) k v z t) 28, ge_e ((x_ad (x_L a f a2 f2) k v z t), Z) (i0 28) (.inr (.inl 8))) : Nat × va_E) = ((f 28), .inl (Z.2.2.1, 8, .inl (fun _ => 0))) := rfl
theorem e_29 : ((ge_ad (x_ad (x_L a f a2 f2) k v z t) 29, ge_e ((x_ad (x_L a f a2 f2) k v z t), Z) (i0 29) (.inr (.inl 8))) : Nat × va_E) = ((f 29), .inl (Z.2.2.1, 8, .inl (fun _ => 0))) := rfl
theorem e_30 : ((ge_ad (x_ad (x_L a f a2 f2) k v z t) 30, ge_e ((x_ad (x_L a f a2 f2) k v z t), Z) (i0 30) (.inr (.inl 8))) : Nat × va_E) = ((f 30), .inl (Z.2.2.1, 8, .inl (fun _ => 0))) := rfl
theorem e_31 : ((ge_ad (x_ad (x_L a f a2 f2) k v z t) 31, ge_e ((x_ad (x_L a f a2 f2) k v z t), Z) (i0 31) (.inr (.inl 12))) : Nat × va_E) = ((f 31), .inl (Z.2.2.1, 12, .inl (fun _ => 0))) := rfl
theorem e_32 : ((ge_ad (x_ad (x_L a f a2 f2) k v z t) 32, ge_e ((x_ad (x_L a f a2 f2) k v z t), Z) (i0 32) (.inr (.inl 6))) : Nat × va_E) = ((f 32), .inl (Z.2.2.1, 6, .inl (fun _ => 0))) := rfl
theorem e_33 : ((ge_ad (x_ad (x_L a f a2 f2) k v z t) 33, ge_e ((x_ad (x_L a f a2 f2) k v z t), Z) (i0 33) (.inr (.inl 6))) : Nat × va_E) = ((f 33), .inl (Z.2.2.1, 6, .inl (fun _ => 0))) := rfl
theorem e_34 : ((ge_ad (x_ad (x_L a f a2 f2) k v z t) 34, ge_e ((x_ad (x_L a f a2 f2) k v z t), Z) (i0 34) (.inr (.inl 6))) : Nat × va_E) = ((f 34), .inl (Z.2.2.1, 6, .inl (fun _ => 0))) := rfl
theorem e_35 : ((ge_ad (x_ad (x_L a f a2 f2) k v z t) 35, ge_e ((x_ad (x_L a f a2 f2) k v z t), Z) (i0 35) (.inl (10, [some (true, 11), some (true, 3), some (true, 36), some (true, 37), some (true, 38), some (true, 39), some (true, 40), some (true, 41), some (true, 42), some (true, 43), some (true, 44), none, none, none, none, none, none, none, none]))) : Nat × va_E) = ((f 35), .inr (10, [.ref (f 11), .ref (f 3), .ref (f 36), .ref (f 37), .ref (f 38), .ref (f 39), .ref (f 40), .ref (f 41), .ref (f 42), .ref (f 43), .ref (f 44), .int 0, .int 0, .int 0, .int 1, .int 0, .int (-1), .int 0, .int (-1)])) := by
  simp only [ge_e, ge_v, List.mapIdx_cons, List.mapIdx_nil, Nat.zero_add, Nat.reduceAdd]
  rfl
theorem e_36 : ((ge_ad (x_ad (x_L a f a2 f2) k v z t) 36, ge_e ((x_ad (x_L a f a2 f2) k v z t), Z) (i0 36) (.inr (.inl 10))) : Nat × va_E) = ((f 36), .inl (Z.2.2.1, 10, .inl (upd (upd (upd (upd (upd (upd (upd (upd (upd (upd (fun _ => 0) 0 0) 1 1) 2 2) 3 3) 4 4) 5 5) 6 6) 7 7) 8 8) 9 9))) := rfl
theorem e_37 : ((ge_ad (x_ad (x_L a f a2 f2) k v z t) 37, ge_e ((x_ad (x_L a f a2 f2) k v z t), Z) (i0 37) (.inr (.inl 8))) : Nat × va_E) = ((f 37), .inl (Z.2.2.1, 8, .inl (fun _ => 0))) := rfl
theorem e_38 : ((ge_ad (x_ad (x_L a f a2 f2) k v z t) 38, ge_e ((x_ad (x_L a f a2 f2) k v z t), Z) (i0 38) (.inr (.inl 8))) : Nat × va_E) = ((f 38), .inl (Z.2.2.1, 8, .inl (fun _ => 0))) := rfl
theorem e_39 : ((ge_ad (x_ad (x_L a f a2 f2) k v z t) 39, ge_e ((x_ad (x_L a f a2 f2) k v z t), Z) (i0 39) (.inr (.inl 8))) : Nat × va_E) = ((f 39), .inl (Z.2.2.1, 8, .inl (fun _ => 0))) := rfl
theorem e_40 : ((ge_ad (x_ad (x_L a f a2 f2) k v z t) 40, ge_e ((x_ad (x_L a f a2 f2) k v z t), Z) (i0 40) (.inr (.inl 8))) : Nat × va_E) = ((f 40), .inl (Z.2.2.1, 8, .inl (fun _ => 0))) := rfl
theorem e_41 : ((ge_ad (x_ad (x_L a f a2 f2) k v z t) 41, ge_e ((x_ad (x_L a f a2 f2) k v z t), Z) (i0 41) (.inr (.inl 12))) : Nat × va_E) = ((f 41), .inl (Z.2.2.1, 12, .inl (fun _ => 0))) := rfl
theorem e_42 : ((ge_ad (x_ad (x_L a f a2 f2) k v z t) 42, ge_e ((x_ad (x_L a f a2 f2) k v z t), Z) (i0 42) (.inr (.inl 6))) : Nat × va_E) = ((f 42), .inl (Z.2.2.1, 6, .inl (fun _ => 0))) := rfl
theorem e_43 : ((ge_ad (x_ad (x_L a f a2 f2) k v z t) 43, ge_e ((x_ad (x_L a f a2 f2) k v z t), Z) (i0 43) (.inr (.inl 6))) : Nat × va_E) = ((f 43), .inl (Z.2.2.1, 6, .inl (fun _ => 0))) := rfl
theorem e_44 : ((ge_ad (x_ad (x_L a f a2 f2) k v z t) 44, ge_e ((x_ad (x_L a f a2 f2) k v z t), Z) (i0 44) (.inr (.inl 6))) : Nat × va_E) = ((f 44), .inl (Z.2.2.1, 6, .inl (fun _ => 0))) := rfl
theorem e_45 : ((ge_ad (x_ad (x_L a f a2 f2) k v z t) 45, ge_e ((x_ad (x_L a f a2 f2) k v z t), Z) (i0 45) (.inl (10, [some (true, 18), some (true, 3), some (true, 46), some (true, 47), some (true, 48), some (true, 49), some (true, 50), some (true, 51), some (true, 52), some (true, 53), some (true, 54), none, none, none, none, none, none, none, none]))) : Nat × va_E) = ((f 45), .inr (10, [.ref (f 18), .ref (f 3), .ref (f 46), .ref (f 47), .ref (f 48), .ref (f 49), .ref (f 50), .ref (f 51), .ref (f 52), .ref (f 53), .ref (f 54), .int 0, .int 0, .int 0, .int 1, .int 0, .int (-1), .int 0, .int (-1)])) := by
  simp only [ge_e, ge_v, List.mapIdx_cons, List.mapIdx_nil, Nat.zero_add, Nat.reduceAdd]
  rfl
theorem e_46 : ((ge_ad (x_ad (x_L a f a2 f2) k v z t) 46, ge_e ((x_ad (x_L a f a2 f2) k v z t), Z) (i0 46) (.inr (.inl 10))) : Nat × va_E) = ((f 46), .inl (Z.2.2.1, 10, .inl (upd (upd (upd (upd (upd (upd (upd (upd (upd (upd (fun _ => 0) 0 0) 1 1) 2 2) 3 3) 4 4) 5 5) 6 6) 7 7) 8 8) 9 9))) := rfl
theorem e_47 : ((ge_ad (x_ad (x_L a f a2 f2) k v z t) 47, ge_e ((x_ad (x_L a f a2 f2) k v z t), Z) (i0 47) (.inr (.inl 8))) : Nat × va_E) = ((f 47), .inl (Z.2.2.1, 8, .inl (fun _ => 0))) := rfl
theorem e_48 : ((ge_ad (x_ad (x_L a f a2 f2) k v z t) 48, ge_e ((x_ad (x_L a f a2 f2) k v z t), Z) (i0 48) (.inr (.inl 8))) : Nat × va_E) = ((f 48), .inl (Z.2.2.1, 8, .inl (fun _ => 0))) := rfl
theorem e_49 : ((ge_ad (x_ad (x_L a f a2 f2) k v z t) 49, ge_e ((x_ad (x_L a f a2 f2) k v z t), Z) (i0 49) (.inr (.inl 8))) : Nat × va_E) = ((f 49), .inl (Z.2.2.1, 8, .inl (fun _ => 0))) := rfl
theorem e_50 : ((ge_ad (x_ad (x_L a f a2 f2) k v z t) 50, ge_e ((x_ad (x_L a f a2 f2) k v z t), Z) (i0 50) (.inr (.inl 8))) : Nat × va_E) = ((f 50), .inl (Z.2.2.1, 8, .inl (fun _ => 0))) := rfl
theorem e_51 : ((ge_ad (x_ad (x_L a f a2 f2) k v z t) 51, ge_e ((x_ad (x_L a f a2 f2) k v z t), Z) (i0 51) (.inr (.inl 12))) : Nat × va_E) = ((f 51), .inl (Z.2.2.1, 12, .inl (fun _ => 0))) := rfl
theorem e_52 : ((ge_ad (x_ad (x_L a f a2 f2) k v z t) 52, ge_e ((x_ad (x_L a f a2 f2) k v z t), Z) (i0 52) (.inr (.inl 6))) : Nat × va_E) = ((f 52), .inl (Z.2.2.1, 6, .inl (fun _ => 0))) := rfl
theorem e_53 : ((ge_ad (x_ad (x_L a f a2 f2) k v z t) 53, ge_e ((x_ad (x_L a f a2 f2) k v z t), Z) (i0 53) (.inr (.inl 6))) : Nat × va_E) = ((f 53), .inl (Z.2.2.1, 6, .inl (fun _ => 0))) := rfl
theorem e_54 : ((ge_ad (x_ad (x_L a f a2 f2) k v z t) 54, ge_e ((x_ad (x_L a f a2 f2) k v z t), Z) (i0 54) (.inr (.inl 6))) : Nat × va_E) = ((f 54), .inl (Z.2.2.1, 6, .inl (fun _ => 0))) := rfl
theorem e_55 : ((ge_ad (x_ad (x_L a f a2 f2) k v z t) 55, ge_e ((x_ad (x_L a f a2 f2) k v z t), Z) (i0 55) (.inl (9, [some (true, 56), some (false, 58), none, none]))) : Nat × va_E) = ((f 55), .inr (9, [.ref (f 56), .null, .int 0, .int 0])) := by
  simp only [ge_e, ge_v, List.mapIdx_cons, List.mapIdx_nil, Nat.zero_add, Nat.reduceAdd]
  rfl
theorem e_56 : ((ge_ad (x_ad (x_L a f a2 f2) k v z t) 56, ge_e ((x_ad (x_L a f a2 f2) k v z t), Z) (i0 56) (.inl (7, [some (true, 57), none, none]))) : Nat × va_E) = ((f 56), .inr (7, [.ref (f 57), .int 0, .int 0])) := by
  simp only [ge_e, ge_v, List.mapIdx_cons, List.mapIdx_nil, Nat.zero_add, Nat.reduceAdd]
  rfl
theorem e_57 : ((ge_ad (x_ad (x_L a f a2 f2) k v z t) 57, ge_e ((x_ad (x_L a f a2 f2) k v z t), Z) (i0 57) (.inr (.inl 50))) : Nat × va_E) = ((f 57), .inl (Z.2.2.1, 50, .inl (fun _ => 0))) := rfl
theorem e_58 : ((ge_ad (x_ad (x_L a f a2 f2) k v z t) 58, ge_e ((x_ad (x_L a f a2 f2) k v z t), Z) (i0 58) (.inl (7, [some (true, 59), none, none]))) : Nat × va_E) = ((f 58), .inr (7, [.ref (f 59), .int 0, .int 0])) := by
  simp only [ge_e, ge_v, List.mapIdx_cons, List.mapIdx_nil, Nat.zero_add, Nat.reduceAdd]
  rfl
theorem e_59 : ((ge_ad (x_ad (x_L a f a2 f2) k v z t) 59, ge_e ((x_ad (x_L a f a2 f2) k v z t), Z) (i0 59) (.inr (.inl 50))) : Nat × va_E) = ((f 59), .inl (Z.2.2.1, 50, .inl (fun _ => 0))) := rfl
theorem e_60 : ((ge_ad (x_ad (x_L a f a2 f2) k v z t) 60, ge_e ((x_ad (x_L a f a2 f2) k v z t), Z) (i0 60) (.inl (7, [some (true, 61), none, none]))) : Nat × va_E) = ((f 60), .inr (7, [.ref (f 61), .int 0, .int 0])) := by
  simp only [ge_e, ge_v, List.mapIdx_cons, List.mapIdx_nil, Nat.zero_add, Nat.reduceAdd]
  rfl
theorem e_61 : ((ge_ad (x_ad (x_L a f a2 f2) k v z t) 61, ge_e ((x_ad (x_L a f a2 f2) k v z t), Z) (i0 61) (.inr (.inl 50))) : Nat × va_E) = ((f 61), .inl (Z.2.2.1, 50, .inl (fun _ => 0))) := rfl
theorem e_62 : ((ge_ad (x_ad (x_L a f a2 f2) k v z t) 62, ge_e ((x_ad (x_L a f a2 f2) k v z t), Z) (i0 62) (.inl (7, [some (true, 63), none, none]))) : Nat × va_E) = ((f 62), .inr (7, [.ref (f 63), .int 0, .int 0])) := by
  simp only [ge_e, ge_v, List.mapIdx_cons, List.mapIdx_nil, Nat.zero_add, Nat.reduceAdd]
  rfl
theorem e_63 : ((ge_ad (x_ad (x_L a f a2 f2) k v z t) 63, ge_e ((x_ad (x_L a f a2 f2) k v z t), Z) (i0 63) (.inr (.inl 20))) : Nat × va_E) = ((f 63), .inl (Z.2.2.1, 20, .inl (fun _ => 0))) := rfl
theorem e_64 : ((ge_ad (x_ad (x_L a f a2 f2) k v z t) 64, ge_e ((x_ad (x_L a f a2 f2) k v z t), Z) (i0 64) (.inl (7, [some (true, 65), none, none]))) : Nat × va_E) = ((f 64), .inr (7, [.ref (f 65), .int 0, .int 0])) := by
  simp only [ge_e, ge_v, List.mapIdx_cons, List.mapIdx_nil, Nat.zero_add, Nat.reduceAdd]
  rfl
theorem e_65 : ((ge_ad (x_ad (x_L a f a2 f2) k v z t) 65, ge_e ((x_ad (x_L a f a2 f2) k v z t), Z) (i0 65) (.inr (.inl 20))) : Nat × va_E) = ((f 65), .inl (Z.2.2.1, 20, .inl (fun _ => 0))) := rfl
theorem e_66 : ((ge_ad (x_ad (x_L a f a2 f2) k v z t) 66, ge_e ((x_ad (x_L a f a2 f2) k v z t), Z) (i0 66) (.inr (.inr (1, [67, 69, 71, 73])))) : Nat × va_E) = ((f 66), .inl (Z.2.2.2 1, 4, .inr (.inr (.inr (.inr (va_up (va_up (va_up (va_up (fun _ => none) 0 (some (f 67))) 1 (some (f 69))) 2 (some (f 71))) 3 (some (f 73)))))))) := by
  rw [q_at66 (a := a) (a2 := a2) (f2 := f2) (k := k) (v := v) (z := z) (t := t)]
  rfl
theorem e_67 : ((ge_ad (x_ad (x_L a f a2 f2) k v z t) 67, ge_e ((x_ad (x_L a f a2 f2) k v z t), Z) (i0 67) (.inl (7, [some (true, 68), none, none]))) : Nat × va_E) = ((f 67), .inr (7, [.ref (f 68), .int 0, .int 0])) := by
  simp only [ge_e, ge_v, List.mapIdx_cons, List.mapIdx_nil, Nat.zero_add, Nat.reduceAdd]
  rfl
theorem e_68 : ((ge_ad (x_ad (x_L a f a2 f2) k v z t) 68, ge_e ((x_ad (x_L a f a2 f2) k v z t), Z) (i0 68) (.inr (.inl 40))) : Nat × va_E) = ((f 68), .inl (Z.2.2.1, 40, .inl (fun _ => 0))) := rfl
theorem e_69 : ((ge_ad (x_ad (x_L a f a2 f2) k v z t) 69, ge_e ((x_ad (x_L a f a2 f2) k v z t), Z) (i0 69) (.inl (7, [some (true, 70), none, none]))) : Nat × va_E) = ((f 69), .inr (7, [.ref (f 70), .int 0, .int 0])) := by
  simp only [ge_e, ge_v, List.mapIdx_cons, List.mapIdx_nil, Nat.zero_add, Nat.reduceAdd]
  rfl
theorem e_70 : ((ge_ad (x_ad (x_L a f a2 f2) k v z t) 70, ge_e ((x_ad (x_L a f a2 f2) k v z t), Z) (i0 70) (.inr (.inl 40))) : Nat × va_E) = ((f 70), .inl (Z.2.2.1, 40, .inl (fun _ => 0))) := rfl
theorem e_71 : ((ge_ad (x_ad (x_L a f a2 f2) k v z t) 71, ge_e ((x_ad (x_L a f a2 f2) k v z t), Z) (i0 71) (.inl (7, [some (true, 72), none, none]))) : Nat × va_E) = ((f 71), .inr (7, [.ref (f 72), .int 0, .int 0])) := by
  simp only [ge_e, ge_v, List.mapIdx_cons, List.mapIdx_nil, Nat.zero_add, Nat.reduceAdd]
  rfl
theorem e_72 : ((ge_ad (x_ad (x_L a f a2 f2) k v z t) 72, ge_e ((x_ad (x_L a f a2 f2) k v z t), Z) (i0 72) (.inr (.inl 40))) : Nat × va_E) = ((f 72), .inl (Z.2.2.1, 40, .inl (fun _ => 0))) := rfl
theorem e_73 : ((ge_ad (x_ad (x_L a f a2 f2) k v z t) 73, ge_e ((x_ad (x_L a f a2 f2) k v z t), Z) (i0 73) (.inl (7, [some (true, 74), none, none]))) : Nat × va_E) = ((f 73), .inr (7, [.ref (f 74), .int 0, .int 0])) := by
  simp only [ge_e, ge_v, List.mapIdx_cons, List.mapIdx_nil, Nat.zero_add, Nat.reduceAdd]
  rfl
theorem e_74 : ((ge_ad (x_ad (x_L a f a2 f2) k v z t) 74, ge_e ((x_ad (x_L a f a2 f2) k v z t), Z) (i0 74) (.inr (.inl 40))) : Nat × va_E) = ((f 74), .inl (Z.2.2.1, 40, .inl (fun _ => 0))) := rfl
theorem e_75 : ((ge_ad (x_ad (x_L a f a2 f2) k v z t) 75, ge_e ((x_ad (x_L a f a2 f2) k v z t), Z) (i0 75) (.inr (.inl 6))) : Nat × va_E) = ((f 75), .inl (Z.2.2.1, 6, .inl (fun _ => 0))) := rfl
theorem e_76 : ((ge_ad (x_ad (x_L a f a2 f2) k v z t) 76, ge_e ((x_ad (x_L a f a2 f2) k v z t), Z) (i0 76) (.inl (12, [some (true, 77), some (true, 78), some (true, 79), some (true, 80), none, none, some (true, 81), none, none, none, none, none, none, none, none, none, none, some (true, 82), some (true, 83), some (true, 84), some (true, 85), some (true, 86), none, none, none, none]))) : Nat × va_E) = (a2, .inr (12, [.ref (f2 1), .ref (f2 2), .ref (f2 3), .ref (f2 4), .int 0, .int 0, .ref (f2 5), .int 0, .int 0, .int 0, .int 0, .int 0, .int 0, .int 0, .int 0, .int 0, .int 0, .ref (f2 6), .ref (f2 7), .ref (f2 8), .ref (f2 9), .ref (f2 10), .int 0, .int 0, .int 0, .int 0])) := by
  simp only [ge_e, ge_v, List.mapIdx_cons, List.mapIdx_nil, Nat.zero_add, Nat.reduceAdd]
  rfl
theorem e_77 : ((ge_ad (x_ad (x_L a f a2 f2) k v z t) 77, ge_e ((x_ad (x_L a f a2 f2) k v z t), Z) (i0 77) (.inr (.inl 244))) : Nat × va_E) = ((f2 1), .inl (Z.2.2.1, 244, .inl (upd (upd (upd (upd (upd (upd (upd (upd (upd (upd (upd (upd (upd (fun _ => 0) 1 1) 6 (-1)) 7 (-1)) 8 0) 9 1) 10 2) 11 3) 12 4) 13 5) 14 6) 15 7) 16 8) 17 9))) := rfl
theorem e_78 : ((ge_ad (x_ad (x_L a f a2 f2) k v z t) 78, ge_e ((x_ad (x_L a f a2 f2) k v z t), Z) (i0 78) (.inr (.inl 244))) : Nat × va_E) = ((f2 2), .inl (Z.2.2.1, 244, .inl (fun _ => 0))) := rfl
theorem e_79 : ((ge_ad (x_ad (x_L a f a2 f2) k v z t) 79, ge_e ((x_ad (x_L a f a2 f2) k v z t), Z) (i0 79) (.inr (.inl 244))) : Nat × va_E) = ((f2 3), .inl (Z.2.2.1, 244, .inl (fun _ => 0))) := rfl
theorem e_80 : ((ge_ad (x_ad (x_L a f a2 f2) k v z t) 80, ge_e ((x_ad (x_L a f a2 f2) k v z t), Z) (i0 80) (.inr (.inl 244))) : Nat × va_E) = ((f2 4), .inl (Z.2.2.1, 244, .inl (fun _ => 0))) := rfl
theorem e_81 : ((ge_ad (x_ad (x_L a f a2 f2) k v z t) 81, ge_e ((x_ad (x_L a f a2 f2) k v z t), Z) (i0 81) (.inr (.inl 6))) : Nat × va_E) = ((f2 5), .inl (Z.2.2.1, 6, .inl (fun _ => 0))) := rfl
theorem e_82 : ((ge_ad (x_ad (x_L a f a2 f2) k v z t) 82, ge_e ((x_ad (x_L a f a2 f2) k v z t), Z) (i0 82) (.inr (.inl 4))) : Nat × va_E) = ((f2 6), .inl (Z.2.2.1, 4, .inl (fun _ => 0))) := rfl
theorem e_83 : ((ge_ad (x_ad (x_L a f a2 f2) k v z t) 83, ge_e ((x_ad (x_L a f a2 f2) k v z t), Z) (i0 83) (.inr (.inl 4))) : Nat × va_E) = ((f2 7), .inl (Z.2.2.1, 4, .inl (fun _ => 0))) := rfl
theorem e_84 : ((ge_ad (x_ad (x_L a f a2 f2) k v z t) 84, ge_e ((x_ad (x_L a f a2 f2) k v z t), Z) (i0 84) (.inr (.inl 160))) : Nat × va_E) = ((f2 8), .inl (Z.2.2.1, 160, .inl (fun _ => 0))) := rfl
theorem e_85 : ((ge_ad (x_ad (x_L a f a2 f2) k v z t) 85, ge_e ((x_ad (x_L a f a2 f2) k v z t), Z) (i0 85) (.inr (.inl 40))) : Nat × va_E) = ((f2 9), .inl (Z.2.2.1, 40, .inl (fun _ => 0))) := rfl
theorem e_86 : ((ge_ad (x_ad (x_L a f a2 f2) k v z t) 86, ge_e ((x_ad (x_L a f a2 f2) k v z t), Z) (i0 86) (.inr (.inl 40))) : Nat × va_E) = ((f2 10), .inl (Z.2.2.1, 40, .inl (fun _ => 0))) := rfl
set_option maxHeartbeats 4000000 in
set_option maxRecDepth 8000 in
theorem i0_w : ge_w (x_ad (x_L a f a2 f2) k v z t, Z) ge_SH i0 = nb_ge Z a f ++ nb_model Z a2 f2 := by
  unfold ge_w ge_SH nb_ge nb_model
  simp only [List.mapIdx_cons, List.mapIdx_nil, List.cons_append, List.nil_append, Nat.zero_add, Nat.reduceAdd]
  exact (congr (congrArg List.cons e_0) (congr (congrArg List.cons e_1) (congr (congrArg List.cons e_2) (congr (congrArg List.cons e_3) (congr (congrArg List.cons e_4) (congr (congrArg List.cons e_5) (congr (congrArg List.cons e_6) (congr (congrArg List.cons e_7) (congr (congrArg List.cons e_8) (congr (congrArg List.cons e_9) (congr (congrArg List.cons e_10) (congr (congrArg List.cons e_11) (congr (congrArg List.cons e_12) (congr (congrArg List.cons e_13) (congr (congrArg List.cons e_14) (congr (congrArg List.cons e_15) (congr (congrArg List.cons e_16) (congr (congrArg List.cons e_17) (congr (congrArg List.cons e_18) (congr (congrArg List.cons e_19) (congr (congrArg List.cons e_20) (congr (congrArg List.cons e_21) (congr (congrArg List.cons e_22) (congr (congrArg List.cons e_23) (congr (congrArg List.cons e_24) (congr (congrArg List.cons e_25) (congr (congrArg List.cons e_26) (congr (congrArg List.cons e_27) (congr (congrArg List.cons e_28) (congr (congrArg List.cons e_29) (congr (congrArg List.cons e_30) (congr (congrArg List.cons e_31) (congr (congrArg List.cons e_32) (congr (congrArg List.cons e_33) (congr (congrArg List.cons e_34) (congr (congrArg List.cons e_35) (congr (congrArg List.cons e_36) (congr (congrArg List.cons e_37) (congr (congrArg List.cons e_38) (congr (congrArg List.cons e_39) (congr (congrArg List.cons e_40) (congr (congrArg List.cons e_41) (congr (congrArg List.cons e_42) (congr (congrArg List.cons e_43) (congr (congrArg List.cons e_44) (congr (congrArg List.cons e_45) (congr (congrArg List.cons e_46) (congr (congrArg List.cons e_47) (congr (congrArg List.cons e_48) (congr (congrArg List.cons e_49) (congr (congrArg List.cons e_50) (congr (congrArg List.cons e_51) (congr (congrArg List.cons e_52) (congr (congrArg List.cons e_53) (congr (congrArg List.cons e_54) (congr (congrArg List.cons e_55) (congr (congrArg List.cons e_56) (congr (congrArg List.cons e_57) (congr (congrArg List.cons e_58) (congr (congrArg List.cons e_59) (congr (congrArg List.cons e_60) (congr (congrArg List.cons e_61) (congr (congrArg List.cons e_62) (congr (congrArg List.cons e_63) (congr (congrArg List.cons e_64) (congr (congrArg List.cons e_65) (congr (congrArg List.cons e_66) (congr (congrArg List.cons e_67) (congr (congrArg List.cons e_68) (congr (congrArg List.cons e_69) (congr (congrArg List.cons e_70) (congr (congrArg List.cons e_71) (congr (congrArg List.cons e_72) (congr (congrArg List.cons e_73) (congr (congrArg List.cons e_74) (congr (congrArg List.cons e_75) (congr (congrArg List.cons e_76) (congr (congrArg List.cons e_77) (congr (congrArg List.cons e_78) (congr (congrArg List.cons e_79) (congr (congrArg List.cons e_80) (congr (congrArg List.cons e_81) (congr (congrArg List.cons e_82) (congr (congrArg List.cons e_83) (congr (congrArg List.cons e_84) (congr (congrArg List.cons e_85) (congr (congrArg List.cons e_86) rfl)))))))))))))))))))))))))))))))))))))))))))))))))))))))))))))))))))))))))))))))))))))))
theorem i0_H (h : nw_H Z (nb_ge Z a f ++ nb_model Z a2 f2) H) : ge_H (x_ad (x_L a f a2 f2) k v z t, Z) ge_SH i0 H := by
  unfold ge_H
  rw [i0_w]
  exact h
theorem i0_ag : ge_ag ge_SH i0 (ge_k i0 25 (i0 77) (i0 25) (i0 34)) := by
  refine ge_k_ag (Or.inl rfl) (by decide) (by decide) (by decide) (by decide) (by decide) (by decide) (by decide) (by decide) (by decide) (fun _ _ => rfl) (fun _ _ => rfl)
theorem i0_c13 : c_law i0 13 (fun A B _ => A + B) := ⟨3, by decide, rfl, fun i hi => by
  rcases (by omega : i = 0 ∨ i = 1 ∨ i = 2) with rfl | rfl | rfl
  · exact Or.inl (by decide)
  · exact Or.inl (by decide)
  · exact Or.inr (Or.inr (by unfold c_isop; decide)), fun A B C => rfl⟩
theorem i0_c15 : c_law i0 15 (fun _ _ C => p_rem C 2) := ⟨3, by decide, rfl, fun i hi => by
  rcases (by omega : i = 0 ∨ i = 1 ∨ i = 2) with rfl | rfl | rfl
  · exact Or.inl (by decide)
  · exact Or.inl (by decide)
  · exact Or.inr (Or.inr (by unfold c_isop; decide)), fun A B C => rfl⟩
theorem i0_inv : p_inv 10000 (i0 77) := by
  have he : ∀ e, e < 8 → ∀ k, k < 4 → p_e (i0 77) e k = 0 := by decide
  have ho : ∀ e, e < 6 → ∀ k, k < 4 → p_o (i0 77) e k = 0 := by decide
  have hd : ∀ t, t < 10 → i0 77 (8 + t) = nI t := by decide
  exact ⟨Or.inl (by decide), Or.inl (by decide), ⟨0, by decide, rfl⟩, ⟨0, by decide, rfl, 0, by decide, rfl, fun w hw => absurd hw (by omega)⟩, fun e h => ⟨⟨0, by decide, he e h 0 (by decide)⟩, ⟨0, by decide, he e h 1 (by decide)⟩, ⟨0, by decide, he e h 2 (by decide)⟩, ⟨0, by decide, he e h 3 (by decide)⟩⟩, fun w h => ⟨⟨0, by decide, ho w h 2 (by decide)⟩, ⟨0, by decide, ho w h 3 (by decide)⟩⟩, fun t h => ⟨t, by omega, hd t h⟩⟩
theorem i0_lw : c_lw i0 (i0 77) := by
  refine ⟨⟨_, i0_c13, fun A B C => ?_⟩, ⟨_, i0_c15, fun A B C => ?_⟩⟩
  · unfold p_law
    rw [if_pos (by decide)]
    exact p_mmh 99 _ (by decide)
  · unfold p_law
    rw [if_pos (by decide)]
    exact p_mmh 1 _ (by decide)
theorem i0_sh (s : Nat) (hs : s < 4) : i_sh i0 s := by
  refine ⟨0, 0, Or.inl rfl, by decide, ?_, ?_, ?_, ?_, fun k hk => absurd hk (by omega)⟩
  all_goals rcases (by omega : s = 0 ∨ s = 1 ∨ s = 2 ∨ s = 3) with rfl | rfl | rfl | rfl <;> rfl
theorem ge_I_0 : ge_I 0 i0 := by
  refine ⟨i0, i0 25, i0 34, i0_ag, ⟨0, i0_inv, rfl, by decide, fun w w' s s' h => absurd h (by omega), i0_lw⟩, ⟨0, by decide, rfl, rfl, fun k hk => absurd hk (by omega)⟩, ⟨0, by decide, rfl, rfl, fun k hk => absurd hk (by omega)⟩, i0_sh, fun _ _ _ => rfl, ⟨0, by decide, rfl, rfl, fun k hk => absurd hk (by omega)⟩, ⟨0, by decide, rfl, rfl, rfl, fun h => absurd rfl h⟩, rfl⟩
end V0
