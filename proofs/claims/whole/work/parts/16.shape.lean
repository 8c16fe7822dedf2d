/-- the cells behind the two constructors, in the order in which they are made -/
def ge_SH : List ge_S := [
  .inl (11, [some (true, 3), some (true, 25), some (true, 35), some (true, 45), some (true, 11), some (true, 18), some (true, 55), some (true, 58), some (true, 60), some (true, 62), some (true, 64), some (true, 1), some (true, 66), some (true, 75), none]),
  .inl (7, [some (true, 2), none, none]),
  .inr (.inl 40),
  .inr (.inr (0, [4, 5, 6, 7, 8, 9, 10])),
  .inl (1, [some (true, 1)]),
  .inl (6, [some (true, 1)]),
  .inl (2, [some (true, 1)]),
  .inl (3, [some (true, 1)]),
  .inl (0, [some (true, 1)]),
  .inl (8, [some (true, 1)]),
  .inl (5, [some (true, 1)]),
  .inl (4, [some (true, 12), some (true, 17)]),
  .inr (.inr (1, [13, 15])),
  .inl (7, [some (true, 14), none, none]),
  .inr (.inl 50),
  .inl (7, [some (true, 16), none, none]),
  .inr (.inl 50),
  .inr (.inl 50),
  .inl (4, [some (true, 19), some (true, 24)]),
  .inr (.inr (1, [20, 22])),
  .inl (7, [some (true, 21), none, none]),
  .inr (.inl 50),
  .inl (7, [some (true, 23), none, none]),
  .inr (.inl 50),
  .inr (.inl 50),
  .inl (10, [some (true, 11), some (true, 3), some (true, 26), some (true, 27), some (true, 28), some (true, 29), some (true, 30), some (true, 31), some (true, 32), some (true, 33), some (true, 34), none, none, none, none, none, none, none, none]),
  .inr (.inl 10),
  .inr (.inl 8),
  .inr (.inl 8),
  .inr (.inl 8),
  .inr (.inl 8),
  .inr (.inl 12),
  .inr (.inl 6),
  .inr (.inl 6),
  .inr (.inl 6),
  .inl (10, [some (true, 11), some (true, 3), some (true, 36), some (true, 37), some (true, 38), some (true, 39), some (true, 40), some (true, 41), some (true, 42), some (true, 43), some (true, 44), none, none, none, none, none, none, none, none]),
  .inr (.inl 10),
  .inr (.inl 8),
  .inr (.inl 8),
  .inr (.inl 8),
  .inr (.inl 8),
  .inr (.inl 12),
  .inr (.inl 6),
  .inr (.inl 6),
  .inr (.inl 6),
  .inl (10, [some (true, 18), some (true, 3), some (true, 46), some (true, 47), some (true, 48), some (true, 49), some (true, 50), some (true, 51), some (true, 52), some (true, 53), some (true, 54), none, none, none, none, none, none, none, none]),
  .inr (.inl 10),
  .inr (.inl 8),
  .inr (.inl 8),
  .inr (.inl 8),
  .inr (.inl 8),
  .inr (.inl 12),
  .inr (.inl 6),
  .inr (.inl 6),
  .inr (.inl 6),
  .inl (9, [some (true, 56), some (false, 58), none, none]),
  .inl (7, [some (true, 57), none, none]),
  .inr (.inl 50),
  .inl (7, [some (true, 59), none, none]),
  .inr (.inl 50),
  .inl (7, [some (true, 61), none, none]),
  .inr (.inl 50),
  .inl (7, [some (true, 63), none, none]),
  .inr (.inl 20),
  .inl (7, [some (true, 65), none, none]),
  .inr (.inl 20),
  .inr (.inr (1, [67, 69, 71, 73])),
  .inl (7, [some (true, 68), none, none]),
  .inr (.inl 40),
  .inl (7, [some (true, 70), none, none]),
  .inr (.inl 40),
  .inl (7, [some (true, 72), none, none]),
  .inr (.inl 40),
  .inl (7, [some (true, 74), none, none]),
  .inr (.inl 40),
  .inr (.inl 6),
  .inl (12, [some (true, 77), some (true, 78), some (true, 79), some (true, 80), none, none, some (true, 81), none, none, none, none, none, none, none, none, none, none, some (true, 82), some (true, 83), some (true, 84), some (true, 85), some (true, 86), none, none, none, none]),
  .inr (.inl 244),
  .inr (.inl 244),
  .inr (.inl 244),
  .inr (.inl 244),
  .inr (.inl 6),
  .inr (.inl 4),
  .inr (.inl 4),
  .inr (.inl 160),
  .inr (.inl 40),
  .inr (.inl 40)]
theorem sh_0 : ge_SH[0]? = some (.inl (11, [some (true, 3), some (true, 25), some (true, 35), some (true, 45), some (true, 11), some (true, 18), some (true, 55), some (true, 58), some (true, 60), some (true, 62), some (true, 64), some (true, 1), some (true, 66), some (true, 75), none])) := rfl
theorem sh_1 : ge_SH[1]? = some (.inl (7, [some (true, 2), none, none])) := rfl
theorem sh_2 : ge_SH[2]? = some (.inr (.inl 40)) := rfl
theorem sh_3 : ge_SH[3]? = some (.inr (.inr (0, [4, 5, 6, 7, 8, 9, 10]))) := rfl
theorem sh_4 : ge_SH[4]? = some (.inl (1, [some (true, 1)])) := rfl
theorem sh_5 : ge_SH[5]? = some (.inl (6, [some (true, 1)])) := rfl
theorem sh_6 : ge_SH[6]? = some (.inl (2, [some (true, 1)])) := rfl
theorem sh_7 : ge_SH[7]? = some (.inl (3, [some (true, 1)])) := rfl
theorem sh_8 : ge_SH[8]? = some (.inl (0, [some (true, 1)])) := rfl
theorem sh_9 : ge_SH[9]? = some (.inl (8, [some (true, 1)])) := rfl
theorem sh_10 : ge_SH[10]? = some (.inl (5, [some (true, 1)])) := rfl
theorem sh_11 : ge_SH[11]? = some (.inl (4, [some (true, 12), some (true, 17)])) := rfl
theorem sh_12 : ge_SH[12]? = some (.inr (.inr (1, [13, 15]))) := rfl
theorem sh_13 : ge_SH[13]? = some (.inl (7, [some (true, 14), none, none])) := rfl
theorem sh_14 : ge_SH[14]? = some (.inr (.inl 50)) := rfl
theorem sh_15 : ge_SH[15]? = some (.inl (7, [some (true, 16), none, none])) := rfl
theorem sh_16 : ge_SH[16]? = some (.inr (.inl 50)) := rfl
theorem sh_17 : ge_SH[17]? = some (.inr (.inl 50)) := rfl
theorem sh_18 : ge_SH[18]? = some (.inl (4, [some (true, 19), some (true, 24)])) := rfl
theorem sh_19 : ge_SH[19]? = some (.inr (.inr (1, [20, 22]))) := rfl
theorem sh_20 : ge_SH[20]? = some (.inl (7, [some (true, 21), none, none])) := rfl
theorem sh_21 : ge_SH[21]? = some (.inr (.inl 50)) := rfl
theorem sh_22 : ge_SH[22]? = some (.inl (7, [some (true, 23), none, none])) := rfl
theorem sh_23 : ge_SH[23]? = some (.inr (.inl 50)) := rfl
theorem sh_24 : ge_SH[24]? = some (.inr (.inl 50)) := rfl
theorem sh_25 : ge_SH[25]? = some (.inl (10, [some (true, 11), some (true, 3), some (true, 26), some (true, 27), some (true, 28), some (true, 29), some (true, 30), some (true, 31), some (true, 32), some (true, 33), some (true, 34), none, none, none, none, none, none, none, none])) := rfl
theorem sh_26 : ge_SH[26]? = some (.inr (.inl 10)) := rfl
theorem sh_27 : ge_SH[27]? = some (.inr (.inl 8)) := rfl
theorem sh_28 : ge_SH[28]? = some (.inr (.inl 8)) := rfl
theorem sh_29 : ge_SH[29]? = some (.inr (.inl 8)) := rfl
theorem sh_30 : ge_SH[30]? = some (.inr (.inl 8)) := rfl
theorem sh_31 : ge_SH[31]? = some (.inr (.inl 12)) := rfl
theorem sh_32 : ge_SH[32]? = some (.inr (.inl 6)) := rfl
theorem sh_33 : ge_SH[33]? = some (.inr (.inl 6)) := rfl
theorem sh_34 : ge_SH[34]? = some (.inr (.inl 6)) := rfl
theorem sh_35 : ge_SH[35]? = some (.inl (10, [some (true, 11), some (true, 3), some (true, 36), some (true, 37), some (true, 38), some (true, 39), some (true, 40), some (true, 41), some (true, 42), some (true, 43), some (true, 44), none, none, none, none, none, none, none, none])) := rfl
theorem sh_36 : ge_SH[36]? = some (.inr (.inl 10)) := rfl
theorem sh_37 : ge_SH[37]? = some (.inr (.inl 8)) := rfl
theorem sh_38 : ge_SH[38]? = some (.inr (.inl 8)) := rfl
theorem sh_39 : ge_SH[39]? = some (.inr (.inl 8)) := rfl
theorem sh_40 : ge_SH[40]? = some (.inr (.inl 8)) := rfl
theorem sh_41 : ge_SH[41]? = some (.inr (.inl 12)) := rfl
theorem sh_42 : ge_SH[42]? = some (.inr (.inl 6)) := rfl
theorem sh_43 : ge_SH[43]? = some (.inr (.inl 6)) := rfl
theorem sh_44 : ge_SH[44]? = some (.inr (.inl 6)) := rfl
theorem sh_45 : ge_SH[45]? = some (.inl (10, [some (true, 18), some (true, 3), some (true, 46), some (true, 47), some (true, 48), some (true, 49), some (true, 50), some (true, 51), some (true, 52), some (true, 53), some (true, 54), none, none, none, none, none, none, none, none])) := rfl
theorem sh_46 : ge_SH[46]? = some (.inr (.inl 10)) := rfl
theorem sh_47 : ge_SH[47]? = some (.inr (.inl 8)) := rfl
theorem sh_48 : ge_SH[48]? = some (.inr (.inl 8)) := rfl
theorem sh_49 : ge_SH[49]? = some (.inr (.inl 8)) := rfl
theorem sh_50 : ge_SH[50]? = some (.inr (.inl 8)) := rfl
theorem sh_51 : ge_SH[51]? = some (.inr (.inl 12)) := rfl
theorem sh_52 : ge_SH[52]? = some (.inr (.inl 6)) := rfl
theorem sh_53 : ge_SH[53]? = some (.inr (.inl 6)) := rfl
theorem sh_54 : ge_SH[54]? = some (.inr (.inl 6)) := rfl
theorem sh_55 : ge_SH[55]? = some (.inl (9, [some (true, 56), some (false, 58), none, none])) := rfl
theorem sh_56 : ge_SH[56]? = some (.inl (7, [some (true, 57), none, none])) := rfl
theorem sh_57 : ge_SH[57]? = some (.inr (.inl 50)) := rfl
theorem sh_58 : ge_SH[58]? = some (.inl (7, [some (true, 59), none, none])) := rfl
theorem sh_59 : ge_SH[59]? = some (.inr (.inl 50)) := rfl
theorem sh_60 : ge_SH[60]? = some (.inl (7, [some (true, 61), none, none])) := rfl
theorem sh_61 : ge_SH[61]? = some (.inr (.inl 50)) := rfl
theorem sh_62 : ge_SH[62]? = some (.inl (7, [some (true, 63), none, none])) := rfl
theorem sh_63 : ge_SH[63]? = some (.inr (.inl 20)) := rfl
theorem sh_64 : ge_SH[64]? = some (.inl (7, [some (true, 65), none, none])) := rfl
theorem sh_65 : ge_SH[65]? = some (.inr (.inl 20)) := rfl
theorem sh_66 : ge_SH[66]? = some (.inr (.inr (1, [67, 69, 71, 73]))) := rfl
theorem sh_67 : ge_SH[67]? = some (.inl (7, [some (true, 68), none, none])) := rfl
theorem sh_68 : ge_SH[68]? = some (.inr (.inl 40)) := rfl
theorem sh_69 : ge_SH[69]? = some (.inl (7, [some (true, 70), none, none])) := rfl
theorem sh_70 : ge_SH[70]? = some (.inr (.inl 40)) := rfl
theorem sh_71 : ge_SH[71]? = some (.inl (7, [some (true, 72), none, none])) := rfl
theorem sh_72 : ge_SH[72]? = some (.inr (.inl 40)) := rfl
theorem sh_73 : ge_SH[73]? = some (.inl (7, [some (true, 74), none, none])) := rfl
theorem sh_74 : ge_SH[74]? = some (.inr (.inl 40)) := rfl
theorem sh_75 : ge_SH[75]? = some (.inr (.inl 6)) := rfl
theorem sh_76 : ge_SH[76]? = some (.inl (12, [some (true, 77), some (true, 78), some (true, 79), some (true, 80), none, none, some (true, 81), none, none, none, none, none, none, none, none, none, none, some (true, 82), some (true, 83), some (true, 84), some (true, 85), some (true, 86), none, none, none, none])) := rfl
theorem sh_77 : ge_SH[77]? = some (.inr (.inl 244)) := rfl
theorem sh_78 : ge_SH[78]? = some (.inr (.inl 244)) := rfl
theorem sh_79 : ge_SH[79]? = some (.inr (.inl 244)) := rfl
theorem sh_80 : ge_SH[80]? = some (.inr (.inl 244)) := rfl
theorem sh_81 : ge_SH[81]? = some (.inr (.inl 6)) := rfl
theorem sh_82 : ge_SH[82]? = some (.inr (.inl 4)) := rfl
theorem sh_83 : ge_SH[83]? = some (.inr (.inl 4)) := rfl
theorem sh_84 : ge_SH[84]? = some (.inr (.inl 160)) := rfl
theorem sh_85 : ge_SH[85]? = some (.inr (.inl 40)) := rfl
theorem sh_86 : ge_SH[86]? = some (.inr (.inl 40)) := rfl
theorem ge_nadd {a b : Int32} {j k : Nat} (h : a = nI j) (h2 : b = nI k) : a + b = nI (j + k) := by rw [h, h2]; exact nI_add j k
theorem ge_nmul {a b : Int32} {j k : Nat} (h : a = nI j) (h2 : b = nI k) : a * b = nI (j * k) := by rw [h, h2]; exact pk_mul j k
section R5
variable {X : ge_X} {S : List ge_S} {y : ge_Y} {d : Nat} {Q : Option Value → ge_G → Prop} {l : List (Nat × Value)} {st rest : List Value} {g : ge_G} {pc : Nat}
theorem ge_rV0i {idx p ci d' : Nat} {y' : ge_Y} {fs : List ge_F} {q : vw_C} {x : Int32} {g' : ge_G} (dg : decode y.2.1 pc = .ok (.invokevirtual idx, 3)) (hc : ge_cv y.1.cls idx 0 y') (hs : S[p]? = some (.inl (ci, fs))) (hM : ge_Ret X S y' d' [.ref (ge_ad X.1 p)] g (some (.int x)) g') (hd : ge_ok y' d' d) (hq : vwCl[ci]? = some q) (hq1 : q.1 = y'.1.cls) (hr : (rest.map fun v => v.category).sum ≤ 8)
    (kk : ge_A X S y d Q (pc + 3) l (.int x :: rest) g') : ge_A X S y d Q pc l (.ref (ge_ad X.1 p) :: rest) g := ge_callV (As := []) dg hc hd hs hq hq1 rfl rfl hr hM (by rintro v g2 ⟨rfl, rfl⟩; exact kk)
theorem ge_rU0i {idx p ci d' : Nat} {Cn ow : String} {x0 : MethodName} {y0 y' : ge_Y} {fs : List ge_F} {q : vw_C} {x : Int32} {g' : ge_G} (dg : decode y.2.1 pc = .ok (.invokevirtual idx, 3)) (hc : ge_cu y.1.cls idx 0 Cn ow x0 y0 y') (hs : S[p]? = some (.inl (ci, fs))) (hM : ge_Ret X S y' d' [.ref (ge_ad X.1 p)] g (some (.int x)) g') (hd : ge_ok y' d' d) (hq : vwCl[ci]? = some q) (hq1 : q.1 = Cn) (hr : (rest.map fun v => v.category).sum ≤ 8)
    (kk : ge_A X S y d Q (pc + 3) l (.int x :: rest) g') : ge_A X S y d Q pc l (.ref (ge_ad X.1 p) :: rest) g := ge_callU (As := []) dg hc hd hs hq hq1 rfl rfl hr hM (by rintro v g2 ⟨rfl, rfl⟩; exact kk)
theorem ge_rP0i {idx p ci d' : Nat} {y' : ge_Y} {fs : List ge_F} {q : vw_C} {x : Int32} {g' : ge_G} (dg : decode y.2.1 pc = .ok (.invokespecial idx, 3)) (hc : ge_cp y.1.cls idx 0 y') (hs : S[p]? = some (.inl (ci, fs))) (hM : ge_Ret X S y' d' [.ref (ge_ad X.1 p)] g (some (.int x)) g') (hd : ge_ok y' d' d) (hq : vwCl[ci]? = some q) (hr : (rest.map fun v => v.category).sum ≤ 8)
    (kk : ge_A X S y d Q (pc + 3) l (.int x :: rest) g') : ge_A X S y d Q pc l (.ref (ge_ad X.1 p) :: rest) g := ge_callP (As := []) dg hc hd hs hq rfl rfl hr hM (by rintro v g2 ⟨rfl, rfl⟩; exact kk)
theorem ge_rS0i {idx d' : Nat} {y' : ge_Y} {x : Int32} {g' : ge_G} (dg : decode y.2.1 pc = .ok (.invokestatic idx, 3)) (hc : ge_cs y.1.cls idx 0 y') (hM : ge_Ret X S y' d' [] g (some (.int x)) g') (hd : ge_ok y' d' d) (hr : (rest.map fun v => v.category).sum ≤ 8)
    (kk : ge_A X S y d Q (pc + 3) l (.int x :: rest) g') : ge_A X S y d Q pc l (rest) g := ge_callS (As := []) dg hc hd rfl rfl hr hM (by rintro v g2 ⟨rfl, rfl⟩; exact kk)
theorem ge_rV0v {idx p ci d' : Nat} {y' : ge_Y} {fs : List ge_F} {q : vw_C} {g' : ge_G} (dg : decode y.2.1 pc = .ok (.invokevirtual idx, 3)) (hc : ge_cv y.1.cls idx 0 y') (hs : S[p]? = some (.inl (ci, fs))) (hM : ge_Ret X S y' d' [.ref (ge_ad X.1 p)] g none g') (hd : ge_ok y' d' d) (hq : vwCl[ci]? = some q) (hq1 : q.1 = y'.1.cls) (hr : (rest.map fun v => v.category).sum ≤ 8)
    (kk : ge_A X S y d Q (pc + 3) l (rest) g') : ge_A X S y d Q pc l (.ref (ge_ad X.1 p) :: rest) g := ge_callV (As := []) dg hc hd hs hq hq1 rfl rfl hr hM (by rintro v g2 ⟨rfl, rfl⟩; exact kk)
theorem ge_rU0v {idx p ci d' : Nat} {Cn ow : String} {x0 : MethodName} {y0 y' : ge_Y} {fs : List ge_F} {q : vw_C} {g' : ge_G} (dg : decode y.2.1 pc = .ok (.invokevirtual idx, 3)) (hc : ge_cu y.1.cls idx 0 Cn ow x0 y0 y') (hs : S[p]? = some (.inl (ci, fs))) (hM : ge_Ret X S y' d' [.ref (ge_ad X.1 p)] g none g') (hd : ge_ok y' d' d) (hq : vwCl[ci]? = some q) (hq1 : q.1 = Cn) (hr : (rest.map fun v => v.category).sum ≤ 8)
    (kk : ge_A X S y d Q (pc + 3) l (rest) g') : ge_A X S y d Q pc l (.ref (ge_ad X.1 p) :: rest) g := ge_callU (As := []) dg hc hd hs hq hq1 rfl rfl hr hM (by rintro v g2 ⟨rfl, rfl⟩; exact kk)
theorem ge_rP0v {idx p ci d' : Nat} {y' : ge_Y} {fs : List ge_F} {q : vw_C} {g' : ge_G} (dg : decode y.2.1 pc = .ok (.invokespecial idx, 3)) (hc : ge_cp y.1.cls idx 0 y') (hs : S[p]? = some (.inl (ci, fs))) (hM : ge_Ret X S y' d' [.ref (ge_ad X.1 p)] g none g') (hd : ge_ok y' d' d) (hq : vwCl[ci]? = some q) (hr : (rest.map fun v => v.category).sum ≤ 8)
    (kk : ge_A X S y d Q (pc + 3) l (rest) g') : ge_A X S y d Q pc l (.ref (ge_ad X.1 p) :: rest) g := ge_callP (As := []) dg hc hd hs hq rfl rfl hr hM (by rintro v g2 ⟨rfl, rfl⟩; exact kk)
theorem ge_rS0v {idx d' : Nat} {y' : ge_Y} {g' : ge_G} (dg : decode y.2.1 pc = .ok (.invokestatic idx, 3)) (hc : ge_cs y.1.cls idx 0 y') (hM : ge_Ret X S y' d' [] g none g') (hd : ge_ok y' d' d) (hr : (rest.map fun v => v.category).sum ≤ 8)
    (kk : ge_A X S y d Q (pc + 3) l (rest) g') : ge_A X S y d Q pc l (rest) g := ge_callS (As := []) dg hc hd rfl rfl hr hM (by rintro v g2 ⟨rfl, rfl⟩; exact kk)
theorem ge_rV1i {idx p ci d' : Nat} {y' : ge_Y} {a1 : Value} {fs : List ge_F} {q : vw_C} {x : Int32} {g' : ge_G} (dg : decode y.2.1 pc = .ok (.invokevirtual idx, 3)) (hc : ge_cv y.1.cls idx 1 y') (hs : S[p]? = some (.inl (ci, fs))) (hM : ge_Ret X S y' d' [.ref (ge_ad X.1 p), a1] g (some (.int x)) g') (hd : ge_ok y' d' d) (hq : vwCl[ci]? = some q) (hq1 : q.1 = y'.1.cls) (hr : (rest.map fun v => v.category).sum ≤ 8)
    (kk : ge_A X S y d Q (pc + 3) l (.int x :: rest) g') : ge_A X S y d Q pc l (a1 :: .ref (ge_ad X.1 p) :: rest) g := ge_callV (As := [a1]) dg hc hd hs hq hq1 rfl rfl hr hM (by rintro v g2 ⟨rfl, rfl⟩; exact kk)
theorem ge_rU1i {idx p ci d' : Nat} {Cn ow : String} {x0 : MethodName} {y0 y' : ge_Y} {a1 : Value} {fs : List ge_F} {q : vw_C} {x : Int32} {g' : ge_G} (dg : decode y.2.1 pc = .ok (.invokevirtual idx, 3)) (hc : ge_cu y.1.cls idx 1 Cn ow x0 y0 y') (hs : S[p]? = some (.inl (ci, fs))) (hM : ge_Ret X S y' d' [.ref (ge_ad X.1 p), a1] g (some (.int x)) g') (hd : ge_ok y' d' d) (hq : vwCl[ci]? = some q) (hq1 : q.1 = Cn) (hr : (rest.map fun v => v.category).sum ≤ 8)
    (kk : ge_A X S y d Q (pc + 3) l (.int x :: rest) g') : ge_A X S y d Q pc l (a1 :: .ref (ge_ad X.1 p) :: rest) g := ge_callU (As := [a1]) dg hc hd hs hq hq1 rfl rfl hr hM (by rintro v g2 ⟨rfl, rfl⟩; exact kk)
theorem ge_rP1i {idx p ci d' : Nat} {y' : ge_Y} {a1 : Value} {fs : List ge_F} {q : vw_C} {x : Int32} {g' : ge_G} (dg : decode y.2.1 pc = .ok (.invokespecial idx, 3)) (hc : ge_cp y.1.cls idx 1 y') (hs : S[p]? = some (.inl (ci, fs))) (hM : ge_Ret X S y' d' [.ref (ge_ad X.1 p), a1] g (some (.int x)) g') (hd : ge_ok y' d' d) (hq : vwCl[ci]? = some q) (hr : (rest.map fun v => v.category).sum ≤ 8)
    (kk : ge_A X S y d Q (pc + 3) l (.int x :: rest) g') : ge_A X S y d Q pc l (a1 :: .ref (ge_ad X.1 p) :: rest) g := ge_callP (As := [a1]) dg hc hd hs hq rfl rfl hr hM (by rintro v g2 ⟨rfl, rfl⟩; exact kk)
theorem ge_rS1i {idx d' : Nat} {y' : ge_Y} {a1 : Value} {x : Int32} {g' : ge_G} (dg : decode y.2.1 pc = .ok (.invokestatic idx, 3)) (hc : ge_cs y.1.cls idx 1 y') (hM : ge_Ret X S y' d' [a1] g (some (.int x)) g') (hd : ge_ok y' d' d) (hr : (rest.map fun v => v.category).sum ≤ 8)
    (kk : ge_A X S y d Q (pc + 3) l (.int x :: rest) g') : ge_A X S y d Q pc l (a1 :: rest) g := ge_callS (As := [a1]) dg hc hd rfl rfl hr hM (by rintro v g2 ⟨rfl, rfl⟩; exact kk)
theorem ge_rV1v {idx p ci d' : Nat} {y' : ge_Y} {a1 : Value} {fs : List ge_F} {q : vw_C} {g' : ge_G} (dg : decode y.2.1 pc = .ok (.invokevirtual idx, 3)) (hc : ge_cv y.1.cls idx 1 y') (hs : S[p]? = some (.inl (ci, fs))) (hM : ge_Ret X S y' d' [.ref (ge_ad X.1 p), a1] g none g') (hd : ge_ok y' d' d) (hq : vwCl[ci]? = some q) (hq1 : q.1 = y'.1.cls) (hr : (rest.map fun v => v.category).sum ≤ 8)
    (kk : ge_A X S y d Q (pc + 3) l (rest) g') : ge_A X S y d Q pc l (a1 :: .ref (ge_ad X.1 p) :: rest) g := ge_callV (As := [a1]) dg hc hd hs hq hq1 rfl rfl hr hM (by rintro v g2 ⟨rfl, rfl⟩; exact kk)
theorem ge_rU1v {idx p ci d' : Nat} {Cn ow : String} {x0 : MethodName} {y0 y' : ge_Y} {a1 : Value} {fs : List ge_F} {q : vw_C} {g' : ge_G} (dg : decode y.2.1 pc = .ok (.invokevirtual idx, 3)) (hc : ge_cu y.1.cls idx 1 Cn ow x0 y0 y') (hs : S[p]? = some (.inl (ci, fs))) (hM : ge_Ret X S y' d' [.ref (ge_ad X.1 p), a1] g none g') (hd : ge_ok y' d' d) (hq : vwCl[ci]? = some q) (hq1 : q.1 = Cn) (hr : (rest.map fun v => v.category).sum ≤ 8)
    (kk : ge_A X S y d Q (pc + 3) l (rest) g') : ge_A X S y d Q pc l (a1 :: .ref (ge_ad X.1 p) :: rest) g := ge_callU (As := [a1]) dg hc hd hs hq hq1 rfl rfl hr hM (by rintro v g2 ⟨rfl, rfl⟩; exact kk)
theorem ge_rP1v {idx p ci d' : Nat} {y' : ge_Y} {a1 : Value} {fs : List ge_F} {q : vw_C} {g' : ge_G} (dg : decode y.2.1 pc = .ok (.invokespecial idx, 3)) (hc : ge_cp y.1.cls idx 1 y') (hs : S[p]? = some (.inl (ci, fs))) (hM : ge_Ret X S y' d' [.ref (ge_ad X.1 p), a1] g none g') (hd : ge_ok y' d' d) (hq : vwCl[ci]? = some q) (hr : (rest.map fun v => v.category).sum ≤ 8)
    (kk : ge_A X S y d Q (pc + 3) l (rest) g') : ge_A X S y d Q pc l (a1 :: .ref (ge_ad X.1 p) :: rest) g := ge_callP (As := [a1]) dg hc hd hs hq rfl rfl hr hM (by rintro v g2 ⟨rfl, rfl⟩; exact kk)
theorem ge_rS1v {idx d' : Nat} {y' : ge_Y} {a1 : Value} {g' : ge_G} (dg : decode y.2.1 pc = .ok (.invokestatic idx, 3)) (hc : ge_cs y.1.cls idx 1 y') (hM : ge_Ret X S y' d' [a1] g none g') (hd : ge_ok y' d' d) (hr : (rest.map fun v => v.category).sum ≤ 8)
    (kk : ge_A X S y d Q (pc + 3) l (rest) g') : ge_A X S y d Q pc l (a1 :: rest) g := ge_callS (As := [a1]) dg hc hd rfl rfl hr hM (by rintro v g2 ⟨rfl, rfl⟩; exact kk)
theorem ge_rV2i {idx p ci d' : Nat} {y' : ge_Y} {a1 a2 : Value} {fs : List ge_F} {q : vw_C} {x : Int32} {g' : ge_G} (dg : decode y.2.1 pc = .ok (.invokevirtual idx, 3)) (hc : ge_cv y.1.cls idx 2 y') (hs : S[p]? = some (.inl (ci, fs))) (hM : ge_Ret X S y' d' [.ref (ge_ad X.1 p), a1, a2] g (some (.int x)) g') (hd : ge_ok y' d' d) (hq : vwCl[ci]? = some q) (hq1 : q.1 = y'.1.cls) (hr : (rest.map fun v => v.category).sum ≤ 8)
    (kk : ge_A X S y d Q (pc + 3) l (.int x :: rest) g') : ge_A X S y d Q pc l (a2 :: a1 :: .ref (ge_ad X.1 p) :: rest) g := ge_callV (As := [a1, a2]) dg hc hd hs hq hq1 rfl rfl hr hM (by rintro v g2 ⟨rfl, rfl⟩; exact kk)
theorem ge_rU2i {idx p ci d' : Nat} {Cn ow : String} {x0 : MethodName} {y0 y' : ge_Y} {a1 a2 : Value} {fs : List ge_F} {q : vw_C} {x : Int32} {g' : ge_G} (dg : decode y.2.1 pc = .ok (.invokevirtual idx, 3)) (hc : ge_cu y.1.cls idx 2 Cn ow x0 y0 y') (hs : S[p]? = some (.inl (ci, fs))) (hM : ge_Ret X S y' d' [.ref (ge_ad X.1 p), a1, a2] g (some (.int x)) g') (hd : ge_ok y' d' d) (hq : vwCl[ci]? = some q) (hq1 : q.1 = Cn) (hr : (rest.map fun v => v.category).sum ≤ 8)
    (kk : ge_A X S y d Q (pc + 3) l (.int x :: rest) g') : ge_A X S y d Q pc l (a2 :: a1 :: .ref (ge_ad X.1 p) :: rest) g := ge_callU (As := [a1, a2]) dg hc hd hs hq hq1 rfl rfl hr hM (by rintro v g2 ⟨rfl, rfl⟩; exact kk)
theorem ge_rP2i {idx p ci d' : Nat} {y' : ge_Y} {a1 a2 : Value} {fs : List ge_F} {q : vw_C} {x : Int32} {g' : ge_G} (dg : decode y.2.1 pc = .ok (.invokespecial idx, 3)) (hc : ge_cp y.1.cls idx 2 y') (hs : S[p]? = some (.inl (ci, fs))) (hM : ge_Ret X S y' d' [.ref (ge_ad X.1 p), a1, a2] g (some (.int x)) g') (hd : ge_ok y' d' d) (hq : vwCl[ci]? = some q) (hr : (rest.map fun v => v.category).sum ≤ 8)
    (kk : ge_A X S y d Q (pc + 3) l (.int x :: rest) g') : ge_A X S y d Q pc l (a2 :: a1 :: .ref (ge_ad X.1 p) :: rest) g := ge_callP (As := [a1, a2]) dg hc hd hs hq rfl rfl hr hM (by rintro v g2 ⟨rfl, rfl⟩; exact kk)
theorem ge_rS2i {idx d' : Nat} {y' : ge_Y} {a1 a2 : Value} {x : Int32} {g' : ge_G} (dg : decode y.2.1 pc = .ok (.invokestatic idx, 3)) (hc : ge_cs y.1.cls idx 2 y') (hM : ge_Ret X S y' d' [a1, a2] g (some (.int x)) g') (hd : ge_ok y' d' d) (hr : (rest.map fun v => v.category).sum ≤ 8)
    (kk : ge_A X S y d Q (pc + 3) l (.int x :: rest) g') : ge_A X S y d Q pc l (a2 :: a1 :: rest) g := ge_callS (As := [a1, a2]) dg hc hd rfl rfl hr hM (by rintro v g2 ⟨rfl, rfl⟩; exact kk)
theorem ge_rV2v {idx p ci d' : Nat} {y' : ge_Y} {a1 a2 : Value} {fs : List ge_F} {q : vw_C} {g' : ge_G} (dg : decode y.2.1 pc = .ok (.invokevirtual idx, 3)) (hc : ge_cv y.1.cls idx 2 y') (hs : S[p]? = some (.inl (ci, fs))) (hM : ge_Ret X S y' d' [.ref (ge_ad X.1 p), a1, a2] g none g') (hd : ge_ok y' d' d) (hq : vwCl[ci]? = some q) (hq1 : q.1 = y'.1.cls) (hr : (rest.map fun v => v.category).sum ≤ 8)
    (kk : ge_A X S y d Q (pc + 3) l (rest) g') : ge_A X S y d Q pc l (a2 :: a1 :: .ref (ge_ad X.1 p) :: rest) g := ge_callV (As := [a1, a2]) dg hc hd hs hq hq1 rfl rfl hr hM (by rintro v g2 ⟨rfl, rfl⟩; exact kk)
theorem ge_rU2v {idx p ci d' : Nat} {Cn ow : String} {x0 : MethodName} {y0 y' : ge_Y} {a1 a2 : Value} {fs : List ge_F} {q : vw_C} {g' : ge_G} (dg : decode y.2.1 pc = .ok (.invokevirtual idx, 3)) (hc : ge_cu y.1.cls idx 2 Cn ow x0 y0 y') (hs : S[p]? = some (.inl (ci, fs))) (hM : ge_Ret X S y' d' [.ref (ge_ad X.1 p), a1, a2] g none g') (hd : ge_ok y' d' d) (hq : vwCl[ci]? = some q) (hq1 : q.1 = Cn) (hr : (rest.map fun v => v.category).sum ≤ 8)
    (kk : ge_A X S y d Q (pc + 3) l (rest) g') : ge_A X S y d Q pc l (a2 :: a1 :: .ref (ge_ad X.1 p) :: rest) g := ge_callU (As := [a1, a2]) dg hc hd hs hq hq1 rfl rfl hr hM (by rintro v g2 ⟨rfl, rfl⟩; exact kk)
theorem ge_rP2v {idx p ci d' : Nat} {y' : ge_Y} {a1 a2 : Value} {fs : List ge_F} {q : vw_C} {g' : ge_G} (dg : decode y.2.1 pc = .ok (.invokespecial idx, 3)) (hc : ge_cp y.1.cls idx 2 y') (hs : S[p]? = some (.inl (ci, fs))) (hM : ge_Ret X S y' d' [.ref (ge_ad X.1 p), a1, a2] g none g') (hd : ge_ok y' d' d) (hq : vwCl[ci]? = some q) (hr : (rest.map fun v => v.category).sum ≤ 8)
    (kk : ge_A X S y d Q (pc + 3) l (rest) g') : ge_A X S y d Q pc l (a2 :: a1 :: .ref (ge_ad X.1 p) :: rest) g := ge_callP (As := [a1, a2]) dg hc hd hs hq rfl rfl hr hM (by rintro v g2 ⟨rfl, rfl⟩; exact kk)
theorem ge_rS2v {idx d' : Nat} {y' : ge_Y} {a1 a2 : Value} {g' : ge_G} (dg : decode y.2.1 pc = .ok (.invokestatic idx, 3)) (hc : ge_cs y.1.cls idx 2 y') (hM : ge_Ret X S y' d' [a1, a2] g none g') (hd : ge_ok y' d' d) (hr : (rest.map fun v => v.category).sum ≤ 8)
    (kk : ge_A X S y d Q (pc + 3) l (rest) g') : ge_A X S y d Q pc l (a2 :: a1 :: rest) g := ge_callS (As := [a1, a2]) dg hc hd rfl rfl hr hM (by rintro v g2 ⟨rfl, rfl⟩; exact kk)
theorem ge_rV3i {idx p ci d' : Nat} {y' : ge_Y} {a1 a2 a3 : Value} {fs : List ge_F} {q : vw_C} {x : Int32} {g' : ge_G} (dg : decode y.2.1 pc = .ok (.invokevirtual idx, 3)) (hc : ge_cv y.1.cls idx 3 y') (hs : S[p]? = some (.inl (ci, fs))) (hM : ge_Ret X S y' d' [.ref (ge_ad X.1 p), a1, a2, a3] g (some (.int x)) g') (hd : ge_ok y' d' d) (hq : vwCl[ci]? = some q) (hq1 : q.1 = y'.1.cls) (hr : (rest.map fun v => v.category).sum ≤ 8)
    (kk : ge_A X S y d Q (pc + 3) l (.int x :: rest) g') : ge_A X S y d Q pc l (a3 :: a2 :: a1 :: .ref (ge_ad X.1 p) :: rest) g := ge_callV (As := [a1, a2, a3]) dg hc hd hs hq hq1 rfl rfl hr hM (by rintro v g2 ⟨rfl, rfl⟩; exact kk)
theorem ge_rU3i {idx p ci d' : Nat} {Cn ow : String} {x0 : MethodName} {y0 y' : ge_Y} {a1 a2 a3 : Value} {fs : List ge_F} {q : vw_C} {x : Int32} {g' : ge_G} (dg : decode y.2.1 pc = .ok (.invokevirtual idx, 3)) (hc : ge_cu y.1.cls idx 3 Cn ow x0 y0 y') (hs : S[p]? = some (.inl (ci, fs))) (hM : ge_Ret X S y' d' [.ref (ge_ad X.1 p), a1, a2, a3] g (some (.int x)) g') (hd : ge_ok y' d' d) (hq : vwCl[ci]? = some q) (hq1 : q.1 = Cn) (hr : (rest.map fun v => v.category).sum ≤ 8)
    (kk : ge_A X S y d Q (pc + 3) l (.int x :: rest) g') : ge_A X S y d Q pc l (a3 :: a2 :: a1 :: .ref (ge_ad X.1 p) :: rest) g := ge_callU (As := [a1, a2, a3]) dg hc hd hs hq hq1 rfl rfl hr hM (by rintro v g2 ⟨rfl, rfl⟩; exact kk)
theorem ge_rP3i {idx p ci d' : Nat} {y' : ge_Y} {a1 a2 a3 : Value} {fs : List ge_F} {q : vw_C} {x : Int32} {g' : ge_G} (dg : decode y.2.1 pc = .ok (.invokespecial idx, 3)) (hc : ge_cp y.1.cls idx 3 y') (hs : S[p]? = some (.inl (ci, fs))) (hM : ge_Ret X S y' d' [.ref (ge_ad X.1 p), a1, a2, a3] g (some (.int x)) g') (hd : ge_ok y' d' d) (hq : vwCl[ci]? = some q) (hr : (rest.map fun v => v.category).sum ≤ 8)
    (kk : ge_A X S y d Q (pc + 3) l (.int x :: rest) g') : ge_A X S y d Q pc l (a3 :: a2 :: a1 :: .ref (ge_ad X.1 p) :: rest) g := ge_callP (As := [a1, a2, a3]) dg hc hd hs hq rfl rfl hr hM (by rintro v g2 ⟨rfl, rfl⟩; exact kk)
theorem ge_rS3i {idx d' : Nat} {y' : ge_Y} {a1 a2 a3 : Value} {x : Int32} {g' : ge_G} (dg : decode y.2.1 pc = .ok (.invokestatic idx, 3)) (hc : ge_cs y.1.cls idx 3 y') (hM : ge_Ret X S y' d' [a1, a2, a3] g (some (.int x)) g') (hd : ge_ok y' d' d) (hr : (rest.map fun v => v.category).sum ≤ 8)
    (kk : ge_A X S y d Q (pc + 3) l (.int x :: rest) g') : ge_A X S y d Q pc l (a3 :: a2 :: a1 :: rest) g := ge_callS (As := [a1, a2, a3]) dg hc hd rfl rfl hr hM (by rintro v g2 ⟨rfl, rfl⟩; exact kk)
theorem ge_rV3v {idx p ci d' : Nat} {y' : ge_Y} {a1 a2 a3 : Value} {fs : List ge_F} {q : vw_C} {g' : ge_G} (dg : decode y.2.1 pc = .ok (.invokevirtual idx, 3)) (hc : ge_cv y.1.cls idx 3 y') (hs : S[p]? = some (.inl (ci, fs))) (hM : ge_Ret X S y' d' [.ref (ge_ad X.1 p), a1, a2, a3] g none g') (hd : ge_ok y' d' d) (hq : vwCl[ci]? = some q) (hq1 : q.1 = y'.1.cls) (hr : (rest.map fun v => v.category).sum ≤ 8)
    (kk : ge_A X S y d Q (pc + 3) l (rest) g') : ge_A X S y d Q pc l (a3 :: a2 :: a1 :: .ref (ge_ad X.1 p) :: rest) g := ge_callV (As := [a1, a2, a3]) dg hc hd hs hq hq1 rfl rfl hr hM (by rintro v g2 ⟨rfl, rfl⟩; exact kk)
theorem ge_rU3v {idx p ci d' : Nat} {Cn ow : String} {x0 : MethodName} {y0 y' : ge_Y} {a1 a2 a3 : Value} {fs : List ge_F} {q : vw_C} {g' : ge_G} (dg : decode y.2.1 pc = .ok (.invokevirtual idx, 3)) (hc : ge_cu y.1.cls idx 3 Cn ow x0 y0 y') (hs : S[p]? = some (.inl (ci, fs))) (hM : ge_Ret X S y' d' [.ref (ge_ad X.1 p), a1, a2, a3] g none g') (hd : ge_ok y' d' d) (hq : vwCl[ci]? = some q) (hq1 : q.1 = Cn) (hr : (rest.map fun v => v.category).sum ≤ 8)
    (kk : ge_A X S y d Q (pc + 3) l (rest) g') : ge_A X S y d Q pc l (a3 :: a2 :: a1 :: .ref (ge_ad X.1 p) :: rest) g := ge_callU (As := [a1, a2, a3]) dg hc hd hs hq hq1 rfl rfl hr hM (by rintro v g2 ⟨rfl, rfl⟩; exact kk)
theorem ge_rP3v {idx p ci d' : Nat} {y' : ge_Y} {a1 a2 a3 : Value} {fs : List ge_F} {q : vw_C} {g' : ge_G} (dg : decode y.2.1 pc = .ok (.invokespecial idx, 3)) (hc : ge_cp y.1.cls idx 3 y') (hs : S[p]? = some (.inl (ci, fs))) (hM : ge_Ret X S y' d' [.ref (ge_ad X.1 p), a1, a2, a3] g none g') (hd : ge_ok y' d' d) (hq : vwCl[ci]? = some q) (hr : (rest.map fun v => v.category).sum ≤ 8)
    (kk : ge_A X S y d Q (pc + 3) l (rest) g') : ge_A X S y d Q pc l (a3 :: a2 :: a1 :: .ref (ge_ad X.1 p) :: rest) g := ge_callP (As := [a1, a2, a3]) dg hc hd hs hq rfl rfl hr hM (by rintro v g2 ⟨rfl, rfl⟩; exact kk)
theorem ge_rS3v {idx d' : Nat} {y' : ge_Y} {a1 a2 a3 : Value} {g' : ge_G} (dg : decode y.2.1 pc = .ok (.invokestatic idx, 3)) (hc : ge_cs y.1.cls idx 3 y') (hM : ge_Ret X S y' d' [a1, a2, a3] g none g') (hd : ge_ok y' d' d) (hr : (rest.map fun v => v.category).sum ≤ 8)
    (kk : ge_A X S y d Q (pc + 3) l (rest) g') : ge_A X S y d Q pc l (a3 :: a2 :: a1 :: rest) g := ge_callS (As := [a1, a2, a3]) dg hc hd rfl rfl hr hM (by rintro v g2 ⟨rfl, rfl⟩; exact kk)
theorem ge_rV4i {idx p ci d' : Nat} {y' : ge_Y} {a1 a2 a3 a4 : Value} {fs : List ge_F} {q : vw_C} {x : Int32} {g' : ge_G} (dg : decode y.2.1 pc = .ok (.invokevirtual idx, 3)) (hc : ge_cv y.1.cls idx 4 y') (hs : S[p]? = some (.inl (ci, fs))) (hM : ge_Ret X S y' d' [.ref (ge_ad X.1 p), a1, a2, a3, a4] g (some (.int x)) g') (hd : ge_ok y' d' d) (hq : vwCl[ci]? = some q) (hq1 : q.1 = y'.1.cls) (hr : (rest.map fun v => v.category).sum ≤ 8)
    (kk : ge_A X S y d Q (pc + 3) l (.int x :: rest) g') : ge_A X S y d Q pc l (a4 :: a3 :: a2 :: a1 :: .ref (ge_ad X.1 p) :: rest) g := ge_callV (As := [a1, a2, a3, a4]) dg hc hd hs hq hq1 rfl rfl hr hM (by rintro v g2 ⟨rfl, rfl⟩; exact kk)
theorem ge_rU4i {idx p ci d' : Nat} {Cn ow : String} {x0 : MethodName} {y0 y' : ge_Y} {a1 a2 a3 a4 : Value} {fs : List ge_F} {q : vw_C} {x : Int32} {g' : ge_G} (dg : decode y.2.1 pc = .ok (.invokevirtual idx, 3)) (hc : ge_cu y.1.cls idx 4 Cn ow x0 y0 y') (hs : S[p]? = some (.inl (ci, fs))) (hM : ge_Ret X S y' d' [.ref (ge_ad X.1 p), a1, a2, a3, a4] g (some (.int x)) g') (hd : ge_ok y' d' d) (hq : vwCl[ci]? = some q) (hq1 : q.1 = Cn) (hr : (rest.map fun v => v.category).sum ≤ 8)
    (kk : ge_A X S y d Q (pc + 3) l (.int x :: rest) g') : ge_A X S y d Q pc l (a4 :: a3 :: a2 :: a1 :: .ref (ge_ad X.1 p) :: rest) g := ge_callU (As := [a1, a2, a3, a4]) dg hc hd hs hq hq1 rfl rfl hr hM (by rintro v g2 ⟨rfl, rfl⟩; exact kk)
theorem ge_rP4i {idx p ci d' : Nat} {y' : ge_Y} {a1 a2 a3 a4 : Value} {fs : List ge_F} {q : vw_C} {x : Int32} {g' : ge_G} (dg : decode y.2.1 pc = .ok (.invokespecial idx, 3)) (hc : ge_cp y.1.cls idx 4 y') (hs : S[p]? = some (.inl (ci, fs))) (hM : ge_Ret X S y' d' [.ref (ge_ad X.1 p), a1, a2, a3, a4] g (some (.int x)) g') (hd : ge_ok y' d' d) (hq : vwCl[ci]? = some q) (hr : (rest.map fun v => v.category).sum ≤ 8)
    (kk : ge_A X S y d Q (pc + 3) l (.int x :: rest) g') : ge_A X S y d Q pc l (a4 :: a3 :: a2 :: a1 :: .ref (ge_ad X.1 p) :: rest) g := ge_callP (As := [a1, a2, a3, a4]) dg hc hd hs hq rfl rfl hr hM (by rintro v g2 ⟨rfl, rfl⟩; exact kk)
theorem ge_rS4i {idx d' : Nat} {y' : ge_Y} {a1 a2 a3 a4 : Value} {x : Int32} {g' : ge_G} (dg : decode y.2.1 pc = .ok (.invokestatic idx, 3)) (hc : ge_cs y.1.cls idx 4 y') (hM : ge_Ret X S y' d' [a1, a2, a3, a4] g (some (.int x)) g') (hd : ge_ok y' d' d) (hr : (rest.map fun v => v.category).sum ≤ 8)
    (kk : ge_A X S y d Q (pc + 3) l (.int x :: rest) g') : ge_A X S y d Q pc l (a4 :: a3 :: a2 :: a1 :: rest) g := ge_callS (As := [a1, a2, a3, a4]) dg hc hd rfl rfl hr hM (by rintro v g2 ⟨rfl, rfl⟩; exact kk)
theorem ge_rV4v {idx p ci d' : Nat} {y' : ge_Y} {a1 a2 a3 a4 : Value} {fs : List ge_F} {q : vw_C} {g' : ge_G} (dg : decode y.2.1 pc = .ok (.invokevirtual idx, 3)) (hc : ge_cv y.1.cls idx 4 y') (hs : S[p]? = some (.inl (ci, fs))) (hM : ge_Ret X S y' d' [.ref (ge_ad X.1 p), a1, a2, a3, a4] g none g') (hd : ge_ok y' d' d) (hq : vwCl[ci]? = some q) (hq1 : q.1 = y'.1.cls) (hr : (rest.map fun v => v.category).sum ≤ 8)
    (kk : ge_A X S y d Q (pc + 3) l (rest) g') : ge_A X S y d Q pc l (a4 :: a3 :: a2 :: a1 :: .ref (ge_ad X.1 p) :: rest) g := ge_callV (As := [a1, a2, a3, a4]) dg hc hd hs hq hq1 rfl rfl hr hM (by rintro v g2 ⟨rfl, rfl⟩; exact kk)
theorem ge_rU4v {idx p ci d' : Nat} {Cn ow : String} {x0 : MethodName} {y0 y' : ge_Y} {a1 a2 a3 a4 : Value} {fs : List ge_F} {q : vw_C} {g' : ge_G} (dg : decode y.2.1 pc = .ok (.invokevirtual idx, 3)) (hc : ge_cu y.1.cls idx 4 Cn ow x0 y0 y') (hs : S[p]? = some (.inl (ci, fs))) (hM : ge_Ret X S y' d' [.ref (ge_ad X.1 p), a1, a2, a3, a4] g none g') (hd : ge_ok y' d' d) (hq : vwCl[ci]? = some q) (hq1 : q.1 = Cn) (hr : (rest.map fun v => v.category).sum ≤ 8)
    (kk : ge_A X S y d Q (pc + 3) l (rest) g') : ge_A X S y d Q pc l (a4 :: a3 :: a2 :: a1 :: .ref (ge_ad X.1 p) :: rest) g := ge_callU (As := [a1, a2, a3, a4]) dg hc hd hs hq hq1 rfl rfl hr hM (by rintro v g2 ⟨rfl, rfl⟩; exact kk)
theorem ge_rP4v {idx p ci d' : Nat} {y' : ge_Y} {a1 a2 a3 a4 : Value} {fs : List ge_F} {q : vw_C} {g' : ge_G} (dg : decode y.2.1 pc = .ok (.invokespecial idx, 3)) (hc : ge_cp y.1.cls idx 4 y') (hs : S[p]? = some (.inl (ci, fs))) (hM : ge_Ret X S y' d' [.ref (ge_ad X.1 p), a1, a2, a3, a4] g none g') (hd : ge_ok y' d' d) (hq : vwCl[ci]? = some q) (hr : (rest.map fun v => v.category).sum ≤ 8)
    (kk : ge_A X S y d Q (pc + 3) l (rest) g') : ge_A X S y d Q pc l (a4 :: a3 :: a2 :: a1 :: .ref (ge_ad X.1 p) :: rest) g := ge_callP (As := [a1, a2, a3, a4]) dg hc hd hs hq rfl rfl hr hM (by rintro v g2 ⟨rfl, rfl⟩; exact kk)
theorem ge_rS4v {idx d' : Nat} {y' : ge_Y} {a1 a2 a3 a4 : Value} {g' : ge_G} (dg : decode y.2.1 pc = .ok (.invokestatic idx, 3)) (hc : ge_cs y.1.cls idx 4 y') (hM : ge_Ret X S y' d' [a1, a2, a3, a4] g none g') (hd : ge_ok y' d' d) (hr : (rest.map fun v => v.category).sum ≤ 8)
    (kk : ge_A X S y d Q (pc + 3) l (rest) g') : ge_A X S y d Q pc l (a4 :: a3 :: a2 :: a1 :: rest) g := ge_callS (As := [a1, a2, a3, a4]) dg hc hd rfl rfl hr hM (by rintro v g2 ⟨rfl, rfl⟩; exact kk)
theorem ge_rV5i {idx p ci d' : Nat} {y' : ge_Y} {a1 a2 a3 a4 a5 : Value} {fs : List ge_F} {q : vw_C} {x : Int32} {g' : ge_G} (dg : decode y.2.1 pc = .ok (.invokevirtual idx, 3)) (hc : ge_cv y.1.cls idx 5 y') (hs : S[p]? = some (.inl (ci, fs))) (hM : ge_Ret X S y' d' [.ref (ge_ad X.1 p), a1, a2, a3, a4, a5] g (some (.int x)) g') (hd : ge_ok y' d' d) (hq : vwCl[ci]? = some q) (hq1 : q.1 = y'.1.cls) (hr : (rest.map fun v => v.category).sum ≤ 8)
    (kk : ge_A X S y d Q (pc + 3) l (.int x :: rest) g') : ge_A X S y d Q pc l (a5 :: a4 :: a3 :: a2 :: a1 :: .ref (ge_ad X.1 p) :: rest) g := ge_callV (As := [a1, a2, a3, a4, a5]) dg hc hd hs hq hq1 rfl rfl hr hM (by rintro v g2 ⟨rfl, rfl⟩; exact kk)
theorem ge_rU5i {idx p ci d' : Nat} {Cn ow : String} {x0 : MethodName} {y0 y' : ge_Y} {a1 a2 a3 a4 a5 : Value} {fs : List ge_F} {q : vw_C} {x : Int32} {g' : ge_G} (dg : decode y.2.1 pc = .ok (.invokevirtual idx, 3)) (hc : ge_cu y.1.cls idx 5 Cn ow x0 y0 y') (hs : S[p]? = some (.inl (ci, fs))) (hM : ge_Ret X S y' d' [.ref (ge_ad X.1 p), a1, a2, a3, a4, a5] g (some (.int x)) g') (hd : ge_ok y' d' d) (hq : vwCl[ci]? = some q) (hq1 : q.1 = Cn) (hr : (rest.map fun v => v.category).sum ≤ 8)
    (kk : ge_A X S y d Q (pc + 3) l (.int x :: rest) g') : ge_A X S y d Q pc l (a5 :: a4 :: a3 :: a2 :: a1 :: .ref (ge_ad X.1 p) :: rest) g := ge_callU (As := [a1, a2, a3, a4, a5]) dg hc hd hs hq hq1 rfl rfl hr hM (by rintro v g2 ⟨rfl, rfl⟩; exact kk)
theorem ge_rP5i {idx p ci d' : Nat} {y' : ge_Y} {a1 a2 a3 a4 a5 : Value} {fs : List ge_F} {q : vw_C} {x : Int32} {g' : ge_G} (dg : decode y.2.1 pc = .ok (.invokespecial idx, 3)) (hc : ge_cp y.1.cls idx 5 y') (hs : S[p]? = some (.inl (ci, fs))) (hM : ge_Ret X S y' d' [.ref (ge_ad X.1 p), a1, a2, a3, a4, a5] g (some (.int x)) g') (hd : ge_ok y' d' d) (hq : vwCl[ci]? = some q) (hr : (rest.map fun v => v.category).sum ≤ 8)
    (kk : ge_A X S y d Q (pc + 3) l (.int x :: rest) g') : ge_A X S y d Q pc l (a5 :: a4 :: a3 :: a2 :: a1 :: .ref (ge_ad X.1 p) :: rest) g := ge_callP (As := [a1, a2, a3, a4, a5]) dg hc hd hs hq rfl rfl hr hM (by rintro v g2 ⟨rfl, rfl⟩; exact kk)
theorem ge_rS5i {idx d' : Nat} {y' : ge_Y} {a1 a2 a3 a4 a5 : Value} {x : Int32} {g' : ge_G} (dg : decode y.2.1 pc = .ok (.invokestatic idx, 3)) (hc : ge_cs y.1.cls idx 5 y') (hM : ge_Ret X S y' d' [a1, a2, a3, a4, a5] g (some (.int x)) g') (hd : ge_ok y' d' d) (hr : (rest.map fun v => v.category).sum ≤ 8)
    (kk : ge_A X S y d Q (pc + 3) l (.int x :: rest) g') : ge_A X S y d Q pc l (a5 :: a4 :: a3 :: a2 :: a1 :: rest) g := ge_callS (As := [a1, a2, a3, a4, a5]) dg hc hd rfl rfl hr hM (by rintro v g2 ⟨rfl, rfl⟩; exact kk)
theorem ge_rV5v {idx p ci d' : Nat} {y' : ge_Y} {a1 a2 a3 a4 a5 : Value} {fs : List ge_F} {q : vw_C} {g' : ge_G} (dg : decode y.2.1 pc = .ok (.invokevirtual idx, 3)) (hc : ge_cv y.1.cls idx 5 y') (hs : S[p]? = some (.inl (ci, fs))) (hM : ge_Ret X S y' d' [.ref (ge_ad X.1 p), a1, a2, a3, a4, a5] g none g') (hd : ge_ok y' d' d) (hq : vwCl[ci]? = some q) (hq1 : q.1 = y'.1.cls) (hr : (rest.map fun v => v.category).sum ≤ 8)
    (kk : ge_A X S y d Q (pc + 3) l (rest) g') : ge_A X S y d Q pc l (a5 :: a4 :: a3 :: a2 :: a1 :: .ref (ge_ad X.1 p) :: rest) g := ge_callV (As := [a1, a2, a3, a4, a5]) dg hc hd hs hq hq1 rfl rfl hr hM (by rintro v g2 ⟨rfl, rfl⟩; exact kk)
theorem ge_rU5v {idx p ci d' : Nat} {Cn ow : String} {x0 : MethodName} {y0 y' : ge_Y} {a1 a2 a3 a4 a5 : Value} {fs : List ge_F} {q : vw_C} {g' : ge_G} (dg : decode y.2.1 pc = .ok (.invokevirtual idx, 3)) (hc : ge_cu y.1.cls idx 5 Cn ow x0 y0 y') (hs : S[p]? = some (.inl (ci, fs))) (hM : ge_Ret X S y' d' [.ref (ge_ad X.1 p), a1, a2, a3, a4, a5] g none g') (hd : ge_ok y' d' d) (hq : vwCl[ci]? = some q) (hq1 : q.1 = Cn) (hr : (rest.map fun v => v.category).sum ≤ 8)
    (kk : ge_A X S y d Q (pc + 3) l (rest) g') : ge_A X S y d Q pc l (a5 :: a4 :: a3 :: a2 :: a1 :: .ref (ge_ad X.1 p) :: rest) g := ge_callU (As := [a1, a2, a3, a4, a5]) dg hc hd hs hq hq1 rfl rfl hr hM (by rintro v g2 ⟨rfl, rfl⟩; exact kk)
theorem ge_rP5v {idx p ci d' : Nat} {y' : ge_Y} {a1 a2 a3 a4 a5 : Value} {fs : List ge_F} {q : vw_C} {g' : ge_G} (dg : decode y.2.1 pc = .ok (.invokespecial idx, 3)) (hc : ge_cp y.1.cls idx 5 y') (hs : S[p]? = some (.inl (ci, fs))) (hM : ge_Ret X S y' d' [.ref (ge_ad X.1 p), a1, a2, a3, a4, a5] g none g') (hd : ge_ok y' d' d) (hq : vwCl[ci]? = some q) (hr : (rest.map fun v => v.category).sum ≤ 8)
    (kk : ge_A X S y d Q (pc + 3) l (rest) g') : ge_A X S y d Q pc l (a5 :: a4 :: a3 :: a2 :: a1 :: .ref (ge_ad X.1 p) :: rest) g := ge_callP (As := [a1, a2, a3, a4, a5]) dg hc hd hs hq rfl rfl hr hM (by rintro v g2 ⟨rfl, rfl⟩; exact kk)
theorem ge_rS5v {idx d' : Nat} {y' : ge_Y} {a1 a2 a3 a4 a5 : Value} {g' : ge_G} (dg : decode y.2.1 pc = .ok (.invokestatic idx, 3)) (hc : ge_cs y.1.cls idx 5 y') (hM : ge_Ret X S y' d' [a1, a2, a3, a4, a5] g none g') (hd : ge_ok y' d' d) (hr : (rest.map fun v => v.category).sum ≤ 8)
    (kk : ge_A X S y d Q (pc + 3) l (rest) g') : ge_A X S y d Q pc l (a5 :: a4 :: a3 :: a2 :: a1 :: rest) g := ge_callS (As := [a1, a2, a3, a4, a5]) dg hc hd rfl rfl hr hM (by rintro v g2 ⟨rfl, rfl⟩; exact kk)
end R5
/-- the reference's state: its own numbers f, its row r, all else as in g -/
def ge_m (g : ge_G) (r f : Nat → Int32) : ge_G := fun q => if q = 77 then r else if q = 76 then f else g q
theorem ge_m_r (g : ge_G) (r f : Nat → Int32) : ge_m g r f 77 = r := rfl
theorem ge_m_f (g : ge_G) (r f : Nat → Int32) : ge_m g r f 76 = f := rfl
theorem ge_m_o (g : ge_G) (r f : Nat → Int32) {q : Nat} (h : q ≠ 77) (h2 : q ≠ 76) : ge_m g r f q = g q := by simp [ge_m, h, h2]
theorem ge_m_self (g : ge_G) : ge_m g (g 77) (g 76) = g := by
  funext q
  by_cases h : q = 77
  · subst h; rfl
  · by_cases h2 : q = 76
    · subst h2; rfl
    · exact ge_m_o g _ _ h h2
theorem ge_m_ur (g : ge_G) (r f : Nat → Int32) (h : Nat → Int32) : ge_row (ge_m g r f) 77 h = ge_m g h f := by
  funext q
  by_cases hq : q = 77
  · subst hq; rfl
  · simp [ge_row, ge_m, hq]
theorem ge_m_uf (g : ge_G) (r f : Nat → Int32) (h : Nat → Int32) : ge_row (ge_m g r f) 76 h = ge_m g r h := by
  funext q
  by_cases hq : q = 76
  · subst hq; rfl
  · simp [ge_row, ge_m, hq]
theorem ge_m_uo (g : ge_G) (r f : Nat → Int32) {p : Nat} (h : p ≠ 77) (h2 : p ≠ 76) (x : Nat → Int32) : ge_row (ge_m g r f) p x = ge_m (ge_row g p x) r f := by
  funext q
  by_cases hq : q = p
  · subst hq; simp [ge_row, ge_m, h, h2]
  · simp [ge_row, ge_m, hq]
section R6
variable {X : ge_X} {y : ge_Y} {d : Nat} {Q : Option Value → ge_G → Prop} {l : List (Nat × Value)} {st rest : List Value} {g : ge_G} {r f : Nat → Int32} {pc : Nat}
theorem gm_geti {idx k : Nat} {fs : List ge_F} (dg : decode y.2.1 pc = .ok (.getfield idx, 3)) (hf : ge_fl y.1.cls idx 12 k) (hs : ge_SH[76]? = some (.inl (12, fs))) (hb : fs[k]? = some none)
    (kk : ge_A X ge_SH y d Q (pc + 3) l (.int (f k) :: st) (ge_m g r f)) : ge_A X ge_SH y d Q pc l (.ref (ge_ad X.1 76) :: st) (ge_m g r f) := ge_geti dg hf hs hb kk
theorem gm_puti {idx k : Nat} {fs : List ge_F} {x : Int32} (dg : decode y.2.1 pc = .ok (.putfield idx, 3)) (hf : ge_fp y.1.cls idx 12 k .int) (hs : ge_SH[76]? = some (.inl (12, fs))) (hb : fs[k]? = some none)
    (kk : ge_A X ge_SH y d Q (pc + 3) l st (ge_m g r (upd f k x))) : ge_A X ge_SH y d Q pc l (.int x :: .ref (ge_ad X.1 76) :: st) (ge_m g r f) := ge_puti dg hf hs hb (by unfold ge_up; rw [ge_m_uf]; exact kk)
theorem gm_putz {idx k : Nat} {fs : List ge_F} {x : Int32} (dg : decode y.2.1 pc = .ok (.putfield idx, 3)) (hf : ge_fp y.1.cls idx 12 k .boolean) (hs : ge_SH[76]? = some (.inl (12, fs))) (hb : fs[k]? = some none) (hx : narrow .boolean (.int x) = .int x ∧ fits .boolean (.int x) = true)
    (kk : ge_A X ge_SH y d Q (pc + 3) l st (ge_m g r (upd f k x))) : ge_A X ge_SH y d Q pc l (.int x :: .ref (ge_ad X.1 76) :: st) (ge_m g r f) := ge_putz dg hf hs hb hx (by unfold ge_up; rw [ge_m_uf]; exact kk)
theorem gm_ald {i : Int32} {j : Nat} (dg : decode y.2.1 pc = .ok (.iaload, 1)) (hi : i = nI j) (hj : j < 244)
    (kk : ge_A X ge_SH y d Q (pc + 1) l (.int (r j) :: st) (ge_m g r f)) : ge_A X ge_SH y d Q pc l (.int i :: .ref (ge_ad X.1 77) :: st) (ge_m g r f) := ge_ald dg sh_77 hi hj (by decide) kk
theorem gm_ast {i x : Int32} {j : Nat} (dg : decode y.2.1 pc = .ok (.iastore, 1)) (hi : i = nI j) (hj : j < 244)
    (kk : ge_A X ge_SH y d Q (pc + 1) l st (ge_m g (upd r j x) f)) : ge_A X ge_SH y d Q pc l (.int x :: .int i :: .ref (ge_ad X.1 77) :: st) (ge_m g r f) := ge_ast dg sh_77 hi hj (by decide) (by unfold ge_up; rw [ge_m_ur]; exact kk)
theorem gm_aldo {p n : Nat} {i : Int32} {j : Nat} (dg : decode y.2.1 pc = .ok (.iaload, 1)) (hs : ge_SH[p]? = some (.inr (.inl n))) (h1 : p ≠ 77) (h2 : p ≠ 76) (hi : i = nI j) (hj : j < n) (hn : n < 1000)
    (kk : ge_A X ge_SH y d Q (pc + 1) l (.int (g p j) :: st) (ge_m g r f)) : ge_A X ge_SH y d Q pc l (.int i :: .ref (ge_ad X.1 p) :: st) (ge_m g r f) := ge_ald dg hs hi hj hn (by rw [ge_m_o g r f h1 h2]; exact kk)
theorem gm_asto {p n : Nat} {i x : Int32} {j : Nat} (dg : decode y.2.1 pc = .ok (.iastore, 1)) (hs : ge_SH[p]? = some (.inr (.inl n))) (h1 : p ≠ 77) (h2 : p ≠ 76) (hi : i = nI j) (hj : j < n) (hn : n < 1000)
    (kk : ge_A X ge_SH y d Q (pc + 1) l st (ge_m (ge_up g p j x) r f)) : ge_A X ge_SH y d Q pc l (.int x :: .int i :: .ref (ge_ad X.1 p) :: st) (ge_m g r f) := ge_ast dg hs hi hj hn (by unfold ge_up; rw [ge_m_uo g r f h1 h2, ge_m_o g r f h1 h2]; exact kk)
end R6
