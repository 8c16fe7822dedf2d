theorem kc_m1 : Int32.ofInt (-1) = (-1 : Int32) := by decide
theorem kc_0 : Int32.ofInt 0 = (0 : Int32) := by decide
theorem kc_1 : Int32.ofInt 1 = (1 : Int32) := by decide
theorem kc_2 : Int32.ofInt 2 = (2 : Int32) := by decide
theorem kc_3 : Int32.ofInt 3 = (3 : Int32) := by decide
theorem kc_4 : Int32.ofInt 4 = (4 : Int32) := by decide
theorem kc_5 : Int32.ofInt 5 = (5 : Int32) := by decide
theorem kb_m124 : (Int8.ofInt (-124)).toInt32 = (-124 : Int32) := by decide
theorem kb_m43 : (Int8.ofInt (-43)).toInt32 = (-43 : Int32) := by decide
theorem kb_m38 : (Int8.ofInt (-38)).toInt32 = (-38 : Int32) := by decide
theorem kb_m37 : (Int8.ofInt (-37)).toInt32 = (-37 : Int32) := by decide
theorem kb_m33 : (Int8.ofInt (-33)).toInt32 = (-33 : Int32) := by decide
theorem kb_m10 : (Int8.ofInt (-10)).toInt32 = (-10 : Int32) := by decide
theorem kb_m3 : (Int8.ofInt (-3)).toInt32 = (-3 : Int32) := by decide
theorem kb_m2 : (Int8.ofInt (-2)).toInt32 = (-2 : Int32) := by decide
theorem kb_6 : (Int8.ofInt 6).toInt32 = (6 : Int32) := by decide
theorem kb_7 : (Int8.ofInt 7).toInt32 = (7 : Int32) := by decide
theorem kb_8 : (Int8.ofInt 8).toInt32 = (8 : Int32) := by decide
theorem kb_9 : (Int8.ofInt 9).toInt32 = (9 : Int32) := by decide
theorem kb_10 : (Int8.ofInt 10).toInt32 = (10 : Int32) := by decide
theorem kb_11 : (Int8.ofInt 11).toInt32 = (11 : Int32) := by decide
theorem kb_12 : (Int8.ofInt 12).toInt32 = (12 : Int32) := by decide
theorem kb_13 : (Int8.ofInt 13).toInt32 = (13 : Int32) := by decide
theorem kb_16 : (Int8.ofInt 16).toInt32 = (16 : Int32) := by decide
theorem kb_18 : (Int8.ofInt 18).toInt32 = (18 : Int32) := by decide
theorem kb_20 : (Int8.ofInt 20).toInt32 = (20 : Int32) := by decide
theorem kb_30 : (Int8.ofInt 30).toInt32 = (30 : Int32) := by decide
theorem kb_32 : (Int8.ofInt 32).toInt32 = (32 : Int32) := by decide
theorem kb_33 : (Int8.ofInt 33).toInt32 = (33 : Int32) := by decide
theorem kb_37 : (Int8.ofInt 37).toInt32 = (37 : Int32) := by decide
theorem kb_38 : (Int8.ofInt 38).toInt32 = (38 : Int32) := by decide
theorem kb_40 : (Int8.ofInt 40).toInt32 = (40 : Int32) := by decide
theorem kb_41 : (Int8.ofInt 41).toInt32 = (41 : Int32) := by decide
theorem kb_42 : (Int8.ofInt 42).toInt32 = (42 : Int32) := by decide
theorem kb_43 : (Int8.ofInt 43).toInt32 = (43 : Int32) := by decide
theorem kb_45 : (Int8.ofInt 45).toInt32 = (45 : Int32) := by decide
theorem kb_47 : (Int8.ofInt 47).toInt32 = (47 : Int32) := by decide
theorem kb_48 : (Int8.ofInt 48).toInt32 = (48 : Int32) := by decide
theorem kb_49 : (Int8.ofInt 49).toInt32 = (49 : Int32) := by decide
theorem kb_50 : (Int8.ofInt 50).toInt32 = (50 : Int32) := by decide
theorem kb_57 : (Int8.ofInt 57).toInt32 = (57 : Int32) := by decide
theorem kb_60 : (Int8.ofInt 60).toInt32 = (60 : Int32) := by decide
theorem kb_61 : (Int8.ofInt 61).toInt32 = (61 : Int32) := by decide
theorem kb_62 : (Int8.ofInt 62).toInt32 = (62 : Int32) := by decide
theorem kb_63 : (Int8.ofInt 63).toInt32 = (63 : Int32) := by decide
theorem kb_69 : (Int8.ofInt 69).toInt32 = (69 : Int32) := by decide
theorem kb_70 : (Int8.ofInt 70).toInt32 = (70 : Int32) := by decide
theorem kb_71 : (Int8.ofInt 71).toInt32 = (71 : Int32) := by decide
theorem kb_74 : (Int8.ofInt 74).toInt32 = (74 : Int32) := by decide
theorem kb_98 : (Int8.ofInt 98).toInt32 = (98 : Int32) := by decide
theorem kb_99 : (Int8.ofInt 99).toInt32 = (99 : Int32) := by decide
theorem kb_100 : (Int8.ofInt 100).toInt32 = (100 : Int32) := by decide
theorem kb_104 : (Int8.ofInt 104).toInt32 = (104 : Int32) := by decide
theorem kb_108 : (Int8.ofInt 108).toInt32 = (108 : Int32) := by decide
theorem kb_109 : (Int8.ofInt 109).toInt32 = (109 : Int32) := by decide
theorem kb_114 : (Int8.ofInt 114).toInt32 = (114 : Int32) := by decide
theorem kb_124 : (Int8.ofInt 124).toInt32 = (124 : Int32) := by decide
theorem kq_144 : (Int16.ofInt 144).toInt32 = (144 : Int32) := by decide
theorem kq_160 : (Int16.ofInt 160).toInt32 = (160 : Int32) := by decide
theorem kq_244 : (Int16.ofInt 244).toInt32 = (244 : Int32) := by decide
theorem kq_255 : (Int16.ofInt 255).toInt32 = (255 : Int32) := by decide
theorem kq_1023 : (Int16.ofInt 1023).toInt32 = (1023 : Int32) := by decide
theorem kq_9999 : (Int16.ofInt 9999).toInt32 = (9999 : Int32) := by decide
theorem kq_12345 : (Int16.ofInt 12345).toInt32 = (12345 : Int32) := by decide
theorem kl_0 : (0 : Int32) = nI 0 := rfl
theorem kl_1 : (1 : Int32) = nI 1 := rfl
theorem kl_2 : (2 : Int32) = nI 2 := rfl
theorem kl_3 : (3 : Int32) = nI 3 := rfl
theorem kl_4 : (4 : Int32) = nI 4 := rfl
theorem kl_5 : (5 : Int32) = nI 5 := rfl
theorem kl_6 : (6 : Int32) = nI 6 := rfl
theorem kl_7 : (7 : Int32) = nI 7 := rfl
theorem kl_8 : (8 : Int32) = nI 8 := rfl
theorem kl_9 : (9 : Int32) = nI 9 := rfl
theorem kl_10 : (10 : Int32) = nI 10 := rfl
theorem kl_11 : (11 : Int32) = nI 11 := rfl
theorem kl_12 : (12 : Int32) = nI 12 := rfl
theorem kl_13 : (13 : Int32) = nI 13 := rfl
theorem kl_16 : (16 : Int32) = nI 16 := rfl
theorem kl_18 : (18 : Int32) = nI 18 := rfl
theorem kl_20 : (20 : Int32) = nI 20 := rfl
theorem kl_30 : (30 : Int32) = nI 30 := rfl
theorem kl_32 : (32 : Int32) = nI 32 := rfl
theorem kl_33 : (33 : Int32) = nI 33 := rfl
theorem kl_37 : (37 : Int32) = nI 37 := rfl
theorem kl_38 : (38 : Int32) = nI 38 := rfl
theorem kl_40 : (40 : Int32) = nI 40 := rfl
theorem kl_41 : (41 : Int32) = nI 41 := rfl
theorem kl_42 : (42 : Int32) = nI 42 := rfl
theorem kl_43 : (43 : Int32) = nI 43 := rfl
theorem kl_45 : (45 : Int32) = nI 45 := rfl
theorem kl_47 : (47 : Int32) = nI 47 := rfl
theorem kl_48 : (48 : Int32) = nI 48 := rfl
theorem kl_49 : (49 : Int32) = nI 49 := rfl
theorem kl_50 : (50 : Int32) = nI 50 := rfl
theorem kl_57 : (57 : Int32) = nI 57 := rfl
theorem kl_60 : (60 : Int32) = nI 60 := rfl
theorem kl_61 : (61 : Int32) = nI 61 := rfl
theorem kl_62 : (62 : Int32) = nI 62 := rfl
theorem kl_63 : (63 : Int32) = nI 63 := rfl
theorem kl_69 : (69 : Int32) = nI 69 := rfl
theorem kl_70 : (70 : Int32) = nI 70 := rfl
theorem kl_71 : (71 : Int32) = nI 71 := rfl
theorem kl_74 : (74 : Int32) = nI 74 := rfl
theorem kl_98 : (98 : Int32) = nI 98 := rfl
theorem kl_99 : (99 : Int32) = nI 99 := rfl
theorem kl_100 : (100 : Int32) = nI 100 := rfl
theorem kl_104 : (104 : Int32) = nI 104 := rfl
theorem kl_108 : (108 : Int32) = nI 108 := rfl
theorem kl_109 : (109 : Int32) = nI 109 := rfl
theorem kl_114 : (114 : Int32) = nI 114 := rfl
theorem kl_124 : (124 : Int32) = nI 124 := rfl
theorem kl_144 : (144 : Int32) = nI 144 := rfl
theorem kl_160 : (160 : Int32) = nI 160 := rfl
theorem kl_244 : (244 : Int32) = nI 244 := rfl
theorem kl_255 : (255 : Int32) = nI 255 := rfl
theorem kl_1023 : (1023 : Int32) = nI 1023 := rfl
theorem kl_9999 : (9999 : Int32) = nI 9999 := rfl
theorem kl_12345 : (12345 : Int32) = nI 12345 := rfl
