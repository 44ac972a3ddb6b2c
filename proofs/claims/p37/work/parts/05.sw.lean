theorem dX0_doLine_14 : decode cX0_doLine 14 = .ok (.tableswitch 141 1 3 #[26, 78, 130], 26) := by decide +kernel
theorem dX5_isSign_1 : decode cX5_isSign 1 = .ok (.lookupswitch 93 #[(42, 91), (43, 91), (45, 91), (58, 91), (59, 91), (60, 91), (61, 91), (62, 91), (123, 91), (125, 91)], 91) := by decide +kernel
theorem dX5_wordKind_40 : decode cX5_wordKind 40 = .ok (.lookupswitch 88 #[(26479, 71), (26982, 68), (6385252, 76), (7562612, 74), (1701606245, 85), (1937010544, 79), (2003330414, 82)], 68) := by decide +kernel
theorem dX5_readAct_9 : decode cX5_readAct 9 = .ok (.tableswitch 95 5 7 #[27, 53, 79], 27) := by decide +kernel
theorem dX9_tell_15 : decode cX9_tell 15 = .ok (.tableswitch 96 0 4 #[33, 40, 47, 54, 61], 33) := by decide +kernel
theorem dX11_count_1 : decode cX11_count 1 = .ok (.tableswitch 162 0 10 #[59, 67, 75, 87, 99, 111, 119, 127, 135, 143, 151], 59) := by decide +kernel
theorem dX12_way_19 : decode cX12_way 19 = .ok (.tableswitch 95 0 4 #[33, 40, 47, 54, 61], 33) := by decide +kernel
theorem dX12_count_3 : decode cX12_count 3 = .ok (.tableswitch 239 0 10 #[57, 57, 93, 99, 105, 111, 116, 123, 130, 176, 209], 57) := by decide +kernel
theorem dL_law_33 : decode cL_law 33 = .ok (.tableswitch 1583 0 43 #[191, 254, 277, 300, 323, 346, 399, 432, 465, 488, 501, 524, 567, 610, 623, 636, 659, 712, 775, 798, 831, 864, 897, 910, 943, 976, 1019, 1052, 1075, 1098, 1121, 1144, 1167, 1190, 1223, 1266, 1289, 1322, 1335, 1358, 1381, 1404, 1447, 1520], 191) := by decide +kernel
