theorem dX0_doLine_6 : decode cX0_doLine 6 = .ok (.tableswitch 115 1 3 #[26, 36, 104], 26) := by decide +kernel
theorem dX5_isSign_1 : decode cX5_isSign 1 = .ok (.lookupswitch 93 #[(42, 91), (43, 91), (45, 91), (58, 91), (59, 91), (60, 91), (61, 91), (62, 91), (123, 91), (125, 91)], 91) := by decide +kernel
theorem dX5_wordKind_3 : decode cX5_wordKind 3 = .ok (.tableswitch 156 1 4 #[29, 46, 78, 109], 29) := by decide +kernel
theorem dX5_readAct_9 : decode cX5_readAct 9 = .ok (.tableswitch 95 5 7 #[27, 53, 79], 27) := by decide +kernel
theorem dX9_tell_15 : decode cX9_tell 15 = .ok (.tableswitch 96 0 4 #[33, 40, 47, 54, 61], 33) := by decide +kernel
theorem dX11_count_1 : decode cX11_count 1 = .ok (.tableswitch 162 0 10 #[59, 67, 75, 87, 99, 111, 119, 127, 135, 143, 151], 59) := by decide +kernel
theorem dX12_way_19 : decode cX12_way 19 = .ok (.tableswitch 95 0 4 #[33, 40, 47, 54, 61], 33) := by decide +kernel
theorem dX12_count_3 : decode cX12_count 3 = .ok (.tableswitch 239 0 10 #[57, 57, 93, 99, 105, 111, 116, 123, 130, 176, 209], 57) := by decide +kernel
