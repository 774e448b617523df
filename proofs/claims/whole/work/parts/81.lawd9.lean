/-! the law, decoded: the rest -/
theorem dlw_0 : decode code 0 = .ok (.new 7, 3) := by decide +kernel
theorem dlw_3 : decode code 3 = .ok (.dup, 1) := by decide +kernel
theorem dlw_4 : decode code 4 = .ok (.invokespecial 9, 3) := by decide +kernel
theorem dlw_7 : decode code 7 = .ok (.astore_n 1, 1) := by decide +kernel
theorem dlw_8 : decode code 8 = .ok (.new 10, 3) := by decide +kernel
theorem dlw_11 : decode code 11 = .ok (.dup, 1) := by decide +kernel
theorem dlw_12 : decode code 12 = .ok (.invokespecial 12, 3) := by decide +kernel
theorem dlw_15 : decode code 15 = .ok (.astore_n 2, 1) := by decide +kernel
theorem dlw_16 : decode code 16 = .ok (.iconst 0, 1) := by decide +kernel
theorem dlw_17 : decode code 17 = .ok (.istore_n 3, 1) := by decide +kernel
theorem dlw_18 : decode code 18 = .ok (.iload_n 3, 1) := by decide +kernel
theorem dlw_19 : decode code 19 = .ok (.aload_n 0, 1) := by decide +kernel
theorem dlw_20 : decode code 20 = .ok (.arraylength, 1) := by decide +kernel
theorem dlw_21 : decode code 21 = .ok (.bipush 6, 2) := by decide +kernel
theorem dlw_23 : decode code 23 = .ok (.isub, 1) := by decide +kernel
theorem dlw_24 : decode code 24 = .ok (.if_icmp .gt 1184, 3) := by decide +kernel
theorem dlw_27 : decode code 27 = .ok (.aload_n 0, 1) := by decide +kernel
theorem dlw_28 : decode code 28 = .ok (.iload_n 3, 1) := by decide +kernel
theorem dlw_29 : decode code 29 = .ok (.iaload, 1) := by decide +kernel
theorem dlw_30 : decode code 30 = .ok (.bipush 31, 2) := by decide +kernel
theorem dlw_32 : decode code 32 = .ok (.iand, 1) := by decide +kernel
theorem dlw_1202 : decode code 1202 = .ok (.iinc 3 6, 3) := by decide +kernel
theorem dlw_1205 : decode code 1205 = .ok (.goto (-1187), 3) := by decide +kernel
theorem dlw_1208 : decode code 1208 = .ok (.iconst 1, 1) := by decide +kernel
theorem dlw_1209 : decode code 1209 = .ok (.ireturn, 1) := by decide +kernel
theorem dlw_33 : decode code 33 = .ok (.tableswitch 1169 0 31 #[143, 176, 209, 242, 275, 328, 361, 394, 427, 440, 473, 516, 539, 572, 605, 618, 651, 684, 717, 750, 793, 816, 859, 882, 895, 918, 961, 984, 1017, 1060, 1123, 1146], 143) := by decide +kernel
