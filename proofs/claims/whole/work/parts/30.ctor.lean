abbrev cX0_init : ByteArray := prog_2_method_1_code
def yX0_init : MethodName := ⟨RX0, "<init>", "()V"⟩
set_option maxRecDepth 100000 in
theorem cow_iX0 : lw_tbl[74]? = some (Cond.code yX0_init cX0_init 1 none) := rfl
theorem diX0_0 : decode cX0_init 0 = .ok (.aload_n 0, 1) := by decide +kernel
theorem diX0_1 : decode cX0_init 1 = .ok (.invokespecial 3, 3) := by decide +kernel
theorem diX0_4 : decode cX0_init 4 = .ok (.aload_n 0, 1) := by decide +kernel
theorem diX0_5 : decode cX0_init 5 = .ok (.bipush 10, 2) := by decide +kernel
theorem diX0_7 : decode cX0_init 7 = .ok (.newarray .boolean, 2) := by decide +kernel
theorem diX0_9 : decode cX0_init 9 = .ok (.putfield 9, 3) := by decide +kernel
theorem diX0_12 : decode cX0_init 12 = .ok (.aload_n 0, 1) := by decide +kernel
theorem diX0_13 : decode cX0_init 13 = .ok (.bipush 10, 2) := by decide +kernel
theorem diX0_15 : decode cX0_init 15 = .ok (.newarray .int, 2) := by decide +kernel
theorem diX0_17 : decode cX0_init 17 = .ok (.putfield 15, 3) := by decide +kernel
theorem diX0_20 : decode cX0_init 20 = .ok (.aload_n 0, 1) := by decide +kernel
theorem diX0_21 : decode cX0_init 21 = .ok (.bipush 10, 2) := by decide +kernel
theorem diX0_23 : decode cX0_init 23 = .ok (.newarray .int, 2) := by decide +kernel
theorem diX0_25 : decode cX0_init 25 = .ok (.putfield 19, 3) := by decide +kernel
theorem diX0_28 : decode cX0_init 28 = .ok (.aload_n 0, 1) := by decide +kernel
theorem diX0_29 : decode cX0_init 29 = .ok (.bipush 10, 2) := by decide +kernel
theorem diX0_31 : decode cX0_init 31 = .ok (.newarray .int, 2) := by decide +kernel
theorem diX0_33 : decode cX0_init 33 = .ok (.putfield 22, 3) := by decide +kernel
theorem diX0_36 : decode cX0_init 36 = .ok (.aload_n 0, 1) := by decide +kernel
theorem diX0_37 : decode cX0_init 37 = .ok (.bipush 10, 2) := by decide +kernel
theorem diX0_39 : decode cX0_init 39 = .ok (.newarray .int, 2) := by decide +kernel
theorem diX0_41 : decode cX0_init 41 = .ok (.putfield 25, 3) := by decide +kernel
theorem diX0_44 : decode cX0_init 44 = .ok (.aload_n 0, 1) := by decide +kernel
theorem diX0_45 : decode cX0_init 45 = .ok (.bipush 10, 2) := by decide +kernel
theorem diX0_47 : decode cX0_init 47 = .ok (.newarray .int, 2) := by decide +kernel
theorem diX0_49 : decode cX0_init 49 = .ok (.putfield 28, 3) := by decide +kernel
theorem diX0_52 : decode cX0_init 52 = .ok (.aload_n 0, 1) := by decide +kernel
theorem diX0_53 : decode cX0_init 53 = .ok (.bipush 10, 2) := by decide +kernel
theorem diX0_55 : decode cX0_init 55 = .ok (.newarray .int, 2) := by decide +kernel
theorem diX0_57 : decode cX0_init 57 = .ok (.putfield 31, 3) := by decide +kernel
theorem diX0_60 : decode cX0_init 60 = .ok (.aload_n 0, 1) := by decide +kernel
theorem diX0_61 : decode cX0_init 61 = .ok (.bipush 100, 2) := by decide +kernel
theorem diX0_63 : decode cX0_init 63 = .ok (.newarray .int, 2) := by decide +kernel
theorem diX0_65 : decode cX0_init 65 = .ok (.putfield 34, 3) := by decide +kernel
theorem diX0_68 : decode cX0_init 68 = .ok (.aload_n 0, 1) := by decide +kernel
theorem diX0_69 : decode cX0_init 69 = .ok (.iconst 0, 1) := by decide +kernel
theorem diX0_70 : decode cX0_init 70 = .ok (.putfield 37, 3) := by decide +kernel
theorem diX0_73 : decode cX0_init 73 = .ok (.aload_n 0, 1) := by decide +kernel
theorem diX0_74 : decode cX0_init 74 = .ok (.iconst 0, 1) := by decide +kernel
theorem diX0_75 : decode cX0_init 75 = .ok (.putfield 41, 3) := by decide +kernel
theorem diX0_78 : decode cX0_init 78 = .ok (.return_, 1) := by decide +kernel
abbrev cX1_init : ByteArray := prog_3_method_1_code
def yX1_init : MethodName := ⟨RX1, "<init>", "()V"⟩
set_option maxRecDepth 100000 in
theorem cow_iX1 : lw_tbl[133]? = some (Cond.code yX1_init cX1_init 1 none) := rfl
theorem diX1_0 : decode cX1_init 0 = .ok (.aload_n 0, 1) := by decide +kernel
theorem diX1_1 : decode cX1_init 1 = .ok (.invokespecial 3, 3) := by decide +kernel
theorem diX1_4 : decode cX1_init 4 = .ok (.aload_n 0, 1) := by decide +kernel
theorem diX1_5 : decode cX1_init 5 = .ok (.bipush 12, 2) := by decide +kernel
theorem diX1_7 : decode cX1_init 7 = .ok (.newarray .int, 2) := by decide +kernel
theorem diX1_9 : decode cX1_init 9 = .ok (.putfield 9, 3) := by decide +kernel
theorem diX1_12 : decode cX1_init 12 = .ok (.aload_n 0, 1) := by decide +kernel
theorem diX1_13 : decode cX1_init 13 = .ok (.bipush 12, 2) := by decide +kernel
theorem diX1_15 : decode cX1_init 15 = .ok (.newarray .int, 2) := by decide +kernel
theorem diX1_17 : decode cX1_init 17 = .ok (.putfield 15, 3) := by decide +kernel
theorem diX1_20 : decode cX1_init 20 = .ok (.aload_n 0, 1) := by decide +kernel
theorem diX1_21 : decode cX1_init 21 = .ok (.bipush 12, 2) := by decide +kernel
theorem diX1_23 : decode cX1_init 23 = .ok (.newarray .int, 2) := by decide +kernel
theorem diX1_25 : decode cX1_init 25 = .ok (.putfield 18, 3) := by decide +kernel
theorem diX1_28 : decode cX1_init 28 = .ok (.aload_n 0, 1) := by decide +kernel
theorem diX1_29 : decode cX1_init 29 = .ok (.bipush 12, 2) := by decide +kernel
theorem diX1_31 : decode cX1_init 31 = .ok (.newarray .int, 2) := by decide +kernel
theorem diX1_33 : decode cX1_init 33 = .ok (.putfield 21, 3) := by decide +kernel
theorem diX1_36 : decode cX1_init 36 = .ok (.aload_n 0, 1) := by decide +kernel
theorem diX1_37 : decode cX1_init 37 = .ok (.bipush 12, 2) := by decide +kernel
theorem diX1_39 : decode cX1_init 39 = .ok (.newarray .int, 2) := by decide +kernel
theorem diX1_41 : decode cX1_init 41 = .ok (.putfield 24, 3) := by decide +kernel
theorem diX1_44 : decode cX1_init 44 = .ok (.aload_n 0, 1) := by decide +kernel
theorem diX1_45 : decode cX1_init 45 = .ok (.bipush 12, 2) := by decide +kernel
theorem diX1_47 : decode cX1_init 47 = .ok (.newarray .int, 2) := by decide +kernel
theorem diX1_49 : decode cX1_init 49 = .ok (.putfield 27, 3) := by decide +kernel
theorem diX1_52 : decode cX1_init 52 = .ok (.aload_n 0, 1) := by decide +kernel
theorem diX1_53 : decode cX1_init 53 = .ok (.bipush 12, 2) := by decide +kernel
theorem diX1_55 : decode cX1_init 55 = .ok (.newarray .int, 2) := by decide +kernel
theorem diX1_57 : decode cX1_init 57 = .ok (.putfield 30, 3) := by decide +kernel
theorem diX1_60 : decode cX1_init 60 = .ok (.aload_n 0, 1) := by decide +kernel
theorem diX1_61 : decode cX1_init 61 = .ok (.sipush 1200, 3) := by decide +kernel
theorem diX1_64 : decode cX1_init 64 = .ok (.newarray .int, 2) := by decide +kernel
theorem diX1_66 : decode cX1_init 66 = .ok (.putfield 33, 3) := by decide +kernel
theorem diX1_69 : decode cX1_init 69 = .ok (.aload_n 0, 1) := by decide +kernel
theorem diX1_70 : decode cX1_init 70 = .ok (.iconst 0, 1) := by decide +kernel
theorem diX1_71 : decode cX1_init 71 = .ok (.putfield 36, 3) := by decide +kernel
theorem diX1_74 : decode cX1_init 74 = .ok (.return_, 1) := by decide +kernel
abbrev cX2_init : ByteArray := prog_4_method_1_code
def yX2_init : MethodName := ⟨RX2, "<init>", "()V"⟩
set_option maxRecDepth 100000 in
theorem cow_iX2 : lw_tbl[293]? = some (Cond.code yX2_init cX2_init 1 none) := rfl
theorem diX2_0 : decode cX2_init 0 = .ok (.aload_n 0, 1) := by decide +kernel
theorem diX2_1 : decode cX2_init 1 = .ok (.invokespecial 5, 3) := by decide +kernel
theorem diX2_4 : decode cX2_init 4 = .ok (.aload_n 0, 1) := by decide +kernel
theorem diX2_5 : decode cX2_init 5 = .ok (.bipush 101, 2) := by decide +kernel
theorem diX2_7 : decode cX2_init 7 = .ok (.newarray .int, 2) := by decide +kernel
theorem diX2_9 : decode cX2_init 9 = .ok (.putfield 11, 3) := by decide +kernel
theorem diX2_12 : decode cX2_init 12 = .ok (.aload_n 0, 1) := by decide +kernel
theorem diX2_13 : decode cX2_init 13 = .ok (.bipush 10, 2) := by decide +kernel
theorem diX2_15 : decode cX2_init 15 = .ok (.newarray .int, 2) := by decide +kernel
theorem diX2_17 : decode cX2_init 17 = .ok (.putfield 15, 3) := by decide +kernel
theorem diX2_20 : decode cX2_init 20 = .ok (.aload_n 0, 1) := by decide +kernel
theorem diX2_21 : decode cX2_init 21 = .ok (.sipush 1010, 3) := by decide +kernel
theorem diX2_24 : decode cX2_init 24 = .ok (.newarray .int, 2) := by decide +kernel
theorem diX2_26 : decode cX2_init 26 = .ok (.putfield 18, 3) := by decide +kernel
theorem diX2_29 : decode cX2_init 29 = .ok (.aload_n 0, 1) := by decide +kernel
theorem diX2_30 : decode cX2_init 30 = .ok (.sipush 1200, 3) := by decide +kernel
theorem diX2_33 : decode cX2_init 33 = .ok (.newarray .int, 2) := by decide +kernel
theorem diX2_35 : decode cX2_init 35 = .ok (.putfield 21, 3) := by decide +kernel
theorem diX2_38 : decode cX2_init 38 = .ok (.aload_n 0, 1) := by decide +kernel
theorem diX2_39 : decode cX2_init 39 = .ok (.sipush 1010, 3) := by decide +kernel
theorem diX2_42 : decode cX2_init 42 = .ok (.newarray .int, 2) := by decide +kernel
theorem diX2_44 : decode cX2_init 44 = .ok (.putfield 24, 3) := by decide +kernel
theorem diX2_47 : decode cX2_init 47 = .ok (.aload_n 0, 1) := by decide +kernel
theorem diX2_48 : decode cX2_init 48 = .ok (.sipush 1010, 3) := by decide +kernel
theorem diX2_51 : decode cX2_init 51 = .ok (.newarray .int, 2) := by decide +kernel
theorem diX2_53 : decode cX2_init 53 = .ok (.putfield 27, 3) := by decide +kernel
theorem diX2_56 : decode cX2_init 56 = .ok (.aload_n 0, 1) := by decide +kernel
theorem diX2_57 : decode cX2_init 57 = .ok (.sipush 1010, 3) := by decide +kernel
theorem diX2_60 : decode cX2_init 60 = .ok (.newarray .int, 2) := by decide +kernel
theorem diX2_62 : decode cX2_init 62 = .ok (.putfield 30, 3) := by decide +kernel
theorem diX2_65 : decode cX2_init 65 = .ok (.aload_n 0, 1) := by decide +kernel
theorem diX2_66 : decode cX2_init 66 = .ok (.sipush 1010, 3) := by decide +kernel
theorem diX2_69 : decode cX2_init 69 = .ok (.newarray .int, 2) := by decide +kernel
theorem diX2_71 : decode cX2_init 71 = .ok (.putfield 33, 3) := by decide +kernel
theorem diX2_74 : decode cX2_init 74 = .ok (.aload_n 0, 1) := by decide +kernel
theorem diX2_75 : decode cX2_init 75 = .ok (.sipush 1200, 3) := by decide +kernel
theorem diX2_78 : decode cX2_init 78 = .ok (.newarray .int, 2) := by decide +kernel
theorem diX2_80 : decode cX2_init 80 = .ok (.putfield 36, 3) := by decide +kernel
theorem diX2_83 : decode cX2_init 83 = .ok (.aload_n 0, 1) := by decide +kernel
theorem diX2_84 : decode cX2_init 84 = .ok (.iconst 0, 1) := by decide +kernel
theorem diX2_85 : decode cX2_init 85 = .ok (.putfield 39, 3) := by decide +kernel
theorem diX2_88 : decode cX2_init 88 = .ok (.aload_n 0, 1) := by decide +kernel
theorem diX2_89 : decode cX2_init 89 = .ok (.iconst 0, 1) := by decide +kernel
theorem diX2_90 : decode cX2_init 90 = .ok (.putfield 43, 3) := by decide +kernel
theorem diX2_93 : decode cX2_init 93 = .ok (.aload_n 0, 1) := by decide +kernel
theorem diX2_94 : decode cX2_init 94 = .ok (.iconst 0, 1) := by decide +kernel
theorem diX2_95 : decode cX2_init 95 = .ok (.putfield 46, 3) := by decide +kernel
theorem diX2_98 : decode cX2_init 98 = .ok (.aload_n 0, 1) := by decide +kernel
theorem diX2_99 : decode cX2_init 99 = .ok (.iconst 0, 1) := by decide +kernel
theorem diX2_100 : decode cX2_init 100 = .ok (.putfield 49, 3) := by decide +kernel
theorem diX2_103 : decode cX2_init 103 = .ok (.aload_n 0, 1) := by decide +kernel
theorem diX2_104 : decode cX2_init 104 = .ok (.iconst 0, 1) := by decide +kernel
theorem diX2_105 : decode cX2_init 105 = .ok (.putfield 52, 3) := by decide +kernel
theorem diX2_108 : decode cX2_init 108 = .ok (.aload_n 0, 1) := by decide +kernel
theorem diX2_109 : decode cX2_init 109 = .ok (.iconst (-1), 1) := by decide +kernel
theorem diX2_110 : decode cX2_init 110 = .ok (.putfield 55, 3) := by decide +kernel
theorem diX2_113 : decode cX2_init 113 = .ok (.aload_n 0, 1) := by decide +kernel
theorem diX2_114 : decode cX2_init 114 = .ok (.iconst (-1), 1) := by decide +kernel
theorem diX2_115 : decode cX2_init 115 = .ok (.putfield 58, 3) := by decide +kernel
theorem diX2_118 : decode cX2_init 118 = .ok (.aload_n 0, 1) := by decide +kernel
theorem diX2_119 : decode cX2_init 119 = .ok (.iconst 0, 1) := by decide +kernel
theorem diX2_120 : decode cX2_init 120 = .ok (.putfield 61, 3) := by decide +kernel
theorem diX2_123 : decode cX2_init 123 = .ok (.aload_n 0, 1) := by decide +kernel
theorem diX2_124 : decode cX2_init 124 = .ok (.iconst 0, 1) := by decide +kernel
theorem diX2_125 : decode cX2_init 125 = .ok (.putfield 64, 3) := by decide +kernel
theorem diX2_128 : decode cX2_init 128 = .ok (.return_, 1) := by decide +kernel
abbrev cX3_init : ByteArray := prog_5_method_1_code
def yX3_init : MethodName := ⟨RX3, "<init>", "()V"⟩
set_option maxRecDepth 100000 in
theorem cow_iX3 : lw_tbl[242]? = some (Cond.code yX3_init cX3_init 1 none) := rfl
theorem diX3_0 : decode cX3_init 0 = .ok (.aload_n 0, 1) := by decide +kernel
theorem diX3_1 : decode cX3_init 1 = .ok (.invokespecial 3, 3) := by decide +kernel
theorem diX3_4 : decode cX3_init 4 = .ok (.aload_n 0, 1) := by decide +kernel
theorem diX3_5 : decode cX3_init 5 = .ok (.bipush 10, 2) := by decide +kernel
theorem diX3_7 : decode cX3_init 7 = .ok (.newarray .int, 2) := by decide +kernel
theorem diX3_9 : decode cX3_init 9 = .ok (.putfield 9, 3) := by decide +kernel
theorem diX3_12 : decode cX3_init 12 = .ok (.aload_n 0, 1) := by decide +kernel
theorem diX3_13 : decode cX3_init 13 = .ok (.bipush 12, 2) := by decide +kernel
theorem diX3_15 : decode cX3_init 15 = .ok (.newarray .int, 2) := by decide +kernel
theorem diX3_17 : decode cX3_init 17 = .ok (.putfield 15, 3) := by decide +kernel
theorem diX3_20 : decode cX3_init 20 = .ok (.aload_n 0, 1) := by decide +kernel
theorem diX3_21 : decode cX3_init 21 = .ok (.iconst 0, 1) := by decide +kernel
theorem diX3_22 : decode cX3_init 22 = .ok (.putfield 18, 3) := by decide +kernel
theorem diX3_25 : decode cX3_init 25 = .ok (.aload_n 0, 1) := by decide +kernel
theorem diX3_26 : decode cX3_init 26 = .ok (.iconst 0, 1) := by decide +kernel
theorem diX3_27 : decode cX3_init 27 = .ok (.putfield 22, 3) := by decide +kernel
theorem diX3_30 : decode cX3_init 30 = .ok (.aload_n 0, 1) := by decide +kernel
theorem diX3_31 : decode cX3_init 31 = .ok (.iconst 0, 1) := by decide +kernel
theorem diX3_32 : decode cX3_init 32 = .ok (.putfield 25, 3) := by decide +kernel
theorem diX3_35 : decode cX3_init 35 = .ok (.aload_n 0, 1) := by decide +kernel
theorem diX3_36 : decode cX3_init 36 = .ok (.iconst 0, 1) := by decide +kernel
theorem diX3_37 : decode cX3_init 37 = .ok (.putfield 28, 3) := by decide +kernel
theorem diX3_40 : decode cX3_init 40 = .ok (.return_, 1) := by decide +kernel
abbrev cX4_init : ByteArray := prog_6_method_1_code
def yX4_init : MethodName := ⟨RX4, "<init>", "()V"⟩
set_option maxRecDepth 100000 in
theorem cow_iX4 : lw_tbl[275]? = some (Cond.code yX4_init cX4_init 1 none) := rfl
theorem diX4_0 : decode cX4_init 0 = .ok (.aload_n 0, 1) := by decide +kernel
theorem diX4_1 : decode cX4_init 1 = .ok (.invokespecial 3, 3) := by decide +kernel
theorem diX4_4 : decode cX4_init 4 = .ok (.aload_n 0, 1) := by decide +kernel
theorem diX4_5 : decode cX4_init 5 = .ok (.new 9, 3) := by decide +kernel
theorem diX4_8 : decode cX4_init 8 = .ok (.dup, 1) := by decide +kernel
theorem diX4_9 : decode cX4_init 9 = .ok (.invokespecial 11, 3) := by decide +kernel
theorem diX4_12 : decode cX4_init 12 = .ok (.putfield 12, 3) := by decide +kernel
theorem diX4_15 : decode cX4_init 15 = .ok (.aload_n 0, 1) := by decide +kernel
theorem diX4_16 : decode cX4_init 16 = .ok (.sipush 1010, 3) := by decide +kernel
theorem diX4_19 : decode cX4_init 19 = .ok (.newarray .int, 2) := by decide +kernel
theorem diX4_21 : decode cX4_init 21 = .ok (.putfield 18, 3) := by decide +kernel
theorem diX4_24 : decode cX4_init 24 = .ok (.aload_n 0, 1) := by decide +kernel
theorem diX4_25 : decode cX4_init 25 = .ok (.iconst 0, 1) := by decide +kernel
theorem diX4_26 : decode cX4_init 26 = .ok (.putfield 22, 3) := by decide +kernel
theorem diX4_29 : decode cX4_init 29 = .ok (.return_, 1) := by decide +kernel
abbrev cX5_init : ByteArray := prog_7_method_1_code
def yX5_init : MethodName := ⟨RX5, "<init>", "()V"⟩
set_option maxRecDepth 100000 in
theorem cow_iX5 : lw_tbl[223]? = some (Cond.code yX5_init cX5_init 1 none) := rfl
theorem diX5_0 : decode cX5_init 0 = .ok (.aload_n 0, 1) := by decide +kernel
theorem diX5_1 : decode cX5_init 1 = .ok (.invokespecial 3, 3) := by decide +kernel
theorem diX5_4 : decode cX5_init 4 = .ok (.aload_n 0, 1) := by decide +kernel
theorem diX5_5 : decode cX5_init 5 = .ok (.bipush 100, 2) := by decide +kernel
theorem diX5_7 : decode cX5_init 7 = .ok (.newarray .int, 2) := by decide +kernel
theorem diX5_9 : decode cX5_init 9 = .ok (.putfield 9, 3) := by decide +kernel
theorem diX5_12 : decode cX5_init 12 = .ok (.aload_n 0, 1) := by decide +kernel
theorem diX5_13 : decode cX5_init 13 = .ok (.bipush 100, 2) := by decide +kernel
theorem diX5_15 : decode cX5_init 15 = .ok (.newarray .int, 2) := by decide +kernel
theorem diX5_17 : decode cX5_init 17 = .ok (.putfield 15, 3) := by decide +kernel
theorem diX5_20 : decode cX5_init 20 = .ok (.aload_n 0, 1) := by decide +kernel
theorem diX5_21 : decode cX5_init 21 = .ok (.bipush 100, 2) := by decide +kernel
theorem diX5_23 : decode cX5_init 23 = .ok (.newarray .int, 2) := by decide +kernel
theorem diX5_25 : decode cX5_init 25 = .ok (.putfield 18, 3) := by decide +kernel
theorem diX5_28 : decode cX5_init 28 = .ok (.aload_n 0, 1) := by decide +kernel
theorem diX5_29 : decode cX5_init 29 = .ok (.iconst 0, 1) := by decide +kernel
theorem diX5_30 : decode cX5_init 30 = .ok (.putfield 21, 3) := by decide +kernel
theorem diX5_33 : decode cX5_init 33 = .ok (.return_, 1) := by decide +kernel
abbrev cX6_init : ByteArray := prog_8_method_1_code
def yX6_init : MethodName := ⟨RX6, "<init>", "()V"⟩
set_option maxRecDepth 100000 in
theorem cow_iX6 : lw_tbl[179]? = some (Cond.code yX6_init cX6_init 1 none) := rfl
theorem diX6_0 : decode cX6_init 0 = .ok (.aload_n 0, 1) := by decide +kernel
theorem diX6_1 : decode cX6_init 1 = .ok (.invokespecial 3, 3) := by decide +kernel
theorem diX6_4 : decode cX6_init 4 = .ok (.aload_n 0, 1) := by decide +kernel
theorem diX6_5 : decode cX6_init 5 = .ok (.bipush 12, 2) := by decide +kernel
theorem diX6_7 : decode cX6_init 7 = .ok (.newarray .int, 2) := by decide +kernel
theorem diX6_9 : decode cX6_init 9 = .ok (.putfield 9, 3) := by decide +kernel
theorem diX6_12 : decode cX6_init 12 = .ok (.aload_n 0, 1) := by decide +kernel
theorem diX6_13 : decode cX6_init 13 = .ok (.bipush 12, 2) := by decide +kernel
theorem diX6_15 : decode cX6_init 15 = .ok (.newarray .int, 2) := by decide +kernel
theorem diX6_17 : decode cX6_init 17 = .ok (.putfield 15, 3) := by decide +kernel
theorem diX6_20 : decode cX6_init 20 = .ok (.aload_n 0, 1) := by decide +kernel
theorem diX6_21 : decode cX6_init 21 = .ok (.bipush 12, 2) := by decide +kernel
theorem diX6_23 : decode cX6_init 23 = .ok (.newarray .int, 2) := by decide +kernel
theorem diX6_25 : decode cX6_init 25 = .ok (.putfield 18, 3) := by decide +kernel
theorem diX6_28 : decode cX6_init 28 = .ok (.aload_n 0, 1) := by decide +kernel
theorem diX6_29 : decode cX6_init 29 = .ok (.bipush 12, 2) := by decide +kernel
theorem diX6_31 : decode cX6_init 31 = .ok (.newarray .int, 2) := by decide +kernel
theorem diX6_33 : decode cX6_init 33 = .ok (.putfield 21, 3) := by decide +kernel
theorem diX6_36 : decode cX6_init 36 = .ok (.aload_n 0, 1) := by decide +kernel
theorem diX6_37 : decode cX6_init 37 = .ok (.bipush 120, 2) := by decide +kernel
theorem diX6_39 : decode cX6_init 39 = .ok (.newarray .int, 2) := by decide +kernel
theorem diX6_41 : decode cX6_init 41 = .ok (.putfield 24, 3) := by decide +kernel
theorem diX6_44 : decode cX6_init 44 = .ok (.aload_n 0, 1) := by decide +kernel
theorem diX6_45 : decode cX6_init 45 = .ok (.bipush 10, 2) := by decide +kernel
theorem diX6_47 : decode cX6_init 47 = .ok (.newarray .int, 2) := by decide +kernel
theorem diX6_49 : decode cX6_init 49 = .ok (.putfield 27, 3) := by decide +kernel
theorem diX6_52 : decode cX6_init 52 = .ok (.aload_n 0, 1) := by decide +kernel
theorem diX6_53 : decode cX6_init 53 = .ok (.bipush 120, 2) := by decide +kernel
theorem diX6_55 : decode cX6_init 55 = .ok (.newarray .int, 2) := by decide +kernel
theorem diX6_57 : decode cX6_init 57 = .ok (.putfield 30, 3) := by decide +kernel
theorem diX6_60 : decode cX6_init 60 = .ok (.aload_n 0, 1) := by decide +kernel
theorem diX6_61 : decode cX6_init 61 = .ok (.bipush 10, 2) := by decide +kernel
theorem diX6_63 : decode cX6_init 63 = .ok (.newarray .int, 2) := by decide +kernel
theorem diX6_65 : decode cX6_init 65 = .ok (.putfield 33, 3) := by decide +kernel
theorem diX6_68 : decode cX6_init 68 = .ok (.aload_n 0, 1) := by decide +kernel
theorem diX6_69 : decode cX6_init 69 = .ok (.iconst 0, 1) := by decide +kernel
theorem diX6_70 : decode cX6_init 70 = .ok (.putfield 36, 3) := by decide +kernel
theorem diX6_73 : decode cX6_init 73 = .ok (.return_, 1) := by decide +kernel
abbrev cX7_init : ByteArray := prog_1_method_1_code
def yX7_init : MethodName := ⟨RX7, "<init>", "()V"⟩
set_option maxRecDepth 100000 in
theorem cow_iX7 : lw_tbl[66]? = some (Cond.code yX7_init cX7_init 1 none) := rfl
theorem diX7_0 : decode cX7_init 0 = .ok (.aload_n 0, 1) := by decide +kernel
theorem diX7_1 : decode cX7_init 1 = .ok (.invokespecial 1, 3) := by decide +kernel
theorem diX7_4 : decode cX7_init 4 = .ok (.aload_n 0, 1) := by decide +kernel
theorem diX7_5 : decode cX7_init 5 = .ok (.new 7, 3) := by decide +kernel
theorem diX7_8 : decode cX7_init 8 = .ok (.dup, 1) := by decide +kernel
theorem diX7_9 : decode cX7_init 9 = .ok (.invokespecial 9, 3) := by decide +kernel
theorem diX7_12 : decode cX7_init 12 = .ok (.putfield 10, 3) := by decide +kernel
theorem diX7_15 : decode cX7_init 15 = .ok (.aload_n 0, 1) := by decide +kernel
theorem diX7_16 : decode cX7_init 16 = .ok (.new 16, 3) := by decide +kernel
theorem diX7_19 : decode cX7_init 19 = .ok (.dup, 1) := by decide +kernel
theorem diX7_20 : decode cX7_init 20 = .ok (.invokespecial 18, 3) := by decide +kernel
theorem diX7_23 : decode cX7_init 23 = .ok (.putfield 19, 3) := by decide +kernel
theorem diX7_26 : decode cX7_init 26 = .ok (.aload_n 0, 1) := by decide +kernel
theorem diX7_27 : decode cX7_init 27 = .ok (.new 23, 3) := by decide +kernel
theorem diX7_30 : decode cX7_init 30 = .ok (.dup, 1) := by decide +kernel
theorem diX7_31 : decode cX7_init 31 = .ok (.invokespecial 25, 3) := by decide +kernel
theorem diX7_34 : decode cX7_init 34 = .ok (.putfield 26, 3) := by decide +kernel
theorem diX7_37 : decode cX7_init 37 = .ok (.aload_n 0, 1) := by decide +kernel
theorem diX7_38 : decode cX7_init 38 = .ok (.new 30, 3) := by decide +kernel
theorem diX7_41 : decode cX7_init 41 = .ok (.dup, 1) := by decide +kernel
theorem diX7_42 : decode cX7_init 42 = .ok (.invokespecial 32, 3) := by decide +kernel
theorem diX7_45 : decode cX7_init 45 = .ok (.putfield 33, 3) := by decide +kernel
theorem diX7_48 : decode cX7_init 48 = .ok (.aload_n 0, 1) := by decide +kernel
theorem diX7_49 : decode cX7_init 49 = .ok (.new 37, 3) := by decide +kernel
theorem diX7_52 : decode cX7_init 52 = .ok (.dup, 1) := by decide +kernel
theorem diX7_53 : decode cX7_init 53 = .ok (.invokespecial 39, 3) := by decide +kernel
theorem diX7_56 : decode cX7_init 56 = .ok (.putfield 40, 3) := by decide +kernel
theorem diX7_59 : decode cX7_init 59 = .ok (.aload_n 0, 1) := by decide +kernel
theorem diX7_60 : decode cX7_init 60 = .ok (.new 44, 3) := by decide +kernel
theorem diX7_63 : decode cX7_init 63 = .ok (.dup, 1) := by decide +kernel
theorem diX7_64 : decode cX7_init 64 = .ok (.invokespecial 46, 3) := by decide +kernel
theorem diX7_67 : decode cX7_init 67 = .ok (.putfield 47, 3) := by decide +kernel
theorem diX7_70 : decode cX7_init 70 = .ok (.aload_n 0, 1) := by decide +kernel
theorem diX7_71 : decode cX7_init 71 = .ok (.new 51, 3) := by decide +kernel
theorem diX7_74 : decode cX7_init 74 = .ok (.dup, 1) := by decide +kernel
theorem diX7_75 : decode cX7_init 75 = .ok (.invokespecial 53, 3) := by decide +kernel
theorem diX7_78 : decode cX7_init 78 = .ok (.putfield 54, 3) := by decide +kernel
theorem diX7_81 : decode cX7_init 81 = .ok (.aload_n 0, 1) := by decide +kernel
theorem diX7_82 : decode cX7_init 82 = .ok (.iconst 0, 1) := by decide +kernel
theorem diX7_83 : decode cX7_init 83 = .ok (.putfield 58, 3) := by decide +kernel
theorem diX7_86 : decode cX7_init 86 = .ok (.return_, 1) := by decide +kernel
abbrev cX8_init : ByteArray := prog_10_method_1_code
def yX8_init : MethodName := ⟨RX8, "<init>", "()V"⟩
set_option maxRecDepth 100000 in
theorem cow_iX8 : lw_tbl[749]? = some (Cond.code yX8_init cX8_init 1 none) := rfl
theorem diX8_0 : decode cX8_init 0 = .ok (.aload_n 0, 1) := by decide +kernel
theorem diX8_1 : decode cX8_init 1 = .ok (.invokespecial 1, 3) := by decide +kernel
theorem diX8_4 : decode cX8_init 4 = .ok (.aload_n 0, 1) := by decide +kernel
theorem diX8_5 : decode cX8_init 5 = .ok (.bipush 10, 2) := by decide +kernel
theorem diX8_7 : decode cX8_init 7 = .ok (.newarray .boolean, 2) := by decide +kernel
theorem diX8_9 : decode cX8_init 9 = .ok (.putfield 9, 3) := by decide +kernel
theorem diX8_12 : decode cX8_init 12 = .ok (.aload_n 0, 1) := by decide +kernel
theorem diX8_13 : decode cX8_init 13 = .ok (.bipush 10, 2) := by decide +kernel
theorem diX8_15 : decode cX8_init 15 = .ok (.newarray .int, 2) := by decide +kernel
theorem diX8_17 : decode cX8_init 17 = .ok (.putfield 13, 3) := by decide +kernel
theorem diX8_20 : decode cX8_init 20 = .ok (.aload_n 0, 1) := by decide +kernel
theorem diX8_21 : decode cX8_init 21 = .ok (.bipush 10, 2) := by decide +kernel
theorem diX8_23 : decode cX8_init 23 = .ok (.newarray .int, 2) := by decide +kernel
theorem diX8_25 : decode cX8_init 25 = .ok (.putfield 17, 3) := by decide +kernel
theorem diX8_28 : decode cX8_init 28 = .ok (.aload_n 0, 1) := by decide +kernel
theorem diX8_29 : decode cX8_init 29 = .ok (.bipush 10, 2) := by decide +kernel
theorem diX8_31 : decode cX8_init 31 = .ok (.newarray .int, 2) := by decide +kernel
theorem diX8_33 : decode cX8_init 33 = .ok (.putfield 20, 3) := by decide +kernel
theorem diX8_36 : decode cX8_init 36 = .ok (.aload_n 0, 1) := by decide +kernel
theorem diX8_37 : decode cX8_init 37 = .ok (.bipush 10, 2) := by decide +kernel
theorem diX8_39 : decode cX8_init 39 = .ok (.newarray .int, 2) := by decide +kernel
theorem diX8_41 : decode cX8_init 41 = .ok (.putfield 23, 3) := by decide +kernel
theorem diX8_44 : decode cX8_init 44 = .ok (.aload_n 0, 1) := by decide +kernel
theorem diX8_45 : decode cX8_init 45 = .ok (.bipush 10, 2) := by decide +kernel
theorem diX8_47 : decode cX8_init 47 = .ok (.newarray .int, 2) := by decide +kernel
theorem diX8_49 : decode cX8_init 49 = .ok (.putfield 26, 3) := by decide +kernel
theorem diX8_52 : decode cX8_init 52 = .ok (.aload_n 0, 1) := by decide +kernel
theorem diX8_53 : decode cX8_init 53 = .ok (.bipush 100, 2) := by decide +kernel
theorem diX8_55 : decode cX8_init 55 = .ok (.newarray .int, 2) := by decide +kernel
theorem diX8_57 : decode cX8_init 57 = .ok (.putfield 29, 3) := by decide +kernel
theorem diX8_60 : decode cX8_init 60 = .ok (.aload_n 0, 1) := by decide +kernel
theorem diX8_61 : decode cX8_init 61 = .ok (.bipush 12, 2) := by decide +kernel
theorem diX8_63 : decode cX8_init 63 = .ok (.newarray .int, 2) := by decide +kernel
theorem diX8_65 : decode cX8_init 65 = .ok (.putfield 32, 3) := by decide +kernel
theorem diX8_68 : decode cX8_init 68 = .ok (.aload_n 0, 1) := by decide +kernel
theorem diX8_69 : decode cX8_init 69 = .ok (.bipush 12, 2) := by decide +kernel
theorem diX8_71 : decode cX8_init 71 = .ok (.newarray .int, 2) := by decide +kernel
theorem diX8_73 : decode cX8_init 73 = .ok (.putfield 35, 3) := by decide +kernel
theorem diX8_76 : decode cX8_init 76 = .ok (.aload_n 0, 1) := by decide +kernel
theorem diX8_77 : decode cX8_init 77 = .ok (.bipush 12, 2) := by decide +kernel
theorem diX8_79 : decode cX8_init 79 = .ok (.newarray .int, 2) := by decide +kernel
theorem diX8_81 : decode cX8_init 81 = .ok (.putfield 38, 3) := by decide +kernel
theorem diX8_84 : decode cX8_init 84 = .ok (.aload_n 0, 1) := by decide +kernel
theorem diX8_85 : decode cX8_init 85 = .ok (.bipush 12, 2) := by decide +kernel
theorem diX8_87 : decode cX8_init 87 = .ok (.newarray .int, 2) := by decide +kernel
theorem diX8_89 : decode cX8_init 89 = .ok (.putfield 41, 3) := by decide +kernel
theorem diX8_92 : decode cX8_init 92 = .ok (.aload_n 0, 1) := by decide +kernel
theorem diX8_93 : decode cX8_init 93 = .ok (.bipush 12, 2) := by decide +kernel
theorem diX8_95 : decode cX8_init 95 = .ok (.newarray .int, 2) := by decide +kernel
theorem diX8_97 : decode cX8_init 97 = .ok (.putfield 44, 3) := by decide +kernel
theorem diX8_100 : decode cX8_init 100 = .ok (.aload_n 0, 1) := by decide +kernel
theorem diX8_101 : decode cX8_init 101 = .ok (.bipush 12, 2) := by decide +kernel
theorem diX8_103 : decode cX8_init 103 = .ok (.newarray .int, 2) := by decide +kernel
theorem diX8_105 : decode cX8_init 105 = .ok (.putfield 47, 3) := by decide +kernel
theorem diX8_108 : decode cX8_init 108 = .ok (.aload_n 0, 1) := by decide +kernel
theorem diX8_109 : decode cX8_init 109 = .ok (.bipush 12, 2) := by decide +kernel
theorem diX8_111 : decode cX8_init 111 = .ok (.newarray .int, 2) := by decide +kernel
theorem diX8_113 : decode cX8_init 113 = .ok (.putfield 50, 3) := by decide +kernel
theorem diX8_116 : decode cX8_init 116 = .ok (.aload_n 0, 1) := by decide +kernel
theorem diX8_117 : decode cX8_init 117 = .ok (.sipush 1212, 3) := by decide +kernel
theorem diX8_120 : decode cX8_init 120 = .ok (.newarray .int, 2) := by decide +kernel
theorem diX8_122 : decode cX8_init 122 = .ok (.putfield 53, 3) := by decide +kernel
theorem diX8_125 : decode cX8_init 125 = .ok (.aload_n 0, 1) := by decide +kernel
theorem diX8_126 : decode cX8_init 126 = .ok (.bipush 100, 2) := by decide +kernel
theorem diX8_128 : decode cX8_init 128 = .ok (.newarray .int, 2) := by decide +kernel
theorem diX8_130 : decode cX8_init 130 = .ok (.putfield 56, 3) := by decide +kernel
theorem diX8_133 : decode cX8_init 133 = .ok (.aload_n 0, 1) := by decide +kernel
theorem diX8_134 : decode cX8_init 134 = .ok (.bipush 100, 2) := by decide +kernel
theorem diX8_136 : decode cX8_init 136 = .ok (.newarray .int, 2) := by decide +kernel
theorem diX8_138 : decode cX8_init 138 = .ok (.putfield 59, 3) := by decide +kernel
theorem diX8_141 : decode cX8_init 141 = .ok (.aload_n 0, 1) := by decide +kernel
theorem diX8_142 : decode cX8_init 142 = .ok (.bipush 100, 2) := by decide +kernel
theorem diX8_144 : decode cX8_init 144 = .ok (.newarray .int, 2) := by decide +kernel
theorem diX8_146 : decode cX8_init 146 = .ok (.putfield 62, 3) := by decide +kernel
theorem diX8_149 : decode cX8_init 149 = .ok (.aload_n 0, 1) := by decide +kernel
theorem diX8_150 : decode cX8_init 150 = .ok (.bipush 12, 2) := by decide +kernel
theorem diX8_152 : decode cX8_init 152 = .ok (.newarray .int, 2) := by decide +kernel
theorem diX8_154 : decode cX8_init 154 = .ok (.putfield 65, 3) := by decide +kernel
theorem diX8_157 : decode cX8_init 157 = .ok (.aload_n 0, 1) := by decide +kernel
theorem diX8_158 : decode cX8_init 158 = .ok (.bipush 12, 2) := by decide +kernel
theorem diX8_160 : decode cX8_init 160 = .ok (.newarray .int, 2) := by decide +kernel
theorem diX8_162 : decode cX8_init 162 = .ok (.putfield 68, 3) := by decide +kernel
theorem diX8_165 : decode cX8_init 165 = .ok (.aload_n 0, 1) := by decide +kernel
theorem diX8_166 : decode cX8_init 166 = .ok (.bipush 12, 2) := by decide +kernel
theorem diX8_168 : decode cX8_init 168 = .ok (.newarray .int, 2) := by decide +kernel
theorem diX8_170 : decode cX8_init 170 = .ok (.putfield 71, 3) := by decide +kernel
theorem diX8_173 : decode cX8_init 173 = .ok (.aload_n 0, 1) := by decide +kernel
theorem diX8_174 : decode cX8_init 174 = .ok (.bipush 12, 2) := by decide +kernel
theorem diX8_176 : decode cX8_init 176 = .ok (.newarray .int, 2) := by decide +kernel
theorem diX8_178 : decode cX8_init 178 = .ok (.putfield 74, 3) := by decide +kernel
theorem diX8_181 : decode cX8_init 181 = .ok (.aload_n 0, 1) := by decide +kernel
theorem diX8_182 : decode cX8_init 182 = .ok (.bipush 20, 2) := by decide +kernel
theorem diX8_184 : decode cX8_init 184 = .ok (.newarray .int, 2) := by decide +kernel
theorem diX8_186 : decode cX8_init 186 = .ok (.putfield 77, 3) := by decide +kernel
theorem diX8_189 : decode cX8_init 189 = .ok (.aload_n 0, 1) := by decide +kernel
theorem diX8_190 : decode cX8_init 190 = .ok (.bipush 24, 2) := by decide +kernel
theorem diX8_192 : decode cX8_init 192 = .ok (.newarray .int, 2) := by decide +kernel
theorem diX8_194 : decode cX8_init 194 = .ok (.putfield 80, 3) := by decide +kernel
theorem diX8_197 : decode cX8_init 197 = .ok (.aload_n 0, 1) := by decide +kernel
theorem diX8_198 : decode cX8_init 198 = .ok (.iconst 2, 1) := by decide +kernel
theorem diX8_199 : decode cX8_init 199 = .ok (.newarray .int, 2) := by decide +kernel
theorem diX8_201 : decode cX8_init 201 = .ok (.putfield 83, 3) := by decide +kernel
theorem diX8_204 : decode cX8_init 204 = .ok (.aload_n 0, 1) := by decide +kernel
theorem diX8_205 : decode cX8_init 205 = .ok (.iconst 2, 1) := by decide +kernel
theorem diX8_206 : decode cX8_init 206 = .ok (.newarray .long, 2) := by decide +kernel
theorem diX8_208 : decode cX8_init 208 = .ok (.putfield 86, 3) := by decide +kernel
theorem diX8_211 : decode cX8_init 211 = .ok (.aload_n 0, 1) := by decide +kernel
theorem diX8_212 : decode cX8_init 212 = .ok (.iconst 2, 1) := by decide +kernel
theorem diX8_213 : decode cX8_init 213 = .ok (.newarray .long, 2) := by decide +kernel
theorem diX8_215 : decode cX8_init 215 = .ok (.putfield 90, 3) := by decide +kernel
theorem diX8_218 : decode cX8_init 218 = .ok (.aload_n 0, 1) := by decide +kernel
theorem diX8_219 : decode cX8_init 219 = .ok (.sipush 1010, 3) := by decide +kernel
theorem diX8_222 : decode cX8_init 222 = .ok (.newarray .int, 2) := by decide +kernel
theorem diX8_224 : decode cX8_init 224 = .ok (.putfield 93, 3) := by decide +kernel
theorem diX8_227 : decode cX8_init 227 = .ok (.aload_n 0, 1) := by decide +kernel
theorem diX8_228 : decode cX8_init 228 = .ok (.bipush 10, 2) := by decide +kernel
theorem diX8_230 : decode cX8_init 230 = .ok (.newarray .int, 2) := by decide +kernel
theorem diX8_232 : decode cX8_init 232 = .ok (.putfield 96, 3) := by decide +kernel
theorem diX8_235 : decode cX8_init 235 = .ok (.aload_n 0, 1) := by decide +kernel
theorem diX8_236 : decode cX8_init 236 = .ok (.sipush 1010, 3) := by decide +kernel
theorem diX8_239 : decode cX8_init 239 = .ok (.newarray .int, 2) := by decide +kernel
theorem diX8_241 : decode cX8_init 241 = .ok (.putfield 99, 3) := by decide +kernel
theorem diX8_244 : decode cX8_init 244 = .ok (.aload_n 0, 1) := by decide +kernel
theorem diX8_245 : decode cX8_init 245 = .ok (.sipush 1212, 3) := by decide +kernel
theorem diX8_248 : decode cX8_init 248 = .ok (.newarray .int, 2) := by decide +kernel
theorem diX8_250 : decode cX8_init 250 = .ok (.putfield 102, 3) := by decide +kernel
theorem diX8_253 : decode cX8_init 253 = .ok (.aload_n 0, 1) := by decide +kernel
theorem diX8_254 : decode cX8_init 254 = .ok (.sipush 1010, 3) := by decide +kernel
theorem diX8_257 : decode cX8_init 257 = .ok (.newarray .boolean, 2) := by decide +kernel
theorem diX8_259 : decode cX8_init 259 = .ok (.putfield 105, 3) := by decide +kernel
theorem diX8_262 : decode cX8_init 262 = .ok (.aload_n 0, 1) := by decide +kernel
theorem diX8_263 : decode cX8_init 263 = .ok (.sipush 1010, 3) := by decide +kernel
theorem diX8_266 : decode cX8_init 266 = .ok (.newarray .int, 2) := by decide +kernel
theorem diX8_268 : decode cX8_init 268 = .ok (.putfield 108, 3) := by decide +kernel
theorem diX8_271 : decode cX8_init 271 = .ok (.aload_n 0, 1) := by decide +kernel
theorem diX8_272 : decode cX8_init 272 = .ok (.sipush 1010, 3) := by decide +kernel
theorem diX8_275 : decode cX8_init 275 = .ok (.newarray .int, 2) := by decide +kernel
theorem diX8_277 : decode cX8_init 277 = .ok (.putfield 111, 3) := by decide +kernel
theorem diX8_280 : decode cX8_init 280 = .ok (.aload_n 0, 1) := by decide +kernel
theorem diX8_281 : decode cX8_init 281 = .ok (.sipush 1010, 3) := by decide +kernel
theorem diX8_284 : decode cX8_init 284 = .ok (.newarray .int, 2) := by decide +kernel
theorem diX8_286 : decode cX8_init 286 = .ok (.putfield 114, 3) := by decide +kernel
theorem diX8_289 : decode cX8_init 289 = .ok (.return_, 1) := by decide +kernel
set_option maxRecDepth 100000 in
theorem cow_obj : lw_tbl[69]? = some (Cond.code objectInit ⟨#[0xb1]⟩ 1 none) := rfl
def flC : List ((Nat × Nat × Nat) × Nat) := [((0, 15, 1), 79), ((0, 19, 2), 83), ((0, 22, 3), 86), ((0, 25, 4), 89), ((0, 28, 5), 92), ((0, 31, 6), 95), ((0, 34, 7), 97), ((0, 37, 8), 100), ((0, 41, 9), 104), ((0, 9, 0), 76), ((1, 15, 1), 137), ((1, 18, 2), 139), ((1, 21, 3), 142), ((1, 24, 4), 144), ((1, 27, 5), 146), ((1, 30, 6), 149), ((1, 33, 7), 151), ((1, 36, 8), 153), ((1, 9, 0), 135), ((2, 11, 0), 295), ((2, 15, 1), 297), ((2, 18, 2), 298), ((2, 21, 3), 299), ((2, 24, 4), 300), ((2, 27, 5), 301), ((2, 30, 6), 302), ((2, 33, 7), 303), ((2, 36, 8), 304), ((2, 39, 9), 305), ((2, 43, 10), 306), ((2, 46, 11), 307), ((2, 49, 12), 308), ((2, 52, 13), 309), ((2, 55, 14), 310), ((2, 58, 15), 312), ((2, 61, 16), 314), ((2, 64, 17), 316), ((3, 15, 1), 247), ((3, 18, 2), 249), ((3, 22, 3), 252), ((3, 25, 4), 254), ((3, 28, 5), 256), ((3, 9, 0), 244), ((4, 12, 0), 279), ((4, 18, 1), 280), ((4, 22, 2), 281), ((5, 15, 1), 226), ((5, 18, 2), 227), ((5, 21, 3), 228), ((5, 9, 0), 225), ((6, 15, 1), 183), ((6, 18, 2), 185), ((6, 21, 3), 187), ((6, 24, 4), 189), ((6, 27, 5), 191), ((6, 30, 6), 193), ((6, 33, 7), 195), ((6, 36, 8), 197), ((6, 9, 0), 181), ((7, 10, 0), 355), ((7, 19, 1), 356), ((7, 26, 2), 357), ((7, 33, 3), 358), ((7, 40, 4), 359), ((7, 47, 5), 360), ((7, 54, 6), 361), ((7, 58, 7), 362), ((8, 102, 36), 787), ((8, 105, 37), 788), ((8, 108, 38), 789), ((8, 111, 39), 790), ((8, 114, 40), 791), ((8, 13, 3), 754), ((8, 17, 4), 755), ((8, 20, 5), 756), ((8, 23, 6), 757), ((8, 26, 7), 758), ((8, 29, 8), 759), ((8, 32, 10), 761), ((8, 35, 11), 762), ((8, 38, 12), 763), ((8, 41, 13), 764), ((8, 44, 14), 765), ((8, 47, 15), 766), ((8, 50, 16), 767), ((8, 53, 17), 768), ((8, 56, 20), 771), ((8, 59, 21), 772), ((8, 62, 22), 773), ((8, 65, 24), 775), ((8, 68, 25), 776), ((8, 71, 26), 777), ((8, 74, 27), 778), ((8, 77, 28), 779), ((8, 80, 29), 780), ((8, 83, 30), 781), ((8, 86, 31), 782), ((8, 9, 2), 753), ((8, 90, 32), 783), ((8, 93, 33), 784), ((8, 96, 34), 785), ((8, 99, 35), 786)]
theorem flC_ok : (flC.all fun q => decide (lw_tbl[q.2]? = some (Cond.fieldLink (clR q.1.1) q.1.2.1 (clT q.1.1 q.1.2.2).1 (clT q.1.1 q.1.2.2).2.1 (clT q.1.1 q.1.2.2).2.2.1))) = true := by decide +kernel
theorem flC_in {a b c d : Nat} (h : ((a, b, c), d) ∈ flC) : Cond.fieldLink (clR a) b (clT a c).1 (clT a c).2.1 (clT a c).2.2.1 ∈ lw_ok := at_in (of_decide_eq_true (List.all_eq_true.mp flC_ok _ h)) rfl
def obL : List (Nat × Nat × Nat) := [(0, 3, 75), (1, 3, 134), (2, 5, 294), (3, 3, 243), (4, 3, 276), (5, 3, 224), (6, 3, 180), (7, 1, 67), (8, 1, 750)]
theorem obL_ok : (obL.all fun q => decide (lw_tbl[q.2.2]? = some (Cond.methodLink (clR q.1) q.2.1 objectInit))) = true := by decide +kernel
theorem obL_in {a b c : Nat} (h : (a, b, c) ∈ obL) : Cond.methodLink (clR a) b objectInit ∈ lw_ok := at_in (of_decide_eq_true (List.all_eq_true.mp obL_ok _ h)) rfl
theorem obI : lw_tbl[68]? = some (Cond.instanceMethod objectInit) := by decide +kernel
theorem arI : lw_tbl[128]? = some (Cond.arrayClass .int) := by decide +kernel
theorem arZ : lw_tbl[127]? = some (Cond.arrayClass .boolean) := by decide +kernel
theorem arJ : lw_tbl[884]? = some (Cond.arrayClass .long) := by decide +kernel
def nsC : List (String × Nat × MethodName) := [("FloodCells", 9, yX0_init), ("FloodCells", 18, yX1_init), ("FloodCells", 25, yX6_init), ("FloodCells", 32, yX5_init), ("FloodCells", 39, yX3_init), ("FloodCells", 46, yX4_init), ("FloodCells$Forecast", 11, yX3_init), ("FloodCells", 53, yX2_init)]
theorem nsC_ok : lw_tbl[72]? = some (Cond.methodLinkNest "FloodCells" 9 yX0_init "FloodCells") ∧ lw_tbl[131]? = some (Cond.methodLinkNest "FloodCells" 18 yX1_init "FloodCells") ∧ lw_tbl[177]? = some (Cond.methodLinkNest "FloodCells" 25 yX6_init "FloodCells") ∧ lw_tbl[221]? = some (Cond.methodLinkNest "FloodCells" 32 yX5_init "FloodCells") ∧ lw_tbl[240]? = some (Cond.methodLinkNest "FloodCells" 39 yX3_init "FloodCells") ∧ lw_tbl[273]? = some (Cond.methodLinkNest "FloodCells" 46 yX4_init "FloodCells") ∧ lw_tbl[278]? = some (Cond.methodLinkNest "FloodCells$Forecast" 11 yX3_init "FloodCells") ∧ lw_tbl[291]? = some (Cond.methodLinkNest "FloodCells" 53 yX2_init "FloodCells") := by decide +kernel
theorem nsF_at : lw_tbl[296]? = some nsF := by decide +kernel
theorem nsM_at : lw_tbl[388]? = some nsM := by decide +kernel
theorem inS : lw_tbl[71]? = some (Cond.instantiable (clR 0) (clN 0)) ∧ lw_tbl[130]? = some (Cond.instantiable (clR 1) (clN 1)) ∧ lw_tbl[290]? = some (Cond.instantiable (clR 2) (clN 2)) ∧ lw_tbl[239]? = some (Cond.instantiable (clR 3) (clN 3)) ∧ lw_tbl[272]? = some (Cond.instantiable (clR 4) (clN 4)) ∧ lw_tbl[220]? = some (Cond.instantiable (clR 5) (clN 5)) ∧ lw_tbl[176]? = some (Cond.instantiable (clR 6) (clN 6)) ∧ lw_tbl[63]? = some (Cond.instantiable (clR 7) (clN 7)) ∧ lw_tbl[746]? = some (Cond.instantiable (clR 8) (clN 8)) := by decide +kernel
theorem imS : lw_tbl[73]? = some (Cond.instanceMethod yX0_init) ∧ lw_tbl[132]? = some (Cond.instanceMethod yX1_init) ∧ lw_tbl[292]? = some (Cond.instanceMethod yX2_init) ∧ lw_tbl[241]? = some (Cond.instanceMethod yX3_init) ∧ lw_tbl[274]? = some (Cond.instanceMethod yX4_init) ∧ lw_tbl[222]? = some (Cond.instanceMethod yX5_init) ∧ lw_tbl[178]? = some (Cond.instanceMethod yX6_init) ∧ lw_tbl[65]? = some (Cond.instanceMethod yX7_init) ∧ lw_tbl[748]? = some (Cond.instanceMethod yX8_init) := by decide +kernel
theorem clS : lw_tbl[62]? = some (Cond.classLink "FloodCellsLaw" 7 "FloodCells") ∧ lw_tbl[70]? = some (Cond.classLink "FloodCells" 7 "FloodCells$Bodies") ∧ lw_tbl[129]? = some (Cond.classLink "FloodCells" 16 "FloodCells$Dikes") ∧ lw_tbl[175]? = some (Cond.classLink "FloodCells" 23 "FloodCells$Roads") ∧ lw_tbl[219]? = some (Cond.classLink "FloodCells" 30 "FloodCells$Reports") ∧ lw_tbl[238]? = some (Cond.classLink "FloodCells" 37 "FloodCells$Flood") ∧ lw_tbl[271]? = some (Cond.classLink "FloodCells" 44 "FloodCells$Forecast") ∧ lw_tbl[277]? = some (Cond.classLink "FloodCells$Forecast" 9 "FloodCells$Flood") ∧ lw_tbl[289]? = some (Cond.classLink "FloodCells" 51 "FloodCells$Flight") ∧ lw_tbl[745]? = some (Cond.classLink "FloodCellsLaw" 10 "FloodCellsModel") := by decide +kernel
theorem lnk7 : lw_tbl[64]? = some (Cond.methodLink "FloodCellsLaw" 9 yX7_init) ∧ lw_tbl[747]? = some (Cond.methodLink "FloodCellsLaw" 12 yX8_init) := by decide +kernel
section CT
variable {p : Program} {l : Launch} {e : Env} {R : Room} {s : State} {m : MethodId} {args : Array Value} {below : List Frame} {meth : Method} {c : Code} {H : Heap} {locs : List Loc} {cells slots : Nat} {Q : State → Prop} {H0 : Heap} {A : Nat → Prop} {D : va_G} {cI cZ cJ : ClassId} {cc : ByteArray} {ci pc : Nat}
/-- what stays while a constructor runs -/
def Cy (p : Program) (s : State) (m : MethodId) (args : Array Value) (meth : Method) (c : Code) (D : va_G) (cI cZ cJ : ClassId) (cc : ByteArray) (ci : Nat) : Prop :=
  p.tables.exec = Jvm.exec ∧ c.code = cc ∧ c.maxLocals = 1 ∧ s.vm.findClass (clR ci) = some m.cls ∧ (∀ w ∈ lw_ok, w.before args s = true) ∧ va_K D cls9 (tys3 cI cZ cJ) s ∧ meth.name = "<init>" ∧ ci < 9 ∧ ∀ q ∈ nsC, va_Nw (.methodLinkNest q.1 q.2.1 q.2.2 "FloodCells") s
theorem ct_obj {ix d h0 : Nat} {ls : Array Slot} (X : Cy p s m args meth c D cI cZ cJ cc ci) (h : (ci, ix, d) ∈ obL) (hl : ls.size = 1) (hR : 1 ≤ R.frames ∧ 12 ≤ R.locals) (hd : decode cc pc = .ok (.invokespecial ix, 3)) (kk : W p l e R s m args below meth c H locs cells slots Q (F0 m (pc + 3) ls [])) : W p l e R s m args below meth c H locs cells slots Q (F0 m pc ls [.ref h0]) := by
  refine W.objInit (own := clR ci) X.1 X.2.1 X.2.2.2.1 (X.2.2.2.2.1 _ (obL_in h)) (X.2.2.2.2.1 _ (at_in obI rfl)) (X.2.2.2.2.1 _ (at_in cow_obj rfl)) rfl (by rw [X.2.2.1]; exact hl) rfl hd hR.1 (by show 2 * 0 + 0 + 12 ≤ _; omega) ?_
  exact W.eq (g2 := F0 m (pc + 3) ls []) rfl kk
theorem ra_inj {cA cB : ClassId} {ty : FieldType} (hty : ty = .int ∨ ty = .boolean ∨ ty = .long) (h1 : va_RA s cA ty) (h2 : va_RA s cB ty) : cA = cB := by
  rcases hty with rfl | rfl | rfl
  · exact Option.some.inj ((show s.vm.findClass _ = some cA from h1).symm.trans h2)
  · exact Option.some.inj ((show s.vm.findClass _ = some cA from h1).symm.trans h2)
  · exact Option.some.inj ((show s.vm.findClass _ = some cA from h1).symm.trans h2)
theorem ct_arr {ix d k h0 t0 N : Nat} {n : Int32} {aty : ArrayType} {ty : FieldType} {cA : ClassId} {a0 : vp_A} {fs : List Value} {rest : va_W} {ls : Array Slot} {st : List Value} (X : Cy p s m args meth c D cI cZ cJ cc ci) (hf : ((ci, ix, k), d) ∈ flC) (hk : k < clN ci) (hfin : (clT ci k).2.2.2 = true) (hdecl : (clT ci k).1 = clR ci) (hyk : clY ci k = .array ty) (hty : newarray.typeOf aty = ty) (hty3 : ty = .int ∨ ty = .boolean ∨ ty = .long) (ht0 : (tys3 cI cZ cJ)[t0]? = some (cA, ty)) (harr : Cond.arrayClass ty ∈ lw_ok) (ha : ∀ cB : ClassId, vp_cell cB a0 = arrV cB N (fun _ => defaultValue ty)) (hn : ¬ n < 0) (hN : n.toNatClampNeg = N) (hb : N * componentBytes ty ≤ 536870912) (hcells : cells + 1 ≤ R.cells) (hslots : slots + N ≤ R.slots) (hA : ∀ q, H0.size ≤ q → A q)
    (hd1 : decode cc pc = .ok (.newarray aty, 2)) (hd2 : decode cc (pc + 2) = .ok (.putfield ix, 3)) (hl : k < fs.length) (hP : va_P D cls9 ((h0, .inr (ci, fs)) :: rest) H) (hD : va_D A ((h0, .inr (ci, fs)) :: rest)) (hS : va_S A H0 H locs)
    (kk : ∀ (q : Nat) (H1 : Heap) (locs1 : List Loc), va_P D cls9 ((h0, .inr (ci, fs.set k (.ref q))) :: (rest ++ [(q, .inl (cA, a0))])) H1 → va_D A ((h0, .inr (ci, fs.set k (.ref q))) :: (rest ++ [(q, .inl (cA, a0))])) → va_S A H0 H1 locs1 → W p l e R s m args below meth c H1 locs1 (cells + 1) (slots + N) Q (F0 m (pc + 2 + 3) ls st)) : W p l e R s m args below meth c H locs cells slots Q (F0 m pc ls (.int n :: .ref h0 :: st)) := by
  refine va_newa X.1 X.2.1 (X.2.2.2.2.1 _ (by rw [hty]; exact harr)) hty X.2.2.2.2.2.1 hP hD hS hA ha hn hN hb hcells hslots hd1 (fun q cB H1 hK1 hP1 hD1 hS1 => ?_)
  have e1 : cB = cA := by
    refine ra_inj hty3 (hK1.2 3 (cB, ty) rfl).2 (X.2.2.2.2.2.1.2 t0 (cA, ty) ht0).2
  subst e1
  have hc := X.2.2.2.2.2.2.2.1
  exact va_putF (D := D) (cl := cls9) (own := clR ci) (C := clR ci) (T := clT ci) (N := clN ci) (ty := clY ci k) X.1 X.2.1 X.2.2.2.2.1 (clW hc) (clY ci) (clY_ok _ hc) (clM_ok _ hc) X.2.2.2.1 X.2.2.2.2.2.1 hP1 hD1 hS1 0 rfl (clC _ hc) k hk (X.2.2.2.2.1 _ (flC_in hf)) (fun _ h9 => h9) hfin X.2.2.2.2.2.2.1 hdecl (clY_ok _ hc k hk) (by rw [hyk]; rfl) (by rw [hyk]; rfl) hl hd2 (fun H2 locs2 hP2 hD2 hS2 => kk q H2 locs2 hP2 hD2 hS2)
theorem ct_int {ix d k h0 : Nat} {v : Int32} {fs : List Value} {rest : va_W} {ls : Array Slot} {st : List Value} (X : Cy p s m args meth c D cI cZ cJ cc ci) (hf : ((ci, ix, k), d) ∈ flC) (hk : k < clN ci) (hfin : (clT ci k).2.2.2 = false) (hn : narrow (clY ci k) (.int v) = .int v) (hfit : fits (clY ci k) (.int v) = true)
    (hd : decode cc pc = .ok (.putfield ix, 3)) (hl : k < fs.length) (hP : va_P D cls9 ((h0, .inr (ci, fs)) :: rest) H) (hD : va_D A ((h0, .inr (ci, fs)) :: rest)) (hS : va_S A H0 H locs)
    (kk : ∀ (H1 : Heap) (locs1 : List Loc), va_P D cls9 ((h0, .inr (ci, fs.set k (.int v))) :: rest) H1 → va_D A ((h0, .inr (ci, fs.set k (.int v))) :: rest) → va_S A H0 H1 locs1 → W p l e R s m args below meth c H1 locs1 cells slots Q (F0 m (pc + 3) ls st)) : W p l e R s m args below meth c H locs cells slots Q (F0 m pc ls (.int v :: .ref h0 :: st)) := by
  have hc := X.2.2.2.2.2.2.2.1
  exact va_put (D := D) (cl := cls9) (own := clR ci) (C := clR ci) (T := clT ci) (N := clN ci) (ty := clY ci k) X.1 X.2.1 X.2.2.2.2.1 (clW hc) (clY ci) (clY_ok _ hc) (clM_ok _ hc) X.2.2.2.1 X.2.2.2.2.2.1 hP hD hS 0 rfl (clC _ hc) k hk (X.2.2.2.2.1 _ (flC_in hf)) (fun _ h9 => h9) hfin (clY_ok _ hc k hk) hn hfit hl hd (fun H2 locs2 hP2 hD2 hS2 => kk H2 locs2 hP2 hD2 hS2)
end CT
