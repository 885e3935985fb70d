theorem en_0 (a0 : AV) : en 0 [a0] = [some a0, none, none, none] := rfl
theorem en_1 (a0 a1 : AV) : en 1 [a0, a1] = [some a0, some a1] := rfl
theorem en_2 (a0 a1 : AV) : en 2 [a0, a1] = [some a0, some a1] := rfl
theorem en_3 (a0 a1 a2 : AV) : en 3 [a0, a1, a2] = [some a0, some a1, some a2] := rfl
theorem en_4 (a0 a1 a2 a3 : AV) : en 4 [a0, a1, a2, a3] = [some a0, some a1, some a2, some a3, none] := rfl
theorem en_5 (a0 a1 a2 a3 a4 : AV) : en 5 [a0, a1, a2, a3, a4] = [some a0, some a1, some a2, some a3, some a4, none] := rfl
theorem en_6 (a0 a1 a2 : AV) : en 6 [a0, a1, a2] = [some a0, some a1, some a2, none] := rfl
theorem en_7 (a0 a1 : AV) : en 7 [a0, a1] = [some a0, some a1] := rfl
theorem en_8 (a0 a1 a2 a3 a4 a5 : AV) : en 8 [a0, a1, a2, a3, a4, a5] = [some a0, some a1, some a2, some a3, some a4, some a5, none] := rfl
theorem en_9 (a0 a1 a2 : AV) : en 9 [a0, a1, a2] = [some a0, some a1, some a2] := rfl
theorem en_10 (a0 a1 a2 a3 : AV) : en 10 [a0, a1, a2, a3] = [some a0, some a1, some a2, some a3] := rfl
theorem en_11 (a0 a1 a2 : AV) : en 11 [a0, a1, a2] = [some a0, some a1, some a2, none, none] := rfl
theorem en_12 (a0 : AV) : en 12 [a0] = [some a0] := rfl
theorem en_13 (a0 a1 a2 a3 : AV) : en 13 [a0, a1, a2, a3] = [some a0, some a1, some a2, some a3, none, none] := rfl
theorem en_14 (a0 a1 a2 : AV) : en 14 [a0, a1, a2] = [some a0, some a1, some a2, none, none] := rfl
theorem en_15 (a0 : AV) : en 15 [a0] = [some a0, none, none] := rfl
theorem en_16 (a0 a1 a2 a3 : AV) : en 16 [a0, a1, a2, a3] = [some a0, some a1, some a2, some a3, none, none, none, none, none] := rfl
theorem en_17 (a0 a1 a2 a3 : AV) : en 17 [a0, a1, a2, a3] = [some a0, some a1, some a2, some a3, none, none] := rfl
theorem en_18 (a0 : AV) : en 18 [a0] = [some a0] := rfl
theorem en_19 (a0 a1 a2 : AV) : en 19 [a0, a1, a2] = [some a0, some a1, some a2, none] := rfl
theorem en_20 (a0 a1 a2 : AV) : en 20 [a0, a1, a2] = [some a0, some a1, some a2, none, none, none, none, none] := rfl
theorem en_21 (a0 a1 a2 a3 : AV) : en 21 [a0, a1, a2, a3] = [some a0, some a1, some a2, some a3] := rfl
theorem en_22 (a0 a1 a2 : AV) : en 22 [a0, a1, a2] = [some a0, some a1, some a2, none, none, none] := rfl
theorem en_23 (a0 a1 a2 a3 : AV) : en 23 [a0, a1, a2, a3] = [some a0, some a1, some a2, some a3, none, none, none] := rfl
theorem en_24 (a0 a1 a2 : AV) : en 24 [a0, a1, a2] = [some a0, some a1, some a2, none, none, none] := rfl
theorem en_25 (a0 a1 a2 : AV) : en 25 [a0, a1, a2] = [some a0, some a1, some a2, none, none, none] := rfl
theorem en_26 (a0 a1 a2 a3 : AV) : en 26 [a0, a1, a2, a3] = [some a0, some a1, some a2, some a3, none, none, none] := rfl
theorem en_27 (a0 a1 a2 : AV) : en 27 [a0, a1, a2] = [some a0, some a1, some a2, none] := rfl
theorem en_28 (a0 a1 a2 a3 : AV) : en 28 [a0, a1, a2, a3] = [some a0, some a1, some a2, some a3, none, none, none, none, none] := rfl
theorem en_29 (a0 a1 a2 : AV) : en 29 [a0, a1, a2] = [some a0, some a1, some a2, none, none] := rfl
theorem en_30 (a0 a1 a2 a3 : AV) : en 30 [a0, a1, a2, a3] = [some a0, some a1, some a2, some a3, none] := rfl
theorem en_31 (a0 a1 : AV) : en 31 [a0, a1] = [some a0, some a1] := rfl
theorem en_32 (a0 a1 : AV) : en 32 [a0, a1] = [some a0, some a1] := rfl
theorem en_33 (a0 a1 : AV) : en 33 [a0, a1] = [some a0, some a1] := rfl
theorem en_34 (a0 a1 a2 : AV) : en 34 [a0, a1, a2] = [some a0, some a1, some a2, none] := rfl
theorem en_35 (a0 a1 a2 : AV) : en 35 [a0, a1, a2] = [some a0, some a1, some a2] := rfl
theorem en_36 (a0 a1 a2 : AV) : en 36 [a0, a1, a2] = [some a0, some a1, some a2] := rfl
theorem en_37 (a0 : AV) : en 37 [a0] = [some a0, none, none] := rfl
theorem en_38 (a0 a1 a2 : AV) : en 38 [a0, a1, a2] = [some a0, some a1, some a2, none] := rfl
theorem en_39 (a0 a1 : AV) : en 39 [a0, a1] = [some a0, some a1, none] := rfl
theorem en_40 (a0 a1 : AV) : en 40 [a0, a1] = [some a0, some a1, none, none, none, none] := rfl
theorem en_41 (a0 a1 a2 : AV) : en 41 [a0, a1, a2] = [some a0, some a1, some a2] := rfl
theorem en_42 (a0 a1 a2 a3 : AV) : en 42 [a0, a1, a2, a3] = [some a0, some a1, some a2, some a3, none, none, none, none, none, none, none, none, none] := rfl
theorem en_43 (a0 : AV) : en 43 [a0] = [some a0] := rfl
theorem en_44 (a0 a1 a2 a3 : AV) : en 44 [a0, a1, a2, a3] = [some a0, some a1, some a2, some a3, none] := rfl
theorem en_45 (a0 a1 a2 : AV) : en 45 [a0, a1, a2] = [some a0, some a1, some a2] := rfl
theorem en_46 (a0 a1 a2 a3 : AV) : en 46 [a0, a1, a2, a3] = [some a0, some a1, some a2, some a3] := rfl
theorem en_47 (a0 a1 a2 a3 : AV) : en 47 [a0, a1, a2, a3] = [some a0, some a1, some a2, some a3, none] := rfl
theorem en_48 (a0 a1 a2 a3 : AV) : en 48 [a0, a1, a2, a3] = [some a0, some a1, some a2, some a3, none, none, none] := rfl
theorem en_49 (a0 a1 a2 a3 : AV) : en 49 [a0, a1, a2, a3] = [some a0, some a1, some a2, some a3] := rfl
theorem en_50 (a0 a1 a2 : AV) : en 50 [a0, a1, a2] = [some a0, some a1, some a2, none] := rfl
theorem en_51 (a0 a1 a2 a3 a4 : AV) : en 51 [a0, a1, a2, a3, a4] = [some a0, some a1, some a2, some a3, some a4, none] := rfl
theorem en_52 (a0 a1 a2 a3 : AV) : en 52 [a0, a1, a2, a3] = [some a0, some a1, some a2, some a3, none] := rfl
theorem en_53 (a0 a1 a2 a3 a4 : AV) : en 53 [a0, a1, a2, a3, a4] = [some a0, some a1, some a2, some a3, some a4, none] := rfl
theorem en_54 (a0 a1 a2 a3 a4 a5 : AV) : en 54 [a0, a1, a2, a3, a4, a5] = [some a0, some a1, some a2, some a3, some a4, some a5, none] := rfl
theorem en_55 (a0 a1 a2 a3 : AV) : en 55 [a0, a1, a2, a3] = [some a0, some a1, some a2, some a3] := rfl
theorem en_56 (a0 a1 a2 : AV) : en 56 [a0, a1, a2] = [some a0, some a1, some a2] := rfl
theorem en_57 (a0 a1 : AV) : en 57 [a0, a1] = [some a0, some a1] := rfl
theorem en_58 (a0 a1 a2 : AV) : en 58 [a0, a1, a2] = [some a0, some a1, some a2, none] := rfl
theorem en_59 (a0 a1 a2 a3 : AV) : en 59 [a0, a1, a2, a3] = [some a0, some a1, some a2, some a3] := rfl
theorem en_60 (a0 a1 : AV) : en 60 [a0, a1] = [some a0, some a1] := rfl
theorem en_61 (a0 : AV) : en 61 [a0] = [some a0, none, none, none, none] := rfl
theorem en_62 (a0 a1 a2 a3 a4 : AV) : en 62 [a0, a1, a2, a3, a4] = [some a0, some a1, some a2, some a3, some a4, none] := rfl
theorem en_63 (a0 a1 : AV) : en 63 [a0, a1] = [some a0, some a1, none] := rfl
theorem en_64 (a0 a1 a2 : AV) : en 64 [a0, a1, a2] = [some a0, some a1, some a2] := rfl
theorem en_65 (a0 a1 a2 : AV) : en 65 [a0, a1, a2] = [some a0, some a1, some a2, none] := rfl
theorem en_66 (a0 a1 a2 : AV) : en 66 [a0, a1, a2] = [some a0, some a1, some a2] := rfl
theorem en_67 (a0 a1 : AV) : en 67 [a0, a1] = [some a0, some a1] := rfl
theorem en_68 (a0 a1 a2 : AV) : en 68 [a0, a1, a2] = [some a0, some a1, some a2] := rfl
theorem en_69 (a0 : AV) : en 69 [a0] = [some a0] := rfl
theorem en_70 (a0 a1 : AV) : en 70 [a0, a1] = [some a0, some a1, none, none, none, none] := rfl
theorem en_71 (a0 a1 : AV) : en 71 [a0, a1] = [some a0, some a1] := rfl
theorem en_72 (a0 : AV) : en 72 [a0] = [some a0] := rfl
theorem en_73 (a0 a1 : AV) : en 73 [a0, a1] = [some a0, some a1] := rfl
theorem en_74 (a0 a1 a2 a3 : AV) : en 74 [a0, a1, a2, a3] = [some a0, some a1, some a2, some a3] := rfl
theorem en_75 (a0 a1 : AV) : en 75 [a0, a1] = [some a0, some a1] := rfl
theorem en_76 (a0 a1 a2 : AV) : en 76 [a0, a1, a2] = [some a0, some a1, some a2] := rfl
theorem en_77 (a0 a1 : AV) : en 77 [a0, a1] = [some a0, some a1] := rfl
theorem en_78 (a0 a1 : AV) : en 78 [a0, a1] = [some a0, some a1] := rfl
theorem en_79 (a0 a1 a2 : AV) : en 79 [a0, a1, a2] = [some a0, some a1, some a2] := rfl
theorem en_80 (a0 : AV) : en 80 [a0] = [some a0, none, none] := rfl
theorem en_81 (a0 a1 a2 : AV) : en 81 [a0, a1, a2] = [some a0, some a1, some a2, none, none] := rfl
theorem en_82 (a0 : AV) : en 82 [a0] = [some a0] := rfl
theorem en_83 (a0 : AV) : en 83 [a0] = [some a0] := rfl
theorem en_84 (a0 a1 : AV) : en 84 [a0, a1] = [some a0, some a1] := rfl
theorem en_85 (a0 a1 a2 : AV) : en 85 [a0, a1, a2] = [some a0, some a1, some a2] := rfl
theorem en_86 (a0 a1 : AV) : en 86 [a0, a1] = [some a0, some a1] := rfl
theorem en_87 (a0 a1 : AV) : en 87 [a0, a1] = [some a0, some a1] := rfl
theorem en_88 (a0 a1 : AV) : en 88 [a0, a1] = [some a0, some a1] := rfl
theorem en_89 (a0 a1 a2 : AV) : en 89 [a0, a1, a2] = [some a0, some a1, some a2] := rfl
theorem en_90 (a0 a1 a2 a3 : AV) : en 90 [a0, a1, a2, a3] = [some a0, some a1, some a2, some a3] := rfl
theorem en_91 (a0 a1 a2 a3 a4 : AV) : en 91 [a0, a1, a2, a3, a4] = [some a0, some a1, some a2, some a3, some a4] := rfl
theorem en_92 (a0 a1 a2 a3 a4 a5 : AV) : en 92 [a0, a1, a2, a3, a4, a5] = [some a0, some a1, some a2, some a3, some a4, some a5] := rfl
theorem en_93 (a0 a1 a2 : AV) : en 93 [a0, a1, a2] = [some a0, some a1, some a2] := rfl
theorem en_94 (a0 a1 a2 a3 : AV) : en 94 [a0, a1, a2, a3] = [some a0, some a1, some a2, some a3] := rfl
theorem en_95 (a0 a1 a2 : AV) : en 95 [a0, a1, a2] = [some a0, some a1, some a2] := rfl
theorem en_96 (a0 a1 : AV) : en 96 [a0, a1] = [some a0, some a1] := rfl
theorem en_97 (a0 a1 a2 : AV) : en 97 [a0, a1, a2] = [some a0, some a1, some a2] := rfl
theorem en_98 (a0 a1 a2 : AV) : en 98 [a0, a1, a2] = [some a0, some a1, some a2] := rfl
theorem en_99 (a0 a1 a2 a3 : AV) : en 99 [a0, a1, a2, a3] = [some a0, some a1, some a2, some a3] := rfl
theorem en_100 (a0 a1 : AV) : en 100 [a0, a1] = [some a0, some a1, none, none] := rfl
theorem en_101 (a0 : AV) : en 101 [a0] = [some a0, none, none] := rfl
theorem en_102 (a0 a1 a2 a3 a4 : AV) : en 102 [a0, a1, a2, a3, a4] = [some a0, some a1, some a2, some a3, some a4] := rfl
theorem en_103 (a0 a1 a2 : AV) : en 103 [a0, a1, a2] = [some a0, some a1, some a2] := rfl
theorem en_104 (a0 a1 a2 a3 : AV) : en 104 [a0, a1, a2, a3] = [some a0, some a1, some a2, some a3] := rfl
theorem en_105 (a0 a1 a2 : AV) : en 105 [a0, a1, a2] = [some a0, some a1, some a2, none, none, none, none] := rfl
theorem en_106 (a0 a1 a2 a3 : AV) : en 106 [a0, a1, a2, a3] = [some a0, some a1, some a2, some a3, none, none, none, none, none, none, none, none, none, none, none] := rfl
theorem en_107 (a0 a1 : AV) : en 107 [a0, a1] = [some a0, some a1, none, none] := rfl
theorem en_108 (a0 : AV) : en 108 [a0] = [some a0, none, none] := rfl
theorem en_109 (a0 a1 a2 : AV) : en 109 [a0, a1, a2] = [some a0, some a1, some a2] := rfl
theorem en_110 (a0 a1 a2 : AV) : en 110 [a0, a1, a2] = [some a0, some a1, some a2] := rfl
theorem en_111 (a0 a1 a2 : AV) : en 111 [a0, a1, a2] = [some a0, some a1, some a2, none] := rfl
theorem en_112 (a0 a1 : AV) : en 112 [a0, a1] = [some a0, some a1, none, none] := rfl
theorem en_113 (a0 a1 a2 : AV) : en 113 [a0, a1, a2] = [some a0, some a1, some a2] := rfl
theorem en_114 (a0 a1 : AV) : en 114 [a0, a1] = [some a0, some a1, none] := rfl
theorem en_115 (a0 a1 a2 : AV) : en 115 [a0, a1, a2] = [some a0, some a1, some a2] := rfl
theorem en_116 (a0 : AV) : en 116 [a0] = [some a0, none, none, none, none] := rfl
theorem en_117 (a0 a1 : AV) : en 117 [a0, a1] = [some a0, some a1, none, none, none, none, none] := rfl
theorem en_118 (a0 a1 a2 a3 : AV) : en 118 [a0, a1, a2, a3] = [some a0, some a1, some a2, some a3] := rfl
theorem en_119 (a0 a1 a2 a3 a4 : AV) : en 119 [a0, a1, a2, a3, a4] = [some a0, some a1, some a2, some a3, some a4, none] := rfl
theorem en_120 (a0 a1 : AV) : en 120 [a0, a1] = [some a0, some a1, none] := rfl
theorem en_121 (a0 a1 a2 a3 : AV) : en 121 [a0, a1, a2, a3] = [some a0, some a1, some a2, some a3, none, none, none] := rfl
theorem en_122 (a0 a1 : AV) : en 122 [a0, a1] = [some a0, some a1, none] := rfl
theorem en_123 (a0 a1 : AV) : en 123 [a0, a1] = [some a0, some a1, none] := rfl
theorem en_124 (a0 a1 a2 : AV) : en 124 [a0, a1, a2] = [some a0, some a1, some a2, none] := rfl
theorem en_125 (a0 a1 : AV) : en 125 [a0, a1] = [some a0, some a1, none, none, none, none, none] := rfl
theorem en_126 (a0 a1 : AV) : en 126 [a0, a1] = [some a0, some a1] := rfl
theorem en_127 (a0 : AV) : en 127 [a0] = [some a0, none, none, none, none] := rfl
theorem en_128 (a0 a1 a2 a3 : AV) : en 128 [a0, a1, a2, a3] = [some a0, some a1, some a2, some a3, none, none] := rfl
theorem en_129 (a0 a1 : AV) : en 129 [a0, a1] = [some a0, some a1, none, none, none] := rfl
theorem en_130 (a0 a1 a2 a3 : AV) : en 130 [a0, a1, a2, a3] = [some a0, some a1, some a2, some a3, none, none, none] := rfl
theorem en_131 (a0 a1 : AV) : en 131 [a0, a1] = [some a0, some a1, none, none] := rfl
theorem en_132 (a0 a1 : AV) : en 132 [a0, a1] = [some a0, some a1, none, none] := rfl
