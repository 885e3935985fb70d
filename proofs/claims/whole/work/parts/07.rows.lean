section RW
variable {d : Nat} {os : List Op} {y : Nat} {lo : Lo} {st : St} {M : Me} {Q : Int → Me → Prop}
theorem lg_0 (a0 : Option AV) (l : Lo) : lg (a0 :: l) 0 = a0 := rfl
theorem lz_0 (a0 : Option AV) (l : Lo) (v : AV) : lz (a0 :: l) 0 v = some v :: l := rfl
theorem ly_0 (a0 : Option AV) (l : Lo) : ly (a0 :: l) 0 = none :: l := rfl
theorem lp_0 (lo : Lo) : lp lo 0 = false := rfl
theorem lg_1 (a0 a1 : Option AV) (l : Lo) : lg (a0 :: a1 :: l) 1 = a1 := rfl
theorem lz_1 (a0 a1 : Option AV) (l : Lo) (v : AV) : lz (a0 :: a1 :: l) 1 v = a0 :: some v :: l := rfl
theorem ly_1 (a0 a1 : Option AV) (l : Lo) : ly (a0 :: a1 :: l) 1 = a0 :: none :: l := rfl
theorem lp_1 (lo : Lo) : lp lo 1 = isL (lg lo 0) := rfl
theorem lg_2 (a0 a1 a2 : Option AV) (l : Lo) : lg (a0 :: a1 :: a2 :: l) 2 = a2 := rfl
theorem lz_2 (a0 a1 a2 : Option AV) (l : Lo) (v : AV) : lz (a0 :: a1 :: a2 :: l) 2 v = a0 :: a1 :: some v :: l := rfl
theorem ly_2 (a0 a1 a2 : Option AV) (l : Lo) : ly (a0 :: a1 :: a2 :: l) 2 = a0 :: a1 :: none :: l := rfl
theorem lp_2 (lo : Lo) : lp lo 2 = isL (lg lo 1) := rfl
theorem lg_3 (a0 a1 a2 a3 : Option AV) (l : Lo) : lg (a0 :: a1 :: a2 :: a3 :: l) 3 = a3 := rfl
theorem lz_3 (a0 a1 a2 a3 : Option AV) (l : Lo) (v : AV) : lz (a0 :: a1 :: a2 :: a3 :: l) 3 v = a0 :: a1 :: a2 :: some v :: l := rfl
theorem ly_3 (a0 a1 a2 a3 : Option AV) (l : Lo) : ly (a0 :: a1 :: a2 :: a3 :: l) 3 = a0 :: a1 :: a2 :: none :: l := rfl
theorem lp_3 (lo : Lo) : lp lo 3 = isL (lg lo 2) := rfl
theorem lg_4 (a0 a1 a2 a3 a4 : Option AV) (l : Lo) : lg (a0 :: a1 :: a2 :: a3 :: a4 :: l) 4 = a4 := rfl
theorem lz_4 (a0 a1 a2 a3 a4 : Option AV) (l : Lo) (v : AV) : lz (a0 :: a1 :: a2 :: a3 :: a4 :: l) 4 v = a0 :: a1 :: a2 :: a3 :: some v :: l := rfl
theorem ly_4 (a0 a1 a2 a3 a4 : Option AV) (l : Lo) : ly (a0 :: a1 :: a2 :: a3 :: a4 :: l) 4 = a0 :: a1 :: a2 :: a3 :: none :: l := rfl
theorem lp_4 (lo : Lo) : lp lo 4 = isL (lg lo 3) := rfl
theorem lg_5 (a0 a1 a2 a3 a4 a5 : Option AV) (l : Lo) : lg (a0 :: a1 :: a2 :: a3 :: a4 :: a5 :: l) 5 = a5 := rfl
theorem lz_5 (a0 a1 a2 a3 a4 a5 : Option AV) (l : Lo) (v : AV) : lz (a0 :: a1 :: a2 :: a3 :: a4 :: a5 :: l) 5 v = a0 :: a1 :: a2 :: a3 :: a4 :: some v :: l := rfl
theorem ly_5 (a0 a1 a2 a3 a4 a5 : Option AV) (l : Lo) : ly (a0 :: a1 :: a2 :: a3 :: a4 :: a5 :: l) 5 = a0 :: a1 :: a2 :: a3 :: a4 :: none :: l := rfl
theorem lp_5 (lo : Lo) : lp lo 5 = isL (lg lo 4) := rfl
theorem lg_6 (a0 a1 a2 a3 a4 a5 a6 : Option AV) (l : Lo) : lg (a0 :: a1 :: a2 :: a3 :: a4 :: a5 :: a6 :: l) 6 = a6 := rfl
theorem lz_6 (a0 a1 a2 a3 a4 a5 a6 : Option AV) (l : Lo) (v : AV) : lz (a0 :: a1 :: a2 :: a3 :: a4 :: a5 :: a6 :: l) 6 v = a0 :: a1 :: a2 :: a3 :: a4 :: a5 :: some v :: l := rfl
theorem ly_6 (a0 a1 a2 a3 a4 a5 a6 : Option AV) (l : Lo) : ly (a0 :: a1 :: a2 :: a3 :: a4 :: a5 :: a6 :: l) 6 = a0 :: a1 :: a2 :: a3 :: a4 :: a5 :: none :: l := rfl
theorem lp_6 (lo : Lo) : lp lo 6 = isL (lg lo 5) := rfl
theorem lg_7 (a0 a1 a2 a3 a4 a5 a6 a7 : Option AV) (l : Lo) : lg (a0 :: a1 :: a2 :: a3 :: a4 :: a5 :: a6 :: a7 :: l) 7 = a7 := rfl
theorem lz_7 (a0 a1 a2 a3 a4 a5 a6 a7 : Option AV) (l : Lo) (v : AV) : lz (a0 :: a1 :: a2 :: a3 :: a4 :: a5 :: a6 :: a7 :: l) 7 v = a0 :: a1 :: a2 :: a3 :: a4 :: a5 :: a6 :: some v :: l := rfl
theorem ly_7 (a0 a1 a2 a3 a4 a5 a6 a7 : Option AV) (l : Lo) : ly (a0 :: a1 :: a2 :: a3 :: a4 :: a5 :: a6 :: a7 :: l) 7 = a0 :: a1 :: a2 :: a3 :: a4 :: a5 :: a6 :: none :: l := rfl
theorem lp_7 (lo : Lo) : lp lo 7 = isL (lg lo 6) := rfl
theorem lg_8 (a0 a1 a2 a3 a4 a5 a6 a7 a8 : Option AV) (l : Lo) : lg (a0 :: a1 :: a2 :: a3 :: a4 :: a5 :: a6 :: a7 :: a8 :: l) 8 = a8 := rfl
theorem lz_8 (a0 a1 a2 a3 a4 a5 a6 a7 a8 : Option AV) (l : Lo) (v : AV) : lz (a0 :: a1 :: a2 :: a3 :: a4 :: a5 :: a6 :: a7 :: a8 :: l) 8 v = a0 :: a1 :: a2 :: a3 :: a4 :: a5 :: a6 :: a7 :: some v :: l := rfl
theorem ly_8 (a0 a1 a2 a3 a4 a5 a6 a7 a8 : Option AV) (l : Lo) : ly (a0 :: a1 :: a2 :: a3 :: a4 :: a5 :: a6 :: a7 :: a8 :: l) 8 = a0 :: a1 :: a2 :: a3 :: a4 :: a5 :: a6 :: a7 :: none :: l := rfl
theorem lp_8 (lo : Lo) : lp lo 8 = isL (lg lo 7) := rfl
theorem lg_9 (a0 a1 a2 a3 a4 a5 a6 a7 a8 a9 : Option AV) (l : Lo) : lg (a0 :: a1 :: a2 :: a3 :: a4 :: a5 :: a6 :: a7 :: a8 :: a9 :: l) 9 = a9 := rfl
theorem lz_9 (a0 a1 a2 a3 a4 a5 a6 a7 a8 a9 : Option AV) (l : Lo) (v : AV) : lz (a0 :: a1 :: a2 :: a3 :: a4 :: a5 :: a6 :: a7 :: a8 :: a9 :: l) 9 v = a0 :: a1 :: a2 :: a3 :: a4 :: a5 :: a6 :: a7 :: a8 :: some v :: l := rfl
theorem ly_9 (a0 a1 a2 a3 a4 a5 a6 a7 a8 a9 : Option AV) (l : Lo) : ly (a0 :: a1 :: a2 :: a3 :: a4 :: a5 :: a6 :: a7 :: a8 :: a9 :: l) 9 = a0 :: a1 :: a2 :: a3 :: a4 :: a5 :: a6 :: a7 :: a8 :: none :: l := rfl
theorem lp_9 (lo : Lo) : lp lo 9 = isL (lg lo 8) := rfl
theorem lg_10 (a0 a1 a2 a3 a4 a5 a6 a7 a8 a9 a10 : Option AV) (l : Lo) : lg (a0 :: a1 :: a2 :: a3 :: a4 :: a5 :: a6 :: a7 :: a8 :: a9 :: a10 :: l) 10 = a10 := rfl
theorem lz_10 (a0 a1 a2 a3 a4 a5 a6 a7 a8 a9 a10 : Option AV) (l : Lo) (v : AV) : lz (a0 :: a1 :: a2 :: a3 :: a4 :: a5 :: a6 :: a7 :: a8 :: a9 :: a10 :: l) 10 v = a0 :: a1 :: a2 :: a3 :: a4 :: a5 :: a6 :: a7 :: a8 :: a9 :: some v :: l := rfl
theorem ly_10 (a0 a1 a2 a3 a4 a5 a6 a7 a8 a9 a10 : Option AV) (l : Lo) : ly (a0 :: a1 :: a2 :: a3 :: a4 :: a5 :: a6 :: a7 :: a8 :: a9 :: a10 :: l) 10 = a0 :: a1 :: a2 :: a3 :: a4 :: a5 :: a6 :: a7 :: a8 :: a9 :: none :: l := rfl
theorem lp_10 (lo : Lo) : lp lo 10 = isL (lg lo 9) := rfl
theorem lg_11 (a0 a1 a2 a3 a4 a5 a6 a7 a8 a9 a10 a11 : Option AV) (l : Lo) : lg (a0 :: a1 :: a2 :: a3 :: a4 :: a5 :: a6 :: a7 :: a8 :: a9 :: a10 :: a11 :: l) 11 = a11 := rfl
theorem lz_11 (a0 a1 a2 a3 a4 a5 a6 a7 a8 a9 a10 a11 : Option AV) (l : Lo) (v : AV) : lz (a0 :: a1 :: a2 :: a3 :: a4 :: a5 :: a6 :: a7 :: a8 :: a9 :: a10 :: a11 :: l) 11 v = a0 :: a1 :: a2 :: a3 :: a4 :: a5 :: a6 :: a7 :: a8 :: a9 :: a10 :: some v :: l := rfl
theorem ly_11 (a0 a1 a2 a3 a4 a5 a6 a7 a8 a9 a10 a11 : Option AV) (l : Lo) : ly (a0 :: a1 :: a2 :: a3 :: a4 :: a5 :: a6 :: a7 :: a8 :: a9 :: a10 :: a11 :: l) 11 = a0 :: a1 :: a2 :: a3 :: a4 :: a5 :: a6 :: a7 :: a8 :: a9 :: a10 :: none :: l := rfl
theorem lp_11 (lo : Lo) : lp lo 11 = isL (lg lo 10) := rfl
theorem lg_12 (a0 a1 a2 a3 a4 a5 a6 a7 a8 a9 a10 a11 a12 : Option AV) (l : Lo) : lg (a0 :: a1 :: a2 :: a3 :: a4 :: a5 :: a6 :: a7 :: a8 :: a9 :: a10 :: a11 :: a12 :: l) 12 = a12 := rfl
theorem lz_12 (a0 a1 a2 a3 a4 a5 a6 a7 a8 a9 a10 a11 a12 : Option AV) (l : Lo) (v : AV) : lz (a0 :: a1 :: a2 :: a3 :: a4 :: a5 :: a6 :: a7 :: a8 :: a9 :: a10 :: a11 :: a12 :: l) 12 v = a0 :: a1 :: a2 :: a3 :: a4 :: a5 :: a6 :: a7 :: a8 :: a9 :: a10 :: a11 :: some v :: l := rfl
theorem ly_12 (a0 a1 a2 a3 a4 a5 a6 a7 a8 a9 a10 a11 a12 : Option AV) (l : Lo) : ly (a0 :: a1 :: a2 :: a3 :: a4 :: a5 :: a6 :: a7 :: a8 :: a9 :: a10 :: a11 :: a12 :: l) 12 = a0 :: a1 :: a2 :: a3 :: a4 :: a5 :: a6 :: a7 :: a8 :: a9 :: a10 :: a11 :: none :: l := rfl
theorem lp_12 (lo : Lo) : lp lo 12 = isL (lg lo 11) := rfl
theorem lg_13 (a0 a1 a2 a3 a4 a5 a6 a7 a8 a9 a10 a11 a12 a13 : Option AV) (l : Lo) : lg (a0 :: a1 :: a2 :: a3 :: a4 :: a5 :: a6 :: a7 :: a8 :: a9 :: a10 :: a11 :: a12 :: a13 :: l) 13 = a13 := rfl
theorem lz_13 (a0 a1 a2 a3 a4 a5 a6 a7 a8 a9 a10 a11 a12 a13 : Option AV) (l : Lo) (v : AV) : lz (a0 :: a1 :: a2 :: a3 :: a4 :: a5 :: a6 :: a7 :: a8 :: a9 :: a10 :: a11 :: a12 :: a13 :: l) 13 v = a0 :: a1 :: a2 :: a3 :: a4 :: a5 :: a6 :: a7 :: a8 :: a9 :: a10 :: a11 :: a12 :: some v :: l := rfl
theorem ly_13 (a0 a1 a2 a3 a4 a5 a6 a7 a8 a9 a10 a11 a12 a13 : Option AV) (l : Lo) : ly (a0 :: a1 :: a2 :: a3 :: a4 :: a5 :: a6 :: a7 :: a8 :: a9 :: a10 :: a11 :: a12 :: a13 :: l) 13 = a0 :: a1 :: a2 :: a3 :: a4 :: a5 :: a6 :: a7 :: a8 :: a9 :: a10 :: a11 :: a12 :: none :: l := rfl
theorem lp_13 (lo : Lo) : lp lo 13 = isL (lg lo 12) := rfl
theorem lg_14 (a0 a1 a2 a3 a4 a5 a6 a7 a8 a9 a10 a11 a12 a13 a14 : Option AV) (l : Lo) : lg (a0 :: a1 :: a2 :: a3 :: a4 :: a5 :: a6 :: a7 :: a8 :: a9 :: a10 :: a11 :: a12 :: a13 :: a14 :: l) 14 = a14 := rfl
theorem lz_14 (a0 a1 a2 a3 a4 a5 a6 a7 a8 a9 a10 a11 a12 a13 a14 : Option AV) (l : Lo) (v : AV) : lz (a0 :: a1 :: a2 :: a3 :: a4 :: a5 :: a6 :: a7 :: a8 :: a9 :: a10 :: a11 :: a12 :: a13 :: a14 :: l) 14 v = a0 :: a1 :: a2 :: a3 :: a4 :: a5 :: a6 :: a7 :: a8 :: a9 :: a10 :: a11 :: a12 :: a13 :: some v :: l := rfl
theorem ly_14 (a0 a1 a2 a3 a4 a5 a6 a7 a8 a9 a10 a11 a12 a13 a14 : Option AV) (l : Lo) : ly (a0 :: a1 :: a2 :: a3 :: a4 :: a5 :: a6 :: a7 :: a8 :: a9 :: a10 :: a11 :: a12 :: a13 :: a14 :: l) 14 = a0 :: a1 :: a2 :: a3 :: a4 :: a5 :: a6 :: a7 :: a8 :: a9 :: a10 :: a11 :: a12 :: a13 :: none :: l := rfl
theorem lp_14 (lo : Lo) : lp lo 14 = isL (lg lo 13) := rfl
theorem isL_n : isL none = false := rfl
theorem isL_I (x : Int) : isL (some (.inl x)) = false := rfl
theorem isL_R (x : Nat) : isL (some (.inr (.inr x))) = false := rfl
theorem isL_L (x : Int) : isL (some (.inr (.inl x))) = true := rfl
theorem g_0_0 : Rn d ((22, 0, 7) :: os) y lo (.inr (.inr 0) :: st) M Q = Rn d os y lo (.inr (.inr 1) :: st) M Q := s_22R (k := 0) (r := 1) rfl rfl
theorem g_0_1 : Rn d ((22, 1, 7) :: os) y lo (.inr (.inr 0) :: st) M Q = Rn d os y lo (.inr (.inr 2) :: st) M Q := s_22R (k := 1) (r := 2) rfl rfl
theorem g_0_2 : Rn d ((22, 2, 7) :: os) y lo (.inr (.inr 0) :: st) M Q = Rn d os y lo (.inr (.inr 3) :: st) M Q := s_22R (k := 2) (r := 3) rfl rfl
theorem g_0_3 : Rn d ((22, 3, 7) :: os) y lo (.inr (.inr 0) :: st) M Q = Rn d os y lo (.inr (.inr 4) :: st) M Q := s_22R (k := 3) (r := 4) rfl rfl
theorem g_0_4 : Rn d ((22, 4, 7) :: os) y lo (.inr (.inr 0) :: st) M Q = Rn d os y lo (.inr (.inr 5) :: st) M Q := s_22R (k := 4) (r := 5) rfl rfl
theorem g_0_5 : Rn d ((22, 5, 7) :: os) y lo (.inr (.inr 0) :: st) M Q = Rn d os y lo (.inr (.inr 6) :: st) M Q := s_22R (k := 5) (r := 6) rfl rfl
theorem g_0_6 : Rn d ((22, 6, 7) :: os) y lo (.inr (.inr 0) :: st) M Q = Rn d os y lo (.inr (.inr 7) :: st) M Q := s_22R (k := 6) (r := 7) rfl rfl
theorem g_0_7 : Rn d ((22, 7, 7) :: os) y lo (.inr (.inr 0) :: st) M Q = Rn d os y lo (.inl (M 0 7) :: st) M Q := s_22I (k := 7) rfl (Or.inl rfl)
theorem p_0_7 {v : Int} : Rn d ((23, 7, 7) :: os) y lo (.inl v :: .inr (.inr 0) :: st) M Q = Rn d os y lo st (me_put M 0 7 v) Q := s_23I (k := 7) rfl rfl
theorem g_1_0 : Rn d ((22, 0, 0) :: os) y lo (.inr (.inr 1) :: st) M Q = Rn d os y lo (.inr (.inr 9) :: st) M Q := s_22R (k := 0) (r := 9) rfl rfl
theorem g_1_1 : Rn d ((22, 1, 0) :: os) y lo (.inr (.inr 1) :: st) M Q = Rn d os y lo (.inr (.inr 10) :: st) M Q := s_22R (k := 1) (r := 10) rfl rfl
theorem g_1_2 : Rn d ((22, 2, 0) :: os) y lo (.inr (.inr 1) :: st) M Q = Rn d os y lo (.inr (.inr 11) :: st) M Q := s_22R (k := 2) (r := 11) rfl rfl
theorem g_1_3 : Rn d ((22, 3, 0) :: os) y lo (.inr (.inr 1) :: st) M Q = Rn d os y lo (.inr (.inr 12) :: st) M Q := s_22R (k := 3) (r := 12) rfl rfl
theorem g_1_4 : Rn d ((22, 4, 0) :: os) y lo (.inr (.inr 1) :: st) M Q = Rn d os y lo (.inr (.inr 13) :: st) M Q := s_22R (k := 4) (r := 13) rfl rfl
theorem g_1_5 : Rn d ((22, 5, 0) :: os) y lo (.inr (.inr 1) :: st) M Q = Rn d os y lo (.inr (.inr 14) :: st) M Q := s_22R (k := 5) (r := 14) rfl rfl
theorem g_1_6 : Rn d ((22, 6, 0) :: os) y lo (.inr (.inr 1) :: st) M Q = Rn d os y lo (.inr (.inr 15) :: st) M Q := s_22R (k := 6) (r := 15) rfl rfl
theorem g_1_7 : Rn d ((22, 7, 0) :: os) y lo (.inr (.inr 1) :: st) M Q = Rn d os y lo (.inr (.inr 16) :: st) M Q := s_22R (k := 7) (r := 16) rfl rfl
theorem g_1_8 : Rn d ((22, 8, 0) :: os) y lo (.inr (.inr 1) :: st) M Q = Rn d os y lo (.inl (M 1 8) :: st) M Q := s_22I (k := 8) rfl (Or.inl rfl)
theorem p_1_8 {v : Int} : Rn d ((23, 8, 0) :: os) y lo (.inl v :: .inr (.inr 1) :: st) M Q = Rn d os y lo st (me_put M 1 8 v) Q := s_23I (k := 8) rfl rfl
theorem g_1_9 : Rn d ((22, 9, 0) :: os) y lo (.inr (.inr 1) :: st) M Q = Rn d os y lo (.inl (M 1 9) :: st) M Q := s_22I (k := 9) rfl (Or.inl rfl)
theorem p_1_9 {v : Int} : Rn d ((23, 9, 0) :: os) y lo (.inl v :: .inr (.inr 1) :: st) M Q = Rn d os y lo st (me_put M 1 9 v) Q := s_23I (k := 9) rfl rfl
theorem g_2_0 : Rn d ((22, 0, 1) :: os) y lo (.inr (.inr 2) :: st) M Q = Rn d os y lo (.inr (.inr 17) :: st) M Q := s_22R (k := 0) (r := 17) rfl rfl
theorem g_2_1 : Rn d ((22, 1, 1) :: os) y lo (.inr (.inr 2) :: st) M Q = Rn d os y lo (.inr (.inr 18) :: st) M Q := s_22R (k := 1) (r := 18) rfl rfl
theorem g_2_2 : Rn d ((22, 2, 1) :: os) y lo (.inr (.inr 2) :: st) M Q = Rn d os y lo (.inr (.inr 19) :: st) M Q := s_22R (k := 2) (r := 19) rfl rfl
theorem g_2_3 : Rn d ((22, 3, 1) :: os) y lo (.inr (.inr 2) :: st) M Q = Rn d os y lo (.inr (.inr 20) :: st) M Q := s_22R (k := 3) (r := 20) rfl rfl
theorem g_2_4 : Rn d ((22, 4, 1) :: os) y lo (.inr (.inr 2) :: st) M Q = Rn d os y lo (.inr (.inr 21) :: st) M Q := s_22R (k := 4) (r := 21) rfl rfl
theorem g_2_5 : Rn d ((22, 5, 1) :: os) y lo (.inr (.inr 2) :: st) M Q = Rn d os y lo (.inr (.inr 22) :: st) M Q := s_22R (k := 5) (r := 22) rfl rfl
theorem g_2_6 : Rn d ((22, 6, 1) :: os) y lo (.inr (.inr 2) :: st) M Q = Rn d os y lo (.inr (.inr 23) :: st) M Q := s_22R (k := 6) (r := 23) rfl rfl
theorem g_2_7 : Rn d ((22, 7, 1) :: os) y lo (.inr (.inr 2) :: st) M Q = Rn d os y lo (.inr (.inr 24) :: st) M Q := s_22R (k := 7) (r := 24) rfl rfl
theorem g_2_8 : Rn d ((22, 8, 1) :: os) y lo (.inr (.inr 2) :: st) M Q = Rn d os y lo (.inl (M 2 8) :: st) M Q := s_22I (k := 8) rfl (Or.inl rfl)
theorem p_2_8 {v : Int} : Rn d ((23, 8, 1) :: os) y lo (.inl v :: .inr (.inr 2) :: st) M Q = Rn d os y lo st (me_put M 2 8 v) Q := s_23I (k := 8) rfl rfl
theorem g_3_0 : Rn d ((22, 0, 6) :: os) y lo (.inr (.inr 3) :: st) M Q = Rn d os y lo (.inr (.inr 25) :: st) M Q := s_22R (k := 0) (r := 25) rfl rfl
theorem g_3_1 : Rn d ((22, 1, 6) :: os) y lo (.inr (.inr 3) :: st) M Q = Rn d os y lo (.inr (.inr 26) :: st) M Q := s_22R (k := 1) (r := 26) rfl rfl
theorem g_3_2 : Rn d ((22, 2, 6) :: os) y lo (.inr (.inr 3) :: st) M Q = Rn d os y lo (.inr (.inr 27) :: st) M Q := s_22R (k := 2) (r := 27) rfl rfl
theorem g_3_3 : Rn d ((22, 3, 6) :: os) y lo (.inr (.inr 3) :: st) M Q = Rn d os y lo (.inr (.inr 28) :: st) M Q := s_22R (k := 3) (r := 28) rfl rfl
theorem g_3_4 : Rn d ((22, 4, 6) :: os) y lo (.inr (.inr 3) :: st) M Q = Rn d os y lo (.inr (.inr 29) :: st) M Q := s_22R (k := 4) (r := 29) rfl rfl
theorem g_3_5 : Rn d ((22, 5, 6) :: os) y lo (.inr (.inr 3) :: st) M Q = Rn d os y lo (.inr (.inr 30) :: st) M Q := s_22R (k := 5) (r := 30) rfl rfl
theorem g_3_6 : Rn d ((22, 6, 6) :: os) y lo (.inr (.inr 3) :: st) M Q = Rn d os y lo (.inr (.inr 31) :: st) M Q := s_22R (k := 6) (r := 31) rfl rfl
theorem g_3_7 : Rn d ((22, 7, 6) :: os) y lo (.inr (.inr 3) :: st) M Q = Rn d os y lo (.inr (.inr 32) :: st) M Q := s_22R (k := 7) (r := 32) rfl rfl
theorem g_3_8 : Rn d ((22, 8, 6) :: os) y lo (.inr (.inr 3) :: st) M Q = Rn d os y lo (.inl (M 3 8) :: st) M Q := s_22I (k := 8) rfl (Or.inl rfl)
theorem p_3_8 {v : Int} : Rn d ((23, 8, 6) :: os) y lo (.inl v :: .inr (.inr 3) :: st) M Q = Rn d os y lo st (me_put M 3 8 v) Q := s_23I (k := 8) rfl rfl
theorem g_4_0 : Rn d ((22, 0, 5) :: os) y lo (.inr (.inr 4) :: st) M Q = Rn d os y lo (.inr (.inr 33) :: st) M Q := s_22R (k := 0) (r := 33) rfl rfl
theorem g_4_1 : Rn d ((22, 1, 5) :: os) y lo (.inr (.inr 4) :: st) M Q = Rn d os y lo (.inr (.inr 34) :: st) M Q := s_22R (k := 1) (r := 34) rfl rfl
theorem g_4_2 : Rn d ((22, 2, 5) :: os) y lo (.inr (.inr 4) :: st) M Q = Rn d os y lo (.inr (.inr 35) :: st) M Q := s_22R (k := 2) (r := 35) rfl rfl
theorem g_4_3 : Rn d ((22, 3, 5) :: os) y lo (.inr (.inr 4) :: st) M Q = Rn d os y lo (.inl (M 4 3) :: st) M Q := s_22I (k := 3) rfl (Or.inl rfl)
theorem p_4_3 {v : Int} : Rn d ((23, 3, 5) :: os) y lo (.inl v :: .inr (.inr 4) :: st) M Q = Rn d os y lo st (me_put M 4 3 v) Q := s_23I (k := 3) rfl rfl
theorem g_5_0 : Rn d ((22, 0, 3) :: os) y lo (.inr (.inr 5) :: st) M Q = Rn d os y lo (.inr (.inr 36) :: st) M Q := s_22R (k := 0) (r := 36) rfl rfl
theorem g_5_1 : Rn d ((22, 1, 3) :: os) y lo (.inr (.inr 5) :: st) M Q = Rn d os y lo (.inr (.inr 37) :: st) M Q := s_22R (k := 1) (r := 37) rfl rfl
theorem g_5_2 : Rn d ((22, 2, 3) :: os) y lo (.inr (.inr 5) :: st) M Q = Rn d os y lo (.inl (M 5 2) :: st) M Q := s_22I (k := 2) rfl (Or.inl rfl)
theorem p_5_2 {v : Int} : Rn d ((23, 2, 3) :: os) y lo (.inl v :: .inr (.inr 5) :: st) M Q = Rn d os y lo st (me_put M 5 2 v) Q := s_23I (k := 2) rfl rfl
theorem g_5_3 : Rn d ((22, 3, 3) :: os) y lo (.inr (.inr 5) :: st) M Q = Rn d os y lo (.inl (M 5 3) :: st) M Q := s_22I (k := 3) rfl (Or.inl rfl)
theorem p_5_3 {v : Int} : Rn d ((23, 3, 3) :: os) y lo (.inl v :: .inr (.inr 5) :: st) M Q = Rn d os y lo st (me_put M 5 3 v) Q := s_23I (k := 3) rfl rfl
theorem g_5_4 : Rn d ((22, 4, 3) :: os) y lo (.inr (.inr 5) :: st) M Q = Rn d os y lo (.inl (M 5 4) :: st) M Q := s_22I (k := 4) rfl (Or.inl rfl)
theorem p_5_4 {v : Int} : Rn d ((23, 4, 3) :: os) y lo (.inl v :: .inr (.inr 5) :: st) M Q = Rn d os y lo st (me_put M 5 4 v) Q := s_23I (k := 4) rfl rfl
theorem g_5_5 : Rn d ((22, 5, 3) :: os) y lo (.inr (.inr 5) :: st) M Q = Rn d os y lo (.inl (M 5 5) :: st) M Q := s_22I (k := 5) rfl (Or.inl rfl)
theorem p_5_5 {v : Int} : Rn d ((23, 5, 3) :: os) y lo (.inl v :: .inr (.inr 5) :: st) M Q = Rn d os y lo st (me_put M 5 5 v) Q := s_23I (k := 5) rfl rfl
theorem g_6_0 : Rn d ((22, 0, 4) :: os) y lo (.inr (.inr 6) :: st) M Q = Rn d os y lo (.inr (.inr 8) :: st) M Q := s_22R (k := 0) (r := 8) rfl rfl
theorem g_6_1 : Rn d ((22, 1, 4) :: os) y lo (.inr (.inr 6) :: st) M Q = Rn d os y lo (.inr (.inr 38) :: st) M Q := s_22R (k := 1) (r := 38) rfl rfl
theorem g_6_2 : Rn d ((22, 2, 4) :: os) y lo (.inr (.inr 6) :: st) M Q = Rn d os y lo (.inl (M 6 2) :: st) M Q := s_22I (k := 2) rfl (Or.inr rfl)
theorem p_6_2 {v : Int} : Rn d ((23, 2, 4) :: os) y lo (.inl v :: .inr (.inr 6) :: st) M Q = ((v = 0 ∨ v = 1) ∧ Rn d os y lo st (me_put M 6 2 v) Q) := s_23Z (k := 2) rfl rfl
theorem g_7_0 : Rn d ((22, 0, 2) :: os) y lo (.inr (.inr 7) :: st) M Q = Rn d os y lo (.inr (.inr 39) :: st) M Q := s_22R (k := 0) (r := 39) rfl rfl
theorem g_7_1 : Rn d ((22, 1, 2) :: os) y lo (.inr (.inr 7) :: st) M Q = Rn d os y lo (.inr (.inr 40) :: st) M Q := s_22R (k := 1) (r := 40) rfl rfl
theorem g_7_2 : Rn d ((22, 2, 2) :: os) y lo (.inr (.inr 7) :: st) M Q = Rn d os y lo (.inr (.inr 41) :: st) M Q := s_22R (k := 2) (r := 41) rfl rfl
theorem g_7_3 : Rn d ((22, 3, 2) :: os) y lo (.inr (.inr 7) :: st) M Q = Rn d os y lo (.inr (.inr 42) :: st) M Q := s_22R (k := 3) (r := 42) rfl rfl
theorem g_7_4 : Rn d ((22, 4, 2) :: os) y lo (.inr (.inr 7) :: st) M Q = Rn d os y lo (.inr (.inr 43) :: st) M Q := s_22R (k := 4) (r := 43) rfl rfl
theorem g_7_5 : Rn d ((22, 5, 2) :: os) y lo (.inr (.inr 7) :: st) M Q = Rn d os y lo (.inr (.inr 44) :: st) M Q := s_22R (k := 5) (r := 44) rfl rfl
theorem g_7_6 : Rn d ((22, 6, 2) :: os) y lo (.inr (.inr 7) :: st) M Q = Rn d os y lo (.inr (.inr 45) :: st) M Q := s_22R (k := 6) (r := 45) rfl rfl
theorem g_7_7 : Rn d ((22, 7, 2) :: os) y lo (.inr (.inr 7) :: st) M Q = Rn d os y lo (.inr (.inr 46) :: st) M Q := s_22R (k := 7) (r := 46) rfl rfl
theorem g_7_8 : Rn d ((22, 8, 2) :: os) y lo (.inr (.inr 7) :: st) M Q = Rn d os y lo (.inr (.inr 47) :: st) M Q := s_22R (k := 8) (r := 47) rfl rfl
theorem g_7_9 : Rn d ((22, 9, 2) :: os) y lo (.inr (.inr 7) :: st) M Q = Rn d os y lo (.inl (M 7 9) :: st) M Q := s_22I (k := 9) rfl (Or.inl rfl)
theorem p_7_9 {v : Int} : Rn d ((23, 9, 2) :: os) y lo (.inl v :: .inr (.inr 7) :: st) M Q = Rn d os y lo st (me_put M 7 9 v) Q := s_23I (k := 9) rfl rfl
theorem g_7_10 : Rn d ((22, 10, 2) :: os) y lo (.inr (.inr 7) :: st) M Q = Rn d os y lo (.inl (M 7 10) :: st) M Q := s_22I (k := 10) rfl (Or.inl rfl)
theorem p_7_10 {v : Int} : Rn d ((23, 10, 2) :: os) y lo (.inl v :: .inr (.inr 7) :: st) M Q = Rn d os y lo st (me_put M 7 10 v) Q := s_23I (k := 10) rfl rfl
theorem g_7_11 : Rn d ((22, 11, 2) :: os) y lo (.inr (.inr 7) :: st) M Q = Rn d os y lo (.inl (M 7 11) :: st) M Q := s_22I (k := 11) rfl (Or.inl rfl)
theorem p_7_11 {v : Int} : Rn d ((23, 11, 2) :: os) y lo (.inl v :: .inr (.inr 7) :: st) M Q = Rn d os y lo st (me_put M 7 11 v) Q := s_23I (k := 11) rfl rfl
theorem g_7_12 : Rn d ((22, 12, 2) :: os) y lo (.inr (.inr 7) :: st) M Q = Rn d os y lo (.inl (M 7 12) :: st) M Q := s_22I (k := 12) rfl (Or.inl rfl)
theorem p_7_12 {v : Int} : Rn d ((23, 12, 2) :: os) y lo (.inl v :: .inr (.inr 7) :: st) M Q = Rn d os y lo st (me_put M 7 12 v) Q := s_23I (k := 12) rfl rfl
theorem g_7_13 : Rn d ((22, 13, 2) :: os) y lo (.inr (.inr 7) :: st) M Q = Rn d os y lo (.inl (M 7 13) :: st) M Q := s_22I (k := 13) rfl (Or.inl rfl)
theorem p_7_13 {v : Int} : Rn d ((23, 13, 2) :: os) y lo (.inl v :: .inr (.inr 7) :: st) M Q = Rn d os y lo st (me_put M 7 13 v) Q := s_23I (k := 13) rfl rfl
theorem g_7_14 : Rn d ((22, 14, 2) :: os) y lo (.inr (.inr 7) :: st) M Q = Rn d os y lo (.inl (M 7 14) :: st) M Q := s_22I (k := 14) rfl (Or.inl rfl)
theorem p_7_14 {v : Int} : Rn d ((23, 14, 2) :: os) y lo (.inl v :: .inr (.inr 7) :: st) M Q = Rn d os y lo st (me_put M 7 14 v) Q := s_23I (k := 14) rfl rfl
theorem g_7_15 : Rn d ((22, 15, 2) :: os) y lo (.inr (.inr 7) :: st) M Q = Rn d os y lo (.inl (M 7 15) :: st) M Q := s_22I (k := 15) rfl (Or.inl rfl)
theorem p_7_15 {v : Int} : Rn d ((23, 15, 2) :: os) y lo (.inl v :: .inr (.inr 7) :: st) M Q = Rn d os y lo st (me_put M 7 15 v) Q := s_23I (k := 15) rfl rfl
theorem g_7_16 : Rn d ((22, 16, 2) :: os) y lo (.inr (.inr 7) :: st) M Q = Rn d os y lo (.inl (M 7 16) :: st) M Q := s_22I (k := 16) rfl (Or.inl rfl)
theorem p_7_16 {v : Int} : Rn d ((23, 16, 2) :: os) y lo (.inl v :: .inr (.inr 7) :: st) M Q = Rn d os y lo st (me_put M 7 16 v) Q := s_23I (k := 16) rfl rfl
theorem g_7_17 : Rn d ((22, 17, 2) :: os) y lo (.inr (.inr 7) :: st) M Q = Rn d os y lo (.inl (M 7 17) :: st) M Q := s_22I (k := 17) rfl (Or.inr rfl)
theorem p_7_17 {v : Int} : Rn d ((23, 17, 2) :: os) y lo (.inl v :: .inr (.inr 7) :: st) M Q = ((v = 0 ∨ v = 1) ∧ Rn d os y lo st (me_put M 7 17 v) Q) := s_23Z (k := 17) rfl rfl
theorem g_8_0 : Rn d ((22, 0, 3) :: os) y lo (.inr (.inr 8) :: st) M Q = Rn d os y lo (.inr (.inr 48) :: st) M Q := s_22R (k := 0) (r := 48) rfl rfl
theorem g_8_1 : Rn d ((22, 1, 3) :: os) y lo (.inr (.inr 8) :: st) M Q = Rn d os y lo (.inr (.inr 49) :: st) M Q := s_22R (k := 1) (r := 49) rfl rfl
theorem g_8_2 : Rn d ((22, 2, 3) :: os) y lo (.inr (.inr 8) :: st) M Q = Rn d os y lo (.inl (M 8 2) :: st) M Q := s_22I (k := 2) rfl (Or.inl rfl)
theorem p_8_2 {v : Int} : Rn d ((23, 2, 3) :: os) y lo (.inl v :: .inr (.inr 8) :: st) M Q = Rn d os y lo st (me_put M 8 2 v) Q := s_23I (k := 2) rfl rfl
theorem g_8_3 : Rn d ((22, 3, 3) :: os) y lo (.inr (.inr 8) :: st) M Q = Rn d os y lo (.inl (M 8 3) :: st) M Q := s_22I (k := 3) rfl (Or.inl rfl)
theorem p_8_3 {v : Int} : Rn d ((23, 3, 3) :: os) y lo (.inl v :: .inr (.inr 8) :: st) M Q = Rn d os y lo st (me_put M 8 3 v) Q := s_23I (k := 3) rfl rfl
theorem g_8_4 : Rn d ((22, 4, 3) :: os) y lo (.inr (.inr 8) :: st) M Q = Rn d os y lo (.inl (M 8 4) :: st) M Q := s_22I (k := 4) rfl (Or.inl rfl)
theorem p_8_4 {v : Int} : Rn d ((23, 4, 3) :: os) y lo (.inl v :: .inr (.inr 8) :: st) M Q = Rn d os y lo st (me_put M 8 4 v) Q := s_23I (k := 4) rfl rfl
theorem g_8_5 : Rn d ((22, 5, 3) :: os) y lo (.inr (.inr 8) :: st) M Q = Rn d os y lo (.inl (M 8 5) :: st) M Q := s_22I (k := 5) rfl (Or.inl rfl)
theorem p_8_5 {v : Int} : Rn d ((23, 5, 3) :: os) y lo (.inl v :: .inr (.inr 8) :: st) M Q = Rn d os y lo st (me_put M 8 5 v) Q := s_23I (k := 5) rfl rfl
theorem g_50_0 : Rn d ((22, 0, 8) :: os) y lo (.inr (.inr 50) :: st) M Q = Rn d os y lo (.inl (M 50 0) :: st) M Q := s_22I (k := 0) rfl (Or.inl rfl)
theorem p_50_0 {v : Int} : Rn d ((23, 0, 8) :: os) y lo (.inl v :: .inr (.inr 50) :: st) M Q = Rn d os y lo st (me_put M 50 0 v) Q := s_23I (k := 0) rfl rfl
theorem g_50_1 : Rn d ((22, 1, 8) :: os) y lo (.inr (.inr 50) :: st) M Q = Rn d os y lo (.inl (M 50 1) :: st) M Q := s_22I (k := 1) rfl (Or.inl rfl)
theorem p_50_1 {v : Int} : Rn d ((23, 1, 8) :: os) y lo (.inl v :: .inr (.inr 50) :: st) M Q = Rn d os y lo st (me_put M 50 1 v) Q := s_23I (k := 1) rfl rfl
theorem g_50_2 : Rn d ((22, 2, 8) :: os) y lo (.inr (.inr 50) :: st) M Q = Rn d os y lo (.inr (.inr 51) :: st) M Q := s_22R (k := 2) (r := 51) rfl rfl
theorem g_50_3 : Rn d ((22, 3, 8) :: os) y lo (.inr (.inr 50) :: st) M Q = Rn d os y lo (.inr (.inr 52) :: st) M Q := s_22R (k := 3) (r := 52) rfl rfl
theorem g_50_4 : Rn d ((22, 4, 8) :: os) y lo (.inr (.inr 50) :: st) M Q = Rn d os y lo (.inr (.inr 53) :: st) M Q := s_22R (k := 4) (r := 53) rfl rfl
theorem g_50_5 : Rn d ((22, 5, 8) :: os) y lo (.inr (.inr 50) :: st) M Q = Rn d os y lo (.inr (.inr 54) :: st) M Q := s_22R (k := 5) (r := 54) rfl rfl
theorem g_50_6 : Rn d ((22, 6, 8) :: os) y lo (.inr (.inr 50) :: st) M Q = Rn d os y lo (.inr (.inr 55) :: st) M Q := s_22R (k := 6) (r := 55) rfl rfl
theorem g_50_7 : Rn d ((22, 7, 8) :: os) y lo (.inr (.inr 50) :: st) M Q = Rn d os y lo (.inr (.inr 56) :: st) M Q := s_22R (k := 7) (r := 56) rfl rfl
theorem g_50_8 : Rn d ((22, 8, 8) :: os) y lo (.inr (.inr 50) :: st) M Q = Rn d os y lo (.inr (.inr 57) :: st) M Q := s_22R (k := 8) (r := 57) rfl rfl
theorem g_50_9 : Rn d ((22, 9, 8) :: os) y lo (.inr (.inr 50) :: st) M Q = Rn d os y lo (.inl (M 50 9) :: st) M Q := s_22I (k := 9) rfl (Or.inl rfl)
theorem p_50_9 {v : Int} : Rn d ((23, 9, 8) :: os) y lo (.inl v :: .inr (.inr 50) :: st) M Q = Rn d os y lo st (me_put M 50 9 v) Q := s_23I (k := 9) rfl rfl
theorem g_50_10 : Rn d ((22, 10, 8) :: os) y lo (.inr (.inr 50) :: st) M Q = Rn d os y lo (.inr (.inr 58) :: st) M Q := s_22R (k := 10) (r := 58) rfl rfl
theorem g_50_11 : Rn d ((22, 11, 8) :: os) y lo (.inr (.inr 50) :: st) M Q = Rn d os y lo (.inr (.inr 59) :: st) M Q := s_22R (k := 11) (r := 59) rfl rfl
theorem g_50_12 : Rn d ((22, 12, 8) :: os) y lo (.inr (.inr 50) :: st) M Q = Rn d os y lo (.inr (.inr 60) :: st) M Q := s_22R (k := 12) (r := 60) rfl rfl
theorem g_50_13 : Rn d ((22, 13, 8) :: os) y lo (.inr (.inr 50) :: st) M Q = Rn d os y lo (.inr (.inr 61) :: st) M Q := s_22R (k := 13) (r := 61) rfl rfl
theorem g_50_14 : Rn d ((22, 14, 8) :: os) y lo (.inr (.inr 50) :: st) M Q = Rn d os y lo (.inr (.inr 62) :: st) M Q := s_22R (k := 14) (r := 62) rfl rfl
theorem g_50_15 : Rn d ((22, 15, 8) :: os) y lo (.inr (.inr 50) :: st) M Q = Rn d os y lo (.inr (.inr 63) :: st) M Q := s_22R (k := 15) (r := 63) rfl rfl
theorem g_50_16 : Rn d ((22, 16, 8) :: os) y lo (.inr (.inr 50) :: st) M Q = Rn d os y lo (.inr (.inr 64) :: st) M Q := s_22R (k := 16) (r := 64) rfl rfl
theorem g_50_17 : Rn d ((22, 17, 8) :: os) y lo (.inr (.inr 50) :: st) M Q = Rn d os y lo (.inr (.inr 65) :: st) M Q := s_22R (k := 17) (r := 65) rfl rfl
theorem g_50_18 : Rn d ((22, 18, 8) :: os) y lo (.inr (.inr 50) :: st) M Q = Rn d os y lo (.inl (M 50 18) :: st) M Q := s_22I (k := 18) rfl (Or.inl rfl)
theorem p_50_18 {v : Int} : Rn d ((23, 18, 8) :: os) y lo (.inl v :: .inr (.inr 50) :: st) M Q = Rn d os y lo st (me_put M 50 18 v) Q := s_23I (k := 18) rfl rfl
theorem g_50_19 : Rn d ((22, 19, 8) :: os) y lo (.inr (.inr 50) :: st) M Q = Rn d os y lo (.inl (M 50 19) :: st) M Q := s_22I (k := 19) rfl (Or.inl rfl)
theorem p_50_19 {v : Int} : Rn d ((23, 19, 8) :: os) y lo (.inl v :: .inr (.inr 50) :: st) M Q = Rn d os y lo st (me_put M 50 19 v) Q := s_23I (k := 19) rfl rfl
theorem g_50_20 : Rn d ((22, 20, 8) :: os) y lo (.inr (.inr 50) :: st) M Q = Rn d os y lo (.inr (.inr 66) :: st) M Q := s_22R (k := 20) (r := 66) rfl rfl
theorem g_50_21 : Rn d ((22, 21, 8) :: os) y lo (.inr (.inr 50) :: st) M Q = Rn d os y lo (.inr (.inr 67) :: st) M Q := s_22R (k := 21) (r := 67) rfl rfl
theorem g_50_22 : Rn d ((22, 22, 8) :: os) y lo (.inr (.inr 50) :: st) M Q = Rn d os y lo (.inr (.inr 68) :: st) M Q := s_22R (k := 22) (r := 68) rfl rfl
theorem g_50_23 : Rn d ((22, 23, 8) :: os) y lo (.inr (.inr 50) :: st) M Q = Rn d os y lo (.inl (M 50 23) :: st) M Q := s_22I (k := 23) rfl (Or.inl rfl)
theorem p_50_23 {v : Int} : Rn d ((23, 23, 8) :: os) y lo (.inl v :: .inr (.inr 50) :: st) M Q = Rn d os y lo st (me_put M 50 23 v) Q := s_23I (k := 23) rfl rfl
theorem g_50_24 : Rn d ((22, 24, 8) :: os) y lo (.inr (.inr 50) :: st) M Q = Rn d os y lo (.inr (.inr 69) :: st) M Q := s_22R (k := 24) (r := 69) rfl rfl
theorem g_50_25 : Rn d ((22, 25, 8) :: os) y lo (.inr (.inr 50) :: st) M Q = Rn d os y lo (.inr (.inr 70) :: st) M Q := s_22R (k := 25) (r := 70) rfl rfl
theorem g_50_26 : Rn d ((22, 26, 8) :: os) y lo (.inr (.inr 50) :: st) M Q = Rn d os y lo (.inr (.inr 71) :: st) M Q := s_22R (k := 26) (r := 71) rfl rfl
theorem g_50_27 : Rn d ((22, 27, 8) :: os) y lo (.inr (.inr 50) :: st) M Q = Rn d os y lo (.inr (.inr 72) :: st) M Q := s_22R (k := 27) (r := 72) rfl rfl
theorem g_50_28 : Rn d ((22, 28, 8) :: os) y lo (.inr (.inr 50) :: st) M Q = Rn d os y lo (.inr (.inr 73) :: st) M Q := s_22R (k := 28) (r := 73) rfl rfl
theorem g_50_29 : Rn d ((22, 29, 8) :: os) y lo (.inr (.inr 50) :: st) M Q = Rn d os y lo (.inr (.inr 74) :: st) M Q := s_22R (k := 29) (r := 74) rfl rfl
theorem g_50_30 : Rn d ((22, 30, 8) :: os) y lo (.inr (.inr 50) :: st) M Q = Rn d os y lo (.inr (.inr 75) :: st) M Q := s_22R (k := 30) (r := 75) rfl rfl
theorem g_50_31 : Rn d ((22, 31, 8) :: os) y lo (.inr (.inr 50) :: st) M Q = Rn d os y lo (.inr (.inr 76) :: st) M Q := s_22R (k := 31) (r := 76) rfl rfl
theorem g_50_32 : Rn d ((22, 32, 8) :: os) y lo (.inr (.inr 50) :: st) M Q = Rn d os y lo (.inr (.inr 77) :: st) M Q := s_22R (k := 32) (r := 77) rfl rfl
theorem g_50_33 : Rn d ((22, 33, 8) :: os) y lo (.inr (.inr 50) :: st) M Q = Rn d os y lo (.inr (.inr 78) :: st) M Q := s_22R (k := 33) (r := 78) rfl rfl
theorem g_50_34 : Rn d ((22, 34, 8) :: os) y lo (.inr (.inr 50) :: st) M Q = Rn d os y lo (.inr (.inr 79) :: st) M Q := s_22R (k := 34) (r := 79) rfl rfl
theorem g_50_35 : Rn d ((22, 35, 8) :: os) y lo (.inr (.inr 50) :: st) M Q = Rn d os y lo (.inr (.inr 80) :: st) M Q := s_22R (k := 35) (r := 80) rfl rfl
theorem g_50_36 : Rn d ((22, 36, 8) :: os) y lo (.inr (.inr 50) :: st) M Q = Rn d os y lo (.inr (.inr 81) :: st) M Q := s_22R (k := 36) (r := 81) rfl rfl
theorem g_50_37 : Rn d ((22, 37, 8) :: os) y lo (.inr (.inr 50) :: st) M Q = Rn d os y lo (.inr (.inr 82) :: st) M Q := s_22R (k := 37) (r := 82) rfl rfl
theorem g_50_38 : Rn d ((22, 38, 8) :: os) y lo (.inr (.inr 50) :: st) M Q = Rn d os y lo (.inr (.inr 83) :: st) M Q := s_22R (k := 38) (r := 83) rfl rfl
theorem g_50_39 : Rn d ((22, 39, 8) :: os) y lo (.inr (.inr 50) :: st) M Q = Rn d os y lo (.inr (.inr 84) :: st) M Q := s_22R (k := 39) (r := 84) rfl rfl
theorem g_50_40 : Rn d ((22, 40, 8) :: os) y lo (.inr (.inr 50) :: st) M Q = Rn d os y lo (.inr (.inr 85) :: st) M Q := s_22R (k := 40) (r := 85) rfl rfl
theorem g_50_41 : Rn d ((22, 41, 8) :: os) y lo (.inr (.inr 50) :: st) M Q = Rn d os y lo (.inl (M 50 41) :: st) M Q := s_22I (k := 41) rfl (Or.inl rfl)
theorem p_50_41 {v : Int} : Rn d ((23, 41, 8) :: os) y lo (.inl v :: .inr (.inr 50) :: st) M Q = Rn d os y lo st (me_put M 50 41 v) Q := s_23I (k := 41) rfl rfl
theorem g_50_42 : Rn d ((22, 42, 8) :: os) y lo (.inr (.inr 50) :: st) M Q = Rn d os y lo (.inl (M 50 42) :: st) M Q := s_22I (k := 42) rfl (Or.inl rfl)
theorem p_50_42 {v : Int} : Rn d ((23, 42, 8) :: os) y lo (.inl v :: .inr (.inr 50) :: st) M Q = Rn d os y lo st (me_put M 50 42 v) Q := s_23I (k := 42) rfl rfl
theorem g_50_43 : Rn d ((22, 43, 8) :: os) y lo (.inr (.inr 50) :: st) M Q = Rn d os y lo (.inl (M 50 43) :: st) M Q := s_22I (k := 43) rfl (Or.inl rfl)
theorem p_50_43 {v : Int} : Rn d ((23, 43, 8) :: os) y lo (.inl v :: .inr (.inr 50) :: st) M Q = Rn d os y lo st (me_put M 50 43 v) Q := s_23I (k := 43) rfl rfl
end RW
theorem kd_0 : kd 0 = 0 := rfl
theorem kd_1 : kd 1 = 0 := rfl
theorem kd_2 : kd 2 = 0 := rfl
theorem kd_3 : kd 3 = 0 := rfl
theorem kd_4 : kd 4 = 0 := rfl
theorem kd_5 : kd 5 = 0 := rfl
theorem kd_6 : kd 6 = 0 := rfl
theorem kd_7 : kd 7 = 0 := rfl
theorem kd_8 : kd 8 = 0 := rfl
theorem kd_9 : kd 9 = 2 := rfl
theorem ln_9 : ln 9 = 10 := rfl
theorem kd_10 : kd 10 = 1 := rfl
theorem ln_10 : ln 10 = 10 := rfl
theorem kd_11 : kd 11 = 1 := rfl
theorem ln_11 : ln 11 = 10 := rfl
theorem kd_12 : kd 12 = 1 := rfl
theorem ln_12 : ln 12 = 10 := rfl
theorem kd_13 : kd 13 = 1 := rfl
theorem ln_13 : ln 13 = 10 := rfl
theorem kd_14 : kd 14 = 1 := rfl
theorem ln_14 : ln 14 = 10 := rfl
theorem kd_15 : kd 15 = 1 := rfl
theorem ln_15 : ln 15 = 10 := rfl
theorem kd_16 : kd 16 = 1 := rfl
theorem ln_16 : ln 16 = 100 := rfl
theorem kd_17 : kd 17 = 1 := rfl
theorem ln_17 : ln 17 = 12 := rfl
theorem kd_18 : kd 18 = 1 := rfl
theorem ln_18 : ln 18 = 12 := rfl
theorem kd_19 : kd 19 = 1 := rfl
theorem ln_19 : ln 19 = 12 := rfl
theorem kd_20 : kd 20 = 1 := rfl
theorem ln_20 : ln 20 = 12 := rfl
theorem kd_21 : kd 21 = 1 := rfl
theorem ln_21 : ln 21 = 12 := rfl
theorem kd_22 : kd 22 = 1 := rfl
theorem ln_22 : ln 22 = 12 := rfl
theorem kd_23 : kd 23 = 1 := rfl
theorem ln_23 : ln 23 = 12 := rfl
theorem kd_24 : kd 24 = 1 := rfl
theorem ln_24 : ln 24 = 1200 := rfl
theorem kd_25 : kd 25 = 1 := rfl
theorem ln_25 : ln 25 = 12 := rfl
theorem kd_26 : kd 26 = 1 := rfl
theorem ln_26 : ln 26 = 12 := rfl
theorem kd_27 : kd 27 = 1 := rfl
theorem ln_27 : ln 27 = 12 := rfl
theorem kd_28 : kd 28 = 1 := rfl
theorem ln_28 : ln 28 = 12 := rfl
theorem kd_29 : kd 29 = 1 := rfl
theorem ln_29 : ln 29 = 120 := rfl
theorem kd_30 : kd 30 = 1 := rfl
theorem ln_30 : ln 30 = 10 := rfl
theorem kd_31 : kd 31 = 1 := rfl
theorem ln_31 : ln 31 = 120 := rfl
theorem kd_32 : kd 32 = 1 := rfl
theorem ln_32 : ln 32 = 10 := rfl
theorem kd_33 : kd 33 = 1 := rfl
theorem ln_33 : ln 33 = 100 := rfl
theorem kd_34 : kd 34 = 1 := rfl
theorem ln_34 : ln 34 = 100 := rfl
theorem kd_35 : kd 35 = 1 := rfl
theorem ln_35 : ln 35 = 100 := rfl
theorem kd_36 : kd 36 = 1 := rfl
theorem ln_36 : ln 36 = 10 := rfl
theorem kd_37 : kd 37 = 1 := rfl
theorem ln_37 : ln 37 = 12 := rfl
theorem kd_38 : kd 38 = 1 := rfl
theorem ln_38 : ln 38 = 1010 := rfl
theorem kd_39 : kd 39 = 1 := rfl
theorem ln_39 : ln 39 = 101 := rfl
theorem kd_40 : kd 40 = 1 := rfl
theorem ln_40 : ln 40 = 10 := rfl
theorem kd_41 : kd 41 = 1 := rfl
theorem ln_41 : ln 41 = 1010 := rfl
theorem kd_42 : kd 42 = 1 := rfl
theorem ln_42 : ln 42 = 1200 := rfl
theorem kd_43 : kd 43 = 1 := rfl
theorem ln_43 : ln 43 = 1010 := rfl
theorem kd_44 : kd 44 = 1 := rfl
theorem ln_44 : ln 44 = 1010 := rfl
theorem kd_45 : kd 45 = 1 := rfl
theorem ln_45 : ln 45 = 1010 := rfl
theorem kd_46 : kd 46 = 1 := rfl
theorem ln_46 : ln 46 = 1010 := rfl
theorem kd_47 : kd 47 = 1 := rfl
theorem ln_47 : ln 47 = 1200 := rfl
theorem kd_48 : kd 48 = 1 := rfl
theorem ln_48 : ln 48 = 10 := rfl
theorem kd_49 : kd 49 = 1 := rfl
theorem ln_49 : ln 49 = 12 := rfl
theorem kd_50 : kd 50 = 0 := rfl
theorem kd_51 : kd 51 = 2 := rfl
theorem ln_51 : ln 51 = 10 := rfl
theorem kd_52 : kd 52 = 1 := rfl
theorem ln_52 : ln 52 = 10 := rfl
theorem kd_53 : kd 53 = 1 := rfl
theorem ln_53 : ln 53 = 10 := rfl
theorem kd_54 : kd 54 = 1 := rfl
theorem ln_54 : ln 54 = 10 := rfl
theorem kd_55 : kd 55 = 1 := rfl
theorem ln_55 : ln 55 = 10 := rfl
theorem kd_56 : kd 56 = 1 := rfl
theorem ln_56 : ln 56 = 10 := rfl
theorem kd_57 : kd 57 = 1 := rfl
theorem ln_57 : ln 57 = 100 := rfl
theorem kd_58 : kd 58 = 1 := rfl
theorem ln_58 : ln 58 = 12 := rfl
theorem kd_59 : kd 59 = 1 := rfl
theorem ln_59 : ln 59 = 12 := rfl
theorem kd_60 : kd 60 = 1 := rfl
theorem ln_60 : ln 60 = 12 := rfl
theorem kd_61 : kd 61 = 1 := rfl
theorem ln_61 : ln 61 = 12 := rfl
theorem kd_62 : kd 62 = 1 := rfl
theorem ln_62 : ln 62 = 12 := rfl
theorem kd_63 : kd 63 = 1 := rfl
theorem ln_63 : ln 63 = 12 := rfl
theorem kd_64 : kd 64 = 1 := rfl
theorem ln_64 : ln 64 = 12 := rfl
theorem kd_65 : kd 65 = 1 := rfl
theorem ln_65 : ln 65 = 1212 := rfl
theorem kd_66 : kd 66 = 1 := rfl
theorem ln_66 : ln 66 = 100 := rfl
theorem kd_67 : kd 67 = 1 := rfl
theorem ln_67 : ln 67 = 100 := rfl
theorem kd_68 : kd 68 = 1 := rfl
theorem ln_68 : ln 68 = 100 := rfl
theorem kd_69 : kd 69 = 1 := rfl
theorem ln_69 : ln 69 = 12 := rfl
theorem kd_70 : kd 70 = 1 := rfl
theorem ln_70 : ln 70 = 12 := rfl
theorem kd_71 : kd 71 = 1 := rfl
theorem ln_71 : ln 71 = 12 := rfl
theorem kd_72 : kd 72 = 1 := rfl
theorem ln_72 : ln 72 = 12 := rfl
theorem kd_73 : kd 73 = 1 := rfl
theorem ln_73 : ln 73 = 20 := rfl
theorem kd_74 : kd 74 = 1 := rfl
theorem ln_74 : ln 74 = 24 := rfl
theorem kd_75 : kd 75 = 1 := rfl
theorem ln_75 : ln 75 = 2 := rfl
theorem kd_76 : kd 76 = 3 := rfl
theorem ln_76 : ln 76 = 2 := rfl
theorem kd_77 : kd 77 = 3 := rfl
theorem ln_77 : ln 77 = 2 := rfl
theorem kd_78 : kd 78 = 1 := rfl
theorem ln_78 : ln 78 = 1010 := rfl
theorem kd_79 : kd 79 = 1 := rfl
theorem ln_79 : ln 79 = 10 := rfl
theorem kd_80 : kd 80 = 1 := rfl
theorem ln_80 : ln 80 = 1010 := rfl
theorem kd_81 : kd 81 = 1 := rfl
theorem ln_81 : ln 81 = 1212 := rfl
theorem kd_82 : kd 82 = 2 := rfl
theorem ln_82 : ln 82 = 1010 := rfl
theorem kd_83 : kd 83 = 1 := rfl
theorem ln_83 : ln 83 = 1010 := rfl
theorem kd_84 : kd 84 = 1 := rfl
theorem ln_84 : ln 84 = 1010 := rfl
theorem kd_85 : kd 85 = 1 := rfl
theorem ln_85 : ln 85 = 1010 := rfl
theorem bq0_0 : blk 0 0 = [(3, 0, 0), (1, 3, 0), (32, 1, 0)] := rfl
theorem bq0_1 : blk 0 1 = [(0, 3, 0), (47, 0, 0), (45, 0, 0), (3, 0, 6), (7, 0, 0), (30, 27, 4), (47, 0, 0), (0, 3, 0), (44, 0, 0), (3, 0, 31), (9, 0, 0), (36, 0, 0)] := rfl
theorem bq0_2 : blk 0 2 = [(47, 1, 0), (47, 0, 0), (0, 3, 0), (3, 0, 1), (6, 0, 0), (44, 0, 0), (47, 0, 0), (0, 3, 0), (3, 0, 2), (6, 0, 0), (44, 0, 0), (47, 0, 0), (0, 3, 0), (3, 0, 3), (6, 0, 0), (44, 0, 0), (54, 52, 1), (47, 2, 0), (47, 0, 0), (0, 3, 0), (3, 0, 1), (6, 0, 0), (44, 0, 0), (47, 0, 0), (0, 3, 0), (3, 0, 2), (6, 0, 0), (44, 0, 0), (47, 0, 0), (0, 3, 0), (3, 0, 3), (6, 0, 0), (44, 0, 0), (54, 90, 1), (30, 26, 0), (3, 0, 0), (37, 0, 1)] := rfl
theorem bq0_3 : blk 0 3 = [(47, 1, 0), (47, 0, 0), (0, 3, 0), (3, 0, 1), (6, 0, 0), (44, 0, 0), (47, 0, 0), (0, 3, 0), (3, 0, 2), (6, 0, 0), (44, 0, 0), (47, 0, 0), (0, 3, 0), (3, 0, 3), (6, 0, 0), (44, 0, 0), (47, 0, 0), (0, 3, 0), (3, 0, 4), (6, 0, 0), (44, 0, 0), (55, 53, 1), (47, 2, 0), (47, 0, 0), (0, 3, 0), (3, 0, 1), (6, 0, 0), (44, 0, 0), (47, 0, 0), (0, 3, 0), (3, 0, 2), (6, 0, 0), (44, 0, 0), (47, 0, 0), (0, 3, 0), (3, 0, 3), (6, 0, 0), (44, 0, 0), (47, 0, 0), (0, 3, 0), (3, 0, 4), (6, 0, 0), (44, 0, 0), (55, 91, 1), (30, 26, 0), (3, 0, 0), (37, 0, 1)] := rfl
theorem bq0_4 : blk 0 4 = [(47, 1, 0), (47, 0, 0), (0, 3, 0), (3, 0, 1), (6, 0, 0), (44, 0, 0), (47, 0, 0), (0, 3, 0), (3, 0, 2), (6, 0, 0), (44, 0, 0), (47, 0, 0), (0, 3, 0), (3, 0, 3), (6, 0, 0), (44, 0, 0), (47, 0, 0), (0, 3, 0), (3, 0, 4), (6, 0, 0), (44, 0, 0), (47, 0, 0), (0, 3, 0), (3, 0, 5), (6, 0, 0), (44, 0, 0), (56, 54, 1), (47, 2, 0), (47, 0, 0), (0, 3, 0), (3, 0, 1), (6, 0, 0), (44, 0, 0), (47, 0, 0), (0, 3, 0), (3, 0, 2), (6, 0, 0), (44, 0, 0), (47, 0, 0), (0, 3, 0), (3, 0, 3), (6, 0, 0), (44, 0, 0), (47, 0, 0), (0, 3, 0), (3, 0, 4), (6, 0, 0), (44, 0, 0), (47, 0, 0), (0, 3, 0), (3, 0, 5), (6, 0, 0), (44, 0, 0), (56, 92, 1), (30, 26, 0), (3, 0, 0), (37, 0, 1)] := rfl
theorem bq0_5 : blk 0 5 = [(47, 1, 0), (47, 0, 0), (0, 3, 0), (3, 0, 1), (6, 0, 0), (44, 0, 0), (47, 0, 0), (0, 3, 0), (3, 0, 2), (6, 0, 0), (44, 0, 0), (47, 0, 0), (0, 3, 0), (3, 0, 3), (6, 0, 0), (44, 0, 0), (54, 55, 1), (47, 2, 0), (47, 0, 0), (0, 3, 0), (3, 0, 1), (6, 0, 0), (44, 0, 0), (47, 0, 0), (0, 3, 0), (3, 0, 2), (6, 0, 0), (44, 0, 0), (47, 0, 0), (0, 3, 0), (3, 0, 3), (6, 0, 0), (44, 0, 0), (54, 94, 1), (30, 26, 0), (3, 0, 0), (37, 0, 1)] := rfl
theorem bq0_6 : blk 0 6 = [(47, 1, 0), (47, 0, 0), (0, 3, 0), (3, 0, 1), (6, 0, 0), (44, 0, 0), (47, 0, 0), (0, 3, 0), (3, 0, 2), (6, 0, 0), (44, 0, 0), (53, 56, 1), (47, 2, 0), (47, 0, 0), (0, 3, 0), (3, 0, 1), (6, 0, 0), (44, 0, 0), (47, 0, 0), (0, 3, 0), (3, 0, 2), (6, 0, 0), (44, 0, 0), (53, 95, 1), (30, 26, 0), (3, 0, 0), (37, 0, 1)] := rfl
theorem bq0_7 : blk 0 7 = [(47, 1, 0), (47, 0, 0), (0, 3, 0), (3, 0, 1), (6, 0, 0), (44, 0, 0), (52, 57, 1), (47, 2, 0), (47, 0, 0), (0, 3, 0), (3, 0, 1), (6, 0, 0), (44, 0, 0), (52, 96, 1), (30, 26, 0), (3, 0, 0), (37, 0, 1)] := rfl
theorem bq0_8 : blk 0 8 = [(47, 1, 0), (47, 0, 0), (0, 3, 0), (3, 0, 1), (6, 0, 0), (44, 0, 0), (47, 0, 0), (0, 3, 0), (3, 0, 2), (6, 0, 0), (44, 0, 0), (53, 58, 1), (47, 2, 0), (47, 0, 0), (0, 3, 0), (3, 0, 1), (6, 0, 0), (44, 0, 0), (47, 0, 0), (0, 3, 0), (3, 0, 2), (6, 0, 0), (44, 0, 0), (53, 98, 1), (30, 26, 0), (3, 0, 0), (37, 0, 1)] := rfl
theorem bq0_9 : blk 0 9 = [(47, 1, 0), (47, 0, 0), (0, 3, 0), (3, 0, 1), (6, 0, 0), (44, 0, 0), (47, 0, 0), (0, 3, 0), (3, 0, 2), (6, 0, 0), (44, 0, 0), (47, 0, 0), (0, 3, 0), (3, 0, 3), (6, 0, 0), (44, 0, 0), (54, 59, 1), (47, 2, 0), (47, 0, 0), (0, 3, 0), (3, 0, 1), (6, 0, 0), (44, 0, 0), (47, 0, 0), (0, 3, 0), (3, 0, 2), (6, 0, 0), (44, 0, 0), (47, 0, 0), (0, 3, 0), (3, 0, 3), (6, 0, 0), (44, 0, 0), (54, 99, 1), (30, 26, 0), (3, 0, 0), (37, 0, 1)] := rfl
theorem bq0_10 : blk 0 10 = [(47, 1, 0), (47, 0, 0), (0, 3, 0), (3, 0, 1), (6, 0, 0), (44, 0, 0), (52, 60, 1), (47, 2, 0), (47, 0, 0), (0, 3, 0), (3, 0, 1), (6, 0, 0), (44, 0, 0), (52, 100, 1), (30, 26, 0), (3, 0, 0), (37, 0, 1)] := rfl
theorem bq0_11 : blk 0 11 = [(47, 1, 0), (51, 61, 1), (47, 2, 0), (51, 101, 1), (30, 26, 0), (3, 0, 0), (37, 0, 1)] := rfl
theorem bq0_12 : blk 0 12 = [(47, 1, 0), (47, 0, 0), (0, 3, 0), (3, 0, 1), (6, 0, 0), (44, 0, 0), (47, 0, 0), (0, 3, 0), (3, 0, 2), (6, 0, 0), (44, 0, 0), (47, 0, 0), (0, 3, 0), (3, 0, 3), (6, 0, 0), (44, 0, 0), (47, 0, 0), (0, 3, 0), (3, 0, 4), (6, 0, 0), (44, 0, 0), (55, 62, 1), (47, 2, 0), (47, 0, 0), (0, 3, 0), (3, 0, 1), (6, 0, 0), (44, 0, 0), (47, 0, 0), (0, 3, 0), (3, 0, 2), (6, 0, 0), (44, 0, 0), (47, 0, 0), (0, 3, 0), (3, 0, 3), (6, 0, 0), (44, 0, 0), (47, 0, 0), (0, 3, 0), (3, 0, 4), (6, 0, 0), (44, 0, 0), (55, 102, 1), (30, 26, 0), (3, 0, 0), (37, 0, 1)] := rfl
theorem bq0_13 : blk 0 13 = [(47, 1, 0), (47, 0, 0), (0, 3, 0), (3, 0, 1), (6, 0, 0), (44, 0, 0), (52, 63, 1), (47, 2, 0), (47, 0, 0), (0, 3, 0), (3, 0, 1), (6, 0, 0), (44, 0, 0), (52, 107, 1), (30, 26, 0), (3, 0, 0), (37, 0, 1)] := rfl
theorem bq0_14 : blk 0 14 = [(47, 1, 0), (47, 0, 0), (0, 3, 0), (3, 0, 1), (6, 0, 0), (44, 0, 0), (47, 0, 0), (0, 3, 0), (3, 0, 2), (6, 0, 0), (44, 0, 0), (53, 64, 1), (47, 2, 0), (47, 0, 0), (0, 3, 0), (3, 0, 1), (6, 0, 0), (44, 0, 0), (47, 0, 0), (0, 3, 0), (3, 0, 2), (6, 0, 0), (44, 0, 0), (53, 110, 1), (30, 26, 0), (3, 0, 0), (37, 0, 1)] := rfl
theorem bq0_15 : blk 0 15 = [(47, 1, 0), (47, 0, 0), (0, 3, 0), (3, 0, 1), (6, 0, 0), (44, 0, 0), (47, 0, 0), (0, 3, 0), (3, 0, 2), (6, 0, 0), (44, 0, 0), (53, 65, 1), (47, 2, 0), (47, 0, 0), (0, 3, 0), (3, 0, 1), (6, 0, 0), (44, 0, 0), (47, 0, 0), (0, 3, 0), (3, 0, 2), (6, 0, 0), (44, 0, 0), (53, 111, 1), (30, 26, 0), (3, 0, 0), (37, 0, 1)] := rfl
theorem bq0_16 : blk 0 16 = [(47, 1, 0), (47, 0, 0), (0, 3, 0), (3, 0, 1), (6, 0, 0), (44, 0, 0), (47, 0, 0), (0, 3, 0), (3, 0, 2), (6, 0, 0), (44, 0, 0), (53, 66, 1), (47, 2, 0), (47, 0, 0), (0, 3, 0), (3, 0, 1), (6, 0, 0), (44, 0, 0), (47, 0, 0), (0, 3, 0), (3, 0, 2), (6, 0, 0), (44, 0, 0), (53, 113, 1), (30, 26, 0), (3, 0, 0), (37, 0, 1)] := rfl
theorem bq0_17 : blk 0 17 = [(47, 1, 0), (47, 0, 0), (0, 3, 0), (3, 0, 1), (6, 0, 0), (44, 0, 0), (52, 67, 1), (47, 2, 0), (47, 0, 0), (0, 3, 0), (3, 0, 1), (6, 0, 0), (44, 0, 0), (52, 114, 1), (30, 26, 0), (3, 0, 0), (37, 0, 1)] := rfl
theorem bq0_18 : blk 0 18 = [(47, 1, 0), (47, 0, 0), (0, 3, 0), (3, 0, 1), (6, 0, 0), (44, 0, 0), (47, 0, 0), (0, 3, 0), (3, 0, 2), (6, 0, 0), (44, 0, 0), (53, 68, 1), (47, 2, 0), (47, 0, 0), (0, 3, 0), (3, 0, 1), (6, 0, 0), (44, 0, 0), (47, 0, 0), (0, 3, 0), (3, 0, 2), (6, 0, 0), (44, 0, 0), (53, 115, 1), (30, 26, 0), (3, 0, 0), (37, 0, 1)] := rfl
theorem bq0_19 : blk 0 19 = [(47, 1, 0), (51, 69, 1), (47, 2, 0), (51, 116, 1), (30, 26, 0), (3, 0, 0), (37, 0, 1)] := rfl
theorem bq0_20 : blk 0 20 = [(47, 1, 0), (47, 0, 0), (0, 3, 0), (3, 0, 1), (6, 0, 0), (44, 0, 0), (52, 70, 1), (47, 2, 0), (47, 0, 0), (0, 3, 0), (3, 0, 1), (6, 0, 0), (44, 0, 0), (52, 117, 1), (30, 26, 0), (3, 0, 0), (37, 0, 1)] := rfl
theorem bq0_21 : blk 0 21 = [(47, 1, 0), (47, 0, 0), (0, 3, 0), (3, 0, 1), (6, 0, 0), (44, 0, 0), (52, 71, 1), (47, 2, 0), (47, 0, 0), (0, 3, 0), (3, 0, 1), (6, 0, 0), (44, 0, 0), (52, 126, 1), (30, 26, 0), (3, 0, 0), (37, 0, 1)] := rfl
theorem bq0_22 : blk 0 22 = [(47, 1, 0), (51, 72, 1), (47, 2, 0), (51, 127, 1), (30, 26, 0), (3, 0, 0), (37, 0, 1)] := rfl
theorem bq0_23 : blk 0 23 = [(47, 1, 0), (47, 0, 0), (0, 3, 0), (3, 0, 1), (6, 0, 0), (44, 0, 0), (52, 73, 1), (47, 2, 0), (47, 0, 0), (0, 3, 0), (3, 0, 1), (6, 0, 0), (44, 0, 0), (52, 129, 1), (30, 26, 0), (3, 0, 0), (37, 0, 1)] := rfl
theorem bq0_24 : blk 0 24 = [(47, 1, 0), (47, 0, 0), (0, 3, 0), (3, 0, 1), (6, 0, 0), (44, 0, 0), (47, 0, 0), (0, 3, 0), (3, 0, 2), (6, 0, 0), (44, 0, 0), (47, 0, 0), (0, 3, 0), (3, 0, 3), (6, 0, 0), (44, 0, 0), (54, 74, 1), (47, 2, 0), (47, 0, 0), (0, 3, 0), (3, 0, 1), (6, 0, 0), (44, 0, 0), (47, 0, 0), (0, 3, 0), (3, 0, 2), (6, 0, 0), (44, 0, 0), (47, 0, 0), (0, 3, 0), (3, 0, 3), (6, 0, 0), (44, 0, 0), (54, 130, 1), (30, 26, 0), (3, 0, 0), (37, 0, 1)] := rfl
theorem bq0_25 : blk 0 25 = [(47, 1, 0), (47, 0, 0), (0, 3, 0), (3, 0, 1), (6, 0, 0), (44, 0, 0), (52, 75, 1), (47, 2, 0), (47, 0, 0), (0, 3, 0), (3, 0, 1), (6, 0, 0), (44, 0, 0), (52, 131, 1), (30, 26, 0), (3, 0, 0), (37, 0, 1)] := rfl
theorem bq0_26 : blk 0 26 = [(5, 3, 6), (31, 1, 0)] := rfl
theorem bq0_27 : blk 0 27 = [(3, 0, 1), (37, 0, 1)] := rfl
theorem rc_0 (l : List AV) : rcvb 0 l = true := rfl
theorem mx_0 : mxl 0 = 4 := rfl
theorem bq1_0 : blk 1 0 = [(0, 1, 0), (29, 1, 2), (0, 1, 0), (47, 0, 0), (22, 8, 0), (30, 1, 3), (3, 0, 1), (31, 2, 0)] := rfl
theorem bq1_1 : blk 1 1 = [(3, 0, 0), (32, 2, 0)] := rfl
theorem bq1_2 : blk 1 2 = [(37, 0, 1)] := rfl
theorem rc_1_1 (l : List AV) : rcvb 1 (.inr (.inr 1) :: l) = true := rfl
theorem mx_1 : mxl 1 = 2 := rfl
theorem bq2_0 : blk 2 0 = [(47, 0, 0), (0, 1, 0), (52, 1, 1), (29, 1, 0), (47, 0, 0), (22, 0, 0), (0, 1, 0), (46, 0, 0), (29, 1, 0), (3, 0, 1), (31, 2, 0)] := rfl
theorem bq2_1 : blk 2 1 = [(3, 0, 0), (32, 2, 0)] := rfl
theorem bq2_2 : blk 2 2 = [(37, 0, 1)] := rfl
theorem rc_2_1 (l : List AV) : rcvb 2 (.inr (.inr 1) :: l) = true := rfl
theorem mx_2 : mxl 2 = 2 := rfl
theorem bq3_0 : blk 3 0 = [(47, 0, 0), (22, 8, 0), (3, 0, 10), (30, 1, 3), (0, 1, 0), (3, 0, 1), (3, 0, 1000), (53, 76, 1), (29, 1, 0), (0, 2, 0), (3, 0, 0), (3, 0, 1000), (53, 76, 1), (29, 1, 0), (3, 0, 1), (31, 2, 0)] := rfl
theorem bq3_1 : blk 3 1 = [(3, 0, 0), (32, 2, 0)] := rfl
theorem bq3_2 : blk 3 2 = [(37, 0, 1)] := rfl
theorem rc_3_1 (l : List AV) : rcvb 3 (.inr (.inr 1) :: l) = true := rfl
theorem mx_3 : mxl 3 = 3 := rfl
theorem bq4_0 : blk 4 0 = [(47, 0, 0), (0, 1, 0), (0, 2, 0), (53, 6, 1), (1, 4, 0), (47, 0, 0), (22, 3, 0), (0, 4, 0), (0, 3, 0), (25, 0, 0), (47, 0, 0), (22, 6, 0), (47, 0, 0), (22, 9, 0), (0, 4, 0), (25, 0, 0), (47, 0, 0), (33, 0, 0), (22, 9, 0), (3, 0, 1), (6, 0, 0), (23, 9, 0), (0, 4, 0), (37, 0, 0)] := rfl
theorem rc_4_1 (l : List AV) : rcvb 4 (.inr (.inr 1) :: l) = true := rfl
theorem mx_4 : mxl 4 = 5 := rfl
theorem bq5_0 : blk 5 0 = [(47, 0, 0), (0, 1, 0), (0, 2, 0), (53, 6, 1), (1, 5, 0), (47, 0, 0), (22, 0, 0), (0, 5, 0), (3, 0, 1), (26, 0, 0), (47, 0, 0), (22, 4, 0), (0, 5, 0), (0, 3, 0), (25, 0, 0), (47, 0, 0), (22, 5, 0), (0, 5, 0), (0, 4, 0), (25, 0, 0), (0, 5, 0), (37, 0, 0)] := rfl
theorem rc_5_1 (l : List AV) : rcvb 5 (.inr (.inr 1) :: l) = true := rfl
theorem mx_5 : mxl 5 = 6 := rfl
theorem bq6_0 : blk 6 0 = [(47, 0, 0), (22, 8, 0), (1, 3, 0), (47, 0, 0), (22, 1, 0), (0, 3, 0), (0, 1, 0), (25, 0, 0), (47, 0, 0), (22, 2, 0), (0, 3, 0), (0, 2, 0), (25, 0, 0), (47, 0, 0), (33, 0, 0), (22, 8, 0), (3, 0, 1), (6, 0, 0), (23, 8, 0), (0, 3, 0), (37, 0, 0)] := rfl
theorem rc_6_1 (l : List AV) : rcvb 6 (.inr (.inr 1) :: l) = true := rfl
theorem mx_6 : mxl 6 = 4 := rfl
theorem bq7_0 : blk 7 0 = [(0, 1, 0), (29, 1, 2), (0, 1, 0), (47, 0, 0), (22, 8, 1), (30, 1, 3), (3, 0, 1), (31, 2, 0)] := rfl
theorem bq7_1 : blk 7 1 = [(3, 0, 0), (32, 2, 0)] := rfl
theorem bq7_2 : blk 7 2 = [(37, 0, 1)] := rfl
theorem rc_7_2 (l : List AV) : rcvb 7 (.inr (.inr 2) :: l) = true := rfl
theorem mx_7 : mxl 7 = 2 := rfl
theorem bq8_0 : blk 8 0 = [(47, 0, 0), (22, 8, 1), (1, 6, 0), (47, 0, 0), (22, 0, 1), (0, 6, 0), (0, 1, 0), (25, 0, 0), (47, 0, 0), (22, 1, 1), (0, 6, 0), (0, 2, 0), (25, 0, 0), (47, 0, 0), (22, 2, 1), (0, 6, 0), (0, 3, 0), (25, 0, 0), (47, 0, 0), (22, 3, 1), (0, 6, 0), (0, 4, 0), (25, 0, 0), (47, 0, 0), (22, 4, 1), (0, 6, 0), (0, 5, 0), (25, 0, 0), (47, 0, 0), (22, 6, 1), (0, 6, 0), (3, 0, (-1)), (25, 0, 0), (47, 0, 0), (33, 0, 0), (22, 8, 1), (3, 0, 1), (6, 0, 0), (23, 8, 1), (0, 6, 0), (37, 0, 0)] := rfl
theorem rc_8_2 (l : List AV) : rcvb 8 (.inr (.inr 2) :: l) = true := rfl
theorem mx_8 : mxl 8 = 7 := rfl
theorem bq9_0 : blk 9 0 = [(47, 0, 0), (22, 6, 1), (0, 1, 0), (24, 0, 0), (3, 0, (-1)), (30, 1, 0), (47, 0, 0), (22, 6, 1), (0, 1, 0), (24, 0, 0), (0, 2, 0), (30, 1, 4), (3, 0, 1), (31, 2, 0)] := rfl
theorem bq9_1 : blk 9 1 = [(3, 0, 0), (32, 2, 0)] := rfl
theorem bq9_2 : blk 9 2 = [(37, 0, 1)] := rfl
theorem rc_9_2 (l : List AV) : rcvb 9 (.inr (.inr 2) :: l) = true := rfl
theorem mx_9 : mxl 9 = 3 := rfl
theorem bq10_0 : blk 10 0 = [(0, 2, 0), (29, 1, 2), (0, 2, 0), (3, 0, 100), (30, 1, 3), (47, 0, 0), (22, 7, 1), (0, 1, 0), (3, 0, 100), (8, 0, 0), (0, 2, 0), (6, 0, 0), (34, 0, 0), (24, 0, 0), (0, 3, 0), (6, 0, 0), (25, 0, 0), (32, 1, 0)] := rfl
theorem bq10_1 : blk 10 1 = [(38, 0, 0)] := rfl
theorem rc_10_2 (l : List AV) : rcvb 10 (.inr (.inr 2) :: l) = true := rfl
theorem mx_10 : mxl 10 = 4 := rfl
theorem bq11_0 : blk 11 0 = [(3, 0, 0), (1, 3, 0), (0, 2, 0), (1, 4, 0), (32, 1, 0)] := rfl
theorem bq11_1 : blk 11 1 = [(0, 4, 0), (3, 0, 100), (30, 2, 3), (0, 3, 0), (47, 0, 0), (22, 7, 1), (0, 1, 0), (3, 0, 100), (8, 0, 0), (0, 4, 0), (6, 0, 0), (24, 0, 0), (6, 0, 0), (1, 3, 0), (5, 4, 1), (31, 1, 0)] := rfl
theorem bq11_2 : blk 11 2 = [(0, 3, 0), (37, 0, 0)] := rfl
theorem rc_11_2 (l : List AV) : rcvb 11 (.inr (.inr 2) :: l) = true := rfl
theorem mx_11 : mxl 11 = 5 := rfl
theorem bq12_0 : blk 12 0 = [(47, 0, 0), (3, 0, 0), (23, 17, 2), (38, 0, 0)] := rfl
theorem rc_12_7 (l : List AV) : rcvb 12 (.inr (.inr 7) :: l) = true := rfl
theorem mx_12 : mxl 12 = 1 := rfl
theorem bq13_0 : blk 13 0 = [(47, 0, 0), (0, 3, 0), (23, 12, 2), (47, 0, 0), (22, 2, 2), (3, 0, 0), (52, 132, 0), (47, 0, 0), (22, 3, 2), (3, 0, 0), (52, 132, 0), (47, 1, 0), (22, 4, 0), (3, 0, 0), (47, 0, 0), (22, 1, 2), (3, 0, 0), (3, 0, 10), (42, 0, 0), (47, 0, 0), (22, 12, 2), (1, 4, 0), (32, 1, 0)] := rfl
theorem bq13_1 : blk 13 1 = [(0, 4, 0), (3, 0, 100), (30, 6, 4), (3, 0, 0), (1, 5, 0), (32, 2, 0)] := rfl
theorem bq13_2 : blk 13 2 = [(0, 5, 0), (47, 1, 0), (22, 8, 0), (30, 5, 3), (47, 0, 0), (22, 4, 2), (0, 4, 0), (3, 0, 10), (8, 0, 0), (0, 5, 0), (6, 0, 0), (47, 2, 0), (47, 1, 0), (0, 5, 0), (0, 4, 0), (54, 46, 1), (29, 3, 0), (3, 0, (-2)), (31, 4, 0)] := rfl
theorem bq13_3 : blk 13 3 = [(3, 0, 0), (32, 4, 0)] := rfl
theorem bq13_4 : blk 13 4 = [(25, 0, 0), (5, 5, 1), (31, 2, 0)] := rfl
theorem bq13_5 : blk 13 5 = [(5, 4, 1), (31, 1, 0)] := rfl
theorem bq13_6 : blk 13 6 = [(47, 0, 0), (3, 0, 0), (23, 11, 2), (47, 0, 0), (3, 0, 0), (23, 13, 2), (47, 0, 0), (47, 0, 0), (22, 12, 2), (3, 0, 1), (7, 0, 0), (23, 14, 2), (47, 0, 0), (3, 0, (-1)), (23, 15, 2), (47, 0, 0), (3, 0, 0), (23, 16, 2), (47, 0, 0), (3, 0, 1), (23, 17, 2), (38, 0, 0)] := rfl
theorem rc_13_7 (l : List AV) : rcvb 13 (.inr (.inr 7) :: l) = true := rfl
theorem mx_13 : mxl 13 = 6 := rfl
theorem bq14_0 : blk 14 0 = [(47, 0, 0), (22, 14, 2), (3, 0, 1), (6, 0, 0), (1, 3, 0), (32, 1, 0)] := rfl
theorem bq14_1 : blk 14 1 = [(0, 3, 0), (0, 2, 0), (30, 5, 4), (0, 3, 0), (3, 0, 100), (30, 5, 4), (3, 0, 0), (1, 4, 0), (32, 2, 0)] := rfl
theorem bq14_2 : blk 14 2 = [(0, 4, 0), (47, 1, 0), (22, 8, 6), (30, 4, 3), (47, 1, 0), (22, 1, 6), (0, 4, 0), (24, 0, 0), (3, 0, (-1)), (30, 3, 1), (47, 0, 0), (47, 1, 0), (0, 4, 0), (0, 3, 0), (47, 1, 0), (22, 3, 6), (0, 4, 0), (24, 0, 0), (7, 0, 0), (54, 16, 0), (32, 3, 0)] := rfl
theorem bq14_3 : blk 14 3 = [(5, 4, 1), (31, 2, 0)] := rfl
theorem bq14_4 : blk 14 4 = [(47, 0, 0), (22, 0, 2), (0, 3, 0), (47, 0, 0), (22, 13, 2), (25, 0, 0), (47, 0, 0), (0, 3, 0), (23, 14, 2), (5, 3, 1), (31, 1, 0)] := rfl
theorem bq14_5 : blk 14 5 = [(38, 0, 0)] := rfl
theorem rc_14_7 (l : List AV) : rcvb 14 (.inr (.inr 7) :: l) = true := rfl
theorem mx_14 : mxl 14 = 5 := rfl
theorem bq15_0 : blk 15 0 = [(47, 0, 0), (22, 0, 2), (3, 0, 100), (24, 0, 0), (1, 1, 0), (0, 1, 0), (3, 0, 1), (30, 1, 3), (3, 0, (-1)), (37, 0, 0)] := rfl
theorem bq15_1 : blk 15 1 = [(47, 0, 0), (22, 12, 2), (1, 2, 0), (32, 2, 0)] := rfl
theorem bq15_2 : blk 15 2 = [(0, 2, 0), (3, 0, 100), (30, 4, 3), (47, 0, 0), (22, 0, 2), (0, 2, 0), (24, 0, 0), (0, 1, 0), (30, 3, 1), (0, 2, 0), (37, 0, 0)] := rfl
theorem bq15_3 : blk 15 3 = [(5, 2, 1), (31, 2, 0)] := rfl
theorem bq15_4 : blk 15 4 = [(3, 0, 100), (37, 0, 0)] := rfl
theorem rc_15_7 (l : List AV) : rcvb 15 (.inr (.inr 7) :: l) = true := rfl
theorem mx_15 : mxl 15 = 3 := rfl
theorem bq16_0 : blk 16 0 = [(0, 3, 0), (47, 0, 0), (22, 12, 2), (30, 1, 3), (38, 0, 0)] := rfl
theorem bq16_1 : blk 16 1 = [(0, 3, 0), (3, 0, 10), (8, 0, 0), (47, 1, 0), (22, 0, 6), (0, 2, 0), (24, 0, 0), (6, 0, 0), (1, 4, 0), (47, 1, 0), (22, 2, 6), (0, 2, 0), (24, 0, 0), (1, 5, 0), (3, 0, 0), (1, 6, 0), (32, 2, 0)] := rfl
theorem bq16_2 : blk 16 2 = [(0, 6, 0), (0, 5, 0), (30, 4, 3), (47, 0, 0), (22, 3, 2), (0, 2, 0), (3, 0, 100), (8, 0, 0), (0, 3, 0), (6, 0, 0), (24, 0, 0), (0, 5, 0), (30, 4, 3), (47, 0, 0), (47, 1, 0), (0, 4, 0), (3, 0, 2), (0, 2, 0), (6, 0, 0), (54, 17, 1), (1, 7, 0), (0, 7, 0), (3, 0, (-1)), (30, 3, 1), (38, 0, 0)] := rfl
theorem bq16_3 : blk 16 3 = [(47, 0, 0), (47, 1, 0), (0, 7, 0), (53, 22, 1), (1, 8, 0), (47, 0, 0), (22, 1, 2), (0, 7, 0), (3, 0, 10), (14, 0, 0), (34, 0, 0), (24, 0, 0), (0, 8, 0), (7, 0, 0), (25, 0, 0), (47, 0, 0), (47, 1, 0), (0, 7, 0), (0, 8, 0), (54, 23, 0), (47, 0, 0), (33, 0, 0), (22, 13, 2), (0, 8, 0), (6, 0, 0), (23, 13, 2), (5, 6, 1), (31, 2, 0)] := rfl
theorem bq16_4 : blk 16 4 = [(38, 0, 0)] := rfl
theorem rc_16_7 (l : List AV) : rcvb 16 (.inr (.inr 7) :: l) = true := rfl
theorem mx_16 : mxl 16 = 9 := rfl
theorem bq17_0 : blk 17 0 = [(47, 0, 0), (51, 18, 0), (47, 0, 0), (0, 2, 0), (0, 3, 0), (53, 19, 0), (3, 0, 0), (1, 4, 0), (32, 1, 0)] := rfl
theorem bq17_1 : blk 17 1 = [(0, 4, 0), (3, 0, 1010), (30, 3, 3), (47, 0, 0), (22, 9, 2), (29, 3, 5), (47, 0, 0), (33, 0, 0), (22, 9, 2), (3, 0, 1), (7, 0, 0), (23, 9, 2), (47, 0, 0), (22, 6, 2), (47, 0, 0), (22, 9, 2), (24, 0, 0), (1, 5, 0), (0, 5, 0), (3, 0, 10), (13, 0, 0), (47, 0, 0), (22, 12, 2), (30, 2, 1), (47, 0, 0), (22, 1, 2), (0, 5, 0), (3, 0, 10), (14, 0, 0), (24, 0, 0), (29, 2, 5), (0, 5, 0), (37, 0, 0)] := rfl
theorem bq17_2 : blk 17 2 = [(47, 0, 0), (47, 1, 0), (0, 5, 0), (53, 20, 0), (5, 4, 1), (31, 1, 0)] := rfl
theorem bq17_3 : blk 17 3 = [(3, 0, 0), (1, 4, 0), (32, 4, 0)] := rfl
theorem bq17_4 : blk 17 4 = [(0, 4, 0), (47, 0, 0), (22, 10, 2), (30, 5, 3), (47, 0, 0), (22, 4, 2), (47, 0, 0), (22, 7, 2), (0, 4, 0), (24, 0, 0), (3, 0, (-1)), (25, 0, 0), (5, 4, 1), (31, 4, 0)] := rfl
theorem bq17_5 : blk 17 5 = [(3, 0, (-1)), (37, 0, 0)] := rfl
theorem rc_17_7 (l : List AV) : rcvb 17 (.inr (.inr 7) :: l) = true := rfl
theorem mx_17 : mxl 17 = 6 := rfl
theorem bq18_0 : blk 18 0 = [(47, 0, 0), (33, 0, 0), (22, 11, 2), (3, 0, 1), (6, 0, 0), (23, 11, 2), (47, 0, 0), (3, 0, 0), (23, 9, 2), (47, 0, 0), (3, 0, 0), (23, 10, 2), (38, 0, 0)] := rfl
theorem rc_18_7 (l : List AV) : rcvb 18 (.inr (.inr 7) :: l) = true := rfl
theorem mx_18 : mxl 18 = 1 := rfl
theorem bq19_0 : blk 19 0 = [(0, 1, 0), (29, 1, 2), (0, 1, 0), (3, 0, 1010), (30, 1, 3), (47, 0, 0), (22, 10, 2), (3, 0, 1010), (30, 1, 3), (47, 0, 0), (22, 9, 2), (3, 0, 1010), (30, 2, 2), (32, 1, 0)] := rfl
theorem bq19_1 : blk 19 1 = [(38, 0, 0)] := rfl
theorem bq19_2 : blk 19 2 = [(47, 0, 0), (22, 4, 2), (0, 1, 0), (24, 0, 0), (1, 3, 0), (0, 3, 0), (29, 3, 2), (0, 3, 0), (47, 0, 0), (22, 11, 2), (30, 4, 1), (32, 3, 0)] := rfl
theorem bq19_3 : blk 19 3 = [(38, 0, 0)] := rfl
theorem bq19_4 : blk 19 4 = [(47, 0, 0), (22, 4, 2), (0, 1, 0), (47, 0, 0), (22, 11, 2), (25, 0, 0), (47, 0, 0), (22, 5, 2), (0, 1, 0), (0, 2, 0), (25, 0, 0), (47, 0, 0), (22, 6, 2), (47, 0, 0), (22, 9, 2), (0, 1, 0), (25, 0, 0), (47, 0, 0), (33, 0, 0), (22, 9, 2), (3, 0, 1), (6, 0, 0), (23, 9, 2), (47, 0, 0), (22, 7, 2), (47, 0, 0), (22, 10, 2), (0, 1, 0), (25, 0, 0), (47, 0, 0), (33, 0, 0), (22, 10, 2), (3, 0, 1), (6, 0, 0), (23, 10, 2), (38, 0, 0)] := rfl
theorem rc_19_7 (l : List AV) : rcvb 19 (.inr (.inr 7) :: l) = true := rfl
theorem mx_19 : mxl 19 = 4 := rfl
theorem bq20_0 : blk 20 0 = [(0, 2, 0), (3, 0, 10), (14, 0, 0), (1, 3, 0), (0, 2, 0), (3, 0, 10), (13, 0, 0), (1, 4, 0), (0, 4, 0), (3, 0, 100), (30, 4, 3), (47, 0, 0), (22, 2, 2), (0, 2, 0), (24, 0, 0), (29, 1, 5), (47, 0, 0), (0, 2, 0), (3, 0, 10), (6, 0, 0), (3, 0, 1), (53, 19, 0), (32, 1, 0)] := rfl
theorem bq20_1 : blk 20 1 = [(3, 0, 0), (1, 5, 0), (32, 2, 0)] := rfl
theorem bq20_2 : blk 20 2 = [(0, 5, 0), (47, 1, 0), (22, 5, 6), (0, 3, 0), (24, 0, 0), (30, 4, 3), (47, 1, 0), (22, 4, 6), (0, 3, 0), (3, 0, 12), (8, 0, 0), (0, 5, 0), (6, 0, 0), (24, 0, 0), (1, 6, 0), (47, 1, 0), (22, 1, 6), (0, 6, 0), (24, 0, 0), (3, 0, (-1)), (30, 3, 0), (47, 0, 0), (22, 3, 2), (0, 6, 0), (3, 0, 100), (8, 0, 0), (0, 4, 0), (6, 0, 0), (24, 0, 0), (29, 3, 5), (47, 0, 0), (47, 0, 0), (47, 1, 0), (0, 6, 0), (0, 4, 0), (54, 21, 1), (3, 0, 14), (0, 6, 0), (6, 0, 0), (53, 19, 0), (32, 3, 0)] := rfl
theorem bq20_3 : blk 20 3 = [(5, 5, 1), (31, 2, 0)] := rfl
theorem bq20_4 : blk 20 4 = [(3, 0, 0), (1, 5, 0), (32, 5, 0)] := rfl
theorem bq20_5 : blk 20 5 = [(0, 5, 0), (47, 1, 0), (22, 7, 6), (0, 3, 0), (24, 0, 0), (30, 7, 3), (47, 1, 0), (22, 6, 6), (0, 3, 0), (3, 0, 12), (8, 0, 0), (0, 5, 0), (6, 0, 0), (24, 0, 0), (1, 6, 0), (0, 4, 0), (47, 1, 0), (22, 3, 6), (0, 6, 0), (24, 0, 0), (7, 0, 0), (1, 7, 0), (0, 7, 0), (47, 0, 0), (22, 12, 2), (30, 6, 2), (47, 0, 0), (22, 3, 2), (0, 6, 0), (3, 0, 100), (8, 0, 0), (0, 7, 0), (6, 0, 0), (24, 0, 0), (47, 1, 0), (22, 2, 6), (0, 6, 0), (24, 0, 0), (30, 6, 3), (47, 0, 0), (0, 7, 0), (3, 0, 10), (8, 0, 0), (47, 1, 0), (22, 0, 6), (0, 6, 0), (24, 0, 0), (6, 0, 0), (3, 0, 2), (0, 6, 0), (6, 0, 0), (53, 19, 0), (32, 6, 0)] := rfl
theorem bq20_6 : blk 20 6 = [(5, 5, 1), (31, 5, 0)] := rfl
theorem bq20_7 : blk 20 7 = [(0, 4, 0), (47, 0, 0), (22, 12, 2), (30, 8, 5), (47, 0, 0), (0, 2, 0), (3, 0, 10), (7, 0, 0), (3, 0, 0), (53, 19, 0), (32, 8, 0)] := rfl
theorem bq20_8 : blk 20 8 = [(38, 0, 0)] := rfl
theorem rc_20_7 (l : List AV) : rcvb 20 (.inr (.inr 7) :: l) = true := rfl
theorem mx_20 : mxl 20 = 8 := rfl
theorem bq21_0 : blk 21 0 = [(0, 3, 0), (47, 1, 0), (22, 3, 6), (0, 2, 0), (24, 0, 0), (6, 0, 0), (3, 0, 10), (8, 0, 0), (47, 1, 0), (22, 1, 6), (0, 2, 0), (24, 0, 0), (6, 0, 0), (37, 0, 0)] := rfl
theorem rc_21_7 (l : List AV) : rcvb 21 (.inr (.inr 7) :: l) = true := rfl
theorem mx_21 : mxl 21 = 4 := rfl
theorem bq22_0 : blk 22 0 = [(47, 0, 0), (22, 1, 2), (0, 2, 0), (3, 0, 10), (14, 0, 0), (24, 0, 0), (1, 3, 0), (0, 2, 0), (1, 4, 0), (3, 0, 0), (1, 5, 0), (32, 1, 0)] := rfl
theorem bq22_1 : blk 22 1 = [(0, 5, 0), (3, 0, 1010), (30, 2, 3), (0, 4, 0), (3, 0, (-1)), (30, 2, 0), (0, 3, 0), (47, 0, 0), (47, 1, 0), (0, 4, 0), (53, 25, 1), (40, 0, 0), (1, 3, 0), (47, 0, 0), (47, 1, 0), (0, 4, 0), (53, 24, 1), (1, 4, 0), (5, 5, 1), (31, 1, 0)] := rfl
theorem bq22_2 : blk 22 2 = [(0, 3, 0), (37, 0, 0)] := rfl
theorem rc_22_7 (l : List AV) : rcvb 22 (.inr (.inr 7) :: l) = true := rfl
theorem mx_22 : mxl 22 = 6 := rfl
theorem bq23_0 : blk 23 0 = [(0, 2, 0), (1, 4, 0), (3, 0, 0), (1, 5, 0), (32, 1, 0)] := rfl
theorem bq23_1 : blk 23 1 = [(0, 5, 0), (3, 0, 1010), (30, 2, 3), (0, 4, 0), (3, 0, (-1)), (30, 2, 0), (47, 0, 0), (47, 1, 0), (0, 4, 0), (53, 24, 1), (1, 6, 0), (47, 0, 0), (47, 1, 0), (0, 4, 0), (0, 3, 0), (54, 26, 0), (0, 6, 0), (1, 4, 0), (5, 5, 1), (31, 1, 0)] := rfl
theorem bq23_2 : blk 23 2 = [(38, 0, 0)] := rfl
theorem rc_23_7 (l : List AV) : rcvb 23 (.inr (.inr 7) :: l) = true := rfl
theorem mx_23 : mxl 23 = 7 := rfl
theorem bq24_0 : blk 24 0 = [(47, 0, 0), (22, 5, 2), (0, 2, 0), (24, 0, 0), (1, 3, 0), (0, 3, 0), (29, 1, 1), (0, 2, 0), (3, 0, 10), (6, 0, 0), (37, 0, 0)] := rfl
theorem bq24_1 : blk 24 1 = [(0, 3, 0), (3, 0, 1), (30, 2, 1), (0, 2, 0), (3, 0, 10), (7, 0, 0), (37, 0, 0)] := rfl
theorem bq24_2 : blk 24 2 = [(0, 2, 0), (3, 0, 10), (13, 0, 0), (1, 4, 0), (0, 3, 0), (3, 0, 14), (30, 5, 3), (0, 3, 0), (3, 0, 2), (7, 0, 0), (1, 5, 0), (47, 1, 0), (22, 1, 6), (0, 5, 0), (24, 0, 0), (3, 0, (-1)), (30, 3, 1), (3, 0, (-1)), (31, 4, 0)] := rfl
theorem bq24_3 : blk 24 3 = [(47, 0, 0), (47, 1, 0), (0, 5, 0), (0, 4, 0), (54, 21, 1), (32, 4, 0)] := rfl
theorem bq24_4 : blk 24 4 = [(37, 0, 0)] := rfl
theorem bq24_5 : blk 24 5 = [(0, 3, 0), (3, 0, 14), (7, 0, 0), (1, 5, 0), (0, 4, 0), (47, 1, 0), (22, 3, 6), (0, 5, 0), (24, 0, 0), (7, 0, 0), (3, 0, 10), (8, 0, 0), (47, 1, 0), (22, 0, 6), (0, 5, 0), (24, 0, 0), (6, 0, 0), (37, 0, 0)] := rfl
theorem rc_24_7 (l : List AV) : rcvb 24 (.inr (.inr 7) :: l) = true := rfl
theorem mx_24 : mxl 24 = 6 := rfl
theorem bq25_0 : blk 25 0 = [(47, 0, 0), (22, 5, 2), (0, 2, 0), (24, 0, 0), (1, 3, 0), (0, 3, 0), (29, 1, 1), (3, 0, 500), (37, 0, 0)] := rfl
theorem bq25_1 : blk 25 1 = [(0, 3, 0), (3, 0, 1), (30, 2, 1), (47, 0, 0), (22, 2, 2), (0, 2, 0), (3, 0, 10), (7, 0, 0), (24, 0, 0), (37, 0, 0)] := rfl
theorem bq25_2 : blk 25 2 = [(0, 2, 0), (3, 0, 10), (13, 0, 0), (1, 4, 0), (0, 3, 0), (3, 0, 14), (30, 3, 3), (0, 3, 0), (3, 0, 2), (7, 0, 0), (1, 5, 0), (47, 1, 0), (22, 2, 6), (0, 5, 0), (24, 0, 0), (47, 0, 0), (22, 3, 2), (0, 5, 0), (3, 0, 100), (8, 0, 0), (0, 4, 0), (6, 0, 0), (24, 0, 0), (7, 0, 0), (37, 0, 0)] := rfl
theorem bq25_3 : blk 25 3 = [(0, 3, 0), (3, 0, 14), (7, 0, 0), (1, 5, 0), (47, 0, 0), (22, 3, 2), (0, 5, 0), (3, 0, 100), (8, 0, 0), (0, 4, 0), (6, 0, 0), (47, 1, 0), (22, 3, 6), (0, 5, 0), (24, 0, 0), (7, 0, 0), (24, 0, 0), (37, 0, 0)] := rfl
theorem rc_25_7 (l : List AV) : rcvb 25 (.inr (.inr 7) :: l) = true := rfl
theorem mx_25 : mxl 25 = 6 := rfl
theorem bq26_0 : blk 26 0 = [(47, 0, 0), (22, 5, 2), (0, 2, 0), (24, 0, 0), (1, 4, 0), (0, 2, 0), (3, 0, 10), (13, 0, 0), (1, 5, 0), (0, 4, 0), (29, 1, 1), (47, 0, 0), (22, 2, 2), (0, 2, 0), (34, 0, 0), (24, 0, 0), (0, 3, 0), (6, 0, 0), (25, 0, 0), (31, 4, 0)] := rfl
theorem bq26_1 : blk 26 1 = [(0, 4, 0), (3, 0, 1), (30, 2, 1), (47, 0, 0), (22, 2, 2), (0, 2, 0), (3, 0, 10), (7, 0, 0), (34, 0, 0), (24, 0, 0), (0, 3, 0), (7, 0, 0), (25, 0, 0), (31, 4, 0)] := rfl
theorem bq26_2 : blk 26 2 = [(0, 4, 0), (3, 0, 14), (30, 3, 3), (47, 0, 0), (22, 3, 2), (0, 4, 0), (3, 0, 2), (7, 0, 0), (3, 0, 100), (8, 0, 0), (0, 5, 0), (6, 0, 0), (34, 0, 0), (24, 0, 0), (0, 3, 0), (6, 0, 0), (25, 0, 0), (31, 4, 0)] := rfl
theorem bq26_3 : blk 26 3 = [(0, 4, 0), (3, 0, 14), (7, 0, 0), (1, 6, 0), (47, 0, 0), (22, 3, 2), (0, 6, 0), (3, 0, 100), (8, 0, 0), (0, 5, 0), (6, 0, 0), (47, 1, 0), (22, 3, 6), (0, 6, 0), (24, 0, 0), (7, 0, 0), (34, 0, 0), (24, 0, 0), (0, 3, 0), (7, 0, 0), (25, 0, 0), (32, 4, 0)] := rfl
theorem bq26_4 : blk 26 4 = [(38, 0, 0)] := rfl
theorem rc_26_7 (l : List AV) : rcvb 26 (.inr (.inr 7) :: l) = true := rfl
theorem mx_26 : mxl 26 = 7 := rfl
theorem bq27_0 : blk 27 0 = [(47, 0, 0), (51, 18, 0), (3, 0, 0), (1, 3, 0), (32, 1, 0)] := rfl
theorem bq27_1 : blk 27 1 = [(0, 3, 0), (3, 0, 10), (30, 3, 3), (47, 0, 0), (22, 1, 2), (0, 3, 0), (24, 0, 0), (29, 2, 5), (47, 0, 0), (47, 0, 0), (22, 12, 2), (3, 0, 10), (8, 0, 0), (0, 3, 0), (6, 0, 0), (3, 0, 0), (53, 19, 0), (32, 2, 0)] := rfl
theorem bq27_2 : blk 27 2 = [(5, 3, 1), (31, 1, 0)] := rfl
theorem bq27_3 : blk 27 3 = [(3, 0, 0), (1, 3, 0), (32, 4, 0)] := rfl
theorem bq27_4 : blk 27 4 = [(0, 3, 0), (3, 0, 1010), (30, 5, 3), (47, 0, 0), (22, 9, 2), (29, 5, 5), (47, 0, 0), (33, 0, 0), (22, 9, 2), (3, 0, 1), (7, 0, 0), (23, 9, 2), (47, 0, 0), (47, 1, 0), (47, 0, 0), (22, 6, 2), (47, 0, 0), (22, 9, 2), (24, 0, 0), (0, 2, 0), (54, 28, 0), (5, 3, 1), (31, 4, 0)] := rfl
theorem bq27_5 : blk 27 5 = [(47, 0, 0), (47, 1, 0), (0, 2, 0), (53, 29, 0), (47, 0, 0), (0, 2, 0), (23, 15, 2), (38, 0, 0)] := rfl
theorem rc_27_7 (l : List AV) : rcvb 27 (.inr (.inr 7) :: l) = true := rfl
theorem mx_27 : mxl 27 = 4 := rfl
theorem bq28_0 : blk 28 0 = [(0, 2, 0), (3, 0, 10), (14, 0, 0), (1, 4, 0), (0, 2, 0), (3, 0, 10), (13, 0, 0), (1, 5, 0), (0, 5, 0), (0, 3, 0), (30, 1, 3), (47, 0, 0), (0, 2, 0), (3, 0, 10), (6, 0, 0), (3, 0, 0), (53, 19, 0), (32, 1, 0)] := rfl
theorem bq28_1 : blk 28 1 = [(0, 5, 0), (47, 0, 0), (22, 12, 2), (30, 2, 5), (47, 0, 0), (22, 2, 2), (0, 2, 0), (3, 0, 10), (7, 0, 0), (24, 0, 0), (29, 2, 5), (47, 0, 0), (0, 2, 0), (3, 0, 10), (7, 0, 0), (3, 0, 1), (53, 19, 0), (32, 2, 0)] := rfl
theorem bq28_2 : blk 28 2 = [(3, 0, 0), (1, 6, 0), (32, 3, 0)] := rfl
theorem bq28_3 : blk 28 3 = [(0, 6, 0), (47, 1, 0), (22, 5, 6), (0, 4, 0), (24, 0, 0), (30, 7, 3), (47, 1, 0), (22, 4, 6), (0, 4, 0), (3, 0, 12), (8, 0, 0), (0, 6, 0), (6, 0, 0), (24, 0, 0), (1, 7, 0), (47, 1, 0), (22, 1, 6), (0, 7, 0), (24, 0, 0), (3, 0, (-1)), (30, 4, 0), (0, 5, 0), (47, 1, 0), (22, 3, 6), (0, 7, 0), (24, 0, 0), (6, 0, 0), (0, 3, 0), (30, 4, 4), (3, 0, 1), (31, 5, 0)] := rfl
theorem bq28_4 : blk 28 4 = [(3, 0, 0), (32, 5, 0)] := rfl
theorem bq28_5 : blk 28 5 = [(1, 8, 0), (0, 8, 0), (29, 6, 0), (47, 0, 0), (22, 3, 2), (0, 7, 0), (3, 0, 100), (8, 0, 0), (0, 5, 0), (6, 0, 0), (24, 0, 0), (47, 1, 0), (22, 2, 6), (0, 7, 0), (24, 0, 0), (30, 6, 3), (47, 0, 0), (47, 0, 0), (47, 1, 0), (0, 7, 0), (0, 5, 0), (54, 21, 1), (3, 0, 2), (0, 7, 0), (6, 0, 0), (53, 19, 0), (32, 6, 0)] := rfl
theorem bq28_6 : blk 28 6 = [(5, 6, 1), (31, 3, 0)] := rfl
theorem bq28_7 : blk 28 7 = [(3, 0, 0), (1, 6, 0), (32, 8, 0)] := rfl
theorem bq28_8 : blk 28 8 = [(0, 6, 0), (47, 1, 0), (22, 7, 6), (0, 4, 0), (24, 0, 0), (30, 10, 3), (47, 1, 0), (22, 6, 6), (0, 4, 0), (3, 0, 12), (8, 0, 0), (0, 6, 0), (6, 0, 0), (24, 0, 0), (1, 7, 0), (0, 5, 0), (47, 1, 0), (22, 3, 6), (0, 7, 0), (24, 0, 0), (7, 0, 0), (1, 8, 0), (0, 8, 0), (47, 0, 0), (22, 12, 2), (30, 9, 2), (47, 0, 0), (22, 3, 2), (0, 7, 0), (3, 0, 100), (8, 0, 0), (0, 8, 0), (6, 0, 0), (24, 0, 0), (29, 9, 5), (47, 0, 0), (0, 8, 0), (3, 0, 10), (8, 0, 0), (47, 1, 0), (22, 0, 6), (0, 7, 0), (24, 0, 0), (6, 0, 0), (3, 0, 14), (0, 7, 0), (6, 0, 0), (53, 19, 0), (32, 9, 0)] := rfl
theorem bq28_9 : blk 28 9 = [(5, 6, 1), (31, 8, 0)] := rfl
theorem bq28_10 : blk 28 10 = [(38, 0, 0)] := rfl
theorem rc_28_7 (l : List AV) : rcvb 28 (.inr (.inr 7) :: l) = true := rfl
theorem mx_28 : mxl 28 = 9 := rfl
theorem bq29_0 : blk 29 0 = [(47, 0, 0), (3, 0, 0), (23, 16, 2), (47, 0, 0), (22, 12, 2), (1, 3, 0), (32, 1, 0)] := rfl
theorem bq29_1 : blk 29 1 = [(0, 3, 0), (0, 2, 0), (30, 5, 3), (3, 0, 0), (1, 4, 0), (32, 2, 0)] := rfl
theorem bq29_2 : blk 29 2 = [(0, 4, 0), (47, 1, 0), (22, 8, 6), (30, 4, 3), (0, 3, 0), (47, 1, 0), (22, 3, 6), (0, 4, 0), (24, 0, 0), (6, 0, 0), (0, 2, 0), (30, 3, 4), (47, 0, 0), (47, 1, 0), (0, 4, 0), (0, 3, 0), (54, 30, 1), (29, 3, 0), (47, 0, 0), (22, 8, 2), (47, 0, 0), (22, 16, 2), (0, 3, 0), (3, 0, 12), (8, 0, 0), (0, 4, 0), (6, 0, 0), (25, 0, 0), (47, 0, 0), (33, 0, 0), (22, 16, 2), (3, 0, 1), (6, 0, 0), (23, 16, 2), (32, 3, 0)] := rfl
theorem bq29_3 : blk 29 3 = [(5, 4, 1), (31, 2, 0)] := rfl
theorem bq29_4 : blk 29 4 = [(5, 3, 1), (31, 1, 0)] := rfl
theorem bq29_5 : blk 29 5 = [(38, 0, 0)] := rfl
theorem rc_29_7 (l : List AV) : rcvb 29 (.inr (.inr 7) :: l) = true := rfl
theorem mx_29 : mxl 29 = 5 := rfl
theorem bq30_0 : blk 30 0 = [(47, 0, 0), (22, 4, 2), (0, 3, 0), (3, 0, 10), (8, 0, 0), (47, 1, 0), (22, 0, 6), (0, 2, 0), (24, 0, 0), (6, 0, 0), (24, 0, 0), (47, 0, 0), (22, 11, 2), (30, 1, 0), (3, 0, 0), (37, 0, 1)] := rfl
theorem bq30_1 : blk 30 1 = [(47, 1, 0), (22, 1, 6), (0, 2, 0), (24, 0, 0), (3, 0, (-1)), (30, 2, 1), (3, 0, 1), (37, 0, 1)] := rfl
theorem bq30_2 : blk 30 2 = [(47, 0, 0), (22, 4, 2), (47, 0, 0), (47, 1, 0), (0, 2, 0), (0, 3, 0), (54, 21, 1), (24, 0, 0), (1, 4, 0), (0, 4, 0), (3, 0, (-2)), (30, 3, 0), (0, 4, 0), (47, 0, 0), (22, 11, 2), (30, 3, 0), (3, 0, 1), (31, 4, 0)] := rfl
theorem bq30_3 : blk 30 3 = [(3, 0, 0), (32, 4, 0)] := rfl
theorem bq30_4 : blk 30 4 = [(37, 0, 1)] := rfl
theorem rc_30_7 (l : List AV) : rcvb 30 (.inr (.inr 7) :: l) = true := rfl
theorem mx_30 : mxl 30 = 5 := rfl
theorem bq31_0 : blk 31 0 = [(47, 0, 0), (22, 8, 2), (0, 1, 0), (24, 0, 0), (3, 0, 12), (14, 0, 0), (37, 0, 0)] := rfl
theorem rc_31_7 (l : List AV) : rcvb 31 (.inr (.inr 7) :: l) = true := rfl
theorem mx_31 : mxl 31 = 2 := rfl
theorem bq32_0 : blk 32 0 = [(47, 0, 0), (22, 8, 2), (0, 1, 0), (24, 0, 0), (3, 0, 12), (13, 0, 0), (37, 0, 0)] := rfl
theorem rc_32_7 (l : List AV) : rcvb 32 (.inr (.inr 7) :: l) = true := rfl
theorem mx_32 : mxl 32 = 2 := rfl
theorem bq33_0 : blk 33 0 = [(47, 1, 0), (22, 0, 3), (3, 0, 0), (47, 0, 0), (22, 0, 3), (3, 0, 0), (3, 0, 10), (42, 0, 0), (47, 1, 0), (22, 1, 3), (3, 0, 0), (47, 0, 0), (22, 1, 3), (3, 0, 0), (3, 0, 12), (42, 0, 0), (47, 0, 0), (47, 1, 0), (22, 2, 3), (23, 2, 3), (47, 0, 0), (47, 1, 0), (22, 3, 3), (23, 3, 3), (47, 0, 0), (47, 1, 0), (22, 4, 3), (23, 4, 3), (47, 0, 0), (47, 1, 0), (22, 5, 3), (23, 5, 3), (38, 0, 0)] := rfl
theorem rc_33_5 (l : List AV) : rcvb 33 (.inr (.inr 5) :: l) = true := rfl
theorem rc_33_8 (l : List AV) : rcvb 33 (.inr (.inr 8) :: l) = true := rfl
theorem mx_33 : mxl 33 = 2 := rfl
theorem bq34_0 : blk 34 0 = [(47, 1, 0), (22, 1, 0), (0, 2, 0), (24, 0, 0), (1, 3, 0), (0, 3, 0), (3, 0, 1), (30, 1, 3), (47, 1, 0), (22, 2, 0), (0, 2, 0), (24, 0, 0), (31, 2, 0)] := rfl
theorem bq34_1 : blk 34 1 = [(47, 1, 0), (22, 2, 0), (0, 2, 0), (24, 0, 0), (47, 0, 0), (22, 0, 3), (0, 2, 0), (24, 0, 0), (0, 3, 0), (13, 0, 0), (6, 0, 0), (32, 2, 0)] := rfl
theorem bq34_2 : blk 34 2 = [(37, 0, 0)] := rfl
theorem rc_34_5 (l : List AV) : rcvb 34 (.inr (.inr 5) :: l) = true := rfl
theorem rc_34_8 (l : List AV) : rcvb 34 (.inr (.inr 8) :: l) = true := rfl
theorem mx_34 : mxl 34 = 4 := rfl
theorem bq35_0 : blk 35 0 = [(47, 1, 0), (22, 0, 0), (0, 2, 0), (46, 0, 0), (29, 1, 0), (47, 0, 0), (22, 0, 3), (0, 2, 0), (24, 0, 0), (47, 1, 0), (22, 1, 0), (0, 2, 0), (24, 0, 0), (30, 1, 2), (3, 0, 1), (31, 2, 0)] := rfl
theorem bq35_1 : blk 35 1 = [(3, 0, 0), (32, 2, 0)] := rfl
theorem bq35_2 : blk 35 2 = [(37, 0, 1)] := rfl
theorem rc_35_5 (l : List AV) : rcvb 35 (.inr (.inr 5) :: l) = true := rfl
theorem rc_35_8 (l : List AV) : rcvb 35 (.inr (.inr 8) :: l) = true := rfl
theorem mx_35 : mxl 35 = 3 := rfl
theorem bq36_0 : blk 36 0 = [(47, 1, 0), (0, 2, 0), (47, 0, 0), (22, 2, 3), (53, 9, 1), (29, 1, 0), (47, 1, 0), (22, 5, 1), (0, 2, 0), (24, 0, 0), (31, 2, 0)] := rfl
theorem bq36_1 : blk 36 1 = [(47, 1, 0), (22, 2, 1), (0, 2, 0), (24, 0, 0), (47, 0, 0), (22, 1, 3), (0, 2, 0), (24, 0, 0), (3, 0, 10), (13, 0, 0), (6, 0, 0), (32, 2, 0)] := rfl
theorem bq36_2 : blk 36 2 = [(37, 0, 0)] := rfl
theorem rc_36_5 (l : List AV) : rcvb 36 (.inr (.inr 5) :: l) = true := rfl
theorem rc_36_8 (l : List AV) : rcvb 36 (.inr (.inr 8) :: l) = true := rfl
theorem mx_36 : mxl 36 = 3 := rfl
theorem bq37_0 : blk 37 0 = [(3, 0, 0), (1, 1, 0), (3, 0, 0), (1, 2, 0), (32, 1, 0)] := rfl
theorem bq37_1 : blk 37 1 = [(0, 2, 0), (3, 0, 12), (30, 2, 3), (0, 1, 0), (47, 0, 0), (22, 1, 3), (0, 2, 0), (24, 0, 0), (6, 0, 0), (1, 1, 0), (5, 2, 1), (31, 1, 0)] := rfl
theorem bq37_2 : blk 37 2 = [(0, 1, 0), (37, 0, 0)] := rfl
theorem rc_37_5 (l : List AV) : rcvb 37 (.inr (.inr 5) :: l) = true := rfl
theorem rc_37_8 (l : List AV) : rcvb 37 (.inr (.inr 8) :: l) = true := rfl
theorem mx_37 : mxl 37 = 3 := rfl
theorem bq38_0 : blk 38 0 = [(47, 0, 0), (22, 2, 3), (3, 0, 100), (30, 1, 2), (38, 0, 0)] := rfl
theorem bq38_1 : blk 38 1 = [(47, 0, 0), (47, 1, 0), (52, 39, 0), (47, 0, 0), (47, 1, 0), (52, 40, 0), (3, 0, 0), (1, 3, 0), (32, 2, 0)] := rfl
theorem bq38_2 : blk 38 2 = [(0, 3, 0), (47, 2, 0), (22, 8, 1), (30, 3, 3), (47, 0, 0), (47, 2, 0), (0, 3, 0), (53, 41, 0), (5, 3, 1), (31, 2, 0)] := rfl
theorem bq38_3 : blk 38 3 = [(3, 0, 0), (1, 3, 0), (32, 4, 0)] := rfl
theorem bq38_4 : blk 38 4 = [(0, 3, 0), (47, 2, 0), (22, 8, 1), (30, 5, 3), (47, 0, 0), (47, 1, 0), (47, 2, 0), (0, 3, 0), (54, 42, 0), (5, 3, 1), (31, 4, 0)] := rfl
theorem bq38_5 : blk 38 5 = [(47, 0, 0), (33, 0, 0), (22, 2, 3), (3, 0, 1), (6, 0, 0), (23, 2, 3), (38, 0, 0)] := rfl
theorem rc_38_5 (l : List AV) : rcvb 38 (.inr (.inr 5) :: l) = true := rfl
theorem rc_38_8 (l : List AV) : rcvb 38 (.inr (.inr 8) :: l) = true := rfl
theorem mx_38 : mxl 38 = 4 := rfl
theorem bq39_0 : blk 39 0 = [(47, 1, 0), (22, 9, 0), (29, 1, 5), (47, 1, 0), (22, 7, 0), (47, 0, 0), (22, 2, 3), (24, 0, 0), (1, 2, 0), (47, 0, 0), (22, 0, 3), (47, 1, 0), (22, 6, 0), (3, 0, 0), (24, 0, 0), (34, 0, 0), (24, 0, 0), (0, 2, 0), (6, 0, 0), (25, 0, 0), (47, 0, 0), (33, 0, 0), (22, 5, 3), (0, 2, 0), (6, 0, 0), (23, 5, 3), (32, 1, 0)] := rfl
theorem bq39_1 : blk 39 1 = [(38, 0, 0)] := rfl
theorem rc_39_5 (l : List AV) : rcvb 39 (.inr (.inr 5) :: l) = true := rfl
theorem rc_39_8 (l : List AV) : rcvb 39 (.inr (.inr 8) :: l) = true := rfl
theorem mx_39 : mxl 39 = 3 := rfl
theorem bq40_0 : blk 40 0 = [(47, 1, 0), (22, 9, 0), (3, 0, 1), (7, 0, 0), (1, 2, 0), (0, 2, 0), (1, 3, 0), (32, 1, 0)] := rfl
theorem bq40_1 : blk 40 1 = [(0, 3, 0), (29, 4, 2), (47, 1, 0), (22, 6, 0), (0, 3, 0), (24, 0, 0), (1, 4, 0), (47, 0, 0), (22, 0, 3), (0, 4, 0), (24, 0, 0), (16, 0, 0), (47, 1, 0), (22, 3, 0), (0, 4, 0), (24, 0, 0), (16, 0, 0), (19, 0, 0), (4, 0, 100), (20, 0, 0), (17, 0, 0), (1, 5, 0), (47, 0, 0), (22, 0, 3), (0, 4, 0), (34, 0, 0), (24, 0, 0), (0, 5, 0), (7, 0, 0), (25, 0, 0), (0, 3, 0), (0, 2, 0), (30, 2, 1), (47, 0, 0), (33, 0, 0), (22, 4, 3), (0, 5, 0), (6, 0, 0), (23, 4, 3), (31, 3, 0)] := rfl
theorem bq40_2 : blk 40 2 = [(47, 0, 0), (22, 0, 3), (47, 1, 0), (22, 6, 0), (0, 3, 0), (3, 0, 1), (6, 0, 0), (24, 0, 0), (34, 0, 0), (24, 0, 0), (0, 5, 0), (6, 0, 0), (25, 0, 0), (32, 3, 0)] := rfl
theorem bq40_3 : blk 40 3 = [(5, 3, (-1)), (31, 1, 0)] := rfl
theorem bq40_4 : blk 40 4 = [(38, 0, 0)] := rfl
theorem rc_40_5 (l : List AV) : rcvb 40 (.inr (.inr 5) :: l) = true := rfl
theorem rc_40_8 (l : List AV) : rcvb 40 (.inr (.inr 8) :: l) = true := rfl
theorem mx_40 : mxl 40 = 6 := rfl
theorem bq41_0 : blk 41 0 = [(47, 0, 0), (22, 1, 3), (0, 2, 0), (34, 0, 0), (24, 0, 0), (47, 1, 0), (22, 7, 1), (0, 2, 0), (3, 0, 100), (8, 0, 0), (47, 0, 0), (22, 2, 3), (6, 0, 0), (24, 0, 0), (6, 0, 0), (25, 0, 0), (47, 1, 0), (0, 2, 0), (47, 0, 0), (22, 2, 3), (53, 9, 1), (29, 1, 0), (47, 0, 0), (33, 0, 0), (22, 3, 3), (47, 0, 0), (22, 1, 3), (0, 2, 0), (24, 0, 0), (6, 0, 0), (23, 3, 3), (47, 0, 0), (22, 1, 3), (0, 2, 0), (3, 0, 0), (25, 0, 0), (32, 1, 0)] := rfl
theorem bq41_1 : blk 41 1 = [(38, 0, 0)] := rfl
theorem rc_41_5 (l : List AV) : rcvb 41 (.inr (.inr 5) :: l) = true := rfl
theorem rc_41_8 (l : List AV) : rcvb 41 (.inr (.inr 8) :: l) = true := rfl
theorem mx_41 : mxl 41 = 3 := rfl
theorem bq42_0 : blk 42 0 = [(47, 2, 0), (22, 0, 1), (0, 3, 0), (24, 0, 0), (1, 4, 0), (47, 2, 0), (22, 1, 1), (0, 3, 0), (24, 0, 0), (1, 5, 0), (47, 0, 0), (47, 1, 0), (0, 4, 0), (53, 34, 1), (1, 6, 0), (47, 0, 0), (47, 1, 0), (0, 5, 0), (53, 34, 1), (1, 7, 0), (0, 6, 0), (0, 7, 0), (30, 1, 3), (47, 2, 0), (22, 1, 1), (0, 3, 0), (24, 0, 0), (1, 4, 0), (47, 2, 0), (22, 0, 1), (0, 3, 0), (24, 0, 0), (1, 5, 0), (0, 6, 0), (1, 8, 0), (0, 7, 0), (1, 6, 0), (0, 8, 0), (1, 7, 0), (32, 1, 0)] := rfl
theorem bq42_1 : blk 42 1 = [(0, 6, 0), (47, 0, 0), (47, 2, 0), (0, 3, 0), (53, 36, 1), (0, 7, 0), (39, 0, 0), (7, 0, 0), (16, 0, 0), (2, 8, 0), (48, 8, 0), (4, 0, 0), (21, 0, 0), (29, 2, 5), (47, 2, 0), (22, 3, 1), (0, 3, 0), (24, 0, 0), (16, 0, 0), (48, 8, 0), (19, 0, 0), (48, 8, 0), (47, 1, 0), (22, 1, 0), (0, 4, 0), (24, 0, 0), (16, 0, 0), (19, 0, 0), (4, 0, 2), (20, 0, 0), (41, 0, 0), (2, 10, 0), (48, 10, 0), (47, 0, 0), (22, 0, 3), (0, 4, 0), (24, 0, 0), (16, 0, 0), (41, 0, 0), (17, 0, 0), (1, 12, 0), (47, 0, 0), (22, 0, 3), (0, 4, 0), (34, 0, 0), (24, 0, 0), (0, 12, 0), (7, 0, 0), (25, 0, 0), (47, 0, 0), (22, 0, 3), (0, 5, 0), (34, 0, 0), (24, 0, 0), (0, 12, 0), (6, 0, 0), (25, 0, 0), (32, 2, 0)] := rfl
theorem bq42_2 : blk 42 2 = [(38, 0, 0)] := rfl
theorem rc_42_5 (l : List AV) : rcvb 42 (.inr (.inr 5) :: l) = true := rfl
theorem rc_42_8 (l : List AV) : rcvb 42 (.inr (.inr 8) :: l) = true := rfl
theorem mx_42 : mxl 42 = 13 := rfl
theorem bq43_0 : blk 43 0 = [(47, 0, 0), (3, 0, 0), (23, 2, 4), (38, 0, 0)] := rfl
theorem rc_43_6 (l : List AV) : rcvb 43 (.inr (.inr 6) :: l) = true := rfl
theorem mx_43 : mxl 43 = 1 := rfl
theorem bq44_0 : blk 44 0 = [(47, 0, 0), (22, 2, 4), (29, 1, 0), (38, 0, 0)] := rfl
theorem bq44_1 : blk 44 1 = [(47, 0, 0), (22, 0, 4), (47, 3, 0), (52, 33, 0), (47, 3, 0), (22, 2, 3), (1, 4, 0), (32, 2, 0)] := rfl
theorem bq44_2 : blk 44 2 = [(0, 4, 0), (3, 0, 100), (30, 3, 4), (47, 0, 0), (22, 0, 4), (22, 0, 3), (3, 0, 0), (47, 0, 0), (22, 1, 4), (0, 4, 0), (3, 0, 10), (8, 0, 0), (3, 0, 10), (42, 0, 0), (47, 0, 0), (22, 0, 4), (47, 1, 0), (47, 2, 0), (53, 38, 0), (5, 4, 1), (31, 2, 0)] := rfl
theorem bq44_3 : blk 44 3 = [(47, 0, 0), (3, 0, 1), (23, 2, 4), (38, 0, 0)] := rfl
theorem rc_44_6 (l : List AV) : rcvb 44 (.inr (.inr 6) :: l) = true := rfl
theorem mx_44 : mxl 44 = 5 := rfl
theorem bq45_0 : blk 45 0 = [(47, 0, 0), (22, 1, 4), (0, 2, 0), (3, 0, 10), (8, 0, 0), (0, 1, 0), (6, 0, 0), (24, 0, 0), (37, 0, 0)] := rfl
theorem rc_45_6 (l : List AV) : rcvb 45 (.inr (.inr 6) :: l) = true := rfl
theorem mx_45 : mxl 45 = 3 := rfl
theorem bq46_0 : blk 46 0 = [(47, 0, 0), (0, 2, 0), (0, 3, 0), (53, 45, 1), (47, 1, 0), (22, 1, 0), (0, 2, 0), (24, 0, 0), (30, 1, 2), (3, 0, 1), (31, 2, 0)] := rfl
theorem bq46_1 : blk 46 1 = [(3, 0, 0), (32, 2, 0)] := rfl
theorem bq46_2 : blk 46 2 = [(37, 0, 1)] := rfl
theorem rc_46_6 (l : List AV) : rcvb 46 (.inr (.inr 6) :: l) = true := rfl
theorem mx_46 : mxl 46 = 4 := rfl
theorem bq47_0 : blk 47 0 = [(0, 3, 0), (1, 4, 0), (32, 1, 0)] := rfl
theorem bq47_1 : blk 47 1 = [(0, 4, 0), (3, 0, 100), (30, 3, 4), (47, 0, 0), (47, 1, 0), (0, 2, 0), (0, 4, 0), (54, 46, 1), (29, 2, 0), (0, 4, 0), (37, 0, 0)] := rfl
theorem bq47_2 : blk 47 2 = [(5, 4, 1), (31, 1, 0)] := rfl
theorem bq47_3 : blk 47 3 = [(3, 0, (-1)), (37, 0, 0)] := rfl
theorem rc_47_6 (l : List AV) : rcvb 47 (.inr (.inr 6) :: l) = true := rfl
theorem mx_47 : mxl 47 = 5 := rfl
theorem bq48_0 : blk 48 0 = [(3, 0, 0), (1, 4, 0), (47, 0, 0), (22, 0, 4), (47, 3, 0), (52, 33, 0), (47, 3, 0), (22, 2, 3), (1, 5, 0), (32, 1, 0)] := rfl
theorem bq48_1 : blk 48 1 = [(0, 5, 0), (3, 0, 100), (30, 5, 4), (3, 0, 0), (1, 6, 0), (32, 2, 0)] := rfl
theorem bq48_2 : blk 48 2 = [(0, 6, 0), (47, 1, 0), (22, 8, 0), (30, 4, 3), (47, 0, 0), (22, 0, 4), (47, 1, 0), (0, 6, 0), (53, 35, 1), (29, 3, 0), (0, 4, 0), (3, 0, 1), (0, 6, 0), (11, 0, 0), (10, 0, 0), (1, 4, 0), (32, 3, 0)] := rfl
theorem bq48_3 : blk 48 3 = [(5, 6, 1), (31, 2, 0)] := rfl
theorem bq48_4 : blk 48 4 = [(47, 0, 0), (22, 0, 4), (47, 1, 0), (47, 2, 0), (53, 38, 0), (5, 5, 1), (31, 1, 0)] := rfl
theorem bq48_5 : blk 48 5 = [(3, 0, 0), (1, 5, 0), (3, 0, 0), (1, 6, 0), (32, 6, 0)] := rfl
theorem bq48_6 : blk 48 6 = [(0, 6, 0), (47, 1, 0), (22, 8, 0), (30, 7, 3), (0, 5, 0), (0, 4, 0), (0, 6, 0), (12, 0, 0), (3, 0, 1), (9, 0, 0), (47, 1, 0), (22, 5, 0), (0, 6, 0), (24, 0, 0), (8, 0, 0), (6, 0, 0), (1, 5, 0), (5, 6, 1), (31, 6, 0)] := rfl
theorem bq48_7 : blk 48 7 = [(0, 5, 0), (37, 0, 0)] := rfl
theorem rc_48_6 (l : List AV) : rcvb 48 (.inr (.inr 6) :: l) = true := rfl
theorem mx_48 : mxl 48 = 7 := rfl
theorem bq49_0 : blk 49 0 = [(47, 0, 0), (22, 3, 5), (3, 0, 100), (30, 1, 2), (3, 0, 0), (37, 0, 1)] := rfl
theorem bq49_1 : blk 49 1 = [(47, 0, 0), (22, 0, 5), (47, 0, 0), (22, 3, 5), (0, 1, 0), (25, 0, 0), (47, 0, 0), (22, 1, 5), (47, 0, 0), (22, 3, 5), (0, 2, 0), (25, 0, 0), (47, 0, 0), (22, 2, 5), (47, 0, 0), (22, 3, 5), (0, 3, 0), (25, 0, 0), (47, 0, 0), (33, 0, 0), (22, 3, 5), (3, 0, 1), (6, 0, 0), (23, 3, 5), (3, 0, 1), (37, 0, 1)] := rfl
theorem rc_49_4 (l : List AV) : rcvb 49 (.inr (.inr 4) :: l) = true := rfl
theorem mx_49 : mxl 49 = 4 := rfl
theorem bq50_0 : blk 50 0 = [(47, 0, 0), (22, 3, 5), (3, 0, 1), (7, 0, 0), (1, 3, 0), (32, 1, 0)] := rfl
theorem bq50_1 : blk 50 1 = [(0, 3, 0), (29, 3, 2), (47, 0, 0), (22, 0, 5), (0, 3, 0), (24, 0, 0), (0, 1, 0), (30, 2, 1), (47, 0, 0), (22, 2, 5), (0, 3, 0), (24, 0, 0), (0, 2, 0), (30, 2, 4), (47, 0, 0), (22, 1, 5), (0, 3, 0), (24, 0, 0), (37, 0, 0)] := rfl
theorem bq50_2 : blk 50 2 = [(5, 3, (-1)), (31, 1, 0)] := rfl
theorem bq50_3 : blk 50 3 = [(3, 0, (-1)), (37, 0, 0)] := rfl
theorem rc_50_4 (l : List AV) : rcvb 50 (.inr (.inr 4) :: l) = true := rfl
theorem mx_50 : mxl 50 = 4 := rfl
theorem bq51_0 : blk 51 0 = [(47, 0, 0), (22, 8, 6), (1, 5, 0), (47, 0, 0), (22, 0, 6), (0, 5, 0), (0, 1, 0), (25, 0, 0), (47, 0, 0), (22, 1, 6), (0, 5, 0), (0, 2, 0), (25, 0, 0), (47, 0, 0), (22, 2, 6), (0, 5, 0), (0, 3, 0), (25, 0, 0), (47, 0, 0), (22, 3, 6), (0, 5, 0), (0, 4, 0), (25, 0, 0), (47, 0, 0), (22, 4, 6), (0, 1, 0), (3, 0, 12), (8, 0, 0), (47, 0, 0), (22, 5, 6), (0, 1, 0), (24, 0, 0), (6, 0, 0), (0, 5, 0), (25, 0, 0), (47, 0, 0), (22, 5, 6), (0, 1, 0), (34, 0, 0), (24, 0, 0), (3, 0, 1), (6, 0, 0), (25, 0, 0), (0, 2, 0), (3, 0, (-1)), (30, 1, 0), (47, 0, 0), (22, 6, 6), (0, 2, 0), (3, 0, 12), (8, 0, 0), (47, 0, 0), (22, 7, 6), (0, 2, 0), (24, 0, 0), (6, 0, 0), (0, 5, 0), (25, 0, 0), (47, 0, 0), (22, 7, 6), (0, 2, 0), (34, 0, 0), (24, 0, 0), (3, 0, 1), (6, 0, 0), (25, 0, 0), (32, 1, 0)] := rfl
theorem bq51_1 : blk 51 1 = [(47, 0, 0), (33, 0, 0), (22, 8, 6), (3, 0, 1), (6, 0, 0), (23, 8, 6), (0, 5, 0), (37, 0, 0)] := rfl
theorem rc_51_3 (l : List AV) : rcvb 51 (.inr (.inr 3) :: l) = true := rfl
theorem mx_51 : mxl 51 = 6 := rfl
theorem bq52_0 : blk 52 0 = [(47, 0, 0), (22, 0, 7), (0, 1, 0), (0, 2, 0), (53, 3, 1), (29, 1, 0), (0, 3, 0), (3, 0, 0), (3, 0, 100), (53, 76, 1), (29, 2, 1), (32, 1, 0)] := rfl
theorem bq52_1 : blk 52 1 = [(3, 0, (-1)), (37, 0, 0)] := rfl
theorem bq52_2 : blk 52 2 = [(47, 0, 0), (22, 0, 7), (0, 1, 0), (0, 2, 0), (0, 3, 0), (54, 4, 1), (1, 4, 0), (47, 0, 0), (51, 82, 0), (0, 4, 0), (37, 0, 0)] := rfl
theorem rc_52_0 (l : List AV) : rcvb 52 (.inr (.inr 0) :: l) = true := rfl
theorem mx_52 : mxl 52 = 5 := rfl
theorem bq53_0 : blk 53 0 = [(47, 0, 0), (22, 0, 7), (0, 1, 0), (0, 2, 0), (53, 3, 1), (29, 1, 0), (0, 3, 0), (3, 0, 0), (3, 0, 500), (53, 76, 1), (29, 1, 0), (0, 4, 0), (3, 0, 0), (3, 0, 1000000), (53, 76, 1), (29, 2, 1), (32, 1, 0)] := rfl
theorem bq53_1 : blk 53 1 = [(3, 0, (-1)), (37, 0, 0)] := rfl
theorem bq53_2 : blk 53 2 = [(47, 0, 0), (22, 0, 7), (0, 1, 0), (0, 2, 0), (0, 3, 0), (0, 4, 0), (55, 5, 1), (1, 5, 0), (47, 0, 0), (51, 82, 0), (0, 5, 0), (37, 0, 0)] := rfl
theorem rc_53_0 (l : List AV) : rcvb 53 (.inr (.inr 0) :: l) = true := rfl
theorem mx_53 : mxl 53 = 6 := rfl
theorem bq54_0 : blk 54 0 = [(47, 0, 0), (22, 0, 7), (0, 1, 0), (52, 1, 1), (29, 1, 0), (47, 0, 0), (22, 0, 7), (0, 2, 0), (52, 1, 1), (29, 1, 0), (0, 1, 0), (0, 2, 0), (30, 1, 0), (47, 0, 0), (22, 1, 7), (22, 8, 1), (3, 0, 12), (30, 2, 2), (32, 1, 0)] := rfl
theorem bq54_1 : blk 54 1 = [(3, 0, (-1)), (37, 0, 0)] := rfl
theorem bq54_2 : blk 54 2 = [(0, 3, 0), (3, 0, 0), (3, 0, 2000), (53, 76, 1), (29, 3, 0), (0, 4, 0), (3, 0, 1), (3, 0, 1000), (53, 76, 1), (29, 3, 0), (0, 5, 0), (3, 0, 0), (3, 0, 20), (53, 76, 1), (29, 4, 1), (32, 3, 0)] := rfl
theorem bq54_3 : blk 54 3 = [(3, 0, (-1)), (37, 0, 0)] := rfl
theorem bq54_4 : blk 54 4 = [(47, 0, 0), (22, 1, 7), (0, 1, 0), (0, 2, 0), (0, 3, 0), (0, 4, 0), (0, 5, 0), (56, 8, 1), (1, 6, 0), (47, 0, 0), (51, 82, 0), (0, 6, 0), (37, 0, 0)] := rfl
theorem rc_54_0 (l : List AV) : rcvb 54 (.inr (.inr 0) :: l) = true := rfl
theorem mx_54 : mxl 54 = 7 := rfl
theorem bq55_0 : blk 55 0 = [(47, 0, 0), (22, 1, 7), (0, 1, 0), (52, 7, 1), (29, 1, 0), (47, 0, 0), (0, 2, 0), (52, 77, 1), (29, 1, 0), (0, 3, 0), (3, 0, 0), (47, 0, 0), (22, 1, 7), (22, 2, 1), (0, 1, 0), (24, 0, 0), (53, 76, 1), (29, 2, 1), (32, 1, 0)] := rfl
theorem bq55_1 : blk 55 1 = [(3, 0, 0), (37, 0, 1)] := rfl
theorem bq55_2 : blk 55 2 = [(47, 0, 0), (0, 1, 0), (52, 78, 1), (29, 3, 0), (3, 0, 0), (37, 0, 1)] := rfl
theorem bq55_3 : blk 55 3 = [(47, 0, 0), (22, 1, 7), (22, 6, 1), (0, 1, 0), (0, 2, 0), (25, 0, 0), (47, 0, 0), (22, 1, 7), (22, 5, 1), (0, 1, 0), (0, 3, 0), (25, 0, 0), (47, 0, 0), (51, 82, 0), (3, 0, 1), (37, 0, 1)] := rfl
theorem rc_55_0 (l : List AV) : rcvb 55 (.inr (.inr 0) :: l) = true := rfl
theorem mx_55 : mxl 55 = 4 := rfl
theorem bq56_0 : blk 56 0 = [(47, 0, 0), (0, 1, 0), (52, 77, 1), (29, 1, 0), (0, 2, 0), (3, 0, 0), (3, 0, 1000000), (53, 76, 1), (29, 2, 1), (32, 1, 0)] := rfl
theorem bq56_1 : blk 56 1 = [(3, 0, 0), (37, 0, 1)] := rfl
theorem bq56_2 : blk 56 2 = [(47, 0, 0), (22, 0, 7), (22, 7, 0), (0, 1, 0), (0, 2, 0), (25, 0, 0), (47, 0, 0), (51, 82, 0), (3, 0, 1), (37, 0, 1)] := rfl
theorem rc_56_0 (l : List AV) : rcvb 56 (.inr (.inr 0) :: l) = true := rfl
theorem mx_56 : mxl 56 = 3 := rfl
theorem bq57_0 : blk 57 0 = [(0, 1, 0), (3, 0, 1), (3, 0, 10000), (53, 76, 1), (29, 1, 0), (47, 0, 0), (22, 7, 7), (0, 1, 0), (6, 0, 0), (3, 0, 100000), (30, 2, 5), (32, 1, 0)] := rfl
theorem bq57_1 : blk 57 1 = [(3, 0, (-1)), (37, 0, 0)] := rfl
theorem bq57_2 : blk 57 2 = [(47, 0, 0), (33, 0, 0), (22, 7, 7), (0, 1, 0), (6, 0, 0), (23, 7, 7), (47, 0, 0), (22, 7, 7), (37, 0, 0)] := rfl
theorem rc_57_0 (l : List AV) : rcvb 57 (.inr (.inr 0) :: l) = true := rfl
theorem mx_57 : mxl 57 = 2 := rfl
theorem bq58_0 : blk 58 0 = [(47, 0, 0), (0, 1, 0), (0, 2, 0), (53, 79, 1), (29, 1, 1), (3, 0, (-1)), (37, 0, 0)] := rfl
theorem bq58_1 : blk 58 1 = [(47, 0, 0), (22, 4, 7), (22, 2, 3), (47, 0, 0), (22, 1, 7), (22, 4, 1), (0, 1, 0), (24, 0, 0), (6, 0, 0), (1, 3, 0), (47, 0, 0), (33, 0, 0), (22, 7, 7), (0, 2, 0), (7, 0, 0), (23, 7, 7), (47, 0, 0), (22, 1, 7), (0, 1, 0), (0, 3, 0), (0, 2, 0), (54, 10, 0), (47, 0, 0), (51, 82, 0), (0, 3, 0), (37, 0, 0)] := rfl
theorem rc_58_0 (l : List AV) : rcvb 58 (.inr (.inr 0) :: l) = true := rfl
theorem mx_58 : mxl 58 = 4 := rfl
theorem bq59_0 : blk 59 0 = [(47, 0, 0), (22, 1, 7), (0, 1, 0), (52, 7, 1), (29, 1, 0), (0, 2, 0), (3, 0, 0), (3, 0, 99), (53, 76, 1), (29, 1, 0), (0, 3, 0), (3, 0, 0), (3, 0, 20), (53, 76, 1), (29, 2, 1), (32, 1, 0)] := rfl
theorem bq59_1 : blk 59 1 = [(3, 0, 0), (37, 0, 1)] := rfl
theorem bq59_2 : blk 59 2 = [(47, 0, 0), (22, 3, 7), (0, 1, 0), (0, 2, 0), (47, 0, 0), (22, 4, 7), (22, 2, 3), (0, 3, 0), (6, 0, 0), (54, 49, 1), (37, 0, 1)] := rfl
theorem rc_59_0 (l : List AV) : rcvb 59 (.inr (.inr 0) :: l) = true := rfl
theorem mx_59 : mxl 59 = 4 := rfl
theorem bq60_0 : blk 60 0 = [(47, 0, 0), (22, 1, 7), (0, 1, 0), (52, 7, 1), (29, 1, 0), (47, 0, 0), (22, 3, 7), (0, 1, 0), (47, 0, 0), (22, 4, 7), (22, 2, 3), (53, 50, 1), (31, 2, 0)] := rfl
theorem bq60_1 : blk 60 1 = [(3, 0, (-1)), (32, 2, 0)] := rfl
theorem bq60_2 : blk 60 2 = [(37, 0, 0)] := rfl
theorem rc_60_0 (l : List AV) : rcvb 60 (.inr (.inr 0) :: l) = true := rfl
theorem mx_60 : mxl 60 = 2 := rfl
theorem bq61_0 : blk 61 0 = [(3, 0, (-1)), (1, 1, 0), (3, 0, (-1)), (1, 2, 0), (3, 0, 0), (1, 3, 0), (32, 1, 0)] := rfl
theorem bq61_1 : blk 61 1 = [(0, 3, 0), (47, 0, 0), (22, 1, 7), (22, 8, 1), (30, 3, 3), (47, 0, 0), (22, 3, 7), (0, 3, 0), (47, 0, 0), (22, 4, 7), (22, 2, 3), (53, 50, 1), (1, 4, 0), (0, 4, 0), (0, 2, 0), (30, 2, 5), (0, 4, 0), (1, 2, 0), (0, 3, 0), (1, 1, 0), (32, 2, 0)] := rfl
theorem bq61_2 : blk 61 2 = [(5, 3, 1), (31, 1, 0)] := rfl
theorem bq61_3 : blk 61 3 = [(0, 1, 0), (37, 0, 0)] := rfl
theorem rc_61_0 (l : List AV) : rcvb 61 (.inr (.inr 0) :: l) = true := rfl
theorem mx_61 : mxl 61 = 5 := rfl
theorem bq62_0 : blk 62 0 = [(47, 0, 0), (22, 0, 7), (0, 1, 0), (52, 2, 1), (29, 1, 0), (0, 1, 0), (0, 2, 0), (30, 1, 0), (0, 2, 0), (3, 0, (-1)), (30, 2, 0), (47, 0, 0), (22, 0, 7), (0, 2, 0), (52, 2, 1), (29, 2, 1), (32, 1, 0)] := rfl
theorem bq62_1 : blk 62 1 = [(3, 0, (-1)), (37, 0, 0)] := rfl
theorem bq62_2 : blk 62 2 = [(0, 3, 0), (3, 0, 1), (3, 0, 99), (53, 76, 1), (29, 3, 0), (0, 4, 0), (3, 0, 1), (3, 0, 5), (53, 76, 1), (29, 3, 0), (47, 0, 0), (22, 2, 7), (22, 8, 6), (3, 0, 12), (30, 4, 2), (32, 3, 0)] := rfl
theorem bq62_3 : blk 62 3 = [(3, 0, (-1)), (37, 0, 0)] := rfl
theorem bq62_4 : blk 62 4 = [(47, 0, 0), (22, 2, 7), (0, 1, 0), (0, 2, 0), (0, 3, 0), (0, 4, 0), (55, 51, 1), (1, 5, 0), (47, 0, 0), (22, 6, 7), (51, 12, 0), (0, 5, 0), (37, 0, 0)] := rfl
theorem rc_62_0 (l : List AV) : rcvb 62 (.inr (.inr 0) :: l) = true := rfl
theorem mx_62 : mxl 62 = 6 := rfl
theorem bq63_0 : blk 63 0 = [(0, 1, 0), (3, 0, 0), (3, 0, 100), (53, 76, 1), (29, 1, 1), (3, 0, (-1)), (37, 0, 0)] := rfl
theorem bq63_1 : blk 63 1 = [(3, 0, 0), (1, 2, 0), (32, 2, 0)] := rfl
theorem bq63_2 : blk 63 2 = [(0, 2, 0), (0, 1, 0), (30, 3, 3), (47, 0, 0), (22, 4, 7), (22, 2, 3), (3, 0, 100), (30, 3, 3), (47, 0, 0), (22, 4, 7), (47, 0, 0), (22, 0, 7), (47, 0, 0), (22, 1, 7), (53, 38, 0), (5, 2, 1), (31, 2, 0)] := rfl
theorem bq63_3 : blk 63 3 = [(47, 0, 0), (51, 82, 0), (47, 0, 0), (22, 4, 7), (22, 2, 3), (37, 0, 0)] := rfl
theorem rc_63_0 (l : List AV) : rcvb 63 (.inr (.inr 0) :: l) = true := rfl
theorem mx_63 : mxl 63 = 3 := rfl
theorem bq64_0 : blk 64 0 = [(47, 0, 0), (22, 0, 7), (0, 1, 0), (52, 2, 1), (29, 1, 0), (0, 2, 0), (3, 0, 0), (3, 0, 500), (53, 76, 1), (29, 2, 1), (32, 1, 0)] := rfl
theorem bq64_1 : blk 64 1 = [(3, 0, 0), (37, 0, 1)] := rfl
theorem bq64_2 : blk 64 2 = [(47, 0, 0), (22, 0, 7), (22, 4, 0), (0, 1, 0), (0, 2, 0), (25, 0, 0), (47, 0, 0), (22, 6, 7), (51, 12, 0), (3, 0, 1), (37, 0, 1)] := rfl
theorem rc_64_0 (l : List AV) : rcvb 64 (.inr (.inr 0) :: l) = true := rfl
theorem mx_64 : mxl 64 = 3 := rfl
theorem bq65_0 : blk 65 0 = [(47, 0, 0), (22, 0, 7), (0, 1, 0), (52, 1, 1), (29, 1, 1), (3, 0, (-1)), (37, 0, 0)] := rfl
theorem bq65_1 : blk 65 1 = [(47, 0, 0), (22, 0, 7), (22, 0, 0), (0, 1, 0), (46, 0, 0), (1, 3, 0), (0, 2, 0), (36, 1, 0)] := rfl
theorem bq65_2 : blk 65 2 = [(47, 0, 0), (22, 4, 7), (22, 0, 3), (0, 1, 0), (24, 0, 0), (37, 0, 0)] := rfl
theorem bq65_3 : blk 65 3 = [(47, 0, 0), (22, 4, 7), (47, 0, 0), (22, 0, 7), (0, 1, 0), (53, 34, 1), (37, 0, 0)] := rfl
theorem bq65_4 : blk 65 4 = [(47, 0, 0), (22, 0, 7), (22, 1, 0), (0, 1, 0), (24, 0, 0), (37, 0, 0)] := rfl
theorem bq65_5 : blk 65 5 = [(47, 0, 0), (22, 0, 7), (22, 2, 0), (0, 1, 0), (24, 0, 0), (37, 0, 0)] := rfl
theorem bq65_6 : blk 65 6 = [(0, 3, 0), (29, 7, 0), (3, 0, (-1)), (31, 8, 0)] := rfl
theorem bq65_7 : blk 65 7 = [(47, 0, 0), (22, 0, 7), (22, 3, 0), (0, 1, 0), (24, 0, 0), (32, 8, 0)] := rfl
theorem bq65_8 : blk 65 8 = [(37, 0, 0)] := rfl
theorem bq65_9 : blk 65 9 = [(0, 3, 0), (29, 10, 0), (47, 0, 0), (22, 0, 7), (22, 4, 0), (0, 1, 0), (24, 0, 0), (31, 11, 0)] := rfl
theorem bq65_10 : blk 65 10 = [(3, 0, (-1)), (32, 11, 0)] := rfl
theorem bq65_11 : blk 65 11 = [(37, 0, 0)] := rfl
theorem bq65_12 : blk 65 12 = [(0, 3, 0), (29, 13, 0), (47, 0, 0), (22, 0, 7), (22, 5, 0), (0, 1, 0), (24, 0, 0), (31, 14, 0)] := rfl
theorem bq65_13 : blk 65 13 = [(3, 0, (-1)), (32, 14, 0)] := rfl
theorem bq65_14 : blk 65 14 = [(37, 0, 0)] := rfl
theorem bq65_15 : blk 65 15 = [(47, 0, 0), (22, 4, 7), (47, 0, 0), (22, 0, 7), (0, 1, 0), (53, 35, 1), (29, 16, 0), (3, 0, 1), (31, 17, 0)] := rfl
theorem bq65_16 : blk 65 16 = [(3, 0, 0), (32, 17, 0)] := rfl
theorem bq65_17 : blk 65 17 = [(37, 0, 0)] := rfl
theorem bq65_18 : blk 65 18 = [(3, 0, (-1)), (37, 0, 0)] := rfl
theorem rc_65_0 (l : List AV) : rcvb 65 (.inr (.inr 0) :: l) = true := rfl
theorem mx_65 : mxl 65 = 4 := rfl
theorem bq66_0 : blk 66 0 = [(47, 0, 0), (22, 1, 7), (0, 1, 0), (52, 7, 1), (29, 1, 1), (3, 0, (-1)), (37, 0, 0)] := rfl
theorem bq66_1 : blk 66 1 = [(0, 2, 0), (36, 2, 0)] := rfl
theorem bq66_2 : blk 66 2 = [(47, 0, 0), (22, 4, 7), (47, 0, 0), (22, 1, 7), (0, 1, 0), (53, 36, 1), (37, 0, 0)] := rfl
theorem bq66_3 : blk 66 3 = [(47, 0, 0), (22, 4, 7), (22, 1, 3), (0, 1, 0), (24, 0, 0), (37, 0, 0)] := rfl
theorem bq66_4 : blk 66 4 = [(47, 0, 0), (22, 1, 7), (0, 1, 0), (47, 0, 0), (22, 4, 7), (22, 2, 3), (53, 11, 1), (37, 0, 0)] := rfl
theorem bq66_5 : blk 66 5 = [(47, 0, 0), (0, 1, 0), (52, 78, 1), (29, 6, 0), (3, 0, 1), (31, 7, 0)] := rfl
theorem bq66_6 : blk 66 6 = [(3, 0, 0), (32, 7, 0)] := rfl
theorem bq66_7 : blk 66 7 = [(37, 0, 0)] := rfl
theorem bq66_8 : blk 66 8 = [(3, 0, (-1)), (37, 0, 0)] := rfl
theorem rc_66_0 (l : List AV) : rcvb 66 (.inr (.inr 0) :: l) = true := rfl
theorem mx_66 : mxl 66 = 3 := rfl
theorem bq67_0 : blk 67 0 = [(47, 0, 0), (22, 0, 7), (0, 1, 0), (52, 2, 1), (29, 1, 1), (3, 0, (-1)), (37, 0, 0)] := rfl
theorem bq67_1 : blk 67 1 = [(47, 0, 0), (22, 5, 7), (47, 0, 0), (22, 0, 7), (47, 0, 0), (22, 1, 7), (47, 0, 0), (22, 4, 7), (54, 44, 0), (47, 0, 0), (22, 5, 7), (47, 0, 0), (22, 0, 7), (0, 1, 0), (47, 0, 0), (22, 4, 7), (22, 2, 3), (54, 47, 1), (37, 0, 0)] := rfl
theorem rc_67_0 (l : List AV) : rcvb 67 (.inr (.inr 0) :: l) = true := rfl
theorem mx_67 : mxl 67 = 2 := rfl
theorem bq68_0 : blk 68 0 = [(47, 0, 0), (22, 0, 7), (0, 1, 0), (52, 1, 1), (29, 1, 0), (0, 2, 0), (47, 0, 0), (22, 4, 7), (22, 2, 3), (3, 0, 100), (53, 76, 1), (29, 2, 1), (32, 1, 0)] := rfl
theorem bq68_1 : blk 68 1 = [(3, 0, (-1)), (37, 0, 0)] := rfl
theorem bq68_2 : blk 68 2 = [(47, 0, 0), (22, 5, 7), (47, 0, 0), (22, 0, 7), (47, 0, 0), (22, 1, 7), (47, 0, 0), (22, 4, 7), (54, 44, 0), (47, 0, 0), (22, 5, 7), (0, 1, 0), (0, 2, 0), (53, 45, 1), (37, 0, 0)] := rfl
theorem rc_68_0 (l : List AV) : rcvb 68 (.inr (.inr 0) :: l) = true := rfl
theorem mx_68 : mxl 68 = 3 := rfl
theorem bq69_0 : blk 69 0 = [(47, 0, 0), (22, 5, 7), (47, 0, 0), (22, 0, 7), (47, 0, 0), (22, 1, 7), (47, 0, 0), (22, 4, 7), (54, 48, 1), (37, 0, 0)] := rfl
theorem rc_69_0 (l : List AV) : rcvb 69 (.inr (.inr 0) :: l) = true := rfl
theorem mx_69 : mxl 69 = 1 := rfl
theorem bq70_0 : blk 70 0 = [(3, 0, (-1)), (1, 2, 0), (3, 0, 0), (1, 3, 0), (3, 0, 0), (1, 4, 0), (32, 1, 0)] := rfl
theorem bq70_1 : blk 70 1 = [(0, 4, 0), (47, 0, 0), (22, 1, 7), (22, 8, 1), (30, 4, 3), (47, 0, 0), (0, 4, 0), (0, 1, 0), (53, 79, 1), (29, 3, 0), (47, 0, 0), (0, 4, 0), (0, 1, 0), (53, 81, 1), (1, 5, 0), (0, 2, 0), (3, 0, (-1)), (30, 2, 0), (0, 5, 0), (0, 3, 0), (30, 3, 3), (32, 2, 0)] := rfl
theorem bq70_2 : blk 70 2 = [(0, 4, 0), (1, 2, 0), (0, 5, 0), (1, 3, 0), (32, 3, 0)] := rfl
theorem bq70_3 : blk 70 3 = [(5, 4, 1), (31, 1, 0)] := rfl
theorem bq70_4 : blk 70 4 = [(0, 2, 0), (37, 0, 0)] := rfl
theorem rc_70_0 (l : List AV) : rcvb 70 (.inr (.inr 0) :: l) = true := rfl
theorem mx_70 : mxl 70 = 6 := rfl
theorem bq71_0 : blk 71 0 = [(0, 1, 0), (47, 0, 0), (22, 4, 7), (22, 2, 3), (3, 0, 100), (53, 76, 1), (29, 1, 1), (3, 0, (-1)), (37, 0, 0)] := rfl
theorem bq71_1 : blk 71 1 = [(47, 0, 0), (51, 83, 0), (47, 0, 0), (22, 6, 7), (47, 0, 0), (22, 2, 7), (0, 1, 0), (53, 14, 0), (47, 0, 0), (22, 6, 7), (22, 0, 2), (0, 1, 0), (24, 0, 0), (37, 0, 0)] := rfl
theorem rc_71_0 (l : List AV) : rcvb 71 (.inr (.inr 0) :: l) = true := rfl
theorem mx_71 : mxl 71 = 2 := rfl
theorem bq72_0 : blk 72 0 = [(47, 0, 0), (51, 83, 0), (47, 0, 0), (22, 6, 7), (47, 0, 0), (22, 2, 7), (3, 0, 100), (53, 14, 0), (47, 0, 0), (22, 6, 7), (51, 15, 1), (37, 0, 0)] := rfl
theorem rc_72_0 (l : List AV) : rcvb 72 (.inr (.inr 0) :: l) = true := rfl
theorem mx_72 : mxl 72 = 1 := rfl
theorem bq73_0 : blk 73 0 = [(0, 1, 0), (47, 0, 0), (22, 4, 7), (22, 2, 3), (3, 0, 100), (53, 76, 1), (29, 1, 1), (3, 0, (-1)), (37, 0, 0)] := rfl
theorem bq73_1 : blk 73 1 = [(47, 0, 0), (0, 1, 0), (52, 84, 0), (47, 0, 0), (22, 6, 7), (22, 16, 2), (37, 0, 0)] := rfl
theorem rc_73_0 (l : List AV) : rcvb 73 (.inr (.inr 0) :: l) = true := rfl
theorem mx_73 : mxl 73 = 2 := rfl
theorem bq74_0 : blk 74 0 = [(0, 1, 0), (47, 0, 0), (22, 4, 7), (22, 2, 3), (3, 0, 100), (53, 76, 1), (29, 1, 0), (0, 3, 0), (3, 0, 0), (3, 0, 1), (53, 76, 1), (29, 2, 1), (32, 1, 0)] := rfl
theorem bq74_1 : blk 74 1 = [(3, 0, (-1)), (37, 0, 0)] := rfl
theorem bq74_2 : blk 74 2 = [(47, 0, 0), (0, 1, 0), (52, 84, 0), (0, 2, 0), (29, 3, 2), (0, 2, 0), (47, 0, 0), (22, 6, 7), (22, 16, 2), (30, 4, 2), (32, 3, 0)] := rfl
theorem bq74_3 : blk 74 3 = [(3, 0, (-1)), (37, 0, 0)] := rfl
theorem bq74_4 : blk 74 4 = [(0, 3, 0), (29, 5, 1), (47, 0, 0), (22, 6, 7), (0, 2, 0), (52, 31, 1), (31, 6, 0)] := rfl
theorem bq74_5 : blk 74 5 = [(47, 0, 0), (22, 6, 7), (0, 2, 0), (52, 32, 1), (32, 6, 0)] := rfl
theorem bq74_6 : blk 74 6 = [(37, 0, 0)] := rfl
theorem rc_74_0 (l : List AV) : rcvb 74 (.inr (.inr 0) :: l) = true := rfl
theorem mx_74 : mxl 74 = 4 := rfl
theorem bq75_0 : blk 75 0 = [(0, 1, 0), (36, 3, 0)] := rfl
theorem bq75_1 : blk 75 1 = [(47, 0, 0), (22, 4, 7), (22, 2, 3), (37, 0, 0)] := rfl
theorem bq75_2 : blk 75 2 = [(47, 0, 0), (22, 0, 7), (22, 8, 0), (37, 0, 0)] := rfl
theorem bq75_3 : blk 75 3 = [(47, 0, 0), (22, 1, 7), (22, 8, 1), (37, 0, 0)] := rfl
theorem bq75_4 : blk 75 4 = [(47, 0, 0), (22, 2, 7), (22, 8, 6), (37, 0, 0)] := rfl
theorem bq75_5 : blk 75 5 = [(47, 0, 0), (22, 7, 7), (37, 0, 0)] := rfl
theorem bq75_6 : blk 75 6 = [(47, 0, 0), (51, 80, 1), (37, 0, 0)] := rfl
theorem bq75_7 : blk 75 7 = [(47, 0, 0), (22, 4, 7), (51, 37, 1), (37, 0, 0)] := rfl
theorem bq75_8 : blk 75 8 = [(47, 0, 0), (22, 4, 7), (22, 3, 3), (37, 0, 0)] := rfl
theorem bq75_9 : blk 75 9 = [(47, 0, 0), (22, 4, 7), (22, 4, 3), (37, 0, 0)] := rfl
theorem bq75_10 : blk 75 10 = [(47, 0, 0), (22, 4, 7), (22, 5, 3), (37, 0, 0)] := rfl
theorem bq75_11 : blk 75 11 = [(3, 0, (-1)), (37, 0, 0)] := rfl
theorem rc_75_0 (l : List AV) : rcvb 75 (.inr (.inr 0) :: l) = true := rfl
theorem mx_75 : mxl 75 = 2 := rfl
theorem bq76_0 : blk 76 0 = [(0, 0, 0), (0, 1, 0), (30, 1, 2), (0, 0, 0), (0, 2, 0), (30, 1, 4), (3, 0, 1), (31, 2, 0)] := rfl
theorem bq76_1 : blk 76 1 = [(3, 0, 0), (32, 2, 0)] := rfl
theorem bq76_2 : blk 76 2 = [(37, 0, 1)] := rfl
theorem rc_76 (l : List AV) : rcvb 76 l = true := rfl
theorem mx_76 : mxl 76 = 3 := rfl
theorem bq77_0 : blk 77 0 = [(0, 1, 0), (47, 0, 0), (22, 4, 7), (22, 2, 3), (30, 1, 2), (0, 1, 0), (3, 0, 100), (30, 1, 3), (3, 0, 1), (31, 2, 0)] := rfl
theorem bq77_1 : blk 77 1 = [(3, 0, 0), (32, 2, 0)] := rfl
theorem bq77_2 : blk 77 2 = [(37, 0, 1)] := rfl
theorem rc_77_0 (l : List AV) : rcvb 77 (.inr (.inr 0) :: l) = true := rfl
theorem mx_77 : mxl 77 = 2 := rfl
theorem bq78_0 : blk 78 0 = [(47, 0, 0), (22, 1, 7), (0, 1, 0), (47, 0, 0), (22, 4, 7), (22, 2, 3), (3, 0, 1), (7, 0, 0), (53, 9, 1), (37, 0, 1)] := rfl
theorem rc_78_0 (l : List AV) : rcvb 78 (.inr (.inr 0) :: l) = true := rfl
theorem mx_78 : mxl 78 = 2 := rfl
theorem bq79_0 : blk 79 0 = [(47, 0, 0), (22, 1, 7), (0, 1, 0), (52, 7, 1), (29, 1, 0), (0, 2, 0), (3, 0, 1), (47, 0, 0), (22, 7, 7), (53, 76, 1), (29, 1, 0), (47, 0, 0), (47, 0, 0), (22, 4, 7), (22, 2, 3), (47, 0, 0), (22, 1, 7), (22, 4, 1), (0, 1, 0), (24, 0, 0), (6, 0, 0), (52, 77, 1), (29, 1, 0), (3, 0, 1), (31, 2, 0)] := rfl
theorem bq79_1 : blk 79 1 = [(3, 0, 0), (32, 2, 0)] := rfl
theorem bq79_2 : blk 79 2 = [(37, 0, 1)] := rfl
theorem rc_79_0 (l : List AV) : rcvb 79 (.inr (.inr 0) :: l) = true := rfl
theorem mx_79 : mxl 79 = 3 := rfl
theorem bq80_0 : blk 80 0 = [(3, 0, 0), (1, 1, 0), (3, 0, 0), (1, 2, 0), (32, 1, 0)] := rfl
theorem bq80_1 : blk 80 1 = [(0, 2, 0), (47, 0, 0), (22, 1, 7), (22, 8, 1), (30, 2, 3), (0, 1, 0), (47, 0, 0), (22, 1, 7), (0, 2, 0), (47, 0, 0), (22, 4, 7), (22, 2, 3), (53, 11, 1), (6, 0, 0), (1, 1, 0), (5, 2, 1), (31, 1, 0)] := rfl
theorem bq80_2 : blk 80 2 = [(0, 1, 0), (37, 0, 0)] := rfl
theorem rc_80_0 (l : List AV) : rcvb 80 (.inr (.inr 0) :: l) = true := rfl
theorem mx_80 : mxl 80 = 3 := rfl
theorem bq81_0 : blk 81 0 = [(47, 0, 0), (22, 4, 7), (22, 2, 3), (47, 0, 0), (22, 1, 7), (22, 4, 1), (0, 1, 0), (24, 0, 0), (6, 0, 0), (1, 3, 0), (47, 0, 0), (22, 1, 7), (0, 1, 0), (0, 3, 0), (0, 2, 0), (54, 10, 0), (47, 0, 0), (22, 5, 7), (47, 0, 0), (22, 0, 7), (47, 0, 0), (22, 1, 7), (47, 0, 0), (22, 4, 7), (54, 48, 1), (1, 4, 0), (47, 0, 0), (22, 1, 7), (0, 1, 0), (0, 3, 0), (0, 2, 0), (15, 0, 0), (54, 10, 0), (0, 4, 0), (37, 0, 0)] := rfl
theorem rc_81_0 (l : List AV) : rcvb 81 (.inr (.inr 0) :: l) = true := rfl
theorem mx_81 : mxl 81 = 5 := rfl
theorem bq82_0 : blk 82 0 = [(47, 0, 0), (22, 5, 7), (51, 43, 0), (47, 0, 0), (22, 6, 7), (51, 12, 0), (38, 0, 0)] := rfl
theorem rc_82_0 (l : List AV) : rcvb 82 (.inr (.inr 0) :: l) = true := rfl
theorem mx_82 : mxl 82 = 1 := rfl
theorem bq83_0 : blk 83 0 = [(47, 0, 0), (22, 6, 7), (22, 17, 2), (29, 1, 1), (47, 0, 0), (22, 5, 7), (47, 0, 0), (22, 0, 7), (47, 0, 0), (22, 1, 7), (47, 0, 0), (22, 4, 7), (54, 44, 0), (47, 0, 0), (22, 6, 7), (47, 0, 0), (22, 0, 7), (47, 0, 0), (22, 5, 7), (47, 0, 0), (22, 4, 7), (22, 2, 3), (54, 13, 0), (32, 1, 0)] := rfl
theorem bq83_1 : blk 83 1 = [(38, 0, 0)] := rfl
theorem rc_83_0 (l : List AV) : rcvb 83 (.inr (.inr 0) :: l) = true := rfl
theorem mx_83 : mxl 83 = 1 := rfl
theorem bq84_0 : blk 84 0 = [(47, 0, 0), (22, 6, 7), (22, 17, 2), (29, 1, 0), (47, 0, 0), (22, 6, 7), (22, 15, 2), (0, 1, 0), (30, 1, 1), (38, 0, 0)] := rfl
theorem bq84_1 : blk 84 1 = [(47, 0, 0), (22, 6, 7), (22, 14, 2), (0, 1, 0), (30, 2, 5), (47, 0, 0), (22, 6, 7), (51, 12, 0), (32, 2, 0)] := rfl
theorem bq84_2 : blk 84 2 = [(47, 0, 0), (51, 83, 0), (47, 0, 0), (22, 6, 7), (47, 0, 0), (22, 2, 7), (0, 1, 0), (53, 14, 0), (47, 0, 0), (22, 6, 7), (47, 0, 0), (22, 2, 7), (0, 1, 0), (53, 27, 0), (38, 0, 0)] := rfl
theorem rc_84_0 (l : List AV) : rcvb 84 (.inr (.inr 0) :: l) = true := rfl
theorem mx_84 : mxl 84 = 2 := rfl
theorem bq85_0 : blk 85 0 = [(0, 0, 0), (0, 1, 0), (30, 1, 2), (0, 0, 0), (0, 2, 0), (30, 1, 4), (3, 0, 1), (31, 2, 0)] := rfl
theorem bq85_1 : blk 85 1 = [(3, 0, 0), (32, 2, 0)] := rfl
theorem bq85_2 : blk 85 2 = [(37, 0, 1)] := rfl
theorem rc_85 (l : List AV) : rcvb 85 l = true := rfl
theorem mx_85 : mxl 85 = 3 := rfl
theorem bq86_0 : blk 86 0 = [(0, 1, 0), (3, 0, 0), (47, 0, 0), (22, 1, 8), (3, 0, 1), (7, 0, 0), (53, 85, 1), (37, 0, 1)] := rfl
theorem rc_86_50 (l : List AV) : rcvb 86 (.inr (.inr 50) :: l) = true := rfl
theorem mx_86 : mxl 86 = 2 := rfl
theorem bq87_0 : blk 87 0 = [(47, 0, 0), (0, 1, 0), (52, 86, 1), (29, 1, 0), (47, 0, 0), (22, 2, 8), (0, 1, 0), (46, 0, 0), (29, 1, 0), (3, 0, 1), (31, 2, 0)] := rfl
theorem bq87_1 : blk 87 1 = [(3, 0, 0), (32, 2, 0)] := rfl
theorem bq87_2 : blk 87 2 = [(37, 0, 1)] := rfl
theorem rc_87_50 (l : List AV) : rcvb 87 (.inr (.inr 50) :: l) = true := rfl
theorem mx_87 : mxl 87 = 2 := rfl
theorem bq88_0 : blk 88 0 = [(0, 1, 0), (3, 0, 0), (47, 0, 0), (22, 9, 8), (3, 0, 1), (7, 0, 0), (53, 85, 1), (37, 0, 1)] := rfl
theorem rc_88_50 (l : List AV) : rcvb 88 (.inr (.inr 50) :: l) = true := rfl
theorem mx_88 : mxl 88 = 2 := rfl
theorem bq89_0 : blk 89 0 = [(47, 0, 0), (22, 3, 8), (47, 0, 0), (22, 1, 8), (0, 1, 0), (25, 0, 0), (47, 0, 0), (22, 4, 8), (47, 0, 0), (22, 1, 8), (0, 2, 0), (25, 0, 0), (47, 0, 0), (33, 0, 0), (22, 1, 8), (3, 0, 1), (6, 0, 0), (23, 1, 8), (47, 0, 0), (22, 1, 8), (3, 0, 1), (7, 0, 0), (37, 0, 0)] := rfl
theorem rc_89_50 (l : List AV) : rcvb 89 (.inr (.inr 50) :: l) = true := rfl
theorem mx_89 : mxl 89 = 3 := rfl
theorem bq90_0 : blk 90 0 = [(0, 1, 0), (3, 0, 1), (3, 0, 1000), (53, 85, 1), (29, 1, 0), (0, 2, 0), (3, 0, 0), (3, 0, 1000), (53, 85, 1), (29, 1, 0), (0, 3, 0), (3, 0, 0), (3, 0, 100), (53, 85, 1), (29, 1, 0), (47, 0, 0), (22, 1, 8), (3, 0, 10), (30, 2, 1), (32, 1, 0)] := rfl
theorem bq90_1 : blk 90 1 = [(3, 0, (-1)), (37, 0, 0)] := rfl
theorem bq90_2 : blk 90 2 = [(47, 0, 0), (22, 5, 8), (47, 0, 0), (22, 1, 8), (0, 3, 0), (25, 0, 0), (47, 0, 0), (0, 1, 0), (0, 2, 0), (53, 89, 1), (37, 0, 0)] := rfl
theorem rc_90_50 (l : List AV) : rcvb 90 (.inr (.inr 50) :: l) = true := rfl
theorem mx_90 : mxl 90 = 4 := rfl
theorem bq91_0 : blk 91 0 = [(0, 1, 0), (3, 0, 1), (3, 0, 1000), (53, 85, 1), (29, 1, 0), (0, 2, 0), (3, 0, 0), (3, 0, 1000), (53, 85, 1), (29, 1, 0), (0, 3, 0), (3, 0, 0), (3, 0, 500), (53, 85, 1), (29, 1, 0), (0, 4, 0), (3, 0, 0), (3, 0, 1000000), (53, 85, 1), (29, 1, 0), (47, 0, 0), (22, 1, 8), (3, 0, 10), (30, 2, 1), (32, 1, 0)] := rfl
theorem bq91_1 : blk 91 1 = [(3, 0, (-1)), (37, 0, 0)] := rfl
theorem bq91_2 : blk 91 2 = [(47, 0, 0), (22, 2, 8), (47, 0, 0), (22, 1, 8), (3, 0, 1), (26, 0, 0), (47, 0, 0), (22, 6, 8), (47, 0, 0), (22, 1, 8), (0, 3, 0), (25, 0, 0), (47, 0, 0), (22, 7, 8), (47, 0, 0), (22, 1, 8), (0, 4, 0), (25, 0, 0), (47, 0, 0), (0, 1, 0), (0, 2, 0), (53, 89, 1), (37, 0, 0)] := rfl
theorem rc_91_50 (l : List AV) : rcvb 91 (.inr (.inr 50) :: l) = true := rfl
theorem mx_91 : mxl 91 = 5 := rfl
theorem bq92_0 : blk 92 0 = [(47, 0, 0), (0, 1, 0), (52, 86, 1), (29, 1, 0), (47, 0, 0), (0, 2, 0), (52, 86, 1), (29, 1, 0), (0, 1, 0), (0, 2, 0), (30, 1, 0), (0, 3, 0), (3, 0, 0), (3, 0, 2000), (53, 85, 1), (29, 1, 0), (0, 4, 0), (3, 0, 1), (3, 0, 1000), (53, 85, 1), (29, 1, 0), (0, 5, 0), (3, 0, 0), (3, 0, 20), (53, 85, 1), (29, 1, 0), (47, 0, 0), (22, 9, 8), (3, 0, 12), (30, 2, 1), (32, 1, 0)] := rfl
theorem bq92_1 : blk 92 1 = [(3, 0, (-1)), (37, 0, 0)] := rfl
theorem bq92_2 : blk 92 2 = [(47, 0, 0), (22, 10, 8), (47, 0, 0), (22, 9, 8), (0, 1, 0), (25, 0, 0), (47, 0, 0), (22, 11, 8), (47, 0, 0), (22, 9, 8), (0, 2, 0), (25, 0, 0), (47, 0, 0), (22, 12, 8), (47, 0, 0), (22, 9, 8), (0, 3, 0), (25, 0, 0), (47, 0, 0), (22, 13, 8), (47, 0, 0), (22, 9, 8), (0, 4, 0), (25, 0, 0), (47, 0, 0), (22, 14, 8), (47, 0, 0), (22, 9, 8), (0, 5, 0), (25, 0, 0), (47, 0, 0), (22, 15, 8), (47, 0, 0), (22, 9, 8), (3, 0, (-1)), (25, 0, 0), (47, 0, 0), (33, 0, 0), (22, 9, 8), (3, 0, 1), (6, 0, 0), (23, 9, 8), (47, 0, 0), (22, 9, 8), (3, 0, 1), (7, 0, 0), (37, 0, 0)] := rfl
theorem rc_92_50 (l : List AV) : rcvb 92 (.inr (.inr 50) :: l) = true := rfl
theorem mx_92 : mxl 92 = 6 := rfl
theorem bq93_0 : blk 93 0 = [(47, 0, 0), (22, 15, 8), (0, 1, 0), (24, 0, 0), (3, 0, (-1)), (30, 1, 0), (47, 0, 0), (22, 15, 8), (0, 1, 0), (24, 0, 0), (0, 2, 0), (30, 1, 4), (3, 0, 1), (31, 2, 0)] := rfl
theorem bq93_1 : blk 93 1 = [(3, 0, 0), (32, 2, 0)] := rfl
theorem bq93_2 : blk 93 2 = [(37, 0, 1)] := rfl
theorem rc_93_50 (l : List AV) : rcvb 93 (.inr (.inr 50) :: l) = true := rfl
theorem mx_93 : mxl 93 = 3 := rfl
theorem bq94_0 : blk 94 0 = [(47, 0, 0), (0, 1, 0), (52, 88, 1), (29, 1, 0), (0, 2, 0), (47, 0, 0), (22, 0, 8), (3, 0, 99), (53, 85, 1), (29, 1, 0), (0, 3, 0), (3, 0, 0), (47, 0, 0), (22, 12, 8), (0, 1, 0), (24, 0, 0), (53, 85, 1), (29, 1, 0), (47, 0, 0), (0, 1, 0), (47, 0, 0), (22, 0, 8), (3, 0, 1), (7, 0, 0), (53, 93, 1), (29, 2, 0), (32, 1, 0)] := rfl
theorem bq94_1 : blk 94 1 = [(3, 0, 0), (37, 0, 1)] := rfl
theorem bq94_2 : blk 94 2 = [(47, 0, 0), (22, 15, 8), (0, 1, 0), (0, 2, 0), (25, 0, 0), (47, 0, 0), (22, 16, 8), (0, 1, 0), (0, 3, 0), (25, 0, 0), (3, 0, 1), (37, 0, 1)] := rfl
theorem rc_94_50 (l : List AV) : rcvb 94 (.inr (.inr 50) :: l) = true := rfl
theorem mx_94 : mxl 94 = 4 := rfl
theorem bq95_0 : blk 95 0 = [(0, 1, 0), (47, 0, 0), (22, 0, 8), (3, 0, 99), (53, 85, 1), (29, 1, 0), (0, 2, 0), (3, 0, 0), (3, 0, 1000000), (53, 85, 1), (29, 2, 1), (32, 1, 0)] := rfl
theorem bq95_1 : blk 95 1 = [(3, 0, 0), (37, 0, 1)] := rfl
theorem bq95_2 : blk 95 2 = [(47, 0, 0), (22, 8, 8), (0, 1, 0), (0, 2, 0), (25, 0, 0), (3, 0, 1), (37, 0, 1)] := rfl
theorem rc_95_50 (l : List AV) : rcvb 95 (.inr (.inr 50) :: l) = true := rfl
theorem mx_95 : mxl 95 = 3 := rfl
theorem bq96_0 : blk 96 0 = [(0, 1, 0), (3, 0, 1), (3, 0, 10000), (53, 85, 1), (29, 1, 0), (47, 0, 0), (22, 18, 8), (0, 1, 0), (6, 0, 0), (3, 0, 100000), (30, 2, 5), (32, 1, 0)] := rfl
theorem bq96_1 : blk 96 1 = [(3, 0, (-1)), (37, 0, 0)] := rfl
theorem bq96_2 : blk 96 2 = [(47, 0, 0), (33, 0, 0), (22, 18, 8), (0, 1, 0), (6, 0, 0), (23, 18, 8), (47, 0, 0), (22, 18, 8), (37, 0, 0)] := rfl
theorem rc_96_50 (l : List AV) : rcvb 96 (.inr (.inr 50) :: l) = true := rfl
theorem mx_96 : mxl 96 = 2 := rfl
theorem bq97_0 : blk 97 0 = [(47, 0, 0), (0, 1, 0), (52, 88, 1), (29, 1, 0), (0, 2, 0), (3, 0, 1), (30, 1, 2), (0, 2, 0), (47, 0, 0), (22, 18, 8), (30, 1, 4), (47, 0, 0), (22, 0, 8), (47, 0, 0), (22, 14, 8), (0, 1, 0), (24, 0, 0), (6, 0, 0), (3, 0, 100), (30, 1, 3), (3, 0, 1), (31, 2, 0)] := rfl
theorem bq97_1 : blk 97 1 = [(3, 0, 0), (32, 2, 0)] := rfl
theorem bq97_2 : blk 97 2 = [(37, 0, 1)] := rfl
theorem rc_97_50 (l : List AV) : rcvb 97 (.inr (.inr 50) :: l) = true := rfl
theorem mx_97 : mxl 97 = 3 := rfl
theorem bq98_0 : blk 98 0 = [(47, 0, 0), (0, 1, 0), (0, 2, 0), (53, 97, 1), (29, 1, 1), (3, 0, (-1)), (37, 0, 0)] := rfl
theorem bq98_1 : blk 98 1 = [(47, 0, 0), (33, 0, 0), (22, 18, 8), (0, 2, 0), (7, 0, 0), (23, 18, 8), (47, 0, 0), (22, 17, 8), (3, 0, 101), (0, 1, 0), (8, 0, 0), (47, 0, 0), (22, 0, 8), (6, 0, 0), (47, 0, 0), (22, 14, 8), (0, 1, 0), (24, 0, 0), (6, 0, 0), (34, 0, 0), (24, 0, 0), (0, 2, 0), (6, 0, 0), (25, 0, 0), (47, 0, 0), (22, 0, 8), (47, 0, 0), (22, 14, 8), (0, 1, 0), (24, 0, 0), (6, 0, 0), (37, 0, 0)] := rfl
theorem rc_98_50 (l : List AV) : rcvb 98 (.inr (.inr 50) :: l) = true := rfl
theorem mx_98 : mxl 98 = 3 := rfl
theorem bq99_0 : blk 99 0 = [(47, 0, 0), (0, 1, 0), (52, 88, 1), (29, 1, 0), (0, 2, 0), (3, 0, 0), (3, 0, 99), (53, 85, 1), (29, 1, 0), (0, 3, 0), (3, 0, 0), (3, 0, 20), (53, 85, 1), (29, 1, 0), (47, 0, 0), (22, 19, 8), (3, 0, 100), (30, 2, 1), (32, 1, 0)] := rfl
theorem bq99_1 : blk 99 1 = [(3, 0, 0), (37, 0, 1)] := rfl
theorem bq99_2 : blk 99 2 = [(47, 0, 0), (22, 20, 8), (47, 0, 0), (22, 19, 8), (0, 1, 0), (25, 0, 0), (47, 0, 0), (22, 21, 8), (47, 0, 0), (22, 19, 8), (0, 2, 0), (25, 0, 0), (47, 0, 0), (22, 22, 8), (47, 0, 0), (22, 19, 8), (47, 0, 0), (22, 0, 8), (0, 3, 0), (6, 0, 0), (25, 0, 0), (47, 0, 0), (33, 0, 0), (22, 19, 8), (3, 0, 1), (6, 0, 0), (23, 19, 8), (3, 0, 1), (37, 0, 1)] := rfl
theorem rc_99_50 (l : List AV) : rcvb 99 (.inr (.inr 50) :: l) = true := rfl
theorem mx_99 : mxl 99 = 4 := rfl
theorem bq100_0 : blk 100 0 = [(3, 0, (-1)), (1, 2, 0), (3, 0, 0), (1, 3, 0), (32, 1, 0)] := rfl
theorem bq100_1 : blk 100 1 = [(0, 3, 0), (47, 0, 0), (22, 19, 8), (30, 3, 3), (47, 0, 0), (22, 20, 8), (0, 3, 0), (24, 0, 0), (0, 1, 0), (30, 2, 1), (47, 0, 0), (22, 22, 8), (0, 3, 0), (24, 0, 0), (47, 0, 0), (22, 0, 8), (30, 2, 4), (47, 0, 0), (22, 21, 8), (0, 3, 0), (24, 0, 0), (1, 2, 0), (32, 2, 0)] := rfl
theorem bq100_2 : blk 100 2 = [(5, 3, 1), (31, 1, 0)] := rfl
theorem bq100_3 : blk 100 3 = [(0, 2, 0), (37, 0, 0)] := rfl
theorem rc_100_50 (l : List AV) : rcvb 100 (.inr (.inr 50) :: l) = true := rfl
theorem mx_100 : mxl 100 = 4 := rfl
theorem bq101_0 : blk 101 0 = [(3, 0, (-1)), (1, 1, 0), (3, 0, 0), (1, 2, 0), (32, 1, 0)] := rfl
theorem bq101_1 : blk 101 1 = [(0, 2, 0), (47, 0, 0), (22, 9, 8), (30, 4, 3), (47, 0, 0), (0, 2, 0), (52, 100, 1), (3, 0, (-1)), (30, 3, 0), (0, 1, 0), (3, 0, (-1)), (30, 2, 0), (47, 0, 0), (0, 2, 0), (52, 100, 1), (47, 0, 0), (0, 1, 0), (52, 100, 1), (30, 3, 5), (32, 2, 0)] := rfl
theorem bq101_2 : blk 101 2 = [(0, 2, 0), (1, 1, 0), (32, 3, 0)] := rfl
theorem bq101_3 : blk 101 3 = [(5, 2, 1), (31, 1, 0)] := rfl
theorem bq101_4 : blk 101 4 = [(0, 1, 0), (37, 0, 0)] := rfl
theorem rc_101_50 (l : List AV) : rcvb 101 (.inr (.inr 50) :: l) = true := rfl
theorem mx_101 : mxl 101 = 3 := rfl
theorem bq102_0 : blk 102 0 = [(47, 0, 0), (0, 1, 0), (52, 87, 1), (29, 2, 0), (0, 2, 0), (3, 0, (-1)), (30, 1, 0), (47, 0, 0), (0, 2, 0), (52, 87, 1), (29, 2, 0), (32, 1, 0)] := rfl
theorem bq102_1 : blk 102 1 = [(0, 1, 0), (0, 2, 0), (30, 2, 0), (0, 3, 0), (3, 0, 1), (3, 0, 99), (53, 85, 1), (29, 2, 0), (0, 4, 0), (3, 0, 1), (3, 0, 5), (53, 85, 1), (29, 2, 0), (47, 0, 0), (22, 23, 8), (3, 0, 12), (30, 3, 1), (32, 2, 0)] := rfl
theorem bq102_2 : blk 102 2 = [(3, 0, (-1)), (37, 0, 0)] := rfl
theorem bq102_3 : blk 102 3 = [(47, 0, 0), (22, 24, 8), (47, 0, 0), (22, 23, 8), (0, 1, 0), (25, 0, 0), (47, 0, 0), (22, 25, 8), (47, 0, 0), (22, 23, 8), (0, 2, 0), (25, 0, 0), (47, 0, 0), (22, 26, 8), (47, 0, 0), (22, 23, 8), (0, 3, 0), (25, 0, 0), (47, 0, 0), (22, 27, 8), (47, 0, 0), (22, 23, 8), (0, 4, 0), (25, 0, 0), (47, 0, 0), (33, 0, 0), (22, 23, 8), (3, 0, 1), (6, 0, 0), (23, 23, 8), (47, 0, 0), (22, 23, 8), (3, 0, 1), (7, 0, 0), (37, 0, 0)] := rfl
theorem rc_102_50 (l : List AV) : rcvb 102 (.inr (.inr 50) :: l) = true := rfl
theorem mx_102 : mxl 102 = 5 := rfl
theorem bq103_0 : blk 103 0 = [(47, 0, 0), (22, 4, 8), (0, 2, 0), (24, 0, 0), (47, 0, 0), (22, 28, 8), (3, 0, 10), (0, 1, 0), (8, 0, 0), (0, 2, 0), (6, 0, 0), (24, 0, 0), (47, 0, 0), (22, 3, 8), (0, 2, 0), (24, 0, 0), (13, 0, 0), (6, 0, 0), (37, 0, 0)] := rfl
theorem rc_103_50 (l : List AV) : rcvb 103 (.inr (.inr 50) :: l) = true := rfl
theorem mx_103 : mxl 103 = 3 := rfl
theorem bq104_0 : blk 104 0 = [(47, 0, 0), (0, 2, 0), (0, 3, 0), (53, 93, 1), (29, 1, 0), (47, 0, 0), (22, 16, 8), (0, 2, 0), (24, 0, 0), (31, 2, 0)] := rfl
theorem bq104_1 : blk 104 1 = [(47, 0, 0), (22, 12, 8), (0, 2, 0), (24, 0, 0), (47, 0, 0), (22, 29, 8), (3, 0, 12), (0, 1, 0), (8, 0, 0), (0, 2, 0), (6, 0, 0), (24, 0, 0), (3, 0, 10), (13, 0, 0), (6, 0, 0), (32, 2, 0)] := rfl
theorem bq104_2 : blk 104 2 = [(37, 0, 0)] := rfl
theorem rc_104_50 (l : List AV) : rcvb 104 (.inr (.inr 50) :: l) = true := rfl
theorem mx_104 : mxl 104 = 4 := rfl
theorem bq105_0 : blk 105 0 = [(3, 0, 0), (1, 3, 0), (32, 1, 0)] := rfl
theorem bq105_1 : blk 105 1 = [(0, 3, 0), (47, 0, 0), (22, 1, 8), (30, 2, 3), (47, 0, 0), (22, 2, 8), (0, 3, 0), (46, 0, 0), (29, 2, 0), (5, 3, 1), (31, 1, 0)] := rfl
theorem bq105_2 : blk 105 2 = [(0, 3, 0), (47, 0, 0), (22, 1, 8), (30, 3, 3), (47, 0, 0), (22, 28, 8), (3, 0, 10), (0, 1, 0), (8, 0, 0), (0, 3, 0), (6, 0, 0), (34, 0, 0), (24, 0, 0), (47, 0, 0), (22, 8, 8), (0, 2, 0), (24, 0, 0), (6, 0, 0), (25, 0, 0), (47, 0, 0), (22, 32, 8), (0, 1, 0), (34, 0, 0), (27, 0, 0), (47, 0, 0), (22, 8, 8), (0, 2, 0), (24, 0, 0), (16, 0, 0), (18, 0, 0), (28, 0, 0), (32, 3, 0)] := rfl
theorem bq105_3 : blk 105 3 = [(3, 0, (-1)), (1, 4, 0), (47, 0, 0), (22, 1, 8), (3, 0, 1), (7, 0, 0), (1, 5, 0), (32, 4, 0)] := rfl
theorem bq105_4 : blk 105 4 = [(0, 5, 0), (29, 9, 2), (47, 0, 0), (22, 2, 8), (0, 5, 0), (46, 0, 0), (29, 5, 0), (31, 8, 0)] := rfl
theorem bq105_5 : blk 105 5 = [(47, 0, 0), (22, 28, 8), (3, 0, 10), (0, 1, 0), (8, 0, 0), (0, 5, 0), (6, 0, 0), (24, 0, 0), (16, 0, 0), (47, 0, 0), (22, 5, 8), (0, 5, 0), (24, 0, 0), (16, 0, 0), (19, 0, 0), (4, 0, 100), (20, 0, 0), (17, 0, 0), (1, 6, 0), (47, 0, 0), (22, 28, 8), (3, 0, 10), (0, 1, 0), (8, 0, 0), (0, 5, 0), (6, 0, 0), (34, 0, 0), (24, 0, 0), (0, 6, 0), (7, 0, 0), (25, 0, 0), (0, 4, 0), (3, 0, (-1)), (30, 6, 1), (47, 0, 0), (22, 31, 8), (0, 1, 0), (34, 0, 0), (27, 0, 0), (0, 6, 0), (16, 0, 0), (18, 0, 0), (28, 0, 0), (31, 7, 0)] := rfl
theorem bq105_6 : blk 105 6 = [(47, 0, 0), (22, 28, 8), (3, 0, 10), (0, 1, 0), (8, 0, 0), (0, 4, 0), (6, 0, 0), (34, 0, 0), (24, 0, 0), (0, 6, 0), (6, 0, 0), (25, 0, 0), (32, 7, 0)] := rfl
theorem bq105_7 : blk 105 7 = [(0, 5, 0), (1, 4, 0), (32, 8, 0)] := rfl
theorem bq105_8 : blk 105 8 = [(5, 5, (-1)), (31, 4, 0)] := rfl
theorem bq105_9 : blk 105 9 = [(3, 0, 0), (1, 5, 0), (32, 10, 0)] := rfl
theorem bq105_10 : blk 105 10 = [(0, 5, 0), (47, 0, 0), (22, 9, 8), (30, 13, 3), (47, 0, 0), (22, 29, 8), (3, 0, 12), (0, 1, 0), (8, 0, 0), (0, 5, 0), (6, 0, 0), (34, 0, 0), (24, 0, 0), (47, 0, 0), (22, 17, 8), (3, 0, 101), (0, 5, 0), (8, 0, 0), (0, 2, 0), (6, 0, 0), (24, 0, 0), (6, 0, 0), (25, 0, 0), (47, 0, 0), (0, 5, 0), (0, 2, 0), (53, 93, 1), (29, 11, 1), (31, 12, 0)] := rfl
theorem bq105_11 : blk 105 11 = [(47, 0, 0), (22, 30, 8), (0, 1, 0), (34, 0, 0), (24, 0, 0), (47, 0, 0), (22, 29, 8), (3, 0, 12), (0, 1, 0), (8, 0, 0), (0, 5, 0), (6, 0, 0), (24, 0, 0), (6, 0, 0), (25, 0, 0), (47, 0, 0), (22, 29, 8), (3, 0, 12), (0, 1, 0), (8, 0, 0), (0, 5, 0), (6, 0, 0), (3, 0, 0), (25, 0, 0), (32, 12, 0)] := rfl
theorem bq105_12 : blk 105 12 = [(5, 5, 1), (31, 10, 0)] := rfl
theorem bq105_13 : blk 105 13 = [(3, 0, 0), (1, 5, 0), (32, 14, 0)] := rfl
theorem bq105_14 : blk 105 14 = [(0, 5, 0), (47, 0, 0), (22, 9, 8), (30, 15, 3), (47, 0, 0), (0, 1, 0), (0, 5, 0), (0, 2, 0), (54, 106, 0), (5, 5, 1), (31, 14, 0)] := rfl
theorem bq105_15 : blk 105 15 = [(38, 0, 0)] := rfl
theorem rc_105_50 (l : List AV) : rcvb 105 (.inr (.inr 50) :: l) = true := rfl
theorem mx_105 : mxl 105 = 7 := rfl
theorem bq106_0 : blk 106 0 = [(47, 0, 0), (22, 10, 8), (0, 2, 0), (24, 0, 0), (1, 4, 0), (47, 0, 0), (22, 11, 8), (0, 2, 0), (24, 0, 0), (1, 5, 0), (47, 0, 0), (0, 1, 0), (0, 4, 0), (53, 103, 1), (47, 0, 0), (0, 1, 0), (0, 5, 0), (53, 103, 1), (30, 1, 5), (0, 4, 0), (31, 2, 0)] := rfl
theorem bq106_1 : blk 106 1 = [(0, 5, 0), (32, 2, 0)] := rfl
theorem bq106_2 : blk 106 2 = [(1, 6, 0), (0, 6, 0), (0, 4, 0), (30, 3, 1), (0, 5, 0), (31, 4, 0)] := rfl
theorem bq106_3 : blk 106 3 = [(0, 4, 0), (32, 4, 0)] := rfl
theorem bq106_4 : blk 106 4 = [(1, 7, 0), (47, 0, 0), (0, 1, 0), (0, 7, 0), (53, 103, 1), (1, 8, 0), (47, 0, 0), (0, 1, 0), (0, 2, 0), (0, 3, 0), (54, 104, 1), (1, 9, 0), (47, 0, 0), (0, 1, 0), (0, 6, 0), (53, 103, 1), (0, 9, 0), (0, 8, 0), (30, 5, 5), (0, 9, 0), (31, 6, 0)] := rfl
theorem bq106_5 : blk 106 5 = [(0, 8, 0), (32, 6, 0)] := rfl
theorem bq106_6 : blk 106 6 = [(7, 0, 0), (1, 10, 0), (0, 10, 0), (29, 7, 4), (38, 0, 0)] := rfl
theorem bq106_7 : blk 106 7 = [(47, 0, 0), (22, 13, 8), (0, 2, 0), (24, 0, 0), (16, 0, 0), (0, 10, 0), (16, 0, 0), (19, 0, 0), (2, 11, 0), (0, 10, 0), (16, 0, 0), (47, 0, 0), (22, 3, 8), (0, 6, 0), (24, 0, 0), (16, 0, 0), (19, 0, 0), (4, 0, 2), (20, 0, 0), (2, 13, 0), (48, 13, 0), (48, 11, 0), (21, 0, 0), (29, 8, 3), (48, 13, 0), (2, 11, 0), (32, 8, 0)] := rfl
theorem bq106_8 : blk 106 8 = [(47, 0, 0), (22, 28, 8), (3, 0, 10), (0, 1, 0), (8, 0, 0), (0, 6, 0), (6, 0, 0), (24, 0, 0), (16, 0, 0), (48, 11, 0), (21, 0, 0), (29, 9, 3), (47, 0, 0), (22, 28, 8), (3, 0, 10), (0, 1, 0), (8, 0, 0), (0, 6, 0), (6, 0, 0), (24, 0, 0), (16, 0, 0), (2, 11, 0), (32, 9, 0)] := rfl
theorem bq106_9 : blk 106 9 = [(47, 0, 0), (22, 28, 8), (3, 0, 10), (0, 1, 0), (8, 0, 0), (0, 6, 0), (6, 0, 0), (34, 0, 0), (24, 0, 0), (48, 11, 0), (17, 0, 0), (7, 0, 0), (25, 0, 0), (47, 0, 0), (22, 28, 8), (3, 0, 10), (0, 1, 0), (8, 0, 0), (0, 7, 0), (6, 0, 0), (34, 0, 0), (24, 0, 0), (48, 11, 0), (17, 0, 0), (6, 0, 0), (25, 0, 0), (38, 0, 0)] := rfl
theorem rc_106_50 (l : List AV) : rcvb 106 (.inr (.inr 50) :: l) = true := rfl
theorem mx_106 : mxl 106 = 15 := rfl
theorem bq107_0 : blk 107 0 = [(0, 1, 0), (3, 0, 0), (3, 0, 100), (53, 85, 1), (29, 1, 1), (3, 0, (-1)), (37, 0, 0)] := rfl
theorem bq107_1 : blk 107 1 = [(3, 0, 0), (1, 2, 0), (32, 2, 0)] := rfl
theorem bq107_2 : blk 107 2 = [(0, 2, 0), (0, 1, 0), (30, 5, 3), (47, 0, 0), (22, 0, 8), (3, 0, 100), (30, 5, 3), (47, 0, 0), (3, 0, 0), (47, 0, 0), (22, 0, 8), (53, 105, 0), (3, 0, 0), (1, 3, 0), (32, 3, 0)] := rfl
theorem bq107_3 : blk 107 3 = [(0, 3, 0), (47, 0, 0), (22, 9, 8), (30, 4, 3), (47, 0, 0), (22, 17, 8), (3, 0, 101), (0, 3, 0), (8, 0, 0), (47, 0, 0), (22, 0, 8), (6, 0, 0), (3, 0, 0), (25, 0, 0), (5, 3, 1), (31, 3, 0)] := rfl
theorem bq107_4 : blk 107 4 = [(47, 0, 0), (33, 0, 0), (22, 0, 8), (3, 0, 1), (6, 0, 0), (23, 0, 8), (5, 2, 1), (31, 2, 0)] := rfl
theorem bq107_5 : blk 107 5 = [(47, 0, 0), (22, 0, 8), (37, 0, 0)] := rfl
theorem rc_107_50 (l : List AV) : rcvb 107 (.inr (.inr 50) :: l) = true := rfl
theorem mx_107 : mxl 107 = 4 := rfl
theorem bq108_0 : blk 108 0 = [(3, 0, 0), (1, 1, 0), (32, 1, 0)] := rfl
theorem bq108_1 : blk 108 1 = [(0, 1, 0), (3, 0, 10), (30, 2, 3), (47, 0, 0), (22, 28, 8), (3, 0, 10), (0, 1, 0), (6, 0, 0), (47, 0, 0), (22, 28, 8), (0, 1, 0), (24, 0, 0), (25, 0, 0), (5, 1, 1), (31, 1, 0)] := rfl
theorem bq108_2 : blk 108 2 = [(3, 0, 0), (1, 1, 0), (32, 3, 0)] := rfl
theorem bq108_3 : blk 108 3 = [(0, 1, 0), (3, 0, 12), (30, 4, 3), (47, 0, 0), (22, 29, 8), (3, 0, 12), (0, 1, 0), (6, 0, 0), (47, 0, 0), (22, 29, 8), (0, 1, 0), (24, 0, 0), (25, 0, 0), (5, 1, 1), (31, 3, 0)] := rfl
theorem bq108_4 : blk 108 4 = [(47, 0, 0), (22, 0, 8), (1, 1, 0), (32, 5, 0)] := rfl
theorem bq108_5 : blk 108 5 = [(0, 1, 0), (3, 0, 100), (30, 9, 4), (3, 0, 0), (1, 2, 0), (32, 6, 0)] := rfl
theorem bq108_6 : blk 108 6 = [(0, 2, 0), (47, 0, 0), (22, 1, 8), (30, 7, 3), (47, 0, 0), (22, 33, 8), (3, 0, 101), (0, 2, 0), (8, 0, 0), (0, 1, 0), (6, 0, 0), (47, 0, 0), (22, 28, 8), (3, 0, 10), (0, 2, 0), (6, 0, 0), (24, 0, 0), (25, 0, 0), (5, 2, 1), (31, 6, 0)] := rfl
theorem bq108_7 : blk 108 7 = [(0, 1, 0), (3, 0, 100), (30, 8, 3), (47, 0, 0), (3, 0, 1), (0, 1, 0), (53, 105, 0), (32, 8, 0)] := rfl
theorem bq108_8 : blk 108 8 = [(5, 1, 1), (31, 5, 0)] := rfl
theorem bq108_9 : blk 108 9 = [(38, 0, 0)] := rfl
theorem rc_108_50 (l : List AV) : rcvb 108 (.inr (.inr 50) :: l) = true := rfl
theorem mx_108 : mxl 108 = 3 := rfl
theorem bq109_0 : blk 109 0 = [(47, 0, 0), (22, 33, 8), (3, 0, 101), (0, 1, 0), (8, 0, 0), (0, 2, 0), (6, 0, 0), (24, 0, 0), (47, 0, 0), (22, 3, 8), (0, 1, 0), (24, 0, 0), (30, 1, 2), (3, 0, 1), (31, 2, 0)] := rfl
theorem bq109_1 : blk 109 1 = [(3, 0, 0), (32, 2, 0)] := rfl
theorem bq109_2 : blk 109 2 = [(37, 0, 1)] := rfl
theorem rc_109_50 (l : List AV) : rcvb 109 (.inr (.inr 50) :: l) = true := rfl
theorem mx_109 : mxl 109 = 3 := rfl
theorem bq110_0 : blk 110 0 = [(47, 0, 0), (0, 1, 0), (52, 87, 1), (29, 1, 0), (0, 2, 0), (3, 0, 0), (3, 0, 500), (53, 85, 1), (29, 2, 1), (32, 1, 0)] := rfl
theorem bq110_1 : blk 110 1 = [(3, 0, 0), (37, 0, 1)] := rfl
theorem bq110_2 : blk 110 2 = [(47, 0, 0), (22, 6, 8), (0, 1, 0), (0, 2, 0), (25, 0, 0), (3, 0, 1), (37, 0, 1)] := rfl
theorem rc_110_50 (l : List AV) : rcvb 110 (.inr (.inr 50) :: l) = true := rfl
theorem mx_110 : mxl 110 = 3 := rfl
theorem bq111_0 : blk 111 0 = [(47, 0, 0), (0, 1, 0), (52, 86, 1), (29, 1, 1), (3, 0, (-1)), (37, 0, 0)] := rfl
theorem bq111_1 : blk 111 1 = [(47, 0, 0), (22, 2, 8), (0, 1, 0), (46, 0, 0), (1, 3, 0), (0, 2, 0), (36, 4, 0)] := rfl
theorem bq111_2 : blk 111 2 = [(47, 0, 0), (22, 28, 8), (0, 1, 0), (24, 0, 0), (37, 0, 0)] := rfl
theorem bq111_3 : blk 111 3 = [(47, 0, 0), (3, 0, 0), (0, 1, 0), (53, 103, 1), (37, 0, 0)] := rfl
theorem bq111_4 : blk 111 4 = [(47, 0, 0), (22, 3, 8), (0, 1, 0), (24, 0, 0), (37, 0, 0)] := rfl
theorem bq111_5 : blk 111 5 = [(47, 0, 0), (22, 4, 8), (0, 1, 0), (24, 0, 0), (37, 0, 0)] := rfl
theorem bq111_6 : blk 111 6 = [(0, 3, 0), (29, 7, 0), (3, 0, (-1)), (31, 8, 0)] := rfl
theorem bq111_7 : blk 111 7 = [(47, 0, 0), (22, 5, 8), (0, 1, 0), (24, 0, 0), (32, 8, 0)] := rfl
theorem bq111_8 : blk 111 8 = [(37, 0, 0)] := rfl
theorem bq111_9 : blk 111 9 = [(0, 3, 0), (29, 10, 0), (47, 0, 0), (22, 6, 8), (0, 1, 0), (24, 0, 0), (31, 11, 0)] := rfl
theorem bq111_10 : blk 111 10 = [(3, 0, (-1)), (32, 11, 0)] := rfl
theorem bq111_11 : blk 111 11 = [(37, 0, 0)] := rfl
theorem bq111_12 : blk 111 12 = [(0, 3, 0), (29, 13, 0), (47, 0, 0), (22, 7, 8), (0, 1, 0), (24, 0, 0), (31, 14, 0)] := rfl
theorem bq111_13 : blk 111 13 = [(3, 0, (-1)), (32, 14, 0)] := rfl
theorem bq111_14 : blk 111 14 = [(37, 0, 0)] := rfl
theorem bq111_15 : blk 111 15 = [(0, 3, 0), (29, 16, 0), (47, 0, 0), (22, 28, 8), (0, 1, 0), (24, 0, 0), (47, 0, 0), (22, 3, 8), (0, 1, 0), (24, 0, 0), (30, 16, 2), (3, 0, 1), (31, 17, 0)] := rfl
theorem bq111_16 : blk 111 16 = [(3, 0, 0), (32, 17, 0)] := rfl
theorem bq111_17 : blk 111 17 = [(37, 0, 0)] := rfl
theorem bq111_18 : blk 111 18 = [(3, 0, (-1)), (37, 0, 0)] := rfl
theorem rc_111_50 (l : List AV) : rcvb 111 (.inr (.inr 50) :: l) = true := rfl
theorem mx_111 : mxl 111 = 4 := rfl
theorem bq112_0 : blk 112 0 = [(3, 0, 0), (1, 2, 0), (3, 0, 0), (1, 3, 0), (32, 1, 0)] := rfl
theorem bq112_1 : blk 112 1 = [(0, 3, 0), (3, 0, 101), (30, 2, 3), (0, 2, 0), (47, 0, 0), (22, 17, 8), (3, 0, 101), (0, 1, 0), (8, 0, 0), (0, 3, 0), (6, 0, 0), (24, 0, 0), (6, 0, 0), (1, 2, 0), (5, 3, 1), (31, 1, 0)] := rfl
theorem bq112_2 : blk 112 2 = [(0, 2, 0), (37, 0, 0)] := rfl
theorem rc_112_50 (l : List AV) : rcvb 112 (.inr (.inr 50) :: l) = true := rfl
theorem mx_112 : mxl 112 = 4 := rfl
theorem bq113_0 : blk 113 0 = [(47, 0, 0), (0, 1, 0), (52, 88, 1), (29, 1, 1), (3, 0, (-1)), (37, 0, 0)] := rfl
theorem bq113_1 : blk 113 1 = [(0, 2, 0), (36, 5, 0)] := rfl
theorem bq113_2 : blk 113 2 = [(47, 0, 0), (3, 0, 0), (0, 1, 0), (47, 0, 0), (22, 0, 8), (54, 104, 1), (37, 0, 0)] := rfl
theorem bq113_3 : blk 113 3 = [(47, 0, 0), (22, 29, 8), (0, 1, 0), (24, 0, 0), (37, 0, 0)] := rfl
theorem bq113_4 : blk 113 4 = [(47, 0, 0), (0, 1, 0), (52, 112, 1), (37, 0, 0)] := rfl
theorem bq113_5 : blk 113 5 = [(47, 0, 0), (0, 1, 0), (47, 0, 0), (22, 0, 8), (3, 0, 1), (7, 0, 0), (53, 93, 1), (29, 6, 0), (3, 0, 1), (31, 7, 0)] := rfl
theorem bq113_6 : blk 113 6 = [(3, 0, 0), (32, 7, 0)] := rfl
theorem bq113_7 : blk 113 7 = [(37, 0, 0)] := rfl
theorem bq113_8 : blk 113 8 = [(3, 0, (-1)), (37, 0, 0)] := rfl
theorem rc_113_50 (l : List AV) : rcvb 113 (.inr (.inr 50) :: l) = true := rfl
theorem mx_113 : mxl 113 = 3 := rfl
theorem bq114_0 : blk 114 0 = [(47, 0, 0), (0, 1, 0), (52, 87, 1), (29, 1, 1), (3, 0, (-1)), (37, 0, 0)] := rfl
theorem bq114_1 : blk 114 1 = [(47, 0, 0), (51, 108, 0), (47, 0, 0), (22, 0, 8), (1, 2, 0), (32, 2, 0)] := rfl
theorem bq114_2 : blk 114 2 = [(0, 2, 0), (3, 0, 100), (30, 4, 4), (47, 0, 0), (0, 1, 0), (0, 2, 0), (53, 109, 1), (29, 3, 0), (0, 2, 0), (37, 0, 0)] := rfl
theorem bq114_3 : blk 114 3 = [(5, 2, 1), (31, 2, 0)] := rfl
theorem bq114_4 : blk 114 4 = [(3, 0, (-1)), (37, 0, 0)] := rfl
theorem rc_114_50 (l : List AV) : rcvb 114 (.inr (.inr 50) :: l) = true := rfl
theorem mx_114 : mxl 114 = 3 := rfl
theorem bq115_0 : blk 115 0 = [(47, 0, 0), (0, 1, 0), (52, 86, 1), (29, 1, 0), (0, 2, 0), (47, 0, 0), (22, 0, 8), (3, 0, 100), (53, 85, 1), (29, 2, 1), (32, 1, 0)] := rfl
theorem bq115_1 : blk 115 1 = [(3, 0, (-1)), (37, 0, 0)] := rfl
theorem bq115_2 : blk 115 2 = [(47, 0, 0), (51, 108, 0), (47, 0, 0), (22, 33, 8), (3, 0, 101), (0, 1, 0), (8, 0, 0), (0, 2, 0), (6, 0, 0), (24, 0, 0), (37, 0, 0)] := rfl
theorem rc_115_50 (l : List AV) : rcvb 115 (.inr (.inr 50) :: l) = true := rfl
theorem mx_115 : mxl 115 = 3 := rfl
theorem bq116_0 : blk 116 0 = [(47, 0, 0), (51, 108, 0), (3, 0, 0), (1, 1, 0), (3, 0, 0), (1, 2, 0), (32, 1, 0)] := rfl
theorem bq116_1 : blk 116 1 = [(0, 2, 0), (47, 0, 0), (22, 1, 8), (30, 9, 3), (3, 0, 0), (1, 3, 0), (47, 0, 0), (22, 0, 8), (1, 4, 0), (32, 2, 0)] := rfl
theorem bq116_2 : blk 116 2 = [(0, 4, 0), (3, 0, 100), (30, 6, 4), (0, 3, 0), (29, 3, 1), (47, 0, 0), (22, 2, 8), (0, 2, 0), (46, 0, 0), (29, 4, 0), (47, 0, 0), (0, 2, 0), (0, 4, 0), (53, 109, 1), (29, 4, 0), (32, 3, 0)] := rfl
theorem bq116_3 : blk 116 3 = [(3, 0, 1), (31, 5, 0)] := rfl
theorem bq116_4 : blk 116 4 = [(3, 0, 0), (32, 5, 0)] := rfl
theorem bq116_5 : blk 116 5 = [(1, 3, 0), (5, 4, 1), (31, 2, 0)] := rfl
theorem bq116_6 : blk 116 6 = [(0, 1, 0), (0, 3, 0), (29, 7, 0), (47, 0, 0), (22, 7, 8), (0, 2, 0), (24, 0, 0), (31, 8, 0)] := rfl
theorem bq116_7 : blk 116 7 = [(3, 0, 0), (32, 8, 0)] := rfl
theorem bq116_8 : blk 116 8 = [(6, 0, 0), (1, 1, 0), (5, 2, 1), (31, 1, 0)] := rfl
theorem bq116_9 : blk 116 9 = [(0, 1, 0), (37, 0, 0)] := rfl
theorem rc_116_50 (l : List AV) : rcvb 116 (.inr (.inr 50) :: l) = true := rfl
theorem mx_116 : mxl 116 = 5 := rfl
theorem bq117_0 : blk 117 0 = [(3, 0, (-1)), (1, 2, 0), (3, 0, 0), (1, 3, 0), (3, 0, 0), (1, 4, 0), (32, 1, 0)] := rfl
theorem bq117_1 : blk 117 1 = [(0, 4, 0), (47, 0, 0), (22, 9, 8), (30, 5, 3), (47, 0, 0), (0, 4, 0), (0, 1, 0), (53, 97, 1), (29, 2, 1), (31, 4, 0)] := rfl
theorem bq117_2 : blk 117 2 = [(3, 0, 101), (0, 4, 0), (8, 0, 0), (47, 0, 0), (22, 0, 8), (6, 0, 0), (47, 0, 0), (22, 14, 8), (0, 4, 0), (24, 0, 0), (6, 0, 0), (1, 5, 0), (47, 0, 0), (22, 17, 8), (0, 5, 0), (34, 0, 0), (24, 0, 0), (0, 1, 0), (6, 0, 0), (25, 0, 0), (47, 0, 0), (51, 116, 1), (1, 6, 0), (47, 0, 0), (22, 17, 8), (0, 5, 0), (34, 0, 0), (24, 0, 0), (0, 1, 0), (7, 0, 0), (25, 0, 0), (0, 2, 0), (3, 0, (-1)), (30, 3, 0), (0, 6, 0), (0, 3, 0), (30, 3, 2), (31, 4, 0)] := rfl
theorem bq117_3 : blk 117 3 = [(0, 4, 0), (1, 2, 0), (0, 6, 0), (1, 3, 0), (32, 4, 0)] := rfl
theorem bq117_4 : blk 117 4 = [(5, 4, 1), (31, 1, 0)] := rfl
theorem bq117_5 : blk 117 5 = [(0, 2, 0), (37, 0, 0)] := rfl
theorem rc_117_50 (l : List AV) : rcvb 117 (.inr (.inr 50) :: l) = true := rfl
theorem mx_117 : mxl 117 = 7 := rfl
theorem bq118_0 : blk 118 0 = [(47, 0, 0), (22, 2, 8), (0, 1, 0), (46, 0, 0), (29, 1, 0), (0, 2, 0), (47, 0, 0), (22, 0, 8), (0, 3, 0), (53, 85, 1), (29, 1, 0), (47, 0, 0), (0, 1, 0), (0, 2, 0), (53, 109, 1), (29, 1, 1), (3, 0, 1), (31, 2, 0)] := rfl
theorem bq118_1 : blk 118 1 = [(3, 0, 0), (32, 2, 0)] := rfl
theorem bq118_2 : blk 118 2 = [(37, 0, 1)] := rfl
theorem rc_118_50 (l : List AV) : rcvb 118 (.inr (.inr 50) :: l) = true := rfl
theorem mx_118 : mxl 118 = 4 := rfl
theorem bq119_0 : blk 119 0 = [(3, 0, 101), (0, 1, 0), (8, 0, 0), (0, 2, 0), (6, 0, 0), (1, 5, 0), (47, 0, 0), (22, 37, 8), (0, 5, 0), (46, 0, 0), (29, 1, 0), (38, 0, 0)] := rfl
theorem bq119_1 : blk 119 1 = [(47, 0, 0), (22, 37, 8), (0, 5, 0), (3, 0, 1), (26, 0, 0), (47, 0, 0), (22, 39, 8), (0, 5, 0), (0, 3, 0), (25, 0, 0), (47, 0, 0), (22, 40, 8), (0, 5, 0), (0, 4, 0), (25, 0, 0), (47, 0, 0), (22, 38, 8), (47, 0, 0), (22, 41, 8), (0, 5, 0), (25, 0, 0), (47, 0, 0), (33, 0, 0), (22, 41, 8), (3, 0, 1), (6, 0, 0), (23, 41, 8), (38, 0, 0)] := rfl
theorem rc_119_50 (l : List AV) : rcvb 119 (.inr (.inr 50) :: l) = true := rfl
theorem mx_119 : mxl 119 = 6 := rfl
theorem bq120_0 : blk 120 0 = [(3, 0, 0), (1, 2, 0), (32, 1, 0)] := rfl
theorem bq120_1 : blk 120 1 = [(0, 2, 0), (3, 0, 1010), (30, 2, 3), (47, 0, 0), (22, 37, 8), (0, 2, 0), (3, 0, 0), (26, 0, 0), (5, 2, 1), (31, 1, 0)] := rfl
theorem bq120_2 : blk 120 2 = [(47, 0, 0), (3, 0, 0), (23, 41, 8), (47, 0, 0), (3, 0, (-1)), (23, 42, 8), (3, 0, 0), (1, 2, 0), (32, 3, 0)] := rfl
theorem bq120_3 : blk 120 3 = [(0, 2, 0), (47, 0, 0), (22, 1, 8), (30, 5, 3), (47, 0, 0), (0, 2, 0), (47, 0, 0), (22, 0, 8), (0, 1, 0), (54, 118, 1), (29, 4, 0), (47, 0, 0), (22, 6, 8), (0, 2, 0), (24, 0, 0), (47, 0, 0), (22, 34, 8), (0, 2, 0), (24, 0, 0), (30, 4, 5), (47, 0, 0), (0, 2, 0), (47, 0, 0), (22, 0, 8), (3, 0, 0), (3, 0, (-1)), (55, 119, 0), (32, 4, 0)] := rfl
theorem bq120_4 : blk 120 4 = [(5, 2, 1), (31, 3, 0)] := rfl
theorem bq120_5 : blk 120 5 = [(3, 0, 0), (1, 2, 0), (32, 6, 0)] := rfl
theorem bq120_6 : blk 120 6 = [(0, 2, 0), (47, 0, 0), (22, 41, 8), (30, 7, 3), (47, 0, 0), (22, 42, 8), (3, 0, (-1)), (30, 7, 1), (47, 0, 0), (47, 0, 0), (22, 38, 8), (0, 2, 0), (24, 0, 0), (3, 0, 101), (13, 0, 0), (47, 0, 0), (22, 38, 8), (0, 2, 0), (24, 0, 0), (3, 0, 101), (14, 0, 0), (0, 1, 0), (54, 121, 0), (5, 2, 1), (31, 6, 0)] := rfl
theorem bq120_7 : blk 120 7 = [(47, 0, 0), (22, 42, 8), (3, 0, (-1)), (30, 8, 0), (3, 0, 1), (31, 9, 0)] := rfl
theorem bq120_8 : blk 120 8 = [(3, 0, 0), (32, 9, 0)] := rfl
theorem bq120_9 : blk 120 9 = [(37, 0, 1)] := rfl
theorem rc_120_50 (l : List AV) : rcvb 120 (.inr (.inr 50) :: l) = true := rfl
theorem mx_120 : mxl 120 = 3 := rfl
theorem bq121_0 : blk 121 0 = [(47, 0, 0), (0, 1, 0), (0, 2, 0), (3, 0, 1), (6, 0, 0), (0, 3, 0), (54, 118, 1), (29, 1, 0), (47, 0, 0), (0, 1, 0), (0, 2, 0), (3, 0, 1), (6, 0, 0), (3, 0, 1), (3, 0, (-1)), (55, 119, 0), (32, 1, 0)] := rfl
theorem bq121_1 : blk 121 1 = [(0, 2, 0), (47, 0, 0), (22, 0, 8), (30, 2, 5), (47, 0, 0), (22, 35, 8), (3, 0, 101), (0, 1, 0), (8, 0, 0), (0, 2, 0), (6, 0, 0), (3, 0, 1), (7, 0, 0), (24, 0, 0), (29, 2, 5), (47, 0, 0), (0, 1, 0), (0, 2, 0), (3, 0, 1), (7, 0, 0), (3, 0, 2), (3, 0, (-1)), (55, 119, 0), (32, 2, 0)] := rfl
theorem bq121_2 : blk 121 2 = [(3, 0, 0), (1, 4, 0), (32, 3, 0)] := rfl
theorem bq121_3 : blk 121 3 = [(0, 4, 0), (47, 0, 0), (22, 23, 8), (30, 7, 3), (0, 2, 0), (47, 0, 0), (22, 27, 8), (0, 4, 0), (24, 0, 0), (6, 0, 0), (1, 5, 0), (47, 0, 0), (22, 24, 8), (0, 4, 0), (24, 0, 0), (0, 1, 0), (30, 5, 1), (0, 5, 0), (0, 3, 0), (30, 5, 4), (47, 0, 0), (22, 36, 8), (3, 0, 101), (0, 4, 0), (8, 0, 0), (0, 2, 0), (6, 0, 0), (24, 0, 0), (47, 0, 0), (22, 26, 8), (0, 4, 0), (24, 0, 0), (30, 5, 3), (47, 0, 0), (22, 25, 8), (0, 4, 0), (24, 0, 0), (3, 0, (-1)), (30, 4, 1), (47, 0, 0), (3, 0, 101), (0, 1, 0), (8, 0, 0), (0, 2, 0), (6, 0, 0), (23, 42, 8), (47, 0, 0), (0, 4, 0), (23, 43, 8), (38, 0, 0)] := rfl
theorem bq121_4 : blk 121 4 = [(47, 0, 0), (47, 0, 0), (22, 25, 8), (0, 4, 0), (24, 0, 0), (0, 5, 0), (0, 3, 0), (54, 118, 1), (29, 5, 0), (47, 0, 0), (47, 0, 0), (22, 25, 8), (0, 4, 0), (24, 0, 0), (0, 5, 0), (3, 0, 3), (0, 4, 0), (55, 119, 0), (32, 5, 0)] := rfl
theorem bq121_5 : blk 121 5 = [(0, 2, 0), (47, 0, 0), (22, 27, 8), (0, 4, 0), (24, 0, 0), (7, 0, 0), (1, 6, 0), (47, 0, 0), (22, 25, 8), (0, 4, 0), (24, 0, 0), (0, 1, 0), (30, 6, 1), (0, 6, 0), (47, 0, 0), (22, 0, 8), (30, 6, 2), (47, 0, 0), (22, 36, 8), (3, 0, 101), (0, 4, 0), (8, 0, 0), (0, 6, 0), (6, 0, 0), (24, 0, 0), (29, 6, 5), (47, 0, 0), (47, 0, 0), (22, 24, 8), (0, 4, 0), (24, 0, 0), (0, 6, 0), (3, 0, 4), (0, 4, 0), (55, 119, 0), (32, 6, 0)] := rfl
theorem bq121_6 : blk 121 6 = [(5, 4, 1), (31, 3, 0)] := rfl
theorem bq121_7 : blk 121 7 = [(38, 0, 0)] := rfl
theorem rc_121_50 (l : List AV) : rcvb 121 (.inr (.inr 50) :: l) = true := rfl
theorem mx_121 : mxl 121 = 7 := rfl
theorem bq122_0 : blk 122 0 = [(47, 0, 0), (22, 40, 8), (0, 1, 0), (24, 0, 0), (1, 2, 0), (47, 0, 0), (22, 39, 8), (0, 1, 0), (24, 0, 0), (36, 6, 0)] := rfl
theorem bq122_1 : blk 122 1 = [(0, 1, 0), (3, 0, 1), (7, 0, 0), (37, 0, 0)] := rfl
theorem bq122_2 : blk 122 2 = [(0, 1, 0), (3, 0, 1), (6, 0, 0), (37, 0, 0)] := rfl
theorem bq122_3 : blk 122 3 = [(3, 0, 101), (47, 0, 0), (22, 24, 8), (0, 2, 0), (24, 0, 0), (8, 0, 0), (0, 1, 0), (3, 0, 101), (14, 0, 0), (6, 0, 0), (47, 0, 0), (22, 27, 8), (0, 2, 0), (24, 0, 0), (7, 0, 0), (37, 0, 0)] := rfl
theorem bq122_4 : blk 122 4 = [(3, 0, 101), (47, 0, 0), (22, 25, 8), (0, 2, 0), (24, 0, 0), (8, 0, 0), (0, 1, 0), (3, 0, 101), (14, 0, 0), (6, 0, 0), (47, 0, 0), (22, 27, 8), (0, 2, 0), (24, 0, 0), (6, 0, 0), (37, 0, 0)] := rfl
theorem rc_122_50 (l : List AV) : rcvb 122 (.inr (.inr 50) :: l) = true := rfl
theorem mx_122 : mxl 122 = 3 := rfl
theorem bq123_0 : blk 123 0 = [(47, 0, 0), (22, 40, 8), (0, 1, 0), (24, 0, 0), (1, 2, 0), (47, 0, 0), (22, 39, 8), (0, 1, 0), (24, 0, 0), (36, 7, 0)] := rfl
theorem bq123_1 : blk 123 1 = [(47, 0, 0), (22, 6, 8), (0, 1, 0), (3, 0, 101), (13, 0, 0), (24, 0, 0), (47, 0, 0), (22, 34, 8), (0, 1, 0), (3, 0, 101), (13, 0, 0), (24, 0, 0), (7, 0, 0), (37, 0, 0)] := rfl
theorem bq123_2 : blk 123 2 = [(3, 0, 1000000000), (37, 0, 0)] := rfl
theorem bq123_3 : blk 123 3 = [(47, 0, 0), (22, 35, 8), (0, 1, 0), (24, 0, 0), (37, 0, 0)] := rfl
theorem bq123_4 : blk 123 4 = [(47, 0, 0), (22, 26, 8), (0, 2, 0), (24, 0, 0), (47, 0, 0), (22, 36, 8), (3, 0, 101), (0, 2, 0), (8, 0, 0), (0, 1, 0), (3, 0, 101), (14, 0, 0), (6, 0, 0), (47, 0, 0), (22, 27, 8), (0, 2, 0), (24, 0, 0), (7, 0, 0), (24, 0, 0), (7, 0, 0), (37, 0, 0)] := rfl
theorem bq123_5 : blk 123 5 = [(47, 0, 0), (22, 36, 8), (3, 0, 101), (0, 2, 0), (8, 0, 0), (0, 1, 0), (3, 0, 101), (14, 0, 0), (6, 0, 0), (24, 0, 0), (37, 0, 0)] := rfl
theorem rc_123_50 (l : List AV) : rcvb 123 (.inr (.inr 50) :: l) = true := rfl
theorem mx_123 : mxl 123 = 3 := rfl
theorem bq124_0 : blk 124 0 = [(47, 0, 0), (22, 40, 8), (0, 1, 0), (24, 0, 0), (1, 3, 0), (47, 0, 0), (22, 39, 8), (0, 1, 0), (24, 0, 0), (36, 8, 0)] := rfl
theorem bq124_1 : blk 124 1 = [(47, 0, 0), (22, 34, 8), (0, 1, 0), (3, 0, 101), (13, 0, 0), (34, 0, 0), (24, 0, 0), (0, 2, 0), (6, 0, 0), (25, 0, 0), (31, 6, 0)] := rfl
theorem bq124_2 : blk 124 2 = [(47, 0, 0), (22, 35, 8), (0, 1, 0), (3, 0, 1), (7, 0, 0), (34, 0, 0), (24, 0, 0), (0, 2, 0), (6, 0, 0), (25, 0, 0), (31, 6, 0)] := rfl
theorem bq124_3 : blk 124 3 = [(47, 0, 0), (22, 35, 8), (0, 1, 0), (34, 0, 0), (24, 0, 0), (0, 2, 0), (7, 0, 0), (25, 0, 0), (31, 6, 0)] := rfl
theorem bq124_4 : blk 124 4 = [(47, 0, 0), (22, 36, 8), (3, 0, 101), (0, 3, 0), (8, 0, 0), (0, 1, 0), (3, 0, 101), (14, 0, 0), (6, 0, 0), (47, 0, 0), (22, 27, 8), (0, 3, 0), (24, 0, 0), (7, 0, 0), (34, 0, 0), (24, 0, 0), (0, 2, 0), (6, 0, 0), (25, 0, 0), (31, 6, 0)] := rfl
theorem bq124_5 : blk 124 5 = [(47, 0, 0), (22, 36, 8), (3, 0, 101), (0, 3, 0), (8, 0, 0), (0, 1, 0), (3, 0, 101), (14, 0, 0), (6, 0, 0), (34, 0, 0), (24, 0, 0), (0, 2, 0), (7, 0, 0), (25, 0, 0), (32, 6, 0)] := rfl
theorem bq124_6 : blk 124 6 = [(38, 0, 0)] := rfl
theorem rc_124_50 (l : List AV) : rcvb 124 (.inr (.inr 50) :: l) = true := rfl
theorem mx_124 : mxl 124 = 4 := rfl
theorem bq125_0 : blk 125 0 = [(47, 0, 0), (51, 108, 0), (3, 0, 0), (1, 2, 0), (32, 1, 0)] := rfl
theorem bq125_1 : blk 125 1 = [(0, 2, 0), (3, 0, 10), (30, 2, 3), (47, 0, 0), (22, 34, 8), (0, 2, 0), (3, 0, 0), (25, 0, 0), (5, 2, 1), (31, 1, 0)] := rfl
theorem bq125_2 : blk 125 2 = [(3, 0, 0), (1, 2, 0), (32, 3, 0)] := rfl
theorem bq125_3 : blk 125 3 = [(0, 2, 0), (3, 0, 1010), (30, 4, 3), (47, 0, 0), (22, 35, 8), (0, 2, 0), (3, 0, 0), (25, 0, 0), (5, 2, 1), (31, 3, 0)] := rfl
theorem bq125_4 : blk 125 4 = [(3, 0, 0), (1, 2, 0), (32, 5, 0)] := rfl
theorem bq125_5 : blk 125 5 = [(0, 2, 0), (3, 0, 1212), (30, 6, 3), (47, 0, 0), (22, 36, 8), (0, 2, 0), (3, 0, 0), (25, 0, 0), (5, 2, 1), (31, 5, 0)] := rfl
theorem bq125_6 : blk 125 6 = [(3, 0, 0), (1, 2, 0), (32, 7, 0)] := rfl
theorem bq125_7 : blk 125 7 = [(47, 0, 0), (0, 1, 0), (52, 120, 1), (29, 20, 0), (47, 0, 0), (22, 26, 8), (47, 0, 0), (22, 43, 8), (24, 0, 0), (47, 0, 0), (22, 36, 8), (3, 0, 101), (47, 0, 0), (22, 43, 8), (8, 0, 0), (47, 0, 0), (22, 42, 8), (3, 0, 101), (14, 0, 0), (6, 0, 0), (24, 0, 0), (7, 0, 0), (1, 3, 0), (47, 0, 0), (22, 42, 8), (1, 4, 0), (3, 0, 1), (1, 5, 0), (32, 8, 0)] := rfl
theorem bq125_8 : blk 125 8 = [(0, 5, 0), (29, 13, 0), (47, 0, 0), (0, 4, 0), (52, 123, 1), (1, 6, 0), (0, 6, 0), (0, 3, 0), (30, 9, 3), (0, 6, 0), (1, 3, 0), (32, 9, 0)] := rfl
theorem bq125_9 : blk 125 9 = [(47, 0, 0), (22, 39, 8), (0, 4, 0), (24, 0, 0), (29, 10, 0), (3, 0, 1), (31, 11, 0)] := rfl
theorem bq125_10 : blk 125 10 = [(3, 0, 0), (32, 11, 0)] := rfl
theorem bq125_11 : blk 125 11 = [(1, 5, 0), (0, 5, 0), (29, 12, 0), (47, 0, 0), (0, 4, 0), (52, 122, 1), (1, 4, 0), (32, 12, 0)] := rfl
theorem bq125_12 : blk 125 12 = [(31, 8, 0)] := rfl
theorem bq125_13 : blk 125 13 = [(47, 0, 0), (22, 36, 8), (3, 0, 101), (47, 0, 0), (22, 43, 8), (8, 0, 0), (47, 0, 0), (22, 42, 8), (3, 0, 101), (14, 0, 0), (6, 0, 0), (34, 0, 0), (24, 0, 0), (0, 3, 0), (6, 0, 0), (25, 0, 0), (47, 0, 0), (22, 42, 8), (1, 4, 0), (3, 0, 1), (1, 5, 0), (32, 14, 0)] := rfl
theorem bq125_14 : blk 125 14 = [(0, 5, 0), (29, 19, 0), (47, 0, 0), (22, 39, 8), (0, 4, 0), (24, 0, 0), (29, 15, 1), (3, 0, (-1)), (31, 16, 0)] := rfl
theorem bq125_15 : blk 125 15 = [(47, 0, 0), (0, 4, 0), (52, 122, 1), (32, 16, 0)] := rfl
theorem bq125_16 : blk 125 16 = [(1, 6, 0), (47, 0, 0), (0, 4, 0), (0, 3, 0), (53, 124, 0), (0, 6, 0), (3, 0, (-1)), (30, 17, 0), (3, 0, 1), (31, 18, 0)] := rfl
theorem bq125_17 : blk 125 17 = [(3, 0, 0), (32, 18, 0)] := rfl
theorem bq125_18 : blk 125 18 = [(1, 5, 0), (0, 6, 0), (1, 4, 0), (31, 14, 0)] := rfl
theorem bq125_19 : blk 125 19 = [(0, 2, 0), (0, 3, 0), (6, 0, 0), (1, 2, 0), (31, 7, 0)] := rfl
theorem bq125_20 : blk 125 20 = [(0, 2, 0), (37, 0, 0)] := rfl
theorem rc_125_50 (l : List AV) : rcvb 125 (.inr (.inr 50) :: l) = true := rfl
theorem mx_125 : mxl 125 = 7 := rfl
theorem bq126_0 : blk 126 0 = [(0, 1, 0), (47, 0, 0), (22, 0, 8), (3, 0, 100), (53, 85, 1), (29, 1, 0), (47, 0, 0), (0, 1, 0), (52, 125, 1), (31, 2, 0)] := rfl
theorem bq126_1 : blk 126 1 = [(3, 0, (-1)), (32, 2, 0)] := rfl
theorem bq126_2 : blk 126 2 = [(37, 0, 0)] := rfl
theorem rc_126_50 (l : List AV) : rcvb 126 (.inr (.inr 50) :: l) = true := rfl
theorem mx_126 : mxl 126 = 2 := rfl
theorem bq127_0 : blk 127 0 = [(47, 0, 0), (3, 0, 100), (52, 125, 1), (1, 1, 0), (0, 1, 0), (29, 1, 1), (3, 0, (-1)), (37, 0, 0)] := rfl
theorem bq127_1 : blk 127 1 = [(47, 0, 0), (22, 0, 8), (1, 2, 0), (3, 0, 100), (1, 3, 0), (32, 2, 0)] := rfl
theorem bq127_2 : blk 127 2 = [(0, 2, 0), (0, 3, 0), (30, 5, 3), (0, 2, 0), (0, 3, 0), (6, 0, 0), (3, 0, 2), (13, 0, 0), (1, 4, 0), (47, 0, 0), (0, 4, 0), (52, 125, 1), (0, 1, 0), (30, 3, 1), (0, 4, 0), (1, 3, 0), (31, 4, 0)] := rfl
theorem bq127_3 : blk 127 3 = [(0, 4, 0), (3, 0, 1), (6, 0, 0), (1, 2, 0), (32, 4, 0)] := rfl
theorem bq127_4 : blk 127 4 = [(31, 2, 0)] := rfl
theorem bq127_5 : blk 127 5 = [(0, 2, 0), (37, 0, 0)] := rfl
theorem rc_127_50 (l : List AV) : rcvb 127 (.inr (.inr 50) :: l) = true := rfl
theorem mx_127 : mxl 127 = 5 := rfl
theorem bq128_0 : blk 128 0 = [(0, 2, 0), (47, 0, 0), (22, 27, 8), (0, 1, 0), (24, 0, 0), (6, 0, 0), (1, 4, 0), (47, 0, 0), (22, 24, 8), (0, 1, 0), (24, 0, 0), (1, 5, 0), (47, 0, 0), (0, 5, 0), (0, 2, 0), (0, 3, 0), (54, 118, 1), (29, 1, 0), (47, 0, 0), (22, 37, 8), (3, 0, 101), (0, 5, 0), (8, 0, 0), (0, 2, 0), (6, 0, 0), (46, 0, 0), (29, 1, 0), (0, 4, 0), (0, 3, 0), (30, 2, 5), (32, 1, 0)] := rfl
theorem bq128_1 : blk 128 1 = [(3, 0, 0), (37, 0, 1)] := rfl
theorem bq128_2 : blk 128 2 = [(47, 0, 0), (22, 25, 8), (0, 1, 0), (24, 0, 0), (3, 0, (-1)), (30, 3, 0), (47, 0, 0), (47, 0, 0), (22, 25, 8), (0, 1, 0), (24, 0, 0), (0, 4, 0), (0, 3, 0), (54, 118, 1), (29, 4, 0), (47, 0, 0), (22, 37, 8), (3, 0, 101), (47, 0, 0), (22, 25, 8), (0, 1, 0), (24, 0, 0), (8, 0, 0), (0, 4, 0), (6, 0, 0), (46, 0, 0), (29, 4, 1), (32, 3, 0)] := rfl
theorem bq128_3 : blk 128 3 = [(3, 0, 1), (31, 5, 0)] := rfl
theorem bq128_4 : blk 128 4 = [(3, 0, 0), (32, 5, 0)] := rfl
theorem bq128_5 : blk 128 5 = [(37, 0, 1)] := rfl
theorem rc_128_50 (l : List AV) : rcvb 128 (.inr (.inr 50) :: l) = true := rfl
theorem mx_128 : mxl 128 = 6 := rfl
theorem bq129_0 : blk 129 0 = [(0, 1, 0), (47, 0, 0), (22, 0, 8), (3, 0, 100), (53, 85, 1), (29, 1, 1), (3, 0, (-1)), (37, 0, 0)] := rfl
theorem bq129_1 : blk 129 1 = [(47, 0, 0), (0, 1, 0), (52, 125, 1), (35, 0, 0), (3, 0, 0), (1, 2, 0), (47, 0, 0), (22, 0, 8), (1, 3, 0), (32, 2, 0)] := rfl
theorem bq129_2 : blk 129 2 = [(0, 3, 0), (0, 1, 0), (30, 7, 4), (3, 0, 0), (1, 4, 0), (32, 3, 0)] := rfl
theorem bq129_3 : blk 129 3 = [(0, 4, 0), (47, 0, 0), (22, 23, 8), (30, 6, 3), (0, 2, 0), (47, 0, 0), (0, 4, 0), (0, 3, 0), (0, 1, 0), (54, 128, 1), (29, 4, 0), (3, 0, 1), (31, 5, 0)] := rfl
theorem bq129_4 : blk 129 4 = [(3, 0, 0), (32, 5, 0)] := rfl
theorem bq129_5 : blk 129 5 = [(6, 0, 0), (1, 2, 0), (5, 4, 1), (31, 3, 0)] := rfl
theorem bq129_6 : blk 129 6 = [(5, 3, 1), (31, 2, 0)] := rfl
theorem bq129_7 : blk 129 7 = [(0, 2, 0), (37, 0, 0)] := rfl
theorem rc_129_50 (l : List AV) : rcvb 129 (.inr (.inr 50) :: l) = true := rfl
theorem mx_129 : mxl 129 = 5 := rfl
theorem bq130_0 : blk 130 0 = [(0, 1, 0), (47, 0, 0), (22, 0, 8), (3, 0, 100), (53, 85, 1), (29, 1, 0), (0, 3, 0), (3, 0, 0), (3, 0, 1), (53, 85, 1), (29, 1, 0), (0, 2, 0), (29, 2, 3), (32, 1, 0)] := rfl
theorem bq130_1 : blk 130 1 = [(3, 0, (-1)), (37, 0, 0)] := rfl
theorem bq130_2 : blk 130 2 = [(47, 0, 0), (0, 1, 0), (52, 125, 1), (35, 0, 0), (0, 2, 0), (1, 4, 0), (47, 0, 0), (22, 0, 8), (1, 5, 0), (32, 3, 0)] := rfl
theorem bq130_3 : blk 130 3 = [(0, 5, 0), (0, 1, 0), (30, 11, 4), (3, 0, 0), (1, 6, 0), (32, 4, 0)] := rfl
theorem bq130_4 : blk 130 4 = [(0, 6, 0), (47, 0, 0), (22, 23, 8), (30, 10, 3), (47, 0, 0), (0, 6, 0), (0, 5, 0), (0, 1, 0), (54, 128, 1), (29, 5, 1), (31, 9, 0)] := rfl
theorem bq130_5 : blk 130 5 = [(0, 4, 0), (29, 8, 1), (0, 3, 0), (29, 6, 1), (0, 6, 0), (31, 7, 0)] := rfl
theorem bq130_6 : blk 130 6 = [(0, 5, 0), (32, 7, 0)] := rfl
theorem bq130_7 : blk 130 7 = [(37, 0, 0)] := rfl
theorem bq130_8 : blk 130 8 = [(5, 4, (-1)), (32, 9, 0)] := rfl
theorem bq130_9 : blk 130 9 = [(5, 6, 1), (31, 4, 0)] := rfl
theorem bq130_10 : blk 130 10 = [(5, 5, 1), (31, 3, 0)] := rfl
theorem bq130_11 : blk 130 11 = [(3, 0, (-1)), (37, 0, 0)] := rfl
theorem rc_130_50 (l : List AV) : rcvb 130 (.inr (.inr 50) :: l) = true := rfl
theorem mx_130 : mxl 130 = 7 := rfl
theorem bq131_0 : blk 131 0 = [(3, 0, 0), (1, 2, 0), (0, 1, 0), (36, 9, 0)] := rfl
theorem bq131_1 : blk 131 1 = [(47, 0, 0), (22, 0, 8), (37, 0, 0)] := rfl
theorem bq131_2 : blk 131 2 = [(47, 0, 0), (22, 1, 8), (37, 0, 0)] := rfl
theorem bq131_3 : blk 131 3 = [(47, 0, 0), (22, 9, 8), (37, 0, 0)] := rfl
theorem bq131_4 : blk 131 4 = [(47, 0, 0), (22, 23, 8), (37, 0, 0)] := rfl
theorem bq131_5 : blk 131 5 = [(47, 0, 0), (22, 18, 8), (37, 0, 0)] := rfl
theorem bq131_6 : blk 131 6 = [(3, 0, 0), (1, 3, 0), (32, 7, 0)] := rfl
theorem bq131_7 : blk 131 7 = [(0, 3, 0), (47, 0, 0), (22, 9, 8), (30, 8, 3), (0, 2, 0), (47, 0, 0), (0, 3, 0), (52, 112, 1), (6, 0, 0), (1, 2, 0), (5, 3, 1), (31, 7, 0)] := rfl
theorem bq131_8 : blk 131 8 = [(0, 2, 0), (37, 0, 0)] := rfl
theorem bq131_9 : blk 131 9 = [(3, 0, 0), (1, 3, 0), (32, 10, 0)] := rfl
theorem bq131_10 : blk 131 10 = [(0, 3, 0), (47, 0, 0), (22, 9, 8), (30, 11, 3), (0, 2, 0), (47, 0, 0), (22, 29, 8), (0, 3, 0), (24, 0, 0), (6, 0, 0), (1, 2, 0), (5, 3, 1), (31, 10, 0)] := rfl
theorem bq131_11 : blk 131 11 = [(0, 2, 0), (37, 0, 0)] := rfl
theorem bq131_12 : blk 131 12 = [(47, 0, 0), (22, 30, 8), (3, 0, 0), (24, 0, 0), (37, 0, 0)] := rfl
theorem bq131_13 : blk 131 13 = [(47, 0, 0), (22, 31, 8), (3, 0, 0), (27, 0, 0), (17, 0, 0), (37, 0, 0)] := rfl
theorem bq131_14 : blk 131 14 = [(47, 0, 0), (22, 32, 8), (3, 0, 0), (27, 0, 0), (17, 0, 0), (37, 0, 0)] := rfl
theorem bq131_15 : blk 131 15 = [(3, 0, (-1)), (37, 0, 0)] := rfl
theorem rc_131_50 (l : List AV) : rcvb 131 (.inr (.inr 50) :: l) = true := rfl
theorem mx_131 : mxl 131 = 4 := rfl
theorem bq132_0 : blk 132 0 = [(3, 0, 0), (1, 2, 0), (47, 0, 0), (43, 0, 0), (1, 3, 0), (32, 1, 0)] := rfl
theorem bq132_1 : blk 132 1 = [(0, 2, 0), (0, 3, 0), (30, 2, 3), (47, 0, 0), (0, 2, 0), (0, 1, 0), (25, 0, 0), (5, 2, 1), (31, 1, 0)] := rfl
theorem bq132_2 : blk 132 2 = [(38, 0, 0)] := rfl
theorem rc_132 (l : List AV) : rcvb 132 l = true := rfl
theorem mx_132 : mxl 132 = 4 := rfl
