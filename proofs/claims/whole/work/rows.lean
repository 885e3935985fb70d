section
-- ===== PART A: goes FIRST, ahead of the names: the tables' words, and 'selects' of the private methods out of them =====
/-- a private method of a class that the tables say can be made, by its rows of tables_1 -/
def lw_okq (q : MethodName × Nat) : Prop := (q.1.cls ≠ "java/lang/invoke/MethodHandle" ∧ q.1.cls ≠ "java/lang/invoke/VarHandle") ∧ Cond.instantiable q.1.cls q.2 ∈ tables_1 ∧ Cond.privateMethod q.1 ∈ tables_1 ∧ Cond.instanceMethod q.1 ∈ tables_1
theorem lw_p0 : lw_okq (⟨"FloodCells$Bodies", "add", "(II)I"⟩, 10) := ⟨⟨by decide +kernel, by decide +kernel⟩, List.mem_of_getElem? (i := 22) (by decide +kernel), List.mem_of_getElem? (i := 348) (by decide +kernel), List.mem_of_getElem? (i := 349) (by decide +kernel)⟩
theorem lw_p1 : lw_okq (⟨"FloodCells", "waterChanges", "()V"⟩, 8) := ⟨⟨by decide +kernel, by decide +kernel⟩, List.mem_of_getElem? (i := 14) (by decide +kernel), List.mem_of_getElem? (i := 352) (by decide +kernel), List.mem_of_getElem? (i := 353) (by decide +kernel)⟩
theorem lw_p2 : lw_okq (⟨"FloodCells", "hourToCome", "(I)Z"⟩, 8) := ⟨⟨by decide +kernel, by decide +kernel⟩, List.mem_of_getElem? (i := 14) (by decide +kernel), List.mem_of_getElem? (i := 393) (by decide +kernel), List.mem_of_getElem? (i := 394) (by decide +kernel)⟩
theorem lw_p3 : lw_okq (⟨"FloodCells", "brokeBefore", "(I)Z"⟩, 8) := ⟨⟨by decide +kernel, by decide +kernel⟩, List.mem_of_getElem? (i := 14) (by decide +kernel), List.mem_of_getElem? (i := 397) (by decide +kernel), List.mem_of_getElem? (i := 398) (by decide +kernel)⟩
theorem lw_p4 : lw_okq (⟨"FloodCells", "canSend", "(II)Z"⟩, 8) := ⟨⟨by decide +kernel, by decide +kernel⟩, List.mem_of_getElem? (i := 14) (by decide +kernel), List.mem_of_getElem? (i := 418) (by decide +kernel), List.mem_of_getElem? (i := 419) (by decide +kernel)⟩
theorem lw_p5 : lw_okq (⟨"FloodCells$Flood", "takeInflow", "(LFloodCells$Bodies;)V"⟩, 6) := ⟨⟨by decide +kernel, by decide +kernel⟩, List.mem_of_getElem? (i := 190) (by decide +kernel), List.mem_of_getElem? (i := 467) (by decide +kernel), List.mem_of_getElem? (i := 468) (by decide +kernel)⟩
theorem lw_p6 : lw_okq (⟨"FloodCells$Flood", "passDown", "(LFloodCells$Bodies;)V"⟩, 6) := ⟨⟨by decide +kernel, by decide +kernel⟩, List.mem_of_getElem? (i := 190) (by decide +kernel), List.mem_of_getElem? (i := 471) (by decide +kernel), List.mem_of_getElem? (i := 472) (by decide +kernel)⟩
theorem lw_p7 : lw_okq (⟨"FloodCells$Flood", "layBags", "(LFloodCells$Dikes;I)V"⟩, 6) := ⟨⟨by decide +kernel, by decide +kernel⟩, List.mem_of_getElem? (i := 190) (by decide +kernel), List.mem_of_getElem? (i := 476) (by decide +kernel), List.mem_of_getElem? (i := 477) (by decide +kernel)⟩
theorem lw_p8 : lw_okq (⟨"FloodCells$Flood", "goOver", "(LFloodCells$Bodies;LFloodCells$Dikes;I)V"⟩, 6) := ⟨⟨by decide +kernel, by decide +kernel⟩, List.mem_of_getElem? (i := 190) (by decide +kernel), List.mem_of_getElem? (i := 481) (by decide +kernel), List.mem_of_getElem? (i := 482) (by decide +kernel)⟩
theorem lw_p9 : lw_okq (⟨"FloodCells", "lossWithBags", "(II)I"⟩, 8) := ⟨⟨by decide +kernel, by decide +kernel⟩, List.mem_of_getElem? (i := 14) (by decide +kernel), List.mem_of_getElem? (i := 569) (by decide +kernel), List.mem_of_getElem? (i := 570) (by decide +kernel)⟩
theorem lw_p10 : lw_okq (⟨"FloodCells", "readyFlight", "()V"⟩, 8) := ⟨⟨by decide +kernel, by decide +kernel⟩, List.mem_of_getElem? (i := 14) (by decide +kernel), List.mem_of_getElem? (i := 577) (by decide +kernel), List.mem_of_getElem? (i := 578) (by decide +kernel)⟩
theorem lw_p11 : lw_okq (⟨"FloodCells$Flight", "fillRoadOut", "(LFloodCells$Roads;II)V"⟩, 18) := ⟨⟨by decide +kernel, by decide +kernel⟩, List.mem_of_getElem? (i := 241) (by decide +kernel), List.mem_of_getElem? (i := 594) (by decide +kernel), List.mem_of_getElem? (i := 595) (by decide +kernel)⟩
theorem lw_p12 : lw_okq (⟨"FloodCells$Flight", "findPeople", "(LFloodCells$Roads;II)I"⟩, 18) := ⟨⟨by decide +kernel, by decide +kernel⟩, List.mem_of_getElem? (i := 241) (by decide +kernel), List.mem_of_getElem? (i := 598) (by decide +kernel), List.mem_of_getElem? (i := 599) (by decide +kernel)⟩
theorem lw_p13 : lw_okq (⟨"FloodCells$Flight", "beginSearch", "()V"⟩, 18) := ⟨⟨by decide +kernel, by decide +kernel⟩, List.mem_of_getElem? (i := 241) (by decide +kernel), List.mem_of_getElem? (i := 602) (by decide +kernel), List.mem_of_getElem? (i := 603) (by decide +kernel)⟩
theorem lw_p14 : lw_okq (⟨"FloodCells$Flight", "meet", "(II)V"⟩, 18) := ⟨⟨by decide +kernel, by decide +kernel⟩, List.mem_of_getElem? (i := 241) (by decide +kernel), List.mem_of_getElem? (i := 606) (by decide +kernel), List.mem_of_getElem? (i := 607) (by decide +kernel)⟩
theorem lw_p15 : lw_okq (⟨"FloodCells$Flight", "meetThoseBehind", "(LFloodCells$Roads;I)V"⟩, 18) := ⟨⟨by decide +kernel, by decide +kernel⟩, List.mem_of_getElem? (i := 241) (by decide +kernel), List.mem_of_getElem? (i := 610) (by decide +kernel), List.mem_of_getElem? (i := 611) (by decide +kernel)⟩
def lw_privs_1 : List (MethodName × Nat) := [(⟨"FloodCells$Bodies", "add", "(II)I"⟩, 10), (⟨"FloodCells", "waterChanges", "()V"⟩, 8), (⟨"FloodCells", "hourToCome", "(I)Z"⟩, 8), (⟨"FloodCells", "brokeBefore", "(I)Z"⟩, 8), (⟨"FloodCells", "canSend", "(II)Z"⟩, 8), (⟨"FloodCells$Flood", "takeInflow", "(LFloodCells$Bodies;)V"⟩, 6), (⟨"FloodCells$Flood", "passDown", "(LFloodCells$Bodies;)V"⟩, 6), (⟨"FloodCells$Flood", "layBags", "(LFloodCells$Dikes;I)V"⟩, 6), (⟨"FloodCells$Flood", "goOver", "(LFloodCells$Bodies;LFloodCells$Dikes;I)V"⟩, 6), (⟨"FloodCells", "lossWithBags", "(II)I"⟩, 8), (⟨"FloodCells", "readyFlight", "()V"⟩, 8), (⟨"FloodCells$Flight", "fillRoadOut", "(LFloodCells$Roads;II)V"⟩, 18), (⟨"FloodCells$Flight", "findPeople", "(LFloodCells$Roads;II)I"⟩, 18), (⟨"FloodCells$Flight", "beginSearch", "()V"⟩, 18), (⟨"FloodCells$Flight", "meet", "(II)V"⟩, 18), (⟨"FloodCells$Flight", "meetThoseBehind", "(LFloodCells$Roads;I)V"⟩, 18)]
theorem lw_r1 : ∀ q ∈ lw_privs_1, lw_okq q := List.forall_mem_cons.mpr ⟨lw_p0, List.forall_mem_cons.mpr ⟨lw_p1, List.forall_mem_cons.mpr ⟨lw_p2, List.forall_mem_cons.mpr ⟨lw_p3, List.forall_mem_cons.mpr ⟨lw_p4, List.forall_mem_cons.mpr ⟨lw_p5, List.forall_mem_cons.mpr ⟨lw_p6, List.forall_mem_cons.mpr ⟨lw_p7, List.forall_mem_cons.mpr ⟨lw_p8, List.forall_mem_cons.mpr ⟨lw_p9, List.forall_mem_cons.mpr ⟨lw_p10, List.forall_mem_cons.mpr ⟨lw_p11, List.forall_mem_cons.mpr ⟨lw_p12, List.forall_mem_cons.mpr ⟨lw_p13, List.forall_mem_cons.mpr ⟨lw_p14, List.forall_mem_cons.mpr ⟨lw_p15, fun _ h => absurd h List.not_mem_nil⟩⟩⟩⟩⟩⟩⟩⟩⟩⟩⟩⟩⟩⟩⟩⟩
theorem lw_p16 : lw_okq (⟨"FloodCells$Flight", "endOf", "(LFloodCells$Roads;II)I"⟩, 18) := ⟨⟨by decide +kernel, by decide +kernel⟩, List.mem_of_getElem? (i := 241) (by decide +kernel), List.mem_of_getElem? (i := 614) (by decide +kernel), List.mem_of_getElem? (i := 615) (by decide +kernel)⟩
theorem lw_p17 : lw_okq (⟨"FloodCells$Flight", "roomFrom", "(LFloodCells$Roads;I)I"⟩, 18) := ⟨⟨by decide +kernel, by decide +kernel⟩, List.mem_of_getElem? (i := 241) (by decide +kernel), List.mem_of_getElem? (i := 618) (by decide +kernel), List.mem_of_getElem? (i := 619) (by decide +kernel)⟩
theorem lw_p18 : lw_okq (⟨"FloodCells$Flight", "roomOfStep", "(LFloodCells$Roads;I)I"⟩, 18) := ⟨⟨by decide +kernel, by decide +kernel⟩, List.mem_of_getElem? (i := 241) (by decide +kernel), List.mem_of_getElem? (i := 622) (by decide +kernel), List.mem_of_getElem? (i := 623) (by decide +kernel)⟩
theorem lw_p19 : lw_okq (⟨"FloodCells$Flight", "placeAhead", "(LFloodCells$Roads;I)I"⟩, 18) := ⟨⟨by decide +kernel, by decide +kernel⟩, List.mem_of_getElem? (i := 241) (by decide +kernel), List.mem_of_getElem? (i := 629) (by decide +kernel), List.mem_of_getElem? (i := 630) (by decide +kernel)⟩
theorem lw_p20 : lw_okq (⟨"FloodCells$Flight", "moveFrom", "(LFloodCells$Roads;II)V"⟩, 18) := ⟨⟨by decide +kernel, by decide +kernel⟩, List.mem_of_getElem? (i := 241) (by decide +kernel), List.mem_of_getElem? (i := 633) (by decide +kernel), List.mem_of_getElem? (i := 634) (by decide +kernel)⟩
theorem lw_p21 : lw_okq (⟨"FloodCells$Flight", "moveStep", "(LFloodCells$Roads;II)V"⟩, 18) := ⟨⟨by decide +kernel, by decide +kernel⟩, List.mem_of_getElem? (i := 241) (by decide +kernel), List.mem_of_getElem? (i := 637) (by decide +kernel), List.mem_of_getElem? (i := 638) (by decide +kernel)⟩
theorem lw_p22 : lw_okq (⟨"FloodCells", "readyBars", "(I)V"⟩, 8) := ⟨⟨by decide +kernel, by decide +kernel⟩, List.mem_of_getElem? (i := 14) (by decide +kernel), List.mem_of_getElem? (i := 653) (by decide +kernel), List.mem_of_getElem? (i := 654) (by decide +kernel)⟩
theorem lw_p23 : lw_okq (⟨"FloodCells$Flight", "meetThoseAhead", "(LFloodCells$Roads;II)V"⟩, 18) := ⟨⟨by decide +kernel, by decide +kernel⟩, List.mem_of_getElem? (i := 241) (by decide +kernel), List.mem_of_getElem? (i := 661) (by decide +kernel), List.mem_of_getElem? (i := 662) (by decide +kernel)⟩
theorem lw_p24 : lw_okq (⟨"FloodCells$Flight", "listBars", "(LFloodCells$Roads;I)V"⟩, 18) := ⟨⟨by decide +kernel, by decide +kernel⟩, List.mem_of_getElem? (i := 241) (by decide +kernel), List.mem_of_getElem? (i := 665) (by decide +kernel), List.mem_of_getElem? (i := 666) (by decide +kernel)⟩
theorem lw_p25 : lw_okq (⟨"FloodCells$Flight", "isBar", "(LFloodCells$Roads;II)Z"⟩, 18) := ⟨⟨by decide +kernel, by decide +kernel⟩, List.mem_of_getElem? (i := 241) (by decide +kernel), List.mem_of_getElem? (i := 669) (by decide +kernel), List.mem_of_getElem? (i := 670) (by decide +kernel)⟩
theorem lw_p26 : lw_okq (⟨"FloodCells", "allBagsUnderWay", "()I"⟩, 8) := ⟨⟨by decide +kernel, by decide +kernel⟩, List.mem_of_getElem? (i := 14) (by decide +kernel), List.mem_of_getElem? (i := 689) (by decide +kernel), List.mem_of_getElem? (i := 690) (by decide +kernel)⟩
theorem lw_p27 : lw_okq (⟨"FloodCellsModel", "body", "(II)I"⟩, 44) := ⟨⟨by decide +kernel, by decide +kernel⟩, List.mem_of_getElem? (i := 697) (by decide +kernel), List.mem_of_getElem? (i := 844) (by decide +kernel), List.mem_of_getElem? (i := 845) (by decide +kernel)⟩
theorem lw_p28 : lw_okq (⟨"FloodCellsModel", "isBody", "(I)Z"⟩, 44) := ⟨⟨by decide +kernel, by decide +kernel⟩, List.mem_of_getElem? (i := 697) (by decide +kernel), List.mem_of_getElem? (i := 857) (by decide +kernel), List.mem_of_getElem? (i := 858) (by decide +kernel)⟩
theorem lw_p29 : lw_okq (⟨"FloodCellsModel", "isDike", "(I)Z"⟩, 44) := ⟨⟨by decide +kernel, by decide +kernel⟩, List.mem_of_getElem? (i := 697) (by decide +kernel), List.mem_of_getElem? (i := 865) (by decide +kernel), List.mem_of_getElem? (i := 866) (by decide +kernel)⟩
theorem lw_p30 : lw_okq (⟨"FloodCellsModel", "isBreached", "(II)Z"⟩, 44) := ⟨⟨by decide +kernel, by decide +kernel⟩, List.mem_of_getElem? (i := 697) (by decide +kernel), List.mem_of_getElem? (i := 869) (by decide +kernel), List.mem_of_getElem? (i := 870) (by decide +kernel)⟩
theorem lw_p31 : lw_okq (⟨"FloodCellsModel", "canSend", "(II)Z"⟩, 44) := ⟨⟨by decide +kernel, by decide +kernel⟩, List.mem_of_getElem? (i := 697) (by decide +kernel), List.mem_of_getElem? (i := 886) (by decide +kernel), List.mem_of_getElem? (i := 887) (by decide +kernel)⟩
def lw_privs_2 : List (MethodName × Nat) := [(⟨"FloodCells$Flight", "endOf", "(LFloodCells$Roads;II)I"⟩, 18), (⟨"FloodCells$Flight", "roomFrom", "(LFloodCells$Roads;I)I"⟩, 18), (⟨"FloodCells$Flight", "roomOfStep", "(LFloodCells$Roads;I)I"⟩, 18), (⟨"FloodCells$Flight", "placeAhead", "(LFloodCells$Roads;I)I"⟩, 18), (⟨"FloodCells$Flight", "moveFrom", "(LFloodCells$Roads;II)V"⟩, 18), (⟨"FloodCells$Flight", "moveStep", "(LFloodCells$Roads;II)V"⟩, 18), (⟨"FloodCells", "readyBars", "(I)V"⟩, 8), (⟨"FloodCells$Flight", "meetThoseAhead", "(LFloodCells$Roads;II)V"⟩, 18), (⟨"FloodCells$Flight", "listBars", "(LFloodCells$Roads;I)V"⟩, 18), (⟨"FloodCells$Flight", "isBar", "(LFloodCells$Roads;II)Z"⟩, 18), (⟨"FloodCells", "allBagsUnderWay", "()I"⟩, 8), (⟨"FloodCellsModel", "body", "(II)I"⟩, 44), (⟨"FloodCellsModel", "isBody", "(I)Z"⟩, 44), (⟨"FloodCellsModel", "isDike", "(I)Z"⟩, 44), (⟨"FloodCellsModel", "isBreached", "(II)Z"⟩, 44), (⟨"FloodCellsModel", "canSend", "(II)Z"⟩, 44)]
theorem lw_r2 : ∀ q ∈ lw_privs_2, lw_okq q := List.forall_mem_cons.mpr ⟨lw_p16, List.forall_mem_cons.mpr ⟨lw_p17, List.forall_mem_cons.mpr ⟨lw_p18, List.forall_mem_cons.mpr ⟨lw_p19, List.forall_mem_cons.mpr ⟨lw_p20, List.forall_mem_cons.mpr ⟨lw_p21, List.forall_mem_cons.mpr ⟨lw_p22, List.forall_mem_cons.mpr ⟨lw_p23, List.forall_mem_cons.mpr ⟨lw_p24, List.forall_mem_cons.mpr ⟨lw_p25, List.forall_mem_cons.mpr ⟨lw_p26, List.forall_mem_cons.mpr ⟨lw_p27, List.forall_mem_cons.mpr ⟨lw_p28, List.forall_mem_cons.mpr ⟨lw_p29, List.forall_mem_cons.mpr ⟨lw_p30, List.forall_mem_cons.mpr ⟨lw_p31, fun _ h => absurd h List.not_mem_nil⟩⟩⟩⟩⟩⟩⟩⟩⟩⟩⟩⟩⟩⟩⟩⟩
theorem lw_p32 : lw_okq (⟨"FloodCellsModel", "isCell", "(I)Z"⟩, 44) := ⟨⟨by decide +kernel, by decide +kernel⟩, List.mem_of_getElem? (i := 697) (by decide +kernel), List.mem_of_getElem? (i := 907) (by decide +kernel), List.mem_of_getElem? (i := 908) (by decide +kernel)⟩
theorem lw_p33 : lw_okq (⟨"FloodCellsModel", "hour", "(II)V"⟩, 44) := ⟨⟨by decide +kernel, by decide +kernel⟩, List.mem_of_getElem? (i := 697) (by decide +kernel), List.mem_of_getElem? (i := 915) (by decide +kernel), List.mem_of_getElem? (i := 916) (by decide +kernel)⟩
theorem lw_p34 : lw_okq (⟨"FloodCellsModel", "over", "(III)V"⟩, 44) := ⟨⟨by decide +kernel, by decide +kernel⟩, List.mem_of_getElem? (i := 697) (by decide +kernel), List.mem_of_getElem? (i := 920) (by decide +kernel), List.mem_of_getElem? (i := 921) (by decide +kernel)⟩
theorem lw_p35 : lw_okq (⟨"FloodCellsModel", "level", "(II)I"⟩, 44) := ⟨⟨by decide +kernel, by decide +kernel⟩, List.mem_of_getElem? (i := 697) (by decide +kernel), List.mem_of_getElem? (i := 924) (by decide +kernel), List.mem_of_getElem? (i := 925) (by decide +kernel)⟩
theorem lw_p36 : lw_okq (⟨"FloodCellsModel", "top", "(III)I"⟩, 44) := ⟨⟨by decide +kernel, by decide +kernel⟩, List.mem_of_getElem? (i := 697) (by decide +kernel), List.mem_of_getElem? (i := 928) (by decide +kernel), List.mem_of_getElem? (i := 929) (by decide +kernel)⟩
theorem lw_p37 : lw_okq (⟨"FloodCellsModel", "underWay", "(I)I"⟩, 44) := ⟨⟨by decide +kernel, by decide +kernel⟩, List.mem_of_getElem? (i := 697) (by decide +kernel), List.mem_of_getElem? (i := 945) (by decide +kernel), List.mem_of_getElem? (i := 946) (by decide +kernel)⟩
theorem lw_p38 : lw_okq (⟨"FloodCellsModel", "foretells", "()V"⟩, 44) := ⟨⟨by decide +kernel, by decide +kernel⟩, List.mem_of_getElem? (i := 697) (by decide +kernel), List.mem_of_getElem? (i := 953) (by decide +kernel), List.mem_of_getElem? (i := 954) (by decide +kernel)⟩
theorem lw_p39 : lw_okq (⟨"FloodCellsModel", "isWet", "(II)Z"⟩, 44) := ⟨⟨by decide +kernel, by decide +kernel⟩, List.mem_of_getElem? (i := 697) (by decide +kernel), List.mem_of_getElem? (i := 957) (by decide +kernel), List.mem_of_getElem? (i := 958) (by decide +kernel)⟩
theorem lw_p40 : lw_okq (⟨"FloodCellsModel", "leads", "(I)I"⟩, 44) := ⟨⟨by decide +kernel, by decide +kernel⟩, List.mem_of_getElem? (i := 697) (by decide +kernel), List.mem_of_getElem? (i := 978) (by decide +kernel), List.mem_of_getElem? (i := 979) (by decide +kernel)⟩
theorem lw_p41 : lw_okq (⟨"FloodCellsModel", "seeks", "(I)Z"⟩, 44) := ⟨⟨by decide +kernel, by decide +kernel⟩, List.mem_of_getElem? (i := 697) (by decide +kernel), List.mem_of_getElem? (i := 982) (by decide +kernel), List.mem_of_getElem? (i := 983) (by decide +kernel)⟩
theorem lw_p42 : lw_okq (⟨"FloodCellsModel", "isPlace", "(III)Z"⟩, 44) := ⟨⟨by decide +kernel, by decide +kernel⟩, List.mem_of_getElem? (i := 697) (by decide +kernel), List.mem_of_getElem? (i := 986) (by decide +kernel), List.mem_of_getElem? (i := 987) (by decide +kernel)⟩
theorem lw_p43 : lw_okq (⟨"FloodCellsModel", "sees", "(IIII)V"⟩, 44) := ⟨⟨by decide +kernel, by decide +kernel⟩, List.mem_of_getElem? (i := 697) (by decide +kernel), List.mem_of_getElem? (i := 990) (by decide +kernel), List.mem_of_getElem? (i := 991) (by decide +kernel)⟩
theorem lw_p44 : lw_okq (⟨"FloodCellsModel", "spreads", "(III)V"⟩, 44) := ⟨⟨by decide +kernel, by decide +kernel⟩, List.mem_of_getElem? (i := 697) (by decide +kernel), List.mem_of_getElem? (i := 994) (by decide +kernel), List.mem_of_getElem? (i := 995) (by decide +kernel)⟩
theorem lw_p45 : lw_okq (⟨"FloodCellsModel", "more", "(I)I"⟩, 44) := ⟨⟨by decide +kernel, by decide +kernel⟩, List.mem_of_getElem? (i := 697) (by decide +kernel), List.mem_of_getElem? (i := 998) (by decide +kernel), List.mem_of_getElem? (i := 999) (by decide +kernel)⟩
theorem lw_p46 : lw_okq (⟨"FloodCellsModel", "placeAhead", "(I)I"⟩, 44) := ⟨⟨by decide +kernel, by decide +kernel⟩, List.mem_of_getElem? (i := 697) (by decide +kernel), List.mem_of_getElem? (i := 1003) (by decide +kernel), List.mem_of_getElem? (i := 1004) (by decide +kernel)⟩
theorem lw_p47 : lw_okq (⟨"FloodCellsModel", "goes", "(II)V"⟩, 44) := ⟨⟨by decide +kernel, by decide +kernel⟩, List.mem_of_getElem? (i := 697) (by decide +kernel), List.mem_of_getElem? (i := 1007) (by decide +kernel), List.mem_of_getElem? (i := 1008) (by decide +kernel)⟩
def lw_privs_3 : List (MethodName × Nat) := [(⟨"FloodCellsModel", "isCell", "(I)Z"⟩, 44), (⟨"FloodCellsModel", "hour", "(II)V"⟩, 44), (⟨"FloodCellsModel", "over", "(III)V"⟩, 44), (⟨"FloodCellsModel", "level", "(II)I"⟩, 44), (⟨"FloodCellsModel", "top", "(III)I"⟩, 44), (⟨"FloodCellsModel", "underWay", "(I)I"⟩, 44), (⟨"FloodCellsModel", "foretells", "()V"⟩, 44), (⟨"FloodCellsModel", "isWet", "(II)Z"⟩, 44), (⟨"FloodCellsModel", "leads", "(I)I"⟩, 44), (⟨"FloodCellsModel", "seeks", "(I)Z"⟩, 44), (⟨"FloodCellsModel", "isPlace", "(III)Z"⟩, 44), (⟨"FloodCellsModel", "sees", "(IIII)V"⟩, 44), (⟨"FloodCellsModel", "spreads", "(III)V"⟩, 44), (⟨"FloodCellsModel", "more", "(I)I"⟩, 44), (⟨"FloodCellsModel", "placeAhead", "(I)I"⟩, 44), (⟨"FloodCellsModel", "goes", "(II)V"⟩, 44)]
theorem lw_r3 : ∀ q ∈ lw_privs_3, lw_okq q := List.forall_mem_cons.mpr ⟨lw_p32, List.forall_mem_cons.mpr ⟨lw_p33, List.forall_mem_cons.mpr ⟨lw_p34, List.forall_mem_cons.mpr ⟨lw_p35, List.forall_mem_cons.mpr ⟨lw_p36, List.forall_mem_cons.mpr ⟨lw_p37, List.forall_mem_cons.mpr ⟨lw_p38, List.forall_mem_cons.mpr ⟨lw_p39, List.forall_mem_cons.mpr ⟨lw_p40, List.forall_mem_cons.mpr ⟨lw_p41, List.forall_mem_cons.mpr ⟨lw_p42, List.forall_mem_cons.mpr ⟨lw_p43, List.forall_mem_cons.mpr ⟨lw_p44, List.forall_mem_cons.mpr ⟨lw_p45, List.forall_mem_cons.mpr ⟨lw_p46, List.forall_mem_cons.mpr ⟨lw_p47, fun _ h => absurd h List.not_mem_nil⟩⟩⟩⟩⟩⟩⟩⟩⟩⟩⟩⟩⟩⟩⟩⟩
theorem lw_p48 : lw_okq (⟨"FloodCellsModel", "isBar", "(III)Z"⟩, 44) := ⟨⟨by decide +kernel, by decide +kernel⟩, List.mem_of_getElem? (i := 697) (by decide +kernel), List.mem_of_getElem? (i := 1019) (by decide +kernel), List.mem_of_getElem? (i := 1020) (by decide +kernel)⟩
def lw_privs_4 : List (MethodName × Nat) := [(⟨"FloodCellsModel", "isBar", "(III)Z"⟩, 44)]
theorem lw_r4 : ∀ q ∈ lw_privs_4, lw_okq q := List.forall_mem_cons.mpr ⟨lw_p48, fun _ h => absurd h List.not_mem_nil⟩
def lw_privs : List (MethodName × Nat) := lw_privs_1 ++ (lw_privs_2 ++ (lw_privs_3 ++ (lw_privs_4)))
def lw_tbl : List Cond := k2_sels lw_privs ++ tables_1
theorem lw_privs_ok : ∀ q ∈ lw_privs, lw_okq q := by
  show ∀ q ∈ lw_privs_1 ++ (lw_privs_2 ++ (lw_privs_3 ++ (lw_privs_4))), lw_okq q
  exact List.forall_mem_append.mpr ⟨lw_r1, List.forall_mem_append.mpr ⟨lw_r2, List.forall_mem_append.mpr ⟨lw_r3, lw_r4⟩⟩⟩
end
section
/-! a small machine over whole numbers: cells are numbered, a reference is a cell's number -/
abbrev AV : Type := Int ⊕ (Int ⊕ Nat)
abbrev Me : Type := Nat → Int → Int
abbrev Lo : Type := List (Option AV)
abbrev St : Type := List AV
abbrev Op : Type := Nat × Nat × Int
abbrev Ou : Type := Nat × Nat × Lo × St × Me × List AV × Int
abbrev vI (x : Int) : AV := .inl x
abbrev vL (x : Int) : AV := .inr (.inl x)
abbrev vR (k : Nat) : AV := .inr (.inr k)
def w32 (x : Int) : Int := x.bmod 4294967296
def w64 (x : Int) : Int := x.bmod 18446744073709551616
def me_put (M : Me) (k : Nat) (i v : Int) : Me := fun a b => if a = k ∧ b = i then v else M a b
def me_cpy (M : Me) (sk : Nat) (sp : Int) (dk : Nat) (dp n : Int) : Me := fun a b => if a = dk ∧ dp ≤ b ∧ b < dp + n then M sk (sp + (b - dp)) else M a b
/-- the n-th of a list, else a default -/
def nt {α : Type} (d : α) : List α → Nat → α
  | [], _ => d
  | a :: _, 0 => a
  | _ :: l, n + 1 => nt d l n
def lg (lo : Lo) (i : Nat) : Option AV := nt none lo i
def lz : Lo → Nat → AV → Lo
  | [], _, _ => []
  | _ :: l, 0, v => some v :: l
  | a :: l, n + 1, v => a :: lz l n v
def ly : Lo → Nat → Lo
  | [], _ => []
  | _ :: l, 0 => none :: l
  | a :: l, n + 1 => a :: ly l n
def isL : Option AV → Bool
  | some (.inr (.inl _)) => true
  | _ => false
def lp (lo : Lo) : Nat → Bool
  | 0 => false
  | n + 1 => isL (lg lo n)
def cnd (c : Int) (x y : Int) : Prop := (c = 0 ∧ x = y) ∨ (c = 1 ∧ x ≠ y) ∨ (c = 2 ∧ x < y) ∨ (c = 3 ∧ x ≥ y) ∨ (c = 4 ∧ x > y) ∨ (c = 5 ∧ x ≤ y)
noncomputable def iand (x y : Int) : Int := (Int32.ofInt x &&& Int32.ofInt y).toInt
noncomputable def ior (x y : Int) : Int := (Int32.ofInt x ||| Int32.ofInt y).toInt
noncomputable def ishl (x y : Int) : Int := (Int32.ofInt x <<< (Int32.ofInt y &&& 31)).toInt
noncomputable def ishr (x y : Int) : Int := (Int32.ofInt x >>> (Int32.ofInt y &&& 31)).toInt
abbrev nx (lo : Lo) (st : St) (M : Me) : Option Ou := some (0, 0, lo, st, M, [], 0)
abbrev jp (t : Nat) (lo : Lo) (st : St) (M : Me) : Option Ou := some (1, t, lo, st, M, [], 0)
abbrev cl (z : Nat) (lo : Lo) (st : St) (M : Me) (as : List AV) (f : Int) : Option Ou := some (2, z, lo, st, M, as, f)
abbrev rt (M : Me) (v : Int) : Option Ou := some (3, 0, [], [], M, [], v)
def swj (q : Int × List Nat × Nat) (x : Int) : Nat := if x < q.1 then q.2.2 else nt q.2.2 q.2.1 (x - q.1).toNat
end
section
/-! what the cells are: by program out of the class files' constructors -/
def kdl : List Nat := [0, 0, 0, 0, 0, 0, 0, 0, 0, 2, 1, 1, 1, 1, 1, 1, 1, 1, 1, 1, 1, 1, 1, 1, 1, 1, 1, 1, 1, 1, 1, 1, 1, 1, 1, 1, 1, 1, 1, 1, 1, 1, 1, 1, 1, 1, 1, 1, 1, 1, 0, 2, 1, 1, 1, 1, 1, 1, 1, 1, 1, 1, 1, 1, 1, 1, 1, 1, 1, 1, 1, 1, 1, 1, 1, 1, 3, 3, 1, 1, 1, 1, 2, 1, 1, 1]
def lnl : List Int := [0, 0, 0, 0, 0, 0, 0, 0, 0, 10, 10, 10, 10, 10, 10, 10, 100, 12, 12, 12, 12, 12, 12, 12, 1200, 12, 12, 12, 12, 120, 10, 120, 10, 100, 100, 100, 10, 12, 1010, 101, 10, 1010, 1200, 1010, 1010, 1010, 1010, 1200, 10, 12, 0, 10, 10, 10, 10, 10, 10, 100, 12, 12, 12, 12, 12, 12, 12, 1212, 100, 100, 100, 12, 12, 12, 12, 20, 24, 2, 2, 2, 1010, 10, 1010, 1212, 1010, 1010, 1010, 1010]
def ocl : List Nat := [7, 0, 1, 6, 5, 3, 4, 2, 3, 99, 99, 99, 99, 99, 99, 99, 99, 99, 99, 99, 99, 99, 99, 99, 99, 99, 99, 99, 99, 99, 99, 99, 99, 99, 99, 99, 99, 99, 99, 99, 99, 99, 99, 99, 99, 99, 99, 99, 99, 99, 8, 99, 99, 99, 99, 99, 99, 99, 99, 99, 99, 99, 99, 99, 99, 99, 99, 99, 99, 99, 99, 99, 99, 99, 99, 99, 99, 99, 99, 99, 99, 99, 99, 99, 99, 99]
def kd (k : Nat) : Nat := nt 9 kdl k
def ln (k : Nat) : Int := nt 0 lnl k
def oc (k : Nat) : Nat := nt 99 ocl k
/-- a field: 0 a number, 1 a truth value, r + 2 the cell r -/
def fkl : List (List Nat) := [[3, 4, 5, 6, 7, 8, 9, 0], [11, 12, 13, 14, 15, 16, 17, 18, 0, 0], [19, 20, 21, 22, 23, 24, 25, 26, 0], [27, 28, 29, 30, 31, 32, 33, 34, 0], [35, 36, 37, 0], [38, 39, 0, 0, 0, 0], [10, 40, 1], [41, 42, 43, 44, 45, 46, 47, 48, 49, 0, 0, 0, 0, 0, 0, 0, 0, 1], [50, 51, 0, 0, 0, 0], [], [], [], [], [], [], [], [], [], [], [], [], [], [], [], [], [], [], [], [], [], [], [], [], [], [], [], [], [], [], [], [], [], [], [], [], [], [], [], [], [], [0, 0, 53, 54, 55, 56, 57, 58, 59, 0, 60, 61, 62, 63, 64, 65, 66, 67, 0, 0, 68, 69, 70, 0, 71, 72, 73, 74, 75, 76, 77, 78, 79, 80, 81, 82, 83, 84, 85, 86, 87, 0, 0, 0], [], [], [], [], [], [], [], [], [], [], [], [], [], [], [], [], [], [], [], [], [], [], [], [], [], [], [], [], [], [], [], [], [], [], []]
def fk (o k : Nat) : Nat := nt 0 (nt [] fkl o) k
def swl : List (Int × List Nat × Nat) := [(0, [2, 3, 4, 5, 6, 7, 8, 9, 10, 11, 12, 13, 14, 15, 16, 17, 18, 19, 20, 21, 22, 23, 24, 25], 26), (0, [2, 3, 4, 5, 6, 9, 12, 15], 18), (0, [2, 3, 4, 5], 8), (0, [1, 2, 3, 4, 5, 6, 7, 8, 9, 10], 11), (0, [2, 3, 4, 5, 6, 9, 12, 15], 18), (0, [2, 3, 4, 5], 8), (1, [1, 2, 3], 4), (0, [1, 2, 3, 4], 5), (0, [1, 2, 3, 4], 5), (0, [1, 2, 3, 4, 5, 6, 9, 12, 13, 14], 15)]
def sw (i : Nat) : Int × List Nat × Nat := nt (0, [], 0) swl i
/-- FLaw.law([I)Z -/
def bk0 : List (List Op) := [[(3, 0, 0), (1, 3, 0), (32, 1, 0)],
  [(0, 3, 0), (47, 0, 0), (45, 0, 0), (3, 0, 6), (7, 0, 0), (30, 27, 4), (47, 0, 0), (0, 3, 0), (44, 0, 0), (3, 0, 31), (9, 0, 0), (36, 0, 0)],
  [(47, 1, 0), (47, 0, 0), (0, 3, 0), (3, 0, 1), (6, 0, 0), (44, 0, 0), (47, 0, 0), (0, 3, 0), (3, 0, 2), (6, 0, 0), (44, 0, 0), (47, 0, 0), (0, 3, 0), (3, 0, 3), (6, 0, 0), (44, 0, 0), (54, 52, 1), (47, 2, 0), (47, 0, 0), (0, 3, 0), (3, 0, 1), (6, 0, 0), (44, 0, 0), (47, 0, 0), (0, 3, 0), (3, 0, 2), (6, 0, 0), (44, 0, 0), (47, 0, 0), (0, 3, 0), (3, 0, 3), (6, 0, 0), (44, 0, 0), (54, 90, 1), (30, 26, 0), (3, 0, 0), (37, 0, 1)],
  [(47, 1, 0), (47, 0, 0), (0, 3, 0), (3, 0, 1), (6, 0, 0), (44, 0, 0), (47, 0, 0), (0, 3, 0), (3, 0, 2), (6, 0, 0), (44, 0, 0), (47, 0, 0), (0, 3, 0), (3, 0, 3), (6, 0, 0), (44, 0, 0), (47, 0, 0), (0, 3, 0), (3, 0, 4), (6, 0, 0), (44, 0, 0), (55, 53, 1), (47, 2, 0), (47, 0, 0), (0, 3, 0), (3, 0, 1), (6, 0, 0), (44, 0, 0), (47, 0, 0), (0, 3, 0), (3, 0, 2), (6, 0, 0), (44, 0, 0), (47, 0, 0), (0, 3, 0), (3, 0, 3), (6, 0, 0), (44, 0, 0), (47, 0, 0), (0, 3, 0), (3, 0, 4), (6, 0, 0), (44, 0, 0), (55, 91, 1), (30, 26, 0), (3, 0, 0), (37, 0, 1)],
  [(47, 1, 0), (47, 0, 0), (0, 3, 0), (3, 0, 1), (6, 0, 0), (44, 0, 0), (47, 0, 0), (0, 3, 0), (3, 0, 2), (6, 0, 0), (44, 0, 0), (47, 0, 0), (0, 3, 0), (3, 0, 3), (6, 0, 0), (44, 0, 0), (47, 0, 0), (0, 3, 0), (3, 0, 4), (6, 0, 0), (44, 0, 0), (47, 0, 0), (0, 3, 0), (3, 0, 5), (6, 0, 0), (44, 0, 0), (56, 54, 1), (47, 2, 0), (47, 0, 0), (0, 3, 0), (3, 0, 1), (6, 0, 0), (44, 0, 0), (47, 0, 0), (0, 3, 0), (3, 0, 2), (6, 0, 0), (44, 0, 0), (47, 0, 0), (0, 3, 0), (3, 0, 3), (6, 0, 0), (44, 0, 0), (47, 0, 0), (0, 3, 0), (3, 0, 4), (6, 0, 0), (44, 0, 0), (47, 0, 0), (0, 3, 0), (3, 0, 5), (6, 0, 0), (44, 0, 0), (56, 92, 1), (30, 26, 0), (3, 0, 0), (37, 0, 1)],
  [(47, 1, 0), (47, 0, 0), (0, 3, 0), (3, 0, 1), (6, 0, 0), (44, 0, 0), (47, 0, 0), (0, 3, 0), (3, 0, 2), (6, 0, 0), (44, 0, 0), (47, 0, 0), (0, 3, 0), (3, 0, 3), (6, 0, 0), (44, 0, 0), (54, 55, 1), (47, 2, 0), (47, 0, 0), (0, 3, 0), (3, 0, 1), (6, 0, 0), (44, 0, 0), (47, 0, 0), (0, 3, 0), (3, 0, 2), (6, 0, 0), (44, 0, 0), (47, 0, 0), (0, 3, 0), (3, 0, 3), (6, 0, 0), (44, 0, 0), (54, 94, 1), (30, 26, 0), (3, 0, 0), (37, 0, 1)],
  [(47, 1, 0), (47, 0, 0), (0, 3, 0), (3, 0, 1), (6, 0, 0), (44, 0, 0), (47, 0, 0), (0, 3, 0), (3, 0, 2), (6, 0, 0), (44, 0, 0), (53, 56, 1), (47, 2, 0), (47, 0, 0), (0, 3, 0), (3, 0, 1), (6, 0, 0), (44, 0, 0), (47, 0, 0), (0, 3, 0), (3, 0, 2), (6, 0, 0), (44, 0, 0), (53, 95, 1), (30, 26, 0), (3, 0, 0), (37, 0, 1)],
  [(47, 1, 0), (47, 0, 0), (0, 3, 0), (3, 0, 1), (6, 0, 0), (44, 0, 0), (52, 57, 1), (47, 2, 0), (47, 0, 0), (0, 3, 0), (3, 0, 1), (6, 0, 0), (44, 0, 0), (52, 96, 1), (30, 26, 0), (3, 0, 0), (37, 0, 1)],
  [(47, 1, 0), (47, 0, 0), (0, 3, 0), (3, 0, 1), (6, 0, 0), (44, 0, 0), (47, 0, 0), (0, 3, 0), (3, 0, 2), (6, 0, 0), (44, 0, 0), (53, 58, 1), (47, 2, 0), (47, 0, 0), (0, 3, 0), (3, 0, 1), (6, 0, 0), (44, 0, 0), (47, 0, 0), (0, 3, 0), (3, 0, 2), (6, 0, 0), (44, 0, 0), (53, 98, 1), (30, 26, 0), (3, 0, 0), (37, 0, 1)],
  [(47, 1, 0), (47, 0, 0), (0, 3, 0), (3, 0, 1), (6, 0, 0), (44, 0, 0), (47, 0, 0), (0, 3, 0), (3, 0, 2), (6, 0, 0), (44, 0, 0), (47, 0, 0), (0, 3, 0), (3, 0, 3), (6, 0, 0), (44, 0, 0), (54, 59, 1), (47, 2, 0), (47, 0, 0), (0, 3, 0), (3, 0, 1), (6, 0, 0), (44, 0, 0), (47, 0, 0), (0, 3, 0), (3, 0, 2), (6, 0, 0), (44, 0, 0), (47, 0, 0), (0, 3, 0), (3, 0, 3), (6, 0, 0), (44, 0, 0), (54, 99, 1), (30, 26, 0), (3, 0, 0), (37, 0, 1)],
  [(47, 1, 0), (47, 0, 0), (0, 3, 0), (3, 0, 1), (6, 0, 0), (44, 0, 0), (52, 60, 1), (47, 2, 0), (47, 0, 0), (0, 3, 0), (3, 0, 1), (6, 0, 0), (44, 0, 0), (52, 100, 1), (30, 26, 0), (3, 0, 0), (37, 0, 1)],
  [(47, 1, 0), (51, 61, 1), (47, 2, 0), (51, 101, 1), (30, 26, 0), (3, 0, 0), (37, 0, 1)],
  [(47, 1, 0), (47, 0, 0), (0, 3, 0), (3, 0, 1), (6, 0, 0), (44, 0, 0), (47, 0, 0), (0, 3, 0), (3, 0, 2), (6, 0, 0), (44, 0, 0), (47, 0, 0), (0, 3, 0), (3, 0, 3), (6, 0, 0), (44, 0, 0), (47, 0, 0), (0, 3, 0), (3, 0, 4), (6, 0, 0), (44, 0, 0), (55, 62, 1), (47, 2, 0), (47, 0, 0), (0, 3, 0), (3, 0, 1), (6, 0, 0), (44, 0, 0), (47, 0, 0), (0, 3, 0), (3, 0, 2), (6, 0, 0), (44, 0, 0), (47, 0, 0), (0, 3, 0), (3, 0, 3), (6, 0, 0), (44, 0, 0), (47, 0, 0), (0, 3, 0), (3, 0, 4), (6, 0, 0), (44, 0, 0), (55, 102, 1), (30, 26, 0), (3, 0, 0), (37, 0, 1)],
  [(47, 1, 0), (47, 0, 0), (0, 3, 0), (3, 0, 1), (6, 0, 0), (44, 0, 0), (52, 63, 1), (47, 2, 0), (47, 0, 0), (0, 3, 0), (3, 0, 1), (6, 0, 0), (44, 0, 0), (52, 107, 1), (30, 26, 0), (3, 0, 0), (37, 0, 1)],
  [(47, 1, 0), (47, 0, 0), (0, 3, 0), (3, 0, 1), (6, 0, 0), (44, 0, 0), (47, 0, 0), (0, 3, 0), (3, 0, 2), (6, 0, 0), (44, 0, 0), (53, 64, 1), (47, 2, 0), (47, 0, 0), (0, 3, 0), (3, 0, 1), (6, 0, 0), (44, 0, 0), (47, 0, 0), (0, 3, 0), (3, 0, 2), (6, 0, 0), (44, 0, 0), (53, 110, 1), (30, 26, 0), (3, 0, 0), (37, 0, 1)],
  [(47, 1, 0), (47, 0, 0), (0, 3, 0), (3, 0, 1), (6, 0, 0), (44, 0, 0), (47, 0, 0), (0, 3, 0), (3, 0, 2), (6, 0, 0), (44, 0, 0), (53, 65, 1), (47, 2, 0), (47, 0, 0), (0, 3, 0), (3, 0, 1), (6, 0, 0), (44, 0, 0), (47, 0, 0), (0, 3, 0), (3, 0, 2), (6, 0, 0), (44, 0, 0), (53, 111, 1), (30, 26, 0), (3, 0, 0), (37, 0, 1)],
  [(47, 1, 0), (47, 0, 0), (0, 3, 0), (3, 0, 1), (6, 0, 0), (44, 0, 0), (47, 0, 0), (0, 3, 0), (3, 0, 2), (6, 0, 0), (44, 0, 0), (53, 66, 1), (47, 2, 0), (47, 0, 0), (0, 3, 0), (3, 0, 1), (6, 0, 0), (44, 0, 0), (47, 0, 0), (0, 3, 0), (3, 0, 2), (6, 0, 0), (44, 0, 0), (53, 113, 1), (30, 26, 0), (3, 0, 0), (37, 0, 1)],
  [(47, 1, 0), (47, 0, 0), (0, 3, 0), (3, 0, 1), (6, 0, 0), (44, 0, 0), (52, 67, 1), (47, 2, 0), (47, 0, 0), (0, 3, 0), (3, 0, 1), (6, 0, 0), (44, 0, 0), (52, 114, 1), (30, 26, 0), (3, 0, 0), (37, 0, 1)],
  [(47, 1, 0), (47, 0, 0), (0, 3, 0), (3, 0, 1), (6, 0, 0), (44, 0, 0), (47, 0, 0), (0, 3, 0), (3, 0, 2), (6, 0, 0), (44, 0, 0), (53, 68, 1), (47, 2, 0), (47, 0, 0), (0, 3, 0), (3, 0, 1), (6, 0, 0), (44, 0, 0), (47, 0, 0), (0, 3, 0), (3, 0, 2), (6, 0, 0), (44, 0, 0), (53, 115, 1), (30, 26, 0), (3, 0, 0), (37, 0, 1)],
  [(47, 1, 0), (51, 69, 1), (47, 2, 0), (51, 116, 1), (30, 26, 0), (3, 0, 0), (37, 0, 1)],
  [(47, 1, 0), (47, 0, 0), (0, 3, 0), (3, 0, 1), (6, 0, 0), (44, 0, 0), (52, 70, 1), (47, 2, 0), (47, 0, 0), (0, 3, 0), (3, 0, 1), (6, 0, 0), (44, 0, 0), (52, 117, 1), (30, 26, 0), (3, 0, 0), (37, 0, 1)],
  [(47, 1, 0), (47, 0, 0), (0, 3, 0), (3, 0, 1), (6, 0, 0), (44, 0, 0), (52, 71, 1), (47, 2, 0), (47, 0, 0), (0, 3, 0), (3, 0, 1), (6, 0, 0), (44, 0, 0), (52, 126, 1), (30, 26, 0), (3, 0, 0), (37, 0, 1)],
  [(47, 1, 0), (51, 72, 1), (47, 2, 0), (51, 127, 1), (30, 26, 0), (3, 0, 0), (37, 0, 1)],
  [(47, 1, 0), (47, 0, 0), (0, 3, 0), (3, 0, 1), (6, 0, 0), (44, 0, 0), (52, 73, 1), (47, 2, 0), (47, 0, 0), (0, 3, 0), (3, 0, 1), (6, 0, 0), (44, 0, 0), (52, 129, 1), (30, 26, 0), (3, 0, 0), (37, 0, 1)],
  [(47, 1, 0), (47, 0, 0), (0, 3, 0), (3, 0, 1), (6, 0, 0), (44, 0, 0), (47, 0, 0), (0, 3, 0), (3, 0, 2), (6, 0, 0), (44, 0, 0), (47, 0, 0), (0, 3, 0), (3, 0, 3), (6, 0, 0), (44, 0, 0), (54, 74, 1), (47, 2, 0), (47, 0, 0), (0, 3, 0), (3, 0, 1), (6, 0, 0), (44, 0, 0), (47, 0, 0), (0, 3, 0), (3, 0, 2), (6, 0, 0), (44, 0, 0), (47, 0, 0), (0, 3, 0), (3, 0, 3), (6, 0, 0), (44, 0, 0), (54, 130, 1), (30, 26, 0), (3, 0, 0), (37, 0, 1)],
  [(47, 1, 0), (47, 0, 0), (0, 3, 0), (3, 0, 1), (6, 0, 0), (44, 0, 0), (52, 75, 1), (47, 2, 0), (47, 0, 0), (0, 3, 0), (3, 0, 1), (6, 0, 0), (44, 0, 0), (52, 131, 1), (30, 26, 0), (3, 0, 0), (37, 0, 1)],
  [(5, 3, 6), (31, 1, 0)],
  [(3, 0, 1), (37, 0, 1)]]
/-- F$Bodies.has(I)Z -/
def bk1 : List (List Op) := [[(0, 1, 0), (29, 1, 2), (0, 1, 0), (47, 0, 0), (22, 8, 0), (30, 1, 3), (3, 0, 1), (31, 2, 0)],
  [(3, 0, 0), (32, 2, 0)],
  [(37, 0, 1)]]
/-- F$Bodies.hasCell(I)Z -/
def bk2 : List (List Op) := [[(47, 0, 0), (0, 1, 0), (52, 1, 1), (29, 1, 0), (47, 0, 0), (22, 0, 0), (0, 1, 0), (46, 0, 0), (29, 1, 0), (3, 0, 1), (31, 2, 0)],
  [(3, 0, 0), (32, 2, 0)],
  [(37, 0, 1)]]
/-- F$Bodies.canTake(II)Z -/
def bk3 : List (List Op) := [[(47, 0, 0), (22, 8, 0), (3, 0, 10), (30, 1, 3), (0, 1, 0), (3, 0, 1), (3, 0, 1000), (53, 76, 1), (29, 1, 0), (0, 2, 0), (3, 0, 0), (3, 0, 1000), (53, 76, 1), (29, 1, 0), (3, 0, 1), (31, 2, 0)],
  [(3, 0, 0), (32, 2, 0)],
  [(37, 0, 1)]]
/-- F$Bodies.addStretch(III)I -/
def bk4 : List (List Op) := [[(47, 0, 0), (0, 1, 0), (0, 2, 0), (53, 6, 1), (1, 4, 0), (47, 0, 0), (22, 3, 0), (0, 4, 0), (0, 3, 0), (25, 0, 0), (47, 0, 0), (22, 6, 0), (47, 0, 0), (22, 9, 0), (0, 4, 0), (25, 0, 0), (47, 0, 0), (33, 0, 0), (22, 9, 0), (3, 0, 1), (6, 0, 0), (23, 9, 0), (0, 4, 0), (37, 0, 0)]]
/-- F$Bodies.addCell(IIII)I -/
def bk5 : List (List Op) := [[(47, 0, 0), (0, 1, 0), (0, 2, 0), (53, 6, 1), (1, 5, 0), (47, 0, 0), (22, 0, 0), (0, 5, 0), (3, 0, 1), (26, 0, 0), (47, 0, 0), (22, 4, 0), (0, 5, 0), (0, 3, 0), (25, 0, 0), (47, 0, 0), (22, 5, 0), (0, 5, 0), (0, 4, 0), (25, 0, 0), (0, 5, 0), (37, 0, 0)]]
/-- F$Bodies.add(II)I -/
def bk6 : List (List Op) := [[(47, 0, 0), (22, 8, 0), (1, 3, 0), (47, 0, 0), (22, 1, 0), (0, 3, 0), (0, 1, 0), (25, 0, 0), (47, 0, 0), (22, 2, 0), (0, 3, 0), (0, 2, 0), (25, 0, 0), (47, 0, 0), (33, 0, 0), (22, 8, 0), (3, 0, 1), (6, 0, 0), (23, 8, 0), (0, 3, 0), (37, 0, 0)]]
/-- F$Dikes.has(I)Z -/
def bk7 : List (List Op) := [[(0, 1, 0), (29, 1, 2), (0, 1, 0), (47, 0, 0), (22, 8, 1), (30, 1, 3), (3, 0, 1), (31, 2, 0)],
  [(3, 0, 0), (32, 2, 0)],
  [(37, 0, 1)]]
/-- F$Dikes.add(IIIII)I -/
def bk8 : List (List Op) := [[(47, 0, 0), (22, 8, 1), (1, 6, 0), (47, 0, 0), (22, 0, 1), (0, 6, 0), (0, 1, 0), (25, 0, 0), (47, 0, 0), (22, 1, 1), (0, 6, 0), (0, 2, 0), (25, 0, 0), (47, 0, 0), (22, 2, 1), (0, 6, 0), (0, 3, 0), (25, 0, 0), (47, 0, 0), (22, 3, 1), (0, 6, 0), (0, 4, 0), (25, 0, 0), (47, 0, 0), (22, 4, 1), (0, 6, 0), (0, 5, 0), (25, 0, 0), (47, 0, 0), (22, 6, 1), (0, 6, 0), (3, 0, (-1)), (25, 0, 0), (47, 0, 0), (33, 0, 0), (22, 8, 1), (3, 0, 1), (6, 0, 0), (23, 8, 1), (0, 6, 0), (37, 0, 0)]]
/-- F$Dikes.isBreached(II)Z -/
def bk9 : List (List Op) := [[(47, 0, 0), (22, 6, 1), (0, 1, 0), (24, 0, 0), (3, 0, (-1)), (30, 1, 0), (47, 0, 0), (22, 6, 1), (0, 1, 0), (24, 0, 0), (0, 2, 0), (30, 1, 4), (3, 0, 1), (31, 2, 0)],
  [(3, 0, 0), (32, 2, 0)],
  [(37, 0, 1)]]
/-- F$Dikes.bringBags(III)V -/
def bk10 : List (List Op) := [[(0, 2, 0), (29, 1, 2), (0, 2, 0), (3, 0, 100), (30, 1, 3), (47, 0, 0), (22, 7, 1), (0, 1, 0), (3, 0, 100), (8, 0, 0), (0, 2, 0), (6, 0, 0), (34, 0, 0), (24, 0, 0), (0, 3, 0), (6, 0, 0), (25, 0, 0), (32, 1, 0)],
  [(38, 0, 0)]]
/-- F$Dikes.bagsUnderWay(II)I -/
def bk11 : List (List Op) := [[(3, 0, 0), (1, 3, 0), (0, 2, 0), (1, 4, 0), (32, 1, 0)],
  [(0, 4, 0), (3, 0, 100), (30, 2, 3), (0, 3, 0), (47, 0, 0), (22, 7, 1), (0, 1, 0), (3, 0, 100), (8, 0, 0), (0, 4, 0), (6, 0, 0), (24, 0, 0), (6, 0, 0), (1, 3, 0), (5, 4, 1), (31, 1, 0)],
  [(0, 3, 0), (37, 0, 0)]]
/-- F$Flight.forget()V -/
def bk12 : List (List Op) := [[(47, 0, 0), (3, 0, 0), (23, 17, 2), (38, 0, 0)]]
/-- F$Flight.begin(LF$Bodies;LF$Forecast;I)V -/
def bk13 : List (List Op) := [[(47, 0, 0), (0, 3, 0), (23, 12, 2), (47, 0, 0), (22, 2, 2), (3, 0, 0), (52, 132, 0), (47, 0, 0), (22, 3, 2), (3, 0, 0), (52, 132, 0), (47, 1, 0), (22, 4, 0), (3, 0, 0), (47, 0, 0), (22, 1, 2), (3, 0, 0), (3, 0, 10), (42, 0, 0), (47, 0, 0), (22, 12, 2), (1, 4, 0), (32, 1, 0)],
  [(0, 4, 0), (3, 0, 100), (30, 6, 4), (3, 0, 0), (1, 5, 0), (32, 2, 0)],
  [(0, 5, 0), (47, 1, 0), (22, 8, 0), (30, 5, 3), (47, 0, 0), (22, 4, 2), (0, 4, 0), (3, 0, 10), (8, 0, 0), (0, 5, 0), (6, 0, 0), (47, 2, 0), (47, 1, 0), (0, 5, 0), (0, 4, 0), (54, 46, 1), (29, 3, 0), (3, 0, (-2)), (31, 4, 0)],
  [(3, 0, 0), (32, 4, 0)],
  [(25, 0, 0), (5, 5, 1), (31, 2, 0)],
  [(5, 4, 1), (31, 1, 0)],
  [(47, 0, 0), (3, 0, 0), (23, 11, 2), (47, 0, 0), (3, 0, 0), (23, 13, 2), (47, 0, 0), (47, 0, 0), (22, 12, 2), (3, 0, 1), (7, 0, 0), (23, 14, 2), (47, 0, 0), (3, 0, (-1)), (23, 15, 2), (47, 0, 0), (3, 0, 0), (23, 16, 2), (47, 0, 0), (3, 0, 1), (23, 17, 2), (38, 0, 0)]]
/-- F$Flight.runTo(LF$Roads;I)V -/
def bk14 : List (List Op) := [[(47, 0, 0), (22, 14, 2), (3, 0, 1), (6, 0, 0), (1, 3, 0), (32, 1, 0)],
  [(0, 3, 0), (0, 2, 0), (30, 5, 4), (0, 3, 0), (3, 0, 100), (30, 5, 4), (3, 0, 0), (1, 4, 0), (32, 2, 0)],
  [(0, 4, 0), (47, 1, 0), (22, 8, 6), (30, 4, 3), (47, 1, 0), (22, 1, 6), (0, 4, 0), (24, 0, 0), (3, 0, (-1)), (30, 3, 1), (47, 0, 0), (47, 1, 0), (0, 4, 0), (0, 3, 0), (47, 1, 0), (22, 3, 6), (0, 4, 0), (24, 0, 0), (7, 0, 0), (54, 16, 0), (32, 3, 0)],
  [(5, 4, 1), (31, 2, 0)],
  [(47, 0, 0), (22, 0, 2), (0, 3, 0), (47, 0, 0), (22, 13, 2), (25, 0, 0), (47, 0, 0), (0, 3, 0), (23, 14, 2), (5, 3, 1), (31, 1, 0)],
  [(38, 0, 0)]]
/-- F$Flight.firstHourOfMost()I -/
def bk15 : List (List Op) := [[(47, 0, 0), (22, 0, 2), (3, 0, 100), (24, 0, 0), (1, 1, 0), (0, 1, 0), (3, 0, 1), (30, 1, 3), (3, 0, (-1)), (37, 0, 0)],
  [(47, 0, 0), (22, 12, 2), (1, 2, 0), (32, 2, 0)],
  [(0, 2, 0), (3, 0, 100), (30, 4, 3), (47, 0, 0), (22, 0, 2), (0, 2, 0), (24, 0, 0), (0, 1, 0), (30, 3, 1), (0, 2, 0), (37, 0, 0)],
  [(5, 2, 1), (31, 2, 0)],
  [(3, 0, 100), (37, 0, 0)]]
/-- F$Flight.fillRoadOut(LF$Roads;II)V -/
def bk16 : List (List Op) := [[(0, 3, 0), (47, 0, 0), (22, 12, 2), (30, 1, 3), (38, 0, 0)],
  [(0, 3, 0), (3, 0, 10), (8, 0, 0), (47, 1, 0), (22, 0, 6), (0, 2, 0), (24, 0, 0), (6, 0, 0), (1, 4, 0), (47, 1, 0), (22, 2, 6), (0, 2, 0), (24, 0, 0), (1, 5, 0), (3, 0, 0), (1, 6, 0), (32, 2, 0)],
  [(0, 6, 0), (0, 5, 0), (30, 4, 3), (47, 0, 0), (22, 3, 2), (0, 2, 0), (3, 0, 100), (8, 0, 0), (0, 3, 0), (6, 0, 0), (24, 0, 0), (0, 5, 0), (30, 4, 3), (47, 0, 0), (47, 1, 0), (0, 4, 0), (3, 0, 2), (0, 2, 0), (6, 0, 0), (54, 17, 1), (1, 7, 0), (0, 7, 0), (3, 0, (-1)), (30, 3, 1), (38, 0, 0)],
  [(47, 0, 0), (47, 1, 0), (0, 7, 0), (53, 22, 1), (1, 8, 0), (47, 0, 0), (22, 1, 2), (0, 7, 0), (3, 0, 10), (14, 0, 0), (34, 0, 0), (24, 0, 0), (0, 8, 0), (7, 0, 0), (25, 0, 0), (47, 0, 0), (47, 1, 0), (0, 7, 0), (0, 8, 0), (54, 23, 0), (47, 0, 0), (33, 0, 0), (22, 13, 2), (0, 8, 0), (6, 0, 0), (23, 13, 2), (5, 6, 1), (31, 2, 0)],
  [(38, 0, 0)]]
/-- F$Flight.findPeople(LF$Roads;II)I -/
def bk17 : List (List Op) := [[(47, 0, 0), (51, 18, 0), (47, 0, 0), (0, 2, 0), (0, 3, 0), (53, 19, 0), (3, 0, 0), (1, 4, 0), (32, 1, 0)],
  [(0, 4, 0), (3, 0, 1010), (30, 3, 3), (47, 0, 0), (22, 9, 2), (29, 3, 5), (47, 0, 0), (33, 0, 0), (22, 9, 2), (3, 0, 1), (7, 0, 0), (23, 9, 2), (47, 0, 0), (22, 6, 2), (47, 0, 0), (22, 9, 2), (24, 0, 0), (1, 5, 0), (0, 5, 0), (3, 0, 10), (13, 0, 0), (47, 0, 0), (22, 12, 2), (30, 2, 1), (47, 0, 0), (22, 1, 2), (0, 5, 0), (3, 0, 10), (14, 0, 0), (24, 0, 0), (29, 2, 5), (0, 5, 0), (37, 0, 0)],
  [(47, 0, 0), (47, 1, 0), (0, 5, 0), (53, 20, 0), (5, 4, 1), (31, 1, 0)],
  [(3, 0, 0), (1, 4, 0), (32, 4, 0)],
  [(0, 4, 0), (47, 0, 0), (22, 10, 2), (30, 5, 3), (47, 0, 0), (22, 4, 2), (47, 0, 0), (22, 7, 2), (0, 4, 0), (24, 0, 0), (3, 0, (-1)), (25, 0, 0), (5, 4, 1), (31, 4, 0)],
  [(3, 0, (-1)), (37, 0, 0)]]
/-- F$Flight.beginSearch()V -/
def bk18 : List (List Op) := [[(47, 0, 0), (33, 0, 0), (22, 11, 2), (3, 0, 1), (6, 0, 0), (23, 11, 2), (47, 0, 0), (3, 0, 0), (23, 9, 2), (47, 0, 0), (3, 0, 0), (23, 10, 2), (38, 0, 0)]]
/-- F$Flight.meet(II)V -/
def bk19 : List (List Op) := [[(0, 1, 0), (29, 1, 2), (0, 1, 0), (3, 0, 1010), (30, 1, 3), (47, 0, 0), (22, 10, 2), (3, 0, 1010), (30, 1, 3), (47, 0, 0), (22, 9, 2), (3, 0, 1010), (30, 2, 2), (32, 1, 0)],
  [(38, 0, 0)],
  [(47, 0, 0), (22, 4, 2), (0, 1, 0), (24, 0, 0), (1, 3, 0), (0, 3, 0), (29, 3, 2), (0, 3, 0), (47, 0, 0), (22, 11, 2), (30, 4, 1), (32, 3, 0)],
  [(38, 0, 0)],
  [(47, 0, 0), (22, 4, 2), (0, 1, 0), (47, 0, 0), (22, 11, 2), (25, 0, 0), (47, 0, 0), (22, 5, 2), (0, 1, 0), (0, 2, 0), (25, 0, 0), (47, 0, 0), (22, 6, 2), (47, 0, 0), (22, 9, 2), (0, 1, 0), (25, 0, 0), (47, 0, 0), (33, 0, 0), (22, 9, 2), (3, 0, 1), (6, 0, 0), (23, 9, 2), (47, 0, 0), (22, 7, 2), (47, 0, 0), (22, 10, 2), (0, 1, 0), (25, 0, 0), (47, 0, 0), (33, 0, 0), (22, 10, 2), (3, 0, 1), (6, 0, 0), (23, 10, 2), (38, 0, 0)]]
/-- F$Flight.meetThoseBehind(LF$Roads;I)V -/
def bk20 : List (List Op) := [[(0, 2, 0), (3, 0, 10), (14, 0, 0), (1, 3, 0), (0, 2, 0), (3, 0, 10), (13, 0, 0), (1, 4, 0), (0, 4, 0), (3, 0, 100), (30, 4, 3), (47, 0, 0), (22, 2, 2), (0, 2, 0), (24, 0, 0), (29, 1, 5), (47, 0, 0), (0, 2, 0), (3, 0, 10), (6, 0, 0), (3, 0, 1), (53, 19, 0), (32, 1, 0)],
  [(3, 0, 0), (1, 5, 0), (32, 2, 0)],
  [(0, 5, 0), (47, 1, 0), (22, 5, 6), (0, 3, 0), (24, 0, 0), (30, 4, 3), (47, 1, 0), (22, 4, 6), (0, 3, 0), (3, 0, 12), (8, 0, 0), (0, 5, 0), (6, 0, 0), (24, 0, 0), (1, 6, 0), (47, 1, 0), (22, 1, 6), (0, 6, 0), (24, 0, 0), (3, 0, (-1)), (30, 3, 0), (47, 0, 0), (22, 3, 2), (0, 6, 0), (3, 0, 100), (8, 0, 0), (0, 4, 0), (6, 0, 0), (24, 0, 0), (29, 3, 5), (47, 0, 0), (47, 0, 0), (47, 1, 0), (0, 6, 0), (0, 4, 0), (54, 21, 1), (3, 0, 14), (0, 6, 0), (6, 0, 0), (53, 19, 0), (32, 3, 0)],
  [(5, 5, 1), (31, 2, 0)],
  [(3, 0, 0), (1, 5, 0), (32, 5, 0)],
  [(0, 5, 0), (47, 1, 0), (22, 7, 6), (0, 3, 0), (24, 0, 0), (30, 7, 3), (47, 1, 0), (22, 6, 6), (0, 3, 0), (3, 0, 12), (8, 0, 0), (0, 5, 0), (6, 0, 0), (24, 0, 0), (1, 6, 0), (0, 4, 0), (47, 1, 0), (22, 3, 6), (0, 6, 0), (24, 0, 0), (7, 0, 0), (1, 7, 0), (0, 7, 0), (47, 0, 0), (22, 12, 2), (30, 6, 2), (47, 0, 0), (22, 3, 2), (0, 6, 0), (3, 0, 100), (8, 0, 0), (0, 7, 0), (6, 0, 0), (24, 0, 0), (47, 1, 0), (22, 2, 6), (0, 6, 0), (24, 0, 0), (30, 6, 3), (47, 0, 0), (0, 7, 0), (3, 0, 10), (8, 0, 0), (47, 1, 0), (22, 0, 6), (0, 6, 0), (24, 0, 0), (6, 0, 0), (3, 0, 2), (0, 6, 0), (6, 0, 0), (53, 19, 0), (32, 6, 0)],
  [(5, 5, 1), (31, 5, 0)],
  [(0, 4, 0), (47, 0, 0), (22, 12, 2), (30, 8, 5), (47, 0, 0), (0, 2, 0), (3, 0, 10), (7, 0, 0), (3, 0, 0), (53, 19, 0), (32, 8, 0)],
  [(38, 0, 0)]]
/-- F$Flight.endOf(LF$Roads;II)I -/
def bk21 : List (List Op) := [[(0, 3, 0), (47, 1, 0), (22, 3, 6), (0, 2, 0), (24, 0, 0), (6, 0, 0), (3, 0, 10), (8, 0, 0), (47, 1, 0), (22, 1, 6), (0, 2, 0), (24, 0, 0), (6, 0, 0), (37, 0, 0)]]
/-- F$Flight.roomFrom(LF$Roads;I)I -/
def bk22 : List (List Op) := [[(47, 0, 0), (22, 1, 2), (0, 2, 0), (3, 0, 10), (14, 0, 0), (24, 0, 0), (1, 3, 0), (0, 2, 0), (1, 4, 0), (3, 0, 0), (1, 5, 0), (32, 1, 0)],
  [(0, 5, 0), (3, 0, 1010), (30, 2, 3), (0, 4, 0), (3, 0, (-1)), (30, 2, 0), (0, 3, 0), (47, 0, 0), (47, 1, 0), (0, 4, 0), (53, 25, 1), (40, 0, 0), (1, 3, 0), (47, 0, 0), (47, 1, 0), (0, 4, 0), (53, 24, 1), (1, 4, 0), (5, 5, 1), (31, 1, 0)],
  [(0, 3, 0), (37, 0, 0)]]
/-- F$Flight.moveFrom(LF$Roads;II)V -/
def bk23 : List (List Op) := [[(0, 2, 0), (1, 4, 0), (3, 0, 0), (1, 5, 0), (32, 1, 0)],
  [(0, 5, 0), (3, 0, 1010), (30, 2, 3), (0, 4, 0), (3, 0, (-1)), (30, 2, 0), (47, 0, 0), (47, 1, 0), (0, 4, 0), (53, 24, 1), (1, 6, 0), (47, 0, 0), (47, 1, 0), (0, 4, 0), (0, 3, 0), (54, 26, 0), (0, 6, 0), (1, 4, 0), (5, 5, 1), (31, 1, 0)],
  [(38, 0, 0)]]
/-- F$Flight.placeAhead(LF$Roads;I)I -/
def bk24 : List (List Op) := [[(47, 0, 0), (22, 5, 2), (0, 2, 0), (24, 0, 0), (1, 3, 0), (0, 3, 0), (29, 1, 1), (0, 2, 0), (3, 0, 10), (6, 0, 0), (37, 0, 0)],
  [(0, 3, 0), (3, 0, 1), (30, 2, 1), (0, 2, 0), (3, 0, 10), (7, 0, 0), (37, 0, 0)],
  [(0, 2, 0), (3, 0, 10), (13, 0, 0), (1, 4, 0), (0, 3, 0), (3, 0, 14), (30, 5, 3), (0, 3, 0), (3, 0, 2), (7, 0, 0), (1, 5, 0), (47, 1, 0), (22, 1, 6), (0, 5, 0), (24, 0, 0), (3, 0, (-1)), (30, 3, 1), (3, 0, (-1)), (31, 4, 0)],
  [(47, 0, 0), (47, 1, 0), (0, 5, 0), (0, 4, 0), (54, 21, 1), (32, 4, 0)],
  [(37, 0, 0)],
  [(0, 3, 0), (3, 0, 14), (7, 0, 0), (1, 5, 0), (0, 4, 0), (47, 1, 0), (22, 3, 6), (0, 5, 0), (24, 0, 0), (7, 0, 0), (3, 0, 10), (8, 0, 0), (47, 1, 0), (22, 0, 6), (0, 5, 0), (24, 0, 0), (6, 0, 0), (37, 0, 0)]]
/-- F$Flight.roomOfStep(LF$Roads;I)I -/
def bk25 : List (List Op) := [[(47, 0, 0), (22, 5, 2), (0, 2, 0), (24, 0, 0), (1, 3, 0), (0, 3, 0), (29, 1, 1), (3, 0, 500), (37, 0, 0)],
  [(0, 3, 0), (3, 0, 1), (30, 2, 1), (47, 0, 0), (22, 2, 2), (0, 2, 0), (3, 0, 10), (7, 0, 0), (24, 0, 0), (37, 0, 0)],
  [(0, 2, 0), (3, 0, 10), (13, 0, 0), (1, 4, 0), (0, 3, 0), (3, 0, 14), (30, 3, 3), (0, 3, 0), (3, 0, 2), (7, 0, 0), (1, 5, 0), (47, 1, 0), (22, 2, 6), (0, 5, 0), (24, 0, 0), (47, 0, 0), (22, 3, 2), (0, 5, 0), (3, 0, 100), (8, 0, 0), (0, 4, 0), (6, 0, 0), (24, 0, 0), (7, 0, 0), (37, 0, 0)],
  [(0, 3, 0), (3, 0, 14), (7, 0, 0), (1, 5, 0), (47, 0, 0), (22, 3, 2), (0, 5, 0), (3, 0, 100), (8, 0, 0), (0, 4, 0), (6, 0, 0), (47, 1, 0), (22, 3, 6), (0, 5, 0), (24, 0, 0), (7, 0, 0), (24, 0, 0), (37, 0, 0)]]
/-- F$Flight.moveStep(LF$Roads;II)V -/
def bk26 : List (List Op) := [[(47, 0, 0), (22, 5, 2), (0, 2, 0), (24, 0, 0), (1, 4, 0), (0, 2, 0), (3, 0, 10), (13, 0, 0), (1, 5, 0), (0, 4, 0), (29, 1, 1), (47, 0, 0), (22, 2, 2), (0, 2, 0), (34, 0, 0), (24, 0, 0), (0, 3, 0), (6, 0, 0), (25, 0, 0), (31, 4, 0)],
  [(0, 4, 0), (3, 0, 1), (30, 2, 1), (47, 0, 0), (22, 2, 2), (0, 2, 0), (3, 0, 10), (7, 0, 0), (34, 0, 0), (24, 0, 0), (0, 3, 0), (7, 0, 0), (25, 0, 0), (31, 4, 0)],
  [(0, 4, 0), (3, 0, 14), (30, 3, 3), (47, 0, 0), (22, 3, 2), (0, 4, 0), (3, 0, 2), (7, 0, 0), (3, 0, 100), (8, 0, 0), (0, 5, 0), (6, 0, 0), (34, 0, 0), (24, 0, 0), (0, 3, 0), (6, 0, 0), (25, 0, 0), (31, 4, 0)],
  [(0, 4, 0), (3, 0, 14), (7, 0, 0), (1, 6, 0), (47, 0, 0), (22, 3, 2), (0, 6, 0), (3, 0, 100), (8, 0, 0), (0, 5, 0), (6, 0, 0), (47, 1, 0), (22, 3, 6), (0, 6, 0), (24, 0, 0), (7, 0, 0), (34, 0, 0), (24, 0, 0), (0, 3, 0), (7, 0, 0), (25, 0, 0), (32, 4, 0)],
  [(38, 0, 0)]]
/-- F$Flight.findBars(LF$Roads;I)V -/
def bk27 : List (List Op) := [[(47, 0, 0), (51, 18, 0), (3, 0, 0), (1, 3, 0), (32, 1, 0)],
  [(0, 3, 0), (3, 0, 10), (30, 3, 3), (47, 0, 0), (22, 1, 2), (0, 3, 0), (24, 0, 0), (29, 2, 5), (47, 0, 0), (47, 0, 0), (22, 12, 2), (3, 0, 10), (8, 0, 0), (0, 3, 0), (6, 0, 0), (3, 0, 0), (53, 19, 0), (32, 2, 0)],
  [(5, 3, 1), (31, 1, 0)],
  [(3, 0, 0), (1, 3, 0), (32, 4, 0)],
  [(0, 3, 0), (3, 0, 1010), (30, 5, 3), (47, 0, 0), (22, 9, 2), (29, 5, 5), (47, 0, 0), (33, 0, 0), (22, 9, 2), (3, 0, 1), (7, 0, 0), (23, 9, 2), (47, 0, 0), (47, 1, 0), (47, 0, 0), (22, 6, 2), (47, 0, 0), (22, 9, 2), (24, 0, 0), (0, 2, 0), (54, 28, 0), (5, 3, 1), (31, 4, 0)],
  [(47, 0, 0), (47, 1, 0), (0, 2, 0), (53, 29, 0), (47, 0, 0), (0, 2, 0), (23, 15, 2), (38, 0, 0)]]
/-- F$Flight.meetThoseAhead(LF$Roads;II)V -/
def bk28 : List (List Op) := [[(0, 2, 0), (3, 0, 10), (14, 0, 0), (1, 4, 0), (0, 2, 0), (3, 0, 10), (13, 0, 0), (1, 5, 0), (0, 5, 0), (0, 3, 0), (30, 1, 3), (47, 0, 0), (0, 2, 0), (3, 0, 10), (6, 0, 0), (3, 0, 0), (53, 19, 0), (32, 1, 0)],
  [(0, 5, 0), (47, 0, 0), (22, 12, 2), (30, 2, 5), (47, 0, 0), (22, 2, 2), (0, 2, 0), (3, 0, 10), (7, 0, 0), (24, 0, 0), (29, 2, 5), (47, 0, 0), (0, 2, 0), (3, 0, 10), (7, 0, 0), (3, 0, 1), (53, 19, 0), (32, 2, 0)],
  [(3, 0, 0), (1, 6, 0), (32, 3, 0)],
  [(0, 6, 0), (47, 1, 0), (22, 5, 6), (0, 4, 0), (24, 0, 0), (30, 7, 3), (47, 1, 0), (22, 4, 6), (0, 4, 0), (3, 0, 12), (8, 0, 0), (0, 6, 0), (6, 0, 0), (24, 0, 0), (1, 7, 0), (47, 1, 0), (22, 1, 6), (0, 7, 0), (24, 0, 0), (3, 0, (-1)), (30, 4, 0), (0, 5, 0), (47, 1, 0), (22, 3, 6), (0, 7, 0), (24, 0, 0), (6, 0, 0), (0, 3, 0), (30, 4, 4), (3, 0, 1), (31, 5, 0)],
  [(3, 0, 0), (32, 5, 0)],
  [(1, 8, 0), (0, 8, 0), (29, 6, 0), (47, 0, 0), (22, 3, 2), (0, 7, 0), (3, 0, 100), (8, 0, 0), (0, 5, 0), (6, 0, 0), (24, 0, 0), (47, 1, 0), (22, 2, 6), (0, 7, 0), (24, 0, 0), (30, 6, 3), (47, 0, 0), (47, 0, 0), (47, 1, 0), (0, 7, 0), (0, 5, 0), (54, 21, 1), (3, 0, 2), (0, 7, 0), (6, 0, 0), (53, 19, 0), (32, 6, 0)],
  [(5, 6, 1), (31, 3, 0)],
  [(3, 0, 0), (1, 6, 0), (32, 8, 0)],
  [(0, 6, 0), (47, 1, 0), (22, 7, 6), (0, 4, 0), (24, 0, 0), (30, 10, 3), (47, 1, 0), (22, 6, 6), (0, 4, 0), (3, 0, 12), (8, 0, 0), (0, 6, 0), (6, 0, 0), (24, 0, 0), (1, 7, 0), (0, 5, 0), (47, 1, 0), (22, 3, 6), (0, 7, 0), (24, 0, 0), (7, 0, 0), (1, 8, 0), (0, 8, 0), (47, 0, 0), (22, 12, 2), (30, 9, 2), (47, 0, 0), (22, 3, 2), (0, 7, 0), (3, 0, 100), (8, 0, 0), (0, 8, 0), (6, 0, 0), (24, 0, 0), (29, 9, 5), (47, 0, 0), (0, 8, 0), (3, 0, 10), (8, 0, 0), (47, 1, 0), (22, 0, 6), (0, 7, 0), (24, 0, 0), (6, 0, 0), (3, 0, 14), (0, 7, 0), (6, 0, 0), (53, 19, 0), (32, 9, 0)],
  [(5, 6, 1), (31, 8, 0)],
  [(38, 0, 0)]]
/-- F$Flight.listBars(LF$Roads;I)V -/
def bk29 : List (List Op) := [[(47, 0, 0), (3, 0, 0), (23, 16, 2), (47, 0, 0), (22, 12, 2), (1, 3, 0), (32, 1, 0)],
  [(0, 3, 0), (0, 2, 0), (30, 5, 3), (3, 0, 0), (1, 4, 0), (32, 2, 0)],
  [(0, 4, 0), (47, 1, 0), (22, 8, 6), (30, 4, 3), (0, 3, 0), (47, 1, 0), (22, 3, 6), (0, 4, 0), (24, 0, 0), (6, 0, 0), (0, 2, 0), (30, 3, 4), (47, 0, 0), (47, 1, 0), (0, 4, 0), (0, 3, 0), (54, 30, 1), (29, 3, 0), (47, 0, 0), (22, 8, 2), (47, 0, 0), (22, 16, 2), (0, 3, 0), (3, 0, 12), (8, 0, 0), (0, 4, 0), (6, 0, 0), (25, 0, 0), (47, 0, 0), (33, 0, 0), (22, 16, 2), (3, 0, 1), (6, 0, 0), (23, 16, 2), (32, 3, 0)],
  [(5, 4, 1), (31, 2, 0)],
  [(5, 3, 1), (31, 1, 0)],
  [(38, 0, 0)]]
/-- F$Flight.isBar(LF$Roads;II)Z -/
def bk30 : List (List Op) := [[(47, 0, 0), (22, 4, 2), (0, 3, 0), (3, 0, 10), (8, 0, 0), (47, 1, 0), (22, 0, 6), (0, 2, 0), (24, 0, 0), (6, 0, 0), (24, 0, 0), (47, 0, 0), (22, 11, 2), (30, 1, 0), (3, 0, 0), (37, 0, 1)],
  [(47, 1, 0), (22, 1, 6), (0, 2, 0), (24, 0, 0), (3, 0, (-1)), (30, 2, 1), (3, 0, 1), (37, 0, 1)],
  [(47, 0, 0), (22, 4, 2), (47, 0, 0), (47, 1, 0), (0, 2, 0), (0, 3, 0), (54, 21, 1), (24, 0, 0), (1, 4, 0), (0, 4, 0), (3, 0, (-2)), (30, 3, 0), (0, 4, 0), (47, 0, 0), (22, 11, 2), (30, 3, 0), (3, 0, 1), (31, 4, 0)],
  [(3, 0, 0), (32, 4, 0)],
  [(37, 0, 1)]]
/-- F$Flight.barRoad(I)I -/
def bk31 : List (List Op) := [[(47, 0, 0), (22, 8, 2), (0, 1, 0), (24, 0, 0), (3, 0, 12), (14, 0, 0), (37, 0, 0)]]
/-- F$Flight.barHour(I)I -/
def bk32 : List (List Op) := [[(47, 0, 0), (22, 8, 2), (0, 1, 0), (24, 0, 0), (3, 0, 12), (13, 0, 0), (37, 0, 0)]]
/-- F$Flood.copyFrom(LF$Flood;)V -/
def bk33 : List (List Op) := [[(47, 1, 0), (22, 0, 3), (3, 0, 0), (47, 0, 0), (22, 0, 3), (3, 0, 0), (3, 0, 10), (42, 0, 0), (47, 1, 0), (22, 1, 3), (3, 0, 0), (47, 0, 0), (22, 1, 3), (3, 0, 0), (3, 0, 12), (42, 0, 0), (47, 0, 0), (47, 1, 0), (22, 2, 3), (23, 2, 3), (47, 0, 0), (47, 1, 0), (22, 3, 3), (23, 3, 3), (47, 0, 0), (47, 1, 0), (22, 4, 3), (23, 4, 3), (47, 0, 0), (47, 1, 0), (22, 5, 3), (23, 5, 3), (38, 0, 0)]]
/-- F$Flood.level(LF$Bodies;I)I -/
def bk34 : List (List Op) := [[(47, 1, 0), (22, 1, 0), (0, 2, 0), (24, 0, 0), (1, 3, 0), (0, 3, 0), (3, 0, 1), (30, 1, 3), (47, 1, 0), (22, 2, 0), (0, 2, 0), (24, 0, 0), (31, 2, 0)],
  [(47, 1, 0), (22, 2, 0), (0, 2, 0), (24, 0, 0), (47, 0, 0), (22, 0, 3), (0, 2, 0), (24, 0, 0), (0, 3, 0), (13, 0, 0), (6, 0, 0), (32, 2, 0)],
  [(37, 0, 0)]]
/-- F$Flood.isWet(LF$Bodies;I)Z -/
def bk35 : List (List Op) := [[(47, 1, 0), (22, 0, 0), (0, 2, 0), (46, 0, 0), (29, 1, 0), (47, 0, 0), (22, 0, 3), (0, 2, 0), (24, 0, 0), (47, 1, 0), (22, 1, 0), (0, 2, 0), (24, 0, 0), (30, 1, 2), (3, 0, 1), (31, 2, 0)],
  [(3, 0, 0), (32, 2, 0)],
  [(37, 0, 1)]]
/-- F$Flood.top(LF$Dikes;I)I -/
def bk36 : List (List Op) := [[(47, 1, 0), (0, 2, 0), (47, 0, 0), (22, 2, 3), (53, 9, 1), (29, 1, 0), (47, 1, 0), (22, 5, 1), (0, 2, 0), (24, 0, 0), (31, 2, 0)],
  [(47, 1, 0), (22, 2, 1), (0, 2, 0), (24, 0, 0), (47, 0, 0), (22, 1, 3), (0, 2, 0), (24, 0, 0), (3, 0, 10), (13, 0, 0), (6, 0, 0), (32, 2, 0)],
  [(37, 0, 0)]]
/-- F$Flood.bagsOnDikes()I -/
def bk37 : List (List Op) := [[(3, 0, 0), (1, 1, 0), (3, 0, 0), (1, 2, 0), (32, 1, 0)],
  [(0, 2, 0), (3, 0, 12), (30, 2, 3), (0, 1, 0), (47, 0, 0), (22, 1, 3), (0, 2, 0), (24, 0, 0), (6, 0, 0), (1, 1, 0), (5, 2, 1), (31, 1, 0)],
  [(0, 1, 0), (37, 0, 0)]]
/-- F$Flood.passHour(LF$Bodies;LF$Dikes;)V -/
def bk38 : List (List Op) := [[(47, 0, 0), (22, 2, 3), (3, 0, 100), (30, 1, 2), (38, 0, 0)],
  [(47, 0, 0), (47, 1, 0), (52, 39, 0), (47, 0, 0), (47, 1, 0), (52, 40, 0), (3, 0, 0), (1, 3, 0), (32, 2, 0)],
  [(0, 3, 0), (47, 2, 0), (22, 8, 1), (30, 3, 3), (47, 0, 0), (47, 2, 0), (0, 3, 0), (53, 41, 0), (5, 3, 1), (31, 2, 0)],
  [(3, 0, 0), (1, 3, 0), (32, 4, 0)],
  [(0, 3, 0), (47, 2, 0), (22, 8, 1), (30, 5, 3), (47, 0, 0), (47, 1, 0), (47, 2, 0), (0, 3, 0), (54, 42, 0), (5, 3, 1), (31, 4, 0)],
  [(47, 0, 0), (33, 0, 0), (22, 2, 3), (3, 0, 1), (6, 0, 0), (23, 2, 3), (38, 0, 0)]]
/-- F$Flood.takeInflow(LF$Bodies;)V -/
def bk39 : List (List Op) := [[(47, 1, 0), (22, 9, 0), (29, 1, 5), (47, 1, 0), (22, 7, 0), (47, 0, 0), (22, 2, 3), (24, 0, 0), (1, 2, 0), (47, 0, 0), (22, 0, 3), (47, 1, 0), (22, 6, 0), (3, 0, 0), (24, 0, 0), (34, 0, 0), (24, 0, 0), (0, 2, 0), (6, 0, 0), (25, 0, 0), (47, 0, 0), (33, 0, 0), (22, 5, 3), (0, 2, 0), (6, 0, 0), (23, 5, 3), (32, 1, 0)],
  [(38, 0, 0)]]
/-- F$Flood.passDown(LF$Bodies;)V -/
def bk40 : List (List Op) := [[(47, 1, 0), (22, 9, 0), (3, 0, 1), (7, 0, 0), (1, 2, 0), (0, 2, 0), (1, 3, 0), (32, 1, 0)],
  [(0, 3, 0), (29, 4, 2), (47, 1, 0), (22, 6, 0), (0, 3, 0), (24, 0, 0), (1, 4, 0), (47, 0, 0), (22, 0, 3), (0, 4, 0), (24, 0, 0), (16, 0, 0), (47, 1, 0), (22, 3, 0), (0, 4, 0), (24, 0, 0), (16, 0, 0), (19, 0, 0), (4, 0, 100), (20, 0, 0), (17, 0, 0), (1, 5, 0), (47, 0, 0), (22, 0, 3), (0, 4, 0), (34, 0, 0), (24, 0, 0), (0, 5, 0), (7, 0, 0), (25, 0, 0), (0, 3, 0), (0, 2, 0), (30, 2, 1), (47, 0, 0), (33, 0, 0), (22, 4, 3), (0, 5, 0), (6, 0, 0), (23, 4, 3), (31, 3, 0)],
  [(47, 0, 0), (22, 0, 3), (47, 1, 0), (22, 6, 0), (0, 3, 0), (3, 0, 1), (6, 0, 0), (24, 0, 0), (34, 0, 0), (24, 0, 0), (0, 5, 0), (6, 0, 0), (25, 0, 0), (32, 3, 0)],
  [(5, 3, (-1)), (31, 1, 0)],
  [(38, 0, 0)]]
/-- F$Flood.layBags(LF$Dikes;I)V -/
def bk41 : List (List Op) := [[(47, 0, 0), (22, 1, 3), (0, 2, 0), (34, 0, 0), (24, 0, 0), (47, 1, 0), (22, 7, 1), (0, 2, 0), (3, 0, 100), (8, 0, 0), (47, 0, 0), (22, 2, 3), (6, 0, 0), (24, 0, 0), (6, 0, 0), (25, 0, 0), (47, 1, 0), (0, 2, 0), (47, 0, 0), (22, 2, 3), (53, 9, 1), (29, 1, 0), (47, 0, 0), (33, 0, 0), (22, 3, 3), (47, 0, 0), (22, 1, 3), (0, 2, 0), (24, 0, 0), (6, 0, 0), (23, 3, 3), (47, 0, 0), (22, 1, 3), (0, 2, 0), (3, 0, 0), (25, 0, 0), (32, 1, 0)],
  [(38, 0, 0)]]
/-- F$Flood.goOver(LF$Bodies;LF$Dikes;I)V -/
def bk42 : List (List Op) := [[(47, 2, 0), (22, 0, 1), (0, 3, 0), (24, 0, 0), (1, 4, 0), (47, 2, 0), (22, 1, 1), (0, 3, 0), (24, 0, 0), (1, 5, 0), (47, 0, 0), (47, 1, 0), (0, 4, 0), (53, 34, 1), (1, 6, 0), (47, 0, 0), (47, 1, 0), (0, 5, 0), (53, 34, 1), (1, 7, 0), (0, 6, 0), (0, 7, 0), (30, 1, 3), (47, 2, 0), (22, 1, 1), (0, 3, 0), (24, 0, 0), (1, 4, 0), (47, 2, 0), (22, 0, 1), (0, 3, 0), (24, 0, 0), (1, 5, 0), (0, 6, 0), (1, 8, 0), (0, 7, 0), (1, 6, 0), (0, 8, 0), (1, 7, 0), (32, 1, 0)],
  [(0, 6, 0), (47, 0, 0), (47, 2, 0), (0, 3, 0), (53, 36, 1), (0, 7, 0), (39, 0, 0), (7, 0, 0), (16, 0, 0), (2, 8, 0), (48, 8, 0), (4, 0, 0), (21, 0, 0), (29, 2, 5), (47, 2, 0), (22, 3, 1), (0, 3, 0), (24, 0, 0), (16, 0, 0), (48, 8, 0), (19, 0, 0), (48, 8, 0), (47, 1, 0), (22, 1, 0), (0, 4, 0), (24, 0, 0), (16, 0, 0), (19, 0, 0), (4, 0, 2), (20, 0, 0), (41, 0, 0), (2, 10, 0), (48, 10, 0), (47, 0, 0), (22, 0, 3), (0, 4, 0), (24, 0, 0), (16, 0, 0), (41, 0, 0), (17, 0, 0), (1, 12, 0), (47, 0, 0), (22, 0, 3), (0, 4, 0), (34, 0, 0), (24, 0, 0), (0, 12, 0), (7, 0, 0), (25, 0, 0), (47, 0, 0), (22, 0, 3), (0, 5, 0), (34, 0, 0), (24, 0, 0), (0, 12, 0), (6, 0, 0), (25, 0, 0), (32, 2, 0)],
  [(38, 0, 0)]]
/-- F$Forecast.forget()V -/
def bk43 : List (List Op) := [[(47, 0, 0), (3, 0, 0), (23, 2, 4), (38, 0, 0)]]
/-- F$Forecast.foresee(LF$Bodies;LF$Dikes;LF$Flood;)V -/
def bk44 : List (List Op) := [[(47, 0, 0), (22, 2, 4), (29, 1, 0), (38, 0, 0)],
  [(47, 0, 0), (22, 0, 4), (47, 3, 0), (52, 33, 0), (47, 3, 0), (22, 2, 3), (1, 4, 0), (32, 2, 0)],
  [(0, 4, 0), (3, 0, 100), (30, 3, 4), (47, 0, 0), (22, 0, 4), (22, 0, 3), (3, 0, 0), (47, 0, 0), (22, 1, 4), (0, 4, 0), (3, 0, 10), (8, 0, 0), (3, 0, 10), (42, 0, 0), (47, 0, 0), (22, 0, 4), (47, 1, 0), (47, 2, 0), (53, 38, 0), (5, 4, 1), (31, 2, 0)],
  [(47, 0, 0), (3, 0, 1), (23, 2, 4), (38, 0, 0)]]
/-- F$Forecast.waterAt(II)I -/
def bk45 : List (List Op) := [[(47, 0, 0), (22, 1, 4), (0, 2, 0), (3, 0, 10), (8, 0, 0), (0, 1, 0), (6, 0, 0), (24, 0, 0), (37, 0, 0)]]
/-- F$Forecast.isWet(LF$Bodies;II)Z -/
def bk46 : List (List Op) := [[(47, 0, 0), (0, 2, 0), (0, 3, 0), (53, 45, 1), (47, 1, 0), (22, 1, 0), (0, 2, 0), (24, 0, 0), (30, 1, 2), (3, 0, 1), (31, 2, 0)],
  [(3, 0, 0), (32, 2, 0)],
  [(37, 0, 1)]]
/-- F$Forecast.firstWet(LF$Bodies;II)I -/
def bk47 : List (List Op) := [[(0, 3, 0), (1, 4, 0), (32, 1, 0)],
  [(0, 4, 0), (3, 0, 100), (30, 3, 4), (47, 0, 0), (47, 1, 0), (0, 2, 0), (0, 4, 0), (54, 46, 1), (29, 2, 0), (0, 4, 0), (37, 0, 0)],
  [(5, 4, 1), (31, 1, 0)],
  [(3, 0, (-1)), (37, 0, 0)]]
/-- F$Forecast.lossFrom(LF$Bodies;LF$Dikes;LF$Flood;)I -/
def bk48 : List (List Op) := [[(3, 0, 0), (1, 4, 0), (47, 0, 0), (22, 0, 4), (47, 3, 0), (52, 33, 0), (47, 3, 0), (22, 2, 3), (1, 5, 0), (32, 1, 0)],
  [(0, 5, 0), (3, 0, 100), (30, 5, 4), (3, 0, 0), (1, 6, 0), (32, 2, 0)],
  [(0, 6, 0), (47, 1, 0), (22, 8, 0), (30, 4, 3), (47, 0, 0), (22, 0, 4), (47, 1, 0), (0, 6, 0), (53, 35, 1), (29, 3, 0), (0, 4, 0), (3, 0, 1), (0, 6, 0), (11, 0, 0), (10, 0, 0), (1, 4, 0), (32, 3, 0)],
  [(5, 6, 1), (31, 2, 0)],
  [(47, 0, 0), (22, 0, 4), (47, 1, 0), (47, 2, 0), (53, 38, 0), (5, 5, 1), (31, 1, 0)],
  [(3, 0, 0), (1, 5, 0), (3, 0, 0), (1, 6, 0), (32, 6, 0)],
  [(0, 6, 0), (47, 1, 0), (22, 8, 0), (30, 7, 3), (0, 5, 0), (0, 4, 0), (0, 6, 0), (12, 0, 0), (3, 0, 1), (9, 0, 0), (47, 1, 0), (22, 5, 0), (0, 6, 0), (24, 0, 0), (8, 0, 0), (6, 0, 0), (1, 5, 0), (5, 6, 1), (31, 6, 0)],
  [(0, 5, 0), (37, 0, 0)]]
/-- F$Reports.add(III)Z -/
def bk49 : List (List Op) := [[(47, 0, 0), (22, 3, 5), (3, 0, 100), (30, 1, 2), (3, 0, 0), (37, 0, 1)],
  [(47, 0, 0), (22, 0, 5), (47, 0, 0), (22, 3, 5), (0, 1, 0), (25, 0, 0), (47, 0, 0), (22, 1, 5), (47, 0, 0), (22, 3, 5), (0, 2, 0), (25, 0, 0), (47, 0, 0), (22, 2, 5), (47, 0, 0), (22, 3, 5), (0, 3, 0), (25, 0, 0), (47, 0, 0), (33, 0, 0), (22, 3, 5), (3, 0, 1), (6, 0, 0), (23, 3, 5), (3, 0, 1), (37, 0, 1)]]
/-- F$Reports.latest(II)I -/
def bk50 : List (List Op) := [[(47, 0, 0), (22, 3, 5), (3, 0, 1), (7, 0, 0), (1, 3, 0), (32, 1, 0)],
  [(0, 3, 0), (29, 3, 2), (47, 0, 0), (22, 0, 5), (0, 3, 0), (24, 0, 0), (0, 1, 0), (30, 2, 1), (47, 0, 0), (22, 2, 5), (0, 3, 0), (24, 0, 0), (0, 2, 0), (30, 2, 4), (47, 0, 0), (22, 1, 5), (0, 3, 0), (24, 0, 0), (37, 0, 0)],
  [(5, 3, (-1)), (31, 1, 0)],
  [(3, 0, (-1)), (37, 0, 0)]]
/-- F$Roads.add(IIII)I -/
def bk51 : List (List Op) := [[(47, 0, 0), (22, 8, 6), (1, 5, 0), (47, 0, 0), (22, 0, 6), (0, 5, 0), (0, 1, 0), (25, 0, 0), (47, 0, 0), (22, 1, 6), (0, 5, 0), (0, 2, 0), (25, 0, 0), (47, 0, 0), (22, 2, 6), (0, 5, 0), (0, 3, 0), (25, 0, 0), (47, 0, 0), (22, 3, 6), (0, 5, 0), (0, 4, 0), (25, 0, 0), (47, 0, 0), (22, 4, 6), (0, 1, 0), (3, 0, 12), (8, 0, 0), (47, 0, 0), (22, 5, 6), (0, 1, 0), (24, 0, 0), (6, 0, 0), (0, 5, 0), (25, 0, 0), (47, 0, 0), (22, 5, 6), (0, 1, 0), (34, 0, 0), (24, 0, 0), (3, 0, 1), (6, 0, 0), (25, 0, 0), (0, 2, 0), (3, 0, (-1)), (30, 1, 0), (47, 0, 0), (22, 6, 6), (0, 2, 0), (3, 0, 12), (8, 0, 0), (47, 0, 0), (22, 7, 6), (0, 2, 0), (24, 0, 0), (6, 0, 0), (0, 5, 0), (25, 0, 0), (47, 0, 0), (22, 7, 6), (0, 2, 0), (34, 0, 0), (24, 0, 0), (3, 0, 1), (6, 0, 0), (25, 0, 0), (32, 1, 0)],
  [(47, 0, 0), (33, 0, 0), (22, 8, 6), (3, 0, 1), (6, 0, 0), (23, 8, 6), (0, 5, 0), (37, 0, 0)]]
/-- F.stretch(III)I -/
def bk52 : List (List Op) := [[(47, 0, 0), (22, 0, 7), (0, 1, 0), (0, 2, 0), (53, 3, 1), (29, 1, 0), (0, 3, 0), (3, 0, 0), (3, 0, 100), (53, 76, 1), (29, 2, 1), (32, 1, 0)],
  [(3, 0, (-1)), (37, 0, 0)],
  [(47, 0, 0), (22, 0, 7), (0, 1, 0), (0, 2, 0), (0, 3, 0), (54, 4, 1), (1, 4, 0), (47, 0, 0), (51, 82, 0), (0, 4, 0), (37, 0, 0)]]
/-- F.cell(IIII)I -/
def bk53 : List (List Op) := [[(47, 0, 0), (22, 0, 7), (0, 1, 0), (0, 2, 0), (53, 3, 1), (29, 1, 0), (0, 3, 0), (3, 0, 0), (3, 0, 500), (53, 76, 1), (29, 1, 0), (0, 4, 0), (3, 0, 0), (3, 0, 1000000), (53, 76, 1), (29, 2, 1), (32, 1, 0)],
  [(3, 0, (-1)), (37, 0, 0)],
  [(47, 0, 0), (22, 0, 7), (0, 1, 0), (0, 2, 0), (0, 3, 0), (0, 4, 0), (55, 5, 1), (1, 5, 0), (47, 0, 0), (51, 82, 0), (0, 5, 0), (37, 0, 0)]]
/-- F.dike(IIIII)I -/
def bk54 : List (List Op) := [[(47, 0, 0), (22, 0, 7), (0, 1, 0), (52, 1, 1), (29, 1, 0), (47, 0, 0), (22, 0, 7), (0, 2, 0), (52, 1, 1), (29, 1, 0), (0, 1, 0), (0, 2, 0), (30, 1, 0), (47, 0, 0), (22, 1, 7), (22, 8, 1), (3, 0, 12), (30, 2, 2), (32, 1, 0)],
  [(3, 0, (-1)), (37, 0, 0)],
  [(0, 3, 0), (3, 0, 0), (3, 0, 2000), (53, 76, 1), (29, 3, 0), (0, 4, 0), (3, 0, 1), (3, 0, 1000), (53, 76, 1), (29, 3, 0), (0, 5, 0), (3, 0, 0), (3, 0, 20), (53, 76, 1), (29, 4, 1), (32, 3, 0)],
  [(3, 0, (-1)), (37, 0, 0)],
  [(47, 0, 0), (22, 1, 7), (0, 1, 0), (0, 2, 0), (0, 3, 0), (0, 4, 0), (0, 5, 0), (56, 8, 1), (1, 6, 0), (47, 0, 0), (51, 82, 0), (0, 6, 0), (37, 0, 0)]]
/-- F.breach(III)Z -/
def bk55 : List (List Op) := [[(47, 0, 0), (22, 1, 7), (0, 1, 0), (52, 7, 1), (29, 1, 0), (47, 0, 0), (0, 2, 0), (52, 77, 1), (29, 1, 0), (0, 3, 0), (3, 0, 0), (47, 0, 0), (22, 1, 7), (22, 2, 1), (0, 1, 0), (24, 0, 0), (53, 76, 1), (29, 2, 1), (32, 1, 0)],
  [(3, 0, 0), (37, 0, 1)],
  [(47, 0, 0), (0, 1, 0), (52, 78, 1), (29, 3, 0), (3, 0, 0), (37, 0, 1)],
  [(47, 0, 0), (22, 1, 7), (22, 6, 1), (0, 1, 0), (0, 2, 0), (25, 0, 0), (47, 0, 0), (22, 1, 7), (22, 5, 1), (0, 1, 0), (0, 3, 0), (25, 0, 0), (47, 0, 0), (51, 82, 0), (3, 0, 1), (37, 0, 1)]]
/-- F.flows(II)Z -/
def bk56 : List (List Op) := [[(47, 0, 0), (0, 1, 0), (52, 77, 1), (29, 1, 0), (0, 2, 0), (3, 0, 0), (3, 0, 1000000), (53, 76, 1), (29, 2, 1), (32, 1, 0)],
  [(3, 0, 0), (37, 0, 1)],
  [(47, 0, 0), (22, 0, 7), (22, 7, 0), (0, 1, 0), (0, 2, 0), (25, 0, 0), (47, 0, 0), (51, 82, 0), (3, 0, 1), (37, 0, 1)]]
/-- F.pit(I)I -/
def bk57 : List (List Op) := [[(0, 1, 0), (3, 0, 1), (3, 0, 10000), (53, 76, 1), (29, 1, 0), (47, 0, 0), (22, 7, 7), (0, 1, 0), (6, 0, 0), (3, 0, 100000), (30, 2, 5), (32, 1, 0)],
  [(3, 0, (-1)), (37, 0, 0)],
  [(47, 0, 0), (33, 0, 0), (22, 7, 7), (0, 1, 0), (6, 0, 0), (23, 7, 7), (47, 0, 0), (22, 7, 7), (37, 0, 0)]]
/-- F.send(II)I -/
def bk58 : List (List Op) := [[(47, 0, 0), (0, 1, 0), (0, 2, 0), (53, 79, 1), (29, 1, 1), (3, 0, (-1)), (37, 0, 0)],
  [(47, 0, 0), (22, 4, 7), (22, 2, 3), (47, 0, 0), (22, 1, 7), (22, 4, 1), (0, 1, 0), (24, 0, 0), (6, 0, 0), (1, 3, 0), (47, 0, 0), (33, 0, 0), (22, 7, 7), (0, 2, 0), (7, 0, 0), (23, 7, 7), (47, 0, 0), (22, 1, 7), (0, 1, 0), (0, 3, 0), (0, 2, 0), (54, 10, 0), (47, 0, 0), (51, 82, 0), (0, 3, 0), (37, 0, 0)]]
/-- F.tell(III)Z -/
def bk59 : List (List Op) := [[(47, 0, 0), (22, 1, 7), (0, 1, 0), (52, 7, 1), (29, 1, 0), (0, 2, 0), (3, 0, 0), (3, 0, 99), (53, 76, 1), (29, 1, 0), (0, 3, 0), (3, 0, 0), (3, 0, 20), (53, 76, 1), (29, 2, 1), (32, 1, 0)],
  [(3, 0, 0), (37, 0, 1)],
  [(47, 0, 0), (22, 3, 7), (0, 1, 0), (0, 2, 0), (47, 0, 0), (22, 4, 7), (22, 2, 3), (0, 3, 0), (6, 0, 0), (54, 49, 1), (37, 0, 1)]]
/-- F.known(I)I -/
def bk60 : List (List Op) := [[(47, 0, 0), (22, 1, 7), (0, 1, 0), (52, 7, 1), (29, 1, 0), (47, 0, 0), (22, 3, 7), (0, 1, 0), (47, 0, 0), (22, 4, 7), (22, 2, 3), (53, 50, 1), (31, 2, 0)],
  [(3, 0, (-1)), (32, 2, 0)],
  [(37, 0, 0)]]
/-- F.worst()I -/
def bk61 : List (List Op) := [[(3, 0, (-1)), (1, 1, 0), (3, 0, (-1)), (1, 2, 0), (3, 0, 0), (1, 3, 0), (32, 1, 0)],
  [(0, 3, 0), (47, 0, 0), (22, 1, 7), (22, 8, 1), (30, 3, 3), (47, 0, 0), (22, 3, 7), (0, 3, 0), (47, 0, 0), (22, 4, 7), (22, 2, 3), (53, 50, 1), (1, 4, 0), (0, 4, 0), (0, 2, 0), (30, 2, 5), (0, 4, 0), (1, 2, 0), (0, 3, 0), (1, 1, 0), (32, 2, 0)],
  [(5, 3, 1), (31, 1, 0)],
  [(0, 1, 0), (37, 0, 0)]]
/-- F.road(IIII)I -/
def bk62 : List (List Op) := [[(47, 0, 0), (22, 0, 7), (0, 1, 0), (52, 2, 1), (29, 1, 0), (0, 1, 0), (0, 2, 0), (30, 1, 0), (0, 2, 0), (3, 0, (-1)), (30, 2, 0), (47, 0, 0), (22, 0, 7), (0, 2, 0), (52, 2, 1), (29, 2, 1), (32, 1, 0)],
  [(3, 0, (-1)), (37, 0, 0)],
  [(0, 3, 0), (3, 0, 1), (3, 0, 99), (53, 76, 1), (29, 3, 0), (0, 4, 0), (3, 0, 1), (3, 0, 5), (53, 76, 1), (29, 3, 0), (47, 0, 0), (22, 2, 7), (22, 8, 6), (3, 0, 12), (30, 4, 2), (32, 3, 0)],
  [(3, 0, (-1)), (37, 0, 0)],
  [(47, 0, 0), (22, 2, 7), (0, 1, 0), (0, 2, 0), (0, 3, 0), (0, 4, 0), (55, 51, 1), (1, 5, 0), (47, 0, 0), (22, 6, 7), (51, 12, 0), (0, 5, 0), (37, 0, 0)]]
/-- F.go(I)I -/
def bk63 : List (List Op) := [[(0, 1, 0), (3, 0, 0), (3, 0, 100), (53, 76, 1), (29, 1, 1), (3, 0, (-1)), (37, 0, 0)],
  [(3, 0, 0), (1, 2, 0), (32, 2, 0)],
  [(0, 2, 0), (0, 1, 0), (30, 3, 3), (47, 0, 0), (22, 4, 7), (22, 2, 3), (3, 0, 100), (30, 3, 3), (47, 0, 0), (22, 4, 7), (47, 0, 0), (22, 0, 7), (47, 0, 0), (22, 1, 7), (53, 38, 0), (5, 2, 1), (31, 2, 0)],
  [(47, 0, 0), (51, 82, 0), (47, 0, 0), (22, 4, 7), (22, 2, 3), (37, 0, 0)]]
/-- F.people(II)Z -/
def bk64 : List (List Op) := [[(47, 0, 0), (22, 0, 7), (0, 1, 0), (52, 2, 1), (29, 1, 0), (0, 2, 0), (3, 0, 0), (3, 0, 500), (53, 76, 1), (29, 2, 1), (32, 1, 0)],
  [(3, 0, 0), (37, 0, 1)],
  [(47, 0, 0), (22, 0, 7), (22, 4, 0), (0, 1, 0), (0, 2, 0), (25, 0, 0), (47, 0, 0), (22, 6, 7), (51, 12, 0), (3, 0, 1), (37, 0, 1)]]
/-- F.told(II)I -/
def bk65 : List (List Op) := [[(47, 0, 0), (22, 0, 7), (0, 1, 0), (52, 1, 1), (29, 1, 1), (3, 0, (-1)), (37, 0, 0)],
  [(47, 0, 0), (22, 0, 7), (22, 0, 0), (0, 1, 0), (46, 0, 0), (1, 3, 0), (0, 2, 0), (36, 1, 0)],
  [(47, 0, 0), (22, 4, 7), (22, 0, 3), (0, 1, 0), (24, 0, 0), (37, 0, 0)],
  [(47, 0, 0), (22, 4, 7), (47, 0, 0), (22, 0, 7), (0, 1, 0), (53, 34, 1), (37, 0, 0)],
  [(47, 0, 0), (22, 0, 7), (22, 1, 0), (0, 1, 0), (24, 0, 0), (37, 0, 0)],
  [(47, 0, 0), (22, 0, 7), (22, 2, 0), (0, 1, 0), (24, 0, 0), (37, 0, 0)],
  [(0, 3, 0), (29, 7, 0), (3, 0, (-1)), (31, 8, 0)],
  [(47, 0, 0), (22, 0, 7), (22, 3, 0), (0, 1, 0), (24, 0, 0), (32, 8, 0)],
  [(37, 0, 0)],
  [(0, 3, 0), (29, 10, 0), (47, 0, 0), (22, 0, 7), (22, 4, 0), (0, 1, 0), (24, 0, 0), (31, 11, 0)],
  [(3, 0, (-1)), (32, 11, 0)],
  [(37, 0, 0)],
  [(0, 3, 0), (29, 13, 0), (47, 0, 0), (22, 0, 7), (22, 5, 0), (0, 1, 0), (24, 0, 0), (31, 14, 0)],
  [(3, 0, (-1)), (32, 14, 0)],
  [(37, 0, 0)],
  [(47, 0, 0), (22, 4, 7), (47, 0, 0), (22, 0, 7), (0, 1, 0), (53, 35, 1), (29, 16, 0), (3, 0, 1), (31, 17, 0)],
  [(3, 0, 0), (32, 17, 0)],
  [(37, 0, 0)],
  [(3, 0, (-1)), (37, 0, 0)]]
/-- F.crest(II)I -/
def bk66 : List (List Op) := [[(47, 0, 0), (22, 1, 7), (0, 1, 0), (52, 7, 1), (29, 1, 1), (3, 0, (-1)), (37, 0, 0)],
  [(0, 2, 0), (36, 2, 0)],
  [(47, 0, 0), (22, 4, 7), (47, 0, 0), (22, 1, 7), (0, 1, 0), (53, 36, 1), (37, 0, 0)],
  [(47, 0, 0), (22, 4, 7), (22, 1, 3), (0, 1, 0), (24, 0, 0), (37, 0, 0)],
  [(47, 0, 0), (22, 1, 7), (0, 1, 0), (47, 0, 0), (22, 4, 7), (22, 2, 3), (53, 11, 1), (37, 0, 0)],
  [(47, 0, 0), (0, 1, 0), (52, 78, 1), (29, 6, 0), (3, 0, 1), (31, 7, 0)],
  [(3, 0, 0), (32, 7, 0)],
  [(37, 0, 0)],
  [(3, 0, (-1)), (37, 0, 0)]]
/-- F.wet(I)I -/
def bk67 : List (List Op) := [[(47, 0, 0), (22, 0, 7), (0, 1, 0), (52, 2, 1), (29, 1, 1), (3, 0, (-1)), (37, 0, 0)],
  [(47, 0, 0), (22, 5, 7), (47, 0, 0), (22, 0, 7), (47, 0, 0), (22, 1, 7), (47, 0, 0), (22, 4, 7), (54, 44, 0), (47, 0, 0), (22, 5, 7), (47, 0, 0), (22, 0, 7), (0, 1, 0), (47, 0, 0), (22, 4, 7), (22, 2, 3), (54, 47, 1), (37, 0, 0)]]
/-- F.foretold(II)I -/
def bk68 : List (List Op) := [[(47, 0, 0), (22, 0, 7), (0, 1, 0), (52, 1, 1), (29, 1, 0), (0, 2, 0), (47, 0, 0), (22, 4, 7), (22, 2, 3), (3, 0, 100), (53, 76, 1), (29, 2, 1), (32, 1, 0)],
  [(3, 0, (-1)), (37, 0, 0)],
  [(47, 0, 0), (22, 5, 7), (47, 0, 0), (22, 0, 7), (47, 0, 0), (22, 1, 7), (47, 0, 0), (22, 4, 7), (54, 44, 0), (47, 0, 0), (22, 5, 7), (0, 1, 0), (0, 2, 0), (53, 45, 1), (37, 0, 0)]]
/-- F.loss()I -/
def bk69 : List (List Op) := [[(47, 0, 0), (22, 5, 7), (47, 0, 0), (22, 0, 7), (47, 0, 0), (22, 1, 7), (47, 0, 0), (22, 4, 7), (54, 48, 1), (37, 0, 0)]]
/-- F.best(I)I -/
def bk70 : List (List Op) := [[(3, 0, (-1)), (1, 2, 0), (3, 0, 0), (1, 3, 0), (3, 0, 0), (1, 4, 0), (32, 1, 0)],
  [(0, 4, 0), (47, 0, 0), (22, 1, 7), (22, 8, 1), (30, 4, 3), (47, 0, 0), (0, 4, 0), (0, 1, 0), (53, 79, 1), (29, 3, 0), (47, 0, 0), (0, 4, 0), (0, 1, 0), (53, 81, 1), (1, 5, 0), (0, 2, 0), (3, 0, (-1)), (30, 2, 0), (0, 5, 0), (0, 3, 0), (30, 3, 3), (32, 2, 0)],
  [(0, 4, 0), (1, 2, 0), (0, 5, 0), (1, 3, 0), (32, 3, 0)],
  [(5, 4, 1), (31, 1, 0)],
  [(0, 2, 0), (37, 0, 0)]]
/-- F.leave(I)I -/
def bk71 : List (List Op) := [[(0, 1, 0), (47, 0, 0), (22, 4, 7), (22, 2, 3), (3, 0, 100), (53, 76, 1), (29, 1, 1), (3, 0, (-1)), (37, 0, 0)],
  [(47, 0, 0), (51, 83, 0), (47, 0, 0), (22, 6, 7), (47, 0, 0), (22, 2, 7), (0, 1, 0), (53, 14, 0), (47, 0, 0), (22, 6, 7), (22, 0, 2), (0, 1, 0), (24, 0, 0), (37, 0, 0)]]
/-- F.soonest()I -/
def bk72 : List (List Op) := [[(47, 0, 0), (51, 83, 0), (47, 0, 0), (22, 6, 7), (47, 0, 0), (22, 2, 7), (3, 0, 100), (53, 14, 0), (47, 0, 0), (22, 6, 7), (51, 15, 1), (37, 0, 0)]]
/-- F.bars(I)I -/
def bk73 : List (List Op) := [[(0, 1, 0), (47, 0, 0), (22, 4, 7), (22, 2, 3), (3, 0, 100), (53, 76, 1), (29, 1, 1), (3, 0, (-1)), (37, 0, 0)],
  [(47, 0, 0), (0, 1, 0), (52, 84, 0), (47, 0, 0), (22, 6, 7), (22, 16, 2), (37, 0, 0)]]
/-- F.bar(III)I -/
def bk74 : List (List Op) := [[(0, 1, 0), (47, 0, 0), (22, 4, 7), (22, 2, 3), (3, 0, 100), (53, 76, 1), (29, 1, 0), (0, 3, 0), (3, 0, 0), (3, 0, 1), (53, 76, 1), (29, 2, 1), (32, 1, 0)],
  [(3, 0, (-1)), (37, 0, 0)],
  [(47, 0, 0), (0, 1, 0), (52, 84, 0), (0, 2, 0), (29, 3, 2), (0, 2, 0), (47, 0, 0), (22, 6, 7), (22, 16, 2), (30, 4, 2), (32, 3, 0)],
  [(3, 0, (-1)), (37, 0, 0)],
  [(0, 3, 0), (29, 5, 1), (47, 0, 0), (22, 6, 7), (0, 2, 0), (52, 31, 1), (31, 6, 0)],
  [(47, 0, 0), (22, 6, 7), (0, 2, 0), (52, 32, 1), (32, 6, 0)],
  [(37, 0, 0)]]
/-- F.count(I)I -/
def bk75 : List (List Op) := [[(0, 1, 0), (36, 3, 0)],
  [(47, 0, 0), (22, 4, 7), (22, 2, 3), (37, 0, 0)],
  [(47, 0, 0), (22, 0, 7), (22, 8, 0), (37, 0, 0)],
  [(47, 0, 0), (22, 1, 7), (22, 8, 1), (37, 0, 0)],
  [(47, 0, 0), (22, 2, 7), (22, 8, 6), (37, 0, 0)],
  [(47, 0, 0), (22, 7, 7), (37, 0, 0)],
  [(47, 0, 0), (51, 80, 1), (37, 0, 0)],
  [(47, 0, 0), (22, 4, 7), (51, 37, 1), (37, 0, 0)],
  [(47, 0, 0), (22, 4, 7), (22, 3, 3), (37, 0, 0)],
  [(47, 0, 0), (22, 4, 7), (22, 4, 3), (37, 0, 0)],
  [(47, 0, 0), (22, 4, 7), (22, 5, 3), (37, 0, 0)],
  [(3, 0, (-1)), (37, 0, 0)]]
/-- F.within(III)Z -/
def bk76 : List (List Op) := [[(0, 0, 0), (0, 1, 0), (30, 1, 2), (0, 0, 0), (0, 2, 0), (30, 1, 4), (3, 0, 1), (31, 2, 0)],
  [(3, 0, 0), (32, 2, 0)],
  [(37, 0, 1)]]
/-- F.hourToCome(I)Z -/
def bk77 : List (List Op) := [[(0, 1, 0), (47, 0, 0), (22, 4, 7), (22, 2, 3), (30, 1, 2), (0, 1, 0), (3, 0, 100), (30, 1, 3), (3, 0, 1), (31, 2, 0)],
  [(3, 0, 0), (32, 2, 0)],
  [(37, 0, 1)]]
/-- F.brokeBefore(I)Z -/
def bk78 : List (List Op) := [[(47, 0, 0), (22, 1, 7), (0, 1, 0), (47, 0, 0), (22, 4, 7), (22, 2, 3), (3, 0, 1), (7, 0, 0), (53, 9, 1), (37, 0, 1)]]
/-- F.canSend(II)Z -/
def bk79 : List (List Op) := [[(47, 0, 0), (22, 1, 7), (0, 1, 0), (52, 7, 1), (29, 1, 0), (0, 2, 0), (3, 0, 1), (47, 0, 0), (22, 7, 7), (53, 76, 1), (29, 1, 0), (47, 0, 0), (47, 0, 0), (22, 4, 7), (22, 2, 3), (47, 0, 0), (22, 1, 7), (22, 4, 1), (0, 1, 0), (24, 0, 0), (6, 0, 0), (52, 77, 1), (29, 1, 0), (3, 0, 1), (31, 2, 0)],
  [(3, 0, 0), (32, 2, 0)],
  [(37, 0, 1)]]
/-- F.allBagsUnderWay()I -/
def bk80 : List (List Op) := [[(3, 0, 0), (1, 1, 0), (3, 0, 0), (1, 2, 0), (32, 1, 0)],
  [(0, 2, 0), (47, 0, 0), (22, 1, 7), (22, 8, 1), (30, 2, 3), (0, 1, 0), (47, 0, 0), (22, 1, 7), (0, 2, 0), (47, 0, 0), (22, 4, 7), (22, 2, 3), (53, 11, 1), (6, 0, 0), (1, 1, 0), (5, 2, 1), (31, 1, 0)],
  [(0, 1, 0), (37, 0, 0)]]
/-- F.lossWithBags(II)I -/
def bk81 : List (List Op) := [[(47, 0, 0), (22, 4, 7), (22, 2, 3), (47, 0, 0), (22, 1, 7), (22, 4, 1), (0, 1, 0), (24, 0, 0), (6, 0, 0), (1, 3, 0), (47, 0, 0), (22, 1, 7), (0, 1, 0), (0, 3, 0), (0, 2, 0), (54, 10, 0), (47, 0, 0), (22, 5, 7), (47, 0, 0), (22, 0, 7), (47, 0, 0), (22, 1, 7), (47, 0, 0), (22, 4, 7), (54, 48, 1), (1, 4, 0), (47, 0, 0), (22, 1, 7), (0, 1, 0), (0, 3, 0), (0, 2, 0), (15, 0, 0), (54, 10, 0), (0, 4, 0), (37, 0, 0)]]
/-- F.waterChanges()V -/
def bk82 : List (List Op) := [[(47, 0, 0), (22, 5, 7), (51, 43, 0), (47, 0, 0), (22, 6, 7), (51, 12, 0), (38, 0, 0)]]
/-- F.readyFlight()V -/
def bk83 : List (List Op) := [[(47, 0, 0), (22, 6, 7), (22, 17, 2), (29, 1, 1), (47, 0, 0), (22, 5, 7), (47, 0, 0), (22, 0, 7), (47, 0, 0), (22, 1, 7), (47, 0, 0), (22, 4, 7), (54, 44, 0), (47, 0, 0), (22, 6, 7), (47, 0, 0), (22, 0, 7), (47, 0, 0), (22, 5, 7), (47, 0, 0), (22, 4, 7), (22, 2, 3), (54, 13, 0), (32, 1, 0)],
  [(38, 0, 0)]]
/-- F.readyBars(I)V -/
def bk84 : List (List Op) := [[(47, 0, 0), (22, 6, 7), (22, 17, 2), (29, 1, 0), (47, 0, 0), (22, 6, 7), (22, 15, 2), (0, 1, 0), (30, 1, 1), (38, 0, 0)],
  [(47, 0, 0), (22, 6, 7), (22, 14, 2), (0, 1, 0), (30, 2, 5), (47, 0, 0), (22, 6, 7), (51, 12, 0), (32, 2, 0)],
  [(47, 0, 0), (51, 83, 0), (47, 0, 0), (22, 6, 7), (47, 0, 0), (22, 2, 7), (0, 1, 0), (53, 14, 0), (47, 0, 0), (22, 6, 7), (47, 0, 0), (22, 2, 7), (0, 1, 0), (53, 27, 0), (38, 0, 0)]]
/-- FModel.in(III)Z -/
def bk85 : List (List Op) := [[(0, 0, 0), (0, 1, 0), (30, 1, 2), (0, 0, 0), (0, 2, 0), (30, 1, 4), (3, 0, 1), (31, 2, 0)],
  [(3, 0, 0), (32, 2, 0)],
  [(37, 0, 1)]]
/-- FModel.isBody(I)Z -/
def bk86 : List (List Op) := [[(0, 1, 0), (3, 0, 0), (47, 0, 0), (22, 1, 8), (3, 0, 1), (7, 0, 0), (53, 85, 1), (37, 0, 1)]]
/-- FModel.isCell(I)Z -/
def bk87 : List (List Op) := [[(47, 0, 0), (0, 1, 0), (52, 86, 1), (29, 1, 0), (47, 0, 0), (22, 2, 8), (0, 1, 0), (46, 0, 0), (29, 1, 0), (3, 0, 1), (31, 2, 0)],
  [(3, 0, 0), (32, 2, 0)],
  [(37, 0, 1)]]
/-- FModel.isDike(I)Z -/
def bk88 : List (List Op) := [[(0, 1, 0), (3, 0, 0), (47, 0, 0), (22, 9, 8), (3, 0, 1), (7, 0, 0), (53, 85, 1), (37, 0, 1)]]
/-- FModel.body(II)I -/
def bk89 : List (List Op) := [[(47, 0, 0), (22, 3, 8), (47, 0, 0), (22, 1, 8), (0, 1, 0), (25, 0, 0), (47, 0, 0), (22, 4, 8), (47, 0, 0), (22, 1, 8), (0, 2, 0), (25, 0, 0), (47, 0, 0), (33, 0, 0), (22, 1, 8), (3, 0, 1), (6, 0, 0), (23, 1, 8), (47, 0, 0), (22, 1, 8), (3, 0, 1), (7, 0, 0), (37, 0, 0)]]
/-- FModel.stretch(III)I -/
def bk90 : List (List Op) := [[(0, 1, 0), (3, 0, 1), (3, 0, 1000), (53, 85, 1), (29, 1, 0), (0, 2, 0), (3, 0, 0), (3, 0, 1000), (53, 85, 1), (29, 1, 0), (0, 3, 0), (3, 0, 0), (3, 0, 100), (53, 85, 1), (29, 1, 0), (47, 0, 0), (22, 1, 8), (3, 0, 10), (30, 2, 1), (32, 1, 0)],
  [(3, 0, (-1)), (37, 0, 0)],
  [(47, 0, 0), (22, 5, 8), (47, 0, 0), (22, 1, 8), (0, 3, 0), (25, 0, 0), (47, 0, 0), (0, 1, 0), (0, 2, 0), (53, 89, 1), (37, 0, 0)]]
/-- FModel.cell(IIII)I -/
def bk91 : List (List Op) := [[(0, 1, 0), (3, 0, 1), (3, 0, 1000), (53, 85, 1), (29, 1, 0), (0, 2, 0), (3, 0, 0), (3, 0, 1000), (53, 85, 1), (29, 1, 0), (0, 3, 0), (3, 0, 0), (3, 0, 500), (53, 85, 1), (29, 1, 0), (0, 4, 0), (3, 0, 0), (3, 0, 1000000), (53, 85, 1), (29, 1, 0), (47, 0, 0), (22, 1, 8), (3, 0, 10), (30, 2, 1), (32, 1, 0)],
  [(3, 0, (-1)), (37, 0, 0)],
  [(47, 0, 0), (22, 2, 8), (47, 0, 0), (22, 1, 8), (3, 0, 1), (26, 0, 0), (47, 0, 0), (22, 6, 8), (47, 0, 0), (22, 1, 8), (0, 3, 0), (25, 0, 0), (47, 0, 0), (22, 7, 8), (47, 0, 0), (22, 1, 8), (0, 4, 0), (25, 0, 0), (47, 0, 0), (0, 1, 0), (0, 2, 0), (53, 89, 1), (37, 0, 0)]]
/-- FModel.dike(IIIII)I -/
def bk92 : List (List Op) := [[(47, 0, 0), (0, 1, 0), (52, 86, 1), (29, 1, 0), (47, 0, 0), (0, 2, 0), (52, 86, 1), (29, 1, 0), (0, 1, 0), (0, 2, 0), (30, 1, 0), (0, 3, 0), (3, 0, 0), (3, 0, 2000), (53, 85, 1), (29, 1, 0), (0, 4, 0), (3, 0, 1), (3, 0, 1000), (53, 85, 1), (29, 1, 0), (0, 5, 0), (3, 0, 0), (3, 0, 20), (53, 85, 1), (29, 1, 0), (47, 0, 0), (22, 9, 8), (3, 0, 12), (30, 2, 1), (32, 1, 0)],
  [(3, 0, (-1)), (37, 0, 0)],
  [(47, 0, 0), (22, 10, 8), (47, 0, 0), (22, 9, 8), (0, 1, 0), (25, 0, 0), (47, 0, 0), (22, 11, 8), (47, 0, 0), (22, 9, 8), (0, 2, 0), (25, 0, 0), (47, 0, 0), (22, 12, 8), (47, 0, 0), (22, 9, 8), (0, 3, 0), (25, 0, 0), (47, 0, 0), (22, 13, 8), (47, 0, 0), (22, 9, 8), (0, 4, 0), (25, 0, 0), (47, 0, 0), (22, 14, 8), (47, 0, 0), (22, 9, 8), (0, 5, 0), (25, 0, 0), (47, 0, 0), (22, 15, 8), (47, 0, 0), (22, 9, 8), (3, 0, (-1)), (25, 0, 0), (47, 0, 0), (33, 0, 0), (22, 9, 8), (3, 0, 1), (6, 0, 0), (23, 9, 8), (47, 0, 0), (22, 9, 8), (3, 0, 1), (7, 0, 0), (37, 0, 0)]]
/-- FModel.isBreached(II)Z -/
def bk93 : List (List Op) := [[(47, 0, 0), (22, 15, 8), (0, 1, 0), (24, 0, 0), (3, 0, (-1)), (30, 1, 0), (47, 0, 0), (22, 15, 8), (0, 1, 0), (24, 0, 0), (0, 2, 0), (30, 1, 4), (3, 0, 1), (31, 2, 0)],
  [(3, 0, 0), (32, 2, 0)],
  [(37, 0, 1)]]
/-- FModel.breach(III)Z -/
def bk94 : List (List Op) := [[(47, 0, 0), (0, 1, 0), (52, 88, 1), (29, 1, 0), (0, 2, 0), (47, 0, 0), (22, 0, 8), (3, 0, 99), (53, 85, 1), (29, 1, 0), (0, 3, 0), (3, 0, 0), (47, 0, 0), (22, 12, 8), (0, 1, 0), (24, 0, 0), (53, 85, 1), (29, 1, 0), (47, 0, 0), (0, 1, 0), (47, 0, 0), (22, 0, 8), (3, 0, 1), (7, 0, 0), (53, 93, 1), (29, 2, 0), (32, 1, 0)],
  [(3, 0, 0), (37, 0, 1)],
  [(47, 0, 0), (22, 15, 8), (0, 1, 0), (0, 2, 0), (25, 0, 0), (47, 0, 0), (22, 16, 8), (0, 1, 0), (0, 3, 0), (25, 0, 0), (3, 0, 1), (37, 0, 1)]]
/-- FModel.flows(II)Z -/
def bk95 : List (List Op) := [[(0, 1, 0), (47, 0, 0), (22, 0, 8), (3, 0, 99), (53, 85, 1), (29, 1, 0), (0, 2, 0), (3, 0, 0), (3, 0, 1000000), (53, 85, 1), (29, 2, 1), (32, 1, 0)],
  [(3, 0, 0), (37, 0, 1)],
  [(47, 0, 0), (22, 8, 8), (0, 1, 0), (0, 2, 0), (25, 0, 0), (3, 0, 1), (37, 0, 1)]]
/-- FModel.pit(I)I -/
def bk96 : List (List Op) := [[(0, 1, 0), (3, 0, 1), (3, 0, 10000), (53, 85, 1), (29, 1, 0), (47, 0, 0), (22, 18, 8), (0, 1, 0), (6, 0, 0), (3, 0, 100000), (30, 2, 5), (32, 1, 0)],
  [(3, 0, (-1)), (37, 0, 0)],
  [(47, 0, 0), (33, 0, 0), (22, 18, 8), (0, 1, 0), (6, 0, 0), (23, 18, 8), (47, 0, 0), (22, 18, 8), (37, 0, 0)]]
/-- FModel.canSend(II)Z -/
def bk97 : List (List Op) := [[(47, 0, 0), (0, 1, 0), (52, 88, 1), (29, 1, 0), (0, 2, 0), (3, 0, 1), (30, 1, 2), (0, 2, 0), (47, 0, 0), (22, 18, 8), (30, 1, 4), (47, 0, 0), (22, 0, 8), (47, 0, 0), (22, 14, 8), (0, 1, 0), (24, 0, 0), (6, 0, 0), (3, 0, 100), (30, 1, 3), (3, 0, 1), (31, 2, 0)],
  [(3, 0, 0), (32, 2, 0)],
  [(37, 0, 1)]]
/-- FModel.send(II)I -/
def bk98 : List (List Op) := [[(47, 0, 0), (0, 1, 0), (0, 2, 0), (53, 97, 1), (29, 1, 1), (3, 0, (-1)), (37, 0, 0)],
  [(47, 0, 0), (33, 0, 0), (22, 18, 8), (0, 2, 0), (7, 0, 0), (23, 18, 8), (47, 0, 0), (22, 17, 8), (3, 0, 101), (0, 1, 0), (8, 0, 0), (47, 0, 0), (22, 0, 8), (6, 0, 0), (47, 0, 0), (22, 14, 8), (0, 1, 0), (24, 0, 0), (6, 0, 0), (34, 0, 0), (24, 0, 0), (0, 2, 0), (6, 0, 0), (25, 0, 0), (47, 0, 0), (22, 0, 8), (47, 0, 0), (22, 14, 8), (0, 1, 0), (24, 0, 0), (6, 0, 0), (37, 0, 0)]]
/-- FModel.tell(III)Z -/
def bk99 : List (List Op) := [[(47, 0, 0), (0, 1, 0), (52, 88, 1), (29, 1, 0), (0, 2, 0), (3, 0, 0), (3, 0, 99), (53, 85, 1), (29, 1, 0), (0, 3, 0), (3, 0, 0), (3, 0, 20), (53, 85, 1), (29, 1, 0), (47, 0, 0), (22, 19, 8), (3, 0, 100), (30, 2, 1), (32, 1, 0)],
  [(3, 0, 0), (37, 0, 1)],
  [(47, 0, 0), (22, 20, 8), (47, 0, 0), (22, 19, 8), (0, 1, 0), (25, 0, 0), (47, 0, 0), (22, 21, 8), (47, 0, 0), (22, 19, 8), (0, 2, 0), (25, 0, 0), (47, 0, 0), (22, 22, 8), (47, 0, 0), (22, 19, 8), (47, 0, 0), (22, 0, 8), (0, 3, 0), (6, 0, 0), (25, 0, 0), (47, 0, 0), (33, 0, 0), (22, 19, 8), (3, 0, 1), (6, 0, 0), (23, 19, 8), (3, 0, 1), (37, 0, 1)]]
/-- FModel.known(I)I -/
def bk100 : List (List Op) := [[(3, 0, (-1)), (1, 2, 0), (3, 0, 0), (1, 3, 0), (32, 1, 0)],
  [(0, 3, 0), (47, 0, 0), (22, 19, 8), (30, 3, 3), (47, 0, 0), (22, 20, 8), (0, 3, 0), (24, 0, 0), (0, 1, 0), (30, 2, 1), (47, 0, 0), (22, 22, 8), (0, 3, 0), (24, 0, 0), (47, 0, 0), (22, 0, 8), (30, 2, 4), (47, 0, 0), (22, 21, 8), (0, 3, 0), (24, 0, 0), (1, 2, 0), (32, 2, 0)],
  [(5, 3, 1), (31, 1, 0)],
  [(0, 2, 0), (37, 0, 0)]]
/-- FModel.worst()I -/
def bk101 : List (List Op) := [[(3, 0, (-1)), (1, 1, 0), (3, 0, 0), (1, 2, 0), (32, 1, 0)],
  [(0, 2, 0), (47, 0, 0), (22, 9, 8), (30, 4, 3), (47, 0, 0), (0, 2, 0), (52, 100, 1), (3, 0, (-1)), (30, 3, 0), (0, 1, 0), (3, 0, (-1)), (30, 2, 0), (47, 0, 0), (0, 2, 0), (52, 100, 1), (47, 0, 0), (0, 1, 0), (52, 100, 1), (30, 3, 5), (32, 2, 0)],
  [(0, 2, 0), (1, 1, 0), (32, 3, 0)],
  [(5, 2, 1), (31, 1, 0)],
  [(0, 1, 0), (37, 0, 0)]]
/-- FModel.road(IIII)I -/
def bk102 : List (List Op) := [[(47, 0, 0), (0, 1, 0), (52, 87, 1), (29, 2, 0), (0, 2, 0), (3, 0, (-1)), (30, 1, 0), (47, 0, 0), (0, 2, 0), (52, 87, 1), (29, 2, 0), (32, 1, 0)],
  [(0, 1, 0), (0, 2, 0), (30, 2, 0), (0, 3, 0), (3, 0, 1), (3, 0, 99), (53, 85, 1), (29, 2, 0), (0, 4, 0), (3, 0, 1), (3, 0, 5), (53, 85, 1), (29, 2, 0), (47, 0, 0), (22, 23, 8), (3, 0, 12), (30, 3, 1), (32, 2, 0)],
  [(3, 0, (-1)), (37, 0, 0)],
  [(47, 0, 0), (22, 24, 8), (47, 0, 0), (22, 23, 8), (0, 1, 0), (25, 0, 0), (47, 0, 0), (22, 25, 8), (47, 0, 0), (22, 23, 8), (0, 2, 0), (25, 0, 0), (47, 0, 0), (22, 26, 8), (47, 0, 0), (22, 23, 8), (0, 3, 0), (25, 0, 0), (47, 0, 0), (22, 27, 8), (47, 0, 0), (22, 23, 8), (0, 4, 0), (25, 0, 0), (47, 0, 0), (33, 0, 0), (22, 23, 8), (3, 0, 1), (6, 0, 0), (23, 23, 8), (47, 0, 0), (22, 23, 8), (3, 0, 1), (7, 0, 0), (37, 0, 0)]]
/-- FModel.level(II)I -/
def bk103 : List (List Op) := [[(47, 0, 0), (22, 4, 8), (0, 2, 0), (24, 0, 0), (47, 0, 0), (22, 28, 8), (3, 0, 10), (0, 1, 0), (8, 0, 0), (0, 2, 0), (6, 0, 0), (24, 0, 0), (47, 0, 0), (22, 3, 8), (0, 2, 0), (24, 0, 0), (13, 0, 0), (6, 0, 0), (37, 0, 0)]]
/-- FModel.top(III)I -/
def bk104 : List (List Op) := [[(47, 0, 0), (0, 2, 0), (0, 3, 0), (53, 93, 1), (29, 1, 0), (47, 0, 0), (22, 16, 8), (0, 2, 0), (24, 0, 0), (31, 2, 0)],
  [(47, 0, 0), (22, 12, 8), (0, 2, 0), (24, 0, 0), (47, 0, 0), (22, 29, 8), (3, 0, 12), (0, 1, 0), (8, 0, 0), (0, 2, 0), (6, 0, 0), (24, 0, 0), (3, 0, 10), (13, 0, 0), (6, 0, 0), (32, 2, 0)],
  [(37, 0, 0)]]
/-- FModel.hour(II)V -/
def bk105 : List (List Op) := [[(3, 0, 0), (1, 3, 0), (32, 1, 0)],
  [(0, 3, 0), (47, 0, 0), (22, 1, 8), (30, 2, 3), (47, 0, 0), (22, 2, 8), (0, 3, 0), (46, 0, 0), (29, 2, 0), (5, 3, 1), (31, 1, 0)],
  [(0, 3, 0), (47, 0, 0), (22, 1, 8), (30, 3, 3), (47, 0, 0), (22, 28, 8), (3, 0, 10), (0, 1, 0), (8, 0, 0), (0, 3, 0), (6, 0, 0), (34, 0, 0), (24, 0, 0), (47, 0, 0), (22, 8, 8), (0, 2, 0), (24, 0, 0), (6, 0, 0), (25, 0, 0), (47, 0, 0), (22, 32, 8), (0, 1, 0), (34, 0, 0), (27, 0, 0), (47, 0, 0), (22, 8, 8), (0, 2, 0), (24, 0, 0), (16, 0, 0), (18, 0, 0), (28, 0, 0), (32, 3, 0)],
  [(3, 0, (-1)), (1, 4, 0), (47, 0, 0), (22, 1, 8), (3, 0, 1), (7, 0, 0), (1, 5, 0), (32, 4, 0)],
  [(0, 5, 0), (29, 9, 2), (47, 0, 0), (22, 2, 8), (0, 5, 0), (46, 0, 0), (29, 5, 0), (31, 8, 0)],
  [(47, 0, 0), (22, 28, 8), (3, 0, 10), (0, 1, 0), (8, 0, 0), (0, 5, 0), (6, 0, 0), (24, 0, 0), (16, 0, 0), (47, 0, 0), (22, 5, 8), (0, 5, 0), (24, 0, 0), (16, 0, 0), (19, 0, 0), (4, 0, 100), (20, 0, 0), (17, 0, 0), (1, 6, 0), (47, 0, 0), (22, 28, 8), (3, 0, 10), (0, 1, 0), (8, 0, 0), (0, 5, 0), (6, 0, 0), (34, 0, 0), (24, 0, 0), (0, 6, 0), (7, 0, 0), (25, 0, 0), (0, 4, 0), (3, 0, (-1)), (30, 6, 1), (47, 0, 0), (22, 31, 8), (0, 1, 0), (34, 0, 0), (27, 0, 0), (0, 6, 0), (16, 0, 0), (18, 0, 0), (28, 0, 0), (31, 7, 0)],
  [(47, 0, 0), (22, 28, 8), (3, 0, 10), (0, 1, 0), (8, 0, 0), (0, 4, 0), (6, 0, 0), (34, 0, 0), (24, 0, 0), (0, 6, 0), (6, 0, 0), (25, 0, 0), (32, 7, 0)],
  [(0, 5, 0), (1, 4, 0), (32, 8, 0)],
  [(5, 5, (-1)), (31, 4, 0)],
  [(3, 0, 0), (1, 5, 0), (32, 10, 0)],
  [(0, 5, 0), (47, 0, 0), (22, 9, 8), (30, 13, 3), (47, 0, 0), (22, 29, 8), (3, 0, 12), (0, 1, 0), (8, 0, 0), (0, 5, 0), (6, 0, 0), (34, 0, 0), (24, 0, 0), (47, 0, 0), (22, 17, 8), (3, 0, 101), (0, 5, 0), (8, 0, 0), (0, 2, 0), (6, 0, 0), (24, 0, 0), (6, 0, 0), (25, 0, 0), (47, 0, 0), (0, 5, 0), (0, 2, 0), (53, 93, 1), (29, 11, 1), (31, 12, 0)],
  [(47, 0, 0), (22, 30, 8), (0, 1, 0), (34, 0, 0), (24, 0, 0), (47, 0, 0), (22, 29, 8), (3, 0, 12), (0, 1, 0), (8, 0, 0), (0, 5, 0), (6, 0, 0), (24, 0, 0), (6, 0, 0), (25, 0, 0), (47, 0, 0), (22, 29, 8), (3, 0, 12), (0, 1, 0), (8, 0, 0), (0, 5, 0), (6, 0, 0), (3, 0, 0), (25, 0, 0), (32, 12, 0)],
  [(5, 5, 1), (31, 10, 0)],
  [(3, 0, 0), (1, 5, 0), (32, 14, 0)],
  [(0, 5, 0), (47, 0, 0), (22, 9, 8), (30, 15, 3), (47, 0, 0), (0, 1, 0), (0, 5, 0), (0, 2, 0), (54, 106, 0), (5, 5, 1), (31, 14, 0)],
  [(38, 0, 0)]]
/-- FModel.over(III)V -/
def bk106 : List (List Op) := [[(47, 0, 0), (22, 10, 8), (0, 2, 0), (24, 0, 0), (1, 4, 0), (47, 0, 0), (22, 11, 8), (0, 2, 0), (24, 0, 0), (1, 5, 0), (47, 0, 0), (0, 1, 0), (0, 4, 0), (53, 103, 1), (47, 0, 0), (0, 1, 0), (0, 5, 0), (53, 103, 1), (30, 1, 5), (0, 4, 0), (31, 2, 0)],
  [(0, 5, 0), (32, 2, 0)],
  [(1, 6, 0), (0, 6, 0), (0, 4, 0), (30, 3, 1), (0, 5, 0), (31, 4, 0)],
  [(0, 4, 0), (32, 4, 0)],
  [(1, 7, 0), (47, 0, 0), (0, 1, 0), (0, 7, 0), (53, 103, 1), (1, 8, 0), (47, 0, 0), (0, 1, 0), (0, 2, 0), (0, 3, 0), (54, 104, 1), (1, 9, 0), (47, 0, 0), (0, 1, 0), (0, 6, 0), (53, 103, 1), (0, 9, 0), (0, 8, 0), (30, 5, 5), (0, 9, 0), (31, 6, 0)],
  [(0, 8, 0), (32, 6, 0)],
  [(7, 0, 0), (1, 10, 0), (0, 10, 0), (29, 7, 4), (38, 0, 0)],
  [(47, 0, 0), (22, 13, 8), (0, 2, 0), (24, 0, 0), (16, 0, 0), (0, 10, 0), (16, 0, 0), (19, 0, 0), (2, 11, 0), (0, 10, 0), (16, 0, 0), (47, 0, 0), (22, 3, 8), (0, 6, 0), (24, 0, 0), (16, 0, 0), (19, 0, 0), (4, 0, 2), (20, 0, 0), (2, 13, 0), (48, 13, 0), (48, 11, 0), (21, 0, 0), (29, 8, 3), (48, 13, 0), (2, 11, 0), (32, 8, 0)],
  [(47, 0, 0), (22, 28, 8), (3, 0, 10), (0, 1, 0), (8, 0, 0), (0, 6, 0), (6, 0, 0), (24, 0, 0), (16, 0, 0), (48, 11, 0), (21, 0, 0), (29, 9, 3), (47, 0, 0), (22, 28, 8), (3, 0, 10), (0, 1, 0), (8, 0, 0), (0, 6, 0), (6, 0, 0), (24, 0, 0), (16, 0, 0), (2, 11, 0), (32, 9, 0)],
  [(47, 0, 0), (22, 28, 8), (3, 0, 10), (0, 1, 0), (8, 0, 0), (0, 6, 0), (6, 0, 0), (34, 0, 0), (24, 0, 0), (48, 11, 0), (17, 0, 0), (7, 0, 0), (25, 0, 0), (47, 0, 0), (22, 28, 8), (3, 0, 10), (0, 1, 0), (8, 0, 0), (0, 7, 0), (6, 0, 0), (34, 0, 0), (24, 0, 0), (48, 11, 0), (17, 0, 0), (6, 0, 0), (25, 0, 0), (38, 0, 0)]]
/-- FModel.go(I)I -/
def bk107 : List (List Op) := [[(0, 1, 0), (3, 0, 0), (3, 0, 100), (53, 85, 1), (29, 1, 1), (3, 0, (-1)), (37, 0, 0)],
  [(3, 0, 0), (1, 2, 0), (32, 2, 0)],
  [(0, 2, 0), (0, 1, 0), (30, 5, 3), (47, 0, 0), (22, 0, 8), (3, 0, 100), (30, 5, 3), (47, 0, 0), (3, 0, 0), (47, 0, 0), (22, 0, 8), (53, 105, 0), (3, 0, 0), (1, 3, 0), (32, 3, 0)],
  [(0, 3, 0), (47, 0, 0), (22, 9, 8), (30, 4, 3), (47, 0, 0), (22, 17, 8), (3, 0, 101), (0, 3, 0), (8, 0, 0), (47, 0, 0), (22, 0, 8), (6, 0, 0), (3, 0, 0), (25, 0, 0), (5, 3, 1), (31, 3, 0)],
  [(47, 0, 0), (33, 0, 0), (22, 0, 8), (3, 0, 1), (6, 0, 0), (23, 0, 8), (5, 2, 1), (31, 2, 0)],
  [(47, 0, 0), (22, 0, 8), (37, 0, 0)]]
/-- FModel.foretells()V -/
def bk108 : List (List Op) := [[(3, 0, 0), (1, 1, 0), (32, 1, 0)],
  [(0, 1, 0), (3, 0, 10), (30, 2, 3), (47, 0, 0), (22, 28, 8), (3, 0, 10), (0, 1, 0), (6, 0, 0), (47, 0, 0), (22, 28, 8), (0, 1, 0), (24, 0, 0), (25, 0, 0), (5, 1, 1), (31, 1, 0)],
  [(3, 0, 0), (1, 1, 0), (32, 3, 0)],
  [(0, 1, 0), (3, 0, 12), (30, 4, 3), (47, 0, 0), (22, 29, 8), (3, 0, 12), (0, 1, 0), (6, 0, 0), (47, 0, 0), (22, 29, 8), (0, 1, 0), (24, 0, 0), (25, 0, 0), (5, 1, 1), (31, 3, 0)],
  [(47, 0, 0), (22, 0, 8), (1, 1, 0), (32, 5, 0)],
  [(0, 1, 0), (3, 0, 100), (30, 9, 4), (3, 0, 0), (1, 2, 0), (32, 6, 0)],
  [(0, 2, 0), (47, 0, 0), (22, 1, 8), (30, 7, 3), (47, 0, 0), (22, 33, 8), (3, 0, 101), (0, 2, 0), (8, 0, 0), (0, 1, 0), (6, 0, 0), (47, 0, 0), (22, 28, 8), (3, 0, 10), (0, 2, 0), (6, 0, 0), (24, 0, 0), (25, 0, 0), (5, 2, 1), (31, 6, 0)],
  [(0, 1, 0), (3, 0, 100), (30, 8, 3), (47, 0, 0), (3, 0, 1), (0, 1, 0), (53, 105, 0), (32, 8, 0)],
  [(5, 1, 1), (31, 5, 0)],
  [(38, 0, 0)]]
/-- FModel.isWet(II)Z -/
def bk109 : List (List Op) := [[(47, 0, 0), (22, 33, 8), (3, 0, 101), (0, 1, 0), (8, 0, 0), (0, 2, 0), (6, 0, 0), (24, 0, 0), (47, 0, 0), (22, 3, 8), (0, 1, 0), (24, 0, 0), (30, 1, 2), (3, 0, 1), (31, 2, 0)],
  [(3, 0, 0), (32, 2, 0)],
  [(37, 0, 1)]]
/-- FModel.people(II)Z -/
def bk110 : List (List Op) := [[(47, 0, 0), (0, 1, 0), (52, 87, 1), (29, 1, 0), (0, 2, 0), (3, 0, 0), (3, 0, 500), (53, 85, 1), (29, 2, 1), (32, 1, 0)],
  [(3, 0, 0), (37, 0, 1)],
  [(47, 0, 0), (22, 6, 8), (0, 1, 0), (0, 2, 0), (25, 0, 0), (3, 0, 1), (37, 0, 1)]]
/-- FModel.told(II)I -/
def bk111 : List (List Op) := [[(47, 0, 0), (0, 1, 0), (52, 86, 1), (29, 1, 1), (3, 0, (-1)), (37, 0, 0)],
  [(47, 0, 0), (22, 2, 8), (0, 1, 0), (46, 0, 0), (1, 3, 0), (0, 2, 0), (36, 4, 0)],
  [(47, 0, 0), (22, 28, 8), (0, 1, 0), (24, 0, 0), (37, 0, 0)],
  [(47, 0, 0), (3, 0, 0), (0, 1, 0), (53, 103, 1), (37, 0, 0)],
  [(47, 0, 0), (22, 3, 8), (0, 1, 0), (24, 0, 0), (37, 0, 0)],
  [(47, 0, 0), (22, 4, 8), (0, 1, 0), (24, 0, 0), (37, 0, 0)],
  [(0, 3, 0), (29, 7, 0), (3, 0, (-1)), (31, 8, 0)],
  [(47, 0, 0), (22, 5, 8), (0, 1, 0), (24, 0, 0), (32, 8, 0)],
  [(37, 0, 0)],
  [(0, 3, 0), (29, 10, 0), (47, 0, 0), (22, 6, 8), (0, 1, 0), (24, 0, 0), (31, 11, 0)],
  [(3, 0, (-1)), (32, 11, 0)],
  [(37, 0, 0)],
  [(0, 3, 0), (29, 13, 0), (47, 0, 0), (22, 7, 8), (0, 1, 0), (24, 0, 0), (31, 14, 0)],
  [(3, 0, (-1)), (32, 14, 0)],
  [(37, 0, 0)],
  [(0, 3, 0), (29, 16, 0), (47, 0, 0), (22, 28, 8), (0, 1, 0), (24, 0, 0), (47, 0, 0), (22, 3, 8), (0, 1, 0), (24, 0, 0), (30, 16, 2), (3, 0, 1), (31, 17, 0)],
  [(3, 0, 0), (32, 17, 0)],
  [(37, 0, 0)],
  [(3, 0, (-1)), (37, 0, 0)]]
/-- FModel.underWay(I)I -/
def bk112 : List (List Op) := [[(3, 0, 0), (1, 2, 0), (3, 0, 0), (1, 3, 0), (32, 1, 0)],
  [(0, 3, 0), (3, 0, 101), (30, 2, 3), (0, 2, 0), (47, 0, 0), (22, 17, 8), (3, 0, 101), (0, 1, 0), (8, 0, 0), (0, 3, 0), (6, 0, 0), (24, 0, 0), (6, 0, 0), (1, 2, 0), (5, 3, 1), (31, 1, 0)],
  [(0, 2, 0), (37, 0, 0)]]
/-- FModel.crest(II)I -/
def bk113 : List (List Op) := [[(47, 0, 0), (0, 1, 0), (52, 88, 1), (29, 1, 1), (3, 0, (-1)), (37, 0, 0)],
  [(0, 2, 0), (36, 5, 0)],
  [(47, 0, 0), (3, 0, 0), (0, 1, 0), (47, 0, 0), (22, 0, 8), (54, 104, 1), (37, 0, 0)],
  [(47, 0, 0), (22, 29, 8), (0, 1, 0), (24, 0, 0), (37, 0, 0)],
  [(47, 0, 0), (0, 1, 0), (52, 112, 1), (37, 0, 0)],
  [(47, 0, 0), (0, 1, 0), (47, 0, 0), (22, 0, 8), (3, 0, 1), (7, 0, 0), (53, 93, 1), (29, 6, 0), (3, 0, 1), (31, 7, 0)],
  [(3, 0, 0), (32, 7, 0)],
  [(37, 0, 0)],
  [(3, 0, (-1)), (37, 0, 0)]]
/-- FModel.wet(I)I -/
def bk114 : List (List Op) := [[(47, 0, 0), (0, 1, 0), (52, 87, 1), (29, 1, 1), (3, 0, (-1)), (37, 0, 0)],
  [(47, 0, 0), (51, 108, 0), (47, 0, 0), (22, 0, 8), (1, 2, 0), (32, 2, 0)],
  [(0, 2, 0), (3, 0, 100), (30, 4, 4), (47, 0, 0), (0, 1, 0), (0, 2, 0), (53, 109, 1), (29, 3, 0), (0, 2, 0), (37, 0, 0)],
  [(5, 2, 1), (31, 2, 0)],
  [(3, 0, (-1)), (37, 0, 0)]]
/-- FModel.foretold(II)I -/
def bk115 : List (List Op) := [[(47, 0, 0), (0, 1, 0), (52, 86, 1), (29, 1, 0), (0, 2, 0), (47, 0, 0), (22, 0, 8), (3, 0, 100), (53, 85, 1), (29, 2, 1), (32, 1, 0)],
  [(3, 0, (-1)), (37, 0, 0)],
  [(47, 0, 0), (51, 108, 0), (47, 0, 0), (22, 33, 8), (3, 0, 101), (0, 1, 0), (8, 0, 0), (0, 2, 0), (6, 0, 0), (24, 0, 0), (37, 0, 0)]]
/-- FModel.loss()I -/
def bk116 : List (List Op) := [[(47, 0, 0), (51, 108, 0), (3, 0, 0), (1, 1, 0), (3, 0, 0), (1, 2, 0), (32, 1, 0)],
  [(0, 2, 0), (47, 0, 0), (22, 1, 8), (30, 9, 3), (3, 0, 0), (1, 3, 0), (47, 0, 0), (22, 0, 8), (1, 4, 0), (32, 2, 0)],
  [(0, 4, 0), (3, 0, 100), (30, 6, 4), (0, 3, 0), (29, 3, 1), (47, 0, 0), (22, 2, 8), (0, 2, 0), (46, 0, 0), (29, 4, 0), (47, 0, 0), (0, 2, 0), (0, 4, 0), (53, 109, 1), (29, 4, 0), (32, 3, 0)],
  [(3, 0, 1), (31, 5, 0)],
  [(3, 0, 0), (32, 5, 0)],
  [(1, 3, 0), (5, 4, 1), (31, 2, 0)],
  [(0, 1, 0), (0, 3, 0), (29, 7, 0), (47, 0, 0), (22, 7, 8), (0, 2, 0), (24, 0, 0), (31, 8, 0)],
  [(3, 0, 0), (32, 8, 0)],
  [(6, 0, 0), (1, 1, 0), (5, 2, 1), (31, 1, 0)],
  [(0, 1, 0), (37, 0, 0)]]
/-- FModel.best(I)I -/
def bk117 : List (List Op) := [[(3, 0, (-1)), (1, 2, 0), (3, 0, 0), (1, 3, 0), (3, 0, 0), (1, 4, 0), (32, 1, 0)],
  [(0, 4, 0), (47, 0, 0), (22, 9, 8), (30, 5, 3), (47, 0, 0), (0, 4, 0), (0, 1, 0), (53, 97, 1), (29, 2, 1), (31, 4, 0)],
  [(3, 0, 101), (0, 4, 0), (8, 0, 0), (47, 0, 0), (22, 0, 8), (6, 0, 0), (47, 0, 0), (22, 14, 8), (0, 4, 0), (24, 0, 0), (6, 0, 0), (1, 5, 0), (47, 0, 0), (22, 17, 8), (0, 5, 0), (34, 0, 0), (24, 0, 0), (0, 1, 0), (6, 0, 0), (25, 0, 0), (47, 0, 0), (51, 116, 1), (1, 6, 0), (47, 0, 0), (22, 17, 8), (0, 5, 0), (34, 0, 0), (24, 0, 0), (0, 1, 0), (7, 0, 0), (25, 0, 0), (0, 2, 0), (3, 0, (-1)), (30, 3, 0), (0, 6, 0), (0, 3, 0), (30, 3, 2), (31, 4, 0)],
  [(0, 4, 0), (1, 2, 0), (0, 6, 0), (1, 3, 0), (32, 4, 0)],
  [(5, 4, 1), (31, 1, 0)],
  [(0, 2, 0), (37, 0, 0)]]
/-- FModel.isPlace(III)Z -/
def bk118 : List (List Op) := [[(47, 0, 0), (22, 2, 8), (0, 1, 0), (46, 0, 0), (29, 1, 0), (0, 2, 0), (47, 0, 0), (22, 0, 8), (0, 3, 0), (53, 85, 1), (29, 1, 0), (47, 0, 0), (0, 1, 0), (0, 2, 0), (53, 109, 1), (29, 1, 1), (3, 0, 1), (31, 2, 0)],
  [(3, 0, 0), (32, 2, 0)],
  [(37, 0, 1)]]
/-- FModel.sees(IIII)V -/
def bk119 : List (List Op) := [[(3, 0, 101), (0, 1, 0), (8, 0, 0), (0, 2, 0), (6, 0, 0), (1, 5, 0), (47, 0, 0), (22, 37, 8), (0, 5, 0), (46, 0, 0), (29, 1, 0), (38, 0, 0)],
  [(47, 0, 0), (22, 37, 8), (0, 5, 0), (3, 0, 1), (26, 0, 0), (47, 0, 0), (22, 39, 8), (0, 5, 0), (0, 3, 0), (25, 0, 0), (47, 0, 0), (22, 40, 8), (0, 5, 0), (0, 4, 0), (25, 0, 0), (47, 0, 0), (22, 38, 8), (47, 0, 0), (22, 41, 8), (0, 5, 0), (25, 0, 0), (47, 0, 0), (33, 0, 0), (22, 41, 8), (3, 0, 1), (6, 0, 0), (23, 41, 8), (38, 0, 0)]]
/-- FModel.seeks(I)Z -/
def bk120 : List (List Op) := [[(3, 0, 0), (1, 2, 0), (32, 1, 0)],
  [(0, 2, 0), (3, 0, 1010), (30, 2, 3), (47, 0, 0), (22, 37, 8), (0, 2, 0), (3, 0, 0), (26, 0, 0), (5, 2, 1), (31, 1, 0)],
  [(47, 0, 0), (3, 0, 0), (23, 41, 8), (47, 0, 0), (3, 0, (-1)), (23, 42, 8), (3, 0, 0), (1, 2, 0), (32, 3, 0)],
  [(0, 2, 0), (47, 0, 0), (22, 1, 8), (30, 5, 3), (47, 0, 0), (0, 2, 0), (47, 0, 0), (22, 0, 8), (0, 1, 0), (54, 118, 1), (29, 4, 0), (47, 0, 0), (22, 6, 8), (0, 2, 0), (24, 0, 0), (47, 0, 0), (22, 34, 8), (0, 2, 0), (24, 0, 0), (30, 4, 5), (47, 0, 0), (0, 2, 0), (47, 0, 0), (22, 0, 8), (3, 0, 0), (3, 0, (-1)), (55, 119, 0), (32, 4, 0)],
  [(5, 2, 1), (31, 3, 0)],
  [(3, 0, 0), (1, 2, 0), (32, 6, 0)],
  [(0, 2, 0), (47, 0, 0), (22, 41, 8), (30, 7, 3), (47, 0, 0), (22, 42, 8), (3, 0, (-1)), (30, 7, 1), (47, 0, 0), (47, 0, 0), (22, 38, 8), (0, 2, 0), (24, 0, 0), (3, 0, 101), (13, 0, 0), (47, 0, 0), (22, 38, 8), (0, 2, 0), (24, 0, 0), (3, 0, 101), (14, 0, 0), (0, 1, 0), (54, 121, 0), (5, 2, 1), (31, 6, 0)],
  [(47, 0, 0), (22, 42, 8), (3, 0, (-1)), (30, 8, 0), (3, 0, 1), (31, 9, 0)],
  [(3, 0, 0), (32, 9, 0)],
  [(37, 0, 1)]]
/-- FModel.spreads(III)V -/
def bk121 : List (List Op) := [[(47, 0, 0), (0, 1, 0), (0, 2, 0), (3, 0, 1), (6, 0, 0), (0, 3, 0), (54, 118, 1), (29, 1, 0), (47, 0, 0), (0, 1, 0), (0, 2, 0), (3, 0, 1), (6, 0, 0), (3, 0, 1), (3, 0, (-1)), (55, 119, 0), (32, 1, 0)],
  [(0, 2, 0), (47, 0, 0), (22, 0, 8), (30, 2, 5), (47, 0, 0), (22, 35, 8), (3, 0, 101), (0, 1, 0), (8, 0, 0), (0, 2, 0), (6, 0, 0), (3, 0, 1), (7, 0, 0), (24, 0, 0), (29, 2, 5), (47, 0, 0), (0, 1, 0), (0, 2, 0), (3, 0, 1), (7, 0, 0), (3, 0, 2), (3, 0, (-1)), (55, 119, 0), (32, 2, 0)],
  [(3, 0, 0), (1, 4, 0), (32, 3, 0)],
  [(0, 4, 0), (47, 0, 0), (22, 23, 8), (30, 7, 3), (0, 2, 0), (47, 0, 0), (22, 27, 8), (0, 4, 0), (24, 0, 0), (6, 0, 0), (1, 5, 0), (47, 0, 0), (22, 24, 8), (0, 4, 0), (24, 0, 0), (0, 1, 0), (30, 5, 1), (0, 5, 0), (0, 3, 0), (30, 5, 4), (47, 0, 0), (22, 36, 8), (3, 0, 101), (0, 4, 0), (8, 0, 0), (0, 2, 0), (6, 0, 0), (24, 0, 0), (47, 0, 0), (22, 26, 8), (0, 4, 0), (24, 0, 0), (30, 5, 3), (47, 0, 0), (22, 25, 8), (0, 4, 0), (24, 0, 0), (3, 0, (-1)), (30, 4, 1), (47, 0, 0), (3, 0, 101), (0, 1, 0), (8, 0, 0), (0, 2, 0), (6, 0, 0), (23, 42, 8), (47, 0, 0), (0, 4, 0), (23, 43, 8), (38, 0, 0)],
  [(47, 0, 0), (47, 0, 0), (22, 25, 8), (0, 4, 0), (24, 0, 0), (0, 5, 0), (0, 3, 0), (54, 118, 1), (29, 5, 0), (47, 0, 0), (47, 0, 0), (22, 25, 8), (0, 4, 0), (24, 0, 0), (0, 5, 0), (3, 0, 3), (0, 4, 0), (55, 119, 0), (32, 5, 0)],
  [(0, 2, 0), (47, 0, 0), (22, 27, 8), (0, 4, 0), (24, 0, 0), (7, 0, 0), (1, 6, 0), (47, 0, 0), (22, 25, 8), (0, 4, 0), (24, 0, 0), (0, 1, 0), (30, 6, 1), (0, 6, 0), (47, 0, 0), (22, 0, 8), (30, 6, 2), (47, 0, 0), (22, 36, 8), (3, 0, 101), (0, 4, 0), (8, 0, 0), (0, 6, 0), (6, 0, 0), (24, 0, 0), (29, 6, 5), (47, 0, 0), (47, 0, 0), (22, 24, 8), (0, 4, 0), (24, 0, 0), (0, 6, 0), (3, 0, 4), (0, 4, 0), (55, 119, 0), (32, 6, 0)],
  [(5, 4, 1), (31, 3, 0)],
  [(38, 0, 0)]]
/-- FModel.placeAhead(I)I -/
def bk122 : List (List Op) := [[(47, 0, 0), (22, 40, 8), (0, 1, 0), (24, 0, 0), (1, 2, 0), (47, 0, 0), (22, 39, 8), (0, 1, 0), (24, 0, 0), (36, 6, 0)],
  [(0, 1, 0), (3, 0, 1), (7, 0, 0), (37, 0, 0)],
  [(0, 1, 0), (3, 0, 1), (6, 0, 0), (37, 0, 0)],
  [(3, 0, 101), (47, 0, 0), (22, 24, 8), (0, 2, 0), (24, 0, 0), (8, 0, 0), (0, 1, 0), (3, 0, 101), (14, 0, 0), (6, 0, 0), (47, 0, 0), (22, 27, 8), (0, 2, 0), (24, 0, 0), (7, 0, 0), (37, 0, 0)],
  [(3, 0, 101), (47, 0, 0), (22, 25, 8), (0, 2, 0), (24, 0, 0), (8, 0, 0), (0, 1, 0), (3, 0, 101), (14, 0, 0), (6, 0, 0), (47, 0, 0), (22, 27, 8), (0, 2, 0), (24, 0, 0), (6, 0, 0), (37, 0, 0)]]
/-- FModel.more(I)I -/
def bk123 : List (List Op) := [[(47, 0, 0), (22, 40, 8), (0, 1, 0), (24, 0, 0), (1, 2, 0), (47, 0, 0), (22, 39, 8), (0, 1, 0), (24, 0, 0), (36, 7, 0)],
  [(47, 0, 0), (22, 6, 8), (0, 1, 0), (3, 0, 101), (13, 0, 0), (24, 0, 0), (47, 0, 0), (22, 34, 8), (0, 1, 0), (3, 0, 101), (13, 0, 0), (24, 0, 0), (7, 0, 0), (37, 0, 0)],
  [(3, 0, 1000000000), (37, 0, 0)],
  [(47, 0, 0), (22, 35, 8), (0, 1, 0), (24, 0, 0), (37, 0, 0)],
  [(47, 0, 0), (22, 26, 8), (0, 2, 0), (24, 0, 0), (47, 0, 0), (22, 36, 8), (3, 0, 101), (0, 2, 0), (8, 0, 0), (0, 1, 0), (3, 0, 101), (14, 0, 0), (6, 0, 0), (47, 0, 0), (22, 27, 8), (0, 2, 0), (24, 0, 0), (7, 0, 0), (24, 0, 0), (7, 0, 0), (37, 0, 0)],
  [(47, 0, 0), (22, 36, 8), (3, 0, 101), (0, 2, 0), (8, 0, 0), (0, 1, 0), (3, 0, 101), (14, 0, 0), (6, 0, 0), (24, 0, 0), (37, 0, 0)]]
/-- FModel.goes(II)V -/
def bk124 : List (List Op) := [[(47, 0, 0), (22, 40, 8), (0, 1, 0), (24, 0, 0), (1, 3, 0), (47, 0, 0), (22, 39, 8), (0, 1, 0), (24, 0, 0), (36, 8, 0)],
  [(47, 0, 0), (22, 34, 8), (0, 1, 0), (3, 0, 101), (13, 0, 0), (34, 0, 0), (24, 0, 0), (0, 2, 0), (6, 0, 0), (25, 0, 0), (31, 6, 0)],
  [(47, 0, 0), (22, 35, 8), (0, 1, 0), (3, 0, 1), (7, 0, 0), (34, 0, 0), (24, 0, 0), (0, 2, 0), (6, 0, 0), (25, 0, 0), (31, 6, 0)],
  [(47, 0, 0), (22, 35, 8), (0, 1, 0), (34, 0, 0), (24, 0, 0), (0, 2, 0), (7, 0, 0), (25, 0, 0), (31, 6, 0)],
  [(47, 0, 0), (22, 36, 8), (3, 0, 101), (0, 3, 0), (8, 0, 0), (0, 1, 0), (3, 0, 101), (14, 0, 0), (6, 0, 0), (47, 0, 0), (22, 27, 8), (0, 3, 0), (24, 0, 0), (7, 0, 0), (34, 0, 0), (24, 0, 0), (0, 2, 0), (6, 0, 0), (25, 0, 0), (31, 6, 0)],
  [(47, 0, 0), (22, 36, 8), (3, 0, 101), (0, 3, 0), (8, 0, 0), (0, 1, 0), (3, 0, 101), (14, 0, 0), (6, 0, 0), (34, 0, 0), (24, 0, 0), (0, 2, 0), (7, 0, 0), (25, 0, 0), (32, 6, 0)],
  [(38, 0, 0)]]
/-- FModel.leads(I)I -/
def bk125 : List (List Op) := [[(47, 0, 0), (51, 108, 0), (3, 0, 0), (1, 2, 0), (32, 1, 0)],
  [(0, 2, 0), (3, 0, 10), (30, 2, 3), (47, 0, 0), (22, 34, 8), (0, 2, 0), (3, 0, 0), (25, 0, 0), (5, 2, 1), (31, 1, 0)],
  [(3, 0, 0), (1, 2, 0), (32, 3, 0)],
  [(0, 2, 0), (3, 0, 1010), (30, 4, 3), (47, 0, 0), (22, 35, 8), (0, 2, 0), (3, 0, 0), (25, 0, 0), (5, 2, 1), (31, 3, 0)],
  [(3, 0, 0), (1, 2, 0), (32, 5, 0)],
  [(0, 2, 0), (3, 0, 1212), (30, 6, 3), (47, 0, 0), (22, 36, 8), (0, 2, 0), (3, 0, 0), (25, 0, 0), (5, 2, 1), (31, 5, 0)],
  [(3, 0, 0), (1, 2, 0), (32, 7, 0)],
  [(47, 0, 0), (0, 1, 0), (52, 120, 1), (29, 20, 0), (47, 0, 0), (22, 26, 8), (47, 0, 0), (22, 43, 8), (24, 0, 0), (47, 0, 0), (22, 36, 8), (3, 0, 101), (47, 0, 0), (22, 43, 8), (8, 0, 0), (47, 0, 0), (22, 42, 8), (3, 0, 101), (14, 0, 0), (6, 0, 0), (24, 0, 0), (7, 0, 0), (1, 3, 0), (47, 0, 0), (22, 42, 8), (1, 4, 0), (3, 0, 1), (1, 5, 0), (32, 8, 0)],
  [(0, 5, 0), (29, 13, 0), (47, 0, 0), (0, 4, 0), (52, 123, 1), (1, 6, 0), (0, 6, 0), (0, 3, 0), (30, 9, 3), (0, 6, 0), (1, 3, 0), (32, 9, 0)],
  [(47, 0, 0), (22, 39, 8), (0, 4, 0), (24, 0, 0), (29, 10, 0), (3, 0, 1), (31, 11, 0)],
  [(3, 0, 0), (32, 11, 0)],
  [(1, 5, 0), (0, 5, 0), (29, 12, 0), (47, 0, 0), (0, 4, 0), (52, 122, 1), (1, 4, 0), (32, 12, 0)],
  [(31, 8, 0)],
  [(47, 0, 0), (22, 36, 8), (3, 0, 101), (47, 0, 0), (22, 43, 8), (8, 0, 0), (47, 0, 0), (22, 42, 8), (3, 0, 101), (14, 0, 0), (6, 0, 0), (34, 0, 0), (24, 0, 0), (0, 3, 0), (6, 0, 0), (25, 0, 0), (47, 0, 0), (22, 42, 8), (1, 4, 0), (3, 0, 1), (1, 5, 0), (32, 14, 0)],
  [(0, 5, 0), (29, 19, 0), (47, 0, 0), (22, 39, 8), (0, 4, 0), (24, 0, 0), (29, 15, 1), (3, 0, (-1)), (31, 16, 0)],
  [(47, 0, 0), (0, 4, 0), (52, 122, 1), (32, 16, 0)],
  [(1, 6, 0), (47, 0, 0), (0, 4, 0), (0, 3, 0), (53, 124, 0), (0, 6, 0), (3, 0, (-1)), (30, 17, 0), (3, 0, 1), (31, 18, 0)],
  [(3, 0, 0), (32, 18, 0)],
  [(1, 5, 0), (0, 6, 0), (1, 4, 0), (31, 14, 0)],
  [(0, 2, 0), (0, 3, 0), (6, 0, 0), (1, 2, 0), (31, 7, 0)],
  [(0, 2, 0), (37, 0, 0)]]
/-- FModel.leave(I)I -/
def bk126 : List (List Op) := [[(0, 1, 0), (47, 0, 0), (22, 0, 8), (3, 0, 100), (53, 85, 1), (29, 1, 0), (47, 0, 0), (0, 1, 0), (52, 125, 1), (31, 2, 0)],
  [(3, 0, (-1)), (32, 2, 0)],
  [(37, 0, 0)]]
/-- FModel.soonest()I -/
def bk127 : List (List Op) := [[(47, 0, 0), (3, 0, 100), (52, 125, 1), (1, 1, 0), (0, 1, 0), (29, 1, 1), (3, 0, (-1)), (37, 0, 0)],
  [(47, 0, 0), (22, 0, 8), (1, 2, 0), (3, 0, 100), (1, 3, 0), (32, 2, 0)],
  [(0, 2, 0), (0, 3, 0), (30, 5, 3), (0, 2, 0), (0, 3, 0), (6, 0, 0), (3, 0, 2), (13, 0, 0), (1, 4, 0), (47, 0, 0), (0, 4, 0), (52, 125, 1), (0, 1, 0), (30, 3, 1), (0, 4, 0), (1, 3, 0), (31, 4, 0)],
  [(0, 4, 0), (3, 0, 1), (6, 0, 0), (1, 2, 0), (32, 4, 0)],
  [(31, 2, 0)],
  [(0, 2, 0), (37, 0, 0)]]
/-- FModel.isBar(III)Z -/
def bk128 : List (List Op) := [[(0, 2, 0), (47, 0, 0), (22, 27, 8), (0, 1, 0), (24, 0, 0), (6, 0, 0), (1, 4, 0), (47, 0, 0), (22, 24, 8), (0, 1, 0), (24, 0, 0), (1, 5, 0), (47, 0, 0), (0, 5, 0), (0, 2, 0), (0, 3, 0), (54, 118, 1), (29, 1, 0), (47, 0, 0), (22, 37, 8), (3, 0, 101), (0, 5, 0), (8, 0, 0), (0, 2, 0), (6, 0, 0), (46, 0, 0), (29, 1, 0), (0, 4, 0), (0, 3, 0), (30, 2, 5), (32, 1, 0)],
  [(3, 0, 0), (37, 0, 1)],
  [(47, 0, 0), (22, 25, 8), (0, 1, 0), (24, 0, 0), (3, 0, (-1)), (30, 3, 0), (47, 0, 0), (47, 0, 0), (22, 25, 8), (0, 1, 0), (24, 0, 0), (0, 4, 0), (0, 3, 0), (54, 118, 1), (29, 4, 0), (47, 0, 0), (22, 37, 8), (3, 0, 101), (47, 0, 0), (22, 25, 8), (0, 1, 0), (24, 0, 0), (8, 0, 0), (0, 4, 0), (6, 0, 0), (46, 0, 0), (29, 4, 1), (32, 3, 0)],
  [(3, 0, 1), (31, 5, 0)],
  [(3, 0, 0), (32, 5, 0)],
  [(37, 0, 1)]]
/-- FModel.bars(I)I -/
def bk129 : List (List Op) := [[(0, 1, 0), (47, 0, 0), (22, 0, 8), (3, 0, 100), (53, 85, 1), (29, 1, 1), (3, 0, (-1)), (37, 0, 0)],
  [(47, 0, 0), (0, 1, 0), (52, 125, 1), (35, 0, 0), (3, 0, 0), (1, 2, 0), (47, 0, 0), (22, 0, 8), (1, 3, 0), (32, 2, 0)],
  [(0, 3, 0), (0, 1, 0), (30, 7, 4), (3, 0, 0), (1, 4, 0), (32, 3, 0)],
  [(0, 4, 0), (47, 0, 0), (22, 23, 8), (30, 6, 3), (0, 2, 0), (47, 0, 0), (0, 4, 0), (0, 3, 0), (0, 1, 0), (54, 128, 1), (29, 4, 0), (3, 0, 1), (31, 5, 0)],
  [(3, 0, 0), (32, 5, 0)],
  [(6, 0, 0), (1, 2, 0), (5, 4, 1), (31, 3, 0)],
  [(5, 3, 1), (31, 2, 0)],
  [(0, 2, 0), (37, 0, 0)]]
/-- FModel.bar(III)I -/
def bk130 : List (List Op) := [[(0, 1, 0), (47, 0, 0), (22, 0, 8), (3, 0, 100), (53, 85, 1), (29, 1, 0), (0, 3, 0), (3, 0, 0), (3, 0, 1), (53, 85, 1), (29, 1, 0), (0, 2, 0), (29, 2, 3), (32, 1, 0)],
  [(3, 0, (-1)), (37, 0, 0)],
  [(47, 0, 0), (0, 1, 0), (52, 125, 1), (35, 0, 0), (0, 2, 0), (1, 4, 0), (47, 0, 0), (22, 0, 8), (1, 5, 0), (32, 3, 0)],
  [(0, 5, 0), (0, 1, 0), (30, 11, 4), (3, 0, 0), (1, 6, 0), (32, 4, 0)],
  [(0, 6, 0), (47, 0, 0), (22, 23, 8), (30, 10, 3), (47, 0, 0), (0, 6, 0), (0, 5, 0), (0, 1, 0), (54, 128, 1), (29, 5, 1), (31, 9, 0)],
  [(0, 4, 0), (29, 8, 1), (0, 3, 0), (29, 6, 1), (0, 6, 0), (31, 7, 0)],
  [(0, 5, 0), (32, 7, 0)],
  [(37, 0, 0)],
  [(5, 4, (-1)), (32, 9, 0)],
  [(5, 6, 1), (31, 4, 0)],
  [(5, 5, 1), (31, 3, 0)],
  [(3, 0, (-1)), (37, 0, 0)]]
/-- FModel.count(I)I -/
def bk131 : List (List Op) := [[(3, 0, 0), (1, 2, 0), (0, 1, 0), (36, 9, 0)],
  [(47, 0, 0), (22, 0, 8), (37, 0, 0)],
  [(47, 0, 0), (22, 1, 8), (37, 0, 0)],
  [(47, 0, 0), (22, 9, 8), (37, 0, 0)],
  [(47, 0, 0), (22, 23, 8), (37, 0, 0)],
  [(47, 0, 0), (22, 18, 8), (37, 0, 0)],
  [(3, 0, 0), (1, 3, 0), (32, 7, 0)],
  [(0, 3, 0), (47, 0, 0), (22, 9, 8), (30, 8, 3), (0, 2, 0), (47, 0, 0), (0, 3, 0), (52, 112, 1), (6, 0, 0), (1, 2, 0), (5, 3, 1), (31, 7, 0)],
  [(0, 2, 0), (37, 0, 0)],
  [(3, 0, 0), (1, 3, 0), (32, 10, 0)],
  [(0, 3, 0), (47, 0, 0), (22, 9, 8), (30, 11, 3), (0, 2, 0), (47, 0, 0), (22, 29, 8), (0, 3, 0), (24, 0, 0), (6, 0, 0), (1, 2, 0), (5, 3, 1), (31, 10, 0)],
  [(0, 2, 0), (37, 0, 0)],
  [(47, 0, 0), (22, 30, 8), (3, 0, 0), (24, 0, 0), (37, 0, 0)],
  [(47, 0, 0), (22, 31, 8), (3, 0, 0), (27, 0, 0), (17, 0, 0), (37, 0, 0)],
  [(47, 0, 0), (22, 32, 8), (3, 0, 0), (27, 0, 0), (17, 0, 0), (37, 0, 0)],
  [(3, 0, (-1)), (37, 0, 0)]]
/-- java/util/Arrays.fill([II)V -/
def bk132 : List (List Op) := [[(3, 0, 0), (1, 2, 0), (47, 0, 0), (43, 0, 0), (1, 3, 0), (32, 1, 0)],
  [(0, 2, 0), (0, 3, 0), (30, 2, 3), (47, 0, 0), (0, 2, 0), (0, 1, 0), (25, 0, 0), (5, 2, 1), (31, 1, 0)],
  [(38, 0, 0)]]
def bkl : List (List (List Op)) := [bk0, bk1, bk2, bk3, bk4, bk5, bk6, bk7, bk8, bk9, bk10, bk11, bk12, bk13, bk14, bk15, bk16, bk17, bk18, bk19, bk20, bk21, bk22, bk23, bk24, bk25, bk26, bk27, bk28, bk29, bk30, bk31, bk32, bk33, bk34, bk35, bk36, bk37, bk38, bk39, bk40, bk41, bk42, bk43, bk44, bk45, bk46, bk47, bk48, bk49, bk50, bk51, bk52, bk53, bk54, bk55, bk56, bk57, bk58, bk59, bk60, bk61, bk62, bk63, bk64, bk65, bk66, bk67, bk68, bk69, bk70, bk71, bk72, bk73, bk74, bk75, bk76, bk77, bk78, bk79, bk80, bk81, bk82, bk83, bk84, bk85, bk86, bk87, bk88, bk89, bk90, bk91, bk92, bk93, bk94, bk95, bk96, bk97, bk98, bk99, bk100, bk101, bk102, bk103, bk104, bk105, bk106, bk107, bk108, bk109, bk110, bk111, bk112, bk113, bk114, bk115, bk116, bk117, bk118, bk119, bk120, bk121, bk122, bk123, bk124, bk125, bk126, bk127, bk128, bk129, bk130, bk131, bk132]
def blk (y t : Nat) : List Op := nt [] (nt [] bkl y) t
def mxll : List Nat := [4, 2, 2, 3, 5, 6, 4, 2, 7, 3, 4, 5, 1, 6, 5, 3, 9, 6, 1, 4, 8, 4, 6, 7, 6, 6, 7, 4, 9, 5, 5, 2, 2, 2, 4, 3, 3, 3, 4, 3, 6, 3, 13, 1, 5, 3, 4, 5, 7, 4, 4, 6, 5, 6, 7, 4, 3, 2, 4, 4, 2, 5, 6, 3, 3, 4, 3, 2, 3, 1, 6, 2, 1, 2, 4, 2, 3, 2, 2, 3, 3, 5, 1, 1, 2, 3, 2, 2, 2, 3, 4, 5, 6, 3, 4, 3, 2, 3, 3, 4, 4, 3, 5, 3, 4, 7, 15, 4, 3, 3, 3, 4, 4, 3, 3, 3, 5, 7, 4, 6, 3, 7, 3, 3, 4, 7, 2, 5, 6, 5, 7, 4, 4]
def mxl (y : Nat) : Nat := nt 0 mxll y
def ow (y : Nat) : Nat := nt 99 [9, 0, 0, 0, 0, 0, 0, 1, 1, 1, 1, 1, 2, 2, 2, 2, 2, 2, 2, 2, 2, 2, 2, 2, 2, 2, 2, 2, 2, 2, 2, 2, 2, 3, 3, 3, 3, 3, 3, 3, 3, 3, 3, 4, 4, 4, 4, 4, 4, 5, 5, 6, 7, 7, 7, 7, 7, 7, 7, 7, 7, 7, 7, 7, 7, 7, 7, 7, 7, 7, 7, 7, 7, 7, 7, 7, 7, 7, 7, 7, 7, 7, 7, 7, 7, 8, 8, 8, 8, 8, 8, 8, 8, 8, 8, 8, 8, 8, 8, 8, 8, 8, 8, 8, 8, 8, 8, 8, 8, 8, 8, 8, 8, 8, 8, 8, 8, 8, 8, 8, 8, 8, 8, 8, 8, 8, 8, 8, 8, 8, 8, 8, 10] y
def ist (y : Nat) : Bool := nt false [true, false, false, false, false, false, false, false, false, false, false, false, false, false, false, false, false, false, false, false, false, false, false, false, false, false, false, false, false, false, false, false, false, false, false, false, false, false, false, false, false, false, false, false, false, false, false, false, false, false, false, false, false, false, false, false, false, false, false, false, false, false, false, false, false, false, false, false, false, false, false, false, false, false, false, false, true, false, false, false, false, false, false, false, false, true, false, false, false, false, false, false, false, false, false, false, false, false, false, false, false, false, false, false, false, false, false, false, false, false, false, false, false, false, false, false, false, false, false, false, false, false, false, false, false, false, false, false, false, false, false, false, true] y
/-- a method that is not static is called on a cell of its kind -/
def rcvb (z : Nat) (as : List AV) : Bool := ist z || (match as with | .inr (.inr o) :: _ => oc o == ow z | _ => false)
end
section
def cnb (c x y : Int) : Bool := if c = 0 then decide (x = y) else if c = 1 then decide (x ≠ y) else if c = 2 then decide (x < y) else if c = 3 then decide (x ≥ y) else if c = 4 then decide (x > y) else decide (x ≤ y)
noncomputable def stepF (op : Op) (lo : Lo) (st : St) (M : Me) : Option Ou :=
  match op.1 with
  | 0 => match lg lo op.2.1 with
    | some (.inl x) => nx lo (.inl x :: st) M
    | _ => none
  | 47 => match lg lo op.2.1 with
    | some (.inr (.inr x)) => nx lo (.inr (.inr x) :: st) M
    | _ => none
  | 48 => match lg lo op.2.1 with
    | some (.inr (.inl x)) => nx lo (.inr (.inl x) :: st) M
    | _ => none
  | 1 => match st with
    | .inl x :: st' => if lp lo op.2.1 || decide (lo.length ≤ op.2.1) then none else nx (lz lo op.2.1 (.inl x)) st' M
    | _ => none
  | 49 => match st with
    | .inr (.inr x) :: st' => if lp lo op.2.1 || decide (lo.length ≤ op.2.1) then none else nx (lz lo op.2.1 (.inr (.inr x))) st' M
    | _ => none
  | 2 => match st with
    | .inr (.inl x) :: st' => if lp lo op.2.1 || decide (lo.length ≤ op.2.1 + 1) then none else nx (ly (lz lo op.2.1 (vL x)) (op.2.1 + 1)) st' M
    | _ => none
  | 3 => nx lo (vI op.2.2 :: st) M
  | 4 => nx lo (vL op.2.2 :: st) M
  | 5 => match lg lo op.2.1 with
    | some (.inl x) => if lp lo op.2.1 || decide (lo.length ≤ op.2.1) then none else nx (lz lo op.2.1 (vI (w32 (x + op.2.2)))) st M
    | _ => none
  | 6 => match st with
    | .inl y :: .inl x :: st' => nx lo (vI (w32 (x + y)) :: st') M
    | _ => none
  | 7 => match st with
    | .inl y :: .inl x :: st' => nx lo (vI (w32 (x - y)) :: st') M
    | _ => none
  | 8 => match st with
    | .inl y :: .inl x :: st' => nx lo (vI (w32 (x * y)) :: st') M
    | _ => none
  | 9 => match st with
    | .inl y :: .inl x :: st' => nx lo (vI (iand x y) :: st') M
    | _ => none
  | 10 => match st with
    | .inl y :: .inl x :: st' => nx lo (vI (ior x y) :: st') M
    | _ => none
  | 11 => match st with
    | .inl y :: .inl x :: st' => nx lo (vI (ishl x y) :: st') M
    | _ => none
  | 12 => match st with
    | .inl y :: .inl x :: st' => nx lo (vI (ishr x y) :: st') M
    | _ => none
  | 13 => match st with
    | .inl y :: .inl x :: st' => if y = 0 then none else nx lo (vI (w32 (x.tdiv y)) :: st') M
    | _ => none
  | 14 => match st with
    | .inl y :: .inl x :: st' => if y = 0 then none else nx lo (vI (x.tmod y) :: st') M
    | _ => none
  | 15 => match st with
    | .inl x :: st' => nx lo (vI (w32 (-x)) :: st') M
    | _ => none
  | 16 => match st with
    | .inl x :: st' => nx lo (vL x :: st') M
    | _ => none
  | 17 => match st with
    | .inr (.inl x) :: st' => nx lo (vI (w32 x) :: st') M
    | _ => none
  | 18 => match st with
    | .inr (.inl y) :: .inr (.inl x) :: st' => nx lo (vL (w64 (x + y)) :: st') M
    | _ => none
  | 19 => match st with
    | .inr (.inl y) :: .inr (.inl x) :: st' => nx lo (vL (w64 (x * y)) :: st') M
    | _ => none
  | 20 => match st with
    | .inr (.inl y) :: .inr (.inl x) :: st' => if y = 0 then none else nx lo (vL (w64 (x.tdiv y)) :: st') M
    | _ => none
  | 21 => match st with
    | .inr (.inl y) :: .inr (.inl x) :: st' => nx lo (vI (if x < y then -1 else if x = y then 0 else 1) :: st') M
    | _ => none
  | 22 => match st with
    | .inr (.inr o) :: st' => if (oc o : Int) = op.2.2 then (match fk o op.2.1 with
      | 0 => nx lo (vI (M o op.2.1) :: st') M
      | 1 => nx lo (vI (M o op.2.1) :: st') M
      | r + 2 => nx lo (vR r :: st') M) else none
    | _ => none
  | 23 => match st with
    | .inl v :: .inr (.inr o) :: st' => if (oc o : Int) = op.2.2 then (match fk o op.2.1 with
      | 0 => nx lo st' (me_put M o op.2.1 v)
      | 1 => if v = 0 ∨ v = 1 then nx lo st' (me_put M o op.2.1 v) else none
      | _ + 2 => none) else none
    | _ => none
  | 24 => match st with
    | .inl i :: .inr (.inr a) :: st' => if kd a = 1 ∧ 0 ≤ i ∧ i < ln a then nx lo (vI (M a i) :: st') M else none
    | _ => none
  | 25 => match st with
    | .inl v :: .inl i :: .inr (.inr a) :: st' => if kd a = 1 ∧ 0 ≤ i ∧ i < ln a then nx lo st' (me_put M a i v) else none
    | _ => none
  | 26 => match st with
    | .inl v :: .inl i :: .inr (.inr a) :: st' => if kd a = 2 ∧ (v = 0 ∨ v = 1) ∧ 0 ≤ i ∧ i < ln a then nx lo st' (me_put M a i v) else none
    | _ => none
  | 27 => match st with
    | .inl i :: .inr (.inr a) :: st' => if kd a = 3 ∧ 0 ≤ i ∧ i < ln a then nx lo (vL (M a i) :: st') M else none
    | _ => none
  | 28 => match st with
    | .inr (.inl v) :: .inl i :: .inr (.inr a) :: st' => if kd a = 3 ∧ 0 ≤ i ∧ i < ln a then nx lo st' (me_put M a i v) else none
    | _ => none
  | 29 => match st with
    | .inl x :: st' => if cnb op.2.2 x 0 then jp op.2.1 lo st' M else nx lo st' M
    | _ => none
  | 30 => match st with
    | .inl y :: .inl x :: st' => if cnb op.2.2 x y then jp op.2.1 lo st' M else nx lo st' M
    | _ => none
  | 31 => jp op.2.1 lo st M
  | 32 => jp op.2.1 lo st M
  | 33 => match st with
    | .inl x :: st' => nx lo (.inl x :: .inl x :: st') M
    | .inr (.inr x) :: st' => nx lo (.inr (.inr x) :: .inr (.inr x) :: st') M
    | _ => none
  | 34 => match st with
    | .inl x :: .inr (.inr a) :: st' => nx lo (.inl x :: .inr (.inr a) :: .inl x :: .inr (.inr a) :: st') M
    | _ => none
  | 35 => match st with
    | .inl _ :: st' => nx lo st' M
    | _ => none
  | 36 => match st with
    | .inl x :: st' => jp (swj (sw op.2.1) x) lo st' M
    | _ => none
  | 37 => match st with
    | [.inl v] => if op.2.2 = 1 ∧ ¬ (v = 0 ∨ v = 1) then none else rt M v
    | _ => none
  | 38 => match st with
    | [] => rt M 0
    | _ => none
  | 39 => match st with
    | .inl y :: .inl x :: st' => if st'.length ≤ 4 then nx lo (vI (if x < y then y else x) :: st') M else none
    | _ => none
  | 40 => match st with
    | .inl y :: .inl x :: st' => if st'.length ≤ 4 then nx lo (vI (if y < x then y else x) :: st') M else none
    | _ => none
  | 41 => match st with
    | .inr (.inl y) :: .inr (.inl x) :: st' => if st'.length ≤ 4 then nx lo (vL (if y < x then y else x) :: st') M else none
    | _ => none
  | 42 => match st with
    | [.inl n, .inl dp, .inr (.inr dk), .inl sp, .inr (.inr sk)] => if kd dk = 1 ∧ kd sk = 1 ∧ 0 ≤ n ∧ 0 ≤ dp ∧ 0 ≤ sp ∧ dp + n ≤ ln dk ∧ sp + n ≤ ln sk then nx lo [] (me_cpy M sk sp dk dp n) else none
    | _ => none
  | 43 => match st with
    | .inr (.inr a) :: st' => if kd a = 1 then nx lo (vI (ln a) :: st') M else none
    | _ => none
  | 44 => match st with
    | .inl i :: .inr (.inr a) :: st' => if a = 99 ∧ 0 ≤ i ∧ i < M 98 0 then nx lo (vI (M 99 i) :: st') M else none
    | _ => none
  | 45 => match st with
    | .inr (.inr a) :: st' => if a = 99 then nx lo (vI (M 98 0) :: st') M else none
    | _ => none
  | 46 => match st with
    | .inl i :: .inr (.inr a) :: st' => if kd a = 2 ∧ 0 ≤ i ∧ i < ln a then nx lo (vI (M a i) :: st') M else none
    | _ => none
  | 51 => match st with
    | a0 :: st' => if st'.length ≤ 4 then cl op.2.1 lo st' M [a0] op.2.2 else none
    | _ => none
  | 52 => match st with
    | a1 :: a0 :: st' => if st'.length ≤ 4 then cl op.2.1 lo st' M [a0, a1] op.2.2 else none
    | _ => none
  | 53 => match st with
    | a2 :: a1 :: a0 :: st' => if st'.length ≤ 4 then cl op.2.1 lo st' M [a0, a1, a2] op.2.2 else none
    | _ => none
  | 54 => match st with
    | a3 :: a2 :: a1 :: a0 :: st' => if st'.length ≤ 4 then cl op.2.1 lo st' M [a0, a1, a2, a3] op.2.2 else none
    | _ => none
  | 55 => match st with
    | a4 :: a3 :: a2 :: a1 :: a0 :: st' => if st'.length ≤ 4 then cl op.2.1 lo st' M [a0, a1, a2, a3, a4] op.2.2 else none
    | _ => none
  | 56 => match st with
    | a5 :: a4 :: a3 :: a2 :: a1 :: a0 :: st' => if st'.length ≤ 4 then cl op.2.1 lo st' M [a0, a1, a2, a3, a4, a5] op.2.2 else none
    | _ => none
  | _ => none
def en (z : Nat) (as : List AV) : Lo := as.map some ++ List.replicate (mxl z - as.length) none
def res (f v : Int) (st : St) : St := if f = 1 then vI v :: st else st
/-- no long among them -/
def nlg : List AV → Bool
  | [] => true
  | .inl _ :: l => nlg l
  | .inr (.inr _) :: l => nlg l
  | .inr (.inl _) :: _ => false
theorem nlg_n : nlg [] = true := rfl
theorem nlg_I (x : Int) (l : List AV) : nlg (.inl x :: l) = nlg l := rfl
theorem nlg_R (x : Nat) (l : List AV) : nlg (.inr (.inr x) :: l) = nlg l := rfl
/-- what holds behind a run of at most n steps with calls at most d deep -/
def wpf : Nat → Nat → List Op → Nat → Lo → St → Me → (Int → Me → Prop) → Prop
  | 0, _, _, _, _, _, _, _ => False
  | _ + 1, _, [], _, _, _, _, _ => False
  | n + 1, d, op :: os, y, lo, st, M, Q => match stepF op lo st M with
    | some (0, _, lo', st', M', _, _) => wpf n d os y lo' st' M' Q
    | some (1, t, lo', st', M', _, _) => wpf n d (blk y t) y lo' st' M' Q
    | some (2, z, lo', st', M', as, f) => match d with
      | 0 => False
      | d' + 1 => (nlg as && rcvb z as) = true ∧ wpf n d' (blk z 0) z (en z as) [] M' (fun v M2 => wpf n (d' + 1) os y lo' (res f v st') M2 Q)
    | some (3, _, _, _, M', _, v) => Q v M'
    | _ => False
theorem wpf_mono : ∀ (n n' d : Nat) (ops : List Op) (y : Nat) (lo : Lo) (st : St) (M : Me) (Q Q' : Int → Me → Prop), n ≤ n' → (∀ v M2, Q v M2 → Q' v M2) → wpf n d ops y lo st M Q → wpf n' d ops y lo st M Q' := by
  intro n
  induction n with
  | zero => intro n' d ops y lo st M Q Q' _ _ h; exact h.elim
  | succ n ih =>
    intro n' d ops y lo st M Q Q' hn hQ h
    cases n' with
    | zero => omega
    | succ n' =>
      have hn' : n ≤ n' := by omega
      cases ops with
      | nil => exact h.elim
      | cons op os =>
        simp only [wpf] at h ⊢
        generalize stepF op lo st M = r at h ⊢
        match r with
        | none => exact h
        | some (0, _, lo', st', M', _, _) => exact ih _ _ _ _ _ _ _ _ _ hn' hQ h
        | some (1, t, lo', st', M', _, _) => exact ih _ _ _ _ _ _ _ _ _ hn' hQ h
        | some (2, z, lo', st', M', as, f) =>
          cases d with
          | zero => exact h.elim
          | succ d' => exact ⟨h.1, ih _ _ _ _ _ _ _ _ _ hn' (fun v M2 h2 => ih _ _ _ _ _ _ _ _ _ hn' hQ h2) h.2⟩
        | some (3, _, _, _, M', _, v) => exact hQ _ _ h
        | some (k + 4, _, _, _, _, _, _) => exact h
theorem wpf_sup : ∀ (n d : Nat) (ops : List Op) (y : Nat) (lo : Lo) (st : St) (M : Me) (P : Nat → Int → Me → Prop), (∀ k k' v M2, k ≤ k' → P k v M2 → P k' v M2) → wpf n d ops y lo st M (fun v M2 => ∃ k, P k v M2) → ∃ k, wpf n d ops y lo st M (P k) := by
  intro n
  induction n with
  | zero => intro d ops y lo st M P _ h; exact h.elim
  | succ n ih =>
    intro d ops y lo st M P hP h
    cases ops with
    | nil => exact h.elim
    | cons op os =>
      simp only [wpf] at h ⊢
      generalize stepF op lo st M = r at h ⊢
      match r with
      | none => exact h.elim
      | some (0, _, lo', st', M', _, _) => exact ih _ _ _ _ _ _ _ hP h
      | some (1, t, lo', st', M', _, _) => exact ih _ _ _ _ _ _ _ hP h
      | some (2, z, lo', st', M', as, f) =>
        cases d with
        | zero => exact h.elim
        | succ d' =>
          have h1 : wpf n d' (blk z 0) z (en z as) [] M' (fun v M2 => ∃ k, wpf n (d' + 1) os y lo' (res f v st') M2 (P k)) :=
            wpf_mono _ _ _ _ _ _ _ _ _ _ (Nat.le_refl n) (fun v M2 h2 => ih _ _ _ _ _ _ _ hP h2) h.2
          obtain ⟨k, hk⟩ := ih _ _ _ _ _ _ (fun k v M2 => wpf n (d' + 1) os y lo' (res f v st') M2 (P k)) (fun k k' v M2 hk h2 => wpf_mono _ _ _ _ _ _ _ _ _ _ (Nat.le_refl n) (fun v M2 h3 => hP k k' v M2 hk h3) h2) h1
          exact ⟨k, h.1, hk⟩
      | some (3, _, _, _, M', _, v) => exact h
      | some (k + 4, _, _, _, _, _, _) => exact h.elim
/-- the run from here comes to an end with Q -/
def Rn (d : Nat) (ops : List Op) (y : Nat) (lo : Lo) (st : St) (M : Me) (Q : Int → Me → Prop) : Prop := ∃ n, wpf n d ops y lo st M Q
/-- a call of method z comes to an end with Q -/
def Cl (d z : Nat) (as : List AV) (M : Me) (Q : Int → Me → Prop) : Prop := Rn d (blk z 0) z (en z as) [] M Q
theorem Rn.mono {d : Nat} {ops : List Op} {y : Nat} {lo : Lo} {st : St} {M : Me} {Q Q' : Int → Me → Prop} (h : Rn d ops y lo st M Q) (hQ : ∀ v M2, Q v M2 → Q' v M2) : Rn d ops y lo st M Q' := by
  obtain ⟨n, h⟩ := h
  exact ⟨n, wpf_mono _ _ _ _ _ _ _ _ _ _ (Nat.le_refl n) hQ h⟩
theorem Cl.mono {d z : Nat} {as : List AV} {M : Me} {Q Q' : Int → Me → Prop} (h : Cl d z as M Q) (hQ : ∀ v M2, Q v M2 → Q' v M2) : Cl d z as M Q' := Rn.mono h hQ
theorem Rn_nx {d : Nat} {op : Op} {os : List Op} {y : Nat} {lo lo' : Lo} {st st' : St} {M M' : Me} {Q : Int → Me → Prop} {a : Nat} {b : List AV} {c : Int} (h : stepF op lo st M = some (0, a, lo', st', M', b, c)) : Rn d (op :: os) y lo st M Q = Rn d os y lo' st' M' Q := by
  apply propext
  constructor
  · rintro ⟨n, hn⟩
    cases n with
    | zero => exact hn.elim
    | succ n => simp only [wpf, h] at hn; exact ⟨n, hn⟩
  · rintro ⟨n, hn⟩
    exact ⟨n + 1, by simp only [wpf, h]; exact hn⟩
theorem Rn_jp {d : Nat} {op : Op} {os : List Op} {y t : Nat} {lo lo' : Lo} {st st' : St} {M M' : Me} {Q : Int → Me → Prop} {b : List AV} {c : Int} (h : stepF op lo st M = some (1, t, lo', st', M', b, c)) : Rn d (op :: os) y lo st M Q = Rn d (blk y t) y lo' st' M' Q := by
  apply propext
  constructor
  · rintro ⟨n, hn⟩
    cases n with
    | zero => exact hn.elim
    | succ n => simp only [wpf, h] at hn; exact ⟨n, hn⟩
  · rintro ⟨n, hn⟩
    exact ⟨n + 1, by simp only [wpf, h]; exact hn⟩
theorem Rn_cl {d : Nat} {op : Op} {os : List Op} {y z : Nat} {lo lo' : Lo} {st st' : St} {M M' : Me} {Q : Int → Me → Prop} {as : List AV} {f : Int} (h : stepF op lo st M = some (2, z, lo', st', M', as, f)) : Rn (d + 1) (op :: os) y lo st M Q = ((nlg as && rcvb z as) = true ∧ Cl d z as M' (fun v M2 => Rn (d + 1) os y lo' (res f v st') M2 Q)) := by
  apply propext
  constructor
  · rintro ⟨n, hn⟩
    cases n with
    | zero => exact hn.elim
    | succ n => simp only [wpf, h] at hn; exact ⟨hn.1, n, wpf_mono _ _ _ _ _ _ _ _ _ _ (Nat.le_refl n) (fun v M2 h2 => ⟨n, h2⟩) hn.2⟩
  · rintro ⟨hr, n, hn⟩
    obtain ⟨k, hk⟩ := wpf_sup _ _ _ _ _ _ _ (fun k v M2 => wpf k (d + 1) os y lo' (res f v st') M2 Q) (fun k k' v M2 hk h2 => wpf_mono _ _ _ _ _ _ _ _ _ _ hk (fun _ _ h3 => h3) h2) hn
    refine ⟨max n k + 1, ?_⟩
    simp only [wpf, h]
    exact ⟨hr, wpf_mono _ _ _ _ _ _ _ _ _ _ (Nat.le_max_left n k) (fun v M2 h2 => wpf_mono _ _ _ _ _ _ _ _ _ _ (Nat.le_max_right n k) (fun _ _ h3 => h3) h2) hk⟩
theorem Rn_rt {d : Nat} {op : Op} {os : List Op} {y : Nat} {lo : Lo} {st : St} {M M' : Me} {Q : Int → Me → Prop} {v : Int} {a : Nat} {b : Lo} {c : St} {e : List AV} (h : stepF op lo st M = some (3, a, b, c, M', e, v)) : Rn d (op :: os) y lo st M Q = Q v M' := by
  apply propext
  constructor
  · rintro ⟨n, hn⟩
    cases n with
    | zero => exact hn.elim
    | succ n => simp only [wpf, h] at hn; exact hn
  · intro hn
    exact ⟨1, by simp only [wpf, h]; exact hn⟩
theorem Rn_no {d : Nat} {op : Op} {os : List Op} {y : Nat} {lo : Lo} {st : St} {M : Me} {Q : Int → Me → Prop} (h : stepF op lo st M = none) : Rn d (op :: os) y lo st M Q = False := by
  apply propext
  constructor
  · rintro ⟨n, hn⟩
    cases n with
    | zero => exact hn.elim
    | succ n => simp only [wpf, h] at hn
  · exact fun h => h.elim
end
section
def cnP (c x y : Int) : Prop := cnb c x y = true
theorem cnP_0 (x y : Int) : cnP 0 x y = (x = y) := by simp [cnP, cnb]
theorem cnP_1 (x y : Int) : cnP 1 x y = (x ≠ y) := by simp [cnP, cnb]
theorem cnP_2 (x y : Int) : cnP 2 x y = (x < y) := by simp [cnP, cnb]
theorem cnP_3 (x y : Int) : cnP 3 x y = (y ≤ x) := by simp [cnP, cnb]
theorem cnP_4 (x y : Int) : cnP 4 x y = (y < x) := by simp [cnP, cnb]
theorem cnP_5 (x y : Int) : cnP 5 x y = (x ≤ y) := by simp [cnP, cnb]
section RU
variable {d : Nat} {os : List Op} {y i t z : Nat} {j v : Int} {lo : Lo} {st : St} {M : Me} {Q : Int → Me → Prop}
def lgI : Option AV → (Int → Prop) → Prop
  | some (.inl v), k => k v
  | _, _ => False
theorem lgI_some (v : Int) (k : Int → Prop) : lgI (some (.inl v)) k = k v := rfl
def lgL : Option AV → (Int → Prop) → Prop
  | some (.inr (.inl v)), k => k v
  | _, _ => False
theorem lgL_some (v : Int) (k : Int → Prop) : lgL (some (.inr (.inl v))) k = k v := rfl
def lgR : Option AV → (Nat → Prop) → Prop
  | some (.inr (.inr v)), k => k v
  | _, _ => False
theorem lgR_some (v : Nat) (k : Nat → Prop) : lgR (some (.inr (.inr v))) k = k v := rfl
theorem s_0 : Rn d ((0, i, j) :: os) y lo st M Q = lgI (lg lo i) (fun v => Rn d os y lo (.inl v :: st) M Q) := by
  match h : lg lo i with
  | none => exact Rn_no (by simp only [stepF, h])
  | some (.inl v) => exact Rn_nx (a := 0) (b := []) (c := 0) (by simp only [stepF, h])
  | some (.inr v) => exact Rn_no (by simp only [stepF, h])
theorem s_47 : Rn d ((47, i, j) :: os) y lo st M Q = lgR (lg lo i) (fun v => Rn d os y lo (.inr (.inr v) :: st) M Q) := by
  match h : lg lo i with
  | none => exact Rn_no (by simp only [stepF, h])
  | some (.inr (.inr v)) => exact Rn_nx (a := 0) (b := []) (c := 0) (by simp only [stepF, h])
  | some (.inl v) => exact Rn_no (by simp only [stepF, h])
  | some (.inr (.inl v)) => exact Rn_no (by simp only [stepF, h])
theorem s_48 : Rn d ((48, i, j) :: os) y lo st M Q = lgL (lg lo i) (fun v => Rn d os y lo (.inr (.inl v) :: st) M Q) := by
  match h : lg lo i with
  | none => exact Rn_no (by simp only [stepF, h])
  | some (.inr (.inl v)) => exact Rn_nx (a := 0) (b := []) (c := 0) (by simp only [stepF, h])
  | some (.inl v) => exact Rn_no (by simp only [stepF, h])
  | some (.inr (.inr v)) => exact Rn_no (by simp only [stepF, h])
theorem s_1I {x : Int} : Rn d ((1, i, j) :: os) y lo (.inl x :: st) M Q = (lp lo i = false ∧ i < lo.length ∧ Rn d os y (lz lo i (.inl x)) st M Q) := by
  by_cases h : lp lo i = false ∧ i < lo.length
  · rw [Rn_nx (lo' := lz lo i (.inl x)) (st' := st) (M' := M) (a := 0) (b := []) (c := 0) (by simp [stepF, h.1, h.2])]
    simp [h.1, h.2]
  · rw [Rn_no (by
      have : (lp lo i || decide (lo.length ≤ i)) = true := by
        cases h1 : lp lo i <;> simp_all
      simp [stepF] at this ⊢
      exact fun q => by simpa [q] using this)]
    simp only [eq_iff_iff, false_iff]
    exact fun q => h ⟨q.1, q.2.1⟩
theorem s_49 {x : Nat} : Rn d ((49, i, j) :: os) y lo (.inr (.inr x) :: st) M Q = (lp lo i = false ∧ i < lo.length ∧ Rn d os y (lz lo i (.inr (.inr x))) st M Q) := by
  by_cases h : lp lo i = false ∧ i < lo.length
  · rw [Rn_nx (lo' := lz lo i (.inr (.inr x))) (st' := st) (M' := M) (a := 0) (b := []) (c := 0) (by simp [stepF, h.1, h.2])]
    simp [h.1, h.2]
  · rw [Rn_no (by
      have : (lp lo i || decide (lo.length ≤ i)) = true := by
        cases h1 : lp lo i <;> simp_all
      simp [stepF] at this ⊢
      exact fun q => by simpa [q] using this)]
    simp only [eq_iff_iff, false_iff]
    exact fun q => h ⟨q.1, q.2.1⟩
theorem s_2 {x : Int} : Rn d ((2, i, j) :: os) y lo (.inr (.inl x) :: st) M Q = (lp lo i = false ∧ i + 1 < lo.length ∧ Rn d os y (ly (lz lo i (.inr (.inl x))) (i + 1)) st M Q) := by
  by_cases h : lp lo i = false ∧ i + 1 < lo.length
  · rw [Rn_nx (lo' := ly (lz lo i (.inr (.inl x))) (i + 1)) (st' := st) (M' := M) (a := 0) (b := []) (c := 0) (by simp [stepF, h.1, h.2])]
    simp [h.1, h.2]
  · rw [Rn_no (by
      have : (lp lo i || decide (lo.length ≤ i + 1)) = true := by
        cases h1 : lp lo i <;> simp_all
      simp [stepF] at this ⊢
      exact fun q => by simpa [q] using this)]
    simp only [eq_iff_iff, false_iff]
    exact fun q => h ⟨q.1, q.2.1⟩
theorem s_3 : Rn d ((3, i, v) :: os) y lo st M Q = Rn d os y lo (.inl v :: st) M Q := Rn_nx rfl
theorem s_4 : Rn d ((4, i, v) :: os) y lo st M Q = Rn d os y lo (.inr (.inl v) :: st) M Q := Rn_nx rfl
theorem s_5 {x : Int} (h : lg lo i = some (.inl x)) : Rn d ((5, i, v) :: os) y lo st M Q = (lp lo i = false ∧ i < lo.length ∧ Rn d os y (lz lo i (.inl (w32 (x + v)))) st M Q) := by
  by_cases h2 : lp lo i = false ∧ i < lo.length
  · rw [Rn_nx (lo' := lz lo i (.inl (w32 (x + v)))) (st' := st) (M' := M) (a := 0) (b := []) (c := 0) (by simp [stepF, h, h2.1, h2.2])]
    simp [h2.1, h2.2]
  · rw [Rn_no (by
      have : (lp lo i || decide (lo.length ≤ i)) = true := by
        cases h1 : lp lo i <;> simp_all
      simp [stepF, h] at this ⊢
      exact fun q => by simpa [q] using this)]
    simp only [eq_iff_iff, false_iff]
    exact fun q => h2 ⟨q.1, q.2.1⟩
theorem s_5K : Rn d ((5, i, v) :: os) y lo st M Q = lgI (lg lo i) (fun x => lp lo i = false ∧ i < lo.length ∧ Rn d os y (lz lo i (.inl (w32 (x + v)))) st M Q) := by
  match h : lg lo i with
  | some (.inl x) => rw [lgI_some]; exact s_5 h
  | none => rw [Rn_no (by simp only [stepF, h])]; rfl
  | some (.inr x) => rw [Rn_no (by simp only [stepF, h])]; rfl
theorem s_6 {x y' : Int} : Rn d ((6, i, v) :: os) y lo (.inl y' :: .inl x :: st) M Q = Rn d os y lo (.inl (w32 (x + y')) :: st) M Q := Rn_nx rfl
theorem s_7 {x y' : Int} : Rn d ((7, i, v) :: os) y lo (.inl y' :: .inl x :: st) M Q = Rn d os y lo (.inl (w32 (x - y')) :: st) M Q := Rn_nx rfl
theorem s_8 {x y' : Int} : Rn d ((8, i, v) :: os) y lo (.inl y' :: .inl x :: st) M Q = Rn d os y lo (.inl (w32 (x * y')) :: st) M Q := Rn_nx rfl
theorem s_9 {x y' : Int} : Rn d ((9, i, v) :: os) y lo (.inl y' :: .inl x :: st) M Q = Rn d os y lo (.inl (iand x y') :: st) M Q := Rn_nx rfl
theorem s_10 {x y' : Int} : Rn d ((10, i, v) :: os) y lo (.inl y' :: .inl x :: st) M Q = Rn d os y lo (.inl (ior x y') :: st) M Q := Rn_nx rfl
theorem s_11 {x y' : Int} : Rn d ((11, i, v) :: os) y lo (.inl y' :: .inl x :: st) M Q = Rn d os y lo (.inl (ishl x y') :: st) M Q := Rn_nx rfl
theorem s_12 {x y' : Int} : Rn d ((12, i, v) :: os) y lo (.inl y' :: .inl x :: st) M Q = Rn d os y lo (.inl (ishr x y') :: st) M Q := Rn_nx rfl
theorem s_13 {x y' : Int} : Rn d ((13, i, v) :: os) y lo (.inl y' :: .inl x :: st) M Q = (y' ≠ 0 ∧ Rn d os y lo (.inl (w32 (x.tdiv y')) :: st) M Q) := by
  by_cases h : y' = 0
  · rw [Rn_no (by simp [stepF, h])]; simp [h]
  · rw [Rn_nx (lo' := lo) (st' := .inl (w32 (x.tdiv y')) :: st) (M' := M) (a := 0) (b := []) (c := 0) (by simp [stepF, h])]; simp [h]
theorem s_14 {x y' : Int} : Rn d ((14, i, v) :: os) y lo (.inl y' :: .inl x :: st) M Q = (y' ≠ 0 ∧ Rn d os y lo (.inl (x.tmod y') :: st) M Q) := by
  by_cases h : y' = 0
  · rw [Rn_no (by simp [stepF, h])]; simp [h]
  · rw [Rn_nx (lo' := lo) (st' := .inl (x.tmod y') :: st) (M' := M) (a := 0) (b := []) (c := 0) (by simp [stepF, h])]; simp [h]
theorem s_15 {x : Int} : Rn d ((15, i, v) :: os) y lo (.inl x :: st) M Q = Rn d os y lo (.inl (w32 (-x)) :: st) M Q := Rn_nx rfl
theorem s_16 {x : Int} : Rn d ((16, i, v) :: os) y lo (.inl x :: st) M Q = Rn d os y lo (.inr (.inl x) :: st) M Q := Rn_nx rfl
theorem s_17 {x : Int} : Rn d ((17, i, v) :: os) y lo (.inr (.inl x) :: st) M Q = Rn d os y lo (.inl (w32 x) :: st) M Q := Rn_nx rfl
theorem s_18 {x y' : Int} : Rn d ((18, i, v) :: os) y lo (.inr (.inl y') :: .inr (.inl x) :: st) M Q = Rn d os y lo (.inr (.inl (w64 (x + y'))) :: st) M Q := Rn_nx rfl
theorem s_19 {x y' : Int} : Rn d ((19, i, v) :: os) y lo (.inr (.inl y') :: .inr (.inl x) :: st) M Q = Rn d os y lo (.inr (.inl (w64 (x * y'))) :: st) M Q := Rn_nx rfl
theorem s_20 {x y' : Int} : Rn d ((20, i, v) :: os) y lo (.inr (.inl y') :: .inr (.inl x) :: st) M Q = (y' ≠ 0 ∧ Rn d os y lo (.inr (.inl (w64 (x.tdiv y'))) :: st) M Q) := by
  by_cases h : y' = 0
  · rw [Rn_no (by simp [stepF, h])]; simp [h]
  · rw [Rn_nx (lo' := lo) (st' := .inr (.inl (w64 (x.tdiv y'))) :: st) (M' := M) (a := 0) (b := []) (c := 0) (by simp [stepF, h])]; simp [h]
theorem s_21 {x y' : Int} : Rn d ((21, i, v) :: os) y lo (.inr (.inl y') :: .inr (.inl x) :: st) M Q = Rn d os y lo (.inl (if x < y' then -1 else if x = y' then 0 else 1) :: st) M Q := Rn_nx rfl
theorem s_24 {x : Int} {a : Nat} : Rn d ((24, i, v) :: os) y lo (.inl x :: .inr (.inr a) :: st) M Q = ((kd a = 1 ∧ 0 ≤ x ∧ x < ln a) ∧ Rn d os y lo (.inl (M a x) :: st) M Q) := by
  by_cases h : kd a = 1 ∧ 0 ≤ x ∧ x < ln a
  · rw [Rn_nx (lo' := lo) (st' := .inl (M a x) :: st) (M' := M) (a := 0) (b := []) (c := 0) (by simp [stepF, h])]; simp [h]
  · rw [Rn_no (by simp only [stepF, if_neg h])]; simp [h]
theorem s_25 {x w : Int} {a : Nat} : Rn d ((25, i, v) :: os) y lo (.inl w :: .inl x :: .inr (.inr a) :: st) M Q = ((kd a = 1 ∧ 0 ≤ x ∧ x < ln a) ∧ Rn d os y lo st (me_put M a x w) Q) := by
  by_cases h : kd a = 1 ∧ 0 ≤ x ∧ x < ln a
  · rw [Rn_nx (lo' := lo) (st' := st) (M' := me_put M a x w) (a := 0) (b := []) (c := 0) (by simp [stepF, h])]; simp [h]
  · rw [Rn_no (by simp only [stepF, if_neg h])]; simp [h]
theorem s_26 {x w : Int} {a : Nat} : Rn d ((26, i, v) :: os) y lo (.inl w :: .inl x :: .inr (.inr a) :: st) M Q = ((kd a = 2 ∧ (w = 0 ∨ w = 1) ∧ 0 ≤ x ∧ x < ln a) ∧ Rn d os y lo st (me_put M a x w) Q) := by
  by_cases h : kd a = 2 ∧ (w = 0 ∨ w = 1) ∧ 0 ≤ x ∧ x < ln a
  · rw [Rn_nx (lo' := lo) (st' := st) (M' := me_put M a x w) (a := 0) (b := []) (c := 0) (by simp only [stepF, if_pos h])]; simp [h]
  · rw [Rn_no (by simp only [stepF, if_neg h])]; simp [h]
theorem s_27 {x : Int} {a : Nat} : Rn d ((27, i, v) :: os) y lo (.inl x :: .inr (.inr a) :: st) M Q = ((kd a = 3 ∧ 0 ≤ x ∧ x < ln a) ∧ Rn d os y lo (.inr (.inl (M a x)) :: st) M Q) := by
  by_cases h : kd a = 3 ∧ 0 ≤ x ∧ x < ln a
  · rw [Rn_nx (lo' := lo) (st' := .inr (.inl (M a x)) :: st) (M' := M) (a := 0) (b := []) (c := 0) (by simp [stepF, h])]; simp [h]
  · rw [Rn_no (by simp only [stepF, if_neg h])]; simp [h]
theorem s_28 {x w : Int} {a : Nat} : Rn d ((28, i, v) :: os) y lo (.inr (.inl w) :: .inl x :: .inr (.inr a) :: st) M Q = ((kd a = 3 ∧ 0 ≤ x ∧ x < ln a) ∧ Rn d os y lo st (me_put M a x w) Q) := by
  by_cases h : kd a = 3 ∧ 0 ≤ x ∧ x < ln a
  · rw [Rn_nx (lo' := lo) (st' := st) (M' := me_put M a x w) (a := 0) (b := []) (c := 0) (by simp [stepF, h])]; simp [h]
  · rw [Rn_no (by simp only [stepF, if_neg h])]; simp [h]
theorem s_29 {x : Int} : Rn d ((29, t, v) :: os) y lo (.inl x :: st) M Q = ((cnP v x 0 → Rn d (blk y t) y lo st M Q) ∧ (¬ cnP v x 0 → Rn d os y lo st M Q)) := by
  by_cases h : cnb v x 0 = true
  · rw [Rn_jp (t := t) (lo' := lo) (st' := st) (M' := M) (b := []) (c := 0) (by simp only [stepF, if_pos h])]; simp [cnP, h]
  · rw [Rn_nx (lo' := lo) (st' := st) (M' := M) (a := 0) (b := []) (c := 0) (by simp only [stepF, if_neg h])]; simp [cnP, h]
theorem s_30 {x y' : Int} : Rn d ((30, t, v) :: os) y lo (.inl y' :: .inl x :: st) M Q = ((cnP v x y' → Rn d (blk y t) y lo st M Q) ∧ (¬ cnP v x y' → Rn d os y lo st M Q)) := by
  by_cases h : cnb v x y' = true
  · rw [Rn_jp (t := t) (lo' := lo) (st' := st) (M' := M) (b := []) (c := 0) (by simp only [stepF, if_pos h])]; simp [cnP, h]
  · rw [Rn_nx (lo' := lo) (st' := st) (M' := M) (a := 0) (b := []) (c := 0) (by simp only [stepF, if_neg h])]; simp [cnP, h]
theorem s_31 : Rn d ((31, t, v) :: os) y lo st M Q = Rn d (blk y t) y lo st M Q := Rn_jp rfl
theorem s_32 : Rn d ((32, t, v) :: os) y lo st M Q = Rn d (blk y t) y lo st M Q := Rn_jp rfl
theorem s_33I {x : Int} : Rn d ((33, i, v) :: os) y lo (.inl x :: st) M Q = Rn d os y lo (.inl x :: .inl x :: st) M Q := Rn_nx rfl
theorem s_33R {x : Nat} : Rn d ((33, i, v) :: os) y lo (.inr (.inr x) :: st) M Q = Rn d os y lo (.inr (.inr x) :: .inr (.inr x) :: st) M Q := Rn_nx rfl
theorem s_34 {x : Int} {a : Nat} : Rn d ((34, i, v) :: os) y lo (.inl x :: .inr (.inr a) :: st) M Q = Rn d os y lo (.inl x :: .inr (.inr a) :: .inl x :: .inr (.inr a) :: st) M Q := Rn_nx rfl
theorem s_35 {x : Int} : Rn d ((35, i, v) :: os) y lo (.inl x :: st) M Q = Rn d os y lo st M Q := Rn_nx rfl
theorem s_36 {x : Int} : Rn d ((36, i, v) :: os) y lo (.inl x :: st) M Q = Rn d (blk y (swj (sw i) x)) y lo st M Q := Rn_jp rfl
theorem s_37i {x : Int} : Rn d ((37, i, 0) :: os) y lo [.inl x] M Q = Q x M := Rn_rt rfl
theorem s_37z {x : Int} : Rn d ((37, i, 1) :: os) y lo [.inl x] M Q = ((x = 0 ∨ x = 1) ∧ Q x M) := by
  by_cases h : x = 0 ∨ x = 1
  · rw [Rn_rt (M' := M) (v := x) (a := 0) (b := []) (c := []) (e := []) (by simp [stepF, h])]; simp [h]
  · rw [Rn_no (by simp [stepF, h])]; simp [h]
theorem s_38 : Rn d ((38, i, v) :: os) y lo [] M Q = Q 0 M := Rn_rt rfl
theorem s_39 {x y' : Int} : Rn d ((39, i, v) :: os) y lo (.inl y' :: .inl x :: st) M Q = (st.length ≤ 4 ∧ Rn d os y lo (.inl (if x < y' then y' else x) :: st) M Q) := by
  by_cases h : st.length ≤ 4
  · rw [Rn_nx (lo' := lo) (st' := .inl (if x < y' then y' else x) :: st) (M' := M) (a := 0) (b := []) (c := 0) (by simp only [stepF, if_pos h])]; simp [h]
  · rw [Rn_no (by simp only [stepF, if_neg h])]; simp [h]
theorem s_40 {x y' : Int} : Rn d ((40, i, v) :: os) y lo (.inl y' :: .inl x :: st) M Q = (st.length ≤ 4 ∧ Rn d os y lo (.inl (if y' < x then y' else x) :: st) M Q) := by
  by_cases h : st.length ≤ 4
  · rw [Rn_nx (lo' := lo) (st' := .inl (if y' < x then y' else x) :: st) (M' := M) (a := 0) (b := []) (c := 0) (by simp only [stepF, if_pos h])]; simp [h]
  · rw [Rn_no (by simp only [stepF, if_neg h])]; simp [h]
theorem s_41 {x y' : Int} : Rn d ((41, i, v) :: os) y lo (.inr (.inl y') :: .inr (.inl x) :: st) M Q = (st.length ≤ 4 ∧ Rn d os y lo (.inr (.inl (if y' < x then y' else x)) :: st) M Q) := by
  by_cases h : st.length ≤ 4
  · rw [Rn_nx (lo' := lo) (st' := .inr (.inl (if y' < x then y' else x)) :: st) (M' := M) (a := 0) (b := []) (c := 0) (by simp only [stepF, if_pos h])]; simp [h]
  · rw [Rn_no (by simp only [stepF, if_neg h])]; simp [h]
theorem s_42 {n dp sp : Int} {dk sk : Nat} : Rn d ((42, i, v) :: os) y lo [.inl n, .inl dp, .inr (.inr dk), .inl sp, .inr (.inr sk)] M Q = ((kd dk = 1 ∧ kd sk = 1 ∧ 0 ≤ n ∧ 0 ≤ dp ∧ 0 ≤ sp ∧ dp + n ≤ ln dk ∧ sp + n ≤ ln sk) ∧ Rn d os y lo [] (me_cpy M sk sp dk dp n) Q) := by
  by_cases h : kd dk = 1 ∧ kd sk = 1 ∧ 0 ≤ n ∧ 0 ≤ dp ∧ 0 ≤ sp ∧ dp + n ≤ ln dk ∧ sp + n ≤ ln sk
  · rw [Rn_nx (lo' := lo) (st' := []) (M' := me_cpy M sk sp dk dp n) (a := 0) (b := []) (c := 0) (by simp only [stepF, if_pos h])]; simp [h]
  · rw [Rn_no (by simp only [stepF, if_neg h])]; simp [h]
theorem s_43 {a : Nat} : Rn d ((43, i, v) :: os) y lo (.inr (.inr a) :: st) M Q = (kd a = 1 ∧ Rn d os y lo (.inl (ln a) :: st) M Q) := by
  by_cases h : kd a = 1
  · rw [Rn_nx (lo' := lo) (st' := .inl (ln a) :: st) (M' := M) (a := 0) (b := []) (c := 0) (by simp only [stepF, if_pos h])]; simp [h]
  · rw [Rn_no (by simp only [stepF, if_neg h])]; simp [h]
theorem s_44 {x : Int} : Rn d ((44, i, v) :: os) y lo (.inl x :: .inr (.inr 99) :: st) M Q = ((0 ≤ x ∧ x < M 98 0) ∧ Rn d os y lo (.inl (M 99 x) :: st) M Q) := by
  by_cases h : 0 ≤ x ∧ x < M 98 0
  · rw [Rn_nx (lo' := lo) (st' := .inl (M 99 x) :: st) (M' := M) (a := 0) (b := []) (c := 0) (by simp [stepF, h])]; simp [h]
  · rw [Rn_no (by simp only [stepF]; rw [if_neg (by simpa using h)])]; simp [h]
theorem s_45 : Rn d ((45, i, v) :: os) y lo (.inr (.inr 99) :: st) M Q = Rn d os y lo (.inl (M 98 0) :: st) M Q := Rn_nx rfl
theorem s_46 {x : Int} {a : Nat} : Rn d ((46, i, v) :: os) y lo (.inl x :: .inr (.inr a) :: st) M Q = ((kd a = 2 ∧ 0 ≤ x ∧ x < ln a) ∧ Rn d os y lo (.inl (M a x) :: st) M Q) := by
  by_cases h : kd a = 2 ∧ 0 ≤ x ∧ x < ln a
  · rw [Rn_nx (lo' := lo) (st' := .inl (M a x) :: st) (M' := M) (a := 0) (b := []) (c := 0) (by simp [stepF, h])]; simp [h]
  · rw [Rn_no (by simp only [stepF, if_neg h])]; simp [h]
theorem s_51 {a0 : AV} : Rn (d + 1) ((51, z, v) :: os) y lo (a0 :: st) M Q = (st.length ≤ 4 ∧ (nlg [a0] && rcvb z [a0]) = true ∧ Cl d z [a0] M (fun w M2 => Rn (d + 1) os y lo (res v w st) M2 Q)) := by
  by_cases h : st.length ≤ 4
  · rw [Rn_cl (z := z) (lo' := lo) (st' := st) (M' := M) (as := [a0]) (f := v) (by simp only [stepF, if_pos h])]; simp [h]
  · rw [Rn_no (by simp only [stepF, if_neg h])]; simp [h]
theorem s_52 {a0 a1 : AV} : Rn (d + 1) ((52, z, v) :: os) y lo (a1 :: a0 :: st) M Q = (st.length ≤ 4 ∧ (nlg [a0, a1] && rcvb z [a0, a1]) = true ∧ Cl d z [a0, a1] M (fun w M2 => Rn (d + 1) os y lo (res v w st) M2 Q)) := by
  by_cases h : st.length ≤ 4
  · rw [Rn_cl (z := z) (lo' := lo) (st' := st) (M' := M) (as := [a0, a1]) (f := v) (by simp only [stepF, if_pos h])]; simp [h]
  · rw [Rn_no (by simp only [stepF, if_neg h])]; simp [h]
theorem s_53 {a0 a1 a2 : AV} : Rn (d + 1) ((53, z, v) :: os) y lo (a2 :: a1 :: a0 :: st) M Q = (st.length ≤ 4 ∧ (nlg [a0, a1, a2] && rcvb z [a0, a1, a2]) = true ∧ Cl d z [a0, a1, a2] M (fun w M2 => Rn (d + 1) os y lo (res v w st) M2 Q)) := by
  by_cases h : st.length ≤ 4
  · rw [Rn_cl (z := z) (lo' := lo) (st' := st) (M' := M) (as := [a0, a1, a2]) (f := v) (by simp only [stepF, if_pos h])]; simp [h]
  · rw [Rn_no (by simp only [stepF, if_neg h])]; simp [h]
theorem s_54 {a0 a1 a2 a3 : AV} : Rn (d + 1) ((54, z, v) :: os) y lo (a3 :: a2 :: a1 :: a0 :: st) M Q = (st.length ≤ 4 ∧ (nlg [a0, a1, a2, a3] && rcvb z [a0, a1, a2, a3]) = true ∧ Cl d z [a0, a1, a2, a3] M (fun w M2 => Rn (d + 1) os y lo (res v w st) M2 Q)) := by
  by_cases h : st.length ≤ 4
  · rw [Rn_cl (z := z) (lo' := lo) (st' := st) (M' := M) (as := [a0, a1, a2, a3]) (f := v) (by simp only [stepF, if_pos h])]; simp [h]
  · rw [Rn_no (by simp only [stepF, if_neg h])]; simp [h]
theorem s_55 {a0 a1 a2 a3 a4 : AV} : Rn (d + 1) ((55, z, v) :: os) y lo (a4 :: a3 :: a2 :: a1 :: a0 :: st) M Q = (st.length ≤ 4 ∧ (nlg [a0, a1, a2, a3, a4] && rcvb z [a0, a1, a2, a3, a4]) = true ∧ Cl d z [a0, a1, a2, a3, a4] M (fun w M2 => Rn (d + 1) os y lo (res v w st) M2 Q)) := by
  by_cases h : st.length ≤ 4
  · rw [Rn_cl (z := z) (lo' := lo) (st' := st) (M' := M) (as := [a0, a1, a2, a3, a4]) (f := v) (by simp only [stepF, if_pos h])]; simp [h]
  · rw [Rn_no (by simp only [stepF, if_neg h])]; simp [h]
theorem s_56 {a0 a1 a2 a3 a4 a5 : AV} : Rn (d + 1) ((56, z, v) :: os) y lo (a5 :: a4 :: a3 :: a2 :: a1 :: a0 :: st) M Q = (st.length ≤ 4 ∧ (nlg [a0, a1, a2, a3, a4, a5] && rcvb z [a0, a1, a2, a3, a4, a5]) = true ∧ Cl d z [a0, a1, a2, a3, a4, a5] M (fun w M2 => Rn (d + 1) os y lo (res v w st) M2 Q)) := by
  by_cases h : st.length ≤ 4
  · rw [Rn_cl (z := z) (lo' := lo) (st' := st) (M' := M) (as := [a0, a1, a2, a3, a4, a5]) (f := v) (by simp only [stepF, if_pos h])]; simp [h]
  · rw [Rn_no (by simp only [stepF, if_neg h])]; simp [h]
theorem res_1 {w : Int} : res 1 w st = .inl w :: st := rfl
theorem res_0 {w : Int} : res 0 w st = st := rfl
theorem s_22I {o k : Nat} {c : Int} (h : (oc o : Int) = c) (h2 : fk o k = 0 ∨ fk o k = 1) : Rn d ((22, k, c) :: os) y lo (.inr (.inr o) :: st) M Q = Rn d os y lo (.inl (M o k) :: st) M Q := by
  refine Rn_nx (a := 0) (b := []) (c := 0) ?_
  rcases h2 with h2 | h2 <;> simp [stepF, h, h2]
theorem s_22R {o k r : Nat} {c : Int} (h : (oc o : Int) = c) (h2 : fk o k = r + 2) : Rn d ((22, k, c) :: os) y lo (.inr (.inr o) :: st) M Q = Rn d os y lo (.inr (.inr r) :: st) M Q := by
  refine Rn_nx (a := 0) (b := []) (c := 0) ?_
  simp [stepF, h, h2]
theorem s_23I {o k : Nat} {c w : Int} (h : (oc o : Int) = c) (h2 : fk o k = 0) : Rn d ((23, k, c) :: os) y lo (.inl w :: .inr (.inr o) :: st) M Q = Rn d os y lo st (me_put M o k w) Q := by
  refine Rn_nx (a := 0) (b := []) (c := 0) ?_
  simp [stepF, h, h2]
theorem s_23Z {o k : Nat} {c w : Int} (h : (oc o : Int) = c) (h2 : fk o k = 1) : Rn d ((23, k, c) :: os) y lo (.inl w :: .inr (.inr o) :: st) M Q = ((w = 0 ∨ w = 1) ∧ Rn d os y lo st (me_put M o k w) Q) := by
  by_cases h3 : w = 0 ∨ w = 1
  · rw [Rn_nx (lo' := lo) (st' := st) (M' := me_put M o k w) (a := 0) (b := []) (c := 0) (by simp [stepF, h, h2, h3])]; simp [h3]
  · rw [Rn_no (by simp [stepF, h, h2, h3])]; simp [h3]
end RU
theorem me_eq (M : Me) (k : Nat) (i v j : Int) : me_put M k i v k j = if j = i then v else M k j := by simp [me_put]
theorem me_ne (M : Me) {k a : Nat} (i v j : Int) (h : a ≠ k) : me_put M k i v a j = M a j := by simp [me_put, h]
theorem me_self (M : Me) (k : Nat) (i v : Int) : me_put M k i v k i = v := by simp [me_put]
theorem w32_id {x : Int} (h1 : -2147483648 ≤ x) (h2 : x < 2147483648) : w32 x = x := by
  unfold w32
  rw [Int.bmod_eq_of_le] <;> omega
theorem w64_id {x : Int} (h1 : -9223372036854775808 ≤ x) (h2 : x < 9223372036854775808) : w64 x = x := by
  unfold w64
  rw [Int.bmod_eq_of_le] <;> omega
theorem w32_rng (x : Int) : -2147483648 ≤ w32 x ∧ w32 x < 2147483648 := by
  unfold w32
  have h1 := Int.le_bmod (x := x) (m := 4294967296) (by omega)
  have h2 := Int.bmod_lt (x := x) (m := 4294967296) (by omega)
  omega
theorem w64_rng (x : Int) : -9223372036854775808 ≤ w64 x ∧ w64 x < 9223372036854775808 := by
  unfold w64
  have h1 := Int.le_bmod (x := x) (m := 18446744073709551616) (by omega)
  have h2 := Int.bmod_lt (x := x) (m := 18446744073709551616) (by omega)
  omega
end
section
section RW
variable {d : Nat} {os : List Op} {y : Nat} {lo : Lo} {st : St} {M : Me} {Q : Int → Me → Prop}
theorem lg_0 (a0 : Option AV) (l : Lo) : lg (a0 :: l) 0 = a0 := rfl
theorem lz_0 (a0 : Option AV) (l : Lo) (v : AV) : lz (a0 :: l) 0 v = some v :: l := rfl
theorem ly_0 (a0 : Option AV) (l : Lo) : ly (a0 :: l) 0 = none :: l := rfl
theorem lp_0 (lo : Lo) : lp lo 0 = false := rfl
theorem lg_1 (a0 a1 : Option AV) (l : Lo) : lg (a0 :: a1 :: l) 1 = a1 := rfl
theorem lz_1 (a0 a1 : Option AV) (l : Lo) (v : AV) : lz (a0 :: a1 :: l) 1 v = a0 :: some v :: l := rfl
theorem ly_1 (a0 a1 : Option AV) (l : Lo) : ly (a0 :: a1 :: l) 1 = a0 :: none :: l := rfl
theorem lp_1 (lo : Lo) : lp lo 1 = isL (lg lo 0) := rfl
theorem lg_2 (a0 a1 a2 : Option AV) (l : Lo) : lg (a0 :: a1 :: a2 :: l) 2 = a2 := rfl
theorem lz_2 (a0 a1 a2 : Option AV) (l : Lo) (v : AV) : lz (a0 :: a1 :: a2 :: l) 2 v = a0 :: a1 :: some v :: l := rfl
theorem ly_2 (a0 a1 a2 : Option AV) (l : Lo) : ly (a0 :: a1 :: a2 :: l) 2 = a0 :: a1 :: none :: l := rfl
theorem lp_2 (lo : Lo) : lp lo 2 = isL (lg lo 1) := rfl
theorem lg_3 (a0 a1 a2 a3 : Option AV) (l : Lo) : lg (a0 :: a1 :: a2 :: a3 :: l) 3 = a3 := rfl
theorem lz_3 (a0 a1 a2 a3 : Option AV) (l : Lo) (v : AV) : lz (a0 :: a1 :: a2 :: a3 :: l) 3 v = a0 :: a1 :: a2 :: some v :: l := rfl
theorem ly_3 (a0 a1 a2 a3 : Option AV) (l : Lo) : ly (a0 :: a1 :: a2 :: a3 :: l) 3 = a0 :: a1 :: a2 :: none :: l := rfl
theorem lp_3 (lo : Lo) : lp lo 3 = isL (lg lo 2) := rfl
theorem lg_4 (a0 a1 a2 a3 a4 : Option AV) (l : Lo) : lg (a0 :: a1 :: a2 :: a3 :: a4 :: l) 4 = a4 := rfl
theorem lz_4 (a0 a1 a2 a3 a4 : Option AV) (l : Lo) (v : AV) : lz (a0 :: a1 :: a2 :: a3 :: a4 :: l) 4 v = a0 :: a1 :: a2 :: a3 :: some v :: l := rfl
theorem ly_4 (a0 a1 a2 a3 a4 : Option AV) (l : Lo) : ly (a0 :: a1 :: a2 :: a3 :: a4 :: l) 4 = a0 :: a1 :: a2 :: a3 :: none :: l := rfl
theorem lp_4 (lo : Lo) : lp lo 4 = isL (lg lo 3) := rfl
theorem lg_5 (a0 a1 a2 a3 a4 a5 : Option AV) (l : Lo) : lg (a0 :: a1 :: a2 :: a3 :: a4 :: a5 :: l) 5 = a5 := rfl
theorem lz_5 (a0 a1 a2 a3 a4 a5 : Option AV) (l : Lo) (v : AV) : lz (a0 :: a1 :: a2 :: a3 :: a4 :: a5 :: l) 5 v = a0 :: a1 :: a2 :: a3 :: a4 :: some v :: l := rfl
theorem ly_5 (a0 a1 a2 a3 a4 a5 : Option AV) (l : Lo) : ly (a0 :: a1 :: a2 :: a3 :: a4 :: a5 :: l) 5 = a0 :: a1 :: a2 :: a3 :: a4 :: none :: l := rfl
theorem lp_5 (lo : Lo) : lp lo 5 = isL (lg lo 4) := rfl
theorem lg_6 (a0 a1 a2 a3 a4 a5 a6 : Option AV) (l : Lo) : lg (a0 :: a1 :: a2 :: a3 :: a4 :: a5 :: a6 :: l) 6 = a6 := rfl
theorem lz_6 (a0 a1 a2 a3 a4 a5 a6 : Option AV) (l : Lo) (v : AV) : lz (a0 :: a1 :: a2 :: a3 :: a4 :: a5 :: a6 :: l) 6 v = a0 :: a1 :: a2 :: a3 :: a4 :: a5 :: some v :: l := rfl
theorem ly_6 (a0 a1 a2 a3 a4 a5 a6 : Option AV) (l : Lo) : ly (a0 :: a1 :: a2 :: a3 :: a4 :: a5 :: a6 :: l) 6 = a0 :: a1 :: a2 :: a3 :: a4 :: a5 :: none :: l := rfl
theorem lp_6 (lo : Lo) : lp lo 6 = isL (lg lo 5) := rfl
theorem lg_7 (a0 a1 a2 a3 a4 a5 a6 a7 : Option AV) (l : Lo) : lg (a0 :: a1 :: a2 :: a3 :: a4 :: a5 :: a6 :: a7 :: l) 7 = a7 := rfl
theorem lz_7 (a0 a1 a2 a3 a4 a5 a6 a7 : Option AV) (l : Lo) (v : AV) : lz (a0 :: a1 :: a2 :: a3 :: a4 :: a5 :: a6 :: a7 :: l) 7 v = a0 :: a1 :: a2 :: a3 :: a4 :: a5 :: a6 :: some v :: l := rfl
theorem ly_7 (a0 a1 a2 a3 a4 a5 a6 a7 : Option AV) (l : Lo) : ly (a0 :: a1 :: a2 :: a3 :: a4 :: a5 :: a6 :: a7 :: l) 7 = a0 :: a1 :: a2 :: a3 :: a4 :: a5 :: a6 :: none :: l := rfl
theorem lp_7 (lo : Lo) : lp lo 7 = isL (lg lo 6) := rfl
theorem lg_8 (a0 a1 a2 a3 a4 a5 a6 a7 a8 : Option AV) (l : Lo) : lg (a0 :: a1 :: a2 :: a3 :: a4 :: a5 :: a6 :: a7 :: a8 :: l) 8 = a8 := rfl
theorem lz_8 (a0 a1 a2 a3 a4 a5 a6 a7 a8 : Option AV) (l : Lo) (v : AV) : lz (a0 :: a1 :: a2 :: a3 :: a4 :: a5 :: a6 :: a7 :: a8 :: l) 8 v = a0 :: a1 :: a2 :: a3 :: a4 :: a5 :: a6 :: a7 :: some v :: l := rfl
theorem ly_8 (a0 a1 a2 a3 a4 a5 a6 a7 a8 : Option AV) (l : Lo) : ly (a0 :: a1 :: a2 :: a3 :: a4 :: a5 :: a6 :: a7 :: a8 :: l) 8 = a0 :: a1 :: a2 :: a3 :: a4 :: a5 :: a6 :: a7 :: none :: l := rfl
theorem lp_8 (lo : Lo) : lp lo 8 = isL (lg lo 7) := rfl
theorem lg_9 (a0 a1 a2 a3 a4 a5 a6 a7 a8 a9 : Option AV) (l : Lo) : lg (a0 :: a1 :: a2 :: a3 :: a4 :: a5 :: a6 :: a7 :: a8 :: a9 :: l) 9 = a9 := rfl
theorem lz_9 (a0 a1 a2 a3 a4 a5 a6 a7 a8 a9 : Option AV) (l : Lo) (v : AV) : lz (a0 :: a1 :: a2 :: a3 :: a4 :: a5 :: a6 :: a7 :: a8 :: a9 :: l) 9 v = a0 :: a1 :: a2 :: a3 :: a4 :: a5 :: a6 :: a7 :: a8 :: some v :: l := rfl
theorem ly_9 (a0 a1 a2 a3 a4 a5 a6 a7 a8 a9 : Option AV) (l : Lo) : ly (a0 :: a1 :: a2 :: a3 :: a4 :: a5 :: a6 :: a7 :: a8 :: a9 :: l) 9 = a0 :: a1 :: a2 :: a3 :: a4 :: a5 :: a6 :: a7 :: a8 :: none :: l := rfl
theorem lp_9 (lo : Lo) : lp lo 9 = isL (lg lo 8) := rfl
theorem lg_10 (a0 a1 a2 a3 a4 a5 a6 a7 a8 a9 a10 : Option AV) (l : Lo) : lg (a0 :: a1 :: a2 :: a3 :: a4 :: a5 :: a6 :: a7 :: a8 :: a9 :: a10 :: l) 10 = a10 := rfl
theorem lz_10 (a0 a1 a2 a3 a4 a5 a6 a7 a8 a9 a10 : Option AV) (l : Lo) (v : AV) : lz (a0 :: a1 :: a2 :: a3 :: a4 :: a5 :: a6 :: a7 :: a8 :: a9 :: a10 :: l) 10 v = a0 :: a1 :: a2 :: a3 :: a4 :: a5 :: a6 :: a7 :: a8 :: a9 :: some v :: l := rfl
theorem ly_10 (a0 a1 a2 a3 a4 a5 a6 a7 a8 a9 a10 : Option AV) (l : Lo) : ly (a0 :: a1 :: a2 :: a3 :: a4 :: a5 :: a6 :: a7 :: a8 :: a9 :: a10 :: l) 10 = a0 :: a1 :: a2 :: a3 :: a4 :: a5 :: a6 :: a7 :: a8 :: a9 :: none :: l := rfl
theorem lp_10 (lo : Lo) : lp lo 10 = isL (lg lo 9) := rfl
theorem lg_11 (a0 a1 a2 a3 a4 a5 a6 a7 a8 a9 a10 a11 : Option AV) (l : Lo) : lg (a0 :: a1 :: a2 :: a3 :: a4 :: a5 :: a6 :: a7 :: a8 :: a9 :: a10 :: a11 :: l) 11 = a11 := rfl
theorem lz_11 (a0 a1 a2 a3 a4 a5 a6 a7 a8 a9 a10 a11 : Option AV) (l : Lo) (v : AV) : lz (a0 :: a1 :: a2 :: a3 :: a4 :: a5 :: a6 :: a7 :: a8 :: a9 :: a10 :: a11 :: l) 11 v = a0 :: a1 :: a2 :: a3 :: a4 :: a5 :: a6 :: a7 :: a8 :: a9 :: a10 :: some v :: l := rfl
theorem ly_11 (a0 a1 a2 a3 a4 a5 a6 a7 a8 a9 a10 a11 : Option AV) (l : Lo) : ly (a0 :: a1 :: a2 :: a3 :: a4 :: a5 :: a6 :: a7 :: a8 :: a9 :: a10 :: a11 :: l) 11 = a0 :: a1 :: a2 :: a3 :: a4 :: a5 :: a6 :: a7 :: a8 :: a9 :: a10 :: none :: l := rfl
theorem lp_11 (lo : Lo) : lp lo 11 = isL (lg lo 10) := rfl
theorem lg_12 (a0 a1 a2 a3 a4 a5 a6 a7 a8 a9 a10 a11 a12 : Option AV) (l : Lo) : lg (a0 :: a1 :: a2 :: a3 :: a4 :: a5 :: a6 :: a7 :: a8 :: a9 :: a10 :: a11 :: a12 :: l) 12 = a12 := rfl
theorem lz_12 (a0 a1 a2 a3 a4 a5 a6 a7 a8 a9 a10 a11 a12 : Option AV) (l : Lo) (v : AV) : lz (a0 :: a1 :: a2 :: a3 :: a4 :: a5 :: a6 :: a7 :: a8 :: a9 :: a10 :: a11 :: a12 :: l) 12 v = a0 :: a1 :: a2 :: a3 :: a4 :: a5 :: a6 :: a7 :: a8 :: a9 :: a10 :: a11 :: some v :: l := rfl
theorem ly_12 (a0 a1 a2 a3 a4 a5 a6 a7 a8 a9 a10 a11 a12 : Option AV) (l : Lo) : ly (a0 :: a1 :: a2 :: a3 :: a4 :: a5 :: a6 :: a7 :: a8 :: a9 :: a10 :: a11 :: a12 :: l) 12 = a0 :: a1 :: a2 :: a3 :: a4 :: a5 :: a6 :: a7 :: a8 :: a9 :: a10 :: a11 :: none :: l := rfl
theorem lp_12 (lo : Lo) : lp lo 12 = isL (lg lo 11) := rfl
theorem lg_13 (a0 a1 a2 a3 a4 a5 a6 a7 a8 a9 a10 a11 a12 a13 : Option AV) (l : Lo) : lg (a0 :: a1 :: a2 :: a3 :: a4 :: a5 :: a6 :: a7 :: a8 :: a9 :: a10 :: a11 :: a12 :: a13 :: l) 13 = a13 := rfl
theorem lz_13 (a0 a1 a2 a3 a4 a5 a6 a7 a8 a9 a10 a11 a12 a13 : Option AV) (l : Lo) (v : AV) : lz (a0 :: a1 :: a2 :: a3 :: a4 :: a5 :: a6 :: a7 :: a8 :: a9 :: a10 :: a11 :: a12 :: a13 :: l) 13 v = a0 :: a1 :: a2 :: a3 :: a4 :: a5 :: a6 :: a7 :: a8 :: a9 :: a10 :: a11 :: a12 :: some v :: l := rfl
theorem ly_13 (a0 a1 a2 a3 a4 a5 a6 a7 a8 a9 a10 a11 a12 a13 : Option AV) (l : Lo) : ly (a0 :: a1 :: a2 :: a3 :: a4 :: a5 :: a6 :: a7 :: a8 :: a9 :: a10 :: a11 :: a12 :: a13 :: l) 13 = a0 :: a1 :: a2 :: a3 :: a4 :: a5 :: a6 :: a7 :: a8 :: a9 :: a10 :: a11 :: a12 :: none :: l := rfl
theorem lp_13 (lo : Lo) : lp lo 13 = isL (lg lo 12) := rfl
theorem lg_14 (a0 a1 a2 a3 a4 a5 a6 a7 a8 a9 a10 a11 a12 a13 a14 : Option AV) (l : Lo) : lg (a0 :: a1 :: a2 :: a3 :: a4 :: a5 :: a6 :: a7 :: a8 :: a9 :: a10 :: a11 :: a12 :: a13 :: a14 :: l) 14 = a14 := rfl
theorem lz_14 (a0 a1 a2 a3 a4 a5 a6 a7 a8 a9 a10 a11 a12 a13 a14 : Option AV) (l : Lo) (v : AV) : lz (a0 :: a1 :: a2 :: a3 :: a4 :: a5 :: a6 :: a7 :: a8 :: a9 :: a10 :: a11 :: a12 :: a13 :: a14 :: l) 14 v = a0 :: a1 :: a2 :: a3 :: a4 :: a5 :: a6 :: a7 :: a8 :: a9 :: a10 :: a11 :: a12 :: a13 :: some v :: l := rfl
theorem ly_14 (a0 a1 a2 a3 a4 a5 a6 a7 a8 a9 a10 a11 a12 a13 a14 : Option AV) (l : Lo) : ly (a0 :: a1 :: a2 :: a3 :: a4 :: a5 :: a6 :: a7 :: a8 :: a9 :: a10 :: a11 :: a12 :: a13 :: a14 :: l) 14 = a0 :: a1 :: a2 :: a3 :: a4 :: a5 :: a6 :: a7 :: a8 :: a9 :: a10 :: a11 :: a12 :: a13 :: none :: l := rfl
theorem lp_14 (lo : Lo) : lp lo 14 = isL (lg lo 13) := rfl
theorem isL_n : isL none = false := rfl
theorem isL_I (x : Int) : isL (some (.inl x)) = false := rfl
theorem isL_R (x : Nat) : isL (some (.inr (.inr x))) = false := rfl
theorem isL_L (x : Int) : isL (some (.inr (.inl x))) = true := rfl
theorem g_0_0 : Rn d ((22, 0, 7) :: os) y lo (.inr (.inr 0) :: st) M Q = Rn d os y lo (.inr (.inr 1) :: st) M Q := s_22R (k := 0) (r := 1) rfl rfl
theorem g_0_1 : Rn d ((22, 1, 7) :: os) y lo (.inr (.inr 0) :: st) M Q = Rn d os y lo (.inr (.inr 2) :: st) M Q := s_22R (k := 1) (r := 2) rfl rfl
theorem g_0_2 : Rn d ((22, 2, 7) :: os) y lo (.inr (.inr 0) :: st) M Q = Rn d os y lo (.inr (.inr 3) :: st) M Q := s_22R (k := 2) (r := 3) rfl rfl
theorem g_0_3 : Rn d ((22, 3, 7) :: os) y lo (.inr (.inr 0) :: st) M Q = Rn d os y lo (.inr (.inr 4) :: st) M Q := s_22R (k := 3) (r := 4) rfl rfl
theorem g_0_4 : Rn d ((22, 4, 7) :: os) y lo (.inr (.inr 0) :: st) M Q = Rn d os y lo (.inr (.inr 5) :: st) M Q := s_22R (k := 4) (r := 5) rfl rfl
theorem g_0_5 : Rn d ((22, 5, 7) :: os) y lo (.inr (.inr 0) :: st) M Q = Rn d os y lo (.inr (.inr 6) :: st) M Q := s_22R (k := 5) (r := 6) rfl rfl
theorem g_0_6 : Rn d ((22, 6, 7) :: os) y lo (.inr (.inr 0) :: st) M Q = Rn d os y lo (.inr (.inr 7) :: st) M Q := s_22R (k := 6) (r := 7) rfl rfl
theorem g_0_7 : Rn d ((22, 7, 7) :: os) y lo (.inr (.inr 0) :: st) M Q = Rn d os y lo (.inl (M 0 7) :: st) M Q := s_22I (k := 7) rfl (Or.inl rfl)
theorem p_0_7 {v : Int} : Rn d ((23, 7, 7) :: os) y lo (.inl v :: .inr (.inr 0) :: st) M Q = Rn d os y lo st (me_put M 0 7 v) Q := s_23I (k := 7) rfl rfl
theorem g_1_0 : Rn d ((22, 0, 0) :: os) y lo (.inr (.inr 1) :: st) M Q = Rn d os y lo (.inr (.inr 9) :: st) M Q := s_22R (k := 0) (r := 9) rfl rfl
theorem g_1_1 : Rn d ((22, 1, 0) :: os) y lo (.inr (.inr 1) :: st) M Q = Rn d os y lo (.inr (.inr 10) :: st) M Q := s_22R (k := 1) (r := 10) rfl rfl
theorem g_1_2 : Rn d ((22, 2, 0) :: os) y lo (.inr (.inr 1) :: st) M Q = Rn d os y lo (.inr (.inr 11) :: st) M Q := s_22R (k := 2) (r := 11) rfl rfl
theorem g_1_3 : Rn d ((22, 3, 0) :: os) y lo (.inr (.inr 1) :: st) M Q = Rn d os y lo (.inr (.inr 12) :: st) M Q := s_22R (k := 3) (r := 12) rfl rfl
theorem g_1_4 : Rn d ((22, 4, 0) :: os) y lo (.inr (.inr 1) :: st) M Q = Rn d os y lo (.inr (.inr 13) :: st) M Q := s_22R (k := 4) (r := 13) rfl rfl
theorem g_1_5 : Rn d ((22, 5, 0) :: os) y lo (.inr (.inr 1) :: st) M Q = Rn d os y lo (.inr (.inr 14) :: st) M Q := s_22R (k := 5) (r := 14) rfl rfl
theorem g_1_6 : Rn d ((22, 6, 0) :: os) y lo (.inr (.inr 1) :: st) M Q = Rn d os y lo (.inr (.inr 15) :: st) M Q := s_22R (k := 6) (r := 15) rfl rfl
theorem g_1_7 : Rn d ((22, 7, 0) :: os) y lo (.inr (.inr 1) :: st) M Q = Rn d os y lo (.inr (.inr 16) :: st) M Q := s_22R (k := 7) (r := 16) rfl rfl
theorem g_1_8 : Rn d ((22, 8, 0) :: os) y lo (.inr (.inr 1) :: st) M Q = Rn d os y lo (.inl (M 1 8) :: st) M Q := s_22I (k := 8) rfl (Or.inl rfl)
theorem p_1_8 {v : Int} : Rn d ((23, 8, 0) :: os) y lo (.inl v :: .inr (.inr 1) :: st) M Q = Rn d os y lo st (me_put M 1 8 v) Q := s_23I (k := 8) rfl rfl
theorem g_1_9 : Rn d ((22, 9, 0) :: os) y lo (.inr (.inr 1) :: st) M Q = Rn d os y lo (.inl (M 1 9) :: st) M Q := s_22I (k := 9) rfl (Or.inl rfl)
theorem p_1_9 {v : Int} : Rn d ((23, 9, 0) :: os) y lo (.inl v :: .inr (.inr 1) :: st) M Q = Rn d os y lo st (me_put M 1 9 v) Q := s_23I (k := 9) rfl rfl
theorem g_2_0 : Rn d ((22, 0, 1) :: os) y lo (.inr (.inr 2) :: st) M Q = Rn d os y lo (.inr (.inr 17) :: st) M Q := s_22R (k := 0) (r := 17) rfl rfl
theorem g_2_1 : Rn d ((22, 1, 1) :: os) y lo (.inr (.inr 2) :: st) M Q = Rn d os y lo (.inr (.inr 18) :: st) M Q := s_22R (k := 1) (r := 18) rfl rfl
theorem g_2_2 : Rn d ((22, 2, 1) :: os) y lo (.inr (.inr 2) :: st) M Q = Rn d os y lo (.inr (.inr 19) :: st) M Q := s_22R (k := 2) (r := 19) rfl rfl
theorem g_2_3 : Rn d ((22, 3, 1) :: os) y lo (.inr (.inr 2) :: st) M Q = Rn d os y lo (.inr (.inr 20) :: st) M Q := s_22R (k := 3) (r := 20) rfl rfl
theorem g_2_4 : Rn d ((22, 4, 1) :: os) y lo (.inr (.inr 2) :: st) M Q = Rn d os y lo (.inr (.inr 21) :: st) M Q := s_22R (k := 4) (r := 21) rfl rfl
theorem g_2_5 : Rn d ((22, 5, 1) :: os) y lo (.inr (.inr 2) :: st) M Q = Rn d os y lo (.inr (.inr 22) :: st) M Q := s_22R (k := 5) (r := 22) rfl rfl
theorem g_2_6 : Rn d ((22, 6, 1) :: os) y lo (.inr (.inr 2) :: st) M Q = Rn d os y lo (.inr (.inr 23) :: st) M Q := s_22R (k := 6) (r := 23) rfl rfl
theorem g_2_7 : Rn d ((22, 7, 1) :: os) y lo (.inr (.inr 2) :: st) M Q = Rn d os y lo (.inr (.inr 24) :: st) M Q := s_22R (k := 7) (r := 24) rfl rfl
theorem g_2_8 : Rn d ((22, 8, 1) :: os) y lo (.inr (.inr 2) :: st) M Q = Rn d os y lo (.inl (M 2 8) :: st) M Q := s_22I (k := 8) rfl (Or.inl rfl)
theorem p_2_8 {v : Int} : Rn d ((23, 8, 1) :: os) y lo (.inl v :: .inr (.inr 2) :: st) M Q = Rn d os y lo st (me_put M 2 8 v) Q := s_23I (k := 8) rfl rfl
theorem g_3_0 : Rn d ((22, 0, 6) :: os) y lo (.inr (.inr 3) :: st) M Q = Rn d os y lo (.inr (.inr 25) :: st) M Q := s_22R (k := 0) (r := 25) rfl rfl
theorem g_3_1 : Rn d ((22, 1, 6) :: os) y lo (.inr (.inr 3) :: st) M Q = Rn d os y lo (.inr (.inr 26) :: st) M Q := s_22R (k := 1) (r := 26) rfl rfl
theorem g_3_2 : Rn d ((22, 2, 6) :: os) y lo (.inr (.inr 3) :: st) M Q = Rn d os y lo (.inr (.inr 27) :: st) M Q := s_22R (k := 2) (r := 27) rfl rfl
theorem g_3_3 : Rn d ((22, 3, 6) :: os) y lo (.inr (.inr 3) :: st) M Q = Rn d os y lo (.inr (.inr 28) :: st) M Q := s_22R (k := 3) (r := 28) rfl rfl
theorem g_3_4 : Rn d ((22, 4, 6) :: os) y lo (.inr (.inr 3) :: st) M Q = Rn d os y lo (.inr (.inr 29) :: st) M Q := s_22R (k := 4) (r := 29) rfl rfl
theorem g_3_5 : Rn d ((22, 5, 6) :: os) y lo (.inr (.inr 3) :: st) M Q = Rn d os y lo (.inr (.inr 30) :: st) M Q := s_22R (k := 5) (r := 30) rfl rfl
theorem g_3_6 : Rn d ((22, 6, 6) :: os) y lo (.inr (.inr 3) :: st) M Q = Rn d os y lo (.inr (.inr 31) :: st) M Q := s_22R (k := 6) (r := 31) rfl rfl
theorem g_3_7 : Rn d ((22, 7, 6) :: os) y lo (.inr (.inr 3) :: st) M Q = Rn d os y lo (.inr (.inr 32) :: st) M Q := s_22R (k := 7) (r := 32) rfl rfl
theorem g_3_8 : Rn d ((22, 8, 6) :: os) y lo (.inr (.inr 3) :: st) M Q = Rn d os y lo (.inl (M 3 8) :: st) M Q := s_22I (k := 8) rfl (Or.inl rfl)
theorem p_3_8 {v : Int} : Rn d ((23, 8, 6) :: os) y lo (.inl v :: .inr (.inr 3) :: st) M Q = Rn d os y lo st (me_put M 3 8 v) Q := s_23I (k := 8) rfl rfl
theorem g_4_0 : Rn d ((22, 0, 5) :: os) y lo (.inr (.inr 4) :: st) M Q = Rn d os y lo (.inr (.inr 33) :: st) M Q := s_22R (k := 0) (r := 33) rfl rfl
theorem g_4_1 : Rn d ((22, 1, 5) :: os) y lo (.inr (.inr 4) :: st) M Q = Rn d os y lo (.inr (.inr 34) :: st) M Q := s_22R (k := 1) (r := 34) rfl rfl
theorem g_4_2 : Rn d ((22, 2, 5) :: os) y lo (.inr (.inr 4) :: st) M Q = Rn d os y lo (.inr (.inr 35) :: st) M Q := s_22R (k := 2) (r := 35) rfl rfl
theorem g_4_3 : Rn d ((22, 3, 5) :: os) y lo (.inr (.inr 4) :: st) M Q = Rn d os y lo (.inl (M 4 3) :: st) M Q := s_22I (k := 3) rfl (Or.inl rfl)
theorem p_4_3 {v : Int} : Rn d ((23, 3, 5) :: os) y lo (.inl v :: .inr (.inr 4) :: st) M Q = Rn d os y lo st (me_put M 4 3 v) Q := s_23I (k := 3) rfl rfl
theorem g_5_0 : Rn d ((22, 0, 3) :: os) y lo (.inr (.inr 5) :: st) M Q = Rn d os y lo (.inr (.inr 36) :: st) M Q := s_22R (k := 0) (r := 36) rfl rfl
theorem g_5_1 : Rn d ((22, 1, 3) :: os) y lo (.inr (.inr 5) :: st) M Q = Rn d os y lo (.inr (.inr 37) :: st) M Q := s_22R (k := 1) (r := 37) rfl rfl
theorem g_5_2 : Rn d ((22, 2, 3) :: os) y lo (.inr (.inr 5) :: st) M Q = Rn d os y lo (.inl (M 5 2) :: st) M Q := s_22I (k := 2) rfl (Or.inl rfl)
theorem p_5_2 {v : Int} : Rn d ((23, 2, 3) :: os) y lo (.inl v :: .inr (.inr 5) :: st) M Q = Rn d os y lo st (me_put M 5 2 v) Q := s_23I (k := 2) rfl rfl
theorem g_5_3 : Rn d ((22, 3, 3) :: os) y lo (.inr (.inr 5) :: st) M Q = Rn d os y lo (.inl (M 5 3) :: st) M Q := s_22I (k := 3) rfl (Or.inl rfl)
theorem p_5_3 {v : Int} : Rn d ((23, 3, 3) :: os) y lo (.inl v :: .inr (.inr 5) :: st) M Q = Rn d os y lo st (me_put M 5 3 v) Q := s_23I (k := 3) rfl rfl
theorem g_5_4 : Rn d ((22, 4, 3) :: os) y lo (.inr (.inr 5) :: st) M Q = Rn d os y lo (.inl (M 5 4) :: st) M Q := s_22I (k := 4) rfl (Or.inl rfl)
theorem p_5_4 {v : Int} : Rn d ((23, 4, 3) :: os) y lo (.inl v :: .inr (.inr 5) :: st) M Q = Rn d os y lo st (me_put M 5 4 v) Q := s_23I (k := 4) rfl rfl
theorem g_5_5 : Rn d ((22, 5, 3) :: os) y lo (.inr (.inr 5) :: st) M Q = Rn d os y lo (.inl (M 5 5) :: st) M Q := s_22I (k := 5) rfl (Or.inl rfl)
theorem p_5_5 {v : Int} : Rn d ((23, 5, 3) :: os) y lo (.inl v :: .inr (.inr 5) :: st) M Q = Rn d os y lo st (me_put M 5 5 v) Q := s_23I (k := 5) rfl rfl
theorem g_6_0 : Rn d ((22, 0, 4) :: os) y lo (.inr (.inr 6) :: st) M Q = Rn d os y lo (.inr (.inr 8) :: st) M Q := s_22R (k := 0) (r := 8) rfl rfl
theorem g_6_1 : Rn d ((22, 1, 4) :: os) y lo (.inr (.inr 6) :: st) M Q = Rn d os y lo (.inr (.inr 38) :: st) M Q := s_22R (k := 1) (r := 38) rfl rfl
theorem g_6_2 : Rn d ((22, 2, 4) :: os) y lo (.inr (.inr 6) :: st) M Q = Rn d os y lo (.inl (M 6 2) :: st) M Q := s_22I (k := 2) rfl (Or.inr rfl)
theorem p_6_2 {v : Int} : Rn d ((23, 2, 4) :: os) y lo (.inl v :: .inr (.inr 6) :: st) M Q = ((v = 0 ∨ v = 1) ∧ Rn d os y lo st (me_put M 6 2 v) Q) := s_23Z (k := 2) rfl rfl
theorem g_7_0 : Rn d ((22, 0, 2) :: os) y lo (.inr (.inr 7) :: st) M Q = Rn d os y lo (.inr (.inr 39) :: st) M Q := s_22R (k := 0) (r := 39) rfl rfl
theorem g_7_1 : Rn d ((22, 1, 2) :: os) y lo (.inr (.inr 7) :: st) M Q = Rn d os y lo (.inr (.inr 40) :: st) M Q := s_22R (k := 1) (r := 40) rfl rfl
theorem g_7_2 : Rn d ((22, 2, 2) :: os) y lo (.inr (.inr 7) :: st) M Q = Rn d os y lo (.inr (.inr 41) :: st) M Q := s_22R (k := 2) (r := 41) rfl rfl
theorem g_7_3 : Rn d ((22, 3, 2) :: os) y lo (.inr (.inr 7) :: st) M Q = Rn d os y lo (.inr (.inr 42) :: st) M Q := s_22R (k := 3) (r := 42) rfl rfl
theorem g_7_4 : Rn d ((22, 4, 2) :: os) y lo (.inr (.inr 7) :: st) M Q = Rn d os y lo (.inr (.inr 43) :: st) M Q := s_22R (k := 4) (r := 43) rfl rfl
theorem g_7_5 : Rn d ((22, 5, 2) :: os) y lo (.inr (.inr 7) :: st) M Q = Rn d os y lo (.inr (.inr 44) :: st) M Q := s_22R (k := 5) (r := 44) rfl rfl
theorem g_7_6 : Rn d ((22, 6, 2) :: os) y lo (.inr (.inr 7) :: st) M Q = Rn d os y lo (.inr (.inr 45) :: st) M Q := s_22R (k := 6) (r := 45) rfl rfl
theorem g_7_7 : Rn d ((22, 7, 2) :: os) y lo (.inr (.inr 7) :: st) M Q = Rn d os y lo (.inr (.inr 46) :: st) M Q := s_22R (k := 7) (r := 46) rfl rfl
theorem g_7_8 : Rn d ((22, 8, 2) :: os) y lo (.inr (.inr 7) :: st) M Q = Rn d os y lo (.inr (.inr 47) :: st) M Q := s_22R (k := 8) (r := 47) rfl rfl
theorem g_7_9 : Rn d ((22, 9, 2) :: os) y lo (.inr (.inr 7) :: st) M Q = Rn d os y lo (.inl (M 7 9) :: st) M Q := s_22I (k := 9) rfl (Or.inl rfl)
theorem p_7_9 {v : Int} : Rn d ((23, 9, 2) :: os) y lo (.inl v :: .inr (.inr 7) :: st) M Q = Rn d os y lo st (me_put M 7 9 v) Q := s_23I (k := 9) rfl rfl
theorem g_7_10 : Rn d ((22, 10, 2) :: os) y lo (.inr (.inr 7) :: st) M Q = Rn d os y lo (.inl (M 7 10) :: st) M Q := s_22I (k := 10) rfl (Or.inl rfl)
theorem p_7_10 {v : Int} : Rn d ((23, 10, 2) :: os) y lo (.inl v :: .inr (.inr 7) :: st) M Q = Rn d os y lo st (me_put M 7 10 v) Q := s_23I (k := 10) rfl rfl
theorem g_7_11 : Rn d ((22, 11, 2) :: os) y lo (.inr (.inr 7) :: st) M Q = Rn d os y lo (.inl (M 7 11) :: st) M Q := s_22I (k := 11) rfl (Or.inl rfl)
theorem p_7_11 {v : Int} : Rn d ((23, 11, 2) :: os) y lo (.inl v :: .inr (.inr 7) :: st) M Q = Rn d os y lo st (me_put M 7 11 v) Q := s_23I (k := 11) rfl rfl
theorem g_7_12 : Rn d ((22, 12, 2) :: os) y lo (.inr (.inr 7) :: st) M Q = Rn d os y lo (.inl (M 7 12) :: st) M Q := s_22I (k := 12) rfl (Or.inl rfl)
theorem p_7_12 {v : Int} : Rn d ((23, 12, 2) :: os) y lo (.inl v :: .inr (.inr 7) :: st) M Q = Rn d os y lo st (me_put M 7 12 v) Q := s_23I (k := 12) rfl rfl
theorem g_7_13 : Rn d ((22, 13, 2) :: os) y lo (.inr (.inr 7) :: st) M Q = Rn d os y lo (.inl (M 7 13) :: st) M Q := s_22I (k := 13) rfl (Or.inl rfl)
theorem p_7_13 {v : Int} : Rn d ((23, 13, 2) :: os) y lo (.inl v :: .inr (.inr 7) :: st) M Q = Rn d os y lo st (me_put M 7 13 v) Q := s_23I (k := 13) rfl rfl
theorem g_7_14 : Rn d ((22, 14, 2) :: os) y lo (.inr (.inr 7) :: st) M Q = Rn d os y lo (.inl (M 7 14) :: st) M Q := s_22I (k := 14) rfl (Or.inl rfl)
theorem p_7_14 {v : Int} : Rn d ((23, 14, 2) :: os) y lo (.inl v :: .inr (.inr 7) :: st) M Q = Rn d os y lo st (me_put M 7 14 v) Q := s_23I (k := 14) rfl rfl
theorem g_7_15 : Rn d ((22, 15, 2) :: os) y lo (.inr (.inr 7) :: st) M Q = Rn d os y lo (.inl (M 7 15) :: st) M Q := s_22I (k := 15) rfl (Or.inl rfl)
theorem p_7_15 {v : Int} : Rn d ((23, 15, 2) :: os) y lo (.inl v :: .inr (.inr 7) :: st) M Q = Rn d os y lo st (me_put M 7 15 v) Q := s_23I (k := 15) rfl rfl
theorem g_7_16 : Rn d ((22, 16, 2) :: os) y lo (.inr (.inr 7) :: st) M Q = Rn d os y lo (.inl (M 7 16) :: st) M Q := s_22I (k := 16) rfl (Or.inl rfl)
theorem p_7_16 {v : Int} : Rn d ((23, 16, 2) :: os) y lo (.inl v :: .inr (.inr 7) :: st) M Q = Rn d os y lo st (me_put M 7 16 v) Q := s_23I (k := 16) rfl rfl
theorem g_7_17 : Rn d ((22, 17, 2) :: os) y lo (.inr (.inr 7) :: st) M Q = Rn d os y lo (.inl (M 7 17) :: st) M Q := s_22I (k := 17) rfl (Or.inr rfl)
theorem p_7_17 {v : Int} : Rn d ((23, 17, 2) :: os) y lo (.inl v :: .inr (.inr 7) :: st) M Q = ((v = 0 ∨ v = 1) ∧ Rn d os y lo st (me_put M 7 17 v) Q) := s_23Z (k := 17) rfl rfl
theorem g_8_0 : Rn d ((22, 0, 3) :: os) y lo (.inr (.inr 8) :: st) M Q = Rn d os y lo (.inr (.inr 48) :: st) M Q := s_22R (k := 0) (r := 48) rfl rfl
theorem g_8_1 : Rn d ((22, 1, 3) :: os) y lo (.inr (.inr 8) :: st) M Q = Rn d os y lo (.inr (.inr 49) :: st) M Q := s_22R (k := 1) (r := 49) rfl rfl
theorem g_8_2 : Rn d ((22, 2, 3) :: os) y lo (.inr (.inr 8) :: st) M Q = Rn d os y lo (.inl (M 8 2) :: st) M Q := s_22I (k := 2) rfl (Or.inl rfl)
theorem p_8_2 {v : Int} : Rn d ((23, 2, 3) :: os) y lo (.inl v :: .inr (.inr 8) :: st) M Q = Rn d os y lo st (me_put M 8 2 v) Q := s_23I (k := 2) rfl rfl
theorem g_8_3 : Rn d ((22, 3, 3) :: os) y lo (.inr (.inr 8) :: st) M Q = Rn d os y lo (.inl (M 8 3) :: st) M Q := s_22I (k := 3) rfl (Or.inl rfl)
theorem p_8_3 {v : Int} : Rn d ((23, 3, 3) :: os) y lo (.inl v :: .inr (.inr 8) :: st) M Q = Rn d os y lo st (me_put M 8 3 v) Q := s_23I (k := 3) rfl rfl
theorem g_8_4 : Rn d ((22, 4, 3) :: os) y lo (.inr (.inr 8) :: st) M Q = Rn d os y lo (.inl (M 8 4) :: st) M Q := s_22I (k := 4) rfl (Or.inl rfl)
theorem p_8_4 {v : Int} : Rn d ((23, 4, 3) :: os) y lo (.inl v :: .inr (.inr 8) :: st) M Q = Rn d os y lo st (me_put M 8 4 v) Q := s_23I (k := 4) rfl rfl
theorem g_8_5 : Rn d ((22, 5, 3) :: os) y lo (.inr (.inr 8) :: st) M Q = Rn d os y lo (.inl (M 8 5) :: st) M Q := s_22I (k := 5) rfl (Or.inl rfl)
theorem p_8_5 {v : Int} : Rn d ((23, 5, 3) :: os) y lo (.inl v :: .inr (.inr 8) :: st) M Q = Rn d os y lo st (me_put M 8 5 v) Q := s_23I (k := 5) rfl rfl
theorem g_50_0 : Rn d ((22, 0, 8) :: os) y lo (.inr (.inr 50) :: st) M Q = Rn d os y lo (.inl (M 50 0) :: st) M Q := s_22I (k := 0) rfl (Or.inl rfl)
theorem p_50_0 {v : Int} : Rn d ((23, 0, 8) :: os) y lo (.inl v :: .inr (.inr 50) :: st) M Q = Rn d os y lo st (me_put M 50 0 v) Q := s_23I (k := 0) rfl rfl
theorem g_50_1 : Rn d ((22, 1, 8) :: os) y lo (.inr (.inr 50) :: st) M Q = Rn d os y lo (.inl (M 50 1) :: st) M Q := s_22I (k := 1) rfl (Or.inl rfl)
theorem p_50_1 {v : Int} : Rn d ((23, 1, 8) :: os) y lo (.inl v :: .inr (.inr 50) :: st) M Q = Rn d os y lo st (me_put M 50 1 v) Q := s_23I (k := 1) rfl rfl
theorem g_50_2 : Rn d ((22, 2, 8) :: os) y lo (.inr (.inr 50) :: st) M Q = Rn d os y lo (.inr (.inr 51) :: st) M Q := s_22R (k := 2) (r := 51) rfl rfl
theorem g_50_3 : Rn d ((22, 3, 8) :: os) y lo (.inr (.inr 50) :: st) M Q = Rn d os y lo (.inr (.inr 52) :: st) M Q := s_22R (k := 3) (r := 52) rfl rfl
theorem g_50_4 : Rn d ((22, 4, 8) :: os) y lo (.inr (.inr 50) :: st) M Q = Rn d os y lo (.inr (.inr 53) :: st) M Q := s_22R (k := 4) (r := 53) rfl rfl
theorem g_50_5 : Rn d ((22, 5, 8) :: os) y lo (.inr (.inr 50) :: st) M Q = Rn d os y lo (.inr (.inr 54) :: st) M Q := s_22R (k := 5) (r := 54) rfl rfl
theorem g_50_6 : Rn d ((22, 6, 8) :: os) y lo (.inr (.inr 50) :: st) M Q = Rn d os y lo (.inr (.inr 55) :: st) M Q := s_22R (k := 6) (r := 55) rfl rfl
theorem g_50_7 : Rn d ((22, 7, 8) :: os) y lo (.inr (.inr 50) :: st) M Q = Rn d os y lo (.inr (.inr 56) :: st) M Q := s_22R (k := 7) (r := 56) rfl rfl
theorem g_50_8 : Rn d ((22, 8, 8) :: os) y lo (.inr (.inr 50) :: st) M Q = Rn d os y lo (.inr (.inr 57) :: st) M Q := s_22R (k := 8) (r := 57) rfl rfl
theorem g_50_9 : Rn d ((22, 9, 8) :: os) y lo (.inr (.inr 50) :: st) M Q = Rn d os y lo (.inl (M 50 9) :: st) M Q := s_22I (k := 9) rfl (Or.inl rfl)
theorem p_50_9 {v : Int} : Rn d ((23, 9, 8) :: os) y lo (.inl v :: .inr (.inr 50) :: st) M Q = Rn d os y lo st (me_put M 50 9 v) Q := s_23I (k := 9) rfl rfl
theorem g_50_10 : Rn d ((22, 10, 8) :: os) y lo (.inr (.inr 50) :: st) M Q = Rn d os y lo (.inr (.inr 58) :: st) M Q := s_22R (k := 10) (r := 58) rfl rfl
theorem g_50_11 : Rn d ((22, 11, 8) :: os) y lo (.inr (.inr 50) :: st) M Q = Rn d os y lo (.inr (.inr 59) :: st) M Q := s_22R (k := 11) (r := 59) rfl rfl
theorem g_50_12 : Rn d ((22, 12, 8) :: os) y lo (.inr (.inr 50) :: st) M Q = Rn d os y lo (.inr (.inr 60) :: st) M Q := s_22R (k := 12) (r := 60) rfl rfl
theorem g_50_13 : Rn d ((22, 13, 8) :: os) y lo (.inr (.inr 50) :: st) M Q = Rn d os y lo (.inr (.inr 61) :: st) M Q := s_22R (k := 13) (r := 61) rfl rfl
theorem g_50_14 : Rn d ((22, 14, 8) :: os) y lo (.inr (.inr 50) :: st) M Q = Rn d os y lo (.inr (.inr 62) :: st) M Q := s_22R (k := 14) (r := 62) rfl rfl
theorem g_50_15 : Rn d ((22, 15, 8) :: os) y lo (.inr (.inr 50) :: st) M Q = Rn d os y lo (.inr (.inr 63) :: st) M Q := s_22R (k := 15) (r := 63) rfl rfl
theorem g_50_16 : Rn d ((22, 16, 8) :: os) y lo (.inr (.inr 50) :: st) M Q = Rn d os y lo (.inr (.inr 64) :: st) M Q := s_22R (k := 16) (r := 64) rfl rfl
theorem g_50_17 : Rn d ((22, 17, 8) :: os) y lo (.inr (.inr 50) :: st) M Q = Rn d os y lo (.inr (.inr 65) :: st) M Q := s_22R (k := 17) (r := 65) rfl rfl
theorem g_50_18 : Rn d ((22, 18, 8) :: os) y lo (.inr (.inr 50) :: st) M Q = Rn d os y lo (.inl (M 50 18) :: st) M Q := s_22I (k := 18) rfl (Or.inl rfl)
theorem p_50_18 {v : Int} : Rn d ((23, 18, 8) :: os) y lo (.inl v :: .inr (.inr 50) :: st) M Q = Rn d os y lo st (me_put M 50 18 v) Q := s_23I (k := 18) rfl rfl
theorem g_50_19 : Rn d ((22, 19, 8) :: os) y lo (.inr (.inr 50) :: st) M Q = Rn d os y lo (.inl (M 50 19) :: st) M Q := s_22I (k := 19) rfl (Or.inl rfl)
theorem p_50_19 {v : Int} : Rn d ((23, 19, 8) :: os) y lo (.inl v :: .inr (.inr 50) :: st) M Q = Rn d os y lo st (me_put M 50 19 v) Q := s_23I (k := 19) rfl rfl
theorem g_50_20 : Rn d ((22, 20, 8) :: os) y lo (.inr (.inr 50) :: st) M Q = Rn d os y lo (.inr (.inr 66) :: st) M Q := s_22R (k := 20) (r := 66) rfl rfl
theorem g_50_21 : Rn d ((22, 21, 8) :: os) y lo (.inr (.inr 50) :: st) M Q = Rn d os y lo (.inr (.inr 67) :: st) M Q := s_22R (k := 21) (r := 67) rfl rfl
theorem g_50_22 : Rn d ((22, 22, 8) :: os) y lo (.inr (.inr 50) :: st) M Q = Rn d os y lo (.inr (.inr 68) :: st) M Q := s_22R (k := 22) (r := 68) rfl rfl
theorem g_50_23 : Rn d ((22, 23, 8) :: os) y lo (.inr (.inr 50) :: st) M Q = Rn d os y lo (.inl (M 50 23) :: st) M Q := s_22I (k := 23) rfl (Or.inl rfl)
theorem p_50_23 {v : Int} : Rn d ((23, 23, 8) :: os) y lo (.inl v :: .inr (.inr 50) :: st) M Q = Rn d os y lo st (me_put M 50 23 v) Q := s_23I (k := 23) rfl rfl
theorem g_50_24 : Rn d ((22, 24, 8) :: os) y lo (.inr (.inr 50) :: st) M Q = Rn d os y lo (.inr (.inr 69) :: st) M Q := s_22R (k := 24) (r := 69) rfl rfl
theorem g_50_25 : Rn d ((22, 25, 8) :: os) y lo (.inr (.inr 50) :: st) M Q = Rn d os y lo (.inr (.inr 70) :: st) M Q := s_22R (k := 25) (r := 70) rfl rfl
theorem g_50_26 : Rn d ((22, 26, 8) :: os) y lo (.inr (.inr 50) :: st) M Q = Rn d os y lo (.inr (.inr 71) :: st) M Q := s_22R (k := 26) (r := 71) rfl rfl
theorem g_50_27 : Rn d ((22, 27, 8) :: os) y lo (.inr (.inr 50) :: st) M Q = Rn d os y lo (.inr (.inr 72) :: st) M Q := s_22R (k := 27) (r := 72) rfl rfl
theorem g_50_28 : Rn d ((22, 28, 8) :: os) y lo (.inr (.inr 50) :: st) M Q = Rn d os y lo (.inr (.inr 73) :: st) M Q := s_22R (k := 28) (r := 73) rfl rfl
theorem g_50_29 : Rn d ((22, 29, 8) :: os) y lo (.inr (.inr 50) :: st) M Q = Rn d os y lo (.inr (.inr 74) :: st) M Q := s_22R (k := 29) (r := 74) rfl rfl
theorem g_50_30 : Rn d ((22, 30, 8) :: os) y lo (.inr (.inr 50) :: st) M Q = Rn d os y lo (.inr (.inr 75) :: st) M Q := s_22R (k := 30) (r := 75) rfl rfl
theorem g_50_31 : Rn d ((22, 31, 8) :: os) y lo (.inr (.inr 50) :: st) M Q = Rn d os y lo (.inr (.inr 76) :: st) M Q := s_22R (k := 31) (r := 76) rfl rfl
theorem g_50_32 : Rn d ((22, 32, 8) :: os) y lo (.inr (.inr 50) :: st) M Q = Rn d os y lo (.inr (.inr 77) :: st) M Q := s_22R (k := 32) (r := 77) rfl rfl
theorem g_50_33 : Rn d ((22, 33, 8) :: os) y lo (.inr (.inr 50) :: st) M Q = Rn d os y lo (.inr (.inr 78) :: st) M Q := s_22R (k := 33) (r := 78) rfl rfl
theorem g_50_34 : Rn d ((22, 34, 8) :: os) y lo (.inr (.inr 50) :: st) M Q = Rn d os y lo (.inr (.inr 79) :: st) M Q := s_22R (k := 34) (r := 79) rfl rfl
theorem g_50_35 : Rn d ((22, 35, 8) :: os) y lo (.inr (.inr 50) :: st) M Q = Rn d os y lo (.inr (.inr 80) :: st) M Q := s_22R (k := 35) (r := 80) rfl rfl
theorem g_50_36 : Rn d ((22, 36, 8) :: os) y lo (.inr (.inr 50) :: st) M Q = Rn d os y lo (.inr (.inr 81) :: st) M Q := s_22R (k := 36) (r := 81) rfl rfl
theorem g_50_37 : Rn d ((22, 37, 8) :: os) y lo (.inr (.inr 50) :: st) M Q = Rn d os y lo (.inr (.inr 82) :: st) M Q := s_22R (k := 37) (r := 82) rfl rfl
theorem g_50_38 : Rn d ((22, 38, 8) :: os) y lo (.inr (.inr 50) :: st) M Q = Rn d os y lo (.inr (.inr 83) :: st) M Q := s_22R (k := 38) (r := 83) rfl rfl
theorem g_50_39 : Rn d ((22, 39, 8) :: os) y lo (.inr (.inr 50) :: st) M Q = Rn d os y lo (.inr (.inr 84) :: st) M Q := s_22R (k := 39) (r := 84) rfl rfl
theorem g_50_40 : Rn d ((22, 40, 8) :: os) y lo (.inr (.inr 50) :: st) M Q = Rn d os y lo (.inr (.inr 85) :: st) M Q := s_22R (k := 40) (r := 85) rfl rfl
theorem g_50_41 : Rn d ((22, 41, 8) :: os) y lo (.inr (.inr 50) :: st) M Q = Rn d os y lo (.inl (M 50 41) :: st) M Q := s_22I (k := 41) rfl (Or.inl rfl)
theorem p_50_41 {v : Int} : Rn d ((23, 41, 8) :: os) y lo (.inl v :: .inr (.inr 50) :: st) M Q = Rn d os y lo st (me_put M 50 41 v) Q := s_23I (k := 41) rfl rfl
theorem g_50_42 : Rn d ((22, 42, 8) :: os) y lo (.inr (.inr 50) :: st) M Q = Rn d os y lo (.inl (M 50 42) :: st) M Q := s_22I (k := 42) rfl (Or.inl rfl)
theorem p_50_42 {v : Int} : Rn d ((23, 42, 8) :: os) y lo (.inl v :: .inr (.inr 50) :: st) M Q = Rn d os y lo st (me_put M 50 42 v) Q := s_23I (k := 42) rfl rfl
theorem g_50_43 : Rn d ((22, 43, 8) :: os) y lo (.inr (.inr 50) :: st) M Q = Rn d os y lo (.inl (M 50 43) :: st) M Q := s_22I (k := 43) rfl (Or.inl rfl)
theorem p_50_43 {v : Int} : Rn d ((23, 43, 8) :: os) y lo (.inl v :: .inr (.inr 50) :: st) M Q = Rn d os y lo st (me_put M 50 43 v) Q := s_23I (k := 43) rfl rfl
end RW
theorem kd_0 : kd 0 = 0 := rfl
theorem kd_1 : kd 1 = 0 := rfl
theorem kd_2 : kd 2 = 0 := rfl
theorem kd_3 : kd 3 = 0 := rfl
theorem kd_4 : kd 4 = 0 := rfl
theorem kd_5 : kd 5 = 0 := rfl
theorem kd_6 : kd 6 = 0 := rfl
theorem kd_7 : kd 7 = 0 := rfl
theorem kd_8 : kd 8 = 0 := rfl
theorem kd_9 : kd 9 = 2 := rfl
theorem ln_9 : ln 9 = 10 := rfl
theorem kd_10 : kd 10 = 1 := rfl
theorem ln_10 : ln 10 = 10 := rfl
theorem kd_11 : kd 11 = 1 := rfl
theorem ln_11 : ln 11 = 10 := rfl
theorem kd_12 : kd 12 = 1 := rfl
theorem ln_12 : ln 12 = 10 := rfl
theorem kd_13 : kd 13 = 1 := rfl
theorem ln_13 : ln 13 = 10 := rfl
theorem kd_14 : kd 14 = 1 := rfl
theorem ln_14 : ln 14 = 10 := rfl
theorem kd_15 : kd 15 = 1 := rfl
theorem ln_15 : ln 15 = 10 := rfl
theorem kd_16 : kd 16 = 1 := rfl
theorem ln_16 : ln 16 = 100 := rfl
theorem kd_17 : kd 17 = 1 := rfl
theorem ln_17 : ln 17 = 12 := rfl
theorem kd_18 : kd 18 = 1 := rfl
theorem ln_18 : ln 18 = 12 := rfl
theorem kd_19 : kd 19 = 1 := rfl
theorem ln_19 : ln 19 = 12 := rfl
theorem kd_20 : kd 20 = 1 := rfl
theorem ln_20 : ln 20 = 12 := rfl
theorem kd_21 : kd 21 = 1 := rfl
theorem ln_21 : ln 21 = 12 := rfl
theorem kd_22 : kd 22 = 1 := rfl
theorem ln_22 : ln 22 = 12 := rfl
theorem kd_23 : kd 23 = 1 := rfl
theorem ln_23 : ln 23 = 12 := rfl
theorem kd_24 : kd 24 = 1 := rfl
theorem ln_24 : ln 24 = 1200 := rfl
theorem kd_25 : kd 25 = 1 := rfl
theorem ln_25 : ln 25 = 12 := rfl
theorem kd_26 : kd 26 = 1 := rfl
theorem ln_26 : ln 26 = 12 := rfl
theorem kd_27 : kd 27 = 1 := rfl
theorem ln_27 : ln 27 = 12 := rfl
theorem kd_28 : kd 28 = 1 := rfl
theorem ln_28 : ln 28 = 12 := rfl
theorem kd_29 : kd 29 = 1 := rfl
theorem ln_29 : ln 29 = 120 := rfl
theorem kd_30 : kd 30 = 1 := rfl
theorem ln_30 : ln 30 = 10 := rfl
theorem kd_31 : kd 31 = 1 := rfl
theorem ln_31 : ln 31 = 120 := rfl
theorem kd_32 : kd 32 = 1 := rfl
theorem ln_32 : ln 32 = 10 := rfl
theorem kd_33 : kd 33 = 1 := rfl
theorem ln_33 : ln 33 = 100 := rfl
theorem kd_34 : kd 34 = 1 := rfl
theorem ln_34 : ln 34 = 100 := rfl
theorem kd_35 : kd 35 = 1 := rfl
theorem ln_35 : ln 35 = 100 := rfl
theorem kd_36 : kd 36 = 1 := rfl
theorem ln_36 : ln 36 = 10 := rfl
theorem kd_37 : kd 37 = 1 := rfl
theorem ln_37 : ln 37 = 12 := rfl
theorem kd_38 : kd 38 = 1 := rfl
theorem ln_38 : ln 38 = 1010 := rfl
theorem kd_39 : kd 39 = 1 := rfl
theorem ln_39 : ln 39 = 101 := rfl
theorem kd_40 : kd 40 = 1 := rfl
theorem ln_40 : ln 40 = 10 := rfl
theorem kd_41 : kd 41 = 1 := rfl
theorem ln_41 : ln 41 = 1010 := rfl
theorem kd_42 : kd 42 = 1 := rfl
theorem ln_42 : ln 42 = 1200 := rfl
theorem kd_43 : kd 43 = 1 := rfl
theorem ln_43 : ln 43 = 1010 := rfl
theorem kd_44 : kd 44 = 1 := rfl
theorem ln_44 : ln 44 = 1010 := rfl
theorem kd_45 : kd 45 = 1 := rfl
theorem ln_45 : ln 45 = 1010 := rfl
theorem kd_46 : kd 46 = 1 := rfl
theorem ln_46 : ln 46 = 1010 := rfl
theorem kd_47 : kd 47 = 1 := rfl
theorem ln_47 : ln 47 = 1200 := rfl
theorem kd_48 : kd 48 = 1 := rfl
theorem ln_48 : ln 48 = 10 := rfl
theorem kd_49 : kd 49 = 1 := rfl
theorem ln_49 : ln 49 = 12 := rfl
theorem kd_50 : kd 50 = 0 := rfl
theorem kd_51 : kd 51 = 2 := rfl
theorem ln_51 : ln 51 = 10 := rfl
theorem kd_52 : kd 52 = 1 := rfl
theorem ln_52 : ln 52 = 10 := rfl
theorem kd_53 : kd 53 = 1 := rfl
theorem ln_53 : ln 53 = 10 := rfl
theorem kd_54 : kd 54 = 1 := rfl
theorem ln_54 : ln 54 = 10 := rfl
theorem kd_55 : kd 55 = 1 := rfl
theorem ln_55 : ln 55 = 10 := rfl
theorem kd_56 : kd 56 = 1 := rfl
theorem ln_56 : ln 56 = 10 := rfl
theorem kd_57 : kd 57 = 1 := rfl
theorem ln_57 : ln 57 = 100 := rfl
theorem kd_58 : kd 58 = 1 := rfl
theorem ln_58 : ln 58 = 12 := rfl
theorem kd_59 : kd 59 = 1 := rfl
theorem ln_59 : ln 59 = 12 := rfl
theorem kd_60 : kd 60 = 1 := rfl
theorem ln_60 : ln 60 = 12 := rfl
theorem kd_61 : kd 61 = 1 := rfl
theorem ln_61 : ln 61 = 12 := rfl
theorem kd_62 : kd 62 = 1 := rfl
theorem ln_62 : ln 62 = 12 := rfl
theorem kd_63 : kd 63 = 1 := rfl
theorem ln_63 : ln 63 = 12 := rfl
theorem kd_64 : kd 64 = 1 := rfl
theorem ln_64 : ln 64 = 12 := rfl
theorem kd_65 : kd 65 = 1 := rfl
theorem ln_65 : ln 65 = 1212 := rfl
theorem kd_66 : kd 66 = 1 := rfl
theorem ln_66 : ln 66 = 100 := rfl
theorem kd_67 : kd 67 = 1 := rfl
theorem ln_67 : ln 67 = 100 := rfl
theorem kd_68 : kd 68 = 1 := rfl
theorem ln_68 : ln 68 = 100 := rfl
theorem kd_69 : kd 69 = 1 := rfl
theorem ln_69 : ln 69 = 12 := rfl
theorem kd_70 : kd 70 = 1 := rfl
theorem ln_70 : ln 70 = 12 := rfl
theorem kd_71 : kd 71 = 1 := rfl
theorem ln_71 : ln 71 = 12 := rfl
theorem kd_72 : kd 72 = 1 := rfl
theorem ln_72 : ln 72 = 12 := rfl
theorem kd_73 : kd 73 = 1 := rfl
theorem ln_73 : ln 73 = 20 := rfl
theorem kd_74 : kd 74 = 1 := rfl
theorem ln_74 : ln 74 = 24 := rfl
theorem kd_75 : kd 75 = 1 := rfl
theorem ln_75 : ln 75 = 2 := rfl
theorem kd_76 : kd 76 = 3 := rfl
theorem ln_76 : ln 76 = 2 := rfl
theorem kd_77 : kd 77 = 3 := rfl
theorem ln_77 : ln 77 = 2 := rfl
theorem kd_78 : kd 78 = 1 := rfl
theorem ln_78 : ln 78 = 1010 := rfl
theorem kd_79 : kd 79 = 1 := rfl
theorem ln_79 : ln 79 = 10 := rfl
theorem kd_80 : kd 80 = 1 := rfl
theorem ln_80 : ln 80 = 1010 := rfl
theorem kd_81 : kd 81 = 1 := rfl
theorem ln_81 : ln 81 = 1212 := rfl
theorem kd_82 : kd 82 = 2 := rfl
theorem ln_82 : ln 82 = 1010 := rfl
theorem kd_83 : kd 83 = 1 := rfl
theorem ln_83 : ln 83 = 1010 := rfl
theorem kd_84 : kd 84 = 1 := rfl
theorem ln_84 : ln 84 = 1010 := rfl
theorem kd_85 : kd 85 = 1 := rfl
theorem ln_85 : ln 85 = 1010 := rfl
theorem bq0_0 : blk 0 0 = [(3, 0, 0), (1, 3, 0), (32, 1, 0)] := rfl
theorem bq0_1 : blk 0 1 = [(0, 3, 0), (47, 0, 0), (45, 0, 0), (3, 0, 6), (7, 0, 0), (30, 27, 4), (47, 0, 0), (0, 3, 0), (44, 0, 0), (3, 0, 31), (9, 0, 0), (36, 0, 0)] := rfl
theorem bq0_2 : blk 0 2 = [(47, 1, 0), (47, 0, 0), (0, 3, 0), (3, 0, 1), (6, 0, 0), (44, 0, 0), (47, 0, 0), (0, 3, 0), (3, 0, 2), (6, 0, 0), (44, 0, 0), (47, 0, 0), (0, 3, 0), (3, 0, 3), (6, 0, 0), (44, 0, 0), (54, 52, 1), (47, 2, 0), (47, 0, 0), (0, 3, 0), (3, 0, 1), (6, 0, 0), (44, 0, 0), (47, 0, 0), (0, 3, 0), (3, 0, 2), (6, 0, 0), (44, 0, 0), (47, 0, 0), (0, 3, 0), (3, 0, 3), (6, 0, 0), (44, 0, 0), (54, 90, 1), (30, 26, 0), (3, 0, 0), (37, 0, 1)] := rfl
theorem bq0_3 : blk 0 3 = [(47, 1, 0), (47, 0, 0), (0, 3, 0), (3, 0, 1), (6, 0, 0), (44, 0, 0), (47, 0, 0), (0, 3, 0), (3, 0, 2), (6, 0, 0), (44, 0, 0), (47, 0, 0), (0, 3, 0), (3, 0, 3), (6, 0, 0), (44, 0, 0), (47, 0, 0), (0, 3, 0), (3, 0, 4), (6, 0, 0), (44, 0, 0), (55, 53, 1), (47, 2, 0), (47, 0, 0), (0, 3, 0), (3, 0, 1), (6, 0, 0), (44, 0, 0), (47, 0, 0), (0, 3, 0), (3, 0, 2), (6, 0, 0), (44, 0, 0), (47, 0, 0), (0, 3, 0), (3, 0, 3), (6, 0, 0), (44, 0, 0), (47, 0, 0), (0, 3, 0), (3, 0, 4), (6, 0, 0), (44, 0, 0), (55, 91, 1), (30, 26, 0), (3, 0, 0), (37, 0, 1)] := rfl
theorem bq0_4 : blk 0 4 = [(47, 1, 0), (47, 0, 0), (0, 3, 0), (3, 0, 1), (6, 0, 0), (44, 0, 0), (47, 0, 0), (0, 3, 0), (3, 0, 2), (6, 0, 0), (44, 0, 0), (47, 0, 0), (0, 3, 0), (3, 0, 3), (6, 0, 0), (44, 0, 0), (47, 0, 0), (0, 3, 0), (3, 0, 4), (6, 0, 0), (44, 0, 0), (47, 0, 0), (0, 3, 0), (3, 0, 5), (6, 0, 0), (44, 0, 0), (56, 54, 1), (47, 2, 0), (47, 0, 0), (0, 3, 0), (3, 0, 1), (6, 0, 0), (44, 0, 0), (47, 0, 0), (0, 3, 0), (3, 0, 2), (6, 0, 0), (44, 0, 0), (47, 0, 0), (0, 3, 0), (3, 0, 3), (6, 0, 0), (44, 0, 0), (47, 0, 0), (0, 3, 0), (3, 0, 4), (6, 0, 0), (44, 0, 0), (47, 0, 0), (0, 3, 0), (3, 0, 5), (6, 0, 0), (44, 0, 0), (56, 92, 1), (30, 26, 0), (3, 0, 0), (37, 0, 1)] := rfl
theorem bq0_5 : blk 0 5 = [(47, 1, 0), (47, 0, 0), (0, 3, 0), (3, 0, 1), (6, 0, 0), (44, 0, 0), (47, 0, 0), (0, 3, 0), (3, 0, 2), (6, 0, 0), (44, 0, 0), (47, 0, 0), (0, 3, 0), (3, 0, 3), (6, 0, 0), (44, 0, 0), (54, 55, 1), (47, 2, 0), (47, 0, 0), (0, 3, 0), (3, 0, 1), (6, 0, 0), (44, 0, 0), (47, 0, 0), (0, 3, 0), (3, 0, 2), (6, 0, 0), (44, 0, 0), (47, 0, 0), (0, 3, 0), (3, 0, 3), (6, 0, 0), (44, 0, 0), (54, 94, 1), (30, 26, 0), (3, 0, 0), (37, 0, 1)] := rfl
theorem bq0_6 : blk 0 6 = [(47, 1, 0), (47, 0, 0), (0, 3, 0), (3, 0, 1), (6, 0, 0), (44, 0, 0), (47, 0, 0), (0, 3, 0), (3, 0, 2), (6, 0, 0), (44, 0, 0), (53, 56, 1), (47, 2, 0), (47, 0, 0), (0, 3, 0), (3, 0, 1), (6, 0, 0), (44, 0, 0), (47, 0, 0), (0, 3, 0), (3, 0, 2), (6, 0, 0), (44, 0, 0), (53, 95, 1), (30, 26, 0), (3, 0, 0), (37, 0, 1)] := rfl
theorem bq0_7 : blk 0 7 = [(47, 1, 0), (47, 0, 0), (0, 3, 0), (3, 0, 1), (6, 0, 0), (44, 0, 0), (52, 57, 1), (47, 2, 0), (47, 0, 0), (0, 3, 0), (3, 0, 1), (6, 0, 0), (44, 0, 0), (52, 96, 1), (30, 26, 0), (3, 0, 0), (37, 0, 1)] := rfl
theorem bq0_8 : blk 0 8 = [(47, 1, 0), (47, 0, 0), (0, 3, 0), (3, 0, 1), (6, 0, 0), (44, 0, 0), (47, 0, 0), (0, 3, 0), (3, 0, 2), (6, 0, 0), (44, 0, 0), (53, 58, 1), (47, 2, 0), (47, 0, 0), (0, 3, 0), (3, 0, 1), (6, 0, 0), (44, 0, 0), (47, 0, 0), (0, 3, 0), (3, 0, 2), (6, 0, 0), (44, 0, 0), (53, 98, 1), (30, 26, 0), (3, 0, 0), (37, 0, 1)] := rfl
theorem bq0_9 : blk 0 9 = [(47, 1, 0), (47, 0, 0), (0, 3, 0), (3, 0, 1), (6, 0, 0), (44, 0, 0), (47, 0, 0), (0, 3, 0), (3, 0, 2), (6, 0, 0), (44, 0, 0), (47, 0, 0), (0, 3, 0), (3, 0, 3), (6, 0, 0), (44, 0, 0), (54, 59, 1), (47, 2, 0), (47, 0, 0), (0, 3, 0), (3, 0, 1), (6, 0, 0), (44, 0, 0), (47, 0, 0), (0, 3, 0), (3, 0, 2), (6, 0, 0), (44, 0, 0), (47, 0, 0), (0, 3, 0), (3, 0, 3), (6, 0, 0), (44, 0, 0), (54, 99, 1), (30, 26, 0), (3, 0, 0), (37, 0, 1)] := rfl
theorem bq0_10 : blk 0 10 = [(47, 1, 0), (47, 0, 0), (0, 3, 0), (3, 0, 1), (6, 0, 0), (44, 0, 0), (52, 60, 1), (47, 2, 0), (47, 0, 0), (0, 3, 0), (3, 0, 1), (6, 0, 0), (44, 0, 0), (52, 100, 1), (30, 26, 0), (3, 0, 0), (37, 0, 1)] := rfl
theorem bq0_11 : blk 0 11 = [(47, 1, 0), (51, 61, 1), (47, 2, 0), (51, 101, 1), (30, 26, 0), (3, 0, 0), (37, 0, 1)] := rfl
theorem bq0_12 : blk 0 12 = [(47, 1, 0), (47, 0, 0), (0, 3, 0), (3, 0, 1), (6, 0, 0), (44, 0, 0), (47, 0, 0), (0, 3, 0), (3, 0, 2), (6, 0, 0), (44, 0, 0), (47, 0, 0), (0, 3, 0), (3, 0, 3), (6, 0, 0), (44, 0, 0), (47, 0, 0), (0, 3, 0), (3, 0, 4), (6, 0, 0), (44, 0, 0), (55, 62, 1), (47, 2, 0), (47, 0, 0), (0, 3, 0), (3, 0, 1), (6, 0, 0), (44, 0, 0), (47, 0, 0), (0, 3, 0), (3, 0, 2), (6, 0, 0), (44, 0, 0), (47, 0, 0), (0, 3, 0), (3, 0, 3), (6, 0, 0), (44, 0, 0), (47, 0, 0), (0, 3, 0), (3, 0, 4), (6, 0, 0), (44, 0, 0), (55, 102, 1), (30, 26, 0), (3, 0, 0), (37, 0, 1)] := rfl
theorem bq0_13 : blk 0 13 = [(47, 1, 0), (47, 0, 0), (0, 3, 0), (3, 0, 1), (6, 0, 0), (44, 0, 0), (52, 63, 1), (47, 2, 0), (47, 0, 0), (0, 3, 0), (3, 0, 1), (6, 0, 0), (44, 0, 0), (52, 107, 1), (30, 26, 0), (3, 0, 0), (37, 0, 1)] := rfl
theorem bq0_14 : blk 0 14 = [(47, 1, 0), (47, 0, 0), (0, 3, 0), (3, 0, 1), (6, 0, 0), (44, 0, 0), (47, 0, 0), (0, 3, 0), (3, 0, 2), (6, 0, 0), (44, 0, 0), (53, 64, 1), (47, 2, 0), (47, 0, 0), (0, 3, 0), (3, 0, 1), (6, 0, 0), (44, 0, 0), (47, 0, 0), (0, 3, 0), (3, 0, 2), (6, 0, 0), (44, 0, 0), (53, 110, 1), (30, 26, 0), (3, 0, 0), (37, 0, 1)] := rfl
theorem bq0_15 : blk 0 15 = [(47, 1, 0), (47, 0, 0), (0, 3, 0), (3, 0, 1), (6, 0, 0), (44, 0, 0), (47, 0, 0), (0, 3, 0), (3, 0, 2), (6, 0, 0), (44, 0, 0), (53, 65, 1), (47, 2, 0), (47, 0, 0), (0, 3, 0), (3, 0, 1), (6, 0, 0), (44, 0, 0), (47, 0, 0), (0, 3, 0), (3, 0, 2), (6, 0, 0), (44, 0, 0), (53, 111, 1), (30, 26, 0), (3, 0, 0), (37, 0, 1)] := rfl
theorem bq0_16 : blk 0 16 = [(47, 1, 0), (47, 0, 0), (0, 3, 0), (3, 0, 1), (6, 0, 0), (44, 0, 0), (47, 0, 0), (0, 3, 0), (3, 0, 2), (6, 0, 0), (44, 0, 0), (53, 66, 1), (47, 2, 0), (47, 0, 0), (0, 3, 0), (3, 0, 1), (6, 0, 0), (44, 0, 0), (47, 0, 0), (0, 3, 0), (3, 0, 2), (6, 0, 0), (44, 0, 0), (53, 113, 1), (30, 26, 0), (3, 0, 0), (37, 0, 1)] := rfl
theorem bq0_17 : blk 0 17 = [(47, 1, 0), (47, 0, 0), (0, 3, 0), (3, 0, 1), (6, 0, 0), (44, 0, 0), (52, 67, 1), (47, 2, 0), (47, 0, 0), (0, 3, 0), (3, 0, 1), (6, 0, 0), (44, 0, 0), (52, 114, 1), (30, 26, 0), (3, 0, 0), (37, 0, 1)] := rfl
theorem bq0_18 : blk 0 18 = [(47, 1, 0), (47, 0, 0), (0, 3, 0), (3, 0, 1), (6, 0, 0), (44, 0, 0), (47, 0, 0), (0, 3, 0), (3, 0, 2), (6, 0, 0), (44, 0, 0), (53, 68, 1), (47, 2, 0), (47, 0, 0), (0, 3, 0), (3, 0, 1), (6, 0, 0), (44, 0, 0), (47, 0, 0), (0, 3, 0), (3, 0, 2), (6, 0, 0), (44, 0, 0), (53, 115, 1), (30, 26, 0), (3, 0, 0), (37, 0, 1)] := rfl
theorem bq0_19 : blk 0 19 = [(47, 1, 0), (51, 69, 1), (47, 2, 0), (51, 116, 1), (30, 26, 0), (3, 0, 0), (37, 0, 1)] := rfl
theorem bq0_20 : blk 0 20 = [(47, 1, 0), (47, 0, 0), (0, 3, 0), (3, 0, 1), (6, 0, 0), (44, 0, 0), (52, 70, 1), (47, 2, 0), (47, 0, 0), (0, 3, 0), (3, 0, 1), (6, 0, 0), (44, 0, 0), (52, 117, 1), (30, 26, 0), (3, 0, 0), (37, 0, 1)] := rfl
theorem bq0_21 : blk 0 21 = [(47, 1, 0), (47, 0, 0), (0, 3, 0), (3, 0, 1), (6, 0, 0), (44, 0, 0), (52, 71, 1), (47, 2, 0), (47, 0, 0), (0, 3, 0), (3, 0, 1), (6, 0, 0), (44, 0, 0), (52, 126, 1), (30, 26, 0), (3, 0, 0), (37, 0, 1)] := rfl
theorem bq0_22 : blk 0 22 = [(47, 1, 0), (51, 72, 1), (47, 2, 0), (51, 127, 1), (30, 26, 0), (3, 0, 0), (37, 0, 1)] := rfl
theorem bq0_23 : blk 0 23 = [(47, 1, 0), (47, 0, 0), (0, 3, 0), (3, 0, 1), (6, 0, 0), (44, 0, 0), (52, 73, 1), (47, 2, 0), (47, 0, 0), (0, 3, 0), (3, 0, 1), (6, 0, 0), (44, 0, 0), (52, 129, 1), (30, 26, 0), (3, 0, 0), (37, 0, 1)] := rfl
theorem bq0_24 : blk 0 24 = [(47, 1, 0), (47, 0, 0), (0, 3, 0), (3, 0, 1), (6, 0, 0), (44, 0, 0), (47, 0, 0), (0, 3, 0), (3, 0, 2), (6, 0, 0), (44, 0, 0), (47, 0, 0), (0, 3, 0), (3, 0, 3), (6, 0, 0), (44, 0, 0), (54, 74, 1), (47, 2, 0), (47, 0, 0), (0, 3, 0), (3, 0, 1), (6, 0, 0), (44, 0, 0), (47, 0, 0), (0, 3, 0), (3, 0, 2), (6, 0, 0), (44, 0, 0), (47, 0, 0), (0, 3, 0), (3, 0, 3), (6, 0, 0), (44, 0, 0), (54, 130, 1), (30, 26, 0), (3, 0, 0), (37, 0, 1)] := rfl
theorem bq0_25 : blk 0 25 = [(47, 1, 0), (47, 0, 0), (0, 3, 0), (3, 0, 1), (6, 0, 0), (44, 0, 0), (52, 75, 1), (47, 2, 0), (47, 0, 0), (0, 3, 0), (3, 0, 1), (6, 0, 0), (44, 0, 0), (52, 131, 1), (30, 26, 0), (3, 0, 0), (37, 0, 1)] := rfl
theorem bq0_26 : blk 0 26 = [(5, 3, 6), (31, 1, 0)] := rfl
theorem bq0_27 : blk 0 27 = [(3, 0, 1), (37, 0, 1)] := rfl
theorem rc_0 (l : List AV) : rcvb 0 l = true := rfl
theorem mx_0 : mxl 0 = 4 := rfl
theorem bq1_0 : blk 1 0 = [(0, 1, 0), (29, 1, 2), (0, 1, 0), (47, 0, 0), (22, 8, 0), (30, 1, 3), (3, 0, 1), (31, 2, 0)] := rfl
theorem bq1_1 : blk 1 1 = [(3, 0, 0), (32, 2, 0)] := rfl
theorem bq1_2 : blk 1 2 = [(37, 0, 1)] := rfl
theorem rc_1_1 (l : List AV) : rcvb 1 (.inr (.inr 1) :: l) = true := rfl
theorem mx_1 : mxl 1 = 2 := rfl
theorem bq2_0 : blk 2 0 = [(47, 0, 0), (0, 1, 0), (52, 1, 1), (29, 1, 0), (47, 0, 0), (22, 0, 0), (0, 1, 0), (46, 0, 0), (29, 1, 0), (3, 0, 1), (31, 2, 0)] := rfl
theorem bq2_1 : blk 2 1 = [(3, 0, 0), (32, 2, 0)] := rfl
theorem bq2_2 : blk 2 2 = [(37, 0, 1)] := rfl
theorem rc_2_1 (l : List AV) : rcvb 2 (.inr (.inr 1) :: l) = true := rfl
theorem mx_2 : mxl 2 = 2 := rfl
theorem bq3_0 : blk 3 0 = [(47, 0, 0), (22, 8, 0), (3, 0, 10), (30, 1, 3), (0, 1, 0), (3, 0, 1), (3, 0, 1000), (53, 76, 1), (29, 1, 0), (0, 2, 0), (3, 0, 0), (3, 0, 1000), (53, 76, 1), (29, 1, 0), (3, 0, 1), (31, 2, 0)] := rfl
theorem bq3_1 : blk 3 1 = [(3, 0, 0), (32, 2, 0)] := rfl
theorem bq3_2 : blk 3 2 = [(37, 0, 1)] := rfl
theorem rc_3_1 (l : List AV) : rcvb 3 (.inr (.inr 1) :: l) = true := rfl
theorem mx_3 : mxl 3 = 3 := rfl
theorem bq4_0 : blk 4 0 = [(47, 0, 0), (0, 1, 0), (0, 2, 0), (53, 6, 1), (1, 4, 0), (47, 0, 0), (22, 3, 0), (0, 4, 0), (0, 3, 0), (25, 0, 0), (47, 0, 0), (22, 6, 0), (47, 0, 0), (22, 9, 0), (0, 4, 0), (25, 0, 0), (47, 0, 0), (33, 0, 0), (22, 9, 0), (3, 0, 1), (6, 0, 0), (23, 9, 0), (0, 4, 0), (37, 0, 0)] := rfl
theorem rc_4_1 (l : List AV) : rcvb 4 (.inr (.inr 1) :: l) = true := rfl
theorem mx_4 : mxl 4 = 5 := rfl
theorem bq5_0 : blk 5 0 = [(47, 0, 0), (0, 1, 0), (0, 2, 0), (53, 6, 1), (1, 5, 0), (47, 0, 0), (22, 0, 0), (0, 5, 0), (3, 0, 1), (26, 0, 0), (47, 0, 0), (22, 4, 0), (0, 5, 0), (0, 3, 0), (25, 0, 0), (47, 0, 0), (22, 5, 0), (0, 5, 0), (0, 4, 0), (25, 0, 0), (0, 5, 0), (37, 0, 0)] := rfl
theorem rc_5_1 (l : List AV) : rcvb 5 (.inr (.inr 1) :: l) = true := rfl
theorem mx_5 : mxl 5 = 6 := rfl
theorem bq6_0 : blk 6 0 = [(47, 0, 0), (22, 8, 0), (1, 3, 0), (47, 0, 0), (22, 1, 0), (0, 3, 0), (0, 1, 0), (25, 0, 0), (47, 0, 0), (22, 2, 0), (0, 3, 0), (0, 2, 0), (25, 0, 0), (47, 0, 0), (33, 0, 0), (22, 8, 0), (3, 0, 1), (6, 0, 0), (23, 8, 0), (0, 3, 0), (37, 0, 0)] := rfl
theorem rc_6_1 (l : List AV) : rcvb 6 (.inr (.inr 1) :: l) = true := rfl
theorem mx_6 : mxl 6 = 4 := rfl
theorem bq7_0 : blk 7 0 = [(0, 1, 0), (29, 1, 2), (0, 1, 0), (47, 0, 0), (22, 8, 1), (30, 1, 3), (3, 0, 1), (31, 2, 0)] := rfl
theorem bq7_1 : blk 7 1 = [(3, 0, 0), (32, 2, 0)] := rfl
theorem bq7_2 : blk 7 2 = [(37, 0, 1)] := rfl
theorem rc_7_2 (l : List AV) : rcvb 7 (.inr (.inr 2) :: l) = true := rfl
theorem mx_7 : mxl 7 = 2 := rfl
theorem bq8_0 : blk 8 0 = [(47, 0, 0), (22, 8, 1), (1, 6, 0), (47, 0, 0), (22, 0, 1), (0, 6, 0), (0, 1, 0), (25, 0, 0), (47, 0, 0), (22, 1, 1), (0, 6, 0), (0, 2, 0), (25, 0, 0), (47, 0, 0), (22, 2, 1), (0, 6, 0), (0, 3, 0), (25, 0, 0), (47, 0, 0), (22, 3, 1), (0, 6, 0), (0, 4, 0), (25, 0, 0), (47, 0, 0), (22, 4, 1), (0, 6, 0), (0, 5, 0), (25, 0, 0), (47, 0, 0), (22, 6, 1), (0, 6, 0), (3, 0, (-1)), (25, 0, 0), (47, 0, 0), (33, 0, 0), (22, 8, 1), (3, 0, 1), (6, 0, 0), (23, 8, 1), (0, 6, 0), (37, 0, 0)] := rfl
theorem rc_8_2 (l : List AV) : rcvb 8 (.inr (.inr 2) :: l) = true := rfl
theorem mx_8 : mxl 8 = 7 := rfl
theorem bq9_0 : blk 9 0 = [(47, 0, 0), (22, 6, 1), (0, 1, 0), (24, 0, 0), (3, 0, (-1)), (30, 1, 0), (47, 0, 0), (22, 6, 1), (0, 1, 0), (24, 0, 0), (0, 2, 0), (30, 1, 4), (3, 0, 1), (31, 2, 0)] := rfl
theorem bq9_1 : blk 9 1 = [(3, 0, 0), (32, 2, 0)] := rfl
theorem bq9_2 : blk 9 2 = [(37, 0, 1)] := rfl
theorem rc_9_2 (l : List AV) : rcvb 9 (.inr (.inr 2) :: l) = true := rfl
theorem mx_9 : mxl 9 = 3 := rfl
theorem bq10_0 : blk 10 0 = [(0, 2, 0), (29, 1, 2), (0, 2, 0), (3, 0, 100), (30, 1, 3), (47, 0, 0), (22, 7, 1), (0, 1, 0), (3, 0, 100), (8, 0, 0), (0, 2, 0), (6, 0, 0), (34, 0, 0), (24, 0, 0), (0, 3, 0), (6, 0, 0), (25, 0, 0), (32, 1, 0)] := rfl
theorem bq10_1 : blk 10 1 = [(38, 0, 0)] := rfl
theorem rc_10_2 (l : List AV) : rcvb 10 (.inr (.inr 2) :: l) = true := rfl
theorem mx_10 : mxl 10 = 4 := rfl
theorem bq11_0 : blk 11 0 = [(3, 0, 0), (1, 3, 0), (0, 2, 0), (1, 4, 0), (32, 1, 0)] := rfl
theorem bq11_1 : blk 11 1 = [(0, 4, 0), (3, 0, 100), (30, 2, 3), (0, 3, 0), (47, 0, 0), (22, 7, 1), (0, 1, 0), (3, 0, 100), (8, 0, 0), (0, 4, 0), (6, 0, 0), (24, 0, 0), (6, 0, 0), (1, 3, 0), (5, 4, 1), (31, 1, 0)] := rfl
theorem bq11_2 : blk 11 2 = [(0, 3, 0), (37, 0, 0)] := rfl
theorem rc_11_2 (l : List AV) : rcvb 11 (.inr (.inr 2) :: l) = true := rfl
theorem mx_11 : mxl 11 = 5 := rfl
theorem bq12_0 : blk 12 0 = [(47, 0, 0), (3, 0, 0), (23, 17, 2), (38, 0, 0)] := rfl
theorem rc_12_7 (l : List AV) : rcvb 12 (.inr (.inr 7) :: l) = true := rfl
theorem mx_12 : mxl 12 = 1 := rfl
theorem bq13_0 : blk 13 0 = [(47, 0, 0), (0, 3, 0), (23, 12, 2), (47, 0, 0), (22, 2, 2), (3, 0, 0), (52, 132, 0), (47, 0, 0), (22, 3, 2), (3, 0, 0), (52, 132, 0), (47, 1, 0), (22, 4, 0), (3, 0, 0), (47, 0, 0), (22, 1, 2), (3, 0, 0), (3, 0, 10), (42, 0, 0), (47, 0, 0), (22, 12, 2), (1, 4, 0), (32, 1, 0)] := rfl
theorem bq13_1 : blk 13 1 = [(0, 4, 0), (3, 0, 100), (30, 6, 4), (3, 0, 0), (1, 5, 0), (32, 2, 0)] := rfl
theorem bq13_2 : blk 13 2 = [(0, 5, 0), (47, 1, 0), (22, 8, 0), (30, 5, 3), (47, 0, 0), (22, 4, 2), (0, 4, 0), (3, 0, 10), (8, 0, 0), (0, 5, 0), (6, 0, 0), (47, 2, 0), (47, 1, 0), (0, 5, 0), (0, 4, 0), (54, 46, 1), (29, 3, 0), (3, 0, (-2)), (31, 4, 0)] := rfl
theorem bq13_3 : blk 13 3 = [(3, 0, 0), (32, 4, 0)] := rfl
theorem bq13_4 : blk 13 4 = [(25, 0, 0), (5, 5, 1), (31, 2, 0)] := rfl
theorem bq13_5 : blk 13 5 = [(5, 4, 1), (31, 1, 0)] := rfl
theorem bq13_6 : blk 13 6 = [(47, 0, 0), (3, 0, 0), (23, 11, 2), (47, 0, 0), (3, 0, 0), (23, 13, 2), (47, 0, 0), (47, 0, 0), (22, 12, 2), (3, 0, 1), (7, 0, 0), (23, 14, 2), (47, 0, 0), (3, 0, (-1)), (23, 15, 2), (47, 0, 0), (3, 0, 0), (23, 16, 2), (47, 0, 0), (3, 0, 1), (23, 17, 2), (38, 0, 0)] := rfl
theorem rc_13_7 (l : List AV) : rcvb 13 (.inr (.inr 7) :: l) = true := rfl
theorem mx_13 : mxl 13 = 6 := rfl
theorem bq14_0 : blk 14 0 = [(47, 0, 0), (22, 14, 2), (3, 0, 1), (6, 0, 0), (1, 3, 0), (32, 1, 0)] := rfl
theorem bq14_1 : blk 14 1 = [(0, 3, 0), (0, 2, 0), (30, 5, 4), (0, 3, 0), (3, 0, 100), (30, 5, 4), (3, 0, 0), (1, 4, 0), (32, 2, 0)] := rfl
theorem bq14_2 : blk 14 2 = [(0, 4, 0), (47, 1, 0), (22, 8, 6), (30, 4, 3), (47, 1, 0), (22, 1, 6), (0, 4, 0), (24, 0, 0), (3, 0, (-1)), (30, 3, 1), (47, 0, 0), (47, 1, 0), (0, 4, 0), (0, 3, 0), (47, 1, 0), (22, 3, 6), (0, 4, 0), (24, 0, 0), (7, 0, 0), (54, 16, 0), (32, 3, 0)] := rfl
theorem bq14_3 : blk 14 3 = [(5, 4, 1), (31, 2, 0)] := rfl
theorem bq14_4 : blk 14 4 = [(47, 0, 0), (22, 0, 2), (0, 3, 0), (47, 0, 0), (22, 13, 2), (25, 0, 0), (47, 0, 0), (0, 3, 0), (23, 14, 2), (5, 3, 1), (31, 1, 0)] := rfl
theorem bq14_5 : blk 14 5 = [(38, 0, 0)] := rfl
theorem rc_14_7 (l : List AV) : rcvb 14 (.inr (.inr 7) :: l) = true := rfl
theorem mx_14 : mxl 14 = 5 := rfl
theorem bq15_0 : blk 15 0 = [(47, 0, 0), (22, 0, 2), (3, 0, 100), (24, 0, 0), (1, 1, 0), (0, 1, 0), (3, 0, 1), (30, 1, 3), (3, 0, (-1)), (37, 0, 0)] := rfl
theorem bq15_1 : blk 15 1 = [(47, 0, 0), (22, 12, 2), (1, 2, 0), (32, 2, 0)] := rfl
theorem bq15_2 : blk 15 2 = [(0, 2, 0), (3, 0, 100), (30, 4, 3), (47, 0, 0), (22, 0, 2), (0, 2, 0), (24, 0, 0), (0, 1, 0), (30, 3, 1), (0, 2, 0), (37, 0, 0)] := rfl
theorem bq15_3 : blk 15 3 = [(5, 2, 1), (31, 2, 0)] := rfl
theorem bq15_4 : blk 15 4 = [(3, 0, 100), (37, 0, 0)] := rfl
theorem rc_15_7 (l : List AV) : rcvb 15 (.inr (.inr 7) :: l) = true := rfl
theorem mx_15 : mxl 15 = 3 := rfl
theorem bq16_0 : blk 16 0 = [(0, 3, 0), (47, 0, 0), (22, 12, 2), (30, 1, 3), (38, 0, 0)] := rfl
theorem bq16_1 : blk 16 1 = [(0, 3, 0), (3, 0, 10), (8, 0, 0), (47, 1, 0), (22, 0, 6), (0, 2, 0), (24, 0, 0), (6, 0, 0), (1, 4, 0), (47, 1, 0), (22, 2, 6), (0, 2, 0), (24, 0, 0), (1, 5, 0), (3, 0, 0), (1, 6, 0), (32, 2, 0)] := rfl
theorem bq16_2 : blk 16 2 = [(0, 6, 0), (0, 5, 0), (30, 4, 3), (47, 0, 0), (22, 3, 2), (0, 2, 0), (3, 0, 100), (8, 0, 0), (0, 3, 0), (6, 0, 0), (24, 0, 0), (0, 5, 0), (30, 4, 3), (47, 0, 0), (47, 1, 0), (0, 4, 0), (3, 0, 2), (0, 2, 0), (6, 0, 0), (54, 17, 1), (1, 7, 0), (0, 7, 0), (3, 0, (-1)), (30, 3, 1), (38, 0, 0)] := rfl
theorem bq16_3 : blk 16 3 = [(47, 0, 0), (47, 1, 0), (0, 7, 0), (53, 22, 1), (1, 8, 0), (47, 0, 0), (22, 1, 2), (0, 7, 0), (3, 0, 10), (14, 0, 0), (34, 0, 0), (24, 0, 0), (0, 8, 0), (7, 0, 0), (25, 0, 0), (47, 0, 0), (47, 1, 0), (0, 7, 0), (0, 8, 0), (54, 23, 0), (47, 0, 0), (33, 0, 0), (22, 13, 2), (0, 8, 0), (6, 0, 0), (23, 13, 2), (5, 6, 1), (31, 2, 0)] := rfl
theorem bq16_4 : blk 16 4 = [(38, 0, 0)] := rfl
theorem rc_16_7 (l : List AV) : rcvb 16 (.inr (.inr 7) :: l) = true := rfl
theorem mx_16 : mxl 16 = 9 := rfl
theorem bq17_0 : blk 17 0 = [(47, 0, 0), (51, 18, 0), (47, 0, 0), (0, 2, 0), (0, 3, 0), (53, 19, 0), (3, 0, 0), (1, 4, 0), (32, 1, 0)] := rfl
theorem bq17_1 : blk 17 1 = [(0, 4, 0), (3, 0, 1010), (30, 3, 3), (47, 0, 0), (22, 9, 2), (29, 3, 5), (47, 0, 0), (33, 0, 0), (22, 9, 2), (3, 0, 1), (7, 0, 0), (23, 9, 2), (47, 0, 0), (22, 6, 2), (47, 0, 0), (22, 9, 2), (24, 0, 0), (1, 5, 0), (0, 5, 0), (3, 0, 10), (13, 0, 0), (47, 0, 0), (22, 12, 2), (30, 2, 1), (47, 0, 0), (22, 1, 2), (0, 5, 0), (3, 0, 10), (14, 0, 0), (24, 0, 0), (29, 2, 5), (0, 5, 0), (37, 0, 0)] := rfl
theorem bq17_2 : blk 17 2 = [(47, 0, 0), (47, 1, 0), (0, 5, 0), (53, 20, 0), (5, 4, 1), (31, 1, 0)] := rfl
theorem bq17_3 : blk 17 3 = [(3, 0, 0), (1, 4, 0), (32, 4, 0)] := rfl
theorem bq17_4 : blk 17 4 = [(0, 4, 0), (47, 0, 0), (22, 10, 2), (30, 5, 3), (47, 0, 0), (22, 4, 2), (47, 0, 0), (22, 7, 2), (0, 4, 0), (24, 0, 0), (3, 0, (-1)), (25, 0, 0), (5, 4, 1), (31, 4, 0)] := rfl
theorem bq17_5 : blk 17 5 = [(3, 0, (-1)), (37, 0, 0)] := rfl
theorem rc_17_7 (l : List AV) : rcvb 17 (.inr (.inr 7) :: l) = true := rfl
theorem mx_17 : mxl 17 = 6 := rfl
theorem bq18_0 : blk 18 0 = [(47, 0, 0), (33, 0, 0), (22, 11, 2), (3, 0, 1), (6, 0, 0), (23, 11, 2), (47, 0, 0), (3, 0, 0), (23, 9, 2), (47, 0, 0), (3, 0, 0), (23, 10, 2), (38, 0, 0)] := rfl
theorem rc_18_7 (l : List AV) : rcvb 18 (.inr (.inr 7) :: l) = true := rfl
theorem mx_18 : mxl 18 = 1 := rfl
theorem bq19_0 : blk 19 0 = [(0, 1, 0), (29, 1, 2), (0, 1, 0), (3, 0, 1010), (30, 1, 3), (47, 0, 0), (22, 10, 2), (3, 0, 1010), (30, 1, 3), (47, 0, 0), (22, 9, 2), (3, 0, 1010), (30, 2, 2), (32, 1, 0)] := rfl
theorem bq19_1 : blk 19 1 = [(38, 0, 0)] := rfl
theorem bq19_2 : blk 19 2 = [(47, 0, 0), (22, 4, 2), (0, 1, 0), (24, 0, 0), (1, 3, 0), (0, 3, 0), (29, 3, 2), (0, 3, 0), (47, 0, 0), (22, 11, 2), (30, 4, 1), (32, 3, 0)] := rfl
theorem bq19_3 : blk 19 3 = [(38, 0, 0)] := rfl
theorem bq19_4 : blk 19 4 = [(47, 0, 0), (22, 4, 2), (0, 1, 0), (47, 0, 0), (22, 11, 2), (25, 0, 0), (47, 0, 0), (22, 5, 2), (0, 1, 0), (0, 2, 0), (25, 0, 0), (47, 0, 0), (22, 6, 2), (47, 0, 0), (22, 9, 2), (0, 1, 0), (25, 0, 0), (47, 0, 0), (33, 0, 0), (22, 9, 2), (3, 0, 1), (6, 0, 0), (23, 9, 2), (47, 0, 0), (22, 7, 2), (47, 0, 0), (22, 10, 2), (0, 1, 0), (25, 0, 0), (47, 0, 0), (33, 0, 0), (22, 10, 2), (3, 0, 1), (6, 0, 0), (23, 10, 2), (38, 0, 0)] := rfl
theorem rc_19_7 (l : List AV) : rcvb 19 (.inr (.inr 7) :: l) = true := rfl
theorem mx_19 : mxl 19 = 4 := rfl
theorem bq20_0 : blk 20 0 = [(0, 2, 0), (3, 0, 10), (14, 0, 0), (1, 3, 0), (0, 2, 0), (3, 0, 10), (13, 0, 0), (1, 4, 0), (0, 4, 0), (3, 0, 100), (30, 4, 3), (47, 0, 0), (22, 2, 2), (0, 2, 0), (24, 0, 0), (29, 1, 5), (47, 0, 0), (0, 2, 0), (3, 0, 10), (6, 0, 0), (3, 0, 1), (53, 19, 0), (32, 1, 0)] := rfl
theorem bq20_1 : blk 20 1 = [(3, 0, 0), (1, 5, 0), (32, 2, 0)] := rfl
theorem bq20_2 : blk 20 2 = [(0, 5, 0), (47, 1, 0), (22, 5, 6), (0, 3, 0), (24, 0, 0), (30, 4, 3), (47, 1, 0), (22, 4, 6), (0, 3, 0), (3, 0, 12), (8, 0, 0), (0, 5, 0), (6, 0, 0), (24, 0, 0), (1, 6, 0), (47, 1, 0), (22, 1, 6), (0, 6, 0), (24, 0, 0), (3, 0, (-1)), (30, 3, 0), (47, 0, 0), (22, 3, 2), (0, 6, 0), (3, 0, 100), (8, 0, 0), (0, 4, 0), (6, 0, 0), (24, 0, 0), (29, 3, 5), (47, 0, 0), (47, 0, 0), (47, 1, 0), (0, 6, 0), (0, 4, 0), (54, 21, 1), (3, 0, 14), (0, 6, 0), (6, 0, 0), (53, 19, 0), (32, 3, 0)] := rfl
theorem bq20_3 : blk 20 3 = [(5, 5, 1), (31, 2, 0)] := rfl
theorem bq20_4 : blk 20 4 = [(3, 0, 0), (1, 5, 0), (32, 5, 0)] := rfl
theorem bq20_5 : blk 20 5 = [(0, 5, 0), (47, 1, 0), (22, 7, 6), (0, 3, 0), (24, 0, 0), (30, 7, 3), (47, 1, 0), (22, 6, 6), (0, 3, 0), (3, 0, 12), (8, 0, 0), (0, 5, 0), (6, 0, 0), (24, 0, 0), (1, 6, 0), (0, 4, 0), (47, 1, 0), (22, 3, 6), (0, 6, 0), (24, 0, 0), (7, 0, 0), (1, 7, 0), (0, 7, 0), (47, 0, 0), (22, 12, 2), (30, 6, 2), (47, 0, 0), (22, 3, 2), (0, 6, 0), (3, 0, 100), (8, 0, 0), (0, 7, 0), (6, 0, 0), (24, 0, 0), (47, 1, 0), (22, 2, 6), (0, 6, 0), (24, 0, 0), (30, 6, 3), (47, 0, 0), (0, 7, 0), (3, 0, 10), (8, 0, 0), (47, 1, 0), (22, 0, 6), (0, 6, 0), (24, 0, 0), (6, 0, 0), (3, 0, 2), (0, 6, 0), (6, 0, 0), (53, 19, 0), (32, 6, 0)] := rfl
theorem bq20_6 : blk 20 6 = [(5, 5, 1), (31, 5, 0)] := rfl
theorem bq20_7 : blk 20 7 = [(0, 4, 0), (47, 0, 0), (22, 12, 2), (30, 8, 5), (47, 0, 0), (0, 2, 0), (3, 0, 10), (7, 0, 0), (3, 0, 0), (53, 19, 0), (32, 8, 0)] := rfl
theorem bq20_8 : blk 20 8 = [(38, 0, 0)] := rfl
theorem rc_20_7 (l : List AV) : rcvb 20 (.inr (.inr 7) :: l) = true := rfl
theorem mx_20 : mxl 20 = 8 := rfl
theorem bq21_0 : blk 21 0 = [(0, 3, 0), (47, 1, 0), (22, 3, 6), (0, 2, 0), (24, 0, 0), (6, 0, 0), (3, 0, 10), (8, 0, 0), (47, 1, 0), (22, 1, 6), (0, 2, 0), (24, 0, 0), (6, 0, 0), (37, 0, 0)] := rfl
theorem rc_21_7 (l : List AV) : rcvb 21 (.inr (.inr 7) :: l) = true := rfl
theorem mx_21 : mxl 21 = 4 := rfl
theorem bq22_0 : blk 22 0 = [(47, 0, 0), (22, 1, 2), (0, 2, 0), (3, 0, 10), (14, 0, 0), (24, 0, 0), (1, 3, 0), (0, 2, 0), (1, 4, 0), (3, 0, 0), (1, 5, 0), (32, 1, 0)] := rfl
theorem bq22_1 : blk 22 1 = [(0, 5, 0), (3, 0, 1010), (30, 2, 3), (0, 4, 0), (3, 0, (-1)), (30, 2, 0), (0, 3, 0), (47, 0, 0), (47, 1, 0), (0, 4, 0), (53, 25, 1), (40, 0, 0), (1, 3, 0), (47, 0, 0), (47, 1, 0), (0, 4, 0), (53, 24, 1), (1, 4, 0), (5, 5, 1), (31, 1, 0)] := rfl
theorem bq22_2 : blk 22 2 = [(0, 3, 0), (37, 0, 0)] := rfl
theorem rc_22_7 (l : List AV) : rcvb 22 (.inr (.inr 7) :: l) = true := rfl
theorem mx_22 : mxl 22 = 6 := rfl
theorem bq23_0 : blk 23 0 = [(0, 2, 0), (1, 4, 0), (3, 0, 0), (1, 5, 0), (32, 1, 0)] := rfl
theorem bq23_1 : blk 23 1 = [(0, 5, 0), (3, 0, 1010), (30, 2, 3), (0, 4, 0), (3, 0, (-1)), (30, 2, 0), (47, 0, 0), (47, 1, 0), (0, 4, 0), (53, 24, 1), (1, 6, 0), (47, 0, 0), (47, 1, 0), (0, 4, 0), (0, 3, 0), (54, 26, 0), (0, 6, 0), (1, 4, 0), (5, 5, 1), (31, 1, 0)] := rfl
theorem bq23_2 : blk 23 2 = [(38, 0, 0)] := rfl
theorem rc_23_7 (l : List AV) : rcvb 23 (.inr (.inr 7) :: l) = true := rfl
theorem mx_23 : mxl 23 = 7 := rfl
theorem bq24_0 : blk 24 0 = [(47, 0, 0), (22, 5, 2), (0, 2, 0), (24, 0, 0), (1, 3, 0), (0, 3, 0), (29, 1, 1), (0, 2, 0), (3, 0, 10), (6, 0, 0), (37, 0, 0)] := rfl
theorem bq24_1 : blk 24 1 = [(0, 3, 0), (3, 0, 1), (30, 2, 1), (0, 2, 0), (3, 0, 10), (7, 0, 0), (37, 0, 0)] := rfl
theorem bq24_2 : blk 24 2 = [(0, 2, 0), (3, 0, 10), (13, 0, 0), (1, 4, 0), (0, 3, 0), (3, 0, 14), (30, 5, 3), (0, 3, 0), (3, 0, 2), (7, 0, 0), (1, 5, 0), (47, 1, 0), (22, 1, 6), (0, 5, 0), (24, 0, 0), (3, 0, (-1)), (30, 3, 1), (3, 0, (-1)), (31, 4, 0)] := rfl
theorem bq24_3 : blk 24 3 = [(47, 0, 0), (47, 1, 0), (0, 5, 0), (0, 4, 0), (54, 21, 1), (32, 4, 0)] := rfl
theorem bq24_4 : blk 24 4 = [(37, 0, 0)] := rfl
theorem bq24_5 : blk 24 5 = [(0, 3, 0), (3, 0, 14), (7, 0, 0), (1, 5, 0), (0, 4, 0), (47, 1, 0), (22, 3, 6), (0, 5, 0), (24, 0, 0), (7, 0, 0), (3, 0, 10), (8, 0, 0), (47, 1, 0), (22, 0, 6), (0, 5, 0), (24, 0, 0), (6, 0, 0), (37, 0, 0)] := rfl
theorem rc_24_7 (l : List AV) : rcvb 24 (.inr (.inr 7) :: l) = true := rfl
theorem mx_24 : mxl 24 = 6 := rfl
theorem bq25_0 : blk 25 0 = [(47, 0, 0), (22, 5, 2), (0, 2, 0), (24, 0, 0), (1, 3, 0), (0, 3, 0), (29, 1, 1), (3, 0, 500), (37, 0, 0)] := rfl
theorem bq25_1 : blk 25 1 = [(0, 3, 0), (3, 0, 1), (30, 2, 1), (47, 0, 0), (22, 2, 2), (0, 2, 0), (3, 0, 10), (7, 0, 0), (24, 0, 0), (37, 0, 0)] := rfl
theorem bq25_2 : blk 25 2 = [(0, 2, 0), (3, 0, 10), (13, 0, 0), (1, 4, 0), (0, 3, 0), (3, 0, 14), (30, 3, 3), (0, 3, 0), (3, 0, 2), (7, 0, 0), (1, 5, 0), (47, 1, 0), (22, 2, 6), (0, 5, 0), (24, 0, 0), (47, 0, 0), (22, 3, 2), (0, 5, 0), (3, 0, 100), (8, 0, 0), (0, 4, 0), (6, 0, 0), (24, 0, 0), (7, 0, 0), (37, 0, 0)] := rfl
theorem bq25_3 : blk 25 3 = [(0, 3, 0), (3, 0, 14), (7, 0, 0), (1, 5, 0), (47, 0, 0), (22, 3, 2), (0, 5, 0), (3, 0, 100), (8, 0, 0), (0, 4, 0), (6, 0, 0), (47, 1, 0), (22, 3, 6), (0, 5, 0), (24, 0, 0), (7, 0, 0), (24, 0, 0), (37, 0, 0)] := rfl
theorem rc_25_7 (l : List AV) : rcvb 25 (.inr (.inr 7) :: l) = true := rfl
theorem mx_25 : mxl 25 = 6 := rfl
theorem bq26_0 : blk 26 0 = [(47, 0, 0), (22, 5, 2), (0, 2, 0), (24, 0, 0), (1, 4, 0), (0, 2, 0), (3, 0, 10), (13, 0, 0), (1, 5, 0), (0, 4, 0), (29, 1, 1), (47, 0, 0), (22, 2, 2), (0, 2, 0), (34, 0, 0), (24, 0, 0), (0, 3, 0), (6, 0, 0), (25, 0, 0), (31, 4, 0)] := rfl
theorem bq26_1 : blk 26 1 = [(0, 4, 0), (3, 0, 1), (30, 2, 1), (47, 0, 0), (22, 2, 2), (0, 2, 0), (3, 0, 10), (7, 0, 0), (34, 0, 0), (24, 0, 0), (0, 3, 0), (7, 0, 0), (25, 0, 0), (31, 4, 0)] := rfl
theorem bq26_2 : blk 26 2 = [(0, 4, 0), (3, 0, 14), (30, 3, 3), (47, 0, 0), (22, 3, 2), (0, 4, 0), (3, 0, 2), (7, 0, 0), (3, 0, 100), (8, 0, 0), (0, 5, 0), (6, 0, 0), (34, 0, 0), (24, 0, 0), (0, 3, 0), (6, 0, 0), (25, 0, 0), (31, 4, 0)] := rfl
theorem bq26_3 : blk 26 3 = [(0, 4, 0), (3, 0, 14), (7, 0, 0), (1, 6, 0), (47, 0, 0), (22, 3, 2), (0, 6, 0), (3, 0, 100), (8, 0, 0), (0, 5, 0), (6, 0, 0), (47, 1, 0), (22, 3, 6), (0, 6, 0), (24, 0, 0), (7, 0, 0), (34, 0, 0), (24, 0, 0), (0, 3, 0), (7, 0, 0), (25, 0, 0), (32, 4, 0)] := rfl
theorem bq26_4 : blk 26 4 = [(38, 0, 0)] := rfl
theorem rc_26_7 (l : List AV) : rcvb 26 (.inr (.inr 7) :: l) = true := rfl
theorem mx_26 : mxl 26 = 7 := rfl
theorem bq27_0 : blk 27 0 = [(47, 0, 0), (51, 18, 0), (3, 0, 0), (1, 3, 0), (32, 1, 0)] := rfl
theorem bq27_1 : blk 27 1 = [(0, 3, 0), (3, 0, 10), (30, 3, 3), (47, 0, 0), (22, 1, 2), (0, 3, 0), (24, 0, 0), (29, 2, 5), (47, 0, 0), (47, 0, 0), (22, 12, 2), (3, 0, 10), (8, 0, 0), (0, 3, 0), (6, 0, 0), (3, 0, 0), (53, 19, 0), (32, 2, 0)] := rfl
theorem bq27_2 : blk 27 2 = [(5, 3, 1), (31, 1, 0)] := rfl
theorem bq27_3 : blk 27 3 = [(3, 0, 0), (1, 3, 0), (32, 4, 0)] := rfl
theorem bq27_4 : blk 27 4 = [(0, 3, 0), (3, 0, 1010), (30, 5, 3), (47, 0, 0), (22, 9, 2), (29, 5, 5), (47, 0, 0), (33, 0, 0), (22, 9, 2), (3, 0, 1), (7, 0, 0), (23, 9, 2), (47, 0, 0), (47, 1, 0), (47, 0, 0), (22, 6, 2), (47, 0, 0), (22, 9, 2), (24, 0, 0), (0, 2, 0), (54, 28, 0), (5, 3, 1), (31, 4, 0)] := rfl
theorem bq27_5 : blk 27 5 = [(47, 0, 0), (47, 1, 0), (0, 2, 0), (53, 29, 0), (47, 0, 0), (0, 2, 0), (23, 15, 2), (38, 0, 0)] := rfl
theorem rc_27_7 (l : List AV) : rcvb 27 (.inr (.inr 7) :: l) = true := rfl
theorem mx_27 : mxl 27 = 4 := rfl
theorem bq28_0 : blk 28 0 = [(0, 2, 0), (3, 0, 10), (14, 0, 0), (1, 4, 0), (0, 2, 0), (3, 0, 10), (13, 0, 0), (1, 5, 0), (0, 5, 0), (0, 3, 0), (30, 1, 3), (47, 0, 0), (0, 2, 0), (3, 0, 10), (6, 0, 0), (3, 0, 0), (53, 19, 0), (32, 1, 0)] := rfl
theorem bq28_1 : blk 28 1 = [(0, 5, 0), (47, 0, 0), (22, 12, 2), (30, 2, 5), (47, 0, 0), (22, 2, 2), (0, 2, 0), (3, 0, 10), (7, 0, 0), (24, 0, 0), (29, 2, 5), (47, 0, 0), (0, 2, 0), (3, 0, 10), (7, 0, 0), (3, 0, 1), (53, 19, 0), (32, 2, 0)] := rfl
theorem bq28_2 : blk 28 2 = [(3, 0, 0), (1, 6, 0), (32, 3, 0)] := rfl
theorem bq28_3 : blk 28 3 = [(0, 6, 0), (47, 1, 0), (22, 5, 6), (0, 4, 0), (24, 0, 0), (30, 7, 3), (47, 1, 0), (22, 4, 6), (0, 4, 0), (3, 0, 12), (8, 0, 0), (0, 6, 0), (6, 0, 0), (24, 0, 0), (1, 7, 0), (47, 1, 0), (22, 1, 6), (0, 7, 0), (24, 0, 0), (3, 0, (-1)), (30, 4, 0), (0, 5, 0), (47, 1, 0), (22, 3, 6), (0, 7, 0), (24, 0, 0), (6, 0, 0), (0, 3, 0), (30, 4, 4), (3, 0, 1), (31, 5, 0)] := rfl
theorem bq28_4 : blk 28 4 = [(3, 0, 0), (32, 5, 0)] := rfl
theorem bq28_5 : blk 28 5 = [(1, 8, 0), (0, 8, 0), (29, 6, 0), (47, 0, 0), (22, 3, 2), (0, 7, 0), (3, 0, 100), (8, 0, 0), (0, 5, 0), (6, 0, 0), (24, 0, 0), (47, 1, 0), (22, 2, 6), (0, 7, 0), (24, 0, 0), (30, 6, 3), (47, 0, 0), (47, 0, 0), (47, 1, 0), (0, 7, 0), (0, 5, 0), (54, 21, 1), (3, 0, 2), (0, 7, 0), (6, 0, 0), (53, 19, 0), (32, 6, 0)] := rfl
theorem bq28_6 : blk 28 6 = [(5, 6, 1), (31, 3, 0)] := rfl
theorem bq28_7 : blk 28 7 = [(3, 0, 0), (1, 6, 0), (32, 8, 0)] := rfl
theorem bq28_8 : blk 28 8 = [(0, 6, 0), (47, 1, 0), (22, 7, 6), (0, 4, 0), (24, 0, 0), (30, 10, 3), (47, 1, 0), (22, 6, 6), (0, 4, 0), (3, 0, 12), (8, 0, 0), (0, 6, 0), (6, 0, 0), (24, 0, 0), (1, 7, 0), (0, 5, 0), (47, 1, 0), (22, 3, 6), (0, 7, 0), (24, 0, 0), (7, 0, 0), (1, 8, 0), (0, 8, 0), (47, 0, 0), (22, 12, 2), (30, 9, 2), (47, 0, 0), (22, 3, 2), (0, 7, 0), (3, 0, 100), (8, 0, 0), (0, 8, 0), (6, 0, 0), (24, 0, 0), (29, 9, 5), (47, 0, 0), (0, 8, 0), (3, 0, 10), (8, 0, 0), (47, 1, 0), (22, 0, 6), (0, 7, 0), (24, 0, 0), (6, 0, 0), (3, 0, 14), (0, 7, 0), (6, 0, 0), (53, 19, 0), (32, 9, 0)] := rfl
theorem bq28_9 : blk 28 9 = [(5, 6, 1), (31, 8, 0)] := rfl
theorem bq28_10 : blk 28 10 = [(38, 0, 0)] := rfl
theorem rc_28_7 (l : List AV) : rcvb 28 (.inr (.inr 7) :: l) = true := rfl
theorem mx_28 : mxl 28 = 9 := rfl
theorem bq29_0 : blk 29 0 = [(47, 0, 0), (3, 0, 0), (23, 16, 2), (47, 0, 0), (22, 12, 2), (1, 3, 0), (32, 1, 0)] := rfl
theorem bq29_1 : blk 29 1 = [(0, 3, 0), (0, 2, 0), (30, 5, 3), (3, 0, 0), (1, 4, 0), (32, 2, 0)] := rfl
theorem bq29_2 : blk 29 2 = [(0, 4, 0), (47, 1, 0), (22, 8, 6), (30, 4, 3), (0, 3, 0), (47, 1, 0), (22, 3, 6), (0, 4, 0), (24, 0, 0), (6, 0, 0), (0, 2, 0), (30, 3, 4), (47, 0, 0), (47, 1, 0), (0, 4, 0), (0, 3, 0), (54, 30, 1), (29, 3, 0), (47, 0, 0), (22, 8, 2), (47, 0, 0), (22, 16, 2), (0, 3, 0), (3, 0, 12), (8, 0, 0), (0, 4, 0), (6, 0, 0), (25, 0, 0), (47, 0, 0), (33, 0, 0), (22, 16, 2), (3, 0, 1), (6, 0, 0), (23, 16, 2), (32, 3, 0)] := rfl
theorem bq29_3 : blk 29 3 = [(5, 4, 1), (31, 2, 0)] := rfl
theorem bq29_4 : blk 29 4 = [(5, 3, 1), (31, 1, 0)] := rfl
theorem bq29_5 : blk 29 5 = [(38, 0, 0)] := rfl
theorem rc_29_7 (l : List AV) : rcvb 29 (.inr (.inr 7) :: l) = true := rfl
theorem mx_29 : mxl 29 = 5 := rfl
theorem bq30_0 : blk 30 0 = [(47, 0, 0), (22, 4, 2), (0, 3, 0), (3, 0, 10), (8, 0, 0), (47, 1, 0), (22, 0, 6), (0, 2, 0), (24, 0, 0), (6, 0, 0), (24, 0, 0), (47, 0, 0), (22, 11, 2), (30, 1, 0), (3, 0, 0), (37, 0, 1)] := rfl
theorem bq30_1 : blk 30 1 = [(47, 1, 0), (22, 1, 6), (0, 2, 0), (24, 0, 0), (3, 0, (-1)), (30, 2, 1), (3, 0, 1), (37, 0, 1)] := rfl
theorem bq30_2 : blk 30 2 = [(47, 0, 0), (22, 4, 2), (47, 0, 0), (47, 1, 0), (0, 2, 0), (0, 3, 0), (54, 21, 1), (24, 0, 0), (1, 4, 0), (0, 4, 0), (3, 0, (-2)), (30, 3, 0), (0, 4, 0), (47, 0, 0), (22, 11, 2), (30, 3, 0), (3, 0, 1), (31, 4, 0)] := rfl
theorem bq30_3 : blk 30 3 = [(3, 0, 0), (32, 4, 0)] := rfl
theorem bq30_4 : blk 30 4 = [(37, 0, 1)] := rfl
theorem rc_30_7 (l : List AV) : rcvb 30 (.inr (.inr 7) :: l) = true := rfl
theorem mx_30 : mxl 30 = 5 := rfl
theorem bq31_0 : blk 31 0 = [(47, 0, 0), (22, 8, 2), (0, 1, 0), (24, 0, 0), (3, 0, 12), (14, 0, 0), (37, 0, 0)] := rfl
theorem rc_31_7 (l : List AV) : rcvb 31 (.inr (.inr 7) :: l) = true := rfl
theorem mx_31 : mxl 31 = 2 := rfl
theorem bq32_0 : blk 32 0 = [(47, 0, 0), (22, 8, 2), (0, 1, 0), (24, 0, 0), (3, 0, 12), (13, 0, 0), (37, 0, 0)] := rfl
theorem rc_32_7 (l : List AV) : rcvb 32 (.inr (.inr 7) :: l) = true := rfl
theorem mx_32 : mxl 32 = 2 := rfl
theorem bq33_0 : blk 33 0 = [(47, 1, 0), (22, 0, 3), (3, 0, 0), (47, 0, 0), (22, 0, 3), (3, 0, 0), (3, 0, 10), (42, 0, 0), (47, 1, 0), (22, 1, 3), (3, 0, 0), (47, 0, 0), (22, 1, 3), (3, 0, 0), (3, 0, 12), (42, 0, 0), (47, 0, 0), (47, 1, 0), (22, 2, 3), (23, 2, 3), (47, 0, 0), (47, 1, 0), (22, 3, 3), (23, 3, 3), (47, 0, 0), (47, 1, 0), (22, 4, 3), (23, 4, 3), (47, 0, 0), (47, 1, 0), (22, 5, 3), (23, 5, 3), (38, 0, 0)] := rfl
theorem rc_33_5 (l : List AV) : rcvb 33 (.inr (.inr 5) :: l) = true := rfl
theorem rc_33_8 (l : List AV) : rcvb 33 (.inr (.inr 8) :: l) = true := rfl
theorem mx_33 : mxl 33 = 2 := rfl
theorem bq34_0 : blk 34 0 = [(47, 1, 0), (22, 1, 0), (0, 2, 0), (24, 0, 0), (1, 3, 0), (0, 3, 0), (3, 0, 1), (30, 1, 3), (47, 1, 0), (22, 2, 0), (0, 2, 0), (24, 0, 0), (31, 2, 0)] := rfl
theorem bq34_1 : blk 34 1 = [(47, 1, 0), (22, 2, 0), (0, 2, 0), (24, 0, 0), (47, 0, 0), (22, 0, 3), (0, 2, 0), (24, 0, 0), (0, 3, 0), (13, 0, 0), (6, 0, 0), (32, 2, 0)] := rfl
theorem bq34_2 : blk 34 2 = [(37, 0, 0)] := rfl
theorem rc_34_5 (l : List AV) : rcvb 34 (.inr (.inr 5) :: l) = true := rfl
theorem rc_34_8 (l : List AV) : rcvb 34 (.inr (.inr 8) :: l) = true := rfl
theorem mx_34 : mxl 34 = 4 := rfl
theorem bq35_0 : blk 35 0 = [(47, 1, 0), (22, 0, 0), (0, 2, 0), (46, 0, 0), (29, 1, 0), (47, 0, 0), (22, 0, 3), (0, 2, 0), (24, 0, 0), (47, 1, 0), (22, 1, 0), (0, 2, 0), (24, 0, 0), (30, 1, 2), (3, 0, 1), (31, 2, 0)] := rfl
theorem bq35_1 : blk 35 1 = [(3, 0, 0), (32, 2, 0)] := rfl
theorem bq35_2 : blk 35 2 = [(37, 0, 1)] := rfl
theorem rc_35_5 (l : List AV) : rcvb 35 (.inr (.inr 5) :: l) = true := rfl
theorem rc_35_8 (l : List AV) : rcvb 35 (.inr (.inr 8) :: l) = true := rfl
theorem mx_35 : mxl 35 = 3 := rfl
theorem bq36_0 : blk 36 0 = [(47, 1, 0), (0, 2, 0), (47, 0, 0), (22, 2, 3), (53, 9, 1), (29, 1, 0), (47, 1, 0), (22, 5, 1), (0, 2, 0), (24, 0, 0), (31, 2, 0)] := rfl
theorem bq36_1 : blk 36 1 = [(47, 1, 0), (22, 2, 1), (0, 2, 0), (24, 0, 0), (47, 0, 0), (22, 1, 3), (0, 2, 0), (24, 0, 0), (3, 0, 10), (13, 0, 0), (6, 0, 0), (32, 2, 0)] := rfl
theorem bq36_2 : blk 36 2 = [(37, 0, 0)] := rfl
theorem rc_36_5 (l : List AV) : rcvb 36 (.inr (.inr 5) :: l) = true := rfl
theorem rc_36_8 (l : List AV) : rcvb 36 (.inr (.inr 8) :: l) = true := rfl
theorem mx_36 : mxl 36 = 3 := rfl
theorem bq37_0 : blk 37 0 = [(3, 0, 0), (1, 1, 0), (3, 0, 0), (1, 2, 0), (32, 1, 0)] := rfl
theorem bq37_1 : blk 37 1 = [(0, 2, 0), (3, 0, 12), (30, 2, 3), (0, 1, 0), (47, 0, 0), (22, 1, 3), (0, 2, 0), (24, 0, 0), (6, 0, 0), (1, 1, 0), (5, 2, 1), (31, 1, 0)] := rfl
theorem bq37_2 : blk 37 2 = [(0, 1, 0), (37, 0, 0)] := rfl
theorem rc_37_5 (l : List AV) : rcvb 37 (.inr (.inr 5) :: l) = true := rfl
theorem rc_37_8 (l : List AV) : rcvb 37 (.inr (.inr 8) :: l) = true := rfl
theorem mx_37 : mxl 37 = 3 := rfl
theorem bq38_0 : blk 38 0 = [(47, 0, 0), (22, 2, 3), (3, 0, 100), (30, 1, 2), (38, 0, 0)] := rfl
theorem bq38_1 : blk 38 1 = [(47, 0, 0), (47, 1, 0), (52, 39, 0), (47, 0, 0), (47, 1, 0), (52, 40, 0), (3, 0, 0), (1, 3, 0), (32, 2, 0)] := rfl
theorem bq38_2 : blk 38 2 = [(0, 3, 0), (47, 2, 0), (22, 8, 1), (30, 3, 3), (47, 0, 0), (47, 2, 0), (0, 3, 0), (53, 41, 0), (5, 3, 1), (31, 2, 0)] := rfl
theorem bq38_3 : blk 38 3 = [(3, 0, 0), (1, 3, 0), (32, 4, 0)] := rfl
theorem bq38_4 : blk 38 4 = [(0, 3, 0), (47, 2, 0), (22, 8, 1), (30, 5, 3), (47, 0, 0), (47, 1, 0), (47, 2, 0), (0, 3, 0), (54, 42, 0), (5, 3, 1), (31, 4, 0)] := rfl
theorem bq38_5 : blk 38 5 = [(47, 0, 0), (33, 0, 0), (22, 2, 3), (3, 0, 1), (6, 0, 0), (23, 2, 3), (38, 0, 0)] := rfl
theorem rc_38_5 (l : List AV) : rcvb 38 (.inr (.inr 5) :: l) = true := rfl
theorem rc_38_8 (l : List AV) : rcvb 38 (.inr (.inr 8) :: l) = true := rfl
theorem mx_38 : mxl 38 = 4 := rfl
theorem bq39_0 : blk 39 0 = [(47, 1, 0), (22, 9, 0), (29, 1, 5), (47, 1, 0), (22, 7, 0), (47, 0, 0), (22, 2, 3), (24, 0, 0), (1, 2, 0), (47, 0, 0), (22, 0, 3), (47, 1, 0), (22, 6, 0), (3, 0, 0), (24, 0, 0), (34, 0, 0), (24, 0, 0), (0, 2, 0), (6, 0, 0), (25, 0, 0), (47, 0, 0), (33, 0, 0), (22, 5, 3), (0, 2, 0), (6, 0, 0), (23, 5, 3), (32, 1, 0)] := rfl
theorem bq39_1 : blk 39 1 = [(38, 0, 0)] := rfl
theorem rc_39_5 (l : List AV) : rcvb 39 (.inr (.inr 5) :: l) = true := rfl
theorem rc_39_8 (l : List AV) : rcvb 39 (.inr (.inr 8) :: l) = true := rfl
theorem mx_39 : mxl 39 = 3 := rfl
theorem bq40_0 : blk 40 0 = [(47, 1, 0), (22, 9, 0), (3, 0, 1), (7, 0, 0), (1, 2, 0), (0, 2, 0), (1, 3, 0), (32, 1, 0)] := rfl
theorem bq40_1 : blk 40 1 = [(0, 3, 0), (29, 4, 2), (47, 1, 0), (22, 6, 0), (0, 3, 0), (24, 0, 0), (1, 4, 0), (47, 0, 0), (22, 0, 3), (0, 4, 0), (24, 0, 0), (16, 0, 0), (47, 1, 0), (22, 3, 0), (0, 4, 0), (24, 0, 0), (16, 0, 0), (19, 0, 0), (4, 0, 100), (20, 0, 0), (17, 0, 0), (1, 5, 0), (47, 0, 0), (22, 0, 3), (0, 4, 0), (34, 0, 0), (24, 0, 0), (0, 5, 0), (7, 0, 0), (25, 0, 0), (0, 3, 0), (0, 2, 0), (30, 2, 1), (47, 0, 0), (33, 0, 0), (22, 4, 3), (0, 5, 0), (6, 0, 0), (23, 4, 3), (31, 3, 0)] := rfl
theorem bq40_2 : blk 40 2 = [(47, 0, 0), (22, 0, 3), (47, 1, 0), (22, 6, 0), (0, 3, 0), (3, 0, 1), (6, 0, 0), (24, 0, 0), (34, 0, 0), (24, 0, 0), (0, 5, 0), (6, 0, 0), (25, 0, 0), (32, 3, 0)] := rfl
theorem bq40_3 : blk 40 3 = [(5, 3, (-1)), (31, 1, 0)] := rfl
theorem bq40_4 : blk 40 4 = [(38, 0, 0)] := rfl
theorem rc_40_5 (l : List AV) : rcvb 40 (.inr (.inr 5) :: l) = true := rfl
theorem rc_40_8 (l : List AV) : rcvb 40 (.inr (.inr 8) :: l) = true := rfl
theorem mx_40 : mxl 40 = 6 := rfl
theorem bq41_0 : blk 41 0 = [(47, 0, 0), (22, 1, 3), (0, 2, 0), (34, 0, 0), (24, 0, 0), (47, 1, 0), (22, 7, 1), (0, 2, 0), (3, 0, 100), (8, 0, 0), (47, 0, 0), (22, 2, 3), (6, 0, 0), (24, 0, 0), (6, 0, 0), (25, 0, 0), (47, 1, 0), (0, 2, 0), (47, 0, 0), (22, 2, 3), (53, 9, 1), (29, 1, 0), (47, 0, 0), (33, 0, 0), (22, 3, 3), (47, 0, 0), (22, 1, 3), (0, 2, 0), (24, 0, 0), (6, 0, 0), (23, 3, 3), (47, 0, 0), (22, 1, 3), (0, 2, 0), (3, 0, 0), (25, 0, 0), (32, 1, 0)] := rfl
theorem bq41_1 : blk 41 1 = [(38, 0, 0)] := rfl
theorem rc_41_5 (l : List AV) : rcvb 41 (.inr (.inr 5) :: l) = true := rfl
theorem rc_41_8 (l : List AV) : rcvb 41 (.inr (.inr 8) :: l) = true := rfl
theorem mx_41 : mxl 41 = 3 := rfl
theorem bq42_0 : blk 42 0 = [(47, 2, 0), (22, 0, 1), (0, 3, 0), (24, 0, 0), (1, 4, 0), (47, 2, 0), (22, 1, 1), (0, 3, 0), (24, 0, 0), (1, 5, 0), (47, 0, 0), (47, 1, 0), (0, 4, 0), (53, 34, 1), (1, 6, 0), (47, 0, 0), (47, 1, 0), (0, 5, 0), (53, 34, 1), (1, 7, 0), (0, 6, 0), (0, 7, 0), (30, 1, 3), (47, 2, 0), (22, 1, 1), (0, 3, 0), (24, 0, 0), (1, 4, 0), (47, 2, 0), (22, 0, 1), (0, 3, 0), (24, 0, 0), (1, 5, 0), (0, 6, 0), (1, 8, 0), (0, 7, 0), (1, 6, 0), (0, 8, 0), (1, 7, 0), (32, 1, 0)] := rfl
theorem bq42_1 : blk 42 1 = [(0, 6, 0), (47, 0, 0), (47, 2, 0), (0, 3, 0), (53, 36, 1), (0, 7, 0), (39, 0, 0), (7, 0, 0), (16, 0, 0), (2, 8, 0), (48, 8, 0), (4, 0, 0), (21, 0, 0), (29, 2, 5), (47, 2, 0), (22, 3, 1), (0, 3, 0), (24, 0, 0), (16, 0, 0), (48, 8, 0), (19, 0, 0), (48, 8, 0), (47, 1, 0), (22, 1, 0), (0, 4, 0), (24, 0, 0), (16, 0, 0), (19, 0, 0), (4, 0, 2), (20, 0, 0), (41, 0, 0), (2, 10, 0), (48, 10, 0), (47, 0, 0), (22, 0, 3), (0, 4, 0), (24, 0, 0), (16, 0, 0), (41, 0, 0), (17, 0, 0), (1, 12, 0), (47, 0, 0), (22, 0, 3), (0, 4, 0), (34, 0, 0), (24, 0, 0), (0, 12, 0), (7, 0, 0), (25, 0, 0), (47, 0, 0), (22, 0, 3), (0, 5, 0), (34, 0, 0), (24, 0, 0), (0, 12, 0), (6, 0, 0), (25, 0, 0), (32, 2, 0)] := rfl
theorem bq42_2 : blk 42 2 = [(38, 0, 0)] := rfl
theorem rc_42_5 (l : List AV) : rcvb 42 (.inr (.inr 5) :: l) = true := rfl
theorem rc_42_8 (l : List AV) : rcvb 42 (.inr (.inr 8) :: l) = true := rfl
theorem mx_42 : mxl 42 = 13 := rfl
theorem bq43_0 : blk 43 0 = [(47, 0, 0), (3, 0, 0), (23, 2, 4), (38, 0, 0)] := rfl
theorem rc_43_6 (l : List AV) : rcvb 43 (.inr (.inr 6) :: l) = true := rfl
theorem mx_43 : mxl 43 = 1 := rfl
theorem bq44_0 : blk 44 0 = [(47, 0, 0), (22, 2, 4), (29, 1, 0), (38, 0, 0)] := rfl
theorem bq44_1 : blk 44 1 = [(47, 0, 0), (22, 0, 4), (47, 3, 0), (52, 33, 0), (47, 3, 0), (22, 2, 3), (1, 4, 0), (32, 2, 0)] := rfl
theorem bq44_2 : blk 44 2 = [(0, 4, 0), (3, 0, 100), (30, 3, 4), (47, 0, 0), (22, 0, 4), (22, 0, 3), (3, 0, 0), (47, 0, 0), (22, 1, 4), (0, 4, 0), (3, 0, 10), (8, 0, 0), (3, 0, 10), (42, 0, 0), (47, 0, 0), (22, 0, 4), (47, 1, 0), (47, 2, 0), (53, 38, 0), (5, 4, 1), (31, 2, 0)] := rfl
theorem bq44_3 : blk 44 3 = [(47, 0, 0), (3, 0, 1), (23, 2, 4), (38, 0, 0)] := rfl
theorem rc_44_6 (l : List AV) : rcvb 44 (.inr (.inr 6) :: l) = true := rfl
theorem mx_44 : mxl 44 = 5 := rfl
theorem bq45_0 : blk 45 0 = [(47, 0, 0), (22, 1, 4), (0, 2, 0), (3, 0, 10), (8, 0, 0), (0, 1, 0), (6, 0, 0), (24, 0, 0), (37, 0, 0)] := rfl
theorem rc_45_6 (l : List AV) : rcvb 45 (.inr (.inr 6) :: l) = true := rfl
theorem mx_45 : mxl 45 = 3 := rfl
theorem bq46_0 : blk 46 0 = [(47, 0, 0), (0, 2, 0), (0, 3, 0), (53, 45, 1), (47, 1, 0), (22, 1, 0), (0, 2, 0), (24, 0, 0), (30, 1, 2), (3, 0, 1), (31, 2, 0)] := rfl
theorem bq46_1 : blk 46 1 = [(3, 0, 0), (32, 2, 0)] := rfl
theorem bq46_2 : blk 46 2 = [(37, 0, 1)] := rfl
theorem rc_46_6 (l : List AV) : rcvb 46 (.inr (.inr 6) :: l) = true := rfl
theorem mx_46 : mxl 46 = 4 := rfl
theorem bq47_0 : blk 47 0 = [(0, 3, 0), (1, 4, 0), (32, 1, 0)] := rfl
theorem bq47_1 : blk 47 1 = [(0, 4, 0), (3, 0, 100), (30, 3, 4), (47, 0, 0), (47, 1, 0), (0, 2, 0), (0, 4, 0), (54, 46, 1), (29, 2, 0), (0, 4, 0), (37, 0, 0)] := rfl
theorem bq47_2 : blk 47 2 = [(5, 4, 1), (31, 1, 0)] := rfl
theorem bq47_3 : blk 47 3 = [(3, 0, (-1)), (37, 0, 0)] := rfl
theorem rc_47_6 (l : List AV) : rcvb 47 (.inr (.inr 6) :: l) = true := rfl
theorem mx_47 : mxl 47 = 5 := rfl
theorem bq48_0 : blk 48 0 = [(3, 0, 0), (1, 4, 0), (47, 0, 0), (22, 0, 4), (47, 3, 0), (52, 33, 0), (47, 3, 0), (22, 2, 3), (1, 5, 0), (32, 1, 0)] := rfl
theorem bq48_1 : blk 48 1 = [(0, 5, 0), (3, 0, 100), (30, 5, 4), (3, 0, 0), (1, 6, 0), (32, 2, 0)] := rfl
theorem bq48_2 : blk 48 2 = [(0, 6, 0), (47, 1, 0), (22, 8, 0), (30, 4, 3), (47, 0, 0), (22, 0, 4), (47, 1, 0), (0, 6, 0), (53, 35, 1), (29, 3, 0), (0, 4, 0), (3, 0, 1), (0, 6, 0), (11, 0, 0), (10, 0, 0), (1, 4, 0), (32, 3, 0)] := rfl
theorem bq48_3 : blk 48 3 = [(5, 6, 1), (31, 2, 0)] := rfl
theorem bq48_4 : blk 48 4 = [(47, 0, 0), (22, 0, 4), (47, 1, 0), (47, 2, 0), (53, 38, 0), (5, 5, 1), (31, 1, 0)] := rfl
theorem bq48_5 : blk 48 5 = [(3, 0, 0), (1, 5, 0), (3, 0, 0), (1, 6, 0), (32, 6, 0)] := rfl
theorem bq48_6 : blk 48 6 = [(0, 6, 0), (47, 1, 0), (22, 8, 0), (30, 7, 3), (0, 5, 0), (0, 4, 0), (0, 6, 0), (12, 0, 0), (3, 0, 1), (9, 0, 0), (47, 1, 0), (22, 5, 0), (0, 6, 0), (24, 0, 0), (8, 0, 0), (6, 0, 0), (1, 5, 0), (5, 6, 1), (31, 6, 0)] := rfl
theorem bq48_7 : blk 48 7 = [(0, 5, 0), (37, 0, 0)] := rfl
theorem rc_48_6 (l : List AV) : rcvb 48 (.inr (.inr 6) :: l) = true := rfl
theorem mx_48 : mxl 48 = 7 := rfl
theorem bq49_0 : blk 49 0 = [(47, 0, 0), (22, 3, 5), (3, 0, 100), (30, 1, 2), (3, 0, 0), (37, 0, 1)] := rfl
theorem bq49_1 : blk 49 1 = [(47, 0, 0), (22, 0, 5), (47, 0, 0), (22, 3, 5), (0, 1, 0), (25, 0, 0), (47, 0, 0), (22, 1, 5), (47, 0, 0), (22, 3, 5), (0, 2, 0), (25, 0, 0), (47, 0, 0), (22, 2, 5), (47, 0, 0), (22, 3, 5), (0, 3, 0), (25, 0, 0), (47, 0, 0), (33, 0, 0), (22, 3, 5), (3, 0, 1), (6, 0, 0), (23, 3, 5), (3, 0, 1), (37, 0, 1)] := rfl
theorem rc_49_4 (l : List AV) : rcvb 49 (.inr (.inr 4) :: l) = true := rfl
theorem mx_49 : mxl 49 = 4 := rfl
theorem bq50_0 : blk 50 0 = [(47, 0, 0), (22, 3, 5), (3, 0, 1), (7, 0, 0), (1, 3, 0), (32, 1, 0)] := rfl
theorem bq50_1 : blk 50 1 = [(0, 3, 0), (29, 3, 2), (47, 0, 0), (22, 0, 5), (0, 3, 0), (24, 0, 0), (0, 1, 0), (30, 2, 1), (47, 0, 0), (22, 2, 5), (0, 3, 0), (24, 0, 0), (0, 2, 0), (30, 2, 4), (47, 0, 0), (22, 1, 5), (0, 3, 0), (24, 0, 0), (37, 0, 0)] := rfl
theorem bq50_2 : blk 50 2 = [(5, 3, (-1)), (31, 1, 0)] := rfl
theorem bq50_3 : blk 50 3 = [(3, 0, (-1)), (37, 0, 0)] := rfl
theorem rc_50_4 (l : List AV) : rcvb 50 (.inr (.inr 4) :: l) = true := rfl
theorem mx_50 : mxl 50 = 4 := rfl
theorem bq51_0 : blk 51 0 = [(47, 0, 0), (22, 8, 6), (1, 5, 0), (47, 0, 0), (22, 0, 6), (0, 5, 0), (0, 1, 0), (25, 0, 0), (47, 0, 0), (22, 1, 6), (0, 5, 0), (0, 2, 0), (25, 0, 0), (47, 0, 0), (22, 2, 6), (0, 5, 0), (0, 3, 0), (25, 0, 0), (47, 0, 0), (22, 3, 6), (0, 5, 0), (0, 4, 0), (25, 0, 0), (47, 0, 0), (22, 4, 6), (0, 1, 0), (3, 0, 12), (8, 0, 0), (47, 0, 0), (22, 5, 6), (0, 1, 0), (24, 0, 0), (6, 0, 0), (0, 5, 0), (25, 0, 0), (47, 0, 0), (22, 5, 6), (0, 1, 0), (34, 0, 0), (24, 0, 0), (3, 0, 1), (6, 0, 0), (25, 0, 0), (0, 2, 0), (3, 0, (-1)), (30, 1, 0), (47, 0, 0), (22, 6, 6), (0, 2, 0), (3, 0, 12), (8, 0, 0), (47, 0, 0), (22, 7, 6), (0, 2, 0), (24, 0, 0), (6, 0, 0), (0, 5, 0), (25, 0, 0), (47, 0, 0), (22, 7, 6), (0, 2, 0), (34, 0, 0), (24, 0, 0), (3, 0, 1), (6, 0, 0), (25, 0, 0), (32, 1, 0)] := rfl
theorem bq51_1 : blk 51 1 = [(47, 0, 0), (33, 0, 0), (22, 8, 6), (3, 0, 1), (6, 0, 0), (23, 8, 6), (0, 5, 0), (37, 0, 0)] := rfl
theorem rc_51_3 (l : List AV) : rcvb 51 (.inr (.inr 3) :: l) = true := rfl
theorem mx_51 : mxl 51 = 6 := rfl
theorem bq52_0 : blk 52 0 = [(47, 0, 0), (22, 0, 7), (0, 1, 0), (0, 2, 0), (53, 3, 1), (29, 1, 0), (0, 3, 0), (3, 0, 0), (3, 0, 100), (53, 76, 1), (29, 2, 1), (32, 1, 0)] := rfl
theorem bq52_1 : blk 52 1 = [(3, 0, (-1)), (37, 0, 0)] := rfl
theorem bq52_2 : blk 52 2 = [(47, 0, 0), (22, 0, 7), (0, 1, 0), (0, 2, 0), (0, 3, 0), (54, 4, 1), (1, 4, 0), (47, 0, 0), (51, 82, 0), (0, 4, 0), (37, 0, 0)] := rfl
theorem rc_52_0 (l : List AV) : rcvb 52 (.inr (.inr 0) :: l) = true := rfl
theorem mx_52 : mxl 52 = 5 := rfl
theorem bq53_0 : blk 53 0 = [(47, 0, 0), (22, 0, 7), (0, 1, 0), (0, 2, 0), (53, 3, 1), (29, 1, 0), (0, 3, 0), (3, 0, 0), (3, 0, 500), (53, 76, 1), (29, 1, 0), (0, 4, 0), (3, 0, 0), (3, 0, 1000000), (53, 76, 1), (29, 2, 1), (32, 1, 0)] := rfl
theorem bq53_1 : blk 53 1 = [(3, 0, (-1)), (37, 0, 0)] := rfl
theorem bq53_2 : blk 53 2 = [(47, 0, 0), (22, 0, 7), (0, 1, 0), (0, 2, 0), (0, 3, 0), (0, 4, 0), (55, 5, 1), (1, 5, 0), (47, 0, 0), (51, 82, 0), (0, 5, 0), (37, 0, 0)] := rfl
theorem rc_53_0 (l : List AV) : rcvb 53 (.inr (.inr 0) :: l) = true := rfl
theorem mx_53 : mxl 53 = 6 := rfl
theorem bq54_0 : blk 54 0 = [(47, 0, 0), (22, 0, 7), (0, 1, 0), (52, 1, 1), (29, 1, 0), (47, 0, 0), (22, 0, 7), (0, 2, 0), (52, 1, 1), (29, 1, 0), (0, 1, 0), (0, 2, 0), (30, 1, 0), (47, 0, 0), (22, 1, 7), (22, 8, 1), (3, 0, 12), (30, 2, 2), (32, 1, 0)] := rfl
theorem bq54_1 : blk 54 1 = [(3, 0, (-1)), (37, 0, 0)] := rfl
theorem bq54_2 : blk 54 2 = [(0, 3, 0), (3, 0, 0), (3, 0, 2000), (53, 76, 1), (29, 3, 0), (0, 4, 0), (3, 0, 1), (3, 0, 1000), (53, 76, 1), (29, 3, 0), (0, 5, 0), (3, 0, 0), (3, 0, 20), (53, 76, 1), (29, 4, 1), (32, 3, 0)] := rfl
theorem bq54_3 : blk 54 3 = [(3, 0, (-1)), (37, 0, 0)] := rfl
theorem bq54_4 : blk 54 4 = [(47, 0, 0), (22, 1, 7), (0, 1, 0), (0, 2, 0), (0, 3, 0), (0, 4, 0), (0, 5, 0), (56, 8, 1), (1, 6, 0), (47, 0, 0), (51, 82, 0), (0, 6, 0), (37, 0, 0)] := rfl
theorem rc_54_0 (l : List AV) : rcvb 54 (.inr (.inr 0) :: l) = true := rfl
theorem mx_54 : mxl 54 = 7 := rfl
theorem bq55_0 : blk 55 0 = [(47, 0, 0), (22, 1, 7), (0, 1, 0), (52, 7, 1), (29, 1, 0), (47, 0, 0), (0, 2, 0), (52, 77, 1), (29, 1, 0), (0, 3, 0), (3, 0, 0), (47, 0, 0), (22, 1, 7), (22, 2, 1), (0, 1, 0), (24, 0, 0), (53, 76, 1), (29, 2, 1), (32, 1, 0)] := rfl
theorem bq55_1 : blk 55 1 = [(3, 0, 0), (37, 0, 1)] := rfl
theorem bq55_2 : blk 55 2 = [(47, 0, 0), (0, 1, 0), (52, 78, 1), (29, 3, 0), (3, 0, 0), (37, 0, 1)] := rfl
theorem bq55_3 : blk 55 3 = [(47, 0, 0), (22, 1, 7), (22, 6, 1), (0, 1, 0), (0, 2, 0), (25, 0, 0), (47, 0, 0), (22, 1, 7), (22, 5, 1), (0, 1, 0), (0, 3, 0), (25, 0, 0), (47, 0, 0), (51, 82, 0), (3, 0, 1), (37, 0, 1)] := rfl
theorem rc_55_0 (l : List AV) : rcvb 55 (.inr (.inr 0) :: l) = true := rfl
theorem mx_55 : mxl 55 = 4 := rfl
theorem bq56_0 : blk 56 0 = [(47, 0, 0), (0, 1, 0), (52, 77, 1), (29, 1, 0), (0, 2, 0), (3, 0, 0), (3, 0, 1000000), (53, 76, 1), (29, 2, 1), (32, 1, 0)] := rfl
theorem bq56_1 : blk 56 1 = [(3, 0, 0), (37, 0, 1)] := rfl
theorem bq56_2 : blk 56 2 = [(47, 0, 0), (22, 0, 7), (22, 7, 0), (0, 1, 0), (0, 2, 0), (25, 0, 0), (47, 0, 0), (51, 82, 0), (3, 0, 1), (37, 0, 1)] := rfl
theorem rc_56_0 (l : List AV) : rcvb 56 (.inr (.inr 0) :: l) = true := rfl
theorem mx_56 : mxl 56 = 3 := rfl
theorem bq57_0 : blk 57 0 = [(0, 1, 0), (3, 0, 1), (3, 0, 10000), (53, 76, 1), (29, 1, 0), (47, 0, 0), (22, 7, 7), (0, 1, 0), (6, 0, 0), (3, 0, 100000), (30, 2, 5), (32, 1, 0)] := rfl
theorem bq57_1 : blk 57 1 = [(3, 0, (-1)), (37, 0, 0)] := rfl
theorem bq57_2 : blk 57 2 = [(47, 0, 0), (33, 0, 0), (22, 7, 7), (0, 1, 0), (6, 0, 0), (23, 7, 7), (47, 0, 0), (22, 7, 7), (37, 0, 0)] := rfl
theorem rc_57_0 (l : List AV) : rcvb 57 (.inr (.inr 0) :: l) = true := rfl
theorem mx_57 : mxl 57 = 2 := rfl
theorem bq58_0 : blk 58 0 = [(47, 0, 0), (0, 1, 0), (0, 2, 0), (53, 79, 1), (29, 1, 1), (3, 0, (-1)), (37, 0, 0)] := rfl
theorem bq58_1 : blk 58 1 = [(47, 0, 0), (22, 4, 7), (22, 2, 3), (47, 0, 0), (22, 1, 7), (22, 4, 1), (0, 1, 0), (24, 0, 0), (6, 0, 0), (1, 3, 0), (47, 0, 0), (33, 0, 0), (22, 7, 7), (0, 2, 0), (7, 0, 0), (23, 7, 7), (47, 0, 0), (22, 1, 7), (0, 1, 0), (0, 3, 0), (0, 2, 0), (54, 10, 0), (47, 0, 0), (51, 82, 0), (0, 3, 0), (37, 0, 0)] := rfl
theorem rc_58_0 (l : List AV) : rcvb 58 (.inr (.inr 0) :: l) = true := rfl
theorem mx_58 : mxl 58 = 4 := rfl
theorem bq59_0 : blk 59 0 = [(47, 0, 0), (22, 1, 7), (0, 1, 0), (52, 7, 1), (29, 1, 0), (0, 2, 0), (3, 0, 0), (3, 0, 99), (53, 76, 1), (29, 1, 0), (0, 3, 0), (3, 0, 0), (3, 0, 20), (53, 76, 1), (29, 2, 1), (32, 1, 0)] := rfl
theorem bq59_1 : blk 59 1 = [(3, 0, 0), (37, 0, 1)] := rfl
theorem bq59_2 : blk 59 2 = [(47, 0, 0), (22, 3, 7), (0, 1, 0), (0, 2, 0), (47, 0, 0), (22, 4, 7), (22, 2, 3), (0, 3, 0), (6, 0, 0), (54, 49, 1), (37, 0, 1)] := rfl
theorem rc_59_0 (l : List AV) : rcvb 59 (.inr (.inr 0) :: l) = true := rfl
theorem mx_59 : mxl 59 = 4 := rfl
theorem bq60_0 : blk 60 0 = [(47, 0, 0), (22, 1, 7), (0, 1, 0), (52, 7, 1), (29, 1, 0), (47, 0, 0), (22, 3, 7), (0, 1, 0), (47, 0, 0), (22, 4, 7), (22, 2, 3), (53, 50, 1), (31, 2, 0)] := rfl
theorem bq60_1 : blk 60 1 = [(3, 0, (-1)), (32, 2, 0)] := rfl
theorem bq60_2 : blk 60 2 = [(37, 0, 0)] := rfl
theorem rc_60_0 (l : List AV) : rcvb 60 (.inr (.inr 0) :: l) = true := rfl
theorem mx_60 : mxl 60 = 2 := rfl
theorem bq61_0 : blk 61 0 = [(3, 0, (-1)), (1, 1, 0), (3, 0, (-1)), (1, 2, 0), (3, 0, 0), (1, 3, 0), (32, 1, 0)] := rfl
theorem bq61_1 : blk 61 1 = [(0, 3, 0), (47, 0, 0), (22, 1, 7), (22, 8, 1), (30, 3, 3), (47, 0, 0), (22, 3, 7), (0, 3, 0), (47, 0, 0), (22, 4, 7), (22, 2, 3), (53, 50, 1), (1, 4, 0), (0, 4, 0), (0, 2, 0), (30, 2, 5), (0, 4, 0), (1, 2, 0), (0, 3, 0), (1, 1, 0), (32, 2, 0)] := rfl
theorem bq61_2 : blk 61 2 = [(5, 3, 1), (31, 1, 0)] := rfl
theorem bq61_3 : blk 61 3 = [(0, 1, 0), (37, 0, 0)] := rfl
theorem rc_61_0 (l : List AV) : rcvb 61 (.inr (.inr 0) :: l) = true := rfl
theorem mx_61 : mxl 61 = 5 := rfl
theorem bq62_0 : blk 62 0 = [(47, 0, 0), (22, 0, 7), (0, 1, 0), (52, 2, 1), (29, 1, 0), (0, 1, 0), (0, 2, 0), (30, 1, 0), (0, 2, 0), (3, 0, (-1)), (30, 2, 0), (47, 0, 0), (22, 0, 7), (0, 2, 0), (52, 2, 1), (29, 2, 1), (32, 1, 0)] := rfl
theorem bq62_1 : blk 62 1 = [(3, 0, (-1)), (37, 0, 0)] := rfl
theorem bq62_2 : blk 62 2 = [(0, 3, 0), (3, 0, 1), (3, 0, 99), (53, 76, 1), (29, 3, 0), (0, 4, 0), (3, 0, 1), (3, 0, 5), (53, 76, 1), (29, 3, 0), (47, 0, 0), (22, 2, 7), (22, 8, 6), (3, 0, 12), (30, 4, 2), (32, 3, 0)] := rfl
theorem bq62_3 : blk 62 3 = [(3, 0, (-1)), (37, 0, 0)] := rfl
theorem bq62_4 : blk 62 4 = [(47, 0, 0), (22, 2, 7), (0, 1, 0), (0, 2, 0), (0, 3, 0), (0, 4, 0), (55, 51, 1), (1, 5, 0), (47, 0, 0), (22, 6, 7), (51, 12, 0), (0, 5, 0), (37, 0, 0)] := rfl
theorem rc_62_0 (l : List AV) : rcvb 62 (.inr (.inr 0) :: l) = true := rfl
theorem mx_62 : mxl 62 = 6 := rfl
theorem bq63_0 : blk 63 0 = [(0, 1, 0), (3, 0, 0), (3, 0, 100), (53, 76, 1), (29, 1, 1), (3, 0, (-1)), (37, 0, 0)] := rfl
theorem bq63_1 : blk 63 1 = [(3, 0, 0), (1, 2, 0), (32, 2, 0)] := rfl
theorem bq63_2 : blk 63 2 = [(0, 2, 0), (0, 1, 0), (30, 3, 3), (47, 0, 0), (22, 4, 7), (22, 2, 3), (3, 0, 100), (30, 3, 3), (47, 0, 0), (22, 4, 7), (47, 0, 0), (22, 0, 7), (47, 0, 0), (22, 1, 7), (53, 38, 0), (5, 2, 1), (31, 2, 0)] := rfl
theorem bq63_3 : blk 63 3 = [(47, 0, 0), (51, 82, 0), (47, 0, 0), (22, 4, 7), (22, 2, 3), (37, 0, 0)] := rfl
theorem rc_63_0 (l : List AV) : rcvb 63 (.inr (.inr 0) :: l) = true := rfl
theorem mx_63 : mxl 63 = 3 := rfl
theorem bq64_0 : blk 64 0 = [(47, 0, 0), (22, 0, 7), (0, 1, 0), (52, 2, 1), (29, 1, 0), (0, 2, 0), (3, 0, 0), (3, 0, 500), (53, 76, 1), (29, 2, 1), (32, 1, 0)] := rfl
theorem bq64_1 : blk 64 1 = [(3, 0, 0), (37, 0, 1)] := rfl
theorem bq64_2 : blk 64 2 = [(47, 0, 0), (22, 0, 7), (22, 4, 0), (0, 1, 0), (0, 2, 0), (25, 0, 0), (47, 0, 0), (22, 6, 7), (51, 12, 0), (3, 0, 1), (37, 0, 1)] := rfl
theorem rc_64_0 (l : List AV) : rcvb 64 (.inr (.inr 0) :: l) = true := rfl
theorem mx_64 : mxl 64 = 3 := rfl
theorem bq65_0 : blk 65 0 = [(47, 0, 0), (22, 0, 7), (0, 1, 0), (52, 1, 1), (29, 1, 1), (3, 0, (-1)), (37, 0, 0)] := rfl
theorem bq65_1 : blk 65 1 = [(47, 0, 0), (22, 0, 7), (22, 0, 0), (0, 1, 0), (46, 0, 0), (1, 3, 0), (0, 2, 0), (36, 1, 0)] := rfl
theorem bq65_2 : blk 65 2 = [(47, 0, 0), (22, 4, 7), (22, 0, 3), (0, 1, 0), (24, 0, 0), (37, 0, 0)] := rfl
theorem bq65_3 : blk 65 3 = [(47, 0, 0), (22, 4, 7), (47, 0, 0), (22, 0, 7), (0, 1, 0), (53, 34, 1), (37, 0, 0)] := rfl
theorem bq65_4 : blk 65 4 = [(47, 0, 0), (22, 0, 7), (22, 1, 0), (0, 1, 0), (24, 0, 0), (37, 0, 0)] := rfl
theorem bq65_5 : blk 65 5 = [(47, 0, 0), (22, 0, 7), (22, 2, 0), (0, 1, 0), (24, 0, 0), (37, 0, 0)] := rfl
theorem bq65_6 : blk 65 6 = [(0, 3, 0), (29, 7, 0), (3, 0, (-1)), (31, 8, 0)] := rfl
theorem bq65_7 : blk 65 7 = [(47, 0, 0), (22, 0, 7), (22, 3, 0), (0, 1, 0), (24, 0, 0), (32, 8, 0)] := rfl
theorem bq65_8 : blk 65 8 = [(37, 0, 0)] := rfl
theorem bq65_9 : blk 65 9 = [(0, 3, 0), (29, 10, 0), (47, 0, 0), (22, 0, 7), (22, 4, 0), (0, 1, 0), (24, 0, 0), (31, 11, 0)] := rfl
theorem bq65_10 : blk 65 10 = [(3, 0, (-1)), (32, 11, 0)] := rfl
theorem bq65_11 : blk 65 11 = [(37, 0, 0)] := rfl
theorem bq65_12 : blk 65 12 = [(0, 3, 0), (29, 13, 0), (47, 0, 0), (22, 0, 7), (22, 5, 0), (0, 1, 0), (24, 0, 0), (31, 14, 0)] := rfl
theorem bq65_13 : blk 65 13 = [(3, 0, (-1)), (32, 14, 0)] := rfl
theorem bq65_14 : blk 65 14 = [(37, 0, 0)] := rfl
theorem bq65_15 : blk 65 15 = [(47, 0, 0), (22, 4, 7), (47, 0, 0), (22, 0, 7), (0, 1, 0), (53, 35, 1), (29, 16, 0), (3, 0, 1), (31, 17, 0)] := rfl
theorem bq65_16 : blk 65 16 = [(3, 0, 0), (32, 17, 0)] := rfl
theorem bq65_17 : blk 65 17 = [(37, 0, 0)] := rfl
theorem bq65_18 : blk 65 18 = [(3, 0, (-1)), (37, 0, 0)] := rfl
theorem rc_65_0 (l : List AV) : rcvb 65 (.inr (.inr 0) :: l) = true := rfl
theorem mx_65 : mxl 65 = 4 := rfl
theorem bq66_0 : blk 66 0 = [(47, 0, 0), (22, 1, 7), (0, 1, 0), (52, 7, 1), (29, 1, 1), (3, 0, (-1)), (37, 0, 0)] := rfl
theorem bq66_1 : blk 66 1 = [(0, 2, 0), (36, 2, 0)] := rfl
theorem bq66_2 : blk 66 2 = [(47, 0, 0), (22, 4, 7), (47, 0, 0), (22, 1, 7), (0, 1, 0), (53, 36, 1), (37, 0, 0)] := rfl
theorem bq66_3 : blk 66 3 = [(47, 0, 0), (22, 4, 7), (22, 1, 3), (0, 1, 0), (24, 0, 0), (37, 0, 0)] := rfl
theorem bq66_4 : blk 66 4 = [(47, 0, 0), (22, 1, 7), (0, 1, 0), (47, 0, 0), (22, 4, 7), (22, 2, 3), (53, 11, 1), (37, 0, 0)] := rfl
theorem bq66_5 : blk 66 5 = [(47, 0, 0), (0, 1, 0), (52, 78, 1), (29, 6, 0), (3, 0, 1), (31, 7, 0)] := rfl
theorem bq66_6 : blk 66 6 = [(3, 0, 0), (32, 7, 0)] := rfl
theorem bq66_7 : blk 66 7 = [(37, 0, 0)] := rfl
theorem bq66_8 : blk 66 8 = [(3, 0, (-1)), (37, 0, 0)] := rfl
theorem rc_66_0 (l : List AV) : rcvb 66 (.inr (.inr 0) :: l) = true := rfl
theorem mx_66 : mxl 66 = 3 := rfl
theorem bq67_0 : blk 67 0 = [(47, 0, 0), (22, 0, 7), (0, 1, 0), (52, 2, 1), (29, 1, 1), (3, 0, (-1)), (37, 0, 0)] := rfl
theorem bq67_1 : blk 67 1 = [(47, 0, 0), (22, 5, 7), (47, 0, 0), (22, 0, 7), (47, 0, 0), (22, 1, 7), (47, 0, 0), (22, 4, 7), (54, 44, 0), (47, 0, 0), (22, 5, 7), (47, 0, 0), (22, 0, 7), (0, 1, 0), (47, 0, 0), (22, 4, 7), (22, 2, 3), (54, 47, 1), (37, 0, 0)] := rfl
theorem rc_67_0 (l : List AV) : rcvb 67 (.inr (.inr 0) :: l) = true := rfl
theorem mx_67 : mxl 67 = 2 := rfl
theorem bq68_0 : blk 68 0 = [(47, 0, 0), (22, 0, 7), (0, 1, 0), (52, 1, 1), (29, 1, 0), (0, 2, 0), (47, 0, 0), (22, 4, 7), (22, 2, 3), (3, 0, 100), (53, 76, 1), (29, 2, 1), (32, 1, 0)] := rfl
theorem bq68_1 : blk 68 1 = [(3, 0, (-1)), (37, 0, 0)] := rfl
theorem bq68_2 : blk 68 2 = [(47, 0, 0), (22, 5, 7), (47, 0, 0), (22, 0, 7), (47, 0, 0), (22, 1, 7), (47, 0, 0), (22, 4, 7), (54, 44, 0), (47, 0, 0), (22, 5, 7), (0, 1, 0), (0, 2, 0), (53, 45, 1), (37, 0, 0)] := rfl
theorem rc_68_0 (l : List AV) : rcvb 68 (.inr (.inr 0) :: l) = true := rfl
theorem mx_68 : mxl 68 = 3 := rfl
theorem bq69_0 : blk 69 0 = [(47, 0, 0), (22, 5, 7), (47, 0, 0), (22, 0, 7), (47, 0, 0), (22, 1, 7), (47, 0, 0), (22, 4, 7), (54, 48, 1), (37, 0, 0)] := rfl
theorem rc_69_0 (l : List AV) : rcvb 69 (.inr (.inr 0) :: l) = true := rfl
theorem mx_69 : mxl 69 = 1 := rfl
theorem bq70_0 : blk 70 0 = [(3, 0, (-1)), (1, 2, 0), (3, 0, 0), (1, 3, 0), (3, 0, 0), (1, 4, 0), (32, 1, 0)] := rfl
theorem bq70_1 : blk 70 1 = [(0, 4, 0), (47, 0, 0), (22, 1, 7), (22, 8, 1), (30, 4, 3), (47, 0, 0), (0, 4, 0), (0, 1, 0), (53, 79, 1), (29, 3, 0), (47, 0, 0), (0, 4, 0), (0, 1, 0), (53, 81, 1), (1, 5, 0), (0, 2, 0), (3, 0, (-1)), (30, 2, 0), (0, 5, 0), (0, 3, 0), (30, 3, 3), (32, 2, 0)] := rfl
theorem bq70_2 : blk 70 2 = [(0, 4, 0), (1, 2, 0), (0, 5, 0), (1, 3, 0), (32, 3, 0)] := rfl
theorem bq70_3 : blk 70 3 = [(5, 4, 1), (31, 1, 0)] := rfl
theorem bq70_4 : blk 70 4 = [(0, 2, 0), (37, 0, 0)] := rfl
theorem rc_70_0 (l : List AV) : rcvb 70 (.inr (.inr 0) :: l) = true := rfl
theorem mx_70 : mxl 70 = 6 := rfl
theorem bq71_0 : blk 71 0 = [(0, 1, 0), (47, 0, 0), (22, 4, 7), (22, 2, 3), (3, 0, 100), (53, 76, 1), (29, 1, 1), (3, 0, (-1)), (37, 0, 0)] := rfl
theorem bq71_1 : blk 71 1 = [(47, 0, 0), (51, 83, 0), (47, 0, 0), (22, 6, 7), (47, 0, 0), (22, 2, 7), (0, 1, 0), (53, 14, 0), (47, 0, 0), (22, 6, 7), (22, 0, 2), (0, 1, 0), (24, 0, 0), (37, 0, 0)] := rfl
theorem rc_71_0 (l : List AV) : rcvb 71 (.inr (.inr 0) :: l) = true := rfl
theorem mx_71 : mxl 71 = 2 := rfl
theorem bq72_0 : blk 72 0 = [(47, 0, 0), (51, 83, 0), (47, 0, 0), (22, 6, 7), (47, 0, 0), (22, 2, 7), (3, 0, 100), (53, 14, 0), (47, 0, 0), (22, 6, 7), (51, 15, 1), (37, 0, 0)] := rfl
theorem rc_72_0 (l : List AV) : rcvb 72 (.inr (.inr 0) :: l) = true := rfl
theorem mx_72 : mxl 72 = 1 := rfl
theorem bq73_0 : blk 73 0 = [(0, 1, 0), (47, 0, 0), (22, 4, 7), (22, 2, 3), (3, 0, 100), (53, 76, 1), (29, 1, 1), (3, 0, (-1)), (37, 0, 0)] := rfl
theorem bq73_1 : blk 73 1 = [(47, 0, 0), (0, 1, 0), (52, 84, 0), (47, 0, 0), (22, 6, 7), (22, 16, 2), (37, 0, 0)] := rfl
theorem rc_73_0 (l : List AV) : rcvb 73 (.inr (.inr 0) :: l) = true := rfl
theorem mx_73 : mxl 73 = 2 := rfl
theorem bq74_0 : blk 74 0 = [(0, 1, 0), (47, 0, 0), (22, 4, 7), (22, 2, 3), (3, 0, 100), (53, 76, 1), (29, 1, 0), (0, 3, 0), (3, 0, 0), (3, 0, 1), (53, 76, 1), (29, 2, 1), (32, 1, 0)] := rfl
theorem bq74_1 : blk 74 1 = [(3, 0, (-1)), (37, 0, 0)] := rfl
theorem bq74_2 : blk 74 2 = [(47, 0, 0), (0, 1, 0), (52, 84, 0), (0, 2, 0), (29, 3, 2), (0, 2, 0), (47, 0, 0), (22, 6, 7), (22, 16, 2), (30, 4, 2), (32, 3, 0)] := rfl
theorem bq74_3 : blk 74 3 = [(3, 0, (-1)), (37, 0, 0)] := rfl
theorem bq74_4 : blk 74 4 = [(0, 3, 0), (29, 5, 1), (47, 0, 0), (22, 6, 7), (0, 2, 0), (52, 31, 1), (31, 6, 0)] := rfl
theorem bq74_5 : blk 74 5 = [(47, 0, 0), (22, 6, 7), (0, 2, 0), (52, 32, 1), (32, 6, 0)] := rfl
theorem bq74_6 : blk 74 6 = [(37, 0, 0)] := rfl
theorem rc_74_0 (l : List AV) : rcvb 74 (.inr (.inr 0) :: l) = true := rfl
theorem mx_74 : mxl 74 = 4 := rfl
theorem bq75_0 : blk 75 0 = [(0, 1, 0), (36, 3, 0)] := rfl
theorem bq75_1 : blk 75 1 = [(47, 0, 0), (22, 4, 7), (22, 2, 3), (37, 0, 0)] := rfl
theorem bq75_2 : blk 75 2 = [(47, 0, 0), (22, 0, 7), (22, 8, 0), (37, 0, 0)] := rfl
theorem bq75_3 : blk 75 3 = [(47, 0, 0), (22, 1, 7), (22, 8, 1), (37, 0, 0)] := rfl
theorem bq75_4 : blk 75 4 = [(47, 0, 0), (22, 2, 7), (22, 8, 6), (37, 0, 0)] := rfl
theorem bq75_5 : blk 75 5 = [(47, 0, 0), (22, 7, 7), (37, 0, 0)] := rfl
theorem bq75_6 : blk 75 6 = [(47, 0, 0), (51, 80, 1), (37, 0, 0)] := rfl
theorem bq75_7 : blk 75 7 = [(47, 0, 0), (22, 4, 7), (51, 37, 1), (37, 0, 0)] := rfl
theorem bq75_8 : blk 75 8 = [(47, 0, 0), (22, 4, 7), (22, 3, 3), (37, 0, 0)] := rfl
theorem bq75_9 : blk 75 9 = [(47, 0, 0), (22, 4, 7), (22, 4, 3), (37, 0, 0)] := rfl
theorem bq75_10 : blk 75 10 = [(47, 0, 0), (22, 4, 7), (22, 5, 3), (37, 0, 0)] := rfl
theorem bq75_11 : blk 75 11 = [(3, 0, (-1)), (37, 0, 0)] := rfl
theorem rc_75_0 (l : List AV) : rcvb 75 (.inr (.inr 0) :: l) = true := rfl
theorem mx_75 : mxl 75 = 2 := rfl
theorem bq76_0 : blk 76 0 = [(0, 0, 0), (0, 1, 0), (30, 1, 2), (0, 0, 0), (0, 2, 0), (30, 1, 4), (3, 0, 1), (31, 2, 0)] := rfl
theorem bq76_1 : blk 76 1 = [(3, 0, 0), (32, 2, 0)] := rfl
theorem bq76_2 : blk 76 2 = [(37, 0, 1)] := rfl
theorem rc_76 (l : List AV) : rcvb 76 l = true := rfl
theorem mx_76 : mxl 76 = 3 := rfl
theorem bq77_0 : blk 77 0 = [(0, 1, 0), (47, 0, 0), (22, 4, 7), (22, 2, 3), (30, 1, 2), (0, 1, 0), (3, 0, 100), (30, 1, 3), (3, 0, 1), (31, 2, 0)] := rfl
theorem bq77_1 : blk 77 1 = [(3, 0, 0), (32, 2, 0)] := rfl
theorem bq77_2 : blk 77 2 = [(37, 0, 1)] := rfl
theorem rc_77_0 (l : List AV) : rcvb 77 (.inr (.inr 0) :: l) = true := rfl
theorem mx_77 : mxl 77 = 2 := rfl
theorem bq78_0 : blk 78 0 = [(47, 0, 0), (22, 1, 7), (0, 1, 0), (47, 0, 0), (22, 4, 7), (22, 2, 3), (3, 0, 1), (7, 0, 0), (53, 9, 1), (37, 0, 1)] := rfl
theorem rc_78_0 (l : List AV) : rcvb 78 (.inr (.inr 0) :: l) = true := rfl
theorem mx_78 : mxl 78 = 2 := rfl
theorem bq79_0 : blk 79 0 = [(47, 0, 0), (22, 1, 7), (0, 1, 0), (52, 7, 1), (29, 1, 0), (0, 2, 0), (3, 0, 1), (47, 0, 0), (22, 7, 7), (53, 76, 1), (29, 1, 0), (47, 0, 0), (47, 0, 0), (22, 4, 7), (22, 2, 3), (47, 0, 0), (22, 1, 7), (22, 4, 1), (0, 1, 0), (24, 0, 0), (6, 0, 0), (52, 77, 1), (29, 1, 0), (3, 0, 1), (31, 2, 0)] := rfl
theorem bq79_1 : blk 79 1 = [(3, 0, 0), (32, 2, 0)] := rfl
theorem bq79_2 : blk 79 2 = [(37, 0, 1)] := rfl
theorem rc_79_0 (l : List AV) : rcvb 79 (.inr (.inr 0) :: l) = true := rfl
theorem mx_79 : mxl 79 = 3 := rfl
theorem bq80_0 : blk 80 0 = [(3, 0, 0), (1, 1, 0), (3, 0, 0), (1, 2, 0), (32, 1, 0)] := rfl
theorem bq80_1 : blk 80 1 = [(0, 2, 0), (47, 0, 0), (22, 1, 7), (22, 8, 1), (30, 2, 3), (0, 1, 0), (47, 0, 0), (22, 1, 7), (0, 2, 0), (47, 0, 0), (22, 4, 7), (22, 2, 3), (53, 11, 1), (6, 0, 0), (1, 1, 0), (5, 2, 1), (31, 1, 0)] := rfl
theorem bq80_2 : blk 80 2 = [(0, 1, 0), (37, 0, 0)] := rfl
theorem rc_80_0 (l : List AV) : rcvb 80 (.inr (.inr 0) :: l) = true := rfl
theorem mx_80 : mxl 80 = 3 := rfl
theorem bq81_0 : blk 81 0 = [(47, 0, 0), (22, 4, 7), (22, 2, 3), (47, 0, 0), (22, 1, 7), (22, 4, 1), (0, 1, 0), (24, 0, 0), (6, 0, 0), (1, 3, 0), (47, 0, 0), (22, 1, 7), (0, 1, 0), (0, 3, 0), (0, 2, 0), (54, 10, 0), (47, 0, 0), (22, 5, 7), (47, 0, 0), (22, 0, 7), (47, 0, 0), (22, 1, 7), (47, 0, 0), (22, 4, 7), (54, 48, 1), (1, 4, 0), (47, 0, 0), (22, 1, 7), (0, 1, 0), (0, 3, 0), (0, 2, 0), (15, 0, 0), (54, 10, 0), (0, 4, 0), (37, 0, 0)] := rfl
theorem rc_81_0 (l : List AV) : rcvb 81 (.inr (.inr 0) :: l) = true := rfl
theorem mx_81 : mxl 81 = 5 := rfl
theorem bq82_0 : blk 82 0 = [(47, 0, 0), (22, 5, 7), (51, 43, 0), (47, 0, 0), (22, 6, 7), (51, 12, 0), (38, 0, 0)] := rfl
theorem rc_82_0 (l : List AV) : rcvb 82 (.inr (.inr 0) :: l) = true := rfl
theorem mx_82 : mxl 82 = 1 := rfl
theorem bq83_0 : blk 83 0 = [(47, 0, 0), (22, 6, 7), (22, 17, 2), (29, 1, 1), (47, 0, 0), (22, 5, 7), (47, 0, 0), (22, 0, 7), (47, 0, 0), (22, 1, 7), (47, 0, 0), (22, 4, 7), (54, 44, 0), (47, 0, 0), (22, 6, 7), (47, 0, 0), (22, 0, 7), (47, 0, 0), (22, 5, 7), (47, 0, 0), (22, 4, 7), (22, 2, 3), (54, 13, 0), (32, 1, 0)] := rfl
theorem bq83_1 : blk 83 1 = [(38, 0, 0)] := rfl
theorem rc_83_0 (l : List AV) : rcvb 83 (.inr (.inr 0) :: l) = true := rfl
theorem mx_83 : mxl 83 = 1 := rfl
theorem bq84_0 : blk 84 0 = [(47, 0, 0), (22, 6, 7), (22, 17, 2), (29, 1, 0), (47, 0, 0), (22, 6, 7), (22, 15, 2), (0, 1, 0), (30, 1, 1), (38, 0, 0)] := rfl
theorem bq84_1 : blk 84 1 = [(47, 0, 0), (22, 6, 7), (22, 14, 2), (0, 1, 0), (30, 2, 5), (47, 0, 0), (22, 6, 7), (51, 12, 0), (32, 2, 0)] := rfl
theorem bq84_2 : blk 84 2 = [(47, 0, 0), (51, 83, 0), (47, 0, 0), (22, 6, 7), (47, 0, 0), (22, 2, 7), (0, 1, 0), (53, 14, 0), (47, 0, 0), (22, 6, 7), (47, 0, 0), (22, 2, 7), (0, 1, 0), (53, 27, 0), (38, 0, 0)] := rfl
theorem rc_84_0 (l : List AV) : rcvb 84 (.inr (.inr 0) :: l) = true := rfl
theorem mx_84 : mxl 84 = 2 := rfl
theorem bq85_0 : blk 85 0 = [(0, 0, 0), (0, 1, 0), (30, 1, 2), (0, 0, 0), (0, 2, 0), (30, 1, 4), (3, 0, 1), (31, 2, 0)] := rfl
theorem bq85_1 : blk 85 1 = [(3, 0, 0), (32, 2, 0)] := rfl
theorem bq85_2 : blk 85 2 = [(37, 0, 1)] := rfl
theorem rc_85 (l : List AV) : rcvb 85 l = true := rfl
theorem mx_85 : mxl 85 = 3 := rfl
theorem bq86_0 : blk 86 0 = [(0, 1, 0), (3, 0, 0), (47, 0, 0), (22, 1, 8), (3, 0, 1), (7, 0, 0), (53, 85, 1), (37, 0, 1)] := rfl
theorem rc_86_50 (l : List AV) : rcvb 86 (.inr (.inr 50) :: l) = true := rfl
theorem mx_86 : mxl 86 = 2 := rfl
theorem bq87_0 : blk 87 0 = [(47, 0, 0), (0, 1, 0), (52, 86, 1), (29, 1, 0), (47, 0, 0), (22, 2, 8), (0, 1, 0), (46, 0, 0), (29, 1, 0), (3, 0, 1), (31, 2, 0)] := rfl
theorem bq87_1 : blk 87 1 = [(3, 0, 0), (32, 2, 0)] := rfl
theorem bq87_2 : blk 87 2 = [(37, 0, 1)] := rfl
theorem rc_87_50 (l : List AV) : rcvb 87 (.inr (.inr 50) :: l) = true := rfl
theorem mx_87 : mxl 87 = 2 := rfl
theorem bq88_0 : blk 88 0 = [(0, 1, 0), (3, 0, 0), (47, 0, 0), (22, 9, 8), (3, 0, 1), (7, 0, 0), (53, 85, 1), (37, 0, 1)] := rfl
theorem rc_88_50 (l : List AV) : rcvb 88 (.inr (.inr 50) :: l) = true := rfl
theorem mx_88 : mxl 88 = 2 := rfl
theorem bq89_0 : blk 89 0 = [(47, 0, 0), (22, 3, 8), (47, 0, 0), (22, 1, 8), (0, 1, 0), (25, 0, 0), (47, 0, 0), (22, 4, 8), (47, 0, 0), (22, 1, 8), (0, 2, 0), (25, 0, 0), (47, 0, 0), (33, 0, 0), (22, 1, 8), (3, 0, 1), (6, 0, 0), (23, 1, 8), (47, 0, 0), (22, 1, 8), (3, 0, 1), (7, 0, 0), (37, 0, 0)] := rfl
theorem rc_89_50 (l : List AV) : rcvb 89 (.inr (.inr 50) :: l) = true := rfl
theorem mx_89 : mxl 89 = 3 := rfl
theorem bq90_0 : blk 90 0 = [(0, 1, 0), (3, 0, 1), (3, 0, 1000), (53, 85, 1), (29, 1, 0), (0, 2, 0), (3, 0, 0), (3, 0, 1000), (53, 85, 1), (29, 1, 0), (0, 3, 0), (3, 0, 0), (3, 0, 100), (53, 85, 1), (29, 1, 0), (47, 0, 0), (22, 1, 8), (3, 0, 10), (30, 2, 1), (32, 1, 0)] := rfl
theorem bq90_1 : blk 90 1 = [(3, 0, (-1)), (37, 0, 0)] := rfl
theorem bq90_2 : blk 90 2 = [(47, 0, 0), (22, 5, 8), (47, 0, 0), (22, 1, 8), (0, 3, 0), (25, 0, 0), (47, 0, 0), (0, 1, 0), (0, 2, 0), (53, 89, 1), (37, 0, 0)] := rfl
theorem rc_90_50 (l : List AV) : rcvb 90 (.inr (.inr 50) :: l) = true := rfl
theorem mx_90 : mxl 90 = 4 := rfl
theorem bq91_0 : blk 91 0 = [(0, 1, 0), (3, 0, 1), (3, 0, 1000), (53, 85, 1), (29, 1, 0), (0, 2, 0), (3, 0, 0), (3, 0, 1000), (53, 85, 1), (29, 1, 0), (0, 3, 0), (3, 0, 0), (3, 0, 500), (53, 85, 1), (29, 1, 0), (0, 4, 0), (3, 0, 0), (3, 0, 1000000), (53, 85, 1), (29, 1, 0), (47, 0, 0), (22, 1, 8), (3, 0, 10), (30, 2, 1), (32, 1, 0)] := rfl
theorem bq91_1 : blk 91 1 = [(3, 0, (-1)), (37, 0, 0)] := rfl
theorem bq91_2 : blk 91 2 = [(47, 0, 0), (22, 2, 8), (47, 0, 0), (22, 1, 8), (3, 0, 1), (26, 0, 0), (47, 0, 0), (22, 6, 8), (47, 0, 0), (22, 1, 8), (0, 3, 0), (25, 0, 0), (47, 0, 0), (22, 7, 8), (47, 0, 0), (22, 1, 8), (0, 4, 0), (25, 0, 0), (47, 0, 0), (0, 1, 0), (0, 2, 0), (53, 89, 1), (37, 0, 0)] := rfl
theorem rc_91_50 (l : List AV) : rcvb 91 (.inr (.inr 50) :: l) = true := rfl
theorem mx_91 : mxl 91 = 5 := rfl
theorem bq92_0 : blk 92 0 = [(47, 0, 0), (0, 1, 0), (52, 86, 1), (29, 1, 0), (47, 0, 0), (0, 2, 0), (52, 86, 1), (29, 1, 0), (0, 1, 0), (0, 2, 0), (30, 1, 0), (0, 3, 0), (3, 0, 0), (3, 0, 2000), (53, 85, 1), (29, 1, 0), (0, 4, 0), (3, 0, 1), (3, 0, 1000), (53, 85, 1), (29, 1, 0), (0, 5, 0), (3, 0, 0), (3, 0, 20), (53, 85, 1), (29, 1, 0), (47, 0, 0), (22, 9, 8), (3, 0, 12), (30, 2, 1), (32, 1, 0)] := rfl
theorem bq92_1 : blk 92 1 = [(3, 0, (-1)), (37, 0, 0)] := rfl
theorem bq92_2 : blk 92 2 = [(47, 0, 0), (22, 10, 8), (47, 0, 0), (22, 9, 8), (0, 1, 0), (25, 0, 0), (47, 0, 0), (22, 11, 8), (47, 0, 0), (22, 9, 8), (0, 2, 0), (25, 0, 0), (47, 0, 0), (22, 12, 8), (47, 0, 0), (22, 9, 8), (0, 3, 0), (25, 0, 0), (47, 0, 0), (22, 13, 8), (47, 0, 0), (22, 9, 8), (0, 4, 0), (25, 0, 0), (47, 0, 0), (22, 14, 8), (47, 0, 0), (22, 9, 8), (0, 5, 0), (25, 0, 0), (47, 0, 0), (22, 15, 8), (47, 0, 0), (22, 9, 8), (3, 0, (-1)), (25, 0, 0), (47, 0, 0), (33, 0, 0), (22, 9, 8), (3, 0, 1), (6, 0, 0), (23, 9, 8), (47, 0, 0), (22, 9, 8), (3, 0, 1), (7, 0, 0), (37, 0, 0)] := rfl
theorem rc_92_50 (l : List AV) : rcvb 92 (.inr (.inr 50) :: l) = true := rfl
theorem mx_92 : mxl 92 = 6 := rfl
theorem bq93_0 : blk 93 0 = [(47, 0, 0), (22, 15, 8), (0, 1, 0), (24, 0, 0), (3, 0, (-1)), (30, 1, 0), (47, 0, 0), (22, 15, 8), (0, 1, 0), (24, 0, 0), (0, 2, 0), (30, 1, 4), (3, 0, 1), (31, 2, 0)] := rfl
theorem bq93_1 : blk 93 1 = [(3, 0, 0), (32, 2, 0)] := rfl
theorem bq93_2 : blk 93 2 = [(37, 0, 1)] := rfl
theorem rc_93_50 (l : List AV) : rcvb 93 (.inr (.inr 50) :: l) = true := rfl
theorem mx_93 : mxl 93 = 3 := rfl
theorem bq94_0 : blk 94 0 = [(47, 0, 0), (0, 1, 0), (52, 88, 1), (29, 1, 0), (0, 2, 0), (47, 0, 0), (22, 0, 8), (3, 0, 99), (53, 85, 1), (29, 1, 0), (0, 3, 0), (3, 0, 0), (47, 0, 0), (22, 12, 8), (0, 1, 0), (24, 0, 0), (53, 85, 1), (29, 1, 0), (47, 0, 0), (0, 1, 0), (47, 0, 0), (22, 0, 8), (3, 0, 1), (7, 0, 0), (53, 93, 1), (29, 2, 0), (32, 1, 0)] := rfl
theorem bq94_1 : blk 94 1 = [(3, 0, 0), (37, 0, 1)] := rfl
theorem bq94_2 : blk 94 2 = [(47, 0, 0), (22, 15, 8), (0, 1, 0), (0, 2, 0), (25, 0, 0), (47, 0, 0), (22, 16, 8), (0, 1, 0), (0, 3, 0), (25, 0, 0), (3, 0, 1), (37, 0, 1)] := rfl
theorem rc_94_50 (l : List AV) : rcvb 94 (.inr (.inr 50) :: l) = true := rfl
theorem mx_94 : mxl 94 = 4 := rfl
theorem bq95_0 : blk 95 0 = [(0, 1, 0), (47, 0, 0), (22, 0, 8), (3, 0, 99), (53, 85, 1), (29, 1, 0), (0, 2, 0), (3, 0, 0), (3, 0, 1000000), (53, 85, 1), (29, 2, 1), (32, 1, 0)] := rfl
theorem bq95_1 : blk 95 1 = [(3, 0, 0), (37, 0, 1)] := rfl
theorem bq95_2 : blk 95 2 = [(47, 0, 0), (22, 8, 8), (0, 1, 0), (0, 2, 0), (25, 0, 0), (3, 0, 1), (37, 0, 1)] := rfl
theorem rc_95_50 (l : List AV) : rcvb 95 (.inr (.inr 50) :: l) = true := rfl
theorem mx_95 : mxl 95 = 3 := rfl
theorem bq96_0 : blk 96 0 = [(0, 1, 0), (3, 0, 1), (3, 0, 10000), (53, 85, 1), (29, 1, 0), (47, 0, 0), (22, 18, 8), (0, 1, 0), (6, 0, 0), (3, 0, 100000), (30, 2, 5), (32, 1, 0)] := rfl
theorem bq96_1 : blk 96 1 = [(3, 0, (-1)), (37, 0, 0)] := rfl
theorem bq96_2 : blk 96 2 = [(47, 0, 0), (33, 0, 0), (22, 18, 8), (0, 1, 0), (6, 0, 0), (23, 18, 8), (47, 0, 0), (22, 18, 8), (37, 0, 0)] := rfl
theorem rc_96_50 (l : List AV) : rcvb 96 (.inr (.inr 50) :: l) = true := rfl
theorem mx_96 : mxl 96 = 2 := rfl
theorem bq97_0 : blk 97 0 = [(47, 0, 0), (0, 1, 0), (52, 88, 1), (29, 1, 0), (0, 2, 0), (3, 0, 1), (30, 1, 2), (0, 2, 0), (47, 0, 0), (22, 18, 8), (30, 1, 4), (47, 0, 0), (22, 0, 8), (47, 0, 0), (22, 14, 8), (0, 1, 0), (24, 0, 0), (6, 0, 0), (3, 0, 100), (30, 1, 3), (3, 0, 1), (31, 2, 0)] := rfl
theorem bq97_1 : blk 97 1 = [(3, 0, 0), (32, 2, 0)] := rfl
theorem bq97_2 : blk 97 2 = [(37, 0, 1)] := rfl
theorem rc_97_50 (l : List AV) : rcvb 97 (.inr (.inr 50) :: l) = true := rfl
theorem mx_97 : mxl 97 = 3 := rfl
theorem bq98_0 : blk 98 0 = [(47, 0, 0), (0, 1, 0), (0, 2, 0), (53, 97, 1), (29, 1, 1), (3, 0, (-1)), (37, 0, 0)] := rfl
theorem bq98_1 : blk 98 1 = [(47, 0, 0), (33, 0, 0), (22, 18, 8), (0, 2, 0), (7, 0, 0), (23, 18, 8), (47, 0, 0), (22, 17, 8), (3, 0, 101), (0, 1, 0), (8, 0, 0), (47, 0, 0), (22, 0, 8), (6, 0, 0), (47, 0, 0), (22, 14, 8), (0, 1, 0), (24, 0, 0), (6, 0, 0), (34, 0, 0), (24, 0, 0), (0, 2, 0), (6, 0, 0), (25, 0, 0), (47, 0, 0), (22, 0, 8), (47, 0, 0), (22, 14, 8), (0, 1, 0), (24, 0, 0), (6, 0, 0), (37, 0, 0)] := rfl
theorem rc_98_50 (l : List AV) : rcvb 98 (.inr (.inr 50) :: l) = true := rfl
theorem mx_98 : mxl 98 = 3 := rfl
theorem bq99_0 : blk 99 0 = [(47, 0, 0), (0, 1, 0), (52, 88, 1), (29, 1, 0), (0, 2, 0), (3, 0, 0), (3, 0, 99), (53, 85, 1), (29, 1, 0), (0, 3, 0), (3, 0, 0), (3, 0, 20), (53, 85, 1), (29, 1, 0), (47, 0, 0), (22, 19, 8), (3, 0, 100), (30, 2, 1), (32, 1, 0)] := rfl
theorem bq99_1 : blk 99 1 = [(3, 0, 0), (37, 0, 1)] := rfl
theorem bq99_2 : blk 99 2 = [(47, 0, 0), (22, 20, 8), (47, 0, 0), (22, 19, 8), (0, 1, 0), (25, 0, 0), (47, 0, 0), (22, 21, 8), (47, 0, 0), (22, 19, 8), (0, 2, 0), (25, 0, 0), (47, 0, 0), (22, 22, 8), (47, 0, 0), (22, 19, 8), (47, 0, 0), (22, 0, 8), (0, 3, 0), (6, 0, 0), (25, 0, 0), (47, 0, 0), (33, 0, 0), (22, 19, 8), (3, 0, 1), (6, 0, 0), (23, 19, 8), (3, 0, 1), (37, 0, 1)] := rfl
theorem rc_99_50 (l : List AV) : rcvb 99 (.inr (.inr 50) :: l) = true := rfl
theorem mx_99 : mxl 99 = 4 := rfl
theorem bq100_0 : blk 100 0 = [(3, 0, (-1)), (1, 2, 0), (3, 0, 0), (1, 3, 0), (32, 1, 0)] := rfl
theorem bq100_1 : blk 100 1 = [(0, 3, 0), (47, 0, 0), (22, 19, 8), (30, 3, 3), (47, 0, 0), (22, 20, 8), (0, 3, 0), (24, 0, 0), (0, 1, 0), (30, 2, 1), (47, 0, 0), (22, 22, 8), (0, 3, 0), (24, 0, 0), (47, 0, 0), (22, 0, 8), (30, 2, 4), (47, 0, 0), (22, 21, 8), (0, 3, 0), (24, 0, 0), (1, 2, 0), (32, 2, 0)] := rfl
theorem bq100_2 : blk 100 2 = [(5, 3, 1), (31, 1, 0)] := rfl
theorem bq100_3 : blk 100 3 = [(0, 2, 0), (37, 0, 0)] := rfl
theorem rc_100_50 (l : List AV) : rcvb 100 (.inr (.inr 50) :: l) = true := rfl
theorem mx_100 : mxl 100 = 4 := rfl
theorem bq101_0 : blk 101 0 = [(3, 0, (-1)), (1, 1, 0), (3, 0, 0), (1, 2, 0), (32, 1, 0)] := rfl
theorem bq101_1 : blk 101 1 = [(0, 2, 0), (47, 0, 0), (22, 9, 8), (30, 4, 3), (47, 0, 0), (0, 2, 0), (52, 100, 1), (3, 0, (-1)), (30, 3, 0), (0, 1, 0), (3, 0, (-1)), (30, 2, 0), (47, 0, 0), (0, 2, 0), (52, 100, 1), (47, 0, 0), (0, 1, 0), (52, 100, 1), (30, 3, 5), (32, 2, 0)] := rfl
theorem bq101_2 : blk 101 2 = [(0, 2, 0), (1, 1, 0), (32, 3, 0)] := rfl
theorem bq101_3 : blk 101 3 = [(5, 2, 1), (31, 1, 0)] := rfl
theorem bq101_4 : blk 101 4 = [(0, 1, 0), (37, 0, 0)] := rfl
theorem rc_101_50 (l : List AV) : rcvb 101 (.inr (.inr 50) :: l) = true := rfl
theorem mx_101 : mxl 101 = 3 := rfl
theorem bq102_0 : blk 102 0 = [(47, 0, 0), (0, 1, 0), (52, 87, 1), (29, 2, 0), (0, 2, 0), (3, 0, (-1)), (30, 1, 0), (47, 0, 0), (0, 2, 0), (52, 87, 1), (29, 2, 0), (32, 1, 0)] := rfl
theorem bq102_1 : blk 102 1 = [(0, 1, 0), (0, 2, 0), (30, 2, 0), (0, 3, 0), (3, 0, 1), (3, 0, 99), (53, 85, 1), (29, 2, 0), (0, 4, 0), (3, 0, 1), (3, 0, 5), (53, 85, 1), (29, 2, 0), (47, 0, 0), (22, 23, 8), (3, 0, 12), (30, 3, 1), (32, 2, 0)] := rfl
theorem bq102_2 : blk 102 2 = [(3, 0, (-1)), (37, 0, 0)] := rfl
theorem bq102_3 : blk 102 3 = [(47, 0, 0), (22, 24, 8), (47, 0, 0), (22, 23, 8), (0, 1, 0), (25, 0, 0), (47, 0, 0), (22, 25, 8), (47, 0, 0), (22, 23, 8), (0, 2, 0), (25, 0, 0), (47, 0, 0), (22, 26, 8), (47, 0, 0), (22, 23, 8), (0, 3, 0), (25, 0, 0), (47, 0, 0), (22, 27, 8), (47, 0, 0), (22, 23, 8), (0, 4, 0), (25, 0, 0), (47, 0, 0), (33, 0, 0), (22, 23, 8), (3, 0, 1), (6, 0, 0), (23, 23, 8), (47, 0, 0), (22, 23, 8), (3, 0, 1), (7, 0, 0), (37, 0, 0)] := rfl
theorem rc_102_50 (l : List AV) : rcvb 102 (.inr (.inr 50) :: l) = true := rfl
theorem mx_102 : mxl 102 = 5 := rfl
theorem bq103_0 : blk 103 0 = [(47, 0, 0), (22, 4, 8), (0, 2, 0), (24, 0, 0), (47, 0, 0), (22, 28, 8), (3, 0, 10), (0, 1, 0), (8, 0, 0), (0, 2, 0), (6, 0, 0), (24, 0, 0), (47, 0, 0), (22, 3, 8), (0, 2, 0), (24, 0, 0), (13, 0, 0), (6, 0, 0), (37, 0, 0)] := rfl
theorem rc_103_50 (l : List AV) : rcvb 103 (.inr (.inr 50) :: l) = true := rfl
theorem mx_103 : mxl 103 = 3 := rfl
theorem bq104_0 : blk 104 0 = [(47, 0, 0), (0, 2, 0), (0, 3, 0), (53, 93, 1), (29, 1, 0), (47, 0, 0), (22, 16, 8), (0, 2, 0), (24, 0, 0), (31, 2, 0)] := rfl
theorem bq104_1 : blk 104 1 = [(47, 0, 0), (22, 12, 8), (0, 2, 0), (24, 0, 0), (47, 0, 0), (22, 29, 8), (3, 0, 12), (0, 1, 0), (8, 0, 0), (0, 2, 0), (6, 0, 0), (24, 0, 0), (3, 0, 10), (13, 0, 0), (6, 0, 0), (32, 2, 0)] := rfl
theorem bq104_2 : blk 104 2 = [(37, 0, 0)] := rfl
theorem rc_104_50 (l : List AV) : rcvb 104 (.inr (.inr 50) :: l) = true := rfl
theorem mx_104 : mxl 104 = 4 := rfl
theorem bq105_0 : blk 105 0 = [(3, 0, 0), (1, 3, 0), (32, 1, 0)] := rfl
theorem bq105_1 : blk 105 1 = [(0, 3, 0), (47, 0, 0), (22, 1, 8), (30, 2, 3), (47, 0, 0), (22, 2, 8), (0, 3, 0), (46, 0, 0), (29, 2, 0), (5, 3, 1), (31, 1, 0)] := rfl
theorem bq105_2 : blk 105 2 = [(0, 3, 0), (47, 0, 0), (22, 1, 8), (30, 3, 3), (47, 0, 0), (22, 28, 8), (3, 0, 10), (0, 1, 0), (8, 0, 0), (0, 3, 0), (6, 0, 0), (34, 0, 0), (24, 0, 0), (47, 0, 0), (22, 8, 8), (0, 2, 0), (24, 0, 0), (6, 0, 0), (25, 0, 0), (47, 0, 0), (22, 32, 8), (0, 1, 0), (34, 0, 0), (27, 0, 0), (47, 0, 0), (22, 8, 8), (0, 2, 0), (24, 0, 0), (16, 0, 0), (18, 0, 0), (28, 0, 0), (32, 3, 0)] := rfl
theorem bq105_3 : blk 105 3 = [(3, 0, (-1)), (1, 4, 0), (47, 0, 0), (22, 1, 8), (3, 0, 1), (7, 0, 0), (1, 5, 0), (32, 4, 0)] := rfl
theorem bq105_4 : blk 105 4 = [(0, 5, 0), (29, 9, 2), (47, 0, 0), (22, 2, 8), (0, 5, 0), (46, 0, 0), (29, 5, 0), (31, 8, 0)] := rfl
theorem bq105_5 : blk 105 5 = [(47, 0, 0), (22, 28, 8), (3, 0, 10), (0, 1, 0), (8, 0, 0), (0, 5, 0), (6, 0, 0), (24, 0, 0), (16, 0, 0), (47, 0, 0), (22, 5, 8), (0, 5, 0), (24, 0, 0), (16, 0, 0), (19, 0, 0), (4, 0, 100), (20, 0, 0), (17, 0, 0), (1, 6, 0), (47, 0, 0), (22, 28, 8), (3, 0, 10), (0, 1, 0), (8, 0, 0), (0, 5, 0), (6, 0, 0), (34, 0, 0), (24, 0, 0), (0, 6, 0), (7, 0, 0), (25, 0, 0), (0, 4, 0), (3, 0, (-1)), (30, 6, 1), (47, 0, 0), (22, 31, 8), (0, 1, 0), (34, 0, 0), (27, 0, 0), (0, 6, 0), (16, 0, 0), (18, 0, 0), (28, 0, 0), (31, 7, 0)] := rfl
theorem bq105_6 : blk 105 6 = [(47, 0, 0), (22, 28, 8), (3, 0, 10), (0, 1, 0), (8, 0, 0), (0, 4, 0), (6, 0, 0), (34, 0, 0), (24, 0, 0), (0, 6, 0), (6, 0, 0), (25, 0, 0), (32, 7, 0)] := rfl
theorem bq105_7 : blk 105 7 = [(0, 5, 0), (1, 4, 0), (32, 8, 0)] := rfl
theorem bq105_8 : blk 105 8 = [(5, 5, (-1)), (31, 4, 0)] := rfl
theorem bq105_9 : blk 105 9 = [(3, 0, 0), (1, 5, 0), (32, 10, 0)] := rfl
theorem bq105_10 : blk 105 10 = [(0, 5, 0), (47, 0, 0), (22, 9, 8), (30, 13, 3), (47, 0, 0), (22, 29, 8), (3, 0, 12), (0, 1, 0), (8, 0, 0), (0, 5, 0), (6, 0, 0), (34, 0, 0), (24, 0, 0), (47, 0, 0), (22, 17, 8), (3, 0, 101), (0, 5, 0), (8, 0, 0), (0, 2, 0), (6, 0, 0), (24, 0, 0), (6, 0, 0), (25, 0, 0), (47, 0, 0), (0, 5, 0), (0, 2, 0), (53, 93, 1), (29, 11, 1), (31, 12, 0)] := rfl
theorem bq105_11 : blk 105 11 = [(47, 0, 0), (22, 30, 8), (0, 1, 0), (34, 0, 0), (24, 0, 0), (47, 0, 0), (22, 29, 8), (3, 0, 12), (0, 1, 0), (8, 0, 0), (0, 5, 0), (6, 0, 0), (24, 0, 0), (6, 0, 0), (25, 0, 0), (47, 0, 0), (22, 29, 8), (3, 0, 12), (0, 1, 0), (8, 0, 0), (0, 5, 0), (6, 0, 0), (3, 0, 0), (25, 0, 0), (32, 12, 0)] := rfl
theorem bq105_12 : blk 105 12 = [(5, 5, 1), (31, 10, 0)] := rfl
theorem bq105_13 : blk 105 13 = [(3, 0, 0), (1, 5, 0), (32, 14, 0)] := rfl
theorem bq105_14 : blk 105 14 = [(0, 5, 0), (47, 0, 0), (22, 9, 8), (30, 15, 3), (47, 0, 0), (0, 1, 0), (0, 5, 0), (0, 2, 0), (54, 106, 0), (5, 5, 1), (31, 14, 0)] := rfl
theorem bq105_15 : blk 105 15 = [(38, 0, 0)] := rfl
theorem rc_105_50 (l : List AV) : rcvb 105 (.inr (.inr 50) :: l) = true := rfl
theorem mx_105 : mxl 105 = 7 := rfl
theorem bq106_0 : blk 106 0 = [(47, 0, 0), (22, 10, 8), (0, 2, 0), (24, 0, 0), (1, 4, 0), (47, 0, 0), (22, 11, 8), (0, 2, 0), (24, 0, 0), (1, 5, 0), (47, 0, 0), (0, 1, 0), (0, 4, 0), (53, 103, 1), (47, 0, 0), (0, 1, 0), (0, 5, 0), (53, 103, 1), (30, 1, 5), (0, 4, 0), (31, 2, 0)] := rfl
theorem bq106_1 : blk 106 1 = [(0, 5, 0), (32, 2, 0)] := rfl
theorem bq106_2 : blk 106 2 = [(1, 6, 0), (0, 6, 0), (0, 4, 0), (30, 3, 1), (0, 5, 0), (31, 4, 0)] := rfl
theorem bq106_3 : blk 106 3 = [(0, 4, 0), (32, 4, 0)] := rfl
theorem bq106_4 : blk 106 4 = [(1, 7, 0), (47, 0, 0), (0, 1, 0), (0, 7, 0), (53, 103, 1), (1, 8, 0), (47, 0, 0), (0, 1, 0), (0, 2, 0), (0, 3, 0), (54, 104, 1), (1, 9, 0), (47, 0, 0), (0, 1, 0), (0, 6, 0), (53, 103, 1), (0, 9, 0), (0, 8, 0), (30, 5, 5), (0, 9, 0), (31, 6, 0)] := rfl
theorem bq106_5 : blk 106 5 = [(0, 8, 0), (32, 6, 0)] := rfl
theorem bq106_6 : blk 106 6 = [(7, 0, 0), (1, 10, 0), (0, 10, 0), (29, 7, 4), (38, 0, 0)] := rfl
theorem bq106_7 : blk 106 7 = [(47, 0, 0), (22, 13, 8), (0, 2, 0), (24, 0, 0), (16, 0, 0), (0, 10, 0), (16, 0, 0), (19, 0, 0), (2, 11, 0), (0, 10, 0), (16, 0, 0), (47, 0, 0), (22, 3, 8), (0, 6, 0), (24, 0, 0), (16, 0, 0), (19, 0, 0), (4, 0, 2), (20, 0, 0), (2, 13, 0), (48, 13, 0), (48, 11, 0), (21, 0, 0), (29, 8, 3), (48, 13, 0), (2, 11, 0), (32, 8, 0)] := rfl
theorem bq106_8 : blk 106 8 = [(47, 0, 0), (22, 28, 8), (3, 0, 10), (0, 1, 0), (8, 0, 0), (0, 6, 0), (6, 0, 0), (24, 0, 0), (16, 0, 0), (48, 11, 0), (21, 0, 0), (29, 9, 3), (47, 0, 0), (22, 28, 8), (3, 0, 10), (0, 1, 0), (8, 0, 0), (0, 6, 0), (6, 0, 0), (24, 0, 0), (16, 0, 0), (2, 11, 0), (32, 9, 0)] := rfl
theorem bq106_9 : blk 106 9 = [(47, 0, 0), (22, 28, 8), (3, 0, 10), (0, 1, 0), (8, 0, 0), (0, 6, 0), (6, 0, 0), (34, 0, 0), (24, 0, 0), (48, 11, 0), (17, 0, 0), (7, 0, 0), (25, 0, 0), (47, 0, 0), (22, 28, 8), (3, 0, 10), (0, 1, 0), (8, 0, 0), (0, 7, 0), (6, 0, 0), (34, 0, 0), (24, 0, 0), (48, 11, 0), (17, 0, 0), (6, 0, 0), (25, 0, 0), (38, 0, 0)] := rfl
theorem rc_106_50 (l : List AV) : rcvb 106 (.inr (.inr 50) :: l) = true := rfl
theorem mx_106 : mxl 106 = 15 := rfl
theorem bq107_0 : blk 107 0 = [(0, 1, 0), (3, 0, 0), (3, 0, 100), (53, 85, 1), (29, 1, 1), (3, 0, (-1)), (37, 0, 0)] := rfl
theorem bq107_1 : blk 107 1 = [(3, 0, 0), (1, 2, 0), (32, 2, 0)] := rfl
theorem bq107_2 : blk 107 2 = [(0, 2, 0), (0, 1, 0), (30, 5, 3), (47, 0, 0), (22, 0, 8), (3, 0, 100), (30, 5, 3), (47, 0, 0), (3, 0, 0), (47, 0, 0), (22, 0, 8), (53, 105, 0), (3, 0, 0), (1, 3, 0), (32, 3, 0)] := rfl
theorem bq107_3 : blk 107 3 = [(0, 3, 0), (47, 0, 0), (22, 9, 8), (30, 4, 3), (47, 0, 0), (22, 17, 8), (3, 0, 101), (0, 3, 0), (8, 0, 0), (47, 0, 0), (22, 0, 8), (6, 0, 0), (3, 0, 0), (25, 0, 0), (5, 3, 1), (31, 3, 0)] := rfl
theorem bq107_4 : blk 107 4 = [(47, 0, 0), (33, 0, 0), (22, 0, 8), (3, 0, 1), (6, 0, 0), (23, 0, 8), (5, 2, 1), (31, 2, 0)] := rfl
theorem bq107_5 : blk 107 5 = [(47, 0, 0), (22, 0, 8), (37, 0, 0)] := rfl
theorem rc_107_50 (l : List AV) : rcvb 107 (.inr (.inr 50) :: l) = true := rfl
theorem mx_107 : mxl 107 = 4 := rfl
theorem bq108_0 : blk 108 0 = [(3, 0, 0), (1, 1, 0), (32, 1, 0)] := rfl
theorem bq108_1 : blk 108 1 = [(0, 1, 0), (3, 0, 10), (30, 2, 3), (47, 0, 0), (22, 28, 8), (3, 0, 10), (0, 1, 0), (6, 0, 0), (47, 0, 0), (22, 28, 8), (0, 1, 0), (24, 0, 0), (25, 0, 0), (5, 1, 1), (31, 1, 0)] := rfl
theorem bq108_2 : blk 108 2 = [(3, 0, 0), (1, 1, 0), (32, 3, 0)] := rfl
theorem bq108_3 : blk 108 3 = [(0, 1, 0), (3, 0, 12), (30, 4, 3), (47, 0, 0), (22, 29, 8), (3, 0, 12), (0, 1, 0), (6, 0, 0), (47, 0, 0), (22, 29, 8), (0, 1, 0), (24, 0, 0), (25, 0, 0), (5, 1, 1), (31, 3, 0)] := rfl
theorem bq108_4 : blk 108 4 = [(47, 0, 0), (22, 0, 8), (1, 1, 0), (32, 5, 0)] := rfl
theorem bq108_5 : blk 108 5 = [(0, 1, 0), (3, 0, 100), (30, 9, 4), (3, 0, 0), (1, 2, 0), (32, 6, 0)] := rfl
theorem bq108_6 : blk 108 6 = [(0, 2, 0), (47, 0, 0), (22, 1, 8), (30, 7, 3), (47, 0, 0), (22, 33, 8), (3, 0, 101), (0, 2, 0), (8, 0, 0), (0, 1, 0), (6, 0, 0), (47, 0, 0), (22, 28, 8), (3, 0, 10), (0, 2, 0), (6, 0, 0), (24, 0, 0), (25, 0, 0), (5, 2, 1), (31, 6, 0)] := rfl
theorem bq108_7 : blk 108 7 = [(0, 1, 0), (3, 0, 100), (30, 8, 3), (47, 0, 0), (3, 0, 1), (0, 1, 0), (53, 105, 0), (32, 8, 0)] := rfl
theorem bq108_8 : blk 108 8 = [(5, 1, 1), (31, 5, 0)] := rfl
theorem bq108_9 : blk 108 9 = [(38, 0, 0)] := rfl
theorem rc_108_50 (l : List AV) : rcvb 108 (.inr (.inr 50) :: l) = true := rfl
theorem mx_108 : mxl 108 = 3 := rfl
theorem bq109_0 : blk 109 0 = [(47, 0, 0), (22, 33, 8), (3, 0, 101), (0, 1, 0), (8, 0, 0), (0, 2, 0), (6, 0, 0), (24, 0, 0), (47, 0, 0), (22, 3, 8), (0, 1, 0), (24, 0, 0), (30, 1, 2), (3, 0, 1), (31, 2, 0)] := rfl
theorem bq109_1 : blk 109 1 = [(3, 0, 0), (32, 2, 0)] := rfl
theorem bq109_2 : blk 109 2 = [(37, 0, 1)] := rfl
theorem rc_109_50 (l : List AV) : rcvb 109 (.inr (.inr 50) :: l) = true := rfl
theorem mx_109 : mxl 109 = 3 := rfl
theorem bq110_0 : blk 110 0 = [(47, 0, 0), (0, 1, 0), (52, 87, 1), (29, 1, 0), (0, 2, 0), (3, 0, 0), (3, 0, 500), (53, 85, 1), (29, 2, 1), (32, 1, 0)] := rfl
theorem bq110_1 : blk 110 1 = [(3, 0, 0), (37, 0, 1)] := rfl
theorem bq110_2 : blk 110 2 = [(47, 0, 0), (22, 6, 8), (0, 1, 0), (0, 2, 0), (25, 0, 0), (3, 0, 1), (37, 0, 1)] := rfl
theorem rc_110_50 (l : List AV) : rcvb 110 (.inr (.inr 50) :: l) = true := rfl
theorem mx_110 : mxl 110 = 3 := rfl
theorem bq111_0 : blk 111 0 = [(47, 0, 0), (0, 1, 0), (52, 86, 1), (29, 1, 1), (3, 0, (-1)), (37, 0, 0)] := rfl
theorem bq111_1 : blk 111 1 = [(47, 0, 0), (22, 2, 8), (0, 1, 0), (46, 0, 0), (1, 3, 0), (0, 2, 0), (36, 4, 0)] := rfl
theorem bq111_2 : blk 111 2 = [(47, 0, 0), (22, 28, 8), (0, 1, 0), (24, 0, 0), (37, 0, 0)] := rfl
theorem bq111_3 : blk 111 3 = [(47, 0, 0), (3, 0, 0), (0, 1, 0), (53, 103, 1), (37, 0, 0)] := rfl
theorem bq111_4 : blk 111 4 = [(47, 0, 0), (22, 3, 8), (0, 1, 0), (24, 0, 0), (37, 0, 0)] := rfl
theorem bq111_5 : blk 111 5 = [(47, 0, 0), (22, 4, 8), (0, 1, 0), (24, 0, 0), (37, 0, 0)] := rfl
theorem bq111_6 : blk 111 6 = [(0, 3, 0), (29, 7, 0), (3, 0, (-1)), (31, 8, 0)] := rfl
theorem bq111_7 : blk 111 7 = [(47, 0, 0), (22, 5, 8), (0, 1, 0), (24, 0, 0), (32, 8, 0)] := rfl
theorem bq111_8 : blk 111 8 = [(37, 0, 0)] := rfl
theorem bq111_9 : blk 111 9 = [(0, 3, 0), (29, 10, 0), (47, 0, 0), (22, 6, 8), (0, 1, 0), (24, 0, 0), (31, 11, 0)] := rfl
theorem bq111_10 : blk 111 10 = [(3, 0, (-1)), (32, 11, 0)] := rfl
theorem bq111_11 : blk 111 11 = [(37, 0, 0)] := rfl
theorem bq111_12 : blk 111 12 = [(0, 3, 0), (29, 13, 0), (47, 0, 0), (22, 7, 8), (0, 1, 0), (24, 0, 0), (31, 14, 0)] := rfl
theorem bq111_13 : blk 111 13 = [(3, 0, (-1)), (32, 14, 0)] := rfl
theorem bq111_14 : blk 111 14 = [(37, 0, 0)] := rfl
theorem bq111_15 : blk 111 15 = [(0, 3, 0), (29, 16, 0), (47, 0, 0), (22, 28, 8), (0, 1, 0), (24, 0, 0), (47, 0, 0), (22, 3, 8), (0, 1, 0), (24, 0, 0), (30, 16, 2), (3, 0, 1), (31, 17, 0)] := rfl
theorem bq111_16 : blk 111 16 = [(3, 0, 0), (32, 17, 0)] := rfl
theorem bq111_17 : blk 111 17 = [(37, 0, 0)] := rfl
theorem bq111_18 : blk 111 18 = [(3, 0, (-1)), (37, 0, 0)] := rfl
theorem rc_111_50 (l : List AV) : rcvb 111 (.inr (.inr 50) :: l) = true := rfl
theorem mx_111 : mxl 111 = 4 := rfl
theorem bq112_0 : blk 112 0 = [(3, 0, 0), (1, 2, 0), (3, 0, 0), (1, 3, 0), (32, 1, 0)] := rfl
theorem bq112_1 : blk 112 1 = [(0, 3, 0), (3, 0, 101), (30, 2, 3), (0, 2, 0), (47, 0, 0), (22, 17, 8), (3, 0, 101), (0, 1, 0), (8, 0, 0), (0, 3, 0), (6, 0, 0), (24, 0, 0), (6, 0, 0), (1, 2, 0), (5, 3, 1), (31, 1, 0)] := rfl
theorem bq112_2 : blk 112 2 = [(0, 2, 0), (37, 0, 0)] := rfl
theorem rc_112_50 (l : List AV) : rcvb 112 (.inr (.inr 50) :: l) = true := rfl
theorem mx_112 : mxl 112 = 4 := rfl
theorem bq113_0 : blk 113 0 = [(47, 0, 0), (0, 1, 0), (52, 88, 1), (29, 1, 1), (3, 0, (-1)), (37, 0, 0)] := rfl
theorem bq113_1 : blk 113 1 = [(0, 2, 0), (36, 5, 0)] := rfl
theorem bq113_2 : blk 113 2 = [(47, 0, 0), (3, 0, 0), (0, 1, 0), (47, 0, 0), (22, 0, 8), (54, 104, 1), (37, 0, 0)] := rfl
theorem bq113_3 : blk 113 3 = [(47, 0, 0), (22, 29, 8), (0, 1, 0), (24, 0, 0), (37, 0, 0)] := rfl
theorem bq113_4 : blk 113 4 = [(47, 0, 0), (0, 1, 0), (52, 112, 1), (37, 0, 0)] := rfl
theorem bq113_5 : blk 113 5 = [(47, 0, 0), (0, 1, 0), (47, 0, 0), (22, 0, 8), (3, 0, 1), (7, 0, 0), (53, 93, 1), (29, 6, 0), (3, 0, 1), (31, 7, 0)] := rfl
theorem bq113_6 : blk 113 6 = [(3, 0, 0), (32, 7, 0)] := rfl
theorem bq113_7 : blk 113 7 = [(37, 0, 0)] := rfl
theorem bq113_8 : blk 113 8 = [(3, 0, (-1)), (37, 0, 0)] := rfl
theorem rc_113_50 (l : List AV) : rcvb 113 (.inr (.inr 50) :: l) = true := rfl
theorem mx_113 : mxl 113 = 3 := rfl
theorem bq114_0 : blk 114 0 = [(47, 0, 0), (0, 1, 0), (52, 87, 1), (29, 1, 1), (3, 0, (-1)), (37, 0, 0)] := rfl
theorem bq114_1 : blk 114 1 = [(47, 0, 0), (51, 108, 0), (47, 0, 0), (22, 0, 8), (1, 2, 0), (32, 2, 0)] := rfl
theorem bq114_2 : blk 114 2 = [(0, 2, 0), (3, 0, 100), (30, 4, 4), (47, 0, 0), (0, 1, 0), (0, 2, 0), (53, 109, 1), (29, 3, 0), (0, 2, 0), (37, 0, 0)] := rfl
theorem bq114_3 : blk 114 3 = [(5, 2, 1), (31, 2, 0)] := rfl
theorem bq114_4 : blk 114 4 = [(3, 0, (-1)), (37, 0, 0)] := rfl
theorem rc_114_50 (l : List AV) : rcvb 114 (.inr (.inr 50) :: l) = true := rfl
theorem mx_114 : mxl 114 = 3 := rfl
theorem bq115_0 : blk 115 0 = [(47, 0, 0), (0, 1, 0), (52, 86, 1), (29, 1, 0), (0, 2, 0), (47, 0, 0), (22, 0, 8), (3, 0, 100), (53, 85, 1), (29, 2, 1), (32, 1, 0)] := rfl
theorem bq115_1 : blk 115 1 = [(3, 0, (-1)), (37, 0, 0)] := rfl
theorem bq115_2 : blk 115 2 = [(47, 0, 0), (51, 108, 0), (47, 0, 0), (22, 33, 8), (3, 0, 101), (0, 1, 0), (8, 0, 0), (0, 2, 0), (6, 0, 0), (24, 0, 0), (37, 0, 0)] := rfl
theorem rc_115_50 (l : List AV) : rcvb 115 (.inr (.inr 50) :: l) = true := rfl
theorem mx_115 : mxl 115 = 3 := rfl
theorem bq116_0 : blk 116 0 = [(47, 0, 0), (51, 108, 0), (3, 0, 0), (1, 1, 0), (3, 0, 0), (1, 2, 0), (32, 1, 0)] := rfl
theorem bq116_1 : blk 116 1 = [(0, 2, 0), (47, 0, 0), (22, 1, 8), (30, 9, 3), (3, 0, 0), (1, 3, 0), (47, 0, 0), (22, 0, 8), (1, 4, 0), (32, 2, 0)] := rfl
theorem bq116_2 : blk 116 2 = [(0, 4, 0), (3, 0, 100), (30, 6, 4), (0, 3, 0), (29, 3, 1), (47, 0, 0), (22, 2, 8), (0, 2, 0), (46, 0, 0), (29, 4, 0), (47, 0, 0), (0, 2, 0), (0, 4, 0), (53, 109, 1), (29, 4, 0), (32, 3, 0)] := rfl
theorem bq116_3 : blk 116 3 = [(3, 0, 1), (31, 5, 0)] := rfl
theorem bq116_4 : blk 116 4 = [(3, 0, 0), (32, 5, 0)] := rfl
theorem bq116_5 : blk 116 5 = [(1, 3, 0), (5, 4, 1), (31, 2, 0)] := rfl
theorem bq116_6 : blk 116 6 = [(0, 1, 0), (0, 3, 0), (29, 7, 0), (47, 0, 0), (22, 7, 8), (0, 2, 0), (24, 0, 0), (31, 8, 0)] := rfl
theorem bq116_7 : blk 116 7 = [(3, 0, 0), (32, 8, 0)] := rfl
theorem bq116_8 : blk 116 8 = [(6, 0, 0), (1, 1, 0), (5, 2, 1), (31, 1, 0)] := rfl
theorem bq116_9 : blk 116 9 = [(0, 1, 0), (37, 0, 0)] := rfl
theorem rc_116_50 (l : List AV) : rcvb 116 (.inr (.inr 50) :: l) = true := rfl
theorem mx_116 : mxl 116 = 5 := rfl
theorem bq117_0 : blk 117 0 = [(3, 0, (-1)), (1, 2, 0), (3, 0, 0), (1, 3, 0), (3, 0, 0), (1, 4, 0), (32, 1, 0)] := rfl
theorem bq117_1 : blk 117 1 = [(0, 4, 0), (47, 0, 0), (22, 9, 8), (30, 5, 3), (47, 0, 0), (0, 4, 0), (0, 1, 0), (53, 97, 1), (29, 2, 1), (31, 4, 0)] := rfl
theorem bq117_2 : blk 117 2 = [(3, 0, 101), (0, 4, 0), (8, 0, 0), (47, 0, 0), (22, 0, 8), (6, 0, 0), (47, 0, 0), (22, 14, 8), (0, 4, 0), (24, 0, 0), (6, 0, 0), (1, 5, 0), (47, 0, 0), (22, 17, 8), (0, 5, 0), (34, 0, 0), (24, 0, 0), (0, 1, 0), (6, 0, 0), (25, 0, 0), (47, 0, 0), (51, 116, 1), (1, 6, 0), (47, 0, 0), (22, 17, 8), (0, 5, 0), (34, 0, 0), (24, 0, 0), (0, 1, 0), (7, 0, 0), (25, 0, 0), (0, 2, 0), (3, 0, (-1)), (30, 3, 0), (0, 6, 0), (0, 3, 0), (30, 3, 2), (31, 4, 0)] := rfl
theorem bq117_3 : blk 117 3 = [(0, 4, 0), (1, 2, 0), (0, 6, 0), (1, 3, 0), (32, 4, 0)] := rfl
theorem bq117_4 : blk 117 4 = [(5, 4, 1), (31, 1, 0)] := rfl
theorem bq117_5 : blk 117 5 = [(0, 2, 0), (37, 0, 0)] := rfl
theorem rc_117_50 (l : List AV) : rcvb 117 (.inr (.inr 50) :: l) = true := rfl
theorem mx_117 : mxl 117 = 7 := rfl
theorem bq118_0 : blk 118 0 = [(47, 0, 0), (22, 2, 8), (0, 1, 0), (46, 0, 0), (29, 1, 0), (0, 2, 0), (47, 0, 0), (22, 0, 8), (0, 3, 0), (53, 85, 1), (29, 1, 0), (47, 0, 0), (0, 1, 0), (0, 2, 0), (53, 109, 1), (29, 1, 1), (3, 0, 1), (31, 2, 0)] := rfl
theorem bq118_1 : blk 118 1 = [(3, 0, 0), (32, 2, 0)] := rfl
theorem bq118_2 : blk 118 2 = [(37, 0, 1)] := rfl
theorem rc_118_50 (l : List AV) : rcvb 118 (.inr (.inr 50) :: l) = true := rfl
theorem mx_118 : mxl 118 = 4 := rfl
theorem bq119_0 : blk 119 0 = [(3, 0, 101), (0, 1, 0), (8, 0, 0), (0, 2, 0), (6, 0, 0), (1, 5, 0), (47, 0, 0), (22, 37, 8), (0, 5, 0), (46, 0, 0), (29, 1, 0), (38, 0, 0)] := rfl
theorem bq119_1 : blk 119 1 = [(47, 0, 0), (22, 37, 8), (0, 5, 0), (3, 0, 1), (26, 0, 0), (47, 0, 0), (22, 39, 8), (0, 5, 0), (0, 3, 0), (25, 0, 0), (47, 0, 0), (22, 40, 8), (0, 5, 0), (0, 4, 0), (25, 0, 0), (47, 0, 0), (22, 38, 8), (47, 0, 0), (22, 41, 8), (0, 5, 0), (25, 0, 0), (47, 0, 0), (33, 0, 0), (22, 41, 8), (3, 0, 1), (6, 0, 0), (23, 41, 8), (38, 0, 0)] := rfl
theorem rc_119_50 (l : List AV) : rcvb 119 (.inr (.inr 50) :: l) = true := rfl
theorem mx_119 : mxl 119 = 6 := rfl
theorem bq120_0 : blk 120 0 = [(3, 0, 0), (1, 2, 0), (32, 1, 0)] := rfl
theorem bq120_1 : blk 120 1 = [(0, 2, 0), (3, 0, 1010), (30, 2, 3), (47, 0, 0), (22, 37, 8), (0, 2, 0), (3, 0, 0), (26, 0, 0), (5, 2, 1), (31, 1, 0)] := rfl
theorem bq120_2 : blk 120 2 = [(47, 0, 0), (3, 0, 0), (23, 41, 8), (47, 0, 0), (3, 0, (-1)), (23, 42, 8), (3, 0, 0), (1, 2, 0), (32, 3, 0)] := rfl
theorem bq120_3 : blk 120 3 = [(0, 2, 0), (47, 0, 0), (22, 1, 8), (30, 5, 3), (47, 0, 0), (0, 2, 0), (47, 0, 0), (22, 0, 8), (0, 1, 0), (54, 118, 1), (29, 4, 0), (47, 0, 0), (22, 6, 8), (0, 2, 0), (24, 0, 0), (47, 0, 0), (22, 34, 8), (0, 2, 0), (24, 0, 0), (30, 4, 5), (47, 0, 0), (0, 2, 0), (47, 0, 0), (22, 0, 8), (3, 0, 0), (3, 0, (-1)), (55, 119, 0), (32, 4, 0)] := rfl
theorem bq120_4 : blk 120 4 = [(5, 2, 1), (31, 3, 0)] := rfl
theorem bq120_5 : blk 120 5 = [(3, 0, 0), (1, 2, 0), (32, 6, 0)] := rfl
theorem bq120_6 : blk 120 6 = [(0, 2, 0), (47, 0, 0), (22, 41, 8), (30, 7, 3), (47, 0, 0), (22, 42, 8), (3, 0, (-1)), (30, 7, 1), (47, 0, 0), (47, 0, 0), (22, 38, 8), (0, 2, 0), (24, 0, 0), (3, 0, 101), (13, 0, 0), (47, 0, 0), (22, 38, 8), (0, 2, 0), (24, 0, 0), (3, 0, 101), (14, 0, 0), (0, 1, 0), (54, 121, 0), (5, 2, 1), (31, 6, 0)] := rfl
theorem bq120_7 : blk 120 7 = [(47, 0, 0), (22, 42, 8), (3, 0, (-1)), (30, 8, 0), (3, 0, 1), (31, 9, 0)] := rfl
theorem bq120_8 : blk 120 8 = [(3, 0, 0), (32, 9, 0)] := rfl
theorem bq120_9 : blk 120 9 = [(37, 0, 1)] := rfl
theorem rc_120_50 (l : List AV) : rcvb 120 (.inr (.inr 50) :: l) = true := rfl
theorem mx_120 : mxl 120 = 3 := rfl
theorem bq121_0 : blk 121 0 = [(47, 0, 0), (0, 1, 0), (0, 2, 0), (3, 0, 1), (6, 0, 0), (0, 3, 0), (54, 118, 1), (29, 1, 0), (47, 0, 0), (0, 1, 0), (0, 2, 0), (3, 0, 1), (6, 0, 0), (3, 0, 1), (3, 0, (-1)), (55, 119, 0), (32, 1, 0)] := rfl
theorem bq121_1 : blk 121 1 = [(0, 2, 0), (47, 0, 0), (22, 0, 8), (30, 2, 5), (47, 0, 0), (22, 35, 8), (3, 0, 101), (0, 1, 0), (8, 0, 0), (0, 2, 0), (6, 0, 0), (3, 0, 1), (7, 0, 0), (24, 0, 0), (29, 2, 5), (47, 0, 0), (0, 1, 0), (0, 2, 0), (3, 0, 1), (7, 0, 0), (3, 0, 2), (3, 0, (-1)), (55, 119, 0), (32, 2, 0)] := rfl
theorem bq121_2 : blk 121 2 = [(3, 0, 0), (1, 4, 0), (32, 3, 0)] := rfl
theorem bq121_3 : blk 121 3 = [(0, 4, 0), (47, 0, 0), (22, 23, 8), (30, 7, 3), (0, 2, 0), (47, 0, 0), (22, 27, 8), (0, 4, 0), (24, 0, 0), (6, 0, 0), (1, 5, 0), (47, 0, 0), (22, 24, 8), (0, 4, 0), (24, 0, 0), (0, 1, 0), (30, 5, 1), (0, 5, 0), (0, 3, 0), (30, 5, 4), (47, 0, 0), (22, 36, 8), (3, 0, 101), (0, 4, 0), (8, 0, 0), (0, 2, 0), (6, 0, 0), (24, 0, 0), (47, 0, 0), (22, 26, 8), (0, 4, 0), (24, 0, 0), (30, 5, 3), (47, 0, 0), (22, 25, 8), (0, 4, 0), (24, 0, 0), (3, 0, (-1)), (30, 4, 1), (47, 0, 0), (3, 0, 101), (0, 1, 0), (8, 0, 0), (0, 2, 0), (6, 0, 0), (23, 42, 8), (47, 0, 0), (0, 4, 0), (23, 43, 8), (38, 0, 0)] := rfl
theorem bq121_4 : blk 121 4 = [(47, 0, 0), (47, 0, 0), (22, 25, 8), (0, 4, 0), (24, 0, 0), (0, 5, 0), (0, 3, 0), (54, 118, 1), (29, 5, 0), (47, 0, 0), (47, 0, 0), (22, 25, 8), (0, 4, 0), (24, 0, 0), (0, 5, 0), (3, 0, 3), (0, 4, 0), (55, 119, 0), (32, 5, 0)] := rfl
theorem bq121_5 : blk 121 5 = [(0, 2, 0), (47, 0, 0), (22, 27, 8), (0, 4, 0), (24, 0, 0), (7, 0, 0), (1, 6, 0), (47, 0, 0), (22, 25, 8), (0, 4, 0), (24, 0, 0), (0, 1, 0), (30, 6, 1), (0, 6, 0), (47, 0, 0), (22, 0, 8), (30, 6, 2), (47, 0, 0), (22, 36, 8), (3, 0, 101), (0, 4, 0), (8, 0, 0), (0, 6, 0), (6, 0, 0), (24, 0, 0), (29, 6, 5), (47, 0, 0), (47, 0, 0), (22, 24, 8), (0, 4, 0), (24, 0, 0), (0, 6, 0), (3, 0, 4), (0, 4, 0), (55, 119, 0), (32, 6, 0)] := rfl
theorem bq121_6 : blk 121 6 = [(5, 4, 1), (31, 3, 0)] := rfl
theorem bq121_7 : blk 121 7 = [(38, 0, 0)] := rfl
theorem rc_121_50 (l : List AV) : rcvb 121 (.inr (.inr 50) :: l) = true := rfl
theorem mx_121 : mxl 121 = 7 := rfl
theorem bq122_0 : blk 122 0 = [(47, 0, 0), (22, 40, 8), (0, 1, 0), (24, 0, 0), (1, 2, 0), (47, 0, 0), (22, 39, 8), (0, 1, 0), (24, 0, 0), (36, 6, 0)] := rfl
theorem bq122_1 : blk 122 1 = [(0, 1, 0), (3, 0, 1), (7, 0, 0), (37, 0, 0)] := rfl
theorem bq122_2 : blk 122 2 = [(0, 1, 0), (3, 0, 1), (6, 0, 0), (37, 0, 0)] := rfl
theorem bq122_3 : blk 122 3 = [(3, 0, 101), (47, 0, 0), (22, 24, 8), (0, 2, 0), (24, 0, 0), (8, 0, 0), (0, 1, 0), (3, 0, 101), (14, 0, 0), (6, 0, 0), (47, 0, 0), (22, 27, 8), (0, 2, 0), (24, 0, 0), (7, 0, 0), (37, 0, 0)] := rfl
theorem bq122_4 : blk 122 4 = [(3, 0, 101), (47, 0, 0), (22, 25, 8), (0, 2, 0), (24, 0, 0), (8, 0, 0), (0, 1, 0), (3, 0, 101), (14, 0, 0), (6, 0, 0), (47, 0, 0), (22, 27, 8), (0, 2, 0), (24, 0, 0), (6, 0, 0), (37, 0, 0)] := rfl
theorem rc_122_50 (l : List AV) : rcvb 122 (.inr (.inr 50) :: l) = true := rfl
theorem mx_122 : mxl 122 = 3 := rfl
theorem bq123_0 : blk 123 0 = [(47, 0, 0), (22, 40, 8), (0, 1, 0), (24, 0, 0), (1, 2, 0), (47, 0, 0), (22, 39, 8), (0, 1, 0), (24, 0, 0), (36, 7, 0)] := rfl
theorem bq123_1 : blk 123 1 = [(47, 0, 0), (22, 6, 8), (0, 1, 0), (3, 0, 101), (13, 0, 0), (24, 0, 0), (47, 0, 0), (22, 34, 8), (0, 1, 0), (3, 0, 101), (13, 0, 0), (24, 0, 0), (7, 0, 0), (37, 0, 0)] := rfl
theorem bq123_2 : blk 123 2 = [(3, 0, 1000000000), (37, 0, 0)] := rfl
theorem bq123_3 : blk 123 3 = [(47, 0, 0), (22, 35, 8), (0, 1, 0), (24, 0, 0), (37, 0, 0)] := rfl
theorem bq123_4 : blk 123 4 = [(47, 0, 0), (22, 26, 8), (0, 2, 0), (24, 0, 0), (47, 0, 0), (22, 36, 8), (3, 0, 101), (0, 2, 0), (8, 0, 0), (0, 1, 0), (3, 0, 101), (14, 0, 0), (6, 0, 0), (47, 0, 0), (22, 27, 8), (0, 2, 0), (24, 0, 0), (7, 0, 0), (24, 0, 0), (7, 0, 0), (37, 0, 0)] := rfl
theorem bq123_5 : blk 123 5 = [(47, 0, 0), (22, 36, 8), (3, 0, 101), (0, 2, 0), (8, 0, 0), (0, 1, 0), (3, 0, 101), (14, 0, 0), (6, 0, 0), (24, 0, 0), (37, 0, 0)] := rfl
theorem rc_123_50 (l : List AV) : rcvb 123 (.inr (.inr 50) :: l) = true := rfl
theorem mx_123 : mxl 123 = 3 := rfl
theorem bq124_0 : blk 124 0 = [(47, 0, 0), (22, 40, 8), (0, 1, 0), (24, 0, 0), (1, 3, 0), (47, 0, 0), (22, 39, 8), (0, 1, 0), (24, 0, 0), (36, 8, 0)] := rfl
theorem bq124_1 : blk 124 1 = [(47, 0, 0), (22, 34, 8), (0, 1, 0), (3, 0, 101), (13, 0, 0), (34, 0, 0), (24, 0, 0), (0, 2, 0), (6, 0, 0), (25, 0, 0), (31, 6, 0)] := rfl
theorem bq124_2 : blk 124 2 = [(47, 0, 0), (22, 35, 8), (0, 1, 0), (3, 0, 1), (7, 0, 0), (34, 0, 0), (24, 0, 0), (0, 2, 0), (6, 0, 0), (25, 0, 0), (31, 6, 0)] := rfl
theorem bq124_3 : blk 124 3 = [(47, 0, 0), (22, 35, 8), (0, 1, 0), (34, 0, 0), (24, 0, 0), (0, 2, 0), (7, 0, 0), (25, 0, 0), (31, 6, 0)] := rfl
theorem bq124_4 : blk 124 4 = [(47, 0, 0), (22, 36, 8), (3, 0, 101), (0, 3, 0), (8, 0, 0), (0, 1, 0), (3, 0, 101), (14, 0, 0), (6, 0, 0), (47, 0, 0), (22, 27, 8), (0, 3, 0), (24, 0, 0), (7, 0, 0), (34, 0, 0), (24, 0, 0), (0, 2, 0), (6, 0, 0), (25, 0, 0), (31, 6, 0)] := rfl
theorem bq124_5 : blk 124 5 = [(47, 0, 0), (22, 36, 8), (3, 0, 101), (0, 3, 0), (8, 0, 0), (0, 1, 0), (3, 0, 101), (14, 0, 0), (6, 0, 0), (34, 0, 0), (24, 0, 0), (0, 2, 0), (7, 0, 0), (25, 0, 0), (32, 6, 0)] := rfl
theorem bq124_6 : blk 124 6 = [(38, 0, 0)] := rfl
theorem rc_124_50 (l : List AV) : rcvb 124 (.inr (.inr 50) :: l) = true := rfl
theorem mx_124 : mxl 124 = 4 := rfl
theorem bq125_0 : blk 125 0 = [(47, 0, 0), (51, 108, 0), (3, 0, 0), (1, 2, 0), (32, 1, 0)] := rfl
theorem bq125_1 : blk 125 1 = [(0, 2, 0), (3, 0, 10), (30, 2, 3), (47, 0, 0), (22, 34, 8), (0, 2, 0), (3, 0, 0), (25, 0, 0), (5, 2, 1), (31, 1, 0)] := rfl
theorem bq125_2 : blk 125 2 = [(3, 0, 0), (1, 2, 0), (32, 3, 0)] := rfl
theorem bq125_3 : blk 125 3 = [(0, 2, 0), (3, 0, 1010), (30, 4, 3), (47, 0, 0), (22, 35, 8), (0, 2, 0), (3, 0, 0), (25, 0, 0), (5, 2, 1), (31, 3, 0)] := rfl
theorem bq125_4 : blk 125 4 = [(3, 0, 0), (1, 2, 0), (32, 5, 0)] := rfl
theorem bq125_5 : blk 125 5 = [(0, 2, 0), (3, 0, 1212), (30, 6, 3), (47, 0, 0), (22, 36, 8), (0, 2, 0), (3, 0, 0), (25, 0, 0), (5, 2, 1), (31, 5, 0)] := rfl
theorem bq125_6 : blk 125 6 = [(3, 0, 0), (1, 2, 0), (32, 7, 0)] := rfl
theorem bq125_7 : blk 125 7 = [(47, 0, 0), (0, 1, 0), (52, 120, 1), (29, 20, 0), (47, 0, 0), (22, 26, 8), (47, 0, 0), (22, 43, 8), (24, 0, 0), (47, 0, 0), (22, 36, 8), (3, 0, 101), (47, 0, 0), (22, 43, 8), (8, 0, 0), (47, 0, 0), (22, 42, 8), (3, 0, 101), (14, 0, 0), (6, 0, 0), (24, 0, 0), (7, 0, 0), (1, 3, 0), (47, 0, 0), (22, 42, 8), (1, 4, 0), (3, 0, 1), (1, 5, 0), (32, 8, 0)] := rfl
theorem bq125_8 : blk 125 8 = [(0, 5, 0), (29, 13, 0), (47, 0, 0), (0, 4, 0), (52, 123, 1), (1, 6, 0), (0, 6, 0), (0, 3, 0), (30, 9, 3), (0, 6, 0), (1, 3, 0), (32, 9, 0)] := rfl
theorem bq125_9 : blk 125 9 = [(47, 0, 0), (22, 39, 8), (0, 4, 0), (24, 0, 0), (29, 10, 0), (3, 0, 1), (31, 11, 0)] := rfl
theorem bq125_10 : blk 125 10 = [(3, 0, 0), (32, 11, 0)] := rfl
theorem bq125_11 : blk 125 11 = [(1, 5, 0), (0, 5, 0), (29, 12, 0), (47, 0, 0), (0, 4, 0), (52, 122, 1), (1, 4, 0), (32, 12, 0)] := rfl
theorem bq125_12 : blk 125 12 = [(31, 8, 0)] := rfl
theorem bq125_13 : blk 125 13 = [(47, 0, 0), (22, 36, 8), (3, 0, 101), (47, 0, 0), (22, 43, 8), (8, 0, 0), (47, 0, 0), (22, 42, 8), (3, 0, 101), (14, 0, 0), (6, 0, 0), (34, 0, 0), (24, 0, 0), (0, 3, 0), (6, 0, 0), (25, 0, 0), (47, 0, 0), (22, 42, 8), (1, 4, 0), (3, 0, 1), (1, 5, 0), (32, 14, 0)] := rfl
theorem bq125_14 : blk 125 14 = [(0, 5, 0), (29, 19, 0), (47, 0, 0), (22, 39, 8), (0, 4, 0), (24, 0, 0), (29, 15, 1), (3, 0, (-1)), (31, 16, 0)] := rfl
theorem bq125_15 : blk 125 15 = [(47, 0, 0), (0, 4, 0), (52, 122, 1), (32, 16, 0)] := rfl
theorem bq125_16 : blk 125 16 = [(1, 6, 0), (47, 0, 0), (0, 4, 0), (0, 3, 0), (53, 124, 0), (0, 6, 0), (3, 0, (-1)), (30, 17, 0), (3, 0, 1), (31, 18, 0)] := rfl
theorem bq125_17 : blk 125 17 = [(3, 0, 0), (32, 18, 0)] := rfl
theorem bq125_18 : blk 125 18 = [(1, 5, 0), (0, 6, 0), (1, 4, 0), (31, 14, 0)] := rfl
theorem bq125_19 : blk 125 19 = [(0, 2, 0), (0, 3, 0), (6, 0, 0), (1, 2, 0), (31, 7, 0)] := rfl
theorem bq125_20 : blk 125 20 = [(0, 2, 0), (37, 0, 0)] := rfl
theorem rc_125_50 (l : List AV) : rcvb 125 (.inr (.inr 50) :: l) = true := rfl
theorem mx_125 : mxl 125 = 7 := rfl
theorem bq126_0 : blk 126 0 = [(0, 1, 0), (47, 0, 0), (22, 0, 8), (3, 0, 100), (53, 85, 1), (29, 1, 0), (47, 0, 0), (0, 1, 0), (52, 125, 1), (31, 2, 0)] := rfl
theorem bq126_1 : blk 126 1 = [(3, 0, (-1)), (32, 2, 0)] := rfl
theorem bq126_2 : blk 126 2 = [(37, 0, 0)] := rfl
theorem rc_126_50 (l : List AV) : rcvb 126 (.inr (.inr 50) :: l) = true := rfl
theorem mx_126 : mxl 126 = 2 := rfl
theorem bq127_0 : blk 127 0 = [(47, 0, 0), (3, 0, 100), (52, 125, 1), (1, 1, 0), (0, 1, 0), (29, 1, 1), (3, 0, (-1)), (37, 0, 0)] := rfl
theorem bq127_1 : blk 127 1 = [(47, 0, 0), (22, 0, 8), (1, 2, 0), (3, 0, 100), (1, 3, 0), (32, 2, 0)] := rfl
theorem bq127_2 : blk 127 2 = [(0, 2, 0), (0, 3, 0), (30, 5, 3), (0, 2, 0), (0, 3, 0), (6, 0, 0), (3, 0, 2), (13, 0, 0), (1, 4, 0), (47, 0, 0), (0, 4, 0), (52, 125, 1), (0, 1, 0), (30, 3, 1), (0, 4, 0), (1, 3, 0), (31, 4, 0)] := rfl
theorem bq127_3 : blk 127 3 = [(0, 4, 0), (3, 0, 1), (6, 0, 0), (1, 2, 0), (32, 4, 0)] := rfl
theorem bq127_4 : blk 127 4 = [(31, 2, 0)] := rfl
theorem bq127_5 : blk 127 5 = [(0, 2, 0), (37, 0, 0)] := rfl
theorem rc_127_50 (l : List AV) : rcvb 127 (.inr (.inr 50) :: l) = true := rfl
theorem mx_127 : mxl 127 = 5 := rfl
theorem bq128_0 : blk 128 0 = [(0, 2, 0), (47, 0, 0), (22, 27, 8), (0, 1, 0), (24, 0, 0), (6, 0, 0), (1, 4, 0), (47, 0, 0), (22, 24, 8), (0, 1, 0), (24, 0, 0), (1, 5, 0), (47, 0, 0), (0, 5, 0), (0, 2, 0), (0, 3, 0), (54, 118, 1), (29, 1, 0), (47, 0, 0), (22, 37, 8), (3, 0, 101), (0, 5, 0), (8, 0, 0), (0, 2, 0), (6, 0, 0), (46, 0, 0), (29, 1, 0), (0, 4, 0), (0, 3, 0), (30, 2, 5), (32, 1, 0)] := rfl
theorem bq128_1 : blk 128 1 = [(3, 0, 0), (37, 0, 1)] := rfl
theorem bq128_2 : blk 128 2 = [(47, 0, 0), (22, 25, 8), (0, 1, 0), (24, 0, 0), (3, 0, (-1)), (30, 3, 0), (47, 0, 0), (47, 0, 0), (22, 25, 8), (0, 1, 0), (24, 0, 0), (0, 4, 0), (0, 3, 0), (54, 118, 1), (29, 4, 0), (47, 0, 0), (22, 37, 8), (3, 0, 101), (47, 0, 0), (22, 25, 8), (0, 1, 0), (24, 0, 0), (8, 0, 0), (0, 4, 0), (6, 0, 0), (46, 0, 0), (29, 4, 1), (32, 3, 0)] := rfl
theorem bq128_3 : blk 128 3 = [(3, 0, 1), (31, 5, 0)] := rfl
theorem bq128_4 : blk 128 4 = [(3, 0, 0), (32, 5, 0)] := rfl
theorem bq128_5 : blk 128 5 = [(37, 0, 1)] := rfl
theorem rc_128_50 (l : List AV) : rcvb 128 (.inr (.inr 50) :: l) = true := rfl
theorem mx_128 : mxl 128 = 6 := rfl
theorem bq129_0 : blk 129 0 = [(0, 1, 0), (47, 0, 0), (22, 0, 8), (3, 0, 100), (53, 85, 1), (29, 1, 1), (3, 0, (-1)), (37, 0, 0)] := rfl
theorem bq129_1 : blk 129 1 = [(47, 0, 0), (0, 1, 0), (52, 125, 1), (35, 0, 0), (3, 0, 0), (1, 2, 0), (47, 0, 0), (22, 0, 8), (1, 3, 0), (32, 2, 0)] := rfl
theorem bq129_2 : blk 129 2 = [(0, 3, 0), (0, 1, 0), (30, 7, 4), (3, 0, 0), (1, 4, 0), (32, 3, 0)] := rfl
theorem bq129_3 : blk 129 3 = [(0, 4, 0), (47, 0, 0), (22, 23, 8), (30, 6, 3), (0, 2, 0), (47, 0, 0), (0, 4, 0), (0, 3, 0), (0, 1, 0), (54, 128, 1), (29, 4, 0), (3, 0, 1), (31, 5, 0)] := rfl
theorem bq129_4 : blk 129 4 = [(3, 0, 0), (32, 5, 0)] := rfl
theorem bq129_5 : blk 129 5 = [(6, 0, 0), (1, 2, 0), (5, 4, 1), (31, 3, 0)] := rfl
theorem bq129_6 : blk 129 6 = [(5, 3, 1), (31, 2, 0)] := rfl
theorem bq129_7 : blk 129 7 = [(0, 2, 0), (37, 0, 0)] := rfl
theorem rc_129_50 (l : List AV) : rcvb 129 (.inr (.inr 50) :: l) = true := rfl
theorem mx_129 : mxl 129 = 5 := rfl
theorem bq130_0 : blk 130 0 = [(0, 1, 0), (47, 0, 0), (22, 0, 8), (3, 0, 100), (53, 85, 1), (29, 1, 0), (0, 3, 0), (3, 0, 0), (3, 0, 1), (53, 85, 1), (29, 1, 0), (0, 2, 0), (29, 2, 3), (32, 1, 0)] := rfl
theorem bq130_1 : blk 130 1 = [(3, 0, (-1)), (37, 0, 0)] := rfl
theorem bq130_2 : blk 130 2 = [(47, 0, 0), (0, 1, 0), (52, 125, 1), (35, 0, 0), (0, 2, 0), (1, 4, 0), (47, 0, 0), (22, 0, 8), (1, 5, 0), (32, 3, 0)] := rfl
theorem bq130_3 : blk 130 3 = [(0, 5, 0), (0, 1, 0), (30, 11, 4), (3, 0, 0), (1, 6, 0), (32, 4, 0)] := rfl
theorem bq130_4 : blk 130 4 = [(0, 6, 0), (47, 0, 0), (22, 23, 8), (30, 10, 3), (47, 0, 0), (0, 6, 0), (0, 5, 0), (0, 1, 0), (54, 128, 1), (29, 5, 1), (31, 9, 0)] := rfl
theorem bq130_5 : blk 130 5 = [(0, 4, 0), (29, 8, 1), (0, 3, 0), (29, 6, 1), (0, 6, 0), (31, 7, 0)] := rfl
theorem bq130_6 : blk 130 6 = [(0, 5, 0), (32, 7, 0)] := rfl
theorem bq130_7 : blk 130 7 = [(37, 0, 0)] := rfl
theorem bq130_8 : blk 130 8 = [(5, 4, (-1)), (32, 9, 0)] := rfl
theorem bq130_9 : blk 130 9 = [(5, 6, 1), (31, 4, 0)] := rfl
theorem bq130_10 : blk 130 10 = [(5, 5, 1), (31, 3, 0)] := rfl
theorem bq130_11 : blk 130 11 = [(3, 0, (-1)), (37, 0, 0)] := rfl
theorem rc_130_50 (l : List AV) : rcvb 130 (.inr (.inr 50) :: l) = true := rfl
theorem mx_130 : mxl 130 = 7 := rfl
theorem bq131_0 : blk 131 0 = [(3, 0, 0), (1, 2, 0), (0, 1, 0), (36, 9, 0)] := rfl
theorem bq131_1 : blk 131 1 = [(47, 0, 0), (22, 0, 8), (37, 0, 0)] := rfl
theorem bq131_2 : blk 131 2 = [(47, 0, 0), (22, 1, 8), (37, 0, 0)] := rfl
theorem bq131_3 : blk 131 3 = [(47, 0, 0), (22, 9, 8), (37, 0, 0)] := rfl
theorem bq131_4 : blk 131 4 = [(47, 0, 0), (22, 23, 8), (37, 0, 0)] := rfl
theorem bq131_5 : blk 131 5 = [(47, 0, 0), (22, 18, 8), (37, 0, 0)] := rfl
theorem bq131_6 : blk 131 6 = [(3, 0, 0), (1, 3, 0), (32, 7, 0)] := rfl
theorem bq131_7 : blk 131 7 = [(0, 3, 0), (47, 0, 0), (22, 9, 8), (30, 8, 3), (0, 2, 0), (47, 0, 0), (0, 3, 0), (52, 112, 1), (6, 0, 0), (1, 2, 0), (5, 3, 1), (31, 7, 0)] := rfl
theorem bq131_8 : blk 131 8 = [(0, 2, 0), (37, 0, 0)] := rfl
theorem bq131_9 : blk 131 9 = [(3, 0, 0), (1, 3, 0), (32, 10, 0)] := rfl
theorem bq131_10 : blk 131 10 = [(0, 3, 0), (47, 0, 0), (22, 9, 8), (30, 11, 3), (0, 2, 0), (47, 0, 0), (22, 29, 8), (0, 3, 0), (24, 0, 0), (6, 0, 0), (1, 2, 0), (5, 3, 1), (31, 10, 0)] := rfl
theorem bq131_11 : blk 131 11 = [(0, 2, 0), (37, 0, 0)] := rfl
theorem bq131_12 : blk 131 12 = [(47, 0, 0), (22, 30, 8), (3, 0, 0), (24, 0, 0), (37, 0, 0)] := rfl
theorem bq131_13 : blk 131 13 = [(47, 0, 0), (22, 31, 8), (3, 0, 0), (27, 0, 0), (17, 0, 0), (37, 0, 0)] := rfl
theorem bq131_14 : blk 131 14 = [(47, 0, 0), (22, 32, 8), (3, 0, 0), (27, 0, 0), (17, 0, 0), (37, 0, 0)] := rfl
theorem bq131_15 : blk 131 15 = [(3, 0, (-1)), (37, 0, 0)] := rfl
theorem rc_131_50 (l : List AV) : rcvb 131 (.inr (.inr 50) :: l) = true := rfl
theorem mx_131 : mxl 131 = 4 := rfl
theorem bq132_0 : blk 132 0 = [(3, 0, 0), (1, 2, 0), (47, 0, 0), (43, 0, 0), (1, 3, 0), (32, 1, 0)] := rfl
theorem bq132_1 : blk 132 1 = [(0, 2, 0), (0, 3, 0), (30, 2, 3), (47, 0, 0), (0, 2, 0), (0, 1, 0), (25, 0, 0), (5, 2, 1), (31, 1, 0)] := rfl
theorem bq132_2 : blk 132 2 = [(38, 0, 0)] := rfl
theorem rc_132 (l : List AV) : rcvb 132 l = true := rfl
theorem mx_132 : mxl 132 = 4 := rfl
end
section
theorem en_0 (a0 : AV) : en 0 [a0] = [some a0, none, none, none] := rfl
theorem en_1 (a0 a1 : AV) : en 1 [a0, a1] = [some a0, some a1] := rfl
theorem en_2 (a0 a1 : AV) : en 2 [a0, a1] = [some a0, some a1] := rfl
theorem en_3 (a0 a1 a2 : AV) : en 3 [a0, a1, a2] = [some a0, some a1, some a2] := rfl
theorem en_4 (a0 a1 a2 a3 : AV) : en 4 [a0, a1, a2, a3] = [some a0, some a1, some a2, some a3, none] := rfl
theorem en_5 (a0 a1 a2 a3 a4 : AV) : en 5 [a0, a1, a2, a3, a4] = [some a0, some a1, some a2, some a3, some a4, none] := rfl
theorem en_6 (a0 a1 a2 : AV) : en 6 [a0, a1, a2] = [some a0, some a1, some a2, none] := rfl
theorem en_7 (a0 a1 : AV) : en 7 [a0, a1] = [some a0, some a1] := rfl
theorem en_8 (a0 a1 a2 a3 a4 a5 : AV) : en 8 [a0, a1, a2, a3, a4, a5] = [some a0, some a1, some a2, some a3, some a4, some a5, none] := rfl
theorem en_9 (a0 a1 a2 : AV) : en 9 [a0, a1, a2] = [some a0, some a1, some a2] := rfl
theorem en_10 (a0 a1 a2 a3 : AV) : en 10 [a0, a1, a2, a3] = [some a0, some a1, some a2, some a3] := rfl
theorem en_11 (a0 a1 a2 : AV) : en 11 [a0, a1, a2] = [some a0, some a1, some a2, none, none] := rfl
theorem en_12 (a0 : AV) : en 12 [a0] = [some a0] := rfl
theorem en_13 (a0 a1 a2 a3 : AV) : en 13 [a0, a1, a2, a3] = [some a0, some a1, some a2, some a3, none, none] := rfl
theorem en_14 (a0 a1 a2 : AV) : en 14 [a0, a1, a2] = [some a0, some a1, some a2, none, none] := rfl
theorem en_15 (a0 : AV) : en 15 [a0] = [some a0, none, none] := rfl
theorem en_16 (a0 a1 a2 a3 : AV) : en 16 [a0, a1, a2, a3] = [some a0, some a1, some a2, some a3, none, none, none, none, none] := rfl
theorem en_17 (a0 a1 a2 a3 : AV) : en 17 [a0, a1, a2, a3] = [some a0, some a1, some a2, some a3, none, none] := rfl
theorem en_18 (a0 : AV) : en 18 [a0] = [some a0] := rfl
theorem en_19 (a0 a1 a2 : AV) : en 19 [a0, a1, a2] = [some a0, some a1, some a2, none] := rfl
theorem en_20 (a0 a1 a2 : AV) : en 20 [a0, a1, a2] = [some a0, some a1, some a2, none, none, none, none, none] := rfl
theorem en_21 (a0 a1 a2 a3 : AV) : en 21 [a0, a1, a2, a3] = [some a0, some a1, some a2, some a3] := rfl
theorem en_22 (a0 a1 a2 : AV) : en 22 [a0, a1, a2] = [some a0, some a1, some a2, none, none, none] := rfl
theorem en_23 (a0 a1 a2 a3 : AV) : en 23 [a0, a1, a2, a3] = [some a0, some a1, some a2, some a3, none, none, none] := rfl
theorem en_24 (a0 a1 a2 : AV) : en 24 [a0, a1, a2] = [some a0, some a1, some a2, none, none, none] := rfl
theorem en_25 (a0 a1 a2 : AV) : en 25 [a0, a1, a2] = [some a0, some a1, some a2, none, none, none] := rfl
theorem en_26 (a0 a1 a2 a3 : AV) : en 26 [a0, a1, a2, a3] = [some a0, some a1, some a2, some a3, none, none, none] := rfl
theorem en_27 (a0 a1 a2 : AV) : en 27 [a0, a1, a2] = [some a0, some a1, some a2, none] := rfl
theorem en_28 (a0 a1 a2 a3 : AV) : en 28 [a0, a1, a2, a3] = [some a0, some a1, some a2, some a3, none, none, none, none, none] := rfl
theorem en_29 (a0 a1 a2 : AV) : en 29 [a0, a1, a2] = [some a0, some a1, some a2, none, none] := rfl
theorem en_30 (a0 a1 a2 a3 : AV) : en 30 [a0, a1, a2, a3] = [some a0, some a1, some a2, some a3, none] := rfl
theorem en_31 (a0 a1 : AV) : en 31 [a0, a1] = [some a0, some a1] := rfl
theorem en_32 (a0 a1 : AV) : en 32 [a0, a1] = [some a0, some a1] := rfl
theorem en_33 (a0 a1 : AV) : en 33 [a0, a1] = [some a0, some a1] := rfl
theorem en_34 (a0 a1 a2 : AV) : en 34 [a0, a1, a2] = [some a0, some a1, some a2, none] := rfl
theorem en_35 (a0 a1 a2 : AV) : en 35 [a0, a1, a2] = [some a0, some a1, some a2] := rfl
theorem en_36 (a0 a1 a2 : AV) : en 36 [a0, a1, a2] = [some a0, some a1, some a2] := rfl
theorem en_37 (a0 : AV) : en 37 [a0] = [some a0, none, none] := rfl
theorem en_38 (a0 a1 a2 : AV) : en 38 [a0, a1, a2] = [some a0, some a1, some a2, none] := rfl
theorem en_39 (a0 a1 : AV) : en 39 [a0, a1] = [some a0, some a1, none] := rfl
theorem en_40 (a0 a1 : AV) : en 40 [a0, a1] = [some a0, some a1, none, none, none, none] := rfl
theorem en_41 (a0 a1 a2 : AV) : en 41 [a0, a1, a2] = [some a0, some a1, some a2] := rfl
theorem en_42 (a0 a1 a2 a3 : AV) : en 42 [a0, a1, a2, a3] = [some a0, some a1, some a2, some a3, none, none, none, none, none, none, none, none, none] := rfl
theorem en_43 (a0 : AV) : en 43 [a0] = [some a0] := rfl
theorem en_44 (a0 a1 a2 a3 : AV) : en 44 [a0, a1, a2, a3] = [some a0, some a1, some a2, some a3, none] := rfl
theorem en_45 (a0 a1 a2 : AV) : en 45 [a0, a1, a2] = [some a0, some a1, some a2] := rfl
theorem en_46 (a0 a1 a2 a3 : AV) : en 46 [a0, a1, a2, a3] = [some a0, some a1, some a2, some a3] := rfl
theorem en_47 (a0 a1 a2 a3 : AV) : en 47 [a0, a1, a2, a3] = [some a0, some a1, some a2, some a3, none] := rfl
theorem en_48 (a0 a1 a2 a3 : AV) : en 48 [a0, a1, a2, a3] = [some a0, some a1, some a2, some a3, none, none, none] := rfl
theorem en_49 (a0 a1 a2 a3 : AV) : en 49 [a0, a1, a2, a3] = [some a0, some a1, some a2, some a3] := rfl
theorem en_50 (a0 a1 a2 : AV) : en 50 [a0, a1, a2] = [some a0, some a1, some a2, none] := rfl
theorem en_51 (a0 a1 a2 a3 a4 : AV) : en 51 [a0, a1, a2, a3, a4] = [some a0, some a1, some a2, some a3, some a4, none] := rfl
theorem en_52 (a0 a1 a2 a3 : AV) : en 52 [a0, a1, a2, a3] = [some a0, some a1, some a2, some a3, none] := rfl
theorem en_53 (a0 a1 a2 a3 a4 : AV) : en 53 [a0, a1, a2, a3, a4] = [some a0, some a1, some a2, some a3, some a4, none] := rfl
theorem en_54 (a0 a1 a2 a3 a4 a5 : AV) : en 54 [a0, a1, a2, a3, a4, a5] = [some a0, some a1, some a2, some a3, some a4, some a5, none] := rfl
theorem en_55 (a0 a1 a2 a3 : AV) : en 55 [a0, a1, a2, a3] = [some a0, some a1, some a2, some a3] := rfl
theorem en_56 (a0 a1 a2 : AV) : en 56 [a0, a1, a2] = [some a0, some a1, some a2] := rfl
theorem en_57 (a0 a1 : AV) : en 57 [a0, a1] = [some a0, some a1] := rfl
theorem en_58 (a0 a1 a2 : AV) : en 58 [a0, a1, a2] = [some a0, some a1, some a2, none] := rfl
theorem en_59 (a0 a1 a2 a3 : AV) : en 59 [a0, a1, a2, a3] = [some a0, some a1, some a2, some a3] := rfl
theorem en_60 (a0 a1 : AV) : en 60 [a0, a1] = [some a0, some a1] := rfl
theorem en_61 (a0 : AV) : en 61 [a0] = [some a0, none, none, none, none] := rfl
theorem en_62 (a0 a1 a2 a3 a4 : AV) : en 62 [a0, a1, a2, a3, a4] = [some a0, some a1, some a2, some a3, some a4, none] := rfl
theorem en_63 (a0 a1 : AV) : en 63 [a0, a1] = [some a0, some a1, none] := rfl
theorem en_64 (a0 a1 a2 : AV) : en 64 [a0, a1, a2] = [some a0, some a1, some a2] := rfl
theorem en_65 (a0 a1 a2 : AV) : en 65 [a0, a1, a2] = [some a0, some a1, some a2, none] := rfl
theorem en_66 (a0 a1 a2 : AV) : en 66 [a0, a1, a2] = [some a0, some a1, some a2] := rfl
theorem en_67 (a0 a1 : AV) : en 67 [a0, a1] = [some a0, some a1] := rfl
theorem en_68 (a0 a1 a2 : AV) : en 68 [a0, a1, a2] = [some a0, some a1, some a2] := rfl
theorem en_69 (a0 : AV) : en 69 [a0] = [some a0] := rfl
theorem en_70 (a0 a1 : AV) : en 70 [a0, a1] = [some a0, some a1, none, none, none, none] := rfl
theorem en_71 (a0 a1 : AV) : en 71 [a0, a1] = [some a0, some a1] := rfl
theorem en_72 (a0 : AV) : en 72 [a0] = [some a0] := rfl
theorem en_73 (a0 a1 : AV) : en 73 [a0, a1] = [some a0, some a1] := rfl
theorem en_74 (a0 a1 a2 a3 : AV) : en 74 [a0, a1, a2, a3] = [some a0, some a1, some a2, some a3] := rfl
theorem en_75 (a0 a1 : AV) : en 75 [a0, a1] = [some a0, some a1] := rfl
theorem en_76 (a0 a1 a2 : AV) : en 76 [a0, a1, a2] = [some a0, some a1, some a2] := rfl
theorem en_77 (a0 a1 : AV) : en 77 [a0, a1] = [some a0, some a1] := rfl
theorem en_78 (a0 a1 : AV) : en 78 [a0, a1] = [some a0, some a1] := rfl
theorem en_79 (a0 a1 a2 : AV) : en 79 [a0, a1, a2] = [some a0, some a1, some a2] := rfl
theorem en_80 (a0 : AV) : en 80 [a0] = [some a0, none, none] := rfl
theorem en_81 (a0 a1 a2 : AV) : en 81 [a0, a1, a2] = [some a0, some a1, some a2, none, none] := rfl
theorem en_82 (a0 : AV) : en 82 [a0] = [some a0] := rfl
theorem en_83 (a0 : AV) : en 83 [a0] = [some a0] := rfl
theorem en_84 (a0 a1 : AV) : en 84 [a0, a1] = [some a0, some a1] := rfl
theorem en_85 (a0 a1 a2 : AV) : en 85 [a0, a1, a2] = [some a0, some a1, some a2] := rfl
theorem en_86 (a0 a1 : AV) : en 86 [a0, a1] = [some a0, some a1] := rfl
theorem en_87 (a0 a1 : AV) : en 87 [a0, a1] = [some a0, some a1] := rfl
theorem en_88 (a0 a1 : AV) : en 88 [a0, a1] = [some a0, some a1] := rfl
theorem en_89 (a0 a1 a2 : AV) : en 89 [a0, a1, a2] = [some a0, some a1, some a2] := rfl
theorem en_90 (a0 a1 a2 a3 : AV) : en 90 [a0, a1, a2, a3] = [some a0, some a1, some a2, some a3] := rfl
theorem en_91 (a0 a1 a2 a3 a4 : AV) : en 91 [a0, a1, a2, a3, a4] = [some a0, some a1, some a2, some a3, some a4] := rfl
theorem en_92 (a0 a1 a2 a3 a4 a5 : AV) : en 92 [a0, a1, a2, a3, a4, a5] = [some a0, some a1, some a2, some a3, some a4, some a5] := rfl
theorem en_93 (a0 a1 a2 : AV) : en 93 [a0, a1, a2] = [some a0, some a1, some a2] := rfl
theorem en_94 (a0 a1 a2 a3 : AV) : en 94 [a0, a1, a2, a3] = [some a0, some a1, some a2, some a3] := rfl
theorem en_95 (a0 a1 a2 : AV) : en 95 [a0, a1, a2] = [some a0, some a1, some a2] := rfl
theorem en_96 (a0 a1 : AV) : en 96 [a0, a1] = [some a0, some a1] := rfl
theorem en_97 (a0 a1 a2 : AV) : en 97 [a0, a1, a2] = [some a0, some a1, some a2] := rfl
theorem en_98 (a0 a1 a2 : AV) : en 98 [a0, a1, a2] = [some a0, some a1, some a2] := rfl
theorem en_99 (a0 a1 a2 a3 : AV) : en 99 [a0, a1, a2, a3] = [some a0, some a1, some a2, some a3] := rfl
theorem en_100 (a0 a1 : AV) : en 100 [a0, a1] = [some a0, some a1, none, none] := rfl
theorem en_101 (a0 : AV) : en 101 [a0] = [some a0, none, none] := rfl
theorem en_102 (a0 a1 a2 a3 a4 : AV) : en 102 [a0, a1, a2, a3, a4] = [some a0, some a1, some a2, some a3, some a4] := rfl
theorem en_103 (a0 a1 a2 : AV) : en 103 [a0, a1, a2] = [some a0, some a1, some a2] := rfl
theorem en_104 (a0 a1 a2 a3 : AV) : en 104 [a0, a1, a2, a3] = [some a0, some a1, some a2, some a3] := rfl
theorem en_105 (a0 a1 a2 : AV) : en 105 [a0, a1, a2] = [some a0, some a1, some a2, none, none, none, none] := rfl
theorem en_106 (a0 a1 a2 a3 : AV) : en 106 [a0, a1, a2, a3] = [some a0, some a1, some a2, some a3, none, none, none, none, none, none, none, none, none, none, none] := rfl
theorem en_107 (a0 a1 : AV) : en 107 [a0, a1] = [some a0, some a1, none, none] := rfl
theorem en_108 (a0 : AV) : en 108 [a0] = [some a0, none, none] := rfl
theorem en_109 (a0 a1 a2 : AV) : en 109 [a0, a1, a2] = [some a0, some a1, some a2] := rfl
theorem en_110 (a0 a1 a2 : AV) : en 110 [a0, a1, a2] = [some a0, some a1, some a2] := rfl
theorem en_111 (a0 a1 a2 : AV) : en 111 [a0, a1, a2] = [some a0, some a1, some a2, none] := rfl
theorem en_112 (a0 a1 : AV) : en 112 [a0, a1] = [some a0, some a1, none, none] := rfl
theorem en_113 (a0 a1 a2 : AV) : en 113 [a0, a1, a2] = [some a0, some a1, some a2] := rfl
theorem en_114 (a0 a1 : AV) : en 114 [a0, a1] = [some a0, some a1, none] := rfl
theorem en_115 (a0 a1 a2 : AV) : en 115 [a0, a1, a2] = [some a0, some a1, some a2] := rfl
theorem en_116 (a0 : AV) : en 116 [a0] = [some a0, none, none, none, none] := rfl
theorem en_117 (a0 a1 : AV) : en 117 [a0, a1] = [some a0, some a1, none, none, none, none, none] := rfl
theorem en_118 (a0 a1 a2 a3 : AV) : en 118 [a0, a1, a2, a3] = [some a0, some a1, some a2, some a3] := rfl
theorem en_119 (a0 a1 a2 a3 a4 : AV) : en 119 [a0, a1, a2, a3, a4] = [some a0, some a1, some a2, some a3, some a4, none] := rfl
theorem en_120 (a0 a1 : AV) : en 120 [a0, a1] = [some a0, some a1, none] := rfl
theorem en_121 (a0 a1 a2 a3 : AV) : en 121 [a0, a1, a2, a3] = [some a0, some a1, some a2, some a3, none, none, none] := rfl
theorem en_122 (a0 a1 : AV) : en 122 [a0, a1] = [some a0, some a1, none] := rfl
theorem en_123 (a0 a1 : AV) : en 123 [a0, a1] = [some a0, some a1, none] := rfl
theorem en_124 (a0 a1 a2 : AV) : en 124 [a0, a1, a2] = [some a0, some a1, some a2, none] := rfl
theorem en_125 (a0 a1 : AV) : en 125 [a0, a1] = [some a0, some a1, none, none, none, none, none] := rfl
theorem en_126 (a0 a1 : AV) : en 126 [a0, a1] = [some a0, some a1] := rfl
theorem en_127 (a0 : AV) : en 127 [a0] = [some a0, none, none, none, none] := rfl
theorem en_128 (a0 a1 a2 a3 : AV) : en 128 [a0, a1, a2, a3] = [some a0, some a1, some a2, some a3, none, none] := rfl
theorem en_129 (a0 a1 : AV) : en 129 [a0, a1] = [some a0, some a1, none, none, none] := rfl
theorem en_130 (a0 a1 a2 a3 : AV) : en 130 [a0, a1, a2, a3] = [some a0, some a1, some a2, some a3, none, none, none] := rfl
theorem en_131 (a0 a1 : AV) : en 131 [a0, a1] = [some a0, some a1, none, none] := rfl
theorem en_132 (a0 a1 : AV) : en 132 [a0, a1] = [some a0, some a1, none, none] := rfl
end
section
def RX0 : String := "FloodCells$Bodies"
def TX0 : u_T := fun k => match k with
  | 0 => ("FloodCells$Bodies", "isCell", "[Z", true)
  | 1 => ("FloodCells$Bodies", "area", "[I", true)
  | 2 => ("FloodCells$Bodies", "floor", "[I", true)
  | 3 => ("FloodCells$Bodies", "passes", "[I", true)
  | 4 => ("FloodCells$Bodies", "people", "[I", true)
  | 5 => ("FloodCells$Bodies", "worth", "[I", true)
  | 6 => ("FloodCells$Bodies", "stretches", "[I", true)
  | 7 => ("FloodCells$Bodies", "inflow", "[I", true)
  | 8 => ("FloodCells$Bodies", "count", "I", false)
  | _ => ("FloodCells$Bodies", "stretchCount", "I", false)
def tyX0 : Nat → FieldType := fun k => match k with
  | 0 => .array .boolean
  | 1 => .array .int
  | 2 => .array .int
  | 3 => .array .int
  | 4 => .array .int
  | 5 => .array .int
  | 6 => .array .int
  | 7 => .array .int
  | 8 => .int
  | _ => .int
theorem nmX0 : ∀ a, a < 10 → ∀ b, b < 10 → a ≠ b → (TX0 a).2.1 ≠ (TX0 b).2.1 := by decide +kernel
theorem tyX0_ok : ∀ k, k < 10 → parseFieldDescriptor (TX0 k).2.2.1 = some (tyX0 k) := by decide +kernel
def RX1 : String := "FloodCells$Dikes"
def TX1 : u_T := fun k => match k with
  | 0 => ("FloodCells$Dikes", "a", "[I", true)
  | 1 => ("FloodCells$Dikes", "b", "[I", true)
  | 2 => ("FloodCells$Dikes", "crest", "[I", true)
  | 3 => ("FloodCells$Dikes", "width", "[I", true)
  | 4 => ("FloodCells$Dikes", "hours", "[I", true)
  | 5 => ("FloodCells$Dikes", "sill", "[I", true)
  | 6 => ("FloodCells$Dikes", "breachHour", "[I", true)
  | 7 => ("FloodCells$Dikes", "coming", "[I", true)
  | _ => ("FloodCells$Dikes", "count", "I", false)
def tyX1 : Nat → FieldType := fun k => match k with
  | 0 => .array .int
  | 1 => .array .int
  | 2 => .array .int
  | 3 => .array .int
  | 4 => .array .int
  | 5 => .array .int
  | 6 => .array .int
  | 7 => .array .int
  | _ => .int
theorem nmX1 : ∀ a, a < 9 → ∀ b, b < 9 → a ≠ b → (TX1 a).2.1 ≠ (TX1 b).2.1 := by decide +kernel
theorem tyX1_ok : ∀ k, k < 9 → parseFieldDescriptor (TX1 k).2.2.1 = some (tyX1 k) := by decide +kernel
def RX2 : String := "FloodCells$Flight"
def TX2 : u_T := fun k => match k with
  | 0 => ("FloodCells$Flight", "gone", "[I", true)
  | 1 => ("FloodCells$Flight", "left", "[I", true)
  | 2 => ("FloodCells$Flight", "waiting", "[I", true)
  | 3 => ("FloodCells$Flight", "taking", "[I", true)
  | 4 => ("FloodCells$Flight", "mark", "[I", true)
  | 5 => ("FloodCells$Flight", "step", "[I", true)
  | 6 => ("FloodCells$Flight", "stack", "[I", true)
  | 7 => ("FloodCells$Flight", "seen", "[I", true)
  | 8 => ("FloodCells$Flight", "barList", "[I", true)
  | 9 => ("FloodCells$Flight", "stackSize", "I", false)
  | 10 => ("FloodCells$Flight", "seenCount", "I", false)
  | 11 => ("FloodCells$Flight", "search", "I", false)
  | 12 => ("FloodCells$Flight", "now", "I", false)
  | 13 => ("FloodCells$Flight", "allGone", "I", false)
  | 14 => ("FloodCells$Flight", "reached", "I", false)
  | 15 => ("FloodCells$Flight", "barsFor", "I", false)
  | 16 => ("FloodCells$Flight", "barCount", "I", false)
  | _ => ("FloodCells$Flight", "isFresh", "Z", false)
def tyX2 : Nat → FieldType := fun k => match k with
  | 0 => .array .int
  | 1 => .array .int
  | 2 => .array .int
  | 3 => .array .int
  | 4 => .array .int
  | 5 => .array .int
  | 6 => .array .int
  | 7 => .array .int
  | 8 => .array .int
  | 9 => .int
  | 10 => .int
  | 11 => .int
  | 12 => .int
  | 13 => .int
  | 14 => .int
  | 15 => .int
  | 16 => .int
  | _ => .boolean
theorem nmX2 : ∀ a, a < 18 → ∀ b, b < 18 → a ≠ b → (TX2 a).2.1 ≠ (TX2 b).2.1 := by decide +kernel
theorem tyX2_ok : ∀ k, k < 18 → parseFieldDescriptor (TX2 k).2.2.1 = some (tyX2 k) := by decide +kernel
def RX3 : String := "FloodCells$Flood"
def TX3 : u_T := fun k => match k with
  | 0 => ("FloodCells$Flood", "water", "[I", true)
  | 1 => ("FloodCells$Flood", "bags", "[I", true)
  | 2 => ("FloodCells$Flood", "hour", "I", false)
  | 3 => ("FloodCells$Flood", "washed", "I", false)
  | 4 => ("FloodCells$Flood", "wentOut", "I", false)
  | _ => ("FloodCells$Flood", "cameIn", "I", false)
def tyX3 : Nat → FieldType := fun k => match k with
  | 0 => .array .int
  | 1 => .array .int
  | 2 => .int
  | 3 => .int
  | 4 => .int
  | _ => .int
theorem nmX3 : ∀ a, a < 6 → ∀ b, b < 6 → a ≠ b → (TX3 a).2.1 ≠ (TX3 b).2.1 := by decide +kernel
theorem tyX3_ok : ∀ k, k < 6 → parseFieldDescriptor (TX3 k).2.2.1 = some (tyX3 k) := by decide +kernel
def RX4 : String := "FloodCells$Forecast"
def TX4 : u_T := fun k => match k with
  | 0 => ("FloodCells$Forecast", "trial", "LFloodCells$Flood;", true)
  | 1 => ("FloodCells$Forecast", "water", "[I", true)
  | _ => ("FloodCells$Forecast", "isFresh", "Z", false)
def tyX4 : Nat → FieldType := fun k => match k with
  | 0 => .object "FloodCells$Flood"
  | 1 => .array .int
  | _ => .boolean
theorem nmX4 : ∀ a, a < 3 → ∀ b, b < 3 → a ≠ b → (TX4 a).2.1 ≠ (TX4 b).2.1 := by decide +kernel
theorem tyX4_ok : ∀ k, k < 3 → parseFieldDescriptor (TX4 k).2.2.1 = some (tyX4 k) := by decide +kernel
def RX5 : String := "FloodCells$Reports"
def TX5 : u_T := fun k => match k with
  | 0 => ("FloodCells$Reports", "dike", "[I", true)
  | 1 => ("FloodCells$Reports", "seep", "[I", true)
  | 2 => ("FloodCells$Reports", "knownFrom", "[I", true)
  | _ => ("FloodCells$Reports", "count", "I", false)
def tyX5 : Nat → FieldType := fun k => match k with
  | 0 => .array .int
  | 1 => .array .int
  | 2 => .array .int
  | _ => .int
theorem nmX5 : ∀ a, a < 4 → ∀ b, b < 4 → a ≠ b → (TX5 a).2.1 ≠ (TX5 b).2.1 := by decide +kernel
theorem tyX5_ok : ∀ k, k < 4 → parseFieldDescriptor (TX5 k).2.2.1 = some (tyX5 k) := by decide +kernel
def RX6 : String := "FloodCells$Roads"
def TX6 : u_T := fun k => match k with
  | 0 => ("FloodCells$Roads", "from", "[I", true)
  | 1 => ("FloodCells$Roads", "to", "[I", true)
  | 2 => ("FloodCells$Roads", "bears", "[I", true)
  | 3 => ("FloodCells$Roads", "hours", "[I", true)
  | 4 => ("FloodCells$Roads", "leading", "[I", true)
  | 5 => ("FloodCells$Roads", "leadingCount", "[I", true)
  | 6 => ("FloodCells$Roads", "coming", "[I", true)
  | 7 => ("FloodCells$Roads", "comingCount", "[I", true)
  | _ => ("FloodCells$Roads", "count", "I", false)
def tyX6 : Nat → FieldType := fun k => match k with
  | 0 => .array .int
  | 1 => .array .int
  | 2 => .array .int
  | 3 => .array .int
  | 4 => .array .int
  | 5 => .array .int
  | 6 => .array .int
  | 7 => .array .int
  | _ => .int
theorem nmX6 : ∀ a, a < 9 → ∀ b, b < 9 → a ≠ b → (TX6 a).2.1 ≠ (TX6 b).2.1 := by decide +kernel
theorem tyX6_ok : ∀ k, k < 9 → parseFieldDescriptor (TX6 k).2.2.1 = some (tyX6 k) := by decide +kernel
def RX7 : String := "FloodCells"
def TX7 : u_T := fun k => match k with
  | 0 => ("FloodCells", "bodies", "LFloodCells$Bodies;", true)
  | 1 => ("FloodCells", "dikes", "LFloodCells$Dikes;", true)
  | 2 => ("FloodCells", "roads", "LFloodCells$Roads;", true)
  | 3 => ("FloodCells", "reports", "LFloodCells$Reports;", true)
  | 4 => ("FloodCells", "flood", "LFloodCells$Flood;", true)
  | 5 => ("FloodCells", "forecast", "LFloodCells$Forecast;", true)
  | 6 => ("FloodCells", "flight", "LFloodCells$Flight;", true)
  | _ => ("FloodCells", "bagsInPit", "I", false)
def tyX7 : Nat → FieldType := fun k => match k with
  | 0 => .object "FloodCells$Bodies"
  | 1 => .object "FloodCells$Dikes"
  | 2 => .object "FloodCells$Roads"
  | 3 => .object "FloodCells$Reports"
  | 4 => .object "FloodCells$Flood"
  | 5 => .object "FloodCells$Forecast"
  | 6 => .object "FloodCells$Flight"
  | _ => .int
theorem nmX7 : ∀ a, a < 8 → ∀ b, b < 8 → a ≠ b → (TX7 a).2.1 ≠ (TX7 b).2.1 := by decide +kernel
theorem tyX7_ok : ∀ k, k < 8 → parseFieldDescriptor (TX7 k).2.2.1 = some (tyX7 k) := by decide +kernel
def RX8 : String := "FloodCellsModel"
def TX8 : u_T := fun k => match k with
  | 0 => ("FloodCellsModel", "now", "I", false)
  | 1 => ("FloodCellsModel", "bodies", "I", false)
  | 2 => ("FloodCellsModel", "isCell", "[Z", true)
  | 3 => ("FloodCellsModel", "area", "[I", true)
  | 4 => ("FloodCellsModel", "floor", "[I", true)
  | 5 => ("FloodCellsModel", "passes", "[I", true)
  | 6 => ("FloodCellsModel", "people", "[I", true)
  | 7 => ("FloodCellsModel", "worth", "[I", true)
  | 8 => ("FloodCellsModel", "flows", "[I", true)
  | 9 => ("FloodCellsModel", "dikes", "I", false)
  | 10 => ("FloodCellsModel", "sideA", "[I", true)
  | 11 => ("FloodCellsModel", "sideB", "[I", true)
  | 12 => ("FloodCellsModel", "crestOf", "[I", true)
  | 13 => ("FloodCellsModel", "wide", "[I", true)
  | 14 => ("FloodCellsModel", "away", "[I", true)
  | 15 => ("FloodCellsModel", "breachAt", "[I", true)
  | 16 => ("FloodCellsModel", "sill", "[I", true)
  | 17 => ("FloodCellsModel", "coming", "[I", true)
  | 18 => ("FloodCellsModel", "pitted", "I", false)
  | 19 => ("FloodCellsModel", "walkers", "I", false)
  | 20 => ("FloodCellsModel", "walkDike", "[I", true)
  | 21 => ("FloodCellsModel", "walkSeep", "[I", true)
  | 22 => ("FloodCellsModel", "walkFrom", "[I", true)
  | 23 => ("FloodCellsModel", "roads", "I", false)
  | 24 => ("FloodCellsModel", "roadFrom", "[I", true)
  | 25 => ("FloodCellsModel", "roadTo", "[I", true)
  | 26 => ("FloodCellsModel", "roadBears", "[I", true)
  | 27 => ("FloodCellsModel", "roadLong", "[I", true)
  | 28 => ("FloodCellsModel", "water", "[I", true)
  | 29 => ("FloodCellsModel", "bags", "[I", true)
  | 30 => ("FloodCellsModel", "washed", "[I", true)
  | 31 => ("FloodCellsModel", "out", "[J", true)
  | 32 => ("FloodCellsModel", "came", "[J", true)
  | 33 => ("FloodCellsModel", "ahead", "[I", true)
  | 34 => ("FloodCellsModel", "goesOut", "[I", true)
  | 35 => ("FloodCellsModel", "waits", "[I", true)
  | 36 => ("FloodCellsModel", "sets", "[I", true)
  | 37 => ("FloodCellsModel", "isSeen", "[Z", true)
  | 38 => ("FloodCellsModel", "queue", "[I", true)
  | 39 => ("FloodCellsModel", "byKind", "[I", true)
  | 40 => ("FloodCellsModel", "byRoad", "[I", true)
  | 41 => ("FloodCellsModel", "queued", "I", false)
  | 42 => ("FloodCellsModel", "lastPlace", "I", false)
  | _ => ("FloodCellsModel", "lastRoad", "I", false)
def tyX8 : Nat → FieldType := fun k => match k with
  | 0 => .int
  | 1 => .int
  | 2 => .array .boolean
  | 3 => .array .int
  | 4 => .array .int
  | 5 => .array .int
  | 6 => .array .int
  | 7 => .array .int
  | 8 => .array .int
  | 9 => .int
  | 10 => .array .int
  | 11 => .array .int
  | 12 => .array .int
  | 13 => .array .int
  | 14 => .array .int
  | 15 => .array .int
  | 16 => .array .int
  | 17 => .array .int
  | 18 => .int
  | 19 => .int
  | 20 => .array .int
  | 21 => .array .int
  | 22 => .array .int
  | 23 => .int
  | 24 => .array .int
  | 25 => .array .int
  | 26 => .array .int
  | 27 => .array .int
  | 28 => .array .int
  | 29 => .array .int
  | 30 => .array .int
  | 31 => .array .long
  | 32 => .array .long
  | 33 => .array .int
  | 34 => .array .int
  | 35 => .array .int
  | 36 => .array .int
  | 37 => .array .boolean
  | 38 => .array .int
  | 39 => .array .int
  | 40 => .array .int
  | 41 => .int
  | 42 => .int
  | _ => .int
theorem nmX8 : ∀ a, a < 44 → ∀ b, b < 44 → a ≠ b → (TX8 a).2.1 ≠ (TX8 b).2.1 := by decide +kernel
theorem tyX8_ok : ∀ k, k < 44 → parseFieldDescriptor (TX8 k).2.2.1 = some (tyX8 k) := by decide +kernel
def RL : String := "FloodCellsLaw"
def RJ7 : String := "java/util/Arrays"
abbrev cL_law : ByteArray := code
def yL_law : MethodName := ⟨RL, "law", "([I)Z"⟩
abbrev cX0_has : ByteArray := prog_2_method_2_code
def yX0_has : MethodName := ⟨RX0, "has", "(I)Z"⟩
abbrev cX0_hasCell : ByteArray := prog_2_method_3_code
def yX0_hasCell : MethodName := ⟨RX0, "hasCell", "(I)Z"⟩
abbrev cX0_canTake : ByteArray := prog_2_method_4_code
def yX0_canTake : MethodName := ⟨RX0, "canTake", "(II)Z"⟩
abbrev cX0_addStretch : ByteArray := prog_2_method_5_code
def yX0_addStretch : MethodName := ⟨RX0, "addStretch", "(III)I"⟩
abbrev cX0_addCell : ByteArray := prog_2_method_6_code
def yX0_addCell : MethodName := ⟨RX0, "addCell", "(IIII)I"⟩
abbrev cX0_add : ByteArray := prog_2_method_7_code
def yX0_add : MethodName := ⟨RX0, "add", "(II)I"⟩
abbrev cX1_has : ByteArray := prog_3_method_2_code
def yX1_has : MethodName := ⟨RX1, "has", "(I)Z"⟩
abbrev cX1_add : ByteArray := prog_3_method_3_code
def yX1_add : MethodName := ⟨RX1, "add", "(IIIII)I"⟩
abbrev cX1_isBreached : ByteArray := prog_3_method_4_code
def yX1_isBreached : MethodName := ⟨RX1, "isBreached", "(II)Z"⟩
abbrev cX1_bringBags : ByteArray := prog_3_method_5_code
def yX1_bringBags : MethodName := ⟨RX1, "bringBags", "(III)V"⟩
abbrev cX1_bagsUnderWay : ByteArray := prog_3_method_6_code
def yX1_bagsUnderWay : MethodName := ⟨RX1, "bagsUnderWay", "(II)I"⟩
abbrev cX2_forget : ByteArray := prog_4_method_2_code
def yX2_forget : MethodName := ⟨RX2, "forget", "()V"⟩
abbrev cX2_begin : ByteArray := prog_4_method_3_code
def yX2_begin : MethodName := ⟨RX2, "begin", "(LFloodCells$Bodies;LFloodCells$Forecast;I)V"⟩
abbrev cX2_runTo : ByteArray := prog_4_method_4_code
def yX2_runTo : MethodName := ⟨RX2, "runTo", "(LFloodCells$Roads;I)V"⟩
abbrev cX2_firstHourOfMost : ByteArray := prog_4_method_5_code
def yX2_firstHourOfMost : MethodName := ⟨RX2, "firstHourOfMost", "()I"⟩
abbrev cX2_fillRoadOut : ByteArray := prog_4_method_6_code
def yX2_fillRoadOut : MethodName := ⟨RX2, "fillRoadOut", "(LFloodCells$Roads;II)V"⟩
abbrev cX2_findPeople : ByteArray := prog_4_method_7_code
def yX2_findPeople : MethodName := ⟨RX2, "findPeople", "(LFloodCells$Roads;II)I"⟩
abbrev cX2_beginSearch : ByteArray := prog_4_method_8_code
def yX2_beginSearch : MethodName := ⟨RX2, "beginSearch", "()V"⟩
abbrev cX2_meet : ByteArray := prog_4_method_9_code
def yX2_meet : MethodName := ⟨RX2, "meet", "(II)V"⟩
abbrev cX2_meetThoseBehind : ByteArray := prog_4_method_10_code
def yX2_meetThoseBehind : MethodName := ⟨RX2, "meetThoseBehind", "(LFloodCells$Roads;I)V"⟩
abbrev cX2_endOf : ByteArray := prog_4_method_11_code
def yX2_endOf : MethodName := ⟨RX2, "endOf", "(LFloodCells$Roads;II)I"⟩
abbrev cX2_roomFrom : ByteArray := prog_4_method_12_code
def yX2_roomFrom : MethodName := ⟨RX2, "roomFrom", "(LFloodCells$Roads;I)I"⟩
abbrev cX2_moveFrom : ByteArray := prog_4_method_13_code
def yX2_moveFrom : MethodName := ⟨RX2, "moveFrom", "(LFloodCells$Roads;II)V"⟩
abbrev cX2_placeAhead : ByteArray := prog_4_method_14_code
def yX2_placeAhead : MethodName := ⟨RX2, "placeAhead", "(LFloodCells$Roads;I)I"⟩
abbrev cX2_roomOfStep : ByteArray := prog_4_method_15_code
def yX2_roomOfStep : MethodName := ⟨RX2, "roomOfStep", "(LFloodCells$Roads;I)I"⟩
abbrev cX2_moveStep : ByteArray := prog_4_method_16_code
def yX2_moveStep : MethodName := ⟨RX2, "moveStep", "(LFloodCells$Roads;II)V"⟩
abbrev cX2_findBars : ByteArray := prog_4_method_17_code
def yX2_findBars : MethodName := ⟨RX2, "findBars", "(LFloodCells$Roads;I)V"⟩
abbrev cX2_meetThoseAhead : ByteArray := prog_4_method_18_code
def yX2_meetThoseAhead : MethodName := ⟨RX2, "meetThoseAhead", "(LFloodCells$Roads;II)V"⟩
abbrev cX2_listBars : ByteArray := prog_4_method_19_code
def yX2_listBars : MethodName := ⟨RX2, "listBars", "(LFloodCells$Roads;I)V"⟩
abbrev cX2_isBar : ByteArray := prog_4_method_20_code
def yX2_isBar : MethodName := ⟨RX2, "isBar", "(LFloodCells$Roads;II)Z"⟩
abbrev cX2_barRoad : ByteArray := prog_4_method_21_code
def yX2_barRoad : MethodName := ⟨RX2, "barRoad", "(I)I"⟩
abbrev cX2_barHour : ByteArray := prog_4_method_22_code
def yX2_barHour : MethodName := ⟨RX2, "barHour", "(I)I"⟩
abbrev cX3_copyFrom : ByteArray := prog_5_method_2_code
def yX3_copyFrom : MethodName := ⟨RX3, "copyFrom", "(LFloodCells$Flood;)V"⟩
abbrev cX3_level : ByteArray := prog_5_method_3_code
def yX3_level : MethodName := ⟨RX3, "level", "(LFloodCells$Bodies;I)I"⟩
abbrev cX3_isWet : ByteArray := prog_5_method_4_code
def yX3_isWet : MethodName := ⟨RX3, "isWet", "(LFloodCells$Bodies;I)Z"⟩
abbrev cX3_top : ByteArray := prog_5_method_5_code
def yX3_top : MethodName := ⟨RX3, "top", "(LFloodCells$Dikes;I)I"⟩
abbrev cX3_bagsOnDikes : ByteArray := prog_5_method_6_code
def yX3_bagsOnDikes : MethodName := ⟨RX3, "bagsOnDikes", "()I"⟩
abbrev cX3_passHour : ByteArray := prog_5_method_7_code
def yX3_passHour : MethodName := ⟨RX3, "passHour", "(LFloodCells$Bodies;LFloodCells$Dikes;)V"⟩
abbrev cX3_takeInflow : ByteArray := prog_5_method_8_code
def yX3_takeInflow : MethodName := ⟨RX3, "takeInflow", "(LFloodCells$Bodies;)V"⟩
abbrev cX3_passDown : ByteArray := prog_5_method_9_code
def yX3_passDown : MethodName := ⟨RX3, "passDown", "(LFloodCells$Bodies;)V"⟩
abbrev cX3_layBags : ByteArray := prog_5_method_10_code
def yX3_layBags : MethodName := ⟨RX3, "layBags", "(LFloodCells$Dikes;I)V"⟩
abbrev cX3_goOver : ByteArray := prog_5_method_11_code
def yX3_goOver : MethodName := ⟨RX3, "goOver", "(LFloodCells$Bodies;LFloodCells$Dikes;I)V"⟩
abbrev cX4_forget : ByteArray := prog_6_method_2_code
def yX4_forget : MethodName := ⟨RX4, "forget", "()V"⟩
abbrev cX4_foresee : ByteArray := prog_6_method_3_code
def yX4_foresee : MethodName := ⟨RX4, "foresee", "(LFloodCells$Bodies;LFloodCells$Dikes;LFloodCells$Flood;)V"⟩
abbrev cX4_waterAt : ByteArray := prog_6_method_4_code
def yX4_waterAt : MethodName := ⟨RX4, "waterAt", "(II)I"⟩
abbrev cX4_isWet : ByteArray := prog_6_method_5_code
def yX4_isWet : MethodName := ⟨RX4, "isWet", "(LFloodCells$Bodies;II)Z"⟩
abbrev cX4_firstWet : ByteArray := prog_6_method_6_code
def yX4_firstWet : MethodName := ⟨RX4, "firstWet", "(LFloodCells$Bodies;II)I"⟩
abbrev cX4_lossFrom : ByteArray := prog_6_method_7_code
def yX4_lossFrom : MethodName := ⟨RX4, "lossFrom", "(LFloodCells$Bodies;LFloodCells$Dikes;LFloodCells$Flood;)I"⟩
abbrev cX5_add : ByteArray := prog_7_method_2_code
def yX5_add : MethodName := ⟨RX5, "add", "(III)Z"⟩
abbrev cX5_latest : ByteArray := prog_7_method_3_code
def yX5_latest : MethodName := ⟨RX5, "latest", "(II)I"⟩
abbrev cX6_add : ByteArray := prog_8_method_2_code
def yX6_add : MethodName := ⟨RX6, "add", "(IIII)I"⟩
abbrev cX7_stretch : ByteArray := prog_1_method_2_code
def yX7_stretch : MethodName := ⟨RX7, "stretch", "(III)I"⟩
abbrev cX7_cell : ByteArray := prog_1_method_3_code
def yX7_cell : MethodName := ⟨RX7, "cell", "(IIII)I"⟩
abbrev cX7_dike : ByteArray := prog_1_method_4_code
def yX7_dike : MethodName := ⟨RX7, "dike", "(IIIII)I"⟩
abbrev cX7_breach : ByteArray := prog_1_method_5_code
def yX7_breach : MethodName := ⟨RX7, "breach", "(III)Z"⟩
abbrev cX7_flows : ByteArray := prog_1_method_6_code
def yX7_flows : MethodName := ⟨RX7, "flows", "(II)Z"⟩
abbrev cX7_pit : ByteArray := prog_1_method_7_code
def yX7_pit : MethodName := ⟨RX7, "pit", "(I)I"⟩
abbrev cX7_send : ByteArray := prog_1_method_8_code
def yX7_send : MethodName := ⟨RX7, "send", "(II)I"⟩
abbrev cX7_tell : ByteArray := prog_1_method_9_code
def yX7_tell : MethodName := ⟨RX7, "tell", "(III)Z"⟩
abbrev cX7_known : ByteArray := prog_1_method_10_code
def yX7_known : MethodName := ⟨RX7, "known", "(I)I"⟩
abbrev cX7_worst : ByteArray := prog_1_method_11_code
def yX7_worst : MethodName := ⟨RX7, "worst", "()I"⟩
abbrev cX7_road : ByteArray := prog_1_method_12_code
def yX7_road : MethodName := ⟨RX7, "road", "(IIII)I"⟩
abbrev cX7_go : ByteArray := prog_1_method_13_code
def yX7_go : MethodName := ⟨RX7, "go", "(I)I"⟩
abbrev cX7_people : ByteArray := prog_1_method_14_code
def yX7_people : MethodName := ⟨RX7, "people", "(II)Z"⟩
abbrev cX7_told : ByteArray := prog_1_method_15_code
def yX7_told : MethodName := ⟨RX7, "told", "(II)I"⟩
abbrev cX7_crest : ByteArray := prog_1_method_16_code
def yX7_crest : MethodName := ⟨RX7, "crest", "(II)I"⟩
abbrev cX7_wet : ByteArray := prog_1_method_17_code
def yX7_wet : MethodName := ⟨RX7, "wet", "(I)I"⟩
abbrev cX7_foretold : ByteArray := prog_1_method_18_code
def yX7_foretold : MethodName := ⟨RX7, "foretold", "(II)I"⟩
abbrev cX7_loss : ByteArray := prog_1_method_19_code
def yX7_loss : MethodName := ⟨RX7, "loss", "()I"⟩
abbrev cX7_best : ByteArray := prog_1_method_20_code
def yX7_best : MethodName := ⟨RX7, "best", "(I)I"⟩
abbrev cX7_leave : ByteArray := prog_1_method_21_code
def yX7_leave : MethodName := ⟨RX7, "leave", "(I)I"⟩
abbrev cX7_soonest : ByteArray := prog_1_method_22_code
def yX7_soonest : MethodName := ⟨RX7, "soonest", "()I"⟩
abbrev cX7_bars : ByteArray := prog_1_method_23_code
def yX7_bars : MethodName := ⟨RX7, "bars", "(I)I"⟩
abbrev cX7_bar : ByteArray := prog_1_method_24_code
def yX7_bar : MethodName := ⟨RX7, "bar", "(III)I"⟩
abbrev cX7_count : ByteArray := prog_1_method_25_code
def yX7_count : MethodName := ⟨RX7, "count", "(I)I"⟩
abbrev cX7_within : ByteArray := prog_1_method_26_code
def yX7_within : MethodName := ⟨RX7, "within", "(III)Z"⟩
abbrev cX7_hourToCome : ByteArray := prog_1_method_27_code
def yX7_hourToCome : MethodName := ⟨RX7, "hourToCome", "(I)Z"⟩
abbrev cX7_brokeBefore : ByteArray := prog_1_method_28_code
def yX7_brokeBefore : MethodName := ⟨RX7, "brokeBefore", "(I)Z"⟩
abbrev cX7_canSend : ByteArray := prog_1_method_29_code
def yX7_canSend : MethodName := ⟨RX7, "canSend", "(II)Z"⟩
abbrev cX7_allBagsUnderWay : ByteArray := prog_1_method_30_code
def yX7_allBagsUnderWay : MethodName := ⟨RX7, "allBagsUnderWay", "()I"⟩
abbrev cX7_lossWithBags : ByteArray := prog_1_method_31_code
def yX7_lossWithBags : MethodName := ⟨RX7, "lossWithBags", "(II)I"⟩
abbrev cX7_waterChanges : ByteArray := prog_1_method_32_code
def yX7_waterChanges : MethodName := ⟨RX7, "waterChanges", "()V"⟩
abbrev cX7_readyFlight : ByteArray := prog_1_method_33_code
def yX7_readyFlight : MethodName := ⟨RX7, "readyFlight", "()V"⟩
abbrev cX7_readyBars : ByteArray := prog_1_method_34_code
def yX7_readyBars : MethodName := ⟨RX7, "readyBars", "(I)V"⟩
abbrev cX8_in : ByteArray := prog_10_method_2_code
def yX8_in : MethodName := ⟨RX8, "in", "(III)Z"⟩
abbrev cX8_isBody : ByteArray := prog_10_method_3_code
def yX8_isBody : MethodName := ⟨RX8, "isBody", "(I)Z"⟩
abbrev cX8_isCell : ByteArray := prog_10_method_4_code
def yX8_isCell : MethodName := ⟨RX8, "isCell", "(I)Z"⟩
abbrev cX8_isDike : ByteArray := prog_10_method_5_code
def yX8_isDike : MethodName := ⟨RX8, "isDike", "(I)Z"⟩
abbrev cX8_body : ByteArray := prog_10_method_6_code
def yX8_body : MethodName := ⟨RX8, "body", "(II)I"⟩
abbrev cX8_stretch : ByteArray := prog_10_method_7_code
def yX8_stretch : MethodName := ⟨RX8, "stretch", "(III)I"⟩
abbrev cX8_cell : ByteArray := prog_10_method_8_code
def yX8_cell : MethodName := ⟨RX8, "cell", "(IIII)I"⟩
abbrev cX8_dike : ByteArray := prog_10_method_9_code
def yX8_dike : MethodName := ⟨RX8, "dike", "(IIIII)I"⟩
abbrev cX8_isBreached : ByteArray := prog_10_method_10_code
def yX8_isBreached : MethodName := ⟨RX8, "isBreached", "(II)Z"⟩
abbrev cX8_breach : ByteArray := prog_10_method_11_code
def yX8_breach : MethodName := ⟨RX8, "breach", "(III)Z"⟩
abbrev cX8_flows : ByteArray := prog_10_method_12_code
def yX8_flows : MethodName := ⟨RX8, "flows", "(II)Z"⟩
abbrev cX8_pit : ByteArray := prog_10_method_13_code
def yX8_pit : MethodName := ⟨RX8, "pit", "(I)I"⟩
abbrev cX8_canSend : ByteArray := prog_10_method_14_code
def yX8_canSend : MethodName := ⟨RX8, "canSend", "(II)Z"⟩
abbrev cX8_send : ByteArray := prog_10_method_15_code
def yX8_send : MethodName := ⟨RX8, "send", "(II)I"⟩
abbrev cX8_tell : ByteArray := prog_10_method_16_code
def yX8_tell : MethodName := ⟨RX8, "tell", "(III)Z"⟩
abbrev cX8_known : ByteArray := prog_10_method_17_code
def yX8_known : MethodName := ⟨RX8, "known", "(I)I"⟩
abbrev cX8_worst : ByteArray := prog_10_method_18_code
def yX8_worst : MethodName := ⟨RX8, "worst", "()I"⟩
abbrev cX8_road : ByteArray := prog_10_method_19_code
def yX8_road : MethodName := ⟨RX8, "road", "(IIII)I"⟩
abbrev cX8_level : ByteArray := prog_10_method_20_code
def yX8_level : MethodName := ⟨RX8, "level", "(II)I"⟩
abbrev cX8_top : ByteArray := prog_10_method_21_code
def yX8_top : MethodName := ⟨RX8, "top", "(III)I"⟩
abbrev cX8_hour : ByteArray := prog_10_method_22_code
def yX8_hour : MethodName := ⟨RX8, "hour", "(II)V"⟩
abbrev cX8_over : ByteArray := prog_10_method_23_code
def yX8_over : MethodName := ⟨RX8, "over", "(III)V"⟩
abbrev cX8_go : ByteArray := prog_10_method_24_code
def yX8_go : MethodName := ⟨RX8, "go", "(I)I"⟩
abbrev cX8_foretells : ByteArray := prog_10_method_25_code
def yX8_foretells : MethodName := ⟨RX8, "foretells", "()V"⟩
abbrev cX8_isWet : ByteArray := prog_10_method_26_code
def yX8_isWet : MethodName := ⟨RX8, "isWet", "(II)Z"⟩
abbrev cX8_people : ByteArray := prog_10_method_27_code
def yX8_people : MethodName := ⟨RX8, "people", "(II)Z"⟩
abbrev cX8_told : ByteArray := prog_10_method_28_code
def yX8_told : MethodName := ⟨RX8, "told", "(II)I"⟩
abbrev cX8_underWay : ByteArray := prog_10_method_29_code
def yX8_underWay : MethodName := ⟨RX8, "underWay", "(I)I"⟩
abbrev cX8_crest : ByteArray := prog_10_method_30_code
def yX8_crest : MethodName := ⟨RX8, "crest", "(II)I"⟩
abbrev cX8_wet : ByteArray := prog_10_method_31_code
def yX8_wet : MethodName := ⟨RX8, "wet", "(I)I"⟩
abbrev cX8_foretold : ByteArray := prog_10_method_32_code
def yX8_foretold : MethodName := ⟨RX8, "foretold", "(II)I"⟩
abbrev cX8_loss : ByteArray := prog_10_method_33_code
def yX8_loss : MethodName := ⟨RX8, "loss", "()I"⟩
abbrev cX8_best : ByteArray := prog_10_method_34_code
def yX8_best : MethodName := ⟨RX8, "best", "(I)I"⟩
abbrev cX8_isPlace : ByteArray := prog_10_method_35_code
def yX8_isPlace : MethodName := ⟨RX8, "isPlace", "(III)Z"⟩
abbrev cX8_sees : ByteArray := prog_10_method_36_code
def yX8_sees : MethodName := ⟨RX8, "sees", "(IIII)V"⟩
abbrev cX8_seeks : ByteArray := prog_10_method_37_code
def yX8_seeks : MethodName := ⟨RX8, "seeks", "(I)Z"⟩
abbrev cX8_spreads : ByteArray := prog_10_method_38_code
def yX8_spreads : MethodName := ⟨RX8, "spreads", "(III)V"⟩
abbrev cX8_placeAhead : ByteArray := prog_10_method_39_code
def yX8_placeAhead : MethodName := ⟨RX8, "placeAhead", "(I)I"⟩
abbrev cX8_more : ByteArray := prog_10_method_40_code
def yX8_more : MethodName := ⟨RX8, "more", "(I)I"⟩
abbrev cX8_goes : ByteArray := prog_10_method_41_code
def yX8_goes : MethodName := ⟨RX8, "goes", "(II)V"⟩
abbrev cX8_leads : ByteArray := prog_10_method_42_code
def yX8_leads : MethodName := ⟨RX8, "leads", "(I)I"⟩
abbrev cX8_leave : ByteArray := prog_10_method_43_code
def yX8_leave : MethodName := ⟨RX8, "leave", "(I)I"⟩
abbrev cX8_soonest : ByteArray := prog_10_method_44_code
def yX8_soonest : MethodName := ⟨RX8, "soonest", "()I"⟩
abbrev cX8_isBar : ByteArray := prog_10_method_45_code
def yX8_isBar : MethodName := ⟨RX8, "isBar", "(III)Z"⟩
abbrev cX8_bars : ByteArray := prog_10_method_46_code
def yX8_bars : MethodName := ⟨RX8, "bars", "(I)I"⟩
abbrev cX8_bar : ByteArray := prog_10_method_47_code
def yX8_bar : MethodName := ⟨RX8, "bar", "(III)I"⟩
abbrev cX8_count : ByteArray := prog_10_method_48_code
def yX8_count : MethodName := ⟨RX8, "count", "(I)I"⟩
abbrev cJ7_fill_53178 : ByteArray := prog_13_method_103_code
def yJ7_fill_53178 : MethodName := ⟨RJ7, "fill", "([II)V"⟩
abbrev cls9 : List vw_C := [(RX0, TX0, 10), (RX1, TX1, 9), (RX2, TX2, 18), (RX3, TX3, 6), (RX4, TX4, 3), (RX5, TX5, 4), (RX6, TX6, 9), (RX7, TX7, 8), (RX8, TX8, 44)]
def clR (c : Nat) : String := nt "" [RX0, RX1, RX2, RX3, RX4, RX5, RX6, RX7, RX8, RL, RJ7] c
def clT (c : Nat) : u_T := nt TX0 [TX0, TX1, TX2, TX3, TX4, TX5, TX6, TX7, TX8] c
def clY (c : Nat) : Nat → FieldType := nt tyX0 [tyX0, tyX1, tyX2, tyX3, tyX4, tyX5, tyX6, tyX7, tyX8] c
def clN (c : Nat) : Nat := nt 0 [10, 9, 18, 6, 3, 4, 9, 8, 44] c
def nam (y : Nat) : MethodName := nt yL_law [yL_law, yX0_has, yX0_hasCell, yX0_canTake, yX0_addStretch, yX0_addCell, yX0_add, yX1_has, yX1_add, yX1_isBreached, yX1_bringBags, yX1_bagsUnderWay, yX2_forget, yX2_begin, yX2_runTo, yX2_firstHourOfMost, yX2_fillRoadOut, yX2_findPeople, yX2_beginSearch, yX2_meet, yX2_meetThoseBehind, yX2_endOf, yX2_roomFrom, yX2_moveFrom, yX2_placeAhead, yX2_roomOfStep, yX2_moveStep, yX2_findBars, yX2_meetThoseAhead, yX2_listBars, yX2_isBar, yX2_barRoad, yX2_barHour, yX3_copyFrom, yX3_level, yX3_isWet, yX3_top, yX3_bagsOnDikes, yX3_passHour, yX3_takeInflow, yX3_passDown, yX3_layBags, yX3_goOver, yX4_forget, yX4_foresee, yX4_waterAt, yX4_isWet, yX4_firstWet, yX4_lossFrom, yX5_add, yX5_latest, yX6_add, yX7_stretch, yX7_cell, yX7_dike, yX7_breach, yX7_flows, yX7_pit, yX7_send, yX7_tell, yX7_known, yX7_worst, yX7_road, yX7_go, yX7_people, yX7_told, yX7_crest, yX7_wet, yX7_foretold, yX7_loss, yX7_best, yX7_leave, yX7_soonest, yX7_bars, yX7_bar, yX7_count, yX7_within, yX7_hourToCome, yX7_brokeBefore, yX7_canSend, yX7_allBagsUnderWay, yX7_lossWithBags, yX7_waterChanges, yX7_readyFlight, yX7_readyBars, yX8_in, yX8_isBody, yX8_isCell, yX8_isDike, yX8_body, yX8_stretch, yX8_cell, yX8_dike, yX8_isBreached, yX8_breach, yX8_flows, yX8_pit, yX8_canSend, yX8_send, yX8_tell, yX8_known, yX8_worst, yX8_road, yX8_level, yX8_top, yX8_hour, yX8_over, yX8_go, yX8_foretells, yX8_isWet, yX8_people, yX8_told, yX8_underWay, yX8_crest, yX8_wet, yX8_foretold, yX8_loss, yX8_best, yX8_isPlace, yX8_sees, yX8_seeks, yX8_spreads, yX8_placeAhead, yX8_more, yX8_goes, yX8_leads, yX8_leave, yX8_soonest, yX8_isBar, yX8_bars, yX8_bar, yX8_count, yJ7_fill_53178] y
def cod (y : Nat) : ByteArray := nt code [cL_law, cX0_has, cX0_hasCell, cX0_canTake, cX0_addStretch, cX0_addCell, cX0_add, cX1_has, cX1_add, cX1_isBreached, cX1_bringBags, cX1_bagsUnderWay, cX2_forget, cX2_begin, cX2_runTo, cX2_firstHourOfMost, cX2_fillRoadOut, cX2_findPeople, cX2_beginSearch, cX2_meet, cX2_meetThoseBehind, cX2_endOf, cX2_roomFrom, cX2_moveFrom, cX2_placeAhead, cX2_roomOfStep, cX2_moveStep, cX2_findBars, cX2_meetThoseAhead, cX2_listBars, cX2_isBar, cX2_barRoad, cX2_barHour, cX3_copyFrom, cX3_level, cX3_isWet, cX3_top, cX3_bagsOnDikes, cX3_passHour, cX3_takeInflow, cX3_passDown, cX3_layBags, cX3_goOver, cX4_forget, cX4_foresee, cX4_waterAt, cX4_isWet, cX4_firstWet, cX4_lossFrom, cX5_add, cX5_latest, cX6_add, cX7_stretch, cX7_cell, cX7_dike, cX7_breach, cX7_flows, cX7_pit, cX7_send, cX7_tell, cX7_known, cX7_worst, cX7_road, cX7_go, cX7_people, cX7_told, cX7_crest, cX7_wet, cX7_foretold, cX7_loss, cX7_best, cX7_leave, cX7_soonest, cX7_bars, cX7_bar, cX7_count, cX7_within, cX7_hourToCome, cX7_brokeBefore, cX7_canSend, cX7_allBagsUnderWay, cX7_lossWithBags, cX7_waterChanges, cX7_readyFlight, cX7_readyBars, cX8_in, cX8_isBody, cX8_isCell, cX8_isDike, cX8_body, cX8_stretch, cX8_cell, cX8_dike, cX8_isBreached, cX8_breach, cX8_flows, cX8_pit, cX8_canSend, cX8_send, cX8_tell, cX8_known, cX8_worst, cX8_road, cX8_level, cX8_top, cX8_hour, cX8_over, cX8_go, cX8_foretells, cX8_isWet, cX8_people, cX8_told, cX8_underWay, cX8_crest, cX8_wet, cX8_foretold, cX8_loss, cX8_best, cX8_isPlace, cX8_sees, cX8_seeks, cX8_spreads, cX8_placeAhead, cX8_more, cX8_goes, cX8_leads, cX8_leave, cX8_soonest, cX8_isBar, cX8_bars, cX8_bar, cX8_count, cJ7_fill_53178] y
def rty (y : Nat) : Option FieldType := nt none [some .boolean, some .boolean, some .boolean, some .boolean, some .int, some .int, some .int, some .boolean, some .int, some .boolean, none, some .int, none, none, none, some .int, none, some .int, none, none, none, some .int, some .int, none, some .int, some .int, none, none, none, none, some .boolean, some .int, some .int, none, some .int, some .boolean, some .int, some .int, none, none, none, none, none, none, none, some .int, some .boolean, some .int, some .int, some .boolean, some .int, some .int, some .int, some .int, some .int, some .boolean, some .boolean, some .int, some .int, some .boolean, some .int, some .int, some .int, some .int, some .boolean, some .int, some .int, some .int, some .int, some .int, some .int, some .int, some .int, some .int, some .int, some .int, some .boolean, some .boolean, some .boolean, some .boolean, some .int, some .int, none, none, none, some .boolean, some .boolean, some .boolean, some .boolean, some .int, some .int, some .int, some .int, some .boolean, some .boolean, some .boolean, some .int, some .boolean, some .int, some .boolean, some .int, some .int, some .int, some .int, some .int, none, none, some .int, none, some .boolean, some .boolean, some .int, some .int, some .int, some .int, some .int, some .int, some .int, some .boolean, none, some .boolean, none, some .int, some .int, none, some .int, some .int, some .int, some .boolean, some .int, some .int, some .int, none] y
def nar (y : Nat) : Nat := nt 0 [1, 2, 2, 3, 4, 5, 3, 2, 6, 3, 4, 3, 1, 4, 3, 1, 4, 4, 1, 3, 3, 4, 3, 4, 3, 3, 4, 3, 4, 3, 4, 2, 2, 2, 3, 3, 3, 1, 3, 2, 2, 3, 4, 1, 4, 3, 4, 4, 4, 4, 3, 5, 4, 5, 6, 4, 3, 2, 3, 4, 2, 1, 5, 2, 3, 3, 3, 2, 3, 1, 2, 2, 1, 2, 4, 2, 3, 2, 2, 3, 1, 3, 1, 1, 2, 3, 2, 2, 2, 3, 4, 5, 6, 3, 4, 3, 2, 3, 3, 4, 2, 1, 5, 3, 4, 3, 4, 2, 1, 3, 3, 3, 2, 3, 2, 3, 1, 2, 4, 5, 2, 4, 2, 2, 3, 2, 2, 1, 4, 2, 4, 2, 2] y
def bpcl : List (List Nat) := [[16, 18, 144, 187, 240, 303, 346, 379, 402, 435, 478, 501, 514, 567, 590, 623, 656, 689, 712, 745, 758, 781, 804, 817, 840, 883, 906, 912], [0, 16, 17], [0, 21, 22], [0, 35, 36], [0], [0], [0], [0, 16, 17], [0], [0, 24, 25], [0, 25], [0, 5, 33], [0], [0, 42, 52, 90, 91, 98, 104], [0, 7, 21, 57, 63, 84], [0, 15, 20, 38, 44], [0, 9, 33, 75, 125], [0, 13, 77, 90, 93, 121], [0], [0, 31, 32, 51, 52], [0, 36, 39, 109, 115, 118, 208, 214, 232], [0], [0, 16, 57], [0, 6, 47], [0, 16, 26, 58, 67, 68], [0, 15, 30, 69], [0, 32, 54, 83, 115], [0, 6, 35, 41, 43, 88], [0, 27, 57, 60, 116, 117, 164, 170, 173, 259, 265], [0, 10, 18, 77, 83, 89], [0, 25, 37, 71, 72], [0], [0], [0], [0, 21, 36], [0, 28, 29], [0, 21, 37], [0, 4, 25], [0, 10, 22, 42, 44, 65], [0, 42], [0, 9, 76, 94, 100], [0, 57], [0, 69, 163], [0], [0, 8, 22, 66], [0], [0, 19, 20], [0, 3, 24, 30], [0, 17, 27, 58, 64, 79, 85, 120], [0, 11], [0, 7, 38, 44], [0, 100], [0, 22, 24], [0, 34, 36], [0, 39, 41, 75, 77], [0, 36, 38, 48], [0, 18, 20], [0, 22, 24], [0, 11], [0, 31, 33], [0, 29, 30], [0, 6, 45, 51], [0, 32, 34, 66, 68], [0, 12, 14, 52], [0, 22, 24], [0, 13, 72, 82, 95, 105, 115, 123, 132, 133, 149, 150, 151, 167, 168, 169, 188, 189, 190], [0, 13, 44, 57, 67, 83, 95, 96, 97], [0, 13], [0, 27, 29], [0], [0, 7, 49, 55, 61], [0, 18], [0], [0, 18], [0, 25, 27, 47, 49, 64, 72], [0, 56, 64, 72, 80, 88, 93, 98, 106, 114, 122, 130], [0, 14, 15], [0, 21, 22], [0], [0, 51, 52], [0, 4, 39], [0], [0], [0, 51], [0, 22, 40], [0, 14, 15], [0], [0, 21, 22], [0], [0], [0, 41, 43], [0, 53, 55], [0, 64, 66], [0, 24, 25], [0, 49, 51], [0, 23, 25], [0, 22, 24], [0, 41, 42], [0, 11], [0, 37, 39], [0, 4, 42, 48], [0, 4, 39, 41, 47], [0, 21, 55, 57], [0], [0, 18, 39], [0, 2, 25, 69, 80, 98, 165, 182, 186, 192, 195, 244, 278, 284, 287, 310], [0, 38, 40, 54, 56, 95, 97, 106, 149, 183], [0, 12, 14, 39, 68, 84], [0, 2, 29, 31, 58, 63, 71, 105, 117, 123], [0, 24, 25], [0, 19, 21], [0, 10, 64, 71, 78, 85, 92, 100, 106, 107, 120, 121, 122, 135, 136, 137, 160, 161, 162], [0, 4, 30], [0, 10, 40, 51, 58, 64, 82, 83, 84], [0, 10, 19, 36, 42], [0, 21, 23], [0, 8, 24, 54, 58, 59, 66, 80, 81, 89], [0, 7, 29, 91, 97, 103], [0, 34, 35], [0, 19], [0, 2, 22, 34, 81, 87, 89, 134, 146, 147], [0, 22, 56, 59, 146, 179, 242, 248], [0, 40, 44, 48, 70], [0, 44, 64, 67, 74, 103], [0, 44, 60, 75, 88, 116, 134], [0, 6, 25, 27, 47, 49, 69, 71, 119, 141, 155, 156, 171, 174, 207, 226, 232, 251, 252, 261, 268], [0, 21, 22], [0, 13, 21, 49, 54, 57], [0, 50, 52, 98, 102, 103], [0, 15, 28, 36, 61, 62, 70, 76], [0, 26, 28, 43, 52, 76, 90, 92, 93, 96, 102, 108], [0, 56, 61, 66, 71, 76, 81, 83, 105, 107, 109, 132, 134, 141, 149, 157], [0, 5, 20]]
def bpc (y t : Nat) : Nat := nt 0 (nt [] bpcl y) t
end
section
/-! words of the tables by their places -/
def flL : List ((Nat × Nat × Nat × Nat) × Nat) := [((0, 9, 0, 0), 76), ((0, 15, 0, 1), 79), ((0, 19, 0, 2), 83), ((0, 22, 0, 3), 86), ((0, 25, 0, 4), 89), ((0, 28, 0, 5), 92), ((0, 31, 0, 6), 95), ((0, 37, 0, 8), 100), ((0, 41, 0, 9), 104), ((1, 9, 1, 0), 135), ((1, 15, 1, 1), 137), ((1, 18, 1, 2), 139), ((1, 21, 1, 3), 142), ((1, 24, 1, 4), 144), ((1, 30, 1, 6), 149), ((1, 33, 1, 7), 151), ((1, 36, 1, 8), 153), ((2, 11, 2, 0), 295), ((2, 15, 2, 1), 297), ((2, 18, 2, 2), 298), ((2, 21, 2, 3), 299), ((2, 24, 2, 4), 300), ((2, 27, 2, 5), 301), ((2, 30, 2, 6), 302), ((2, 33, 2, 7), 303), ((2, 36, 2, 8), 304), ((2, 39, 2, 9), 305), ((2, 43, 2, 10), 306), ((2, 46, 2, 11), 307), ((2, 49, 2, 12), 308), ((2, 52, 2, 13), 309), ((2, 55, 2, 14), 310), ((2, 58, 2, 15), 312), ((2, 61, 2, 16), 314), ((2, 64, 2, 17), 316), ((2, 74, 0, 4), 90), ((2, 85, 0, 8), 101), ((2, 94, 6, 8), 198), ((2, 97, 6, 1), 184), ((2, 100, 6, 3), 188), ((2, 107, 6, 0), 182), ((2, 110, 6, 2), 186), ((2, 135, 6, 5), 192), ((2, 138, 6, 4), 190), ((2, 144, 6, 7), 196), ((2, 147, 6, 6), 194), ((3, 9, 3, 0), 244), ((3, 15, 3, 1), 247), ((3, 18, 3, 2), 249), ((3, 22, 3, 3), 252), ((3, 25, 3, 4), 254), ((3, 28, 3, 5), 256), ((3, 37, 0, 1), 80), ((3, 42, 0, 2), 84), ((3, 45, 0, 0), 77), ((3, 55, 1, 5), 147), ((3, 58, 1, 2), 140), ((3, 68, 1, 8), 155), ((3, 79, 0, 9), 105), ((3, 82, 0, 7), 99), ((3, 85, 0, 6), 96), ((3, 88, 0, 3), 87), ((3, 93, 1, 7), 152), ((3, 96, 1, 0), 136), ((3, 99, 1, 1), 138), ((3, 116, 1, 3), 143), ((4, 12, 4, 0), 279), ((4, 18, 4, 1), 280), ((4, 22, 4, 2), 281), ((4, 30, 3, 2), 250), ((4, 34, 3, 0), 245), ((4, 49, 0, 1), 81), ((4, 58, 0, 8), 102), ((4, 64, 0, 5), 93), ((5, 9, 5, 0), 225), ((5, 15, 5, 1), 226), ((5, 18, 5, 2), 227), ((5, 21, 5, 3), 228), ((6, 9, 6, 0), 181), ((6, 15, 6, 1), 183), ((6, 18, 6, 2), 185), ((6, 21, 6, 3), 187), ((6, 24, 6, 4), 189), ((6, 27, 6, 5), 191), ((6, 30, 6, 6), 193), ((6, 33, 6, 7), 195), ((6, 36, 6, 8), 197), ((7, 10, 7, 0), 355), ((7, 19, 7, 1), 356), ((7, 26, 7, 2), 357), ((7, 33, 7, 3), 358), ((7, 40, 7, 4), 359), ((7, 47, 7, 5), 360), ((7, 54, 7, 6), 361), ((7, 58, 7, 7), 362), ((7, 86, 1, 8), 154), ((7, 97, 1, 2), 141), ((7, 104, 1, 6), 150), ((7, 107, 1, 5), 148), ((7, 110, 0, 7), 98), ((7, 117, 3, 2), 251), ((7, 120, 1, 4), 145), ((7, 136, 6, 8), 199), ((7, 146, 0, 4), 91), ((7, 149, 0, 0), 78), ((7, 153, 3, 0), 246), ((7, 160, 0, 1), 82), ((7, 163, 0, 2), 85), ((7, 166, 0, 3), 88), ((7, 169, 0, 5), 94), ((7, 180, 3, 1), 248), ((7, 222, 2, 16), 315), ((7, 232, 0, 8), 103), ((7, 239, 3, 3), 253), ((7, 242, 3, 4), 255), ((7, 245, 3, 5), 257), ((7, 252, 2, 17), 317), ((7, 260, 2, 15), 313), ((7, 263, 2, 14), 311), ((8, 9, 8, 2), 753), ((8, 13, 8, 3), 754), ((8, 17, 8, 4), 755), ((8, 20, 8, 5), 756), ((8, 23, 8, 6), 757), ((8, 26, 8, 7), 758), ((8, 29, 8, 8), 759), ((8, 32, 8, 10), 761), ((8, 35, 8, 11), 762), ((8, 38, 8, 12), 763), ((8, 41, 8, 13), 764), ((8, 44, 8, 14), 765), ((8, 47, 8, 15), 766), ((8, 50, 8, 16), 767), ((8, 53, 8, 17), 768), ((8, 56, 8, 20), 771), ((8, 59, 8, 21), 772), ((8, 62, 8, 22), 773), ((8, 65, 8, 24), 775), ((8, 68, 8, 25), 776), ((8, 71, 8, 26), 777), ((8, 74, 8, 27), 778), ((8, 77, 8, 28), 779), ((8, 80, 8, 29), 780), ((8, 83, 8, 30), 781), ((8, 86, 8, 31), 782), ((8, 90, 8, 32), 783), ((8, 93, 8, 33), 784), ((8, 96, 8, 34), 785), ((8, 99, 8, 35), 786), ((8, 102, 8, 36), 787), ((8, 105, 8, 37), 788), ((8, 108, 8, 38), 789), ((8, 111, 8, 39), 790), ((8, 114, 8, 40), 791), ((8, 117, 8, 1), 752), ((8, 129, 8, 9), 760), ((8, 140, 8, 0), 751), ((8, 147, 8, 18), 769), ((8, 154, 8, 19), 770), ((8, 163, 8, 23), 774), ((8, 198, 8, 41), 792), ((8, 201, 8, 42), 793), ((8, 214, 8, 43), 794)]
def mlL : List ((Nat × Nat × Nat) × Nat) := [((0, 44, 1), 502), ((0, 52, 6), 396), ((2, 68, 132), 633), ((2, 88, 46), 637), ((2, 103, 16), 642), ((2, 113, 17), 646), ((2, 117, 22), 666), ((2, 121, 23), 681), ((2, 124, 18), 650), ((2, 127, 19), 654), ((2, 131, 20), 658), ((2, 141, 21), 662), ((2, 150, 25), 670), ((2, 159, 24), 677), ((2, 162, 26), 685), ((2, 165, 28), 709), ((2, 168, 29), 713), ((2, 171, 30), 717), ((3, 49, 9), 528), ((3, 61, 39), 515), ((3, 65, 40), 519), ((3, 71, 41), 524), ((3, 75, 42), 529), ((3, 102, 34), 533), ((3, 106, 36), 537), ((4, 26, 33), 578), ((4, 41, 38), 586), ((4, 45, 45), 595), ((4, 54, 46), 591), ((4, 61, 35), 612), ((7, 62, 3), 384), ((7, 66, 76), 391), ((7, 70, 4), 392), ((7, 74, 82), 400), ((7, 78, 5), 417), ((7, 82, 1), 425), ((7, 89, 8), 429), ((7, 93, 7), 437), ((7, 94, 77), 441), ((7, 101, 78), 445), ((7, 114, 79), 466), ((7, 123, 10), 470), ((7, 127, 49), 478), ((7, 129, 50), 486), ((7, 133, 2), 498), ((7, 137, 51), 503), ((7, 139, 12), 408), ((7, 142, 38), 511), ((7, 156, 34), 556), ((7, 172, 35), 557), ((7, 176, 36), 565), ((7, 183, 11), 566), ((7, 186, 44), 574), ((7, 190, 47), 587), ((7, 194, 45), 603), ((7, 197, 48), 608), ((7, 201, 81), 617), ((7, 204, 83), 625), ((7, 207, 14), 638), ((7, 214, 15), 693), ((7, 218, 84), 701), ((7, 225, 31), 725), ((7, 229, 32), 729), ((7, 233, 80), 737), ((7, 236, 37), 741), ((7, 248, 9), 449), ((7, 251, 43), 404), ((7, 256, 13), 629), ((7, 266, 27), 705), ((8, 121, 85), 889), ((8, 125, 86), 905), ((8, 132, 89), 892), ((8, 137, 88), 913), ((8, 143, 93), 917), ((8, 151, 97), 934), ((8, 157, 100), 950), ((8, 161, 87), 955), ((8, 168, 106), 968), ((8, 172, 103), 972), ((8, 175, 104), 976), ((8, 181, 105), 963), ((8, 185, 112), 993), ((8, 188, 108), 1001), ((8, 191, 109), 1005), ((8, 194, 116), 1021), ((8, 204, 118), 1034), ((8, 207, 119), 1038), ((8, 211, 121), 1042), ((8, 218, 120), 1030), ((8, 221, 123), 1046), ((8, 224, 122), 1051), ((8, 227, 124), 1055), ((8, 230, 125), 1026), ((8, 233, 128), 1067), ((9, 13, 52), 380), ((9, 17, 90), 885), ((9, 18, 53), 412), ((9, 22, 91), 896), ((9, 23, 54), 421), ((9, 27, 92), 901), ((9, 28, 55), 433), ((9, 32, 94), 909), ((9, 33, 56), 453), ((9, 37, 95), 921), ((9, 38, 57), 457), ((9, 42, 96), 925), ((9, 43, 58), 462), ((9, 47, 98), 930), ((9, 48, 59), 474), ((9, 51, 99), 938), ((9, 52, 60), 482), ((9, 55, 100), 942), ((9, 56, 61), 490), ((9, 60, 101), 946), ((9, 61, 62), 494), ((9, 64, 102), 951), ((9, 65, 63), 507), ((9, 68, 107), 959), ((9, 69, 64), 548), ((9, 72, 110), 981), ((9, 73, 65), 552), ((9, 76, 111), 985), ((9, 77, 66), 561), ((9, 80, 113), 989), ((9, 81, 67), 570), ((9, 84, 114), 997), ((9, 85, 68), 599), ((9, 88, 115), 1009), ((9, 89, 69), 604), ((9, 92, 116), 1013), ((9, 93, 70), 613), ((9, 96, 117), 1017), ((9, 97, 71), 621), ((9, 100, 126), 1022), ((9, 101, 72), 689), ((9, 104, 127), 1059), ((9, 105, 73), 697), ((9, 108, 129), 1063), ((9, 109, 74), 721), ((9, 112, 130), 1071), ((9, 113, 75), 733), ((9, 116, 131), 1075)]
def csL : List ((Nat × Nat × Int) × Nat) := [((7, 77, 1000000), 416), ((7, 113, 100000), 461), ((8, 136, 1000000), 900), ((8, 150, 100000), 929), ((8, 217, 1000000000), 1050)]
def clL : List ((Nat × Nat × Int) × Nat) := [((3, 91, 100), 523), ((3, 119, 2), 544), ((8, 166, 100), 967), ((8, 179, 2), 980)]
theorem flL_ok : (flL.all fun q => decide (lw_tbl[q.2]? = some (Cond.fieldLink (clR q.1.1) q.1.2.1 (clT q.1.2.2.1 q.1.2.2.2).1 (clT q.1.2.2.1 q.1.2.2.2).2.1 (clT q.1.2.2.1 q.1.2.2.2).2.2.1))) = true := by decide +kernel
theorem mlL_ok : (mlL.all fun q => decide (lw_tbl[q.2]? = some (Cond.methodLink (clR q.1.1) q.1.2.1 (nam q.1.2.2)))) = true := by decide +kernel
theorem csL_ok : (csL.all fun q => decide (lw_tbl[q.2]? = some (Cond.constant (clR q.1.1) q.1.2.1 (Int32.ofInt q.1.2.2)))) = true := by decide +kernel
theorem clL_ok : (clL.all fun q => decide (lw_tbl[q.2]? = some (Cond.constantLong (clR q.1.1) q.1.2.1 (Int64.ofInt q.1.2.2)))) = true := by decide +kernel
def viL : List (Nat × Nat × Nat) := [(1, 426, 427), (2, 499, 500), (3, 385, 386), (4, 393, 394), (5, 418, 419), (6, 398, 0), (7, 438, 439), (8, 430, 431), (9, 450, 451), (10, 471, 472), (11, 567, 568), (12, 409, 410), (13, 630, 631), (14, 639, 640), (15, 694, 695), (16, 644, 11), (17, 648, 12), (18, 652, 13), (19, 656, 14), (20, 660, 15), (21, 664, 16), (22, 668, 17), (23, 683, 20), (24, 679, 19), (25, 672, 18), (26, 687, 21), (27, 706, 707), (28, 711, 23), (29, 715, 24), (30, 719, 25), (31, 726, 727), (32, 730, 731), (33, 579, 580), (34, 534, 535), (35, 558, 559), (36, 538, 539), (37, 742, 743), (38, 512, 513), (39, 517, 5), (40, 521, 6), (41, 526, 7), (42, 531, 8), (43, 405, 406), (44, 575, 576), (45, 596, 597), (46, 592, 593), (47, 588, 589), (48, 609, 610), (49, 479, 480), (50, 487, 488), (51, 504, 505), (52, 381, 382), (53, 413, 414), (54, 422, 423), (55, 434, 435), (56, 454, 455), (57, 458, 459), (58, 463, 464), (59, 475, 476), (60, 483, 484), (61, 491, 492), (62, 495, 496), (63, 508, 509), (64, 549, 550), (65, 553, 554), (66, 562, 563), (67, 571, 572), (68, 600, 601), (69, 605, 606), (70, 614, 615), (71, 622, 623), (72, 690, 691), (73, 698, 699), (74, 722, 723), (75, 734, 735), (77, 443, 2), (78, 447, 3), (79, 468, 4), (80, 739, 26), (81, 619, 9), (82, 402, 1), (83, 627, 10), (84, 703, 22), (86, 907, 28), (87, 957, 32), (88, 915, 29), (89, 894, 27), (90, 886, 887), (91, 897, 898), (92, 902, 903), (93, 919, 30), (94, 910, 911), (95, 922, 923), (96, 926, 927), (97, 936, 31), (98, 931, 932), (99, 939, 940), (100, 943, 944), (101, 947, 948), (102, 952, 953), (103, 974, 35), (104, 978, 36), (105, 965, 33), (106, 970, 34), (107, 960, 961), (108, 1003, 38), (109, 1007, 39), (110, 982, 983), (111, 986, 987), (112, 995, 37), (113, 990, 991), (114, 998, 999), (115, 1010, 1011), (116, 1014, 1015), (117, 1018, 1019), (118, 1036, 42), (119, 1040, 43), (120, 1032, 41), (121, 1044, 44), (122, 1053, 46), (123, 1048, 45), (124, 1057, 47), (125, 1028, 40), (126, 1023, 1024), (127, 1060, 1061), (128, 1069, 48), (129, 1064, 1065), (130, 1072, 1073), (131, 1076, 1077)]
def stL : List (Nat × Nat) := [(76, 389), (85, 890), (132, 634)]
theorem viL_ok : (viL.all fun q => decide (lw_tbl[q.2.1]? = some (Cond.instanceMethod (nam q.1))) && decide (lw_tbl[q.2.2]? = some (Cond.selects (clR (ow q.1)) (nam q.1) (nam q.1)))) = true := by decide +kernel
theorem stL_ok : (stL.all fun q => decide (lw_tbl[q.2]? = some (Cond.static (nam q.1)))) = true := by decide +kernel
def inL : List (Nat × Nat) := [(0, 51), (1, 52), (2, 57), (3, 55), (4, 56), (5, 54), (6, 53), (7, 50), (8, 58), (9, 49), (10, 61)]
theorem inL_ok : (inL.all fun q => decide (lw_tbl[q.2]? = some (Cond.initialized (clR q.1)))) = true := by decide +kernel
def coL : List (Nat × Nat) := [(1, 428), (2, 501), (3, 387), (4, 395), (5, 420), (6, 399), (7, 440), (8, 432), (9, 452), (10, 473), (11, 569), (12, 411), (13, 632), (14, 641), (15, 696), (16, 645), (17, 649), (18, 653), (19, 657), (20, 661), (21, 665), (22, 669), (23, 684), (24, 680), (25, 673), (26, 688), (27, 708), (28, 712), (29, 716), (30, 720), (31, 728), (32, 732), (33, 581), (34, 536), (35, 560), (36, 540), (37, 744), (38, 514), (39, 518), (40, 522), (41, 527), (42, 532), (43, 407), (44, 577), (45, 598), (46, 594), (47, 590), (48, 611), (49, 481), (50, 489), (51, 506), (52, 383), (53, 415), (54, 424), (55, 436), (56, 456), (57, 460), (58, 465), (59, 477), (60, 485), (61, 493), (62, 497), (63, 510), (64, 551), (65, 555), (66, 564), (67, 573), (68, 602), (69, 607), (70, 616), (71, 624), (72, 692), (73, 700), (74, 724), (75, 736), (76, 390), (77, 444), (78, 448), (79, 469), (80, 740), (81, 620), (82, 403), (83, 628), (84, 704), (85, 891), (86, 908), (87, 958), (88, 916), (89, 895), (90, 888), (91, 899), (92, 904), (93, 920), (94, 912), (95, 924), (96, 928), (97, 937), (98, 933), (99, 941), (100, 945), (101, 949), (102, 954), (103, 975), (104, 979), (105, 966), (106, 971), (107, 962), (108, 1004), (109, 1008), (110, 984), (111, 988), (112, 996), (113, 992), (114, 1000), (115, 1012), (116, 1016), (117, 1020), (118, 1037), (119, 1041), (120, 1033), (121, 1045), (122, 1054), (123, 1049), (124, 1058), (125, 1029), (126, 1025), (127, 1062), (128, 1070), (129, 1066), (130, 1074), (131, 1078), (132, 635)]
end
section
set_option maxRecDepth 100000 in
theorem cow_1 : lw_tbl[428]? = some (Cond.code yX0_has cX0_has 2 (some .boolean)) := rfl
set_option maxRecDepth 100000 in
theorem cow_2 : lw_tbl[501]? = some (Cond.code yX0_hasCell cX0_hasCell 2 (some .boolean)) := rfl
set_option maxRecDepth 100000 in
theorem cow_3 : lw_tbl[387]? = some (Cond.code yX0_canTake cX0_canTake 3 (some .boolean)) := rfl
set_option maxRecDepth 100000 in
theorem cow_4 : lw_tbl[395]? = some (Cond.code yX0_addStretch cX0_addStretch 5 (some .int)) := rfl
set_option maxRecDepth 100000 in
theorem cow_5 : lw_tbl[420]? = some (Cond.code yX0_addCell cX0_addCell 6 (some .int)) := rfl
set_option maxRecDepth 100000 in
theorem cow_6 : lw_tbl[399]? = some (Cond.code yX0_add cX0_add 4 (some .int)) := rfl
set_option maxRecDepth 100000 in
theorem cow_7 : lw_tbl[440]? = some (Cond.code yX1_has cX1_has 2 (some .boolean)) := rfl
set_option maxRecDepth 100000 in
theorem cow_8 : lw_tbl[432]? = some (Cond.code yX1_add cX1_add 7 (some .int)) := rfl
set_option maxRecDepth 100000 in
theorem cow_9 : lw_tbl[452]? = some (Cond.code yX1_isBreached cX1_isBreached 3 (some .boolean)) := rfl
set_option maxRecDepth 100000 in
theorem cow_10 : lw_tbl[473]? = some (Cond.code yX1_bringBags cX1_bringBags 4 (none)) := rfl
set_option maxRecDepth 100000 in
theorem cow_11 : lw_tbl[569]? = some (Cond.code yX1_bagsUnderWay cX1_bagsUnderWay 5 (some .int)) := rfl
set_option maxRecDepth 100000 in
theorem cow_12 : lw_tbl[411]? = some (Cond.code yX2_forget cX2_forget 1 (none)) := rfl
set_option maxRecDepth 100000 in
theorem cow_13 : lw_tbl[632]? = some (Cond.code yX2_begin cX2_begin 6 (none)) := rfl
set_option maxRecDepth 100000 in
theorem cow_14 : lw_tbl[641]? = some (Cond.code yX2_runTo cX2_runTo 5 (none)) := rfl
set_option maxRecDepth 100000 in
theorem cow_15 : lw_tbl[696]? = some (Cond.code yX2_firstHourOfMost cX2_firstHourOfMost 3 (some .int)) := rfl
set_option maxRecDepth 100000 in
theorem cow_16 : lw_tbl[645]? = some (Cond.code yX2_fillRoadOut cX2_fillRoadOut 9 (none)) := rfl
set_option maxRecDepth 100000 in
theorem cow_17 : lw_tbl[649]? = some (Cond.code yX2_findPeople cX2_findPeople 6 (some .int)) := rfl
set_option maxRecDepth 100000 in
theorem cow_18 : lw_tbl[653]? = some (Cond.code yX2_beginSearch cX2_beginSearch 1 (none)) := rfl
set_option maxRecDepth 100000 in
theorem cow_19 : lw_tbl[657]? = some (Cond.code yX2_meet cX2_meet 4 (none)) := rfl
set_option maxRecDepth 100000 in
theorem cow_20 : lw_tbl[661]? = some (Cond.code yX2_meetThoseBehind cX2_meetThoseBehind 8 (none)) := rfl
set_option maxRecDepth 100000 in
theorem cow_21 : lw_tbl[665]? = some (Cond.code yX2_endOf cX2_endOf 4 (some .int)) := rfl
set_option maxRecDepth 100000 in
theorem cow_22 : lw_tbl[669]? = some (Cond.code yX2_roomFrom cX2_roomFrom 6 (some .int)) := rfl
set_option maxRecDepth 100000 in
theorem cow_23 : lw_tbl[684]? = some (Cond.code yX2_moveFrom cX2_moveFrom 7 (none)) := rfl
set_option maxRecDepth 100000 in
theorem cow_24 : lw_tbl[680]? = some (Cond.code yX2_placeAhead cX2_placeAhead 6 (some .int)) := rfl
set_option maxRecDepth 100000 in
theorem cow_25 : lw_tbl[673]? = some (Cond.code yX2_roomOfStep cX2_roomOfStep 6 (some .int)) := rfl
set_option maxRecDepth 100000 in
theorem cow_26 : lw_tbl[688]? = some (Cond.code yX2_moveStep cX2_moveStep 7 (none)) := rfl
set_option maxRecDepth 100000 in
theorem cow_27 : lw_tbl[708]? = some (Cond.code yX2_findBars cX2_findBars 4 (none)) := rfl
set_option maxRecDepth 100000 in
theorem cow_28 : lw_tbl[712]? = some (Cond.code yX2_meetThoseAhead cX2_meetThoseAhead 9 (none)) := rfl
set_option maxRecDepth 100000 in
theorem cow_29 : lw_tbl[716]? = some (Cond.code yX2_listBars cX2_listBars 5 (none)) := rfl
set_option maxRecDepth 100000 in
theorem cow_30 : lw_tbl[720]? = some (Cond.code yX2_isBar cX2_isBar 5 (some .boolean)) := rfl
set_option maxRecDepth 100000 in
theorem cow_31 : lw_tbl[728]? = some (Cond.code yX2_barRoad cX2_barRoad 2 (some .int)) := rfl
set_option maxRecDepth 100000 in
theorem cow_32 : lw_tbl[732]? = some (Cond.code yX2_barHour cX2_barHour 2 (some .int)) := rfl
set_option maxRecDepth 100000 in
theorem cow_33 : lw_tbl[581]? = some (Cond.code yX3_copyFrom cX3_copyFrom 2 (none)) := rfl
set_option maxRecDepth 100000 in
theorem cow_34 : lw_tbl[536]? = some (Cond.code yX3_level cX3_level 4 (some .int)) := rfl
set_option maxRecDepth 100000 in
theorem cow_35 : lw_tbl[560]? = some (Cond.code yX3_isWet cX3_isWet 3 (some .boolean)) := rfl
set_option maxRecDepth 100000 in
theorem cow_36 : lw_tbl[540]? = some (Cond.code yX3_top cX3_top 3 (some .int)) := rfl
set_option maxRecDepth 100000 in
theorem cow_37 : lw_tbl[744]? = some (Cond.code yX3_bagsOnDikes cX3_bagsOnDikes 3 (some .int)) := rfl
set_option maxRecDepth 100000 in
theorem cow_38 : lw_tbl[514]? = some (Cond.code yX3_passHour cX3_passHour 4 (none)) := rfl
set_option maxRecDepth 100000 in
theorem cow_39 : lw_tbl[518]? = some (Cond.code yX3_takeInflow cX3_takeInflow 3 (none)) := rfl
set_option maxRecDepth 100000 in
theorem cow_40 : lw_tbl[522]? = some (Cond.code yX3_passDown cX3_passDown 6 (none)) := rfl
set_option maxRecDepth 100000 in
theorem cow_41 : lw_tbl[527]? = some (Cond.code yX3_layBags cX3_layBags 3 (none)) := rfl
set_option maxRecDepth 100000 in
theorem cow_42 : lw_tbl[532]? = some (Cond.code yX3_goOver cX3_goOver 13 (none)) := rfl
set_option maxRecDepth 100000 in
theorem cow_43 : lw_tbl[407]? = some (Cond.code yX4_forget cX4_forget 1 (none)) := rfl
set_option maxRecDepth 100000 in
theorem cow_44 : lw_tbl[577]? = some (Cond.code yX4_foresee cX4_foresee 5 (none)) := rfl
set_option maxRecDepth 100000 in
theorem cow_45 : lw_tbl[598]? = some (Cond.code yX4_waterAt cX4_waterAt 3 (some .int)) := rfl
set_option maxRecDepth 100000 in
theorem cow_46 : lw_tbl[594]? = some (Cond.code yX4_isWet cX4_isWet 4 (some .boolean)) := rfl
set_option maxRecDepth 100000 in
theorem cow_47 : lw_tbl[590]? = some (Cond.code yX4_firstWet cX4_firstWet 5 (some .int)) := rfl
set_option maxRecDepth 100000 in
theorem cow_48 : lw_tbl[611]? = some (Cond.code yX4_lossFrom cX4_lossFrom 7 (some .int)) := rfl
set_option maxRecDepth 100000 in
theorem cow_49 : lw_tbl[481]? = some (Cond.code yX5_add cX5_add 4 (some .boolean)) := rfl
set_option maxRecDepth 100000 in
theorem cow_50 : lw_tbl[489]? = some (Cond.code yX5_latest cX5_latest 4 (some .int)) := rfl
set_option maxRecDepth 100000 in
theorem cow_51 : lw_tbl[506]? = some (Cond.code yX6_add cX6_add 6 (some .int)) := rfl
set_option maxRecDepth 100000 in
theorem cow_52 : lw_tbl[383]? = some (Cond.code yX7_stretch cX7_stretch 5 (some .int)) := rfl
set_option maxRecDepth 100000 in
theorem cow_53 : lw_tbl[415]? = some (Cond.code yX7_cell cX7_cell 6 (some .int)) := rfl
set_option maxRecDepth 100000 in
theorem cow_54 : lw_tbl[424]? = some (Cond.code yX7_dike cX7_dike 7 (some .int)) := rfl
set_option maxRecDepth 100000 in
theorem cow_55 : lw_tbl[436]? = some (Cond.code yX7_breach cX7_breach 4 (some .boolean)) := rfl
set_option maxRecDepth 100000 in
theorem cow_56 : lw_tbl[456]? = some (Cond.code yX7_flows cX7_flows 3 (some .boolean)) := rfl
set_option maxRecDepth 100000 in
theorem cow_57 : lw_tbl[460]? = some (Cond.code yX7_pit cX7_pit 2 (some .int)) := rfl
set_option maxRecDepth 100000 in
theorem cow_58 : lw_tbl[465]? = some (Cond.code yX7_send cX7_send 4 (some .int)) := rfl
set_option maxRecDepth 100000 in
theorem cow_59 : lw_tbl[477]? = some (Cond.code yX7_tell cX7_tell 4 (some .boolean)) := rfl
set_option maxRecDepth 100000 in
theorem cow_60 : lw_tbl[485]? = some (Cond.code yX7_known cX7_known 2 (some .int)) := rfl
set_option maxRecDepth 100000 in
theorem cow_61 : lw_tbl[493]? = some (Cond.code yX7_worst cX7_worst 5 (some .int)) := rfl
set_option maxRecDepth 100000 in
theorem cow_62 : lw_tbl[497]? = some (Cond.code yX7_road cX7_road 6 (some .int)) := rfl
set_option maxRecDepth 100000 in
theorem cow_63 : lw_tbl[510]? = some (Cond.code yX7_go cX7_go 3 (some .int)) := rfl
set_option maxRecDepth 100000 in
theorem cow_64 : lw_tbl[551]? = some (Cond.code yX7_people cX7_people 3 (some .boolean)) := rfl
set_option maxRecDepth 100000 in
theorem cow_65 : lw_tbl[555]? = some (Cond.code yX7_told cX7_told 4 (some .int)) := rfl
set_option maxRecDepth 100000 in
theorem cow_66 : lw_tbl[564]? = some (Cond.code yX7_crest cX7_crest 3 (some .int)) := rfl
set_option maxRecDepth 100000 in
theorem cow_67 : lw_tbl[573]? = some (Cond.code yX7_wet cX7_wet 2 (some .int)) := rfl
set_option maxRecDepth 100000 in
theorem cow_68 : lw_tbl[602]? = some (Cond.code yX7_foretold cX7_foretold 3 (some .int)) := rfl
set_option maxRecDepth 100000 in
theorem cow_69 : lw_tbl[607]? = some (Cond.code yX7_loss cX7_loss 1 (some .int)) := rfl
set_option maxRecDepth 100000 in
theorem cow_70 : lw_tbl[616]? = some (Cond.code yX7_best cX7_best 6 (some .int)) := rfl
set_option maxRecDepth 100000 in
theorem cow_71 : lw_tbl[624]? = some (Cond.code yX7_leave cX7_leave 2 (some .int)) := rfl
set_option maxRecDepth 100000 in
theorem cow_72 : lw_tbl[692]? = some (Cond.code yX7_soonest cX7_soonest 1 (some .int)) := rfl
set_option maxRecDepth 100000 in
theorem cow_73 : lw_tbl[700]? = some (Cond.code yX7_bars cX7_bars 2 (some .int)) := rfl
set_option maxRecDepth 100000 in
theorem cow_74 : lw_tbl[724]? = some (Cond.code yX7_bar cX7_bar 4 (some .int)) := rfl
set_option maxRecDepth 100000 in
theorem cow_75 : lw_tbl[736]? = some (Cond.code yX7_count cX7_count 2 (some .int)) := rfl
set_option maxRecDepth 100000 in
theorem cow_76 : lw_tbl[390]? = some (Cond.code yX7_within cX7_within 3 (some .boolean)) := rfl
set_option maxRecDepth 100000 in
theorem cow_77 : lw_tbl[444]? = some (Cond.code yX7_hourToCome cX7_hourToCome 2 (some .boolean)) := rfl
set_option maxRecDepth 100000 in
theorem cow_78 : lw_tbl[448]? = some (Cond.code yX7_brokeBefore cX7_brokeBefore 2 (some .boolean)) := rfl
set_option maxRecDepth 100000 in
theorem cow_79 : lw_tbl[469]? = some (Cond.code yX7_canSend cX7_canSend 3 (some .boolean)) := rfl
set_option maxRecDepth 100000 in
theorem cow_80 : lw_tbl[740]? = some (Cond.code yX7_allBagsUnderWay cX7_allBagsUnderWay 3 (some .int)) := rfl
set_option maxRecDepth 100000 in
theorem cow_81 : lw_tbl[620]? = some (Cond.code yX7_lossWithBags cX7_lossWithBags 5 (some .int)) := rfl
set_option maxRecDepth 100000 in
theorem cow_82 : lw_tbl[403]? = some (Cond.code yX7_waterChanges cX7_waterChanges 1 (none)) := rfl
set_option maxRecDepth 100000 in
theorem cow_83 : lw_tbl[628]? = some (Cond.code yX7_readyFlight cX7_readyFlight 1 (none)) := rfl
set_option maxRecDepth 100000 in
theorem cow_84 : lw_tbl[704]? = some (Cond.code yX7_readyBars cX7_readyBars 2 (none)) := rfl
set_option maxRecDepth 100000 in
theorem cow_85 : lw_tbl[891]? = some (Cond.code yX8_in cX8_in 3 (some .boolean)) := rfl
set_option maxRecDepth 100000 in
theorem cow_86 : lw_tbl[908]? = some (Cond.code yX8_isBody cX8_isBody 2 (some .boolean)) := rfl
set_option maxRecDepth 100000 in
theorem cow_87 : lw_tbl[958]? = some (Cond.code yX8_isCell cX8_isCell 2 (some .boolean)) := rfl
set_option maxRecDepth 100000 in
theorem cow_88 : lw_tbl[916]? = some (Cond.code yX8_isDike cX8_isDike 2 (some .boolean)) := rfl
set_option maxRecDepth 100000 in
theorem cow_89 : lw_tbl[895]? = some (Cond.code yX8_body cX8_body 3 (some .int)) := rfl
set_option maxRecDepth 100000 in
theorem cow_90 : lw_tbl[888]? = some (Cond.code yX8_stretch cX8_stretch 4 (some .int)) := rfl
set_option maxRecDepth 100000 in
theorem cow_91 : lw_tbl[899]? = some (Cond.code yX8_cell cX8_cell 5 (some .int)) := rfl
set_option maxRecDepth 100000 in
theorem cow_92 : lw_tbl[904]? = some (Cond.code yX8_dike cX8_dike 6 (some .int)) := rfl
set_option maxRecDepth 100000 in
theorem cow_93 : lw_tbl[920]? = some (Cond.code yX8_isBreached cX8_isBreached 3 (some .boolean)) := rfl
set_option maxRecDepth 100000 in
theorem cow_94 : lw_tbl[912]? = some (Cond.code yX8_breach cX8_breach 4 (some .boolean)) := rfl
set_option maxRecDepth 100000 in
theorem cow_95 : lw_tbl[924]? = some (Cond.code yX8_flows cX8_flows 3 (some .boolean)) := rfl
set_option maxRecDepth 100000 in
theorem cow_96 : lw_tbl[928]? = some (Cond.code yX8_pit cX8_pit 2 (some .int)) := rfl
set_option maxRecDepth 100000 in
theorem cow_97 : lw_tbl[937]? = some (Cond.code yX8_canSend cX8_canSend 3 (some .boolean)) := rfl
set_option maxRecDepth 100000 in
theorem cow_98 : lw_tbl[933]? = some (Cond.code yX8_send cX8_send 3 (some .int)) := rfl
set_option maxRecDepth 100000 in
theorem cow_99 : lw_tbl[941]? = some (Cond.code yX8_tell cX8_tell 4 (some .boolean)) := rfl
set_option maxRecDepth 100000 in
theorem cow_100 : lw_tbl[945]? = some (Cond.code yX8_known cX8_known 4 (some .int)) := rfl
set_option maxRecDepth 100000 in
theorem cow_101 : lw_tbl[949]? = some (Cond.code yX8_worst cX8_worst 3 (some .int)) := rfl
set_option maxRecDepth 100000 in
theorem cow_102 : lw_tbl[954]? = some (Cond.code yX8_road cX8_road 5 (some .int)) := rfl
set_option maxRecDepth 100000 in
theorem cow_103 : lw_tbl[975]? = some (Cond.code yX8_level cX8_level 3 (some .int)) := rfl
set_option maxRecDepth 100000 in
theorem cow_104 : lw_tbl[979]? = some (Cond.code yX8_top cX8_top 4 (some .int)) := rfl
set_option maxRecDepth 100000 in
theorem cow_105 : lw_tbl[966]? = some (Cond.code yX8_hour cX8_hour 7 (none)) := rfl
set_option maxRecDepth 100000 in
theorem cow_106 : lw_tbl[971]? = some (Cond.code yX8_over cX8_over 15 (none)) := rfl
set_option maxRecDepth 100000 in
theorem cow_107 : lw_tbl[962]? = some (Cond.code yX8_go cX8_go 4 (some .int)) := rfl
set_option maxRecDepth 100000 in
theorem cow_108 : lw_tbl[1004]? = some (Cond.code yX8_foretells cX8_foretells 3 (none)) := rfl
set_option maxRecDepth 100000 in
theorem cow_109 : lw_tbl[1008]? = some (Cond.code yX8_isWet cX8_isWet 3 (some .boolean)) := rfl
set_option maxRecDepth 100000 in
theorem cow_110 : lw_tbl[984]? = some (Cond.code yX8_people cX8_people 3 (some .boolean)) := rfl
set_option maxRecDepth 100000 in
theorem cow_111 : lw_tbl[988]? = some (Cond.code yX8_told cX8_told 4 (some .int)) := rfl
set_option maxRecDepth 100000 in
theorem cow_112 : lw_tbl[996]? = some (Cond.code yX8_underWay cX8_underWay 4 (some .int)) := rfl
set_option maxRecDepth 100000 in
theorem cow_113 : lw_tbl[992]? = some (Cond.code yX8_crest cX8_crest 3 (some .int)) := rfl
set_option maxRecDepth 100000 in
theorem cow_114 : lw_tbl[1000]? = some (Cond.code yX8_wet cX8_wet 3 (some .int)) := rfl
set_option maxRecDepth 100000 in
theorem cow_115 : lw_tbl[1012]? = some (Cond.code yX8_foretold cX8_foretold 3 (some .int)) := rfl
set_option maxRecDepth 100000 in
theorem cow_116 : lw_tbl[1016]? = some (Cond.code yX8_loss cX8_loss 5 (some .int)) := rfl
set_option maxRecDepth 100000 in
theorem cow_117 : lw_tbl[1020]? = some (Cond.code yX8_best cX8_best 7 (some .int)) := rfl
set_option maxRecDepth 100000 in
theorem cow_118 : lw_tbl[1037]? = some (Cond.code yX8_isPlace cX8_isPlace 4 (some .boolean)) := rfl
set_option maxRecDepth 100000 in
theorem cow_119 : lw_tbl[1041]? = some (Cond.code yX8_sees cX8_sees 6 (none)) := rfl
set_option maxRecDepth 100000 in
theorem cow_120 : lw_tbl[1033]? = some (Cond.code yX8_seeks cX8_seeks 3 (some .boolean)) := rfl
set_option maxRecDepth 100000 in
theorem cow_121 : lw_tbl[1045]? = some (Cond.code yX8_spreads cX8_spreads 7 (none)) := rfl
set_option maxRecDepth 100000 in
theorem cow_122 : lw_tbl[1054]? = some (Cond.code yX8_placeAhead cX8_placeAhead 3 (some .int)) := rfl
set_option maxRecDepth 100000 in
theorem cow_123 : lw_tbl[1049]? = some (Cond.code yX8_more cX8_more 3 (some .int)) := rfl
set_option maxRecDepth 100000 in
theorem cow_124 : lw_tbl[1058]? = some (Cond.code yX8_goes cX8_goes 4 (none)) := rfl
set_option maxRecDepth 100000 in
theorem cow_125 : lw_tbl[1029]? = some (Cond.code yX8_leads cX8_leads 7 (some .int)) := rfl
set_option maxRecDepth 100000 in
theorem cow_126 : lw_tbl[1025]? = some (Cond.code yX8_leave cX8_leave 2 (some .int)) := rfl
set_option maxRecDepth 100000 in
theorem cow_127 : lw_tbl[1062]? = some (Cond.code yX8_soonest cX8_soonest 5 (some .int)) := rfl
set_option maxRecDepth 100000 in
theorem cow_128 : lw_tbl[1070]? = some (Cond.code yX8_isBar cX8_isBar 6 (some .boolean)) := rfl
set_option maxRecDepth 100000 in
theorem cow_129 : lw_tbl[1066]? = some (Cond.code yX8_bars cX8_bars 5 (some .int)) := rfl
set_option maxRecDepth 100000 in
theorem cow_130 : lw_tbl[1074]? = some (Cond.code yX8_bar cX8_bar 7 (some .int)) := rfl
set_option maxRecDepth 100000 in
theorem cow_131 : lw_tbl[1078]? = some (Cond.code yX8_count cX8_count 4 (some .int)) := rfl
set_option maxRecDepth 100000 in
theorem cow_132 : lw_tbl[635]? = some (Cond.code yJ7_fill_53178 cJ7_fill_53178 4 (none)) := rfl
end
section
/-! does a block say what the bytes say -/
def cnc : ClassFile.Cond → Int
  | .eq => 0
  | .ne => 1
  | .lt => 2
  | .ge => 3
  | .gt => 4
  | .le => 5
def flq (y ix : Nat) (op : Op) : Bool := flL.any fun q => decide (q.1.1 = ow y ∧ q.1.2.1 = ix ∧ (q.1.2.2.1 : Int) = op.2.2 ∧ q.1.2.2.2 = op.2.1)
def flw (y ix : Nat) (op : Op) : Bool := flL.any fun q => decide (q.1.1 = ow y ∧ q.1.2.1 = ix ∧ (q.1.2.2.1 : Int) = op.2.2 ∧ q.1.2.2.2 = op.2.1 ∧ q.1.2.2.2 < clN q.1.2.2.1 ∧ q.1.2.2.1 < 9 ∧ (clT q.1.2.2.1 q.1.2.2.2).2.2.2 = false)
def maL : List ((Nat × Nat × Nat) × Nat) := [((3, 121, 41), 545), ((3, 31, 42), 582), ((4, 35, 42), 585), ((3, 110, 39), 541), ((2, 79, 42), 636), ((2, 153, 40), 674)]
def okI (y pc : Nat) (i : Instr) (len : Nat) (op : Op) : Bool :=
  match i with
  | .iload_n k => decide (len = 1 ∧ op = (0, k.val, 0))
  | .iload k => decide (len = 2 ∧ op = (0, k, 0))
  | .aload_n k => decide (len = 1 ∧ op = (47, k.val, 0))
  | .lload k => decide (len = 2 ∧ op = (48, k, 0))
  | .istore_n k => decide (len = 1 ∧ op = (1, k.val, 0))
  | .istore k => decide (len = 2 ∧ op = (1, k, 0))
  | .lstore k => decide (len = 2 ∧ op = (2, k, 0))
  | .iconst v => decide (len = 1 ∧ op = (3, 0, v) ∧ -1 ≤ v ∧ v ≤ 5)
  | .bipush v => decide (len = 2 ∧ op = (3, 0, v) ∧ -128 ≤ v ∧ v ≤ 127)
  | .sipush v => decide (len = 3 ∧ op = (3, 0, v) ∧ -32768 ≤ v ∧ v ≤ 32767)
  | .ldc ix => decide (len = 2 ∧ op = (3, 0, op.2.2) ∧ -2147483648 ≤ op.2.2 ∧ op.2.2 < 2147483648) && csL.any fun q => decide (q.1 = (ow y, ix, op.2.2))
  | .ldc2_w ix => decide (len = 3 ∧ op = (4, 0, op.2.2) ∧ -2147483648 ≤ op.2.2 ∧ op.2.2 < 2147483648) && clL.any fun q => decide (q.1 = (ow y, ix, op.2.2))
  | .lconst n => decide (len = 1 ∧ op = (4, 0, (n.val : Int)))
  | .iinc k v => decide (len = 3 ∧ op = (5, k, v))
  | .iadd => decide (len = 1 ∧ op = (6, 0, 0))
  | .isub => decide (len = 1 ∧ op = (7, 0, 0))
  | .imul => decide (len = 1 ∧ op = (8, 0, 0))
  | .iand => decide (len = 1 ∧ op = (9, 0, 0))
  | .ior => decide (len = 1 ∧ op = (10, 0, 0))
  | .ishl => decide (len = 1 ∧ op = (11, 0, 0))
  | .ishr => decide (len = 1 ∧ op = (12, 0, 0))
  | .idiv => decide (len = 1 ∧ op = (13, 0, 0))
  | .irem => decide (len = 1 ∧ op = (14, 0, 0))
  | .ineg => decide (len = 1 ∧ op = (15, 0, 0))
  | .i2l => decide (len = 1 ∧ op = (16, 0, 0))
  | .l2i => decide (len = 1 ∧ op = (17, 0, 0))
  | .ladd => decide (len = 1 ∧ op = (18, 0, 0))
  | .lmul => decide (len = 1 ∧ op = (19, 0, 0))
  | .ldiv => decide (len = 1 ∧ op = (20, 0, 0))
  | .lcmp => decide (len = 1 ∧ op = (21, 0, 0))
  | .getfield ix => decide (len = 3 ∧ op.1 = 22) && (flq y ix op || decide (ow y = 7 ∧ ix = 211 ∧ op = (22, 0, 2)))
  | .putfield ix => decide (len = 3 ∧ op.1 = 23) && flw y ix op
  | .iaload => decide (len = 1 ∧ (op = (24, 0, 0) ∨ (y = 0 ∧ op = (44, 0, 0))))
  | .iastore => decide (len = 1 ∧ op = (25, 0, 0))
  | .bastore => decide (len = 1 ∧ op = (26, 0, 0))
  | .laload => decide (len = 1 ∧ op = (27, 0, 0))
  | .lastore => decide (len = 1 ∧ op = (28, 0, 0))
  | .baload => decide (len = 1 ∧ op = (46, 0, 0))
  | .ifCond c off => decide (len = 3 ∧ op = (29, op.2.1, cnc c) ∧ (pc : Int) + off = (bpc y op.2.1 : Int))
  | .if_icmp c off => decide (len = 3 ∧ op = (30, op.2.1, cnc c) ∧ (pc : Int) + off = (bpc y op.2.1 : Int))
  | .goto off => decide (len = 3 ∧ op = (31, op.2.1, 0) ∧ (pc : Int) + off = (bpc y op.2.1 : Int))
  | .dup => decide (len = 1 ∧ op = (33, 0, 0))
  | .dup2 => decide (len = 1 ∧ op = (34, 0, 0))
  | .pop => decide (len = 1 ∧ op = (35, 0, 0))
  | .tableswitch df lo hi offs => decide (op = (36, op.2.1, 0) ∧ (sw op.2.1).1 = lo ∧ hi = lo + ((sw op.2.1).2.1.length : Int) - 1 ∧ (pc : Int) + df = (bpc y (sw op.2.1).2.2 : Int)) && (List.range (sw op.2.1).2.1.length).all fun j => decide (offs[j]? = some ((bpc y (nt (sw op.2.1).2.2 (sw op.2.1).2.1 j) : Int) - pc))
  | .ireturn => decide (len = 1 ∧ ((op = (37, 0, 0) ∧ rty y = some .int) ∨ (op = (37, 0, 1) ∧ rty y = some .boolean)))
  | .return_ => decide (len = 1 ∧ op = (38, 0, 0) ∧ rty y = none)
  | .arraylength => decide (len = 1 ∧ (op = (43, 0, 0) ∨ (y = 0 ∧ op = (45, 0, 0))))
  | .invokevirtual ix => decide (len = 3 ∧ op.1 = 50 + nar op.2.1 ∧ ist op.2.1 = false ∧ 1 ≤ nar op.2.1 ∧ op.2.1 ≠ 0 ∧ op.2.1 < 133 ∧ ((op.2.2 = 0 ∧ rty op.2.1 = none) ∨ (op.2.2 = 1 ∧ (rty op.2.1 = some .int ∨ rty op.2.1 = some .boolean)))) && mlL.any fun q => decide (q.1 = (ow y, ix, op.2.1))
  | .invokestatic ix => decide (len = 3) && ((decide (op.1 = 50 + nar op.2.1 ∧ ist op.2.1 = true ∧ 1 ≤ nar op.2.1 ∧ op.2.1 ≠ 0 ∧ op.2.1 < 133 ∧ ((op.2.2 = 0 ∧ rty op.2.1 = none) ∨ (op.2.2 = 1 ∧ (rty op.2.1 = some .int ∨ rty op.2.1 = some .boolean)))) && ((mlL.any fun q => decide (q.1 = (ow y, ix, op.2.1))) || decide (ow y = 0 ∧ ix = 48 ∧ op.2.1 = 76))) || (decide (op = (op.1, 0, 0) ∧ 39 ≤ op.1 ∧ op.1 ≤ 42) && maL.any fun q => decide (q.1 = (ow y, ix, op.1))))
  | .astore_n k => decide (len = 1 ∧ op = (49, k.val, 0))
  | .aload k => decide (len = 2 ∧ op = (47, k, 0))
  | _ => false
def okE (op : Op) : Bool := decide (op.1 = 31 ∨ op.1 = 36 ∨ op.1 = 37 ∨ op.1 = 38)
def okB (y : Nat) : List Op → Nat → Bool
  | [], _ => false
  | op :: os, pc => if op.1 = 32 then decide (pc = bpc y op.2.1) else
    match decode (cod y) pc with
    | .ok (i, len) => okI y pc i len op && (okE op || okB y os (pc + len))
    | .error _ => false
end
section
theorem okb0_0 : okB 0 (blk 0 0) (bpc 0 0) = true := by decide +kernel
theorem okb0_1 : okB 0 (blk 0 1) (bpc 0 1) = true := by decide +kernel
theorem okb0_2 : okB 0 (blk 0 2) (bpc 0 2) = true := by decide +kernel
theorem okb0_3 : okB 0 (blk 0 3) (bpc 0 3) = true := by decide +kernel
theorem okb0_4 : okB 0 (blk 0 4) (bpc 0 4) = true := by decide +kernel
theorem okb0_5 : okB 0 (blk 0 5) (bpc 0 5) = true := by decide +kernel
theorem okb0_6 : okB 0 (blk 0 6) (bpc 0 6) = true := by decide +kernel
theorem okb0_7 : okB 0 (blk 0 7) (bpc 0 7) = true := by decide +kernel
theorem okb0_8 : okB 0 (blk 0 8) (bpc 0 8) = true := by decide +kernel
theorem okb0_9 : okB 0 (blk 0 9) (bpc 0 9) = true := by decide +kernel
theorem okb0_10 : okB 0 (blk 0 10) (bpc 0 10) = true := by decide +kernel
theorem okb0_11 : okB 0 (blk 0 11) (bpc 0 11) = true := by decide +kernel
theorem okb0_12 : okB 0 (blk 0 12) (bpc 0 12) = true := by decide +kernel
theorem okb0_13 : okB 0 (blk 0 13) (bpc 0 13) = true := by decide +kernel
theorem okb0_14 : okB 0 (blk 0 14) (bpc 0 14) = true := by decide +kernel
theorem okb0_15 : okB 0 (blk 0 15) (bpc 0 15) = true := by decide +kernel
theorem okb0_16 : okB 0 (blk 0 16) (bpc 0 16) = true := by decide +kernel
theorem okb0_17 : okB 0 (blk 0 17) (bpc 0 17) = true := by decide +kernel
theorem okb0_18 : okB 0 (blk 0 18) (bpc 0 18) = true := by decide +kernel
theorem okb0_19 : okB 0 (blk 0 19) (bpc 0 19) = true := by decide +kernel
theorem okb0_20 : okB 0 (blk 0 20) (bpc 0 20) = true := by decide +kernel
theorem okb0_21 : okB 0 (blk 0 21) (bpc 0 21) = true := by decide +kernel
theorem okb0_22 : okB 0 (blk 0 22) (bpc 0 22) = true := by decide +kernel
theorem okb0_23 : okB 0 (blk 0 23) (bpc 0 23) = true := by decide +kernel
theorem okb0_24 : okB 0 (blk 0 24) (bpc 0 24) = true := by decide +kernel
theorem okb0_25 : okB 0 (blk 0 25) (bpc 0 25) = true := by decide +kernel
theorem okb0_26 : okB 0 (blk 0 26) (bpc 0 26) = true := by decide +kernel
theorem okb0_27 : okB 0 (blk 0 27) (bpc 0 27) = true := by decide +kernel
theorem okb1_0 : okB 1 (blk 1 0) (bpc 1 0) = true := by decide +kernel
theorem okb1_1 : okB 1 (blk 1 1) (bpc 1 1) = true := by decide +kernel
theorem okb1_2 : okB 1 (blk 1 2) (bpc 1 2) = true := by decide +kernel
theorem okb2_0 : okB 2 (blk 2 0) (bpc 2 0) = true := by decide +kernel
theorem okb2_1 : okB 2 (blk 2 1) (bpc 2 1) = true := by decide +kernel
theorem okb2_2 : okB 2 (blk 2 2) (bpc 2 2) = true := by decide +kernel
theorem okb3_0 : okB 3 (blk 3 0) (bpc 3 0) = true := by decide +kernel
theorem okb3_1 : okB 3 (blk 3 1) (bpc 3 1) = true := by decide +kernel
theorem okb3_2 : okB 3 (blk 3 2) (bpc 3 2) = true := by decide +kernel
theorem okb4_0 : okB 4 (blk 4 0) (bpc 4 0) = true := by decide +kernel
theorem okb5_0 : okB 5 (blk 5 0) (bpc 5 0) = true := by decide +kernel
theorem okb6_0 : okB 6 (blk 6 0) (bpc 6 0) = true := by decide +kernel
theorem okb7_0 : okB 7 (blk 7 0) (bpc 7 0) = true := by decide +kernel
theorem okb7_1 : okB 7 (blk 7 1) (bpc 7 1) = true := by decide +kernel
theorem okb7_2 : okB 7 (blk 7 2) (bpc 7 2) = true := by decide +kernel
theorem okb8_0 : okB 8 (blk 8 0) (bpc 8 0) = true := by decide +kernel
theorem okb9_0 : okB 9 (blk 9 0) (bpc 9 0) = true := by decide +kernel
theorem okb9_1 : okB 9 (blk 9 1) (bpc 9 1) = true := by decide +kernel
theorem okb9_2 : okB 9 (blk 9 2) (bpc 9 2) = true := by decide +kernel
theorem okb10_0 : okB 10 (blk 10 0) (bpc 10 0) = true := by decide +kernel
theorem okb10_1 : okB 10 (blk 10 1) (bpc 10 1) = true := by decide +kernel
theorem okb11_0 : okB 11 (blk 11 0) (bpc 11 0) = true := by decide +kernel
theorem okb11_1 : okB 11 (blk 11 1) (bpc 11 1) = true := by decide +kernel
theorem okb11_2 : okB 11 (blk 11 2) (bpc 11 2) = true := by decide +kernel
theorem okb12_0 : okB 12 (blk 12 0) (bpc 12 0) = true := by decide +kernel
theorem okb13_0 : okB 13 (blk 13 0) (bpc 13 0) = true := by decide +kernel
theorem okb13_1 : okB 13 (blk 13 1) (bpc 13 1) = true := by decide +kernel
theorem okb13_2 : okB 13 (blk 13 2) (bpc 13 2) = true := by decide +kernel
theorem okb13_3 : okB 13 (blk 13 3) (bpc 13 3) = true := by decide +kernel
theorem okb13_4 : okB 13 (blk 13 4) (bpc 13 4) = true := by decide +kernel
theorem okb13_5 : okB 13 (blk 13 5) (bpc 13 5) = true := by decide +kernel
theorem okb13_6 : okB 13 (blk 13 6) (bpc 13 6) = true := by decide +kernel
theorem okb14_0 : okB 14 (blk 14 0) (bpc 14 0) = true := by decide +kernel
theorem okb14_1 : okB 14 (blk 14 1) (bpc 14 1) = true := by decide +kernel
theorem okb14_2 : okB 14 (blk 14 2) (bpc 14 2) = true := by decide +kernel
theorem okb14_3 : okB 14 (blk 14 3) (bpc 14 3) = true := by decide +kernel
theorem okb14_4 : okB 14 (blk 14 4) (bpc 14 4) = true := by decide +kernel
theorem okb14_5 : okB 14 (blk 14 5) (bpc 14 5) = true := by decide +kernel
theorem okb15_0 : okB 15 (blk 15 0) (bpc 15 0) = true := by decide +kernel
theorem okb15_1 : okB 15 (blk 15 1) (bpc 15 1) = true := by decide +kernel
theorem okb15_2 : okB 15 (blk 15 2) (bpc 15 2) = true := by decide +kernel
theorem okb15_3 : okB 15 (blk 15 3) (bpc 15 3) = true := by decide +kernel
theorem okb15_4 : okB 15 (blk 15 4) (bpc 15 4) = true := by decide +kernel
theorem okb16_0 : okB 16 (blk 16 0) (bpc 16 0) = true := by decide +kernel
theorem okb16_1 : okB 16 (blk 16 1) (bpc 16 1) = true := by decide +kernel
theorem okb16_2 : okB 16 (blk 16 2) (bpc 16 2) = true := by decide +kernel
theorem okb16_3 : okB 16 (blk 16 3) (bpc 16 3) = true := by decide +kernel
theorem okb16_4 : okB 16 (blk 16 4) (bpc 16 4) = true := by decide +kernel
theorem okb17_0 : okB 17 (blk 17 0) (bpc 17 0) = true := by decide +kernel
theorem okb17_1 : okB 17 (blk 17 1) (bpc 17 1) = true := by decide +kernel
theorem okb17_2 : okB 17 (blk 17 2) (bpc 17 2) = true := by decide +kernel
theorem okb17_3 : okB 17 (blk 17 3) (bpc 17 3) = true := by decide +kernel
theorem okb17_4 : okB 17 (blk 17 4) (bpc 17 4) = true := by decide +kernel
theorem okb17_5 : okB 17 (blk 17 5) (bpc 17 5) = true := by decide +kernel
theorem okb18_0 : okB 18 (blk 18 0) (bpc 18 0) = true := by decide +kernel
theorem okb19_0 : okB 19 (blk 19 0) (bpc 19 0) = true := by decide +kernel
theorem okb19_1 : okB 19 (blk 19 1) (bpc 19 1) = true := by decide +kernel
theorem okb19_2 : okB 19 (blk 19 2) (bpc 19 2) = true := by decide +kernel
end
section
theorem okb19_3 : okB 19 (blk 19 3) (bpc 19 3) = true := by decide +kernel
theorem okb19_4 : okB 19 (blk 19 4) (bpc 19 4) = true := by decide +kernel
theorem okb20_0 : okB 20 (blk 20 0) (bpc 20 0) = true := by decide +kernel
theorem okb20_1 : okB 20 (blk 20 1) (bpc 20 1) = true := by decide +kernel
theorem okb20_2 : okB 20 (blk 20 2) (bpc 20 2) = true := by decide +kernel
theorem okb20_3 : okB 20 (blk 20 3) (bpc 20 3) = true := by decide +kernel
theorem okb20_4 : okB 20 (blk 20 4) (bpc 20 4) = true := by decide +kernel
theorem okb20_5 : okB 20 (blk 20 5) (bpc 20 5) = true := by decide +kernel
theorem okb20_6 : okB 20 (blk 20 6) (bpc 20 6) = true := by decide +kernel
theorem okb20_7 : okB 20 (blk 20 7) (bpc 20 7) = true := by decide +kernel
theorem okb20_8 : okB 20 (blk 20 8) (bpc 20 8) = true := by decide +kernel
theorem okb21_0 : okB 21 (blk 21 0) (bpc 21 0) = true := by decide +kernel
theorem okb22_0 : okB 22 (blk 22 0) (bpc 22 0) = true := by decide +kernel
theorem okb22_1 : okB 22 (blk 22 1) (bpc 22 1) = true := by decide +kernel
theorem okb22_2 : okB 22 (blk 22 2) (bpc 22 2) = true := by decide +kernel
theorem okb23_0 : okB 23 (blk 23 0) (bpc 23 0) = true := by decide +kernel
theorem okb23_1 : okB 23 (blk 23 1) (bpc 23 1) = true := by decide +kernel
theorem okb23_2 : okB 23 (blk 23 2) (bpc 23 2) = true := by decide +kernel
theorem okb24_0 : okB 24 (blk 24 0) (bpc 24 0) = true := by decide +kernel
theorem okb24_1 : okB 24 (blk 24 1) (bpc 24 1) = true := by decide +kernel
theorem okb24_2 : okB 24 (blk 24 2) (bpc 24 2) = true := by decide +kernel
theorem okb24_3 : okB 24 (blk 24 3) (bpc 24 3) = true := by decide +kernel
theorem okb24_4 : okB 24 (blk 24 4) (bpc 24 4) = true := by decide +kernel
theorem okb24_5 : okB 24 (blk 24 5) (bpc 24 5) = true := by decide +kernel
theorem okb25_0 : okB 25 (blk 25 0) (bpc 25 0) = true := by decide +kernel
theorem okb25_1 : okB 25 (blk 25 1) (bpc 25 1) = true := by decide +kernel
theorem okb25_2 : okB 25 (blk 25 2) (bpc 25 2) = true := by decide +kernel
theorem okb25_3 : okB 25 (blk 25 3) (bpc 25 3) = true := by decide +kernel
theorem okb26_0 : okB 26 (blk 26 0) (bpc 26 0) = true := by decide +kernel
theorem okb26_1 : okB 26 (blk 26 1) (bpc 26 1) = true := by decide +kernel
theorem okb26_2 : okB 26 (blk 26 2) (bpc 26 2) = true := by decide +kernel
theorem okb26_3 : okB 26 (blk 26 3) (bpc 26 3) = true := by decide +kernel
theorem okb26_4 : okB 26 (blk 26 4) (bpc 26 4) = true := by decide +kernel
theorem okb27_0 : okB 27 (blk 27 0) (bpc 27 0) = true := by decide +kernel
theorem okb27_1 : okB 27 (blk 27 1) (bpc 27 1) = true := by decide +kernel
theorem okb27_2 : okB 27 (blk 27 2) (bpc 27 2) = true := by decide +kernel
theorem okb27_3 : okB 27 (blk 27 3) (bpc 27 3) = true := by decide +kernel
theorem okb27_4 : okB 27 (blk 27 4) (bpc 27 4) = true := by decide +kernel
theorem okb27_5 : okB 27 (blk 27 5) (bpc 27 5) = true := by decide +kernel
theorem okb28_0 : okB 28 (blk 28 0) (bpc 28 0) = true := by decide +kernel
theorem okb28_1 : okB 28 (blk 28 1) (bpc 28 1) = true := by decide +kernel
theorem okb28_2 : okB 28 (blk 28 2) (bpc 28 2) = true := by decide +kernel
theorem okb28_3 : okB 28 (blk 28 3) (bpc 28 3) = true := by decide +kernel
theorem okb28_4 : okB 28 (blk 28 4) (bpc 28 4) = true := by decide +kernel
theorem okb28_5 : okB 28 (blk 28 5) (bpc 28 5) = true := by decide +kernel
theorem okb28_6 : okB 28 (blk 28 6) (bpc 28 6) = true := by decide +kernel
theorem okb28_7 : okB 28 (blk 28 7) (bpc 28 7) = true := by decide +kernel
theorem okb28_8 : okB 28 (blk 28 8) (bpc 28 8) = true := by decide +kernel
theorem okb28_9 : okB 28 (blk 28 9) (bpc 28 9) = true := by decide +kernel
theorem okb28_10 : okB 28 (blk 28 10) (bpc 28 10) = true := by decide +kernel
theorem okb29_0 : okB 29 (blk 29 0) (bpc 29 0) = true := by decide +kernel
theorem okb29_1 : okB 29 (blk 29 1) (bpc 29 1) = true := by decide +kernel
theorem okb29_2 : okB 29 (blk 29 2) (bpc 29 2) = true := by decide +kernel
theorem okb29_3 : okB 29 (blk 29 3) (bpc 29 3) = true := by decide +kernel
theorem okb29_4 : okB 29 (blk 29 4) (bpc 29 4) = true := by decide +kernel
theorem okb29_5 : okB 29 (blk 29 5) (bpc 29 5) = true := by decide +kernel
theorem okb30_0 : okB 30 (blk 30 0) (bpc 30 0) = true := by decide +kernel
theorem okb30_1 : okB 30 (blk 30 1) (bpc 30 1) = true := by decide +kernel
theorem okb30_2 : okB 30 (blk 30 2) (bpc 30 2) = true := by decide +kernel
theorem okb30_3 : okB 30 (blk 30 3) (bpc 30 3) = true := by decide +kernel
theorem okb30_4 : okB 30 (blk 30 4) (bpc 30 4) = true := by decide +kernel
theorem okb31_0 : okB 31 (blk 31 0) (bpc 31 0) = true := by decide +kernel
theorem okb32_0 : okB 32 (blk 32 0) (bpc 32 0) = true := by decide +kernel
theorem okb33_0 : okB 33 (blk 33 0) (bpc 33 0) = true := by decide +kernel
theorem okb34_0 : okB 34 (blk 34 0) (bpc 34 0) = true := by decide +kernel
theorem okb34_1 : okB 34 (blk 34 1) (bpc 34 1) = true := by decide +kernel
theorem okb34_2 : okB 34 (blk 34 2) (bpc 34 2) = true := by decide +kernel
theorem okb35_0 : okB 35 (blk 35 0) (bpc 35 0) = true := by decide +kernel
theorem okb35_1 : okB 35 (blk 35 1) (bpc 35 1) = true := by decide +kernel
theorem okb35_2 : okB 35 (blk 35 2) (bpc 35 2) = true := by decide +kernel
theorem okb36_0 : okB 36 (blk 36 0) (bpc 36 0) = true := by decide +kernel
theorem okb36_1 : okB 36 (blk 36 1) (bpc 36 1) = true := by decide +kernel
theorem okb36_2 : okB 36 (blk 36 2) (bpc 36 2) = true := by decide +kernel
theorem okb37_0 : okB 37 (blk 37 0) (bpc 37 0) = true := by decide +kernel
theorem okb37_1 : okB 37 (blk 37 1) (bpc 37 1) = true := by decide +kernel
theorem okb37_2 : okB 37 (blk 37 2) (bpc 37 2) = true := by decide +kernel
theorem okb38_0 : okB 38 (blk 38 0) (bpc 38 0) = true := by decide +kernel
theorem okb38_1 : okB 38 (blk 38 1) (bpc 38 1) = true := by decide +kernel
theorem okb38_2 : okB 38 (blk 38 2) (bpc 38 2) = true := by decide +kernel
theorem okb38_3 : okB 38 (blk 38 3) (bpc 38 3) = true := by decide +kernel
theorem okb38_4 : okB 38 (blk 38 4) (bpc 38 4) = true := by decide +kernel
theorem okb38_5 : okB 38 (blk 38 5) (bpc 38 5) = true := by decide +kernel
theorem okb39_0 : okB 39 (blk 39 0) (bpc 39 0) = true := by decide +kernel
theorem okb39_1 : okB 39 (blk 39 1) (bpc 39 1) = true := by decide +kernel
theorem okb40_0 : okB 40 (blk 40 0) (bpc 40 0) = true := by decide +kernel
theorem okb40_1 : okB 40 (blk 40 1) (bpc 40 1) = true := by decide +kernel
theorem okb40_2 : okB 40 (blk 40 2) (bpc 40 2) = true := by decide +kernel
theorem okb40_3 : okB 40 (blk 40 3) (bpc 40 3) = true := by decide +kernel
theorem okb40_4 : okB 40 (blk 40 4) (bpc 40 4) = true := by decide +kernel
theorem okb41_0 : okB 41 (blk 41 0) (bpc 41 0) = true := by decide +kernel
theorem okb41_1 : okB 41 (blk 41 1) (bpc 41 1) = true := by decide +kernel
theorem okb42_0 : okB 42 (blk 42 0) (bpc 42 0) = true := by decide +kernel
theorem okb42_1 : okB 42 (blk 42 1) (bpc 42 1) = true := by decide +kernel
theorem okb42_2 : okB 42 (blk 42 2) (bpc 42 2) = true := by decide +kernel
theorem okb43_0 : okB 43 (blk 43 0) (bpc 43 0) = true := by decide +kernel
theorem okb44_0 : okB 44 (blk 44 0) (bpc 44 0) = true := by decide +kernel
theorem okb44_1 : okB 44 (blk 44 1) (bpc 44 1) = true := by decide +kernel
theorem okb44_2 : okB 44 (blk 44 2) (bpc 44 2) = true := by decide +kernel
end
section
theorem okb44_3 : okB 44 (blk 44 3) (bpc 44 3) = true := by decide +kernel
theorem okb45_0 : okB 45 (blk 45 0) (bpc 45 0) = true := by decide +kernel
theorem okb46_0 : okB 46 (blk 46 0) (bpc 46 0) = true := by decide +kernel
theorem okb46_1 : okB 46 (blk 46 1) (bpc 46 1) = true := by decide +kernel
theorem okb46_2 : okB 46 (blk 46 2) (bpc 46 2) = true := by decide +kernel
theorem okb47_0 : okB 47 (blk 47 0) (bpc 47 0) = true := by decide +kernel
theorem okb47_1 : okB 47 (blk 47 1) (bpc 47 1) = true := by decide +kernel
theorem okb47_2 : okB 47 (blk 47 2) (bpc 47 2) = true := by decide +kernel
theorem okb47_3 : okB 47 (blk 47 3) (bpc 47 3) = true := by decide +kernel
theorem okb48_0 : okB 48 (blk 48 0) (bpc 48 0) = true := by decide +kernel
theorem okb48_1 : okB 48 (blk 48 1) (bpc 48 1) = true := by decide +kernel
theorem okb48_2 : okB 48 (blk 48 2) (bpc 48 2) = true := by decide +kernel
theorem okb48_3 : okB 48 (blk 48 3) (bpc 48 3) = true := by decide +kernel
theorem okb48_4 : okB 48 (blk 48 4) (bpc 48 4) = true := by decide +kernel
theorem okb48_5 : okB 48 (blk 48 5) (bpc 48 5) = true := by decide +kernel
theorem okb48_6 : okB 48 (blk 48 6) (bpc 48 6) = true := by decide +kernel
theorem okb48_7 : okB 48 (blk 48 7) (bpc 48 7) = true := by decide +kernel
theorem okb49_0 : okB 49 (blk 49 0) (bpc 49 0) = true := by decide +kernel
theorem okb49_1 : okB 49 (blk 49 1) (bpc 49 1) = true := by decide +kernel
theorem okb50_0 : okB 50 (blk 50 0) (bpc 50 0) = true := by decide +kernel
theorem okb50_1 : okB 50 (blk 50 1) (bpc 50 1) = true := by decide +kernel
theorem okb50_2 : okB 50 (blk 50 2) (bpc 50 2) = true := by decide +kernel
theorem okb50_3 : okB 50 (blk 50 3) (bpc 50 3) = true := by decide +kernel
theorem okb51_0 : okB 51 (blk 51 0) (bpc 51 0) = true := by decide +kernel
theorem okb51_1 : okB 51 (blk 51 1) (bpc 51 1) = true := by decide +kernel
theorem okb52_0 : okB 52 (blk 52 0) (bpc 52 0) = true := by decide +kernel
theorem okb52_1 : okB 52 (blk 52 1) (bpc 52 1) = true := by decide +kernel
theorem okb52_2 : okB 52 (blk 52 2) (bpc 52 2) = true := by decide +kernel
theorem okb53_0 : okB 53 (blk 53 0) (bpc 53 0) = true := by decide +kernel
theorem okb53_1 : okB 53 (blk 53 1) (bpc 53 1) = true := by decide +kernel
theorem okb53_2 : okB 53 (blk 53 2) (bpc 53 2) = true := by decide +kernel
theorem okb54_0 : okB 54 (blk 54 0) (bpc 54 0) = true := by decide +kernel
theorem okb54_1 : okB 54 (blk 54 1) (bpc 54 1) = true := by decide +kernel
theorem okb54_2 : okB 54 (blk 54 2) (bpc 54 2) = true := by decide +kernel
theorem okb54_3 : okB 54 (blk 54 3) (bpc 54 3) = true := by decide +kernel
theorem okb54_4 : okB 54 (blk 54 4) (bpc 54 4) = true := by decide +kernel
theorem okb55_0 : okB 55 (blk 55 0) (bpc 55 0) = true := by decide +kernel
theorem okb55_1 : okB 55 (blk 55 1) (bpc 55 1) = true := by decide +kernel
theorem okb55_2 : okB 55 (blk 55 2) (bpc 55 2) = true := by decide +kernel
theorem okb55_3 : okB 55 (blk 55 3) (bpc 55 3) = true := by decide +kernel
theorem okb56_0 : okB 56 (blk 56 0) (bpc 56 0) = true := by decide +kernel
theorem okb56_1 : okB 56 (blk 56 1) (bpc 56 1) = true := by decide +kernel
theorem okb56_2 : okB 56 (blk 56 2) (bpc 56 2) = true := by decide +kernel
theorem okb57_0 : okB 57 (blk 57 0) (bpc 57 0) = true := by decide +kernel
theorem okb57_1 : okB 57 (blk 57 1) (bpc 57 1) = true := by decide +kernel
theorem okb57_2 : okB 57 (blk 57 2) (bpc 57 2) = true := by decide +kernel
theorem okb58_0 : okB 58 (blk 58 0) (bpc 58 0) = true := by decide +kernel
theorem okb58_1 : okB 58 (blk 58 1) (bpc 58 1) = true := by decide +kernel
theorem okb59_0 : okB 59 (blk 59 0) (bpc 59 0) = true := by decide +kernel
theorem okb59_1 : okB 59 (blk 59 1) (bpc 59 1) = true := by decide +kernel
theorem okb59_2 : okB 59 (blk 59 2) (bpc 59 2) = true := by decide +kernel
theorem okb60_0 : okB 60 (blk 60 0) (bpc 60 0) = true := by decide +kernel
theorem okb60_1 : okB 60 (blk 60 1) (bpc 60 1) = true := by decide +kernel
theorem okb60_2 : okB 60 (blk 60 2) (bpc 60 2) = true := by decide +kernel
theorem okb61_0 : okB 61 (blk 61 0) (bpc 61 0) = true := by decide +kernel
theorem okb61_1 : okB 61 (blk 61 1) (bpc 61 1) = true := by decide +kernel
theorem okb61_2 : okB 61 (blk 61 2) (bpc 61 2) = true := by decide +kernel
theorem okb61_3 : okB 61 (blk 61 3) (bpc 61 3) = true := by decide +kernel
theorem okb62_0 : okB 62 (blk 62 0) (bpc 62 0) = true := by decide +kernel
theorem okb62_1 : okB 62 (blk 62 1) (bpc 62 1) = true := by decide +kernel
theorem okb62_2 : okB 62 (blk 62 2) (bpc 62 2) = true := by decide +kernel
theorem okb62_3 : okB 62 (blk 62 3) (bpc 62 3) = true := by decide +kernel
theorem okb62_4 : okB 62 (blk 62 4) (bpc 62 4) = true := by decide +kernel
theorem okb63_0 : okB 63 (blk 63 0) (bpc 63 0) = true := by decide +kernel
theorem okb63_1 : okB 63 (blk 63 1) (bpc 63 1) = true := by decide +kernel
theorem okb63_2 : okB 63 (blk 63 2) (bpc 63 2) = true := by decide +kernel
theorem okb63_3 : okB 63 (blk 63 3) (bpc 63 3) = true := by decide +kernel
theorem okb64_0 : okB 64 (blk 64 0) (bpc 64 0) = true := by decide +kernel
theorem okb64_1 : okB 64 (blk 64 1) (bpc 64 1) = true := by decide +kernel
theorem okb64_2 : okB 64 (blk 64 2) (bpc 64 2) = true := by decide +kernel
theorem okb65_0 : okB 65 (blk 65 0) (bpc 65 0) = true := by decide +kernel
theorem okb65_1 : okB 65 (blk 65 1) (bpc 65 1) = true := by decide +kernel
theorem okb65_2 : okB 65 (blk 65 2) (bpc 65 2) = true := by decide +kernel
theorem okb65_3 : okB 65 (blk 65 3) (bpc 65 3) = true := by decide +kernel
theorem okb65_4 : okB 65 (blk 65 4) (bpc 65 4) = true := by decide +kernel
theorem okb65_5 : okB 65 (blk 65 5) (bpc 65 5) = true := by decide +kernel
theorem okb65_6 : okB 65 (blk 65 6) (bpc 65 6) = true := by decide +kernel
theorem okb65_7 : okB 65 (blk 65 7) (bpc 65 7) = true := by decide +kernel
theorem okb65_8 : okB 65 (blk 65 8) (bpc 65 8) = true := by decide +kernel
theorem okb65_9 : okB 65 (blk 65 9) (bpc 65 9) = true := by decide +kernel
theorem okb65_10 : okB 65 (blk 65 10) (bpc 65 10) = true := by decide +kernel
theorem okb65_11 : okB 65 (blk 65 11) (bpc 65 11) = true := by decide +kernel
theorem okb65_12 : okB 65 (blk 65 12) (bpc 65 12) = true := by decide +kernel
theorem okb65_13 : okB 65 (blk 65 13) (bpc 65 13) = true := by decide +kernel
theorem okb65_14 : okB 65 (blk 65 14) (bpc 65 14) = true := by decide +kernel
theorem okb65_15 : okB 65 (blk 65 15) (bpc 65 15) = true := by decide +kernel
theorem okb65_16 : okB 65 (blk 65 16) (bpc 65 16) = true := by decide +kernel
theorem okb65_17 : okB 65 (blk 65 17) (bpc 65 17) = true := by decide +kernel
theorem okb65_18 : okB 65 (blk 65 18) (bpc 65 18) = true := by decide +kernel
theorem okb66_0 : okB 66 (blk 66 0) (bpc 66 0) = true := by decide +kernel
theorem okb66_1 : okB 66 (blk 66 1) (bpc 66 1) = true := by decide +kernel
theorem okb66_2 : okB 66 (blk 66 2) (bpc 66 2) = true := by decide +kernel
theorem okb66_3 : okB 66 (blk 66 3) (bpc 66 3) = true := by decide +kernel
theorem okb66_4 : okB 66 (blk 66 4) (bpc 66 4) = true := by decide +kernel
theorem okb66_5 : okB 66 (blk 66 5) (bpc 66 5) = true := by decide +kernel
theorem okb66_6 : okB 66 (blk 66 6) (bpc 66 6) = true := by decide +kernel
theorem okb66_7 : okB 66 (blk 66 7) (bpc 66 7) = true := by decide +kernel
theorem okb66_8 : okB 66 (blk 66 8) (bpc 66 8) = true := by decide +kernel
theorem okb67_0 : okB 67 (blk 67 0) (bpc 67 0) = true := by decide +kernel
theorem okb67_1 : okB 67 (blk 67 1) (bpc 67 1) = true := by decide +kernel
theorem okb68_0 : okB 68 (blk 68 0) (bpc 68 0) = true := by decide +kernel
theorem okb68_1 : okB 68 (blk 68 1) (bpc 68 1) = true := by decide +kernel
theorem okb68_2 : okB 68 (blk 68 2) (bpc 68 2) = true := by decide +kernel
theorem okb69_0 : okB 69 (blk 69 0) (bpc 69 0) = true := by decide +kernel
theorem okb70_0 : okB 70 (blk 70 0) (bpc 70 0) = true := by decide +kernel
theorem okb70_1 : okB 70 (blk 70 1) (bpc 70 1) = true := by decide +kernel
theorem okb70_2 : okB 70 (blk 70 2) (bpc 70 2) = true := by decide +kernel
theorem okb70_3 : okB 70 (blk 70 3) (bpc 70 3) = true := by decide +kernel
theorem okb70_4 : okB 70 (blk 70 4) (bpc 70 4) = true := by decide +kernel
theorem okb71_0 : okB 71 (blk 71 0) (bpc 71 0) = true := by decide +kernel
theorem okb71_1 : okB 71 (blk 71 1) (bpc 71 1) = true := by decide +kernel
theorem okb72_0 : okB 72 (blk 72 0) (bpc 72 0) = true := by decide +kernel
theorem okb73_0 : okB 73 (blk 73 0) (bpc 73 0) = true := by decide +kernel
theorem okb73_1 : okB 73 (blk 73 1) (bpc 73 1) = true := by decide +kernel
theorem okb74_0 : okB 74 (blk 74 0) (bpc 74 0) = true := by decide +kernel
theorem okb74_1 : okB 74 (blk 74 1) (bpc 74 1) = true := by decide +kernel
theorem okb74_2 : okB 74 (blk 74 2) (bpc 74 2) = true := by decide +kernel
theorem okb74_3 : okB 74 (blk 74 3) (bpc 74 3) = true := by decide +kernel
theorem okb74_4 : okB 74 (blk 74 4) (bpc 74 4) = true := by decide +kernel
theorem okb74_5 : okB 74 (blk 74 5) (bpc 74 5) = true := by decide +kernel
theorem okb74_6 : okB 74 (blk 74 6) (bpc 74 6) = true := by decide +kernel
theorem okb75_0 : okB 75 (blk 75 0) (bpc 75 0) = true := by decide +kernel
theorem okb75_1 : okB 75 (blk 75 1) (bpc 75 1) = true := by decide +kernel
theorem okb75_2 : okB 75 (blk 75 2) (bpc 75 2) = true := by decide +kernel
theorem okb75_3 : okB 75 (blk 75 3) (bpc 75 3) = true := by decide +kernel
theorem okb75_4 : okB 75 (blk 75 4) (bpc 75 4) = true := by decide +kernel
theorem okb75_5 : okB 75 (blk 75 5) (bpc 75 5) = true := by decide +kernel
theorem okb75_6 : okB 75 (blk 75 6) (bpc 75 6) = true := by decide +kernel
theorem okb75_7 : okB 75 (blk 75 7) (bpc 75 7) = true := by decide +kernel
theorem okb75_8 : okB 75 (blk 75 8) (bpc 75 8) = true := by decide +kernel
theorem okb75_9 : okB 75 (blk 75 9) (bpc 75 9) = true := by decide +kernel
theorem okb75_10 : okB 75 (blk 75 10) (bpc 75 10) = true := by decide +kernel
theorem okb75_11 : okB 75 (blk 75 11) (bpc 75 11) = true := by decide +kernel
theorem okb76_0 : okB 76 (blk 76 0) (bpc 76 0) = true := by decide +kernel
theorem okb76_1 : okB 76 (blk 76 1) (bpc 76 1) = true := by decide +kernel
theorem okb76_2 : okB 76 (blk 76 2) (bpc 76 2) = true := by decide +kernel
theorem okb77_0 : okB 77 (blk 77 0) (bpc 77 0) = true := by decide +kernel
theorem okb77_1 : okB 77 (blk 77 1) (bpc 77 1) = true := by decide +kernel
theorem okb77_2 : okB 77 (blk 77 2) (bpc 77 2) = true := by decide +kernel
theorem okb78_0 : okB 78 (blk 78 0) (bpc 78 0) = true := by decide +kernel
theorem okb79_0 : okB 79 (blk 79 0) (bpc 79 0) = true := by decide +kernel
theorem okb79_1 : okB 79 (blk 79 1) (bpc 79 1) = true := by decide +kernel
theorem okb79_2 : okB 79 (blk 79 2) (bpc 79 2) = true := by decide +kernel
theorem okb80_0 : okB 80 (blk 80 0) (bpc 80 0) = true := by decide +kernel
theorem okb80_1 : okB 80 (blk 80 1) (bpc 80 1) = true := by decide +kernel
theorem okb80_2 : okB 80 (blk 80 2) (bpc 80 2) = true := by decide +kernel
theorem okb81_0 : okB 81 (blk 81 0) (bpc 81 0) = true := by decide +kernel
theorem okb82_0 : okB 82 (blk 82 0) (bpc 82 0) = true := by decide +kernel
theorem okb83_0 : okB 83 (blk 83 0) (bpc 83 0) = true := by decide +kernel
theorem okb83_1 : okB 83 (blk 83 1) (bpc 83 1) = true := by decide +kernel
theorem okb84_0 : okB 84 (blk 84 0) (bpc 84 0) = true := by decide +kernel
theorem okb84_1 : okB 84 (blk 84 1) (bpc 84 1) = true := by decide +kernel
theorem okb84_2 : okB 84 (blk 84 2) (bpc 84 2) = true := by decide +kernel
end
section
theorem okb85_0 : okB 85 (blk 85 0) (bpc 85 0) = true := by decide +kernel
theorem okb85_1 : okB 85 (blk 85 1) (bpc 85 1) = true := by decide +kernel
theorem okb85_2 : okB 85 (blk 85 2) (bpc 85 2) = true := by decide +kernel
theorem okb86_0 : okB 86 (blk 86 0) (bpc 86 0) = true := by decide +kernel
theorem okb87_0 : okB 87 (blk 87 0) (bpc 87 0) = true := by decide +kernel
theorem okb87_1 : okB 87 (blk 87 1) (bpc 87 1) = true := by decide +kernel
theorem okb87_2 : okB 87 (blk 87 2) (bpc 87 2) = true := by decide +kernel
theorem okb88_0 : okB 88 (blk 88 0) (bpc 88 0) = true := by decide +kernel
theorem okb89_0 : okB 89 (blk 89 0) (bpc 89 0) = true := by decide +kernel
theorem okb90_0 : okB 90 (blk 90 0) (bpc 90 0) = true := by decide +kernel
theorem okb90_1 : okB 90 (blk 90 1) (bpc 90 1) = true := by decide +kernel
theorem okb90_2 : okB 90 (blk 90 2) (bpc 90 2) = true := by decide +kernel
theorem okb91_0 : okB 91 (blk 91 0) (bpc 91 0) = true := by decide +kernel
theorem okb91_1 : okB 91 (blk 91 1) (bpc 91 1) = true := by decide +kernel
theorem okb91_2 : okB 91 (blk 91 2) (bpc 91 2) = true := by decide +kernel
theorem okb92_0 : okB 92 (blk 92 0) (bpc 92 0) = true := by decide +kernel
theorem okb92_1 : okB 92 (blk 92 1) (bpc 92 1) = true := by decide +kernel
theorem okb92_2 : okB 92 (blk 92 2) (bpc 92 2) = true := by decide +kernel
theorem okb93_0 : okB 93 (blk 93 0) (bpc 93 0) = true := by decide +kernel
theorem okb93_1 : okB 93 (blk 93 1) (bpc 93 1) = true := by decide +kernel
theorem okb93_2 : okB 93 (blk 93 2) (bpc 93 2) = true := by decide +kernel
theorem okb94_0 : okB 94 (blk 94 0) (bpc 94 0) = true := by decide +kernel
theorem okb94_1 : okB 94 (blk 94 1) (bpc 94 1) = true := by decide +kernel
theorem okb94_2 : okB 94 (blk 94 2) (bpc 94 2) = true := by decide +kernel
theorem okb95_0 : okB 95 (blk 95 0) (bpc 95 0) = true := by decide +kernel
theorem okb95_1 : okB 95 (blk 95 1) (bpc 95 1) = true := by decide +kernel
theorem okb95_2 : okB 95 (blk 95 2) (bpc 95 2) = true := by decide +kernel
theorem okb96_0 : okB 96 (blk 96 0) (bpc 96 0) = true := by decide +kernel
theorem okb96_1 : okB 96 (blk 96 1) (bpc 96 1) = true := by decide +kernel
theorem okb96_2 : okB 96 (blk 96 2) (bpc 96 2) = true := by decide +kernel
theorem okb97_0 : okB 97 (blk 97 0) (bpc 97 0) = true := by decide +kernel
theorem okb97_1 : okB 97 (blk 97 1) (bpc 97 1) = true := by decide +kernel
theorem okb97_2 : okB 97 (blk 97 2) (bpc 97 2) = true := by decide +kernel
theorem okb98_0 : okB 98 (blk 98 0) (bpc 98 0) = true := by decide +kernel
theorem okb98_1 : okB 98 (blk 98 1) (bpc 98 1) = true := by decide +kernel
theorem okb99_0 : okB 99 (blk 99 0) (bpc 99 0) = true := by decide +kernel
theorem okb99_1 : okB 99 (blk 99 1) (bpc 99 1) = true := by decide +kernel
theorem okb99_2 : okB 99 (blk 99 2) (bpc 99 2) = true := by decide +kernel
theorem okb100_0 : okB 100 (blk 100 0) (bpc 100 0) = true := by decide +kernel
theorem okb100_1 : okB 100 (blk 100 1) (bpc 100 1) = true := by decide +kernel
theorem okb100_2 : okB 100 (blk 100 2) (bpc 100 2) = true := by decide +kernel
theorem okb100_3 : okB 100 (blk 100 3) (bpc 100 3) = true := by decide +kernel
theorem okb101_0 : okB 101 (blk 101 0) (bpc 101 0) = true := by decide +kernel
theorem okb101_1 : okB 101 (blk 101 1) (bpc 101 1) = true := by decide +kernel
theorem okb101_2 : okB 101 (blk 101 2) (bpc 101 2) = true := by decide +kernel
theorem okb101_3 : okB 101 (blk 101 3) (bpc 101 3) = true := by decide +kernel
theorem okb101_4 : okB 101 (blk 101 4) (bpc 101 4) = true := by decide +kernel
theorem okb102_0 : okB 102 (blk 102 0) (bpc 102 0) = true := by decide +kernel
theorem okb102_1 : okB 102 (blk 102 1) (bpc 102 1) = true := by decide +kernel
theorem okb102_2 : okB 102 (blk 102 2) (bpc 102 2) = true := by decide +kernel
theorem okb102_3 : okB 102 (blk 102 3) (bpc 102 3) = true := by decide +kernel
theorem okb103_0 : okB 103 (blk 103 0) (bpc 103 0) = true := by decide +kernel
theorem okb104_0 : okB 104 (blk 104 0) (bpc 104 0) = true := by decide +kernel
theorem okb104_1 : okB 104 (blk 104 1) (bpc 104 1) = true := by decide +kernel
theorem okb104_2 : okB 104 (blk 104 2) (bpc 104 2) = true := by decide +kernel
theorem okb105_0 : okB 105 (blk 105 0) (bpc 105 0) = true := by decide +kernel
theorem okb105_1 : okB 105 (blk 105 1) (bpc 105 1) = true := by decide +kernel
theorem okb105_2 : okB 105 (blk 105 2) (bpc 105 2) = true := by decide +kernel
theorem okb105_3 : okB 105 (blk 105 3) (bpc 105 3) = true := by decide +kernel
theorem okb105_4 : okB 105 (blk 105 4) (bpc 105 4) = true := by decide +kernel
theorem okb105_5 : okB 105 (blk 105 5) (bpc 105 5) = true := by decide +kernel
theorem okb105_6 : okB 105 (blk 105 6) (bpc 105 6) = true := by decide +kernel
theorem okb105_7 : okB 105 (blk 105 7) (bpc 105 7) = true := by decide +kernel
theorem okb105_8 : okB 105 (blk 105 8) (bpc 105 8) = true := by decide +kernel
theorem okb105_9 : okB 105 (blk 105 9) (bpc 105 9) = true := by decide +kernel
theorem okb105_10 : okB 105 (blk 105 10) (bpc 105 10) = true := by decide +kernel
theorem okb105_11 : okB 105 (blk 105 11) (bpc 105 11) = true := by decide +kernel
theorem okb105_12 : okB 105 (blk 105 12) (bpc 105 12) = true := by decide +kernel
theorem okb105_13 : okB 105 (blk 105 13) (bpc 105 13) = true := by decide +kernel
theorem okb105_14 : okB 105 (blk 105 14) (bpc 105 14) = true := by decide +kernel
theorem okb105_15 : okB 105 (blk 105 15) (bpc 105 15) = true := by decide +kernel
theorem okb106_0 : okB 106 (blk 106 0) (bpc 106 0) = true := by decide +kernel
theorem okb106_1 : okB 106 (blk 106 1) (bpc 106 1) = true := by decide +kernel
theorem okb106_2 : okB 106 (blk 106 2) (bpc 106 2) = true := by decide +kernel
theorem okb106_3 : okB 106 (blk 106 3) (bpc 106 3) = true := by decide +kernel
theorem okb106_4 : okB 106 (blk 106 4) (bpc 106 4) = true := by decide +kernel
theorem okb106_5 : okB 106 (blk 106 5) (bpc 106 5) = true := by decide +kernel
theorem okb106_6 : okB 106 (blk 106 6) (bpc 106 6) = true := by decide +kernel
theorem okb106_7 : okB 106 (blk 106 7) (bpc 106 7) = true := by decide +kernel
theorem okb106_8 : okB 106 (blk 106 8) (bpc 106 8) = true := by decide +kernel
theorem okb106_9 : okB 106 (blk 106 9) (bpc 106 9) = true := by decide +kernel
theorem okb107_0 : okB 107 (blk 107 0) (bpc 107 0) = true := by decide +kernel
theorem okb107_1 : okB 107 (blk 107 1) (bpc 107 1) = true := by decide +kernel
theorem okb107_2 : okB 107 (blk 107 2) (bpc 107 2) = true := by decide +kernel
theorem okb107_3 : okB 107 (blk 107 3) (bpc 107 3) = true := by decide +kernel
theorem okb107_4 : okB 107 (blk 107 4) (bpc 107 4) = true := by decide +kernel
theorem okb107_5 : okB 107 (blk 107 5) (bpc 107 5) = true := by decide +kernel
theorem okb108_0 : okB 108 (blk 108 0) (bpc 108 0) = true := by decide +kernel
theorem okb108_1 : okB 108 (blk 108 1) (bpc 108 1) = true := by decide +kernel
theorem okb108_2 : okB 108 (blk 108 2) (bpc 108 2) = true := by decide +kernel
theorem okb108_3 : okB 108 (blk 108 3) (bpc 108 3) = true := by decide +kernel
theorem okb108_4 : okB 108 (blk 108 4) (bpc 108 4) = true := by decide +kernel
theorem okb108_5 : okB 108 (blk 108 5) (bpc 108 5) = true := by decide +kernel
theorem okb108_6 : okB 108 (blk 108 6) (bpc 108 6) = true := by decide +kernel
theorem okb108_7 : okB 108 (blk 108 7) (bpc 108 7) = true := by decide +kernel
theorem okb108_8 : okB 108 (blk 108 8) (bpc 108 8) = true := by decide +kernel
theorem okb108_9 : okB 108 (blk 108 9) (bpc 108 9) = true := by decide +kernel
theorem okb109_0 : okB 109 (blk 109 0) (bpc 109 0) = true := by decide +kernel
theorem okb109_1 : okB 109 (blk 109 1) (bpc 109 1) = true := by decide +kernel
theorem okb109_2 : okB 109 (blk 109 2) (bpc 109 2) = true := by decide +kernel
theorem okb110_0 : okB 110 (blk 110 0) (bpc 110 0) = true := by decide +kernel
theorem okb110_1 : okB 110 (blk 110 1) (bpc 110 1) = true := by decide +kernel
theorem okb110_2 : okB 110 (blk 110 2) (bpc 110 2) = true := by decide +kernel
theorem okb111_0 : okB 111 (blk 111 0) (bpc 111 0) = true := by decide +kernel
theorem okb111_1 : okB 111 (blk 111 1) (bpc 111 1) = true := by decide +kernel
theorem okb111_2 : okB 111 (blk 111 2) (bpc 111 2) = true := by decide +kernel
theorem okb111_3 : okB 111 (blk 111 3) (bpc 111 3) = true := by decide +kernel
theorem okb111_4 : okB 111 (blk 111 4) (bpc 111 4) = true := by decide +kernel
theorem okb111_5 : okB 111 (blk 111 5) (bpc 111 5) = true := by decide +kernel
theorem okb111_6 : okB 111 (blk 111 6) (bpc 111 6) = true := by decide +kernel
theorem okb111_7 : okB 111 (blk 111 7) (bpc 111 7) = true := by decide +kernel
theorem okb111_8 : okB 111 (blk 111 8) (bpc 111 8) = true := by decide +kernel
theorem okb111_9 : okB 111 (blk 111 9) (bpc 111 9) = true := by decide +kernel
theorem okb111_10 : okB 111 (blk 111 10) (bpc 111 10) = true := by decide +kernel
theorem okb111_11 : okB 111 (blk 111 11) (bpc 111 11) = true := by decide +kernel
theorem okb111_12 : okB 111 (blk 111 12) (bpc 111 12) = true := by decide +kernel
theorem okb111_13 : okB 111 (blk 111 13) (bpc 111 13) = true := by decide +kernel
theorem okb111_14 : okB 111 (blk 111 14) (bpc 111 14) = true := by decide +kernel
theorem okb111_15 : okB 111 (blk 111 15) (bpc 111 15) = true := by decide +kernel
theorem okb111_16 : okB 111 (blk 111 16) (bpc 111 16) = true := by decide +kernel
theorem okb111_17 : okB 111 (blk 111 17) (bpc 111 17) = true := by decide +kernel
theorem okb111_18 : okB 111 (blk 111 18) (bpc 111 18) = true := by decide +kernel
end
section
theorem okb112_0 : okB 112 (blk 112 0) (bpc 112 0) = true := by decide +kernel
theorem okb112_1 : okB 112 (blk 112 1) (bpc 112 1) = true := by decide +kernel
theorem okb112_2 : okB 112 (blk 112 2) (bpc 112 2) = true := by decide +kernel
theorem okb113_0 : okB 113 (blk 113 0) (bpc 113 0) = true := by decide +kernel
theorem okb113_1 : okB 113 (blk 113 1) (bpc 113 1) = true := by decide +kernel
theorem okb113_2 : okB 113 (blk 113 2) (bpc 113 2) = true := by decide +kernel
theorem okb113_3 : okB 113 (blk 113 3) (bpc 113 3) = true := by decide +kernel
theorem okb113_4 : okB 113 (blk 113 4) (bpc 113 4) = true := by decide +kernel
theorem okb113_5 : okB 113 (blk 113 5) (bpc 113 5) = true := by decide +kernel
theorem okb113_6 : okB 113 (blk 113 6) (bpc 113 6) = true := by decide +kernel
theorem okb113_7 : okB 113 (blk 113 7) (bpc 113 7) = true := by decide +kernel
theorem okb113_8 : okB 113 (blk 113 8) (bpc 113 8) = true := by decide +kernel
theorem okb114_0 : okB 114 (blk 114 0) (bpc 114 0) = true := by decide +kernel
theorem okb114_1 : okB 114 (blk 114 1) (bpc 114 1) = true := by decide +kernel
theorem okb114_2 : okB 114 (blk 114 2) (bpc 114 2) = true := by decide +kernel
theorem okb114_3 : okB 114 (blk 114 3) (bpc 114 3) = true := by decide +kernel
theorem okb114_4 : okB 114 (blk 114 4) (bpc 114 4) = true := by decide +kernel
theorem okb115_0 : okB 115 (blk 115 0) (bpc 115 0) = true := by decide +kernel
theorem okb115_1 : okB 115 (blk 115 1) (bpc 115 1) = true := by decide +kernel
theorem okb115_2 : okB 115 (blk 115 2) (bpc 115 2) = true := by decide +kernel
theorem okb116_0 : okB 116 (blk 116 0) (bpc 116 0) = true := by decide +kernel
theorem okb116_1 : okB 116 (blk 116 1) (bpc 116 1) = true := by decide +kernel
theorem okb116_2 : okB 116 (blk 116 2) (bpc 116 2) = true := by decide +kernel
theorem okb116_3 : okB 116 (blk 116 3) (bpc 116 3) = true := by decide +kernel
theorem okb116_4 : okB 116 (blk 116 4) (bpc 116 4) = true := by decide +kernel
theorem okb116_5 : okB 116 (blk 116 5) (bpc 116 5) = true := by decide +kernel
theorem okb116_6 : okB 116 (blk 116 6) (bpc 116 6) = true := by decide +kernel
theorem okb116_7 : okB 116 (blk 116 7) (bpc 116 7) = true := by decide +kernel
theorem okb116_8 : okB 116 (blk 116 8) (bpc 116 8) = true := by decide +kernel
theorem okb116_9 : okB 116 (blk 116 9) (bpc 116 9) = true := by decide +kernel
theorem okb117_0 : okB 117 (blk 117 0) (bpc 117 0) = true := by decide +kernel
theorem okb117_1 : okB 117 (blk 117 1) (bpc 117 1) = true := by decide +kernel
theorem okb117_2 : okB 117 (blk 117 2) (bpc 117 2) = true := by decide +kernel
theorem okb117_3 : okB 117 (blk 117 3) (bpc 117 3) = true := by decide +kernel
theorem okb117_4 : okB 117 (blk 117 4) (bpc 117 4) = true := by decide +kernel
theorem okb117_5 : okB 117 (blk 117 5) (bpc 117 5) = true := by decide +kernel
theorem okb118_0 : okB 118 (blk 118 0) (bpc 118 0) = true := by decide +kernel
theorem okb118_1 : okB 118 (blk 118 1) (bpc 118 1) = true := by decide +kernel
theorem okb118_2 : okB 118 (blk 118 2) (bpc 118 2) = true := by decide +kernel
theorem okb119_0 : okB 119 (blk 119 0) (bpc 119 0) = true := by decide +kernel
theorem okb119_1 : okB 119 (blk 119 1) (bpc 119 1) = true := by decide +kernel
theorem okb120_0 : okB 120 (blk 120 0) (bpc 120 0) = true := by decide +kernel
theorem okb120_1 : okB 120 (blk 120 1) (bpc 120 1) = true := by decide +kernel
theorem okb120_2 : okB 120 (blk 120 2) (bpc 120 2) = true := by decide +kernel
theorem okb120_3 : okB 120 (blk 120 3) (bpc 120 3) = true := by decide +kernel
theorem okb120_4 : okB 120 (blk 120 4) (bpc 120 4) = true := by decide +kernel
theorem okb120_5 : okB 120 (blk 120 5) (bpc 120 5) = true := by decide +kernel
theorem okb120_6 : okB 120 (blk 120 6) (bpc 120 6) = true := by decide +kernel
theorem okb120_7 : okB 120 (blk 120 7) (bpc 120 7) = true := by decide +kernel
theorem okb120_8 : okB 120 (blk 120 8) (bpc 120 8) = true := by decide +kernel
theorem okb120_9 : okB 120 (blk 120 9) (bpc 120 9) = true := by decide +kernel
theorem okb121_0 : okB 121 (blk 121 0) (bpc 121 0) = true := by decide +kernel
theorem okb121_1 : okB 121 (blk 121 1) (bpc 121 1) = true := by decide +kernel
theorem okb121_2 : okB 121 (blk 121 2) (bpc 121 2) = true := by decide +kernel
theorem okb121_3 : okB 121 (blk 121 3) (bpc 121 3) = true := by decide +kernel
theorem okb121_4 : okB 121 (blk 121 4) (bpc 121 4) = true := by decide +kernel
theorem okb121_5 : okB 121 (blk 121 5) (bpc 121 5) = true := by decide +kernel
theorem okb121_6 : okB 121 (blk 121 6) (bpc 121 6) = true := by decide +kernel
theorem okb121_7 : okB 121 (blk 121 7) (bpc 121 7) = true := by decide +kernel
theorem okb122_0 : okB 122 (blk 122 0) (bpc 122 0) = true := by decide +kernel
theorem okb122_1 : okB 122 (blk 122 1) (bpc 122 1) = true := by decide +kernel
theorem okb122_2 : okB 122 (blk 122 2) (bpc 122 2) = true := by decide +kernel
theorem okb122_3 : okB 122 (blk 122 3) (bpc 122 3) = true := by decide +kernel
theorem okb122_4 : okB 122 (blk 122 4) (bpc 122 4) = true := by decide +kernel
theorem okb123_0 : okB 123 (blk 123 0) (bpc 123 0) = true := by decide +kernel
theorem okb123_1 : okB 123 (blk 123 1) (bpc 123 1) = true := by decide +kernel
theorem okb123_2 : okB 123 (blk 123 2) (bpc 123 2) = true := by decide +kernel
theorem okb123_3 : okB 123 (blk 123 3) (bpc 123 3) = true := by decide +kernel
theorem okb123_4 : okB 123 (blk 123 4) (bpc 123 4) = true := by decide +kernel
theorem okb123_5 : okB 123 (blk 123 5) (bpc 123 5) = true := by decide +kernel
theorem okb124_0 : okB 124 (blk 124 0) (bpc 124 0) = true := by decide +kernel
theorem okb124_1 : okB 124 (blk 124 1) (bpc 124 1) = true := by decide +kernel
theorem okb124_2 : okB 124 (blk 124 2) (bpc 124 2) = true := by decide +kernel
theorem okb124_3 : okB 124 (blk 124 3) (bpc 124 3) = true := by decide +kernel
theorem okb124_4 : okB 124 (blk 124 4) (bpc 124 4) = true := by decide +kernel
theorem okb124_5 : okB 124 (blk 124 5) (bpc 124 5) = true := by decide +kernel
theorem okb124_6 : okB 124 (blk 124 6) (bpc 124 6) = true := by decide +kernel
theorem okb125_0 : okB 125 (blk 125 0) (bpc 125 0) = true := by decide +kernel
theorem okb125_1 : okB 125 (blk 125 1) (bpc 125 1) = true := by decide +kernel
theorem okb125_2 : okB 125 (blk 125 2) (bpc 125 2) = true := by decide +kernel
theorem okb125_3 : okB 125 (blk 125 3) (bpc 125 3) = true := by decide +kernel
theorem okb125_4 : okB 125 (blk 125 4) (bpc 125 4) = true := by decide +kernel
theorem okb125_5 : okB 125 (blk 125 5) (bpc 125 5) = true := by decide +kernel
theorem okb125_6 : okB 125 (blk 125 6) (bpc 125 6) = true := by decide +kernel
theorem okb125_7 : okB 125 (blk 125 7) (bpc 125 7) = true := by decide +kernel
theorem okb125_8 : okB 125 (blk 125 8) (bpc 125 8) = true := by decide +kernel
theorem okb125_9 : okB 125 (blk 125 9) (bpc 125 9) = true := by decide +kernel
theorem okb125_10 : okB 125 (blk 125 10) (bpc 125 10) = true := by decide +kernel
theorem okb125_11 : okB 125 (blk 125 11) (bpc 125 11) = true := by decide +kernel
theorem okb125_12 : okB 125 (blk 125 12) (bpc 125 12) = true := by decide +kernel
theorem okb125_13 : okB 125 (blk 125 13) (bpc 125 13) = true := by decide +kernel
theorem okb125_14 : okB 125 (blk 125 14) (bpc 125 14) = true := by decide +kernel
theorem okb125_15 : okB 125 (blk 125 15) (bpc 125 15) = true := by decide +kernel
theorem okb125_16 : okB 125 (blk 125 16) (bpc 125 16) = true := by decide +kernel
theorem okb125_17 : okB 125 (blk 125 17) (bpc 125 17) = true := by decide +kernel
theorem okb125_18 : okB 125 (blk 125 18) (bpc 125 18) = true := by decide +kernel
theorem okb125_19 : okB 125 (blk 125 19) (bpc 125 19) = true := by decide +kernel
theorem okb125_20 : okB 125 (blk 125 20) (bpc 125 20) = true := by decide +kernel
theorem okb126_0 : okB 126 (blk 126 0) (bpc 126 0) = true := by decide +kernel
theorem okb126_1 : okB 126 (blk 126 1) (bpc 126 1) = true := by decide +kernel
theorem okb126_2 : okB 126 (blk 126 2) (bpc 126 2) = true := by decide +kernel
theorem okb127_0 : okB 127 (blk 127 0) (bpc 127 0) = true := by decide +kernel
theorem okb127_1 : okB 127 (blk 127 1) (bpc 127 1) = true := by decide +kernel
theorem okb127_2 : okB 127 (blk 127 2) (bpc 127 2) = true := by decide +kernel
theorem okb127_3 : okB 127 (blk 127 3) (bpc 127 3) = true := by decide +kernel
theorem okb127_4 : okB 127 (blk 127 4) (bpc 127 4) = true := by decide +kernel
theorem okb127_5 : okB 127 (blk 127 5) (bpc 127 5) = true := by decide +kernel
theorem okb128_0 : okB 128 (blk 128 0) (bpc 128 0) = true := by decide +kernel
theorem okb128_1 : okB 128 (blk 128 1) (bpc 128 1) = true := by decide +kernel
theorem okb128_2 : okB 128 (blk 128 2) (bpc 128 2) = true := by decide +kernel
theorem okb128_3 : okB 128 (blk 128 3) (bpc 128 3) = true := by decide +kernel
theorem okb128_4 : okB 128 (blk 128 4) (bpc 128 4) = true := by decide +kernel
theorem okb128_5 : okB 128 (blk 128 5) (bpc 128 5) = true := by decide +kernel
theorem okb129_0 : okB 129 (blk 129 0) (bpc 129 0) = true := by decide +kernel
theorem okb129_1 : okB 129 (blk 129 1) (bpc 129 1) = true := by decide +kernel
theorem okb129_2 : okB 129 (blk 129 2) (bpc 129 2) = true := by decide +kernel
theorem okb129_3 : okB 129 (blk 129 3) (bpc 129 3) = true := by decide +kernel
theorem okb129_4 : okB 129 (blk 129 4) (bpc 129 4) = true := by decide +kernel
theorem okb129_5 : okB 129 (blk 129 5) (bpc 129 5) = true := by decide +kernel
theorem okb129_6 : okB 129 (blk 129 6) (bpc 129 6) = true := by decide +kernel
theorem okb129_7 : okB 129 (blk 129 7) (bpc 129 7) = true := by decide +kernel
theorem okb130_0 : okB 130 (blk 130 0) (bpc 130 0) = true := by decide +kernel
theorem okb130_1 : okB 130 (blk 130 1) (bpc 130 1) = true := by decide +kernel
theorem okb130_2 : okB 130 (blk 130 2) (bpc 130 2) = true := by decide +kernel
theorem okb130_3 : okB 130 (blk 130 3) (bpc 130 3) = true := by decide +kernel
theorem okb130_4 : okB 130 (blk 130 4) (bpc 130 4) = true := by decide +kernel
theorem okb130_5 : okB 130 (blk 130 5) (bpc 130 5) = true := by decide +kernel
theorem okb130_6 : okB 130 (blk 130 6) (bpc 130 6) = true := by decide +kernel
theorem okb130_7 : okB 130 (blk 130 7) (bpc 130 7) = true := by decide +kernel
theorem okb130_8 : okB 130 (blk 130 8) (bpc 130 8) = true := by decide +kernel
theorem okb130_9 : okB 130 (blk 130 9) (bpc 130 9) = true := by decide +kernel
theorem okb130_10 : okB 130 (blk 130 10) (bpc 130 10) = true := by decide +kernel
theorem okb130_11 : okB 130 (blk 130 11) (bpc 130 11) = true := by decide +kernel
theorem okb131_0 : okB 131 (blk 131 0) (bpc 131 0) = true := by decide +kernel
theorem okb131_1 : okB 131 (blk 131 1) (bpc 131 1) = true := by decide +kernel
theorem okb131_2 : okB 131 (blk 131 2) (bpc 131 2) = true := by decide +kernel
theorem okb131_3 : okB 131 (blk 131 3) (bpc 131 3) = true := by decide +kernel
theorem okb131_4 : okB 131 (blk 131 4) (bpc 131 4) = true := by decide +kernel
theorem okb131_5 : okB 131 (blk 131 5) (bpc 131 5) = true := by decide +kernel
theorem okb131_6 : okB 131 (blk 131 6) (bpc 131 6) = true := by decide +kernel
theorem okb131_7 : okB 131 (blk 131 7) (bpc 131 7) = true := by decide +kernel
theorem okb131_8 : okB 131 (blk 131 8) (bpc 131 8) = true := by decide +kernel
theorem okb131_9 : okB 131 (blk 131 9) (bpc 131 9) = true := by decide +kernel
theorem okb131_10 : okB 131 (blk 131 10) (bpc 131 10) = true := by decide +kernel
theorem okb131_11 : okB 131 (blk 131 11) (bpc 131 11) = true := by decide +kernel
theorem okb131_12 : okB 131 (blk 131 12) (bpc 131 12) = true := by decide +kernel
theorem okb131_13 : okB 131 (blk 131 13) (bpc 131 13) = true := by decide +kernel
theorem okb131_14 : okB 131 (blk 131 14) (bpc 131 14) = true := by decide +kernel
theorem okb131_15 : okB 131 (blk 131 15) (bpc 131 15) = true := by decide +kernel
theorem okb132_0 : okB 132 (blk 132 0) (bpc 132 0) = true := by decide +kernel
theorem okb132_1 : okB 132 (blk 132 1) (bpc 132 1) = true := by decide +kernel
theorem okb132_2 : okB 132 (blk 132 2) (bpc 132 2) = true := by decide +kernel
end
section
/-! the small machine's cells in the heap -/
def lw_ok : List Cond := lw_tbl.filter goodWord
theorem ok_in {w : Cond} (h : w ∈ lw_tbl) (hg : goodWord w = true) : w ∈ lw_ok := List.mem_filter.mpr ⟨h, hg⟩
theorem good_in {ws : List Cond} (h : ∀ w ∈ ws, w ∈ lw_ok) : GoodIn lw_ok ws := fun w hw => ⟨h w hw, good_of_word (List.mem_filter.mp (h w hw)).2⟩
theorem at_in {w : Cond} {i : Nat} (h : lw_tbl[i]? = some w) (hg : goodWord w = true) : w ∈ lw_ok := ok_in (List.mem_of_getElem? h) hg
def cvv (ad : Nat → Nat) : AV → Value
  | .inl x => .int (Int32.ofInt x)
  | .inr (.inl x) => .long (Int64.ofInt x)
  | .inr (.inr k) => .ref (ad k)
def fvl (ad : Nat → Nat) (M : Me) (o k : Nat) : Value := match fk o k with
  | 0 => .int (Int32.ofInt (M o k))
  | 1 => .int (Int32.ofInt (M o k))
  | r + 2 => .ref (ad r)
def fvs (ad : Nat → Nat) (M : Me) (o : Nat) : List Value := (List.range (clN (oc o))).map (fvl ad M o)
def ent (ad : Nat → Nat) (cI cZ cJ : ClassId) (M : Me) (k : Nat) : va_E := match kd k with
  | 0 => .inr (oc k, fvs ad M k)
  | 1 => .inl (cI, (ln k).toNat, .inl (fun j => Int32.ofInt (M k (j : Int))))
  | 2 => .inl (cZ, (ln k).toNat, .inl (fun j => Int32.ofInt (M k (j : Int))))
  | _ => .inl (cJ, (ln k).toNat, .inr (.inl (fun j => Int64.ofInt (M k (j : Int)))))
def wsM (ad : Nat → Nat) (cI cZ cJ : ClassId) (M : Me) : va_W := (List.range 86).map (fun k => (ad k, ent ad cI cZ cJ M k))
def rg (k : Nat) (x : Int) : Prop := if kd k = 3 then -9223372036854775808 ≤ x ∧ x < 9223372036854775808 else -2147483648 ≤ x ∧ x < 2147483648
def okM (S M : Me) : Prop := (∀ k j, rg k (M k j)) ∧ ∀ j, M 98 j = S 98 j ∧ M 99 j = S 99 j
def okV : AV → Prop
  | .inl x => -2147483648 ≤ x ∧ x < 2147483648
  | .inr (.inl x) => -9223372036854775808 ≤ x ∧ x < 9223372036854775808
  | .inr (.inr _) => True
def okS (st : St) : Prop := ∀ v ∈ st, okV v
def okO (lo : Lo) : Prop := ∀ (i : Nat) (v : AV), lg lo i = some v → okV v
def prs (ad : Nat → Nat) (lo : Lo) : List (Nat × Value) := lo.zipIdx.filterMap fun q => q.1.map fun v => (q.2, cvv ad v)
theorem nt_get {α : Type} (d : α) : ∀ (l : List α) (n : Nat), nt d l n = (l[n]?).getD d
  | [], _ => rfl
  | _ :: _, 0 => rfl
  | _ :: l, n + 1 => by rw [nt, nt_get d l n]; simp
theorem nt_lt {α : Type} {d : α} {l : List α} {n : Nat} (h : nt d l n ≠ d) : n < l.length := by
  rcases Nat.lt_or_ge n l.length with h1 | h1
  · exact h1
  · rw [nt_get, List.getElem?_eq_none h1] at h
    exact absurd rfl h
theorem lg_iff {lo : Lo} {i : Nat} {v : AV} : lg lo i = some v ↔ lo[i]? = some (some v) := by
  unfold lg
  rw [nt_get]
  cases h : lo[i]? with
  | none => simp
  | some q => simp
theorem mem_prs {ad : Nat → Nat} {lo : Lo} {i : Nat} {u : Value} : (i, u) ∈ prs ad lo ↔ ∃ v, lg lo i = some v ∧ u = cvv ad v := by
  simp only [prs, List.mem_filterMap, lg_iff]
  constructor
  · rintro ⟨⟨q, j⟩, h1, h2⟩
    cases q with
    | none => simp at h2
    | some v =>
      simp at h2
      obtain ⟨rfl, rfl⟩ := h2
      exact ⟨v, List.mk_mem_zipIdx_iff_getElem?.mp h1, rfl⟩
  · rintro ⟨v, h1, rfl⟩
    exact ⟨(some v, i), List.mk_mem_zipIdx_iff_getElem?.mpr h1, rfl⟩
theorem lz_len : ∀ (lo : Lo) (i : Nat) (v : AV), (lz lo i v).length = lo.length
  | [], _, _ => rfl
  | _ :: _, 0, _ => rfl
  | a :: l, n + 1, v => by simp [lz, lz_len l n v]
theorem ly_len : ∀ (lo : Lo) (i : Nat), (ly lo i).length = lo.length
  | [], _ => rfl
  | _ :: _, 0 => rfl
  | a :: l, n + 1 => by simp [ly, ly_len l n]
theorem lz_get : ∀ (lo : Lo) (i : Nat) (v : AV) (j : Nat), j ≠ i → lg (lz lo i v) j = lg lo j
  | [], _, _, _, _ => rfl
  | _ :: _, 0, _, 0, h => absurd rfl h
  | _ :: _, 0, _, _ + 1, _ => rfl
  | _ :: _, _ + 1, _, 0, _ => rfl
  | a :: l, n + 1, v, j + 1, h => lz_get l n v j (fun q => h (by rw [q]))
theorem lz_at : ∀ (lo : Lo) (i : Nat) (v u : AV), lg (lz lo i v) i = some u → u = v
  | [], _, _, _, h => by simp [lz, lg, nt] at h
  | _ :: _, 0, v, u, h => by simp [lz, lg, nt] at h; exact h.symm
  | a :: l, n + 1, v, u, h => lz_at l n v u h
theorem ly_get : ∀ (lo : Lo) (i : Nat) (j : Nat), j ≠ i → lg (ly lo i) j = lg lo j
  | [], _, _, _ => rfl
  | _ :: _, 0, 0, h => absurd rfl h
  | _ :: _, 0, _ + 1, _ => rfl
  | _ :: _, _ + 1, 0, _ => rfl
  | a :: l, n + 1, j + 1, h => ly_get l n j (fun q => h (by rw [q]))
theorem ly_at : ∀ (lo : Lo) (i : Nat), lg (ly lo i) i = none
  | [], _ => rfl
  | _ :: _, 0 => rfl
  | a :: l, n + 1 => ly_at l n
theorem kd_lt {k n : Nat} (h : kd k = n) (hn : n ≠ 9) : k < 86 := nt_lt (d := 9) (l := kdl) (by unfold kd at h; rw [h]; exact hn)
theorem oc_lt {k n : Nat} (h : oc k = n) (hn : n ≠ 99) : k < 86 := nt_lt (d := 99) (l := ocl) (by unfold oc at h; rw [h]; exact hn)
theorem oc_kd : ∀ k, k < 86 → oc k < 9 → kd k = 0 := by decide +kernel
theorem ln_rng : ∀ k, k < 86 → 0 ≤ ln k ∧ ln k ≤ 2000 := by decide +kernel
theorem wsM_get {ad : Nat → Nat} {cI cZ cJ : ClassId} {M : Me} {k : Nat} (h : k < 86) : (wsM ad cI cZ cJ M)[k]? = some (ad k, ent ad cI cZ cJ M k) := by
  simp [wsM, List.getElem?_map, List.getElem?_range h]
theorem ent_congr {ad : Nat → Nat} {cI cZ cJ : ClassId} {M M' : Me} {k : Nat} (h : ∀ j, M' k j = M k j) : ent ad cI cZ cJ M' k = ent ad cI cZ cJ M k := by
  have hf : fvs ad M' k = fvs ad M k := by
    unfold fvs
    apply List.map_congr_left
    intro j _
    unfold fvl
    rw [h]
  unfold ent
  simp only [hf, h]
theorem wsM_set {ad : Nat → Nat} {cI cZ cJ : ClassId} {M M' : Me} {a : Nat} {E : va_E} (ha : a < 86) (hE : E = ent ad cI cZ cJ M' a) (hM : ∀ k, k ≠ a → ∀ j, M' k j = M k j) : (wsM ad cI cZ cJ M).set a (ad a, E) = wsM ad cI cZ cJ M' := by
  apply List.ext_getElem?
  intro k
  rw [List.getElem?_set]
  by_cases hk : a = k
  · subst hk
    rw [if_pos rfl, wsM_get ha, hE]
    simp [wsM, ha]
  · rw [if_neg hk]
    by_cases h2 : k < 86
    · rw [wsM_get h2, wsM_get h2, ent_congr (hM k (fun q => hk q.symm))]
    · rw [List.getElem?_eq_none (by simp [wsM]; omega), List.getElem?_eq_none (by simp [wsM]; omega)]
theorem wsM_D {ad : Nat → Nat} {cI cZ cJ : ClassId} {M M' : Me} {A : Nat → Prop} (h : va_D A (wsM ad cI cZ cJ M)) : va_D A (wsM ad cI cZ cJ M') := by
  have key : ∀ (k : Nat) (q : Nat × va_E), (wsM ad cI cZ cJ M')[k]? = some q → k < 86 ∧ q.1 = ad k := by
    intro k q hq
    rcases Nat.lt_or_ge k 86 with h1 | h1
    · rw [wsM_get h1] at hq
      exact ⟨h1, by rw [← Option.some.inj hq]⟩
    · rw [List.getElem?_eq_none (by simp [wsM]; omega)] at hq
      cases hq
  refine ⟨fun i j p q hi hj e => ?_, fun k q hk => ?_⟩
  · obtain ⟨h1, e1⟩ := key i p hi
    obtain ⟨h2, e2⟩ := key j q hj
    exact h.1 i j _ _ (wsM_get h1) (wsM_get h2) (by show ad i = ad j; rw [← e1, ← e2]; exact e)
  · obtain ⟨h1, e1⟩ := key k q hk
    rw [e1]
    exact h.2 k _ (wsM_get h1)
theorem i_of {x : Int} (h : -2147483648 ≤ x ∧ x < 2147483648) : (Int32.ofInt x).toInt = x := Int32.toInt_ofInt_of_le (by omega) (by omega)
theorem l_of {x : Int} (h : -9223372036854775808 ≤ x ∧ x < 9223372036854775808) : (Int64.ofInt x).toInt = x := Int64.toInt_ofInt_of_le (by omega) (by omega)
theorem i_w (x : Int) : (Int32.ofInt (w32 x)).toInt = w32 x := i_of (w32_rng x)
theorem l_w (x : Int) : (Int64.ofInt (w64 x)).toInt = w64 x := l_of (w64_rng x)
theorem i_add {x y : Int} (hx : -2147483648 ≤ x ∧ x < 2147483648) (hy : -2147483648 ≤ y ∧ y < 2147483648) : Int32.ofInt x + Int32.ofInt y = Int32.ofInt (w32 (x + y)) := by
  apply Int32.toInt_inj.mp
  rw [i_w, Int32.toInt_add, i_of hx, i_of hy]; rfl
theorem i_sub {x y : Int} (hx : -2147483648 ≤ x ∧ x < 2147483648) (hy : -2147483648 ≤ y ∧ y < 2147483648) : Int32.ofInt x - Int32.ofInt y = Int32.ofInt (w32 (x - y)) := by
  apply Int32.toInt_inj.mp
  rw [i_w, Int32.toInt_sub, i_of hx, i_of hy]; rfl
theorem i_mul {x y : Int} (hx : -2147483648 ≤ x ∧ x < 2147483648) (hy : -2147483648 ≤ y ∧ y < 2147483648) : Int32.ofInt x * Int32.ofInt y = Int32.ofInt (w32 (x * y)) := by
  apply Int32.toInt_inj.mp
  rw [i_w, Int32.toInt_mul, i_of hx, i_of hy]; rfl
theorem i_neg {x : Int} (hx : -2147483648 ≤ x ∧ x < 2147483648) : - Int32.ofInt x = Int32.ofInt (w32 (-x)) := by
  apply Int32.toInt_inj.mp
  rw [i_w, Int32.toInt_neg, i_of hx]; rfl
theorem i_div {x y : Int} (hx : -2147483648 ≤ x ∧ x < 2147483648) (hy : -2147483648 ≤ y ∧ y < 2147483648) : Int32.ofInt x / Int32.ofInt y = Int32.ofInt (w32 (x.tdiv y)) := by
  apply Int32.toInt_inj.mp
  rw [i_w, Int32.toInt_div, i_of hx, i_of hy]; rfl
theorem i_tmod {x y : Int} (hx : -2147483648 ≤ x ∧ x < 2147483648) : -2147483648 ≤ x.tmod y ∧ x.tmod y < 2147483648 := by
  have h1 := Int.natAbs_tmod x y
  have h2 : x.natAbs % y.natAbs ≤ x.natAbs := Nat.mod_le _ _
  by_cases h : x < 0
  · have h3 := Int.tmod_nonneg y (by omega : 0 ≤ -x)
    have h4 : (-(-x)).tmod y = -((-x).tmod y) := Int.neg_tmod ..
    rw [Int.neg_neg] at h4
    omega
  · have h3 := Int.tmod_nonneg y (by omega : 0 ≤ x)
    omega
theorem i_rem {x y : Int} (hx : -2147483648 ≤ x ∧ x < 2147483648) (hy : -2147483648 ≤ y ∧ y < 2147483648) : Int32.ofInt x - Int32.ofInt x / Int32.ofInt y * Int32.ofInt y = Int32.ofInt (x.tmod y) := by
  apply Int32.toInt_inj.mp
  rw [i_of (i_tmod hx), Int32.toInt_sub, Int32.toInt_mul, Int32.toInt_div, i_of hx, i_of hy]
  have e : x - (x.tdiv y) * y = x.tmod y := by
    have := Int.tmod_add_mul_tdiv x y
    rw [Int.mul_comm] at this
    omega
  have h1 : (x - ((x.tdiv y).bmod (2 ^ 32) * y).bmod (2 ^ 32)).bmod (2 ^ 32) = (x - x.tdiv y * y).bmod (2 ^ 32) := (Int.bmod_sub_cancel_left x).mpr (by rw [Int.bmod_bmod, Int.bmod_mul_bmod])
  rw [h1, e]
  have := i_tmod (y := y) hx
  rw [Int.bmod_eq_of_le] <;> omega
theorem l_add {x y : Int} (hx : -9223372036854775808 ≤ x ∧ x < 9223372036854775808) (hy : -9223372036854775808 ≤ y ∧ y < 9223372036854775808) : Int64.ofInt x + Int64.ofInt y = Int64.ofInt (w64 (x + y)) := by
  apply Int64.toInt_inj.mp
  rw [l_w, Int64.toInt_add, l_of hx, l_of hy]; rfl
theorem l_mul {x y : Int} (hx : -9223372036854775808 ≤ x ∧ x < 9223372036854775808) (hy : -9223372036854775808 ≤ y ∧ y < 9223372036854775808) : Int64.ofInt x * Int64.ofInt y = Int64.ofInt (w64 (x * y)) := by
  apply Int64.toInt_inj.mp
  rw [l_w, Int64.toInt_mul, l_of hx, l_of hy]; rfl
theorem l_div {x y : Int} (hx : -9223372036854775808 ≤ x ∧ x < 9223372036854775808) (hy : -9223372036854775808 ≤ y ∧ y < 9223372036854775808) : Int64.ofInt x / Int64.ofInt y = Int64.ofInt (w64 (x.tdiv y)) := by
  apply Int64.toInt_inj.mp
  rw [l_w, Int64.toInt_div, l_of hx, l_of hy]; rfl
theorem i_l {x : Int} (hx : -2147483648 ≤ x ∧ x < 2147483648) : (Int32.ofInt x).toInt64 = Int64.ofInt x := by
  apply Int64.toInt_inj.mp
  rw [l_of (by omega), Int32.toInt_toInt64, i_of hx]
theorem l_i {x : Int} (hx : -9223372036854775808 ≤ x ∧ x < 9223372036854775808) : (Int64.ofInt x).toInt32 = Int32.ofInt (w32 x) := by
  apply Int32.toInt_inj.mp
  rw [i_w, Int64.toInt_toInt32, l_of hx]; rfl
theorem i_lt {x y : Int} (hx : -2147483648 ≤ x ∧ x < 2147483648) (hy : -2147483648 ≤ y ∧ y < 2147483648) : Int32.ofInt x < Int32.ofInt y ↔ x < y := by
  rw [Int32.lt_iff_toInt_lt, i_of hx, i_of hy]
theorem i_le {x y : Int} (hx : -2147483648 ≤ x ∧ x < 2147483648) (hy : -2147483648 ≤ y ∧ y < 2147483648) : Int32.ofInt x ≤ Int32.ofInt y ↔ x ≤ y := by
  rw [Int32.le_iff_toInt_le, i_of hx, i_of hy]
theorem i_eq {x y : Int} (hx : -2147483648 ≤ x ∧ x < 2147483648) (hy : -2147483648 ≤ y ∧ y < 2147483648) : Int32.ofInt x = Int32.ofInt y ↔ x = y := by
  rw [← Int32.toInt_inj, i_of hx, i_of hy]
theorem l_lt {x y : Int} (hx : -9223372036854775808 ≤ x ∧ x < 9223372036854775808) (hy : -9223372036854775808 ≤ y ∧ y < 9223372036854775808) : Int64.ofInt x < Int64.ofInt y ↔ x < y := by
  rw [Int64.lt_iff_toInt_lt, l_of hx, l_of hy]
theorem l_eq {x y : Int} (hx : -9223372036854775808 ≤ x ∧ x < 9223372036854775808) (hy : -9223372036854775808 ≤ y ∧ y < 9223372036854775808) : Int64.ofInt x = Int64.ofInt y ↔ x = y := by
  rw [← Int64.toInt_inj, l_of hx, l_of hy]
theorem i_rng (x : Int32) : -2147483648 ≤ x.toInt ∧ x.toInt < 2147483648 := by
  have h1 := Int32.le_toInt x
  have h2 := Int32.toInt_lt x
  omega
theorem i_cl {x : Int} (h0 : 0 ≤ x) (h1 : x < 2147483648) : (Int32.ofInt x).toNatClampNeg = x.toNat := Int32.toNatClampNeg_ofInt_of_le (by omega) (by omega)
theorem i_in {x : Int} {n : Nat} (h0 : 0 ≤ x) (h1 : x < n) (hn : x < 2147483648) : vp_in (Int32.ofInt x) n := by
  rw [vp_in_iff, i_of ⟨by omega, hn⟩]
  exact ⟨h0, h1⟩
theorem i_zn {v : Int} (h : v = 0 ∨ v = 1) : narrow .boolean (.int (Int32.ofInt v)) = .int (Int32.ofInt v) := by
  rcases h with rfl | rfl <;> rfl
theorem okS_nil : okS [] := fun v h => by simp at h
theorem okS.push {st : St} {v : AV} (h : okS st) (hv : okV v) : okS (v :: st) := fun u hu => by
  rcases List.mem_cons.mp hu with rfl | h2
  · exact hv
  · exact h u h2
theorem okS.tail {st : St} {v : AV} (h : okS (v :: st)) : okS st := fun u hu => h u (List.mem_cons_of_mem _ hu)
theorem okS.head {st : St} {v : AV} (h : okS (v :: st)) : okV v := h v List.mem_cons_self
theorem okO.set {lo : Lo} {i : Nat} {v : AV} (h : okO lo) (hv : okV v) : okO (lz lo i v) := by
  intro j u hu
  by_cases hj : j = i
  · subst hj
    rw [lz_at lo j v u hu]
    exact hv
  · rw [lz_get lo i v j hj] at hu
    exact h j u hu
theorem okO.clr {lo : Lo} {i : Nat} (h : okO lo) : okO (ly lo i) := by
  intro j u hu
  by_cases hj : j = i
  · subst hj
    rw [ly_at lo j] at hu
    cases hu
  · rw [ly_get lo i j hj] at hu
    exact h j u hu
theorem okM.put {S M : Me} {k : Nat} {i v : Int} (h : okM S M) (hk : k < 86) (hv : rg k v) : okM S (me_put M k i v) := by
  refine ⟨fun a b => ?_, fun j => ?_⟩
  · unfold me_put
    split
    · rename_i q
      rw [q.1]
      exact hv
    · exact h.1 a b
  · rw [me_ne _ _ _ _ (by omega : (98 : Nat) ≠ k), me_ne _ _ _ _ (by omega : (99 : Nat) ≠ k)]
    exact h.2 j
theorem okM.get {S M : Me} {k : Nat} (h : okM S M) (hk : kd k ≠ 3) (j : Int) : -2147483648 ≤ M k j ∧ M k j < 2147483648 := by
  have := h.1 k j
  unfold rg at this
  rwa [if_neg hk] at this
theorem okM.getL {S M : Me} {k : Nat} (h : okM S M) (hk : kd k = 3) (j : Int) : -9223372036854775808 ≤ M k j ∧ M k j < 9223372036854775808 := by
  have := h.1 k j
  unfold rg at this
  rwa [if_pos hk] at this
end
section
def nsF : Cond := .fieldLinkNest "FloodCells" 211 "FloodCells$Flight" "gone" "[I" "FloodCells"
def nsM : Cond := .methodLinkNest "FloodCells$Bodies" 48 (nam 76) "FloodCells"
/-- what stays while a method runs: the machine, its code, the words, the room for calls d deep -/
def Cx (p : Program) (R : Room) (s : State) (m : MethodId) (args : Array Value) (c : Code) (cells slots : Nat) (D : va_G) (cI cZ cJ : ClassId) (y d : Nat) : Prop :=
  p.tables.exec = Jvm.exec ∧ c.code = cod y ∧ c.maxLocals = mxl y ∧ s.vm.findClass (clR (ow y)) = some m.cls ∧ (∀ w ∈ lw_ok, w.before args s = true) ∧ va_K D cls9 [(cI, .int), (cZ, .boolean), (cJ, .long)] s ∧ (d + 1 ≤ R.frames ∧ 34 * d + 40 ≤ R.locals ∧ cells ≤ R.cells ∧ slots ≤ R.slots) ∧ va_Nw nsF s ∧ va_Nw nsM s
def Wd (D : va_G) (A : Nat → Prop) (H0 : Heap) (ad : Nat → Nat) (cI cZ cJ : ClassId) (S M : Me) (H : Heap) (locs : List Loc) : Prop :=
  va_P D cls9 (wsM ad cI cZ cJ M) H ∧ va_D A (wsM ad cI cZ cJ M) ∧ va_S A H0 H locs ∧ okM S M
section GR
variable {p : Program} {l : Launch} {e : Env} {R : Room} {s : State} {m : MethodId} {args : Array Value} {below : List Frame} {meth : Method} {c : Code} {cells slots : Nat} {QQ : State → Prop} {H0 : Heap} {A : Nat → Prop} {D : va_G} {ad : Nat → Nat} {cI cZ cJ : ClassId} {S : Me} {y d pc : Nat} {lo : Lo} {st : St} {M : Me}
def G (p : Program) (l : Launch) (e : Env) (R : Room) (s : State) (m : MethodId) (args : Array Value) (below : List Frame) (meth : Method) (c : Code) (cells slots : Nat) (QQ : State → Prop) (H0 : Heap) (A : Nat → Prop) (D : va_G) (ad : Nat → Nat) (cI cZ cJ : ClassId) (S : Me) (pc : Nat) (lo : Lo) (st : St) (M : Me) : Prop :=
  ∀ (ls : Array Slot) (H : Heap) (locs : List Loc), lv_has ls lo.length (prs ad lo) → okS st → okO lo → Wd D A H0 ad cI cZ cJ S M H locs → W p l e R s m args below meth c H locs cells slots QQ (F0 m pc ls (st.map (cvv ad)))
theorem pr_at {ls : Array Slot} {n i : Nat} {v : AV} (hl : lv_has ls n (prs ad lo)) (h : lg lo i = some v) : ls[i]? = some (.val (cvv ad v)) := hl.2.2 (i, cvv ad v) (mem_prs.mpr ⟨v, h, rfl⟩)
theorem pr_set {ls : Array Slot} {i : Nat} {v : AV} (hp : lp lo i = false) (hl : lv_has ls lo.length ((i, cvv ad v) :: (prs ad lo).filter (fun q => !(q.1 == i) && !(q.1 + 1 == i && q.2.category == 2)))) : lv_has ls (lz lo i v).length (prs ad (lz lo i v)) := by
  rw [lz_len]
  refine ⟨hl.1, hl.2.1, fun q hq => hl.2.2 q ?_⟩
  obtain ⟨j, u⟩ := q
  obtain ⟨w, hw, rfl⟩ := mem_prs.mp hq
  by_cases hj : j = i
  · subst hj
    rw [lz_at lo j v w hw]
    exact List.mem_cons_self
  · rw [lz_get lo i v j hj] at hw
    refine List.mem_cons_of_mem _ (List.mem_filter.mpr ⟨mem_prs.mpr ⟨w, hw, rfl⟩, ?_⟩)
    have h1 : (j == i) = false := by simpa using hj
    have h2 : (j + 1 == i && (cvv ad w).category == 2) = false := by
      by_cases h3 : j + 1 = i
      · subst h3
        have h4 : isL (lg lo j) = false := hp
        rw [hw] at h4
        match w, h4 with
        | .inl x, _ => simp [cvv, Value.category]
        | .inr (.inr x), _ => simp [cvv, Value.category]
        | .inr (.inl x), h4 => simp [isL] at h4
      · simp [h3]
    simp [h1, h2]
theorem pr_setL {ls : Array Slot} {i : Nat} {x : Int} (hp : lp lo i = false) (hl : lv_has ls lo.length ((i, cvv ad (.inr (.inl x))) :: (prs ad lo).filter (fun q => !(q.1 == i) && (!(q.1 == i + 1) && !(q.1 + 1 == i && q.2.category == 2))))) : lv_has ls (ly (lz lo i (.inr (.inl x))) (i + 1)).length (prs ad (ly (lz lo i (.inr (.inl x))) (i + 1))) := by
  rw [ly_len, lz_len]
  refine ⟨hl.1, hl.2.1, fun q hq => hl.2.2 q ?_⟩
  obtain ⟨j, u⟩ := q
  obtain ⟨w, hw, rfl⟩ := mem_prs.mp hq
  have hj1 : j ≠ i + 1 := by
    intro q
    subst q
    rw [ly_at] at hw
    cases hw
  rw [ly_get _ _ _ hj1] at hw
  by_cases hj : j = i
  · subst hj
    rw [lz_at lo j _ w hw]
    exact List.mem_cons_self
  · rw [lz_get lo i _ j hj] at hw
    refine List.mem_cons_of_mem _ (List.mem_filter.mpr ⟨mem_prs.mpr ⟨w, hw, rfl⟩, ?_⟩)
    have h1 : (j == i) = false := by simpa using hj
    have h5 : (j == i + 1) = false := by simpa using hj1
    have h2 : (j + 1 == i && (cvv ad w).category == 2) = false := by
      by_cases h3 : j + 1 = i
      · subst h3
        have h4 : isL (lg lo j) = false := hp
        rw [hw] at h4
        match w, h4 with
        | .inl x, _ => simp [cvv, Value.category]
        | .inr (.inr x), _ => simp [cvv, Value.category]
        | .inr (.inl x), h4 => simp [isL] at h4
      · simp [h3]
    simp [h1, h2, h5]
abbrev GG (p : Program) (l : Launch) (e : Env) (R : Room) (s : State) (m : MethodId) (args : Array Value) (below : List Frame) (meth : Method) (c : Code) (cells slots : Nat) (QQ : State → Prop) (H0 : Heap) (A : Nat → Prop) (D : va_G) (ad : Nat → Nat) (cI cZ cJ : ClassId) (S : Me) : Nat → Lo → St → Me → Prop := G p l e R s m args below meth c cells slots QQ H0 A D ad cI cZ cJ S
variable (X : Cx p R s m args c cells slots D cI cZ cJ y d)
theorem G_iload_n {k : Fin 4} {x : Int} (X : Cx p R s m args c cells slots D cI cZ cJ y d) (hd : decode (cod y) pc = .ok (.iload_n k, 1)) (h : lg lo k.val = some (.inl x)) (kk : GG p l e R s m args below meth c cells slots QQ H0 A D ad cI cZ cJ S (pc + 1) lo (.inl x :: st) M) : GG p l e R s m args below meth c cells slots QQ H0 A D ad cI cZ cJ S pc lo st M := by
  intro ls H locs hl hs ho hw
  exact lv_iload_n X.1 X.2.1 hd rfl (pr_at hl h) (kk ls H locs hl (hs.push (ho _ _ h)) ho hw)
theorem G_iload {k : Nat} {x : Int} (X : Cx p R s m args c cells slots D cI cZ cJ y d) (hd : decode (cod y) pc = .ok (.iload k, 2)) (h : lg lo k = some (.inl x)) (kk : GG p l e R s m args below meth c cells slots QQ H0 A D ad cI cZ cJ S (pc + 2) lo (.inl x :: st) M) : GG p l e R s m args below meth c cells slots QQ H0 A D ad cI cZ cJ S pc lo st M := by
  intro ls H locs hl hs ho hw
  exact lv_iload X.1 X.2.1 hd (pr_at hl h) (kk ls H locs hl (hs.push (ho _ _ h)) ho hw)
theorem G_aload_n {k : Fin 4} {x : Nat} (X : Cx p R s m args c cells slots D cI cZ cJ y d) (hd : decode (cod y) pc = .ok (.aload_n k, 1)) (h : lg lo k.val = some (.inr (.inr x))) (kk : GG p l e R s m args below meth c cells slots QQ H0 A D ad cI cZ cJ S (pc + 1) lo (.inr (.inr x) :: st) M) : GG p l e R s m args below meth c cells slots QQ H0 A D ad cI cZ cJ S pc lo st M := by
  intro ls H locs hl hs ho hw
  exact lv_aload_n X.1 X.2.1 hd rfl (pr_at hl h) (kk ls H locs hl (hs.push trivial) ho hw)
theorem G_aload {k : Nat} {x : Nat} (X : Cx p R s m args c cells slots D cI cZ cJ y d) (hd : decode (cod y) pc = .ok (.aload k, 2)) (h : lg lo k = some (.inr (.inr x))) (kk : GG p l e R s m args below meth c cells slots QQ H0 A D ad cI cZ cJ S (pc + 2) lo (.inr (.inr x) :: st) M) : GG p l e R s m args below meth c cells slots QQ H0 A D ad cI cZ cJ S pc lo st M := by
  intro ls H locs hl hs ho hw
  exact lv_aload X.1 X.2.1 hd (pr_at hl h) (kk ls H locs hl (hs.push trivial) ho hw)
theorem G_lload {k : Nat} {x : Int} (X : Cx p R s m args c cells slots D cI cZ cJ y d) (hd : decode (cod y) pc = .ok (.lload k, 2)) (h : lg lo k = some (.inr (.inl x))) (kk : GG p l e R s m args below meth c cells slots QQ H0 A D ad cI cZ cJ S (pc + 2) lo (.inr (.inl x) :: st) M) : GG p l e R s m args below meth c cells slots QQ H0 A D ad cI cZ cJ S pc lo st M := by
  intro ls H locs hl hs ho hw
  exact lv_lload X.1 X.2.1 hd (pr_at hl h) (kk ls H locs hl (hs.push (ho _ _ h)) ho hw)
theorem G_istore_n {k : Fin 4} {x : Int} (X : Cx p R s m args c cells slots D cI cZ cJ y d) (hd : decode (cod y) pc = .ok (.istore_n k, 1)) (hp : lp lo k.val = false) (hn : k.val < lo.length) (kk : GG p l e R s m args below meth c cells slots QQ H0 A D ad cI cZ cJ S (pc + 1) (lz lo k.val (.inl x)) st M) : GG p l e R s m args below meth c cells slots QQ H0 A D ad cI cZ cJ S pc lo (.inl x :: st) M := by
  intro ls H locs hl hs ho hw
  exact lv_istore_n X.1 X.2.1 hd rfl hl hn rfl (fun ls' hl' => kk ls' H locs (pr_set (v := .inl x) hp hl') hs.tail (ho.set hs.head) hw)
theorem G_istore {k : Nat} {x : Int} (X : Cx p R s m args c cells slots D cI cZ cJ y d) (hd : decode (cod y) pc = .ok (.istore k, 2)) (hp : lp lo k = false) (hn : k < lo.length) (kk : GG p l e R s m args below meth c cells slots QQ H0 A D ad cI cZ cJ S (pc + 2) (lz lo k (.inl x)) st M) : GG p l e R s m args below meth c cells slots QQ H0 A D ad cI cZ cJ S pc lo (.inl x :: st) M := by
  intro ls H locs hl hs ho hw
  exact lv_istore X.1 X.2.1 hd hl hn rfl (fun ls' hl' => kk ls' H locs (pr_set (v := .inl x) hp hl') hs.tail (ho.set hs.head) hw)
theorem G_astore_n {k : Fin 4} {x : Nat} (X : Cx p R s m args c cells slots D cI cZ cJ y d) (hd : decode (cod y) pc = .ok (.astore_n k, 1)) (hp : lp lo k.val = false) (hn : k.val < lo.length) (kk : GG p l e R s m args below meth c cells slots QQ H0 A D ad cI cZ cJ S (pc + 1) (lz lo k.val (.inr (.inr x))) st M) : GG p l e R s m args below meth c cells slots QQ H0 A D ad cI cZ cJ S pc lo (.inr (.inr x) :: st) M := by
  intro ls H locs hl hs ho hw
  exact lv_astore_n X.1 X.2.1 hd rfl hl hn rfl (fun ls' hl' => kk ls' H locs (pr_set (v := .inr (.inr x)) hp hl') hs.tail (ho.set hs.head) hw)
theorem G_lstore {k : Nat} {x : Int} (X : Cx p R s m args c cells slots D cI cZ cJ y d) (hd : decode (cod y) pc = .ok (.lstore k, 2)) (hp : lp lo k = false) (hn : k + 1 < lo.length) (kk : GG p l e R s m args below meth c cells slots QQ H0 A D ad cI cZ cJ S (pc + 2) (ly (lz lo k (.inr (.inl x))) (k + 1)) st M) : GG p l e R s m args below meth c cells slots QQ H0 A D ad cI cZ cJ S pc lo (.inr (.inl x) :: st) M := by
  intro ls H locs hl hs ho hw
  exact lv_lstore X.1 X.2.1 hd hl hn rfl (fun ls' hl' => kk ls' H locs (pr_setL hp hl') hs.tail (ho.set (v := .inr (.inl x)) hs.head).clr hw)
theorem G_iconst {v : Int} (X : Cx p R s m args c cells slots D cI cZ cJ y d) (hd : decode (cod y) pc = .ok (.iconst v, 1)) (hv : -1 ≤ v ∧ v ≤ 5) (kk : GG p l e R s m args below meth c cells slots QQ H0 A D ad cI cZ cJ S (pc + 1) lo (.inl v :: st) M) : GG p l e R s m args below meth c cells slots QQ H0 A D ad cI cZ cJ S pc lo st M := by
  intro ls H locs hl hs ho hw
  exact lv_iconst X.1 X.2.1 hd rfl (kk ls H locs hl (hs.push (v := .inl v) ⟨by omega, by omega⟩) ho hw)
theorem G_bipush {v : Int} (X : Cx p R s m args c cells slots D cI cZ cJ y d) (hd : decode (cod y) pc = .ok (.bipush v, 2)) (hv : -128 ≤ v ∧ v ≤ 127) (kk : GG p l e R s m args below meth c cells slots QQ H0 A D ad cI cZ cJ S (pc + 2) lo (.inl v :: st) M) : GG p l e R s m args below meth c cells slots QQ H0 A D ad cI cZ cJ S pc lo st M := by
  intro ls H locs hl hs ho hw
  refine lv_bipush X.1 X.2.1 hd ?_ (kk ls H locs hl (hs.push (v := .inl v) ⟨by omega, by omega⟩) ho hw)
  apply Int32.toInt_inj.mp
  rw [i_of ⟨by omega, by omega⟩, Int8.toInt_toInt32, Int8.toInt_ofInt_of_le (by omega) (by omega)]
theorem G_sipush {v : Int} (X : Cx p R s m args c cells slots D cI cZ cJ y d) (hd : decode (cod y) pc = .ok (.sipush v, 3)) (hv : -32768 ≤ v ∧ v ≤ 32767) (kk : GG p l e R s m args below meth c cells slots QQ H0 A D ad cI cZ cJ S (pc + 3) lo (.inl v :: st) M) : GG p l e R s m args below meth c cells slots QQ H0 A D ad cI cZ cJ S pc lo st M := by
  intro ls H locs hl hs ho hw
  refine lv_sipush X.1 X.2.1 hd ?_ (kk ls H locs hl (hs.push (v := .inl v) ⟨by omega, by omega⟩) ho hw)
  apply Int32.toInt_inj.mp
  rw [i_of ⟨by omega, by omega⟩, Int16.toInt_toInt32, Int16.toInt_ofInt_of_le (by omega) (by omega)]
theorem csL_in {q : (Nat × Nat × Int) × Nat} (h : q ∈ csL) : Cond.constant (clR q.1.1) q.1.2.1 (Int32.ofInt q.1.2.2) ∈ lw_ok := by
  have := List.all_eq_true.mp csL_ok q h
  exact at_in (of_decide_eq_true this) rfl
theorem clL_in {q : (Nat × Nat × Int) × Nat} (h : q ∈ clL) : Cond.constantLong (clR q.1.1) q.1.2.1 (Int64.ofInt q.1.2.2) ∈ lw_ok := by
  have := List.all_eq_true.mp clL_ok q h
  exact at_in (of_decide_eq_true this) rfl
theorem G_ldc {ix : Nat} {v : Int} (X : Cx p R s m args c cells slots D cI cZ cJ y d) (hd : decode (cod y) pc = .ok (.ldc ix, 2)) (hv : -2147483648 ≤ v ∧ v < 2147483648) (hc : (csL.any fun q => decide (q.1 = (ow y, ix, v))) = true) (kk : GG p l e R s m args below meth c cells slots QQ H0 A D ad cI cZ cJ S (pc + 2) lo (.inl v :: st) M) : GG p l e R s m args below meth c cells slots QQ H0 A D ad cI cZ cJ S pc lo st M := by
  intro ls H locs hl hs ho hw
  obtain ⟨q, hq, e⟩ := List.any_eq_true.mp hc
  have e := of_decide_eq_true e
  have h1 := csL_in hq
  rw [e] at h1
  exact lv_ldc X.1 X.2.1 X.2.2.2.1 (X.2.2.2.2.1 _ h1) hd (kk ls H locs hl (hs.push (v := .inl v) hv) ho hw)
theorem G_ldc2 {ix : Nat} {v : Int} (X : Cx p R s m args c cells slots D cI cZ cJ y d) (hd : decode (cod y) pc = .ok (.ldc2_w ix, 3)) (hv : -2147483648 ≤ v ∧ v < 2147483648) (hc : (clL.any fun q => decide (q.1 = (ow y, ix, v))) = true) (kk : GG p l e R s m args below meth c cells slots QQ H0 A D ad cI cZ cJ S (pc + 3) lo (.inr (.inl v) :: st) M) : GG p l e R s m args below meth c cells slots QQ H0 A D ad cI cZ cJ S pc lo st M := by
  intro ls H locs hl hs ho hw
  obtain ⟨q, hq, e⟩ := List.any_eq_true.mp hc
  have e := of_decide_eq_true e
  have h1 := clL_in hq
  rw [e] at h1
  exact lv_ldc2 X.1 X.2.1 X.2.2.2.1 (X.2.2.2.2.1 _ h1) hd (kk ls H locs hl (hs.push (v := .inr (.inl v)) ⟨by omega, by omega⟩) ho hw)
theorem G_lconst {n : Fin 2} (X : Cx p R s m args c cells slots D cI cZ cJ y d) (hd : decode (cod y) pc = .ok (.lconst n, 1)) (kk : GG p l e R s m args below meth c cells slots QQ H0 A D ad cI cZ cJ S (pc + 1) lo (.inr (.inl (n.val : Int)) :: st) M) : GG p l e R s m args below meth c cells slots QQ H0 A D ad cI cZ cJ S pc lo st M := by
  intro ls H locs hl hs ho hw
  have hn := n.isLt
  exact lv_lconst X.1 X.2.1 hd rfl (kk ls H locs hl (hs.push (v := .inr (.inl (n.val : Int))) ⟨by omega, by omega⟩) ho hw)
theorem G_iinc {k : Nat} {v x : Int} (X : Cx p R s m args c cells slots D cI cZ cJ y d) (hd : decode (cod y) pc = .ok (.iinc k v, 3)) (h : lg lo k = some (.inl x)) (hv : -32768 ≤ v ∧ v ≤ 32767) (hp : lp lo k = false) (hn : k < lo.length) (kk : GG p l e R s m args below meth c cells slots QQ H0 A D ad cI cZ cJ S (pc + 3) (lz lo k (.inl (w32 (x + v)))) st M) : GG p l e R s m args below meth c cells slots QQ H0 A D ad cI cZ cJ S pc lo st M := by
  intro ls H locs hl hs ho hw
  obtain ⟨j, hj⟩ := List.mem_iff_getElem?.mp (mem_prs.mpr ⟨_, h, rfl⟩ : (k, cvv ad (.inl x)) ∈ prs ad lo)
  exact lv_iinc (k := j) (v := Int32.ofInt (w32 (x + v))) X.1 X.2.1 hd hl hj (i_add (ho _ _ h) ⟨by omega, by omega⟩) hn rfl (fun ls' hl' => kk ls' H locs (pr_set (v := .inl (w32 (x + v))) hp hl') hs (ho.set (v := .inl (w32 (x + v))) (w32_rng _)) hw)
end GR
end
section
section GS
variable {p : Program} {l : Launch} {e : Env} {R : Room} {s : State} {m : MethodId} {args : Array Value} {below : List Frame} {meth : Method} {c : Code} {cells slots : Nat} {QQ : State → Prop} {H0 : Heap} {A : Nat → Prop} {D : va_G} {ad : Nat → Nat} {cI cZ cJ : ClassId} {S : Me} {y d pc : Nat} {lo : Lo} {st : St} {M : Me}
theorem i_addG (x v : Int) : Int32.ofInt x + Int32.ofInt v = Int32.ofInt (w32 (x + v)) := by
  apply Int32.toInt_inj.mp
  rw [i_w, Int32.toInt_add, Int32.toInt_ofInt, Int32.toInt_ofInt]
  show (x.bmod 4294967296 + v.bmod 4294967296).bmod 4294967296 = (x + v).bmod 4294967296
  rw [Int.bmod_add_bmod, Int.add_bmod_bmod]
theorem G_iincG {k : Nat} {v x : Int} (X : Cx p R s m args c cells slots D cI cZ cJ y d) (hd : decode (cod y) pc = .ok (.iinc k v, 3)) (h : lg lo k = some (.inl x)) (hp : lp lo k = false) (hn : k < lo.length) (kk : GG p l e R s m args below meth c cells slots QQ H0 A D ad cI cZ cJ S (pc + 3) (lz lo k (.inl (w32 (x + v)))) (st) M) : GG p l e R s m args below meth c cells slots QQ H0 A D ad cI cZ cJ S (pc) lo (st) M := by
  intro ls H locs hl hs ho hw
  obtain ⟨j, hj⟩ := List.mem_iff_getElem?.mp (mem_prs.mpr ⟨_, h, rfl⟩ : (k, cvv ad (.inl x)) ∈ prs ad lo)
  exact lv_iinc (k := j) (v := Int32.ofInt (w32 (x + v))) X.1 X.2.1 hd hl hj (i_addG x v) hn rfl (fun ls' hl' => kk ls' H locs (pr_set (v := .inl (w32 (x + v))) hp hl') hs (ho.set (v := .inl (w32 (x + v))) (w32_rng _)) hw)
theorem G_iadd {x y' : Int} (X : Cx p R s m args c cells slots D cI cZ cJ y d) (hd : decode (cod y) pc = .ok (.iadd, 1)) (kk : GG p l e R s m args below meth c cells slots QQ H0 A D ad cI cZ cJ S (pc + 1) lo (.inl (w32 (x + y')) :: st) M) : GG p l e R s m args below meth c cells slots QQ H0 A D ad cI cZ cJ S (pc) lo (.inl y' :: .inl x :: st) M := by
  intro ls H locs hl hs ho hw
  have hy := hs.head
  have hx := hs.tail.head
  refine lv_iadd X.1 X.2.1 hd ?_
  have h1 := kk ls H locs hl (hs.tail.tail.push (v := .inl (w32 (x + y'))) (w32_rng _)) ho hw
  rw [i_add hx hy]
  exact h1
theorem G_isub {x y' : Int} (X : Cx p R s m args c cells slots D cI cZ cJ y d) (hd : decode (cod y) pc = .ok (.isub, 1)) (kk : GG p l e R s m args below meth c cells slots QQ H0 A D ad cI cZ cJ S (pc + 1) lo (.inl (w32 (x - y')) :: st) M) : GG p l e R s m args below meth c cells slots QQ H0 A D ad cI cZ cJ S (pc) lo (.inl y' :: .inl x :: st) M := by
  intro ls H locs hl hs ho hw
  have hy := hs.head
  have hx := hs.tail.head
  refine lv_isub X.1 X.2.1 hd ?_
  have h1 := kk ls H locs hl (hs.tail.tail.push (v := .inl (w32 (x - y'))) (w32_rng _)) ho hw
  rw [i_sub hx hy]
  exact h1
theorem G_imul {x y' : Int} (X : Cx p R s m args c cells slots D cI cZ cJ y d) (hd : decode (cod y) pc = .ok (.imul, 1)) (kk : GG p l e R s m args below meth c cells slots QQ H0 A D ad cI cZ cJ S (pc + 1) lo (.inl (w32 (x * y')) :: st) M) : GG p l e R s m args below meth c cells slots QQ H0 A D ad cI cZ cJ S (pc) lo (.inl y' :: .inl x :: st) M := by
  intro ls H locs hl hs ho hw
  have hy := hs.head
  have hx := hs.tail.head
  refine lv_imul X.1 X.2.1 hd ?_
  have h1 := kk ls H locs hl (hs.tail.tail.push (v := .inl (w32 (x * y'))) (w32_rng _)) ho hw
  rw [i_mul hx hy]
  exact h1
theorem G_idiv {x y' : Int} (X : Cx p R s m args c cells slots D cI cZ cJ y d) (hd : decode (cod y) pc = .ok (.idiv, 1)) (hz : y' ≠ 0) (kk : GG p l e R s m args below meth c cells slots QQ H0 A D ad cI cZ cJ S (pc + 1) lo (.inl (w32 (x.tdiv y')) :: st) M) : GG p l e R s m args below meth c cells slots QQ H0 A D ad cI cZ cJ S (pc) lo (.inl y' :: .inl x :: st) M := by
  intro ls H locs hl hs ho hw
  have hy := hs.head
  have hx := hs.tail.head
  refine lv_idiv X.1 X.2.1 hd (fun q => hz ((i_eq hy (by omega : -2147483648 ≤ (0 : Int) ∧ (0 : Int) < 2147483648)).mp q)) ?_
  have h1 := kk ls H locs hl (hs.tail.tail.push (v := .inl (w32 (x.tdiv y'))) (w32_rng _)) ho hw
  rw [i_div hx hy]
  exact h1
theorem G_irem {x y' : Int} (X : Cx p R s m args c cells slots D cI cZ cJ y d) (hd : decode (cod y) pc = .ok (.irem, 1)) (hz : y' ≠ 0) (kk : GG p l e R s m args below meth c cells slots QQ H0 A D ad cI cZ cJ S (pc + 1) lo (.inl (x.tmod y') :: st) M) : GG p l e R s m args below meth c cells slots QQ H0 A D ad cI cZ cJ S (pc) lo (.inl y' :: .inl x :: st) M := by
  intro ls H locs hl hs ho hw
  have hy := hs.head
  have hx := hs.tail.head
  refine lv_irem X.1 X.2.1 hd (fun q => hz ((i_eq hy (by omega : -2147483648 ≤ (0 : Int) ∧ (0 : Int) < 2147483648)).mp q)) ?_
  have h1 := kk ls H locs hl (hs.tail.tail.push (v := .inl (x.tmod y')) (i_tmod hx)) ho hw
  rw [i_rem hx hy]
  exact h1
theorem G_iand {x y' : Int} (X : Cx p R s m args c cells slots D cI cZ cJ y d) (hd : decode (cod y) pc = .ok (.iand, 1)) (kk : GG p l e R s m args below meth c cells slots QQ H0 A D ad cI cZ cJ S (pc + 1) lo (.inl (iand x y') :: st) M) : GG p l e R s m args below meth c cells slots QQ H0 A D ad cI cZ cJ S (pc) lo (.inl y' :: .inl x :: st) M := by
  intro ls H locs hl hs ho hw
  have hy := hs.head
  have hx := hs.tail.head
  refine lv_iand X.1 X.2.1 hd ?_
  have h1 := kk ls H locs hl (hs.tail.tail.push (v := .inl (iand x y')) (i_rng _)) ho hw
  rw [show Int32.ofInt x &&& Int32.ofInt y' = Int32.ofInt (iand x y') from (Int32.ofInt_toInt _).symm]
  exact h1
theorem G_ior {x y' : Int} (X : Cx p R s m args c cells slots D cI cZ cJ y d) (hd : decode (cod y) pc = .ok (.ior, 1)) (kk : GG p l e R s m args below meth c cells slots QQ H0 A D ad cI cZ cJ S (pc + 1) lo (.inl (ior x y') :: st) M) : GG p l e R s m args below meth c cells slots QQ H0 A D ad cI cZ cJ S (pc) lo (.inl y' :: .inl x :: st) M := by
  intro ls H locs hl hs ho hw
  have hy := hs.head
  have hx := hs.tail.head
  refine lv_ior X.1 X.2.1 hd ?_
  have h1 := kk ls H locs hl (hs.tail.tail.push (v := .inl (ior x y')) (i_rng _)) ho hw
  rw [show Int32.ofInt x ||| Int32.ofInt y' = Int32.ofInt (ior x y') from (Int32.ofInt_toInt _).symm]
  exact h1
theorem G_ishl {x y' : Int} (X : Cx p R s m args c cells slots D cI cZ cJ y d) (hd : decode (cod y) pc = .ok (.ishl, 1)) (kk : GG p l e R s m args below meth c cells slots QQ H0 A D ad cI cZ cJ S (pc + 1) lo (.inl (ishl x y') :: st) M) : GG p l e R s m args below meth c cells slots QQ H0 A D ad cI cZ cJ S (pc) lo (.inl y' :: .inl x :: st) M := by
  intro ls H locs hl hs ho hw
  have hy := hs.head
  have hx := hs.tail.head
  refine lv_ishl X.1 X.2.1 hd ?_
  have h1 := kk ls H locs hl (hs.tail.tail.push (v := .inl (ishl x y')) (i_rng _)) ho hw
  rw [show Int32.ofInt x <<< (Int32.ofInt y' &&& 31) = Int32.ofInt (ishl x y') from (Int32.ofInt_toInt _).symm]
  exact h1
theorem G_ishr {x y' : Int} (X : Cx p R s m args c cells slots D cI cZ cJ y d) (hd : decode (cod y) pc = .ok (.ishr, 1)) (kk : GG p l e R s m args below meth c cells slots QQ H0 A D ad cI cZ cJ S (pc + 1) lo (.inl (ishr x y') :: st) M) : GG p l e R s m args below meth c cells slots QQ H0 A D ad cI cZ cJ S (pc) lo (.inl y' :: .inl x :: st) M := by
  intro ls H locs hl hs ho hw
  have hy := hs.head
  have hx := hs.tail.head
  refine lv_ishr X.1 X.2.1 hd ?_
  have h1 := kk ls H locs hl (hs.tail.tail.push (v := .inl (ishr x y')) (i_rng _)) ho hw
  rw [show Int32.ofInt x >>> (Int32.ofInt y' &&& 31) = Int32.ofInt (ishr x y') from (Int32.ofInt_toInt _).symm]
  exact h1
theorem G_ineg {x : Int} (X : Cx p R s m args c cells slots D cI cZ cJ y d) (hd : decode (cod y) pc = .ok (.ineg, 1)) (kk : GG p l e R s m args below meth c cells slots QQ H0 A D ad cI cZ cJ S (pc + 1) lo (.inl (w32 (-x)) :: st) M) : GG p l e R s m args below meth c cells slots QQ H0 A D ad cI cZ cJ S (pc) lo (.inl x :: st) M := by
  intro ls H locs hl hs ho hw
  have hx := hs.head
  refine lv_ineg X.1 X.2.1 hd ?_
  have h1 := kk ls H locs hl (hs.tail.push (v := .inl (w32 (-x))) (w32_rng _)) ho hw
  rw [i_neg hx]
  exact h1
theorem G_i2l {x : Int} (X : Cx p R s m args c cells slots D cI cZ cJ y d) (hd : decode (cod y) pc = .ok (.i2l, 1)) (kk : GG p l e R s m args below meth c cells slots QQ H0 A D ad cI cZ cJ S (pc + 1) lo (.inr (.inl x) :: st) M) : GG p l e R s m args below meth c cells slots QQ H0 A D ad cI cZ cJ S (pc) lo (.inl x :: st) M := by
  intro ls H locs hl hs ho hw
  have hx : -2147483648 ≤ x ∧ x < 2147483648 := hs.head
  exact lv_i2l X.1 X.2.1 hd (i_l hx) (kk ls H locs hl (hs.tail.push (v := .inr (.inl x)) ⟨by omega, by omega⟩) ho hw)
theorem G_l2i {x : Int} (X : Cx p R s m args c cells slots D cI cZ cJ y d) (hd : decode (cod y) pc = .ok (.l2i, 1)) (kk : GG p l e R s m args below meth c cells slots QQ H0 A D ad cI cZ cJ S (pc + 1) lo (.inl (w32 x) :: st) M) : GG p l e R s m args below meth c cells slots QQ H0 A D ad cI cZ cJ S (pc) lo (.inr (.inl x) :: st) M := by
  intro ls H locs hl hs ho hw
  have hx := hs.head
  exact lv_l2i X.1 X.2.1 hd (l_i hx) (kk ls H locs hl (hs.tail.push (v := .inl (w32 x)) (w32_rng _)) ho hw)
theorem G_ladd {x y' : Int} (X : Cx p R s m args c cells slots D cI cZ cJ y d) (hd : decode (cod y) pc = .ok (.ladd, 1)) (kk : GG p l e R s m args below meth c cells slots QQ H0 A D ad cI cZ cJ S (pc + 1) lo (.inr (.inl (w64 (x + y'))) :: st) M) : GG p l e R s m args below meth c cells slots QQ H0 A D ad cI cZ cJ S (pc) lo (.inr (.inl y') :: .inr (.inl x) :: st) M := by
  intro ls H locs hl hs ho hw
  have hy := hs.head
  have hx := hs.tail.head
  refine lv_ladd X.1 X.2.1 hd ?_
  have h1 := kk ls H locs hl (hs.tail.tail.push (v := .inr (.inl (w64 (x + y')))) (w64_rng _)) ho hw
  rw [l_add hx hy]
  exact h1
theorem G_lmul {x y' : Int} (X : Cx p R s m args c cells slots D cI cZ cJ y d) (hd : decode (cod y) pc = .ok (.lmul, 1)) (kk : GG p l e R s m args below meth c cells slots QQ H0 A D ad cI cZ cJ S (pc + 1) lo (.inr (.inl (w64 (x * y'))) :: st) M) : GG p l e R s m args below meth c cells slots QQ H0 A D ad cI cZ cJ S (pc) lo (.inr (.inl y') :: .inr (.inl x) :: st) M := by
  intro ls H locs hl hs ho hw
  have hy := hs.head
  have hx := hs.tail.head
  refine lv_lmul X.1 X.2.1 hd ?_
  have h1 := kk ls H locs hl (hs.tail.tail.push (v := .inr (.inl (w64 (x * y')))) (w64_rng _)) ho hw
  rw [l_mul hx hy]
  exact h1
theorem G_ldiv {x y' : Int} (X : Cx p R s m args c cells slots D cI cZ cJ y d) (hd : decode (cod y) pc = .ok (.ldiv, 1)) (hz : y' ≠ 0) (kk : GG p l e R s m args below meth c cells slots QQ H0 A D ad cI cZ cJ S (pc + 1) lo (.inr (.inl (w64 (x.tdiv y'))) :: st) M) : GG p l e R s m args below meth c cells slots QQ H0 A D ad cI cZ cJ S (pc) lo (.inr (.inl y') :: .inr (.inl x) :: st) M := by
  intro ls H locs hl hs ho hw
  have hy := hs.head
  have hx := hs.tail.head
  refine lv_ldiv X.1 X.2.1 hd (fun q => hz ((l_eq hy (by omega : -9223372036854775808 ≤ (0 : Int) ∧ (0 : Int) < 9223372036854775808)).mp q)) ?_
  have h1 := kk ls H locs hl (hs.tail.tail.push (v := .inr (.inl (w64 (x.tdiv y')))) (w64_rng _)) ho hw
  rw [l_div hx hy]
  exact h1
theorem G_lcmp {x y' : Int} (X : Cx p R s m args c cells slots D cI cZ cJ y d) (hd : decode (cod y) pc = .ok (.lcmp, 1)) (kk : GG p l e R s m args below meth c cells slots QQ H0 A D ad cI cZ cJ S (pc + 1) lo (.inl (if x < y' then -1 else if x = y' then 0 else 1) :: st) M) : GG p l e R s m args below meth c cells slots QQ H0 A D ad cI cZ cJ S (pc) lo (.inr (.inl y') :: .inr (.inl x) :: st) M := by
  intro ls H locs hl hs ho hw
  have hy := hs.head
  have hx := hs.tail.head
  refine W.lcmp X.1 X.2.1 hd ?_
  have h1 := kk ls H locs hl (hs.tail.tail.push (v := .inl (if x < y' then -1 else if x = y' then 0 else 1)) (by show -2147483648 ≤ (if x < y' then (-1 : Int) else if x = y' then 0 else 1) ∧ _; split <;> (try split) <;> omega)) ho hw
  have e1 : lg_cmp (Int64.ofInt x) (Int64.ofInt y') = Int32.ofInt (if x < y' then -1 else if x = y' then 0 else 1) := by
    unfold lg_cmp
    simp only [gt_iff_lt, l_lt hy hx, l_eq hx hy]
    by_cases q1 : y' < x
    · rw [if_pos q1, if_neg (by omega), if_neg (by omega)]; rfl
    · rw [if_neg q1]
      by_cases q2 : x = y'
      · rw [if_pos q2, if_neg (by omega), if_pos q2]; rfl
      · rw [if_neg q2, if_pos (by omega)]; rfl
  rw [e1]
  exact h1
theorem en_1k {k : Nat} (h : kd k = 1) : ent ad cI cZ cJ M k = .inl (cI, (ln k).toNat, .inl (fun j => Int32.ofInt (M k (j : Int)))) := by unfold ent; rw [h]; rfl
theorem en_2k {k : Nat} (h : kd k = 2) : ent ad cI cZ cJ M k = .inl (cZ, (ln k).toNat, .inl (fun j => Int32.ofInt (M k (j : Int)))) := by unfold ent; rw [h]; rfl
theorem en_3k {k : Nat} (h : kd k = 3) : ent ad cI cZ cJ M k = .inl (cJ, (ln k).toNat, .inr (.inl (fun j => Int64.ofInt (M k (j : Int))))) := by unfold ent; rw [h]; rfl
theorem en_0k {k : Nat} (h : kd k = 0) : ent ad cI cZ cJ M k = .inr (oc k, fvs ad M k) := by unfold ent; rw [h]; rfl
theorem G_iaload {x : Int} {a : Nat} (X : Cx p R s m args c cells slots D cI cZ cJ y d) (hd : decode (cod y) pc = .ok (.iaload, 1)) (hk : kd a = 1) (h0 : 0 ≤ x) (h1 : x < ln a) (kk : GG p l e R s m args below meth c cells slots QQ H0 A D ad cI cZ cJ S (pc + 1) lo (.inl (M a x) :: st) M) : GG p l e R s m args below meth c cells slots QQ H0 A D ad cI cZ cJ S (pc) lo (.inl x :: .inr (.inr a) :: st) M := by
  intro ls H locs hl hs ho hw
  have ha := kd_lt hk (by decide)
  have hr := ln_rng a ha
  have hq := wsM_get (ad := ad) (cI := cI) (cZ := cZ) (cJ := cJ) (M := M) ha
  rw [en_1k hk] at hq
  refine va_iald (D := D) (cl := cls9) (tys := [(cI, .int), (cZ, .boolean), (cJ, .long)]) X.1 X.2.1 X.2.2.2.2.2.1 hw.1 a 0 hq rfl (i_in h0 (by omega) (by omega)) hd ?_
  have h2 := kk ls H locs hl (hs.tail.tail.push (v := .inl (M a x)) (hw.2.2.2.get (by omega) x)) ho hw
  rw [i_cl h0 (by omega), Int.toNat_of_nonneg h0]
  exact h2
theorem G_baload {x : Int} {a : Nat} (X : Cx p R s m args c cells slots D cI cZ cJ y d) (hd : decode (cod y) pc = .ok (.baload, 1)) (hk : kd a = 2) (h0 : 0 ≤ x) (h1 : x < ln a) (kk : GG p l e R s m args below meth c cells slots QQ H0 A D ad cI cZ cJ S (pc + 1) lo (.inl (M a x) :: st) M) : GG p l e R s m args below meth c cells slots QQ H0 A D ad cI cZ cJ S (pc) lo (.inl x :: .inr (.inr a) :: st) M := by
  intro ls H locs hl hs ho hw
  have ha := kd_lt hk (by decide)
  have hr := ln_rng a ha
  have hq := wsM_get (ad := ad) (cI := cI) (cZ := cZ) (cJ := cJ) (M := M) ha
  rw [en_2k hk] at hq
  refine va_zald (D := D) (cl := cls9) (tys := [(cI, .int), (cZ, .boolean), (cJ, .long)]) X.1 X.2.1 X.2.2.2.2.2.1 hw.1 a 1 hq rfl (i_in h0 (by omega) (by omega)) hd ?_
  have h2 := kk ls H locs hl (hs.tail.tail.push (v := .inl (M a x)) (hw.2.2.2.get (by omega) x)) ho hw
  rw [i_cl h0 (by omega), Int.toNat_of_nonneg h0]
  exact h2
theorem G_laload {x : Int} {a : Nat} (X : Cx p R s m args c cells slots D cI cZ cJ y d) (hd : decode (cod y) pc = .ok (.laload, 1)) (hk : kd a = 3) (h0 : 0 ≤ x) (h1 : x < ln a) (kk : GG p l e R s m args below meth c cells slots QQ H0 A D ad cI cZ cJ S (pc + 1) lo (.inr (.inl (M a x)) :: st) M) : GG p l e R s m args below meth c cells slots QQ H0 A D ad cI cZ cJ S (pc) lo (.inl x :: .inr (.inr a) :: st) M := by
  intro ls H locs hl hs ho hw
  have ha := kd_lt hk (by decide)
  have hr := ln_rng a ha
  have hq := wsM_get (ad := ad) (cI := cI) (cZ := cZ) (cJ := cJ) (M := M) ha
  rw [en_3k hk] at hq
  refine va_lald (D := D) (cl := cls9) (tys := [(cI, .int), (cZ, .boolean), (cJ, .long)]) X.1 X.2.1 X.2.2.2.2.2.1 hw.1 a 2 hq rfl (i_in h0 (by omega) (by omega)) hd ?_
  have h2 := kk ls H locs hl (hs.tail.tail.push (v := .inr (.inl (M a x))) (hw.2.2.2.getL hk x)) ho hw
  rw [i_cl h0 (by omega), Int.toNat_of_nonneg h0]
  exact h2
theorem up_me {k : Nat} {x v : Int} (h0 : 0 ≤ x) : upd (fun j => Int32.ofInt (M k (j : Int))) x.toNat (Int32.ofInt v) = fun j : Nat => Int32.ofInt (me_put M k x v k (j : Int)) := by
  funext j
  rw [me_eq]
  unfold upd
  by_cases h : j = x.toNat
  · rw [if_pos h, if_pos (by omega)]
  · rw [if_neg h, if_neg (by omega)]
theorem up_meL {k : Nat} {x v : Int} (h0 : 0 ≤ x) : vp_updL (fun j => Int64.ofInt (M k (j : Int))) x.toNat (Int64.ofInt v) = fun j : Nat => Int64.ofInt (me_put M k x v k (j : Int)) := by
  funext j
  rw [me_eq]
  unfold vp_updL
  by_cases h : j = x.toNat
  · rw [if_pos h, if_pos (by omega)]
  · rw [if_neg h, if_neg (by omega)]
theorem Wd.put {H H1 : Heap} {locs locs1 : List Loc} {k : Nat} {x v : Int} {E : va_E} (hw : Wd D A H0 ad cI cZ cJ S M H locs) (hk : k < 86) (hE : E = ent ad cI cZ cJ (me_put M k x v) k) (hv : rg k v) (hP : va_P D cls9 ((wsM ad cI cZ cJ M).set k (ad k, E)) H1) (hS : va_S A H0 H1 locs1) : Wd D A H0 ad cI cZ cJ S (me_put M k x v) H1 locs1 := by
  rw [wsM_set hk hE (fun j hj i => me_ne _ _ _ _ hj)] at hP
  exact ⟨hP, wsM_D hw.2.1, hS, hw.2.2.2.put hk hv⟩
theorem G_iastore {x v : Int} {a : Nat} (X : Cx p R s m args c cells slots D cI cZ cJ y d) (hd : decode (cod y) pc = .ok (.iastore, 1)) (hk : kd a = 1) (h0 : 0 ≤ x) (h1 : x < ln a) (kk : GG p l e R s m args below meth c cells slots QQ H0 A D ad cI cZ cJ S (pc + 1) lo (st) (me_put M a x v)) : GG p l e R s m args below meth c cells slots QQ H0 A D ad cI cZ cJ S (pc) lo (.inl v :: .inl x :: .inr (.inr a) :: st) M := by
  intro ls H locs hl hs ho hw
  have ha := kd_lt hk (by decide)
  have hr := ln_rng a ha
  have hv := hs.head
  have hq := wsM_get (ad := ad) (cI := cI) (cZ := cZ) (cJ := cJ) (M := M) ha
  rw [en_1k hk] at hq
  refine va_iast (D := D) (cl := cls9) (tys := [(cI, .int), (cZ, .boolean), (cJ, .long)]) X.1 X.2.1 X.2.2.2.2.2.1 hw.1 hw.2.1 hw.2.2.1 a 0 hq rfl (i_in h0 (by omega) (by omega)) hd (fun H1 locs1 hP _ hS => ?_)
  refine kk ls H1 locs1 hl hs.tail.tail.tail ho (hw.put ha ?_ (by unfold rg; rw [if_neg (by omega)]; exact hv) hP hS)
  rw [en_1k hk, i_cl h0 (by omega), up_me h0]
theorem G_bastore {x v : Int} {a : Nat} (X : Cx p R s m args c cells slots D cI cZ cJ y d) (hd : decode (cod y) pc = .ok (.bastore, 1)) (hk : kd a = 2) (hz : v = 0 ∨ v = 1) (h0 : 0 ≤ x) (h1 : x < ln a) (kk : GG p l e R s m args below meth c cells slots QQ H0 A D ad cI cZ cJ S (pc + 1) lo (st) (me_put M a x v)) : GG p l e R s m args below meth c cells slots QQ H0 A D ad cI cZ cJ S (pc) lo (.inl v :: .inl x :: .inr (.inr a) :: st) M := by
  intro ls H locs hl hs ho hw
  have ha := kd_lt hk (by decide)
  have hr := ln_rng a ha
  have hv := hs.head
  have hq := wsM_get (ad := ad) (cI := cI) (cZ := cZ) (cJ := cJ) (M := M) ha
  rw [en_2k hk] at hq
  refine va_zast (D := D) (cl := cls9) (tys := [(cI, .int), (cZ, .boolean), (cJ, .long)]) X.1 X.2.1 X.2.2.2.2.2.1 hw.1 hw.2.1 hw.2.2.1 a 1 hq rfl (i_in h0 (by omega) (by omega)) hd (fun H1 locs1 hP _ hS => ?_)
  refine kk ls H1 locs1 hl hs.tail.tail.tail ho (hw.put ha ?_ (by unfold rg; rw [if_neg (by omega)]; exact hv) hP hS)
  rw [en_2k hk, i_cl h0 (by omega), show vp_nar .boolean (Int32.ofInt v) = Int32.ofInt v by rcases hz with rfl | rfl <;> rfl, up_me h0]
theorem G_lastore {x v : Int} {a : Nat} (X : Cx p R s m args c cells slots D cI cZ cJ y d) (hd : decode (cod y) pc = .ok (.lastore, 1)) (hk : kd a = 3) (h0 : 0 ≤ x) (h1 : x < ln a) (kk : GG p l e R s m args below meth c cells slots QQ H0 A D ad cI cZ cJ S (pc + 1) lo (st) (me_put M a x v)) : GG p l e R s m args below meth c cells slots QQ H0 A D ad cI cZ cJ S (pc) lo (.inr (.inl v) :: .inl x :: .inr (.inr a) :: st) M := by
  intro ls H locs hl hs ho hw
  have ha := kd_lt hk (by decide)
  have hr := ln_rng a ha
  have hv := hs.head
  have hq := wsM_get (ad := ad) (cI := cI) (cZ := cZ) (cJ := cJ) (M := M) ha
  rw [en_3k hk] at hq
  refine va_last (D := D) (cl := cls9) (tys := [(cI, .int), (cZ, .boolean), (cJ, .long)]) X.1 X.2.1 X.2.2.2.2.2.1 hw.1 hw.2.1 hw.2.2.1 a 2 hq rfl (i_in h0 (by omega) (by omega)) hd (fun H1 locs1 hP _ hS => ?_)
  refine kk ls H1 locs1 hl hs.tail.tail.tail ho (hw.put ha ?_ (by unfold rg; rw [if_pos hk]; exact hv) hP hS)
  rw [en_3k hk, i_cl h0 (by omega), up_meL h0]
theorem G_alen {a : Nat} (X : Cx p R s m args c cells slots D cI cZ cJ y d) (hd : decode (cod y) pc = .ok (.arraylength, 1)) (hk : kd a = 1) (kk : GG p l e R s m args below meth c cells slots QQ H0 A D ad cI cZ cJ S (pc + 1) lo (.inl (ln a) :: st) M) : GG p l e R s m args below meth c cells slots QQ H0 A D ad cI cZ cJ S (pc) lo (.inr (.inr a) :: st) M := by
  intro ls H locs hl hs ho hw
  have ha := kd_lt hk (by decide)
  have hr := ln_rng a ha
  have hq := wsM_get (ad := ad) (cI := cI) (cZ := cZ) (cJ := cJ) (M := M) ha
  rw [en_1k hk] at hq
  refine va_alen (D := D) (cl := cls9) (tys := [(cI, .int), (cZ, .boolean), (cJ, .long)]) (v := Int32.ofInt (ln a)) X.1 X.2.1 X.2.2.2.2.2.1 hw.1 a 0 hq rfl ?_ hd (kk ls H locs hl (hs.tail.push (v := .inl (ln a)) ⟨by omega, by omega⟩) ho hw)
  show Int32.ofNat (ln a).toNat = Int32.ofInt (ln a)
  rw [← Int32.ofInt_eq_ofNat, Int.toNat_of_nonneg hr.1]
theorem G_if_eq {x : Int} {off : Int} {tgt : Nat} (X : Cx p R s m args c cells slots D cI cZ cJ y d) (hd : decode (cod y) pc = .ok (.ifCond .eq off, 3)) (ht : (pc : Int) + off = (tgt : Int)) (kt : x = 0 → GG p l e R s m args below meth c cells slots QQ H0 A D ad cI cZ cJ S (tgt) lo (st) M) (kf : ¬ x = 0 → GG p l e R s m args below meth c cells slots QQ H0 A D ad cI cZ cJ S (pc + 3) lo (st) M) : GG p l e R s m args below meth c cells slots QQ H0 A D ad cI cZ cJ S (pc) lo (.inl x :: st) M := by
  intro ls H locs hl hs ho hw
  have hz0 : -2147483648 ≤ (0 : Int) ∧ (0 : Int) < 2147483648 := by omega
  have hx := hs.head
  exact lv_if_eq X.1 X.2.1 hd ht (fun q => kt ((i_eq hx hz0).mp q) ls H locs hl hs.tail ho hw) (fun q => kf (fun q2 => q ((i_eq hx hz0).mpr q2)) ls H locs hl hs.tail ho hw)
theorem G_if_ne {x : Int} {off : Int} {tgt : Nat} (X : Cx p R s m args c cells slots D cI cZ cJ y d) (hd : decode (cod y) pc = .ok (.ifCond .ne off, 3)) (ht : (pc : Int) + off = (tgt : Int)) (kt : x ≠ 0 → GG p l e R s m args below meth c cells slots QQ H0 A D ad cI cZ cJ S (tgt) lo (st) M) (kf : ¬ x ≠ 0 → GG p l e R s m args below meth c cells slots QQ H0 A D ad cI cZ cJ S (pc + 3) lo (st) M) : GG p l e R s m args below meth c cells slots QQ H0 A D ad cI cZ cJ S (pc) lo (.inl x :: st) M := by
  intro ls H locs hl hs ho hw
  have hz0 : -2147483648 ≤ (0 : Int) ∧ (0 : Int) < 2147483648 := by omega
  have hx := hs.head
  exact lv_if_ne X.1 X.2.1 hd ht (fun q => kt (fun q2 => q ((i_eq hx hz0).mpr q2)) ls H locs hl hs.tail ho hw) (fun q => kf (fun q2 => q2 ((i_eq hx hz0).mp q)) ls H locs hl hs.tail ho hw)
theorem G_if_lt {x : Int} {off : Int} {tgt : Nat} (X : Cx p R s m args c cells slots D cI cZ cJ y d) (hd : decode (cod y) pc = .ok (.ifCond .lt off, 3)) (ht : (pc : Int) + off = (tgt : Int)) (kt : x < 0 → GG p l e R s m args below meth c cells slots QQ H0 A D ad cI cZ cJ S (tgt) lo (st) M) (kf : ¬ x < 0 → GG p l e R s m args below meth c cells slots QQ H0 A D ad cI cZ cJ S (pc + 3) lo (st) M) : GG p l e R s m args below meth c cells slots QQ H0 A D ad cI cZ cJ S (pc) lo (.inl x :: st) M := by
  intro ls H locs hl hs ho hw
  have hz0 : -2147483648 ≤ (0 : Int) ∧ (0 : Int) < 2147483648 := by omega
  have hx := hs.head
  exact lv_if_lt X.1 X.2.1 hd ht (fun q => kt ((i_lt hx hz0).mp q) ls H locs hl hs.tail ho hw) (fun q => kf (fun q2 => q ((i_lt hx hz0).mpr q2)) ls H locs hl hs.tail ho hw)
theorem G_if_ge {x : Int} {off : Int} {tgt : Nat} (X : Cx p R s m args c cells slots D cI cZ cJ y d) (hd : decode (cod y) pc = .ok (.ifCond .ge off, 3)) (ht : (pc : Int) + off = (tgt : Int)) (kt : x ≥ 0 → GG p l e R s m args below meth c cells slots QQ H0 A D ad cI cZ cJ S (tgt) lo (st) M) (kf : ¬ x ≥ 0 → GG p l e R s m args below meth c cells slots QQ H0 A D ad cI cZ cJ S (pc + 3) lo (st) M) : GG p l e R s m args below meth c cells slots QQ H0 A D ad cI cZ cJ S (pc) lo (.inl x :: st) M := by
  intro ls H locs hl hs ho hw
  have hz0 : -2147483648 ≤ (0 : Int) ∧ (0 : Int) < 2147483648 := by omega
  have hx := hs.head
  exact lv_if_ge X.1 X.2.1 hd ht (fun q => kt ((i_le hz0 hx).mp q) ls H locs hl hs.tail ho hw) (fun q => kf (fun q2 => q ((i_le hz0 hx).mpr q2)) ls H locs hl hs.tail ho hw)
theorem G_if_gt {x : Int} {off : Int} {tgt : Nat} (X : Cx p R s m args c cells slots D cI cZ cJ y d) (hd : decode (cod y) pc = .ok (.ifCond .gt off, 3)) (ht : (pc : Int) + off = (tgt : Int)) (kt : x > 0 → GG p l e R s m args below meth c cells slots QQ H0 A D ad cI cZ cJ S (tgt) lo (st) M) (kf : ¬ x > 0 → GG p l e R s m args below meth c cells slots QQ H0 A D ad cI cZ cJ S (pc + 3) lo (st) M) : GG p l e R s m args below meth c cells slots QQ H0 A D ad cI cZ cJ S (pc) lo (.inl x :: st) M := by
  intro ls H locs hl hs ho hw
  have hz0 : -2147483648 ≤ (0 : Int) ∧ (0 : Int) < 2147483648 := by omega
  have hx := hs.head
  exact lv_if_gt X.1 X.2.1 hd ht (fun q => kt ((i_lt hz0 hx).mp q) ls H locs hl hs.tail ho hw) (fun q => kf (fun q2 => q ((i_lt hz0 hx).mpr q2)) ls H locs hl hs.tail ho hw)
theorem G_if_le {x : Int} {off : Int} {tgt : Nat} (X : Cx p R s m args c cells slots D cI cZ cJ y d) (hd : decode (cod y) pc = .ok (.ifCond .le off, 3)) (ht : (pc : Int) + off = (tgt : Int)) (kt : x ≤ 0 → GG p l e R s m args below meth c cells slots QQ H0 A D ad cI cZ cJ S (tgt) lo (st) M) (kf : ¬ x ≤ 0 → GG p l e R s m args below meth c cells slots QQ H0 A D ad cI cZ cJ S (pc + 3) lo (st) M) : GG p l e R s m args below meth c cells slots QQ H0 A D ad cI cZ cJ S (pc) lo (.inl x :: st) M := by
  intro ls H locs hl hs ho hw
  have hz0 : -2147483648 ≤ (0 : Int) ∧ (0 : Int) < 2147483648 := by omega
  have hx := hs.head
  exact lv_if_le X.1 X.2.1 hd ht (fun q => kt ((i_le hx hz0).mp q) ls H locs hl hs.tail ho hw) (fun q => kf (fun q2 => q ((i_le hx hz0).mpr q2)) ls H locs hl hs.tail ho hw)
theorem G_icmp_eq {x y' : Int} {off : Int} {tgt : Nat} (X : Cx p R s m args c cells slots D cI cZ cJ y d) (hd : decode (cod y) pc = .ok (.if_icmp .eq off, 3)) (ht : (pc : Int) + off = (tgt : Int)) (kt : x = y' → GG p l e R s m args below meth c cells slots QQ H0 A D ad cI cZ cJ S (tgt) lo (st) M) (kf : ¬ x = y' → GG p l e R s m args below meth c cells slots QQ H0 A D ad cI cZ cJ S (pc + 3) lo (st) M) : GG p l e R s m args below meth c cells slots QQ H0 A D ad cI cZ cJ S (pc) lo (.inl y' :: .inl x :: st) M := by
  intro ls H locs hl hs ho hw
  have hy := hs.head
  have hx := hs.tail.head
  exact lv_icmp_eq X.1 X.2.1 hd ht (fun q => kt ((i_eq hx hy).mp q) ls H locs hl hs.tail.tail ho hw) (fun q => kf (fun q2 => q ((i_eq hx hy).mpr q2)) ls H locs hl hs.tail.tail ho hw)
theorem G_icmp_ne {x y' : Int} {off : Int} {tgt : Nat} (X : Cx p R s m args c cells slots D cI cZ cJ y d) (hd : decode (cod y) pc = .ok (.if_icmp .ne off, 3)) (ht : (pc : Int) + off = (tgt : Int)) (kt : x ≠ y' → GG p l e R s m args below meth c cells slots QQ H0 A D ad cI cZ cJ S (tgt) lo (st) M) (kf : ¬ x ≠ y' → GG p l e R s m args below meth c cells slots QQ H0 A D ad cI cZ cJ S (pc + 3) lo (st) M) : GG p l e R s m args below meth c cells slots QQ H0 A D ad cI cZ cJ S (pc) lo (.inl y' :: .inl x :: st) M := by
  intro ls H locs hl hs ho hw
  have hy := hs.head
  have hx := hs.tail.head
  exact lv_icmp_ne X.1 X.2.1 hd ht (fun q => kt (fun q2 => q ((i_eq hx hy).mpr q2)) ls H locs hl hs.tail.tail ho hw) (fun q => kf (fun q2 => q2 ((i_eq hx hy).mp q)) ls H locs hl hs.tail.tail ho hw)
theorem G_icmp_lt {x y' : Int} {off : Int} {tgt : Nat} (X : Cx p R s m args c cells slots D cI cZ cJ y d) (hd : decode (cod y) pc = .ok (.if_icmp .lt off, 3)) (ht : (pc : Int) + off = (tgt : Int)) (kt : x < y' → GG p l e R s m args below meth c cells slots QQ H0 A D ad cI cZ cJ S (tgt) lo (st) M) (kf : ¬ x < y' → GG p l e R s m args below meth c cells slots QQ H0 A D ad cI cZ cJ S (pc + 3) lo (st) M) : GG p l e R s m args below meth c cells slots QQ H0 A D ad cI cZ cJ S (pc) lo (.inl y' :: .inl x :: st) M := by
  intro ls H locs hl hs ho hw
  have hy := hs.head
  have hx := hs.tail.head
  exact lv_icmp_lt X.1 X.2.1 hd ht (fun q => kt ((i_lt hx hy).mp q) ls H locs hl hs.tail.tail ho hw) (fun q => kf (fun q2 => q ((i_lt hx hy).mpr q2)) ls H locs hl hs.tail.tail ho hw)
theorem G_icmp_ge {x y' : Int} {off : Int} {tgt : Nat} (X : Cx p R s m args c cells slots D cI cZ cJ y d) (hd : decode (cod y) pc = .ok (.if_icmp .ge off, 3)) (ht : (pc : Int) + off = (tgt : Int)) (kt : x ≥ y' → GG p l e R s m args below meth c cells slots QQ H0 A D ad cI cZ cJ S (tgt) lo (st) M) (kf : ¬ x ≥ y' → GG p l e R s m args below meth c cells slots QQ H0 A D ad cI cZ cJ S (pc + 3) lo (st) M) : GG p l e R s m args below meth c cells slots QQ H0 A D ad cI cZ cJ S (pc) lo (.inl y' :: .inl x :: st) M := by
  intro ls H locs hl hs ho hw
  have hy := hs.head
  have hx := hs.tail.head
  exact lv_icmp_ge X.1 X.2.1 hd ht (fun q => kt ((i_le hy hx).mp q) ls H locs hl hs.tail.tail ho hw) (fun q => kf (fun q2 => q ((i_le hy hx).mpr q2)) ls H locs hl hs.tail.tail ho hw)
theorem G_icmp_gt {x y' : Int} {off : Int} {tgt : Nat} (X : Cx p R s m args c cells slots D cI cZ cJ y d) (hd : decode (cod y) pc = .ok (.if_icmp .gt off, 3)) (ht : (pc : Int) + off = (tgt : Int)) (kt : x > y' → GG p l e R s m args below meth c cells slots QQ H0 A D ad cI cZ cJ S (tgt) lo (st) M) (kf : ¬ x > y' → GG p l e R s m args below meth c cells slots QQ H0 A D ad cI cZ cJ S (pc + 3) lo (st) M) : GG p l e R s m args below meth c cells slots QQ H0 A D ad cI cZ cJ S (pc) lo (.inl y' :: .inl x :: st) M := by
  intro ls H locs hl hs ho hw
  have hy := hs.head
  have hx := hs.tail.head
  exact lv_icmp_gt X.1 X.2.1 hd ht (fun q => kt ((i_lt hy hx).mp q) ls H locs hl hs.tail.tail ho hw) (fun q => kf (fun q2 => q ((i_lt hy hx).mpr q2)) ls H locs hl hs.tail.tail ho hw)
theorem G_icmp_le {x y' : Int} {off : Int} {tgt : Nat} (X : Cx p R s m args c cells slots D cI cZ cJ y d) (hd : decode (cod y) pc = .ok (.if_icmp .le off, 3)) (ht : (pc : Int) + off = (tgt : Int)) (kt : x ≤ y' → GG p l e R s m args below meth c cells slots QQ H0 A D ad cI cZ cJ S (tgt) lo (st) M) (kf : ¬ x ≤ y' → GG p l e R s m args below meth c cells slots QQ H0 A D ad cI cZ cJ S (pc + 3) lo (st) M) : GG p l e R s m args below meth c cells slots QQ H0 A D ad cI cZ cJ S (pc) lo (.inl y' :: .inl x :: st) M := by
  intro ls H locs hl hs ho hw
  have hy := hs.head
  have hx := hs.tail.head
  exact lv_icmp_le X.1 X.2.1 hd ht (fun q => kt ((i_le hx hy).mp q) ls H locs hl hs.tail.tail ho hw) (fun q => kf (fun q2 => q ((i_le hx hy).mpr q2)) ls H locs hl hs.tail.tail ho hw)
theorem G_goto {off : Int} {tgt : Nat} (X : Cx p R s m args c cells slots D cI cZ cJ y d) (hd : decode (cod y) pc = .ok (.goto off, 3)) (ht : (pc : Int) + off = (tgt : Int)) (kk : GG p l e R s m args below meth c cells slots QQ H0 A D ad cI cZ cJ S (tgt) lo (st) M) : GG p l e R s m args below meth c cells slots QQ H0 A D ad cI cZ cJ S (pc) lo (st) M := by
  intro ls H locs hl hs ho hw
  exact lv_goto X.1 X.2.1 hd ht (kk ls H locs hl hs ho hw)
theorem G_dup {v : AV} (X : Cx p R s m args c cells slots D cI cZ cJ y d) (hd : decode (cod y) pc = .ok (.dup, 1)) (hv : (cvv ad v).category = 1) (kk : GG p l e R s m args below meth c cells slots QQ H0 A D ad cI cZ cJ S (pc + 1) lo (v :: v :: st) M) : GG p l e R s m args below meth c cells slots QQ H0 A D ad cI cZ cJ S (pc) lo (v :: st) M := by
  intro ls H locs hl hs ho hw
  exact lv_dup X.1 X.2.1 hd hv (kk ls H locs hl (hs.push hs.head) ho hw)
theorem G_dup2 {v u : AV} (X : Cx p R s m args c cells slots D cI cZ cJ y d) (hd : decode (cod y) pc = .ok (.dup2, 1)) (hv : (cvv ad v).category = 1) (hu : (cvv ad u).category = 1) (kk : GG p l e R s m args below meth c cells slots QQ H0 A D ad cI cZ cJ S (pc + 1) lo (v :: u :: v :: u :: st) M) : GG p l e R s m args below meth c cells slots QQ H0 A D ad cI cZ cJ S (pc) lo (v :: u :: st) M := by
  intro ls H locs hl hs ho hw
  exact lv_dup2_11 X.1 X.2.1 hd hv hu (kk ls H locs hl ((hs.push hs.tail.head).push hs.head) ho hw)
theorem G_pop {v : AV} (X : Cx p R s m args c cells slots D cI cZ cJ y d) (hd : decode (cod y) pc = .ok (.pop, 1)) (hv : (cvv ad v).category = 1) (kk : GG p l e R s m args below meth c cells slots QQ H0 A D ad cI cZ cJ S (pc + 1) lo (st) M) : GG p l e R s m args below meth c cells slots QQ H0 A D ad cI cZ cJ S (pc) lo (v :: st) M := by
  intro ls H locs hl hs ho hw
  exact lv_pop X.1 X.2.1 hd hv (kk ls H locs hl hs.tail ho hw)
theorem G_switch {df lo' hi : Int} {offs : Array Int} {len : Nat} {x : Int} {id : Nat} (X : Cx p R s m args c cells slots D cI cZ cJ y d) (hd : decode (cod y) pc = .ok (.tableswitch df lo' hi offs, len)) (h1 : (sw id).1 = lo') (h2 : hi = lo' + ((sw id).2.1.length : Int) - 1) (h3 : (pc : Int) + df = (bpc y (sw id).2.2 : Int)) (h4 : ∀ j, j < (sw id).2.1.length → offs[j]? = some ((bpc y (nt (sw id).2.2 (sw id).2.1 j) : Int) - pc)) (kk : GG p l e R s m args below meth c cells slots QQ H0 A D ad cI cZ cJ S (bpc y (swj (sw id) x)) lo (st) M) : GG p l e R s m args below meth c cells slots QQ H0 A D ad cI cZ cJ S (pc) lo (.inl x :: st) M := by
  intro ls H locs hl hs ho hw
  have hx := hs.head
  have h5 := kk ls H locs hl hs.tail ho hw
  unfold swj at h5
  rw [h1] at h5
  by_cases q1 : x < lo'
  · rw [if_pos q1] at h5
    exact lv_tableOut X.1 X.2.1 hd (Or.inl (by rw [i_of hx]; exact q1)) h3 h5
  · rw [if_neg q1] at h5
    by_cases q2 : hi < x
    · rw [nt_get, List.getElem?_eq_none (by omega), Option.getD_none] at h5
      exact lv_tableOut X.1 X.2.1 hd (Or.inr (by rw [i_of hx]; exact q2)) h3 h5
    · exact lv_tableIn X.1 X.2.1 hd (by rw [i_of hx]; exact q1) (by rw [i_of hx]; exact q2) (by rw [i_of hx]; exact h4 _ (by omega)) (by omega) h5
end GS
end
section
theorem clC : ∀ ci, ci < 9 → cls9[ci]? = some (clR ci, clT ci, clN ci) := by
  intro ci h
  match ci, h with
  | 0, _ => rfl
  | 1, _ => rfl
  | 2, _ => rfl
  | 3, _ => rfl
  | 4, _ => rfl
  | 5, _ => rfl
  | 6, _ => rfl
  | 7, _ => rfl
  | 8, _ => rfl
theorem clY_ok : ∀ ci, ci < 9 → ∀ k, k < clN ci → parseFieldDescriptor (clT ci k).2.2.1 = some (clY ci k) := by
  intro ci h
  match ci, h with
  | 0, _ => exact tyX0_ok
  | 1, _ => exact tyX1_ok
  | 2, _ => exact tyX2_ok
  | 3, _ => exact tyX3_ok
  | 4, _ => exact tyX4_ok
  | 5, _ => exact tyX5_ok
  | 6, _ => exact tyX6_ok
  | 7, _ => exact tyX7_ok
  | 8, _ => exact tyX8_ok
theorem clM_ok : ∀ ci, ci < 9 → ∀ a, a < clN ci → ∀ b, b < clN ci → a ≠ b → (clT ci a).2.1 ≠ (clT ci b).2.1 := by
  intro ci h
  match ci, h with
  | 0, _ => exact nmX0
  | 1, _ => exact nmX1
  | 2, _ => exact nmX2
  | 3, _ => exact nmX3
  | 4, _ => exact nmX4
  | 5, _ => exact nmX5
  | 6, _ => exact nmX6
  | 7, _ => exact nmX7
  | 8, _ => exact nmX8
theorem clW_ok : ((List.range 9).all fun ci => (u_ws (clR ci) (clT ci) (clN ci)).all fun w => decide (w ∈ lw_tbl) && goodWord w) = true := by decide +kernel
theorem clW {ci : Nat} (h : ci < 9) : ∀ w ∈ u_ws (clR ci) (clT ci) (clN ci), w ∈ lw_ok := by
  intro w hw
  have h1 := List.all_eq_true.mp (List.all_eq_true.mp clW_ok ci (List.mem_range.mpr h)) w hw
  rw [Bool.and_eq_true] at h1
  exact ok_in (of_decide_eq_true h1.1) h1.2
theorem flR_ok : (flL.all fun q => decide (q.1.2.2.1 < 9 ∧ q.1.2.2.2 < clN q.1.2.2.1)) = true := by decide +kernel
theorem fkY_ok : ∀ o, o < 86 → oc o < 9 → ∀ k, k < clN (oc o) → (fk o k = 0 → clY (oc o) k = .int) ∧ (fk o k = 1 → clY (oc o) k = .boolean) := by decide +kernel
theorem flL_in {q : (Nat × Nat × Nat × Nat) × Nat} (h : q ∈ flL) : Cond.fieldLink (clR q.1.1) q.1.2.1 (clT q.1.2.2.1 q.1.2.2.2).1 (clT q.1.2.2.1 q.1.2.2.2).2.1 (clT q.1.2.2.1 q.1.2.2.2).2.2.1 ∈ lw_ok := by
  have := List.all_eq_true.mp flL_ok q h
  exact at_in (of_decide_eq_true this) rfl
section GT
variable {p : Program} {l : Launch} {e : Env} {R : Room} {s : State} {m : MethodId} {args : Array Value} {below : List Frame} {meth : Method} {c : Code} {cells slots : Nat} {QQ : State → Prop} {H0 : Heap} {A : Nat → Prop} {D : va_G} {ad : Nat → Nat} {cI cZ cJ : ClassId} {S : Me} {y d pc : Nat} {lo : Lo} {st : St} {M : Me}
theorem fvs_get {o k : Nat} (h : k < clN (oc o)) : (fvs ad M o)[k]? = some (fvl ad M o k) := by
  simp [fvs, List.getElem?_map, List.getElem?_range h]
theorem fvl_I {o k : Nat} (h : fk o k = 0 ∨ fk o k = 1) : fvl ad M o k = .int (Int32.ofInt (M o k)) := by
  unfold fvl
  rcases h with h | h <;> rw [h]
theorem fvl_R {o k r : Nat} (h : fk o k = r + 2) : fvl ad M o k = .ref (ad r) := by
  unfold fvl
  rw [h]
theorem G_get {ix o k : Nat} {v : AV} (X : Cx p R s m args c cells slots D cI cZ cJ y d) (hd : decode (cod y) pc = .ok (.getfield ix, 3)) (hf : flq y ix (22, k, (oc o : Int)) = true ∨ (ow y = 7 ∧ ix = 211 ∧ (k = 0 ∧ (oc o : Int) = 2))) (hv : cvv ad v = fvl ad M o k) (ok : okM S M → okV v) (kk : GG p l e R s m args below meth c cells slots QQ H0 A D ad cI cZ cJ S (pc + 3) lo (v :: st) M) : GG p l e R s m args below meth c cells slots QQ H0 A D ad cI cZ cJ S pc lo (.inr (.inr o) :: st) M := by
  intro ls H locs hl hs ho hw
  rcases hf with hf | ⟨h1, rfl, rfl, h3⟩
  · obtain ⟨q, hq, e1⟩ := List.any_eq_true.mp hf
    obtain ⟨e2, e3, e4, e5⟩ := of_decide_eq_true e1
    have e6 : q.1.2.2.1 = oc o := by
      have : (q.1.2.2.1 : Int) = (oc o : Int) := e4
      omega
    have e7 : q.1.2.2.2 = k := e5
    have hr := of_decide_eq_true (List.all_eq_true.mp flR_ok q hq)
    have hi := flL_in hq
    rw [e2, e3, e6, e7] at hi
    rw [e6, e7] at hr
    have ho8 := oc_lt (k := o) rfl (by omega)
    have hk0 := oc_kd o ho8 hr.1
    have hg := wsM_get (ad := ad) (cI := cI) (cZ := cZ) (cJ := cJ) (M := M) ho8
    rw [en_0k hk0] at hg
    refine va_get (D := D) (cl := cls9) (C := clR (oc o)) (T := clT (oc o)) (N := clN (oc o)) (v := cvv ad v) X.1 X.2.1 X.2.2.2.2.1 (clW hr.1) X.2.2.2.1 X.2.2.2.2.2.1 hw.1 o hg (clC _ hr.1) k hr.2 (X.2.2.2.2.1 _ hi) (fun _ h9 => h9) ?_ hd (kk ls H locs hl (hs.tail.push (ok hw.2.2.2)) ho hw)
    rw [fvs_get hr.2, hv]
  · have e6 : oc o = 2 := by omega
    have ho8 := oc_lt (k := o) rfl (by omega)
    have hk0 := oc_kd o ho8 (by omega)
    have hg := wsM_get (ad := ad) (cI := cI) (cZ := cZ) (cJ := cJ) (M := M) ho8
    rw [en_0k hk0, e6] at hg
    refine va_getN (D := D) (cl := cls9) (own := clR (ow y)) (ref := "FloodCells$Flight") (C := clR 2) (T := clT 2) (N := clN 2) (host := "FloodCells") (index := 211) (v := cvv ad v) X.1 X.2.1 X.2.2.2.2.1 (clW (by omega)) X.2.2.2.1 X.2.2.2.2.2.1 hw.1 o hg (clC _ (by omega)) 0 (by decide) ?_ (fun _ h9 => h9) ?_ hd (kk ls H locs hl (hs.tail.push (ok hw.2.2.2)) ho hw)
    · rw [h1]
      exact va_Nw.use rfl X.2.2.2.2.2.2.2.1
    · rw [fvs_get (by rw [e6]; decide), hv]
theorem fvs_set {o k : Nat} {v : Int} (hk : k < clN (oc o)) (hf : fk o k = 0 ∨ fk o k = 1) : (fvs ad M o).set k (.int (Int32.ofInt v)) = fvs ad (me_put M o k v) o := by
  apply List.ext_getElem?
  intro j
  rw [List.getElem?_set]
  by_cases hj : k = j
  · subst hj
    rw [if_pos rfl, fvs_get hk, fvl_I hf, me_self]
    simp [fvs, hk]
  · rw [if_neg hj]
    by_cases h2 : j < clN (oc o)
    · rw [fvs_get h2, fvs_get h2]
      have : me_put M o k v o (j : Int) = M o (j : Int) := by
        rw [me_eq, if_neg (by omega)]
      unfold fvl
      rw [this]
    · rw [List.getElem?_eq_none (by simp [fvs]; omega), List.getElem?_eq_none (by simp [fvs]; omega)]
theorem G_put {ix o k : Nat} {v : Int} (X : Cx p R s m args c cells slots D cI cZ cJ y d) (hd : decode (cod y) pc = .ok (.putfield ix, 3)) (hf : flw y ix (23, k, (oc o : Int)) = true) (hv : fk o k = 0 ∨ (fk o k = 1 ∧ (v = 0 ∨ v = 1))) (kk : GG p l e R s m args below meth c cells slots QQ H0 A D ad cI cZ cJ S (pc + 3) lo st (me_put M o k v)) : GG p l e R s m args below meth c cells slots QQ H0 A D ad cI cZ cJ S pc lo (.inl v :: .inr (.inr o) :: st) M := by
  intro ls H locs hl hs ho hw
  obtain ⟨q, hq, e1⟩ := List.any_eq_true.mp hf
  obtain ⟨e2, e3, e4, e5, e8, e9, e10⟩ := of_decide_eq_true e1
  have e6 : q.1.2.2.1 = oc o := by
    have : (q.1.2.2.1 : Int) = (oc o : Int) := e4
    omega
  have e7 : q.1.2.2.2 = k := e5
  have hi := flL_in hq
  rw [e2, e3, e6, e7] at hi
  rw [e6] at e9
  rw [e6, e7] at e8 e10
  have ho8 := oc_lt (k := o) rfl (by omega)
  have hk0 := oc_kd o ho8 e9
  have hg := wsM_get (ad := ad) (cI := cI) (cZ := cZ) (cJ := cJ) (M := M) ho8
  rw [en_0k hk0] at hg
  have hy := fkY_ok o ho8 e9 k e8
  have hvr : -2147483648 ≤ v ∧ v < 2147483648 := hs.head
  have hn : narrow (clY (oc o) k) (.int (Int32.ofInt v)) = .int (Int32.ofInt v) := by
    rcases hv with h | ⟨h, h2⟩
    · rw [hy.1 h]; rfl
    · rw [hy.2 h]; exact i_zn h2
  have hfit : fits (clY (oc o) k) (.int (Int32.ofInt v)) = true := by
    rcases hv with h | ⟨h, h2⟩
    · rw [hy.1 h]; rfl
    · rw [hy.2 h]
      rcases h2 with rfl | rfl <;> rfl
  refine va_put (D := D) (cl := cls9) (C := clR (oc o)) (T := clT (oc o)) (N := clN (oc o)) (ty := clY (oc o) k) (v := .int (Int32.ofInt v)) X.1 X.2.1 X.2.2.2.2.1 (clW e9) (clY (oc o)) (clY_ok _ e9) (clM_ok _ e9) X.2.2.2.1 X.2.2.2.2.2.1 hw.1 hw.2.1 hw.2.2.1 o hg (clC _ e9) k e8 (X.2.2.2.2.1 _ hi) (fun _ h9 => h9) e10 (clY_ok _ e9 k e8) hn hfit (by simp [fvs]; exact e8) hd (fun H1 locs1 hP _ hS => ?_)
  refine kk ls H1 locs1 hl hs.tail.tail ho (hw.put ho8 ?_ (by unfold rg; rw [if_neg (by omega)]; exact hvr) hP hS)
  rw [en_0k hk0, fvs_set e8 (by rcases hv with h | h; exact Or.inl h; exact Or.inr h.1)]
theorem maL_ok : (lw_tbl[541]? = some (Cond.methodLink (clR 3) 110 Lib.Math.max.name)) ∧ (lw_tbl[674]? = some (Cond.methodLink (clR 2) 153 Lib.Math.min.name)) ∧ (lw_tbl[545]? = some (Cond.methodLink (clR 3) 121 Lib.MathLoose.min_long.x)) ∧ (lw_tbl[582]? = some (Cond.methodLink (clR 3) 31 arraycopyName)) ∧ (lw_tbl[585]? = some (Cond.methodLink (clR 4) 35 arraycopyName)) ∧ (lw_tbl[636]? = some (Cond.methodLink (clR 2) 79 arraycopyName)) := by decide +kernel
end GT
end
section
/-! a call: the callee's run as a contract -/
abbrev tys3 (cI cZ cJ : ClassId) : List (ClassId × FieldType) := [(cI, .int), (cZ, .boolean), (cJ, .long)]
def wsZ (z : Nat) : List Cond := Cond.code (nam z) (cod z) (mxl z) (rty z) :: lw_ok
def rmZ (d : Nat) : Room := { frames := d + 1, cells := 0, slots := 0, locals := 34 * d + 40 }
def PcZ (D : va_G) (ad : Nat → Nat) (cI cZ cJ : ClassId) (M : Me) (as : List AV) (sz : Nat) : Array Value → State → Prop := va_Pc (as.map (cvv ad)) (fun U => U.heap.size = sz ∧ va_P D cls9 (wsM ad cI cZ cJ M) U.heap ∧ va_K D cls9 (tys3 cI cZ cJ) U ∧ va_D (fun _ => True) (wsM ad cI cZ cJ M) ∧ va_Nw nsF U ∧ va_Nw nsM U)
def QcI (D : va_G) (ad : Nat → Nat) (cI cZ cJ : ClassId) (S M : Me) (Q : Int → Me → Prop) (sz : Nat) : Array Value → State → Outcome → State → Prop := va_Qi (S := Int × Me) (fun r u => r = Int32.ofInt u.1 ∧ Q u.1 u.2 ∧ (-2147483648 ≤ u.1 ∧ u.1 < 2147483648) ∧ okM S u.2) (fun u t => va_P D cls9 (wsM ad cI cZ cJ u.2) t.heap) (va_A (wsM ad cI cZ cJ M) sz)
def QcV (D : va_G) (ad : Nat → Nat) (cI cZ cJ : ClassId) (S M : Me) (Q : Int → Me → Prop) (sz : Nat) : Array Value → State → Outcome → State → Prop := va_Qv (S := Int × Me) (fun u => Q u.1 u.2 ∧ okM S u.2) (fun u t => va_P D cls9 (wsM ad cI cZ cJ u.2) t.heap) (va_A (wsM ad cI cZ cJ M) sz)
theorem tbZ : ((List.range 133).all fun z => decide ((nam z).cls = clR (ow z) ∧ plainName (nam z).cls = true ∧ (nam z).cls ≠ "java/lang/invoke/MethodHandle" ∧ (nam z).cls ≠ "java/lang/invoke/VarHandle" ∧ nar z ≤ mxl z ∧ mxl z ≤ 15 ∧ (parseMethodDescriptor (nam z).desc).map (fun d => d.parameters.length) = some (if ist z then nar z else nar z - 1) ∧ (z ≠ 0 → bpc z 0 = 0))) = true := by decide +kernel
theorem tbz {z : Nat} (h : z < 133) : (nam z).cls = clR (ow z) ∧ plainName (nam z).cls = true ∧ (nam z).cls ≠ "java/lang/invoke/MethodHandle" ∧ (nam z).cls ≠ "java/lang/invoke/VarHandle" ∧ nar z ≤ mxl z ∧ mxl z ≤ 15 ∧ (parseMethodDescriptor (nam z).desc).map (fun d => d.parameters.length) = some (if ist z then nar z else nar z - 1) ∧ (z ≠ 0 → bpc z 0 = 0) := of_decide_eq_true (List.all_eq_true.mp tbZ z (List.mem_range.mpr h))
/-- the script, where the law runs -/
def Sc (s : State) (H0 : Heap) (A : Nat → Prop) (ad : Nat → Nat) (S : Me) (y : Nat) : Prop := y = 0 → ∃ (L : Nat) (xs : Nat → Int32), va_X (ad 99) L xs s H0 ∧ ad 99 < H0.size ∧ ¬ A (ad 99) ∧ L ≤ 3072 ∧ S 98 0 = L ∧ ∀ j : Nat, j < L → S 99 j = (xs j).toInt
def Kr (p : Program) (l : Launch) (e : Env) (R : Room) (s : State) (m : MethodId) (args : Array Value) (below : List Frame) (meth : Method) (c : Code) (cells slots : Nat) (QQ : State → Prop) (H0 : Heap) (A : Nat → Prop) (D : va_G) (ad : Nat → Nat) (cI cZ cJ : ClassId) (S : Me) (y : Nat) (Q : Int → Me → Prop) : Prop :=
  ∀ (v : Int) (M : Me) (pc : Nat) (ls : Array Slot) (H : Heap) (locs : List Loc), Q v M → (-2147483648 ≤ v ∧ v < 2147483648) → Wd D A H0 ad cI cZ cJ S M H locs →
    (rty y = none → decode (cod y) pc = .ok (.return_, 1) → W p l e R s m args below meth c H locs cells slots QQ (F0 m pc ls [])) ∧
    (∀ ty, rty y = some ty → narrow ty (.int (Int32.ofInt v)) = .int (Int32.ofInt v) → decode (cod y) pc = .ok (.ireturn, 1) → W p l e R s m args below meth c H locs cells slots QQ (F0 m pc ls [.int (Int32.ofInt v)]))
def Snd (l : Launch) (S : Me) (n : Nat) : Prop := ∀ (d : Nat) (ops : List Op) (y : Nat) (lo : Lo) (st : St) (M : Me) (Q : Int → Me → Prop), wpf n d ops y lo st M Q → ∀ (p : Program) (e : Env) (R : Room) (s : State) (m : MethodId) (args : Array Value) (below : List Frame) (meth : Method) (c : Code) (cells slots : Nat) (QQ : State → Prop) (H0 : Heap) (A : Nat → Prop) (D : va_G) (ad : Nat → Nat) (cI cZ cJ : ClassId) (pc : Nat), Cx p R s m args c cells slots D cI cZ cJ y d → okB y ops pc = true → Sc s H0 A ad S y → y < 133 → (∀ q, H0.size ≤ q → A q) → lo.length = mxl y → Kr p l e R s m args below meth c cells slots QQ H0 A D ad cI cZ cJ S y Q → GG p l e R s m args below meth c cells slots QQ H0 A D ad cI cZ cJ S pc lo st M
theorem nlg_cat {ad : Nat → Nat} : ∀ {as : List AV}, nlg as = true → ∀ v ∈ as, (cvv ad v).category = 1
  | [], _, v, h => by simp at h
  | .inl x :: l, h, v, hv => by
    rcases List.mem_cons.mp hv with rfl | h2
    · rfl
    · exact nlg_cat (as := l) h v h2
  | .inr (.inr x) :: l, h, v, hv => by
    rcases List.mem_cons.mp hv with rfl | h2
    · rfl
    · exact nlg_cat (as := l) h v h2
theorem sl_len : ∀ (vs : List Value), (∀ v ∈ vs, v.category = 1) → (lg_sl vs).length = vs.length
  | [], _ => rfl
  | v :: vs, h => by
    have h1 := h v List.mem_cons_self
    have h2 := sl_len vs (fun u hu => h u (List.mem_cons_of_mem _ hu))
    unfold lg_sl at h2 ⊢
    rw [List.flatMap_cons, if_neg (by omega), List.length_append, h2]
    simp; omega
theorem args_mem : ∀ (vs : List Value) (i : Nat), (∀ v ∈ vs, v.category = 1) → ∀ (j : Nat) (v : Value), vs[j]? = some v → (i + j, v) ∈ lv_args i vs
  | [], _, _, _, _, h => by simp at h
  | u :: vs, i, h, 0, v, hv => by
    simp at hv
    subst hv
    exact List.mem_cons_self
  | u :: vs, i, h, j + 1, v, hv => by
    have h1 := h u List.mem_cons_self
    have h2 := args_mem vs (i + 1) (fun w hw => h w (List.mem_cons_of_mem _ hw)) j v (by simpa using hv)
    unfold lv_args
    rw [if_neg (by omega), show i + (j + 1) = i + 1 + j by omega]
    exact List.mem_cons_of_mem _ h2
theorem en_len {z : Nat} {as : List AV} (h : as.length ≤ mxl z) : (en z as).length = mxl z := by
  simp [en]; omega
theorem en_get {z : Nat} {as : List AV} {i : Nat} {v : AV} (h : lg (en z as) i = some v) : as[i]? = some v := by
  rw [lg_iff] at h
  unfold en at h
  rcases Nat.lt_or_ge i as.length with h1 | h1
  · rw [List.getElem?_append_left (by simpa using h1), List.getElem?_map] at h
    cases q : as[i]? with
    | none => rw [q] at h; simp at h
    | some u => rw [q] at h; simp at h; rw [h]
  · rw [List.getElem?_append_right (by simpa using h1), List.getElem?_replicate] at h
    split at h <;> simp at h
section MZ
variable {l : Launch} {S : Me} {n d z : Nat} {as : List AV} {M : Me} {Q : Int → Me → Prop} {D : va_G} {ad : Nat → Nat} {cI cZ cJ : ClassId}
theorem metW (IH : Snd l S n) (h : wpf n d (blk z 0) z (en z as) [] M Q) (hz : z < 133) (hz0 : z ≠ 0) (hok : okB z (blk z 0) (bpc z 0) = true) (hn : as.length = nar z) (hg : nlg as = true) (hs : okS as) (hM : okM S M) {sz : Nat} {Qc : Array Value → State → Outcome → State → Prop}
    (hR : ∀ (p : Program) (e : Env) (s : State) (m : MethodId) (args : Array Value) (below : List Frame) (meth : Method) (c : Code) (s₁ : State), BodyLoose p l (nam z) (headSpec (wsZ z) (rmZ d)) (cod z) (mxl z) (rty z) e s m args below meth c s₁ → s.heap.size = sz → Kr p l e (rmZ d) s m args below meth c 0 0 (MQ below Qc args s 0 0 (va_A (wsM ad cI cZ cJ M) sz)) s.heap (va_A (wsM ad cI cZ cJ M) sz) D ad cI cZ cJ S z Q) :
    Met l (nam z) (wsZ z) (rmZ d) (PcZ D ad cI cZ cJ M as sz) Qc 0 0 (va_A (wsM ad cI cZ cJ M) sz) := by
  obtain ⟨t1, t2, t3, t4, t5, t6, t7, t8⟩ := tbz hz
  refine Met.ofW (cc := cod z) (maxL := mxl z) (ret := rty z) t2 rfl ?_
  intro p e s m args below meth c s₁ B hml hv
  obtain ⟨hav, hsz, hP, hK, hD0, hn1, hn2⟩ := hv
  have hts := atoms_spec (ws := wsZ z) B.pre
  have hown : s.vm.findClass (clR (ow z)) = some m.cls := by rw [← t1]; exact findClass_of_methodNamed B.named
  have hkr := hR p e s m args below meth c s₁ B hsz
  subst hav
  have X : Cx p (rmZ d) s m (as.map (cvv ad)).toArray c 0 0 D cI cZ cJ z d := ⟨B.exec, B.bytes, hml, hown, fun w hw => hts w (List.mem_cons_of_mem _ hw), hK, ⟨Nat.le_refl _, Nat.le_refl _, Nat.le_refl _, Nat.le_refl _⟩, hn1, hn2⟩
  have hA : ∀ q, s.heap.size ≤ q → va_A (wsM ad cI cZ cJ M) sz q := fun q hq => Or.inr (by omega)
  have hc1 : ∀ v ∈ as.map (cvv ad), v.category = 1 := by
    intro v hv
    obtain ⟨u, hu, rfl⟩ := List.mem_map.mp hv
    exact nlg_cat hg u hu
  have hlen := sl_len _ hc1
  have hl := lv_entry (as.map (cvv ad)) (n := mxl z) (by rw [hlen, List.length_map]; omega)
  rw [lg_entry_eq]
  generalize (lg_sl (as.map (cvv ad)) ++ List.replicate (mxl z - (lg_sl (as.map (cvv ad))).length) Slot.unset).toArray = ls at hl ⊢
  have hl2 : lv_has ls (en z as).length (prs ad (en z as)) := by
    rw [en_len (by omega)]
    refine ⟨hl.1, hl.2.1, fun q hq => hl.2.2 q ?_⟩
    obtain ⟨i, u⟩ := q
    obtain ⟨v, hv, rfl⟩ := mem_prs.mp hq
    have h1 := args_mem (as.map (cvv ad)) 0 hc1 i (cvv ad v) (by rw [List.getElem?_map, en_get hv]; rfl)
    rw [Nat.zero_add] at h1
    exact h1
  have h9 := IH d (blk z 0) z (en z as) [] M Q h p e (rmZ d) s m _ below meth c 0 0 _ s.heap _ D ad cI cZ cJ (bpc z 0) X hok (fun q => absurd q hz0) hz hA (en_len (by omega)) hkr ls s.heap [] hl2 okS_nil (fun i v hv => hs v (List.mem_of_getElem? (en_get hv))) ⟨hP, hD0.self, va_S.rf, hM⟩
  rw [t8 hz0] at h9
  exact h9
theorem metI (IH : Snd l S n) (h : wpf n d (blk z 0) z (en z as) [] M Q) (hz : z < 133) (hz0 : z ≠ 0) (hok : okB z (blk z 0) (bpc z 0) = true) (hn : as.length = nar z) (hg : nlg as = true) (hs : okS as) (hM : okM S M) (sz : Nat) {ty : FieldType} (hr : rty z = some ty) :
    Met l (nam z) (wsZ z) (rmZ d) (PcZ D ad cI cZ cJ M as sz) (QcI D ad cI cZ cJ S M Q sz) 0 0 (va_A (wsM ad cI cZ cJ M) sz) := by
  refine metW IH h hz hz0 hok hn hg hs hM ?_
  intro p e s m args below meth c s₁ B hsz v M2 pc ls H locs hq hv hw
  have hlocks := B.notSynchronized
  refine ⟨fun h1 => (by rw [hr] at h1; cases h1), fun ty' h1 hnar hd => ?_⟩
  exact W.zret (ty := ty') B.exec B.bytes (by rw [B.returns]; exact h1) hnar (fun t ht _ => ⟨⟨Int32.ofInt v, (v, M2), rfl, ⟨rfl, hq, hv, hw.2.2.2⟩, (by have h8 := hw.1; rw [← ht] at h8; exact h8)⟩, hw.2.2.1.F ht⟩) hw.2.2.1.2.2 hd hlocks
theorem metV (IH : Snd l S n) (h : wpf n d (blk z 0) z (en z as) [] M Q) (hz : z < 133) (hz0 : z ≠ 0) (hok : okB z (blk z 0) (bpc z 0) = true) (hn : as.length = nar z) (hg : nlg as = true) (hs : okS as) (hM : okM S M) (sz : Nat) (hr : rty z = none) :
    Met l (nam z) (wsZ z) (rmZ d) (PcZ D ad cI cZ cJ M as sz) (QcV D ad cI cZ cJ S M Q sz) 0 0 (va_A (wsM ad cI cZ cJ M) sz) := by
  refine metW IH h hz hz0 hok hn hg hs hM ?_
  intro p e s m args below meth c s₁ B hsz v M2 pc ls H locs hq hv hw
  have hlocks := B.notSynchronized
  refine ⟨fun h1 hd => ?_, fun ty' h1 => (by rw [hr] at h1; cases h1)⟩
  exact W.vret B.exec B.bytes (by rw [B.returns]; exact h1) (fun t ht _ => ⟨⟨(v, M2), rfl, ⟨hq, hw.2.2.2⟩, (by have h8 := hw.1; rw [← ht] at h8; exact h8)⟩, hw.2.2.1.F ht⟩) hw.2.2.1.2.2 hd hlocks
end MZ
end
section
theorem cowA : ∀ z, z < 133 → z ≠ 0 → ∃ i : Nat, lw_tbl[i]? = some (Cond.code (nam z) (cod z) (mxl z) (rty z)) := by
  intro z hz hz0
  match z, hz, hz0 with
  | 0, _, h => exact absurd rfl h
  | 1, _, _ => exact ⟨428, cow_1⟩
  | 2, _, _ => exact ⟨501, cow_2⟩
  | 3, _, _ => exact ⟨387, cow_3⟩
  | 4, _, _ => exact ⟨395, cow_4⟩
  | 5, _, _ => exact ⟨420, cow_5⟩
  | 6, _, _ => exact ⟨399, cow_6⟩
  | 7, _, _ => exact ⟨440, cow_7⟩
  | 8, _, _ => exact ⟨432, cow_8⟩
  | 9, _, _ => exact ⟨452, cow_9⟩
  | 10, _, _ => exact ⟨473, cow_10⟩
  | 11, _, _ => exact ⟨569, cow_11⟩
  | 12, _, _ => exact ⟨411, cow_12⟩
  | 13, _, _ => exact ⟨632, cow_13⟩
  | 14, _, _ => exact ⟨641, cow_14⟩
  | 15, _, _ => exact ⟨696, cow_15⟩
  | 16, _, _ => exact ⟨645, cow_16⟩
  | 17, _, _ => exact ⟨649, cow_17⟩
  | 18, _, _ => exact ⟨653, cow_18⟩
  | 19, _, _ => exact ⟨657, cow_19⟩
  | 20, _, _ => exact ⟨661, cow_20⟩
  | 21, _, _ => exact ⟨665, cow_21⟩
  | 22, _, _ => exact ⟨669, cow_22⟩
  | 23, _, _ => exact ⟨684, cow_23⟩
  | 24, _, _ => exact ⟨680, cow_24⟩
  | 25, _, _ => exact ⟨673, cow_25⟩
  | 26, _, _ => exact ⟨688, cow_26⟩
  | 27, _, _ => exact ⟨708, cow_27⟩
  | 28, _, _ => exact ⟨712, cow_28⟩
  | 29, _, _ => exact ⟨716, cow_29⟩
  | 30, _, _ => exact ⟨720, cow_30⟩
  | 31, _, _ => exact ⟨728, cow_31⟩
  | 32, _, _ => exact ⟨732, cow_32⟩
  | 33, _, _ => exact ⟨581, cow_33⟩
  | 34, _, _ => exact ⟨536, cow_34⟩
  | 35, _, _ => exact ⟨560, cow_35⟩
  | 36, _, _ => exact ⟨540, cow_36⟩
  | 37, _, _ => exact ⟨744, cow_37⟩
  | 38, _, _ => exact ⟨514, cow_38⟩
  | 39, _, _ => exact ⟨518, cow_39⟩
  | 40, _, _ => exact ⟨522, cow_40⟩
  | 41, _, _ => exact ⟨527, cow_41⟩
  | 42, _, _ => exact ⟨532, cow_42⟩
  | 43, _, _ => exact ⟨407, cow_43⟩
  | 44, _, _ => exact ⟨577, cow_44⟩
  | 45, _, _ => exact ⟨598, cow_45⟩
  | 46, _, _ => exact ⟨594, cow_46⟩
  | 47, _, _ => exact ⟨590, cow_47⟩
  | 48, _, _ => exact ⟨611, cow_48⟩
  | 49, _, _ => exact ⟨481, cow_49⟩
  | 50, _, _ => exact ⟨489, cow_50⟩
  | 51, _, _ => exact ⟨506, cow_51⟩
  | 52, _, _ => exact ⟨383, cow_52⟩
  | 53, _, _ => exact ⟨415, cow_53⟩
  | 54, _, _ => exact ⟨424, cow_54⟩
  | 55, _, _ => exact ⟨436, cow_55⟩
  | 56, _, _ => exact ⟨456, cow_56⟩
  | 57, _, _ => exact ⟨460, cow_57⟩
  | 58, _, _ => exact ⟨465, cow_58⟩
  | 59, _, _ => exact ⟨477, cow_59⟩
  | 60, _, _ => exact ⟨485, cow_60⟩
  | 61, _, _ => exact ⟨493, cow_61⟩
  | 62, _, _ => exact ⟨497, cow_62⟩
  | 63, _, _ => exact ⟨510, cow_63⟩
  | 64, _, _ => exact ⟨551, cow_64⟩
  | 65, _, _ => exact ⟨555, cow_65⟩
  | 66, _, _ => exact ⟨564, cow_66⟩
  | 67, _, _ => exact ⟨573, cow_67⟩
  | 68, _, _ => exact ⟨602, cow_68⟩
  | 69, _, _ => exact ⟨607, cow_69⟩
  | 70, _, _ => exact ⟨616, cow_70⟩
  | 71, _, _ => exact ⟨624, cow_71⟩
  | 72, _, _ => exact ⟨692, cow_72⟩
  | 73, _, _ => exact ⟨700, cow_73⟩
  | 74, _, _ => exact ⟨724, cow_74⟩
  | 75, _, _ => exact ⟨736, cow_75⟩
  | 76, _, _ => exact ⟨390, cow_76⟩
  | 77, _, _ => exact ⟨444, cow_77⟩
  | 78, _, _ => exact ⟨448, cow_78⟩
  | 79, _, _ => exact ⟨469, cow_79⟩
  | 80, _, _ => exact ⟨740, cow_80⟩
  | 81, _, _ => exact ⟨620, cow_81⟩
  | 82, _, _ => exact ⟨403, cow_82⟩
  | 83, _, _ => exact ⟨628, cow_83⟩
  | 84, _, _ => exact ⟨704, cow_84⟩
  | 85, _, _ => exact ⟨891, cow_85⟩
  | 86, _, _ => exact ⟨908, cow_86⟩
  | 87, _, _ => exact ⟨958, cow_87⟩
  | 88, _, _ => exact ⟨916, cow_88⟩
  | 89, _, _ => exact ⟨895, cow_89⟩
  | 90, _, _ => exact ⟨888, cow_90⟩
  | 91, _, _ => exact ⟨899, cow_91⟩
  | 92, _, _ => exact ⟨904, cow_92⟩
  | 93, _, _ => exact ⟨920, cow_93⟩
  | 94, _, _ => exact ⟨912, cow_94⟩
  | 95, _, _ => exact ⟨924, cow_95⟩
  | 96, _, _ => exact ⟨928, cow_96⟩
  | 97, _, _ => exact ⟨937, cow_97⟩
  | 98, _, _ => exact ⟨933, cow_98⟩
  | 99, _, _ => exact ⟨941, cow_99⟩
  | 100, _, _ => exact ⟨945, cow_100⟩
  | 101, _, _ => exact ⟨949, cow_101⟩
  | 102, _, _ => exact ⟨954, cow_102⟩
  | 103, _, _ => exact ⟨975, cow_103⟩
  | 104, _, _ => exact ⟨979, cow_104⟩
  | 105, _, _ => exact ⟨966, cow_105⟩
  | 106, _, _ => exact ⟨971, cow_106⟩
  | 107, _, _ => exact ⟨962, cow_107⟩
  | 108, _, _ => exact ⟨1004, cow_108⟩
  | 109, _, _ => exact ⟨1008, cow_109⟩
  | 110, _, _ => exact ⟨984, cow_110⟩
  | 111, _, _ => exact ⟨988, cow_111⟩
  | 112, _, _ => exact ⟨996, cow_112⟩
  | 113, _, _ => exact ⟨992, cow_113⟩
  | 114, _, _ => exact ⟨1000, cow_114⟩
  | 115, _, _ => exact ⟨1012, cow_115⟩
  | 116, _, _ => exact ⟨1016, cow_116⟩
  | 117, _, _ => exact ⟨1020, cow_117⟩
  | 118, _, _ => exact ⟨1037, cow_118⟩
  | 119, _, _ => exact ⟨1041, cow_119⟩
  | 120, _, _ => exact ⟨1033, cow_120⟩
  | 121, _, _ => exact ⟨1045, cow_121⟩
  | 122, _, _ => exact ⟨1054, cow_122⟩
  | 123, _, _ => exact ⟨1049, cow_123⟩
  | 124, _, _ => exact ⟨1058, cow_124⟩
  | 125, _, _ => exact ⟨1029, cow_125⟩
  | 126, _, _ => exact ⟨1025, cow_126⟩
  | 127, _, _ => exact ⟨1062, cow_127⟩
  | 128, _, _ => exact ⟨1070, cow_128⟩
  | 129, _, _ => exact ⟨1066, cow_129⟩
  | 130, _, _ => exact ⟨1074, cow_130⟩
  | 131, _, _ => exact ⟨1078, cow_131⟩
  | 132, _, _ => exact ⟨635, cow_132⟩
  | n + 133, h, _ => omega
theorem viA : ((List.range 133).all fun z => decide (z = 0) || ist z || viL.any (fun q => decide (q.1 = z))) = true := by decide +kernel
theorem stA : ((List.range 133).all fun z => decide (z = 0) || !(ist z) || stL.any (fun q => decide (q.1 = z))) = true := by decide +kernel
theorem inA : ((List.range 133).all fun z => inL.any (fun q => decide (q.1 = ow z))) = true := by decide +kernel
theorem code_in {z : Nat} (h : z < 133) (h0 : z ≠ 0) : Cond.code (nam z) (cod z) (mxl z) (rty z) ∈ lw_ok := by
  obtain ⟨i, hi⟩ := cowA z h h0
  exact at_in hi rfl
theorem vi_in {z : Nat} (h : z < 133) (h0 : z ≠ 0) (hs : ist z = false) : Cond.instanceMethod (nam z) ∈ lw_ok ∧ Cond.selects (clR (ow z)) (nam z) (nam z) ∈ lw_ok := by
  have h1 := List.all_eq_true.mp viA z (List.mem_range.mpr h)
  rw [hs, Bool.or_false, Bool.or_eq_true] at h1
  rcases h1 with h1 | h1
  · exact absurd (of_decide_eq_true h1) h0
  · obtain ⟨q, hq, e⟩ := List.any_eq_true.mp h1
    have e := of_decide_eq_true e
    have h2 := List.all_eq_true.mp viL_ok q hq
    rw [Bool.and_eq_true, e] at h2
    exact ⟨at_in (of_decide_eq_true h2.1) rfl, at_in (of_decide_eq_true h2.2) rfl⟩
theorem st_in {z : Nat} (h : z < 133) (h0 : z ≠ 0) (hs : ist z = true) : Cond.static (nam z) ∈ lw_ok := by
  have h1 := List.all_eq_true.mp stA z (List.mem_range.mpr h)
  rw [hs, Bool.not_true, Bool.or_false, Bool.or_eq_true] at h1
  rcases h1 with h1 | h1
  · exact absurd (of_decide_eq_true h1) h0
  · obtain ⟨q, hq, e⟩ := List.any_eq_true.mp h1
    have e := of_decide_eq_true e
    have h2 := List.all_eq_true.mp stL_ok q hq
    rw [e] at h2
    exact at_in (of_decide_eq_true h2) rfl
theorem in_in {z : Nat} (h : z < 133) : Cond.initialized (clR (ow z)) ∈ lw_ok := by
  have h1 := List.all_eq_true.mp inA z (List.mem_range.mpr h)
  obtain ⟨q, hq, e⟩ := List.any_eq_true.mp h1
  have e := of_decide_eq_true e
  have h2 := List.all_eq_true.mp inL_ok q hq
  rw [e] at h2
  exact at_in (of_decide_eq_true h2) rfl
theorem ml_in {y ix z : Nat} (h : (mlL.any fun q => decide (q.1 = (ow y, ix, z))) = true) : Cond.methodLink (clR (ow y)) ix (nam z) ∈ lw_ok := by
  obtain ⟨q, hq, e⟩ := List.any_eq_true.mp h
  have e := of_decide_eq_true e
  have h2 := List.all_eq_true.mp mlL_ok q hq
  rw [e] at h2
  exact at_in (of_decide_eq_true h2) rfl
theorem wsZ_in {z : Nat} (h : z < 133) (h0 : z ≠ 0) : ∀ w ∈ wsZ z, w ∈ lw_ok := by
  intro w hw
  rcases List.mem_cons.mp hw with rfl | h2
  · exact code_in h h0
  · exact h2
theorem cat_sum (ad : Nat → Nat) : ∀ st : St, ((st.map (cvv ad)).map fun v => v.category).sum ≤ 2 * st.length
  | [] => by simp
  | v :: st => by
    have h1 := cat_sum ad st
    have h2 : (cvv ad v).category ≤ 2 := by
      match v with
      | .inl x => simp [cvv, Value.category]
      | .inr (.inl x) => simp [cvv, Value.category]
      | .inr (.inr x) => simp [cvv, Value.category]
    simp only [List.map_cons, List.sum_cons, List.length_cons]
    omega
section GC
variable {p : Program} {l : Launch} {e : Env} {R : Room} {s : State} {m : MethodId} {args : Array Value} {below : List Frame} {meth : Method} {c : Code} {cells slots : Nat} {QQ : State → Prop} {H0 : Heap} {A : Nat → Prop} {D : va_G} {ad : Nat → Nat} {cI cZ cJ : ClassId} {S : Me} {y d pc : Nat} {lo : Lo} {st : St} {M : Me} {n z ix : Nat} {as : List AV} {Q : Int → Me → Prop}
theorem A_of {H : Heap} {locs : List Loc} (hA : ∀ q, H0.size ≤ q → A q) (hw : Wd D A H0 ad cI cZ cJ S M H locs) : ∀ q, va_A (wsM ad cI cZ cJ M) H.size q → A q := by
  intro q h
  rcases h with ⟨k, e, h⟩ | h
  · exact hw.2.1.2 k _ h
  · exact hA q (Nat.le_trans hw.2.2.1.1 h)
theorem PcZ_bl {sz : Nat} : FrameBlind (PcZ D ad cI cZ cJ M as sz) := by
  intro a U g mk h
  obtain ⟨h1, h2, h3, h4, h5, h6, h7⟩ := h
  exact ⟨h1, h2, h3, va_K.moved (u := U) (U := U.calling g mk a) (Vm.Alike.refl U.vm) h4, h5, va_Nw.same (u := U) rfl rfl h6, va_Nw.same (u := U) rfl rfl h7⟩
theorem PcZ_at {H : Heap} {locs : List Loc} (X : Cx p R s m args c cells slots D cI cZ cJ y d) (hw : Wd D A H0 ad cI cZ cJ S M H locs) {U : State} (hU : U.heap = H) (hW : s.WarmedH U.vm) : PcZ D ad cI cZ cJ M as H.size (as.map (cvv ad)).toArray U := by
  refine ⟨rfl, by rw [hU], by rw [hU]; exact hw.1, va_K.moved hW.alike X.2.2.2.2.2.1, hw.2.1.weaken (fun _ _ _ _ => trivial), va_Nw.warmF hW X.2.2.2.2.2.2.2.1, va_Nw.warmM hW X.2.2.2.2.2.2.2.2⟩
theorem G_callVI {o : Nat} (IH : Snd l S n) (X : Cx p R s m args c cells slots D cI cZ cJ y (d + 1)) (h : wpf n d (blk z 0) z (en z (.inr (.inr o) :: as)) [] M Q) (hz : z < 133) (hz0 : z ≠ 0) (hok : okB z (blk z 0) (bpc z 0) = true) (hn : (.inr (.inr o) :: as).length = nar z) (hg : nlg (.inr (.inr o) :: as) = true) (h4 : st.length ≤ 4) (hA : ∀ q, H0.size ≤ q → A q) (hlo : lo.length = mxl y) {ty : FieldType} (hr : rty z = some ty) (hd : decode (cod y) pc = .ok (.invokevirtual ix, 3)) (hi : ist z = false) (hoc : oc o = ow z) (hml : (mlL.any fun q => decide (q.1 = (ow y, ix, z))) = true) (kk : ∀ v M2, Q v M2 → GG p l e R s m args below meth c cells slots QQ H0 A D ad cI cZ cJ S (pc + 3) lo (.inl v :: st) M2) : GG p l e R s m args below meth c cells slots QQ H0 A D ad cI cZ cJ S (pc) lo ((.inr (.inr o) :: as).reverse ++ st) M := by
  intro ls H locs hl hs ho hw
  obtain ⟨t1, t2, t3, t4, t5, t6, t7, t8⟩ := tbz hz
  have hsa : okS (.inr (.inr o) :: as) := fun v hv => hs v (List.mem_append_left _ (List.mem_reverse.mpr hv))
  have hst : okS st := fun v hv => hs v (List.mem_append_right _ hv)
  have hM := metI (D := D) (ad := ad) (cI := cI) (cZ := cZ) (cJ := cJ) IH h hz hz0 hok hn hg hsa hw.2.2.2 H.size hr
  have hvi := vi_in hz hz0 hi
  have hG : GoodIn lw_ok (wsV (clR (ow y)) ix (clR (ow z)) (nam z) (wsZ z)) := good_in (fun w hw' => by
    rcases List.mem_append.mp hw' with h1 | h1
    · simp only [List.mem_cons, List.not_mem_nil, or_false] at h1
      rcases h1 with rfl | rfl | rfl | rfl
      · exact ml_in hml
      · exact hvi.1
      · exact hvi.2
      · exact in_in hz
    · exact wsZ_in hz hz0 w h1)
  have hoc9 : oc o ≠ 99 := by
    intro q
    rw [hoc] at q
    revert q hi hz hz0
    have key : ((List.range 133).all fun z => decide (z = 0) || ist z || decide (ow z < 9)) = true := by decide +kernel
    intro hz hz0 hi q
    have k1 := List.all_eq_true.mp key z (List.mem_range.mpr hz)
    rw [hi, Bool.or_false, Bool.or_eq_true] at k1
    rcases k1 with k1 | k1
    · exact hz0 (of_decide_eq_true k1)
    · have := of_decide_eq_true k1
      omega
  have ho8 := oc_lt (k := o) rfl hoc9
  have hoc8 : oc o < 9 := (by decide +kernel : ∀ o, o < 86 → oc o ≠ 99 → oc o < 9) o ho8 hoc9
  have hk0 := oc_kd o ho8 hoc8
  have hgt := wsM_get (ad := ad) (cI := cI) (cZ := cZ) (cJ := cJ) (M := M) ho8
  rw [en_0k hk0, hoc] at hgt
  rw [hoc] at hoc8
  have hstk : (((.inr (.inr o) :: as).reverse ++ st).map (cvv ad)) = (as.map (cvv ad)).reverse ++ .ref (ad o) :: st.map (cvv ad) := by simp [cvv]
  have hcs := cat_sum ad st
  have hRm := X.2.2.2.2.2.2.1
  rw [hstk]
  refine va_calli (va_runV (As := as.map (cvv ad)) (rest := st.map (cvv ad)) (g := F0 m pc ls ((as.map (cvv ad)).reverse ++ .ref (ad o) :: st.map (cvv ad))) (b := ad o) ⟨X.1, X.2.1, X.2.2.1, X.2.2.2.1, X.2.2.2.2.1⟩ hM (cwV (nar z - 1) X.2.2.2.2.1 hG rfl rfl rfl ⟨t1, t3, t4, by rw [t7, hi]; rfl⟩ ⟨by show d + 1 + 1 ≤ R.frames; omega, by show 8 + (mxl z + 11) + (34 * d + 40) ≤ R.locals; omega⟩) ⟨PcZ_bl, va_recv X.2.2.2.2.2.1 hw.1 (clC _ hoc8) hgt, fun U hU hW => PcZ_at X hw hU hW⟩ rfl (by rw [List.length_map]; simp at hn; omega) (by show ls.size = mxl y; rw [hl.1, hlo]) rfl (by show 2 * 0 + _ ≤ 8; omega) hd ⟨by omega, by omega⟩) hw.2.2.1 (fun q _ h1 => A_of hA hw q h1) (A_of hA hw) (fun r u t H1 locs1 ht hvm hpost hB hsz1 hkeep hS1 => ?_)
  obtain ⟨e1, hq, hrg, hok2⟩ := hpost
  rw [ht] at hB
  have h5 := kk u.1 u.2 hq ls H1 locs1 hl (hst.push (v := .inl u.1) hrg) ho ⟨hB, wsM_D hw.2.1, hS1, hok2⟩
  rw [e1]
  exact h5
theorem G_callSI (IH : Snd l S n) (X : Cx p R s m args c cells slots D cI cZ cJ y (d + 1)) (h : wpf n d (blk z 0) z (en z (as)) [] M Q) (hz : z < 133) (hz0 : z ≠ 0) (hok : okB z (blk z 0) (bpc z 0) = true) (hn : (as).length = nar z) (hg : nlg (as) = true) (h4 : st.length ≤ 4) (hA : ∀ q, H0.size ≤ q → A q) (hlo : lo.length = mxl y) {ty : FieldType} (hr : rty z = some ty) (hd : decode (cod y) pc = .ok (.invokestatic ix, 3)) (hi : ist z = true) (hml : (mlL.any fun q => decide (q.1 = (ow y, ix, z))) = true) (kk : ∀ v M2, Q v M2 → GG p l e R s m args below meth c cells slots QQ H0 A D ad cI cZ cJ S (pc + 3) lo (.inl v :: st) M2) : GG p l e R s m args below meth c cells slots QQ H0 A D ad cI cZ cJ S (pc) lo (as.reverse ++ st) M := by
  intro ls H locs hl hs ho hw
  obtain ⟨t1, t2, t3, t4, t5, t6, t7, t8⟩ := tbz hz
  have hsa : okS as := fun v hv => hs v (List.mem_append_left _ (List.mem_reverse.mpr hv))
  have hst : okS st := fun v hv => hs v (List.mem_append_right _ hv)
  have hM := metI (D := D) (ad := ad) (cI := cI) (cZ := cZ) (cJ := cJ) IH h hz hz0 hok hn hg hsa hw.2.2.2 H.size hr
  have hG : GoodIn lw_ok (va_wsS (clR (ow y)) ix (nam z) (wsZ z)) := good_in (fun w hw' => by
    rcases List.mem_append.mp hw' with h1 | h1
    · simp only [List.mem_cons, List.not_mem_nil, or_false] at h1
      rcases h1 with rfl | rfl | rfl
      · exact ml_in hml
      · exact st_in hz hz0 hi
      · rw [t1]; exact in_in hz
    · exact wsZ_in hz hz0 w h1)
  have hstk : ((as.reverse ++ st).map (cvv ad)) = (as.map (cvv ad)).reverse ++ st.map (cvv ad) := by simp
  have hcs := cat_sum ad st
  have hRm := X.2.2.2.2.2.2.1
  rw [hstk]
  refine va_calli (va_runS (As := as.map (cvv ad)) (rest := st.map (cvv ad)) (g := F0 m pc ls ((as.map (cvv ad)).reverse ++ st.map (cvv ad))) ⟨X.1, X.2.1, X.2.2.1, X.2.2.2.1, X.2.2.2.2.1⟩ hM (va_cwS (nar z) X.2.2.2.2.1 hG rfl rfl rfl ⟨t3, t4, by rw [t7, hi]; rfl⟩ ⟨by show d + 1 + 1 ≤ R.frames; omega, by show 8 + (mxl z + 11) + (34 * d + 40) ≤ R.locals; omega⟩) ⟨PcZ_bl, fun U hU hW => PcZ_at X hw hU hW⟩ rfl (by rw [List.length_map]; exact hn) (by show ls.size = mxl y; rw [hl.1, hlo]) rfl (by show 2 * 0 + _ ≤ 8; omega) hd ⟨by omega, by omega⟩) hw.2.2.1 (fun q _ h1 => A_of hA hw q h1) (A_of hA hw) (fun r u t H1 locs1 ht hvm hpost hB hsz1 hkeep hS1 => ?_)
  obtain ⟨e1, hq, hrg, hok2⟩ := hpost
  rw [ht] at hB
  have h5 := kk u.1 u.2 hq ls H1 locs1 hl (hst.push (v := .inl u.1) hrg) ho ⟨hB, wsM_D hw.2.1, hS1, hok2⟩
  rw [e1]
  exact h5
theorem G_callSNI (IH : Snd l S n) (X : Cx p R s m args c cells slots D cI cZ cJ y (d + 1)) (h : wpf n d (blk z 0) z (en z (as)) [] M Q) (hz : z < 133) (hz0 : z ≠ 0) (hok : okB z (blk z 0) (bpc z 0) = true) (hn : (as).length = nar z) (hg : nlg (as) = true) (h4 : st.length ≤ 4) (hA : ∀ q, H0.size ≤ q → A q) (hlo : lo.length = mxl y) {ty : FieldType} (hr : rty z = some ty) (hd : decode (cod y) pc = .ok (.invokestatic ix, 3)) (hi : ist z = true) (hy0 : ow y = 0) (hix : ix = 48) (hz76 : z = 76) (kk : ∀ v M2, Q v M2 → GG p l e R s m args below meth c cells slots QQ H0 A D ad cI cZ cJ S (pc + 3) lo (.inl v :: st) M2) : GG p l e R s m args below meth c cells slots QQ H0 A D ad cI cZ cJ S (pc) lo (as.reverse ++ st) M := by
  intro ls H locs hl hs ho hw
  obtain ⟨t1, t2, t3, t4, t5, t6, t7, t8⟩ := tbz hz
  have hsa : okS as := fun v hv => hs v (List.mem_append_left _ (List.mem_reverse.mpr hv))
  have hst : okS st := fun v hv => hs v (List.mem_append_right _ hv)
  have hM := metI (D := D) (ad := ad) (cI := cI) (cZ := cZ) (cJ := cJ) IH h hz hz0 hok hn hg hsa hw.2.2.2 H.size hr
  have hG : GoodIn lw_ok (wsZ z) := good_in (fun w hw' => wsZ_in hz hz0 w hw')
  have hnw : va_Nw (.methodLinkNest (clR (ow y)) ix (nam z) "FloodCells") s := by rw [hy0, hix, hz76]; exact X.2.2.2.2.2.2.2.2
  have hstk : ((as.reverse ++ st).map (cvv ad)) = (as.map (cvv ad)).reverse ++ st.map (cvv ad) := by simp
  have hcs := cat_sum ad st
  have hRm := X.2.2.2.2.2.2.1
  rw [hstk]
  refine va_calli (va_runSN (As := as.map (cvv ad)) (rest := st.map (cvv ad)) (g := F0 m pc ls ((as.map (cvv ad)).reverse ++ st.map (cvv ad))) ⟨X.1, X.2.1, X.2.2.1, X.2.2.2.1, X.2.2.2.2.1⟩ hM ⟨va_cnB (nar z) X.2.2.2.2.1 hG rfl rfl rfl hnw (X.2.2.2.2.1 _ (by rw [t1]; exact in_in hz)) ⟨t3, t4, by rw [t7, hi]; rfl⟩ ⟨by show d + 1 + 1 ≤ R.frames; omega, by show 8 + (mxl z + 11) + (34 * d + 40) ≤ R.locals; omega⟩, X.2.2.2.2.1 _ (st_in hz hz0 hi), trivial⟩ ⟨PcZ_bl, fun U hU hW => PcZ_at X hw hU hW⟩ rfl (by rw [List.length_map]; exact hn) (by show ls.size = mxl y; rw [hl.1, hlo]) rfl (by show 2 * 0 + _ ≤ 8; omega) hd ⟨by omega, by omega⟩) hw.2.2.1 (fun q _ h1 => A_of hA hw q h1) (A_of hA hw) (fun r u t H1 locs1 ht hvm hpost hB hsz1 hkeep hS1 => ?_)
  obtain ⟨e1, hq, hrg, hok2⟩ := hpost
  rw [ht] at hB
  have h5 := kk u.1 u.2 hq ls H1 locs1 hl (hst.push (v := .inl u.1) hrg) ho ⟨hB, wsM_D hw.2.1, hS1, hok2⟩
  rw [e1]
  exact h5
theorem G_callVV {o : Nat} (IH : Snd l S n) (X : Cx p R s m args c cells slots D cI cZ cJ y (d + 1)) (h : wpf n d (blk z 0) z (en z (.inr (.inr o) :: as)) [] M Q) (hz : z < 133) (hz0 : z ≠ 0) (hok : okB z (blk z 0) (bpc z 0) = true) (hn : (.inr (.inr o) :: as).length = nar z) (hg : nlg (.inr (.inr o) :: as) = true) (h4 : st.length ≤ 4) (hA : ∀ q, H0.size ≤ q → A q) (hlo : lo.length = mxl y) (hr : rty z = none) (hd : decode (cod y) pc = .ok (.invokevirtual ix, 3)) (hi : ist z = false) (hoc : oc o = ow z) (hml : (mlL.any fun q => decide (q.1 = (ow y, ix, z))) = true) (kk : ∀ v M2, Q v M2 → GG p l e R s m args below meth c cells slots QQ H0 A D ad cI cZ cJ S (pc + 3) lo (st) M2) : GG p l e R s m args below meth c cells slots QQ H0 A D ad cI cZ cJ S (pc) lo ((.inr (.inr o) :: as).reverse ++ st) M := by
  intro ls H locs hl hs ho hw
  obtain ⟨t1, t2, t3, t4, t5, t6, t7, t8⟩ := tbz hz
  have hsa : okS (.inr (.inr o) :: as) := fun v hv => hs v (List.mem_append_left _ (List.mem_reverse.mpr hv))
  have hst : okS st := fun v hv => hs v (List.mem_append_right _ hv)
  have hM := metV (D := D) (ad := ad) (cI := cI) (cZ := cZ) (cJ := cJ) IH h hz hz0 hok hn hg hsa hw.2.2.2 H.size hr
  have hvi := vi_in hz hz0 hi
  have hG : GoodIn lw_ok (wsV (clR (ow y)) ix (clR (ow z)) (nam z) (wsZ z)) := good_in (fun w hw' => by
    rcases List.mem_append.mp hw' with h1 | h1
    · simp only [List.mem_cons, List.not_mem_nil, or_false] at h1
      rcases h1 with rfl | rfl | rfl | rfl
      · exact ml_in hml
      · exact hvi.1
      · exact hvi.2
      · exact in_in hz
    · exact wsZ_in hz hz0 w h1)
  have hoc9 : oc o ≠ 99 := by
    intro q
    rw [hoc] at q
    revert q hi hz hz0
    have key : ((List.range 133).all fun z => decide (z = 0) || ist z || decide (ow z < 9)) = true := by decide +kernel
    intro hz hz0 hi q
    have k1 := List.all_eq_true.mp key z (List.mem_range.mpr hz)
    rw [hi, Bool.or_false, Bool.or_eq_true] at k1
    rcases k1 with k1 | k1
    · exact hz0 (of_decide_eq_true k1)
    · have := of_decide_eq_true k1
      omega
  have ho8 := oc_lt (k := o) rfl hoc9
  have hoc8 : oc o < 9 := (by decide +kernel : ∀ o, o < 86 → oc o ≠ 99 → oc o < 9) o ho8 hoc9
  have hk0 := oc_kd o ho8 hoc8
  have hgt := wsM_get (ad := ad) (cI := cI) (cZ := cZ) (cJ := cJ) (M := M) ho8
  rw [en_0k hk0, hoc] at hgt
  rw [hoc] at hoc8
  have hstk : (((.inr (.inr o) :: as).reverse ++ st).map (cvv ad)) = (as.map (cvv ad)).reverse ++ .ref (ad o) :: st.map (cvv ad) := by simp [cvv]
  have hcs := cat_sum ad st
  have hRm := X.2.2.2.2.2.2.1
  rw [hstk]
  refine va_callv (va_runV (As := as.map (cvv ad)) (rest := st.map (cvv ad)) (g := F0 m pc ls ((as.map (cvv ad)).reverse ++ .ref (ad o) :: st.map (cvv ad))) (b := ad o) ⟨X.1, X.2.1, X.2.2.1, X.2.2.2.1, X.2.2.2.2.1⟩ hM (cwV (nar z - 1) X.2.2.2.2.1 hG rfl rfl rfl ⟨t1, t3, t4, by rw [t7, hi]; rfl⟩ ⟨by show d + 1 + 1 ≤ R.frames; omega, by show 8 + (mxl z + 11) + (34 * d + 40) ≤ R.locals; omega⟩) ⟨PcZ_bl, va_recv X.2.2.2.2.2.1 hw.1 (clC _ hoc8) hgt, fun U hU hW => PcZ_at X hw hU hW⟩ rfl (by rw [List.length_map]; simp at hn; omega) (by show ls.size = mxl y; rw [hl.1, hlo]) rfl (by show 2 * 0 + _ ≤ 8; omega) hd ⟨by omega, by omega⟩) hw.2.2.1 (fun q _ h1 => A_of hA hw q h1) (A_of hA hw) (fun u t H1 locs1 ht hvm hpost hB hsz1 hkeep hS1 => ?_)
  obtain ⟨hq, hok2⟩ := hpost
  rw [ht] at hB
  exact kk u.1 u.2 hq ls H1 locs1 hl hst ho ⟨hB, wsM_D hw.2.1, hS1, hok2⟩
theorem G_callSV (IH : Snd l S n) (X : Cx p R s m args c cells slots D cI cZ cJ y (d + 1)) (h : wpf n d (blk z 0) z (en z (as)) [] M Q) (hz : z < 133) (hz0 : z ≠ 0) (hok : okB z (blk z 0) (bpc z 0) = true) (hn : (as).length = nar z) (hg : nlg (as) = true) (h4 : st.length ≤ 4) (hA : ∀ q, H0.size ≤ q → A q) (hlo : lo.length = mxl y) (hr : rty z = none) (hd : decode (cod y) pc = .ok (.invokestatic ix, 3)) (hi : ist z = true) (hml : (mlL.any fun q => decide (q.1 = (ow y, ix, z))) = true) (kk : ∀ v M2, Q v M2 → GG p l e R s m args below meth c cells slots QQ H0 A D ad cI cZ cJ S (pc + 3) lo (st) M2) : GG p l e R s m args below meth c cells slots QQ H0 A D ad cI cZ cJ S (pc) lo (as.reverse ++ st) M := by
  intro ls H locs hl hs ho hw
  obtain ⟨t1, t2, t3, t4, t5, t6, t7, t8⟩ := tbz hz
  have hsa : okS as := fun v hv => hs v (List.mem_append_left _ (List.mem_reverse.mpr hv))
  have hst : okS st := fun v hv => hs v (List.mem_append_right _ hv)
  have hM := metV (D := D) (ad := ad) (cI := cI) (cZ := cZ) (cJ := cJ) IH h hz hz0 hok hn hg hsa hw.2.2.2 H.size hr
  have hG : GoodIn lw_ok (va_wsS (clR (ow y)) ix (nam z) (wsZ z)) := good_in (fun w hw' => by
    rcases List.mem_append.mp hw' with h1 | h1
    · simp only [List.mem_cons, List.not_mem_nil, or_false] at h1
      rcases h1 with rfl | rfl | rfl
      · exact ml_in hml
      · exact st_in hz hz0 hi
      · rw [t1]; exact in_in hz
    · exact wsZ_in hz hz0 w h1)
  have hstk : ((as.reverse ++ st).map (cvv ad)) = (as.map (cvv ad)).reverse ++ st.map (cvv ad) := by simp
  have hcs := cat_sum ad st
  have hRm := X.2.2.2.2.2.2.1
  rw [hstk]
  refine va_callv (va_runS (As := as.map (cvv ad)) (rest := st.map (cvv ad)) (g := F0 m pc ls ((as.map (cvv ad)).reverse ++ st.map (cvv ad))) ⟨X.1, X.2.1, X.2.2.1, X.2.2.2.1, X.2.2.2.2.1⟩ hM (va_cwS (nar z) X.2.2.2.2.1 hG rfl rfl rfl ⟨t3, t4, by rw [t7, hi]; rfl⟩ ⟨by show d + 1 + 1 ≤ R.frames; omega, by show 8 + (mxl z + 11) + (34 * d + 40) ≤ R.locals; omega⟩) ⟨PcZ_bl, fun U hU hW => PcZ_at X hw hU hW⟩ rfl (by rw [List.length_map]; exact hn) (by show ls.size = mxl y; rw [hl.1, hlo]) rfl (by show 2 * 0 + _ ≤ 8; omega) hd ⟨by omega, by omega⟩) hw.2.2.1 (fun q _ h1 => A_of hA hw q h1) (A_of hA hw) (fun u t H1 locs1 ht hvm hpost hB hsz1 hkeep hS1 => ?_)
  obtain ⟨hq, hok2⟩ := hpost
  rw [ht] at hB
  exact kk u.1 u.2 hq ls H1 locs1 hl hst ho ⟨hB, wsM_D hw.2.1, hS1, hok2⟩
theorem G_callSNV (IH : Snd l S n) (X : Cx p R s m args c cells slots D cI cZ cJ y (d + 1)) (h : wpf n d (blk z 0) z (en z (as)) [] M Q) (hz : z < 133) (hz0 : z ≠ 0) (hok : okB z (blk z 0) (bpc z 0) = true) (hn : (as).length = nar z) (hg : nlg (as) = true) (h4 : st.length ≤ 4) (hA : ∀ q, H0.size ≤ q → A q) (hlo : lo.length = mxl y) (hr : rty z = none) (hd : decode (cod y) pc = .ok (.invokestatic ix, 3)) (hi : ist z = true) (hy0 : ow y = 0) (hix : ix = 48) (hz76 : z = 76) (kk : ∀ v M2, Q v M2 → GG p l e R s m args below meth c cells slots QQ H0 A D ad cI cZ cJ S (pc + 3) lo (st) M2) : GG p l e R s m args below meth c cells slots QQ H0 A D ad cI cZ cJ S (pc) lo (as.reverse ++ st) M := by
  intro ls H locs hl hs ho hw
  obtain ⟨t1, t2, t3, t4, t5, t6, t7, t8⟩ := tbz hz
  have hsa : okS as := fun v hv => hs v (List.mem_append_left _ (List.mem_reverse.mpr hv))
  have hst : okS st := fun v hv => hs v (List.mem_append_right _ hv)
  have hM := metV (D := D) (ad := ad) (cI := cI) (cZ := cZ) (cJ := cJ) IH h hz hz0 hok hn hg hsa hw.2.2.2 H.size hr
  have hG : GoodIn lw_ok (wsZ z) := good_in (fun w hw' => wsZ_in hz hz0 w hw')
  have hnw : va_Nw (.methodLinkNest (clR (ow y)) ix (nam z) "FloodCells") s := by rw [hy0, hix, hz76]; exact X.2.2.2.2.2.2.2.2
  have hstk : ((as.reverse ++ st).map (cvv ad)) = (as.map (cvv ad)).reverse ++ st.map (cvv ad) := by simp
  have hcs := cat_sum ad st
  have hRm := X.2.2.2.2.2.2.1
  rw [hstk]
  refine va_callv (va_runSN (As := as.map (cvv ad)) (rest := st.map (cvv ad)) (g := F0 m pc ls ((as.map (cvv ad)).reverse ++ st.map (cvv ad))) ⟨X.1, X.2.1, X.2.2.1, X.2.2.2.1, X.2.2.2.2.1⟩ hM ⟨va_cnB (nar z) X.2.2.2.2.1 hG rfl rfl rfl hnw (X.2.2.2.2.1 _ (by rw [t1]; exact in_in hz)) ⟨t3, t4, by rw [t7, hi]; rfl⟩ ⟨by show d + 1 + 1 ≤ R.frames; omega, by show 8 + (mxl z + 11) + (34 * d + 40) ≤ R.locals; omega⟩, X.2.2.2.2.1 _ (st_in hz hz0 hi), trivial⟩ ⟨PcZ_bl, fun U hU hW => PcZ_at X hw hU hW⟩ rfl (by rw [List.length_map]; exact hn) (by show ls.size = mxl y; rw [hl.1, hlo]) rfl (by show 2 * 0 + _ ≤ 8; omega) hd ⟨by omega, by omega⟩) hw.2.2.1 (fun q _ h1 => A_of hA hw q h1) (A_of hA hw) (fun u t H1 locs1 ht hvm hpost hB hsz1 hkeep hS1 => ?_)
  obtain ⟨hq, hok2⟩ := hpost
  rw [ht] at hB
  exact kk u.1 u.2 hq ls H1 locs1 hl hst ho ⟨hB, wsM_D hw.2.1, hS1, hok2⟩
end GC
end
section
theorem maW : (lw_tbl[542]? = some (Cond.static Lib.Math.max.name)) ∧ (lw_tbl[546]? = some (Cond.static Lib.MathLoose.min_long.x)) ∧ (lw_tbl[675]? = some (Cond.static Lib.Math.min.name)) ∧ (lw_tbl[583]? = some (Cond.static arraycopyName)) ∧ (lw_tbl[584]? = some (Cond.native arraycopyName)) ∧ (lw_tbl[59]? = some (Cond.initialized "java/lang/Math")) ∧ (lw_tbl[60]? = some (Cond.initialized "java/lang/System")) := by decide +kernel
set_option maxRecDepth 100000 in
theorem maC1 : lw_tbl[543]? = some (Cond.code Lib.Math.max.name Lib.Math.max.code 2 (some .int)) := rfl
set_option maxRecDepth 100000 in
theorem maC2 : lw_tbl[547]? = some (Cond.code Lib.MathLoose.min_long.x Lib.MathLoose.min_long.code 4 (some .long)) := rfl
set_option maxRecDepth 100000 in
theorem maC3 : lw_tbl[676]? = some (Cond.code Lib.Math.min.name Lib.Math.min.code 2 (some .int)) := rfl
theorem nfw : nativeFrameWords "java/lang/System" "arraycopy" 5 ≤ 29 := by decide
section GM
variable {p : Program} {l : Launch} {e : Env} {R : Room} {s : State} {m : MethodId} {args : Array Value} {below : List Frame} {meth : Method} {c : Code} {cells slots : Nat} {QQ : State → Prop} {H0 : Heap} {A : Nat → Prop} {D : va_G} {ad : Nat → Nat} {cI cZ cJ : ClassId} {S : Me} {y d pc : Nat} {lo : Lo} {st : St} {M : Me} {n z ix : Nat} {as : List AV} {Q : Int → Me → Prop}
theorem G_mmax {x y' : Int} (X : Cx p R s m args c cells slots D cI cZ cJ y d) (hd : decode (cod y) pc = .ok (.invokestatic ix, 3)) (hml : ow y = 3 ∧ ix = 110) (h4 : st.length ≤ 4) (hlo : lo.length = mxl y) (kk : GG p l e R s m args below meth c cells slots QQ H0 A D ad cI cZ cJ S (pc + 3) lo (.inl (if x < y' then y' else x) :: st) M) : GG p l e R s m args below meth c cells slots QQ H0 A D ad cI cZ cJ S (pc) lo (.inl y' :: .inl x :: st) M := by
  intro ls H locs hl hs ho hw
  have hy := hs.head
  have hx := hs.tail.head
  have hcs := cat_sum ad st
  have hRm := X.2.2.2.2.2.2.1
  obtain ⟨h1, rfl⟩ := hml
  refine va_mmax X.1 X.2.1 (by rw [X.2.2.1, hl.1, hlo]) (own := clR 3) (by rw [← h1]; exact X.2.2.2.1) (X.2.2.2.2.1 _ (at_in maL_ok.1 rfl)) (X.2.2.2.2.1 _ (at_in maW.1 rfl)) (X.2.2.2.2.1 _ (at_in maW.2.2.2.2.2.1 rfl)) (X.2.2.2.2.1 _ (at_in maC1 rfl)) (by omega) (by omega) (by omega) (by omega) hd ?_
  have h5 := kk ls H locs hl (hs.tail.tail.push (v := .inl (if x < y' then y' else x)) (by show _ ≤ (if x < y' then y' else x : Int) ∧ _; split <;> assumption)) ho hw
  rw [show (if Int32.ofInt x < Int32.ofInt y' then Int32.ofInt y' else Int32.ofInt x) = Int32.ofInt (if x < y' then y' else x) by simp only [i_lt hx hy]; split <;> rfl]
  exact h5
theorem G_mmin {x y' : Int} (X : Cx p R s m args c cells slots D cI cZ cJ y d) (hd : decode (cod y) pc = .ok (.invokestatic ix, 3)) (hml : ow y = 2 ∧ ix = 153) (h4 : st.length ≤ 4) (hlo : lo.length = mxl y) (kk : GG p l e R s m args below meth c cells slots QQ H0 A D ad cI cZ cJ S (pc + 3) lo (.inl (if y' < x then y' else x) :: st) M) : GG p l e R s m args below meth c cells slots QQ H0 A D ad cI cZ cJ S (pc) lo (.inl y' :: .inl x :: st) M := by
  intro ls H locs hl hs ho hw
  have hy := hs.head
  have hx := hs.tail.head
  have hcs := cat_sum ad st
  have hRm := X.2.2.2.2.2.2.1
  obtain ⟨h1, rfl⟩ := hml
  refine va_mmin X.1 X.2.1 (by rw [X.2.2.1, hl.1, hlo]) (own := clR 2) (by rw [← h1]; exact X.2.2.2.1) (X.2.2.2.2.1 _ (at_in maL_ok.2.1 rfl)) (X.2.2.2.2.1 _ (at_in maW.2.2.1 rfl)) (X.2.2.2.2.1 _ (at_in maW.2.2.2.2.2.1 rfl)) (X.2.2.2.2.1 _ (at_in maC3 rfl)) (by omega) (by omega) (by omega) (by omega) hd ?_
  have h5 := kk ls H locs hl (hs.tail.tail.push (v := .inl (if y' < x then y' else x)) (by show _ ≤ (if y' < x then y' else x : Int) ∧ _; split <;> assumption)) ho hw
  rw [show (if Int32.ofInt y' < Int32.ofInt x then Int32.ofInt y' else Int32.ofInt x) = Int32.ofInt (if y' < x then y' else x) by simp only [i_lt hy hx]; split <;> rfl]
  exact h5
theorem G_lmin {x y' : Int} (X : Cx p R s m args c cells slots D cI cZ cJ y d) (hd : decode (cod y) pc = .ok (.invokestatic ix, 3)) (hml : ow y = 3 ∧ ix = 121) (h4 : st.length ≤ 4) (hlo : lo.length = mxl y) (kk : GG p l e R s m args below meth c cells slots QQ H0 A D ad cI cZ cJ S (pc + 3) lo (.inr (.inl (if y' < x then y' else x)) :: st) M) : GG p l e R s m args below meth c cells slots QQ H0 A D ad cI cZ cJ S (pc) lo (.inr (.inl y') :: .inr (.inl x) :: st) M := by
  intro ls H locs hl hs ho hw
  have hy := hs.head
  have hx := hs.tail.head
  have hcs := cat_sum ad st
  have hRm := X.2.2.2.2.2.2.1
  obtain ⟨h1, rfl⟩ := hml
  refine va_mmin_long X.1 X.2.1 (by rw [X.2.2.1, hl.1, hlo]) (own := clR 3) (by rw [← h1]; exact X.2.2.2.1) (X.2.2.2.2.1 _ (at_in maL_ok.2.2.1 rfl)) (X.2.2.2.2.1 _ (at_in maW.2.1 rfl)) (X.2.2.2.2.1 _ (at_in maW.2.2.2.2.2.1 rfl)) (X.2.2.2.2.1 _ (at_in maC2 rfl)) (by omega) (by omega) (by omega) (by omega) hd ?_
  have h5 := kk ls H locs hl (hs.tail.tail.push (v := .inr (.inl (if y' < x then y' else x))) (by show _ ≤ (if y' < x then y' else x : Int) ∧ _; split <;> assumption)) ho hw
  rw [show (if Int64.ofInt y' < Int64.ofInt x then Int64.ofInt y' else Int64.ofInt x) = Int64.ofInt (if y' < x then y' else x) by simp only [l_lt hy hx]; split <;> rfl]
  exact h5
theorem G_copy {n dp sp : Int} {dk sk : Nat} (X : Cx p R s m args c cells slots D cI cZ cJ y d) (hd : decode (cod y) pc = .ok (.invokestatic ix, 3)) (hml : (ow y = 3 ∧ ix = 31) ∨ (ow y = 4 ∧ ix = 35) ∨ (ow y = 2 ∧ ix = 79)) (hlo : lo.length = mxl y) (h : kd dk = 1 ∧ kd sk = 1 ∧ 0 ≤ n ∧ 0 ≤ dp ∧ 0 ≤ sp ∧ dp + n ≤ ln dk ∧ sp + n ≤ ln sk) (kk : GG p l e R s m args below meth c cells slots QQ H0 A D ad cI cZ cJ S (pc + 3) lo ([]) (me_cpy M sk sp dk dp n)) : GG p l e R s m args below meth c cells slots QQ H0 A D ad cI cZ cJ S (pc) lo ([.inl n, .inl dp, .inr (.inr dk), .inl sp, .inr (.inr sk)]) M := by
  intro ls H locs hl hs ho hw
  obtain ⟨hk1, hk2, hn0, hd0, hs0, hdn, hsn⟩ := h
  have ha1 := kd_lt hk1 (by decide)
  have ha2 := kd_lt hk2 (by decide)
  have hr1 := ln_rng dk ha1
  have hr2 := ln_rng sk ha2
  have hq1 := wsM_get (ad := ad) (cI := cI) (cZ := cZ) (cJ := cJ) (M := M) ha1
  have hq2 := wsM_get (ad := ad) (cI := cI) (cZ := cZ) (cJ := cJ) (M := M) ha2
  rw [en_1k hk1] at hq1
  rw [en_1k hk2] at hq2
  have hRm := X.2.2.2.2.2.2.1
  have hlink : (Cond.methodLink (clR (ow y)) ix arraycopyName).before args s = true := by
    rcases hml with ⟨h1, rfl⟩ | ⟨h1, rfl⟩ | ⟨h1, rfl⟩
    · rw [h1]; exact X.2.2.2.2.1 _ (at_in maL_ok.2.2.2.1 rfl)
    · rw [h1]; exact X.2.2.2.2.1 _ (at_in maL_ok.2.2.2.2.1 rfl)
    · rw [h1]; exact X.2.2.2.2.1 _ (at_in maL_ok.2.2.2.2.2 rfl)
  have nneg : ∀ z : Int, 0 ≤ z → z < 2147483648 → ¬ Int32.ofInt z < 0 := by
    intro z hz hz2 q
    rw [show (0 : Int32) = Int32.ofInt 0 from rfl, i_lt ⟨by omega, by omega⟩ ⟨by omega, by omega⟩] at q
    omega
  refine va_copyi (D := D) (cl := cls9) (tys := [(cI, .int), (cZ, .boolean), (cJ, .long)]) (ty := .int) X.1 X.2.1 (by rw [X.2.2.1, hl.1, hlo]) X.2.2.2.1 hlink (X.2.2.2.2.1 _ (at_in maW.2.2.2.2.1 rfl)) (X.2.2.2.2.1 _ (at_in maW.2.2.2.1 rfl)) (X.2.2.2.2.1 _ (at_in maW.2.2.2.2.2.2 rfl)) X.2.2.2.2.2.1 hw.1 hw.2.1 hw.2.2.1 sk dk 0 0 hq2 hq1 rfl rfl rfl (nneg sp hs0 (by omega)) (nneg dp hd0 (by omega)) (nneg n hn0 (by omega)) (by rw [i_cl hs0 (by omega), i_cl hn0 (by omega)]; omega) (by rw [i_cl hd0 (by omega), i_cl hn0 (by omega)]; omega) (fun _ _ => rfl) (by omega) (by show 0 + (nativeFrameWords "java/lang/System" "arraycopy" 5 + 11) ≤ R.locals; have := nfw; omega) hd (fun H1 locs1 hP _ hS => ?_)
  refine kk ls H1 locs1 hl okS_nil ho ?_
  rw [wsM_set (M' := me_cpy M sk sp dk dp n) ha1 ?_ (fun k hk j => by unfold me_cpy; rw [if_neg (fun q => hk q.1)])] at hP
  · refine ⟨hP, wsM_D hw.2.1, hS, fun k j => ?_, fun j => ?_⟩
    · unfold me_cpy
      split
      · rename_i q
        have h1 := hw.2.2.2.1 sk (sp + (j - dp))
        unfold rg at h1 ⊢
        rw [q.1, if_neg (by omega)]
        rwa [if_neg (by omega)] at h1
      · exact hw.2.2.2.1 k j
    · unfold me_cpy
      rw [if_neg (by omega), if_neg (by omega)]
      exact hw.2.2.2.2 j
  · rw [en_1k hk1, i_cl hs0 (by omega), i_cl hd0 (by omega), i_cl hn0 (by omega)]
    congr 4
    funext j
    unfold va_cpy me_cpy
    by_cases hj : dp.toNat ≤ j ∧ j < dp.toNat + n.toNat
    · rw [if_pos hj, if_pos ⟨rfl, by omega, by omega⟩]
      show Int32.ofInt (M sk ((sp.toNat + (j - dp.toNat) : Nat) : Int)) = _
      rw [show ((sp.toNat + (j - dp.toNat) : Nat) : Int) = sp + ((j : Int) - dp) by omega]
    · rw [if_neg hj, if_neg (by omega)]
theorem G_sld {x : Int} (X : Cx p R s m args c cells slots D cI cZ cJ y d) (hd : decode (cod y) pc = .ok (.iaload, 1)) (hy : y = 0) (hsc : Sc s H0 A ad S y) (h0 : 0 ≤ x) (h1 : x < M 98 0) (kk : GG p l e R s m args below meth c cells slots QQ H0 A D ad cI cZ cJ S (pc + 1) lo (.inl (M 99 x) :: st) M) : GG p l e R s m args below meth c cells slots QQ H0 A D ad cI cZ cJ S (pc) lo (.inl x :: .inr (.inr 99) :: st) M := by
  intro ls H locs hl hs ho hw
  obtain ⟨L, xs, hX, hb, hbA, hL, e1, e2⟩ := hsc hy
  have e3 := hw.2.2.2.2 0
  have hxL : x.toNat < L := by omega
  refine va_sld X.1 X.2.1 hX hb hbA hw.2.2.1 (i_in h0 (by omega) (by omega)) hd ?_
  have e4 := hw.2.2.2.2 x
  have e5 := e2 x.toNat hxL
  rw [Int.toNat_of_nonneg h0] at e5
  have h6 := kk ls H locs hl (hs.tail.tail.push (v := .inl (M 99 x)) (by rw [e4.2, e5]; exact i_rng _)) ho hw
  rw [i_cl h0 (by omega)]
  have e7 : Int32.ofInt (M 99 x) = xs x.toNat := by rw [e4.2, e5, Int32.ofInt_toInt]
  rw [← e7]
  exact h6
theorem G_slen (X : Cx p R s m args c cells slots D cI cZ cJ y d) (hd : decode (cod y) pc = .ok (.arraylength, 1)) (hy : y = 0) (hsc : Sc s H0 A ad S y) (kk : GG p l e R s m args below meth c cells slots QQ H0 A D ad cI cZ cJ S (pc + 1) lo (.inl (M 98 0) :: st) M) : GG p l e R s m args below meth c cells slots QQ H0 A D ad cI cZ cJ S (pc) lo (.inr (.inr 99) :: st) M := by
  intro ls H locs hl hs ho hw
  obtain ⟨L, xs, hX, hb, hbA, hL, e1, e2⟩ := hsc hy
  have e3 := hw.2.2.2.2 0
  refine va_slen X.1 X.2.1 hX hb hbA hw.2.2.1 hd ?_
  have h6 := kk ls H locs hl (hs.tail.push (v := .inl (M 98 0)) ⟨by omega, by omega⟩) ho hw
  have e7 : Int32.ofInt (M 98 0) = Int32.ofNat L := by rw [e3.1, e1, Int32.ofInt_eq_ofNat]
  rw [← e7]
  exact h6
end GM
theorem okA : ∀ y, y < 133 → ∀ t, blk y t ≠ [] → okB y (blk y t) (bpc y t) = true := by
  intro y hy
  match y, hy with
  | 0, _ =>
    intro t ht
    match t, ht with
    | 0, _ => exact okb0_0
    | 1, _ => exact okb0_1
    | 2, _ => exact okb0_2
    | 3, _ => exact okb0_3
    | 4, _ => exact okb0_4
    | 5, _ => exact okb0_5
    | 6, _ => exact okb0_6
    | 7, _ => exact okb0_7
    | 8, _ => exact okb0_8
    | 9, _ => exact okb0_9
    | 10, _ => exact okb0_10
    | 11, _ => exact okb0_11
    | 12, _ => exact okb0_12
    | 13, _ => exact okb0_13
    | 14, _ => exact okb0_14
    | 15, _ => exact okb0_15
    | 16, _ => exact okb0_16
    | 17, _ => exact okb0_17
    | 18, _ => exact okb0_18
    | 19, _ => exact okb0_19
    | 20, _ => exact okb0_20
    | 21, _ => exact okb0_21
    | 22, _ => exact okb0_22
    | 23, _ => exact okb0_23
    | 24, _ => exact okb0_24
    | 25, _ => exact okb0_25
    | 26, _ => exact okb0_26
    | 27, _ => exact okb0_27
    | n + 28, h => exact absurd rfl h
  | 1, _ =>
    intro t ht
    match t, ht with
    | 0, _ => exact okb1_0
    | 1, _ => exact okb1_1
    | 2, _ => exact okb1_2
    | n + 3, h => exact absurd rfl h
  | 2, _ =>
    intro t ht
    match t, ht with
    | 0, _ => exact okb2_0
    | 1, _ => exact okb2_1
    | 2, _ => exact okb2_2
    | n + 3, h => exact absurd rfl h
  | 3, _ =>
    intro t ht
    match t, ht with
    | 0, _ => exact okb3_0
    | 1, _ => exact okb3_1
    | 2, _ => exact okb3_2
    | n + 3, h => exact absurd rfl h
  | 4, _ =>
    intro t ht
    match t, ht with
    | 0, _ => exact okb4_0
    | n + 1, h => exact absurd rfl h
  | 5, _ =>
    intro t ht
    match t, ht with
    | 0, _ => exact okb5_0
    | n + 1, h => exact absurd rfl h
  | 6, _ =>
    intro t ht
    match t, ht with
    | 0, _ => exact okb6_0
    | n + 1, h => exact absurd rfl h
  | 7, _ =>
    intro t ht
    match t, ht with
    | 0, _ => exact okb7_0
    | 1, _ => exact okb7_1
    | 2, _ => exact okb7_2
    | n + 3, h => exact absurd rfl h
  | 8, _ =>
    intro t ht
    match t, ht with
    | 0, _ => exact okb8_0
    | n + 1, h => exact absurd rfl h
  | 9, _ =>
    intro t ht
    match t, ht with
    | 0, _ => exact okb9_0
    | 1, _ => exact okb9_1
    | 2, _ => exact okb9_2
    | n + 3, h => exact absurd rfl h
  | 10, _ =>
    intro t ht
    match t, ht with
    | 0, _ => exact okb10_0
    | 1, _ => exact okb10_1
    | n + 2, h => exact absurd rfl h
  | 11, _ =>
    intro t ht
    match t, ht with
    | 0, _ => exact okb11_0
    | 1, _ => exact okb11_1
    | 2, _ => exact okb11_2
    | n + 3, h => exact absurd rfl h
  | 12, _ =>
    intro t ht
    match t, ht with
    | 0, _ => exact okb12_0
    | n + 1, h => exact absurd rfl h
  | 13, _ =>
    intro t ht
    match t, ht with
    | 0, _ => exact okb13_0
    | 1, _ => exact okb13_1
    | 2, _ => exact okb13_2
    | 3, _ => exact okb13_3
    | 4, _ => exact okb13_4
    | 5, _ => exact okb13_5
    | 6, _ => exact okb13_6
    | n + 7, h => exact absurd rfl h
  | 14, _ =>
    intro t ht
    match t, ht with
    | 0, _ => exact okb14_0
    | 1, _ => exact okb14_1
    | 2, _ => exact okb14_2
    | 3, _ => exact okb14_3
    | 4, _ => exact okb14_4
    | 5, _ => exact okb14_5
    | n + 6, h => exact absurd rfl h
  | 15, _ =>
    intro t ht
    match t, ht with
    | 0, _ => exact okb15_0
    | 1, _ => exact okb15_1
    | 2, _ => exact okb15_2
    | 3, _ => exact okb15_3
    | 4, _ => exact okb15_4
    | n + 5, h => exact absurd rfl h
  | 16, _ =>
    intro t ht
    match t, ht with
    | 0, _ => exact okb16_0
    | 1, _ => exact okb16_1
    | 2, _ => exact okb16_2
    | 3, _ => exact okb16_3
    | 4, _ => exact okb16_4
    | n + 5, h => exact absurd rfl h
  | 17, _ =>
    intro t ht
    match t, ht with
    | 0, _ => exact okb17_0
    | 1, _ => exact okb17_1
    | 2, _ => exact okb17_2
    | 3, _ => exact okb17_3
    | 4, _ => exact okb17_4
    | 5, _ => exact okb17_5
    | n + 6, h => exact absurd rfl h
  | 18, _ =>
    intro t ht
    match t, ht with
    | 0, _ => exact okb18_0
    | n + 1, h => exact absurd rfl h
  | 19, _ =>
    intro t ht
    match t, ht with
    | 0, _ => exact okb19_0
    | 1, _ => exact okb19_1
    | 2, _ => exact okb19_2
    | 3, _ => exact okb19_3
    | 4, _ => exact okb19_4
    | n + 5, h => exact absurd rfl h
  | 20, _ =>
    intro t ht
    match t, ht with
    | 0, _ => exact okb20_0
    | 1, _ => exact okb20_1
    | 2, _ => exact okb20_2
    | 3, _ => exact okb20_3
    | 4, _ => exact okb20_4
    | 5, _ => exact okb20_5
    | 6, _ => exact okb20_6
    | 7, _ => exact okb20_7
    | 8, _ => exact okb20_8
    | n + 9, h => exact absurd rfl h
  | 21, _ =>
    intro t ht
    match t, ht with
    | 0, _ => exact okb21_0
    | n + 1, h => exact absurd rfl h
  | 22, _ =>
    intro t ht
    match t, ht with
    | 0, _ => exact okb22_0
    | 1, _ => exact okb22_1
    | 2, _ => exact okb22_2
    | n + 3, h => exact absurd rfl h
  | 23, _ =>
    intro t ht
    match t, ht with
    | 0, _ => exact okb23_0
    | 1, _ => exact okb23_1
    | 2, _ => exact okb23_2
    | n + 3, h => exact absurd rfl h
  | 24, _ =>
    intro t ht
    match t, ht with
    | 0, _ => exact okb24_0
    | 1, _ => exact okb24_1
    | 2, _ => exact okb24_2
    | 3, _ => exact okb24_3
    | 4, _ => exact okb24_4
    | 5, _ => exact okb24_5
    | n + 6, h => exact absurd rfl h
  | 25, _ =>
    intro t ht
    match t, ht with
    | 0, _ => exact okb25_0
    | 1, _ => exact okb25_1
    | 2, _ => exact okb25_2
    | 3, _ => exact okb25_3
    | n + 4, h => exact absurd rfl h
  | 26, _ =>
    intro t ht
    match t, ht with
    | 0, _ => exact okb26_0
    | 1, _ => exact okb26_1
    | 2, _ => exact okb26_2
    | 3, _ => exact okb26_3
    | 4, _ => exact okb26_4
    | n + 5, h => exact absurd rfl h
  | 27, _ =>
    intro t ht
    match t, ht with
    | 0, _ => exact okb27_0
    | 1, _ => exact okb27_1
    | 2, _ => exact okb27_2
    | 3, _ => exact okb27_3
    | 4, _ => exact okb27_4
    | 5, _ => exact okb27_5
    | n + 6, h => exact absurd rfl h
  | 28, _ =>
    intro t ht
    match t, ht with
    | 0, _ => exact okb28_0
    | 1, _ => exact okb28_1
    | 2, _ => exact okb28_2
    | 3, _ => exact okb28_3
    | 4, _ => exact okb28_4
    | 5, _ => exact okb28_5
    | 6, _ => exact okb28_6
    | 7, _ => exact okb28_7
    | 8, _ => exact okb28_8
    | 9, _ => exact okb28_9
    | 10, _ => exact okb28_10
    | n + 11, h => exact absurd rfl h
  | 29, _ =>
    intro t ht
    match t, ht with
    | 0, _ => exact okb29_0
    | 1, _ => exact okb29_1
    | 2, _ => exact okb29_2
    | 3, _ => exact okb29_3
    | 4, _ => exact okb29_4
    | 5, _ => exact okb29_5
    | n + 6, h => exact absurd rfl h
  | 30, _ =>
    intro t ht
    match t, ht with
    | 0, _ => exact okb30_0
    | 1, _ => exact okb30_1
    | 2, _ => exact okb30_2
    | 3, _ => exact okb30_3
    | 4, _ => exact okb30_4
    | n + 5, h => exact absurd rfl h
  | 31, _ =>
    intro t ht
    match t, ht with
    | 0, _ => exact okb31_0
    | n + 1, h => exact absurd rfl h
  | 32, _ =>
    intro t ht
    match t, ht with
    | 0, _ => exact okb32_0
    | n + 1, h => exact absurd rfl h
  | 33, _ =>
    intro t ht
    match t, ht with
    | 0, _ => exact okb33_0
    | n + 1, h => exact absurd rfl h
  | 34, _ =>
    intro t ht
    match t, ht with
    | 0, _ => exact okb34_0
    | 1, _ => exact okb34_1
    | 2, _ => exact okb34_2
    | n + 3, h => exact absurd rfl h
  | 35, _ =>
    intro t ht
    match t, ht with
    | 0, _ => exact okb35_0
    | 1, _ => exact okb35_1
    | 2, _ => exact okb35_2
    | n + 3, h => exact absurd rfl h
  | 36, _ =>
    intro t ht
    match t, ht with
    | 0, _ => exact okb36_0
    | 1, _ => exact okb36_1
    | 2, _ => exact okb36_2
    | n + 3, h => exact absurd rfl h
  | 37, _ =>
    intro t ht
    match t, ht with
    | 0, _ => exact okb37_0
    | 1, _ => exact okb37_1
    | 2, _ => exact okb37_2
    | n + 3, h => exact absurd rfl h
  | 38, _ =>
    intro t ht
    match t, ht with
    | 0, _ => exact okb38_0
    | 1, _ => exact okb38_1
    | 2, _ => exact okb38_2
    | 3, _ => exact okb38_3
    | 4, _ => exact okb38_4
    | 5, _ => exact okb38_5
    | n + 6, h => exact absurd rfl h
  | 39, _ =>
    intro t ht
    match t, ht with
    | 0, _ => exact okb39_0
    | 1, _ => exact okb39_1
    | n + 2, h => exact absurd rfl h
  | 40, _ =>
    intro t ht
    match t, ht with
    | 0, _ => exact okb40_0
    | 1, _ => exact okb40_1
    | 2, _ => exact okb40_2
    | 3, _ => exact okb40_3
    | 4, _ => exact okb40_4
    | n + 5, h => exact absurd rfl h
  | 41, _ =>
    intro t ht
    match t, ht with
    | 0, _ => exact okb41_0
    | 1, _ => exact okb41_1
    | n + 2, h => exact absurd rfl h
  | 42, _ =>
    intro t ht
    match t, ht with
    | 0, _ => exact okb42_0
    | 1, _ => exact okb42_1
    | 2, _ => exact okb42_2
    | n + 3, h => exact absurd rfl h
  | 43, _ =>
    intro t ht
    match t, ht with
    | 0, _ => exact okb43_0
    | n + 1, h => exact absurd rfl h
  | 44, _ =>
    intro t ht
    match t, ht with
    | 0, _ => exact okb44_0
    | 1, _ => exact okb44_1
    | 2, _ => exact okb44_2
    | 3, _ => exact okb44_3
    | n + 4, h => exact absurd rfl h
  | 45, _ =>
    intro t ht
    match t, ht with
    | 0, _ => exact okb45_0
    | n + 1, h => exact absurd rfl h
  | 46, _ =>
    intro t ht
    match t, ht with
    | 0, _ => exact okb46_0
    | 1, _ => exact okb46_1
    | 2, _ => exact okb46_2
    | n + 3, h => exact absurd rfl h
  | 47, _ =>
    intro t ht
    match t, ht with
    | 0, _ => exact okb47_0
    | 1, _ => exact okb47_1
    | 2, _ => exact okb47_2
    | 3, _ => exact okb47_3
    | n + 4, h => exact absurd rfl h
  | 48, _ =>
    intro t ht
    match t, ht with
    | 0, _ => exact okb48_0
    | 1, _ => exact okb48_1
    | 2, _ => exact okb48_2
    | 3, _ => exact okb48_3
    | 4, _ => exact okb48_4
    | 5, _ => exact okb48_5
    | 6, _ => exact okb48_6
    | 7, _ => exact okb48_7
    | n + 8, h => exact absurd rfl h
  | 49, _ =>
    intro t ht
    match t, ht with
    | 0, _ => exact okb49_0
    | 1, _ => exact okb49_1
    | n + 2, h => exact absurd rfl h
  | 50, _ =>
    intro t ht
    match t, ht with
    | 0, _ => exact okb50_0
    | 1, _ => exact okb50_1
    | 2, _ => exact okb50_2
    | 3, _ => exact okb50_3
    | n + 4, h => exact absurd rfl h
  | 51, _ =>
    intro t ht
    match t, ht with
    | 0, _ => exact okb51_0
    | 1, _ => exact okb51_1
    | n + 2, h => exact absurd rfl h
  | 52, _ =>
    intro t ht
    match t, ht with
    | 0, _ => exact okb52_0
    | 1, _ => exact okb52_1
    | 2, _ => exact okb52_2
    | n + 3, h => exact absurd rfl h
  | 53, _ =>
    intro t ht
    match t, ht with
    | 0, _ => exact okb53_0
    | 1, _ => exact okb53_1
    | 2, _ => exact okb53_2
    | n + 3, h => exact absurd rfl h
  | 54, _ =>
    intro t ht
    match t, ht with
    | 0, _ => exact okb54_0
    | 1, _ => exact okb54_1
    | 2, _ => exact okb54_2
    | 3, _ => exact okb54_3
    | 4, _ => exact okb54_4
    | n + 5, h => exact absurd rfl h
  | 55, _ =>
    intro t ht
    match t, ht with
    | 0, _ => exact okb55_0
    | 1, _ => exact okb55_1
    | 2, _ => exact okb55_2
    | 3, _ => exact okb55_3
    | n + 4, h => exact absurd rfl h
  | 56, _ =>
    intro t ht
    match t, ht with
    | 0, _ => exact okb56_0
    | 1, _ => exact okb56_1
    | 2, _ => exact okb56_2
    | n + 3, h => exact absurd rfl h
  | 57, _ =>
    intro t ht
    match t, ht with
    | 0, _ => exact okb57_0
    | 1, _ => exact okb57_1
    | 2, _ => exact okb57_2
    | n + 3, h => exact absurd rfl h
  | 58, _ =>
    intro t ht
    match t, ht with
    | 0, _ => exact okb58_0
    | 1, _ => exact okb58_1
    | n + 2, h => exact absurd rfl h
  | 59, _ =>
    intro t ht
    match t, ht with
    | 0, _ => exact okb59_0
    | 1, _ => exact okb59_1
    | 2, _ => exact okb59_2
    | n + 3, h => exact absurd rfl h
  | 60, _ =>
    intro t ht
    match t, ht with
    | 0, _ => exact okb60_0
    | 1, _ => exact okb60_1
    | 2, _ => exact okb60_2
    | n + 3, h => exact absurd rfl h
  | 61, _ =>
    intro t ht
    match t, ht with
    | 0, _ => exact okb61_0
    | 1, _ => exact okb61_1
    | 2, _ => exact okb61_2
    | 3, _ => exact okb61_3
    | n + 4, h => exact absurd rfl h
  | 62, _ =>
    intro t ht
    match t, ht with
    | 0, _ => exact okb62_0
    | 1, _ => exact okb62_1
    | 2, _ => exact okb62_2
    | 3, _ => exact okb62_3
    | 4, _ => exact okb62_4
    | n + 5, h => exact absurd rfl h
  | 63, _ =>
    intro t ht
    match t, ht with
    | 0, _ => exact okb63_0
    | 1, _ => exact okb63_1
    | 2, _ => exact okb63_2
    | 3, _ => exact okb63_3
    | n + 4, h => exact absurd rfl h
  | 64, _ =>
    intro t ht
    match t, ht with
    | 0, _ => exact okb64_0
    | 1, _ => exact okb64_1
    | 2, _ => exact okb64_2
    | n + 3, h => exact absurd rfl h
  | 65, _ =>
    intro t ht
    match t, ht with
    | 0, _ => exact okb65_0
    | 1, _ => exact okb65_1
    | 2, _ => exact okb65_2
    | 3, _ => exact okb65_3
    | 4, _ => exact okb65_4
    | 5, _ => exact okb65_5
    | 6, _ => exact okb65_6
    | 7, _ => exact okb65_7
    | 8, _ => exact okb65_8
    | 9, _ => exact okb65_9
    | 10, _ => exact okb65_10
    | 11, _ => exact okb65_11
    | 12, _ => exact okb65_12
    | 13, _ => exact okb65_13
    | 14, _ => exact okb65_14
    | 15, _ => exact okb65_15
    | 16, _ => exact okb65_16
    | 17, _ => exact okb65_17
    | 18, _ => exact okb65_18
    | n + 19, h => exact absurd rfl h
  | 66, _ =>
    intro t ht
    match t, ht with
    | 0, _ => exact okb66_0
    | 1, _ => exact okb66_1
    | 2, _ => exact okb66_2
    | 3, _ => exact okb66_3
    | 4, _ => exact okb66_4
    | 5, _ => exact okb66_5
    | 6, _ => exact okb66_6
    | 7, _ => exact okb66_7
    | 8, _ => exact okb66_8
    | n + 9, h => exact absurd rfl h
  | 67, _ =>
    intro t ht
    match t, ht with
    | 0, _ => exact okb67_0
    | 1, _ => exact okb67_1
    | n + 2, h => exact absurd rfl h
  | 68, _ =>
    intro t ht
    match t, ht with
    | 0, _ => exact okb68_0
    | 1, _ => exact okb68_1
    | 2, _ => exact okb68_2
    | n + 3, h => exact absurd rfl h
  | 69, _ =>
    intro t ht
    match t, ht with
    | 0, _ => exact okb69_0
    | n + 1, h => exact absurd rfl h
  | 70, _ =>
    intro t ht
    match t, ht with
    | 0, _ => exact okb70_0
    | 1, _ => exact okb70_1
    | 2, _ => exact okb70_2
    | 3, _ => exact okb70_3
    | 4, _ => exact okb70_4
    | n + 5, h => exact absurd rfl h
  | 71, _ =>
    intro t ht
    match t, ht with
    | 0, _ => exact okb71_0
    | 1, _ => exact okb71_1
    | n + 2, h => exact absurd rfl h
  | 72, _ =>
    intro t ht
    match t, ht with
    | 0, _ => exact okb72_0
    | n + 1, h => exact absurd rfl h
  | 73, _ =>
    intro t ht
    match t, ht with
    | 0, _ => exact okb73_0
    | 1, _ => exact okb73_1
    | n + 2, h => exact absurd rfl h
  | 74, _ =>
    intro t ht
    match t, ht with
    | 0, _ => exact okb74_0
    | 1, _ => exact okb74_1
    | 2, _ => exact okb74_2
    | 3, _ => exact okb74_3
    | 4, _ => exact okb74_4
    | 5, _ => exact okb74_5
    | 6, _ => exact okb74_6
    | n + 7, h => exact absurd rfl h
  | 75, _ =>
    intro t ht
    match t, ht with
    | 0, _ => exact okb75_0
    | 1, _ => exact okb75_1
    | 2, _ => exact okb75_2
    | 3, _ => exact okb75_3
    | 4, _ => exact okb75_4
    | 5, _ => exact okb75_5
    | 6, _ => exact okb75_6
    | 7, _ => exact okb75_7
    | 8, _ => exact okb75_8
    | 9, _ => exact okb75_9
    | 10, _ => exact okb75_10
    | 11, _ => exact okb75_11
    | n + 12, h => exact absurd rfl h
  | 76, _ =>
    intro t ht
    match t, ht with
    | 0, _ => exact okb76_0
    | 1, _ => exact okb76_1
    | 2, _ => exact okb76_2
    | n + 3, h => exact absurd rfl h
  | 77, _ =>
    intro t ht
    match t, ht with
    | 0, _ => exact okb77_0
    | 1, _ => exact okb77_1
    | 2, _ => exact okb77_2
    | n + 3, h => exact absurd rfl h
  | 78, _ =>
    intro t ht
    match t, ht with
    | 0, _ => exact okb78_0
    | n + 1, h => exact absurd rfl h
  | 79, _ =>
    intro t ht
    match t, ht with
    | 0, _ => exact okb79_0
    | 1, _ => exact okb79_1
    | 2, _ => exact okb79_2
    | n + 3, h => exact absurd rfl h
  | 80, _ =>
    intro t ht
    match t, ht with
    | 0, _ => exact okb80_0
    | 1, _ => exact okb80_1
    | 2, _ => exact okb80_2
    | n + 3, h => exact absurd rfl h
  | 81, _ =>
    intro t ht
    match t, ht with
    | 0, _ => exact okb81_0
    | n + 1, h => exact absurd rfl h
  | 82, _ =>
    intro t ht
    match t, ht with
    | 0, _ => exact okb82_0
    | n + 1, h => exact absurd rfl h
  | 83, _ =>
    intro t ht
    match t, ht with
    | 0, _ => exact okb83_0
    | 1, _ => exact okb83_1
    | n + 2, h => exact absurd rfl h
  | 84, _ =>
    intro t ht
    match t, ht with
    | 0, _ => exact okb84_0
    | 1, _ => exact okb84_1
    | 2, _ => exact okb84_2
    | n + 3, h => exact absurd rfl h
  | 85, _ =>
    intro t ht
    match t, ht with
    | 0, _ => exact okb85_0
    | 1, _ => exact okb85_1
    | 2, _ => exact okb85_2
    | n + 3, h => exact absurd rfl h
  | 86, _ =>
    intro t ht
    match t, ht with
    | 0, _ => exact okb86_0
    | n + 1, h => exact absurd rfl h
  | 87, _ =>
    intro t ht
    match t, ht with
    | 0, _ => exact okb87_0
    | 1, _ => exact okb87_1
    | 2, _ => exact okb87_2
    | n + 3, h => exact absurd rfl h
  | 88, _ =>
    intro t ht
    match t, ht with
    | 0, _ => exact okb88_0
    | n + 1, h => exact absurd rfl h
  | 89, _ =>
    intro t ht
    match t, ht with
    | 0, _ => exact okb89_0
    | n + 1, h => exact absurd rfl h
  | 90, _ =>
    intro t ht
    match t, ht with
    | 0, _ => exact okb90_0
    | 1, _ => exact okb90_1
    | 2, _ => exact okb90_2
    | n + 3, h => exact absurd rfl h
  | 91, _ =>
    intro t ht
    match t, ht with
    | 0, _ => exact okb91_0
    | 1, _ => exact okb91_1
    | 2, _ => exact okb91_2
    | n + 3, h => exact absurd rfl h
  | 92, _ =>
    intro t ht
    match t, ht with
    | 0, _ => exact okb92_0
    | 1, _ => exact okb92_1
    | 2, _ => exact okb92_2
    | n + 3, h => exact absurd rfl h
  | 93, _ =>
    intro t ht
    match t, ht with
    | 0, _ => exact okb93_0
    | 1, _ => exact okb93_1
    | 2, _ => exact okb93_2
    | n + 3, h => exact absurd rfl h
  | 94, _ =>
    intro t ht
    match t, ht with
    | 0, _ => exact okb94_0
    | 1, _ => exact okb94_1
    | 2, _ => exact okb94_2
    | n + 3, h => exact absurd rfl h
  | 95, _ =>
    intro t ht
    match t, ht with
    | 0, _ => exact okb95_0
    | 1, _ => exact okb95_1
    | 2, _ => exact okb95_2
    | n + 3, h => exact absurd rfl h
  | 96, _ =>
    intro t ht
    match t, ht with
    | 0, _ => exact okb96_0
    | 1, _ => exact okb96_1
    | 2, _ => exact okb96_2
    | n + 3, h => exact absurd rfl h
  | 97, _ =>
    intro t ht
    match t, ht with
    | 0, _ => exact okb97_0
    | 1, _ => exact okb97_1
    | 2, _ => exact okb97_2
    | n + 3, h => exact absurd rfl h
  | 98, _ =>
    intro t ht
    match t, ht with
    | 0, _ => exact okb98_0
    | 1, _ => exact okb98_1
    | n + 2, h => exact absurd rfl h
  | 99, _ =>
    intro t ht
    match t, ht with
    | 0, _ => exact okb99_0
    | 1, _ => exact okb99_1
    | 2, _ => exact okb99_2
    | n + 3, h => exact absurd rfl h
  | 100, _ =>
    intro t ht
    match t, ht with
    | 0, _ => exact okb100_0
    | 1, _ => exact okb100_1
    | 2, _ => exact okb100_2
    | 3, _ => exact okb100_3
    | n + 4, h => exact absurd rfl h
  | 101, _ =>
    intro t ht
    match t, ht with
    | 0, _ => exact okb101_0
    | 1, _ => exact okb101_1
    | 2, _ => exact okb101_2
    | 3, _ => exact okb101_3
    | 4, _ => exact okb101_4
    | n + 5, h => exact absurd rfl h
  | 102, _ =>
    intro t ht
    match t, ht with
    | 0, _ => exact okb102_0
    | 1, _ => exact okb102_1
    | 2, _ => exact okb102_2
    | 3, _ => exact okb102_3
    | n + 4, h => exact absurd rfl h
  | 103, _ =>
    intro t ht
    match t, ht with
    | 0, _ => exact okb103_0
    | n + 1, h => exact absurd rfl h
  | 104, _ =>
    intro t ht
    match t, ht with
    | 0, _ => exact okb104_0
    | 1, _ => exact okb104_1
    | 2, _ => exact okb104_2
    | n + 3, h => exact absurd rfl h
  | 105, _ =>
    intro t ht
    match t, ht with
    | 0, _ => exact okb105_0
    | 1, _ => exact okb105_1
    | 2, _ => exact okb105_2
    | 3, _ => exact okb105_3
    | 4, _ => exact okb105_4
    | 5, _ => exact okb105_5
    | 6, _ => exact okb105_6
    | 7, _ => exact okb105_7
    | 8, _ => exact okb105_8
    | 9, _ => exact okb105_9
    | 10, _ => exact okb105_10
    | 11, _ => exact okb105_11
    | 12, _ => exact okb105_12
    | 13, _ => exact okb105_13
    | 14, _ => exact okb105_14
    | 15, _ => exact okb105_15
    | n + 16, h => exact absurd rfl h
  | 106, _ =>
    intro t ht
    match t, ht with
    | 0, _ => exact okb106_0
    | 1, _ => exact okb106_1
    | 2, _ => exact okb106_2
    | 3, _ => exact okb106_3
    | 4, _ => exact okb106_4
    | 5, _ => exact okb106_5
    | 6, _ => exact okb106_6
    | 7, _ => exact okb106_7
    | 8, _ => exact okb106_8
    | 9, _ => exact okb106_9
    | n + 10, h => exact absurd rfl h
  | 107, _ =>
    intro t ht
    match t, ht with
    | 0, _ => exact okb107_0
    | 1, _ => exact okb107_1
    | 2, _ => exact okb107_2
    | 3, _ => exact okb107_3
    | 4, _ => exact okb107_4
    | 5, _ => exact okb107_5
    | n + 6, h => exact absurd rfl h
  | 108, _ =>
    intro t ht
    match t, ht with
    | 0, _ => exact okb108_0
    | 1, _ => exact okb108_1
    | 2, _ => exact okb108_2
    | 3, _ => exact okb108_3
    | 4, _ => exact okb108_4
    | 5, _ => exact okb108_5
    | 6, _ => exact okb108_6
    | 7, _ => exact okb108_7
    | 8, _ => exact okb108_8
    | 9, _ => exact okb108_9
    | n + 10, h => exact absurd rfl h
  | 109, _ =>
    intro t ht
    match t, ht with
    | 0, _ => exact okb109_0
    | 1, _ => exact okb109_1
    | 2, _ => exact okb109_2
    | n + 3, h => exact absurd rfl h
  | 110, _ =>
    intro t ht
    match t, ht with
    | 0, _ => exact okb110_0
    | 1, _ => exact okb110_1
    | 2, _ => exact okb110_2
    | n + 3, h => exact absurd rfl h
  | 111, _ =>
    intro t ht
    match t, ht with
    | 0, _ => exact okb111_0
    | 1, _ => exact okb111_1
    | 2, _ => exact okb111_2
    | 3, _ => exact okb111_3
    | 4, _ => exact okb111_4
    | 5, _ => exact okb111_5
    | 6, _ => exact okb111_6
    | 7, _ => exact okb111_7
    | 8, _ => exact okb111_8
    | 9, _ => exact okb111_9
    | 10, _ => exact okb111_10
    | 11, _ => exact okb111_11
    | 12, _ => exact okb111_12
    | 13, _ => exact okb111_13
    | 14, _ => exact okb111_14
    | 15, _ => exact okb111_15
    | 16, _ => exact okb111_16
    | 17, _ => exact okb111_17
    | 18, _ => exact okb111_18
    | n + 19, h => exact absurd rfl h
  | 112, _ =>
    intro t ht
    match t, ht with
    | 0, _ => exact okb112_0
    | 1, _ => exact okb112_1
    | 2, _ => exact okb112_2
    | n + 3, h => exact absurd rfl h
  | 113, _ =>
    intro t ht
    match t, ht with
    | 0, _ => exact okb113_0
    | 1, _ => exact okb113_1
    | 2, _ => exact okb113_2
    | 3, _ => exact okb113_3
    | 4, _ => exact okb113_4
    | 5, _ => exact okb113_5
    | 6, _ => exact okb113_6
    | 7, _ => exact okb113_7
    | 8, _ => exact okb113_8
    | n + 9, h => exact absurd rfl h
  | 114, _ =>
    intro t ht
    match t, ht with
    | 0, _ => exact okb114_0
    | 1, _ => exact okb114_1
    | 2, _ => exact okb114_2
    | 3, _ => exact okb114_3
    | 4, _ => exact okb114_4
    | n + 5, h => exact absurd rfl h
  | 115, _ =>
    intro t ht
    match t, ht with
    | 0, _ => exact okb115_0
    | 1, _ => exact okb115_1
    | 2, _ => exact okb115_2
    | n + 3, h => exact absurd rfl h
  | 116, _ =>
    intro t ht
    match t, ht with
    | 0, _ => exact okb116_0
    | 1, _ => exact okb116_1
    | 2, _ => exact okb116_2
    | 3, _ => exact okb116_3
    | 4, _ => exact okb116_4
    | 5, _ => exact okb116_5
    | 6, _ => exact okb116_6
    | 7, _ => exact okb116_7
    | 8, _ => exact okb116_8
    | 9, _ => exact okb116_9
    | n + 10, h => exact absurd rfl h
  | 117, _ =>
    intro t ht
    match t, ht with
    | 0, _ => exact okb117_0
    | 1, _ => exact okb117_1
    | 2, _ => exact okb117_2
    | 3, _ => exact okb117_3
    | 4, _ => exact okb117_4
    | 5, _ => exact okb117_5
    | n + 6, h => exact absurd rfl h
  | 118, _ =>
    intro t ht
    match t, ht with
    | 0, _ => exact okb118_0
    | 1, _ => exact okb118_1
    | 2, _ => exact okb118_2
    | n + 3, h => exact absurd rfl h
  | 119, _ =>
    intro t ht
    match t, ht with
    | 0, _ => exact okb119_0
    | 1, _ => exact okb119_1
    | n + 2, h => exact absurd rfl h
  | 120, _ =>
    intro t ht
    match t, ht with
    | 0, _ => exact okb120_0
    | 1, _ => exact okb120_1
    | 2, _ => exact okb120_2
    | 3, _ => exact okb120_3
    | 4, _ => exact okb120_4
    | 5, _ => exact okb120_5
    | 6, _ => exact okb120_6
    | 7, _ => exact okb120_7
    | 8, _ => exact okb120_8
    | 9, _ => exact okb120_9
    | n + 10, h => exact absurd rfl h
  | 121, _ =>
    intro t ht
    match t, ht with
    | 0, _ => exact okb121_0
    | 1, _ => exact okb121_1
    | 2, _ => exact okb121_2
    | 3, _ => exact okb121_3
    | 4, _ => exact okb121_4
    | 5, _ => exact okb121_5
    | 6, _ => exact okb121_6
    | 7, _ => exact okb121_7
    | n + 8, h => exact absurd rfl h
  | 122, _ =>
    intro t ht
    match t, ht with
    | 0, _ => exact okb122_0
    | 1, _ => exact okb122_1
    | 2, _ => exact okb122_2
    | 3, _ => exact okb122_3
    | 4, _ => exact okb122_4
    | n + 5, h => exact absurd rfl h
  | 123, _ =>
    intro t ht
    match t, ht with
    | 0, _ => exact okb123_0
    | 1, _ => exact okb123_1
    | 2, _ => exact okb123_2
    | 3, _ => exact okb123_3
    | 4, _ => exact okb123_4
    | 5, _ => exact okb123_5
    | n + 6, h => exact absurd rfl h
  | 124, _ =>
    intro t ht
    match t, ht with
    | 0, _ => exact okb124_0
    | 1, _ => exact okb124_1
    | 2, _ => exact okb124_2
    | 3, _ => exact okb124_3
    | 4, _ => exact okb124_4
    | 5, _ => exact okb124_5
    | 6, _ => exact okb124_6
    | n + 7, h => exact absurd rfl h
  | 125, _ =>
    intro t ht
    match t, ht with
    | 0, _ => exact okb125_0
    | 1, _ => exact okb125_1
    | 2, _ => exact okb125_2
    | 3, _ => exact okb125_3
    | 4, _ => exact okb125_4
    | 5, _ => exact okb125_5
    | 6, _ => exact okb125_6
    | 7, _ => exact okb125_7
    | 8, _ => exact okb125_8
    | 9, _ => exact okb125_9
    | 10, _ => exact okb125_10
    | 11, _ => exact okb125_11
    | 12, _ => exact okb125_12
    | 13, _ => exact okb125_13
    | 14, _ => exact okb125_14
    | 15, _ => exact okb125_15
    | 16, _ => exact okb125_16
    | 17, _ => exact okb125_17
    | 18, _ => exact okb125_18
    | 19, _ => exact okb125_19
    | 20, _ => exact okb125_20
    | n + 21, h => exact absurd rfl h
  | 126, _ =>
    intro t ht
    match t, ht with
    | 0, _ => exact okb126_0
    | 1, _ => exact okb126_1
    | 2, _ => exact okb126_2
    | n + 3, h => exact absurd rfl h
  | 127, _ =>
    intro t ht
    match t, ht with
    | 0, _ => exact okb127_0
    | 1, _ => exact okb127_1
    | 2, _ => exact okb127_2
    | 3, _ => exact okb127_3
    | 4, _ => exact okb127_4
    | 5, _ => exact okb127_5
    | n + 6, h => exact absurd rfl h
  | 128, _ =>
    intro t ht
    match t, ht with
    | 0, _ => exact okb128_0
    | 1, _ => exact okb128_1
    | 2, _ => exact okb128_2
    | 3, _ => exact okb128_3
    | 4, _ => exact okb128_4
    | 5, _ => exact okb128_5
    | n + 6, h => exact absurd rfl h
  | 129, _ =>
    intro t ht
    match t, ht with
    | 0, _ => exact okb129_0
    | 1, _ => exact okb129_1
    | 2, _ => exact okb129_2
    | 3, _ => exact okb129_3
    | 4, _ => exact okb129_4
    | 5, _ => exact okb129_5
    | 6, _ => exact okb129_6
    | 7, _ => exact okb129_7
    | n + 8, h => exact absurd rfl h
  | 130, _ =>
    intro t ht
    match t, ht with
    | 0, _ => exact okb130_0
    | 1, _ => exact okb130_1
    | 2, _ => exact okb130_2
    | 3, _ => exact okb130_3
    | 4, _ => exact okb130_4
    | 5, _ => exact okb130_5
    | 6, _ => exact okb130_6
    | 7, _ => exact okb130_7
    | 8, _ => exact okb130_8
    | 9, _ => exact okb130_9
    | 10, _ => exact okb130_10
    | 11, _ => exact okb130_11
    | n + 12, h => exact absurd rfl h
  | 131, _ =>
    intro t ht
    match t, ht with
    | 0, _ => exact okb131_0
    | 1, _ => exact okb131_1
    | 2, _ => exact okb131_2
    | 3, _ => exact okb131_3
    | 4, _ => exact okb131_4
    | 5, _ => exact okb131_5
    | 6, _ => exact okb131_6
    | 7, _ => exact okb131_7
    | 8, _ => exact okb131_8
    | 9, _ => exact okb131_9
    | 10, _ => exact okb131_10
    | 11, _ => exact okb131_11
    | 12, _ => exact okb131_12
    | 13, _ => exact okb131_13
    | 14, _ => exact okb131_14
    | 15, _ => exact okb131_15
    | n + 16, h => exact absurd rfl h
  | 132, _ =>
    intro t ht
    match t, ht with
    | 0, _ => exact okb132_0
    | 1, _ => exact okb132_1
    | 2, _ => exact okb132_2
    | n + 3, h => exact absurd rfl h
  | n + 133, h => omega
end
section
theorem oc_n3 {y ix k o : Nat} (h : flq y ix (22, k, (oc o : Int)) = true ∨ (ow y = 7 ∧ ix = 211 ∧ (k = 0 ∧ (oc o : Int) = 2))) : kd o ≠ 3 := by
  have h9 : oc o < 9 := by
    rcases h with hf | h
    · obtain ⟨q, hq, e1⟩ := List.any_eq_true.mp hf
      obtain ⟨e2, e3, e4, e5⟩ := of_decide_eq_true e1
      have hr := of_decide_eq_true (List.all_eq_true.mp flR_ok q hq)
      have : (q.1.2.2.1 : Int) = (oc o : Int) := e4
      omega
    · omega
  rw [oc_kd o (oc_lt (k := o) rfl (by omega)) h9]
  decide
theorem step_call {n z : Nat} {f : Int} {lo : Lo} {st : St} {M : Me} (h1 : 1 ≤ n) (h6 : n ≤ 6) : stepF (50 + n, z, f) lo st M = none ∨ ∃ as st', st = as.reverse ++ st' ∧ as.length = n ∧ st'.length ≤ 4 ∧ stepF (50 + n, z, f) lo st M = some (2, z, lo, st', M, as, f) := by
  match n, h1, h6 with
  | 1, _, _ =>
    rcases st with _ | ⟨a0, st'⟩
    · exact Or.inl rfl
    · by_cases h : st'.length ≤ 4
      · exact Or.inr ⟨[a0], st', rfl, rfl, h, by simp only [stepF, if_pos h]⟩
      · exact Or.inl (by simp only [stepF, if_neg h])
  | 2, _, _ =>
    rcases st with _ | ⟨a1, _ | ⟨a0, st'⟩⟩
    · exact Or.inl rfl
    · exact Or.inl rfl
    · by_cases h : st'.length ≤ 4
      · exact Or.inr ⟨[a0, a1], st', rfl, rfl, h, by simp only [stepF, if_pos h]⟩
      · exact Or.inl (by simp only [stepF, if_neg h])
  | 3, _, _ =>
    rcases st with _ | ⟨a2, _ | ⟨a1, _ | ⟨a0, st'⟩⟩⟩
    · exact Or.inl rfl
    · exact Or.inl rfl
    · exact Or.inl rfl
    · by_cases h : st'.length ≤ 4
      · exact Or.inr ⟨[a0, a1, a2], st', rfl, rfl, h, by simp only [stepF, if_pos h]⟩
      · exact Or.inl (by simp only [stepF, if_neg h])
  | 4, _, _ =>
    rcases st with _ | ⟨a3, _ | ⟨a2, _ | ⟨a1, _ | ⟨a0, st'⟩⟩⟩⟩
    · exact Or.inl rfl
    · exact Or.inl rfl
    · exact Or.inl rfl
    · exact Or.inl rfl
    · by_cases h : st'.length ≤ 4
      · exact Or.inr ⟨[a0, a1, a2, a3], st', rfl, rfl, h, by simp only [stepF, if_pos h]⟩
      · exact Or.inl (by simp only [stepF, if_neg h])
  | 5, _, _ =>
    rcases st with _ | ⟨a4, _ | ⟨a3, _ | ⟨a2, _ | ⟨a1, _ | ⟨a0, st'⟩⟩⟩⟩⟩
    · exact Or.inl rfl
    · exact Or.inl rfl
    · exact Or.inl rfl
    · exact Or.inl rfl
    · exact Or.inl rfl
    · by_cases h : st'.length ≤ 4
      · exact Or.inr ⟨[a0, a1, a2, a3, a4], st', rfl, rfl, h, by simp only [stepF, if_pos h]⟩
      · exact Or.inl (by simp only [stepF, if_neg h])
  | 6, _, _ =>
    rcases st with _ | ⟨a5, _ | ⟨a4, _ | ⟨a3, _ | ⟨a2, _ | ⟨a1, _ | ⟨a0, st'⟩⟩⟩⟩⟩⟩
    · exact Or.inl rfl
    · exact Or.inl rfl
    · exact Or.inl rfl
    · exact Or.inl rfl
    · exact Or.inl rfl
    · exact Or.inl rfl
    · by_cases h : st'.length ≤ 4
      · exact Or.inr ⟨[a0, a1, a2, a3, a4, a5], st', rfl, rfl, h, by simp only [stepF, if_pos h]⟩
      · exact Or.inl (by simp only [stepF, if_neg h])
theorem nar6 : ((List.range 133).all fun z => decide (nar z ≤ 6)) = true := by decide +kernel
set_option maxHeartbeats 8000000 in
/-- a run of the small machine is a run of the machine -/
theorem sound (l : Launch) (S : Me) : ∀ n : Nat, Snd l S n := by
  intro n
  induction n with
  | zero => intro d ops y lo st M Q h; exact h.elim
  | succ n IH =>
    intro d ops y lo st M Q h p e R s m args below meth c cells slots QQ H0 A D ad cI cZ cJ pc X hok hsc hy hA hlo hkr
    cases ops with
    | nil => exact h.elim
    | cons op os =>
      have next : ∀ (pc' : Nat) (lo' : Lo) (st' : St) (M' : Me), okB y os pc' = true → lo'.length = mxl y → wpf n d os y lo' st' M' Q → GG p l e R s m args below meth c cells slots QQ H0 A D ad cI cZ cJ S pc' lo' st' M' := fun pc' lo' st' M' h1 h2 h3 => IH d os y lo' st' M' Q h3 p e R s m args below meth c cells slots QQ H0 A D ad cI cZ cJ pc' X h1 hsc hy hA h2 hkr
      have jump : ∀ (t : Nat) (st' : St), wpf n d (blk y t) y lo st' M Q → GG p l e R s m args below meth c cells slots QQ H0 A D ad cI cZ cJ S (bpc y t) lo st' M := fun t st' h3 => IH d (blk y t) y lo st' M Q h3 p e R s m args below meth c cells slots QQ H0 A D ad cI cZ cJ (bpc y t) X (okA y hy t (fun q => by rw [q] at h3; cases n <;> exact h3.elim)) hsc hy hA hlo hkr
      unfold okB at hok
      by_cases h32 : op.1 = 32
      · rw [if_pos h32] at hok
        have e1 := of_decide_eq_true hok
        obtain ⟨o1, o2, o3⟩ := op
        simp only at h32
        subst h32
        simp only [wpf, stepF] at h
        rw [e1]
        exact jump _ _ h
      · rw [if_neg h32] at hok
        cases hdc : decode (cod y) pc with
        | error q => rw [hdc] at hok; cases hok
        | ok il =>
          obtain ⟨i, len⟩ := il
          rw [hdc] at hok
          simp only [Bool.and_eq_true, Bool.or_eq_true] at hok
          obtain ⟨hI, hE⟩ := hok
          have hE2 : okE op = false → okB y os (pc + len) = true := fun q => by
            rcases hE with h1 | h1
            · rw [q] at h1; cases h1
            · exact h1
          cases i with
          | iload_n k =>
            obtain ⟨rfl, rfl⟩ := of_decide_eq_true hI
            simp only [wpf, stepF] at h
            match hv : lg lo k.val, h with
            | some (.inl x), h => exact G_iload_n X hdc hv (next _ _ _ _ (hE2 rfl) hlo h)
            | some (.inr (.inl x)), h => exact False.elim h
            | some (.inr (.inr x)), h => exact False.elim h
            | none, h => exact False.elim h
          | iload k =>
            obtain ⟨rfl, rfl⟩ := of_decide_eq_true hI
            simp only [wpf, stepF] at h
            match hv : lg lo k, h with
            | some (.inl x), h => exact G_iload X hdc hv (next _ _ _ _ (hE2 rfl) hlo h)
            | some (.inr (.inl x)), h => exact False.elim h
            | some (.inr (.inr x)), h => exact False.elim h
            | none, h => exact False.elim h
          | aload_n k =>
            obtain ⟨rfl, rfl⟩ := of_decide_eq_true hI
            simp only [wpf, stepF] at h
            match hv : lg lo k.val, h with
            | some (.inl x), h => exact False.elim h
            | some (.inr (.inl x)), h => exact False.elim h
            | some (.inr (.inr x)), h => exact G_aload_n X hdc hv (next _ _ _ _ (hE2 rfl) hlo h)
            | none, h => exact False.elim h
          | aload k =>
            obtain ⟨rfl, rfl⟩ := of_decide_eq_true hI
            simp only [wpf, stepF] at h
            match hv : lg lo k, h with
            | some (.inl x), h => exact False.elim h
            | some (.inr (.inl x)), h => exact False.elim h
            | some (.inr (.inr x)), h => exact G_aload X hdc hv (next _ _ _ _ (hE2 rfl) hlo h)
            | none, h => exact False.elim h
          | lload k =>
            obtain ⟨rfl, rfl⟩ := of_decide_eq_true hI
            simp only [wpf, stepF] at h
            match hv : lg lo k, h with
            | some (.inl x), h => exact False.elim h
            | some (.inr (.inl x)), h => exact G_lload X hdc hv (next _ _ _ _ (hE2 rfl) hlo h)
            | some (.inr (.inr x)), h => exact False.elim h
            | none, h => exact False.elim h
          | istore_n k =>
            obtain ⟨rfl, rfl⟩ := of_decide_eq_true hI
            rcases st with _ | ⟨x | x | x, st'⟩
            · exact False.elim h
            · by_cases hc : (lp lo k.val || decide (lo.length ≤ k.val)) = true
              · simp only [wpf, stepF, if_pos hc] at h
              · simp only [wpf, stepF, if_neg hc] at h
                simp only [Bool.or_eq_true, decide_eq_true_eq, not_or] at hc
                exact G_istore_n X hdc (by simpa using hc.1) (by omega) (next _ _ _ _ (hE2 rfl) (by rw [lz_len]; exact hlo) h)
            · exact False.elim h
            · exact False.elim h
          | istore k =>
            obtain ⟨rfl, rfl⟩ := of_decide_eq_true hI
            rcases st with _ | ⟨x | x | x, st'⟩
            · exact False.elim h
            · by_cases hc : (lp lo k || decide (lo.length ≤ k)) = true
              · simp only [wpf, stepF, if_pos hc] at h
              · simp only [wpf, stepF, if_neg hc] at h
                simp only [Bool.or_eq_true, decide_eq_true_eq, not_or] at hc
                exact G_istore X hdc (by simpa using hc.1) (by omega) (next _ _ _ _ (hE2 rfl) (by rw [lz_len]; exact hlo) h)
            · exact False.elim h
            · exact False.elim h
          | astore_n k =>
            obtain ⟨rfl, rfl⟩ := of_decide_eq_true hI
            rcases st with _ | ⟨x | x | x, st'⟩
            · exact False.elim h
            · exact False.elim h
            · exact False.elim h
            · by_cases hc : (lp lo k.val || decide (lo.length ≤ k.val)) = true
              · simp only [wpf, stepF, if_pos hc] at h
              · simp only [wpf, stepF, if_neg hc] at h
                simp only [Bool.or_eq_true, decide_eq_true_eq, not_or] at hc
                exact G_astore_n X hdc (by simpa using hc.1) (by omega) (next _ _ _ _ (hE2 rfl) (by rw [lz_len]; exact hlo) h)
          | lstore k =>
            obtain ⟨rfl, rfl⟩ := of_decide_eq_true hI
            rcases st with _ | ⟨x | x | x, st'⟩
            · exact False.elim h
            · exact False.elim h
            · by_cases hc : (lp lo k || decide (lo.length ≤ k + 1)) = true
              · simp only [wpf, stepF, if_pos hc] at h
              · simp only [wpf, stepF, if_neg hc] at h
                simp only [Bool.or_eq_true, decide_eq_true_eq, not_or] at hc
                exact G_lstore X hdc (by simpa using hc.1) (by omega) (next _ _ _ _ (hE2 rfl) (by rw [ly_len, lz_len]; exact hlo) h)
            · exact False.elim h
          | iconst v =>
            obtain ⟨rfl, rfl, h1, h2⟩ := of_decide_eq_true hI
            simp only [wpf, stepF] at h
            exact G_iconst X hdc ⟨h1, h2⟩ (next _ _ _ _ (hE2 rfl) hlo h)
          | bipush v =>
            obtain ⟨rfl, rfl, h1, h2⟩ := of_decide_eq_true hI
            simp only [wpf, stepF] at h
            exact G_bipush X hdc ⟨h1, h2⟩ (next _ _ _ _ (hE2 rfl) hlo h)
          | sipush v =>
            obtain ⟨rfl, rfl, h1, h2⟩ := of_decide_eq_true hI
            simp only [wpf, stepF] at h
            exact G_sipush X hdc ⟨h1, h2⟩ (next _ _ _ _ (hE2 rfl) hlo h)
          | ldc ix =>
            obtain ⟨o1, o2, o3⟩ := op
            obtain ⟨hI1, hI2⟩ := Bool.and_eq_true_iff.mp hI
            obtain ⟨rfl, h0, h1, h2⟩ := of_decide_eq_true hI1
            simp only [Prod.mk.injEq] at h0
            obtain ⟨rfl, rfl, -⟩ := h0
            simp only [wpf, stepF] at h
            exact G_ldc X hdc ⟨h1, h2⟩ hI2 (next _ _ _ _ (hE2 rfl) hlo h)
          | ldc2_w ix =>
            obtain ⟨o1, o2, o3⟩ := op
            obtain ⟨hI1, hI2⟩ := Bool.and_eq_true_iff.mp hI
            obtain ⟨rfl, h0, h1, h2⟩ := of_decide_eq_true hI1
            simp only [Prod.mk.injEq] at h0
            obtain ⟨rfl, rfl, -⟩ := h0
            simp only [wpf, stepF] at h
            exact G_ldc2 X hdc ⟨h1, h2⟩ hI2 (next _ _ _ _ (hE2 rfl) hlo h)
          | lconst n =>
            obtain ⟨rfl, rfl⟩ := of_decide_eq_true hI
            simp only [wpf, stepF] at h
            exact G_lconst X hdc (next _ _ _ _ (hE2 rfl) hlo h)
          | iinc k v =>
            obtain ⟨rfl, rfl⟩ := of_decide_eq_true hI
            match hv : lg lo k, h with
            | none, h => simp only [wpf, stepF, hv] at h
            | some (.inr x), h => simp only [wpf, stepF, hv] at h
            | some (.inl x), h =>
              by_cases hc : (lp lo k || decide (lo.length ≤ k)) = true
              · simp only [wpf, stepF, hv, if_pos hc] at h
              · simp only [wpf, stepF, hv, if_neg hc] at h
                simp only [Bool.or_eq_true, decide_eq_true_eq, not_or] at hc
                exact G_iincG X hdc hv (by simpa using hc.1) (by omega) (next _ _ _ _ (hE2 rfl) (by rw [lz_len]; exact hlo) h)
          | iadd =>
            obtain ⟨rfl, rfl⟩ := of_decide_eq_true hI
            rcases st with _ | ⟨y' | y', _ | ⟨x | x, st'⟩⟩ <;> first | exact False.elim h | exact G_iadd X hdc (next _ _ _ _ (hE2 rfl) hlo h)
          | isub =>
            obtain ⟨rfl, rfl⟩ := of_decide_eq_true hI
            rcases st with _ | ⟨y' | y', _ | ⟨x | x, st'⟩⟩ <;> first | exact False.elim h | exact G_isub X hdc (next _ _ _ _ (hE2 rfl) hlo h)
          | imul =>
            obtain ⟨rfl, rfl⟩ := of_decide_eq_true hI
            rcases st with _ | ⟨y' | y', _ | ⟨x | x, st'⟩⟩ <;> first | exact False.elim h | exact G_imul X hdc (next _ _ _ _ (hE2 rfl) hlo h)
          | iand =>
            obtain ⟨rfl, rfl⟩ := of_decide_eq_true hI
            rcases st with _ | ⟨y' | y', _ | ⟨x | x, st'⟩⟩ <;> first | exact False.elim h | exact G_iand X hdc (next _ _ _ _ (hE2 rfl) hlo h)
          | ior =>
            obtain ⟨rfl, rfl⟩ := of_decide_eq_true hI
            rcases st with _ | ⟨y' | y', _ | ⟨x | x, st'⟩⟩ <;> first | exact False.elim h | exact G_ior X hdc (next _ _ _ _ (hE2 rfl) hlo h)
          | ishl =>
            obtain ⟨rfl, rfl⟩ := of_decide_eq_true hI
            rcases st with _ | ⟨y' | y', _ | ⟨x | x, st'⟩⟩ <;> first | exact False.elim h | exact G_ishl X hdc (next _ _ _ _ (hE2 rfl) hlo h)
          | ishr =>
            obtain ⟨rfl, rfl⟩ := of_decide_eq_true hI
            rcases st with _ | ⟨y' | y', _ | ⟨x | x, st'⟩⟩ <;> first | exact False.elim h | exact G_ishr X hdc (next _ _ _ _ (hE2 rfl) hlo h)
          | idiv =>
            obtain ⟨rfl, rfl⟩ := of_decide_eq_true hI
            rcases st with _ | ⟨y' | y', _ | ⟨x | x, st'⟩⟩
            · exact False.elim h
            · exact False.elim h
            · by_cases hc : y' = 0
              · simp only [wpf, stepF, if_pos hc] at h
              · simp only [wpf, stepF, if_neg hc] at h
                exact G_idiv X hdc hc (next _ _ _ _ (hE2 rfl) hlo h)
            · exact False.elim h
            · exact False.elim h
            · exact False.elim h
            · exact False.elim h
          | irem =>
            obtain ⟨rfl, rfl⟩ := of_decide_eq_true hI
            rcases st with _ | ⟨y' | y', _ | ⟨x | x, st'⟩⟩
            · exact False.elim h
            · exact False.elim h
            · by_cases hc : y' = 0
              · simp only [wpf, stepF, if_pos hc] at h
              · simp only [wpf, stepF, if_neg hc] at h
                exact G_irem X hdc hc (next _ _ _ _ (hE2 rfl) hlo h)
            · exact False.elim h
            · exact False.elim h
            · exact False.elim h
            · exact False.elim h
          | ineg =>
            obtain ⟨rfl, rfl⟩ := of_decide_eq_true hI
            rcases st with _ | ⟨x | x, st'⟩ <;> first | exact False.elim h | exact G_ineg X hdc (next _ _ _ _ (hE2 rfl) hlo h)
          | i2l =>
            obtain ⟨rfl, rfl⟩ := of_decide_eq_true hI
            rcases st with _ | ⟨x | x, st'⟩ <;> first | exact False.elim h | exact G_i2l X hdc (next _ _ _ _ (hE2 rfl) hlo h)
          | l2i =>
            obtain ⟨rfl, rfl⟩ := of_decide_eq_true hI
            rcases st with _ | ⟨x | x | x, st'⟩ <;> first | exact False.elim h | exact G_l2i X hdc (next _ _ _ _ (hE2 rfl) hlo h)
          | ladd =>
            obtain ⟨rfl, rfl⟩ := of_decide_eq_true hI
            rcases st with _ | ⟨y' | y' | y', _ | ⟨x | x | x, st'⟩⟩ <;> first | exact False.elim h | exact G_ladd X hdc (next _ _ _ _ (hE2 rfl) hlo h)
          | lmul =>
            obtain ⟨rfl, rfl⟩ := of_decide_eq_true hI
            rcases st with _ | ⟨y' | y' | y', _ | ⟨x | x | x, st'⟩⟩ <;> first | exact False.elim h | exact G_lmul X hdc (next _ _ _ _ (hE2 rfl) hlo h)
          | lcmp =>
            obtain ⟨rfl, rfl⟩ := of_decide_eq_true hI
            rcases st with _ | ⟨y' | y' | y', _ | ⟨x | x | x, st'⟩⟩ <;> first | exact False.elim h | exact G_lcmp X hdc (next _ _ _ _ (hE2 rfl) hlo h)
          | ldiv =>
            obtain ⟨rfl, rfl⟩ := of_decide_eq_true hI
            rcases st with _ | ⟨y' | y' | y', _ | ⟨x | x | x, st'⟩⟩ <;> first | exact False.elim h | skip
            by_cases hc : y' = 0
            · simp only [wpf, stepF, if_pos hc] at h
            · simp only [wpf, stepF, if_neg hc] at h
              exact G_ldiv X hdc hc (next _ _ _ _ (hE2 rfl) hlo h)
          | getfield ix =>
            obtain ⟨o1, k, ci⟩ := op
            obtain ⟨hI1, hI2⟩ := Bool.and_eq_true_iff.mp hI
            obtain ⟨rfl, h0⟩ := of_decide_eq_true hI1
            simp only at h0
            subst h0
            rcases st with _ | ⟨o | o | o, st'⟩ <;> first | exact False.elim h | skip
            by_cases hc : (oc o : Int) = ci
            · subst hc
              have hf : flq y ix (22, k, (oc o : Int)) = true ∨ (ow y = 7 ∧ ix = 211 ∧ (k = 0 ∧ (oc o : Int) = 2)) := by
                rcases Bool.or_eq_true_iff.mp hI2 with h1 | h1
                · exact Or.inl h1
                · obtain ⟨h2, h3, h4⟩ := of_decide_eq_true h1
                  simp only [Prod.mk.injEq, true_and] at h4
                  exact Or.inr ⟨h2, h3, h4⟩
              match hk : fk o k, h with
              | 0, h =>
                simp only [wpf, stepF, if_true, hk] at h
                exact G_get (v := .inl (M o k)) X hdc hf (by rw [fvl_I (Or.inl hk)]; rfl) (fun hm => hm.get (k := o) (oc_n3 hf) _) (next _ _ _ _ (hE2 rfl) hlo h)
              | 1, h =>
                simp only [wpf, stepF, if_true, hk] at h
                exact G_get (v := .inl (M o k)) X hdc hf (by rw [fvl_I (Or.inr hk)]; rfl) (fun hm => hm.get (k := o) (oc_n3 hf) _) (next _ _ _ _ (hE2 rfl) hlo h)
              | r + 2, h =>
                simp only [wpf, stepF, if_true, hk] at h
                exact G_get (v := .inr (.inr r)) X hdc hf (by rw [fvl_R hk]; rfl) (fun _ => trivial) (next _ _ _ _ (hE2 rfl) hlo h)
            · simp only [wpf, stepF, if_neg hc] at h
          | putfield ix =>
            obtain ⟨o1, k, ci⟩ := op
            obtain ⟨hI1, hI2⟩ := Bool.and_eq_true_iff.mp hI
            obtain ⟨rfl, h0⟩ := of_decide_eq_true hI1
            simp only at h0
            subst h0
            rcases st with _ | ⟨v | v | v, _ | ⟨o | o | o, st'⟩⟩ <;> first | exact False.elim h | skip
            by_cases hc : (oc o : Int) = ci
            · subst hc
              match hk : fk o k, h with
              | 0, h =>
                simp only [wpf, stepF, if_true, hk] at h
                exact G_put X hdc hI2 (Or.inl hk) (next _ _ _ _ (hE2 rfl) hlo h)
              | 1, h =>
                by_cases hv : v = 0 ∨ v = 1
                · simp only [wpf, stepF, if_true, hk, if_pos hv] at h
                  exact G_put X hdc hI2 (Or.inr ⟨hk, hv⟩) (next _ _ _ _ (hE2 rfl) hlo h)
                · simp only [wpf, stepF, if_true, hk, if_neg hv] at h
              | r + 2, h => simp only [wpf, stepF, if_true, hk] at h
            · simp only [wpf, stepF, if_neg hc] at h
          | iaload =>
            obtain ⟨rfl, h0⟩ := of_decide_eq_true hI
            rcases h0 with rfl | ⟨h0, rfl⟩
            · rcases st with _ | ⟨x | x | x, _ | ⟨a | a | a, st'⟩⟩ <;> first | exact False.elim h | skip
              by_cases hc : kd a = 1 ∧ 0 ≤ x ∧ x < ln a
              · simp only [wpf, stepF, if_pos hc] at h
                exact G_iaload X hdc hc.1 hc.2.1 hc.2.2 (next _ _ _ _ (hE2 rfl) hlo h)
              · simp only [wpf, stepF, if_neg hc] at h
            · rcases st with _ | ⟨x | x | x, _ | ⟨a | a | a, st'⟩⟩ <;> first | exact False.elim h | skip
              by_cases hc : a = 99 ∧ 0 ≤ x ∧ x < M 98 0
              · simp only [wpf, stepF, if_pos hc] at h
                obtain ⟨rfl, h1, h2⟩ := hc
                exact G_sld X hdc h0 hsc h1 h2 (next _ _ _ _ (hE2 rfl) hlo h)
              · simp only [wpf, stepF, if_neg hc] at h
          | baload =>
            obtain ⟨rfl, rfl⟩ := of_decide_eq_true hI
            rcases st with _ | ⟨x | x | x, _ | ⟨a | a | a, st'⟩⟩ <;> first | exact False.elim h | skip
            by_cases hc : kd a = 2 ∧ 0 ≤ x ∧ x < ln a
            · simp only [wpf, stepF, if_pos hc] at h
              exact G_baload X hdc hc.1 hc.2.1 hc.2.2 (next _ _ _ _ (hE2 rfl) hlo h)
            · simp only [wpf, stepF, if_neg hc] at h
          | laload =>
            obtain ⟨rfl, rfl⟩ := of_decide_eq_true hI
            rcases st with _ | ⟨x | x | x, _ | ⟨a | a | a, st'⟩⟩ <;> first | exact False.elim h | skip
            by_cases hc : kd a = 3 ∧ 0 ≤ x ∧ x < ln a
            · simp only [wpf, stepF, if_pos hc] at h
              exact G_laload X hdc hc.1 hc.2.1 hc.2.2 (next _ _ _ _ (hE2 rfl) hlo h)
            · simp only [wpf, stepF, if_neg hc] at h
          | iastore =>
            obtain ⟨rfl, rfl⟩ := of_decide_eq_true hI
            rcases st with _ | ⟨v | v | v, _ | ⟨x | x | x, _ | ⟨a | a | a, st'⟩⟩⟩ <;> first | exact False.elim h | skip
            by_cases hc : kd a = 1 ∧ 0 ≤ x ∧ x < ln a
            · simp only [wpf, stepF, if_pos hc] at h
              exact G_iastore X hdc hc.1 hc.2.1 hc.2.2 (next _ _ _ _ (hE2 rfl) hlo h)
            · simp only [wpf, stepF, if_neg hc] at h
          | bastore =>
            obtain ⟨rfl, rfl⟩ := of_decide_eq_true hI
            rcases st with _ | ⟨v | v | v, _ | ⟨x | x | x, _ | ⟨a | a | a, st'⟩⟩⟩ <;> first | exact False.elim h | skip
            by_cases hc : kd a = 2 ∧ (v = 0 ∨ v = 1) ∧ 0 ≤ x ∧ x < ln a
            · simp only [wpf, stepF, if_pos hc] at h
              exact G_bastore X hdc hc.1 hc.2.1 hc.2.2.1 hc.2.2.2 (next _ _ _ _ (hE2 rfl) hlo h)
            · simp only [wpf, stepF, if_neg hc] at h
          | lastore =>
            obtain ⟨rfl, rfl⟩ := of_decide_eq_true hI
            rcases st with _ | ⟨v | v | v, _ | ⟨x | x | x, _ | ⟨a | a | a, st'⟩⟩⟩ <;> first | exact False.elim h | skip
            by_cases hc : kd a = 3 ∧ 0 ≤ x ∧ x < ln a
            · simp only [wpf, stepF, if_pos hc] at h
              exact G_lastore X hdc hc.1 hc.2.1 hc.2.2 (next _ _ _ _ (hE2 rfl) hlo h)
            · simp only [wpf, stepF, if_neg hc] at h
          | ifCond cc off =>
            obtain ⟨o1, t, o3⟩ := op
            obtain ⟨rfl, h0, ht⟩ := of_decide_eq_true hI
            simp only [Prod.mk.injEq, true_and] at h0
            obtain ⟨rfl, rfl⟩ := h0
            simp only at ht
            rcases st with _ | ⟨x | x, st'⟩ <;> first | exact False.elim h | skip
            cases cc with
            | eq =>
              refine G_if_eq X hdc ht (fun q => jump t _ ?_) (fun q => next _ _ _ _ (hE2 rfl) hlo ?_)
              · have hb : cnb 0 x 0 = true := by simp [cnb]; first | exact q | omega
                have hst : stepF (29, t, cnc ClassFile.Cond.eq) lo (.inl x :: st') M = jp t lo st' M := if_pos hb
                simp only [wpf, hst] at h; exact h
              · have hb : ¬ cnb 0 x 0 = true := by simp [cnb]; first | exact q | omega
                have hst : stepF (29, t, cnc ClassFile.Cond.eq) lo (.inl x :: st') M = nx lo st' M := if_neg hb
                simp only [wpf, hst] at h; exact h
            | ne =>
              refine G_if_ne X hdc ht (fun q => jump t _ ?_) (fun q => next _ _ _ _ (hE2 rfl) hlo ?_)
              · have hb : cnb 1 x 0 = true := by simp [cnb]; first | exact q | omega
                have hst : stepF (29, t, cnc ClassFile.Cond.ne) lo (.inl x :: st') M = jp t lo st' M := if_pos hb
                simp only [wpf, hst] at h; exact h
              · have hb : ¬ cnb 1 x 0 = true := by simp [cnb]; first | exact q | omega
                have hst : stepF (29, t, cnc ClassFile.Cond.ne) lo (.inl x :: st') M = nx lo st' M := if_neg hb
                simp only [wpf, hst] at h; exact h
            | lt =>
              refine G_if_lt X hdc ht (fun q => jump t _ ?_) (fun q => next _ _ _ _ (hE2 rfl) hlo ?_)
              · have hb : cnb 2 x 0 = true := by simp [cnb]; first | exact q | omega
                have hst : stepF (29, t, cnc ClassFile.Cond.lt) lo (.inl x :: st') M = jp t lo st' M := if_pos hb
                simp only [wpf, hst] at h; exact h
              · have hb : ¬ cnb 2 x 0 = true := by simp [cnb]; first | exact q | omega
                have hst : stepF (29, t, cnc ClassFile.Cond.lt) lo (.inl x :: st') M = nx lo st' M := if_neg hb
                simp only [wpf, hst] at h; exact h
            | ge =>
              refine G_if_ge X hdc ht (fun q => jump t _ ?_) (fun q => next _ _ _ _ (hE2 rfl) hlo ?_)
              · have hb : cnb 3 x 0 = true := by simp [cnb]; first | exact q | omega
                have hst : stepF (29, t, cnc ClassFile.Cond.ge) lo (.inl x :: st') M = jp t lo st' M := if_pos hb
                simp only [wpf, hst] at h; exact h
              · have hb : ¬ cnb 3 x 0 = true := by simp [cnb]; first | exact q | omega
                have hst : stepF (29, t, cnc ClassFile.Cond.ge) lo (.inl x :: st') M = nx lo st' M := if_neg hb
                simp only [wpf, hst] at h; exact h
            | gt =>
              refine G_if_gt X hdc ht (fun q => jump t _ ?_) (fun q => next _ _ _ _ (hE2 rfl) hlo ?_)
              · have hb : cnb 4 x 0 = true := by simp [cnb]; first | exact q | omega
                have hst : stepF (29, t, cnc ClassFile.Cond.gt) lo (.inl x :: st') M = jp t lo st' M := if_pos hb
                simp only [wpf, hst] at h; exact h
              · have hb : ¬ cnb 4 x 0 = true := by simp [cnb]; first | exact q | omega
                have hst : stepF (29, t, cnc ClassFile.Cond.gt) lo (.inl x :: st') M = nx lo st' M := if_neg hb
                simp only [wpf, hst] at h; exact h
            | le =>
              refine G_if_le X hdc ht (fun q => jump t _ ?_) (fun q => next _ _ _ _ (hE2 rfl) hlo ?_)
              · have hb : cnb 5 x 0 = true := by simp [cnb]; first | exact q | omega
                have hst : stepF (29, t, cnc ClassFile.Cond.le) lo (.inl x :: st') M = jp t lo st' M := if_pos hb
                simp only [wpf, hst] at h; exact h
              · have hb : ¬ cnb 5 x 0 = true := by simp [cnb]; first | exact q | omega
                have hst : stepF (29, t, cnc ClassFile.Cond.le) lo (.inl x :: st') M = nx lo st' M := if_neg hb
                simp only [wpf, hst] at h; exact h
          | if_icmp cc off =>
            obtain ⟨o1, t, o3⟩ := op
            obtain ⟨rfl, h0, ht⟩ := of_decide_eq_true hI
            simp only [Prod.mk.injEq, true_and] at h0
            obtain ⟨rfl, rfl⟩ := h0
            simp only at ht
            rcases st with _ | ⟨y' | y', _ | ⟨x | x, st'⟩⟩ <;> first | exact False.elim h | skip
            cases cc with
            | eq =>
              refine G_icmp_eq X hdc ht (fun q => jump t _ ?_) (fun q => next _ _ _ _ (hE2 rfl) hlo ?_)
              · have hb : cnb 0 x y' = true := by simp [cnb]; first | exact q | omega
                have hst : stepF (30, t, cnc ClassFile.Cond.eq) lo (.inl y' :: .inl x :: st') M = jp t lo st' M := if_pos hb
                simp only [wpf, hst] at h; exact h
              · have hb : ¬ cnb 0 x y' = true := by simp [cnb]; first | exact q | omega
                have hst : stepF (30, t, cnc ClassFile.Cond.eq) lo (.inl y' :: .inl x :: st') M = nx lo st' M := if_neg hb
                simp only [wpf, hst] at h; exact h
            | ne =>
              refine G_icmp_ne X hdc ht (fun q => jump t _ ?_) (fun q => next _ _ _ _ (hE2 rfl) hlo ?_)
              · have hb : cnb 1 x y' = true := by simp [cnb]; first | exact q | omega
                have hst : stepF (30, t, cnc ClassFile.Cond.ne) lo (.inl y' :: .inl x :: st') M = jp t lo st' M := if_pos hb
                simp only [wpf, hst] at h; exact h
              · have hb : ¬ cnb 1 x y' = true := by simp [cnb]; first | exact q | omega
                have hst : stepF (30, t, cnc ClassFile.Cond.ne) lo (.inl y' :: .inl x :: st') M = nx lo st' M := if_neg hb
                simp only [wpf, hst] at h; exact h
            | lt =>
              refine G_icmp_lt X hdc ht (fun q => jump t _ ?_) (fun q => next _ _ _ _ (hE2 rfl) hlo ?_)
              · have hb : cnb 2 x y' = true := by simp [cnb]; first | exact q | omega
                have hst : stepF (30, t, cnc ClassFile.Cond.lt) lo (.inl y' :: .inl x :: st') M = jp t lo st' M := if_pos hb
                simp only [wpf, hst] at h; exact h
              · have hb : ¬ cnb 2 x y' = true := by simp [cnb]; first | exact q | omega
                have hst : stepF (30, t, cnc ClassFile.Cond.lt) lo (.inl y' :: .inl x :: st') M = nx lo st' M := if_neg hb
                simp only [wpf, hst] at h; exact h
            | ge =>
              refine G_icmp_ge X hdc ht (fun q => jump t _ ?_) (fun q => next _ _ _ _ (hE2 rfl) hlo ?_)
              · have hb : cnb 3 x y' = true := by simp [cnb]; first | exact q | omega
                have hst : stepF (30, t, cnc ClassFile.Cond.ge) lo (.inl y' :: .inl x :: st') M = jp t lo st' M := if_pos hb
                simp only [wpf, hst] at h; exact h
              · have hb : ¬ cnb 3 x y' = true := by simp [cnb]; first | exact q | omega
                have hst : stepF (30, t, cnc ClassFile.Cond.ge) lo (.inl y' :: .inl x :: st') M = nx lo st' M := if_neg hb
                simp only [wpf, hst] at h; exact h
            | gt =>
              refine G_icmp_gt X hdc ht (fun q => jump t _ ?_) (fun q => next _ _ _ _ (hE2 rfl) hlo ?_)
              · have hb : cnb 4 x y' = true := by simp [cnb]; first | exact q | omega
                have hst : stepF (30, t, cnc ClassFile.Cond.gt) lo (.inl y' :: .inl x :: st') M = jp t lo st' M := if_pos hb
                simp only [wpf, hst] at h; exact h
              · have hb : ¬ cnb 4 x y' = true := by simp [cnb]; first | exact q | omega
                have hst : stepF (30, t, cnc ClassFile.Cond.gt) lo (.inl y' :: .inl x :: st') M = nx lo st' M := if_neg hb
                simp only [wpf, hst] at h; exact h
            | le =>
              refine G_icmp_le X hdc ht (fun q => jump t _ ?_) (fun q => next _ _ _ _ (hE2 rfl) hlo ?_)
              · have hb : cnb 5 x y' = true := by simp [cnb]; first | exact q | omega
                have hst : stepF (30, t, cnc ClassFile.Cond.le) lo (.inl y' :: .inl x :: st') M = jp t lo st' M := if_pos hb
                simp only [wpf, hst] at h; exact h
              · have hb : ¬ cnb 5 x y' = true := by simp [cnb]; first | exact q | omega
                have hst : stepF (30, t, cnc ClassFile.Cond.le) lo (.inl y' :: .inl x :: st') M = nx lo st' M := if_neg hb
                simp only [wpf, hst] at h; exact h
          | goto off =>
            obtain ⟨o1, t, o3⟩ := op
            obtain ⟨rfl, h0, ht⟩ := of_decide_eq_true hI
            simp only [Prod.mk.injEq, true_and] at h0
            obtain ⟨rfl, rfl⟩ := h0
            simp only [wpf, stepF] at h
            exact G_goto X hdc ht (jump t _ h)
          | dup =>
            obtain ⟨rfl, rfl⟩ := of_decide_eq_true hI
            rcases st with _ | ⟨x | x | x, st'⟩ <;> first | exact False.elim h | exact G_dup X hdc rfl (next _ _ _ _ (hE2 rfl) hlo h)
          | dup2 =>
            obtain ⟨rfl, rfl⟩ := of_decide_eq_true hI
            rcases st with _ | ⟨x | x | x, _ | ⟨a | a | a, st'⟩⟩ <;> first | exact False.elim h | exact G_dup2 X hdc rfl rfl (next _ _ _ _ (hE2 rfl) hlo h)
          | pop =>
            obtain ⟨rfl, rfl⟩ := of_decide_eq_true hI
            rcases st with _ | ⟨x | x | x, st'⟩ <;> first | exact False.elim h | exact G_pop X hdc rfl (next _ _ _ _ (hE2 rfl) hlo h)
          | tableswitch df l2 hi offs =>
            obtain ⟨o1, id, o3⟩ := op
            obtain ⟨hI1, hI2⟩ := Bool.and_eq_true_iff.mp hI
            obtain ⟨h0, h1, h2, h3⟩ := of_decide_eq_true hI1
            simp only [Prod.mk.injEq, true_and] at h0
            obtain ⟨rfl, rfl⟩ := h0
            rcases st with _ | ⟨x | x, st'⟩ <;> first | exact False.elim h | skip
            exact G_switch X hdc h1 h2 h3 (fun j hj => of_decide_eq_true (List.all_eq_true.mp hI2 j (List.mem_range.mpr hj))) (jump _ _ h)
          | ireturn =>
            obtain ⟨rfl, h0⟩ := of_decide_eq_true hI
            rcases h0 with ⟨rfl, h0⟩ | ⟨rfl, h0⟩
            · rcases st with _ | ⟨v | v, _ | ⟨b, st'⟩⟩ <;> first | exact False.elim h | skip
              simp only [wpf, stepF] at h
              intro ls H locs hl hs ho hw
              exact (hkr v M pc ls H locs h hs.head hw).2 .int h0 rfl hdc
            · rcases st with _ | ⟨v | v, _ | ⟨b, st'⟩⟩ <;> first | exact False.elim h | skip
              by_cases hc : v = 0 ∨ v = 1
              · simp only [wpf, stepF] at h
                rw [if_neg (fun q => q.2 hc)] at h
                intro ls H locs hl hs ho hw
                exact (hkr v M pc ls H locs h hs.head hw).2 .boolean h0 (i_zn hc) hdc
              · simp only [wpf, stepF] at h
                rw [if_pos ⟨trivial, hc⟩] at h
                exact False.elim h
          | return_ =>
            obtain ⟨rfl, rfl, h0⟩ := of_decide_eq_true hI
            rcases st with _ | ⟨b, st'⟩ <;> first | exact False.elim h | skip
            simp only [wpf, stepF] at h
            intro ls H locs hl hs ho hw
            exact (hkr 0 M pc ls H locs h ⟨by omega, by omega⟩ hw).1 h0 hdc
          | arraylength =>
            obtain ⟨rfl, h0⟩ := of_decide_eq_true hI
            rcases h0 with rfl | ⟨h0, rfl⟩
            · rcases st with _ | ⟨a | a | a, st'⟩ <;> first | exact False.elim h | skip
              by_cases hc : kd a = 1
              · simp only [wpf, stepF, if_pos hc] at h
                exact G_alen X hdc hc (next _ _ _ _ (hE2 rfl) hlo h)
              · simp only [wpf, stepF, if_neg hc] at h
            · rcases st with _ | ⟨a | a | a, st'⟩ <;> first | exact False.elim h | skip
              by_cases hc : a = 99
              · simp only [wpf, stepF, if_pos hc] at h
                subst hc
                exact G_slen X hdc h0 hsc (next _ _ _ _ (hE2 rfl) hlo h)
              · simp only [wpf, stepF, if_neg hc] at h
          | invokevirtual ix =>
            obtain ⟨o1, z, f⟩ := op
            obtain ⟨hI1, hI2⟩ := Bool.and_eq_true_iff.mp hI
            obtain ⟨rfl, h0, hi, hn1, hz0, hz, hfl⟩ := of_decide_eq_true hI1
            simp only at h0 hi hn1 hz0 hz hfl
            subst h0
            have hn6 := of_decide_eq_true (List.all_eq_true.mp nar6 z (List.mem_range.mpr hz))
            have hnE : okE (50 + nar z, z, f) = false := by simp only [okE, decide_eq_false_iff_not]; omega
            rcases step_call (z := z) (f := f) (lo := lo) (st := st) (M := M) hn1 hn6 with h1 | ⟨as, st', rfl, hla, h4, h1⟩
            · simp only [wpf, h1] at h
            · simp only [wpf, h1] at h
              cases d with
              | zero => exact False.elim h
              | succ d' =>
                obtain ⟨hrc, h⟩ := h
                obtain ⟨hg, hrc⟩ := Bool.and_eq_true_iff.mp hrc
                simp only [rcvb, hi, Bool.false_or] at hrc
                match as, hla, hg, hrc, h with
                | .inr (.inr o) :: as', hla, hg, hrc, h =>
                  have hoc : oc o = ow z := by simpa using hrc
                  have hne : blk z 0 ≠ [] := fun q => by rw [q] at h; cases n <;> exact h.elim
                  rcases hfl with ⟨rfl, hr⟩ | ⟨rfl, hr⟩
                  · exact G_callVV IH X h hz hz0 (okA z hz 0 hne) hla hg h4 hA hlo hr hdc hi hoc hI2 (fun v M2 hq => next _ _ _ _ (hE2 hnE) hlo hq)
                  · rcases hr with hr | hr <;> exact G_callVI IH X h hz hz0 (okA z hz 0 hne) hla hg h4 hA hlo hr hdc hi hoc hI2 (fun v M2 hq => next _ _ _ _ (hE2 hnE) hlo hq)
          | invokestatic ix =>
            obtain ⟨o1, z, f⟩ := op
            obtain ⟨hl3, hI0⟩ := Bool.and_eq_true_iff.mp hI
            have hl3 := of_decide_eq_true hl3
            subst hl3
            rcases Bool.or_eq_true_iff.mp hI0 with hI3 | hI3
            · obtain ⟨hI1, hI2⟩ := Bool.and_eq_true_iff.mp hI3
              obtain ⟨h0, hi, hn1, hz0, hz, hfl⟩ := of_decide_eq_true hI1
              simp only at h0 hi hn1 hz0 hz hfl
              subst h0
              have hn6 := of_decide_eq_true (List.all_eq_true.mp nar6 z (List.mem_range.mpr hz))
              have hnE : okE (50 + nar z, z, f) = false := by simp only [okE, decide_eq_false_iff_not]; omega
              rcases step_call (z := z) (f := f) (lo := lo) (st := st) (M := M) hn1 hn6 with h1 | ⟨as, st', rfl, hla, h4, h1⟩
              · simp only [wpf, h1] at h
              · simp only [wpf, h1] at h
                cases d with
                | zero => exact False.elim h
                | succ d' =>
                  obtain ⟨hrc, h⟩ := h
                  obtain ⟨hg, hrc⟩ := Bool.and_eq_true_iff.mp hrc
                  have hne : blk z 0 ≠ [] := fun q => by rw [q] at h; cases n <;> exact h.elim
                  rcases Bool.or_eq_true_iff.mp hI2 with hml | hml
                  · rcases hfl with ⟨rfl, hr⟩ | ⟨rfl, hr⟩
                    · exact G_callSV IH X h hz hz0 (okA z hz 0 hne) hla hg h4 hA hlo hr hdc hi hml (fun v M2 hq => next _ _ _ _ (hE2 hnE) hlo hq)
                    · rcases hr with hr | hr <;> exact G_callSI IH X h hz hz0 (okA z hz 0 hne) hla hg h4 hA hlo hr hdc hi hml (fun v M2 hq => next _ _ _ _ (hE2 hnE) hlo hq)
                  · obtain ⟨hm1, hm2, hm3⟩ := of_decide_eq_true hml
                    rcases hfl with ⟨rfl, hr⟩ | ⟨rfl, hr⟩
                    · exact G_callSNV IH X h hz hz0 (okA z hz 0 hne) hla hg h4 hA hlo hr hdc hi hm1 hm2 hm3 (fun v M2 hq => next _ _ _ _ (hE2 hnE) hlo hq)
                    · rcases hr with hr | hr <;> exact G_callSNI IH X h hz hz0 (okA z hz 0 hne) hla hg h4 hA hlo hr hdc hi hm1 hm2 hm3 (fun v M2 hq => next _ _ _ _ (hE2 hnE) hlo hq)
            · obtain ⟨hI1, hI2⟩ := Bool.and_eq_true_iff.mp hI3
              obtain ⟨h0, h39, h42⟩ := of_decide_eq_true hI1
              simp only [Prod.mk.injEq, true_and] at h0 h39 h42
              obtain ⟨rfl, rfl⟩ := h0
              have hE3 : okE (o1, 0, 0) = false := by simp only [okE, decide_eq_false_iff_not]; omega
              have hml : (o1 = 39 ∧ ow y = 3 ∧ ix = 110) ∨ (o1 = 40 ∧ ow y = 2 ∧ ix = 153) ∨ (o1 = 41 ∧ ow y = 3 ∧ ix = 121) ∨ (o1 = 42 ∧ ((ow y = 3 ∧ ix = 31) ∨ (ow y = 4 ∧ ix = 35) ∨ (ow y = 2 ∧ ix = 79))) := by
                simp only [maL, List.any_cons, List.any_nil, Bool.or_false, Bool.or_eq_true, decide_eq_true_eq, Prod.mk.injEq] at hI2
                omega
              rcases hml with ⟨rfl, hml⟩ | ⟨rfl, hml⟩ | ⟨rfl, hml⟩ | ⟨rfl, hml⟩
              · rcases st with _ | ⟨y' | y', _ | ⟨x | x, st'⟩⟩ <;> first | exact False.elim h | skip
                by_cases hc : st'.length ≤ 4
                · simp only [wpf, stepF, if_pos hc] at h
                  exact G_mmax X hdc hml hc hlo (next _ _ _ _ (hE2 hE3) hlo h)
                · simp only [wpf, stepF, if_neg hc] at h
              · rcases st with _ | ⟨y' | y', _ | ⟨x | x, st'⟩⟩ <;> first | exact False.elim h | skip
                by_cases hc : st'.length ≤ 4
                · simp only [wpf, stepF, if_pos hc] at h
                  exact G_mmin X hdc hml hc hlo (next _ _ _ _ (hE2 hE3) hlo h)
                · simp only [wpf, stepF, if_neg hc] at h
              · rcases st with _ | ⟨y' | y' | y', _ | ⟨x | x | x, st'⟩⟩ <;> first | exact False.elim h | skip
                by_cases hc : st'.length ≤ 4
                · simp only [wpf, stepF, if_pos hc] at h
                  exact G_lmin X hdc hml hc hlo (next _ _ _ _ (hE2 hE3) hlo h)
                · simp only [wpf, stepF, if_neg hc] at h
              · rcases st with _ | ⟨nn | nn, _ | ⟨dp | dp, _ | ⟨dk | dk | dk, _ | ⟨sp | sp, _ | ⟨sk | sk | sk, _ | ⟨b, st'⟩⟩⟩⟩⟩⟩ <;> first | exact False.elim h | skip
                by_cases hc : kd dk = 1 ∧ kd sk = 1 ∧ 0 ≤ nn ∧ 0 ≤ dp ∧ 0 ≤ sp ∧ dp + nn ≤ ln dk ∧ sp + nn ≤ ln sk
                · simp only [wpf, stepF, if_pos hc] at h
                  exact G_copy X hdc hml hlo hc (next _ _ _ _ (hE2 hE3) hlo h)
                · simp only [wpf, stepF, if_neg hc] at h
          | _ => exact absurd hI (by simp [okI])
end
section
abbrev cX0_init : ByteArray := prog_2_method_1_code
def yX0_init : MethodName := ⟨RX0, "<init>", "()V"⟩
set_option maxRecDepth 100000 in
theorem cow_iX0 : lw_tbl[74]? = some (Cond.code yX0_init cX0_init 1 none) := rfl
theorem diX0_0 : decode cX0_init 0 = .ok (.aload_n 0, 1) := by decide +kernel
theorem diX0_1 : decode cX0_init 1 = .ok (.invokespecial 3, 3) := by decide +kernel
theorem diX0_4 : decode cX0_init 4 = .ok (.aload_n 0, 1) := by decide +kernel
theorem diX0_5 : decode cX0_init 5 = .ok (.bipush 10, 2) := by decide +kernel
theorem diX0_7 : decode cX0_init 7 = .ok (.newarray .boolean, 2) := by decide +kernel
theorem diX0_9 : decode cX0_init 9 = .ok (.putfield 9, 3) := by decide +kernel
theorem diX0_12 : decode cX0_init 12 = .ok (.aload_n 0, 1) := by decide +kernel
theorem diX0_13 : decode cX0_init 13 = .ok (.bipush 10, 2) := by decide +kernel
theorem diX0_15 : decode cX0_init 15 = .ok (.newarray .int, 2) := by decide +kernel
theorem diX0_17 : decode cX0_init 17 = .ok (.putfield 15, 3) := by decide +kernel
theorem diX0_20 : decode cX0_init 20 = .ok (.aload_n 0, 1) := by decide +kernel
theorem diX0_21 : decode cX0_init 21 = .ok (.bipush 10, 2) := by decide +kernel
theorem diX0_23 : decode cX0_init 23 = .ok (.newarray .int, 2) := by decide +kernel
theorem diX0_25 : decode cX0_init 25 = .ok (.putfield 19, 3) := by decide +kernel
theorem diX0_28 : decode cX0_init 28 = .ok (.aload_n 0, 1) := by decide +kernel
theorem diX0_29 : decode cX0_init 29 = .ok (.bipush 10, 2) := by decide +kernel
theorem diX0_31 : decode cX0_init 31 = .ok (.newarray .int, 2) := by decide +kernel
theorem diX0_33 : decode cX0_init 33 = .ok (.putfield 22, 3) := by decide +kernel
theorem diX0_36 : decode cX0_init 36 = .ok (.aload_n 0, 1) := by decide +kernel
theorem diX0_37 : decode cX0_init 37 = .ok (.bipush 10, 2) := by decide +kernel
theorem diX0_39 : decode cX0_init 39 = .ok (.newarray .int, 2) := by decide +kernel
theorem diX0_41 : decode cX0_init 41 = .ok (.putfield 25, 3) := by decide +kernel
theorem diX0_44 : decode cX0_init 44 = .ok (.aload_n 0, 1) := by decide +kernel
theorem diX0_45 : decode cX0_init 45 = .ok (.bipush 10, 2) := by decide +kernel
theorem diX0_47 : decode cX0_init 47 = .ok (.newarray .int, 2) := by decide +kernel
theorem diX0_49 : decode cX0_init 49 = .ok (.putfield 28, 3) := by decide +kernel
theorem diX0_52 : decode cX0_init 52 = .ok (.aload_n 0, 1) := by decide +kernel
theorem diX0_53 : decode cX0_init 53 = .ok (.bipush 10, 2) := by decide +kernel
theorem diX0_55 : decode cX0_init 55 = .ok (.newarray .int, 2) := by decide +kernel
theorem diX0_57 : decode cX0_init 57 = .ok (.putfield 31, 3) := by decide +kernel
theorem diX0_60 : decode cX0_init 60 = .ok (.aload_n 0, 1) := by decide +kernel
theorem diX0_61 : decode cX0_init 61 = .ok (.bipush 100, 2) := by decide +kernel
theorem diX0_63 : decode cX0_init 63 = .ok (.newarray .int, 2) := by decide +kernel
theorem diX0_65 : decode cX0_init 65 = .ok (.putfield 34, 3) := by decide +kernel
theorem diX0_68 : decode cX0_init 68 = .ok (.aload_n 0, 1) := by decide +kernel
theorem diX0_69 : decode cX0_init 69 = .ok (.iconst 0, 1) := by decide +kernel
theorem diX0_70 : decode cX0_init 70 = .ok (.putfield 37, 3) := by decide +kernel
theorem diX0_73 : decode cX0_init 73 = .ok (.aload_n 0, 1) := by decide +kernel
theorem diX0_74 : decode cX0_init 74 = .ok (.iconst 0, 1) := by decide +kernel
theorem diX0_75 : decode cX0_init 75 = .ok (.putfield 41, 3) := by decide +kernel
theorem diX0_78 : decode cX0_init 78 = .ok (.return_, 1) := by decide +kernel
abbrev cX1_init : ByteArray := prog_3_method_1_code
def yX1_init : MethodName := ⟨RX1, "<init>", "()V"⟩
set_option maxRecDepth 100000 in
theorem cow_iX1 : lw_tbl[133]? = some (Cond.code yX1_init cX1_init 1 none) := rfl
theorem diX1_0 : decode cX1_init 0 = .ok (.aload_n 0, 1) := by decide +kernel
theorem diX1_1 : decode cX1_init 1 = .ok (.invokespecial 3, 3) := by decide +kernel
theorem diX1_4 : decode cX1_init 4 = .ok (.aload_n 0, 1) := by decide +kernel
theorem diX1_5 : decode cX1_init 5 = .ok (.bipush 12, 2) := by decide +kernel
theorem diX1_7 : decode cX1_init 7 = .ok (.newarray .int, 2) := by decide +kernel
theorem diX1_9 : decode cX1_init 9 = .ok (.putfield 9, 3) := by decide +kernel
theorem diX1_12 : decode cX1_init 12 = .ok (.aload_n 0, 1) := by decide +kernel
theorem diX1_13 : decode cX1_init 13 = .ok (.bipush 12, 2) := by decide +kernel
theorem diX1_15 : decode cX1_init 15 = .ok (.newarray .int, 2) := by decide +kernel
theorem diX1_17 : decode cX1_init 17 = .ok (.putfield 15, 3) := by decide +kernel
theorem diX1_20 : decode cX1_init 20 = .ok (.aload_n 0, 1) := by decide +kernel
theorem diX1_21 : decode cX1_init 21 = .ok (.bipush 12, 2) := by decide +kernel
theorem diX1_23 : decode cX1_init 23 = .ok (.newarray .int, 2) := by decide +kernel
theorem diX1_25 : decode cX1_init 25 = .ok (.putfield 18, 3) := by decide +kernel
theorem diX1_28 : decode cX1_init 28 = .ok (.aload_n 0, 1) := by decide +kernel
theorem diX1_29 : decode cX1_init 29 = .ok (.bipush 12, 2) := by decide +kernel
theorem diX1_31 : decode cX1_init 31 = .ok (.newarray .int, 2) := by decide +kernel
theorem diX1_33 : decode cX1_init 33 = .ok (.putfield 21, 3) := by decide +kernel
theorem diX1_36 : decode cX1_init 36 = .ok (.aload_n 0, 1) := by decide +kernel
theorem diX1_37 : decode cX1_init 37 = .ok (.bipush 12, 2) := by decide +kernel
theorem diX1_39 : decode cX1_init 39 = .ok (.newarray .int, 2) := by decide +kernel
theorem diX1_41 : decode cX1_init 41 = .ok (.putfield 24, 3) := by decide +kernel
theorem diX1_44 : decode cX1_init 44 = .ok (.aload_n 0, 1) := by decide +kernel
theorem diX1_45 : decode cX1_init 45 = .ok (.bipush 12, 2) := by decide +kernel
theorem diX1_47 : decode cX1_init 47 = .ok (.newarray .int, 2) := by decide +kernel
theorem diX1_49 : decode cX1_init 49 = .ok (.putfield 27, 3) := by decide +kernel
theorem diX1_52 : decode cX1_init 52 = .ok (.aload_n 0, 1) := by decide +kernel
theorem diX1_53 : decode cX1_init 53 = .ok (.bipush 12, 2) := by decide +kernel
theorem diX1_55 : decode cX1_init 55 = .ok (.newarray .int, 2) := by decide +kernel
theorem diX1_57 : decode cX1_init 57 = .ok (.putfield 30, 3) := by decide +kernel
theorem diX1_60 : decode cX1_init 60 = .ok (.aload_n 0, 1) := by decide +kernel
theorem diX1_61 : decode cX1_init 61 = .ok (.sipush 1200, 3) := by decide +kernel
theorem diX1_64 : decode cX1_init 64 = .ok (.newarray .int, 2) := by decide +kernel
theorem diX1_66 : decode cX1_init 66 = .ok (.putfield 33, 3) := by decide +kernel
theorem diX1_69 : decode cX1_init 69 = .ok (.aload_n 0, 1) := by decide +kernel
theorem diX1_70 : decode cX1_init 70 = .ok (.iconst 0, 1) := by decide +kernel
theorem diX1_71 : decode cX1_init 71 = .ok (.putfield 36, 3) := by decide +kernel
theorem diX1_74 : decode cX1_init 74 = .ok (.return_, 1) := by decide +kernel
abbrev cX2_init : ByteArray := prog_4_method_1_code
def yX2_init : MethodName := ⟨RX2, "<init>", "()V"⟩
set_option maxRecDepth 100000 in
theorem cow_iX2 : lw_tbl[293]? = some (Cond.code yX2_init cX2_init 1 none) := rfl
theorem diX2_0 : decode cX2_init 0 = .ok (.aload_n 0, 1) := by decide +kernel
theorem diX2_1 : decode cX2_init 1 = .ok (.invokespecial 5, 3) := by decide +kernel
theorem diX2_4 : decode cX2_init 4 = .ok (.aload_n 0, 1) := by decide +kernel
theorem diX2_5 : decode cX2_init 5 = .ok (.bipush 101, 2) := by decide +kernel
theorem diX2_7 : decode cX2_init 7 = .ok (.newarray .int, 2) := by decide +kernel
theorem diX2_9 : decode cX2_init 9 = .ok (.putfield 11, 3) := by decide +kernel
theorem diX2_12 : decode cX2_init 12 = .ok (.aload_n 0, 1) := by decide +kernel
theorem diX2_13 : decode cX2_init 13 = .ok (.bipush 10, 2) := by decide +kernel
theorem diX2_15 : decode cX2_init 15 = .ok (.newarray .int, 2) := by decide +kernel
theorem diX2_17 : decode cX2_init 17 = .ok (.putfield 15, 3) := by decide +kernel
theorem diX2_20 : decode cX2_init 20 = .ok (.aload_n 0, 1) := by decide +kernel
theorem diX2_21 : decode cX2_init 21 = .ok (.sipush 1010, 3) := by decide +kernel
theorem diX2_24 : decode cX2_init 24 = .ok (.newarray .int, 2) := by decide +kernel
theorem diX2_26 : decode cX2_init 26 = .ok (.putfield 18, 3) := by decide +kernel
theorem diX2_29 : decode cX2_init 29 = .ok (.aload_n 0, 1) := by decide +kernel
theorem diX2_30 : decode cX2_init 30 = .ok (.sipush 1200, 3) := by decide +kernel
theorem diX2_33 : decode cX2_init 33 = .ok (.newarray .int, 2) := by decide +kernel
theorem diX2_35 : decode cX2_init 35 = .ok (.putfield 21, 3) := by decide +kernel
theorem diX2_38 : decode cX2_init 38 = .ok (.aload_n 0, 1) := by decide +kernel
theorem diX2_39 : decode cX2_init 39 = .ok (.sipush 1010, 3) := by decide +kernel
theorem diX2_42 : decode cX2_init 42 = .ok (.newarray .int, 2) := by decide +kernel
theorem diX2_44 : decode cX2_init 44 = .ok (.putfield 24, 3) := by decide +kernel
theorem diX2_47 : decode cX2_init 47 = .ok (.aload_n 0, 1) := by decide +kernel
theorem diX2_48 : decode cX2_init 48 = .ok (.sipush 1010, 3) := by decide +kernel
theorem diX2_51 : decode cX2_init 51 = .ok (.newarray .int, 2) := by decide +kernel
theorem diX2_53 : decode cX2_init 53 = .ok (.putfield 27, 3) := by decide +kernel
theorem diX2_56 : decode cX2_init 56 = .ok (.aload_n 0, 1) := by decide +kernel
theorem diX2_57 : decode cX2_init 57 = .ok (.sipush 1010, 3) := by decide +kernel
theorem diX2_60 : decode cX2_init 60 = .ok (.newarray .int, 2) := by decide +kernel
theorem diX2_62 : decode cX2_init 62 = .ok (.putfield 30, 3) := by decide +kernel
theorem diX2_65 : decode cX2_init 65 = .ok (.aload_n 0, 1) := by decide +kernel
theorem diX2_66 : decode cX2_init 66 = .ok (.sipush 1010, 3) := by decide +kernel
theorem diX2_69 : decode cX2_init 69 = .ok (.newarray .int, 2) := by decide +kernel
theorem diX2_71 : decode cX2_init 71 = .ok (.putfield 33, 3) := by decide +kernel
theorem diX2_74 : decode cX2_init 74 = .ok (.aload_n 0, 1) := by decide +kernel
theorem diX2_75 : decode cX2_init 75 = .ok (.sipush 1200, 3) := by decide +kernel
theorem diX2_78 : decode cX2_init 78 = .ok (.newarray .int, 2) := by decide +kernel
theorem diX2_80 : decode cX2_init 80 = .ok (.putfield 36, 3) := by decide +kernel
theorem diX2_83 : decode cX2_init 83 = .ok (.aload_n 0, 1) := by decide +kernel
theorem diX2_84 : decode cX2_init 84 = .ok (.iconst 0, 1) := by decide +kernel
theorem diX2_85 : decode cX2_init 85 = .ok (.putfield 39, 3) := by decide +kernel
theorem diX2_88 : decode cX2_init 88 = .ok (.aload_n 0, 1) := by decide +kernel
theorem diX2_89 : decode cX2_init 89 = .ok (.iconst 0, 1) := by decide +kernel
theorem diX2_90 : decode cX2_init 90 = .ok (.putfield 43, 3) := by decide +kernel
theorem diX2_93 : decode cX2_init 93 = .ok (.aload_n 0, 1) := by decide +kernel
theorem diX2_94 : decode cX2_init 94 = .ok (.iconst 0, 1) := by decide +kernel
theorem diX2_95 : decode cX2_init 95 = .ok (.putfield 46, 3) := by decide +kernel
theorem diX2_98 : decode cX2_init 98 = .ok (.aload_n 0, 1) := by decide +kernel
theorem diX2_99 : decode cX2_init 99 = .ok (.iconst 0, 1) := by decide +kernel
theorem diX2_100 : decode cX2_init 100 = .ok (.putfield 49, 3) := by decide +kernel
theorem diX2_103 : decode cX2_init 103 = .ok (.aload_n 0, 1) := by decide +kernel
theorem diX2_104 : decode cX2_init 104 = .ok (.iconst 0, 1) := by decide +kernel
theorem diX2_105 : decode cX2_init 105 = .ok (.putfield 52, 3) := by decide +kernel
theorem diX2_108 : decode cX2_init 108 = .ok (.aload_n 0, 1) := by decide +kernel
theorem diX2_109 : decode cX2_init 109 = .ok (.iconst (-1), 1) := by decide +kernel
theorem diX2_110 : decode cX2_init 110 = .ok (.putfield 55, 3) := by decide +kernel
theorem diX2_113 : decode cX2_init 113 = .ok (.aload_n 0, 1) := by decide +kernel
theorem diX2_114 : decode cX2_init 114 = .ok (.iconst (-1), 1) := by decide +kernel
theorem diX2_115 : decode cX2_init 115 = .ok (.putfield 58, 3) := by decide +kernel
theorem diX2_118 : decode cX2_init 118 = .ok (.aload_n 0, 1) := by decide +kernel
theorem diX2_119 : decode cX2_init 119 = .ok (.iconst 0, 1) := by decide +kernel
theorem diX2_120 : decode cX2_init 120 = .ok (.putfield 61, 3) := by decide +kernel
theorem diX2_123 : decode cX2_init 123 = .ok (.aload_n 0, 1) := by decide +kernel
theorem diX2_124 : decode cX2_init 124 = .ok (.iconst 0, 1) := by decide +kernel
theorem diX2_125 : decode cX2_init 125 = .ok (.putfield 64, 3) := by decide +kernel
theorem diX2_128 : decode cX2_init 128 = .ok (.return_, 1) := by decide +kernel
abbrev cX3_init : ByteArray := prog_5_method_1_code
def yX3_init : MethodName := ⟨RX3, "<init>", "()V"⟩
set_option maxRecDepth 100000 in
theorem cow_iX3 : lw_tbl[242]? = some (Cond.code yX3_init cX3_init 1 none) := rfl
theorem diX3_0 : decode cX3_init 0 = .ok (.aload_n 0, 1) := by decide +kernel
theorem diX3_1 : decode cX3_init 1 = .ok (.invokespecial 3, 3) := by decide +kernel
theorem diX3_4 : decode cX3_init 4 = .ok (.aload_n 0, 1) := by decide +kernel
theorem diX3_5 : decode cX3_init 5 = .ok (.bipush 10, 2) := by decide +kernel
theorem diX3_7 : decode cX3_init 7 = .ok (.newarray .int, 2) := by decide +kernel
theorem diX3_9 : decode cX3_init 9 = .ok (.putfield 9, 3) := by decide +kernel
theorem diX3_12 : decode cX3_init 12 = .ok (.aload_n 0, 1) := by decide +kernel
theorem diX3_13 : decode cX3_init 13 = .ok (.bipush 12, 2) := by decide +kernel
theorem diX3_15 : decode cX3_init 15 = .ok (.newarray .int, 2) := by decide +kernel
theorem diX3_17 : decode cX3_init 17 = .ok (.putfield 15, 3) := by decide +kernel
theorem diX3_20 : decode cX3_init 20 = .ok (.aload_n 0, 1) := by decide +kernel
theorem diX3_21 : decode cX3_init 21 = .ok (.iconst 0, 1) := by decide +kernel
theorem diX3_22 : decode cX3_init 22 = .ok (.putfield 18, 3) := by decide +kernel
theorem diX3_25 : decode cX3_init 25 = .ok (.aload_n 0, 1) := by decide +kernel
theorem diX3_26 : decode cX3_init 26 = .ok (.iconst 0, 1) := by decide +kernel
theorem diX3_27 : decode cX3_init 27 = .ok (.putfield 22, 3) := by decide +kernel
theorem diX3_30 : decode cX3_init 30 = .ok (.aload_n 0, 1) := by decide +kernel
theorem diX3_31 : decode cX3_init 31 = .ok (.iconst 0, 1) := by decide +kernel
theorem diX3_32 : decode cX3_init 32 = .ok (.putfield 25, 3) := by decide +kernel
theorem diX3_35 : decode cX3_init 35 = .ok (.aload_n 0, 1) := by decide +kernel
theorem diX3_36 : decode cX3_init 36 = .ok (.iconst 0, 1) := by decide +kernel
theorem diX3_37 : decode cX3_init 37 = .ok (.putfield 28, 3) := by decide +kernel
theorem diX3_40 : decode cX3_init 40 = .ok (.return_, 1) := by decide +kernel
abbrev cX4_init : ByteArray := prog_6_method_1_code
def yX4_init : MethodName := ⟨RX4, "<init>", "()V"⟩
set_option maxRecDepth 100000 in
theorem cow_iX4 : lw_tbl[275]? = some (Cond.code yX4_init cX4_init 1 none) := rfl
theorem diX4_0 : decode cX4_init 0 = .ok (.aload_n 0, 1) := by decide +kernel
theorem diX4_1 : decode cX4_init 1 = .ok (.invokespecial 3, 3) := by decide +kernel
theorem diX4_4 : decode cX4_init 4 = .ok (.aload_n 0, 1) := by decide +kernel
theorem diX4_5 : decode cX4_init 5 = .ok (.new 9, 3) := by decide +kernel
theorem diX4_8 : decode cX4_init 8 = .ok (.dup, 1) := by decide +kernel
theorem diX4_9 : decode cX4_init 9 = .ok (.invokespecial 11, 3) := by decide +kernel
theorem diX4_12 : decode cX4_init 12 = .ok (.putfield 12, 3) := by decide +kernel
theorem diX4_15 : decode cX4_init 15 = .ok (.aload_n 0, 1) := by decide +kernel
theorem diX4_16 : decode cX4_init 16 = .ok (.sipush 1010, 3) := by decide +kernel
theorem diX4_19 : decode cX4_init 19 = .ok (.newarray .int, 2) := by decide +kernel
theorem diX4_21 : decode cX4_init 21 = .ok (.putfield 18, 3) := by decide +kernel
theorem diX4_24 : decode cX4_init 24 = .ok (.aload_n 0, 1) := by decide +kernel
theorem diX4_25 : decode cX4_init 25 = .ok (.iconst 0, 1) := by decide +kernel
theorem diX4_26 : decode cX4_init 26 = .ok (.putfield 22, 3) := by decide +kernel
theorem diX4_29 : decode cX4_init 29 = .ok (.return_, 1) := by decide +kernel
abbrev cX5_init : ByteArray := prog_7_method_1_code
def yX5_init : MethodName := ⟨RX5, "<init>", "()V"⟩
set_option maxRecDepth 100000 in
theorem cow_iX5 : lw_tbl[223]? = some (Cond.code yX5_init cX5_init 1 none) := rfl
theorem diX5_0 : decode cX5_init 0 = .ok (.aload_n 0, 1) := by decide +kernel
theorem diX5_1 : decode cX5_init 1 = .ok (.invokespecial 3, 3) := by decide +kernel
theorem diX5_4 : decode cX5_init 4 = .ok (.aload_n 0, 1) := by decide +kernel
theorem diX5_5 : decode cX5_init 5 = .ok (.bipush 100, 2) := by decide +kernel
theorem diX5_7 : decode cX5_init 7 = .ok (.newarray .int, 2) := by decide +kernel
theorem diX5_9 : decode cX5_init 9 = .ok (.putfield 9, 3) := by decide +kernel
theorem diX5_12 : decode cX5_init 12 = .ok (.aload_n 0, 1) := by decide +kernel
theorem diX5_13 : decode cX5_init 13 = .ok (.bipush 100, 2) := by decide +kernel
theorem diX5_15 : decode cX5_init 15 = .ok (.newarray .int, 2) := by decide +kernel
theorem diX5_17 : decode cX5_init 17 = .ok (.putfield 15, 3) := by decide +kernel
theorem diX5_20 : decode cX5_init 20 = .ok (.aload_n 0, 1) := by decide +kernel
theorem diX5_21 : decode cX5_init 21 = .ok (.bipush 100, 2) := by decide +kernel
theorem diX5_23 : decode cX5_init 23 = .ok (.newarray .int, 2) := by decide +kernel
theorem diX5_25 : decode cX5_init 25 = .ok (.putfield 18, 3) := by decide +kernel
theorem diX5_28 : decode cX5_init 28 = .ok (.aload_n 0, 1) := by decide +kernel
theorem diX5_29 : decode cX5_init 29 = .ok (.iconst 0, 1) := by decide +kernel
theorem diX5_30 : decode cX5_init 30 = .ok (.putfield 21, 3) := by decide +kernel
theorem diX5_33 : decode cX5_init 33 = .ok (.return_, 1) := by decide +kernel
abbrev cX6_init : ByteArray := prog_8_method_1_code
def yX6_init : MethodName := ⟨RX6, "<init>", "()V"⟩
set_option maxRecDepth 100000 in
theorem cow_iX6 : lw_tbl[179]? = some (Cond.code yX6_init cX6_init 1 none) := rfl
theorem diX6_0 : decode cX6_init 0 = .ok (.aload_n 0, 1) := by decide +kernel
theorem diX6_1 : decode cX6_init 1 = .ok (.invokespecial 3, 3) := by decide +kernel
theorem diX6_4 : decode cX6_init 4 = .ok (.aload_n 0, 1) := by decide +kernel
theorem diX6_5 : decode cX6_init 5 = .ok (.bipush 12, 2) := by decide +kernel
theorem diX6_7 : decode cX6_init 7 = .ok (.newarray .int, 2) := by decide +kernel
theorem diX6_9 : decode cX6_init 9 = .ok (.putfield 9, 3) := by decide +kernel
theorem diX6_12 : decode cX6_init 12 = .ok (.aload_n 0, 1) := by decide +kernel
theorem diX6_13 : decode cX6_init 13 = .ok (.bipush 12, 2) := by decide +kernel
theorem diX6_15 : decode cX6_init 15 = .ok (.newarray .int, 2) := by decide +kernel
theorem diX6_17 : decode cX6_init 17 = .ok (.putfield 15, 3) := by decide +kernel
theorem diX6_20 : decode cX6_init 20 = .ok (.aload_n 0, 1) := by decide +kernel
theorem diX6_21 : decode cX6_init 21 = .ok (.bipush 12, 2) := by decide +kernel
theorem diX6_23 : decode cX6_init 23 = .ok (.newarray .int, 2) := by decide +kernel
theorem diX6_25 : decode cX6_init 25 = .ok (.putfield 18, 3) := by decide +kernel
theorem diX6_28 : decode cX6_init 28 = .ok (.aload_n 0, 1) := by decide +kernel
theorem diX6_29 : decode cX6_init 29 = .ok (.bipush 12, 2) := by decide +kernel
theorem diX6_31 : decode cX6_init 31 = .ok (.newarray .int, 2) := by decide +kernel
theorem diX6_33 : decode cX6_init 33 = .ok (.putfield 21, 3) := by decide +kernel
theorem diX6_36 : decode cX6_init 36 = .ok (.aload_n 0, 1) := by decide +kernel
theorem diX6_37 : decode cX6_init 37 = .ok (.bipush 120, 2) := by decide +kernel
theorem diX6_39 : decode cX6_init 39 = .ok (.newarray .int, 2) := by decide +kernel
theorem diX6_41 : decode cX6_init 41 = .ok (.putfield 24, 3) := by decide +kernel
theorem diX6_44 : decode cX6_init 44 = .ok (.aload_n 0, 1) := by decide +kernel
theorem diX6_45 : decode cX6_init 45 = .ok (.bipush 10, 2) := by decide +kernel
theorem diX6_47 : decode cX6_init 47 = .ok (.newarray .int, 2) := by decide +kernel
theorem diX6_49 : decode cX6_init 49 = .ok (.putfield 27, 3) := by decide +kernel
theorem diX6_52 : decode cX6_init 52 = .ok (.aload_n 0, 1) := by decide +kernel
theorem diX6_53 : decode cX6_init 53 = .ok (.bipush 120, 2) := by decide +kernel
theorem diX6_55 : decode cX6_init 55 = .ok (.newarray .int, 2) := by decide +kernel
theorem diX6_57 : decode cX6_init 57 = .ok (.putfield 30, 3) := by decide +kernel
theorem diX6_60 : decode cX6_init 60 = .ok (.aload_n 0, 1) := by decide +kernel
theorem diX6_61 : decode cX6_init 61 = .ok (.bipush 10, 2) := by decide +kernel
theorem diX6_63 : decode cX6_init 63 = .ok (.newarray .int, 2) := by decide +kernel
theorem diX6_65 : decode cX6_init 65 = .ok (.putfield 33, 3) := by decide +kernel
theorem diX6_68 : decode cX6_init 68 = .ok (.aload_n 0, 1) := by decide +kernel
theorem diX6_69 : decode cX6_init 69 = .ok (.iconst 0, 1) := by decide +kernel
theorem diX6_70 : decode cX6_init 70 = .ok (.putfield 36, 3) := by decide +kernel
theorem diX6_73 : decode cX6_init 73 = .ok (.return_, 1) := by decide +kernel
abbrev cX7_init : ByteArray := prog_1_method_1_code
def yX7_init : MethodName := ⟨RX7, "<init>", "()V"⟩
set_option maxRecDepth 100000 in
theorem cow_iX7 : lw_tbl[66]? = some (Cond.code yX7_init cX7_init 1 none) := rfl
theorem diX7_0 : decode cX7_init 0 = .ok (.aload_n 0, 1) := by decide +kernel
theorem diX7_1 : decode cX7_init 1 = .ok (.invokespecial 1, 3) := by decide +kernel
theorem diX7_4 : decode cX7_init 4 = .ok (.aload_n 0, 1) := by decide +kernel
theorem diX7_5 : decode cX7_init 5 = .ok (.new 7, 3) := by decide +kernel
theorem diX7_8 : decode cX7_init 8 = .ok (.dup, 1) := by decide +kernel
theorem diX7_9 : decode cX7_init 9 = .ok (.invokespecial 9, 3) := by decide +kernel
theorem diX7_12 : decode cX7_init 12 = .ok (.putfield 10, 3) := by decide +kernel
theorem diX7_15 : decode cX7_init 15 = .ok (.aload_n 0, 1) := by decide +kernel
theorem diX7_16 : decode cX7_init 16 = .ok (.new 16, 3) := by decide +kernel
theorem diX7_19 : decode cX7_init 19 = .ok (.dup, 1) := by decide +kernel
theorem diX7_20 : decode cX7_init 20 = .ok (.invokespecial 18, 3) := by decide +kernel
theorem diX7_23 : decode cX7_init 23 = .ok (.putfield 19, 3) := by decide +kernel
theorem diX7_26 : decode cX7_init 26 = .ok (.aload_n 0, 1) := by decide +kernel
theorem diX7_27 : decode cX7_init 27 = .ok (.new 23, 3) := by decide +kernel
theorem diX7_30 : decode cX7_init 30 = .ok (.dup, 1) := by decide +kernel
theorem diX7_31 : decode cX7_init 31 = .ok (.invokespecial 25, 3) := by decide +kernel
theorem diX7_34 : decode cX7_init 34 = .ok (.putfield 26, 3) := by decide +kernel
theorem diX7_37 : decode cX7_init 37 = .ok (.aload_n 0, 1) := by decide +kernel
theorem diX7_38 : decode cX7_init 38 = .ok (.new 30, 3) := by decide +kernel
theorem diX7_41 : decode cX7_init 41 = .ok (.dup, 1) := by decide +kernel
theorem diX7_42 : decode cX7_init 42 = .ok (.invokespecial 32, 3) := by decide +kernel
theorem diX7_45 : decode cX7_init 45 = .ok (.putfield 33, 3) := by decide +kernel
theorem diX7_48 : decode cX7_init 48 = .ok (.aload_n 0, 1) := by decide +kernel
theorem diX7_49 : decode cX7_init 49 = .ok (.new 37, 3) := by decide +kernel
theorem diX7_52 : decode cX7_init 52 = .ok (.dup, 1) := by decide +kernel
theorem diX7_53 : decode cX7_init 53 = .ok (.invokespecial 39, 3) := by decide +kernel
theorem diX7_56 : decode cX7_init 56 = .ok (.putfield 40, 3) := by decide +kernel
theorem diX7_59 : decode cX7_init 59 = .ok (.aload_n 0, 1) := by decide +kernel
theorem diX7_60 : decode cX7_init 60 = .ok (.new 44, 3) := by decide +kernel
theorem diX7_63 : decode cX7_init 63 = .ok (.dup, 1) := by decide +kernel
theorem diX7_64 : decode cX7_init 64 = .ok (.invokespecial 46, 3) := by decide +kernel
theorem diX7_67 : decode cX7_init 67 = .ok (.putfield 47, 3) := by decide +kernel
theorem diX7_70 : decode cX7_init 70 = .ok (.aload_n 0, 1) := by decide +kernel
theorem diX7_71 : decode cX7_init 71 = .ok (.new 51, 3) := by decide +kernel
theorem diX7_74 : decode cX7_init 74 = .ok (.dup, 1) := by decide +kernel
theorem diX7_75 : decode cX7_init 75 = .ok (.invokespecial 53, 3) := by decide +kernel
theorem diX7_78 : decode cX7_init 78 = .ok (.putfield 54, 3) := by decide +kernel
theorem diX7_81 : decode cX7_init 81 = .ok (.aload_n 0, 1) := by decide +kernel
theorem diX7_82 : decode cX7_init 82 = .ok (.iconst 0, 1) := by decide +kernel
theorem diX7_83 : decode cX7_init 83 = .ok (.putfield 58, 3) := by decide +kernel
theorem diX7_86 : decode cX7_init 86 = .ok (.return_, 1) := by decide +kernel
abbrev cX8_init : ByteArray := prog_10_method_1_code
def yX8_init : MethodName := ⟨RX8, "<init>", "()V"⟩
set_option maxRecDepth 100000 in
theorem cow_iX8 : lw_tbl[749]? = some (Cond.code yX8_init cX8_init 1 none) := rfl
theorem diX8_0 : decode cX8_init 0 = .ok (.aload_n 0, 1) := by decide +kernel
theorem diX8_1 : decode cX8_init 1 = .ok (.invokespecial 1, 3) := by decide +kernel
theorem diX8_4 : decode cX8_init 4 = .ok (.aload_n 0, 1) := by decide +kernel
theorem diX8_5 : decode cX8_init 5 = .ok (.bipush 10, 2) := by decide +kernel
theorem diX8_7 : decode cX8_init 7 = .ok (.newarray .boolean, 2) := by decide +kernel
theorem diX8_9 : decode cX8_init 9 = .ok (.putfield 9, 3) := by decide +kernel
theorem diX8_12 : decode cX8_init 12 = .ok (.aload_n 0, 1) := by decide +kernel
theorem diX8_13 : decode cX8_init 13 = .ok (.bipush 10, 2) := by decide +kernel
theorem diX8_15 : decode cX8_init 15 = .ok (.newarray .int, 2) := by decide +kernel
theorem diX8_17 : decode cX8_init 17 = .ok (.putfield 13, 3) := by decide +kernel
theorem diX8_20 : decode cX8_init 20 = .ok (.aload_n 0, 1) := by decide +kernel
theorem diX8_21 : decode cX8_init 21 = .ok (.bipush 10, 2) := by decide +kernel
theorem diX8_23 : decode cX8_init 23 = .ok (.newarray .int, 2) := by decide +kernel
theorem diX8_25 : decode cX8_init 25 = .ok (.putfield 17, 3) := by decide +kernel
theorem diX8_28 : decode cX8_init 28 = .ok (.aload_n 0, 1) := by decide +kernel
theorem diX8_29 : decode cX8_init 29 = .ok (.bipush 10, 2) := by decide +kernel
theorem diX8_31 : decode cX8_init 31 = .ok (.newarray .int, 2) := by decide +kernel
theorem diX8_33 : decode cX8_init 33 = .ok (.putfield 20, 3) := by decide +kernel
theorem diX8_36 : decode cX8_init 36 = .ok (.aload_n 0, 1) := by decide +kernel
theorem diX8_37 : decode cX8_init 37 = .ok (.bipush 10, 2) := by decide +kernel
theorem diX8_39 : decode cX8_init 39 = .ok (.newarray .int, 2) := by decide +kernel
theorem diX8_41 : decode cX8_init 41 = .ok (.putfield 23, 3) := by decide +kernel
theorem diX8_44 : decode cX8_init 44 = .ok (.aload_n 0, 1) := by decide +kernel
theorem diX8_45 : decode cX8_init 45 = .ok (.bipush 10, 2) := by decide +kernel
theorem diX8_47 : decode cX8_init 47 = .ok (.newarray .int, 2) := by decide +kernel
theorem diX8_49 : decode cX8_init 49 = .ok (.putfield 26, 3) := by decide +kernel
theorem diX8_52 : decode cX8_init 52 = .ok (.aload_n 0, 1) := by decide +kernel
theorem diX8_53 : decode cX8_init 53 = .ok (.bipush 100, 2) := by decide +kernel
theorem diX8_55 : decode cX8_init 55 = .ok (.newarray .int, 2) := by decide +kernel
theorem diX8_57 : decode cX8_init 57 = .ok (.putfield 29, 3) := by decide +kernel
theorem diX8_60 : decode cX8_init 60 = .ok (.aload_n 0, 1) := by decide +kernel
theorem diX8_61 : decode cX8_init 61 = .ok (.bipush 12, 2) := by decide +kernel
theorem diX8_63 : decode cX8_init 63 = .ok (.newarray .int, 2) := by decide +kernel
theorem diX8_65 : decode cX8_init 65 = .ok (.putfield 32, 3) := by decide +kernel
theorem diX8_68 : decode cX8_init 68 = .ok (.aload_n 0, 1) := by decide +kernel
theorem diX8_69 : decode cX8_init 69 = .ok (.bipush 12, 2) := by decide +kernel
theorem diX8_71 : decode cX8_init 71 = .ok (.newarray .int, 2) := by decide +kernel
theorem diX8_73 : decode cX8_init 73 = .ok (.putfield 35, 3) := by decide +kernel
theorem diX8_76 : decode cX8_init 76 = .ok (.aload_n 0, 1) := by decide +kernel
theorem diX8_77 : decode cX8_init 77 = .ok (.bipush 12, 2) := by decide +kernel
theorem diX8_79 : decode cX8_init 79 = .ok (.newarray .int, 2) := by decide +kernel
theorem diX8_81 : decode cX8_init 81 = .ok (.putfield 38, 3) := by decide +kernel
theorem diX8_84 : decode cX8_init 84 = .ok (.aload_n 0, 1) := by decide +kernel
theorem diX8_85 : decode cX8_init 85 = .ok (.bipush 12, 2) := by decide +kernel
theorem diX8_87 : decode cX8_init 87 = .ok (.newarray .int, 2) := by decide +kernel
theorem diX8_89 : decode cX8_init 89 = .ok (.putfield 41, 3) := by decide +kernel
theorem diX8_92 : decode cX8_init 92 = .ok (.aload_n 0, 1) := by decide +kernel
theorem diX8_93 : decode cX8_init 93 = .ok (.bipush 12, 2) := by decide +kernel
theorem diX8_95 : decode cX8_init 95 = .ok (.newarray .int, 2) := by decide +kernel
theorem diX8_97 : decode cX8_init 97 = .ok (.putfield 44, 3) := by decide +kernel
theorem diX8_100 : decode cX8_init 100 = .ok (.aload_n 0, 1) := by decide +kernel
theorem diX8_101 : decode cX8_init 101 = .ok (.bipush 12, 2) := by decide +kernel
theorem diX8_103 : decode cX8_init 103 = .ok (.newarray .int, 2) := by decide +kernel
theorem diX8_105 : decode cX8_init 105 = .ok (.putfield 47, 3) := by decide +kernel
theorem diX8_108 : decode cX8_init 108 = .ok (.aload_n 0, 1) := by decide +kernel
theorem diX8_109 : decode cX8_init 109 = .ok (.bipush 12, 2) := by decide +kernel
theorem diX8_111 : decode cX8_init 111 = .ok (.newarray .int, 2) := by decide +kernel
theorem diX8_113 : decode cX8_init 113 = .ok (.putfield 50, 3) := by decide +kernel
theorem diX8_116 : decode cX8_init 116 = .ok (.aload_n 0, 1) := by decide +kernel
theorem diX8_117 : decode cX8_init 117 = .ok (.sipush 1212, 3) := by decide +kernel
theorem diX8_120 : decode cX8_init 120 = .ok (.newarray .int, 2) := by decide +kernel
theorem diX8_122 : decode cX8_init 122 = .ok (.putfield 53, 3) := by decide +kernel
theorem diX8_125 : decode cX8_init 125 = .ok (.aload_n 0, 1) := by decide +kernel
theorem diX8_126 : decode cX8_init 126 = .ok (.bipush 100, 2) := by decide +kernel
theorem diX8_128 : decode cX8_init 128 = .ok (.newarray .int, 2) := by decide +kernel
theorem diX8_130 : decode cX8_init 130 = .ok (.putfield 56, 3) := by decide +kernel
theorem diX8_133 : decode cX8_init 133 = .ok (.aload_n 0, 1) := by decide +kernel
theorem diX8_134 : decode cX8_init 134 = .ok (.bipush 100, 2) := by decide +kernel
theorem diX8_136 : decode cX8_init 136 = .ok (.newarray .int, 2) := by decide +kernel
theorem diX8_138 : decode cX8_init 138 = .ok (.putfield 59, 3) := by decide +kernel
theorem diX8_141 : decode cX8_init 141 = .ok (.aload_n 0, 1) := by decide +kernel
theorem diX8_142 : decode cX8_init 142 = .ok (.bipush 100, 2) := by decide +kernel
theorem diX8_144 : decode cX8_init 144 = .ok (.newarray .int, 2) := by decide +kernel
theorem diX8_146 : decode cX8_init 146 = .ok (.putfield 62, 3) := by decide +kernel
theorem diX8_149 : decode cX8_init 149 = .ok (.aload_n 0, 1) := by decide +kernel
theorem diX8_150 : decode cX8_init 150 = .ok (.bipush 12, 2) := by decide +kernel
theorem diX8_152 : decode cX8_init 152 = .ok (.newarray .int, 2) := by decide +kernel
theorem diX8_154 : decode cX8_init 154 = .ok (.putfield 65, 3) := by decide +kernel
theorem diX8_157 : decode cX8_init 157 = .ok (.aload_n 0, 1) := by decide +kernel
theorem diX8_158 : decode cX8_init 158 = .ok (.bipush 12, 2) := by decide +kernel
theorem diX8_160 : decode cX8_init 160 = .ok (.newarray .int, 2) := by decide +kernel
theorem diX8_162 : decode cX8_init 162 = .ok (.putfield 68, 3) := by decide +kernel
theorem diX8_165 : decode cX8_init 165 = .ok (.aload_n 0, 1) := by decide +kernel
theorem diX8_166 : decode cX8_init 166 = .ok (.bipush 12, 2) := by decide +kernel
theorem diX8_168 : decode cX8_init 168 = .ok (.newarray .int, 2) := by decide +kernel
theorem diX8_170 : decode cX8_init 170 = .ok (.putfield 71, 3) := by decide +kernel
theorem diX8_173 : decode cX8_init 173 = .ok (.aload_n 0, 1) := by decide +kernel
theorem diX8_174 : decode cX8_init 174 = .ok (.bipush 12, 2) := by decide +kernel
theorem diX8_176 : decode cX8_init 176 = .ok (.newarray .int, 2) := by decide +kernel
theorem diX8_178 : decode cX8_init 178 = .ok (.putfield 74, 3) := by decide +kernel
theorem diX8_181 : decode cX8_init 181 = .ok (.aload_n 0, 1) := by decide +kernel
theorem diX8_182 : decode cX8_init 182 = .ok (.bipush 20, 2) := by decide +kernel
theorem diX8_184 : decode cX8_init 184 = .ok (.newarray .int, 2) := by decide +kernel
theorem diX8_186 : decode cX8_init 186 = .ok (.putfield 77, 3) := by decide +kernel
theorem diX8_189 : decode cX8_init 189 = .ok (.aload_n 0, 1) := by decide +kernel
theorem diX8_190 : decode cX8_init 190 = .ok (.bipush 24, 2) := by decide +kernel
theorem diX8_192 : decode cX8_init 192 = .ok (.newarray .int, 2) := by decide +kernel
theorem diX8_194 : decode cX8_init 194 = .ok (.putfield 80, 3) := by decide +kernel
theorem diX8_197 : decode cX8_init 197 = .ok (.aload_n 0, 1) := by decide +kernel
theorem diX8_198 : decode cX8_init 198 = .ok (.iconst 2, 1) := by decide +kernel
theorem diX8_199 : decode cX8_init 199 = .ok (.newarray .int, 2) := by decide +kernel
theorem diX8_201 : decode cX8_init 201 = .ok (.putfield 83, 3) := by decide +kernel
theorem diX8_204 : decode cX8_init 204 = .ok (.aload_n 0, 1) := by decide +kernel
theorem diX8_205 : decode cX8_init 205 = .ok (.iconst 2, 1) := by decide +kernel
theorem diX8_206 : decode cX8_init 206 = .ok (.newarray .long, 2) := by decide +kernel
theorem diX8_208 : decode cX8_init 208 = .ok (.putfield 86, 3) := by decide +kernel
theorem diX8_211 : decode cX8_init 211 = .ok (.aload_n 0, 1) := by decide +kernel
theorem diX8_212 : decode cX8_init 212 = .ok (.iconst 2, 1) := by decide +kernel
theorem diX8_213 : decode cX8_init 213 = .ok (.newarray .long, 2) := by decide +kernel
theorem diX8_215 : decode cX8_init 215 = .ok (.putfield 90, 3) := by decide +kernel
theorem diX8_218 : decode cX8_init 218 = .ok (.aload_n 0, 1) := by decide +kernel
theorem diX8_219 : decode cX8_init 219 = .ok (.sipush 1010, 3) := by decide +kernel
theorem diX8_222 : decode cX8_init 222 = .ok (.newarray .int, 2) := by decide +kernel
theorem diX8_224 : decode cX8_init 224 = .ok (.putfield 93, 3) := by decide +kernel
theorem diX8_227 : decode cX8_init 227 = .ok (.aload_n 0, 1) := by decide +kernel
theorem diX8_228 : decode cX8_init 228 = .ok (.bipush 10, 2) := by decide +kernel
theorem diX8_230 : decode cX8_init 230 = .ok (.newarray .int, 2) := by decide +kernel
theorem diX8_232 : decode cX8_init 232 = .ok (.putfield 96, 3) := by decide +kernel
theorem diX8_235 : decode cX8_init 235 = .ok (.aload_n 0, 1) := by decide +kernel
theorem diX8_236 : decode cX8_init 236 = .ok (.sipush 1010, 3) := by decide +kernel
theorem diX8_239 : decode cX8_init 239 = .ok (.newarray .int, 2) := by decide +kernel
theorem diX8_241 : decode cX8_init 241 = .ok (.putfield 99, 3) := by decide +kernel
theorem diX8_244 : decode cX8_init 244 = .ok (.aload_n 0, 1) := by decide +kernel
theorem diX8_245 : decode cX8_init 245 = .ok (.sipush 1212, 3) := by decide +kernel
theorem diX8_248 : decode cX8_init 248 = .ok (.newarray .int, 2) := by decide +kernel
theorem diX8_250 : decode cX8_init 250 = .ok (.putfield 102, 3) := by decide +kernel
theorem diX8_253 : decode cX8_init 253 = .ok (.aload_n 0, 1) := by decide +kernel
theorem diX8_254 : decode cX8_init 254 = .ok (.sipush 1010, 3) := by decide +kernel
theorem diX8_257 : decode cX8_init 257 = .ok (.newarray .boolean, 2) := by decide +kernel
theorem diX8_259 : decode cX8_init 259 = .ok (.putfield 105, 3) := by decide +kernel
theorem diX8_262 : decode cX8_init 262 = .ok (.aload_n 0, 1) := by decide +kernel
theorem diX8_263 : decode cX8_init 263 = .ok (.sipush 1010, 3) := by decide +kernel
theorem diX8_266 : decode cX8_init 266 = .ok (.newarray .int, 2) := by decide +kernel
theorem diX8_268 : decode cX8_init 268 = .ok (.putfield 108, 3) := by decide +kernel
theorem diX8_271 : decode cX8_init 271 = .ok (.aload_n 0, 1) := by decide +kernel
theorem diX8_272 : decode cX8_init 272 = .ok (.sipush 1010, 3) := by decide +kernel
theorem diX8_275 : decode cX8_init 275 = .ok (.newarray .int, 2) := by decide +kernel
theorem diX8_277 : decode cX8_init 277 = .ok (.putfield 111, 3) := by decide +kernel
theorem diX8_280 : decode cX8_init 280 = .ok (.aload_n 0, 1) := by decide +kernel
theorem diX8_281 : decode cX8_init 281 = .ok (.sipush 1010, 3) := by decide +kernel
theorem diX8_284 : decode cX8_init 284 = .ok (.newarray .int, 2) := by decide +kernel
theorem diX8_286 : decode cX8_init 286 = .ok (.putfield 114, 3) := by decide +kernel
theorem diX8_289 : decode cX8_init 289 = .ok (.return_, 1) := by decide +kernel
set_option maxRecDepth 100000 in
theorem cow_obj : lw_tbl[69]? = some (Cond.code objectInit ⟨#[0xb1]⟩ 1 none) := rfl
def flC : List ((Nat × Nat × Nat) × Nat) := [((0, 15, 1), 79), ((0, 19, 2), 83), ((0, 22, 3), 86), ((0, 25, 4), 89), ((0, 28, 5), 92), ((0, 31, 6), 95), ((0, 34, 7), 97), ((0, 37, 8), 100), ((0, 41, 9), 104), ((0, 9, 0), 76), ((1, 15, 1), 137), ((1, 18, 2), 139), ((1, 21, 3), 142), ((1, 24, 4), 144), ((1, 27, 5), 146), ((1, 30, 6), 149), ((1, 33, 7), 151), ((1, 36, 8), 153), ((1, 9, 0), 135), ((2, 11, 0), 295), ((2, 15, 1), 297), ((2, 18, 2), 298), ((2, 21, 3), 299), ((2, 24, 4), 300), ((2, 27, 5), 301), ((2, 30, 6), 302), ((2, 33, 7), 303), ((2, 36, 8), 304), ((2, 39, 9), 305), ((2, 43, 10), 306), ((2, 46, 11), 307), ((2, 49, 12), 308), ((2, 52, 13), 309), ((2, 55, 14), 310), ((2, 58, 15), 312), ((2, 61, 16), 314), ((2, 64, 17), 316), ((3, 15, 1), 247), ((3, 18, 2), 249), ((3, 22, 3), 252), ((3, 25, 4), 254), ((3, 28, 5), 256), ((3, 9, 0), 244), ((4, 12, 0), 279), ((4, 18, 1), 280), ((4, 22, 2), 281), ((5, 15, 1), 226), ((5, 18, 2), 227), ((5, 21, 3), 228), ((5, 9, 0), 225), ((6, 15, 1), 183), ((6, 18, 2), 185), ((6, 21, 3), 187), ((6, 24, 4), 189), ((6, 27, 5), 191), ((6, 30, 6), 193), ((6, 33, 7), 195), ((6, 36, 8), 197), ((6, 9, 0), 181), ((7, 10, 0), 355), ((7, 19, 1), 356), ((7, 26, 2), 357), ((7, 33, 3), 358), ((7, 40, 4), 359), ((7, 47, 5), 360), ((7, 54, 6), 361), ((7, 58, 7), 362), ((8, 102, 36), 787), ((8, 105, 37), 788), ((8, 108, 38), 789), ((8, 111, 39), 790), ((8, 114, 40), 791), ((8, 13, 3), 754), ((8, 17, 4), 755), ((8, 20, 5), 756), ((8, 23, 6), 757), ((8, 26, 7), 758), ((8, 29, 8), 759), ((8, 32, 10), 761), ((8, 35, 11), 762), ((8, 38, 12), 763), ((8, 41, 13), 764), ((8, 44, 14), 765), ((8, 47, 15), 766), ((8, 50, 16), 767), ((8, 53, 17), 768), ((8, 56, 20), 771), ((8, 59, 21), 772), ((8, 62, 22), 773), ((8, 65, 24), 775), ((8, 68, 25), 776), ((8, 71, 26), 777), ((8, 74, 27), 778), ((8, 77, 28), 779), ((8, 80, 29), 780), ((8, 83, 30), 781), ((8, 86, 31), 782), ((8, 9, 2), 753), ((8, 90, 32), 783), ((8, 93, 33), 784), ((8, 96, 34), 785), ((8, 99, 35), 786)]
theorem flC_ok : (flC.all fun q => decide (lw_tbl[q.2]? = some (Cond.fieldLink (clR q.1.1) q.1.2.1 (clT q.1.1 q.1.2.2).1 (clT q.1.1 q.1.2.2).2.1 (clT q.1.1 q.1.2.2).2.2.1))) = true := by decide +kernel
theorem flC_in {a b c d : Nat} (h : ((a, b, c), d) ∈ flC) : Cond.fieldLink (clR a) b (clT a c).1 (clT a c).2.1 (clT a c).2.2.1 ∈ lw_ok := at_in (of_decide_eq_true (List.all_eq_true.mp flC_ok _ h)) rfl
def obL : List (Nat × Nat × Nat) := [(0, 3, 75), (1, 3, 134), (2, 5, 294), (3, 3, 243), (4, 3, 276), (5, 3, 224), (6, 3, 180), (7, 1, 67), (8, 1, 750)]
theorem obL_ok : (obL.all fun q => decide (lw_tbl[q.2.2]? = some (Cond.methodLink (clR q.1) q.2.1 objectInit))) = true := by decide +kernel
theorem obL_in {a b c : Nat} (h : (a, b, c) ∈ obL) : Cond.methodLink (clR a) b objectInit ∈ lw_ok := at_in (of_decide_eq_true (List.all_eq_true.mp obL_ok _ h)) rfl
theorem obI : lw_tbl[68]? = some (Cond.instanceMethod objectInit) := by decide +kernel
theorem arI : lw_tbl[128]? = some (Cond.arrayClass .int) := by decide +kernel
theorem arZ : lw_tbl[127]? = some (Cond.arrayClass .boolean) := by decide +kernel
theorem arJ : lw_tbl[884]? = some (Cond.arrayClass .long) := by decide +kernel
def nsC : List (String × Nat × MethodName) := [("FloodCells", 9, yX0_init), ("FloodCells", 18, yX1_init), ("FloodCells", 25, yX6_init), ("FloodCells", 32, yX5_init), ("FloodCells", 39, yX3_init), ("FloodCells", 46, yX4_init), ("FloodCells$Forecast", 11, yX3_init), ("FloodCells", 53, yX2_init)]
theorem nsC_ok : lw_tbl[72]? = some (Cond.methodLinkNest "FloodCells" 9 yX0_init "FloodCells") ∧ lw_tbl[131]? = some (Cond.methodLinkNest "FloodCells" 18 yX1_init "FloodCells") ∧ lw_tbl[177]? = some (Cond.methodLinkNest "FloodCells" 25 yX6_init "FloodCells") ∧ lw_tbl[221]? = some (Cond.methodLinkNest "FloodCells" 32 yX5_init "FloodCells") ∧ lw_tbl[240]? = some (Cond.methodLinkNest "FloodCells" 39 yX3_init "FloodCells") ∧ lw_tbl[273]? = some (Cond.methodLinkNest "FloodCells" 46 yX4_init "FloodCells") ∧ lw_tbl[278]? = some (Cond.methodLinkNest "FloodCells$Forecast" 11 yX3_init "FloodCells") ∧ lw_tbl[291]? = some (Cond.methodLinkNest "FloodCells" 53 yX2_init "FloodCells") := by decide +kernel
theorem nsF_at : lw_tbl[296]? = some nsF := by decide +kernel
theorem nsM_at : lw_tbl[388]? = some nsM := by decide +kernel
theorem inS : lw_tbl[71]? = some (Cond.instantiable (clR 0) (clN 0)) ∧ lw_tbl[130]? = some (Cond.instantiable (clR 1) (clN 1)) ∧ lw_tbl[290]? = some (Cond.instantiable (clR 2) (clN 2)) ∧ lw_tbl[239]? = some (Cond.instantiable (clR 3) (clN 3)) ∧ lw_tbl[272]? = some (Cond.instantiable (clR 4) (clN 4)) ∧ lw_tbl[220]? = some (Cond.instantiable (clR 5) (clN 5)) ∧ lw_tbl[176]? = some (Cond.instantiable (clR 6) (clN 6)) ∧ lw_tbl[63]? = some (Cond.instantiable (clR 7) (clN 7)) ∧ lw_tbl[746]? = some (Cond.instantiable (clR 8) (clN 8)) := by decide +kernel
theorem imS : lw_tbl[73]? = some (Cond.instanceMethod yX0_init) ∧ lw_tbl[132]? = some (Cond.instanceMethod yX1_init) ∧ lw_tbl[292]? = some (Cond.instanceMethod yX2_init) ∧ lw_tbl[241]? = some (Cond.instanceMethod yX3_init) ∧ lw_tbl[274]? = some (Cond.instanceMethod yX4_init) ∧ lw_tbl[222]? = some (Cond.instanceMethod yX5_init) ∧ lw_tbl[178]? = some (Cond.instanceMethod yX6_init) ∧ lw_tbl[65]? = some (Cond.instanceMethod yX7_init) ∧ lw_tbl[748]? = some (Cond.instanceMethod yX8_init) := by decide +kernel
theorem clS : lw_tbl[62]? = some (Cond.classLink "FloodCellsLaw" 7 "FloodCells") ∧ lw_tbl[70]? = some (Cond.classLink "FloodCells" 7 "FloodCells$Bodies") ∧ lw_tbl[129]? = some (Cond.classLink "FloodCells" 16 "FloodCells$Dikes") ∧ lw_tbl[175]? = some (Cond.classLink "FloodCells" 23 "FloodCells$Roads") ∧ lw_tbl[219]? = some (Cond.classLink "FloodCells" 30 "FloodCells$Reports") ∧ lw_tbl[238]? = some (Cond.classLink "FloodCells" 37 "FloodCells$Flood") ∧ lw_tbl[271]? = some (Cond.classLink "FloodCells" 44 "FloodCells$Forecast") ∧ lw_tbl[277]? = some (Cond.classLink "FloodCells$Forecast" 9 "FloodCells$Flood") ∧ lw_tbl[289]? = some (Cond.classLink "FloodCells" 51 "FloodCells$Flight") ∧ lw_tbl[745]? = some (Cond.classLink "FloodCellsLaw" 10 "FloodCellsModel") := by decide +kernel
theorem lnk7 : lw_tbl[64]? = some (Cond.methodLink "FloodCellsLaw" 9 yX7_init) ∧ lw_tbl[747]? = some (Cond.methodLink "FloodCellsLaw" 12 yX8_init) := by decide +kernel
section CT
variable {p : Program} {l : Launch} {e : Env} {R : Room} {s : State} {m : MethodId} {args : Array Value} {below : List Frame} {meth : Method} {c : Code} {H : Heap} {locs : List Loc} {cells slots : Nat} {Q : State → Prop} {H0 : Heap} {A : Nat → Prop} {D : va_G} {cI cZ cJ : ClassId} {cc : ByteArray} {ci pc : Nat}
/-- what stays while a constructor runs -/
def Cy (p : Program) (s : State) (m : MethodId) (args : Array Value) (meth : Method) (c : Code) (D : va_G) (cI cZ cJ : ClassId) (cc : ByteArray) (ci : Nat) : Prop :=
  p.tables.exec = Jvm.exec ∧ c.code = cc ∧ c.maxLocals = 1 ∧ s.vm.findClass (clR ci) = some m.cls ∧ (∀ w ∈ lw_ok, w.before args s = true) ∧ va_K D cls9 (tys3 cI cZ cJ) s ∧ meth.name = "<init>" ∧ ci < 9 ∧ ∀ q ∈ nsC, va_Nw (.methodLinkNest q.1 q.2.1 q.2.2 "FloodCells") s
theorem ct_obj {ix d h0 : Nat} {ls : Array Slot} (X : Cy p s m args meth c D cI cZ cJ cc ci) (h : (ci, ix, d) ∈ obL) (hl : ls.size = 1) (hR : 1 ≤ R.frames ∧ 12 ≤ R.locals) (hd : decode cc pc = .ok (.invokespecial ix, 3)) (kk : W p l e R s m args below meth c H locs cells slots Q (F0 m (pc + 3) ls [])) : W p l e R s m args below meth c H locs cells slots Q (F0 m pc ls [.ref h0]) := by
  refine W.objInit (own := clR ci) X.1 X.2.1 X.2.2.2.1 (X.2.2.2.2.1 _ (obL_in h)) (X.2.2.2.2.1 _ (at_in obI rfl)) (X.2.2.2.2.1 _ (at_in cow_obj rfl)) rfl (by rw [X.2.2.1]; exact hl) rfl hd hR.1 (by show 2 * 0 + 0 + 12 ≤ _; omega) ?_
  exact W.eq (g2 := F0 m (pc + 3) ls []) rfl kk
theorem ra_inj {cA cB : ClassId} {ty : FieldType} (hty : ty = .int ∨ ty = .boolean ∨ ty = .long) (h1 : va_RA s cA ty) (h2 : va_RA s cB ty) : cA = cB := by
  rcases hty with rfl | rfl | rfl
  · exact Option.some.inj ((show s.vm.findClass _ = some cA from h1).symm.trans h2)
  · exact Option.some.inj ((show s.vm.findClass _ = some cA from h1).symm.trans h2)
  · exact Option.some.inj ((show s.vm.findClass _ = some cA from h1).symm.trans h2)
theorem ct_arr {ix d k h0 t0 N : Nat} {n : Int32} {aty : ArrayType} {ty : FieldType} {cA : ClassId} {a0 : vp_A} {fs : List Value} {rest : va_W} {ls : Array Slot} {st : List Value} (X : Cy p s m args meth c D cI cZ cJ cc ci) (hf : ((ci, ix, k), d) ∈ flC) (hk : k < clN ci) (hfin : (clT ci k).2.2.2 = true) (hdecl : (clT ci k).1 = clR ci) (hyk : clY ci k = .array ty) (hty : newarray.typeOf aty = ty) (hty3 : ty = .int ∨ ty = .boolean ∨ ty = .long) (ht0 : (tys3 cI cZ cJ)[t0]? = some (cA, ty)) (harr : Cond.arrayClass ty ∈ lw_ok) (ha : ∀ cB : ClassId, vp_cell cB a0 = arrV cB N (fun _ => defaultValue ty)) (hn : ¬ n < 0) (hN : n.toNatClampNeg = N) (hb : N * componentBytes ty ≤ 536870912) (hcells : cells + 1 ≤ R.cells) (hslots : slots + N ≤ R.slots) (hA : ∀ q, H0.size ≤ q → A q)
    (hd1 : decode cc pc = .ok (.newarray aty, 2)) (hd2 : decode cc (pc + 2) = .ok (.putfield ix, 3)) (hl : k < fs.length) (hP : va_P D cls9 ((h0, .inr (ci, fs)) :: rest) H) (hD : va_D A ((h0, .inr (ci, fs)) :: rest)) (hS : va_S A H0 H locs)
    (kk : ∀ (q : Nat) (H1 : Heap) (locs1 : List Loc), va_P D cls9 ((h0, .inr (ci, fs.set k (.ref q))) :: (rest ++ [(q, .inl (cA, a0))])) H1 → va_D A ((h0, .inr (ci, fs.set k (.ref q))) :: (rest ++ [(q, .inl (cA, a0))])) → va_S A H0 H1 locs1 → W p l e R s m args below meth c H1 locs1 (cells + 1) (slots + N) Q (F0 m (pc + 2 + 3) ls st)) : W p l e R s m args below meth c H locs cells slots Q (F0 m pc ls (.int n :: .ref h0 :: st)) := by
  refine va_newa X.1 X.2.1 (X.2.2.2.2.1 _ (by rw [hty]; exact harr)) hty X.2.2.2.2.2.1 hP hD hS hA ha hn hN hb hcells hslots hd1 (fun q cB H1 hK1 hP1 hD1 hS1 => ?_)
  have e1 : cB = cA := by
    refine ra_inj hty3 (hK1.2 3 (cB, ty) rfl).2 (X.2.2.2.2.2.1.2 t0 (cA, ty) ht0).2
  subst e1
  have hc := X.2.2.2.2.2.2.2.1
  exact va_putF (D := D) (cl := cls9) (own := clR ci) (C := clR ci) (T := clT ci) (N := clN ci) (ty := clY ci k) X.1 X.2.1 X.2.2.2.2.1 (clW hc) (clY ci) (clY_ok _ hc) (clM_ok _ hc) X.2.2.2.1 X.2.2.2.2.2.1 hP1 hD1 hS1 0 rfl (clC _ hc) k hk (X.2.2.2.2.1 _ (flC_in hf)) (fun _ h9 => h9) hfin X.2.2.2.2.2.2.1 hdecl (clY_ok _ hc k hk) (by rw [hyk]; rfl) (by rw [hyk]; rfl) hl hd2 (fun H2 locs2 hP2 hD2 hS2 => kk q H2 locs2 hP2 hD2 hS2)
theorem ct_int {ix d k h0 : Nat} {v : Int32} {fs : List Value} {rest : va_W} {ls : Array Slot} {st : List Value} (X : Cy p s m args meth c D cI cZ cJ cc ci) (hf : ((ci, ix, k), d) ∈ flC) (hk : k < clN ci) (hfin : (clT ci k).2.2.2 = false) (hn : narrow (clY ci k) (.int v) = .int v) (hfit : fits (clY ci k) (.int v) = true)
    (hd : decode cc pc = .ok (.putfield ix, 3)) (hl : k < fs.length) (hP : va_P D cls9 ((h0, .inr (ci, fs)) :: rest) H) (hD : va_D A ((h0, .inr (ci, fs)) :: rest)) (hS : va_S A H0 H locs)
    (kk : ∀ (H1 : Heap) (locs1 : List Loc), va_P D cls9 ((h0, .inr (ci, fs.set k (.int v))) :: rest) H1 → va_D A ((h0, .inr (ci, fs.set k (.int v))) :: rest) → va_S A H0 H1 locs1 → W p l e R s m args below meth c H1 locs1 cells slots Q (F0 m (pc + 3) ls st)) : W p l e R s m args below meth c H locs cells slots Q (F0 m pc ls (.int v :: .ref h0 :: st)) := by
  have hc := X.2.2.2.2.2.2.2.1
  exact va_put (D := D) (cl := cls9) (own := clR ci) (C := clR ci) (T := clT ci) (N := clN ci) (ty := clY ci k) X.1 X.2.1 X.2.2.2.2.1 (clW hc) (clY ci) (clY_ok _ hc) (clM_ok _ hc) X.2.2.2.1 X.2.2.2.2.2.1 hP hD hS 0 rfl (clC _ hc) k hk (X.2.2.2.2.1 _ (flC_in hf)) (fun _ h9 => h9) hfin (clY_ok _ hc k hk) hn hfit hl hd (fun H2 locs2 hP2 hD2 hS2 => kk H2 locs2 hP2 hD2 hS2)
end CT
end
section
theorem n_ok {n : Int} {N : Nat} (h0 : 0 ≤ n) (h1 : n < 2147483648) (hN : n.toNat = N) : ¬ Int32.ofInt n < 0 ∧ (Int32.ofInt n).toNatClampNeg = N := by
  refine ⟨fun q => ?_, by rw [i_cl h0 h1, hN]⟩
  rw [show (0 : Int32) = Int32.ofInt 0 from rfl, i_lt ⟨by omega, h1⟩ ⟨by omega, by omega⟩] at q
  omega
theorem a0I {N : Nat} (cB : ClassId) : vp_cell cB (N, .inl fun _ => Int32.ofInt 0) = arrV cB N (fun _ => defaultValue .int) := by
  rw [show (Int32.ofInt 0) = (0 : Int32) from by decide]; rfl
theorem a0Z {N : Nat} (cB : ClassId) : vp_cell cB (N, .inl fun _ => Int32.ofInt 0) = arrV cB N (fun _ => defaultValue .boolean) := by
  rw [show (Int32.ofInt 0) = (0 : Int32) from by decide]; rfl
theorem a0J {N : Nat} (cB : ClassId) : vp_cell cB (N, .inr (.inl fun _ => Int64.ofInt 0)) = arrV cB N (fun _ => defaultValue .long) := by
  rw [show (Int64.ofInt 0) = (0 : Int64) from by decide]; rfl
theorem cbI_2 : 2 * componentBytes .int ≤ 536870912 := by decide +kernel
theorem cbZ_2 : 2 * componentBytes .boolean ≤ 536870912 := by decide +kernel
theorem cbJ_2 : 2 * componentBytes .long ≤ 536870912 := by decide +kernel
theorem sz_2 : ¬ Int32.ofInt 2 < 0 ∧ (Int32.ofInt 2).toNatClampNeg = 2 := n_ok (by decide) (by decide) rfl
theorem cbI_10 : 10 * componentBytes .int ≤ 536870912 := by decide +kernel
theorem cbZ_10 : 10 * componentBytes .boolean ≤ 536870912 := by decide +kernel
theorem cbJ_10 : 10 * componentBytes .long ≤ 536870912 := by decide +kernel
theorem sz_10 : ¬ Int32.ofInt 10 < 0 ∧ (Int32.ofInt 10).toNatClampNeg = 10 := n_ok (by decide) (by decide) rfl
theorem cbI_12 : 12 * componentBytes .int ≤ 536870912 := by decide +kernel
theorem cbZ_12 : 12 * componentBytes .boolean ≤ 536870912 := by decide +kernel
theorem cbJ_12 : 12 * componentBytes .long ≤ 536870912 := by decide +kernel
theorem sz_12 : ¬ Int32.ofInt 12 < 0 ∧ (Int32.ofInt 12).toNatClampNeg = 12 := n_ok (by decide) (by decide) rfl
theorem cbI_20 : 20 * componentBytes .int ≤ 536870912 := by decide +kernel
theorem cbZ_20 : 20 * componentBytes .boolean ≤ 536870912 := by decide +kernel
theorem cbJ_20 : 20 * componentBytes .long ≤ 536870912 := by decide +kernel
theorem sz_20 : ¬ Int32.ofInt 20 < 0 ∧ (Int32.ofInt 20).toNatClampNeg = 20 := n_ok (by decide) (by decide) rfl
theorem cbI_24 : 24 * componentBytes .int ≤ 536870912 := by decide +kernel
theorem cbZ_24 : 24 * componentBytes .boolean ≤ 536870912 := by decide +kernel
theorem cbJ_24 : 24 * componentBytes .long ≤ 536870912 := by decide +kernel
theorem sz_24 : ¬ Int32.ofInt 24 < 0 ∧ (Int32.ofInt 24).toNatClampNeg = 24 := n_ok (by decide) (by decide) rfl
theorem cbI_100 : 100 * componentBytes .int ≤ 536870912 := by decide +kernel
theorem cbZ_100 : 100 * componentBytes .boolean ≤ 536870912 := by decide +kernel
theorem cbJ_100 : 100 * componentBytes .long ≤ 536870912 := by decide +kernel
theorem sz_100 : ¬ Int32.ofInt 100 < 0 ∧ (Int32.ofInt 100).toNatClampNeg = 100 := n_ok (by decide) (by decide) rfl
theorem cbI_101 : 101 * componentBytes .int ≤ 536870912 := by decide +kernel
theorem cbZ_101 : 101 * componentBytes .boolean ≤ 536870912 := by decide +kernel
theorem cbJ_101 : 101 * componentBytes .long ≤ 536870912 := by decide +kernel
theorem sz_101 : ¬ Int32.ofInt 101 < 0 ∧ (Int32.ofInt 101).toNatClampNeg = 101 := n_ok (by decide) (by decide) rfl
theorem cbI_120 : 120 * componentBytes .int ≤ 536870912 := by decide +kernel
theorem cbZ_120 : 120 * componentBytes .boolean ≤ 536870912 := by decide +kernel
theorem cbJ_120 : 120 * componentBytes .long ≤ 536870912 := by decide +kernel
theorem sz_120 : ¬ Int32.ofInt 120 < 0 ∧ (Int32.ofInt 120).toNatClampNeg = 120 := n_ok (by decide) (by decide) rfl
theorem cbI_1010 : 1010 * componentBytes .int ≤ 536870912 := by decide +kernel
theorem cbZ_1010 : 1010 * componentBytes .boolean ≤ 536870912 := by decide +kernel
theorem cbJ_1010 : 1010 * componentBytes .long ≤ 536870912 := by decide +kernel
theorem sz_1010 : ¬ Int32.ofInt 1010 < 0 ∧ (Int32.ofInt 1010).toNatClampNeg = 1010 := n_ok (by decide) (by decide) rfl
theorem cbI_1200 : 1200 * componentBytes .int ≤ 536870912 := by decide +kernel
theorem cbZ_1200 : 1200 * componentBytes .boolean ≤ 536870912 := by decide +kernel
theorem cbJ_1200 : 1200 * componentBytes .long ≤ 536870912 := by decide +kernel
theorem sz_1200 : ¬ Int32.ofInt 1200 < 0 ∧ (Int32.ofInt 1200).toNatClampNeg = 1200 := n_ok (by decide) (by decide) rfl
theorem cbI_1212 : 1212 * componentBytes .int ≤ 536870912 := by decide +kernel
theorem cbZ_1212 : 1212 * componentBytes .boolean ≤ 536870912 := by decide +kernel
theorem cbJ_1212 : 1212 * componentBytes .long ≤ 536870912 := by decide +kernel
theorem sz_1212 : ¬ Int32.ofInt 1212 < 0 ∧ (Int32.ofInt 1212).toNatClampNeg = 1212 := n_ok (by decide) (by decide) rfl
theorem bp_bipush_10 : (Int8.ofInt 10).toInt32 = Int32.ofInt 10 := by decide
theorem bp_bipush_12 : (Int8.ofInt 12).toInt32 = Int32.ofInt 12 := by decide
theorem bp_bipush_20 : (Int8.ofInt 20).toInt32 = Int32.ofInt 20 := by decide
theorem bp_bipush_24 : (Int8.ofInt 24).toInt32 = Int32.ofInt 24 := by decide
theorem bp_bipush_100 : (Int8.ofInt 100).toInt32 = Int32.ofInt 100 := by decide
theorem bp_bipush_101 : (Int8.ofInt 101).toInt32 = Int32.ofInt 101 := by decide
theorem bp_bipush_120 : (Int8.ofInt 120).toInt32 = Int32.ofInt 120 := by decide
theorem bp_iconst_m1 : Int32.ofInt (-1) = Int32.ofInt (-1) := by decide
theorem bp_iconst_0 : Int32.ofInt 0 = Int32.ofInt 0 := by decide
theorem bp_iconst_2 : Int32.ofInt 2 = Int32.ofInt 2 := by decide
theorem bp_sipush_1010 : (Int16.ofInt 1010).toInt32 = Int32.ofInt 1010 := by decide
theorem bp_sipush_1200 : (Int16.ofInt 1200).toInt32 = Int32.ofInt 1200 := by decide
theorem bp_sipush_1212 : (Int16.ofInt 1212).toInt32 = Int32.ofInt 1212 := by decide
abbrev va_E_mk (ci : Nat) (fs : List Value) : va_E := .inr (ci, fs)
section CJ
variable {D : va_G} {cI cZ cJ : ClassId} {A : Nat → Prop} {H H1 : Heap}
theorem join1 {wr w1 : va_W} {x : Nat × va_E} (hP : va_P D cls9 (wr ++ [x]) H) (hD : va_D A (wr ++ [x])) (hk : ∀ q : Nat, q < H.size → ¬ va_A [x] H.size q → H1[q]? = H[q]?) (hF : ∀ q, va_A [x] H.size q → A q) (hP1 : va_P D cls9 w1 H1) (hD1 : va_D (va_A [x] H.size) w1) : va_P D cls9 (wr ++ w1) H1 ∧ va_D A (wr ++ w1) := by
  have hl : ∀ (i : Nat) (p : Nat × va_E), wr[i]? = some p → (wr ++ [x])[i]? = some p ∧ i < wr.length := by
    intro i p h
    have h1 := (List.getElem?_eq_some_iff.mp h).1
    exact ⟨by rw [List.getElem?_append_left h1]; exact h, h1⟩
  have hx : (wr ++ [x])[wr.length]? = some x := by simp
  have hn : ∀ (i : Nat) (p : Nat × va_E), wr[i]? = some p → p.1 < H.size ∧ ¬ va_A [x] H.size p.1 := by
    intro i p h
    obtain ⟨h1, h2⟩ := hl i p h
    have h3 := (hP i p h1).lt
    refine ⟨h3, ?_⟩
    rintro (⟨k, e, hk⟩ | h4)
    · have h5 : k = 0 := by
        have := (List.getElem?_eq_some_iff.mp hk).1
        simp at this
        exact this
      subst h5
      simp at hk
      have h6 := hD.1 i wr.length p x h1 hx (by rw [hk])
      omega
    · omega
  refine ⟨va_P.app (fun k q h => ((hP k q (hl k q h).1).kept (hk q.1 (hn k q h).1 (hn k q h).2))) hP1, va_D.app ⟨fun i j p q h1 h2 e => hD.1 i j p q (hl i p h1).1 (hl j q h2).1 e, fun k q h => hD.2 k q (hl k q h).1⟩ ⟨hD1.1, fun k q h => hF _ (hD1.2 k q h)⟩ (fun i j p q h1 h2 e => (hn i p h1).2 (by rw [e]; exact hD1.2 j q h2))⟩
end CJ
def Pci (D : va_G) (cI cZ cJ : ClassId) (h0 sz : Nat) (E : va_E) : Array Value → State → Prop := va_Pc [.ref h0] (fun U => U.heap.size = sz ∧ va_P D cls9 [(h0, E)] U.heap ∧ va_K D cls9 (tys3 cI cZ cJ) U ∧ va_D (fun _ => True) [(h0, E)] ∧ ∀ q ∈ nsC, va_Nw (.methodLinkNest q.1 q.2.1 q.2.2 "FloodCells") U)
def Qci {S : Type} (D : va_G) (h0 sz : Nat) (E : va_E) (wc : Nat → S → va_W) : Array Value → State → Outcome → State → Prop := va_Qv (fun _ : S => True) (fun u t => va_P D cls9 (wc h0 u) t.heap ∧ va_D (va_A [(h0, E)] sz) (wc h0 u)) (va_A [(h0, E)] sz)
theorem Pci_bl {D : va_G} {cI cZ cJ : ClassId} {h0 sz : Nat} {E : va_E} : FrameBlind (Pci D cI cZ cJ h0 sz E) := by
  intro a U g mk h
  obtain ⟨h1, h2, h3, h4, h5, h6⟩ := h
  exact ⟨h1, h2, h3, va_K.moved (u := U) (U := U.calling g mk a) (Vm.Alike.refl U.vm) h4, h5, fun q hq => va_Nw.same (u := U) rfl rfl (h6 q hq)⟩
section CS
variable {p : Program} {l : Launch} {e : Env} {R : Room} {s : State} {m : MethodId} {args : Array Value} {below : List Frame} {meth : Method} {c : Code} {H : Heap} {locs : List Loc} {cells slots : Nat} {Q : State → Prop} {H0 : Heap} {A : Nat → Prop} {D : va_G} {cI cZ cJ : ClassId} {cc : ByteArray} {ci pc : Nat}
theorem ct_sub {S : Type} {cj i1 i2 i3 k d h0 nc ns N fr lc : Nat} {y : MethodName} {bytes : ByteArray} {fs fs0 : List Value} {rest : va_W} {ls : Array Slot} {wc : Nat → S → va_W} (X : Cy p s m args meth c D cI cZ cJ cc ci)
    (hM : ∀ q sz, Met l y (Cond.code y bytes 1 none :: lw_ok) { frames := fr, cells := nc, slots := ns, locals := lc } (Pci D cI cZ cJ q sz (.inr (cj, fs0))) (Qci D q sz (.inr (cj, fs0)) wc) nc ns (va_A [(q, .inr (cj, fs0))] sz))
    (hcj : cj < 9) (hN : clN cj = N) (hfs0 : ∀ j, j < N → defaultValue (clY cj j) = vp_V fs0 j) (hcl : Cond.classLink (clR ci) i1 (clR cj) ∈ lw_ok) (hinst : Cond.instantiable (clR cj) (clN cj) ∈ lw_ok) (hini : Cond.initialized (clR cj) ∈ lw_ok)
    (hcode : Cond.code y bytes 1 none ∈ lw_ok) (him : Cond.instanceMethod y ∈ lw_ok) (hy : y.cls = clR cj ∧ y.name = "<init>" ∧ y.cls ≠ "java/lang/invoke/MethodHandle" ∧ y.cls ≠ "java/lang/invoke/VarHandle" ∧ (parseMethodDescriptor y.desc).map (fun d => d.parameters.length) = some 0) (hns : (clR ci, i2, y) ∈ nsC)
    (hf : ((ci, i3, k), d) ∈ flC) (hk : k < clN ci) (hfin : (clT ci k).2.2.2 = true) (hdecl : (clT ci k).1 = clR ci) (hyk : clY ci k = .object (clR cj)) (hR : fr + 1 ≤ R.frames ∧ 20 + lc ≤ R.locals) (hcells : cells + 1 + nc ≤ R.cells) (hslots : slots + N + ns ≤ R.slots) (hA : ∀ q, H0.size ≤ q → A q) (hls : ls.size = 1)
    (hd1 : decode cc pc = .ok (.new i1, 3)) (hd2 : decode cc (pc + 3) = .ok (.dup, 1)) (hd3 : decode cc (pc + 3 + 1) = .ok (.invokespecial i2, 3)) (hd4 : decode cc (pc + 3 + 1 + 3) = .ok (.putfield i3, 3)) (hl : k < fs.length) (hP : va_P D cls9 ((h0, .inr (ci, fs)) :: rest) H) (hD : va_D A ((h0, .inr (ci, fs)) :: rest)) (hS : va_S A H0 H locs)
    (kk : ∀ (q : Nat) (u : S) (H1 : Heap) (locs1 : List Loc), va_P D cls9 ((h0, .inr (ci, fs.set k (.ref q))) :: (rest ++ wc q u)) H1 → va_D A ((h0, .inr (ci, fs.set k (.ref q))) :: (rest ++ wc q u)) → va_S A H0 H1 locs1 → W p l e R s m args below meth c H1 locs1 (cells + 1 + nc) (slots + N + ns) Q (F0 m (pc + 3 + 1 + 3 + 3) ls [])) : W p l e R s m args below meth c H locs cells slots Q (F0 m pc ls [.ref h0]) := by
  subst hN
  refine va_new (ci := cj) (fs := fs0) (own := clR ci) (C := clR cj) (T := clT cj) (N := clN cj) X.1 X.2.1 X.2.2.2.2.1 (clW hcj) (clY cj) (clY_ok _ hcj) X.2.2.2.1 (X.2.2.2.2.1 _ hcl) (X.2.2.2.2.1 _ hinst) (X.2.2.2.2.1 _ hini) X.2.2.2.2.2.1 hP hD hS hA (clC _ hcj) hfs0 (by omega) (by omega) hd1 (fun q H1 hP1 hD1 hS1 => ?_)
  refine lv_dup X.1 X.2.1 hd2 rfl ?_
  have hFc : ∀ x, va_A [(q, .inr (cj, fs0))] H1.size x → A x := by
    rintro x (⟨j, e', hj⟩ | hx)
    · have h5 : j = 0 := by
        have := (List.getElem?_eq_some_iff.mp hj).1
        simp at this
        exact this
      subst h5
      simp at hj
      rw [← hj.1]
      exact hD1.2 ((h0, va_E_mk ci fs) :: rest).length (q, .inr (cj, fs0)) (by simp)
    · exact hA x (Nat.le_trans hS1.1 hx)
  have hPc : va_P D cls9 [(q, .inr (cj, fs0))] H1 := by
    intro j x hj
    have h5 : j = 0 := by
      have := (List.getElem?_eq_some_iff.mp hj).1
      simp at this
      exact this
    subst h5
    simp at hj
    subst hj
    exact hP1 ((h0, va_E_mk ci fs) :: rest).length _ (by simp)
  have hDc : va_D (fun _ => True) [(q, (.inr (cj, fs0) : va_E))] := by
    refine ⟨fun i j p1 p2 h1 h2 _ => ?_, fun _ _ _ => trivial⟩
    have e1 := (List.getElem?_eq_some_iff.mp h1).1
    have e2 := (List.getElem?_eq_some_iff.mp h2).1
    simp at e1 e2
    omega
  have hG : GoodIn lw_ok (Cond.code y bytes 1 none :: lw_ok) := good_in (fun w hw => by
    rcases List.mem_cons.mp hw with rfl | h2
    · exact hcode
    · exact h2)
  refine va_callv (va_runIN (As := []) (rest := [.ref q, .ref h0]) (b := q) (g := F0 m (pc + 3 + 1) ls [.ref q, .ref q, .ref h0]) ⟨X.1, X.2.1, X.2.2.1, X.2.2.2.1, X.2.2.2.2.1⟩ (hM q H1.size) ⟨va_cnB 0 X.2.2.2.2.1 hG rfl rfl rfl (X.2.2.2.2.2.2.2.2 _ hns) (X.2.2.2.2.1 _ (by rw [hy.1]; exact hini)) ⟨hy.2.2.1, hy.2.2.2.1, hy.2.2.2.2⟩ ⟨hR.1, by show 8 + (1 + 11) + lc ≤ R.locals; omega⟩, hy.2.1, X.2.2.2.2.1 _ him⟩ ⟨Pci_bl, fun U hU hW => ⟨rfl, by rw [hU], by rw [hU]; exact hPc, va_K.moved hW.alike X.2.2.2.2.2.1, hDc, fun x hx => va_Nw.warmM hW (X.2.2.2.2.2.2.2.2 x hx)⟩⟩ rfl rfl hls rfl (by show 2 * 0 + (1 + (1 + 0)) ≤ 8; omega) hd3 ⟨hcells, hslots⟩) hS1 (fun x _ h => hFc x h) hFc (fun u t H2 locs2 ht hvm hw hB hz1 hk1 hS2 => ?_)
  obtain ⟨hP2, hD2⟩ := hB
  rw [ht] at hP2
  obtain ⟨hP3, hD3⟩ := join1 hP1 hD1 hk1 hFc hP2 hD2
  have hc := X.2.2.2.2.2.2.2.1
  exact va_putF (D := D) (cl := cls9) (own := clR ci) (C := clR ci) (T := clT ci) (N := clN ci) (ty := clY ci k) X.1 X.2.1 X.2.2.2.2.1 (clW hc) (clY ci) (clY_ok _ hc) (clM_ok _ hc) X.2.2.2.1 X.2.2.2.2.2.1 hP3 hD3 hS2 0 rfl (clC _ hc) k hk (X.2.2.2.2.1 _ (flC_in hf)) (fun _ h9 => h9) hfin X.2.2.2.2.2.2.1 hdecl (clY_ok _ hc k hk) (by rw [hyk]; rfl) (by rw [hyk]; rfl) hl hd4 (fun H4 locs4 hP4 hD4 hS4 => kk q u H4 locs4 hP4 hD4 hS4)
end CS
def wc0 (cI cZ cJ : ClassId) (h0 : Nat) (u : Nat → Nat) : va_W := (h0, .inr (0, [.ref (u 0), .ref (u 1), .ref (u 2), .ref (u 3), .ref (u 4), .ref (u 5), .ref (u 6), .ref (u 7), .int (Int32.ofInt 0), .int (Int32.ofInt 0)])) :: [(u 0, .inl (cZ, (10, .inl fun _ => Int32.ofInt 0))), (u 1, .inl (cI, (10, .inl fun _ => Int32.ofInt 0))), (u 2, .inl (cI, (10, .inl fun _ => Int32.ofInt 0))), (u 3, .inl (cI, (10, .inl fun _ => Int32.ofInt 0))), (u 4, .inl (cI, (10, .inl fun _ => Int32.ofInt 0))), (u 5, .inl (cI, (10, .inl fun _ => Int32.ofInt 0))), (u 6, .inl (cI, (10, .inl fun _ => Int32.ofInt 0))), (u 7, .inl (cI, (100, .inl fun _ => Int32.ofInt 0)))]
set_option maxHeartbeats 40000000 in
theorem mi0 (l : Launch) (D : va_G) (cI cZ cJ : ClassId) (h0 sz : Nat) : Met l yX0_init (Cond.code yX0_init cX0_init 1 none :: lw_ok) { frames := 1, cells := 8, slots := 170, locals := 12 } (Pci D cI cZ cJ h0 sz (.inr (0, [.null, .null, .null, .null, .null, .null, .null, .null, .int 0, .int 0]))) (Qci D h0 sz (.inr (0, [.null, .null, .null, .null, .null, .null, .null, .null, .int 0, .int 0])) (wc0 cI cZ cJ)) 8 170 (va_A [(h0, (.inr (0, [.null, .null, .null, .null, .null, .null, .null, .null, .int 0, .int 0])))] sz) := by
  refine Met.ofW (cc := cX0_init) (maxL := 1) (ret := none) (by decide) rfl ?_
  intro p e s m args below meth c s₁ B hml hv
  obtain ⟨rfl, hsz, hP, hK, hD0, hns⟩ := hv
  have hr := B.returns
  have hlocks := B.notSynchronized
  have hts := atoms_spec (ws := Cond.code yX0_init cX0_init 1 none :: lw_ok) B.pre
  have X : Cy p s m _ meth c D cI cZ cJ cX0_init 0 := ⟨B.exec, B.bytes, hml, findClass_of_methodNamed B.named, fun w hw => hts w (List.mem_cons_of_mem _ hw), hK, (name_of_methodNamed B.named B.method).1, by decide, hns⟩
  subst hsz
  have hD := hD0.self (sz := s.heap.size)
  generalize hAe : va_A [(h0, (.inr (0, [.null, .null, .null, .null, .null, .null, .null, .null, .int 0, .int 0]) : va_E))] s.heap.size = A at hD ⊢
  have hA : ∀ q : Nat, s.heap.size ≤ q → A q := fun q h => by rw [← hAe]; exact Or.inr h
  have hS : va_S A s.heap s.heap [] := va_S.rf
  have hl := lv_entry ([.ref h0]) (n := 1) (Nat.le_of_ble_eq_true rfl)
  rw [lg_entry_eq]
  generalize (lg_sl ([.ref h0]) ++ List.replicate (1 - (lg_sl ([.ref h0])).length) Slot.unset).toArray = ls at hl ⊢
  have hl : lv_has ls 1 [(0, .ref h0)] := hl
  refine lv_aload_n X.1 X.2.1 diX0_0 rfl (lv_at hl 0 rfl) ?_
  refine ct_obj (d := 75) X (by decide) hl.1 ⟨Nat.le_of_ble_eq_true rfl, Nat.le_of_ble_eq_true rfl⟩ diX0_1 ?_
  refine lv_aload_n X.1 X.2.1 diX0_4 rfl (lv_at hl 0 rfl) ?_
  refine lv_bipush (v := Int32.ofInt 10) X.1 X.2.1 diX0_5 bp_bipush_10 ?_
  refine ct_arr (ty := .boolean) (cA := cZ) (t0 := 1) (N := 10) (a0 := (10, .inl fun _ => Int32.ofInt 0)) (d := 76) (k := 0) X (List.mem_of_getElem? (i := 9) rfl) (Nat.le_of_ble_eq_true rfl) rfl rfl rfl rfl (by simp) rfl (at_in arZ rfl) a0Z sz_10.1 sz_10.2 cbZ_10 (by show _ ≤ (8 : Nat); omega) (by show _ ≤ (170 : Nat); omega) hA diX0_7 diX0_9 (Nat.le_of_ble_eq_true rfl) hP hD hS (fun a0 H locs hP hD hS => ?_)
  have hP : va_P D cls9 ((h0, .inr (0, [.ref a0, .null, .null, .null, .null, .null, .null, .null, .int 0, .int 0])) :: [(a0, .inl (cZ, (10, .inl fun _ => Int32.ofInt 0)))]) H := hP
  have hD : va_D A ((h0, .inr (0, [.ref a0, .null, .null, .null, .null, .null, .null, .null, .int 0, .int 0])) :: [(a0, .inl (cZ, (10, .inl fun _ => Int32.ofInt 0)))]) := hD
  refine lv_aload_n X.1 X.2.1 diX0_12 rfl (lv_at hl 0 rfl) ?_
  refine lv_bipush (v := Int32.ofInt 10) X.1 X.2.1 diX0_13 bp_bipush_10 ?_
  refine ct_arr (ty := .int) (cA := cI) (t0 := 0) (N := 10) (a0 := (10, .inl fun _ => Int32.ofInt 0)) (d := 79) (k := 1) X (List.mem_of_getElem? (i := 0) rfl) (Nat.le_of_ble_eq_true rfl) rfl rfl rfl rfl (by simp) rfl (at_in arI rfl) a0I sz_10.1 sz_10.2 cbI_10 (by show _ ≤ (8 : Nat); omega) (by show _ ≤ (170 : Nat); omega) hA diX0_15 diX0_17 (Nat.le_of_ble_eq_true rfl) hP hD hS (fun a1 H locs hP hD hS => ?_)
  have hP : va_P D cls9 ((h0, .inr (0, [.ref a0, .ref a1, .null, .null, .null, .null, .null, .null, .int 0, .int 0])) :: [(a0, .inl (cZ, (10, .inl fun _ => Int32.ofInt 0))), (a1, .inl (cI, (10, .inl fun _ => Int32.ofInt 0)))]) H := hP
  have hD : va_D A ((h0, .inr (0, [.ref a0, .ref a1, .null, .null, .null, .null, .null, .null, .int 0, .int 0])) :: [(a0, .inl (cZ, (10, .inl fun _ => Int32.ofInt 0))), (a1, .inl (cI, (10, .inl fun _ => Int32.ofInt 0)))]) := hD
  refine lv_aload_n X.1 X.2.1 diX0_20 rfl (lv_at hl 0 rfl) ?_
  refine lv_bipush (v := Int32.ofInt 10) X.1 X.2.1 diX0_21 bp_bipush_10 ?_
  refine ct_arr (ty := .int) (cA := cI) (t0 := 0) (N := 10) (a0 := (10, .inl fun _ => Int32.ofInt 0)) (d := 83) (k := 2) X (List.mem_of_getElem? (i := 1) rfl) (Nat.le_of_ble_eq_true rfl) rfl rfl rfl rfl (by simp) rfl (at_in arI rfl) a0I sz_10.1 sz_10.2 cbI_10 (by show _ ≤ (8 : Nat); omega) (by show _ ≤ (170 : Nat); omega) hA diX0_23 diX0_25 (Nat.le_of_ble_eq_true rfl) hP hD hS (fun a2 H locs hP hD hS => ?_)
  have hP : va_P D cls9 ((h0, .inr (0, [.ref a0, .ref a1, .ref a2, .null, .null, .null, .null, .null, .int 0, .int 0])) :: [(a0, .inl (cZ, (10, .inl fun _ => Int32.ofInt 0))), (a1, .inl (cI, (10, .inl fun _ => Int32.ofInt 0))), (a2, .inl (cI, (10, .inl fun _ => Int32.ofInt 0)))]) H := hP
  have hD : va_D A ((h0, .inr (0, [.ref a0, .ref a1, .ref a2, .null, .null, .null, .null, .null, .int 0, .int 0])) :: [(a0, .inl (cZ, (10, .inl fun _ => Int32.ofInt 0))), (a1, .inl (cI, (10, .inl fun _ => Int32.ofInt 0))), (a2, .inl (cI, (10, .inl fun _ => Int32.ofInt 0)))]) := hD
  refine lv_aload_n X.1 X.2.1 diX0_28 rfl (lv_at hl 0 rfl) ?_
  refine lv_bipush (v := Int32.ofInt 10) X.1 X.2.1 diX0_29 bp_bipush_10 ?_
  refine ct_arr (ty := .int) (cA := cI) (t0 := 0) (N := 10) (a0 := (10, .inl fun _ => Int32.ofInt 0)) (d := 86) (k := 3) X (List.mem_of_getElem? (i := 2) rfl) (Nat.le_of_ble_eq_true rfl) rfl rfl rfl rfl (by simp) rfl (at_in arI rfl) a0I sz_10.1 sz_10.2 cbI_10 (by show _ ≤ (8 : Nat); omega) (by show _ ≤ (170 : Nat); omega) hA diX0_31 diX0_33 (Nat.le_of_ble_eq_true rfl) hP hD hS (fun a3 H locs hP hD hS => ?_)
  have hP : va_P D cls9 ((h0, .inr (0, [.ref a0, .ref a1, .ref a2, .ref a3, .null, .null, .null, .null, .int 0, .int 0])) :: [(a0, .inl (cZ, (10, .inl fun _ => Int32.ofInt 0))), (a1, .inl (cI, (10, .inl fun _ => Int32.ofInt 0))), (a2, .inl (cI, (10, .inl fun _ => Int32.ofInt 0))), (a3, .inl (cI, (10, .inl fun _ => Int32.ofInt 0)))]) H := hP
  have hD : va_D A ((h0, .inr (0, [.ref a0, .ref a1, .ref a2, .ref a3, .null, .null, .null, .null, .int 0, .int 0])) :: [(a0, .inl (cZ, (10, .inl fun _ => Int32.ofInt 0))), (a1, .inl (cI, (10, .inl fun _ => Int32.ofInt 0))), (a2, .inl (cI, (10, .inl fun _ => Int32.ofInt 0))), (a3, .inl (cI, (10, .inl fun _ => Int32.ofInt 0)))]) := hD
  refine lv_aload_n X.1 X.2.1 diX0_36 rfl (lv_at hl 0 rfl) ?_
  refine lv_bipush (v := Int32.ofInt 10) X.1 X.2.1 diX0_37 bp_bipush_10 ?_
  refine ct_arr (ty := .int) (cA := cI) (t0 := 0) (N := 10) (a0 := (10, .inl fun _ => Int32.ofInt 0)) (d := 89) (k := 4) X (List.mem_of_getElem? (i := 3) rfl) (Nat.le_of_ble_eq_true rfl) rfl rfl rfl rfl (by simp) rfl (at_in arI rfl) a0I sz_10.1 sz_10.2 cbI_10 (by show _ ≤ (8 : Nat); omega) (by show _ ≤ (170 : Nat); omega) hA diX0_39 diX0_41 (Nat.le_of_ble_eq_true rfl) hP hD hS (fun a4 H locs hP hD hS => ?_)
  have hP : va_P D cls9 ((h0, .inr (0, [.ref a0, .ref a1, .ref a2, .ref a3, .ref a4, .null, .null, .null, .int 0, .int 0])) :: [(a0, .inl (cZ, (10, .inl fun _ => Int32.ofInt 0))), (a1, .inl (cI, (10, .inl fun _ => Int32.ofInt 0))), (a2, .inl (cI, (10, .inl fun _ => Int32.ofInt 0))), (a3, .inl (cI, (10, .inl fun _ => Int32.ofInt 0))), (a4, .inl (cI, (10, .inl fun _ => Int32.ofInt 0)))]) H := hP
  have hD : va_D A ((h0, .inr (0, [.ref a0, .ref a1, .ref a2, .ref a3, .ref a4, .null, .null, .null, .int 0, .int 0])) :: [(a0, .inl (cZ, (10, .inl fun _ => Int32.ofInt 0))), (a1, .inl (cI, (10, .inl fun _ => Int32.ofInt 0))), (a2, .inl (cI, (10, .inl fun _ => Int32.ofInt 0))), (a3, .inl (cI, (10, .inl fun _ => Int32.ofInt 0))), (a4, .inl (cI, (10, .inl fun _ => Int32.ofInt 0)))]) := hD
  refine lv_aload_n X.1 X.2.1 diX0_44 rfl (lv_at hl 0 rfl) ?_
  refine lv_bipush (v := Int32.ofInt 10) X.1 X.2.1 diX0_45 bp_bipush_10 ?_
  refine ct_arr (ty := .int) (cA := cI) (t0 := 0) (N := 10) (a0 := (10, .inl fun _ => Int32.ofInt 0)) (d := 92) (k := 5) X (List.mem_of_getElem? (i := 4) rfl) (Nat.le_of_ble_eq_true rfl) rfl rfl rfl rfl (by simp) rfl (at_in arI rfl) a0I sz_10.1 sz_10.2 cbI_10 (by show _ ≤ (8 : Nat); omega) (by show _ ≤ (170 : Nat); omega) hA diX0_47 diX0_49 (Nat.le_of_ble_eq_true rfl) hP hD hS (fun a5 H locs hP hD hS => ?_)
  have hP : va_P D cls9 ((h0, .inr (0, [.ref a0, .ref a1, .ref a2, .ref a3, .ref a4, .ref a5, .null, .null, .int 0, .int 0])) :: [(a0, .inl (cZ, (10, .inl fun _ => Int32.ofInt 0))), (a1, .inl (cI, (10, .inl fun _ => Int32.ofInt 0))), (a2, .inl (cI, (10, .inl fun _ => Int32.ofInt 0))), (a3, .inl (cI, (10, .inl fun _ => Int32.ofInt 0))), (a4, .inl (cI, (10, .inl fun _ => Int32.ofInt 0))), (a5, .inl (cI, (10, .inl fun _ => Int32.ofInt 0)))]) H := hP
  have hD : va_D A ((h0, .inr (0, [.ref a0, .ref a1, .ref a2, .ref a3, .ref a4, .ref a5, .null, .null, .int 0, .int 0])) :: [(a0, .inl (cZ, (10, .inl fun _ => Int32.ofInt 0))), (a1, .inl (cI, (10, .inl fun _ => Int32.ofInt 0))), (a2, .inl (cI, (10, .inl fun _ => Int32.ofInt 0))), (a3, .inl (cI, (10, .inl fun _ => Int32.ofInt 0))), (a4, .inl (cI, (10, .inl fun _ => Int32.ofInt 0))), (a5, .inl (cI, (10, .inl fun _ => Int32.ofInt 0)))]) := hD
  refine lv_aload_n X.1 X.2.1 diX0_52 rfl (lv_at hl 0 rfl) ?_
  refine lv_bipush (v := Int32.ofInt 10) X.1 X.2.1 diX0_53 bp_bipush_10 ?_
  refine ct_arr (ty := .int) (cA := cI) (t0 := 0) (N := 10) (a0 := (10, .inl fun _ => Int32.ofInt 0)) (d := 95) (k := 6) X (List.mem_of_getElem? (i := 5) rfl) (Nat.le_of_ble_eq_true rfl) rfl rfl rfl rfl (by simp) rfl (at_in arI rfl) a0I sz_10.1 sz_10.2 cbI_10 (by show _ ≤ (8 : Nat); omega) (by show _ ≤ (170 : Nat); omega) hA diX0_55 diX0_57 (Nat.le_of_ble_eq_true rfl) hP hD hS (fun a6 H locs hP hD hS => ?_)
  have hP : va_P D cls9 ((h0, .inr (0, [.ref a0, .ref a1, .ref a2, .ref a3, .ref a4, .ref a5, .ref a6, .null, .int 0, .int 0])) :: [(a0, .inl (cZ, (10, .inl fun _ => Int32.ofInt 0))), (a1, .inl (cI, (10, .inl fun _ => Int32.ofInt 0))), (a2, .inl (cI, (10, .inl fun _ => Int32.ofInt 0))), (a3, .inl (cI, (10, .inl fun _ => Int32.ofInt 0))), (a4, .inl (cI, (10, .inl fun _ => Int32.ofInt 0))), (a5, .inl (cI, (10, .inl fun _ => Int32.ofInt 0))), (a6, .inl (cI, (10, .inl fun _ => Int32.ofInt 0)))]) H := hP
  have hD : va_D A ((h0, .inr (0, [.ref a0, .ref a1, .ref a2, .ref a3, .ref a4, .ref a5, .ref a6, .null, .int 0, .int 0])) :: [(a0, .inl (cZ, (10, .inl fun _ => Int32.ofInt 0))), (a1, .inl (cI, (10, .inl fun _ => Int32.ofInt 0))), (a2, .inl (cI, (10, .inl fun _ => Int32.ofInt 0))), (a3, .inl (cI, (10, .inl fun _ => Int32.ofInt 0))), (a4, .inl (cI, (10, .inl fun _ => Int32.ofInt 0))), (a5, .inl (cI, (10, .inl fun _ => Int32.ofInt 0))), (a6, .inl (cI, (10, .inl fun _ => Int32.ofInt 0)))]) := hD
  refine lv_aload_n X.1 X.2.1 diX0_60 rfl (lv_at hl 0 rfl) ?_
  refine lv_bipush (v := Int32.ofInt 100) X.1 X.2.1 diX0_61 bp_bipush_100 ?_
  refine ct_arr (ty := .int) (cA := cI) (t0 := 0) (N := 100) (a0 := (100, .inl fun _ => Int32.ofInt 0)) (d := 97) (k := 7) X (List.mem_of_getElem? (i := 6) rfl) (Nat.le_of_ble_eq_true rfl) rfl rfl rfl rfl (by simp) rfl (at_in arI rfl) a0I sz_100.1 sz_100.2 cbI_100 (by show _ ≤ (8 : Nat); omega) (by show _ ≤ (170 : Nat); omega) hA diX0_63 diX0_65 (Nat.le_of_ble_eq_true rfl) hP hD hS (fun a7 H locs hP hD hS => ?_)
  have hP : va_P D cls9 ((h0, .inr (0, [.ref a0, .ref a1, .ref a2, .ref a3, .ref a4, .ref a5, .ref a6, .ref a7, .int 0, .int 0])) :: [(a0, .inl (cZ, (10, .inl fun _ => Int32.ofInt 0))), (a1, .inl (cI, (10, .inl fun _ => Int32.ofInt 0))), (a2, .inl (cI, (10, .inl fun _ => Int32.ofInt 0))), (a3, .inl (cI, (10, .inl fun _ => Int32.ofInt 0))), (a4, .inl (cI, (10, .inl fun _ => Int32.ofInt 0))), (a5, .inl (cI, (10, .inl fun _ => Int32.ofInt 0))), (a6, .inl (cI, (10, .inl fun _ => Int32.ofInt 0))), (a7, .inl (cI, (100, .inl fun _ => Int32.ofInt 0)))]) H := hP
  have hD : va_D A ((h0, .inr (0, [.ref a0, .ref a1, .ref a2, .ref a3, .ref a4, .ref a5, .ref a6, .ref a7, .int 0, .int 0])) :: [(a0, .inl (cZ, (10, .inl fun _ => Int32.ofInt 0))), (a1, .inl (cI, (10, .inl fun _ => Int32.ofInt 0))), (a2, .inl (cI, (10, .inl fun _ => Int32.ofInt 0))), (a3, .inl (cI, (10, .inl fun _ => Int32.ofInt 0))), (a4, .inl (cI, (10, .inl fun _ => Int32.ofInt 0))), (a5, .inl (cI, (10, .inl fun _ => Int32.ofInt 0))), (a6, .inl (cI, (10, .inl fun _ => Int32.ofInt 0))), (a7, .inl (cI, (100, .inl fun _ => Int32.ofInt 0)))]) := hD
  refine lv_aload_n X.1 X.2.1 diX0_68 rfl (lv_at hl 0 rfl) ?_
  refine lv_iconst (v := Int32.ofInt 0) X.1 X.2.1 diX0_69 bp_iconst_0 ?_
  refine ct_int (d := 100) (k := 8) X (List.mem_of_getElem? (i := 7) rfl) (Nat.le_of_ble_eq_true rfl) rfl (by first | rfl | exact i_zn (Or.inl rfl)) (by first | rfl | decide) diX0_70 (Nat.le_of_ble_eq_true rfl) hP hD hS (fun H locs hP hD hS => ?_)
  have hP : va_P D cls9 ((h0, .inr (0, [.ref a0, .ref a1, .ref a2, .ref a3, .ref a4, .ref a5, .ref a6, .ref a7, .int (Int32.ofInt 0), .int 0])) :: [(a0, .inl (cZ, (10, .inl fun _ => Int32.ofInt 0))), (a1, .inl (cI, (10, .inl fun _ => Int32.ofInt 0))), (a2, .inl (cI, (10, .inl fun _ => Int32.ofInt 0))), (a3, .inl (cI, (10, .inl fun _ => Int32.ofInt 0))), (a4, .inl (cI, (10, .inl fun _ => Int32.ofInt 0))), (a5, .inl (cI, (10, .inl fun _ => Int32.ofInt 0))), (a6, .inl (cI, (10, .inl fun _ => Int32.ofInt 0))), (a7, .inl (cI, (100, .inl fun _ => Int32.ofInt 0)))]) H := hP
  have hD : va_D A ((h0, .inr (0, [.ref a0, .ref a1, .ref a2, .ref a3, .ref a4, .ref a5, .ref a6, .ref a7, .int (Int32.ofInt 0), .int 0])) :: [(a0, .inl (cZ, (10, .inl fun _ => Int32.ofInt 0))), (a1, .inl (cI, (10, .inl fun _ => Int32.ofInt 0))), (a2, .inl (cI, (10, .inl fun _ => Int32.ofInt 0))), (a3, .inl (cI, (10, .inl fun _ => Int32.ofInt 0))), (a4, .inl (cI, (10, .inl fun _ => Int32.ofInt 0))), (a5, .inl (cI, (10, .inl fun _ => Int32.ofInt 0))), (a6, .inl (cI, (10, .inl fun _ => Int32.ofInt 0))), (a7, .inl (cI, (100, .inl fun _ => Int32.ofInt 0)))]) := hD
  refine lv_aload_n X.1 X.2.1 diX0_73 rfl (lv_at hl 0 rfl) ?_
  refine lv_iconst (v := Int32.ofInt 0) X.1 X.2.1 diX0_74 bp_iconst_0 ?_
  refine ct_int (d := 104) (k := 9) X (List.mem_of_getElem? (i := 8) rfl) (Nat.le_of_ble_eq_true rfl) rfl (by first | rfl | exact i_zn (Or.inl rfl)) (by first | rfl | decide) diX0_75 (Nat.le_of_ble_eq_true rfl) hP hD hS (fun H locs hP hD hS => ?_)
  have hP : va_P D cls9 ((h0, .inr (0, [.ref a0, .ref a1, .ref a2, .ref a3, .ref a4, .ref a5, .ref a6, .ref a7, .int (Int32.ofInt 0), .int (Int32.ofInt 0)])) :: [(a0, .inl (cZ, (10, .inl fun _ => Int32.ofInt 0))), (a1, .inl (cI, (10, .inl fun _ => Int32.ofInt 0))), (a2, .inl (cI, (10, .inl fun _ => Int32.ofInt 0))), (a3, .inl (cI, (10, .inl fun _ => Int32.ofInt 0))), (a4, .inl (cI, (10, .inl fun _ => Int32.ofInt 0))), (a5, .inl (cI, (10, .inl fun _ => Int32.ofInt 0))), (a6, .inl (cI, (10, .inl fun _ => Int32.ofInt 0))), (a7, .inl (cI, (100, .inl fun _ => Int32.ofInt 0)))]) H := hP
  have hD : va_D A ((h0, .inr (0, [.ref a0, .ref a1, .ref a2, .ref a3, .ref a4, .ref a5, .ref a6, .ref a7, .int (Int32.ofInt 0), .int (Int32.ofInt 0)])) :: [(a0, .inl (cZ, (10, .inl fun _ => Int32.ofInt 0))), (a1, .inl (cI, (10, .inl fun _ => Int32.ofInt 0))), (a2, .inl (cI, (10, .inl fun _ => Int32.ofInt 0))), (a3, .inl (cI, (10, .inl fun _ => Int32.ofInt 0))), (a4, .inl (cI, (10, .inl fun _ => Int32.ofInt 0))), (a5, .inl (cI, (10, .inl fun _ => Int32.ofInt 0))), (a6, .inl (cI, (10, .inl fun _ => Int32.ofInt 0))), (a7, .inl (cI, (100, .inl fun _ => Int32.ofInt 0)))]) := hD
  have hP9 : va_P D cls9 (wc0 cI cZ cJ h0 (fun i => nt 0 [a0, a1, a2, a3, a4, a5, a6, a7] i)) H := hP
  have hD9 : va_D A (wc0 cI cZ cJ h0 (fun i => nt 0 [a0, a1, a2, a3, a4, a5, a6, a7] i)) := hD
  refine W.widen (k := 8) (n := 170) (by omega) (by omega) ?_
  exact W.vret X.1 X.2.1 hr (fun t ht _ => ⟨⟨(fun i => nt 0 [a0, a1, a2, a3, a4, a5, a6, a7] i), rfl, trivial, (by rw [← ht] at hP9; exact hP9), (by rw [hAe]; exact hD9)⟩, by rw [hAe]; exact hS.F ht⟩) hS.2.2 diX0_78
def wc1 (cI cZ cJ : ClassId) (h0 : Nat) (u : Nat → Nat) : va_W := (h0, .inr (1, [.ref (u 0), .ref (u 1), .ref (u 2), .ref (u 3), .ref (u 4), .ref (u 5), .ref (u 6), .ref (u 7), .int (Int32.ofInt 0)])) :: [(u 0, .inl (cI, (12, .inl fun _ => Int32.ofInt 0))), (u 1, .inl (cI, (12, .inl fun _ => Int32.ofInt 0))), (u 2, .inl (cI, (12, .inl fun _ => Int32.ofInt 0))), (u 3, .inl (cI, (12, .inl fun _ => Int32.ofInt 0))), (u 4, .inl (cI, (12, .inl fun _ => Int32.ofInt 0))), (u 5, .inl (cI, (12, .inl fun _ => Int32.ofInt 0))), (u 6, .inl (cI, (12, .inl fun _ => Int32.ofInt 0))), (u 7, .inl (cI, (1200, .inl fun _ => Int32.ofInt 0)))]
set_option maxHeartbeats 40000000 in
theorem mi1 (l : Launch) (D : va_G) (cI cZ cJ : ClassId) (h0 sz : Nat) : Met l yX1_init (Cond.code yX1_init cX1_init 1 none :: lw_ok) { frames := 1, cells := 8, slots := 1284, locals := 12 } (Pci D cI cZ cJ h0 sz (.inr (1, [.null, .null, .null, .null, .null, .null, .null, .null, .int 0]))) (Qci D h0 sz (.inr (1, [.null, .null, .null, .null, .null, .null, .null, .null, .int 0])) (wc1 cI cZ cJ)) 8 1284 (va_A [(h0, (.inr (1, [.null, .null, .null, .null, .null, .null, .null, .null, .int 0])))] sz) := by
  refine Met.ofW (cc := cX1_init) (maxL := 1) (ret := none) (by decide) rfl ?_
  intro p e s m args below meth c s₁ B hml hv
  obtain ⟨rfl, hsz, hP, hK, hD0, hns⟩ := hv
  have hr := B.returns
  have hlocks := B.notSynchronized
  have hts := atoms_spec (ws := Cond.code yX1_init cX1_init 1 none :: lw_ok) B.pre
  have X : Cy p s m _ meth c D cI cZ cJ cX1_init 1 := ⟨B.exec, B.bytes, hml, findClass_of_methodNamed B.named, fun w hw => hts w (List.mem_cons_of_mem _ hw), hK, (name_of_methodNamed B.named B.method).1, by decide, hns⟩
  subst hsz
  have hD := hD0.self (sz := s.heap.size)
  generalize hAe : va_A [(h0, (.inr (1, [.null, .null, .null, .null, .null, .null, .null, .null, .int 0]) : va_E))] s.heap.size = A at hD ⊢
  have hA : ∀ q : Nat, s.heap.size ≤ q → A q := fun q h => by rw [← hAe]; exact Or.inr h
  have hS : va_S A s.heap s.heap [] := va_S.rf
  have hl := lv_entry ([.ref h0]) (n := 1) (Nat.le_of_ble_eq_true rfl)
  rw [lg_entry_eq]
  generalize (lg_sl ([.ref h0]) ++ List.replicate (1 - (lg_sl ([.ref h0])).length) Slot.unset).toArray = ls at hl ⊢
  have hl : lv_has ls 1 [(0, .ref h0)] := hl
  refine lv_aload_n X.1 X.2.1 diX1_0 rfl (lv_at hl 0 rfl) ?_
  refine ct_obj (d := 134) X (by decide) hl.1 ⟨Nat.le_of_ble_eq_true rfl, Nat.le_of_ble_eq_true rfl⟩ diX1_1 ?_
  refine lv_aload_n X.1 X.2.1 diX1_4 rfl (lv_at hl 0 rfl) ?_
  refine lv_bipush (v := Int32.ofInt 12) X.1 X.2.1 diX1_5 bp_bipush_12 ?_
  refine ct_arr (ty := .int) (cA := cI) (t0 := 0) (N := 12) (a0 := (12, .inl fun _ => Int32.ofInt 0)) (d := 135) (k := 0) X (List.mem_of_getElem? (i := 18) rfl) (Nat.le_of_ble_eq_true rfl) rfl rfl rfl rfl (by simp) rfl (at_in arI rfl) a0I sz_12.1 sz_12.2 cbI_12 (by show _ ≤ (8 : Nat); omega) (by show _ ≤ (1284 : Nat); omega) hA diX1_7 diX1_9 (Nat.le_of_ble_eq_true rfl) hP hD hS (fun a0 H locs hP hD hS => ?_)
  have hP : va_P D cls9 ((h0, .inr (1, [.ref a0, .null, .null, .null, .null, .null, .null, .null, .int 0])) :: [(a0, .inl (cI, (12, .inl fun _ => Int32.ofInt 0)))]) H := hP
  have hD : va_D A ((h0, .inr (1, [.ref a0, .null, .null, .null, .null, .null, .null, .null, .int 0])) :: [(a0, .inl (cI, (12, .inl fun _ => Int32.ofInt 0)))]) := hD
  refine lv_aload_n X.1 X.2.1 diX1_12 rfl (lv_at hl 0 rfl) ?_
  refine lv_bipush (v := Int32.ofInt 12) X.1 X.2.1 diX1_13 bp_bipush_12 ?_
  refine ct_arr (ty := .int) (cA := cI) (t0 := 0) (N := 12) (a0 := (12, .inl fun _ => Int32.ofInt 0)) (d := 137) (k := 1) X (List.mem_of_getElem? (i := 10) rfl) (Nat.le_of_ble_eq_true rfl) rfl rfl rfl rfl (by simp) rfl (at_in arI rfl) a0I sz_12.1 sz_12.2 cbI_12 (by show _ ≤ (8 : Nat); omega) (by show _ ≤ (1284 : Nat); omega) hA diX1_15 diX1_17 (Nat.le_of_ble_eq_true rfl) hP hD hS (fun a1 H locs hP hD hS => ?_)
  have hP : va_P D cls9 ((h0, .inr (1, [.ref a0, .ref a1, .null, .null, .null, .null, .null, .null, .int 0])) :: [(a0, .inl (cI, (12, .inl fun _ => Int32.ofInt 0))), (a1, .inl (cI, (12, .inl fun _ => Int32.ofInt 0)))]) H := hP
  have hD : va_D A ((h0, .inr (1, [.ref a0, .ref a1, .null, .null, .null, .null, .null, .null, .int 0])) :: [(a0, .inl (cI, (12, .inl fun _ => Int32.ofInt 0))), (a1, .inl (cI, (12, .inl fun _ => Int32.ofInt 0)))]) := hD
  refine lv_aload_n X.1 X.2.1 diX1_20 rfl (lv_at hl 0 rfl) ?_
  refine lv_bipush (v := Int32.ofInt 12) X.1 X.2.1 diX1_21 bp_bipush_12 ?_
  refine ct_arr (ty := .int) (cA := cI) (t0 := 0) (N := 12) (a0 := (12, .inl fun _ => Int32.ofInt 0)) (d := 139) (k := 2) X (List.mem_of_getElem? (i := 11) rfl) (Nat.le_of_ble_eq_true rfl) rfl rfl rfl rfl (by simp) rfl (at_in arI rfl) a0I sz_12.1 sz_12.2 cbI_12 (by show _ ≤ (8 : Nat); omega) (by show _ ≤ (1284 : Nat); omega) hA diX1_23 diX1_25 (Nat.le_of_ble_eq_true rfl) hP hD hS (fun a2 H locs hP hD hS => ?_)
  have hP : va_P D cls9 ((h0, .inr (1, [.ref a0, .ref a1, .ref a2, .null, .null, .null, .null, .null, .int 0])) :: [(a0, .inl (cI, (12, .inl fun _ => Int32.ofInt 0))), (a1, .inl (cI, (12, .inl fun _ => Int32.ofInt 0))), (a2, .inl (cI, (12, .inl fun _ => Int32.ofInt 0)))]) H := hP
  have hD : va_D A ((h0, .inr (1, [.ref a0, .ref a1, .ref a2, .null, .null, .null, .null, .null, .int 0])) :: [(a0, .inl (cI, (12, .inl fun _ => Int32.ofInt 0))), (a1, .inl (cI, (12, .inl fun _ => Int32.ofInt 0))), (a2, .inl (cI, (12, .inl fun _ => Int32.ofInt 0)))]) := hD
  refine lv_aload_n X.1 X.2.1 diX1_28 rfl (lv_at hl 0 rfl) ?_
  refine lv_bipush (v := Int32.ofInt 12) X.1 X.2.1 diX1_29 bp_bipush_12 ?_
  refine ct_arr (ty := .int) (cA := cI) (t0 := 0) (N := 12) (a0 := (12, .inl fun _ => Int32.ofInt 0)) (d := 142) (k := 3) X (List.mem_of_getElem? (i := 12) rfl) (Nat.le_of_ble_eq_true rfl) rfl rfl rfl rfl (by simp) rfl (at_in arI rfl) a0I sz_12.1 sz_12.2 cbI_12 (by show _ ≤ (8 : Nat); omega) (by show _ ≤ (1284 : Nat); omega) hA diX1_31 diX1_33 (Nat.le_of_ble_eq_true rfl) hP hD hS (fun a3 H locs hP hD hS => ?_)
  have hP : va_P D cls9 ((h0, .inr (1, [.ref a0, .ref a1, .ref a2, .ref a3, .null, .null, .null, .null, .int 0])) :: [(a0, .inl (cI, (12, .inl fun _ => Int32.ofInt 0))), (a1, .inl (cI, (12, .inl fun _ => Int32.ofInt 0))), (a2, .inl (cI, (12, .inl fun _ => Int32.ofInt 0))), (a3, .inl (cI, (12, .inl fun _ => Int32.ofInt 0)))]) H := hP
  have hD : va_D A ((h0, .inr (1, [.ref a0, .ref a1, .ref a2, .ref a3, .null, .null, .null, .null, .int 0])) :: [(a0, .inl (cI, (12, .inl fun _ => Int32.ofInt 0))), (a1, .inl (cI, (12, .inl fun _ => Int32.ofInt 0))), (a2, .inl (cI, (12, .inl fun _ => Int32.ofInt 0))), (a3, .inl (cI, (12, .inl fun _ => Int32.ofInt 0)))]) := hD
  refine lv_aload_n X.1 X.2.1 diX1_36 rfl (lv_at hl 0 rfl) ?_
  refine lv_bipush (v := Int32.ofInt 12) X.1 X.2.1 diX1_37 bp_bipush_12 ?_
  refine ct_arr (ty := .int) (cA := cI) (t0 := 0) (N := 12) (a0 := (12, .inl fun _ => Int32.ofInt 0)) (d := 144) (k := 4) X (List.mem_of_getElem? (i := 13) rfl) (Nat.le_of_ble_eq_true rfl) rfl rfl rfl rfl (by simp) rfl (at_in arI rfl) a0I sz_12.1 sz_12.2 cbI_12 (by show _ ≤ (8 : Nat); omega) (by show _ ≤ (1284 : Nat); omega) hA diX1_39 diX1_41 (Nat.le_of_ble_eq_true rfl) hP hD hS (fun a4 H locs hP hD hS => ?_)
  have hP : va_P D cls9 ((h0, .inr (1, [.ref a0, .ref a1, .ref a2, .ref a3, .ref a4, .null, .null, .null, .int 0])) :: [(a0, .inl (cI, (12, .inl fun _ => Int32.ofInt 0))), (a1, .inl (cI, (12, .inl fun _ => Int32.ofInt 0))), (a2, .inl (cI, (12, .inl fun _ => Int32.ofInt 0))), (a3, .inl (cI, (12, .inl fun _ => Int32.ofInt 0))), (a4, .inl (cI, (12, .inl fun _ => Int32.ofInt 0)))]) H := hP
  have hD : va_D A ((h0, .inr (1, [.ref a0, .ref a1, .ref a2, .ref a3, .ref a4, .null, .null, .null, .int 0])) :: [(a0, .inl (cI, (12, .inl fun _ => Int32.ofInt 0))), (a1, .inl (cI, (12, .inl fun _ => Int32.ofInt 0))), (a2, .inl (cI, (12, .inl fun _ => Int32.ofInt 0))), (a3, .inl (cI, (12, .inl fun _ => Int32.ofInt 0))), (a4, .inl (cI, (12, .inl fun _ => Int32.ofInt 0)))]) := hD
  refine lv_aload_n X.1 X.2.1 diX1_44 rfl (lv_at hl 0 rfl) ?_
  refine lv_bipush (v := Int32.ofInt 12) X.1 X.2.1 diX1_45 bp_bipush_12 ?_
  refine ct_arr (ty := .int) (cA := cI) (t0 := 0) (N := 12) (a0 := (12, .inl fun _ => Int32.ofInt 0)) (d := 146) (k := 5) X (List.mem_of_getElem? (i := 14) rfl) (Nat.le_of_ble_eq_true rfl) rfl rfl rfl rfl (by simp) rfl (at_in arI rfl) a0I sz_12.1 sz_12.2 cbI_12 (by show _ ≤ (8 : Nat); omega) (by show _ ≤ (1284 : Nat); omega) hA diX1_47 diX1_49 (Nat.le_of_ble_eq_true rfl) hP hD hS (fun a5 H locs hP hD hS => ?_)
  have hP : va_P D cls9 ((h0, .inr (1, [.ref a0, .ref a1, .ref a2, .ref a3, .ref a4, .ref a5, .null, .null, .int 0])) :: [(a0, .inl (cI, (12, .inl fun _ => Int32.ofInt 0))), (a1, .inl (cI, (12, .inl fun _ => Int32.ofInt 0))), (a2, .inl (cI, (12, .inl fun _ => Int32.ofInt 0))), (a3, .inl (cI, (12, .inl fun _ => Int32.ofInt 0))), (a4, .inl (cI, (12, .inl fun _ => Int32.ofInt 0))), (a5, .inl (cI, (12, .inl fun _ => Int32.ofInt 0)))]) H := hP
  have hD : va_D A ((h0, .inr (1, [.ref a0, .ref a1, .ref a2, .ref a3, .ref a4, .ref a5, .null, .null, .int 0])) :: [(a0, .inl (cI, (12, .inl fun _ => Int32.ofInt 0))), (a1, .inl (cI, (12, .inl fun _ => Int32.ofInt 0))), (a2, .inl (cI, (12, .inl fun _ => Int32.ofInt 0))), (a3, .inl (cI, (12, .inl fun _ => Int32.ofInt 0))), (a4, .inl (cI, (12, .inl fun _ => Int32.ofInt 0))), (a5, .inl (cI, (12, .inl fun _ => Int32.ofInt 0)))]) := hD
  refine lv_aload_n X.1 X.2.1 diX1_52 rfl (lv_at hl 0 rfl) ?_
  refine lv_bipush (v := Int32.ofInt 12) X.1 X.2.1 diX1_53 bp_bipush_12 ?_
  refine ct_arr (ty := .int) (cA := cI) (t0 := 0) (N := 12) (a0 := (12, .inl fun _ => Int32.ofInt 0)) (d := 149) (k := 6) X (List.mem_of_getElem? (i := 15) rfl) (Nat.le_of_ble_eq_true rfl) rfl rfl rfl rfl (by simp) rfl (at_in arI rfl) a0I sz_12.1 sz_12.2 cbI_12 (by show _ ≤ (8 : Nat); omega) (by show _ ≤ (1284 : Nat); omega) hA diX1_55 diX1_57 (Nat.le_of_ble_eq_true rfl) hP hD hS (fun a6 H locs hP hD hS => ?_)
  have hP : va_P D cls9 ((h0, .inr (1, [.ref a0, .ref a1, .ref a2, .ref a3, .ref a4, .ref a5, .ref a6, .null, .int 0])) :: [(a0, .inl (cI, (12, .inl fun _ => Int32.ofInt 0))), (a1, .inl (cI, (12, .inl fun _ => Int32.ofInt 0))), (a2, .inl (cI, (12, .inl fun _ => Int32.ofInt 0))), (a3, .inl (cI, (12, .inl fun _ => Int32.ofInt 0))), (a4, .inl (cI, (12, .inl fun _ => Int32.ofInt 0))), (a5, .inl (cI, (12, .inl fun _ => Int32.ofInt 0))), (a6, .inl (cI, (12, .inl fun _ => Int32.ofInt 0)))]) H := hP
  have hD : va_D A ((h0, .inr (1, [.ref a0, .ref a1, .ref a2, .ref a3, .ref a4, .ref a5, .ref a6, .null, .int 0])) :: [(a0, .inl (cI, (12, .inl fun _ => Int32.ofInt 0))), (a1, .inl (cI, (12, .inl fun _ => Int32.ofInt 0))), (a2, .inl (cI, (12, .inl fun _ => Int32.ofInt 0))), (a3, .inl (cI, (12, .inl fun _ => Int32.ofInt 0))), (a4, .inl (cI, (12, .inl fun _ => Int32.ofInt 0))), (a5, .inl (cI, (12, .inl fun _ => Int32.ofInt 0))), (a6, .inl (cI, (12, .inl fun _ => Int32.ofInt 0)))]) := hD
  refine lv_aload_n X.1 X.2.1 diX1_60 rfl (lv_at hl 0 rfl) ?_
  refine lv_sipush (v := Int32.ofInt 1200) X.1 X.2.1 diX1_61 bp_sipush_1200 ?_
  refine ct_arr (ty := .int) (cA := cI) (t0 := 0) (N := 1200) (a0 := (1200, .inl fun _ => Int32.ofInt 0)) (d := 151) (k := 7) X (List.mem_of_getElem? (i := 16) rfl) (Nat.le_of_ble_eq_true rfl) rfl rfl rfl rfl (by simp) rfl (at_in arI rfl) a0I sz_1200.1 sz_1200.2 cbI_1200 (by show _ ≤ (8 : Nat); omega) (by show _ ≤ (1284 : Nat); omega) hA diX1_64 diX1_66 (Nat.le_of_ble_eq_true rfl) hP hD hS (fun a7 H locs hP hD hS => ?_)
  have hP : va_P D cls9 ((h0, .inr (1, [.ref a0, .ref a1, .ref a2, .ref a3, .ref a4, .ref a5, .ref a6, .ref a7, .int 0])) :: [(a0, .inl (cI, (12, .inl fun _ => Int32.ofInt 0))), (a1, .inl (cI, (12, .inl fun _ => Int32.ofInt 0))), (a2, .inl (cI, (12, .inl fun _ => Int32.ofInt 0))), (a3, .inl (cI, (12, .inl fun _ => Int32.ofInt 0))), (a4, .inl (cI, (12, .inl fun _ => Int32.ofInt 0))), (a5, .inl (cI, (12, .inl fun _ => Int32.ofInt 0))), (a6, .inl (cI, (12, .inl fun _ => Int32.ofInt 0))), (a7, .inl (cI, (1200, .inl fun _ => Int32.ofInt 0)))]) H := hP
  have hD : va_D A ((h0, .inr (1, [.ref a0, .ref a1, .ref a2, .ref a3, .ref a4, .ref a5, .ref a6, .ref a7, .int 0])) :: [(a0, .inl (cI, (12, .inl fun _ => Int32.ofInt 0))), (a1, .inl (cI, (12, .inl fun _ => Int32.ofInt 0))), (a2, .inl (cI, (12, .inl fun _ => Int32.ofInt 0))), (a3, .inl (cI, (12, .inl fun _ => Int32.ofInt 0))), (a4, .inl (cI, (12, .inl fun _ => Int32.ofInt 0))), (a5, .inl (cI, (12, .inl fun _ => Int32.ofInt 0))), (a6, .inl (cI, (12, .inl fun _ => Int32.ofInt 0))), (a7, .inl (cI, (1200, .inl fun _ => Int32.ofInt 0)))]) := hD
  refine lv_aload_n X.1 X.2.1 diX1_69 rfl (lv_at hl 0 rfl) ?_
  refine lv_iconst (v := Int32.ofInt 0) X.1 X.2.1 diX1_70 bp_iconst_0 ?_
  refine ct_int (d := 153) (k := 8) X (List.mem_of_getElem? (i := 17) rfl) (Nat.le_of_ble_eq_true rfl) rfl (by first | rfl | exact i_zn (Or.inl rfl)) (by first | rfl | decide) diX1_71 (Nat.le_of_ble_eq_true rfl) hP hD hS (fun H locs hP hD hS => ?_)
  have hP : va_P D cls9 ((h0, .inr (1, [.ref a0, .ref a1, .ref a2, .ref a3, .ref a4, .ref a5, .ref a6, .ref a7, .int (Int32.ofInt 0)])) :: [(a0, .inl (cI, (12, .inl fun _ => Int32.ofInt 0))), (a1, .inl (cI, (12, .inl fun _ => Int32.ofInt 0))), (a2, .inl (cI, (12, .inl fun _ => Int32.ofInt 0))), (a3, .inl (cI, (12, .inl fun _ => Int32.ofInt 0))), (a4, .inl (cI, (12, .inl fun _ => Int32.ofInt 0))), (a5, .inl (cI, (12, .inl fun _ => Int32.ofInt 0))), (a6, .inl (cI, (12, .inl fun _ => Int32.ofInt 0))), (a7, .inl (cI, (1200, .inl fun _ => Int32.ofInt 0)))]) H := hP
  have hD : va_D A ((h0, .inr (1, [.ref a0, .ref a1, .ref a2, .ref a3, .ref a4, .ref a5, .ref a6, .ref a7, .int (Int32.ofInt 0)])) :: [(a0, .inl (cI, (12, .inl fun _ => Int32.ofInt 0))), (a1, .inl (cI, (12, .inl fun _ => Int32.ofInt 0))), (a2, .inl (cI, (12, .inl fun _ => Int32.ofInt 0))), (a3, .inl (cI, (12, .inl fun _ => Int32.ofInt 0))), (a4, .inl (cI, (12, .inl fun _ => Int32.ofInt 0))), (a5, .inl (cI, (12, .inl fun _ => Int32.ofInt 0))), (a6, .inl (cI, (12, .inl fun _ => Int32.ofInt 0))), (a7, .inl (cI, (1200, .inl fun _ => Int32.ofInt 0)))]) := hD
  have hP9 : va_P D cls9 (wc1 cI cZ cJ h0 (fun i => nt 0 [a0, a1, a2, a3, a4, a5, a6, a7] i)) H := hP
  have hD9 : va_D A (wc1 cI cZ cJ h0 (fun i => nt 0 [a0, a1, a2, a3, a4, a5, a6, a7] i)) := hD
  refine W.widen (k := 8) (n := 1284) (by omega) (by omega) ?_
  exact W.vret X.1 X.2.1 hr (fun t ht _ => ⟨⟨(fun i => nt 0 [a0, a1, a2, a3, a4, a5, a6, a7] i), rfl, trivial, (by rw [← ht] at hP9; exact hP9), (by rw [hAe]; exact hD9)⟩, by rw [hAe]; exact hS.F ht⟩) hS.2.2 diX1_74
def wc6 (cI cZ cJ : ClassId) (h0 : Nat) (u : Nat → Nat) : va_W := (h0, .inr (6, [.ref (u 0), .ref (u 1), .ref (u 2), .ref (u 3), .ref (u 4), .ref (u 5), .ref (u 6), .ref (u 7), .int (Int32.ofInt 0)])) :: [(u 0, .inl (cI, (12, .inl fun _ => Int32.ofInt 0))), (u 1, .inl (cI, (12, .inl fun _ => Int32.ofInt 0))), (u 2, .inl (cI, (12, .inl fun _ => Int32.ofInt 0))), (u 3, .inl (cI, (12, .inl fun _ => Int32.ofInt 0))), (u 4, .inl (cI, (120, .inl fun _ => Int32.ofInt 0))), (u 5, .inl (cI, (10, .inl fun _ => Int32.ofInt 0))), (u 6, .inl (cI, (120, .inl fun _ => Int32.ofInt 0))), (u 7, .inl (cI, (10, .inl fun _ => Int32.ofInt 0)))]
set_option maxHeartbeats 40000000 in
theorem mi6 (l : Launch) (D : va_G) (cI cZ cJ : ClassId) (h0 sz : Nat) : Met l yX6_init (Cond.code yX6_init cX6_init 1 none :: lw_ok) { frames := 1, cells := 8, slots := 308, locals := 12 } (Pci D cI cZ cJ h0 sz (.inr (6, [.null, .null, .null, .null, .null, .null, .null, .null, .int 0]))) (Qci D h0 sz (.inr (6, [.null, .null, .null, .null, .null, .null, .null, .null, .int 0])) (wc6 cI cZ cJ)) 8 308 (va_A [(h0, (.inr (6, [.null, .null, .null, .null, .null, .null, .null, .null, .int 0])))] sz) := by
  refine Met.ofW (cc := cX6_init) (maxL := 1) (ret := none) (by decide) rfl ?_
  intro p e s m args below meth c s₁ B hml hv
  obtain ⟨rfl, hsz, hP, hK, hD0, hns⟩ := hv
  have hr := B.returns
  have hlocks := B.notSynchronized
  have hts := atoms_spec (ws := Cond.code yX6_init cX6_init 1 none :: lw_ok) B.pre
  have X : Cy p s m _ meth c D cI cZ cJ cX6_init 6 := ⟨B.exec, B.bytes, hml, findClass_of_methodNamed B.named, fun w hw => hts w (List.mem_cons_of_mem _ hw), hK, (name_of_methodNamed B.named B.method).1, by decide, hns⟩
  subst hsz
  have hD := hD0.self (sz := s.heap.size)
  generalize hAe : va_A [(h0, (.inr (6, [.null, .null, .null, .null, .null, .null, .null, .null, .int 0]) : va_E))] s.heap.size = A at hD ⊢
  have hA : ∀ q : Nat, s.heap.size ≤ q → A q := fun q h => by rw [← hAe]; exact Or.inr h
  have hS : va_S A s.heap s.heap [] := va_S.rf
  have hl := lv_entry ([.ref h0]) (n := 1) (Nat.le_of_ble_eq_true rfl)
  rw [lg_entry_eq]
  generalize (lg_sl ([.ref h0]) ++ List.replicate (1 - (lg_sl ([.ref h0])).length) Slot.unset).toArray = ls at hl ⊢
  have hl : lv_has ls 1 [(0, .ref h0)] := hl
  refine lv_aload_n X.1 X.2.1 diX6_0 rfl (lv_at hl 0 rfl) ?_
  refine ct_obj (d := 180) X (by decide) hl.1 ⟨Nat.le_of_ble_eq_true rfl, Nat.le_of_ble_eq_true rfl⟩ diX6_1 ?_
  refine lv_aload_n X.1 X.2.1 diX6_4 rfl (lv_at hl 0 rfl) ?_
  refine lv_bipush (v := Int32.ofInt 12) X.1 X.2.1 diX6_5 bp_bipush_12 ?_
  refine ct_arr (ty := .int) (cA := cI) (t0 := 0) (N := 12) (a0 := (12, .inl fun _ => Int32.ofInt 0)) (d := 181) (k := 0) X (List.mem_of_getElem? (i := 58) rfl) (Nat.le_of_ble_eq_true rfl) rfl rfl rfl rfl (by simp) rfl (at_in arI rfl) a0I sz_12.1 sz_12.2 cbI_12 (by show _ ≤ (8 : Nat); omega) (by show _ ≤ (308 : Nat); omega) hA diX6_7 diX6_9 (Nat.le_of_ble_eq_true rfl) hP hD hS (fun a0 H locs hP hD hS => ?_)
  have hP : va_P D cls9 ((h0, .inr (6, [.ref a0, .null, .null, .null, .null, .null, .null, .null, .int 0])) :: [(a0, .inl (cI, (12, .inl fun _ => Int32.ofInt 0)))]) H := hP
  have hD : va_D A ((h0, .inr (6, [.ref a0, .null, .null, .null, .null, .null, .null, .null, .int 0])) :: [(a0, .inl (cI, (12, .inl fun _ => Int32.ofInt 0)))]) := hD
  refine lv_aload_n X.1 X.2.1 diX6_12 rfl (lv_at hl 0 rfl) ?_
  refine lv_bipush (v := Int32.ofInt 12) X.1 X.2.1 diX6_13 bp_bipush_12 ?_
  refine ct_arr (ty := .int) (cA := cI) (t0 := 0) (N := 12) (a0 := (12, .inl fun _ => Int32.ofInt 0)) (d := 183) (k := 1) X (List.mem_of_getElem? (i := 50) rfl) (Nat.le_of_ble_eq_true rfl) rfl rfl rfl rfl (by simp) rfl (at_in arI rfl) a0I sz_12.1 sz_12.2 cbI_12 (by show _ ≤ (8 : Nat); omega) (by show _ ≤ (308 : Nat); omega) hA diX6_15 diX6_17 (Nat.le_of_ble_eq_true rfl) hP hD hS (fun a1 H locs hP hD hS => ?_)
  have hP : va_P D cls9 ((h0, .inr (6, [.ref a0, .ref a1, .null, .null, .null, .null, .null, .null, .int 0])) :: [(a0, .inl (cI, (12, .inl fun _ => Int32.ofInt 0))), (a1, .inl (cI, (12, .inl fun _ => Int32.ofInt 0)))]) H := hP
  have hD : va_D A ((h0, .inr (6, [.ref a0, .ref a1, .null, .null, .null, .null, .null, .null, .int 0])) :: [(a0, .inl (cI, (12, .inl fun _ => Int32.ofInt 0))), (a1, .inl (cI, (12, .inl fun _ => Int32.ofInt 0)))]) := hD
  refine lv_aload_n X.1 X.2.1 diX6_20 rfl (lv_at hl 0 rfl) ?_
  refine lv_bipush (v := Int32.ofInt 12) X.1 X.2.1 diX6_21 bp_bipush_12 ?_
  refine ct_arr (ty := .int) (cA := cI) (t0 := 0) (N := 12) (a0 := (12, .inl fun _ => Int32.ofInt 0)) (d := 185) (k := 2) X (List.mem_of_getElem? (i := 51) rfl) (Nat.le_of_ble_eq_true rfl) rfl rfl rfl rfl (by simp) rfl (at_in arI rfl) a0I sz_12.1 sz_12.2 cbI_12 (by show _ ≤ (8 : Nat); omega) (by show _ ≤ (308 : Nat); omega) hA diX6_23 diX6_25 (Nat.le_of_ble_eq_true rfl) hP hD hS (fun a2 H locs hP hD hS => ?_)
  have hP : va_P D cls9 ((h0, .inr (6, [.ref a0, .ref a1, .ref a2, .null, .null, .null, .null, .null, .int 0])) :: [(a0, .inl (cI, (12, .inl fun _ => Int32.ofInt 0))), (a1, .inl (cI, (12, .inl fun _ => Int32.ofInt 0))), (a2, .inl (cI, (12, .inl fun _ => Int32.ofInt 0)))]) H := hP
  have hD : va_D A ((h0, .inr (6, [.ref a0, .ref a1, .ref a2, .null, .null, .null, .null, .null, .int 0])) :: [(a0, .inl (cI, (12, .inl fun _ => Int32.ofInt 0))), (a1, .inl (cI, (12, .inl fun _ => Int32.ofInt 0))), (a2, .inl (cI, (12, .inl fun _ => Int32.ofInt 0)))]) := hD
  refine lv_aload_n X.1 X.2.1 diX6_28 rfl (lv_at hl 0 rfl) ?_
  refine lv_bipush (v := Int32.ofInt 12) X.1 X.2.1 diX6_29 bp_bipush_12 ?_
  refine ct_arr (ty := .int) (cA := cI) (t0 := 0) (N := 12) (a0 := (12, .inl fun _ => Int32.ofInt 0)) (d := 187) (k := 3) X (List.mem_of_getElem? (i := 52) rfl) (Nat.le_of_ble_eq_true rfl) rfl rfl rfl rfl (by simp) rfl (at_in arI rfl) a0I sz_12.1 sz_12.2 cbI_12 (by show _ ≤ (8 : Nat); omega) (by show _ ≤ (308 : Nat); omega) hA diX6_31 diX6_33 (Nat.le_of_ble_eq_true rfl) hP hD hS (fun a3 H locs hP hD hS => ?_)
  have hP : va_P D cls9 ((h0, .inr (6, [.ref a0, .ref a1, .ref a2, .ref a3, .null, .null, .null, .null, .int 0])) :: [(a0, .inl (cI, (12, .inl fun _ => Int32.ofInt 0))), (a1, .inl (cI, (12, .inl fun _ => Int32.ofInt 0))), (a2, .inl (cI, (12, .inl fun _ => Int32.ofInt 0))), (a3, .inl (cI, (12, .inl fun _ => Int32.ofInt 0)))]) H := hP
  have hD : va_D A ((h0, .inr (6, [.ref a0, .ref a1, .ref a2, .ref a3, .null, .null, .null, .null, .int 0])) :: [(a0, .inl (cI, (12, .inl fun _ => Int32.ofInt 0))), (a1, .inl (cI, (12, .inl fun _ => Int32.ofInt 0))), (a2, .inl (cI, (12, .inl fun _ => Int32.ofInt 0))), (a3, .inl (cI, (12, .inl fun _ => Int32.ofInt 0)))]) := hD
  refine lv_aload_n X.1 X.2.1 diX6_36 rfl (lv_at hl 0 rfl) ?_
  refine lv_bipush (v := Int32.ofInt 120) X.1 X.2.1 diX6_37 bp_bipush_120 ?_
  refine ct_arr (ty := .int) (cA := cI) (t0 := 0) (N := 120) (a0 := (120, .inl fun _ => Int32.ofInt 0)) (d := 189) (k := 4) X (List.mem_of_getElem? (i := 53) rfl) (Nat.le_of_ble_eq_true rfl) rfl rfl rfl rfl (by simp) rfl (at_in arI rfl) a0I sz_120.1 sz_120.2 cbI_120 (by show _ ≤ (8 : Nat); omega) (by show _ ≤ (308 : Nat); omega) hA diX6_39 diX6_41 (Nat.le_of_ble_eq_true rfl) hP hD hS (fun a4 H locs hP hD hS => ?_)
  have hP : va_P D cls9 ((h0, .inr (6, [.ref a0, .ref a1, .ref a2, .ref a3, .ref a4, .null, .null, .null, .int 0])) :: [(a0, .inl (cI, (12, .inl fun _ => Int32.ofInt 0))), (a1, .inl (cI, (12, .inl fun _ => Int32.ofInt 0))), (a2, .inl (cI, (12, .inl fun _ => Int32.ofInt 0))), (a3, .inl (cI, (12, .inl fun _ => Int32.ofInt 0))), (a4, .inl (cI, (120, .inl fun _ => Int32.ofInt 0)))]) H := hP
  have hD : va_D A ((h0, .inr (6, [.ref a0, .ref a1, .ref a2, .ref a3, .ref a4, .null, .null, .null, .int 0])) :: [(a0, .inl (cI, (12, .inl fun _ => Int32.ofInt 0))), (a1, .inl (cI, (12, .inl fun _ => Int32.ofInt 0))), (a2, .inl (cI, (12, .inl fun _ => Int32.ofInt 0))), (a3, .inl (cI, (12, .inl fun _ => Int32.ofInt 0))), (a4, .inl (cI, (120, .inl fun _ => Int32.ofInt 0)))]) := hD
  refine lv_aload_n X.1 X.2.1 diX6_44 rfl (lv_at hl 0 rfl) ?_
  refine lv_bipush (v := Int32.ofInt 10) X.1 X.2.1 diX6_45 bp_bipush_10 ?_
  refine ct_arr (ty := .int) (cA := cI) (t0 := 0) (N := 10) (a0 := (10, .inl fun _ => Int32.ofInt 0)) (d := 191) (k := 5) X (List.mem_of_getElem? (i := 54) rfl) (Nat.le_of_ble_eq_true rfl) rfl rfl rfl rfl (by simp) rfl (at_in arI rfl) a0I sz_10.1 sz_10.2 cbI_10 (by show _ ≤ (8 : Nat); omega) (by show _ ≤ (308 : Nat); omega) hA diX6_47 diX6_49 (Nat.le_of_ble_eq_true rfl) hP hD hS (fun a5 H locs hP hD hS => ?_)
  have hP : va_P D cls9 ((h0, .inr (6, [.ref a0, .ref a1, .ref a2, .ref a3, .ref a4, .ref a5, .null, .null, .int 0])) :: [(a0, .inl (cI, (12, .inl fun _ => Int32.ofInt 0))), (a1, .inl (cI, (12, .inl fun _ => Int32.ofInt 0))), (a2, .inl (cI, (12, .inl fun _ => Int32.ofInt 0))), (a3, .inl (cI, (12, .inl fun _ => Int32.ofInt 0))), (a4, .inl (cI, (120, .inl fun _ => Int32.ofInt 0))), (a5, .inl (cI, (10, .inl fun _ => Int32.ofInt 0)))]) H := hP
  have hD : va_D A ((h0, .inr (6, [.ref a0, .ref a1, .ref a2, .ref a3, .ref a4, .ref a5, .null, .null, .int 0])) :: [(a0, .inl (cI, (12, .inl fun _ => Int32.ofInt 0))), (a1, .inl (cI, (12, .inl fun _ => Int32.ofInt 0))), (a2, .inl (cI, (12, .inl fun _ => Int32.ofInt 0))), (a3, .inl (cI, (12, .inl fun _ => Int32.ofInt 0))), (a4, .inl (cI, (120, .inl fun _ => Int32.ofInt 0))), (a5, .inl (cI, (10, .inl fun _ => Int32.ofInt 0)))]) := hD
  refine lv_aload_n X.1 X.2.1 diX6_52 rfl (lv_at hl 0 rfl) ?_
  refine lv_bipush (v := Int32.ofInt 120) X.1 X.2.1 diX6_53 bp_bipush_120 ?_
  refine ct_arr (ty := .int) (cA := cI) (t0 := 0) (N := 120) (a0 := (120, .inl fun _ => Int32.ofInt 0)) (d := 193) (k := 6) X (List.mem_of_getElem? (i := 55) rfl) (Nat.le_of_ble_eq_true rfl) rfl rfl rfl rfl (by simp) rfl (at_in arI rfl) a0I sz_120.1 sz_120.2 cbI_120 (by show _ ≤ (8 : Nat); omega) (by show _ ≤ (308 : Nat); omega) hA diX6_55 diX6_57 (Nat.le_of_ble_eq_true rfl) hP hD hS (fun a6 H locs hP hD hS => ?_)
  have hP : va_P D cls9 ((h0, .inr (6, [.ref a0, .ref a1, .ref a2, .ref a3, .ref a4, .ref a5, .ref a6, .null, .int 0])) :: [(a0, .inl (cI, (12, .inl fun _ => Int32.ofInt 0))), (a1, .inl (cI, (12, .inl fun _ => Int32.ofInt 0))), (a2, .inl (cI, (12, .inl fun _ => Int32.ofInt 0))), (a3, .inl (cI, (12, .inl fun _ => Int32.ofInt 0))), (a4, .inl (cI, (120, .inl fun _ => Int32.ofInt 0))), (a5, .inl (cI, (10, .inl fun _ => Int32.ofInt 0))), (a6, .inl (cI, (120, .inl fun _ => Int32.ofInt 0)))]) H := hP
  have hD : va_D A ((h0, .inr (6, [.ref a0, .ref a1, .ref a2, .ref a3, .ref a4, .ref a5, .ref a6, .null, .int 0])) :: [(a0, .inl (cI, (12, .inl fun _ => Int32.ofInt 0))), (a1, .inl (cI, (12, .inl fun _ => Int32.ofInt 0))), (a2, .inl (cI, (12, .inl fun _ => Int32.ofInt 0))), (a3, .inl (cI, (12, .inl fun _ => Int32.ofInt 0))), (a4, .inl (cI, (120, .inl fun _ => Int32.ofInt 0))), (a5, .inl (cI, (10, .inl fun _ => Int32.ofInt 0))), (a6, .inl (cI, (120, .inl fun _ => Int32.ofInt 0)))]) := hD
  refine lv_aload_n X.1 X.2.1 diX6_60 rfl (lv_at hl 0 rfl) ?_
  refine lv_bipush (v := Int32.ofInt 10) X.1 X.2.1 diX6_61 bp_bipush_10 ?_
  refine ct_arr (ty := .int) (cA := cI) (t0 := 0) (N := 10) (a0 := (10, .inl fun _ => Int32.ofInt 0)) (d := 195) (k := 7) X (List.mem_of_getElem? (i := 56) rfl) (Nat.le_of_ble_eq_true rfl) rfl rfl rfl rfl (by simp) rfl (at_in arI rfl) a0I sz_10.1 sz_10.2 cbI_10 (by show _ ≤ (8 : Nat); omega) (by show _ ≤ (308 : Nat); omega) hA diX6_63 diX6_65 (Nat.le_of_ble_eq_true rfl) hP hD hS (fun a7 H locs hP hD hS => ?_)
  have hP : va_P D cls9 ((h0, .inr (6, [.ref a0, .ref a1, .ref a2, .ref a3, .ref a4, .ref a5, .ref a6, .ref a7, .int 0])) :: [(a0, .inl (cI, (12, .inl fun _ => Int32.ofInt 0))), (a1, .inl (cI, (12, .inl fun _ => Int32.ofInt 0))), (a2, .inl (cI, (12, .inl fun _ => Int32.ofInt 0))), (a3, .inl (cI, (12, .inl fun _ => Int32.ofInt 0))), (a4, .inl (cI, (120, .inl fun _ => Int32.ofInt 0))), (a5, .inl (cI, (10, .inl fun _ => Int32.ofInt 0))), (a6, .inl (cI, (120, .inl fun _ => Int32.ofInt 0))), (a7, .inl (cI, (10, .inl fun _ => Int32.ofInt 0)))]) H := hP
  have hD : va_D A ((h0, .inr (6, [.ref a0, .ref a1, .ref a2, .ref a3, .ref a4, .ref a5, .ref a6, .ref a7, .int 0])) :: [(a0, .inl (cI, (12, .inl fun _ => Int32.ofInt 0))), (a1, .inl (cI, (12, .inl fun _ => Int32.ofInt 0))), (a2, .inl (cI, (12, .inl fun _ => Int32.ofInt 0))), (a3, .inl (cI, (12, .inl fun _ => Int32.ofInt 0))), (a4, .inl (cI, (120, .inl fun _ => Int32.ofInt 0))), (a5, .inl (cI, (10, .inl fun _ => Int32.ofInt 0))), (a6, .inl (cI, (120, .inl fun _ => Int32.ofInt 0))), (a7, .inl (cI, (10, .inl fun _ => Int32.ofInt 0)))]) := hD
  refine lv_aload_n X.1 X.2.1 diX6_68 rfl (lv_at hl 0 rfl) ?_
  refine lv_iconst (v := Int32.ofInt 0) X.1 X.2.1 diX6_69 bp_iconst_0 ?_
  refine ct_int (d := 197) (k := 8) X (List.mem_of_getElem? (i := 57) rfl) (Nat.le_of_ble_eq_true rfl) rfl (by first | rfl | exact i_zn (Or.inl rfl)) (by first | rfl | decide) diX6_70 (Nat.le_of_ble_eq_true rfl) hP hD hS (fun H locs hP hD hS => ?_)
  have hP : va_P D cls9 ((h0, .inr (6, [.ref a0, .ref a1, .ref a2, .ref a3, .ref a4, .ref a5, .ref a6, .ref a7, .int (Int32.ofInt 0)])) :: [(a0, .inl (cI, (12, .inl fun _ => Int32.ofInt 0))), (a1, .inl (cI, (12, .inl fun _ => Int32.ofInt 0))), (a2, .inl (cI, (12, .inl fun _ => Int32.ofInt 0))), (a3, .inl (cI, (12, .inl fun _ => Int32.ofInt 0))), (a4, .inl (cI, (120, .inl fun _ => Int32.ofInt 0))), (a5, .inl (cI, (10, .inl fun _ => Int32.ofInt 0))), (a6, .inl (cI, (120, .inl fun _ => Int32.ofInt 0))), (a7, .inl (cI, (10, .inl fun _ => Int32.ofInt 0)))]) H := hP
  have hD : va_D A ((h0, .inr (6, [.ref a0, .ref a1, .ref a2, .ref a3, .ref a4, .ref a5, .ref a6, .ref a7, .int (Int32.ofInt 0)])) :: [(a0, .inl (cI, (12, .inl fun _ => Int32.ofInt 0))), (a1, .inl (cI, (12, .inl fun _ => Int32.ofInt 0))), (a2, .inl (cI, (12, .inl fun _ => Int32.ofInt 0))), (a3, .inl (cI, (12, .inl fun _ => Int32.ofInt 0))), (a4, .inl (cI, (120, .inl fun _ => Int32.ofInt 0))), (a5, .inl (cI, (10, .inl fun _ => Int32.ofInt 0))), (a6, .inl (cI, (120, .inl fun _ => Int32.ofInt 0))), (a7, .inl (cI, (10, .inl fun _ => Int32.ofInt 0)))]) := hD
  have hP9 : va_P D cls9 (wc6 cI cZ cJ h0 (fun i => nt 0 [a0, a1, a2, a3, a4, a5, a6, a7] i)) H := hP
  have hD9 : va_D A (wc6 cI cZ cJ h0 (fun i => nt 0 [a0, a1, a2, a3, a4, a5, a6, a7] i)) := hD
  refine W.widen (k := 8) (n := 308) (by omega) (by omega) ?_
  exact W.vret X.1 X.2.1 hr (fun t ht _ => ⟨⟨(fun i => nt 0 [a0, a1, a2, a3, a4, a5, a6, a7] i), rfl, trivial, (by rw [← ht] at hP9; exact hP9), (by rw [hAe]; exact hD9)⟩, by rw [hAe]; exact hS.F ht⟩) hS.2.2 diX6_73
def wc5 (cI cZ cJ : ClassId) (h0 : Nat) (u : Nat → Nat) : va_W := (h0, .inr (5, [.ref (u 0), .ref (u 1), .ref (u 2), .int (Int32.ofInt 0)])) :: [(u 0, .inl (cI, (100, .inl fun _ => Int32.ofInt 0))), (u 1, .inl (cI, (100, .inl fun _ => Int32.ofInt 0))), (u 2, .inl (cI, (100, .inl fun _ => Int32.ofInt 0)))]
set_option maxHeartbeats 40000000 in
theorem mi5 (l : Launch) (D : va_G) (cI cZ cJ : ClassId) (h0 sz : Nat) : Met l yX5_init (Cond.code yX5_init cX5_init 1 none :: lw_ok) { frames := 1, cells := 3, slots := 300, locals := 12 } (Pci D cI cZ cJ h0 sz (.inr (5, [.null, .null, .null, .int 0]))) (Qci D h0 sz (.inr (5, [.null, .null, .null, .int 0])) (wc5 cI cZ cJ)) 3 300 (va_A [(h0, (.inr (5, [.null, .null, .null, .int 0])))] sz) := by
  refine Met.ofW (cc := cX5_init) (maxL := 1) (ret := none) (by decide) rfl ?_
  intro p e s m args below meth c s₁ B hml hv
  obtain ⟨rfl, hsz, hP, hK, hD0, hns⟩ := hv
  have hr := B.returns
  have hlocks := B.notSynchronized
  have hts := atoms_spec (ws := Cond.code yX5_init cX5_init 1 none :: lw_ok) B.pre
  have X : Cy p s m _ meth c D cI cZ cJ cX5_init 5 := ⟨B.exec, B.bytes, hml, findClass_of_methodNamed B.named, fun w hw => hts w (List.mem_cons_of_mem _ hw), hK, (name_of_methodNamed B.named B.method).1, by decide, hns⟩
  subst hsz
  have hD := hD0.self (sz := s.heap.size)
  generalize hAe : va_A [(h0, (.inr (5, [.null, .null, .null, .int 0]) : va_E))] s.heap.size = A at hD ⊢
  have hA : ∀ q : Nat, s.heap.size ≤ q → A q := fun q h => by rw [← hAe]; exact Or.inr h
  have hS : va_S A s.heap s.heap [] := va_S.rf
  have hl := lv_entry ([.ref h0]) (n := 1) (Nat.le_of_ble_eq_true rfl)
  rw [lg_entry_eq]
  generalize (lg_sl ([.ref h0]) ++ List.replicate (1 - (lg_sl ([.ref h0])).length) Slot.unset).toArray = ls at hl ⊢
  have hl : lv_has ls 1 [(0, .ref h0)] := hl
  refine lv_aload_n X.1 X.2.1 diX5_0 rfl (lv_at hl 0 rfl) ?_
  refine ct_obj (d := 224) X (by decide) hl.1 ⟨Nat.le_of_ble_eq_true rfl, Nat.le_of_ble_eq_true rfl⟩ diX5_1 ?_
  refine lv_aload_n X.1 X.2.1 diX5_4 rfl (lv_at hl 0 rfl) ?_
  refine lv_bipush (v := Int32.ofInt 100) X.1 X.2.1 diX5_5 bp_bipush_100 ?_
  refine ct_arr (ty := .int) (cA := cI) (t0 := 0) (N := 100) (a0 := (100, .inl fun _ => Int32.ofInt 0)) (d := 225) (k := 0) X (List.mem_of_getElem? (i := 49) rfl) (Nat.le_of_ble_eq_true rfl) rfl rfl rfl rfl (by simp) rfl (at_in arI rfl) a0I sz_100.1 sz_100.2 cbI_100 (by show _ ≤ (3 : Nat); omega) (by show _ ≤ (300 : Nat); omega) hA diX5_7 diX5_9 (Nat.le_of_ble_eq_true rfl) hP hD hS (fun a0 H locs hP hD hS => ?_)
  have hP : va_P D cls9 ((h0, .inr (5, [.ref a0, .null, .null, .int 0])) :: [(a0, .inl (cI, (100, .inl fun _ => Int32.ofInt 0)))]) H := hP
  have hD : va_D A ((h0, .inr (5, [.ref a0, .null, .null, .int 0])) :: [(a0, .inl (cI, (100, .inl fun _ => Int32.ofInt 0)))]) := hD
  refine lv_aload_n X.1 X.2.1 diX5_12 rfl (lv_at hl 0 rfl) ?_
  refine lv_bipush (v := Int32.ofInt 100) X.1 X.2.1 diX5_13 bp_bipush_100 ?_
  refine ct_arr (ty := .int) (cA := cI) (t0 := 0) (N := 100) (a0 := (100, .inl fun _ => Int32.ofInt 0)) (d := 226) (k := 1) X (List.mem_of_getElem? (i := 46) rfl) (Nat.le_of_ble_eq_true rfl) rfl rfl rfl rfl (by simp) rfl (at_in arI rfl) a0I sz_100.1 sz_100.2 cbI_100 (by show _ ≤ (3 : Nat); omega) (by show _ ≤ (300 : Nat); omega) hA diX5_15 diX5_17 (Nat.le_of_ble_eq_true rfl) hP hD hS (fun a1 H locs hP hD hS => ?_)
  have hP : va_P D cls9 ((h0, .inr (5, [.ref a0, .ref a1, .null, .int 0])) :: [(a0, .inl (cI, (100, .inl fun _ => Int32.ofInt 0))), (a1, .inl (cI, (100, .inl fun _ => Int32.ofInt 0)))]) H := hP
  have hD : va_D A ((h0, .inr (5, [.ref a0, .ref a1, .null, .int 0])) :: [(a0, .inl (cI, (100, .inl fun _ => Int32.ofInt 0))), (a1, .inl (cI, (100, .inl fun _ => Int32.ofInt 0)))]) := hD
  refine lv_aload_n X.1 X.2.1 diX5_20 rfl (lv_at hl 0 rfl) ?_
  refine lv_bipush (v := Int32.ofInt 100) X.1 X.2.1 diX5_21 bp_bipush_100 ?_
  refine ct_arr (ty := .int) (cA := cI) (t0 := 0) (N := 100) (a0 := (100, .inl fun _ => Int32.ofInt 0)) (d := 227) (k := 2) X (List.mem_of_getElem? (i := 47) rfl) (Nat.le_of_ble_eq_true rfl) rfl rfl rfl rfl (by simp) rfl (at_in arI rfl) a0I sz_100.1 sz_100.2 cbI_100 (by show _ ≤ (3 : Nat); omega) (by show _ ≤ (300 : Nat); omega) hA diX5_23 diX5_25 (Nat.le_of_ble_eq_true rfl) hP hD hS (fun a2 H locs hP hD hS => ?_)
  have hP : va_P D cls9 ((h0, .inr (5, [.ref a0, .ref a1, .ref a2, .int 0])) :: [(a0, .inl (cI, (100, .inl fun _ => Int32.ofInt 0))), (a1, .inl (cI, (100, .inl fun _ => Int32.ofInt 0))), (a2, .inl (cI, (100, .inl fun _ => Int32.ofInt 0)))]) H := hP
  have hD : va_D A ((h0, .inr (5, [.ref a0, .ref a1, .ref a2, .int 0])) :: [(a0, .inl (cI, (100, .inl fun _ => Int32.ofInt 0))), (a1, .inl (cI, (100, .inl fun _ => Int32.ofInt 0))), (a2, .inl (cI, (100, .inl fun _ => Int32.ofInt 0)))]) := hD
  refine lv_aload_n X.1 X.2.1 diX5_28 rfl (lv_at hl 0 rfl) ?_
  refine lv_iconst (v := Int32.ofInt 0) X.1 X.2.1 diX5_29 bp_iconst_0 ?_
  refine ct_int (d := 228) (k := 3) X (List.mem_of_getElem? (i := 48) rfl) (Nat.le_of_ble_eq_true rfl) rfl (by first | rfl | exact i_zn (Or.inl rfl)) (by first | rfl | decide) diX5_30 (Nat.le_of_ble_eq_true rfl) hP hD hS (fun H locs hP hD hS => ?_)
  have hP : va_P D cls9 ((h0, .inr (5, [.ref a0, .ref a1, .ref a2, .int (Int32.ofInt 0)])) :: [(a0, .inl (cI, (100, .inl fun _ => Int32.ofInt 0))), (a1, .inl (cI, (100, .inl fun _ => Int32.ofInt 0))), (a2, .inl (cI, (100, .inl fun _ => Int32.ofInt 0)))]) H := hP
  have hD : va_D A ((h0, .inr (5, [.ref a0, .ref a1, .ref a2, .int (Int32.ofInt 0)])) :: [(a0, .inl (cI, (100, .inl fun _ => Int32.ofInt 0))), (a1, .inl (cI, (100, .inl fun _ => Int32.ofInt 0))), (a2, .inl (cI, (100, .inl fun _ => Int32.ofInt 0)))]) := hD
  have hP9 : va_P D cls9 (wc5 cI cZ cJ h0 (fun i => nt 0 [a0, a1, a2] i)) H := hP
  have hD9 : va_D A (wc5 cI cZ cJ h0 (fun i => nt 0 [a0, a1, a2] i)) := hD
  refine W.widen (k := 3) (n := 300) (by omega) (by omega) ?_
  exact W.vret X.1 X.2.1 hr (fun t ht _ => ⟨⟨(fun i => nt 0 [a0, a1, a2] i), rfl, trivial, (by rw [← ht] at hP9; exact hP9), (by rw [hAe]; exact hD9)⟩, by rw [hAe]; exact hS.F ht⟩) hS.2.2 diX5_33
def wc3 (cI cZ cJ : ClassId) (h0 : Nat) (u : Nat → Nat) : va_W := (h0, .inr (3, [.ref (u 0), .ref (u 1), .int (Int32.ofInt 0), .int (Int32.ofInt 0), .int (Int32.ofInt 0), .int (Int32.ofInt 0)])) :: [(u 0, .inl (cI, (10, .inl fun _ => Int32.ofInt 0))), (u 1, .inl (cI, (12, .inl fun _ => Int32.ofInt 0)))]
set_option maxHeartbeats 40000000 in
theorem mi3 (l : Launch) (D : va_G) (cI cZ cJ : ClassId) (h0 sz : Nat) : Met l yX3_init (Cond.code yX3_init cX3_init 1 none :: lw_ok) { frames := 1, cells := 2, slots := 22, locals := 12 } (Pci D cI cZ cJ h0 sz (.inr (3, [.null, .null, .int 0, .int 0, .int 0, .int 0]))) (Qci D h0 sz (.inr (3, [.null, .null, .int 0, .int 0, .int 0, .int 0])) (wc3 cI cZ cJ)) 2 22 (va_A [(h0, (.inr (3, [.null, .null, .int 0, .int 0, .int 0, .int 0])))] sz) := by
  refine Met.ofW (cc := cX3_init) (maxL := 1) (ret := none) (by decide) rfl ?_
  intro p e s m args below meth c s₁ B hml hv
  obtain ⟨rfl, hsz, hP, hK, hD0, hns⟩ := hv
  have hr := B.returns
  have hlocks := B.notSynchronized
  have hts := atoms_spec (ws := Cond.code yX3_init cX3_init 1 none :: lw_ok) B.pre
  have X : Cy p s m _ meth c D cI cZ cJ cX3_init 3 := ⟨B.exec, B.bytes, hml, findClass_of_methodNamed B.named, fun w hw => hts w (List.mem_cons_of_mem _ hw), hK, (name_of_methodNamed B.named B.method).1, by decide, hns⟩
  subst hsz
  have hD := hD0.self (sz := s.heap.size)
  generalize hAe : va_A [(h0, (.inr (3, [.null, .null, .int 0, .int 0, .int 0, .int 0]) : va_E))] s.heap.size = A at hD ⊢
  have hA : ∀ q : Nat, s.heap.size ≤ q → A q := fun q h => by rw [← hAe]; exact Or.inr h
  have hS : va_S A s.heap s.heap [] := va_S.rf
  have hl := lv_entry ([.ref h0]) (n := 1) (Nat.le_of_ble_eq_true rfl)
  rw [lg_entry_eq]
  generalize (lg_sl ([.ref h0]) ++ List.replicate (1 - (lg_sl ([.ref h0])).length) Slot.unset).toArray = ls at hl ⊢
  have hl : lv_has ls 1 [(0, .ref h0)] := hl
  refine lv_aload_n X.1 X.2.1 diX3_0 rfl (lv_at hl 0 rfl) ?_
  refine ct_obj (d := 243) X (by decide) hl.1 ⟨Nat.le_of_ble_eq_true rfl, Nat.le_of_ble_eq_true rfl⟩ diX3_1 ?_
  refine lv_aload_n X.1 X.2.1 diX3_4 rfl (lv_at hl 0 rfl) ?_
  refine lv_bipush (v := Int32.ofInt 10) X.1 X.2.1 diX3_5 bp_bipush_10 ?_
  refine ct_arr (ty := .int) (cA := cI) (t0 := 0) (N := 10) (a0 := (10, .inl fun _ => Int32.ofInt 0)) (d := 244) (k := 0) X (List.mem_of_getElem? (i := 42) rfl) (Nat.le_of_ble_eq_true rfl) rfl rfl rfl rfl (by simp) rfl (at_in arI rfl) a0I sz_10.1 sz_10.2 cbI_10 (by show _ ≤ (2 : Nat); omega) (by show _ ≤ (22 : Nat); omega) hA diX3_7 diX3_9 (Nat.le_of_ble_eq_true rfl) hP hD hS (fun a0 H locs hP hD hS => ?_)
  have hP : va_P D cls9 ((h0, .inr (3, [.ref a0, .null, .int 0, .int 0, .int 0, .int 0])) :: [(a0, .inl (cI, (10, .inl fun _ => Int32.ofInt 0)))]) H := hP
  have hD : va_D A ((h0, .inr (3, [.ref a0, .null, .int 0, .int 0, .int 0, .int 0])) :: [(a0, .inl (cI, (10, .inl fun _ => Int32.ofInt 0)))]) := hD
  refine lv_aload_n X.1 X.2.1 diX3_12 rfl (lv_at hl 0 rfl) ?_
  refine lv_bipush (v := Int32.ofInt 12) X.1 X.2.1 diX3_13 bp_bipush_12 ?_
  refine ct_arr (ty := .int) (cA := cI) (t0 := 0) (N := 12) (a0 := (12, .inl fun _ => Int32.ofInt 0)) (d := 247) (k := 1) X (List.mem_of_getElem? (i := 37) rfl) (Nat.le_of_ble_eq_true rfl) rfl rfl rfl rfl (by simp) rfl (at_in arI rfl) a0I sz_12.1 sz_12.2 cbI_12 (by show _ ≤ (2 : Nat); omega) (by show _ ≤ (22 : Nat); omega) hA diX3_15 diX3_17 (Nat.le_of_ble_eq_true rfl) hP hD hS (fun a1 H locs hP hD hS => ?_)
  have hP : va_P D cls9 ((h0, .inr (3, [.ref a0, .ref a1, .int 0, .int 0, .int 0, .int 0])) :: [(a0, .inl (cI, (10, .inl fun _ => Int32.ofInt 0))), (a1, .inl (cI, (12, .inl fun _ => Int32.ofInt 0)))]) H := hP
  have hD : va_D A ((h0, .inr (3, [.ref a0, .ref a1, .int 0, .int 0, .int 0, .int 0])) :: [(a0, .inl (cI, (10, .inl fun _ => Int32.ofInt 0))), (a1, .inl (cI, (12, .inl fun _ => Int32.ofInt 0)))]) := hD
  refine lv_aload_n X.1 X.2.1 diX3_20 rfl (lv_at hl 0 rfl) ?_
  refine lv_iconst (v := Int32.ofInt 0) X.1 X.2.1 diX3_21 bp_iconst_0 ?_
  refine ct_int (d := 249) (k := 2) X (List.mem_of_getElem? (i := 38) rfl) (Nat.le_of_ble_eq_true rfl) rfl (by first | rfl | exact i_zn (Or.inl rfl)) (by first | rfl | decide) diX3_22 (Nat.le_of_ble_eq_true rfl) hP hD hS (fun H locs hP hD hS => ?_)
  have hP : va_P D cls9 ((h0, .inr (3, [.ref a0, .ref a1, .int (Int32.ofInt 0), .int 0, .int 0, .int 0])) :: [(a0, .inl (cI, (10, .inl fun _ => Int32.ofInt 0))), (a1, .inl (cI, (12, .inl fun _ => Int32.ofInt 0)))]) H := hP
  have hD : va_D A ((h0, .inr (3, [.ref a0, .ref a1, .int (Int32.ofInt 0), .int 0, .int 0, .int 0])) :: [(a0, .inl (cI, (10, .inl fun _ => Int32.ofInt 0))), (a1, .inl (cI, (12, .inl fun _ => Int32.ofInt 0)))]) := hD
  refine lv_aload_n X.1 X.2.1 diX3_25 rfl (lv_at hl 0 rfl) ?_
  refine lv_iconst (v := Int32.ofInt 0) X.1 X.2.1 diX3_26 bp_iconst_0 ?_
  refine ct_int (d := 252) (k := 3) X (List.mem_of_getElem? (i := 39) rfl) (Nat.le_of_ble_eq_true rfl) rfl (by first | rfl | exact i_zn (Or.inl rfl)) (by first | rfl | decide) diX3_27 (Nat.le_of_ble_eq_true rfl) hP hD hS (fun H locs hP hD hS => ?_)
  have hP : va_P D cls9 ((h0, .inr (3, [.ref a0, .ref a1, .int (Int32.ofInt 0), .int (Int32.ofInt 0), .int 0, .int 0])) :: [(a0, .inl (cI, (10, .inl fun _ => Int32.ofInt 0))), (a1, .inl (cI, (12, .inl fun _ => Int32.ofInt 0)))]) H := hP
  have hD : va_D A ((h0, .inr (3, [.ref a0, .ref a1, .int (Int32.ofInt 0), .int (Int32.ofInt 0), .int 0, .int 0])) :: [(a0, .inl (cI, (10, .inl fun _ => Int32.ofInt 0))), (a1, .inl (cI, (12, .inl fun _ => Int32.ofInt 0)))]) := hD
  refine lv_aload_n X.1 X.2.1 diX3_30 rfl (lv_at hl 0 rfl) ?_
  refine lv_iconst (v := Int32.ofInt 0) X.1 X.2.1 diX3_31 bp_iconst_0 ?_
  refine ct_int (d := 254) (k := 4) X (List.mem_of_getElem? (i := 40) rfl) (Nat.le_of_ble_eq_true rfl) rfl (by first | rfl | exact i_zn (Or.inl rfl)) (by first | rfl | decide) diX3_32 (Nat.le_of_ble_eq_true rfl) hP hD hS (fun H locs hP hD hS => ?_)
  have hP : va_P D cls9 ((h0, .inr (3, [.ref a0, .ref a1, .int (Int32.ofInt 0), .int (Int32.ofInt 0), .int (Int32.ofInt 0), .int 0])) :: [(a0, .inl (cI, (10, .inl fun _ => Int32.ofInt 0))), (a1, .inl (cI, (12, .inl fun _ => Int32.ofInt 0)))]) H := hP
  have hD : va_D A ((h0, .inr (3, [.ref a0, .ref a1, .int (Int32.ofInt 0), .int (Int32.ofInt 0), .int (Int32.ofInt 0), .int 0])) :: [(a0, .inl (cI, (10, .inl fun _ => Int32.ofInt 0))), (a1, .inl (cI, (12, .inl fun _ => Int32.ofInt 0)))]) := hD
  refine lv_aload_n X.1 X.2.1 diX3_35 rfl (lv_at hl 0 rfl) ?_
  refine lv_iconst (v := Int32.ofInt 0) X.1 X.2.1 diX3_36 bp_iconst_0 ?_
  refine ct_int (d := 256) (k := 5) X (List.mem_of_getElem? (i := 41) rfl) (Nat.le_of_ble_eq_true rfl) rfl (by first | rfl | exact i_zn (Or.inl rfl)) (by first | rfl | decide) diX3_37 (Nat.le_of_ble_eq_true rfl) hP hD hS (fun H locs hP hD hS => ?_)
  have hP : va_P D cls9 ((h0, .inr (3, [.ref a0, .ref a1, .int (Int32.ofInt 0), .int (Int32.ofInt 0), .int (Int32.ofInt 0), .int (Int32.ofInt 0)])) :: [(a0, .inl (cI, (10, .inl fun _ => Int32.ofInt 0))), (a1, .inl (cI, (12, .inl fun _ => Int32.ofInt 0)))]) H := hP
  have hD : va_D A ((h0, .inr (3, [.ref a0, .ref a1, .int (Int32.ofInt 0), .int (Int32.ofInt 0), .int (Int32.ofInt 0), .int (Int32.ofInt 0)])) :: [(a0, .inl (cI, (10, .inl fun _ => Int32.ofInt 0))), (a1, .inl (cI, (12, .inl fun _ => Int32.ofInt 0)))]) := hD
  have hP9 : va_P D cls9 (wc3 cI cZ cJ h0 (fun i => nt 0 [a0, a1] i)) H := hP
  have hD9 : va_D A (wc3 cI cZ cJ h0 (fun i => nt 0 [a0, a1] i)) := hD
  refine W.widen (k := 2) (n := 22) (by omega) (by omega) ?_
  exact W.vret X.1 X.2.1 hr (fun t ht _ => ⟨⟨(fun i => nt 0 [a0, a1] i), rfl, trivial, (by rw [← ht] at hP9; exact hP9), (by rw [hAe]; exact hD9)⟩, by rw [hAe]; exact hS.F ht⟩) hS.2.2 diX3_40
def wc2 (cI cZ cJ : ClassId) (h0 : Nat) (u : Nat → Nat) : va_W := (h0, .inr (2, [.ref (u 0), .ref (u 1), .ref (u 2), .ref (u 3), .ref (u 4), .ref (u 5), .ref (u 6), .ref (u 7), .ref (u 8), .int (Int32.ofInt 0), .int (Int32.ofInt 0), .int (Int32.ofInt 0), .int (Int32.ofInt 0), .int (Int32.ofInt 0), .int (Int32.ofInt (-1)), .int (Int32.ofInt (-1)), .int (Int32.ofInt 0), .int (Int32.ofInt 0)])) :: [(u 0, .inl (cI, (101, .inl fun _ => Int32.ofInt 0))), (u 1, .inl (cI, (10, .inl fun _ => Int32.ofInt 0))), (u 2, .inl (cI, (1010, .inl fun _ => Int32.ofInt 0))), (u 3, .inl (cI, (1200, .inl fun _ => Int32.ofInt 0))), (u 4, .inl (cI, (1010, .inl fun _ => Int32.ofInt 0))), (u 5, .inl (cI, (1010, .inl fun _ => Int32.ofInt 0))), (u 6, .inl (cI, (1010, .inl fun _ => Int32.ofInt 0))), (u 7, .inl (cI, (1010, .inl fun _ => Int32.ofInt 0))), (u 8, .inl (cI, (1200, .inl fun _ => Int32.ofInt 0)))]
set_option maxHeartbeats 40000000 in
theorem mi2 (l : Launch) (D : va_G) (cI cZ cJ : ClassId) (h0 sz : Nat) : Met l yX2_init (Cond.code yX2_init cX2_init 1 none :: lw_ok) { frames := 1, cells := 9, slots := 7561, locals := 12 } (Pci D cI cZ cJ h0 sz (.inr (2, [.null, .null, .null, .null, .null, .null, .null, .null, .null, .int 0, .int 0, .int 0, .int 0, .int 0, .int 0, .int 0, .int 0, .int 0]))) (Qci D h0 sz (.inr (2, [.null, .null, .null, .null, .null, .null, .null, .null, .null, .int 0, .int 0, .int 0, .int 0, .int 0, .int 0, .int 0, .int 0, .int 0])) (wc2 cI cZ cJ)) 9 7561 (va_A [(h0, (.inr (2, [.null, .null, .null, .null, .null, .null, .null, .null, .null, .int 0, .int 0, .int 0, .int 0, .int 0, .int 0, .int 0, .int 0, .int 0])))] sz) := by
  refine Met.ofW (cc := cX2_init) (maxL := 1) (ret := none) (by decide) rfl ?_
  intro p e s m args below meth c s₁ B hml hv
  obtain ⟨rfl, hsz, hP, hK, hD0, hns⟩ := hv
  have hr := B.returns
  have hlocks := B.notSynchronized
  have hts := atoms_spec (ws := Cond.code yX2_init cX2_init 1 none :: lw_ok) B.pre
  have X : Cy p s m _ meth c D cI cZ cJ cX2_init 2 := ⟨B.exec, B.bytes, hml, findClass_of_methodNamed B.named, fun w hw => hts w (List.mem_cons_of_mem _ hw), hK, (name_of_methodNamed B.named B.method).1, by decide, hns⟩
  subst hsz
  have hD := hD0.self (sz := s.heap.size)
  generalize hAe : va_A [(h0, (.inr (2, [.null, .null, .null, .null, .null, .null, .null, .null, .null, .int 0, .int 0, .int 0, .int 0, .int 0, .int 0, .int 0, .int 0, .int 0]) : va_E))] s.heap.size = A at hD ⊢
  have hA : ∀ q : Nat, s.heap.size ≤ q → A q := fun q h => by rw [← hAe]; exact Or.inr h
  have hS : va_S A s.heap s.heap [] := va_S.rf
  have hl := lv_entry ([.ref h0]) (n := 1) (Nat.le_of_ble_eq_true rfl)
  rw [lg_entry_eq]
  generalize (lg_sl ([.ref h0]) ++ List.replicate (1 - (lg_sl ([.ref h0])).length) Slot.unset).toArray = ls at hl ⊢
  have hl : lv_has ls 1 [(0, .ref h0)] := hl
  refine lv_aload_n X.1 X.2.1 diX2_0 rfl (lv_at hl 0 rfl) ?_
  refine ct_obj (d := 294) X (by decide) hl.1 ⟨Nat.le_of_ble_eq_true rfl, Nat.le_of_ble_eq_true rfl⟩ diX2_1 ?_
  refine lv_aload_n X.1 X.2.1 diX2_4 rfl (lv_at hl 0 rfl) ?_
  refine lv_bipush (v := Int32.ofInt 101) X.1 X.2.1 diX2_5 bp_bipush_101 ?_
  refine ct_arr (ty := .int) (cA := cI) (t0 := 0) (N := 101) (a0 := (101, .inl fun _ => Int32.ofInt 0)) (d := 295) (k := 0) X (List.mem_of_getElem? (i := 19) rfl) (Nat.le_of_ble_eq_true rfl) rfl rfl rfl rfl (by simp) rfl (at_in arI rfl) a0I sz_101.1 sz_101.2 cbI_101 (by show _ ≤ (9 : Nat); omega) (by show _ ≤ (7561 : Nat); omega) hA diX2_7 diX2_9 (Nat.le_of_ble_eq_true rfl) hP hD hS (fun a0 H locs hP hD hS => ?_)
  have hP : va_P D cls9 ((h0, .inr (2, [.ref a0, .null, .null, .null, .null, .null, .null, .null, .null, .int 0, .int 0, .int 0, .int 0, .int 0, .int 0, .int 0, .int 0, .int 0])) :: [(a0, .inl (cI, (101, .inl fun _ => Int32.ofInt 0)))]) H := hP
  have hD : va_D A ((h0, .inr (2, [.ref a0, .null, .null, .null, .null, .null, .null, .null, .null, .int 0, .int 0, .int 0, .int 0, .int 0, .int 0, .int 0, .int 0, .int 0])) :: [(a0, .inl (cI, (101, .inl fun _ => Int32.ofInt 0)))]) := hD
  refine lv_aload_n X.1 X.2.1 diX2_12 rfl (lv_at hl 0 rfl) ?_
  refine lv_bipush (v := Int32.ofInt 10) X.1 X.2.1 diX2_13 bp_bipush_10 ?_
  refine ct_arr (ty := .int) (cA := cI) (t0 := 0) (N := 10) (a0 := (10, .inl fun _ => Int32.ofInt 0)) (d := 297) (k := 1) X (List.mem_of_getElem? (i := 20) rfl) (Nat.le_of_ble_eq_true rfl) rfl rfl rfl rfl (by simp) rfl (at_in arI rfl) a0I sz_10.1 sz_10.2 cbI_10 (by show _ ≤ (9 : Nat); omega) (by show _ ≤ (7561 : Nat); omega) hA diX2_15 diX2_17 (Nat.le_of_ble_eq_true rfl) hP hD hS (fun a1 H locs hP hD hS => ?_)
  have hP : va_P D cls9 ((h0, .inr (2, [.ref a0, .ref a1, .null, .null, .null, .null, .null, .null, .null, .int 0, .int 0, .int 0, .int 0, .int 0, .int 0, .int 0, .int 0, .int 0])) :: [(a0, .inl (cI, (101, .inl fun _ => Int32.ofInt 0))), (a1, .inl (cI, (10, .inl fun _ => Int32.ofInt 0)))]) H := hP
  have hD : va_D A ((h0, .inr (2, [.ref a0, .ref a1, .null, .null, .null, .null, .null, .null, .null, .int 0, .int 0, .int 0, .int 0, .int 0, .int 0, .int 0, .int 0, .int 0])) :: [(a0, .inl (cI, (101, .inl fun _ => Int32.ofInt 0))), (a1, .inl (cI, (10, .inl fun _ => Int32.ofInt 0)))]) := hD
  refine lv_aload_n X.1 X.2.1 diX2_20 rfl (lv_at hl 0 rfl) ?_
  refine lv_sipush (v := Int32.ofInt 1010) X.1 X.2.1 diX2_21 bp_sipush_1010 ?_
  refine ct_arr (ty := .int) (cA := cI) (t0 := 0) (N := 1010) (a0 := (1010, .inl fun _ => Int32.ofInt 0)) (d := 298) (k := 2) X (List.mem_of_getElem? (i := 21) rfl) (Nat.le_of_ble_eq_true rfl) rfl rfl rfl rfl (by simp) rfl (at_in arI rfl) a0I sz_1010.1 sz_1010.2 cbI_1010 (by show _ ≤ (9 : Nat); omega) (by show _ ≤ (7561 : Nat); omega) hA diX2_24 diX2_26 (Nat.le_of_ble_eq_true rfl) hP hD hS (fun a2 H locs hP hD hS => ?_)
  have hP : va_P D cls9 ((h0, .inr (2, [.ref a0, .ref a1, .ref a2, .null, .null, .null, .null, .null, .null, .int 0, .int 0, .int 0, .int 0, .int 0, .int 0, .int 0, .int 0, .int 0])) :: [(a0, .inl (cI, (101, .inl fun _ => Int32.ofInt 0))), (a1, .inl (cI, (10, .inl fun _ => Int32.ofInt 0))), (a2, .inl (cI, (1010, .inl fun _ => Int32.ofInt 0)))]) H := hP
  have hD : va_D A ((h0, .inr (2, [.ref a0, .ref a1, .ref a2, .null, .null, .null, .null, .null, .null, .int 0, .int 0, .int 0, .int 0, .int 0, .int 0, .int 0, .int 0, .int 0])) :: [(a0, .inl (cI, (101, .inl fun _ => Int32.ofInt 0))), (a1, .inl (cI, (10, .inl fun _ => Int32.ofInt 0))), (a2, .inl (cI, (1010, .inl fun _ => Int32.ofInt 0)))]) := hD
  refine lv_aload_n X.1 X.2.1 diX2_29 rfl (lv_at hl 0 rfl) ?_
  refine lv_sipush (v := Int32.ofInt 1200) X.1 X.2.1 diX2_30 bp_sipush_1200 ?_
  refine ct_arr (ty := .int) (cA := cI) (t0 := 0) (N := 1200) (a0 := (1200, .inl fun _ => Int32.ofInt 0)) (d := 299) (k := 3) X (List.mem_of_getElem? (i := 22) rfl) (Nat.le_of_ble_eq_true rfl) rfl rfl rfl rfl (by simp) rfl (at_in arI rfl) a0I sz_1200.1 sz_1200.2 cbI_1200 (by show _ ≤ (9 : Nat); omega) (by show _ ≤ (7561 : Nat); omega) hA diX2_33 diX2_35 (Nat.le_of_ble_eq_true rfl) hP hD hS (fun a3 H locs hP hD hS => ?_)
  have hP : va_P D cls9 ((h0, .inr (2, [.ref a0, .ref a1, .ref a2, .ref a3, .null, .null, .null, .null, .null, .int 0, .int 0, .int 0, .int 0, .int 0, .int 0, .int 0, .int 0, .int 0])) :: [(a0, .inl (cI, (101, .inl fun _ => Int32.ofInt 0))), (a1, .inl (cI, (10, .inl fun _ => Int32.ofInt 0))), (a2, .inl (cI, (1010, .inl fun _ => Int32.ofInt 0))), (a3, .inl (cI, (1200, .inl fun _ => Int32.ofInt 0)))]) H := hP
  have hD : va_D A ((h0, .inr (2, [.ref a0, .ref a1, .ref a2, .ref a3, .null, .null, .null, .null, .null, .int 0, .int 0, .int 0, .int 0, .int 0, .int 0, .int 0, .int 0, .int 0])) :: [(a0, .inl (cI, (101, .inl fun _ => Int32.ofInt 0))), (a1, .inl (cI, (10, .inl fun _ => Int32.ofInt 0))), (a2, .inl (cI, (1010, .inl fun _ => Int32.ofInt 0))), (a3, .inl (cI, (1200, .inl fun _ => Int32.ofInt 0)))]) := hD
  refine lv_aload_n X.1 X.2.1 diX2_38 rfl (lv_at hl 0 rfl) ?_
  refine lv_sipush (v := Int32.ofInt 1010) X.1 X.2.1 diX2_39 bp_sipush_1010 ?_
  refine ct_arr (ty := .int) (cA := cI) (t0 := 0) (N := 1010) (a0 := (1010, .inl fun _ => Int32.ofInt 0)) (d := 300) (k := 4) X (List.mem_of_getElem? (i := 23) rfl) (Nat.le_of_ble_eq_true rfl) rfl rfl rfl rfl (by simp) rfl (at_in arI rfl) a0I sz_1010.1 sz_1010.2 cbI_1010 (by show _ ≤ (9 : Nat); omega) (by show _ ≤ (7561 : Nat); omega) hA diX2_42 diX2_44 (Nat.le_of_ble_eq_true rfl) hP hD hS (fun a4 H locs hP hD hS => ?_)
  have hP : va_P D cls9 ((h0, .inr (2, [.ref a0, .ref a1, .ref a2, .ref a3, .ref a4, .null, .null, .null, .null, .int 0, .int 0, .int 0, .int 0, .int 0, .int 0, .int 0, .int 0, .int 0])) :: [(a0, .inl (cI, (101, .inl fun _ => Int32.ofInt 0))), (a1, .inl (cI, (10, .inl fun _ => Int32.ofInt 0))), (a2, .inl (cI, (1010, .inl fun _ => Int32.ofInt 0))), (a3, .inl (cI, (1200, .inl fun _ => Int32.ofInt 0))), (a4, .inl (cI, (1010, .inl fun _ => Int32.ofInt 0)))]) H := hP
  have hD : va_D A ((h0, .inr (2, [.ref a0, .ref a1, .ref a2, .ref a3, .ref a4, .null, .null, .null, .null, .int 0, .int 0, .int 0, .int 0, .int 0, .int 0, .int 0, .int 0, .int 0])) :: [(a0, .inl (cI, (101, .inl fun _ => Int32.ofInt 0))), (a1, .inl (cI, (10, .inl fun _ => Int32.ofInt 0))), (a2, .inl (cI, (1010, .inl fun _ => Int32.ofInt 0))), (a3, .inl (cI, (1200, .inl fun _ => Int32.ofInt 0))), (a4, .inl (cI, (1010, .inl fun _ => Int32.ofInt 0)))]) := hD
  refine lv_aload_n X.1 X.2.1 diX2_47 rfl (lv_at hl 0 rfl) ?_
  refine lv_sipush (v := Int32.ofInt 1010) X.1 X.2.1 diX2_48 bp_sipush_1010 ?_
  refine ct_arr (ty := .int) (cA := cI) (t0 := 0) (N := 1010) (a0 := (1010, .inl fun _ => Int32.ofInt 0)) (d := 301) (k := 5) X (List.mem_of_getElem? (i := 24) rfl) (Nat.le_of_ble_eq_true rfl) rfl rfl rfl rfl (by simp) rfl (at_in arI rfl) a0I sz_1010.1 sz_1010.2 cbI_1010 (by show _ ≤ (9 : Nat); omega) (by show _ ≤ (7561 : Nat); omega) hA diX2_51 diX2_53 (Nat.le_of_ble_eq_true rfl) hP hD hS (fun a5 H locs hP hD hS => ?_)
  have hP : va_P D cls9 ((h0, .inr (2, [.ref a0, .ref a1, .ref a2, .ref a3, .ref a4, .ref a5, .null, .null, .null, .int 0, .int 0, .int 0, .int 0, .int 0, .int 0, .int 0, .int 0, .int 0])) :: [(a0, .inl (cI, (101, .inl fun _ => Int32.ofInt 0))), (a1, .inl (cI, (10, .inl fun _ => Int32.ofInt 0))), (a2, .inl (cI, (1010, .inl fun _ => Int32.ofInt 0))), (a3, .inl (cI, (1200, .inl fun _ => Int32.ofInt 0))), (a4, .inl (cI, (1010, .inl fun _ => Int32.ofInt 0))), (a5, .inl (cI, (1010, .inl fun _ => Int32.ofInt 0)))]) H := hP
  have hD : va_D A ((h0, .inr (2, [.ref a0, .ref a1, .ref a2, .ref a3, .ref a4, .ref a5, .null, .null, .null, .int 0, .int 0, .int 0, .int 0, .int 0, .int 0, .int 0, .int 0, .int 0])) :: [(a0, .inl (cI, (101, .inl fun _ => Int32.ofInt 0))), (a1, .inl (cI, (10, .inl fun _ => Int32.ofInt 0))), (a2, .inl (cI, (1010, .inl fun _ => Int32.ofInt 0))), (a3, .inl (cI, (1200, .inl fun _ => Int32.ofInt 0))), (a4, .inl (cI, (1010, .inl fun _ => Int32.ofInt 0))), (a5, .inl (cI, (1010, .inl fun _ => Int32.ofInt 0)))]) := hD
  refine lv_aload_n X.1 X.2.1 diX2_56 rfl (lv_at hl 0 rfl) ?_
  refine lv_sipush (v := Int32.ofInt 1010) X.1 X.2.1 diX2_57 bp_sipush_1010 ?_
  refine ct_arr (ty := .int) (cA := cI) (t0 := 0) (N := 1010) (a0 := (1010, .inl fun _ => Int32.ofInt 0)) (d := 302) (k := 6) X (List.mem_of_getElem? (i := 25) rfl) (Nat.le_of_ble_eq_true rfl) rfl rfl rfl rfl (by simp) rfl (at_in arI rfl) a0I sz_1010.1 sz_1010.2 cbI_1010 (by show _ ≤ (9 : Nat); omega) (by show _ ≤ (7561 : Nat); omega) hA diX2_60 diX2_62 (Nat.le_of_ble_eq_true rfl) hP hD hS (fun a6 H locs hP hD hS => ?_)
  have hP : va_P D cls9 ((h0, .inr (2, [.ref a0, .ref a1, .ref a2, .ref a3, .ref a4, .ref a5, .ref a6, .null, .null, .int 0, .int 0, .int 0, .int 0, .int 0, .int 0, .int 0, .int 0, .int 0])) :: [(a0, .inl (cI, (101, .inl fun _ => Int32.ofInt 0))), (a1, .inl (cI, (10, .inl fun _ => Int32.ofInt 0))), (a2, .inl (cI, (1010, .inl fun _ => Int32.ofInt 0))), (a3, .inl (cI, (1200, .inl fun _ => Int32.ofInt 0))), (a4, .inl (cI, (1010, .inl fun _ => Int32.ofInt 0))), (a5, .inl (cI, (1010, .inl fun _ => Int32.ofInt 0))), (a6, .inl (cI, (1010, .inl fun _ => Int32.ofInt 0)))]) H := hP
  have hD : va_D A ((h0, .inr (2, [.ref a0, .ref a1, .ref a2, .ref a3, .ref a4, .ref a5, .ref a6, .null, .null, .int 0, .int 0, .int 0, .int 0, .int 0, .int 0, .int 0, .int 0, .int 0])) :: [(a0, .inl (cI, (101, .inl fun _ => Int32.ofInt 0))), (a1, .inl (cI, (10, .inl fun _ => Int32.ofInt 0))), (a2, .inl (cI, (1010, .inl fun _ => Int32.ofInt 0))), (a3, .inl (cI, (1200, .inl fun _ => Int32.ofInt 0))), (a4, .inl (cI, (1010, .inl fun _ => Int32.ofInt 0))), (a5, .inl (cI, (1010, .inl fun _ => Int32.ofInt 0))), (a6, .inl (cI, (1010, .inl fun _ => Int32.ofInt 0)))]) := hD
  refine lv_aload_n X.1 X.2.1 diX2_65 rfl (lv_at hl 0 rfl) ?_
  refine lv_sipush (v := Int32.ofInt 1010) X.1 X.2.1 diX2_66 bp_sipush_1010 ?_
  refine ct_arr (ty := .int) (cA := cI) (t0 := 0) (N := 1010) (a0 := (1010, .inl fun _ => Int32.ofInt 0)) (d := 303) (k := 7) X (List.mem_of_getElem? (i := 26) rfl) (Nat.le_of_ble_eq_true rfl) rfl rfl rfl rfl (by simp) rfl (at_in arI rfl) a0I sz_1010.1 sz_1010.2 cbI_1010 (by show _ ≤ (9 : Nat); omega) (by show _ ≤ (7561 : Nat); omega) hA diX2_69 diX2_71 (Nat.le_of_ble_eq_true rfl) hP hD hS (fun a7 H locs hP hD hS => ?_)
  have hP : va_P D cls9 ((h0, .inr (2, [.ref a0, .ref a1, .ref a2, .ref a3, .ref a4, .ref a5, .ref a6, .ref a7, .null, .int 0, .int 0, .int 0, .int 0, .int 0, .int 0, .int 0, .int 0, .int 0])) :: [(a0, .inl (cI, (101, .inl fun _ => Int32.ofInt 0))), (a1, .inl (cI, (10, .inl fun _ => Int32.ofInt 0))), (a2, .inl (cI, (1010, .inl fun _ => Int32.ofInt 0))), (a3, .inl (cI, (1200, .inl fun _ => Int32.ofInt 0))), (a4, .inl (cI, (1010, .inl fun _ => Int32.ofInt 0))), (a5, .inl (cI, (1010, .inl fun _ => Int32.ofInt 0))), (a6, .inl (cI, (1010, .inl fun _ => Int32.ofInt 0))), (a7, .inl (cI, (1010, .inl fun _ => Int32.ofInt 0)))]) H := hP
  have hD : va_D A ((h0, .inr (2, [.ref a0, .ref a1, .ref a2, .ref a3, .ref a4, .ref a5, .ref a6, .ref a7, .null, .int 0, .int 0, .int 0, .int 0, .int 0, .int 0, .int 0, .int 0, .int 0])) :: [(a0, .inl (cI, (101, .inl fun _ => Int32.ofInt 0))), (a1, .inl (cI, (10, .inl fun _ => Int32.ofInt 0))), (a2, .inl (cI, (1010, .inl fun _ => Int32.ofInt 0))), (a3, .inl (cI, (1200, .inl fun _ => Int32.ofInt 0))), (a4, .inl (cI, (1010, .inl fun _ => Int32.ofInt 0))), (a5, .inl (cI, (1010, .inl fun _ => Int32.ofInt 0))), (a6, .inl (cI, (1010, .inl fun _ => Int32.ofInt 0))), (a7, .inl (cI, (1010, .inl fun _ => Int32.ofInt 0)))]) := hD
  refine lv_aload_n X.1 X.2.1 diX2_74 rfl (lv_at hl 0 rfl) ?_
  refine lv_sipush (v := Int32.ofInt 1200) X.1 X.2.1 diX2_75 bp_sipush_1200 ?_
  refine ct_arr (ty := .int) (cA := cI) (t0 := 0) (N := 1200) (a0 := (1200, .inl fun _ => Int32.ofInt 0)) (d := 304) (k := 8) X (List.mem_of_getElem? (i := 27) rfl) (Nat.le_of_ble_eq_true rfl) rfl rfl rfl rfl (by simp) rfl (at_in arI rfl) a0I sz_1200.1 sz_1200.2 cbI_1200 (by show _ ≤ (9 : Nat); omega) (by show _ ≤ (7561 : Nat); omega) hA diX2_78 diX2_80 (Nat.le_of_ble_eq_true rfl) hP hD hS (fun a8 H locs hP hD hS => ?_)
  have hP : va_P D cls9 ((h0, .inr (2, [.ref a0, .ref a1, .ref a2, .ref a3, .ref a4, .ref a5, .ref a6, .ref a7, .ref a8, .int 0, .int 0, .int 0, .int 0, .int 0, .int 0, .int 0, .int 0, .int 0])) :: [(a0, .inl (cI, (101, .inl fun _ => Int32.ofInt 0))), (a1, .inl (cI, (10, .inl fun _ => Int32.ofInt 0))), (a2, .inl (cI, (1010, .inl fun _ => Int32.ofInt 0))), (a3, .inl (cI, (1200, .inl fun _ => Int32.ofInt 0))), (a4, .inl (cI, (1010, .inl fun _ => Int32.ofInt 0))), (a5, .inl (cI, (1010, .inl fun _ => Int32.ofInt 0))), (a6, .inl (cI, (1010, .inl fun _ => Int32.ofInt 0))), (a7, .inl (cI, (1010, .inl fun _ => Int32.ofInt 0))), (a8, .inl (cI, (1200, .inl fun _ => Int32.ofInt 0)))]) H := hP
  have hD : va_D A ((h0, .inr (2, [.ref a0, .ref a1, .ref a2, .ref a3, .ref a4, .ref a5, .ref a6, .ref a7, .ref a8, .int 0, .int 0, .int 0, .int 0, .int 0, .int 0, .int 0, .int 0, .int 0])) :: [(a0, .inl (cI, (101, .inl fun _ => Int32.ofInt 0))), (a1, .inl (cI, (10, .inl fun _ => Int32.ofInt 0))), (a2, .inl (cI, (1010, .inl fun _ => Int32.ofInt 0))), (a3, .inl (cI, (1200, .inl fun _ => Int32.ofInt 0))), (a4, .inl (cI, (1010, .inl fun _ => Int32.ofInt 0))), (a5, .inl (cI, (1010, .inl fun _ => Int32.ofInt 0))), (a6, .inl (cI, (1010, .inl fun _ => Int32.ofInt 0))), (a7, .inl (cI, (1010, .inl fun _ => Int32.ofInt 0))), (a8, .inl (cI, (1200, .inl fun _ => Int32.ofInt 0)))]) := hD
  refine lv_aload_n X.1 X.2.1 diX2_83 rfl (lv_at hl 0 rfl) ?_
  refine lv_iconst (v := Int32.ofInt 0) X.1 X.2.1 diX2_84 bp_iconst_0 ?_
  refine ct_int (d := 305) (k := 9) X (List.mem_of_getElem? (i := 28) rfl) (Nat.le_of_ble_eq_true rfl) rfl (by first | rfl | exact i_zn (Or.inl rfl)) (by first | rfl | decide) diX2_85 (Nat.le_of_ble_eq_true rfl) hP hD hS (fun H locs hP hD hS => ?_)
  have hP : va_P D cls9 ((h0, .inr (2, [.ref a0, .ref a1, .ref a2, .ref a3, .ref a4, .ref a5, .ref a6, .ref a7, .ref a8, .int (Int32.ofInt 0), .int 0, .int 0, .int 0, .int 0, .int 0, .int 0, .int 0, .int 0])) :: [(a0, .inl (cI, (101, .inl fun _ => Int32.ofInt 0))), (a1, .inl (cI, (10, .inl fun _ => Int32.ofInt 0))), (a2, .inl (cI, (1010, .inl fun _ => Int32.ofInt 0))), (a3, .inl (cI, (1200, .inl fun _ => Int32.ofInt 0))), (a4, .inl (cI, (1010, .inl fun _ => Int32.ofInt 0))), (a5, .inl (cI, (1010, .inl fun _ => Int32.ofInt 0))), (a6, .inl (cI, (1010, .inl fun _ => Int32.ofInt 0))), (a7, .inl (cI, (1010, .inl fun _ => Int32.ofInt 0))), (a8, .inl (cI, (1200, .inl fun _ => Int32.ofInt 0)))]) H := hP
  have hD : va_D A ((h0, .inr (2, [.ref a0, .ref a1, .ref a2, .ref a3, .ref a4, .ref a5, .ref a6, .ref a7, .ref a8, .int (Int32.ofInt 0), .int 0, .int 0, .int 0, .int 0, .int 0, .int 0, .int 0, .int 0])) :: [(a0, .inl (cI, (101, .inl fun _ => Int32.ofInt 0))), (a1, .inl (cI, (10, .inl fun _ => Int32.ofInt 0))), (a2, .inl (cI, (1010, .inl fun _ => Int32.ofInt 0))), (a3, .inl (cI, (1200, .inl fun _ => Int32.ofInt 0))), (a4, .inl (cI, (1010, .inl fun _ => Int32.ofInt 0))), (a5, .inl (cI, (1010, .inl fun _ => Int32.ofInt 0))), (a6, .inl (cI, (1010, .inl fun _ => Int32.ofInt 0))), (a7, .inl (cI, (1010, .inl fun _ => Int32.ofInt 0))), (a8, .inl (cI, (1200, .inl fun _ => Int32.ofInt 0)))]) := hD
  refine lv_aload_n X.1 X.2.1 diX2_88 rfl (lv_at hl 0 rfl) ?_
  refine lv_iconst (v := Int32.ofInt 0) X.1 X.2.1 diX2_89 bp_iconst_0 ?_
  refine ct_int (d := 306) (k := 10) X (List.mem_of_getElem? (i := 29) rfl) (Nat.le_of_ble_eq_true rfl) rfl (by first | rfl | exact i_zn (Or.inl rfl)) (by first | rfl | decide) diX2_90 (Nat.le_of_ble_eq_true rfl) hP hD hS (fun H locs hP hD hS => ?_)
  have hP : va_P D cls9 ((h0, .inr (2, [.ref a0, .ref a1, .ref a2, .ref a3, .ref a4, .ref a5, .ref a6, .ref a7, .ref a8, .int (Int32.ofInt 0), .int (Int32.ofInt 0), .int 0, .int 0, .int 0, .int 0, .int 0, .int 0, .int 0])) :: [(a0, .inl (cI, (101, .inl fun _ => Int32.ofInt 0))), (a1, .inl (cI, (10, .inl fun _ => Int32.ofInt 0))), (a2, .inl (cI, (1010, .inl fun _ => Int32.ofInt 0))), (a3, .inl (cI, (1200, .inl fun _ => Int32.ofInt 0))), (a4, .inl (cI, (1010, .inl fun _ => Int32.ofInt 0))), (a5, .inl (cI, (1010, .inl fun _ => Int32.ofInt 0))), (a6, .inl (cI, (1010, .inl fun _ => Int32.ofInt 0))), (a7, .inl (cI, (1010, .inl fun _ => Int32.ofInt 0))), (a8, .inl (cI, (1200, .inl fun _ => Int32.ofInt 0)))]) H := hP
  have hD : va_D A ((h0, .inr (2, [.ref a0, .ref a1, .ref a2, .ref a3, .ref a4, .ref a5, .ref a6, .ref a7, .ref a8, .int (Int32.ofInt 0), .int (Int32.ofInt 0), .int 0, .int 0, .int 0, .int 0, .int 0, .int 0, .int 0])) :: [(a0, .inl (cI, (101, .inl fun _ => Int32.ofInt 0))), (a1, .inl (cI, (10, .inl fun _ => Int32.ofInt 0))), (a2, .inl (cI, (1010, .inl fun _ => Int32.ofInt 0))), (a3, .inl (cI, (1200, .inl fun _ => Int32.ofInt 0))), (a4, .inl (cI, (1010, .inl fun _ => Int32.ofInt 0))), (a5, .inl (cI, (1010, .inl fun _ => Int32.ofInt 0))), (a6, .inl (cI, (1010, .inl fun _ => Int32.ofInt 0))), (a7, .inl (cI, (1010, .inl fun _ => Int32.ofInt 0))), (a8, .inl (cI, (1200, .inl fun _ => Int32.ofInt 0)))]) := hD
  refine lv_aload_n X.1 X.2.1 diX2_93 rfl (lv_at hl 0 rfl) ?_
  refine lv_iconst (v := Int32.ofInt 0) X.1 X.2.1 diX2_94 bp_iconst_0 ?_
  refine ct_int (d := 307) (k := 11) X (List.mem_of_getElem? (i := 30) rfl) (Nat.le_of_ble_eq_true rfl) rfl (by first | rfl | exact i_zn (Or.inl rfl)) (by first | rfl | decide) diX2_95 (Nat.le_of_ble_eq_true rfl) hP hD hS (fun H locs hP hD hS => ?_)
  have hP : va_P D cls9 ((h0, .inr (2, [.ref a0, .ref a1, .ref a2, .ref a3, .ref a4, .ref a5, .ref a6, .ref a7, .ref a8, .int (Int32.ofInt 0), .int (Int32.ofInt 0), .int (Int32.ofInt 0), .int 0, .int 0, .int 0, .int 0, .int 0, .int 0])) :: [(a0, .inl (cI, (101, .inl fun _ => Int32.ofInt 0))), (a1, .inl (cI, (10, .inl fun _ => Int32.ofInt 0))), (a2, .inl (cI, (1010, .inl fun _ => Int32.ofInt 0))), (a3, .inl (cI, (1200, .inl fun _ => Int32.ofInt 0))), (a4, .inl (cI, (1010, .inl fun _ => Int32.ofInt 0))), (a5, .inl (cI, (1010, .inl fun _ => Int32.ofInt 0))), (a6, .inl (cI, (1010, .inl fun _ => Int32.ofInt 0))), (a7, .inl (cI, (1010, .inl fun _ => Int32.ofInt 0))), (a8, .inl (cI, (1200, .inl fun _ => Int32.ofInt 0)))]) H := hP
  have hD : va_D A ((h0, .inr (2, [.ref a0, .ref a1, .ref a2, .ref a3, .ref a4, .ref a5, .ref a6, .ref a7, .ref a8, .int (Int32.ofInt 0), .int (Int32.ofInt 0), .int (Int32.ofInt 0), .int 0, .int 0, .int 0, .int 0, .int 0, .int 0])) :: [(a0, .inl (cI, (101, .inl fun _ => Int32.ofInt 0))), (a1, .inl (cI, (10, .inl fun _ => Int32.ofInt 0))), (a2, .inl (cI, (1010, .inl fun _ => Int32.ofInt 0))), (a3, .inl (cI, (1200, .inl fun _ => Int32.ofInt 0))), (a4, .inl (cI, (1010, .inl fun _ => Int32.ofInt 0))), (a5, .inl (cI, (1010, .inl fun _ => Int32.ofInt 0))), (a6, .inl (cI, (1010, .inl fun _ => Int32.ofInt 0))), (a7, .inl (cI, (1010, .inl fun _ => Int32.ofInt 0))), (a8, .inl (cI, (1200, .inl fun _ => Int32.ofInt 0)))]) := hD
  refine lv_aload_n X.1 X.2.1 diX2_98 rfl (lv_at hl 0 rfl) ?_
  refine lv_iconst (v := Int32.ofInt 0) X.1 X.2.1 diX2_99 bp_iconst_0 ?_
  refine ct_int (d := 308) (k := 12) X (List.mem_of_getElem? (i := 31) rfl) (Nat.le_of_ble_eq_true rfl) rfl (by first | rfl | exact i_zn (Or.inl rfl)) (by first | rfl | decide) diX2_100 (Nat.le_of_ble_eq_true rfl) hP hD hS (fun H locs hP hD hS => ?_)
  have hP : va_P D cls9 ((h0, .inr (2, [.ref a0, .ref a1, .ref a2, .ref a3, .ref a4, .ref a5, .ref a6, .ref a7, .ref a8, .int (Int32.ofInt 0), .int (Int32.ofInt 0), .int (Int32.ofInt 0), .int (Int32.ofInt 0), .int 0, .int 0, .int 0, .int 0, .int 0])) :: [(a0, .inl (cI, (101, .inl fun _ => Int32.ofInt 0))), (a1, .inl (cI, (10, .inl fun _ => Int32.ofInt 0))), (a2, .inl (cI, (1010, .inl fun _ => Int32.ofInt 0))), (a3, .inl (cI, (1200, .inl fun _ => Int32.ofInt 0))), (a4, .inl (cI, (1010, .inl fun _ => Int32.ofInt 0))), (a5, .inl (cI, (1010, .inl fun _ => Int32.ofInt 0))), (a6, .inl (cI, (1010, .inl fun _ => Int32.ofInt 0))), (a7, .inl (cI, (1010, .inl fun _ => Int32.ofInt 0))), (a8, .inl (cI, (1200, .inl fun _ => Int32.ofInt 0)))]) H := hP
  have hD : va_D A ((h0, .inr (2, [.ref a0, .ref a1, .ref a2, .ref a3, .ref a4, .ref a5, .ref a6, .ref a7, .ref a8, .int (Int32.ofInt 0), .int (Int32.ofInt 0), .int (Int32.ofInt 0), .int (Int32.ofInt 0), .int 0, .int 0, .int 0, .int 0, .int 0])) :: [(a0, .inl (cI, (101, .inl fun _ => Int32.ofInt 0))), (a1, .inl (cI, (10, .inl fun _ => Int32.ofInt 0))), (a2, .inl (cI, (1010, .inl fun _ => Int32.ofInt 0))), (a3, .inl (cI, (1200, .inl fun _ => Int32.ofInt 0))), (a4, .inl (cI, (1010, .inl fun _ => Int32.ofInt 0))), (a5, .inl (cI, (1010, .inl fun _ => Int32.ofInt 0))), (a6, .inl (cI, (1010, .inl fun _ => Int32.ofInt 0))), (a7, .inl (cI, (1010, .inl fun _ => Int32.ofInt 0))), (a8, .inl (cI, (1200, .inl fun _ => Int32.ofInt 0)))]) := hD
  refine lv_aload_n X.1 X.2.1 diX2_103 rfl (lv_at hl 0 rfl) ?_
  refine lv_iconst (v := Int32.ofInt 0) X.1 X.2.1 diX2_104 bp_iconst_0 ?_
  refine ct_int (d := 309) (k := 13) X (List.mem_of_getElem? (i := 32) rfl) (Nat.le_of_ble_eq_true rfl) rfl (by first | rfl | exact i_zn (Or.inl rfl)) (by first | rfl | decide) diX2_105 (Nat.le_of_ble_eq_true rfl) hP hD hS (fun H locs hP hD hS => ?_)
  have hP : va_P D cls9 ((h0, .inr (2, [.ref a0, .ref a1, .ref a2, .ref a3, .ref a4, .ref a5, .ref a6, .ref a7, .ref a8, .int (Int32.ofInt 0), .int (Int32.ofInt 0), .int (Int32.ofInt 0), .int (Int32.ofInt 0), .int (Int32.ofInt 0), .int 0, .int 0, .int 0, .int 0])) :: [(a0, .inl (cI, (101, .inl fun _ => Int32.ofInt 0))), (a1, .inl (cI, (10, .inl fun _ => Int32.ofInt 0))), (a2, .inl (cI, (1010, .inl fun _ => Int32.ofInt 0))), (a3, .inl (cI, (1200, .inl fun _ => Int32.ofInt 0))), (a4, .inl (cI, (1010, .inl fun _ => Int32.ofInt 0))), (a5, .inl (cI, (1010, .inl fun _ => Int32.ofInt 0))), (a6, .inl (cI, (1010, .inl fun _ => Int32.ofInt 0))), (a7, .inl (cI, (1010, .inl fun _ => Int32.ofInt 0))), (a8, .inl (cI, (1200, .inl fun _ => Int32.ofInt 0)))]) H := hP
  have hD : va_D A ((h0, .inr (2, [.ref a0, .ref a1, .ref a2, .ref a3, .ref a4, .ref a5, .ref a6, .ref a7, .ref a8, .int (Int32.ofInt 0), .int (Int32.ofInt 0), .int (Int32.ofInt 0), .int (Int32.ofInt 0), .int (Int32.ofInt 0), .int 0, .int 0, .int 0, .int 0])) :: [(a0, .inl (cI, (101, .inl fun _ => Int32.ofInt 0))), (a1, .inl (cI, (10, .inl fun _ => Int32.ofInt 0))), (a2, .inl (cI, (1010, .inl fun _ => Int32.ofInt 0))), (a3, .inl (cI, (1200, .inl fun _ => Int32.ofInt 0))), (a4, .inl (cI, (1010, .inl fun _ => Int32.ofInt 0))), (a5, .inl (cI, (1010, .inl fun _ => Int32.ofInt 0))), (a6, .inl (cI, (1010, .inl fun _ => Int32.ofInt 0))), (a7, .inl (cI, (1010, .inl fun _ => Int32.ofInt 0))), (a8, .inl (cI, (1200, .inl fun _ => Int32.ofInt 0)))]) := hD
  refine lv_aload_n X.1 X.2.1 diX2_108 rfl (lv_at hl 0 rfl) ?_
  refine lv_iconst (v := Int32.ofInt (-1)) X.1 X.2.1 diX2_109 bp_iconst_m1 ?_
  refine ct_int (d := 310) (k := 14) X (List.mem_of_getElem? (i := 33) rfl) (Nat.le_of_ble_eq_true rfl) rfl (by first | rfl | exact i_zn (Or.inl rfl)) (by first | rfl | decide) diX2_110 (Nat.le_of_ble_eq_true rfl) hP hD hS (fun H locs hP hD hS => ?_)
  have hP : va_P D cls9 ((h0, .inr (2, [.ref a0, .ref a1, .ref a2, .ref a3, .ref a4, .ref a5, .ref a6, .ref a7, .ref a8, .int (Int32.ofInt 0), .int (Int32.ofInt 0), .int (Int32.ofInt 0), .int (Int32.ofInt 0), .int (Int32.ofInt 0), .int (Int32.ofInt (-1)), .int 0, .int 0, .int 0])) :: [(a0, .inl (cI, (101, .inl fun _ => Int32.ofInt 0))), (a1, .inl (cI, (10, .inl fun _ => Int32.ofInt 0))), (a2, .inl (cI, (1010, .inl fun _ => Int32.ofInt 0))), (a3, .inl (cI, (1200, .inl fun _ => Int32.ofInt 0))), (a4, .inl (cI, (1010, .inl fun _ => Int32.ofInt 0))), (a5, .inl (cI, (1010, .inl fun _ => Int32.ofInt 0))), (a6, .inl (cI, (1010, .inl fun _ => Int32.ofInt 0))), (a7, .inl (cI, (1010, .inl fun _ => Int32.ofInt 0))), (a8, .inl (cI, (1200, .inl fun _ => Int32.ofInt 0)))]) H := hP
  have hD : va_D A ((h0, .inr (2, [.ref a0, .ref a1, .ref a2, .ref a3, .ref a4, .ref a5, .ref a6, .ref a7, .ref a8, .int (Int32.ofInt 0), .int (Int32.ofInt 0), .int (Int32.ofInt 0), .int (Int32.ofInt 0), .int (Int32.ofInt 0), .int (Int32.ofInt (-1)), .int 0, .int 0, .int 0])) :: [(a0, .inl (cI, (101, .inl fun _ => Int32.ofInt 0))), (a1, .inl (cI, (10, .inl fun _ => Int32.ofInt 0))), (a2, .inl (cI, (1010, .inl fun _ => Int32.ofInt 0))), (a3, .inl (cI, (1200, .inl fun _ => Int32.ofInt 0))), (a4, .inl (cI, (1010, .inl fun _ => Int32.ofInt 0))), (a5, .inl (cI, (1010, .inl fun _ => Int32.ofInt 0))), (a6, .inl (cI, (1010, .inl fun _ => Int32.ofInt 0))), (a7, .inl (cI, (1010, .inl fun _ => Int32.ofInt 0))), (a8, .inl (cI, (1200, .inl fun _ => Int32.ofInt 0)))]) := hD
  refine lv_aload_n X.1 X.2.1 diX2_113 rfl (lv_at hl 0 rfl) ?_
  refine lv_iconst (v := Int32.ofInt (-1)) X.1 X.2.1 diX2_114 bp_iconst_m1 ?_
  refine ct_int (d := 312) (k := 15) X (List.mem_of_getElem? (i := 34) rfl) (Nat.le_of_ble_eq_true rfl) rfl (by first | rfl | exact i_zn (Or.inl rfl)) (by first | rfl | decide) diX2_115 (Nat.le_of_ble_eq_true rfl) hP hD hS (fun H locs hP hD hS => ?_)
  have hP : va_P D cls9 ((h0, .inr (2, [.ref a0, .ref a1, .ref a2, .ref a3, .ref a4, .ref a5, .ref a6, .ref a7, .ref a8, .int (Int32.ofInt 0), .int (Int32.ofInt 0), .int (Int32.ofInt 0), .int (Int32.ofInt 0), .int (Int32.ofInt 0), .int (Int32.ofInt (-1)), .int (Int32.ofInt (-1)), .int 0, .int 0])) :: [(a0, .inl (cI, (101, .inl fun _ => Int32.ofInt 0))), (a1, .inl (cI, (10, .inl fun _ => Int32.ofInt 0))), (a2, .inl (cI, (1010, .inl fun _ => Int32.ofInt 0))), (a3, .inl (cI, (1200, .inl fun _ => Int32.ofInt 0))), (a4, .inl (cI, (1010, .inl fun _ => Int32.ofInt 0))), (a5, .inl (cI, (1010, .inl fun _ => Int32.ofInt 0))), (a6, .inl (cI, (1010, .inl fun _ => Int32.ofInt 0))), (a7, .inl (cI, (1010, .inl fun _ => Int32.ofInt 0))), (a8, .inl (cI, (1200, .inl fun _ => Int32.ofInt 0)))]) H := hP
  have hD : va_D A ((h0, .inr (2, [.ref a0, .ref a1, .ref a2, .ref a3, .ref a4, .ref a5, .ref a6, .ref a7, .ref a8, .int (Int32.ofInt 0), .int (Int32.ofInt 0), .int (Int32.ofInt 0), .int (Int32.ofInt 0), .int (Int32.ofInt 0), .int (Int32.ofInt (-1)), .int (Int32.ofInt (-1)), .int 0, .int 0])) :: [(a0, .inl (cI, (101, .inl fun _ => Int32.ofInt 0))), (a1, .inl (cI, (10, .inl fun _ => Int32.ofInt 0))), (a2, .inl (cI, (1010, .inl fun _ => Int32.ofInt 0))), (a3, .inl (cI, (1200, .inl fun _ => Int32.ofInt 0))), (a4, .inl (cI, (1010, .inl fun _ => Int32.ofInt 0))), (a5, .inl (cI, (1010, .inl fun _ => Int32.ofInt 0))), (a6, .inl (cI, (1010, .inl fun _ => Int32.ofInt 0))), (a7, .inl (cI, (1010, .inl fun _ => Int32.ofInt 0))), (a8, .inl (cI, (1200, .inl fun _ => Int32.ofInt 0)))]) := hD
  refine lv_aload_n X.1 X.2.1 diX2_118 rfl (lv_at hl 0 rfl) ?_
  refine lv_iconst (v := Int32.ofInt 0) X.1 X.2.1 diX2_119 bp_iconst_0 ?_
  refine ct_int (d := 314) (k := 16) X (List.mem_of_getElem? (i := 35) rfl) (Nat.le_of_ble_eq_true rfl) rfl (by first | rfl | exact i_zn (Or.inl rfl)) (by first | rfl | decide) diX2_120 (Nat.le_of_ble_eq_true rfl) hP hD hS (fun H locs hP hD hS => ?_)
  have hP : va_P D cls9 ((h0, .inr (2, [.ref a0, .ref a1, .ref a2, .ref a3, .ref a4, .ref a5, .ref a6, .ref a7, .ref a8, .int (Int32.ofInt 0), .int (Int32.ofInt 0), .int (Int32.ofInt 0), .int (Int32.ofInt 0), .int (Int32.ofInt 0), .int (Int32.ofInt (-1)), .int (Int32.ofInt (-1)), .int (Int32.ofInt 0), .int 0])) :: [(a0, .inl (cI, (101, .inl fun _ => Int32.ofInt 0))), (a1, .inl (cI, (10, .inl fun _ => Int32.ofInt 0))), (a2, .inl (cI, (1010, .inl fun _ => Int32.ofInt 0))), (a3, .inl (cI, (1200, .inl fun _ => Int32.ofInt 0))), (a4, .inl (cI, (1010, .inl fun _ => Int32.ofInt 0))), (a5, .inl (cI, (1010, .inl fun _ => Int32.ofInt 0))), (a6, .inl (cI, (1010, .inl fun _ => Int32.ofInt 0))), (a7, .inl (cI, (1010, .inl fun _ => Int32.ofInt 0))), (a8, .inl (cI, (1200, .inl fun _ => Int32.ofInt 0)))]) H := hP
  have hD : va_D A ((h0, .inr (2, [.ref a0, .ref a1, .ref a2, .ref a3, .ref a4, .ref a5, .ref a6, .ref a7, .ref a8, .int (Int32.ofInt 0), .int (Int32.ofInt 0), .int (Int32.ofInt 0), .int (Int32.ofInt 0), .int (Int32.ofInt 0), .int (Int32.ofInt (-1)), .int (Int32.ofInt (-1)), .int (Int32.ofInt 0), .int 0])) :: [(a0, .inl (cI, (101, .inl fun _ => Int32.ofInt 0))), (a1, .inl (cI, (10, .inl fun _ => Int32.ofInt 0))), (a2, .inl (cI, (1010, .inl fun _ => Int32.ofInt 0))), (a3, .inl (cI, (1200, .inl fun _ => Int32.ofInt 0))), (a4, .inl (cI, (1010, .inl fun _ => Int32.ofInt 0))), (a5, .inl (cI, (1010, .inl fun _ => Int32.ofInt 0))), (a6, .inl (cI, (1010, .inl fun _ => Int32.ofInt 0))), (a7, .inl (cI, (1010, .inl fun _ => Int32.ofInt 0))), (a8, .inl (cI, (1200, .inl fun _ => Int32.ofInt 0)))]) := hD
  refine lv_aload_n X.1 X.2.1 diX2_123 rfl (lv_at hl 0 rfl) ?_
  refine lv_iconst (v := Int32.ofInt 0) X.1 X.2.1 diX2_124 bp_iconst_0 ?_
  refine ct_int (d := 316) (k := 17) X (List.mem_of_getElem? (i := 36) rfl) (Nat.le_of_ble_eq_true rfl) rfl (by first | rfl | exact i_zn (Or.inl rfl)) (by first | rfl | decide) diX2_125 (Nat.le_of_ble_eq_true rfl) hP hD hS (fun H locs hP hD hS => ?_)
  have hP : va_P D cls9 ((h0, .inr (2, [.ref a0, .ref a1, .ref a2, .ref a3, .ref a4, .ref a5, .ref a6, .ref a7, .ref a8, .int (Int32.ofInt 0), .int (Int32.ofInt 0), .int (Int32.ofInt 0), .int (Int32.ofInt 0), .int (Int32.ofInt 0), .int (Int32.ofInt (-1)), .int (Int32.ofInt (-1)), .int (Int32.ofInt 0), .int (Int32.ofInt 0)])) :: [(a0, .inl (cI, (101, .inl fun _ => Int32.ofInt 0))), (a1, .inl (cI, (10, .inl fun _ => Int32.ofInt 0))), (a2, .inl (cI, (1010, .inl fun _ => Int32.ofInt 0))), (a3, .inl (cI, (1200, .inl fun _ => Int32.ofInt 0))), (a4, .inl (cI, (1010, .inl fun _ => Int32.ofInt 0))), (a5, .inl (cI, (1010, .inl fun _ => Int32.ofInt 0))), (a6, .inl (cI, (1010, .inl fun _ => Int32.ofInt 0))), (a7, .inl (cI, (1010, .inl fun _ => Int32.ofInt 0))), (a8, .inl (cI, (1200, .inl fun _ => Int32.ofInt 0)))]) H := hP
  have hD : va_D A ((h0, .inr (2, [.ref a0, .ref a1, .ref a2, .ref a3, .ref a4, .ref a5, .ref a6, .ref a7, .ref a8, .int (Int32.ofInt 0), .int (Int32.ofInt 0), .int (Int32.ofInt 0), .int (Int32.ofInt 0), .int (Int32.ofInt 0), .int (Int32.ofInt (-1)), .int (Int32.ofInt (-1)), .int (Int32.ofInt 0), .int (Int32.ofInt 0)])) :: [(a0, .inl (cI, (101, .inl fun _ => Int32.ofInt 0))), (a1, .inl (cI, (10, .inl fun _ => Int32.ofInt 0))), (a2, .inl (cI, (1010, .inl fun _ => Int32.ofInt 0))), (a3, .inl (cI, (1200, .inl fun _ => Int32.ofInt 0))), (a4, .inl (cI, (1010, .inl fun _ => Int32.ofInt 0))), (a5, .inl (cI, (1010, .inl fun _ => Int32.ofInt 0))), (a6, .inl (cI, (1010, .inl fun _ => Int32.ofInt 0))), (a7, .inl (cI, (1010, .inl fun _ => Int32.ofInt 0))), (a8, .inl (cI, (1200, .inl fun _ => Int32.ofInt 0)))]) := hD
  have hP9 : va_P D cls9 (wc2 cI cZ cJ h0 (fun i => nt 0 [a0, a1, a2, a3, a4, a5, a6, a7, a8] i)) H := hP
  have hD9 : va_D A (wc2 cI cZ cJ h0 (fun i => nt 0 [a0, a1, a2, a3, a4, a5, a6, a7, a8] i)) := hD
  refine W.widen (k := 9) (n := 7561) (by omega) (by omega) ?_
  exact W.vret X.1 X.2.1 hr (fun t ht _ => ⟨⟨(fun i => nt 0 [a0, a1, a2, a3, a4, a5, a6, a7, a8] i), rfl, trivial, (by rw [← ht] at hP9; exact hP9), (by rw [hAe]; exact hD9)⟩, by rw [hAe]; exact hS.F ht⟩) hS.2.2 diX2_128
end
section
def wc4 (cI cZ cJ : ClassId) (h0 : Nat) (u : Nat → Nat) : va_W := (h0, .inr (4, [.ref (u 0), .ref (u 3), .int (Int32.ofInt 0)])) :: ((([] : va_W) ++ (wc3 cI cZ cJ (u 0) (fun i => u (i + 1)))) ++ [(u 3, .inl (cI, (1010, .inl fun _ => Int32.ofInt 0)))])
set_option maxHeartbeats 40000000 in
theorem mi4 (l : Launch) (D : va_G) (cI cZ cJ : ClassId) (h0 sz : Nat) : Met l yX4_init (Cond.code yX4_init cX4_init 1 none :: lw_ok) { frames := 2, cells := 4, slots := 1038, locals := 32 } (Pci D cI cZ cJ h0 sz (.inr (4, [.null, .null, .int 0]))) (Qci D h0 sz (.inr (4, [.null, .null, .int 0])) (wc4 cI cZ cJ)) 4 1038 (va_A [(h0, (.inr (4, [.null, .null, .int 0])))] sz) := by
  refine Met.ofW (cc := cX4_init) (maxL := 1) (ret := none) (by decide) rfl ?_
  intro p e s m args below meth c s₁ B hml hv
  obtain ⟨rfl, hsz, hP, hK, hD0, hns⟩ := hv
  have hr := B.returns
  have hlocks := B.notSynchronized
  have hts := atoms_spec (ws := Cond.code yX4_init cX4_init 1 none :: lw_ok) B.pre
  have X : Cy p s m _ meth c D cI cZ cJ cX4_init 4 := ⟨B.exec, B.bytes, hml, findClass_of_methodNamed B.named, fun w hw => hts w (List.mem_cons_of_mem _ hw), hK, (name_of_methodNamed B.named B.method).1, by decide, hns⟩
  subst hsz
  have hD := hD0.self (sz := s.heap.size)
  generalize hAe : va_A [(h0, (.inr (4, [.null, .null, .int 0]) : va_E))] s.heap.size = A at hD ⊢
  have hA : ∀ q : Nat, s.heap.size ≤ q → A q := fun q h => by rw [← hAe]; exact Or.inr h
  have hS : va_S A s.heap s.heap [] := va_S.rf
  have hl := lv_entry ([.ref h0]) (n := 1) (Nat.le_of_ble_eq_true rfl)
  rw [lg_entry_eq]
  generalize (lg_sl ([.ref h0]) ++ List.replicate (1 - (lg_sl ([.ref h0])).length) Slot.unset).toArray = ls at hl ⊢
  have hl : lv_has ls 1 [(0, .ref h0)] := hl
  refine lv_aload_n X.1 X.2.1 diX4_0 rfl (lv_at hl 0 rfl) ?_
  refine ct_obj (d := 276) X (by decide) hl.1 ⟨Nat.le_of_ble_eq_true rfl, Nat.le_of_ble_eq_true rfl⟩ diX4_1 ?_
  refine lv_aload_n X.1 X.2.1 diX4_4 rfl (lv_at hl 0 rfl) ?_
  refine ct_sub (cj := 3) (k := 0) (d := 279) (N := 6) (fs0 := [.null, .null, .int 0, .int 0, .int 0, .int 0]) X (fun q sz => mi3 l D cI cZ cJ q sz) (by decide) rfl (fun j hj => (by decide : ∀ j, j < 6 → defaultValue (clY 3 j) = vp_V [.null, .null, .int 0, .int 0, .int 0, .int 0] j) j hj) (at_in (i := 277) (by decide +kernel) rfl) (at_in (i := 239) (by decide +kernel) rfl) (by first | exact in_in (z := 33) (by decide)) (at_in cow_iX3 rfl) (at_in (i := 241) (by decide +kernel) rfl) (by decide +kernel) (by decide) (List.mem_of_getElem? (i := 43) rfl) (by decide) rfl rfl rfl ⟨Nat.le_of_ble_eq_true rfl, Nat.le_of_ble_eq_true rfl⟩ (by show _ ≤ (4 : Nat); omega) (by show _ ≤ (1038 : Nat); omega) hA hl.1 diX4_5 diX4_8 diX4_9 diX4_12 (Nat.le_of_ble_eq_true rfl) hP hD hS (fun a0 u5 H locs hP hD hS => ?_)
  refine lv_aload_n X.1 X.2.1 diX4_15 rfl (lv_at hl 0 rfl) ?_
  refine lv_sipush (v := Int32.ofInt 1010) X.1 X.2.1 diX4_16 bp_sipush_1010 ?_
  refine ct_arr (ty := .int) (cA := cI) (t0 := 0) (N := 1010) (a0 := (1010, .inl fun _ => Int32.ofInt 0)) (d := 280) (k := 1) X (List.mem_of_getElem? (i := 44) rfl) (Nat.le_of_ble_eq_true rfl) rfl rfl rfl rfl (by simp) rfl (at_in arI rfl) a0I sz_1010.1 sz_1010.2 cbI_1010 (by show _ ≤ (4 : Nat); omega) (by show _ ≤ (1038 : Nat); omega) hA diX4_19 diX4_21 (Nat.le_of_ble_eq_true rfl) hP hD hS (fun a3 H locs hP hD hS => ?_)
  refine lv_aload_n X.1 X.2.1 diX4_24 rfl (lv_at hl 0 rfl) ?_
  refine lv_iconst (v := Int32.ofInt 0) X.1 X.2.1 diX4_25 bp_iconst_0 ?_
  refine ct_int (d := 281) (k := 2) X (List.mem_of_getElem? (i := 45) rfl) (Nat.le_of_ble_eq_true rfl) rfl (by first | rfl | exact i_zn (Or.inl rfl)) (by first | rfl | decide) diX4_26 (Nat.le_of_ble_eq_true rfl) hP hD hS (fun H locs hP hD hS => ?_)
  have hP9 : va_P D cls9 (wc4 cI cZ cJ h0 (fun i => nt 0 [a0, (u5 0), (u5 1), a3] i)) H := hP
  have hD9 : va_D A (wc4 cI cZ cJ h0 (fun i => nt 0 [a0, (u5 0), (u5 1), a3] i)) := hD
  refine W.widen (k := 4) (n := 1038) (by omega) (by omega) ?_
  exact W.vret X.1 X.2.1 hr (fun t ht _ => ⟨⟨(fun i => nt 0 [a0, (u5 0), (u5 1), a3] i), rfl, trivial, (by rw [← ht] at hP9; exact hP9), (by rw [hAe]; exact hD9)⟩, by rw [hAe]; exact hS.F ht⟩) hS.2.2 diX4_29
end
section
def wc8 (cI cZ cJ : ClassId) (h0 : Nat) (u : Nat → Nat) : va_W := (h0, .inr (8, [.int 0, .int 0, .ref (u 0), .ref (u 1), .ref (u 2), .ref (u 3), .ref (u 4), .ref (u 5), .ref (u 6), .int 0, .ref (u 7), .ref (u 8), .ref (u 9), .ref (u 10), .ref (u 11), .ref (u 12), .ref (u 13), .ref (u 14), .int 0, .int 0, .ref (u 15), .ref (u 16), .ref (u 17), .int 0, .ref (u 18), .ref (u 19), .ref (u 20), .ref (u 21), .ref (u 22), .ref (u 23), .ref (u 24), .ref (u 25), .ref (u 26), .ref (u 27), .ref (u 28), .ref (u 29), .ref (u 30), .ref (u 31), .ref (u 32), .ref (u 33), .ref (u 34), .int 0, .int 0, .int 0])) :: [(u 0, .inl (cZ, (10, .inl fun _ => Int32.ofInt 0))), (u 1, .inl (cI, (10, .inl fun _ => Int32.ofInt 0))), (u 2, .inl (cI, (10, .inl fun _ => Int32.ofInt 0))), (u 3, .inl (cI, (10, .inl fun _ => Int32.ofInt 0))), (u 4, .inl (cI, (10, .inl fun _ => Int32.ofInt 0))), (u 5, .inl (cI, (10, .inl fun _ => Int32.ofInt 0))), (u 6, .inl (cI, (100, .inl fun _ => Int32.ofInt 0))), (u 7, .inl (cI, (12, .inl fun _ => Int32.ofInt 0))), (u 8, .inl (cI, (12, .inl fun _ => Int32.ofInt 0))), (u 9, .inl (cI, (12, .inl fun _ => Int32.ofInt 0))), (u 10, .inl (cI, (12, .inl fun _ => Int32.ofInt 0))), (u 11, .inl (cI, (12, .inl fun _ => Int32.ofInt 0))), (u 12, .inl (cI, (12, .inl fun _ => Int32.ofInt 0))), (u 13, .inl (cI, (12, .inl fun _ => Int32.ofInt 0))), (u 14, .inl (cI, (1212, .inl fun _ => Int32.ofInt 0))), (u 15, .inl (cI, (100, .inl fun _ => Int32.ofInt 0))), (u 16, .inl (cI, (100, .inl fun _ => Int32.ofInt 0))), (u 17, .inl (cI, (100, .inl fun _ => Int32.ofInt 0))), (u 18, .inl (cI, (12, .inl fun _ => Int32.ofInt 0))), (u 19, .inl (cI, (12, .inl fun _ => Int32.ofInt 0))), (u 20, .inl (cI, (12, .inl fun _ => Int32.ofInt 0))), (u 21, .inl (cI, (12, .inl fun _ => Int32.ofInt 0))), (u 22, .inl (cI, (20, .inl fun _ => Int32.ofInt 0))), (u 23, .inl (cI, (24, .inl fun _ => Int32.ofInt 0))), (u 24, .inl (cI, (2, .inl fun _ => Int32.ofInt 0))), (u 25, .inl (cJ, (2, .inr (.inl fun _ => Int64.ofInt 0)))), (u 26, .inl (cJ, (2, .inr (.inl fun _ => Int64.ofInt 0)))), (u 27, .inl (cI, (1010, .inl fun _ => Int32.ofInt 0))), (u 28, .inl (cI, (10, .inl fun _ => Int32.ofInt 0))), (u 29, .inl (cI, (1010, .inl fun _ => Int32.ofInt 0))), (u 30, .inl (cI, (1212, .inl fun _ => Int32.ofInt 0))), (u 31, .inl (cZ, (1010, .inl fun _ => Int32.ofInt 0))), (u 32, .inl (cI, (1010, .inl fun _ => Int32.ofInt 0))), (u 33, .inl (cI, (1010, .inl fun _ => Int32.ofInt 0))), (u 34, .inl (cI, (1010, .inl fun _ => Int32.ofInt 0)))]
theorem fc_8_2 : ((8, 9, 2), 753) ∈ flC := by decide +kernel
theorem tz_8_2 : (clT 8 2).2.2.2 = true ∧ (clT 8 2).1 = clR 8 ∧ clY 8 2 = .array .boolean ∧ 2 < clN 8 := by decide +kernel
theorem fc_8_3 : ((8, 13, 3), 754) ∈ flC := by decide +kernel
theorem tz_8_3 : (clT 8 3).2.2.2 = true ∧ (clT 8 3).1 = clR 8 ∧ clY 8 3 = .array .int ∧ 3 < clN 8 := by decide +kernel
theorem fc_8_4 : ((8, 17, 4), 755) ∈ flC := by decide +kernel
theorem tz_8_4 : (clT 8 4).2.2.2 = true ∧ (clT 8 4).1 = clR 8 ∧ clY 8 4 = .array .int ∧ 4 < clN 8 := by decide +kernel
theorem fc_8_5 : ((8, 20, 5), 756) ∈ flC := by decide +kernel
theorem tz_8_5 : (clT 8 5).2.2.2 = true ∧ (clT 8 5).1 = clR 8 ∧ clY 8 5 = .array .int ∧ 5 < clN 8 := by decide +kernel
theorem fc_8_6 : ((8, 23, 6), 757) ∈ flC := by decide +kernel
theorem tz_8_6 : (clT 8 6).2.2.2 = true ∧ (clT 8 6).1 = clR 8 ∧ clY 8 6 = .array .int ∧ 6 < clN 8 := by decide +kernel
theorem fc_8_7 : ((8, 26, 7), 758) ∈ flC := by decide +kernel
theorem tz_8_7 : (clT 8 7).2.2.2 = true ∧ (clT 8 7).1 = clR 8 ∧ clY 8 7 = .array .int ∧ 7 < clN 8 := by decide +kernel
theorem fc_8_8 : ((8, 29, 8), 759) ∈ flC := by decide +kernel
theorem tz_8_8 : (clT 8 8).2.2.2 = true ∧ (clT 8 8).1 = clR 8 ∧ clY 8 8 = .array .int ∧ 8 < clN 8 := by decide +kernel
theorem fc_8_10 : ((8, 32, 10), 761) ∈ flC := by decide +kernel
theorem tz_8_10 : (clT 8 10).2.2.2 = true ∧ (clT 8 10).1 = clR 8 ∧ clY 8 10 = .array .int ∧ 10 < clN 8 := by decide +kernel
theorem fc_8_11 : ((8, 35, 11), 762) ∈ flC := by decide +kernel
theorem tz_8_11 : (clT 8 11).2.2.2 = true ∧ (clT 8 11).1 = clR 8 ∧ clY 8 11 = .array .int ∧ 11 < clN 8 := by decide +kernel
theorem fc_8_12 : ((8, 38, 12), 763) ∈ flC := by decide +kernel
theorem tz_8_12 : (clT 8 12).2.2.2 = true ∧ (clT 8 12).1 = clR 8 ∧ clY 8 12 = .array .int ∧ 12 < clN 8 := by decide +kernel
theorem fc_8_13 : ((8, 41, 13), 764) ∈ flC := by decide +kernel
theorem tz_8_13 : (clT 8 13).2.2.2 = true ∧ (clT 8 13).1 = clR 8 ∧ clY 8 13 = .array .int ∧ 13 < clN 8 := by decide +kernel
theorem fc_8_14 : ((8, 44, 14), 765) ∈ flC := by decide +kernel
theorem tz_8_14 : (clT 8 14).2.2.2 = true ∧ (clT 8 14).1 = clR 8 ∧ clY 8 14 = .array .int ∧ 14 < clN 8 := by decide +kernel
theorem fc_8_15 : ((8, 47, 15), 766) ∈ flC := by decide +kernel
theorem tz_8_15 : (clT 8 15).2.2.2 = true ∧ (clT 8 15).1 = clR 8 ∧ clY 8 15 = .array .int ∧ 15 < clN 8 := by decide +kernel
theorem fc_8_16 : ((8, 50, 16), 767) ∈ flC := by decide +kernel
theorem tz_8_16 : (clT 8 16).2.2.2 = true ∧ (clT 8 16).1 = clR 8 ∧ clY 8 16 = .array .int ∧ 16 < clN 8 := by decide +kernel
theorem fc_8_17 : ((8, 53, 17), 768) ∈ flC := by decide +kernel
theorem tz_8_17 : (clT 8 17).2.2.2 = true ∧ (clT 8 17).1 = clR 8 ∧ clY 8 17 = .array .int ∧ 17 < clN 8 := by decide +kernel
theorem fc_8_20 : ((8, 56, 20), 771) ∈ flC := by decide +kernel
theorem tz_8_20 : (clT 8 20).2.2.2 = true ∧ (clT 8 20).1 = clR 8 ∧ clY 8 20 = .array .int ∧ 20 < clN 8 := by decide +kernel
theorem fc_8_21 : ((8, 59, 21), 772) ∈ flC := by decide +kernel
theorem tz_8_21 : (clT 8 21).2.2.2 = true ∧ (clT 8 21).1 = clR 8 ∧ clY 8 21 = .array .int ∧ 21 < clN 8 := by decide +kernel
theorem fc_8_22 : ((8, 62, 22), 773) ∈ flC := by decide +kernel
theorem tz_8_22 : (clT 8 22).2.2.2 = true ∧ (clT 8 22).1 = clR 8 ∧ clY 8 22 = .array .int ∧ 22 < clN 8 := by decide +kernel
theorem fc_8_24 : ((8, 65, 24), 775) ∈ flC := by decide +kernel
theorem tz_8_24 : (clT 8 24).2.2.2 = true ∧ (clT 8 24).1 = clR 8 ∧ clY 8 24 = .array .int ∧ 24 < clN 8 := by decide +kernel
theorem fc_8_25 : ((8, 68, 25), 776) ∈ flC := by decide +kernel
theorem tz_8_25 : (clT 8 25).2.2.2 = true ∧ (clT 8 25).1 = clR 8 ∧ clY 8 25 = .array .int ∧ 25 < clN 8 := by decide +kernel
theorem fc_8_26 : ((8, 71, 26), 777) ∈ flC := by decide +kernel
theorem tz_8_26 : (clT 8 26).2.2.2 = true ∧ (clT 8 26).1 = clR 8 ∧ clY 8 26 = .array .int ∧ 26 < clN 8 := by decide +kernel
theorem fc_8_27 : ((8, 74, 27), 778) ∈ flC := by decide +kernel
theorem tz_8_27 : (clT 8 27).2.2.2 = true ∧ (clT 8 27).1 = clR 8 ∧ clY 8 27 = .array .int ∧ 27 < clN 8 := by decide +kernel
theorem fc_8_28 : ((8, 77, 28), 779) ∈ flC := by decide +kernel
theorem tz_8_28 : (clT 8 28).2.2.2 = true ∧ (clT 8 28).1 = clR 8 ∧ clY 8 28 = .array .int ∧ 28 < clN 8 := by decide +kernel
theorem fc_8_29 : ((8, 80, 29), 780) ∈ flC := by decide +kernel
theorem tz_8_29 : (clT 8 29).2.2.2 = true ∧ (clT 8 29).1 = clR 8 ∧ clY 8 29 = .array .int ∧ 29 < clN 8 := by decide +kernel
theorem fc_8_30 : ((8, 83, 30), 781) ∈ flC := by decide +kernel
theorem tz_8_30 : (clT 8 30).2.2.2 = true ∧ (clT 8 30).1 = clR 8 ∧ clY 8 30 = .array .int ∧ 30 < clN 8 := by decide +kernel
theorem fc_8_31 : ((8, 86, 31), 782) ∈ flC := by decide +kernel
theorem tz_8_31 : (clT 8 31).2.2.2 = true ∧ (clT 8 31).1 = clR 8 ∧ clY 8 31 = .array .long ∧ 31 < clN 8 := by decide +kernel
theorem fc_8_32 : ((8, 90, 32), 783) ∈ flC := by decide +kernel
theorem tz_8_32 : (clT 8 32).2.2.2 = true ∧ (clT 8 32).1 = clR 8 ∧ clY 8 32 = .array .long ∧ 32 < clN 8 := by decide +kernel
theorem fc_8_33 : ((8, 93, 33), 784) ∈ flC := by decide +kernel
theorem tz_8_33 : (clT 8 33).2.2.2 = true ∧ (clT 8 33).1 = clR 8 ∧ clY 8 33 = .array .int ∧ 33 < clN 8 := by decide +kernel
theorem fc_8_34 : ((8, 96, 34), 785) ∈ flC := by decide +kernel
theorem tz_8_34 : (clT 8 34).2.2.2 = true ∧ (clT 8 34).1 = clR 8 ∧ clY 8 34 = .array .int ∧ 34 < clN 8 := by decide +kernel
theorem fc_8_35 : ((8, 99, 35), 786) ∈ flC := by decide +kernel
theorem tz_8_35 : (clT 8 35).2.2.2 = true ∧ (clT 8 35).1 = clR 8 ∧ clY 8 35 = .array .int ∧ 35 < clN 8 := by decide +kernel
theorem fc_8_36 : ((8, 102, 36), 787) ∈ flC := by decide +kernel
theorem tz_8_36 : (clT 8 36).2.2.2 = true ∧ (clT 8 36).1 = clR 8 ∧ clY 8 36 = .array .int ∧ 36 < clN 8 := by decide +kernel
theorem fc_8_37 : ((8, 105, 37), 788) ∈ flC := by decide +kernel
theorem tz_8_37 : (clT 8 37).2.2.2 = true ∧ (clT 8 37).1 = clR 8 ∧ clY 8 37 = .array .boolean ∧ 37 < clN 8 := by decide +kernel
theorem fc_8_38 : ((8, 108, 38), 789) ∈ flC := by decide +kernel
theorem tz_8_38 : (clT 8 38).2.2.2 = true ∧ (clT 8 38).1 = clR 8 ∧ clY 8 38 = .array .int ∧ 38 < clN 8 := by decide +kernel
theorem fc_8_39 : ((8, 111, 39), 790) ∈ flC := by decide +kernel
theorem tz_8_39 : (clT 8 39).2.2.2 = true ∧ (clT 8 39).1 = clR 8 ∧ clY 8 39 = .array .int ∧ 39 < clN 8 := by decide +kernel
theorem fc_8_40 : ((8, 114, 40), 791) ∈ flC := by decide +kernel
theorem tz_8_40 : (clT 8 40).2.2.2 = true ∧ (clT 8 40).1 = clR 8 ∧ clY 8 40 = .array .int ∧ 40 < clN 8 := by decide +kernel
set_option maxHeartbeats 40000000 in
theorem mi8 (l : Launch) (D : va_G) (cI cZ cJ : ClassId) (h0 sz : Nat) : Met l yX8_init (Cond.code yX8_init cX8_init 1 none :: lw_ok) { frames := 1, cells := 35, slots := 9136, locals := 12 } (Pci D cI cZ cJ h0 sz (.inr (8, [.int 0, .int 0, .null, .null, .null, .null, .null, .null, .null, .int 0, .null, .null, .null, .null, .null, .null, .null, .null, .int 0, .int 0, .null, .null, .null, .int 0, .null, .null, .null, .null, .null, .null, .null, .null, .null, .null, .null, .null, .null, .null, .null, .null, .null, .int 0, .int 0, .int 0]))) (Qci D h0 sz (.inr (8, [.int 0, .int 0, .null, .null, .null, .null, .null, .null, .null, .int 0, .null, .null, .null, .null, .null, .null, .null, .null, .int 0, .int 0, .null, .null, .null, .int 0, .null, .null, .null, .null, .null, .null, .null, .null, .null, .null, .null, .null, .null, .null, .null, .null, .null, .int 0, .int 0, .int 0])) (wc8 cI cZ cJ)) 35 9136 (va_A [(h0, (.inr (8, [.int 0, .int 0, .null, .null, .null, .null, .null, .null, .null, .int 0, .null, .null, .null, .null, .null, .null, .null, .null, .int 0, .int 0, .null, .null, .null, .int 0, .null, .null, .null, .null, .null, .null, .null, .null, .null, .null, .null, .null, .null, .null, .null, .null, .null, .int 0, .int 0, .int 0])))] sz) := by
  refine Met.ofW (cc := cX8_init) (maxL := 1) (ret := none) (by decide) rfl ?_
  intro p e s m args below meth c s₁ B hml hv
  obtain ⟨rfl, hsz, hP, hK, hD0, hns⟩ := hv
  have hr := B.returns
  have hlocks := B.notSynchronized
  have hts := atoms_spec (ws := Cond.code yX8_init cX8_init 1 none :: lw_ok) B.pre
  have X : Cy p s m _ meth c D cI cZ cJ cX8_init 8 := ⟨B.exec, B.bytes, hml, findClass_of_methodNamed B.named, fun w hw => hts w (List.mem_cons_of_mem _ hw), hK, (name_of_methodNamed B.named B.method).1, by decide, hns⟩
  subst hsz
  have hD := hD0.self (sz := s.heap.size)
  generalize hAe : va_A [(h0, (.inr (8, [.int 0, .int 0, .null, .null, .null, .null, .null, .null, .null, .int 0, .null, .null, .null, .null, .null, .null, .null, .null, .int 0, .int 0, .null, .null, .null, .int 0, .null, .null, .null, .null, .null, .null, .null, .null, .null, .null, .null, .null, .null, .null, .null, .null, .null, .int 0, .int 0, .int 0]) : va_E))] s.heap.size = A at hD ⊢
  have hA : ∀ q : Nat, s.heap.size ≤ q → A q := fun q h => by rw [← hAe]; exact Or.inr h
  have hS : va_S A s.heap s.heap [] := va_S.rf
  have hl := lv_entry ([.ref h0]) (n := 1) (Nat.le_of_ble_eq_true rfl)
  rw [lg_entry_eq]
  generalize (lg_sl ([.ref h0]) ++ List.replicate (1 - (lg_sl ([.ref h0])).length) Slot.unset).toArray = ls at hl ⊢
  have hl : lv_has ls 1 [(0, .ref h0)] := hl
  refine lv_aload_n X.1 X.2.1 diX8_0 rfl (lv_at hl 0 rfl) ?_
  refine ct_obj (d := 750) X (by decide) hl.1 ⟨Nat.le_of_ble_eq_true rfl, Nat.le_of_ble_eq_true rfl⟩ diX8_1 ?_
  refine lv_aload_n X.1 X.2.1 diX8_4 rfl (lv_at hl 0 rfl) ?_
  refine lv_bipush (v := Int32.ofInt 10) X.1 X.2.1 diX8_5 bp_bipush_10 ?_
  refine ct_arr (ty := .boolean) (cA := cZ) (t0 := 1) (N := 10) (a0 := (10, .inl fun _ => Int32.ofInt 0)) (d := 753) (k := 2) X fc_8_2 tz_8_2.2.2.2 tz_8_2.1 tz_8_2.2.1 tz_8_2.2.2.1 rfl (by simp) rfl (at_in arZ rfl) a0Z sz_10.1 sz_10.2 cbZ_10 (by show _ ≤ (35 : Nat); omega) (by show _ ≤ (9136 : Nat); omega) hA diX8_7 diX8_9 (Nat.le_of_ble_eq_true rfl) hP hD hS (fun a0 H locs hP hD hS => ?_)
  have hP : va_P D cls9 ((h0, .inr (8, [.int 0, .int 0, .ref a0, .null, .null, .null, .null, .null, .null, .int 0, .null, .null, .null, .null, .null, .null, .null, .null, .int 0, .int 0, .null, .null, .null, .int 0, .null, .null, .null, .null, .null, .null, .null, .null, .null, .null, .null, .null, .null, .null, .null, .null, .null, .int 0, .int 0, .int 0])) :: [(a0, .inl (cZ, (10, .inl fun _ => Int32.ofInt 0)))]) H := hP
  have hD : va_D A ((h0, .inr (8, [.int 0, .int 0, .ref a0, .null, .null, .null, .null, .null, .null, .int 0, .null, .null, .null, .null, .null, .null, .null, .null, .int 0, .int 0, .null, .null, .null, .int 0, .null, .null, .null, .null, .null, .null, .null, .null, .null, .null, .null, .null, .null, .null, .null, .null, .null, .int 0, .int 0, .int 0])) :: [(a0, .inl (cZ, (10, .inl fun _ => Int32.ofInt 0)))]) := hD
  refine lv_aload_n X.1 X.2.1 diX8_12 rfl (lv_at hl 0 rfl) ?_
  refine lv_bipush (v := Int32.ofInt 10) X.1 X.2.1 diX8_13 bp_bipush_10 ?_
  refine ct_arr (ty := .int) (cA := cI) (t0 := 0) (N := 10) (a0 := (10, .inl fun _ => Int32.ofInt 0)) (d := 754) (k := 3) X fc_8_3 tz_8_3.2.2.2 tz_8_3.1 tz_8_3.2.1 tz_8_3.2.2.1 rfl (by simp) rfl (at_in arI rfl) a0I sz_10.1 sz_10.2 cbI_10 (by show _ ≤ (35 : Nat); omega) (by show _ ≤ (9136 : Nat); omega) hA diX8_15 diX8_17 (Nat.le_of_ble_eq_true rfl) hP hD hS (fun a1 H locs hP hD hS => ?_)
  have hP : va_P D cls9 ((h0, .inr (8, [.int 0, .int 0, .ref a0, .ref a1, .null, .null, .null, .null, .null, .int 0, .null, .null, .null, .null, .null, .null, .null, .null, .int 0, .int 0, .null, .null, .null, .int 0, .null, .null, .null, .null, .null, .null, .null, .null, .null, .null, .null, .null, .null, .null, .null, .null, .null, .int 0, .int 0, .int 0])) :: [(a0, .inl (cZ, (10, .inl fun _ => Int32.ofInt 0))), (a1, .inl (cI, (10, .inl fun _ => Int32.ofInt 0)))]) H := hP
  have hD : va_D A ((h0, .inr (8, [.int 0, .int 0, .ref a0, .ref a1, .null, .null, .null, .null, .null, .int 0, .null, .null, .null, .null, .null, .null, .null, .null, .int 0, .int 0, .null, .null, .null, .int 0, .null, .null, .null, .null, .null, .null, .null, .null, .null, .null, .null, .null, .null, .null, .null, .null, .null, .int 0, .int 0, .int 0])) :: [(a0, .inl (cZ, (10, .inl fun _ => Int32.ofInt 0))), (a1, .inl (cI, (10, .inl fun _ => Int32.ofInt 0)))]) := hD
  refine lv_aload_n X.1 X.2.1 diX8_20 rfl (lv_at hl 0 rfl) ?_
  refine lv_bipush (v := Int32.ofInt 10) X.1 X.2.1 diX8_21 bp_bipush_10 ?_
  refine ct_arr (ty := .int) (cA := cI) (t0 := 0) (N := 10) (a0 := (10, .inl fun _ => Int32.ofInt 0)) (d := 755) (k := 4) X fc_8_4 tz_8_4.2.2.2 tz_8_4.1 tz_8_4.2.1 tz_8_4.2.2.1 rfl (by simp) rfl (at_in arI rfl) a0I sz_10.1 sz_10.2 cbI_10 (by show _ ≤ (35 : Nat); omega) (by show _ ≤ (9136 : Nat); omega) hA diX8_23 diX8_25 (Nat.le_of_ble_eq_true rfl) hP hD hS (fun a2 H locs hP hD hS => ?_)
  have hP : va_P D cls9 ((h0, .inr (8, [.int 0, .int 0, .ref a0, .ref a1, .ref a2, .null, .null, .null, .null, .int 0, .null, .null, .null, .null, .null, .null, .null, .null, .int 0, .int 0, .null, .null, .null, .int 0, .null, .null, .null, .null, .null, .null, .null, .null, .null, .null, .null, .null, .null, .null, .null, .null, .null, .int 0, .int 0, .int 0])) :: [(a0, .inl (cZ, (10, .inl fun _ => Int32.ofInt 0))), (a1, .inl (cI, (10, .inl fun _ => Int32.ofInt 0))), (a2, .inl (cI, (10, .inl fun _ => Int32.ofInt 0)))]) H := hP
  have hD : va_D A ((h0, .inr (8, [.int 0, .int 0, .ref a0, .ref a1, .ref a2, .null, .null, .null, .null, .int 0, .null, .null, .null, .null, .null, .null, .null, .null, .int 0, .int 0, .null, .null, .null, .int 0, .null, .null, .null, .null, .null, .null, .null, .null, .null, .null, .null, .null, .null, .null, .null, .null, .null, .int 0, .int 0, .int 0])) :: [(a0, .inl (cZ, (10, .inl fun _ => Int32.ofInt 0))), (a1, .inl (cI, (10, .inl fun _ => Int32.ofInt 0))), (a2, .inl (cI, (10, .inl fun _ => Int32.ofInt 0)))]) := hD
  refine lv_aload_n X.1 X.2.1 diX8_28 rfl (lv_at hl 0 rfl) ?_
  refine lv_bipush (v := Int32.ofInt 10) X.1 X.2.1 diX8_29 bp_bipush_10 ?_
  refine ct_arr (ty := .int) (cA := cI) (t0 := 0) (N := 10) (a0 := (10, .inl fun _ => Int32.ofInt 0)) (d := 756) (k := 5) X fc_8_5 tz_8_5.2.2.2 tz_8_5.1 tz_8_5.2.1 tz_8_5.2.2.1 rfl (by simp) rfl (at_in arI rfl) a0I sz_10.1 sz_10.2 cbI_10 (by show _ ≤ (35 : Nat); omega) (by show _ ≤ (9136 : Nat); omega) hA diX8_31 diX8_33 (Nat.le_of_ble_eq_true rfl) hP hD hS (fun a3 H locs hP hD hS => ?_)
  have hP : va_P D cls9 ((h0, .inr (8, [.int 0, .int 0, .ref a0, .ref a1, .ref a2, .ref a3, .null, .null, .null, .int 0, .null, .null, .null, .null, .null, .null, .null, .null, .int 0, .int 0, .null, .null, .null, .int 0, .null, .null, .null, .null, .null, .null, .null, .null, .null, .null, .null, .null, .null, .null, .null, .null, .null, .int 0, .int 0, .int 0])) :: [(a0, .inl (cZ, (10, .inl fun _ => Int32.ofInt 0))), (a1, .inl (cI, (10, .inl fun _ => Int32.ofInt 0))), (a2, .inl (cI, (10, .inl fun _ => Int32.ofInt 0))), (a3, .inl (cI, (10, .inl fun _ => Int32.ofInt 0)))]) H := hP
  have hD : va_D A ((h0, .inr (8, [.int 0, .int 0, .ref a0, .ref a1, .ref a2, .ref a3, .null, .null, .null, .int 0, .null, .null, .null, .null, .null, .null, .null, .null, .int 0, .int 0, .null, .null, .null, .int 0, .null, .null, .null, .null, .null, .null, .null, .null, .null, .null, .null, .null, .null, .null, .null, .null, .null, .int 0, .int 0, .int 0])) :: [(a0, .inl (cZ, (10, .inl fun _ => Int32.ofInt 0))), (a1, .inl (cI, (10, .inl fun _ => Int32.ofInt 0))), (a2, .inl (cI, (10, .inl fun _ => Int32.ofInt 0))), (a3, .inl (cI, (10, .inl fun _ => Int32.ofInt 0)))]) := hD
  refine lv_aload_n X.1 X.2.1 diX8_36 rfl (lv_at hl 0 rfl) ?_
  refine lv_bipush (v := Int32.ofInt 10) X.1 X.2.1 diX8_37 bp_bipush_10 ?_
  refine ct_arr (ty := .int) (cA := cI) (t0 := 0) (N := 10) (a0 := (10, .inl fun _ => Int32.ofInt 0)) (d := 757) (k := 6) X fc_8_6 tz_8_6.2.2.2 tz_8_6.1 tz_8_6.2.1 tz_8_6.2.2.1 rfl (by simp) rfl (at_in arI rfl) a0I sz_10.1 sz_10.2 cbI_10 (by show _ ≤ (35 : Nat); omega) (by show _ ≤ (9136 : Nat); omega) hA diX8_39 diX8_41 (Nat.le_of_ble_eq_true rfl) hP hD hS (fun a4 H locs hP hD hS => ?_)
  have hP : va_P D cls9 ((h0, .inr (8, [.int 0, .int 0, .ref a0, .ref a1, .ref a2, .ref a3, .ref a4, .null, .null, .int 0, .null, .null, .null, .null, .null, .null, .null, .null, .int 0, .int 0, .null, .null, .null, .int 0, .null, .null, .null, .null, .null, .null, .null, .null, .null, .null, .null, .null, .null, .null, .null, .null, .null, .int 0, .int 0, .int 0])) :: [(a0, .inl (cZ, (10, .inl fun _ => Int32.ofInt 0))), (a1, .inl (cI, (10, .inl fun _ => Int32.ofInt 0))), (a2, .inl (cI, (10, .inl fun _ => Int32.ofInt 0))), (a3, .inl (cI, (10, .inl fun _ => Int32.ofInt 0))), (a4, .inl (cI, (10, .inl fun _ => Int32.ofInt 0)))]) H := hP
  have hD : va_D A ((h0, .inr (8, [.int 0, .int 0, .ref a0, .ref a1, .ref a2, .ref a3, .ref a4, .null, .null, .int 0, .null, .null, .null, .null, .null, .null, .null, .null, .int 0, .int 0, .null, .null, .null, .int 0, .null, .null, .null, .null, .null, .null, .null, .null, .null, .null, .null, .null, .null, .null, .null, .null, .null, .int 0, .int 0, .int 0])) :: [(a0, .inl (cZ, (10, .inl fun _ => Int32.ofInt 0))), (a1, .inl (cI, (10, .inl fun _ => Int32.ofInt 0))), (a2, .inl (cI, (10, .inl fun _ => Int32.ofInt 0))), (a3, .inl (cI, (10, .inl fun _ => Int32.ofInt 0))), (a4, .inl (cI, (10, .inl fun _ => Int32.ofInt 0)))]) := hD
  refine lv_aload_n X.1 X.2.1 diX8_44 rfl (lv_at hl 0 rfl) ?_
  refine lv_bipush (v := Int32.ofInt 10) X.1 X.2.1 diX8_45 bp_bipush_10 ?_
  refine ct_arr (ty := .int) (cA := cI) (t0 := 0) (N := 10) (a0 := (10, .inl fun _ => Int32.ofInt 0)) (d := 758) (k := 7) X fc_8_7 tz_8_7.2.2.2 tz_8_7.1 tz_8_7.2.1 tz_8_7.2.2.1 rfl (by simp) rfl (at_in arI rfl) a0I sz_10.1 sz_10.2 cbI_10 (by show _ ≤ (35 : Nat); omega) (by show _ ≤ (9136 : Nat); omega) hA diX8_47 diX8_49 (Nat.le_of_ble_eq_true rfl) hP hD hS (fun a5 H locs hP hD hS => ?_)
  have hP : va_P D cls9 ((h0, .inr (8, [.int 0, .int 0, .ref a0, .ref a1, .ref a2, .ref a3, .ref a4, .ref a5, .null, .int 0, .null, .null, .null, .null, .null, .null, .null, .null, .int 0, .int 0, .null, .null, .null, .int 0, .null, .null, .null, .null, .null, .null, .null, .null, .null, .null, .null, .null, .null, .null, .null, .null, .null, .int 0, .int 0, .int 0])) :: [(a0, .inl (cZ, (10, .inl fun _ => Int32.ofInt 0))), (a1, .inl (cI, (10, .inl fun _ => Int32.ofInt 0))), (a2, .inl (cI, (10, .inl fun _ => Int32.ofInt 0))), (a3, .inl (cI, (10, .inl fun _ => Int32.ofInt 0))), (a4, .inl (cI, (10, .inl fun _ => Int32.ofInt 0))), (a5, .inl (cI, (10, .inl fun _ => Int32.ofInt 0)))]) H := hP
  have hD : va_D A ((h0, .inr (8, [.int 0, .int 0, .ref a0, .ref a1, .ref a2, .ref a3, .ref a4, .ref a5, .null, .int 0, .null, .null, .null, .null, .null, .null, .null, .null, .int 0, .int 0, .null, .null, .null, .int 0, .null, .null, .null, .null, .null, .null, .null, .null, .null, .null, .null, .null, .null, .null, .null, .null, .null, .int 0, .int 0, .int 0])) :: [(a0, .inl (cZ, (10, .inl fun _ => Int32.ofInt 0))), (a1, .inl (cI, (10, .inl fun _ => Int32.ofInt 0))), (a2, .inl (cI, (10, .inl fun _ => Int32.ofInt 0))), (a3, .inl (cI, (10, .inl fun _ => Int32.ofInt 0))), (a4, .inl (cI, (10, .inl fun _ => Int32.ofInt 0))), (a5, .inl (cI, (10, .inl fun _ => Int32.ofInt 0)))]) := hD
  refine lv_aload_n X.1 X.2.1 diX8_52 rfl (lv_at hl 0 rfl) ?_
  refine lv_bipush (v := Int32.ofInt 100) X.1 X.2.1 diX8_53 bp_bipush_100 ?_
  refine ct_arr (ty := .int) (cA := cI) (t0 := 0) (N := 100) (a0 := (100, .inl fun _ => Int32.ofInt 0)) (d := 759) (k := 8) X fc_8_8 tz_8_8.2.2.2 tz_8_8.1 tz_8_8.2.1 tz_8_8.2.2.1 rfl (by simp) rfl (at_in arI rfl) a0I sz_100.1 sz_100.2 cbI_100 (by show _ ≤ (35 : Nat); omega) (by show _ ≤ (9136 : Nat); omega) hA diX8_55 diX8_57 (Nat.le_of_ble_eq_true rfl) hP hD hS (fun a6 H locs hP hD hS => ?_)
  have hP : va_P D cls9 ((h0, .inr (8, [.int 0, .int 0, .ref a0, .ref a1, .ref a2, .ref a3, .ref a4, .ref a5, .ref a6, .int 0, .null, .null, .null, .null, .null, .null, .null, .null, .int 0, .int 0, .null, .null, .null, .int 0, .null, .null, .null, .null, .null, .null, .null, .null, .null, .null, .null, .null, .null, .null, .null, .null, .null, .int 0, .int 0, .int 0])) :: [(a0, .inl (cZ, (10, .inl fun _ => Int32.ofInt 0))), (a1, .inl (cI, (10, .inl fun _ => Int32.ofInt 0))), (a2, .inl (cI, (10, .inl fun _ => Int32.ofInt 0))), (a3, .inl (cI, (10, .inl fun _ => Int32.ofInt 0))), (a4, .inl (cI, (10, .inl fun _ => Int32.ofInt 0))), (a5, .inl (cI, (10, .inl fun _ => Int32.ofInt 0))), (a6, .inl (cI, (100, .inl fun _ => Int32.ofInt 0)))]) H := hP
  have hD : va_D A ((h0, .inr (8, [.int 0, .int 0, .ref a0, .ref a1, .ref a2, .ref a3, .ref a4, .ref a5, .ref a6, .int 0, .null, .null, .null, .null, .null, .null, .null, .null, .int 0, .int 0, .null, .null, .null, .int 0, .null, .null, .null, .null, .null, .null, .null, .null, .null, .null, .null, .null, .null, .null, .null, .null, .null, .int 0, .int 0, .int 0])) :: [(a0, .inl (cZ, (10, .inl fun _ => Int32.ofInt 0))), (a1, .inl (cI, (10, .inl fun _ => Int32.ofInt 0))), (a2, .inl (cI, (10, .inl fun _ => Int32.ofInt 0))), (a3, .inl (cI, (10, .inl fun _ => Int32.ofInt 0))), (a4, .inl (cI, (10, .inl fun _ => Int32.ofInt 0))), (a5, .inl (cI, (10, .inl fun _ => Int32.ofInt 0))), (a6, .inl (cI, (100, .inl fun _ => Int32.ofInt 0)))]) := hD
  refine lv_aload_n X.1 X.2.1 diX8_60 rfl (lv_at hl 0 rfl) ?_
  refine lv_bipush (v := Int32.ofInt 12) X.1 X.2.1 diX8_61 bp_bipush_12 ?_
  refine ct_arr (ty := .int) (cA := cI) (t0 := 0) (N := 12) (a0 := (12, .inl fun _ => Int32.ofInt 0)) (d := 761) (k := 10) X fc_8_10 tz_8_10.2.2.2 tz_8_10.1 tz_8_10.2.1 tz_8_10.2.2.1 rfl (by simp) rfl (at_in arI rfl) a0I sz_12.1 sz_12.2 cbI_12 (by show _ ≤ (35 : Nat); omega) (by show _ ≤ (9136 : Nat); omega) hA diX8_63 diX8_65 (Nat.le_of_ble_eq_true rfl) hP hD hS (fun a7 H locs hP hD hS => ?_)
  have hP : va_P D cls9 ((h0, .inr (8, [.int 0, .int 0, .ref a0, .ref a1, .ref a2, .ref a3, .ref a4, .ref a5, .ref a6, .int 0, .ref a7, .null, .null, .null, .null, .null, .null, .null, .int 0, .int 0, .null, .null, .null, .int 0, .null, .null, .null, .null, .null, .null, .null, .null, .null, .null, .null, .null, .null, .null, .null, .null, .null, .int 0, .int 0, .int 0])) :: [(a0, .inl (cZ, (10, .inl fun _ => Int32.ofInt 0))), (a1, .inl (cI, (10, .inl fun _ => Int32.ofInt 0))), (a2, .inl (cI, (10, .inl fun _ => Int32.ofInt 0))), (a3, .inl (cI, (10, .inl fun _ => Int32.ofInt 0))), (a4, .inl (cI, (10, .inl fun _ => Int32.ofInt 0))), (a5, .inl (cI, (10, .inl fun _ => Int32.ofInt 0))), (a6, .inl (cI, (100, .inl fun _ => Int32.ofInt 0))), (a7, .inl (cI, (12, .inl fun _ => Int32.ofInt 0)))]) H := hP
  have hD : va_D A ((h0, .inr (8, [.int 0, .int 0, .ref a0, .ref a1, .ref a2, .ref a3, .ref a4, .ref a5, .ref a6, .int 0, .ref a7, .null, .null, .null, .null, .null, .null, .null, .int 0, .int 0, .null, .null, .null, .int 0, .null, .null, .null, .null, .null, .null, .null, .null, .null, .null, .null, .null, .null, .null, .null, .null, .null, .int 0, .int 0, .int 0])) :: [(a0, .inl (cZ, (10, .inl fun _ => Int32.ofInt 0))), (a1, .inl (cI, (10, .inl fun _ => Int32.ofInt 0))), (a2, .inl (cI, (10, .inl fun _ => Int32.ofInt 0))), (a3, .inl (cI, (10, .inl fun _ => Int32.ofInt 0))), (a4, .inl (cI, (10, .inl fun _ => Int32.ofInt 0))), (a5, .inl (cI, (10, .inl fun _ => Int32.ofInt 0))), (a6, .inl (cI, (100, .inl fun _ => Int32.ofInt 0))), (a7, .inl (cI, (12, .inl fun _ => Int32.ofInt 0)))]) := hD
  refine lv_aload_n X.1 X.2.1 diX8_68 rfl (lv_at hl 0 rfl) ?_
  refine lv_bipush (v := Int32.ofInt 12) X.1 X.2.1 diX8_69 bp_bipush_12 ?_
  refine ct_arr (ty := .int) (cA := cI) (t0 := 0) (N := 12) (a0 := (12, .inl fun _ => Int32.ofInt 0)) (d := 762) (k := 11) X fc_8_11 tz_8_11.2.2.2 tz_8_11.1 tz_8_11.2.1 tz_8_11.2.2.1 rfl (by simp) rfl (at_in arI rfl) a0I sz_12.1 sz_12.2 cbI_12 (by show _ ≤ (35 : Nat); omega) (by show _ ≤ (9136 : Nat); omega) hA diX8_71 diX8_73 (Nat.le_of_ble_eq_true rfl) hP hD hS (fun a8 H locs hP hD hS => ?_)
  have hP : va_P D cls9 ((h0, .inr (8, [.int 0, .int 0, .ref a0, .ref a1, .ref a2, .ref a3, .ref a4, .ref a5, .ref a6, .int 0, .ref a7, .ref a8, .null, .null, .null, .null, .null, .null, .int 0, .int 0, .null, .null, .null, .int 0, .null, .null, .null, .null, .null, .null, .null, .null, .null, .null, .null, .null, .null, .null, .null, .null, .null, .int 0, .int 0, .int 0])) :: [(a0, .inl (cZ, (10, .inl fun _ => Int32.ofInt 0))), (a1, .inl (cI, (10, .inl fun _ => Int32.ofInt 0))), (a2, .inl (cI, (10, .inl fun _ => Int32.ofInt 0))), (a3, .inl (cI, (10, .inl fun _ => Int32.ofInt 0))), (a4, .inl (cI, (10, .inl fun _ => Int32.ofInt 0))), (a5, .inl (cI, (10, .inl fun _ => Int32.ofInt 0))), (a6, .inl (cI, (100, .inl fun _ => Int32.ofInt 0))), (a7, .inl (cI, (12, .inl fun _ => Int32.ofInt 0))), (a8, .inl (cI, (12, .inl fun _ => Int32.ofInt 0)))]) H := hP
  have hD : va_D A ((h0, .inr (8, [.int 0, .int 0, .ref a0, .ref a1, .ref a2, .ref a3, .ref a4, .ref a5, .ref a6, .int 0, .ref a7, .ref a8, .null, .null, .null, .null, .null, .null, .int 0, .int 0, .null, .null, .null, .int 0, .null, .null, .null, .null, .null, .null, .null, .null, .null, .null, .null, .null, .null, .null, .null, .null, .null, .int 0, .int 0, .int 0])) :: [(a0, .inl (cZ, (10, .inl fun _ => Int32.ofInt 0))), (a1, .inl (cI, (10, .inl fun _ => Int32.ofInt 0))), (a2, .inl (cI, (10, .inl fun _ => Int32.ofInt 0))), (a3, .inl (cI, (10, .inl fun _ => Int32.ofInt 0))), (a4, .inl (cI, (10, .inl fun _ => Int32.ofInt 0))), (a5, .inl (cI, (10, .inl fun _ => Int32.ofInt 0))), (a6, .inl (cI, (100, .inl fun _ => Int32.ofInt 0))), (a7, .inl (cI, (12, .inl fun _ => Int32.ofInt 0))), (a8, .inl (cI, (12, .inl fun _ => Int32.ofInt 0)))]) := hD
  refine lv_aload_n X.1 X.2.1 diX8_76 rfl (lv_at hl 0 rfl) ?_
  refine lv_bipush (v := Int32.ofInt 12) X.1 X.2.1 diX8_77 bp_bipush_12 ?_
  refine ct_arr (ty := .int) (cA := cI) (t0 := 0) (N := 12) (a0 := (12, .inl fun _ => Int32.ofInt 0)) (d := 763) (k := 12) X fc_8_12 tz_8_12.2.2.2 tz_8_12.1 tz_8_12.2.1 tz_8_12.2.2.1 rfl (by simp) rfl (at_in arI rfl) a0I sz_12.1 sz_12.2 cbI_12 (by show _ ≤ (35 : Nat); omega) (by show _ ≤ (9136 : Nat); omega) hA diX8_79 diX8_81 (Nat.le_of_ble_eq_true rfl) hP hD hS (fun a9 H locs hP hD hS => ?_)
  have hP : va_P D cls9 ((h0, .inr (8, [.int 0, .int 0, .ref a0, .ref a1, .ref a2, .ref a3, .ref a4, .ref a5, .ref a6, .int 0, .ref a7, .ref a8, .ref a9, .null, .null, .null, .null, .null, .int 0, .int 0, .null, .null, .null, .int 0, .null, .null, .null, .null, .null, .null, .null, .null, .null, .null, .null, .null, .null, .null, .null, .null, .null, .int 0, .int 0, .int 0])) :: [(a0, .inl (cZ, (10, .inl fun _ => Int32.ofInt 0))), (a1, .inl (cI, (10, .inl fun _ => Int32.ofInt 0))), (a2, .inl (cI, (10, .inl fun _ => Int32.ofInt 0))), (a3, .inl (cI, (10, .inl fun _ => Int32.ofInt 0))), (a4, .inl (cI, (10, .inl fun _ => Int32.ofInt 0))), (a5, .inl (cI, (10, .inl fun _ => Int32.ofInt 0))), (a6, .inl (cI, (100, .inl fun _ => Int32.ofInt 0))), (a7, .inl (cI, (12, .inl fun _ => Int32.ofInt 0))), (a8, .inl (cI, (12, .inl fun _ => Int32.ofInt 0))), (a9, .inl (cI, (12, .inl fun _ => Int32.ofInt 0)))]) H := hP
  have hD : va_D A ((h0, .inr (8, [.int 0, .int 0, .ref a0, .ref a1, .ref a2, .ref a3, .ref a4, .ref a5, .ref a6, .int 0, .ref a7, .ref a8, .ref a9, .null, .null, .null, .null, .null, .int 0, .int 0, .null, .null, .null, .int 0, .null, .null, .null, .null, .null, .null, .null, .null, .null, .null, .null, .null, .null, .null, .null, .null, .null, .int 0, .int 0, .int 0])) :: [(a0, .inl (cZ, (10, .inl fun _ => Int32.ofInt 0))), (a1, .inl (cI, (10, .inl fun _ => Int32.ofInt 0))), (a2, .inl (cI, (10, .inl fun _ => Int32.ofInt 0))), (a3, .inl (cI, (10, .inl fun _ => Int32.ofInt 0))), (a4, .inl (cI, (10, .inl fun _ => Int32.ofInt 0))), (a5, .inl (cI, (10, .inl fun _ => Int32.ofInt 0))), (a6, .inl (cI, (100, .inl fun _ => Int32.ofInt 0))), (a7, .inl (cI, (12, .inl fun _ => Int32.ofInt 0))), (a8, .inl (cI, (12, .inl fun _ => Int32.ofInt 0))), (a9, .inl (cI, (12, .inl fun _ => Int32.ofInt 0)))]) := hD
  refine lv_aload_n X.1 X.2.1 diX8_84 rfl (lv_at hl 0 rfl) ?_
  refine lv_bipush (v := Int32.ofInt 12) X.1 X.2.1 diX8_85 bp_bipush_12 ?_
  refine ct_arr (ty := .int) (cA := cI) (t0 := 0) (N := 12) (a0 := (12, .inl fun _ => Int32.ofInt 0)) (d := 764) (k := 13) X fc_8_13 tz_8_13.2.2.2 tz_8_13.1 tz_8_13.2.1 tz_8_13.2.2.1 rfl (by simp) rfl (at_in arI rfl) a0I sz_12.1 sz_12.2 cbI_12 (by show _ ≤ (35 : Nat); omega) (by show _ ≤ (9136 : Nat); omega) hA diX8_87 diX8_89 (Nat.le_of_ble_eq_true rfl) hP hD hS (fun a10 H locs hP hD hS => ?_)
  have hP : va_P D cls9 ((h0, .inr (8, [.int 0, .int 0, .ref a0, .ref a1, .ref a2, .ref a3, .ref a4, .ref a5, .ref a6, .int 0, .ref a7, .ref a8, .ref a9, .ref a10, .null, .null, .null, .null, .int 0, .int 0, .null, .null, .null, .int 0, .null, .null, .null, .null, .null, .null, .null, .null, .null, .null, .null, .null, .null, .null, .null, .null, .null, .int 0, .int 0, .int 0])) :: [(a0, .inl (cZ, (10, .inl fun _ => Int32.ofInt 0))), (a1, .inl (cI, (10, .inl fun _ => Int32.ofInt 0))), (a2, .inl (cI, (10, .inl fun _ => Int32.ofInt 0))), (a3, .inl (cI, (10, .inl fun _ => Int32.ofInt 0))), (a4, .inl (cI, (10, .inl fun _ => Int32.ofInt 0))), (a5, .inl (cI, (10, .inl fun _ => Int32.ofInt 0))), (a6, .inl (cI, (100, .inl fun _ => Int32.ofInt 0))), (a7, .inl (cI, (12, .inl fun _ => Int32.ofInt 0))), (a8, .inl (cI, (12, .inl fun _ => Int32.ofInt 0))), (a9, .inl (cI, (12, .inl fun _ => Int32.ofInt 0))), (a10, .inl (cI, (12, .inl fun _ => Int32.ofInt 0)))]) H := hP
  have hD : va_D A ((h0, .inr (8, [.int 0, .int 0, .ref a0, .ref a1, .ref a2, .ref a3, .ref a4, .ref a5, .ref a6, .int 0, .ref a7, .ref a8, .ref a9, .ref a10, .null, .null, .null, .null, .int 0, .int 0, .null, .null, .null, .int 0, .null, .null, .null, .null, .null, .null, .null, .null, .null, .null, .null, .null, .null, .null, .null, .null, .null, .int 0, .int 0, .int 0])) :: [(a0, .inl (cZ, (10, .inl fun _ => Int32.ofInt 0))), (a1, .inl (cI, (10, .inl fun _ => Int32.ofInt 0))), (a2, .inl (cI, (10, .inl fun _ => Int32.ofInt 0))), (a3, .inl (cI, (10, .inl fun _ => Int32.ofInt 0))), (a4, .inl (cI, (10, .inl fun _ => Int32.ofInt 0))), (a5, .inl (cI, (10, .inl fun _ => Int32.ofInt 0))), (a6, .inl (cI, (100, .inl fun _ => Int32.ofInt 0))), (a7, .inl (cI, (12, .inl fun _ => Int32.ofInt 0))), (a8, .inl (cI, (12, .inl fun _ => Int32.ofInt 0))), (a9, .inl (cI, (12, .inl fun _ => Int32.ofInt 0))), (a10, .inl (cI, (12, .inl fun _ => Int32.ofInt 0)))]) := hD
  refine lv_aload_n X.1 X.2.1 diX8_92 rfl (lv_at hl 0 rfl) ?_
  refine lv_bipush (v := Int32.ofInt 12) X.1 X.2.1 diX8_93 bp_bipush_12 ?_
  refine ct_arr (ty := .int) (cA := cI) (t0 := 0) (N := 12) (a0 := (12, .inl fun _ => Int32.ofInt 0)) (d := 765) (k := 14) X fc_8_14 tz_8_14.2.2.2 tz_8_14.1 tz_8_14.2.1 tz_8_14.2.2.1 rfl (by simp) rfl (at_in arI rfl) a0I sz_12.1 sz_12.2 cbI_12 (by show _ ≤ (35 : Nat); omega) (by show _ ≤ (9136 : Nat); omega) hA diX8_95 diX8_97 (Nat.le_of_ble_eq_true rfl) hP hD hS (fun a11 H locs hP hD hS => ?_)
  have hP : va_P D cls9 ((h0, .inr (8, [.int 0, .int 0, .ref a0, .ref a1, .ref a2, .ref a3, .ref a4, .ref a5, .ref a6, .int 0, .ref a7, .ref a8, .ref a9, .ref a10, .ref a11, .null, .null, .null, .int 0, .int 0, .null, .null, .null, .int 0, .null, .null, .null, .null, .null, .null, .null, .null, .null, .null, .null, .null, .null, .null, .null, .null, .null, .int 0, .int 0, .int 0])) :: [(a0, .inl (cZ, (10, .inl fun _ => Int32.ofInt 0))), (a1, .inl (cI, (10, .inl fun _ => Int32.ofInt 0))), (a2, .inl (cI, (10, .inl fun _ => Int32.ofInt 0))), (a3, .inl (cI, (10, .inl fun _ => Int32.ofInt 0))), (a4, .inl (cI, (10, .inl fun _ => Int32.ofInt 0))), (a5, .inl (cI, (10, .inl fun _ => Int32.ofInt 0))), (a6, .inl (cI, (100, .inl fun _ => Int32.ofInt 0))), (a7, .inl (cI, (12, .inl fun _ => Int32.ofInt 0))), (a8, .inl (cI, (12, .inl fun _ => Int32.ofInt 0))), (a9, .inl (cI, (12, .inl fun _ => Int32.ofInt 0))), (a10, .inl (cI, (12, .inl fun _ => Int32.ofInt 0))), (a11, .inl (cI, (12, .inl fun _ => Int32.ofInt 0)))]) H := hP
  have hD : va_D A ((h0, .inr (8, [.int 0, .int 0, .ref a0, .ref a1, .ref a2, .ref a3, .ref a4, .ref a5, .ref a6, .int 0, .ref a7, .ref a8, .ref a9, .ref a10, .ref a11, .null, .null, .null, .int 0, .int 0, .null, .null, .null, .int 0, .null, .null, .null, .null, .null, .null, .null, .null, .null, .null, .null, .null, .null, .null, .null, .null, .null, .int 0, .int 0, .int 0])) :: [(a0, .inl (cZ, (10, .inl fun _ => Int32.ofInt 0))), (a1, .inl (cI, (10, .inl fun _ => Int32.ofInt 0))), (a2, .inl (cI, (10, .inl fun _ => Int32.ofInt 0))), (a3, .inl (cI, (10, .inl fun _ => Int32.ofInt 0))), (a4, .inl (cI, (10, .inl fun _ => Int32.ofInt 0))), (a5, .inl (cI, (10, .inl fun _ => Int32.ofInt 0))), (a6, .inl (cI, (100, .inl fun _ => Int32.ofInt 0))), (a7, .inl (cI, (12, .inl fun _ => Int32.ofInt 0))), (a8, .inl (cI, (12, .inl fun _ => Int32.ofInt 0))), (a9, .inl (cI, (12, .inl fun _ => Int32.ofInt 0))), (a10, .inl (cI, (12, .inl fun _ => Int32.ofInt 0))), (a11, .inl (cI, (12, .inl fun _ => Int32.ofInt 0)))]) := hD
  refine lv_aload_n X.1 X.2.1 diX8_100 rfl (lv_at hl 0 rfl) ?_
  refine lv_bipush (v := Int32.ofInt 12) X.1 X.2.1 diX8_101 bp_bipush_12 ?_
  refine ct_arr (ty := .int) (cA := cI) (t0 := 0) (N := 12) (a0 := (12, .inl fun _ => Int32.ofInt 0)) (d := 766) (k := 15) X fc_8_15 tz_8_15.2.2.2 tz_8_15.1 tz_8_15.2.1 tz_8_15.2.2.1 rfl (by simp) rfl (at_in arI rfl) a0I sz_12.1 sz_12.2 cbI_12 (by show _ ≤ (35 : Nat); omega) (by show _ ≤ (9136 : Nat); omega) hA diX8_103 diX8_105 (Nat.le_of_ble_eq_true rfl) hP hD hS (fun a12 H locs hP hD hS => ?_)
  have hP : va_P D cls9 ((h0, .inr (8, [.int 0, .int 0, .ref a0, .ref a1, .ref a2, .ref a3, .ref a4, .ref a5, .ref a6, .int 0, .ref a7, .ref a8, .ref a9, .ref a10, .ref a11, .ref a12, .null, .null, .int 0, .int 0, .null, .null, .null, .int 0, .null, .null, .null, .null, .null, .null, .null, .null, .null, .null, .null, .null, .null, .null, .null, .null, .null, .int 0, .int 0, .int 0])) :: [(a0, .inl (cZ, (10, .inl fun _ => Int32.ofInt 0))), (a1, .inl (cI, (10, .inl fun _ => Int32.ofInt 0))), (a2, .inl (cI, (10, .inl fun _ => Int32.ofInt 0))), (a3, .inl (cI, (10, .inl fun _ => Int32.ofInt 0))), (a4, .inl (cI, (10, .inl fun _ => Int32.ofInt 0))), (a5, .inl (cI, (10, .inl fun _ => Int32.ofInt 0))), (a6, .inl (cI, (100, .inl fun _ => Int32.ofInt 0))), (a7, .inl (cI, (12, .inl fun _ => Int32.ofInt 0))), (a8, .inl (cI, (12, .inl fun _ => Int32.ofInt 0))), (a9, .inl (cI, (12, .inl fun _ => Int32.ofInt 0))), (a10, .inl (cI, (12, .inl fun _ => Int32.ofInt 0))), (a11, .inl (cI, (12, .inl fun _ => Int32.ofInt 0))), (a12, .inl (cI, (12, .inl fun _ => Int32.ofInt 0)))]) H := hP
  have hD : va_D A ((h0, .inr (8, [.int 0, .int 0, .ref a0, .ref a1, .ref a2, .ref a3, .ref a4, .ref a5, .ref a6, .int 0, .ref a7, .ref a8, .ref a9, .ref a10, .ref a11, .ref a12, .null, .null, .int 0, .int 0, .null, .null, .null, .int 0, .null, .null, .null, .null, .null, .null, .null, .null, .null, .null, .null, .null, .null, .null, .null, .null, .null, .int 0, .int 0, .int 0])) :: [(a0, .inl (cZ, (10, .inl fun _ => Int32.ofInt 0))), (a1, .inl (cI, (10, .inl fun _ => Int32.ofInt 0))), (a2, .inl (cI, (10, .inl fun _ => Int32.ofInt 0))), (a3, .inl (cI, (10, .inl fun _ => Int32.ofInt 0))), (a4, .inl (cI, (10, .inl fun _ => Int32.ofInt 0))), (a5, .inl (cI, (10, .inl fun _ => Int32.ofInt 0))), (a6, .inl (cI, (100, .inl fun _ => Int32.ofInt 0))), (a7, .inl (cI, (12, .inl fun _ => Int32.ofInt 0))), (a8, .inl (cI, (12, .inl fun _ => Int32.ofInt 0))), (a9, .inl (cI, (12, .inl fun _ => Int32.ofInt 0))), (a10, .inl (cI, (12, .inl fun _ => Int32.ofInt 0))), (a11, .inl (cI, (12, .inl fun _ => Int32.ofInt 0))), (a12, .inl (cI, (12, .inl fun _ => Int32.ofInt 0)))]) := hD
  refine lv_aload_n X.1 X.2.1 diX8_108 rfl (lv_at hl 0 rfl) ?_
  refine lv_bipush (v := Int32.ofInt 12) X.1 X.2.1 diX8_109 bp_bipush_12 ?_
  refine ct_arr (ty := .int) (cA := cI) (t0 := 0) (N := 12) (a0 := (12, .inl fun _ => Int32.ofInt 0)) (d := 767) (k := 16) X fc_8_16 tz_8_16.2.2.2 tz_8_16.1 tz_8_16.2.1 tz_8_16.2.2.1 rfl (by simp) rfl (at_in arI rfl) a0I sz_12.1 sz_12.2 cbI_12 (by show _ ≤ (35 : Nat); omega) (by show _ ≤ (9136 : Nat); omega) hA diX8_111 diX8_113 (Nat.le_of_ble_eq_true rfl) hP hD hS (fun a13 H locs hP hD hS => ?_)
  have hP : va_P D cls9 ((h0, .inr (8, [.int 0, .int 0, .ref a0, .ref a1, .ref a2, .ref a3, .ref a4, .ref a5, .ref a6, .int 0, .ref a7, .ref a8, .ref a9, .ref a10, .ref a11, .ref a12, .ref a13, .null, .int 0, .int 0, .null, .null, .null, .int 0, .null, .null, .null, .null, .null, .null, .null, .null, .null, .null, .null, .null, .null, .null, .null, .null, .null, .int 0, .int 0, .int 0])) :: [(a0, .inl (cZ, (10, .inl fun _ => Int32.ofInt 0))), (a1, .inl (cI, (10, .inl fun _ => Int32.ofInt 0))), (a2, .inl (cI, (10, .inl fun _ => Int32.ofInt 0))), (a3, .inl (cI, (10, .inl fun _ => Int32.ofInt 0))), (a4, .inl (cI, (10, .inl fun _ => Int32.ofInt 0))), (a5, .inl (cI, (10, .inl fun _ => Int32.ofInt 0))), (a6, .inl (cI, (100, .inl fun _ => Int32.ofInt 0))), (a7, .inl (cI, (12, .inl fun _ => Int32.ofInt 0))), (a8, .inl (cI, (12, .inl fun _ => Int32.ofInt 0))), (a9, .inl (cI, (12, .inl fun _ => Int32.ofInt 0))), (a10, .inl (cI, (12, .inl fun _ => Int32.ofInt 0))), (a11, .inl (cI, (12, .inl fun _ => Int32.ofInt 0))), (a12, .inl (cI, (12, .inl fun _ => Int32.ofInt 0))), (a13, .inl (cI, (12, .inl fun _ => Int32.ofInt 0)))]) H := hP
  have hD : va_D A ((h0, .inr (8, [.int 0, .int 0, .ref a0, .ref a1, .ref a2, .ref a3, .ref a4, .ref a5, .ref a6, .int 0, .ref a7, .ref a8, .ref a9, .ref a10, .ref a11, .ref a12, .ref a13, .null, .int 0, .int 0, .null, .null, .null, .int 0, .null, .null, .null, .null, .null, .null, .null, .null, .null, .null, .null, .null, .null, .null, .null, .null, .null, .int 0, .int 0, .int 0])) :: [(a0, .inl (cZ, (10, .inl fun _ => Int32.ofInt 0))), (a1, .inl (cI, (10, .inl fun _ => Int32.ofInt 0))), (a2, .inl (cI, (10, .inl fun _ => Int32.ofInt 0))), (a3, .inl (cI, (10, .inl fun _ => Int32.ofInt 0))), (a4, .inl (cI, (10, .inl fun _ => Int32.ofInt 0))), (a5, .inl (cI, (10, .inl fun _ => Int32.ofInt 0))), (a6, .inl (cI, (100, .inl fun _ => Int32.ofInt 0))), (a7, .inl (cI, (12, .inl fun _ => Int32.ofInt 0))), (a8, .inl (cI, (12, .inl fun _ => Int32.ofInt 0))), (a9, .inl (cI, (12, .inl fun _ => Int32.ofInt 0))), (a10, .inl (cI, (12, .inl fun _ => Int32.ofInt 0))), (a11, .inl (cI, (12, .inl fun _ => Int32.ofInt 0))), (a12, .inl (cI, (12, .inl fun _ => Int32.ofInt 0))), (a13, .inl (cI, (12, .inl fun _ => Int32.ofInt 0)))]) := hD
  refine lv_aload_n X.1 X.2.1 diX8_116 rfl (lv_at hl 0 rfl) ?_
  refine lv_sipush (v := Int32.ofInt 1212) X.1 X.2.1 diX8_117 bp_sipush_1212 ?_
  refine ct_arr (ty := .int) (cA := cI) (t0 := 0) (N := 1212) (a0 := (1212, .inl fun _ => Int32.ofInt 0)) (d := 768) (k := 17) X fc_8_17 tz_8_17.2.2.2 tz_8_17.1 tz_8_17.2.1 tz_8_17.2.2.1 rfl (by simp) rfl (at_in arI rfl) a0I sz_1212.1 sz_1212.2 cbI_1212 (by show _ ≤ (35 : Nat); omega) (by show _ ≤ (9136 : Nat); omega) hA diX8_120 diX8_122 (Nat.le_of_ble_eq_true rfl) hP hD hS (fun a14 H locs hP hD hS => ?_)
  have hP : va_P D cls9 ((h0, .inr (8, [.int 0, .int 0, .ref a0, .ref a1, .ref a2, .ref a3, .ref a4, .ref a5, .ref a6, .int 0, .ref a7, .ref a8, .ref a9, .ref a10, .ref a11, .ref a12, .ref a13, .ref a14, .int 0, .int 0, .null, .null, .null, .int 0, .null, .null, .null, .null, .null, .null, .null, .null, .null, .null, .null, .null, .null, .null, .null, .null, .null, .int 0, .int 0, .int 0])) :: [(a0, .inl (cZ, (10, .inl fun _ => Int32.ofInt 0))), (a1, .inl (cI, (10, .inl fun _ => Int32.ofInt 0))), (a2, .inl (cI, (10, .inl fun _ => Int32.ofInt 0))), (a3, .inl (cI, (10, .inl fun _ => Int32.ofInt 0))), (a4, .inl (cI, (10, .inl fun _ => Int32.ofInt 0))), (a5, .inl (cI, (10, .inl fun _ => Int32.ofInt 0))), (a6, .inl (cI, (100, .inl fun _ => Int32.ofInt 0))), (a7, .inl (cI, (12, .inl fun _ => Int32.ofInt 0))), (a8, .inl (cI, (12, .inl fun _ => Int32.ofInt 0))), (a9, .inl (cI, (12, .inl fun _ => Int32.ofInt 0))), (a10, .inl (cI, (12, .inl fun _ => Int32.ofInt 0))), (a11, .inl (cI, (12, .inl fun _ => Int32.ofInt 0))), (a12, .inl (cI, (12, .inl fun _ => Int32.ofInt 0))), (a13, .inl (cI, (12, .inl fun _ => Int32.ofInt 0))), (a14, .inl (cI, (1212, .inl fun _ => Int32.ofInt 0)))]) H := hP
  have hD : va_D A ((h0, .inr (8, [.int 0, .int 0, .ref a0, .ref a1, .ref a2, .ref a3, .ref a4, .ref a5, .ref a6, .int 0, .ref a7, .ref a8, .ref a9, .ref a10, .ref a11, .ref a12, .ref a13, .ref a14, .int 0, .int 0, .null, .null, .null, .int 0, .null, .null, .null, .null, .null, .null, .null, .null, .null, .null, .null, .null, .null, .null, .null, .null, .null, .int 0, .int 0, .int 0])) :: [(a0, .inl (cZ, (10, .inl fun _ => Int32.ofInt 0))), (a1, .inl (cI, (10, .inl fun _ => Int32.ofInt 0))), (a2, .inl (cI, (10, .inl fun _ => Int32.ofInt 0))), (a3, .inl (cI, (10, .inl fun _ => Int32.ofInt 0))), (a4, .inl (cI, (10, .inl fun _ => Int32.ofInt 0))), (a5, .inl (cI, (10, .inl fun _ => Int32.ofInt 0))), (a6, .inl (cI, (100, .inl fun _ => Int32.ofInt 0))), (a7, .inl (cI, (12, .inl fun _ => Int32.ofInt 0))), (a8, .inl (cI, (12, .inl fun _ => Int32.ofInt 0))), (a9, .inl (cI, (12, .inl fun _ => Int32.ofInt 0))), (a10, .inl (cI, (12, .inl fun _ => Int32.ofInt 0))), (a11, .inl (cI, (12, .inl fun _ => Int32.ofInt 0))), (a12, .inl (cI, (12, .inl fun _ => Int32.ofInt 0))), (a13, .inl (cI, (12, .inl fun _ => Int32.ofInt 0))), (a14, .inl (cI, (1212, .inl fun _ => Int32.ofInt 0)))]) := hD
  refine lv_aload_n X.1 X.2.1 diX8_125 rfl (lv_at hl 0 rfl) ?_
  refine lv_bipush (v := Int32.ofInt 100) X.1 X.2.1 diX8_126 bp_bipush_100 ?_
  refine ct_arr (ty := .int) (cA := cI) (t0 := 0) (N := 100) (a0 := (100, .inl fun _ => Int32.ofInt 0)) (d := 771) (k := 20) X fc_8_20 tz_8_20.2.2.2 tz_8_20.1 tz_8_20.2.1 tz_8_20.2.2.1 rfl (by simp) rfl (at_in arI rfl) a0I sz_100.1 sz_100.2 cbI_100 (by show _ ≤ (35 : Nat); omega) (by show _ ≤ (9136 : Nat); omega) hA diX8_128 diX8_130 (Nat.le_of_ble_eq_true rfl) hP hD hS (fun a15 H locs hP hD hS => ?_)
  have hP : va_P D cls9 ((h0, .inr (8, [.int 0, .int 0, .ref a0, .ref a1, .ref a2, .ref a3, .ref a4, .ref a5, .ref a6, .int 0, .ref a7, .ref a8, .ref a9, .ref a10, .ref a11, .ref a12, .ref a13, .ref a14, .int 0, .int 0, .ref a15, .null, .null, .int 0, .null, .null, .null, .null, .null, .null, .null, .null, .null, .null, .null, .null, .null, .null, .null, .null, .null, .int 0, .int 0, .int 0])) :: [(a0, .inl (cZ, (10, .inl fun _ => Int32.ofInt 0))), (a1, .inl (cI, (10, .inl fun _ => Int32.ofInt 0))), (a2, .inl (cI, (10, .inl fun _ => Int32.ofInt 0))), (a3, .inl (cI, (10, .inl fun _ => Int32.ofInt 0))), (a4, .inl (cI, (10, .inl fun _ => Int32.ofInt 0))), (a5, .inl (cI, (10, .inl fun _ => Int32.ofInt 0))), (a6, .inl (cI, (100, .inl fun _ => Int32.ofInt 0))), (a7, .inl (cI, (12, .inl fun _ => Int32.ofInt 0))), (a8, .inl (cI, (12, .inl fun _ => Int32.ofInt 0))), (a9, .inl (cI, (12, .inl fun _ => Int32.ofInt 0))), (a10, .inl (cI, (12, .inl fun _ => Int32.ofInt 0))), (a11, .inl (cI, (12, .inl fun _ => Int32.ofInt 0))), (a12, .inl (cI, (12, .inl fun _ => Int32.ofInt 0))), (a13, .inl (cI, (12, .inl fun _ => Int32.ofInt 0))), (a14, .inl (cI, (1212, .inl fun _ => Int32.ofInt 0))), (a15, .inl (cI, (100, .inl fun _ => Int32.ofInt 0)))]) H := hP
  have hD : va_D A ((h0, .inr (8, [.int 0, .int 0, .ref a0, .ref a1, .ref a2, .ref a3, .ref a4, .ref a5, .ref a6, .int 0, .ref a7, .ref a8, .ref a9, .ref a10, .ref a11, .ref a12, .ref a13, .ref a14, .int 0, .int 0, .ref a15, .null, .null, .int 0, .null, .null, .null, .null, .null, .null, .null, .null, .null, .null, .null, .null, .null, .null, .null, .null, .null, .int 0, .int 0, .int 0])) :: [(a0, .inl (cZ, (10, .inl fun _ => Int32.ofInt 0))), (a1, .inl (cI, (10, .inl fun _ => Int32.ofInt 0))), (a2, .inl (cI, (10, .inl fun _ => Int32.ofInt 0))), (a3, .inl (cI, (10, .inl fun _ => Int32.ofInt 0))), (a4, .inl (cI, (10, .inl fun _ => Int32.ofInt 0))), (a5, .inl (cI, (10, .inl fun _ => Int32.ofInt 0))), (a6, .inl (cI, (100, .inl fun _ => Int32.ofInt 0))), (a7, .inl (cI, (12, .inl fun _ => Int32.ofInt 0))), (a8, .inl (cI, (12, .inl fun _ => Int32.ofInt 0))), (a9, .inl (cI, (12, .inl fun _ => Int32.ofInt 0))), (a10, .inl (cI, (12, .inl fun _ => Int32.ofInt 0))), (a11, .inl (cI, (12, .inl fun _ => Int32.ofInt 0))), (a12, .inl (cI, (12, .inl fun _ => Int32.ofInt 0))), (a13, .inl (cI, (12, .inl fun _ => Int32.ofInt 0))), (a14, .inl (cI, (1212, .inl fun _ => Int32.ofInt 0))), (a15, .inl (cI, (100, .inl fun _ => Int32.ofInt 0)))]) := hD
  refine lv_aload_n X.1 X.2.1 diX8_133 rfl (lv_at hl 0 rfl) ?_
  refine lv_bipush (v := Int32.ofInt 100) X.1 X.2.1 diX8_134 bp_bipush_100 ?_
  refine ct_arr (ty := .int) (cA := cI) (t0 := 0) (N := 100) (a0 := (100, .inl fun _ => Int32.ofInt 0)) (d := 772) (k := 21) X fc_8_21 tz_8_21.2.2.2 tz_8_21.1 tz_8_21.2.1 tz_8_21.2.2.1 rfl (by simp) rfl (at_in arI rfl) a0I sz_100.1 sz_100.2 cbI_100 (by show _ ≤ (35 : Nat); omega) (by show _ ≤ (9136 : Nat); omega) hA diX8_136 diX8_138 (Nat.le_of_ble_eq_true rfl) hP hD hS (fun a16 H locs hP hD hS => ?_)
  have hP : va_P D cls9 ((h0, .inr (8, [.int 0, .int 0, .ref a0, .ref a1, .ref a2, .ref a3, .ref a4, .ref a5, .ref a6, .int 0, .ref a7, .ref a8, .ref a9, .ref a10, .ref a11, .ref a12, .ref a13, .ref a14, .int 0, .int 0, .ref a15, .ref a16, .null, .int 0, .null, .null, .null, .null, .null, .null, .null, .null, .null, .null, .null, .null, .null, .null, .null, .null, .null, .int 0, .int 0, .int 0])) :: [(a0, .inl (cZ, (10, .inl fun _ => Int32.ofInt 0))), (a1, .inl (cI, (10, .inl fun _ => Int32.ofInt 0))), (a2, .inl (cI, (10, .inl fun _ => Int32.ofInt 0))), (a3, .inl (cI, (10, .inl fun _ => Int32.ofInt 0))), (a4, .inl (cI, (10, .inl fun _ => Int32.ofInt 0))), (a5, .inl (cI, (10, .inl fun _ => Int32.ofInt 0))), (a6, .inl (cI, (100, .inl fun _ => Int32.ofInt 0))), (a7, .inl (cI, (12, .inl fun _ => Int32.ofInt 0))), (a8, .inl (cI, (12, .inl fun _ => Int32.ofInt 0))), (a9, .inl (cI, (12, .inl fun _ => Int32.ofInt 0))), (a10, .inl (cI, (12, .inl fun _ => Int32.ofInt 0))), (a11, .inl (cI, (12, .inl fun _ => Int32.ofInt 0))), (a12, .inl (cI, (12, .inl fun _ => Int32.ofInt 0))), (a13, .inl (cI, (12, .inl fun _ => Int32.ofInt 0))), (a14, .inl (cI, (1212, .inl fun _ => Int32.ofInt 0))), (a15, .inl (cI, (100, .inl fun _ => Int32.ofInt 0))), (a16, .inl (cI, (100, .inl fun _ => Int32.ofInt 0)))]) H := hP
  have hD : va_D A ((h0, .inr (8, [.int 0, .int 0, .ref a0, .ref a1, .ref a2, .ref a3, .ref a4, .ref a5, .ref a6, .int 0, .ref a7, .ref a8, .ref a9, .ref a10, .ref a11, .ref a12, .ref a13, .ref a14, .int 0, .int 0, .ref a15, .ref a16, .null, .int 0, .null, .null, .null, .null, .null, .null, .null, .null, .null, .null, .null, .null, .null, .null, .null, .null, .null, .int 0, .int 0, .int 0])) :: [(a0, .inl (cZ, (10, .inl fun _ => Int32.ofInt 0))), (a1, .inl (cI, (10, .inl fun _ => Int32.ofInt 0))), (a2, .inl (cI, (10, .inl fun _ => Int32.ofInt 0))), (a3, .inl (cI, (10, .inl fun _ => Int32.ofInt 0))), (a4, .inl (cI, (10, .inl fun _ => Int32.ofInt 0))), (a5, .inl (cI, (10, .inl fun _ => Int32.ofInt 0))), (a6, .inl (cI, (100, .inl fun _ => Int32.ofInt 0))), (a7, .inl (cI, (12, .inl fun _ => Int32.ofInt 0))), (a8, .inl (cI, (12, .inl fun _ => Int32.ofInt 0))), (a9, .inl (cI, (12, .inl fun _ => Int32.ofInt 0))), (a10, .inl (cI, (12, .inl fun _ => Int32.ofInt 0))), (a11, .inl (cI, (12, .inl fun _ => Int32.ofInt 0))), (a12, .inl (cI, (12, .inl fun _ => Int32.ofInt 0))), (a13, .inl (cI, (12, .inl fun _ => Int32.ofInt 0))), (a14, .inl (cI, (1212, .inl fun _ => Int32.ofInt 0))), (a15, .inl (cI, (100, .inl fun _ => Int32.ofInt 0))), (a16, .inl (cI, (100, .inl fun _ => Int32.ofInt 0)))]) := hD
  refine lv_aload_n X.1 X.2.1 diX8_141 rfl (lv_at hl 0 rfl) ?_
  refine lv_bipush (v := Int32.ofInt 100) X.1 X.2.1 diX8_142 bp_bipush_100 ?_
  refine ct_arr (ty := .int) (cA := cI) (t0 := 0) (N := 100) (a0 := (100, .inl fun _ => Int32.ofInt 0)) (d := 773) (k := 22) X fc_8_22 tz_8_22.2.2.2 tz_8_22.1 tz_8_22.2.1 tz_8_22.2.2.1 rfl (by simp) rfl (at_in arI rfl) a0I sz_100.1 sz_100.2 cbI_100 (by show _ ≤ (35 : Nat); omega) (by show _ ≤ (9136 : Nat); omega) hA diX8_144 diX8_146 (Nat.le_of_ble_eq_true rfl) hP hD hS (fun a17 H locs hP hD hS => ?_)
  have hP : va_P D cls9 ((h0, .inr (8, [.int 0, .int 0, .ref a0, .ref a1, .ref a2, .ref a3, .ref a4, .ref a5, .ref a6, .int 0, .ref a7, .ref a8, .ref a9, .ref a10, .ref a11, .ref a12, .ref a13, .ref a14, .int 0, .int 0, .ref a15, .ref a16, .ref a17, .int 0, .null, .null, .null, .null, .null, .null, .null, .null, .null, .null, .null, .null, .null, .null, .null, .null, .null, .int 0, .int 0, .int 0])) :: [(a0, .inl (cZ, (10, .inl fun _ => Int32.ofInt 0))), (a1, .inl (cI, (10, .inl fun _ => Int32.ofInt 0))), (a2, .inl (cI, (10, .inl fun _ => Int32.ofInt 0))), (a3, .inl (cI, (10, .inl fun _ => Int32.ofInt 0))), (a4, .inl (cI, (10, .inl fun _ => Int32.ofInt 0))), (a5, .inl (cI, (10, .inl fun _ => Int32.ofInt 0))), (a6, .inl (cI, (100, .inl fun _ => Int32.ofInt 0))), (a7, .inl (cI, (12, .inl fun _ => Int32.ofInt 0))), (a8, .inl (cI, (12, .inl fun _ => Int32.ofInt 0))), (a9, .inl (cI, (12, .inl fun _ => Int32.ofInt 0))), (a10, .inl (cI, (12, .inl fun _ => Int32.ofInt 0))), (a11, .inl (cI, (12, .inl fun _ => Int32.ofInt 0))), (a12, .inl (cI, (12, .inl fun _ => Int32.ofInt 0))), (a13, .inl (cI, (12, .inl fun _ => Int32.ofInt 0))), (a14, .inl (cI, (1212, .inl fun _ => Int32.ofInt 0))), (a15, .inl (cI, (100, .inl fun _ => Int32.ofInt 0))), (a16, .inl (cI, (100, .inl fun _ => Int32.ofInt 0))), (a17, .inl (cI, (100, .inl fun _ => Int32.ofInt 0)))]) H := hP
  have hD : va_D A ((h0, .inr (8, [.int 0, .int 0, .ref a0, .ref a1, .ref a2, .ref a3, .ref a4, .ref a5, .ref a6, .int 0, .ref a7, .ref a8, .ref a9, .ref a10, .ref a11, .ref a12, .ref a13, .ref a14, .int 0, .int 0, .ref a15, .ref a16, .ref a17, .int 0, .null, .null, .null, .null, .null, .null, .null, .null, .null, .null, .null, .null, .null, .null, .null, .null, .null, .int 0, .int 0, .int 0])) :: [(a0, .inl (cZ, (10, .inl fun _ => Int32.ofInt 0))), (a1, .inl (cI, (10, .inl fun _ => Int32.ofInt 0))), (a2, .inl (cI, (10, .inl fun _ => Int32.ofInt 0))), (a3, .inl (cI, (10, .inl fun _ => Int32.ofInt 0))), (a4, .inl (cI, (10, .inl fun _ => Int32.ofInt 0))), (a5, .inl (cI, (10, .inl fun _ => Int32.ofInt 0))), (a6, .inl (cI, (100, .inl fun _ => Int32.ofInt 0))), (a7, .inl (cI, (12, .inl fun _ => Int32.ofInt 0))), (a8, .inl (cI, (12, .inl fun _ => Int32.ofInt 0))), (a9, .inl (cI, (12, .inl fun _ => Int32.ofInt 0))), (a10, .inl (cI, (12, .inl fun _ => Int32.ofInt 0))), (a11, .inl (cI, (12, .inl fun _ => Int32.ofInt 0))), (a12, .inl (cI, (12, .inl fun _ => Int32.ofInt 0))), (a13, .inl (cI, (12, .inl fun _ => Int32.ofInt 0))), (a14, .inl (cI, (1212, .inl fun _ => Int32.ofInt 0))), (a15, .inl (cI, (100, .inl fun _ => Int32.ofInt 0))), (a16, .inl (cI, (100, .inl fun _ => Int32.ofInt 0))), (a17, .inl (cI, (100, .inl fun _ => Int32.ofInt 0)))]) := hD
  refine lv_aload_n X.1 X.2.1 diX8_149 rfl (lv_at hl 0 rfl) ?_
  refine lv_bipush (v := Int32.ofInt 12) X.1 X.2.1 diX8_150 bp_bipush_12 ?_
  refine ct_arr (ty := .int) (cA := cI) (t0 := 0) (N := 12) (a0 := (12, .inl fun _ => Int32.ofInt 0)) (d := 775) (k := 24) X fc_8_24 tz_8_24.2.2.2 tz_8_24.1 tz_8_24.2.1 tz_8_24.2.2.1 rfl (by simp) rfl (at_in arI rfl) a0I sz_12.1 sz_12.2 cbI_12 (by show _ ≤ (35 : Nat); omega) (by show _ ≤ (9136 : Nat); omega) hA diX8_152 diX8_154 (Nat.le_of_ble_eq_true rfl) hP hD hS (fun a18 H locs hP hD hS => ?_)
  have hP : va_P D cls9 ((h0, .inr (8, [.int 0, .int 0, .ref a0, .ref a1, .ref a2, .ref a3, .ref a4, .ref a5, .ref a6, .int 0, .ref a7, .ref a8, .ref a9, .ref a10, .ref a11, .ref a12, .ref a13, .ref a14, .int 0, .int 0, .ref a15, .ref a16, .ref a17, .int 0, .ref a18, .null, .null, .null, .null, .null, .null, .null, .null, .null, .null, .null, .null, .null, .null, .null, .null, .int 0, .int 0, .int 0])) :: [(a0, .inl (cZ, (10, .inl fun _ => Int32.ofInt 0))), (a1, .inl (cI, (10, .inl fun _ => Int32.ofInt 0))), (a2, .inl (cI, (10, .inl fun _ => Int32.ofInt 0))), (a3, .inl (cI, (10, .inl fun _ => Int32.ofInt 0))), (a4, .inl (cI, (10, .inl fun _ => Int32.ofInt 0))), (a5, .inl (cI, (10, .inl fun _ => Int32.ofInt 0))), (a6, .inl (cI, (100, .inl fun _ => Int32.ofInt 0))), (a7, .inl (cI, (12, .inl fun _ => Int32.ofInt 0))), (a8, .inl (cI, (12, .inl fun _ => Int32.ofInt 0))), (a9, .inl (cI, (12, .inl fun _ => Int32.ofInt 0))), (a10, .inl (cI, (12, .inl fun _ => Int32.ofInt 0))), (a11, .inl (cI, (12, .inl fun _ => Int32.ofInt 0))), (a12, .inl (cI, (12, .inl fun _ => Int32.ofInt 0))), (a13, .inl (cI, (12, .inl fun _ => Int32.ofInt 0))), (a14, .inl (cI, (1212, .inl fun _ => Int32.ofInt 0))), (a15, .inl (cI, (100, .inl fun _ => Int32.ofInt 0))), (a16, .inl (cI, (100, .inl fun _ => Int32.ofInt 0))), (a17, .inl (cI, (100, .inl fun _ => Int32.ofInt 0))), (a18, .inl (cI, (12, .inl fun _ => Int32.ofInt 0)))]) H := hP
  have hD : va_D A ((h0, .inr (8, [.int 0, .int 0, .ref a0, .ref a1, .ref a2, .ref a3, .ref a4, .ref a5, .ref a6, .int 0, .ref a7, .ref a8, .ref a9, .ref a10, .ref a11, .ref a12, .ref a13, .ref a14, .int 0, .int 0, .ref a15, .ref a16, .ref a17, .int 0, .ref a18, .null, .null, .null, .null, .null, .null, .null, .null, .null, .null, .null, .null, .null, .null, .null, .null, .int 0, .int 0, .int 0])) :: [(a0, .inl (cZ, (10, .inl fun _ => Int32.ofInt 0))), (a1, .inl (cI, (10, .inl fun _ => Int32.ofInt 0))), (a2, .inl (cI, (10, .inl fun _ => Int32.ofInt 0))), (a3, .inl (cI, (10, .inl fun _ => Int32.ofInt 0))), (a4, .inl (cI, (10, .inl fun _ => Int32.ofInt 0))), (a5, .inl (cI, (10, .inl fun _ => Int32.ofInt 0))), (a6, .inl (cI, (100, .inl fun _ => Int32.ofInt 0))), (a7, .inl (cI, (12, .inl fun _ => Int32.ofInt 0))), (a8, .inl (cI, (12, .inl fun _ => Int32.ofInt 0))), (a9, .inl (cI, (12, .inl fun _ => Int32.ofInt 0))), (a10, .inl (cI, (12, .inl fun _ => Int32.ofInt 0))), (a11, .inl (cI, (12, .inl fun _ => Int32.ofInt 0))), (a12, .inl (cI, (12, .inl fun _ => Int32.ofInt 0))), (a13, .inl (cI, (12, .inl fun _ => Int32.ofInt 0))), (a14, .inl (cI, (1212, .inl fun _ => Int32.ofInt 0))), (a15, .inl (cI, (100, .inl fun _ => Int32.ofInt 0))), (a16, .inl (cI, (100, .inl fun _ => Int32.ofInt 0))), (a17, .inl (cI, (100, .inl fun _ => Int32.ofInt 0))), (a18, .inl (cI, (12, .inl fun _ => Int32.ofInt 0)))]) := hD
  refine lv_aload_n X.1 X.2.1 diX8_157 rfl (lv_at hl 0 rfl) ?_
  refine lv_bipush (v := Int32.ofInt 12) X.1 X.2.1 diX8_158 bp_bipush_12 ?_
  refine ct_arr (ty := .int) (cA := cI) (t0 := 0) (N := 12) (a0 := (12, .inl fun _ => Int32.ofInt 0)) (d := 776) (k := 25) X fc_8_25 tz_8_25.2.2.2 tz_8_25.1 tz_8_25.2.1 tz_8_25.2.2.1 rfl (by simp) rfl (at_in arI rfl) a0I sz_12.1 sz_12.2 cbI_12 (by show _ ≤ (35 : Nat); omega) (by show _ ≤ (9136 : Nat); omega) hA diX8_160 diX8_162 (Nat.le_of_ble_eq_true rfl) hP hD hS (fun a19 H locs hP hD hS => ?_)
  have hP : va_P D cls9 ((h0, .inr (8, [.int 0, .int 0, .ref a0, .ref a1, .ref a2, .ref a3, .ref a4, .ref a5, .ref a6, .int 0, .ref a7, .ref a8, .ref a9, .ref a10, .ref a11, .ref a12, .ref a13, .ref a14, .int 0, .int 0, .ref a15, .ref a16, .ref a17, .int 0, .ref a18, .ref a19, .null, .null, .null, .null, .null, .null, .null, .null, .null, .null, .null, .null, .null, .null, .null, .int 0, .int 0, .int 0])) :: [(a0, .inl (cZ, (10, .inl fun _ => Int32.ofInt 0))), (a1, .inl (cI, (10, .inl fun _ => Int32.ofInt 0))), (a2, .inl (cI, (10, .inl fun _ => Int32.ofInt 0))), (a3, .inl (cI, (10, .inl fun _ => Int32.ofInt 0))), (a4, .inl (cI, (10, .inl fun _ => Int32.ofInt 0))), (a5, .inl (cI, (10, .inl fun _ => Int32.ofInt 0))), (a6, .inl (cI, (100, .inl fun _ => Int32.ofInt 0))), (a7, .inl (cI, (12, .inl fun _ => Int32.ofInt 0))), (a8, .inl (cI, (12, .inl fun _ => Int32.ofInt 0))), (a9, .inl (cI, (12, .inl fun _ => Int32.ofInt 0))), (a10, .inl (cI, (12, .inl fun _ => Int32.ofInt 0))), (a11, .inl (cI, (12, .inl fun _ => Int32.ofInt 0))), (a12, .inl (cI, (12, .inl fun _ => Int32.ofInt 0))), (a13, .inl (cI, (12, .inl fun _ => Int32.ofInt 0))), (a14, .inl (cI, (1212, .inl fun _ => Int32.ofInt 0))), (a15, .inl (cI, (100, .inl fun _ => Int32.ofInt 0))), (a16, .inl (cI, (100, .inl fun _ => Int32.ofInt 0))), (a17, .inl (cI, (100, .inl fun _ => Int32.ofInt 0))), (a18, .inl (cI, (12, .inl fun _ => Int32.ofInt 0))), (a19, .inl (cI, (12, .inl fun _ => Int32.ofInt 0)))]) H := hP
  have hD : va_D A ((h0, .inr (8, [.int 0, .int 0, .ref a0, .ref a1, .ref a2, .ref a3, .ref a4, .ref a5, .ref a6, .int 0, .ref a7, .ref a8, .ref a9, .ref a10, .ref a11, .ref a12, .ref a13, .ref a14, .int 0, .int 0, .ref a15, .ref a16, .ref a17, .int 0, .ref a18, .ref a19, .null, .null, .null, .null, .null, .null, .null, .null, .null, .null, .null, .null, .null, .null, .null, .int 0, .int 0, .int 0])) :: [(a0, .inl (cZ, (10, .inl fun _ => Int32.ofInt 0))), (a1, .inl (cI, (10, .inl fun _ => Int32.ofInt 0))), (a2, .inl (cI, (10, .inl fun _ => Int32.ofInt 0))), (a3, .inl (cI, (10, .inl fun _ => Int32.ofInt 0))), (a4, .inl (cI, (10, .inl fun _ => Int32.ofInt 0))), (a5, .inl (cI, (10, .inl fun _ => Int32.ofInt 0))), (a6, .inl (cI, (100, .inl fun _ => Int32.ofInt 0))), (a7, .inl (cI, (12, .inl fun _ => Int32.ofInt 0))), (a8, .inl (cI, (12, .inl fun _ => Int32.ofInt 0))), (a9, .inl (cI, (12, .inl fun _ => Int32.ofInt 0))), (a10, .inl (cI, (12, .inl fun _ => Int32.ofInt 0))), (a11, .inl (cI, (12, .inl fun _ => Int32.ofInt 0))), (a12, .inl (cI, (12, .inl fun _ => Int32.ofInt 0))), (a13, .inl (cI, (12, .inl fun _ => Int32.ofInt 0))), (a14, .inl (cI, (1212, .inl fun _ => Int32.ofInt 0))), (a15, .inl (cI, (100, .inl fun _ => Int32.ofInt 0))), (a16, .inl (cI, (100, .inl fun _ => Int32.ofInt 0))), (a17, .inl (cI, (100, .inl fun _ => Int32.ofInt 0))), (a18, .inl (cI, (12, .inl fun _ => Int32.ofInt 0))), (a19, .inl (cI, (12, .inl fun _ => Int32.ofInt 0)))]) := hD
  refine lv_aload_n X.1 X.2.1 diX8_165 rfl (lv_at hl 0 rfl) ?_
  refine lv_bipush (v := Int32.ofInt 12) X.1 X.2.1 diX8_166 bp_bipush_12 ?_
  refine ct_arr (ty := .int) (cA := cI) (t0 := 0) (N := 12) (a0 := (12, .inl fun _ => Int32.ofInt 0)) (d := 777) (k := 26) X fc_8_26 tz_8_26.2.2.2 tz_8_26.1 tz_8_26.2.1 tz_8_26.2.2.1 rfl (by simp) rfl (at_in arI rfl) a0I sz_12.1 sz_12.2 cbI_12 (by show _ ≤ (35 : Nat); omega) (by show _ ≤ (9136 : Nat); omega) hA diX8_168 diX8_170 (Nat.le_of_ble_eq_true rfl) hP hD hS (fun a20 H locs hP hD hS => ?_)
  have hP : va_P D cls9 ((h0, .inr (8, [.int 0, .int 0, .ref a0, .ref a1, .ref a2, .ref a3, .ref a4, .ref a5, .ref a6, .int 0, .ref a7, .ref a8, .ref a9, .ref a10, .ref a11, .ref a12, .ref a13, .ref a14, .int 0, .int 0, .ref a15, .ref a16, .ref a17, .int 0, .ref a18, .ref a19, .ref a20, .null, .null, .null, .null, .null, .null, .null, .null, .null, .null, .null, .null, .null, .null, .int 0, .int 0, .int 0])) :: [(a0, .inl (cZ, (10, .inl fun _ => Int32.ofInt 0))), (a1, .inl (cI, (10, .inl fun _ => Int32.ofInt 0))), (a2, .inl (cI, (10, .inl fun _ => Int32.ofInt 0))), (a3, .inl (cI, (10, .inl fun _ => Int32.ofInt 0))), (a4, .inl (cI, (10, .inl fun _ => Int32.ofInt 0))), (a5, .inl (cI, (10, .inl fun _ => Int32.ofInt 0))), (a6, .inl (cI, (100, .inl fun _ => Int32.ofInt 0))), (a7, .inl (cI, (12, .inl fun _ => Int32.ofInt 0))), (a8, .inl (cI, (12, .inl fun _ => Int32.ofInt 0))), (a9, .inl (cI, (12, .inl fun _ => Int32.ofInt 0))), (a10, .inl (cI, (12, .inl fun _ => Int32.ofInt 0))), (a11, .inl (cI, (12, .inl fun _ => Int32.ofInt 0))), (a12, .inl (cI, (12, .inl fun _ => Int32.ofInt 0))), (a13, .inl (cI, (12, .inl fun _ => Int32.ofInt 0))), (a14, .inl (cI, (1212, .inl fun _ => Int32.ofInt 0))), (a15, .inl (cI, (100, .inl fun _ => Int32.ofInt 0))), (a16, .inl (cI, (100, .inl fun _ => Int32.ofInt 0))), (a17, .inl (cI, (100, .inl fun _ => Int32.ofInt 0))), (a18, .inl (cI, (12, .inl fun _ => Int32.ofInt 0))), (a19, .inl (cI, (12, .inl fun _ => Int32.ofInt 0))), (a20, .inl (cI, (12, .inl fun _ => Int32.ofInt 0)))]) H := hP
  have hD : va_D A ((h0, .inr (8, [.int 0, .int 0, .ref a0, .ref a1, .ref a2, .ref a3, .ref a4, .ref a5, .ref a6, .int 0, .ref a7, .ref a8, .ref a9, .ref a10, .ref a11, .ref a12, .ref a13, .ref a14, .int 0, .int 0, .ref a15, .ref a16, .ref a17, .int 0, .ref a18, .ref a19, .ref a20, .null, .null, .null, .null, .null, .null, .null, .null, .null, .null, .null, .null, .null, .null, .int 0, .int 0, .int 0])) :: [(a0, .inl (cZ, (10, .inl fun _ => Int32.ofInt 0))), (a1, .inl (cI, (10, .inl fun _ => Int32.ofInt 0))), (a2, .inl (cI, (10, .inl fun _ => Int32.ofInt 0))), (a3, .inl (cI, (10, .inl fun _ => Int32.ofInt 0))), (a4, .inl (cI, (10, .inl fun _ => Int32.ofInt 0))), (a5, .inl (cI, (10, .inl fun _ => Int32.ofInt 0))), (a6, .inl (cI, (100, .inl fun _ => Int32.ofInt 0))), (a7, .inl (cI, (12, .inl fun _ => Int32.ofInt 0))), (a8, .inl (cI, (12, .inl fun _ => Int32.ofInt 0))), (a9, .inl (cI, (12, .inl fun _ => Int32.ofInt 0))), (a10, .inl (cI, (12, .inl fun _ => Int32.ofInt 0))), (a11, .inl (cI, (12, .inl fun _ => Int32.ofInt 0))), (a12, .inl (cI, (12, .inl fun _ => Int32.ofInt 0))), (a13, .inl (cI, (12, .inl fun _ => Int32.ofInt 0))), (a14, .inl (cI, (1212, .inl fun _ => Int32.ofInt 0))), (a15, .inl (cI, (100, .inl fun _ => Int32.ofInt 0))), (a16, .inl (cI, (100, .inl fun _ => Int32.ofInt 0))), (a17, .inl (cI, (100, .inl fun _ => Int32.ofInt 0))), (a18, .inl (cI, (12, .inl fun _ => Int32.ofInt 0))), (a19, .inl (cI, (12, .inl fun _ => Int32.ofInt 0))), (a20, .inl (cI, (12, .inl fun _ => Int32.ofInt 0)))]) := hD
  refine lv_aload_n X.1 X.2.1 diX8_173 rfl (lv_at hl 0 rfl) ?_
  refine lv_bipush (v := Int32.ofInt 12) X.1 X.2.1 diX8_174 bp_bipush_12 ?_
  refine ct_arr (ty := .int) (cA := cI) (t0 := 0) (N := 12) (a0 := (12, .inl fun _ => Int32.ofInt 0)) (d := 778) (k := 27) X fc_8_27 tz_8_27.2.2.2 tz_8_27.1 tz_8_27.2.1 tz_8_27.2.2.1 rfl (by simp) rfl (at_in arI rfl) a0I sz_12.1 sz_12.2 cbI_12 (by show _ ≤ (35 : Nat); omega) (by show _ ≤ (9136 : Nat); omega) hA diX8_176 diX8_178 (Nat.le_of_ble_eq_true rfl) hP hD hS (fun a21 H locs hP hD hS => ?_)
  have hP : va_P D cls9 ((h0, .inr (8, [.int 0, .int 0, .ref a0, .ref a1, .ref a2, .ref a3, .ref a4, .ref a5, .ref a6, .int 0, .ref a7, .ref a8, .ref a9, .ref a10, .ref a11, .ref a12, .ref a13, .ref a14, .int 0, .int 0, .ref a15, .ref a16, .ref a17, .int 0, .ref a18, .ref a19, .ref a20, .ref a21, .null, .null, .null, .null, .null, .null, .null, .null, .null, .null, .null, .null, .null, .int 0, .int 0, .int 0])) :: [(a0, .inl (cZ, (10, .inl fun _ => Int32.ofInt 0))), (a1, .inl (cI, (10, .inl fun _ => Int32.ofInt 0))), (a2, .inl (cI, (10, .inl fun _ => Int32.ofInt 0))), (a3, .inl (cI, (10, .inl fun _ => Int32.ofInt 0))), (a4, .inl (cI, (10, .inl fun _ => Int32.ofInt 0))), (a5, .inl (cI, (10, .inl fun _ => Int32.ofInt 0))), (a6, .inl (cI, (100, .inl fun _ => Int32.ofInt 0))), (a7, .inl (cI, (12, .inl fun _ => Int32.ofInt 0))), (a8, .inl (cI, (12, .inl fun _ => Int32.ofInt 0))), (a9, .inl (cI, (12, .inl fun _ => Int32.ofInt 0))), (a10, .inl (cI, (12, .inl fun _ => Int32.ofInt 0))), (a11, .inl (cI, (12, .inl fun _ => Int32.ofInt 0))), (a12, .inl (cI, (12, .inl fun _ => Int32.ofInt 0))), (a13, .inl (cI, (12, .inl fun _ => Int32.ofInt 0))), (a14, .inl (cI, (1212, .inl fun _ => Int32.ofInt 0))), (a15, .inl (cI, (100, .inl fun _ => Int32.ofInt 0))), (a16, .inl (cI, (100, .inl fun _ => Int32.ofInt 0))), (a17, .inl (cI, (100, .inl fun _ => Int32.ofInt 0))), (a18, .inl (cI, (12, .inl fun _ => Int32.ofInt 0))), (a19, .inl (cI, (12, .inl fun _ => Int32.ofInt 0))), (a20, .inl (cI, (12, .inl fun _ => Int32.ofInt 0))), (a21, .inl (cI, (12, .inl fun _ => Int32.ofInt 0)))]) H := hP
  have hD : va_D A ((h0, .inr (8, [.int 0, .int 0, .ref a0, .ref a1, .ref a2, .ref a3, .ref a4, .ref a5, .ref a6, .int 0, .ref a7, .ref a8, .ref a9, .ref a10, .ref a11, .ref a12, .ref a13, .ref a14, .int 0, .int 0, .ref a15, .ref a16, .ref a17, .int 0, .ref a18, .ref a19, .ref a20, .ref a21, .null, .null, .null, .null, .null, .null, .null, .null, .null, .null, .null, .null, .null, .int 0, .int 0, .int 0])) :: [(a0, .inl (cZ, (10, .inl fun _ => Int32.ofInt 0))), (a1, .inl (cI, (10, .inl fun _ => Int32.ofInt 0))), (a2, .inl (cI, (10, .inl fun _ => Int32.ofInt 0))), (a3, .inl (cI, (10, .inl fun _ => Int32.ofInt 0))), (a4, .inl (cI, (10, .inl fun _ => Int32.ofInt 0))), (a5, .inl (cI, (10, .inl fun _ => Int32.ofInt 0))), (a6, .inl (cI, (100, .inl fun _ => Int32.ofInt 0))), (a7, .inl (cI, (12, .inl fun _ => Int32.ofInt 0))), (a8, .inl (cI, (12, .inl fun _ => Int32.ofInt 0))), (a9, .inl (cI, (12, .inl fun _ => Int32.ofInt 0))), (a10, .inl (cI, (12, .inl fun _ => Int32.ofInt 0))), (a11, .inl (cI, (12, .inl fun _ => Int32.ofInt 0))), (a12, .inl (cI, (12, .inl fun _ => Int32.ofInt 0))), (a13, .inl (cI, (12, .inl fun _ => Int32.ofInt 0))), (a14, .inl (cI, (1212, .inl fun _ => Int32.ofInt 0))), (a15, .inl (cI, (100, .inl fun _ => Int32.ofInt 0))), (a16, .inl (cI, (100, .inl fun _ => Int32.ofInt 0))), (a17, .inl (cI, (100, .inl fun _ => Int32.ofInt 0))), (a18, .inl (cI, (12, .inl fun _ => Int32.ofInt 0))), (a19, .inl (cI, (12, .inl fun _ => Int32.ofInt 0))), (a20, .inl (cI, (12, .inl fun _ => Int32.ofInt 0))), (a21, .inl (cI, (12, .inl fun _ => Int32.ofInt 0)))]) := hD
  refine lv_aload_n X.1 X.2.1 diX8_181 rfl (lv_at hl 0 rfl) ?_
  refine lv_bipush (v := Int32.ofInt 20) X.1 X.2.1 diX8_182 bp_bipush_20 ?_
  refine ct_arr (ty := .int) (cA := cI) (t0 := 0) (N := 20) (a0 := (20, .inl fun _ => Int32.ofInt 0)) (d := 779) (k := 28) X fc_8_28 tz_8_28.2.2.2 tz_8_28.1 tz_8_28.2.1 tz_8_28.2.2.1 rfl (by simp) rfl (at_in arI rfl) a0I sz_20.1 sz_20.2 cbI_20 (by show _ ≤ (35 : Nat); omega) (by show _ ≤ (9136 : Nat); omega) hA diX8_184 diX8_186 (Nat.le_of_ble_eq_true rfl) hP hD hS (fun a22 H locs hP hD hS => ?_)
  have hP : va_P D cls9 ((h0, .inr (8, [.int 0, .int 0, .ref a0, .ref a1, .ref a2, .ref a3, .ref a4, .ref a5, .ref a6, .int 0, .ref a7, .ref a8, .ref a9, .ref a10, .ref a11, .ref a12, .ref a13, .ref a14, .int 0, .int 0, .ref a15, .ref a16, .ref a17, .int 0, .ref a18, .ref a19, .ref a20, .ref a21, .ref a22, .null, .null, .null, .null, .null, .null, .null, .null, .null, .null, .null, .null, .int 0, .int 0, .int 0])) :: [(a0, .inl (cZ, (10, .inl fun _ => Int32.ofInt 0))), (a1, .inl (cI, (10, .inl fun _ => Int32.ofInt 0))), (a2, .inl (cI, (10, .inl fun _ => Int32.ofInt 0))), (a3, .inl (cI, (10, .inl fun _ => Int32.ofInt 0))), (a4, .inl (cI, (10, .inl fun _ => Int32.ofInt 0))), (a5, .inl (cI, (10, .inl fun _ => Int32.ofInt 0))), (a6, .inl (cI, (100, .inl fun _ => Int32.ofInt 0))), (a7, .inl (cI, (12, .inl fun _ => Int32.ofInt 0))), (a8, .inl (cI, (12, .inl fun _ => Int32.ofInt 0))), (a9, .inl (cI, (12, .inl fun _ => Int32.ofInt 0))), (a10, .inl (cI, (12, .inl fun _ => Int32.ofInt 0))), (a11, .inl (cI, (12, .inl fun _ => Int32.ofInt 0))), (a12, .inl (cI, (12, .inl fun _ => Int32.ofInt 0))), (a13, .inl (cI, (12, .inl fun _ => Int32.ofInt 0))), (a14, .inl (cI, (1212, .inl fun _ => Int32.ofInt 0))), (a15, .inl (cI, (100, .inl fun _ => Int32.ofInt 0))), (a16, .inl (cI, (100, .inl fun _ => Int32.ofInt 0))), (a17, .inl (cI, (100, .inl fun _ => Int32.ofInt 0))), (a18, .inl (cI, (12, .inl fun _ => Int32.ofInt 0))), (a19, .inl (cI, (12, .inl fun _ => Int32.ofInt 0))), (a20, .inl (cI, (12, .inl fun _ => Int32.ofInt 0))), (a21, .inl (cI, (12, .inl fun _ => Int32.ofInt 0))), (a22, .inl (cI, (20, .inl fun _ => Int32.ofInt 0)))]) H := hP
  have hD : va_D A ((h0, .inr (8, [.int 0, .int 0, .ref a0, .ref a1, .ref a2, .ref a3, .ref a4, .ref a5, .ref a6, .int 0, .ref a7, .ref a8, .ref a9, .ref a10, .ref a11, .ref a12, .ref a13, .ref a14, .int 0, .int 0, .ref a15, .ref a16, .ref a17, .int 0, .ref a18, .ref a19, .ref a20, .ref a21, .ref a22, .null, .null, .null, .null, .null, .null, .null, .null, .null, .null, .null, .null, .int 0, .int 0, .int 0])) :: [(a0, .inl (cZ, (10, .inl fun _ => Int32.ofInt 0))), (a1, .inl (cI, (10, .inl fun _ => Int32.ofInt 0))), (a2, .inl (cI, (10, .inl fun _ => Int32.ofInt 0))), (a3, .inl (cI, (10, .inl fun _ => Int32.ofInt 0))), (a4, .inl (cI, (10, .inl fun _ => Int32.ofInt 0))), (a5, .inl (cI, (10, .inl fun _ => Int32.ofInt 0))), (a6, .inl (cI, (100, .inl fun _ => Int32.ofInt 0))), (a7, .inl (cI, (12, .inl fun _ => Int32.ofInt 0))), (a8, .inl (cI, (12, .inl fun _ => Int32.ofInt 0))), (a9, .inl (cI, (12, .inl fun _ => Int32.ofInt 0))), (a10, .inl (cI, (12, .inl fun _ => Int32.ofInt 0))), (a11, .inl (cI, (12, .inl fun _ => Int32.ofInt 0))), (a12, .inl (cI, (12, .inl fun _ => Int32.ofInt 0))), (a13, .inl (cI, (12, .inl fun _ => Int32.ofInt 0))), (a14, .inl (cI, (1212, .inl fun _ => Int32.ofInt 0))), (a15, .inl (cI, (100, .inl fun _ => Int32.ofInt 0))), (a16, .inl (cI, (100, .inl fun _ => Int32.ofInt 0))), (a17, .inl (cI, (100, .inl fun _ => Int32.ofInt 0))), (a18, .inl (cI, (12, .inl fun _ => Int32.ofInt 0))), (a19, .inl (cI, (12, .inl fun _ => Int32.ofInt 0))), (a20, .inl (cI, (12, .inl fun _ => Int32.ofInt 0))), (a21, .inl (cI, (12, .inl fun _ => Int32.ofInt 0))), (a22, .inl (cI, (20, .inl fun _ => Int32.ofInt 0)))]) := hD
  refine lv_aload_n X.1 X.2.1 diX8_189 rfl (lv_at hl 0 rfl) ?_
  refine lv_bipush (v := Int32.ofInt 24) X.1 X.2.1 diX8_190 bp_bipush_24 ?_
  refine ct_arr (ty := .int) (cA := cI) (t0 := 0) (N := 24) (a0 := (24, .inl fun _ => Int32.ofInt 0)) (d := 780) (k := 29) X fc_8_29 tz_8_29.2.2.2 tz_8_29.1 tz_8_29.2.1 tz_8_29.2.2.1 rfl (by simp) rfl (at_in arI rfl) a0I sz_24.1 sz_24.2 cbI_24 (by show _ ≤ (35 : Nat); omega) (by show _ ≤ (9136 : Nat); omega) hA diX8_192 diX8_194 (Nat.le_of_ble_eq_true rfl) hP hD hS (fun a23 H locs hP hD hS => ?_)
  have hP : va_P D cls9 ((h0, .inr (8, [.int 0, .int 0, .ref a0, .ref a1, .ref a2, .ref a3, .ref a4, .ref a5, .ref a6, .int 0, .ref a7, .ref a8, .ref a9, .ref a10, .ref a11, .ref a12, .ref a13, .ref a14, .int 0, .int 0, .ref a15, .ref a16, .ref a17, .int 0, .ref a18, .ref a19, .ref a20, .ref a21, .ref a22, .ref a23, .null, .null, .null, .null, .null, .null, .null, .null, .null, .null, .null, .int 0, .int 0, .int 0])) :: [(a0, .inl (cZ, (10, .inl fun _ => Int32.ofInt 0))), (a1, .inl (cI, (10, .inl fun _ => Int32.ofInt 0))), (a2, .inl (cI, (10, .inl fun _ => Int32.ofInt 0))), (a3, .inl (cI, (10, .inl fun _ => Int32.ofInt 0))), (a4, .inl (cI, (10, .inl fun _ => Int32.ofInt 0))), (a5, .inl (cI, (10, .inl fun _ => Int32.ofInt 0))), (a6, .inl (cI, (100, .inl fun _ => Int32.ofInt 0))), (a7, .inl (cI, (12, .inl fun _ => Int32.ofInt 0))), (a8, .inl (cI, (12, .inl fun _ => Int32.ofInt 0))), (a9, .inl (cI, (12, .inl fun _ => Int32.ofInt 0))), (a10, .inl (cI, (12, .inl fun _ => Int32.ofInt 0))), (a11, .inl (cI, (12, .inl fun _ => Int32.ofInt 0))), (a12, .inl (cI, (12, .inl fun _ => Int32.ofInt 0))), (a13, .inl (cI, (12, .inl fun _ => Int32.ofInt 0))), (a14, .inl (cI, (1212, .inl fun _ => Int32.ofInt 0))), (a15, .inl (cI, (100, .inl fun _ => Int32.ofInt 0))), (a16, .inl (cI, (100, .inl fun _ => Int32.ofInt 0))), (a17, .inl (cI, (100, .inl fun _ => Int32.ofInt 0))), (a18, .inl (cI, (12, .inl fun _ => Int32.ofInt 0))), (a19, .inl (cI, (12, .inl fun _ => Int32.ofInt 0))), (a20, .inl (cI, (12, .inl fun _ => Int32.ofInt 0))), (a21, .inl (cI, (12, .inl fun _ => Int32.ofInt 0))), (a22, .inl (cI, (20, .inl fun _ => Int32.ofInt 0))), (a23, .inl (cI, (24, .inl fun _ => Int32.ofInt 0)))]) H := hP
  have hD : va_D A ((h0, .inr (8, [.int 0, .int 0, .ref a0, .ref a1, .ref a2, .ref a3, .ref a4, .ref a5, .ref a6, .int 0, .ref a7, .ref a8, .ref a9, .ref a10, .ref a11, .ref a12, .ref a13, .ref a14, .int 0, .int 0, .ref a15, .ref a16, .ref a17, .int 0, .ref a18, .ref a19, .ref a20, .ref a21, .ref a22, .ref a23, .null, .null, .null, .null, .null, .null, .null, .null, .null, .null, .null, .int 0, .int 0, .int 0])) :: [(a0, .inl (cZ, (10, .inl fun _ => Int32.ofInt 0))), (a1, .inl (cI, (10, .inl fun _ => Int32.ofInt 0))), (a2, .inl (cI, (10, .inl fun _ => Int32.ofInt 0))), (a3, .inl (cI, (10, .inl fun _ => Int32.ofInt 0))), (a4, .inl (cI, (10, .inl fun _ => Int32.ofInt 0))), (a5, .inl (cI, (10, .inl fun _ => Int32.ofInt 0))), (a6, .inl (cI, (100, .inl fun _ => Int32.ofInt 0))), (a7, .inl (cI, (12, .inl fun _ => Int32.ofInt 0))), (a8, .inl (cI, (12, .inl fun _ => Int32.ofInt 0))), (a9, .inl (cI, (12, .inl fun _ => Int32.ofInt 0))), (a10, .inl (cI, (12, .inl fun _ => Int32.ofInt 0))), (a11, .inl (cI, (12, .inl fun _ => Int32.ofInt 0))), (a12, .inl (cI, (12, .inl fun _ => Int32.ofInt 0))), (a13, .inl (cI, (12, .inl fun _ => Int32.ofInt 0))), (a14, .inl (cI, (1212, .inl fun _ => Int32.ofInt 0))), (a15, .inl (cI, (100, .inl fun _ => Int32.ofInt 0))), (a16, .inl (cI, (100, .inl fun _ => Int32.ofInt 0))), (a17, .inl (cI, (100, .inl fun _ => Int32.ofInt 0))), (a18, .inl (cI, (12, .inl fun _ => Int32.ofInt 0))), (a19, .inl (cI, (12, .inl fun _ => Int32.ofInt 0))), (a20, .inl (cI, (12, .inl fun _ => Int32.ofInt 0))), (a21, .inl (cI, (12, .inl fun _ => Int32.ofInt 0))), (a22, .inl (cI, (20, .inl fun _ => Int32.ofInt 0))), (a23, .inl (cI, (24, .inl fun _ => Int32.ofInt 0)))]) := hD
  refine lv_aload_n X.1 X.2.1 diX8_197 rfl (lv_at hl 0 rfl) ?_
  refine lv_iconst (v := Int32.ofInt 2) X.1 X.2.1 diX8_198 bp_iconst_2 ?_
  refine ct_arr (ty := .int) (cA := cI) (t0 := 0) (N := 2) (a0 := (2, .inl fun _ => Int32.ofInt 0)) (d := 781) (k := 30) X fc_8_30 tz_8_30.2.2.2 tz_8_30.1 tz_8_30.2.1 tz_8_30.2.2.1 rfl (by simp) rfl (at_in arI rfl) a0I sz_2.1 sz_2.2 cbI_2 (by show _ ≤ (35 : Nat); omega) (by show _ ≤ (9136 : Nat); omega) hA diX8_199 diX8_201 (Nat.le_of_ble_eq_true rfl) hP hD hS (fun a24 H locs hP hD hS => ?_)
  have hP : va_P D cls9 ((h0, .inr (8, [.int 0, .int 0, .ref a0, .ref a1, .ref a2, .ref a3, .ref a4, .ref a5, .ref a6, .int 0, .ref a7, .ref a8, .ref a9, .ref a10, .ref a11, .ref a12, .ref a13, .ref a14, .int 0, .int 0, .ref a15, .ref a16, .ref a17, .int 0, .ref a18, .ref a19, .ref a20, .ref a21, .ref a22, .ref a23, .ref a24, .null, .null, .null, .null, .null, .null, .null, .null, .null, .null, .int 0, .int 0, .int 0])) :: [(a0, .inl (cZ, (10, .inl fun _ => Int32.ofInt 0))), (a1, .inl (cI, (10, .inl fun _ => Int32.ofInt 0))), (a2, .inl (cI, (10, .inl fun _ => Int32.ofInt 0))), (a3, .inl (cI, (10, .inl fun _ => Int32.ofInt 0))), (a4, .inl (cI, (10, .inl fun _ => Int32.ofInt 0))), (a5, .inl (cI, (10, .inl fun _ => Int32.ofInt 0))), (a6, .inl (cI, (100, .inl fun _ => Int32.ofInt 0))), (a7, .inl (cI, (12, .inl fun _ => Int32.ofInt 0))), (a8, .inl (cI, (12, .inl fun _ => Int32.ofInt 0))), (a9, .inl (cI, (12, .inl fun _ => Int32.ofInt 0))), (a10, .inl (cI, (12, .inl fun _ => Int32.ofInt 0))), (a11, .inl (cI, (12, .inl fun _ => Int32.ofInt 0))), (a12, .inl (cI, (12, .inl fun _ => Int32.ofInt 0))), (a13, .inl (cI, (12, .inl fun _ => Int32.ofInt 0))), (a14, .inl (cI, (1212, .inl fun _ => Int32.ofInt 0))), (a15, .inl (cI, (100, .inl fun _ => Int32.ofInt 0))), (a16, .inl (cI, (100, .inl fun _ => Int32.ofInt 0))), (a17, .inl (cI, (100, .inl fun _ => Int32.ofInt 0))), (a18, .inl (cI, (12, .inl fun _ => Int32.ofInt 0))), (a19, .inl (cI, (12, .inl fun _ => Int32.ofInt 0))), (a20, .inl (cI, (12, .inl fun _ => Int32.ofInt 0))), (a21, .inl (cI, (12, .inl fun _ => Int32.ofInt 0))), (a22, .inl (cI, (20, .inl fun _ => Int32.ofInt 0))), (a23, .inl (cI, (24, .inl fun _ => Int32.ofInt 0))), (a24, .inl (cI, (2, .inl fun _ => Int32.ofInt 0)))]) H := hP
  have hD : va_D A ((h0, .inr (8, [.int 0, .int 0, .ref a0, .ref a1, .ref a2, .ref a3, .ref a4, .ref a5, .ref a6, .int 0, .ref a7, .ref a8, .ref a9, .ref a10, .ref a11, .ref a12, .ref a13, .ref a14, .int 0, .int 0, .ref a15, .ref a16, .ref a17, .int 0, .ref a18, .ref a19, .ref a20, .ref a21, .ref a22, .ref a23, .ref a24, .null, .null, .null, .null, .null, .null, .null, .null, .null, .null, .int 0, .int 0, .int 0])) :: [(a0, .inl (cZ, (10, .inl fun _ => Int32.ofInt 0))), (a1, .inl (cI, (10, .inl fun _ => Int32.ofInt 0))), (a2, .inl (cI, (10, .inl fun _ => Int32.ofInt 0))), (a3, .inl (cI, (10, .inl fun _ => Int32.ofInt 0))), (a4, .inl (cI, (10, .inl fun _ => Int32.ofInt 0))), (a5, .inl (cI, (10, .inl fun _ => Int32.ofInt 0))), (a6, .inl (cI, (100, .inl fun _ => Int32.ofInt 0))), (a7, .inl (cI, (12, .inl fun _ => Int32.ofInt 0))), (a8, .inl (cI, (12, .inl fun _ => Int32.ofInt 0))), (a9, .inl (cI, (12, .inl fun _ => Int32.ofInt 0))), (a10, .inl (cI, (12, .inl fun _ => Int32.ofInt 0))), (a11, .inl (cI, (12, .inl fun _ => Int32.ofInt 0))), (a12, .inl (cI, (12, .inl fun _ => Int32.ofInt 0))), (a13, .inl (cI, (12, .inl fun _ => Int32.ofInt 0))), (a14, .inl (cI, (1212, .inl fun _ => Int32.ofInt 0))), (a15, .inl (cI, (100, .inl fun _ => Int32.ofInt 0))), (a16, .inl (cI, (100, .inl fun _ => Int32.ofInt 0))), (a17, .inl (cI, (100, .inl fun _ => Int32.ofInt 0))), (a18, .inl (cI, (12, .inl fun _ => Int32.ofInt 0))), (a19, .inl (cI, (12, .inl fun _ => Int32.ofInt 0))), (a20, .inl (cI, (12, .inl fun _ => Int32.ofInt 0))), (a21, .inl (cI, (12, .inl fun _ => Int32.ofInt 0))), (a22, .inl (cI, (20, .inl fun _ => Int32.ofInt 0))), (a23, .inl (cI, (24, .inl fun _ => Int32.ofInt 0))), (a24, .inl (cI, (2, .inl fun _ => Int32.ofInt 0)))]) := hD
  refine lv_aload_n X.1 X.2.1 diX8_204 rfl (lv_at hl 0 rfl) ?_
  refine lv_iconst (v := Int32.ofInt 2) X.1 X.2.1 diX8_205 bp_iconst_2 ?_
  refine ct_arr (ty := .long) (cA := cJ) (t0 := 2) (N := 2) (a0 := (2, .inr (.inl fun _ => Int64.ofInt 0))) (d := 782) (k := 31) X fc_8_31 tz_8_31.2.2.2 tz_8_31.1 tz_8_31.2.1 tz_8_31.2.2.1 rfl (by simp) rfl (at_in arJ rfl) a0J sz_2.1 sz_2.2 cbJ_2 (by show _ ≤ (35 : Nat); omega) (by show _ ≤ (9136 : Nat); omega) hA diX8_206 diX8_208 (Nat.le_of_ble_eq_true rfl) hP hD hS (fun a25 H locs hP hD hS => ?_)
  have hP : va_P D cls9 ((h0, .inr (8, [.int 0, .int 0, .ref a0, .ref a1, .ref a2, .ref a3, .ref a4, .ref a5, .ref a6, .int 0, .ref a7, .ref a8, .ref a9, .ref a10, .ref a11, .ref a12, .ref a13, .ref a14, .int 0, .int 0, .ref a15, .ref a16, .ref a17, .int 0, .ref a18, .ref a19, .ref a20, .ref a21, .ref a22, .ref a23, .ref a24, .ref a25, .null, .null, .null, .null, .null, .null, .null, .null, .null, .int 0, .int 0, .int 0])) :: [(a0, .inl (cZ, (10, .inl fun _ => Int32.ofInt 0))), (a1, .inl (cI, (10, .inl fun _ => Int32.ofInt 0))), (a2, .inl (cI, (10, .inl fun _ => Int32.ofInt 0))), (a3, .inl (cI, (10, .inl fun _ => Int32.ofInt 0))), (a4, .inl (cI, (10, .inl fun _ => Int32.ofInt 0))), (a5, .inl (cI, (10, .inl fun _ => Int32.ofInt 0))), (a6, .inl (cI, (100, .inl fun _ => Int32.ofInt 0))), (a7, .inl (cI, (12, .inl fun _ => Int32.ofInt 0))), (a8, .inl (cI, (12, .inl fun _ => Int32.ofInt 0))), (a9, .inl (cI, (12, .inl fun _ => Int32.ofInt 0))), (a10, .inl (cI, (12, .inl fun _ => Int32.ofInt 0))), (a11, .inl (cI, (12, .inl fun _ => Int32.ofInt 0))), (a12, .inl (cI, (12, .inl fun _ => Int32.ofInt 0))), (a13, .inl (cI, (12, .inl fun _ => Int32.ofInt 0))), (a14, .inl (cI, (1212, .inl fun _ => Int32.ofInt 0))), (a15, .inl (cI, (100, .inl fun _ => Int32.ofInt 0))), (a16, .inl (cI, (100, .inl fun _ => Int32.ofInt 0))), (a17, .inl (cI, (100, .inl fun _ => Int32.ofInt 0))), (a18, .inl (cI, (12, .inl fun _ => Int32.ofInt 0))), (a19, .inl (cI, (12, .inl fun _ => Int32.ofInt 0))), (a20, .inl (cI, (12, .inl fun _ => Int32.ofInt 0))), (a21, .inl (cI, (12, .inl fun _ => Int32.ofInt 0))), (a22, .inl (cI, (20, .inl fun _ => Int32.ofInt 0))), (a23, .inl (cI, (24, .inl fun _ => Int32.ofInt 0))), (a24, .inl (cI, (2, .inl fun _ => Int32.ofInt 0))), (a25, .inl (cJ, (2, .inr (.inl fun _ => Int64.ofInt 0))))]) H := hP
  have hD : va_D A ((h0, .inr (8, [.int 0, .int 0, .ref a0, .ref a1, .ref a2, .ref a3, .ref a4, .ref a5, .ref a6, .int 0, .ref a7, .ref a8, .ref a9, .ref a10, .ref a11, .ref a12, .ref a13, .ref a14, .int 0, .int 0, .ref a15, .ref a16, .ref a17, .int 0, .ref a18, .ref a19, .ref a20, .ref a21, .ref a22, .ref a23, .ref a24, .ref a25, .null, .null, .null, .null, .null, .null, .null, .null, .null, .int 0, .int 0, .int 0])) :: [(a0, .inl (cZ, (10, .inl fun _ => Int32.ofInt 0))), (a1, .inl (cI, (10, .inl fun _ => Int32.ofInt 0))), (a2, .inl (cI, (10, .inl fun _ => Int32.ofInt 0))), (a3, .inl (cI, (10, .inl fun _ => Int32.ofInt 0))), (a4, .inl (cI, (10, .inl fun _ => Int32.ofInt 0))), (a5, .inl (cI, (10, .inl fun _ => Int32.ofInt 0))), (a6, .inl (cI, (100, .inl fun _ => Int32.ofInt 0))), (a7, .inl (cI, (12, .inl fun _ => Int32.ofInt 0))), (a8, .inl (cI, (12, .inl fun _ => Int32.ofInt 0))), (a9, .inl (cI, (12, .inl fun _ => Int32.ofInt 0))), (a10, .inl (cI, (12, .inl fun _ => Int32.ofInt 0))), (a11, .inl (cI, (12, .inl fun _ => Int32.ofInt 0))), (a12, .inl (cI, (12, .inl fun _ => Int32.ofInt 0))), (a13, .inl (cI, (12, .inl fun _ => Int32.ofInt 0))), (a14, .inl (cI, (1212, .inl fun _ => Int32.ofInt 0))), (a15, .inl (cI, (100, .inl fun _ => Int32.ofInt 0))), (a16, .inl (cI, (100, .inl fun _ => Int32.ofInt 0))), (a17, .inl (cI, (100, .inl fun _ => Int32.ofInt 0))), (a18, .inl (cI, (12, .inl fun _ => Int32.ofInt 0))), (a19, .inl (cI, (12, .inl fun _ => Int32.ofInt 0))), (a20, .inl (cI, (12, .inl fun _ => Int32.ofInt 0))), (a21, .inl (cI, (12, .inl fun _ => Int32.ofInt 0))), (a22, .inl (cI, (20, .inl fun _ => Int32.ofInt 0))), (a23, .inl (cI, (24, .inl fun _ => Int32.ofInt 0))), (a24, .inl (cI, (2, .inl fun _ => Int32.ofInt 0))), (a25, .inl (cJ, (2, .inr (.inl fun _ => Int64.ofInt 0))))]) := hD
  refine lv_aload_n X.1 X.2.1 diX8_211 rfl (lv_at hl 0 rfl) ?_
  refine lv_iconst (v := Int32.ofInt 2) X.1 X.2.1 diX8_212 bp_iconst_2 ?_
  refine ct_arr (ty := .long) (cA := cJ) (t0 := 2) (N := 2) (a0 := (2, .inr (.inl fun _ => Int64.ofInt 0))) (d := 783) (k := 32) X fc_8_32 tz_8_32.2.2.2 tz_8_32.1 tz_8_32.2.1 tz_8_32.2.2.1 rfl (by simp) rfl (at_in arJ rfl) a0J sz_2.1 sz_2.2 cbJ_2 (by show _ ≤ (35 : Nat); omega) (by show _ ≤ (9136 : Nat); omega) hA diX8_213 diX8_215 (Nat.le_of_ble_eq_true rfl) hP hD hS (fun a26 H locs hP hD hS => ?_)
  have hP : va_P D cls9 ((h0, .inr (8, [.int 0, .int 0, .ref a0, .ref a1, .ref a2, .ref a3, .ref a4, .ref a5, .ref a6, .int 0, .ref a7, .ref a8, .ref a9, .ref a10, .ref a11, .ref a12, .ref a13, .ref a14, .int 0, .int 0, .ref a15, .ref a16, .ref a17, .int 0, .ref a18, .ref a19, .ref a20, .ref a21, .ref a22, .ref a23, .ref a24, .ref a25, .ref a26, .null, .null, .null, .null, .null, .null, .null, .null, .int 0, .int 0, .int 0])) :: [(a0, .inl (cZ, (10, .inl fun _ => Int32.ofInt 0))), (a1, .inl (cI, (10, .inl fun _ => Int32.ofInt 0))), (a2, .inl (cI, (10, .inl fun _ => Int32.ofInt 0))), (a3, .inl (cI, (10, .inl fun _ => Int32.ofInt 0))), (a4, .inl (cI, (10, .inl fun _ => Int32.ofInt 0))), (a5, .inl (cI, (10, .inl fun _ => Int32.ofInt 0))), (a6, .inl (cI, (100, .inl fun _ => Int32.ofInt 0))), (a7, .inl (cI, (12, .inl fun _ => Int32.ofInt 0))), (a8, .inl (cI, (12, .inl fun _ => Int32.ofInt 0))), (a9, .inl (cI, (12, .inl fun _ => Int32.ofInt 0))), (a10, .inl (cI, (12, .inl fun _ => Int32.ofInt 0))), (a11, .inl (cI, (12, .inl fun _ => Int32.ofInt 0))), (a12, .inl (cI, (12, .inl fun _ => Int32.ofInt 0))), (a13, .inl (cI, (12, .inl fun _ => Int32.ofInt 0))), (a14, .inl (cI, (1212, .inl fun _ => Int32.ofInt 0))), (a15, .inl (cI, (100, .inl fun _ => Int32.ofInt 0))), (a16, .inl (cI, (100, .inl fun _ => Int32.ofInt 0))), (a17, .inl (cI, (100, .inl fun _ => Int32.ofInt 0))), (a18, .inl (cI, (12, .inl fun _ => Int32.ofInt 0))), (a19, .inl (cI, (12, .inl fun _ => Int32.ofInt 0))), (a20, .inl (cI, (12, .inl fun _ => Int32.ofInt 0))), (a21, .inl (cI, (12, .inl fun _ => Int32.ofInt 0))), (a22, .inl (cI, (20, .inl fun _ => Int32.ofInt 0))), (a23, .inl (cI, (24, .inl fun _ => Int32.ofInt 0))), (a24, .inl (cI, (2, .inl fun _ => Int32.ofInt 0))), (a25, .inl (cJ, (2, .inr (.inl fun _ => Int64.ofInt 0)))), (a26, .inl (cJ, (2, .inr (.inl fun _ => Int64.ofInt 0))))]) H := hP
  have hD : va_D A ((h0, .inr (8, [.int 0, .int 0, .ref a0, .ref a1, .ref a2, .ref a3, .ref a4, .ref a5, .ref a6, .int 0, .ref a7, .ref a8, .ref a9, .ref a10, .ref a11, .ref a12, .ref a13, .ref a14, .int 0, .int 0, .ref a15, .ref a16, .ref a17, .int 0, .ref a18, .ref a19, .ref a20, .ref a21, .ref a22, .ref a23, .ref a24, .ref a25, .ref a26, .null, .null, .null, .null, .null, .null, .null, .null, .int 0, .int 0, .int 0])) :: [(a0, .inl (cZ, (10, .inl fun _ => Int32.ofInt 0))), (a1, .inl (cI, (10, .inl fun _ => Int32.ofInt 0))), (a2, .inl (cI, (10, .inl fun _ => Int32.ofInt 0))), (a3, .inl (cI, (10, .inl fun _ => Int32.ofInt 0))), (a4, .inl (cI, (10, .inl fun _ => Int32.ofInt 0))), (a5, .inl (cI, (10, .inl fun _ => Int32.ofInt 0))), (a6, .inl (cI, (100, .inl fun _ => Int32.ofInt 0))), (a7, .inl (cI, (12, .inl fun _ => Int32.ofInt 0))), (a8, .inl (cI, (12, .inl fun _ => Int32.ofInt 0))), (a9, .inl (cI, (12, .inl fun _ => Int32.ofInt 0))), (a10, .inl (cI, (12, .inl fun _ => Int32.ofInt 0))), (a11, .inl (cI, (12, .inl fun _ => Int32.ofInt 0))), (a12, .inl (cI, (12, .inl fun _ => Int32.ofInt 0))), (a13, .inl (cI, (12, .inl fun _ => Int32.ofInt 0))), (a14, .inl (cI, (1212, .inl fun _ => Int32.ofInt 0))), (a15, .inl (cI, (100, .inl fun _ => Int32.ofInt 0))), (a16, .inl (cI, (100, .inl fun _ => Int32.ofInt 0))), (a17, .inl (cI, (100, .inl fun _ => Int32.ofInt 0))), (a18, .inl (cI, (12, .inl fun _ => Int32.ofInt 0))), (a19, .inl (cI, (12, .inl fun _ => Int32.ofInt 0))), (a20, .inl (cI, (12, .inl fun _ => Int32.ofInt 0))), (a21, .inl (cI, (12, .inl fun _ => Int32.ofInt 0))), (a22, .inl (cI, (20, .inl fun _ => Int32.ofInt 0))), (a23, .inl (cI, (24, .inl fun _ => Int32.ofInt 0))), (a24, .inl (cI, (2, .inl fun _ => Int32.ofInt 0))), (a25, .inl (cJ, (2, .inr (.inl fun _ => Int64.ofInt 0)))), (a26, .inl (cJ, (2, .inr (.inl fun _ => Int64.ofInt 0))))]) := hD
  refine lv_aload_n X.1 X.2.1 diX8_218 rfl (lv_at hl 0 rfl) ?_
  refine lv_sipush (v := Int32.ofInt 1010) X.1 X.2.1 diX8_219 bp_sipush_1010 ?_
  refine ct_arr (ty := .int) (cA := cI) (t0 := 0) (N := 1010) (a0 := (1010, .inl fun _ => Int32.ofInt 0)) (d := 784) (k := 33) X fc_8_33 tz_8_33.2.2.2 tz_8_33.1 tz_8_33.2.1 tz_8_33.2.2.1 rfl (by simp) rfl (at_in arI rfl) a0I sz_1010.1 sz_1010.2 cbI_1010 (by show _ ≤ (35 : Nat); omega) (by show _ ≤ (9136 : Nat); omega) hA diX8_222 diX8_224 (Nat.le_of_ble_eq_true rfl) hP hD hS (fun a27 H locs hP hD hS => ?_)
  have hP : va_P D cls9 ((h0, .inr (8, [.int 0, .int 0, .ref a0, .ref a1, .ref a2, .ref a3, .ref a4, .ref a5, .ref a6, .int 0, .ref a7, .ref a8, .ref a9, .ref a10, .ref a11, .ref a12, .ref a13, .ref a14, .int 0, .int 0, .ref a15, .ref a16, .ref a17, .int 0, .ref a18, .ref a19, .ref a20, .ref a21, .ref a22, .ref a23, .ref a24, .ref a25, .ref a26, .ref a27, .null, .null, .null, .null, .null, .null, .null, .int 0, .int 0, .int 0])) :: [(a0, .inl (cZ, (10, .inl fun _ => Int32.ofInt 0))), (a1, .inl (cI, (10, .inl fun _ => Int32.ofInt 0))), (a2, .inl (cI, (10, .inl fun _ => Int32.ofInt 0))), (a3, .inl (cI, (10, .inl fun _ => Int32.ofInt 0))), (a4, .inl (cI, (10, .inl fun _ => Int32.ofInt 0))), (a5, .inl (cI, (10, .inl fun _ => Int32.ofInt 0))), (a6, .inl (cI, (100, .inl fun _ => Int32.ofInt 0))), (a7, .inl (cI, (12, .inl fun _ => Int32.ofInt 0))), (a8, .inl (cI, (12, .inl fun _ => Int32.ofInt 0))), (a9, .inl (cI, (12, .inl fun _ => Int32.ofInt 0))), (a10, .inl (cI, (12, .inl fun _ => Int32.ofInt 0))), (a11, .inl (cI, (12, .inl fun _ => Int32.ofInt 0))), (a12, .inl (cI, (12, .inl fun _ => Int32.ofInt 0))), (a13, .inl (cI, (12, .inl fun _ => Int32.ofInt 0))), (a14, .inl (cI, (1212, .inl fun _ => Int32.ofInt 0))), (a15, .inl (cI, (100, .inl fun _ => Int32.ofInt 0))), (a16, .inl (cI, (100, .inl fun _ => Int32.ofInt 0))), (a17, .inl (cI, (100, .inl fun _ => Int32.ofInt 0))), (a18, .inl (cI, (12, .inl fun _ => Int32.ofInt 0))), (a19, .inl (cI, (12, .inl fun _ => Int32.ofInt 0))), (a20, .inl (cI, (12, .inl fun _ => Int32.ofInt 0))), (a21, .inl (cI, (12, .inl fun _ => Int32.ofInt 0))), (a22, .inl (cI, (20, .inl fun _ => Int32.ofInt 0))), (a23, .inl (cI, (24, .inl fun _ => Int32.ofInt 0))), (a24, .inl (cI, (2, .inl fun _ => Int32.ofInt 0))), (a25, .inl (cJ, (2, .inr (.inl fun _ => Int64.ofInt 0)))), (a26, .inl (cJ, (2, .inr (.inl fun _ => Int64.ofInt 0)))), (a27, .inl (cI, (1010, .inl fun _ => Int32.ofInt 0)))]) H := hP
  have hD : va_D A ((h0, .inr (8, [.int 0, .int 0, .ref a0, .ref a1, .ref a2, .ref a3, .ref a4, .ref a5, .ref a6, .int 0, .ref a7, .ref a8, .ref a9, .ref a10, .ref a11, .ref a12, .ref a13, .ref a14, .int 0, .int 0, .ref a15, .ref a16, .ref a17, .int 0, .ref a18, .ref a19, .ref a20, .ref a21, .ref a22, .ref a23, .ref a24, .ref a25, .ref a26, .ref a27, .null, .null, .null, .null, .null, .null, .null, .int 0, .int 0, .int 0])) :: [(a0, .inl (cZ, (10, .inl fun _ => Int32.ofInt 0))), (a1, .inl (cI, (10, .inl fun _ => Int32.ofInt 0))), (a2, .inl (cI, (10, .inl fun _ => Int32.ofInt 0))), (a3, .inl (cI, (10, .inl fun _ => Int32.ofInt 0))), (a4, .inl (cI, (10, .inl fun _ => Int32.ofInt 0))), (a5, .inl (cI, (10, .inl fun _ => Int32.ofInt 0))), (a6, .inl (cI, (100, .inl fun _ => Int32.ofInt 0))), (a7, .inl (cI, (12, .inl fun _ => Int32.ofInt 0))), (a8, .inl (cI, (12, .inl fun _ => Int32.ofInt 0))), (a9, .inl (cI, (12, .inl fun _ => Int32.ofInt 0))), (a10, .inl (cI, (12, .inl fun _ => Int32.ofInt 0))), (a11, .inl (cI, (12, .inl fun _ => Int32.ofInt 0))), (a12, .inl (cI, (12, .inl fun _ => Int32.ofInt 0))), (a13, .inl (cI, (12, .inl fun _ => Int32.ofInt 0))), (a14, .inl (cI, (1212, .inl fun _ => Int32.ofInt 0))), (a15, .inl (cI, (100, .inl fun _ => Int32.ofInt 0))), (a16, .inl (cI, (100, .inl fun _ => Int32.ofInt 0))), (a17, .inl (cI, (100, .inl fun _ => Int32.ofInt 0))), (a18, .inl (cI, (12, .inl fun _ => Int32.ofInt 0))), (a19, .inl (cI, (12, .inl fun _ => Int32.ofInt 0))), (a20, .inl (cI, (12, .inl fun _ => Int32.ofInt 0))), (a21, .inl (cI, (12, .inl fun _ => Int32.ofInt 0))), (a22, .inl (cI, (20, .inl fun _ => Int32.ofInt 0))), (a23, .inl (cI, (24, .inl fun _ => Int32.ofInt 0))), (a24, .inl (cI, (2, .inl fun _ => Int32.ofInt 0))), (a25, .inl (cJ, (2, .inr (.inl fun _ => Int64.ofInt 0)))), (a26, .inl (cJ, (2, .inr (.inl fun _ => Int64.ofInt 0)))), (a27, .inl (cI, (1010, .inl fun _ => Int32.ofInt 0)))]) := hD
  refine lv_aload_n X.1 X.2.1 diX8_227 rfl (lv_at hl 0 rfl) ?_
  refine lv_bipush (v := Int32.ofInt 10) X.1 X.2.1 diX8_228 bp_bipush_10 ?_
  refine ct_arr (ty := .int) (cA := cI) (t0 := 0) (N := 10) (a0 := (10, .inl fun _ => Int32.ofInt 0)) (d := 785) (k := 34) X fc_8_34 tz_8_34.2.2.2 tz_8_34.1 tz_8_34.2.1 tz_8_34.2.2.1 rfl (by simp) rfl (at_in arI rfl) a0I sz_10.1 sz_10.2 cbI_10 (by show _ ≤ (35 : Nat); omega) (by show _ ≤ (9136 : Nat); omega) hA diX8_230 diX8_232 (Nat.le_of_ble_eq_true rfl) hP hD hS (fun a28 H locs hP hD hS => ?_)
  have hP : va_P D cls9 ((h0, .inr (8, [.int 0, .int 0, .ref a0, .ref a1, .ref a2, .ref a3, .ref a4, .ref a5, .ref a6, .int 0, .ref a7, .ref a8, .ref a9, .ref a10, .ref a11, .ref a12, .ref a13, .ref a14, .int 0, .int 0, .ref a15, .ref a16, .ref a17, .int 0, .ref a18, .ref a19, .ref a20, .ref a21, .ref a22, .ref a23, .ref a24, .ref a25, .ref a26, .ref a27, .ref a28, .null, .null, .null, .null, .null, .null, .int 0, .int 0, .int 0])) :: [(a0, .inl (cZ, (10, .inl fun _ => Int32.ofInt 0))), (a1, .inl (cI, (10, .inl fun _ => Int32.ofInt 0))), (a2, .inl (cI, (10, .inl fun _ => Int32.ofInt 0))), (a3, .inl (cI, (10, .inl fun _ => Int32.ofInt 0))), (a4, .inl (cI, (10, .inl fun _ => Int32.ofInt 0))), (a5, .inl (cI, (10, .inl fun _ => Int32.ofInt 0))), (a6, .inl (cI, (100, .inl fun _ => Int32.ofInt 0))), (a7, .inl (cI, (12, .inl fun _ => Int32.ofInt 0))), (a8, .inl (cI, (12, .inl fun _ => Int32.ofInt 0))), (a9, .inl (cI, (12, .inl fun _ => Int32.ofInt 0))), (a10, .inl (cI, (12, .inl fun _ => Int32.ofInt 0))), (a11, .inl (cI, (12, .inl fun _ => Int32.ofInt 0))), (a12, .inl (cI, (12, .inl fun _ => Int32.ofInt 0))), (a13, .inl (cI, (12, .inl fun _ => Int32.ofInt 0))), (a14, .inl (cI, (1212, .inl fun _ => Int32.ofInt 0))), (a15, .inl (cI, (100, .inl fun _ => Int32.ofInt 0))), (a16, .inl (cI, (100, .inl fun _ => Int32.ofInt 0))), (a17, .inl (cI, (100, .inl fun _ => Int32.ofInt 0))), (a18, .inl (cI, (12, .inl fun _ => Int32.ofInt 0))), (a19, .inl (cI, (12, .inl fun _ => Int32.ofInt 0))), (a20, .inl (cI, (12, .inl fun _ => Int32.ofInt 0))), (a21, .inl (cI, (12, .inl fun _ => Int32.ofInt 0))), (a22, .inl (cI, (20, .inl fun _ => Int32.ofInt 0))), (a23, .inl (cI, (24, .inl fun _ => Int32.ofInt 0))), (a24, .inl (cI, (2, .inl fun _ => Int32.ofInt 0))), (a25, .inl (cJ, (2, .inr (.inl fun _ => Int64.ofInt 0)))), (a26, .inl (cJ, (2, .inr (.inl fun _ => Int64.ofInt 0)))), (a27, .inl (cI, (1010, .inl fun _ => Int32.ofInt 0))), (a28, .inl (cI, (10, .inl fun _ => Int32.ofInt 0)))]) H := hP
  have hD : va_D A ((h0, .inr (8, [.int 0, .int 0, .ref a0, .ref a1, .ref a2, .ref a3, .ref a4, .ref a5, .ref a6, .int 0, .ref a7, .ref a8, .ref a9, .ref a10, .ref a11, .ref a12, .ref a13, .ref a14, .int 0, .int 0, .ref a15, .ref a16, .ref a17, .int 0, .ref a18, .ref a19, .ref a20, .ref a21, .ref a22, .ref a23, .ref a24, .ref a25, .ref a26, .ref a27, .ref a28, .null, .null, .null, .null, .null, .null, .int 0, .int 0, .int 0])) :: [(a0, .inl (cZ, (10, .inl fun _ => Int32.ofInt 0))), (a1, .inl (cI, (10, .inl fun _ => Int32.ofInt 0))), (a2, .inl (cI, (10, .inl fun _ => Int32.ofInt 0))), (a3, .inl (cI, (10, .inl fun _ => Int32.ofInt 0))), (a4, .inl (cI, (10, .inl fun _ => Int32.ofInt 0))), (a5, .inl (cI, (10, .inl fun _ => Int32.ofInt 0))), (a6, .inl (cI, (100, .inl fun _ => Int32.ofInt 0))), (a7, .inl (cI, (12, .inl fun _ => Int32.ofInt 0))), (a8, .inl (cI, (12, .inl fun _ => Int32.ofInt 0))), (a9, .inl (cI, (12, .inl fun _ => Int32.ofInt 0))), (a10, .inl (cI, (12, .inl fun _ => Int32.ofInt 0))), (a11, .inl (cI, (12, .inl fun _ => Int32.ofInt 0))), (a12, .inl (cI, (12, .inl fun _ => Int32.ofInt 0))), (a13, .inl (cI, (12, .inl fun _ => Int32.ofInt 0))), (a14, .inl (cI, (1212, .inl fun _ => Int32.ofInt 0))), (a15, .inl (cI, (100, .inl fun _ => Int32.ofInt 0))), (a16, .inl (cI, (100, .inl fun _ => Int32.ofInt 0))), (a17, .inl (cI, (100, .inl fun _ => Int32.ofInt 0))), (a18, .inl (cI, (12, .inl fun _ => Int32.ofInt 0))), (a19, .inl (cI, (12, .inl fun _ => Int32.ofInt 0))), (a20, .inl (cI, (12, .inl fun _ => Int32.ofInt 0))), (a21, .inl (cI, (12, .inl fun _ => Int32.ofInt 0))), (a22, .inl (cI, (20, .inl fun _ => Int32.ofInt 0))), (a23, .inl (cI, (24, .inl fun _ => Int32.ofInt 0))), (a24, .inl (cI, (2, .inl fun _ => Int32.ofInt 0))), (a25, .inl (cJ, (2, .inr (.inl fun _ => Int64.ofInt 0)))), (a26, .inl (cJ, (2, .inr (.inl fun _ => Int64.ofInt 0)))), (a27, .inl (cI, (1010, .inl fun _ => Int32.ofInt 0))), (a28, .inl (cI, (10, .inl fun _ => Int32.ofInt 0)))]) := hD
  refine lv_aload_n X.1 X.2.1 diX8_235 rfl (lv_at hl 0 rfl) ?_
  refine lv_sipush (v := Int32.ofInt 1010) X.1 X.2.1 diX8_236 bp_sipush_1010 ?_
  refine ct_arr (ty := .int) (cA := cI) (t0 := 0) (N := 1010) (a0 := (1010, .inl fun _ => Int32.ofInt 0)) (d := 786) (k := 35) X fc_8_35 tz_8_35.2.2.2 tz_8_35.1 tz_8_35.2.1 tz_8_35.2.2.1 rfl (by simp) rfl (at_in arI rfl) a0I sz_1010.1 sz_1010.2 cbI_1010 (by show _ ≤ (35 : Nat); omega) (by show _ ≤ (9136 : Nat); omega) hA diX8_239 diX8_241 (Nat.le_of_ble_eq_true rfl) hP hD hS (fun a29 H locs hP hD hS => ?_)
  have hP : va_P D cls9 ((h0, .inr (8, [.int 0, .int 0, .ref a0, .ref a1, .ref a2, .ref a3, .ref a4, .ref a5, .ref a6, .int 0, .ref a7, .ref a8, .ref a9, .ref a10, .ref a11, .ref a12, .ref a13, .ref a14, .int 0, .int 0, .ref a15, .ref a16, .ref a17, .int 0, .ref a18, .ref a19, .ref a20, .ref a21, .ref a22, .ref a23, .ref a24, .ref a25, .ref a26, .ref a27, .ref a28, .ref a29, .null, .null, .null, .null, .null, .int 0, .int 0, .int 0])) :: [(a0, .inl (cZ, (10, .inl fun _ => Int32.ofInt 0))), (a1, .inl (cI, (10, .inl fun _ => Int32.ofInt 0))), (a2, .inl (cI, (10, .inl fun _ => Int32.ofInt 0))), (a3, .inl (cI, (10, .inl fun _ => Int32.ofInt 0))), (a4, .inl (cI, (10, .inl fun _ => Int32.ofInt 0))), (a5, .inl (cI, (10, .inl fun _ => Int32.ofInt 0))), (a6, .inl (cI, (100, .inl fun _ => Int32.ofInt 0))), (a7, .inl (cI, (12, .inl fun _ => Int32.ofInt 0))), (a8, .inl (cI, (12, .inl fun _ => Int32.ofInt 0))), (a9, .inl (cI, (12, .inl fun _ => Int32.ofInt 0))), (a10, .inl (cI, (12, .inl fun _ => Int32.ofInt 0))), (a11, .inl (cI, (12, .inl fun _ => Int32.ofInt 0))), (a12, .inl (cI, (12, .inl fun _ => Int32.ofInt 0))), (a13, .inl (cI, (12, .inl fun _ => Int32.ofInt 0))), (a14, .inl (cI, (1212, .inl fun _ => Int32.ofInt 0))), (a15, .inl (cI, (100, .inl fun _ => Int32.ofInt 0))), (a16, .inl (cI, (100, .inl fun _ => Int32.ofInt 0))), (a17, .inl (cI, (100, .inl fun _ => Int32.ofInt 0))), (a18, .inl (cI, (12, .inl fun _ => Int32.ofInt 0))), (a19, .inl (cI, (12, .inl fun _ => Int32.ofInt 0))), (a20, .inl (cI, (12, .inl fun _ => Int32.ofInt 0))), (a21, .inl (cI, (12, .inl fun _ => Int32.ofInt 0))), (a22, .inl (cI, (20, .inl fun _ => Int32.ofInt 0))), (a23, .inl (cI, (24, .inl fun _ => Int32.ofInt 0))), (a24, .inl (cI, (2, .inl fun _ => Int32.ofInt 0))), (a25, .inl (cJ, (2, .inr (.inl fun _ => Int64.ofInt 0)))), (a26, .inl (cJ, (2, .inr (.inl fun _ => Int64.ofInt 0)))), (a27, .inl (cI, (1010, .inl fun _ => Int32.ofInt 0))), (a28, .inl (cI, (10, .inl fun _ => Int32.ofInt 0))), (a29, .inl (cI, (1010, .inl fun _ => Int32.ofInt 0)))]) H := hP
  have hD : va_D A ((h0, .inr (8, [.int 0, .int 0, .ref a0, .ref a1, .ref a2, .ref a3, .ref a4, .ref a5, .ref a6, .int 0, .ref a7, .ref a8, .ref a9, .ref a10, .ref a11, .ref a12, .ref a13, .ref a14, .int 0, .int 0, .ref a15, .ref a16, .ref a17, .int 0, .ref a18, .ref a19, .ref a20, .ref a21, .ref a22, .ref a23, .ref a24, .ref a25, .ref a26, .ref a27, .ref a28, .ref a29, .null, .null, .null, .null, .null, .int 0, .int 0, .int 0])) :: [(a0, .inl (cZ, (10, .inl fun _ => Int32.ofInt 0))), (a1, .inl (cI, (10, .inl fun _ => Int32.ofInt 0))), (a2, .inl (cI, (10, .inl fun _ => Int32.ofInt 0))), (a3, .inl (cI, (10, .inl fun _ => Int32.ofInt 0))), (a4, .inl (cI, (10, .inl fun _ => Int32.ofInt 0))), (a5, .inl (cI, (10, .inl fun _ => Int32.ofInt 0))), (a6, .inl (cI, (100, .inl fun _ => Int32.ofInt 0))), (a7, .inl (cI, (12, .inl fun _ => Int32.ofInt 0))), (a8, .inl (cI, (12, .inl fun _ => Int32.ofInt 0))), (a9, .inl (cI, (12, .inl fun _ => Int32.ofInt 0))), (a10, .inl (cI, (12, .inl fun _ => Int32.ofInt 0))), (a11, .inl (cI, (12, .inl fun _ => Int32.ofInt 0))), (a12, .inl (cI, (12, .inl fun _ => Int32.ofInt 0))), (a13, .inl (cI, (12, .inl fun _ => Int32.ofInt 0))), (a14, .inl (cI, (1212, .inl fun _ => Int32.ofInt 0))), (a15, .inl (cI, (100, .inl fun _ => Int32.ofInt 0))), (a16, .inl (cI, (100, .inl fun _ => Int32.ofInt 0))), (a17, .inl (cI, (100, .inl fun _ => Int32.ofInt 0))), (a18, .inl (cI, (12, .inl fun _ => Int32.ofInt 0))), (a19, .inl (cI, (12, .inl fun _ => Int32.ofInt 0))), (a20, .inl (cI, (12, .inl fun _ => Int32.ofInt 0))), (a21, .inl (cI, (12, .inl fun _ => Int32.ofInt 0))), (a22, .inl (cI, (20, .inl fun _ => Int32.ofInt 0))), (a23, .inl (cI, (24, .inl fun _ => Int32.ofInt 0))), (a24, .inl (cI, (2, .inl fun _ => Int32.ofInt 0))), (a25, .inl (cJ, (2, .inr (.inl fun _ => Int64.ofInt 0)))), (a26, .inl (cJ, (2, .inr (.inl fun _ => Int64.ofInt 0)))), (a27, .inl (cI, (1010, .inl fun _ => Int32.ofInt 0))), (a28, .inl (cI, (10, .inl fun _ => Int32.ofInt 0))), (a29, .inl (cI, (1010, .inl fun _ => Int32.ofInt 0)))]) := hD
  refine lv_aload_n X.1 X.2.1 diX8_244 rfl (lv_at hl 0 rfl) ?_
  refine lv_sipush (v := Int32.ofInt 1212) X.1 X.2.1 diX8_245 bp_sipush_1212 ?_
  refine ct_arr (ty := .int) (cA := cI) (t0 := 0) (N := 1212) (a0 := (1212, .inl fun _ => Int32.ofInt 0)) (d := 787) (k := 36) X fc_8_36 tz_8_36.2.2.2 tz_8_36.1 tz_8_36.2.1 tz_8_36.2.2.1 rfl (by simp) rfl (at_in arI rfl) a0I sz_1212.1 sz_1212.2 cbI_1212 (by show _ ≤ (35 : Nat); omega) (by show _ ≤ (9136 : Nat); omega) hA diX8_248 diX8_250 (Nat.le_of_ble_eq_true rfl) hP hD hS (fun a30 H locs hP hD hS => ?_)
  have hP : va_P D cls9 ((h0, .inr (8, [.int 0, .int 0, .ref a0, .ref a1, .ref a2, .ref a3, .ref a4, .ref a5, .ref a6, .int 0, .ref a7, .ref a8, .ref a9, .ref a10, .ref a11, .ref a12, .ref a13, .ref a14, .int 0, .int 0, .ref a15, .ref a16, .ref a17, .int 0, .ref a18, .ref a19, .ref a20, .ref a21, .ref a22, .ref a23, .ref a24, .ref a25, .ref a26, .ref a27, .ref a28, .ref a29, .ref a30, .null, .null, .null, .null, .int 0, .int 0, .int 0])) :: [(a0, .inl (cZ, (10, .inl fun _ => Int32.ofInt 0))), (a1, .inl (cI, (10, .inl fun _ => Int32.ofInt 0))), (a2, .inl (cI, (10, .inl fun _ => Int32.ofInt 0))), (a3, .inl (cI, (10, .inl fun _ => Int32.ofInt 0))), (a4, .inl (cI, (10, .inl fun _ => Int32.ofInt 0))), (a5, .inl (cI, (10, .inl fun _ => Int32.ofInt 0))), (a6, .inl (cI, (100, .inl fun _ => Int32.ofInt 0))), (a7, .inl (cI, (12, .inl fun _ => Int32.ofInt 0))), (a8, .inl (cI, (12, .inl fun _ => Int32.ofInt 0))), (a9, .inl (cI, (12, .inl fun _ => Int32.ofInt 0))), (a10, .inl (cI, (12, .inl fun _ => Int32.ofInt 0))), (a11, .inl (cI, (12, .inl fun _ => Int32.ofInt 0))), (a12, .inl (cI, (12, .inl fun _ => Int32.ofInt 0))), (a13, .inl (cI, (12, .inl fun _ => Int32.ofInt 0))), (a14, .inl (cI, (1212, .inl fun _ => Int32.ofInt 0))), (a15, .inl (cI, (100, .inl fun _ => Int32.ofInt 0))), (a16, .inl (cI, (100, .inl fun _ => Int32.ofInt 0))), (a17, .inl (cI, (100, .inl fun _ => Int32.ofInt 0))), (a18, .inl (cI, (12, .inl fun _ => Int32.ofInt 0))), (a19, .inl (cI, (12, .inl fun _ => Int32.ofInt 0))), (a20, .inl (cI, (12, .inl fun _ => Int32.ofInt 0))), (a21, .inl (cI, (12, .inl fun _ => Int32.ofInt 0))), (a22, .inl (cI, (20, .inl fun _ => Int32.ofInt 0))), (a23, .inl (cI, (24, .inl fun _ => Int32.ofInt 0))), (a24, .inl (cI, (2, .inl fun _ => Int32.ofInt 0))), (a25, .inl (cJ, (2, .inr (.inl fun _ => Int64.ofInt 0)))), (a26, .inl (cJ, (2, .inr (.inl fun _ => Int64.ofInt 0)))), (a27, .inl (cI, (1010, .inl fun _ => Int32.ofInt 0))), (a28, .inl (cI, (10, .inl fun _ => Int32.ofInt 0))), (a29, .inl (cI, (1010, .inl fun _ => Int32.ofInt 0))), (a30, .inl (cI, (1212, .inl fun _ => Int32.ofInt 0)))]) H := hP
  have hD : va_D A ((h0, .inr (8, [.int 0, .int 0, .ref a0, .ref a1, .ref a2, .ref a3, .ref a4, .ref a5, .ref a6, .int 0, .ref a7, .ref a8, .ref a9, .ref a10, .ref a11, .ref a12, .ref a13, .ref a14, .int 0, .int 0, .ref a15, .ref a16, .ref a17, .int 0, .ref a18, .ref a19, .ref a20, .ref a21, .ref a22, .ref a23, .ref a24, .ref a25, .ref a26, .ref a27, .ref a28, .ref a29, .ref a30, .null, .null, .null, .null, .int 0, .int 0, .int 0])) :: [(a0, .inl (cZ, (10, .inl fun _ => Int32.ofInt 0))), (a1, .inl (cI, (10, .inl fun _ => Int32.ofInt 0))), (a2, .inl (cI, (10, .inl fun _ => Int32.ofInt 0))), (a3, .inl (cI, (10, .inl fun _ => Int32.ofInt 0))), (a4, .inl (cI, (10, .inl fun _ => Int32.ofInt 0))), (a5, .inl (cI, (10, .inl fun _ => Int32.ofInt 0))), (a6, .inl (cI, (100, .inl fun _ => Int32.ofInt 0))), (a7, .inl (cI, (12, .inl fun _ => Int32.ofInt 0))), (a8, .inl (cI, (12, .inl fun _ => Int32.ofInt 0))), (a9, .inl (cI, (12, .inl fun _ => Int32.ofInt 0))), (a10, .inl (cI, (12, .inl fun _ => Int32.ofInt 0))), (a11, .inl (cI, (12, .inl fun _ => Int32.ofInt 0))), (a12, .inl (cI, (12, .inl fun _ => Int32.ofInt 0))), (a13, .inl (cI, (12, .inl fun _ => Int32.ofInt 0))), (a14, .inl (cI, (1212, .inl fun _ => Int32.ofInt 0))), (a15, .inl (cI, (100, .inl fun _ => Int32.ofInt 0))), (a16, .inl (cI, (100, .inl fun _ => Int32.ofInt 0))), (a17, .inl (cI, (100, .inl fun _ => Int32.ofInt 0))), (a18, .inl (cI, (12, .inl fun _ => Int32.ofInt 0))), (a19, .inl (cI, (12, .inl fun _ => Int32.ofInt 0))), (a20, .inl (cI, (12, .inl fun _ => Int32.ofInt 0))), (a21, .inl (cI, (12, .inl fun _ => Int32.ofInt 0))), (a22, .inl (cI, (20, .inl fun _ => Int32.ofInt 0))), (a23, .inl (cI, (24, .inl fun _ => Int32.ofInt 0))), (a24, .inl (cI, (2, .inl fun _ => Int32.ofInt 0))), (a25, .inl (cJ, (2, .inr (.inl fun _ => Int64.ofInt 0)))), (a26, .inl (cJ, (2, .inr (.inl fun _ => Int64.ofInt 0)))), (a27, .inl (cI, (1010, .inl fun _ => Int32.ofInt 0))), (a28, .inl (cI, (10, .inl fun _ => Int32.ofInt 0))), (a29, .inl (cI, (1010, .inl fun _ => Int32.ofInt 0))), (a30, .inl (cI, (1212, .inl fun _ => Int32.ofInt 0)))]) := hD
  refine lv_aload_n X.1 X.2.1 diX8_253 rfl (lv_at hl 0 rfl) ?_
  refine lv_sipush (v := Int32.ofInt 1010) X.1 X.2.1 diX8_254 bp_sipush_1010 ?_
  refine ct_arr (ty := .boolean) (cA := cZ) (t0 := 1) (N := 1010) (a0 := (1010, .inl fun _ => Int32.ofInt 0)) (d := 788) (k := 37) X fc_8_37 tz_8_37.2.2.2 tz_8_37.1 tz_8_37.2.1 tz_8_37.2.2.1 rfl (by simp) rfl (at_in arZ rfl) a0Z sz_1010.1 sz_1010.2 cbZ_1010 (by show _ ≤ (35 : Nat); omega) (by show _ ≤ (9136 : Nat); omega) hA diX8_257 diX8_259 (Nat.le_of_ble_eq_true rfl) hP hD hS (fun a31 H locs hP hD hS => ?_)
  have hP : va_P D cls9 ((h0, .inr (8, [.int 0, .int 0, .ref a0, .ref a1, .ref a2, .ref a3, .ref a4, .ref a5, .ref a6, .int 0, .ref a7, .ref a8, .ref a9, .ref a10, .ref a11, .ref a12, .ref a13, .ref a14, .int 0, .int 0, .ref a15, .ref a16, .ref a17, .int 0, .ref a18, .ref a19, .ref a20, .ref a21, .ref a22, .ref a23, .ref a24, .ref a25, .ref a26, .ref a27, .ref a28, .ref a29, .ref a30, .ref a31, .null, .null, .null, .int 0, .int 0, .int 0])) :: [(a0, .inl (cZ, (10, .inl fun _ => Int32.ofInt 0))), (a1, .inl (cI, (10, .inl fun _ => Int32.ofInt 0))), (a2, .inl (cI, (10, .inl fun _ => Int32.ofInt 0))), (a3, .inl (cI, (10, .inl fun _ => Int32.ofInt 0))), (a4, .inl (cI, (10, .inl fun _ => Int32.ofInt 0))), (a5, .inl (cI, (10, .inl fun _ => Int32.ofInt 0))), (a6, .inl (cI, (100, .inl fun _ => Int32.ofInt 0))), (a7, .inl (cI, (12, .inl fun _ => Int32.ofInt 0))), (a8, .inl (cI, (12, .inl fun _ => Int32.ofInt 0))), (a9, .inl (cI, (12, .inl fun _ => Int32.ofInt 0))), (a10, .inl (cI, (12, .inl fun _ => Int32.ofInt 0))), (a11, .inl (cI, (12, .inl fun _ => Int32.ofInt 0))), (a12, .inl (cI, (12, .inl fun _ => Int32.ofInt 0))), (a13, .inl (cI, (12, .inl fun _ => Int32.ofInt 0))), (a14, .inl (cI, (1212, .inl fun _ => Int32.ofInt 0))), (a15, .inl (cI, (100, .inl fun _ => Int32.ofInt 0))), (a16, .inl (cI, (100, .inl fun _ => Int32.ofInt 0))), (a17, .inl (cI, (100, .inl fun _ => Int32.ofInt 0))), (a18, .inl (cI, (12, .inl fun _ => Int32.ofInt 0))), (a19, .inl (cI, (12, .inl fun _ => Int32.ofInt 0))), (a20, .inl (cI, (12, .inl fun _ => Int32.ofInt 0))), (a21, .inl (cI, (12, .inl fun _ => Int32.ofInt 0))), (a22, .inl (cI, (20, .inl fun _ => Int32.ofInt 0))), (a23, .inl (cI, (24, .inl fun _ => Int32.ofInt 0))), (a24, .inl (cI, (2, .inl fun _ => Int32.ofInt 0))), (a25, .inl (cJ, (2, .inr (.inl fun _ => Int64.ofInt 0)))), (a26, .inl (cJ, (2, .inr (.inl fun _ => Int64.ofInt 0)))), (a27, .inl (cI, (1010, .inl fun _ => Int32.ofInt 0))), (a28, .inl (cI, (10, .inl fun _ => Int32.ofInt 0))), (a29, .inl (cI, (1010, .inl fun _ => Int32.ofInt 0))), (a30, .inl (cI, (1212, .inl fun _ => Int32.ofInt 0))), (a31, .inl (cZ, (1010, .inl fun _ => Int32.ofInt 0)))]) H := hP
  have hD : va_D A ((h0, .inr (8, [.int 0, .int 0, .ref a0, .ref a1, .ref a2, .ref a3, .ref a4, .ref a5, .ref a6, .int 0, .ref a7, .ref a8, .ref a9, .ref a10, .ref a11, .ref a12, .ref a13, .ref a14, .int 0, .int 0, .ref a15, .ref a16, .ref a17, .int 0, .ref a18, .ref a19, .ref a20, .ref a21, .ref a22, .ref a23, .ref a24, .ref a25, .ref a26, .ref a27, .ref a28, .ref a29, .ref a30, .ref a31, .null, .null, .null, .int 0, .int 0, .int 0])) :: [(a0, .inl (cZ, (10, .inl fun _ => Int32.ofInt 0))), (a1, .inl (cI, (10, .inl fun _ => Int32.ofInt 0))), (a2, .inl (cI, (10, .inl fun _ => Int32.ofInt 0))), (a3, .inl (cI, (10, .inl fun _ => Int32.ofInt 0))), (a4, .inl (cI, (10, .inl fun _ => Int32.ofInt 0))), (a5, .inl (cI, (10, .inl fun _ => Int32.ofInt 0))), (a6, .inl (cI, (100, .inl fun _ => Int32.ofInt 0))), (a7, .inl (cI, (12, .inl fun _ => Int32.ofInt 0))), (a8, .inl (cI, (12, .inl fun _ => Int32.ofInt 0))), (a9, .inl (cI, (12, .inl fun _ => Int32.ofInt 0))), (a10, .inl (cI, (12, .inl fun _ => Int32.ofInt 0))), (a11, .inl (cI, (12, .inl fun _ => Int32.ofInt 0))), (a12, .inl (cI, (12, .inl fun _ => Int32.ofInt 0))), (a13, .inl (cI, (12, .inl fun _ => Int32.ofInt 0))), (a14, .inl (cI, (1212, .inl fun _ => Int32.ofInt 0))), (a15, .inl (cI, (100, .inl fun _ => Int32.ofInt 0))), (a16, .inl (cI, (100, .inl fun _ => Int32.ofInt 0))), (a17, .inl (cI, (100, .inl fun _ => Int32.ofInt 0))), (a18, .inl (cI, (12, .inl fun _ => Int32.ofInt 0))), (a19, .inl (cI, (12, .inl fun _ => Int32.ofInt 0))), (a20, .inl (cI, (12, .inl fun _ => Int32.ofInt 0))), (a21, .inl (cI, (12, .inl fun _ => Int32.ofInt 0))), (a22, .inl (cI, (20, .inl fun _ => Int32.ofInt 0))), (a23, .inl (cI, (24, .inl fun _ => Int32.ofInt 0))), (a24, .inl (cI, (2, .inl fun _ => Int32.ofInt 0))), (a25, .inl (cJ, (2, .inr (.inl fun _ => Int64.ofInt 0)))), (a26, .inl (cJ, (2, .inr (.inl fun _ => Int64.ofInt 0)))), (a27, .inl (cI, (1010, .inl fun _ => Int32.ofInt 0))), (a28, .inl (cI, (10, .inl fun _ => Int32.ofInt 0))), (a29, .inl (cI, (1010, .inl fun _ => Int32.ofInt 0))), (a30, .inl (cI, (1212, .inl fun _ => Int32.ofInt 0))), (a31, .inl (cZ, (1010, .inl fun _ => Int32.ofInt 0)))]) := hD
  refine lv_aload_n X.1 X.2.1 diX8_262 rfl (lv_at hl 0 rfl) ?_
  refine lv_sipush (v := Int32.ofInt 1010) X.1 X.2.1 diX8_263 bp_sipush_1010 ?_
  refine ct_arr (ty := .int) (cA := cI) (t0 := 0) (N := 1010) (a0 := (1010, .inl fun _ => Int32.ofInt 0)) (d := 789) (k := 38) X fc_8_38 tz_8_38.2.2.2 tz_8_38.1 tz_8_38.2.1 tz_8_38.2.2.1 rfl (by simp) rfl (at_in arI rfl) a0I sz_1010.1 sz_1010.2 cbI_1010 (by show _ ≤ (35 : Nat); omega) (by show _ ≤ (9136 : Nat); omega) hA diX8_266 diX8_268 (Nat.le_of_ble_eq_true rfl) hP hD hS (fun a32 H locs hP hD hS => ?_)
  have hP : va_P D cls9 ((h0, .inr (8, [.int 0, .int 0, .ref a0, .ref a1, .ref a2, .ref a3, .ref a4, .ref a5, .ref a6, .int 0, .ref a7, .ref a8, .ref a9, .ref a10, .ref a11, .ref a12, .ref a13, .ref a14, .int 0, .int 0, .ref a15, .ref a16, .ref a17, .int 0, .ref a18, .ref a19, .ref a20, .ref a21, .ref a22, .ref a23, .ref a24, .ref a25, .ref a26, .ref a27, .ref a28, .ref a29, .ref a30, .ref a31, .ref a32, .null, .null, .int 0, .int 0, .int 0])) :: [(a0, .inl (cZ, (10, .inl fun _ => Int32.ofInt 0))), (a1, .inl (cI, (10, .inl fun _ => Int32.ofInt 0))), (a2, .inl (cI, (10, .inl fun _ => Int32.ofInt 0))), (a3, .inl (cI, (10, .inl fun _ => Int32.ofInt 0))), (a4, .inl (cI, (10, .inl fun _ => Int32.ofInt 0))), (a5, .inl (cI, (10, .inl fun _ => Int32.ofInt 0))), (a6, .inl (cI, (100, .inl fun _ => Int32.ofInt 0))), (a7, .inl (cI, (12, .inl fun _ => Int32.ofInt 0))), (a8, .inl (cI, (12, .inl fun _ => Int32.ofInt 0))), (a9, .inl (cI, (12, .inl fun _ => Int32.ofInt 0))), (a10, .inl (cI, (12, .inl fun _ => Int32.ofInt 0))), (a11, .inl (cI, (12, .inl fun _ => Int32.ofInt 0))), (a12, .inl (cI, (12, .inl fun _ => Int32.ofInt 0))), (a13, .inl (cI, (12, .inl fun _ => Int32.ofInt 0))), (a14, .inl (cI, (1212, .inl fun _ => Int32.ofInt 0))), (a15, .inl (cI, (100, .inl fun _ => Int32.ofInt 0))), (a16, .inl (cI, (100, .inl fun _ => Int32.ofInt 0))), (a17, .inl (cI, (100, .inl fun _ => Int32.ofInt 0))), (a18, .inl (cI, (12, .inl fun _ => Int32.ofInt 0))), (a19, .inl (cI, (12, .inl fun _ => Int32.ofInt 0))), (a20, .inl (cI, (12, .inl fun _ => Int32.ofInt 0))), (a21, .inl (cI, (12, .inl fun _ => Int32.ofInt 0))), (a22, .inl (cI, (20, .inl fun _ => Int32.ofInt 0))), (a23, .inl (cI, (24, .inl fun _ => Int32.ofInt 0))), (a24, .inl (cI, (2, .inl fun _ => Int32.ofInt 0))), (a25, .inl (cJ, (2, .inr (.inl fun _ => Int64.ofInt 0)))), (a26, .inl (cJ, (2, .inr (.inl fun _ => Int64.ofInt 0)))), (a27, .inl (cI, (1010, .inl fun _ => Int32.ofInt 0))), (a28, .inl (cI, (10, .inl fun _ => Int32.ofInt 0))), (a29, .inl (cI, (1010, .inl fun _ => Int32.ofInt 0))), (a30, .inl (cI, (1212, .inl fun _ => Int32.ofInt 0))), (a31, .inl (cZ, (1010, .inl fun _ => Int32.ofInt 0))), (a32, .inl (cI, (1010, .inl fun _ => Int32.ofInt 0)))]) H := hP
  have hD : va_D A ((h0, .inr (8, [.int 0, .int 0, .ref a0, .ref a1, .ref a2, .ref a3, .ref a4, .ref a5, .ref a6, .int 0, .ref a7, .ref a8, .ref a9, .ref a10, .ref a11, .ref a12, .ref a13, .ref a14, .int 0, .int 0, .ref a15, .ref a16, .ref a17, .int 0, .ref a18, .ref a19, .ref a20, .ref a21, .ref a22, .ref a23, .ref a24, .ref a25, .ref a26, .ref a27, .ref a28, .ref a29, .ref a30, .ref a31, .ref a32, .null, .null, .int 0, .int 0, .int 0])) :: [(a0, .inl (cZ, (10, .inl fun _ => Int32.ofInt 0))), (a1, .inl (cI, (10, .inl fun _ => Int32.ofInt 0))), (a2, .inl (cI, (10, .inl fun _ => Int32.ofInt 0))), (a3, .inl (cI, (10, .inl fun _ => Int32.ofInt 0))), (a4, .inl (cI, (10, .inl fun _ => Int32.ofInt 0))), (a5, .inl (cI, (10, .inl fun _ => Int32.ofInt 0))), (a6, .inl (cI, (100, .inl fun _ => Int32.ofInt 0))), (a7, .inl (cI, (12, .inl fun _ => Int32.ofInt 0))), (a8, .inl (cI, (12, .inl fun _ => Int32.ofInt 0))), (a9, .inl (cI, (12, .inl fun _ => Int32.ofInt 0))), (a10, .inl (cI, (12, .inl fun _ => Int32.ofInt 0))), (a11, .inl (cI, (12, .inl fun _ => Int32.ofInt 0))), (a12, .inl (cI, (12, .inl fun _ => Int32.ofInt 0))), (a13, .inl (cI, (12, .inl fun _ => Int32.ofInt 0))), (a14, .inl (cI, (1212, .inl fun _ => Int32.ofInt 0))), (a15, .inl (cI, (100, .inl fun _ => Int32.ofInt 0))), (a16, .inl (cI, (100, .inl fun _ => Int32.ofInt 0))), (a17, .inl (cI, (100, .inl fun _ => Int32.ofInt 0))), (a18, .inl (cI, (12, .inl fun _ => Int32.ofInt 0))), (a19, .inl (cI, (12, .inl fun _ => Int32.ofInt 0))), (a20, .inl (cI, (12, .inl fun _ => Int32.ofInt 0))), (a21, .inl (cI, (12, .inl fun _ => Int32.ofInt 0))), (a22, .inl (cI, (20, .inl fun _ => Int32.ofInt 0))), (a23, .inl (cI, (24, .inl fun _ => Int32.ofInt 0))), (a24, .inl (cI, (2, .inl fun _ => Int32.ofInt 0))), (a25, .inl (cJ, (2, .inr (.inl fun _ => Int64.ofInt 0)))), (a26, .inl (cJ, (2, .inr (.inl fun _ => Int64.ofInt 0)))), (a27, .inl (cI, (1010, .inl fun _ => Int32.ofInt 0))), (a28, .inl (cI, (10, .inl fun _ => Int32.ofInt 0))), (a29, .inl (cI, (1010, .inl fun _ => Int32.ofInt 0))), (a30, .inl (cI, (1212, .inl fun _ => Int32.ofInt 0))), (a31, .inl (cZ, (1010, .inl fun _ => Int32.ofInt 0))), (a32, .inl (cI, (1010, .inl fun _ => Int32.ofInt 0)))]) := hD
  refine lv_aload_n X.1 X.2.1 diX8_271 rfl (lv_at hl 0 rfl) ?_
  refine lv_sipush (v := Int32.ofInt 1010) X.1 X.2.1 diX8_272 bp_sipush_1010 ?_
  refine ct_arr (ty := .int) (cA := cI) (t0 := 0) (N := 1010) (a0 := (1010, .inl fun _ => Int32.ofInt 0)) (d := 790) (k := 39) X fc_8_39 tz_8_39.2.2.2 tz_8_39.1 tz_8_39.2.1 tz_8_39.2.2.1 rfl (by simp) rfl (at_in arI rfl) a0I sz_1010.1 sz_1010.2 cbI_1010 (by show _ ≤ (35 : Nat); omega) (by show _ ≤ (9136 : Nat); omega) hA diX8_275 diX8_277 (Nat.le_of_ble_eq_true rfl) hP hD hS (fun a33 H locs hP hD hS => ?_)
  have hP : va_P D cls9 ((h0, .inr (8, [.int 0, .int 0, .ref a0, .ref a1, .ref a2, .ref a3, .ref a4, .ref a5, .ref a6, .int 0, .ref a7, .ref a8, .ref a9, .ref a10, .ref a11, .ref a12, .ref a13, .ref a14, .int 0, .int 0, .ref a15, .ref a16, .ref a17, .int 0, .ref a18, .ref a19, .ref a20, .ref a21, .ref a22, .ref a23, .ref a24, .ref a25, .ref a26, .ref a27, .ref a28, .ref a29, .ref a30, .ref a31, .ref a32, .ref a33, .null, .int 0, .int 0, .int 0])) :: [(a0, .inl (cZ, (10, .inl fun _ => Int32.ofInt 0))), (a1, .inl (cI, (10, .inl fun _ => Int32.ofInt 0))), (a2, .inl (cI, (10, .inl fun _ => Int32.ofInt 0))), (a3, .inl (cI, (10, .inl fun _ => Int32.ofInt 0))), (a4, .inl (cI, (10, .inl fun _ => Int32.ofInt 0))), (a5, .inl (cI, (10, .inl fun _ => Int32.ofInt 0))), (a6, .inl (cI, (100, .inl fun _ => Int32.ofInt 0))), (a7, .inl (cI, (12, .inl fun _ => Int32.ofInt 0))), (a8, .inl (cI, (12, .inl fun _ => Int32.ofInt 0))), (a9, .inl (cI, (12, .inl fun _ => Int32.ofInt 0))), (a10, .inl (cI, (12, .inl fun _ => Int32.ofInt 0))), (a11, .inl (cI, (12, .inl fun _ => Int32.ofInt 0))), (a12, .inl (cI, (12, .inl fun _ => Int32.ofInt 0))), (a13, .inl (cI, (12, .inl fun _ => Int32.ofInt 0))), (a14, .inl (cI, (1212, .inl fun _ => Int32.ofInt 0))), (a15, .inl (cI, (100, .inl fun _ => Int32.ofInt 0))), (a16, .inl (cI, (100, .inl fun _ => Int32.ofInt 0))), (a17, .inl (cI, (100, .inl fun _ => Int32.ofInt 0))), (a18, .inl (cI, (12, .inl fun _ => Int32.ofInt 0))), (a19, .inl (cI, (12, .inl fun _ => Int32.ofInt 0))), (a20, .inl (cI, (12, .inl fun _ => Int32.ofInt 0))), (a21, .inl (cI, (12, .inl fun _ => Int32.ofInt 0))), (a22, .inl (cI, (20, .inl fun _ => Int32.ofInt 0))), (a23, .inl (cI, (24, .inl fun _ => Int32.ofInt 0))), (a24, .inl (cI, (2, .inl fun _ => Int32.ofInt 0))), (a25, .inl (cJ, (2, .inr (.inl fun _ => Int64.ofInt 0)))), (a26, .inl (cJ, (2, .inr (.inl fun _ => Int64.ofInt 0)))), (a27, .inl (cI, (1010, .inl fun _ => Int32.ofInt 0))), (a28, .inl (cI, (10, .inl fun _ => Int32.ofInt 0))), (a29, .inl (cI, (1010, .inl fun _ => Int32.ofInt 0))), (a30, .inl (cI, (1212, .inl fun _ => Int32.ofInt 0))), (a31, .inl (cZ, (1010, .inl fun _ => Int32.ofInt 0))), (a32, .inl (cI, (1010, .inl fun _ => Int32.ofInt 0))), (a33, .inl (cI, (1010, .inl fun _ => Int32.ofInt 0)))]) H := hP
  have hD : va_D A ((h0, .inr (8, [.int 0, .int 0, .ref a0, .ref a1, .ref a2, .ref a3, .ref a4, .ref a5, .ref a6, .int 0, .ref a7, .ref a8, .ref a9, .ref a10, .ref a11, .ref a12, .ref a13, .ref a14, .int 0, .int 0, .ref a15, .ref a16, .ref a17, .int 0, .ref a18, .ref a19, .ref a20, .ref a21, .ref a22, .ref a23, .ref a24, .ref a25, .ref a26, .ref a27, .ref a28, .ref a29, .ref a30, .ref a31, .ref a32, .ref a33, .null, .int 0, .int 0, .int 0])) :: [(a0, .inl (cZ, (10, .inl fun _ => Int32.ofInt 0))), (a1, .inl (cI, (10, .inl fun _ => Int32.ofInt 0))), (a2, .inl (cI, (10, .inl fun _ => Int32.ofInt 0))), (a3, .inl (cI, (10, .inl fun _ => Int32.ofInt 0))), (a4, .inl (cI, (10, .inl fun _ => Int32.ofInt 0))), (a5, .inl (cI, (10, .inl fun _ => Int32.ofInt 0))), (a6, .inl (cI, (100, .inl fun _ => Int32.ofInt 0))), (a7, .inl (cI, (12, .inl fun _ => Int32.ofInt 0))), (a8, .inl (cI, (12, .inl fun _ => Int32.ofInt 0))), (a9, .inl (cI, (12, .inl fun _ => Int32.ofInt 0))), (a10, .inl (cI, (12, .inl fun _ => Int32.ofInt 0))), (a11, .inl (cI, (12, .inl fun _ => Int32.ofInt 0))), (a12, .inl (cI, (12, .inl fun _ => Int32.ofInt 0))), (a13, .inl (cI, (12, .inl fun _ => Int32.ofInt 0))), (a14, .inl (cI, (1212, .inl fun _ => Int32.ofInt 0))), (a15, .inl (cI, (100, .inl fun _ => Int32.ofInt 0))), (a16, .inl (cI, (100, .inl fun _ => Int32.ofInt 0))), (a17, .inl (cI, (100, .inl fun _ => Int32.ofInt 0))), (a18, .inl (cI, (12, .inl fun _ => Int32.ofInt 0))), (a19, .inl (cI, (12, .inl fun _ => Int32.ofInt 0))), (a20, .inl (cI, (12, .inl fun _ => Int32.ofInt 0))), (a21, .inl (cI, (12, .inl fun _ => Int32.ofInt 0))), (a22, .inl (cI, (20, .inl fun _ => Int32.ofInt 0))), (a23, .inl (cI, (24, .inl fun _ => Int32.ofInt 0))), (a24, .inl (cI, (2, .inl fun _ => Int32.ofInt 0))), (a25, .inl (cJ, (2, .inr (.inl fun _ => Int64.ofInt 0)))), (a26, .inl (cJ, (2, .inr (.inl fun _ => Int64.ofInt 0)))), (a27, .inl (cI, (1010, .inl fun _ => Int32.ofInt 0))), (a28, .inl (cI, (10, .inl fun _ => Int32.ofInt 0))), (a29, .inl (cI, (1010, .inl fun _ => Int32.ofInt 0))), (a30, .inl (cI, (1212, .inl fun _ => Int32.ofInt 0))), (a31, .inl (cZ, (1010, .inl fun _ => Int32.ofInt 0))), (a32, .inl (cI, (1010, .inl fun _ => Int32.ofInt 0))), (a33, .inl (cI, (1010, .inl fun _ => Int32.ofInt 0)))]) := hD
  refine lv_aload_n X.1 X.2.1 diX8_280 rfl (lv_at hl 0 rfl) ?_
  refine lv_sipush (v := Int32.ofInt 1010) X.1 X.2.1 diX8_281 bp_sipush_1010 ?_
  refine ct_arr (ty := .int) (cA := cI) (t0 := 0) (N := 1010) (a0 := (1010, .inl fun _ => Int32.ofInt 0)) (d := 791) (k := 40) X fc_8_40 tz_8_40.2.2.2 tz_8_40.1 tz_8_40.2.1 tz_8_40.2.2.1 rfl (by simp) rfl (at_in arI rfl) a0I sz_1010.1 sz_1010.2 cbI_1010 (by show _ ≤ (35 : Nat); omega) (by show _ ≤ (9136 : Nat); omega) hA diX8_284 diX8_286 (Nat.le_of_ble_eq_true rfl) hP hD hS (fun a34 H locs hP hD hS => ?_)
  have hP : va_P D cls9 ((h0, .inr (8, [.int 0, .int 0, .ref a0, .ref a1, .ref a2, .ref a3, .ref a4, .ref a5, .ref a6, .int 0, .ref a7, .ref a8, .ref a9, .ref a10, .ref a11, .ref a12, .ref a13, .ref a14, .int 0, .int 0, .ref a15, .ref a16, .ref a17, .int 0, .ref a18, .ref a19, .ref a20, .ref a21, .ref a22, .ref a23, .ref a24, .ref a25, .ref a26, .ref a27, .ref a28, .ref a29, .ref a30, .ref a31, .ref a32, .ref a33, .ref a34, .int 0, .int 0, .int 0])) :: [(a0, .inl (cZ, (10, .inl fun _ => Int32.ofInt 0))), (a1, .inl (cI, (10, .inl fun _ => Int32.ofInt 0))), (a2, .inl (cI, (10, .inl fun _ => Int32.ofInt 0))), (a3, .inl (cI, (10, .inl fun _ => Int32.ofInt 0))), (a4, .inl (cI, (10, .inl fun _ => Int32.ofInt 0))), (a5, .inl (cI, (10, .inl fun _ => Int32.ofInt 0))), (a6, .inl (cI, (100, .inl fun _ => Int32.ofInt 0))), (a7, .inl (cI, (12, .inl fun _ => Int32.ofInt 0))), (a8, .inl (cI, (12, .inl fun _ => Int32.ofInt 0))), (a9, .inl (cI, (12, .inl fun _ => Int32.ofInt 0))), (a10, .inl (cI, (12, .inl fun _ => Int32.ofInt 0))), (a11, .inl (cI, (12, .inl fun _ => Int32.ofInt 0))), (a12, .inl (cI, (12, .inl fun _ => Int32.ofInt 0))), (a13, .inl (cI, (12, .inl fun _ => Int32.ofInt 0))), (a14, .inl (cI, (1212, .inl fun _ => Int32.ofInt 0))), (a15, .inl (cI, (100, .inl fun _ => Int32.ofInt 0))), (a16, .inl (cI, (100, .inl fun _ => Int32.ofInt 0))), (a17, .inl (cI, (100, .inl fun _ => Int32.ofInt 0))), (a18, .inl (cI, (12, .inl fun _ => Int32.ofInt 0))), (a19, .inl (cI, (12, .inl fun _ => Int32.ofInt 0))), (a20, .inl (cI, (12, .inl fun _ => Int32.ofInt 0))), (a21, .inl (cI, (12, .inl fun _ => Int32.ofInt 0))), (a22, .inl (cI, (20, .inl fun _ => Int32.ofInt 0))), (a23, .inl (cI, (24, .inl fun _ => Int32.ofInt 0))), (a24, .inl (cI, (2, .inl fun _ => Int32.ofInt 0))), (a25, .inl (cJ, (2, .inr (.inl fun _ => Int64.ofInt 0)))), (a26, .inl (cJ, (2, .inr (.inl fun _ => Int64.ofInt 0)))), (a27, .inl (cI, (1010, .inl fun _ => Int32.ofInt 0))), (a28, .inl (cI, (10, .inl fun _ => Int32.ofInt 0))), (a29, .inl (cI, (1010, .inl fun _ => Int32.ofInt 0))), (a30, .inl (cI, (1212, .inl fun _ => Int32.ofInt 0))), (a31, .inl (cZ, (1010, .inl fun _ => Int32.ofInt 0))), (a32, .inl (cI, (1010, .inl fun _ => Int32.ofInt 0))), (a33, .inl (cI, (1010, .inl fun _ => Int32.ofInt 0))), (a34, .inl (cI, (1010, .inl fun _ => Int32.ofInt 0)))]) H := hP
  have hD : va_D A ((h0, .inr (8, [.int 0, .int 0, .ref a0, .ref a1, .ref a2, .ref a3, .ref a4, .ref a5, .ref a6, .int 0, .ref a7, .ref a8, .ref a9, .ref a10, .ref a11, .ref a12, .ref a13, .ref a14, .int 0, .int 0, .ref a15, .ref a16, .ref a17, .int 0, .ref a18, .ref a19, .ref a20, .ref a21, .ref a22, .ref a23, .ref a24, .ref a25, .ref a26, .ref a27, .ref a28, .ref a29, .ref a30, .ref a31, .ref a32, .ref a33, .ref a34, .int 0, .int 0, .int 0])) :: [(a0, .inl (cZ, (10, .inl fun _ => Int32.ofInt 0))), (a1, .inl (cI, (10, .inl fun _ => Int32.ofInt 0))), (a2, .inl (cI, (10, .inl fun _ => Int32.ofInt 0))), (a3, .inl (cI, (10, .inl fun _ => Int32.ofInt 0))), (a4, .inl (cI, (10, .inl fun _ => Int32.ofInt 0))), (a5, .inl (cI, (10, .inl fun _ => Int32.ofInt 0))), (a6, .inl (cI, (100, .inl fun _ => Int32.ofInt 0))), (a7, .inl (cI, (12, .inl fun _ => Int32.ofInt 0))), (a8, .inl (cI, (12, .inl fun _ => Int32.ofInt 0))), (a9, .inl (cI, (12, .inl fun _ => Int32.ofInt 0))), (a10, .inl (cI, (12, .inl fun _ => Int32.ofInt 0))), (a11, .inl (cI, (12, .inl fun _ => Int32.ofInt 0))), (a12, .inl (cI, (12, .inl fun _ => Int32.ofInt 0))), (a13, .inl (cI, (12, .inl fun _ => Int32.ofInt 0))), (a14, .inl (cI, (1212, .inl fun _ => Int32.ofInt 0))), (a15, .inl (cI, (100, .inl fun _ => Int32.ofInt 0))), (a16, .inl (cI, (100, .inl fun _ => Int32.ofInt 0))), (a17, .inl (cI, (100, .inl fun _ => Int32.ofInt 0))), (a18, .inl (cI, (12, .inl fun _ => Int32.ofInt 0))), (a19, .inl (cI, (12, .inl fun _ => Int32.ofInt 0))), (a20, .inl (cI, (12, .inl fun _ => Int32.ofInt 0))), (a21, .inl (cI, (12, .inl fun _ => Int32.ofInt 0))), (a22, .inl (cI, (20, .inl fun _ => Int32.ofInt 0))), (a23, .inl (cI, (24, .inl fun _ => Int32.ofInt 0))), (a24, .inl (cI, (2, .inl fun _ => Int32.ofInt 0))), (a25, .inl (cJ, (2, .inr (.inl fun _ => Int64.ofInt 0)))), (a26, .inl (cJ, (2, .inr (.inl fun _ => Int64.ofInt 0)))), (a27, .inl (cI, (1010, .inl fun _ => Int32.ofInt 0))), (a28, .inl (cI, (10, .inl fun _ => Int32.ofInt 0))), (a29, .inl (cI, (1010, .inl fun _ => Int32.ofInt 0))), (a30, .inl (cI, (1212, .inl fun _ => Int32.ofInt 0))), (a31, .inl (cZ, (1010, .inl fun _ => Int32.ofInt 0))), (a32, .inl (cI, (1010, .inl fun _ => Int32.ofInt 0))), (a33, .inl (cI, (1010, .inl fun _ => Int32.ofInt 0))), (a34, .inl (cI, (1010, .inl fun _ => Int32.ofInt 0)))]) := hD
  have hP9 : va_P D cls9 (wc8 cI cZ cJ h0 (fun i => nt 0 [a0, a1, a2, a3, a4, a5, a6, a7, a8, a9, a10, a11, a12, a13, a14, a15, a16, a17, a18, a19, a20, a21, a22, a23, a24, a25, a26, a27, a28, a29, a30, a31, a32, a33, a34] i)) H := hP
  have hD9 : va_D A (wc8 cI cZ cJ h0 (fun i => nt 0 [a0, a1, a2, a3, a4, a5, a6, a7, a8, a9, a10, a11, a12, a13, a14, a15, a16, a17, a18, a19, a20, a21, a22, a23, a24, a25, a26, a27, a28, a29, a30, a31, a32, a33, a34] i)) := hD
  refine W.widen (k := 35) (n := 9136) (by omega) (by omega) ?_
  exact W.vret X.1 X.2.1 hr (fun t ht _ => ⟨⟨(fun i => nt 0 [a0, a1, a2, a3, a4, a5, a6, a7, a8, a9, a10, a11, a12, a13, a14, a15, a16, a17, a18, a19, a20, a21, a22, a23, a24, a25, a26, a27, a28, a29, a30, a31, a32, a33, a34] i), rfl, trivial, (by rw [← ht] at hP9; exact hP9), (by rw [hAe]; exact hD9)⟩, by rw [hAe]; exact hS.F ht⟩) hS.2.2 diX8_289
end
section
def wc7 (cI cZ cJ : ClassId) (h0 : Nat) (u : Nat → Nat) : va_W := (h0, .inr (7, [.ref (u 0), .ref (u 9), .ref (u 18), .ref (u 27), .ref (u 31), .ref (u 34), .ref (u 39), .int (Int32.ofInt 0)])) :: (((((((([] : va_W) ++ (wc0 cI cZ cJ (u 0) (fun i => u (i + 1)))) ++ (wc1 cI cZ cJ (u 9) (fun i => u (i + 10)))) ++ (wc6 cI cZ cJ (u 18) (fun i => u (i + 19)))) ++ (wc5 cI cZ cJ (u 27) (fun i => u (i + 28)))) ++ (wc3 cI cZ cJ (u 31) (fun i => u (i + 32)))) ++ (wc4 cI cZ cJ (u 34) (fun i => u (i + 35)))) ++ (wc2 cI cZ cJ (u 39) (fun i => u (i + 40))))
set_option maxHeartbeats 40000000 in
theorem mi7 (l : Launch) (D : va_G) (cI cZ cJ : ClassId) (h0 sz : Nat) : Met l yX7_init (Cond.code yX7_init cX7_init 1 none :: lw_ok) { frames := 3, cells := 49, slots := 10742, locals := 52 } (Pci D cI cZ cJ h0 sz (.inr (7, [.null, .null, .null, .null, .null, .null, .null, .int 0]))) (Qci D h0 sz (.inr (7, [.null, .null, .null, .null, .null, .null, .null, .int 0])) (wc7 cI cZ cJ)) 49 10742 (va_A [(h0, (.inr (7, [.null, .null, .null, .null, .null, .null, .null, .int 0])))] sz) := by
  refine Met.ofW (cc := cX7_init) (maxL := 1) (ret := none) (by decide) rfl ?_
  intro p e s m args below meth c s₁ B hml hv
  obtain ⟨rfl, hsz, hP, hK, hD0, hns⟩ := hv
  have hr := B.returns
  have hlocks := B.notSynchronized
  have hts := atoms_spec (ws := Cond.code yX7_init cX7_init 1 none :: lw_ok) B.pre
  have X : Cy p s m _ meth c D cI cZ cJ cX7_init 7 := ⟨B.exec, B.bytes, hml, findClass_of_methodNamed B.named, fun w hw => hts w (List.mem_cons_of_mem _ hw), hK, (name_of_methodNamed B.named B.method).1, by decide, hns⟩
  subst hsz
  have hD := hD0.self (sz := s.heap.size)
  generalize hAe : va_A [(h0, (.inr (7, [.null, .null, .null, .null, .null, .null, .null, .int 0]) : va_E))] s.heap.size = A at hD ⊢
  have hA : ∀ q : Nat, s.heap.size ≤ q → A q := fun q h => by rw [← hAe]; exact Or.inr h
  have hS : va_S A s.heap s.heap [] := va_S.rf
  have hl := lv_entry ([.ref h0]) (n := 1) (Nat.le_of_ble_eq_true rfl)
  rw [lg_entry_eq]
  generalize (lg_sl ([.ref h0]) ++ List.replicate (1 - (lg_sl ([.ref h0])).length) Slot.unset).toArray = ls at hl ⊢
  have hl : lv_has ls 1 [(0, .ref h0)] := hl
  refine lv_aload_n X.1 X.2.1 diX7_0 rfl (lv_at hl 0 rfl) ?_
  refine ct_obj (d := 67) X (by decide) hl.1 ⟨Nat.le_of_ble_eq_true rfl, Nat.le_of_ble_eq_true rfl⟩ diX7_1 ?_
  refine lv_aload_n X.1 X.2.1 diX7_4 rfl (lv_at hl 0 rfl) ?_
  refine ct_sub (cj := 0) (k := 0) (d := 355) (N := 10) (fs0 := [.null, .null, .null, .null, .null, .null, .null, .null, .int 0, .int 0]) X (fun q sz => mi0 l D cI cZ cJ q sz) (by decide) rfl (fun j hj => (by decide : ∀ j, j < 10 → defaultValue (clY 0 j) = vp_V [.null, .null, .null, .null, .null, .null, .null, .null, .int 0, .int 0] j) j hj) (at_in (i := 70) (by decide +kernel) rfl) (at_in (i := 71) (by decide +kernel) rfl) (by first | exact in_in (z := 1) (by decide)) (at_in cow_iX0 rfl) (at_in (i := 73) (by decide +kernel) rfl) (by decide +kernel) (by decide) (List.mem_of_getElem? (i := 59) rfl) (by decide) rfl rfl rfl ⟨Nat.le_of_ble_eq_true rfl, Nat.le_of_ble_eq_true rfl⟩ (by show _ ≤ (49 : Nat); omega) (by show _ ≤ (10742 : Nat); omega) hA hl.1 diX7_5 diX7_8 diX7_9 diX7_12 (Nat.le_of_ble_eq_true rfl) hP hD hS (fun a0 u5 H locs hP hD hS => ?_)
  refine lv_aload_n X.1 X.2.1 diX7_15 rfl (lv_at hl 0 rfl) ?_
  refine ct_sub (cj := 1) (k := 1) (d := 356) (N := 9) (fs0 := [.null, .null, .null, .null, .null, .null, .null, .null, .int 0]) X (fun q sz => mi1 l D cI cZ cJ q sz) (by decide) rfl (fun j hj => (by decide : ∀ j, j < 9 → defaultValue (clY 1 j) = vp_V [.null, .null, .null, .null, .null, .null, .null, .null, .int 0] j) j hj) (at_in (i := 129) (by decide +kernel) rfl) (at_in (i := 130) (by decide +kernel) rfl) (by first | exact in_in (z := 7) (by decide)) (at_in cow_iX1 rfl) (at_in (i := 132) (by decide +kernel) rfl) (by decide +kernel) (by decide) (List.mem_of_getElem? (i := 60) rfl) (by decide) rfl rfl rfl ⟨Nat.le_of_ble_eq_true rfl, Nat.le_of_ble_eq_true rfl⟩ (by show _ ≤ (49 : Nat); omega) (by show _ ≤ (10742 : Nat); omega) hA hl.1 diX7_16 diX7_19 diX7_20 diX7_23 (Nat.le_of_ble_eq_true rfl) hP hD hS (fun a9 u16 H locs hP hD hS => ?_)
  refine lv_aload_n X.1 X.2.1 diX7_26 rfl (lv_at hl 0 rfl) ?_
  refine ct_sub (cj := 6) (k := 2) (d := 357) (N := 9) (fs0 := [.null, .null, .null, .null, .null, .null, .null, .null, .int 0]) X (fun q sz => mi6 l D cI cZ cJ q sz) (by decide) rfl (fun j hj => (by decide : ∀ j, j < 9 → defaultValue (clY 6 j) = vp_V [.null, .null, .null, .null, .null, .null, .null, .null, .int 0] j) j hj) (at_in (i := 175) (by decide +kernel) rfl) (at_in (i := 176) (by decide +kernel) rfl) (by first | exact in_in (z := 51) (by decide)) (at_in cow_iX6 rfl) (at_in (i := 178) (by decide +kernel) rfl) (by decide +kernel) (by decide) (List.mem_of_getElem? (i := 61) rfl) (by decide) rfl rfl rfl ⟨Nat.le_of_ble_eq_true rfl, Nat.le_of_ble_eq_true rfl⟩ (by show _ ≤ (49 : Nat); omega) (by show _ ≤ (10742 : Nat); omega) hA hl.1 diX7_27 diX7_30 diX7_31 diX7_34 (Nat.le_of_ble_eq_true rfl) hP hD hS (fun a18 u27 H locs hP hD hS => ?_)
  refine lv_aload_n X.1 X.2.1 diX7_37 rfl (lv_at hl 0 rfl) ?_
  refine ct_sub (cj := 5) (k := 3) (d := 358) (N := 4) (fs0 := [.null, .null, .null, .int 0]) X (fun q sz => mi5 l D cI cZ cJ q sz) (by decide) rfl (fun j hj => (by decide : ∀ j, j < 4 → defaultValue (clY 5 j) = vp_V [.null, .null, .null, .int 0] j) j hj) (at_in (i := 219) (by decide +kernel) rfl) (at_in (i := 220) (by decide +kernel) rfl) (by first | exact in_in (z := 49) (by decide)) (at_in cow_iX5 rfl) (at_in (i := 222) (by decide +kernel) rfl) (by decide +kernel) (by decide) (List.mem_of_getElem? (i := 62) rfl) (by decide) rfl rfl rfl ⟨Nat.le_of_ble_eq_true rfl, Nat.le_of_ble_eq_true rfl⟩ (by show _ ≤ (49 : Nat); omega) (by show _ ≤ (10742 : Nat); omega) hA hl.1 diX7_38 diX7_41 diX7_42 diX7_45 (Nat.le_of_ble_eq_true rfl) hP hD hS (fun a27 u38 H locs hP hD hS => ?_)
  refine lv_aload_n X.1 X.2.1 diX7_48 rfl (lv_at hl 0 rfl) ?_
  refine ct_sub (cj := 3) (k := 4) (d := 359) (N := 6) (fs0 := [.null, .null, .int 0, .int 0, .int 0, .int 0]) X (fun q sz => mi3 l D cI cZ cJ q sz) (by decide) rfl (fun j hj => (by decide : ∀ j, j < 6 → defaultValue (clY 3 j) = vp_V [.null, .null, .int 0, .int 0, .int 0, .int 0] j) j hj) (at_in (i := 238) (by decide +kernel) rfl) (at_in (i := 239) (by decide +kernel) rfl) (by first | exact in_in (z := 33) (by decide)) (at_in cow_iX3 rfl) (at_in (i := 241) (by decide +kernel) rfl) (by decide +kernel) (by decide) (List.mem_of_getElem? (i := 63) rfl) (by decide) rfl rfl rfl ⟨Nat.le_of_ble_eq_true rfl, Nat.le_of_ble_eq_true rfl⟩ (by show _ ≤ (49 : Nat); omega) (by show _ ≤ (10742 : Nat); omega) hA hl.1 diX7_49 diX7_52 diX7_53 diX7_56 (Nat.le_of_ble_eq_true rfl) hP hD hS (fun a31 u49 H locs hP hD hS => ?_)
  refine lv_aload_n X.1 X.2.1 diX7_59 rfl (lv_at hl 0 rfl) ?_
  refine ct_sub (cj := 4) (k := 5) (d := 360) (N := 3) (fs0 := [.null, .null, .int 0]) X (fun q sz => mi4 l D cI cZ cJ q sz) (by decide) rfl (fun j hj => (by decide : ∀ j, j < 3 → defaultValue (clY 4 j) = vp_V [.null, .null, .int 0] j) j hj) (at_in (i := 271) (by decide +kernel) rfl) (at_in (i := 272) (by decide +kernel) rfl) (by first | exact in_in (z := 43) (by decide)) (at_in cow_iX4 rfl) (at_in (i := 274) (by decide +kernel) rfl) (by decide +kernel) (by decide) (List.mem_of_getElem? (i := 64) rfl) (by decide) rfl rfl rfl ⟨Nat.le_of_ble_eq_true rfl, Nat.le_of_ble_eq_true rfl⟩ (by show _ ≤ (49 : Nat); omega) (by show _ ≤ (10742 : Nat); omega) hA hl.1 diX7_60 diX7_63 diX7_64 diX7_67 (Nat.le_of_ble_eq_true rfl) hP hD hS (fun a34 u60 H locs hP hD hS => ?_)
  refine lv_aload_n X.1 X.2.1 diX7_70 rfl (lv_at hl 0 rfl) ?_
  refine ct_sub (cj := 2) (k := 6) (d := 361) (N := 18) (fs0 := [.null, .null, .null, .null, .null, .null, .null, .null, .null, .int 0, .int 0, .int 0, .int 0, .int 0, .int 0, .int 0, .int 0, .int 0]) X (fun q sz => mi2 l D cI cZ cJ q sz) (by decide) rfl (fun j hj => (by decide : ∀ j, j < 18 → defaultValue (clY 2 j) = vp_V [.null, .null, .null, .null, .null, .null, .null, .null, .null, .int 0, .int 0, .int 0, .int 0, .int 0, .int 0, .int 0, .int 0, .int 0] j) j hj) (at_in (i := 289) (by decide +kernel) rfl) (at_in (i := 290) (by decide +kernel) rfl) (by first | exact in_in (z := 12) (by decide)) (at_in cow_iX2 rfl) (at_in (i := 292) (by decide +kernel) rfl) (by decide +kernel) (by decide) (List.mem_of_getElem? (i := 65) rfl) (by decide) rfl rfl rfl ⟨Nat.le_of_ble_eq_true rfl, Nat.le_of_ble_eq_true rfl⟩ (by show _ ≤ (49 : Nat); omega) (by show _ ≤ (10742 : Nat); omega) hA hl.1 diX7_71 diX7_74 diX7_75 diX7_78 (Nat.le_of_ble_eq_true rfl) hP hD hS (fun a39 u71 H locs hP hD hS => ?_)
  refine lv_aload_n X.1 X.2.1 diX7_81 rfl (lv_at hl 0 rfl) ?_
  refine lv_iconst (v := Int32.ofInt 0) X.1 X.2.1 diX7_82 bp_iconst_0 ?_
  refine ct_int (d := 362) (k := 7) X (List.mem_of_getElem? (i := 66) rfl) (Nat.le_of_ble_eq_true rfl) rfl (by first | rfl | exact i_zn (Or.inl rfl)) (by first | rfl | decide) diX7_83 (Nat.le_of_ble_eq_true rfl) hP hD hS (fun H locs hP hD hS => ?_)
  have hP9 : va_P D cls9 (wc7 cI cZ cJ h0 (fun i => nt 0 [a0, (u5 0), (u5 1), (u5 2), (u5 3), (u5 4), (u5 5), (u5 6), (u5 7), a9, (u16 0), (u16 1), (u16 2), (u16 3), (u16 4), (u16 5), (u16 6), (u16 7), a18, (u27 0), (u27 1), (u27 2), (u27 3), (u27 4), (u27 5), (u27 6), (u27 7), a27, (u38 0), (u38 1), (u38 2), a31, (u49 0), (u49 1), a34, (u60 0), (u60 1), (u60 2), (u60 3), a39, (u71 0), (u71 1), (u71 2), (u71 3), (u71 4), (u71 5), (u71 6), (u71 7), (u71 8)] i)) H := hP
  have hD9 : va_D A (wc7 cI cZ cJ h0 (fun i => nt 0 [a0, (u5 0), (u5 1), (u5 2), (u5 3), (u5 4), (u5 5), (u5 6), (u5 7), a9, (u16 0), (u16 1), (u16 2), (u16 3), (u16 4), (u16 5), (u16 6), (u16 7), a18, (u27 0), (u27 1), (u27 2), (u27 3), (u27 4), (u27 5), (u27 6), (u27 7), a27, (u38 0), (u38 1), (u38 2), a31, (u49 0), (u49 1), a34, (u60 0), (u60 1), (u60 2), (u60 3), a39, (u71 0), (u71 1), (u71 2), (u71 3), (u71 4), (u71 5), (u71 6), (u71 7), (u71 8)] i)) := hD
  refine W.widen (k := 49) (n := 10742) (by omega) (by omega) ?_
  exact W.vret X.1 X.2.1 hr (fun t ht _ => ⟨⟨(fun i => nt 0 [a0, (u5 0), (u5 1), (u5 2), (u5 3), (u5 4), (u5 5), (u5 6), (u5 7), a9, (u16 0), (u16 1), (u16 2), (u16 3), (u16 4), (u16 5), (u16 6), (u16 7), a18, (u27 0), (u27 1), (u27 2), (u27 3), (u27 4), (u27 5), (u27 6), (u27 7), a27, (u38 0), (u38 1), (u38 2), a31, (u49 0), (u49 1), a34, (u60 0), (u60 1), (u60 2), (u60 3), a39, (u71 0), (u71 1), (u71 2), (u71 3), (u71 4), (u71 5), (u71 6), (u71 7), (u71 8)] i), rfl, trivial, (by rw [← ht] at hP9; exact hP9), (by rw [hAe]; exact hD9)⟩, by rw [hAe]; exact hS.F ht⟩) hS.2.2 diX7_86
end
section
/-- the memory behind the constructors; the script lies in 98, 99 -/
def me0 (L : Nat) (xs : Nat → Int32) : Me := fun k j => if k = 7 then (if j = 14 ∨ j = 15 then -1 else 0) else if k = 98 then (L : Int) else if k = 99 then (xs j.toNat).toInt else 0
def ad0 (b q0 : Nat) (u : Nat → Nat) (q1 : Nat) (v : Nat → Nat) (k : Nat) : Nat := if k = 99 then b else nt 0 [q0, u 0, u 9, u 18, u 27, u 31, u 34, u 39, u 35, u 1, u 2, u 3, u 4, u 5, u 6, u 7, u 8, u 10, u 11, u 12, u 13, u 14, u 15, u 16, u 17, u 19, u 20, u 21, u 22, u 23, u 24, u 25, u 26, u 28, u 29, u 30, u 32, u 33, u 38, u 40, u 41, u 42, u 43, u 44, u 45, u 46, u 47, u 48, u 36, u 37, q1, v 0, v 1, v 2, v 3, v 4, v 5, v 6, v 7, v 8, v 9, v 10, v 11, v 12, v 13, v 14, v 15, v 16, v 17, v 18, v 19, v 20, v 21, v 22, v 23, v 24, v 25, v 26, v 27, v 28, v 29, v 30, v 31, v 32, v 33, v 34] k
section W0
variable {D : va_G} {cI cZ cJ : ClassId} {H : Heap} {b q0 q1 L : Nat} {u v : Nat → Nat} {xs : Nat → Int32} {A : Nat → Prop}
theorem w0_at (hP : va_P D cls9 (wc7 cI cZ cJ q0 u ++ wc8 cI cZ cJ q1 v) H) : ∀ k, k < 86 → va_at D cls9 (ad0 b q0 u q1 v k, ent (ad0 b q0 u q1 v) cI cZ cJ (me0 L xs) k) H := by
  intro k hk
  match k, hk with
  | 0, _ => exact hP 0 _ rfl
  | 1, _ => exact hP 1 _ rfl
  | 2, _ => exact hP 10 _ rfl
  | 3, _ => exact hP 19 _ rfl
  | 4, _ => exact hP 28 _ rfl
  | 5, _ => exact hP 32 _ rfl
  | 6, _ => exact hP 35 _ rfl
  | 7, _ => exact hP 40 _ rfl
  | 8, _ => exact hP 36 _ rfl
  | 9, _ => exact hP 2 _ rfl
  | 10, _ => exact hP 3 _ rfl
  | 11, _ => exact hP 4 _ rfl
  | 12, _ => exact hP 5 _ rfl
  | 13, _ => exact hP 6 _ rfl
  | 14, _ => exact hP 7 _ rfl
  | 15, _ => exact hP 8 _ rfl
  | 16, _ => exact hP 9 _ rfl
  | 17, _ => exact hP 11 _ rfl
  | 18, _ => exact hP 12 _ rfl
  | 19, _ => exact hP 13 _ rfl
  | 20, _ => exact hP 14 _ rfl
  | 21, _ => exact hP 15 _ rfl
  | 22, _ => exact hP 16 _ rfl
  | 23, _ => exact hP 17 _ rfl
  | 24, _ => exact hP 18 _ rfl
  | 25, _ => exact hP 20 _ rfl
  | 26, _ => exact hP 21 _ rfl
  | 27, _ => exact hP 22 _ rfl
  | 28, _ => exact hP 23 _ rfl
  | 29, _ => exact hP 24 _ rfl
  | 30, _ => exact hP 25 _ rfl
  | 31, _ => exact hP 26 _ rfl
  | 32, _ => exact hP 27 _ rfl
  | 33, _ => exact hP 29 _ rfl
  | 34, _ => exact hP 30 _ rfl
  | 35, _ => exact hP 31 _ rfl
  | 36, _ => exact hP 33 _ rfl
  | 37, _ => exact hP 34 _ rfl
  | 38, _ => exact hP 39 _ rfl
  | 39, _ => exact hP 41 _ rfl
  | 40, _ => exact hP 42 _ rfl
  | 41, _ => exact hP 43 _ rfl
  | 42, _ => exact hP 44 _ rfl
  | 43, _ => exact hP 45 _ rfl
  | 44, _ => exact hP 46 _ rfl
  | 45, _ => exact hP 47 _ rfl
  | 46, _ => exact hP 48 _ rfl
  | 47, _ => exact hP 49 _ rfl
  | 48, _ => exact hP 37 _ rfl
  | 49, _ => exact hP 38 _ rfl
  | 50, _ => exact hP 50 _ rfl
  | 51, _ => exact hP 51 _ rfl
  | 52, _ => exact hP 52 _ rfl
  | 53, _ => exact hP 53 _ rfl
  | 54, _ => exact hP 54 _ rfl
  | 55, _ => exact hP 55 _ rfl
  | 56, _ => exact hP 56 _ rfl
  | 57, _ => exact hP 57 _ rfl
  | 58, _ => exact hP 58 _ rfl
  | 59, _ => exact hP 59 _ rfl
  | 60, _ => exact hP 60 _ rfl
  | 61, _ => exact hP 61 _ rfl
  | 62, _ => exact hP 62 _ rfl
  | 63, _ => exact hP 63 _ rfl
  | 64, _ => exact hP 64 _ rfl
  | 65, _ => exact hP 65 _ rfl
  | 66, _ => exact hP 66 _ rfl
  | 67, _ => exact hP 67 _ rfl
  | 68, _ => exact hP 68 _ rfl
  | 69, _ => exact hP 69 _ rfl
  | 70, _ => exact hP 70 _ rfl
  | 71, _ => exact hP 71 _ rfl
  | 72, _ => exact hP 72 _ rfl
  | 73, _ => exact hP 73 _ rfl
  | 74, _ => exact hP 74 _ rfl
  | 75, _ => exact hP 75 _ rfl
  | 76, _ => exact hP 76 _ rfl
  | 77, _ => exact hP 77 _ rfl
  | 78, _ => exact hP 78 _ rfl
  | 79, _ => exact hP 79 _ rfl
  | 80, _ => exact hP 80 _ rfl
  | 81, _ => exact hP 81 _ rfl
  | 82, _ => exact hP 82 _ rfl
  | 83, _ => exact hP 83 _ rfl
  | 84, _ => exact hP 84 _ rfl
  | 85, _ => exact hP 85 _ rfl
  | n + 86, h => omega
theorem w0_P (hP : va_P D cls9 (wc7 cI cZ cJ q0 u ++ wc8 cI cZ cJ q1 v) H) : va_P D cls9 (wsM (ad0 b q0 u q1 v) cI cZ cJ (me0 L xs)) H := by
  intro k q hk
  rcases Nat.lt_or_ge k 86 with h1 | h1
  · rw [wsM_get h1] at hk
    rw [← Option.some.inj hk]
    exact w0_at hP k h1
  · rw [List.getElem?_eq_none (by simp [wsM]; omega)] at hk
    cases hk
def pm86 : List Nat := [0, 1, 10, 19, 28, 32, 35, 40, 36, 2, 3, 4, 5, 6, 7, 8, 9, 11, 12, 13, 14, 15, 16, 17, 18, 20, 21, 22, 23, 24, 25, 26, 27, 29, 30, 31, 33, 34, 39, 41, 42, 43, 44, 45, 46, 47, 48, 49, 37, 38, 50, 51, 52, 53, 54, 55, 56, 57, 58, 59, 60, 61, 62, 63, 64, 65, 66, 67, 68, 69, 70, 71, 72, 73, 74, 75, 76, 77, 78, 79, 80, 81, 82, 83, 84, 85]
theorem pm_lt : ∀ k, k < 86 → nt 0 pm86 k < 86 := by decide +kernel
theorem pm_inj : ∀ i, i < 86 → ∀ j, j < 86 → nt 0 pm86 i = nt 0 pm86 j → i = j := by decide +kernel
theorem w0_ad : ∀ k, k < 86 → ∃ E, (wc7 cI cZ cJ q0 u ++ wc8 cI cZ cJ q1 v)[nt 0 pm86 k]? = some (ad0 b q0 u q1 v k, E) := by
  intro k hk
  match k, hk with
  | 0, _ => exact ⟨_, rfl⟩
  | 1, _ => exact ⟨_, rfl⟩
  | 2, _ => exact ⟨_, rfl⟩
  | 3, _ => exact ⟨_, rfl⟩
  | 4, _ => exact ⟨_, rfl⟩
  | 5, _ => exact ⟨_, rfl⟩
  | 6, _ => exact ⟨_, rfl⟩
  | 7, _ => exact ⟨_, rfl⟩
  | 8, _ => exact ⟨_, rfl⟩
  | 9, _ => exact ⟨_, rfl⟩
  | 10, _ => exact ⟨_, rfl⟩
  | 11, _ => exact ⟨_, rfl⟩
  | 12, _ => exact ⟨_, rfl⟩
  | 13, _ => exact ⟨_, rfl⟩
  | 14, _ => exact ⟨_, rfl⟩
  | 15, _ => exact ⟨_, rfl⟩
  | 16, _ => exact ⟨_, rfl⟩
  | 17, _ => exact ⟨_, rfl⟩
  | 18, _ => exact ⟨_, rfl⟩
  | 19, _ => exact ⟨_, rfl⟩
  | 20, _ => exact ⟨_, rfl⟩
  | 21, _ => exact ⟨_, rfl⟩
  | 22, _ => exact ⟨_, rfl⟩
  | 23, _ => exact ⟨_, rfl⟩
  | 24, _ => exact ⟨_, rfl⟩
  | 25, _ => exact ⟨_, rfl⟩
  | 26, _ => exact ⟨_, rfl⟩
  | 27, _ => exact ⟨_, rfl⟩
  | 28, _ => exact ⟨_, rfl⟩
  | 29, _ => exact ⟨_, rfl⟩
  | 30, _ => exact ⟨_, rfl⟩
  | 31, _ => exact ⟨_, rfl⟩
  | 32, _ => exact ⟨_, rfl⟩
  | 33, _ => exact ⟨_, rfl⟩
  | 34, _ => exact ⟨_, rfl⟩
  | 35, _ => exact ⟨_, rfl⟩
  | 36, _ => exact ⟨_, rfl⟩
  | 37, _ => exact ⟨_, rfl⟩
  | 38, _ => exact ⟨_, rfl⟩
  | 39, _ => exact ⟨_, rfl⟩
  | 40, _ => exact ⟨_, rfl⟩
  | 41, _ => exact ⟨_, rfl⟩
  | 42, _ => exact ⟨_, rfl⟩
  | 43, _ => exact ⟨_, rfl⟩
  | 44, _ => exact ⟨_, rfl⟩
  | 45, _ => exact ⟨_, rfl⟩
  | 46, _ => exact ⟨_, rfl⟩
  | 47, _ => exact ⟨_, rfl⟩
  | 48, _ => exact ⟨_, rfl⟩
  | 49, _ => exact ⟨_, rfl⟩
  | 50, _ => exact ⟨_, rfl⟩
  | 51, _ => exact ⟨_, rfl⟩
  | 52, _ => exact ⟨_, rfl⟩
  | 53, _ => exact ⟨_, rfl⟩
  | 54, _ => exact ⟨_, rfl⟩
  | 55, _ => exact ⟨_, rfl⟩
  | 56, _ => exact ⟨_, rfl⟩
  | 57, _ => exact ⟨_, rfl⟩
  | 58, _ => exact ⟨_, rfl⟩
  | 59, _ => exact ⟨_, rfl⟩
  | 60, _ => exact ⟨_, rfl⟩
  | 61, _ => exact ⟨_, rfl⟩
  | 62, _ => exact ⟨_, rfl⟩
  | 63, _ => exact ⟨_, rfl⟩
  | 64, _ => exact ⟨_, rfl⟩
  | 65, _ => exact ⟨_, rfl⟩
  | 66, _ => exact ⟨_, rfl⟩
  | 67, _ => exact ⟨_, rfl⟩
  | 68, _ => exact ⟨_, rfl⟩
  | 69, _ => exact ⟨_, rfl⟩
  | 70, _ => exact ⟨_, rfl⟩
  | 71, _ => exact ⟨_, rfl⟩
  | 72, _ => exact ⟨_, rfl⟩
  | 73, _ => exact ⟨_, rfl⟩
  | 74, _ => exact ⟨_, rfl⟩
  | 75, _ => exact ⟨_, rfl⟩
  | 76, _ => exact ⟨_, rfl⟩
  | 77, _ => exact ⟨_, rfl⟩
  | 78, _ => exact ⟨_, rfl⟩
  | 79, _ => exact ⟨_, rfl⟩
  | 80, _ => exact ⟨_, rfl⟩
  | 81, _ => exact ⟨_, rfl⟩
  | 82, _ => exact ⟨_, rfl⟩
  | 83, _ => exact ⟨_, rfl⟩
  | 84, _ => exact ⟨_, rfl⟩
  | 85, _ => exact ⟨_, rfl⟩
  | n + 86, h => omega
theorem w0_D (hD : va_D A (wc7 cI cZ cJ q0 u ++ wc8 cI cZ cJ q1 v)) : va_D A (wsM (ad0 b q0 u q1 v) cI cZ cJ (me0 L xs)) := by
  have key : ∀ (k : Nat) (q : Nat × va_E), (wsM (ad0 b q0 u q1 v) cI cZ cJ (me0 L xs))[k]? = some q → k < 86 ∧ q.1 = ad0 b q0 u q1 v k := by
    intro k q hq
    rcases Nat.lt_or_ge k 86 with h1 | h1
    · rw [wsM_get h1] at hq
      exact ⟨h1, by rw [← Option.some.inj hq]⟩
    · rw [List.getElem?_eq_none (by simp [wsM]; omega)] at hq
      cases hq
  refine ⟨fun i j p q hi hj e => ?_, fun k q hk => ?_⟩
  · obtain ⟨h1, e1⟩ := key i p hi
    obtain ⟨h2, e2⟩ := key j q hj
    obtain ⟨E1, g1⟩ := w0_ad (cI := cI) (cZ := cZ) (cJ := cJ) (b := b) (q0 := q0) (u := u) (q1 := q1) (v := v) i h1
    obtain ⟨E2, g2⟩ := w0_ad (cI := cI) (cZ := cZ) (cJ := cJ) (b := b) (q0 := q0) (u := u) (q1 := q1) (v := v) j h2
    exact pm_inj i h1 j h2 (hD.1 _ _ _ _ g1 g2 (by show ad0 b q0 u q1 v i = ad0 b q0 u q1 v j; rw [← e1, ← e2]; exact e))
  · obtain ⟨h1, e1⟩ := key k q hk
    obtain ⟨E1, g1⟩ := w0_ad (cI := cI) (cZ := cZ) (cJ := cJ) (b := b) (q0 := q0) (u := u) (q1 := q1) (v := v) k h1
    rw [e1]
    exact hD.2 _ _ g1
end W0
end
section
/-! THE CLAIM OUT OF ONE WALK OF THE LAW'S BODY. Your part is whole_start (and what it stands on); all else here is the same for every law, but numbers. -/
def R_law : String := "FloodCellsLaw"
def lw_P (b : Addr) (xs : List Int32) (args : Array Value) (s : State) : Prop := args = #[.ref b] ∧ s.IntsAt b xs ∧ xs.length ≤ 3072 ∧ (Jvm.Cond.and given_1 narrow_1).before args s = true
def lw_Q (_ : Array Value) (s : State) (o : Outcome) (t : State) : Prop := o = .returned (some (.int 1)) ∧ Framed s o t [] 86 19930
def lw_Z (below : List Frame) (a : Array Value) (s : State) : State → Prop := fun t => ∃ o, t.status = .running ∧ Ended t below o ∧ lw_Q a s o t
/-- the law's own end, with 1 on the stack, nothing written that was there before, its room as the claim has it -/
theorem lw_ret {p : Program} {l : Launch} {e : Env} {s : State} {m : MethodId} {below : List Frame} {meth : Method} {c : Code} {b : Nat} (hx : p.tables.exec = Jvm.exec) (hb : c.code = code) (hr : meth.sig.returnType = ret) (hlocks : meth.locks = false) {pc : Nat} {H : Heap} {ls : Array Slot} (hdg : decode code pc = .ok (.ireturn, 1)) : W p l e room_1 s m #[Value.ref b] below meth c H [] 86 19930 (lw_Z below #[Value.ref b] s) (F0 m pc ls [.int 1]) := by
  intro T hT X
  obtain ⟨fs, hret, hrun, hended, hW, hframe⟩ := X.leave (v := some (.int 1)) (hlocks := hlocks) (fun h => by rw [hr] at h; cases h)
  have hmeth' : T.vm.method? m = some meth := X.method'
  refine ⟨T.setFrames fs, ?_, .returned (some (.int 1)), hrun, hended, rfl, ⟨_, rfl⟩, hW, hframe⟩
  jvm_step X.here [X.here.top, hx, hb, hdg, hmeth', hr, ret, narrow_b1]
  (try refine ⟨rfl, ?_⟩); (try refine ⟨rfl, ?_⟩)
  first | (intro acts; rw [hret _ acts rfl rfl rfl]) | rw [hret _ _ rfl rfl rfl]
  exact Steps.refl _
/-- what holds at the law's entry: the machine, the code, the tables' words (any of lw_tbl by 'hts w (by decide +kernel)'), the script of L ints xs at the cell b, what the Statement gives of the start (any of its parts by flat_of_before) -/
def lw_At (p : Program) (s : State) (m : MethodId) (meth : Method) (c : Code) (b L : Nat) (xs : Nat → Int32) : Prop :=
  p.tables.exec = Jvm.exec ∧ c.code = code ∧ meth.sig.returnType = ret ∧ c.maxLocals = 4 ∧ s.vm.findClass R_law = some m.cls ∧ (∀ w ∈ lw_tbl, w.before #[Value.ref b] s = true) ∧ va_X b L xs s s.heap ∧ b < s.heap.size ∧ meth.locks = false ∧ (Jvm.Cond.and given_1 narrow_1).before #[Value.ref b] s = true
theorem dl_0 : decode code 0 = .ok (.new 7, 3) := by decide +kernel
theorem dl_3 : decode code 3 = .ok (.dup, 1) := by decide +kernel
theorem dl_4 : decode code 4 = .ok (.invokespecial 9, 3) := by decide +kernel
theorem dl_7 : decode code 7 = .ok (.astore_n 1, 1) := by decide +kernel
theorem dl_8 : decode code 8 = .ok (.new 10, 3) := by decide +kernel
theorem dl_11 : decode code 11 = .ok (.dup, 1) := by decide +kernel
theorem dl_12 : decode code 12 = .ok (.invokespecial 12, 3) := by decide +kernel
theorem dl_15 : decode code 15 = .ok (.astore_n 2, 1) := by decide +kernel
theorem df7 : ∀ j, j < clN 7 → defaultValue (clY 7 j) = vp_V [.null, .null, .null, .null, .null, .null, .null, .int 0] j := by decide +kernel
theorem df8 : ∀ j, j < clN 8 → defaultValue (clY 8 j) = vp_V [.int 0, .int 0, .null, .null, .null, .null, .null, .null, .null, .int 0, .null, .null, .null, .null, .null, .null, .null, .null, .int 0, .int 0, .null, .null, .null, .int 0, .null, .null, .null, .null, .null, .null, .null, .null, .null, .null, .null, .null, .null, .null, .null, .null, .null, .int 0, .int 0, .int 0] j := by decide +kernel
theorem li_a : lw_tbl[62]? = some (Cond.classLink "FloodCellsLaw" 7 (clR 7)) := by decide +kernel
theorem li_b : lw_tbl[745]? = some (Cond.classLink "FloodCellsLaw" 10 (clR 8)) := by decide +kernel
theorem li_c : lw_tbl[63]? = some (Cond.instantiable (clR 7) (clN 7)) ∧ lw_tbl[746]? = some (Cond.instantiable (clR 8) (clN 8)) := by decide +kernel
theorem li_d : lw_tbl[65]? = some (Cond.instanceMethod yX7_init) ∧ lw_tbl[748]? = some (Cond.instanceMethod yX8_init) := by decide +kernel
theorem li_e : lw_tbl[50]? = some (Cond.initialized (clR 7)) ∧ lw_tbl[58]? = some (Cond.initialized (clR 8)) := by decide +kernel
theorem nsC_in : ∀ q ∈ nsC, Cond.methodLinkNest q.1 q.2.1 q.2.2 "FloodCells" ∈ lw_tbl := by
  intro q hq
  simp only [nsC, List.mem_cons, List.not_mem_nil, or_false] at hq
  rcases hq with rfl | rfl | rfl | rfl | rfl | rfl | rfl | rfl
  · exact List.mem_of_getElem? (i := 72) (by decide +kernel)
  · exact List.mem_of_getElem? (i := 131) (by decide +kernel)
  · exact List.mem_of_getElem? (i := 177) (by decide +kernel)
  · exact List.mem_of_getElem? (i := 221) (by decide +kernel)
  · exact List.mem_of_getElem? (i := 240) (by decide +kernel)
  · exact List.mem_of_getElem? (i := 273) (by decide +kernel)
  · exact List.mem_of_getElem? (i := 278) (by decide +kernel)
  · exact List.mem_of_getElem? (i := 291) (by decide +kernel)
set_option maxHeartbeats 8000000 in
/-- the law's start, given that the small machine runs the law's loop to the answer 1 -/
theorem whole_open (hmain : ∀ (L : Nat) (xs : Nat → Int32), L ≤ 3072 → Rn 9 (blk 0 0) 0 [some (vR 99), some (vR 0), some (vR 50), none] [] (me0 L xs) (fun v _ => v = 1)) {p : Program} {e : Env} {s : State} {m : MethodId} {below : List Frame} {meth : Method} {c : Code} (l : Launch) {b L : Nat} {xs : Nat → Int32} (hL : L ≤ 3072) (C0 : lw_At p s m meth c b L xs) : W p l e room_1 s m #[Value.ref b] below meth c s.heap [] 0 0 (lw_Z below #[Value.ref b] s) (entryFrame m ([Value.ref b] : List Value).toArray 4) := by
  obtain ⟨hx, hb, hr, hml, hown, hts, hX, hbl, hlocks, hgv⟩ := id C0
  have htk : ∀ w ∈ lw_ok, w.before #[Value.ref b] s = true := fun w hw => hts w (List.mem_filter.mp hw).1
  have hA : ∀ q : Nat, s.heap.size ≤ q → (fun q : Nat => s.heap.size ≤ q) q := fun _ h => h
  have hbA : ¬ (fun q : Nat => s.heap.size ≤ q) b := Nat.not_le.mpr hbl
  obtain ⟨cI, kI, pI, fI, gI, hI⟩ := Cond.arrayClass_spec (htk _ (at_in arI rfl))
  obtain ⟨cZ, kZ, pZ, fZ, gZ, hZ⟩ := Cond.arrayClass_spec (htk _ (at_in arZ rfl))
  obtain ⟨cJ, kJ, pJ, fJ, gJ, hJ⟩ := Cond.arrayClass_spec (htk _ (at_in arJ rfl))
  obtain ⟨c0, iS0, hKn0⟩ := u_known (C := clR 0) (T := clT 0) (N := clN 0) (n := clN 0) htk (clW (by decide)) (htk _ (at_in (i := 71) (w := Cond.instantiable (clR 0) (clN 0)) (by decide +kernel) rfl))
  obtain ⟨c1, iS1, hKn1⟩ := u_known (C := clR 1) (T := clT 1) (N := clN 1) (n := clN 1) htk (clW (by decide)) (htk _ (at_in (i := 130) (w := Cond.instantiable (clR 1) (clN 1)) (by decide +kernel) rfl))
  obtain ⟨c2, iS2, hKn2⟩ := u_known (C := clR 2) (T := clT 2) (N := clN 2) (n := clN 2) htk (clW (by decide)) (htk _ (at_in (i := 290) (w := Cond.instantiable (clR 2) (clN 2)) (by decide +kernel) rfl))
  obtain ⟨c3, iS3, hKn3⟩ := u_known (C := clR 3) (T := clT 3) (N := clN 3) (n := clN 3) htk (clW (by decide)) (htk _ (at_in (i := 239) (w := Cond.instantiable (clR 3) (clN 3)) (by decide +kernel) rfl))
  obtain ⟨c4, iS4, hKn4⟩ := u_known (C := clR 4) (T := clT 4) (N := clN 4) (n := clN 4) htk (clW (by decide)) (htk _ (at_in (i := 272) (w := Cond.instantiable (clR 4) (clN 4)) (by decide +kernel) rfl))
  obtain ⟨c5, iS5, hKn5⟩ := u_known (C := clR 5) (T := clT 5) (N := clN 5) (n := clN 5) htk (clW (by decide)) (htk _ (at_in (i := 220) (w := Cond.instantiable (clR 5) (clN 5)) (by decide +kernel) rfl))
  obtain ⟨c6, iS6, hKn6⟩ := u_known (C := clR 6) (T := clT 6) (N := clN 6) (n := clN 6) htk (clW (by decide)) (htk _ (at_in (i := 176) (w := Cond.instantiable (clR 6) (clN 6)) (by decide +kernel) rfl))
  obtain ⟨c7, iS7, hKn7⟩ := u_known (C := clR 7) (T := clT 7) (N := clN 7) (n := clN 7) htk (clW (by decide)) (htk _ (at_in (i := 63) (w := Cond.instantiable (clR 7) (clN 7)) (by decide +kernel) rfl))
  obtain ⟨c8, iS8, hKn8⟩ := u_known (C := clR 8) (T := clT 8) (N := clN 8) (n := clN 8) htk (clW (by decide)) (htk _ (at_in (i := 746) (w := Cond.instantiable (clR 8) (clN 8)) (by decide +kernel) rfl))
  obtain ⟨D, hKc⟩ : ∃ D : va_G, ∀ (k : Nat) (q : vw_C), cls9[k]? = some q → u_Kn s q.1 q.2.1 q.2.2 (D.1 k) (D.2 k) := by
    refine ⟨(fun k => nt 0 [c0, c1, c2, c3, c4, c5, c6, c7, c8] k, fun k => nt (fun _ => 0) [iS0, iS1, iS2, iS3, iS4, iS5, iS6, iS7, iS8] k), ?_⟩
    intro k q hq
    match k, hq with
    | 0, hq => cases hq; exact hKn0
    | 1, hq => cases hq; exact hKn1
    | 2, hq => cases hq; exact hKn2
    | 3, hq => cases hq; exact hKn3
    | 4, hq => cases hq; exact hKn4
    | 5, hq => cases hq; exact hKn5
    | 6, hq => cases hq; exact hKn6
    | 7, hq => cases hq; exact hKn7
    | 8, hq => cases hq; exact hKn8
    | k + 9, hq => simp [cls9] at hq
  have hK : va_K D cls9 (tys3 cI cZ cJ) s := by
    refine ⟨hKc, ?_⟩
    intro k q hq
    match k, hq with
    | 0, hq => cases hq; exact ⟨fun n z => ⟨fun k h => (by cases h), kI, gI, pI, hI⟩, fI⟩
    | 1, hq => cases hq; exact ⟨fun n z => ⟨fun k h => (by cases h), kZ, gZ, pZ, hZ⟩, fZ⟩
    | 2, hq => cases hq; exact ⟨fun n z => ⟨fun k h => (by cases h), kJ, gJ, pJ, hJ⟩, fJ⟩
    | k + 3, hq => simp [tys3] at hq
  have hS : va_S (fun q : Nat => s.heap.size ≤ q) s.heap s.heap [] := va_S.rf
  have hP : va_P D cls9 [] s.heap := fun k q h => by simp at h
  have hD : va_D (fun q : Nat => s.heap.size ≤ q) [] := ⟨fun i j p q h => by simp at h, fun k q h => by simp at h⟩
  have nsx : ∀ q ∈ nsC, va_Nw (.methodLinkNest q.1 q.2.1 q.2.2 "FloodCells") s := fun q hq => va_Nw.of rfl (hts _ (nsC_in q hq))
  have hG : ∀ {y : MethodName} {bt : ByteArray}, Cond.code y bt 1 none ∈ lw_ok → GoodIn lw_ok (Cond.code y bt 1 none :: lw_ok) := fun hc => good_in (fun w hw => by
    rcases List.mem_cons.mp hw with rfl | h2
    · exact hc
    · exact h2)
  have one : ∀ {wr : va_W} {x : Nat × va_E} {H : Heap} {locs : List Loc}, va_P D cls9 (wr ++ [x]) H → va_D (fun q : Nat => s.heap.size ≤ q) (wr ++ [x]) → va_S (fun q : Nat => s.heap.size ≤ q) s.heap H locs → (va_P D cls9 [x] H ∧ va_D (fun _ => True) [x] ∧ ∀ q, va_A [x] H.size q → s.heap.size ≤ q) := by
    intro wr x H locs hP hD hS
    have hx1 : (wr ++ [x])[wr.length]? = some x := by simp
    refine ⟨fun j y hj => ?_, ⟨fun i j p1 p2 h1 h2 _ => ?_, fun _ _ _ => trivial⟩, ?_⟩
    · have h5 := (List.getElem?_eq_some_iff.mp hj).1
      simp at h5
      subst h5
      simp at hj
      subst hj
      exact hP _ _ hx1
    · have e1 := (List.getElem?_eq_some_iff.mp h1).1
      have e2 := (List.getElem?_eq_some_iff.mp h2).1
      simp at e1 e2
      omega
    · rintro q (⟨j, e', hj⟩ | hq)
      · have h5 := (List.getElem?_eq_some_iff.mp hj).1
        simp at h5
        subst h5
        simp at hj
        have := hD.2 _ _ hx1
        rw [hj] at this
        exact this
      · exact Nat.le_trans hS.1 hq
  have hl := lv_entry ([.ref b]) (n := 4) (Nat.le_of_ble_eq_true rfl)
  rw [lg_entry_eq]
  generalize (lg_sl ([.ref b]) ++ List.replicate (4 - (lg_sl ([.ref b])).length) Slot.unset).toArray = ls at hl ⊢
  have hl : lv_has ls 4 [(0, .ref b)] := hl
  refine va_new (ci := 7) (fs := [.null, .null, .null, .null, .null, .null, .null, .int 0]) (own := R_law) (C := clR 7) (T := clT 7) (N := clN 7) hx hb htk (clW (by decide)) (clY 7) (clY_ok 7 (by decide)) hown (htk _ (at_in li_a rfl)) (htk _ (at_in li_c.1 rfl)) (htk _ (at_in li_e.1 rfl)) hK hP hD hS hA (clC 7 (by decide)) df7 (by show _ ≤ (86 : Nat); omega) (by show _ ≤ (19930 : Nat); have : clN 7 = 8 := rfl; omega) dl_0 (fun q0 H hP hD hS => ?_)
  refine lv_dup hx hb dl_3 rfl ?_
  obtain ⟨hPc, hDc, hFc⟩ := one hP hD hS
  refine va_callv (va_runI (As := []) (rest := [.ref q0]) (b := q0) ⟨hx, hb, hml, hown, htk⟩ (mi7 l D cI cZ cJ q0 H.size) (cwI 0 htk (hG (at_in cow_iX7 rfl)) rfl rfl rfl (htk _ (at_in li_e.1 rfl)) (htk _ (at_in lnk7.1 rfl)) (htk _ (at_in li_d.1 rfl)) rfl (by decide +kernel) ⟨Nat.le_of_ble_eq_true rfl, Nat.le_of_ble_eq_true rfl⟩) ⟨Pci_bl, fun U hU hW => ⟨rfl, by rw [hU], by rw [hU]; exact hPc, va_K.moved hW.alike hK, hDc, fun x hx1 => va_Nw.warmM hW (nsx x hx1)⟩⟩ rfl rfl hl.1 rfl (lv_room (Nat.le_of_ble_eq_true rfl)) dl_4 ⟨by show _ ≤ (86 : Nat); omega, by show _ ≤ (19930 : Nat); have : clN 7 = 8 := rfl; have : clN 8 = 44 := rfl; omega⟩) hS (fun q _ h => hFc q h) hFc (fun u0 t H1 locs0 ht hvm hw hB hz1 hk1 hS => ?_)
  obtain ⟨hP1, hD1⟩ := hB
  rw [ht] at hP1
  obtain ⟨hP, hD⟩ := join1 hP hD hk1 hFc hP1 hD1
  refine lv_astore_n (lv' := [(1, .ref q0), (0, .ref b)]) hx hb dl_7 rfl hl (by decide) rfl (fun ls hl => ?_)
  refine va_new (ci := 8) (fs := [.int 0, .int 0, .null, .null, .null, .null, .null, .null, .null, .int 0, .null, .null, .null, .null, .null, .null, .null, .null, .int 0, .int 0, .null, .null, .null, .int 0, .null, .null, .null, .null, .null, .null, .null, .null, .null, .null, .null, .null, .null, .null, .null, .null, .null, .int 0, .int 0, .int 0]) (own := R_law) (C := clR 8) (T := clT 8) (N := clN 8) hx hb htk (clW (by decide)) (clY 8) (clY_ok 8 (by decide)) hown (htk _ (at_in li_b rfl)) (htk _ (at_in li_c.2 rfl)) (htk _ (at_in li_e.2 rfl)) hK hP hD hS hA (clC 8 (by decide)) df8 (by show _ ≤ (86 : Nat); omega) (by show _ ≤ (19930 : Nat); have : clN 8 = 44 := rfl; have : clN 7 = 8 := rfl; omega) dl_8 (fun q1 H hP hD hS => ?_)
  refine lv_dup hx hb dl_11 rfl ?_
  obtain ⟨hPc, hDc, hFc⟩ := one hP hD hS
  refine va_callv (va_runI (As := []) (rest := [.ref q1]) (b := q1) ⟨hx, hb, hml, hown, htk⟩ (mi8 l D cI cZ cJ q1 H.size) (cwI 0 htk (hG (at_in cow_iX8 rfl)) rfl rfl rfl (htk _ (at_in li_e.2 rfl)) (htk _ (at_in lnk7.2 rfl)) (htk _ (at_in li_d.2 rfl)) rfl (by decide +kernel) ⟨Nat.le_of_ble_eq_true rfl, Nat.le_of_ble_eq_true rfl⟩) ⟨Pci_bl, fun U hU hW => ⟨rfl, by rw [hU], by rw [hU]; exact hPc, va_K.moved hW.alike hK, hDc, fun x hx1 => va_Nw.warmM hW (nsx x hx1)⟩⟩ rfl rfl hl.1 rfl (lv_room (Nat.le_of_ble_eq_true rfl)) dl_12 ⟨by show _ ≤ (86 : Nat); omega, by show _ ≤ (19930 : Nat); have : clN 7 = 8 := rfl; have : clN 8 = 44 := rfl; omega⟩) hS (fun q _ h => hFc q h) hFc (fun u1 t H1 locs1 ht hvm hw hB hz1 hk1 hS => ?_)
  obtain ⟨hP1, hD1⟩ := hB
  rw [ht] at hP1
  obtain ⟨hP, hD⟩ := join1 hP hD hk1 hFc hP1 hD1
  refine lv_astore_n (lv' := [(2, .ref q1), (1, .ref q0), (0, .ref b)]) hx hb dl_15 rfl hl (by decide) rfl (fun ls hl => ?_)
  refine W.widen (k := 86) (n := 19930) (by omega) (by have : clN 7 = 8 := rfl; have : clN 8 = 44 := rfl; omega) ?_
  have X : Cx p room_1 s m #[Value.ref b] c 86 19930 D cI cZ cJ 0 9 := ⟨hx, hb, hml, hown, htk, hK, ⟨Nat.le_of_ble_eq_true rfl, Nat.le_of_ble_eq_true rfl, Nat.le_refl _, Nat.le_refl _⟩, va_Nw.of rfl (hts _ (List.mem_of_getElem? nsF_at)), va_Nw.of rfl (hts _ (List.mem_of_getElem? nsM_at))⟩
  obtain ⟨n, hn⟩ := hmain L xs hL
  have hsc : Sc s s.heap (fun q : Nat => s.heap.size ≤ q) (ad0 b q0 u0 q1 u1) (me0 L xs) 0 := fun _ => ⟨L, xs, hX, hbl, hbA, hL, rfl, fun j _ => rfl⟩
  have hkr : Kr p l e room_1 s m #[Value.ref b] below meth c 86 19930 (lw_Z below #[Value.ref b] s) s.heap (fun q : Nat => s.heap.size ≤ q) D (ad0 b q0 u0 q1 u1) cI cZ cJ (me0 L xs) 0 (fun v _ => v = 1) := by
    intro v M pc ls H locs hq hv hw
    refine ⟨fun h1 => (by cases h1), fun ty h1 hnar hd => ?_⟩
    subst hq
    exact va_forget (fun q hq => hw.2.2.1.2.2 q hq) (lw_ret hx hb hr hlocks hd)
  have hg := sound l (me0 L xs) n 9 (blk 0 0) 0 [some (vR 99), some (vR 0), some (vR 50), none] [] (me0 L xs) (fun v _ => v = 1) hn p e room_1 s m #[Value.ref b] below meth c 86 19930 (lw_Z below #[Value.ref b] s) s.heap (fun q : Nat => s.heap.size ≤ q) D (ad0 b q0 u0 q1 u1) cI cZ cJ 16 X okb0_0 hsc (by decide) hA rfl hkr
  refine hg ls _ _ ⟨hl.1, hl.2.1, fun q hq => hl.2.2 q ?_⟩ okS_nil ?_ ⟨w0_P hP, w0_D hD, hS, ?_, fun j => ⟨rfl, rfl⟩⟩
  · obtain ⟨i, w⟩ := q
    obtain ⟨v, hv, rfl⟩ := mem_prs.mp hq
    match i, hv with
    | 0, hv => have h9 : some (vR 99) = some v := hv; cases h9; simp [cvv, ad0]
    | 1, hv => have h9 : some (vR 0) = some v := hv; cases h9; simp [cvv, ad0, nt]
    | 2, hv => have h9 : some (vR 50) = some v := hv; cases h9; simp [cvv, ad0, nt]
    | 3, hv => have h9 : none = some v := hv; cases h9
    | i + 4, hv => have h9 : none = some v := hv; cases h9
  · intro i v hv
    match i, hv with
    | 0, hv => have h9 : some (vR 99) = some v := hv; cases h9; trivial
    | 1, hv => have h9 : some (vR 0) = some v := hv; cases h9; trivial
    | 2, hv => have h9 : some (vR 50) = some v := hv; cases h9; trivial
    | 3, hv => have h9 : none = some v := hv; cases h9
    | i + 4, hv => have h9 : none = some v := hv; cases h9
  · intro k j
    have hv : -2147483648 ≤ me0 L xs k j ∧ me0 L xs k j < 2147483648 := by
      unfold me0
      split
      · split <;> omega
      · split
        · omega
        · split
          · exact i_rng _
          · omega
    unfold rg
    split
    · constructor <;> omega
    · exact hv
end
section
noncomputable def b01 (p : Prop) : Int := @ite Int p (Classical.propDecidable p) 1 0
theorem b01_t {p : Prop} (h : p) : b01 p = 1 := by unfold b01; rw [if_pos h]
theorem b01_f {p : Prop} (h : ¬ p) : b01 p = 0 := by unfold b01; rw [if_neg h]
theorem c_76 {d : Nat} {M : Me} {a b c : Int} {Q : Int → Me → Prop} (h : Q (b01 (b ≤ a ∧ a ≤ c)) M) : Cl d 76 [vI a, vI b, vI c] M Q := by
  unfold Cl
  rw [en_76]
  simp only [bq76_0, bq76_1, bq76_2, s_0, lgI_some, s_3, s_30, cnP_0, cnP_1, cnP_2, cnP_3, cnP_4, cnP_5, s_31, s_32, s_37i, s_37z, lg_0, lg_1, lg_2, List.length_cons, List.length_nil, Nat.reduceAdd, Nat.reduceLT, Nat.reduceLeDiff, true_and, and_true, true_or, or_true, Int.reduceEq, Nat.reduceEqDiff, reduceCtorEq, true_implies, false_implies, not_true_eq_false, not_false_eq_true, Nat.zero_le, Int.zero_add, Nat.zero_add, Nat.lt_add_one, eq_self, forall_const, implies_true, Bool.false_eq_true, false_or, or_false, and_self, ne_eq, me_ne, me_self]
  refine ⟨fun q => ?_, fun q => ⟨fun q2 => ?_, fun q2 => ?_⟩⟩
  · rwa [b01_f (by omega)] at h
  · rwa [b01_f (by omega)] at h
  · rwa [b01_t (by omega)] at h
theorem c_85 {d : Nat} {M : Me} {a b c : Int} {Q : Int → Me → Prop} (h : Q (b01 (b ≤ a ∧ a ≤ c)) M) : Cl d 85 [vI a, vI b, vI c] M Q := by
  unfold Cl
  rw [en_85]
  simp only [bq85_0, bq85_1, bq85_2, s_0, lgI_some, s_3, s_30, cnP_0, cnP_1, cnP_2, cnP_3, cnP_4, cnP_5, s_31, s_32, s_37i, s_37z, lg_0, lg_1, lg_2, List.length_cons, List.length_nil, Nat.reduceAdd, Nat.reduceLT, Nat.reduceLeDiff, true_and, and_true, true_or, or_true, Int.reduceEq, Nat.reduceEqDiff, reduceCtorEq, true_implies, false_implies, not_true_eq_false, not_false_eq_true, Nat.zero_le, Int.zero_add, Nat.zero_add, Nat.lt_add_one, eq_self, forall_const, implies_true, Bool.false_eq_true, false_or, or_false, and_self, ne_eq, me_ne, me_self]
  refine ⟨fun q => ?_, fun q => ⟨fun q2 => ?_, fun q2 => ?_⟩⟩
  · rwa [b01_f (by omega)] at h
  · rwa [b01_f (by omega)] at h
  · rwa [b01_t (by omega)] at h
theorem c_1 {d : Nat} {M : Me} {b : Int} {Q : Int → Me → Prop} (h : Q (b01 (0 ≤ b ∧ b < M 1 8)) M) : Cl d 1 [vR 1, vI b] M Q := by
  unfold Cl
  rw [en_1]
  simp only [bq1_0, bq1_1, bq1_2, s_0, lgI_some, s_3, s_29, cnP_0, cnP_1, cnP_2, cnP_3, cnP_4, cnP_5, s_30, s_31, s_32, s_37i, s_37z, s_47, lgR_some, lg_0, lg_1, g_1_8, List.length_cons, List.length_nil, Nat.reduceAdd, Nat.reduceLT, Nat.reduceLeDiff, true_and, and_true, true_or, or_true, Int.reduceEq, Nat.reduceEqDiff, reduceCtorEq, true_implies, false_implies, not_true_eq_false, not_false_eq_true, Nat.zero_le, Int.zero_add, Nat.zero_add, Nat.lt_add_one, eq_self, forall_const, implies_true, Bool.false_eq_true, false_or, or_false, and_self, ne_eq, me_ne, me_self]
  refine ⟨fun q => ?_, fun q => ⟨fun q2 => ?_, fun q2 => ?_⟩⟩
  · rwa [b01_f (by omega)] at h
  · rwa [b01_f (by omega)] at h
  · rwa [b01_t (by omega)] at h
theorem c_7 {d : Nat} {M : Me} {b : Int} {Q : Int → Me → Prop} (h : Q (b01 (0 ≤ b ∧ b < M 2 8)) M) : Cl d 7 [vR 2, vI b] M Q := by
  unfold Cl
  rw [en_7]
  simp only [bq7_0, bq7_1, bq7_2, s_0, lgI_some, s_3, s_29, cnP_0, cnP_1, cnP_2, cnP_3, cnP_4, cnP_5, s_30, s_31, s_32, s_37i, s_37z, s_47, lgR_some, lg_0, lg_1, g_2_8, List.length_cons, List.length_nil, Nat.reduceAdd, Nat.reduceLT, Nat.reduceLeDiff, true_and, and_true, true_or, or_true, Int.reduceEq, Nat.reduceEqDiff, reduceCtorEq, true_implies, false_implies, not_true_eq_false, not_false_eq_true, Nat.zero_le, Int.zero_add, Nat.zero_add, Nat.lt_add_one, eq_self, forall_const, implies_true, Bool.false_eq_true, false_or, or_false, and_self, ne_eq, me_ne, me_self]
  refine ⟨fun q => ?_, fun q => ⟨fun q2 => ?_, fun q2 => ?_⟩⟩
  · rwa [b01_f (by omega)] at h
  · rwa [b01_f (by omega)] at h
  · rwa [b01_t (by omega)] at h
theorem c_12 {d : Nat} {M : Me} {Q : Int → Me → Prop} (h : Q 0 (me_put M 7 17 0)) : Cl d 12 [vR 7] M Q := by
  unfold Cl
  rw [en_12]
  simp only [bq12_0, s_3, s_38, s_47, lgR_some, lg_0, p_7_17, List.length_cons, List.length_nil, Nat.reduceAdd, Nat.reduceLT, Nat.reduceLeDiff, true_and, and_true, true_or, or_true, Int.reduceEq, Nat.reduceEqDiff, reduceCtorEq, true_implies, false_implies, not_true_eq_false, not_false_eq_true, Nat.zero_le, Int.zero_add, Nat.zero_add, Nat.lt_add_one, eq_self, forall_const, implies_true, Bool.false_eq_true, false_or, or_false, and_self, ne_eq, me_ne, me_self]
  exact h
theorem c_43 {d : Nat} {M : Me} {Q : Int → Me → Prop} (h : Q 0 (me_put M 6 2 0)) : Cl d 43 [vR 6] M Q := by
  unfold Cl
  rw [en_43]
  simp only [bq43_0, s_3, s_38, s_47, lgR_some, lg_0, p_6_2, List.length_cons, List.length_nil, Nat.reduceAdd, Nat.reduceLT, Nat.reduceLeDiff, true_and, and_true, true_or, or_true, Int.reduceEq, Nat.reduceEqDiff, reduceCtorEq, true_implies, false_implies, not_true_eq_false, not_false_eq_true, Nat.zero_le, Int.zero_add, Nat.zero_add, Nat.lt_add_one, eq_self, forall_const, implies_true, Bool.false_eq_true, false_or, or_false, and_self, ne_eq, me_ne, me_self]
  exact h
theorem c_82 {d : Nat} {M : Me} {Q : Int → Me → Prop} (h : Q 0 (me_put (me_put M 6 2 0) 7 17 0)) : Cl (d + 1) 82 [vR 0] M Q := by
  unfold Cl
  rw [en_82]
  simp only [bq82_0, s_38, s_47, lgR_some, s_51, res_0, res_1, nlg_n, nlg_I, nlg_R, Bool.true_and, Bool.and_self, Bool.and_true, lg_0, g_0_5, g_0_6, rc_12_7, rc_43_6, List.length_cons, List.length_nil, Nat.reduceAdd, Nat.reduceLT, Nat.reduceLeDiff, true_and, and_true, true_or, or_true, Int.reduceEq, Nat.reduceEqDiff, reduceCtorEq, true_implies, false_implies, not_true_eq_false, not_false_eq_true, Nat.zero_le, Int.zero_add, Nat.zero_add, Nat.lt_add_one, eq_self, forall_const, implies_true, Bool.false_eq_true, false_or, or_false, and_self, ne_eq, me_ne, me_self]
  exact c_43 (c_12 h)
end
section
theorem c_9 {d : Nat} {M : Me} {k hr : Int} {Q : Int → Me → Prop} (hk : 0 ≤ k ∧ k < 12) (h : Q (b01 (M 23 k ≠ -1 ∧ M 23 k ≤ hr)) M) : Cl d 9 [vR 2, vI k, vI hr] M Q := by
  unfold Cl
  rw [en_9]
  simp only [bq9_0, bq9_1, bq9_2, s_0, lgI_some, s_3, s_24, s_30, cnP_0, cnP_1, cnP_2, cnP_3, cnP_4, cnP_5, s_31, s_32, s_37i, s_37z, s_47, lgR_some, kd_9, kd_10, kd_11, kd_12, kd_13, kd_14, kd_15, kd_16, kd_17, kd_18, kd_19, kd_20, kd_21, kd_22, kd_23, kd_24, kd_25, kd_26, kd_27, kd_28, kd_29, kd_30, kd_31, kd_32, kd_33, kd_34, kd_35, kd_36, kd_37, kd_38, kd_39, kd_40, kd_41, kd_42, kd_43, kd_44, kd_45, kd_46, kd_47, kd_48, kd_49, ln_9, ln_10, ln_11, ln_12, ln_13, ln_14, ln_15, ln_16, ln_17, ln_18, ln_19, ln_20, ln_21, ln_22, ln_23, ln_24, ln_25, ln_26, ln_27, ln_28, ln_29, ln_30, ln_31, ln_32, ln_33, ln_34, ln_35, ln_36, ln_37, ln_38, ln_39, ln_40, ln_41, ln_42, ln_43, ln_44, ln_45, ln_46, ln_47, ln_48, ln_49, lg_0, lg_1, lg_2, g_2_6, List.length_cons, List.length_nil, Nat.reduceAdd, Nat.reduceLT, Nat.reduceLeDiff, true_and, and_true, true_or, or_true, Int.reduceEq, Nat.reduceEqDiff, reduceCtorEq, true_implies, false_implies, not_true_eq_false, not_false_eq_true, Nat.zero_le, Int.zero_add, Nat.zero_add, Nat.lt_add_one, eq_self, forall_const, implies_true, Bool.false_eq_true, false_or, or_false, and_self, ne_eq, me_ne, me_self]
  refine ⟨hk, fun q => ?_, fun q => ⟨hk, fun q2 => ?_, fun q2 => ?_⟩⟩
  · rwa [b01_f (by omega)] at h
  · rwa [b01_f (by omega)] at h
  · rwa [b01_t (by omega)] at h
theorem c_93 {d : Nat} {M : Me} {k hr : Int} {Q : Int → Me → Prop} (hk : 0 ≤ k ∧ k < 12) (h : Q (b01 (M 63 k ≠ -1 ∧ M 63 k ≤ hr)) M) : Cl d 93 [vR 50, vI k, vI hr] M Q := by
  unfold Cl
  rw [en_93]
  simp only [bq93_0, bq93_1, bq93_2, s_0, lgI_some, s_3, s_24, s_30, cnP_0, cnP_1, cnP_2, cnP_3, cnP_4, cnP_5, s_31, s_32, s_37i, s_37z, s_47, lgR_some, kd_51, kd_52, kd_53, kd_54, kd_55, kd_56, kd_57, kd_58, kd_59, kd_60, kd_61, kd_62, kd_63, kd_64, kd_65, kd_66, kd_67, kd_68, kd_69, kd_70, kd_71, kd_72, kd_73, kd_74, kd_75, kd_76, kd_77, kd_78, kd_79, kd_80, kd_81, kd_82, kd_83, kd_84, kd_85, ln_51, ln_52, ln_53, ln_54, ln_55, ln_56, ln_57, ln_58, ln_59, ln_60, ln_61, ln_62, ln_63, ln_64, ln_65, ln_66, ln_67, ln_68, ln_69, ln_70, ln_71, ln_72, ln_73, ln_74, ln_75, ln_76, ln_77, ln_78, ln_79, ln_80, ln_81, ln_82, ln_83, ln_84, ln_85, lg_0, lg_1, lg_2, g_50_15, List.length_cons, List.length_nil, Nat.reduceAdd, Nat.reduceLT, Nat.reduceLeDiff, true_and, and_true, true_or, or_true, Int.reduceEq, Nat.reduceEqDiff, reduceCtorEq, true_implies, false_implies, not_true_eq_false, not_false_eq_true, Nat.zero_le, Int.zero_add, Nat.zero_add, Nat.lt_add_one, eq_self, forall_const, implies_true, Bool.false_eq_true, false_or, or_false, and_self, ne_eq, me_ne, me_self]
  refine ⟨hk, fun q => ?_, fun q => ⟨hk, fun q2 => ?_, fun q2 => ?_⟩⟩
  · rwa [b01_f (by omega)] at h
  · rwa [b01_f (by omega)] at h
  · rwa [b01_t (by omega)] at h
end
section
theorem c_2 {d : Nat} {M : Me} {b : Int} {Q : Int → Me → Prop} (hn : M 1 8 ≤ 10) (h : Q (b01 (0 ≤ b ∧ b < M 1 8 ∧ M 9 b ≠ 0)) M) : Cl (d + 1) 2 [vR 1, vI b] M Q := by
  unfold Cl
  rw [en_2]
  simp only [bq2_0, bq2_1, bq2_2, s_0, lgI_some, s_3, s_29, cnP_0, cnP_1, cnP_2, cnP_3, cnP_4, cnP_5, s_31, s_32, s_37i, s_37z, s_46, s_47, lgR_some, s_52, res_0, res_1, nlg_n, nlg_I, nlg_R, Bool.true_and, Bool.and_self, Bool.and_true, kd_9, kd_10, kd_11, kd_12, kd_13, kd_14, kd_15, kd_16, kd_17, kd_18, kd_19, kd_20, kd_21, kd_22, kd_23, kd_24, kd_25, kd_26, kd_27, kd_28, kd_29, kd_30, kd_31, kd_32, kd_33, kd_34, kd_35, kd_36, kd_37, kd_38, kd_39, kd_40, kd_41, kd_42, kd_43, kd_44, kd_45, kd_46, kd_47, kd_48, kd_49, ln_9, ln_10, ln_11, ln_12, ln_13, ln_14, ln_15, ln_16, ln_17, ln_18, ln_19, ln_20, ln_21, ln_22, ln_23, ln_24, ln_25, ln_26, ln_27, ln_28, ln_29, ln_30, ln_31, ln_32, ln_33, ln_34, ln_35, ln_36, ln_37, ln_38, ln_39, ln_40, ln_41, ln_42, ln_43, ln_44, ln_45, ln_46, ln_47, ln_48, ln_49, lg_0, lg_1, g_1_0, rc_1_1, List.length_cons, List.length_nil, Nat.reduceAdd, Nat.reduceLT, Nat.reduceLeDiff, true_and, and_true, true_or, or_true, Int.reduceEq, Nat.reduceEqDiff, reduceCtorEq, true_implies, false_implies, not_true_eq_false, not_false_eq_true, Nat.zero_le, Int.zero_add, Nat.zero_add, Nat.lt_add_one, eq_self, forall_const, implies_true, Bool.false_eq_true, false_or, or_false, and_self, ne_eq, me_ne, me_self]
  refine c_1 ⟨fun q => ?_, fun q => ?_⟩
  · by_cases h1 : 0 ≤ b ∧ b < M 1 8
    · rw [b01_t h1] at q; omega
    · rwa [b01_f (by omega)] at h
  · by_cases h1 : 0 ≤ b ∧ b < M 1 8
    · refine ⟨⟨h1.1, by omega⟩, fun q2 => ?_, fun q2 => ?_⟩
      · rwa [b01_f (by omega)] at h
      · rwa [b01_t ⟨h1.1, h1.2, q2⟩] at h
    · rw [b01_f h1] at q; omega
theorem c_10 {d : Nat} {M : Me} {k hr n : Int} {Q : Int → Me → Prop} (hk : 0 ≤ k ∧ k < 12) (hh : 0 ≤ hr ∧ hr < 100) (h : Q 0 (me_put M 24 (k * 100 + hr) (w32 (M 24 (k * 100 + hr) + n)))) : Cl d 10 [vR 2, vI k, vI hr, vI n] M Q := by
  unfold Cl
  rw [en_10]
  simp only [bq10_0, bq10_1, s_0, lgI_some, s_3, s_6, s_8, s_24, s_25, s_29, cnP_0, cnP_1, cnP_2, cnP_3, cnP_4, cnP_5, s_30, s_32, s_34, s_38, s_47, lgR_some, kd_9, kd_10, kd_11, kd_12, kd_13, kd_14, kd_15, kd_16, kd_17, kd_18, kd_19, kd_20, kd_21, kd_22, kd_23, kd_24, kd_25, kd_26, kd_27, kd_28, kd_29, kd_30, kd_31, kd_32, kd_33, kd_34, kd_35, kd_36, kd_37, kd_38, kd_39, kd_40, kd_41, kd_42, kd_43, kd_44, kd_45, kd_46, kd_47, kd_48, kd_49, ln_9, ln_10, ln_11, ln_12, ln_13, ln_14, ln_15, ln_16, ln_17, ln_18, ln_19, ln_20, ln_21, ln_22, ln_23, ln_24, ln_25, ln_26, ln_27, ln_28, ln_29, ln_30, ln_31, ln_32, ln_33, ln_34, ln_35, ln_36, ln_37, ln_38, ln_39, ln_40, ln_41, ln_42, ln_43, ln_44, ln_45, ln_46, ln_47, ln_48, ln_49, lg_0, lg_1, lg_2, lg_3, g_2_7, List.length_cons, List.length_nil, Nat.reduceAdd, Nat.reduceLT, Nat.reduceLeDiff, true_and, and_true, true_or, or_true, Int.reduceEq, Nat.reduceEqDiff, reduceCtorEq, true_implies, false_implies, not_true_eq_false, not_false_eq_true, Nat.zero_le, Int.zero_add, Nat.zero_add, Nat.lt_add_one, eq_self, forall_const, implies_true, Bool.false_eq_true, false_or, or_false, and_self, ne_eq, me_ne, me_self]
  have e1 : w32 (k * 100) = k * 100 := w32_id (by omega) (by omega)
  have e2 : w32 (k * 100 + hr) = k * 100 + hr := w32_id (by omega) (by omega)
  rw [e1, e2]
  refine ⟨fun q => by omega, fun q => ⟨fun q2 => by omega, fun q2 => ⟨by omega, by omega, h⟩⟩⟩
end
section
/-! sums, and the theory of flows: a valid flow, a shut heap, the cut -/
def sm : Nat → (Int → Int) → Int
  | 0, _ => 0
  | n + 1, f => sm n f + f (n : Int)
theorem sm_cg {n : Nat} {f g : Int → Int} (h : ∀ i : Int, 0 ≤ i → i < n → f i = g i) : sm n f = sm n g := by
  induction n with
  | zero => rfl
  | succ n ih =>
    simp only [sm]
    rw [ih (fun i h1 h2 => h i h1 (by omega)), h n (by omega) (by omega)]
theorem sm_le {n : Nat} {f g : Int → Int} (h : ∀ i : Int, 0 ≤ i → i < n → f i ≤ g i) : sm n f ≤ sm n g := by
  induction n with
  | zero => exact Int.le_refl _
  | succ n ih =>
    simp only [sm]
    have h1 := ih (fun i h1 h2 => h i h1 (by omega))
    have h2 := h n (by omega) (by omega)
    omega
theorem sm_ee {n : Nat} {f g : Int → Int} (h : ∀ i : Int, 0 ≤ i → i < n → f i ≤ g i) (e : sm n f = sm n g) : ∀ i : Int, 0 ≤ i → i < n → f i = g i := by
  induction n with
  | zero => intro i h1 h2; omega
  | succ n ih =>
    simp only [sm] at e
    have h1 := sm_le (n := n) (f := f) (g := g) (fun i h1 h2 => h i h1 (by omega))
    have h2 := h n (by omega) (by omega)
    intro i h3 h4
    by_cases q : i = n
    · subst q; omega
    · exact ih (fun i h1 h2 => h i h1 (by omega)) (by omega) i h3 (by omega)
theorem sm_up {n : Nat} {f g : Int → Int} {k x : Int} (h0 : 0 ≤ k) (h1 : k < n) (hk : g k = f k + x) (ho : ∀ i : Int, 0 ≤ i → i < n → i ≠ k → g i = f i) : sm n g = sm n f + x := by
  induction n with
  | zero => omega
  | succ n ih =>
    simp only [sm]
    by_cases q : k = n
    · subst q
      rw [sm_cg (f := g) (g := f) (fun i h1 h2 => ho i h1 (by omega) (by omega)), hk]
      omega
    · rw [ih (by omega) (fun i h1 h2 h3 => ho i h1 (by omega) h3), ho n (by omega) (by omega) (by omega)]
      omega
theorem sm2_up {a b : Nat} {F G : Int → Int → Int} {c h x : Int} (hc0 : 0 ≤ c) (hc : c < a) (hh0 : 0 ≤ h) (hh : h < b) (hk : G c h = F c h + x) (ho : ∀ i j : Int, 0 ≤ i → i < a → 0 ≤ j → j < b → ¬ (i = c ∧ j = h) → G i j = F i j) : sm a (fun i => sm b (G i)) = sm a (fun i => sm b (F i)) + x := by
  refine sm_up hc0 hc ?_ ?_
  · exact sm_up hh0 hh hk (fun j h1 h2 h3 => ho c j hc0 hc h1 h2 (fun q => h3 q.2))
  · intro i h1 h2 h3
    exact sm_cg (fun j h4 h5 => ho i j h1 h2 h4 h5 (fun q => h3 q.1))
theorem sm_0 (n : Nat) : sm n (fun _ => 0) = 0 := by
  induction n with
  | zero => rfl
  | succ n ih => simp only [sm]; omega
/-- a place: a cell and an hour in which it isn't wet -/
def pl (K : Me) (c h : Int) : Prop := 0 ≤ c ∧ c < 10 ∧ c < K 1 8 ∧ K 9 c ≠ 0 ∧ K 5 2 ≤ h ∧ h ≤ 100 ∧ K 38 (h * 10 + c) < K 10 c
def hdv (K : Me) (χ : Int → Int → Int) (w r h : Int) : Int := if K 26 r = -1 then w else χ (K 26 r) (h + K 28 r)
def LL (K : Me) (g : Int → Int) (wt st : Int → Int → Int) (χ : Int → Int → Int) (w : Int) : Int :=
  sm 10 (fun c => g c * χ c (K 5 2)) + sm 10 (fun c => sm 101 (fun h => wt c h * (χ c (h + 1) - χ c h))) + sm 12 (fun r => sm 101 (fun h => st r h * (hdv K χ w r h - χ (K 25 r) h)))
def Vg (K : Me) (g : Int → Int) : Prop := ∀ c : Int, 0 ≤ c → c < 10 → 0 ≤ g c ∧ (g c ≠ 0 → pl K c (K 5 2) ∧ g c ≤ K 13 c)
def Vw (K : Me) (t : Int) (wt : Int → Int → Int) : Prop := ∀ c h : Int, 0 ≤ c → c < 10 → 0 ≤ h → h < 101 → 0 ≤ wt c h ∧ (wt c h ≠ 0 → pl K c h ∧ pl K c (h + 1) ∧ h + 1 ≤ t)
def Vs (K : Me) (t : Int) (st : Int → Int → Int) : Prop := ∀ r h : Int, 0 ≤ r → r < 12 → 0 ≤ h → h < 101 → 0 ≤ st r h ∧ (st r h ≠ 0 → r < K 3 8 ∧ st r h ≤ K 27 r ∧ pl K (K 25 r) h ∧ h + K 28 r ≤ t ∧ (K 26 r ≠ -1 → pl K (K 26 r) (h + K 28 r)))
/-- a valid flow to hour t, of value v -/
def Vl (K : Me) (t : Int) (g : Int → Int) (wt st : Int → Int → Int) (v : Int) : Prop :=
  Vg K g ∧ Vw K t wt ∧ Vs K t st ∧ ∀ χ w, LL K g wt st χ w = v * w
/-- closed under steps beside the flow -/
def Cz (K : Me) (t : Int) (g : Int → Int) (wt st : Int → Int → Int) (S : Int → Int → Prop) : Prop :=
  (∀ c, pl K c (K 5 2) → g c < K 13 c → S c (K 5 2)) ∧
  (∀ c h, S c h → pl K c h → pl K c (h + 1) → h + 1 ≤ t → S c (h + 1)) ∧
  (∀ c h, S c (h + 1) → pl K c h → 0 < wt c h → S c h) ∧
  (∀ r h, 0 ≤ r → r < 12 → r < K 3 8 → K 26 r ≠ -1 → S (K 25 r) h → pl K (K 25 r) h → pl K (K 26 r) (h + K 28 r) → h + K 28 r ≤ t → st r h < K 27 r → S (K 26 r) (h + K 28 r)) ∧
  (∀ r h, 0 ≤ r → r < 12 → r < K 3 8 → K 26 r ≠ -1 → S (K 26 r) (h + K 28 r) → pl K (K 25 r) h → 0 < st r h → S (K 25 r) h)
/-- no step to OUT is left -/
def Nz (K : Me) (t : Int) (st : Int → Int → Int) (S : Int → Int → Prop) : Prop :=
  ∀ r h, 0 ≤ r → r < 12 → r < K 3 8 → K 26 r = -1 → S (K 25 r) h → pl K (K 25 r) h → h + K 28 r ≤ t → K 27 r ≤ st r h
section FL
variable {K : Me} {t v v' : Int} {g g' : Int → Int} {wt wt' st st' : Int → Int → Int} {S : Int → Int → Prop}
noncomputable def chi (S : Int → Int → Prop) (c h : Int) : Int := @ite Int (S c h) (Classical.propDecidable _) 0 1
theorem chi_t {c h : Int} (q : S c h) : chi S c h = 0 := by unfold chi; rw [if_pos q]
theorem chi_f {c h : Int} (q : ¬ S c h) : chi S c h = 1 := by unfold chi; rw [if_neg q]
theorem cut_g (V : Vg K g) (V' : Vg K g') (C : Cz K t g wt st S) {c : Int} (h0 : 0 ≤ c) (h1 : c < 10) : g' c * chi S c (K 5 2) ≤ g c * chi S c (K 5 2) := by
  by_cases q : S c (K 5 2)
  · rw [chi_t q]; omega
  · rw [chi_f q]
    have a := V c h0 h1
    have b := V' c h0 h1
    by_cases z : g' c = 0
    · omega
    · have d := b.2 z
      have : ¬ g c < K 13 c := fun e => q (C.1 c d.1 e)
      omega
theorem cut_w (V : Vw K t wt) (V' : Vw K t wt') (C : Cz K t g wt st S) {c h : Int} (h0 : 0 ≤ c) (h1 : c < 10) (h2 : 0 ≤ h) (h3 : h < 101) : wt' c h * (chi S c (h + 1) - chi S c h) ≤ wt c h * (chi S c (h + 1) - chi S c h) := by
  have a := V c h h0 h1 h2 h3
  have b := V' c h h0 h1 h2 h3
  by_cases q : S c h
  · by_cases p : S c (h + 1)
    · rw [chi_t q, chi_t p]; omega
    · rw [chi_t q, chi_f p]
      by_cases z : wt' c h = 0
      · omega
      · have d := b.2 z
        exact (p (C.2.1 c h q d.1 d.2.1 d.2.2)).elim
  · by_cases p : S c (h + 1)
    · rw [chi_f q, chi_t p]
      by_cases z : wt c h = 0
      · omega
      · exact (q (C.2.2.1 c h p (a.2 z).1 (by omega))).elim
    · rw [chi_f q, chi_f p]; omega
theorem cut_s (V : Vs K t st) (V' : Vs K t st') (C : Cz K t g wt st S) (N : Nz K t st S) {r h : Int} (h0 : 0 ≤ r) (h1 : r < 12) (h2 : 0 ≤ h) (h3 : h < 101) : st' r h * (hdv K (chi S) 1 r h - chi S (K 25 r) h) ≤ st r h * (hdv K (chi S) 1 r h - chi S (K 25 r) h) := by
  have a := V r h h0 h1 h2 h3
  have b := V' r h h0 h1 h2 h3
  unfold hdv
  by_cases o : K 26 r = -1
  · rw [if_pos o]
    by_cases q : S (K 25 r) h
    · rw [chi_t q]
      by_cases z : st' r h = 0
      · omega
      · have d := b.2 z
        have := N r h h0 h1 d.1 o q d.2.2.1 d.2.2.2.1
        omega
    · rw [chi_f q]; omega
  · rw [if_neg o]
    by_cases q : S (K 25 r) h
    · by_cases p : S (K 26 r) (h + K 28 r)
      · rw [chi_t q, chi_t p]; omega
      · rw [chi_t q, chi_f p]
        by_cases z : st' r h = 0
        · omega
        · have d := b.2 z
          have : ¬ st r h < K 27 r := fun e => p (C.2.2.2.1 r h h0 h1 d.1 o q d.2.2.1 (d.2.2.2.2 o) d.2.2.2.1 e)
          omega
    · by_cases p : S (K 26 r) (h + K 28 r)
      · rw [chi_f q, chi_t p]
        by_cases z : st r h = 0
        · omega
        · have d := a.2 z
          exact (q (C.2.2.2.2 r h h0 h1 d.1 o p d.2.2.1 (by omega))).elim
      · rw [chi_f q, chi_f p]; omega
/-- no flow is greater than one with a cut, and one that is as great has the same cut -/
theorem cut_le (hn : 0 ≤ K 5 2) (V : Vl K t g wt st v) (C : Cz K t g wt st S) (N : Nz K t st S) (V' : Vl K t g' wt' st' v') : v' ≤ v ∧ (v' = v → Cz K t g' wt' st' S ∧ Nz K t st' S) := by
  have e1 := V.2.2.2 (chi S) 1
  have e2 := V'.2.2.2 (chi S) 1
  unfold LL at e1 e2
  have l1 := sm_le (n := 10) (fun c h0 h1 => cut_g V.1 V'.1 C h0 (by omega))
  have i2 := fun (c : Int) (h0 : 0 ≤ c) (h1 : c < 10) => sm_le (n := 101) (fun h h2 h3 => cut_w V.2.1 V'.2.1 C h0 h1 h2 (by omega))
  have l2 := sm_le (n := 10) (fun c h0 h1 => i2 c h0 (by omega))
  have i3 := fun (r : Int) (h0 : 0 ≤ r) (h1 : r < 12) => sm_le (n := 101) (fun h h2 h3 => cut_s V.2.2.1 V'.2.2.1 C N h0 h1 h2 (by omega))
  have l3 := sm_le (n := 12) (fun c h0 h1 => i3 c h0 (by omega))
  refine ⟨by omega, fun e => ?_⟩
  have x1 := sm_ee (n := 10) (fun c h0 h1 => cut_g V.1 V'.1 C h0 (by omega)) (by omega)
  have x2 : ∀ c h : Int, 0 ≤ c → c < 10 → 0 ≤ h → h < 101 → wt' c h * (chi S c (h + 1) - chi S c h) = wt c h * (chi S c (h + 1) - chi S c h) := by
    intro c h h0 h1 h2 h3
    have := sm_ee (n := 10) (fun c h0 h1 => i2 c h0 (by omega)) (by omega) c h0 (by omega)
    exact sm_ee (n := 101) (fun h h2 h3 => cut_w V.2.1 V'.2.1 C h0 h1 h2 (by omega)) this h h2 (by omega)
  have x3 : ∀ r h : Int, 0 ≤ r → r < 12 → 0 ≤ h → h < 101 → st' r h * (hdv K (chi S) 1 r h - chi S (K 25 r) h) = st r h * (hdv K (chi S) 1 r h - chi S (K 25 r) h) := by
    intro c h h0 h1 h2 h3
    have := sm_ee (n := 12) (fun c h0 h1 => i3 c h0 (by omega)) (by omega) c h0 (by omega)
    exact sm_ee (n := 101) (fun h h2 h3 => cut_s V.2.2.1 V'.2.2.1 C N h0 h1 h2 (by omega)) this h h2 (by omega)
  refine ⟨⟨?_, C.2.1, ?_, ?_, ?_⟩, ?_⟩
  · intro c hp hl
    apply Classical.byContradiction
    intro q
    have a := x1 c hp.1 (by have := hp.2.1; omega)
    simp only [chi_f q] at a
    exact q (C.1 c hp (by omega))
  · intro c h hs hp hl
    apply Classical.byContradiction
    intro q
    have a := x2 c h hp.1 (by have := hp.2.1; omega) (by have := hp.2.2.2.2; omega) (by have := hp.2.2.2.2; omega)
    rw [chi_f q, chi_t hs] at a
    exact q (C.2.2.1 c h hs hp (by omega))
  · intro r h h0 h1 hr ho hs hp hp2 ht hl
    apply Classical.byContradiction
    intro q
    have a := x3 r h h0 h1 (by have := hp.2.2.2.2; omega) (by have := hp.2.2.2.2; omega)
    unfold hdv at a
    rw [if_neg ho, chi_f q, chi_t hs] at a
    exact q (C.2.2.2.1 r h h0 h1 hr ho hs hp hp2 ht (by omega))
  · intro r h h0 h1 hr ho hs hp hl
    apply Classical.byContradiction
    intro q
    have a := x3 r h h0 h1 (by have := hp.2.2.2.2; omega) (by have := hp.2.2.2.2; omega)
    unfold hdv at a
    rw [if_neg ho, chi_f q, chi_t hs] at a
    exact q (C.2.2.2.2 r h h0 h1 hr ho hs hp (by omega))
  · intro r h h0 h1 hr ho hs hp ht
    have a := x3 r h h0 h1 (by have := hp.2.2.2.2; omega) (by have := hp.2.2.2.2; omega)
    unfold hdv at a
    rw [if_pos ho, chi_t hs] at a
    have := N r h h0 h1 hr ho hs hp ht
    omega
/-- what can be come to beside the flow -/
def Rz (K : Me) (t : Int) (g : Int → Int) (wt st : Int → Int → Int) (c h : Int) : Prop := ∀ S, Cz K t g wt st S → S c h
theorem Rz_cz : Cz K t g wt st (Rz K t g wt st) := by
  refine ⟨?_, ?_, ?_, ?_, ?_⟩
  · intro c h1 h2 S C; exact C.1 c h1 h2
  · intro c h h1 h2 h3 h4 S C; exact C.2.1 c h (h1 S C) h2 h3 h4
  · intro c h h1 h2 h3 S C; exact C.2.2.1 c h (h1 S C) h2 h3
  · intro r h h0 h1 h2 h3 h4 h5 h6 h7 h8 S C; exact C.2.2.2.1 r h h0 h1 h2 h3 (h4 S C) h5 h6 h7 h8
  · intro r h h0 h1 h2 h3 h4 h5 h6 S C; exact C.2.2.2.2 r h h0 h1 h2 h3 (h4 S C) h5 h6
/-- the greatest -/
def Mx (K : Me) (t v : Int) : Prop := (∃ g wt st, Vl K t g wt st v) ∧ ∀ g wt st v', Vl K t g wt st v' → v' ≤ v
theorem Mx_un {v v' : Int} (h : Mx K t v) (h' : Mx K t v') : v = v' := by
  obtain ⟨⟨g, wt, st, a⟩, b⟩ := h
  obtain ⟨⟨g', wt', st', a'⟩, b'⟩ := h'
  have := b _ _ _ _ a'
  have := b' _ _ _ _ a
  omega
theorem Mx_of (hn : 0 ≤ K 5 2) (V : Vl K t g wt st v) (C : Cz K t g wt st S) (N : Nz K t st S) : Mx K t v :=
  ⟨⟨g, wt, st, V⟩, fun _ _ _ _ V' => (cut_le hn V C N V').1⟩
theorem Vl_mo {t' : Int} (ht : t ≤ t') (V : Vl K t g wt st v) : Vl K t' g wt st v := by
  refine ⟨V.1, ?_, ?_, V.2.2.2⟩
  · intro c h h0 h1 h2 h3
    have a := V.2.1 c h h0 h1 h2 h3
    exact ⟨a.1, fun z => ⟨(a.2 z).1, (a.2 z).2.1, by have := (a.2 z).2.2; omega⟩⟩
  · intro r h h0 h1 h2 h3
    have a := V.2.2.1 r h h0 h1 h2 h3
    exact ⟨a.1, fun z => ⟨(a.2 z).1, (a.2 z).2.1, (a.2 z).2.2.1, by have := (a.2 z).2.2.2.1; omega, (a.2 z).2.2.2.2⟩⟩
theorem Mx_mo {t' v v' : Int} (ht : t ≤ t') (h : Mx K t v) (h' : Mx K t' v') : v ≤ v' := by
  obtain ⟨⟨g, wt, st, a⟩, b⟩ := h
  exact h'.2 _ _ _ _ (Vl_mo ht a)
/-- the heap of two greatest flows is one -/
theorem heap_un {S' : Int → Int → Prop} (hn : 0 ≤ K 5 2) (V : Vl K t g wt st v) (C : Cz K t g wt st S) (N : Nz K t st S) (R : ∀ c h, S c h → Rz K t g wt st c h)
    (V' : Vl K t g' wt' st' v') (C' : Cz K t g' wt' st' S') (N' : Nz K t st' S') (R' : ∀ c h, S' c h → Rz K t g' wt' st' c h) : v = v' ∧ ∀ c h, S c h ↔ S' c h := by
  have a := cut_le hn V C N V'
  have b := cut_le hn V' C' N' V
  have e : v = v' := by omega
  refine ⟨e, fun c h => ⟨fun q => R c h q S' (b.2 e).1, fun q => R' c h q S (a.2 e.symm).1⟩⟩
theorem sm2_0 (a b : Nat) : sm a (fun _ => sm b (fun _ => 0)) = 0 := by
  rw [sm_0 b, sm_0 a]
theorem Vl_0 : Vl K t (fun _ => 0) (fun _ _ => 0) (fun _ _ => 0) 0 := by
  refine ⟨fun c _ _ => ⟨Int.le_refl 0, fun h => (h rfl).elim⟩, fun c h _ _ _ _ => ⟨Int.le_refl 0, fun h => (h rfl).elim⟩, fun c h _ _ _ _ => ⟨Int.le_refl 0, fun h => (h rfl).elim⟩, fun χ w => ?_⟩
  unfold LL
  simp only [Int.zero_mul, sm_0]
  omega
theorem LL_g {χ : Int → Int → Int} {w c n : Int} (h0 : 0 ≤ c) (h1 : c < 10) (hk : g' c = g c + n) (ho : ∀ i : Int, 0 ≤ i → i < 10 → i ≠ c → g' i = g i) : LL K g' wt st χ w = LL K g wt st χ w + n * χ c (K 5 2) := by
  unfold LL
  rw [sm_up (n := 10) (f := fun c => g c * χ c (K 5 2)) (g := fun c => g' c * χ c (K 5 2)) (x := n * χ c (K 5 2)) h0 (by omega) (by simp only [hk, Int.add_mul]) (fun i h1 h2 h3 => by simp only [ho i h1 (by omega) h3])]
  omega
theorem LL_w {χ : Int → Int → Int} {w c h n : Int} (h0 : 0 ≤ c) (h1 : c < 10) (h2 : 0 ≤ h) (h3 : h < 101) (hk : wt' c h = wt c h + n) (ho : ∀ i j : Int, 0 ≤ i → i < 10 → 0 ≤ j → j < 101 → ¬ (i = c ∧ j = h) → wt' i j = wt i j) : LL K g wt' st χ w = LL K g wt st χ w + n * (χ c (h + 1) - χ c h) := by
  unfold LL
  rw [sm2_up (a := 10) (b := 101) (F := fun c h => wt c h * (χ c (h + 1) - χ c h)) (G := fun c h => wt' c h * (χ c (h + 1) - χ c h)) (x := n * (χ c (h + 1) - χ c h)) h0 (by omega) h2 (by omega) (by simp only [hk, Int.add_mul]) (fun i j a1 a2 a3 a4 a5 => by simp only [ho i j a1 (by omega) a3 (by omega) a5])]
  omega
theorem LL_s {χ : Int → Int → Int} {w r h n : Int} (h0 : 0 ≤ r) (h1 : r < 12) (h2 : 0 ≤ h) (h3 : h < 101) (hk : st' r h = st r h + n) (ho : ∀ i j : Int, 0 ≤ i → i < 12 → 0 ≤ j → j < 101 → ¬ (i = r ∧ j = h) → st' i j = st i j) : LL K g wt st' χ w = LL K g wt st χ w + n * (hdv K χ w r h - χ (K 25 r) h) := by
  unfold LL
  rw [sm2_up (a := 12) (b := 101) (F := fun r h => st r h * (hdv K χ w r h - χ (K 25 r) h)) (G := fun r h => st' r h * (hdv K χ w r h - χ (K 25 r) h)) (x := n * (hdv K χ w r h - χ (K 25 r) h)) h0 (by omega) h2 (by omega) (by simp only [hk, Int.add_mul]) (fun i j a1 a2 a3 a4 a5 => by simp only [ho i j a1 (by omega) a3 (by omega) a5])]
  omega
end FL
end
section
/-! answers of the small methods, as equations -/
theorem b01_T : b01 True = 1 := b01_t trivial
theorem b01_F : b01 False = 0 := b01_f id
theorem b01_z (p : Prop) : (b01 p = 0) = ¬ p := by
  by_cases h : p
  · simp [b01_T, h]
  · simp [b01_F, h]
theorem b01_o (p : Prop) : (b01 p = 1) = p := by
  by_cases h : p
  · simp [b01_T, h]
  · simp [b01_F, h]
theorem b01_01 (p : Prop) : (b01 p = 0 ∨ b01 p = 1) = True := by
  by_cases h : p
  · simp [b01_t h]
  · simp [b01_f h]
theorem b01_cg {p q : Prop} (h : p ↔ q) : b01 p = b01 q := by rw [propext h]
section BB
variable (Q : Int → Me → Prop) {M : Me} {p q : Prop}
theorem bb1 : ((p → Q 0 M) ∧ (¬ p → Q 1 M)) = Q (b01 (¬ p)) M := by
  by_cases h : p
  · simp [b01_F, h]
  · simp [b01_T, h]
theorem bb2 : ((¬ p → Q 0 M) ∧ (p → Q 1 M)) = Q (b01 p) M := by
  by_cases h : p
  · simp [b01_T, h]
  · simp [b01_F, h]
theorem bb3 : ((p → Q 0 M) ∧ (¬ p → Q (b01 q) M)) = Q (b01 (¬ p ∧ q)) M := by
  by_cases h : p
  · simp [b01_F, h]
  · simp [h]
theorem bb4 : ((¬ p → Q 0 M) ∧ (p → Q (b01 q) M)) = Q (b01 (p ∧ q)) M := by
  by_cases h : p
  · simp [h]
  · simp [b01_F, h]
theorem bb5 (h : p ↔ q) : Q (b01 p) M = Q (b01 q) M := by rw [propext h]
end BB
section QB
variable {d : Nat} {M : Me} {Q : Int → Me → Prop}
theorem q_76 {a b c : Int} : Cl d 76 [vI a, vI b, vI c] M Q = Q (b01 (b ≤ a ∧ a ≤ c)) M := by
  unfold Cl
  rw [en_76]
  simp only [bq76_0, bq76_1, bq76_2, s_0, lgI_some, s_3, s_30, cnP_0, cnP_1, cnP_2, cnP_3, cnP_4, cnP_5, s_31, s_32, s_37i, s_37z, lg_0, lg_1, lg_2, List.length_cons, List.length_nil, Nat.reduceAdd, Nat.reduceLT, Nat.reduceLeDiff, true_and, and_true, true_or, or_true, Int.reduceEq, Nat.reduceEqDiff, reduceCtorEq, true_implies, false_implies, not_true_eq_false, not_false_eq_true, Nat.zero_le, Int.zero_add, Nat.zero_add, Nat.lt_add_one, eq_self, forall_const, implies_true, Bool.false_eq_true, false_or, or_false, and_self, ne_eq, me_ne, me_self]
  simp only [bb1 Q, bb3 Q]
  exact bb5 Q (by omega)
theorem q_85 {a b c : Int} : Cl d 85 [vI a, vI b, vI c] M Q = Q (b01 (b ≤ a ∧ a ≤ c)) M := by
  unfold Cl
  rw [en_85]
  simp only [bq85_0, bq85_1, bq85_2, s_0, lgI_some, s_3, s_30, cnP_0, cnP_1, cnP_2, cnP_3, cnP_4, cnP_5, s_31, s_32, s_37i, s_37z, lg_0, lg_1, lg_2, List.length_cons, List.length_nil, Nat.reduceAdd, Nat.reduceLT, Nat.reduceLeDiff, true_and, and_true, true_or, or_true, Int.reduceEq, Nat.reduceEqDiff, reduceCtorEq, true_implies, false_implies, not_true_eq_false, not_false_eq_true, Nat.zero_le, Int.zero_add, Nat.zero_add, Nat.lt_add_one, eq_self, forall_const, implies_true, Bool.false_eq_true, false_or, or_false, and_self, ne_eq, me_ne, me_self]
  simp only [bb1 Q, bb3 Q]
  exact bb5 Q (by omega)
theorem q_1 {b : Int} : Cl d 1 [vR 1, vI b] M Q = Q (b01 (0 ≤ b ∧ b < M 1 8)) M := by
  unfold Cl
  rw [en_1]
  simp only [bq1_0, bq1_1, bq1_2, s_0, lgI_some, s_3, s_29, cnP_0, cnP_1, cnP_2, cnP_3, cnP_4, cnP_5, s_30, s_31, s_32, s_37i, s_37z, s_47, lgR_some, lg_0, lg_1, g_1_8, List.length_cons, List.length_nil, Nat.reduceAdd, Nat.reduceLT, Nat.reduceLeDiff, true_and, and_true, true_or, or_true, Int.reduceEq, Nat.reduceEqDiff, reduceCtorEq, true_implies, false_implies, not_true_eq_false, not_false_eq_true, Nat.zero_le, Int.zero_add, Nat.zero_add, Nat.lt_add_one, eq_self, forall_const, implies_true, Bool.false_eq_true, false_or, or_false, and_self, ne_eq, me_ne, me_self]
  simp only [bb1 Q, bb3 Q]
  exact bb5 Q (by omega)
theorem q_2 {b : Int} (hn : M 1 8 ≤ 10) : Cl (d + 1) 2 [vR 1, vI b] M Q = Q (b01 (0 ≤ b ∧ b < M 1 8 ∧ M 9 b ≠ 0)) M := by
  unfold Cl
  rw [en_2]
  simp only [bq2_0, bq2_1, bq2_2, s_0, lgI_some, s_3, s_29, cnP_0, cnP_1, cnP_2, cnP_3, cnP_4, cnP_5, s_31, s_32, s_37i, s_37z, s_46, s_47, lgR_some, s_52, res_0, res_1, nlg_n, nlg_I, nlg_R, Bool.true_and, Bool.and_self, Bool.and_true, kd_9, kd_10, kd_11, kd_12, kd_13, kd_14, kd_15, kd_16, kd_17, kd_18, kd_19, kd_20, kd_21, kd_22, kd_23, kd_24, kd_25, kd_26, kd_27, kd_28, kd_29, kd_30, kd_31, kd_32, kd_33, kd_34, kd_35, kd_36, kd_37, kd_38, kd_39, kd_40, kd_41, kd_42, kd_43, kd_44, kd_45, kd_46, kd_47, kd_48, kd_49, ln_9, ln_10, ln_11, ln_12, ln_13, ln_14, ln_15, ln_16, ln_17, ln_18, ln_19, ln_20, ln_21, ln_22, ln_23, ln_24, ln_25, ln_26, ln_27, ln_28, ln_29, ln_30, ln_31, ln_32, ln_33, ln_34, ln_35, ln_36, ln_37, ln_38, ln_39, ln_40, ln_41, ln_42, ln_43, ln_44, ln_45, ln_46, ln_47, ln_48, ln_49, lg_0, lg_1, g_1_0, rc_1_1, List.length_cons, List.length_nil, Nat.reduceAdd, Nat.reduceLT, Nat.reduceLeDiff, true_and, and_true, true_or, or_true, Int.reduceEq, Nat.reduceEqDiff, reduceCtorEq, true_implies, false_implies, not_true_eq_false, not_false_eq_true, Nat.zero_le, Int.zero_add, Nat.zero_add, Nat.lt_add_one, eq_self, forall_const, implies_true, Bool.false_eq_true, false_or, or_false, and_self, ne_eq, me_ne, me_self, q_1, b01_z, Classical.not_not]
  by_cases h1 : 0 ≤ b ∧ b < M 1 8
  · simp only [h1, not_true_eq_false, false_implies, true_and, true_implies, show b < 10 by omega, bb1 Q]
  · simp only [h1, not_false_eq_true, true_implies, false_implies, and_true]
    rw [b01_f (by omega)]
theorem q_7 {b : Int} : Cl d 7 [vR 2, vI b] M Q = Q (b01 (0 ≤ b ∧ b < M 2 8)) M := by
  unfold Cl
  rw [en_7]
  simp only [bq7_0, bq7_1, bq7_2, s_0, lgI_some, s_3, s_29, cnP_0, cnP_1, cnP_2, cnP_3, cnP_4, cnP_5, s_30, s_31, s_32, s_37i, s_37z, s_47, lgR_some, lg_0, lg_1, g_2_8, List.length_cons, List.length_nil, Nat.reduceAdd, Nat.reduceLT, Nat.reduceLeDiff, true_and, and_true, true_or, or_true, Int.reduceEq, Nat.reduceEqDiff, reduceCtorEq, true_implies, false_implies, not_true_eq_false, not_false_eq_true, Nat.zero_le, Int.zero_add, Nat.zero_add, Nat.lt_add_one, eq_self, forall_const, implies_true, Bool.false_eq_true, false_or, or_false, and_self, ne_eq, me_ne, me_self]
  simp only [bb1 Q, bb3 Q]
  exact bb5 Q (by omega)
theorem q_9 {k hr : Int} (h0 : 0 ≤ k) (h1 : k < 12) : Cl d 9 [vR 2, vI k, vI hr] M Q = Q (b01 (M 23 k ≠ -1 ∧ M 23 k ≤ hr)) M := by
  unfold Cl
  rw [en_9]
  simp only [bq9_0, bq9_1, bq9_2, s_0, lgI_some, s_3, s_24, s_30, cnP_0, cnP_1, cnP_2, cnP_3, cnP_4, cnP_5, s_31, s_32, s_37i, s_37z, s_47, lgR_some, kd_9, kd_10, kd_11, kd_12, kd_13, kd_14, kd_15, kd_16, kd_17, kd_18, kd_19, kd_20, kd_21, kd_22, kd_23, kd_24, kd_25, kd_26, kd_27, kd_28, kd_29, kd_30, kd_31, kd_32, kd_33, kd_34, kd_35, kd_36, kd_37, kd_38, kd_39, kd_40, kd_41, kd_42, kd_43, kd_44, kd_45, kd_46, kd_47, kd_48, kd_49, ln_9, ln_10, ln_11, ln_12, ln_13, ln_14, ln_15, ln_16, ln_17, ln_18, ln_19, ln_20, ln_21, ln_22, ln_23, ln_24, ln_25, ln_26, ln_27, ln_28, ln_29, ln_30, ln_31, ln_32, ln_33, ln_34, ln_35, ln_36, ln_37, ln_38, ln_39, ln_40, ln_41, ln_42, ln_43, ln_44, ln_45, ln_46, ln_47, ln_48, ln_49, lg_0, lg_1, lg_2, g_2_6, List.length_cons, List.length_nil, Nat.reduceAdd, Nat.reduceLT, Nat.reduceLeDiff, true_and, and_true, true_or, or_true, Int.reduceEq, Nat.reduceEqDiff, reduceCtorEq, true_implies, false_implies, not_true_eq_false, not_false_eq_true, Nat.zero_le, Int.zero_add, Nat.zero_add, Nat.lt_add_one, eq_self, forall_const, implies_true, Bool.false_eq_true, false_or, or_false, and_self, ne_eq, me_ne, me_self, h0, h1]
  simp only [bb1 Q, bb3 Q]
  exact bb5 Q (by omega)
theorem q_3 {a f : Int} : Cl (d + 1) 3 [vR 1, vI a, vI f] M Q = Q (b01 (M 1 8 < 10 ∧ (1 ≤ a ∧ a ≤ 1000) ∧ (0 ≤ f ∧ f ≤ 1000))) M := by
  unfold Cl
  rw [en_3]
  simp only [bq3_0, bq3_1, bq3_2, s_0, lgI_some, s_3, s_29, cnP_0, cnP_1, cnP_2, cnP_3, cnP_4, cnP_5, s_30, s_31, s_32, s_37i, s_37z, s_47, lgR_some, s_53, res_0, res_1, nlg_n, nlg_I, nlg_R, Bool.true_and, Bool.and_self, Bool.and_true, lg_0, lg_1, lg_2, g_1_8, rc_76, List.length_cons, List.length_nil, Nat.reduceAdd, Nat.reduceLT, Nat.reduceLeDiff, true_and, and_true, true_or, or_true, Int.reduceEq, Nat.reduceEqDiff, reduceCtorEq, true_implies, false_implies, not_true_eq_false, not_false_eq_true, Nat.zero_le, Int.zero_add, Nat.zero_add, Nat.lt_add_one, eq_self, forall_const, implies_true, Bool.false_eq_true, false_or, or_false, and_self, ne_eq, me_ne, me_self, q_76, b01_z, Classical.not_not]
  simp only [bb1 Q, bb3 Q, bb2 Q, bb4 Q]
  exact bb5 Q (by omega)
theorem q_77 {h : Int} : Cl d 77 [vR 0, vI h] M Q = Q (b01 (M 5 2 ≤ h ∧ h < 100)) M := by
  unfold Cl
  rw [en_77]
  simp only [bq77_0, bq77_1, bq77_2, s_0, lgI_some, s_3, s_30, cnP_0, cnP_1, cnP_2, cnP_3, cnP_4, cnP_5, s_31, s_32, s_37i, s_37z, s_47, lgR_some, lg_0, lg_1, g_0_4, g_5_2, g_8_2, List.length_cons, List.length_nil, Nat.reduceAdd, Nat.reduceLT, Nat.reduceLeDiff, true_and, and_true, true_or, or_true, Int.reduceEq, Nat.reduceEqDiff, reduceCtorEq, true_implies, false_implies, not_true_eq_false, not_false_eq_true, Nat.zero_le, Int.zero_add, Nat.zero_add, Nat.lt_add_one, eq_self, forall_const, implies_true, Bool.false_eq_true, false_or, or_false, and_self, ne_eq, me_ne, me_self]
  simp only [bb1 Q, bb3 Q, bb2 Q, bb4 Q]
  exact bb5 Q (by omega)
theorem q_78 {k : Int} (h0 : 0 ≤ k) (h1 : k < 12) : Cl (d + 1) 78 [vR 0, vI k] M Q = Q (b01 (M 23 k ≠ -1 ∧ M 23 k ≤ w32 (M 5 2 - 1))) M := by
  unfold Cl
  rw [en_78]
  simp only [bq78_0, s_0, lgI_some, s_3, s_7, s_37i, s_37z, s_47, lgR_some, s_53, res_0, res_1, nlg_n, nlg_I, nlg_R, Bool.true_and, Bool.and_self, Bool.and_true, lg_0, lg_1, g_0_1, g_0_4, g_5_2, g_8_2, rc_9_2, List.length_cons, List.length_nil, Nat.reduceAdd, Nat.reduceLT, Nat.reduceLeDiff, true_and, and_true, true_or, or_true, Int.reduceEq, Nat.reduceEqDiff, reduceCtorEq, true_implies, false_implies, not_true_eq_false, not_false_eq_true, Nat.zero_le, Int.zero_add, Nat.zero_add, Nat.lt_add_one, eq_self, forall_const, implies_true, Bool.false_eq_true, false_or, or_false, and_self, ne_eq, me_ne, me_self, q_9, h0, h1, b01_01]
theorem q_79 {k n : Int} (hn : M 2 8 ≤ 12) : Cl (d + 1) 79 [vR 0, vI k, vI n] M Q = Q (b01 ((0 ≤ k ∧ k < M 2 8) ∧ (1 ≤ n ∧ n ≤ M 0 7) ∧ M 5 2 ≤ w32 (M 5 2 + M 21 k) ∧ w32 (M 5 2 + M 21 k) < 100)) M := by
  unfold Cl
  rw [en_79]
  simp only [bq79_0, bq79_1, bq79_2, s_0, lgI_some, s_3, s_6, s_24, s_29, cnP_0, cnP_1, cnP_2, cnP_3, cnP_4, cnP_5, s_31, s_32, s_37i, s_37z, s_47, lgR_some, s_52, s_53, res_0, res_1, nlg_n, nlg_I, nlg_R, Bool.true_and, Bool.and_self, Bool.and_true, kd_9, kd_10, kd_11, kd_12, kd_13, kd_14, kd_15, kd_16, kd_17, kd_18, kd_19, kd_20, kd_21, kd_22, kd_23, kd_24, kd_25, kd_26, kd_27, kd_28, kd_29, kd_30, kd_31, kd_32, kd_33, kd_34, kd_35, kd_36, kd_37, kd_38, kd_39, kd_40, kd_41, kd_42, kd_43, kd_44, kd_45, kd_46, kd_47, kd_48, kd_49, ln_9, ln_10, ln_11, ln_12, ln_13, ln_14, ln_15, ln_16, ln_17, ln_18, ln_19, ln_20, ln_21, ln_22, ln_23, ln_24, ln_25, ln_26, ln_27, ln_28, ln_29, ln_30, ln_31, ln_32, ln_33, ln_34, ln_35, ln_36, ln_37, ln_38, ln_39, ln_40, ln_41, ln_42, ln_43, ln_44, ln_45, ln_46, ln_47, ln_48, ln_49, lg_0, lg_1, lg_2, g_0_1, g_0_4, g_0_7, g_2_4, g_5_2, g_8_2, rc_76, rc_77_0, rc_7_2, List.length_cons, List.length_nil, Nat.reduceAdd, Nat.reduceLT, Nat.reduceLeDiff, true_and, and_true, true_or, or_true, Int.reduceEq, Nat.reduceEqDiff, reduceCtorEq, true_implies, false_implies, not_true_eq_false, not_false_eq_true, Nat.zero_le, Int.zero_add, Nat.zero_add, Nat.lt_add_one, eq_self, forall_const, implies_true, Bool.false_eq_true, false_or, or_false, and_self, ne_eq, me_ne, me_self, q_7, q_76, q_77, b01_z, b01_01, Classical.not_not]
  by_cases h1 : 0 ≤ k ∧ k < M 2 8
  · simp only [h1, not_true_eq_false, false_implies, true_and, true_implies, show k < 12 by omega, bb1 Q, bb2 Q, bb3 Q, bb4 Q, and_true]
  · simp only [h1, not_false_eq_true, true_implies, false_implies, and_true, false_and, b01_F]
theorem q_86 {b : Int} (h1 : -2147483648 < M 50 1) (h2 : M 50 1 < 2147483648) : Cl (d + 1) 86 [vR 50, vI b] M Q = Q (b01 (0 ≤ b ∧ b < M 50 1)) M := by
  unfold Cl
  rw [en_86]
  simp only [bq86_0, s_0, lgI_some, s_3, s_7, s_37i, s_37z, s_47, lgR_some, s_53, res_0, res_1, nlg_n, nlg_I, nlg_R, Bool.true_and, Bool.and_self, Bool.and_true, lg_0, lg_1, g_50_1, rc_85, List.length_cons, List.length_nil, Nat.reduceAdd, Nat.reduceLT, Nat.reduceLeDiff, true_and, and_true, true_or, or_true, Int.reduceEq, Nat.reduceEqDiff, reduceCtorEq, true_implies, false_implies, not_true_eq_false, not_false_eq_true, Nat.zero_le, Int.zero_add, Nat.zero_add, Nat.lt_add_one, eq_self, forall_const, implies_true, Bool.false_eq_true, false_or, or_false, and_self, ne_eq, me_ne, me_self, q_85, b01_01]
  rw [w32_id (by omega) (by omega)]
  exact bb5 Q (by omega)
theorem q_87 {b : Int} (h1 : 0 ≤ M 50 1) (hn : M 50 1 ≤ 10) : Cl (d + 2) 87 [vR 50, vI b] M Q = Q (b01 (0 ≤ b ∧ b < M 50 1 ∧ M 51 b ≠ 0)) M := by
  unfold Cl
  rw [en_87]
  simp only [bq87_0, bq87_1, bq87_2, s_0, lgI_some, s_3, s_29, cnP_0, cnP_1, cnP_2, cnP_3, cnP_4, cnP_5, s_31, s_32, s_37i, s_37z, s_46, s_47, lgR_some, s_52, res_0, res_1, nlg_n, nlg_I, nlg_R, Bool.true_and, Bool.and_self, Bool.and_true, kd_51, kd_52, kd_53, kd_54, kd_55, kd_56, kd_57, kd_58, kd_59, kd_60, kd_61, kd_62, kd_63, kd_64, kd_65, kd_66, kd_67, kd_68, kd_69, kd_70, kd_71, kd_72, kd_73, kd_74, kd_75, kd_76, kd_77, kd_78, kd_79, kd_80, kd_81, kd_82, kd_83, kd_84, kd_85, ln_51, ln_52, ln_53, ln_54, ln_55, ln_56, ln_57, ln_58, ln_59, ln_60, ln_61, ln_62, ln_63, ln_64, ln_65, ln_66, ln_67, ln_68, ln_69, ln_70, ln_71, ln_72, ln_73, ln_74, ln_75, ln_76, ln_77, ln_78, ln_79, ln_80, ln_81, ln_82, ln_83, ln_84, ln_85, lg_0, lg_1, g_50_2, rc_86_50, List.length_cons, List.length_nil, Nat.reduceAdd, Nat.reduceLT, Nat.reduceLeDiff, true_and, and_true, true_or, or_true, Int.reduceEq, Nat.reduceEqDiff, reduceCtorEq, true_implies, false_implies, not_true_eq_false, not_false_eq_true, Nat.zero_le, Int.zero_add, Nat.zero_add, Nat.lt_add_one, eq_self, forall_const, implies_true, Bool.false_eq_true, false_or, or_false, and_self, ne_eq, me_ne, me_self, q_86 (M := M) (show -2147483648 < M 50 1 by omega) (show M 50 1 < 2147483648 by omega), b01_z, Classical.not_not]
  by_cases h1 : 0 ≤ b ∧ b < M 50 1
  · simp only [h1, not_true_eq_false, false_implies, true_and, true_implies, show b < 10 by omega, bb1 Q]
  · simp only [h1, not_false_eq_true, true_implies, false_implies, and_true]
    rw [b01_f (by omega)]
theorem q_88 {b : Int} (h1 : -2147483648 < M 50 9) (h2 : M 50 9 < 2147483648) : Cl (d + 1) 88 [vR 50, vI b] M Q = Q (b01 (0 ≤ b ∧ b < M 50 9)) M := by
  unfold Cl
  rw [en_88]
  simp only [bq88_0, s_0, lgI_some, s_3, s_7, s_37i, s_37z, s_47, lgR_some, s_53, res_0, res_1, nlg_n, nlg_I, nlg_R, Bool.true_and, Bool.and_self, Bool.and_true, lg_0, lg_1, g_50_9, rc_85, List.length_cons, List.length_nil, Nat.reduceAdd, Nat.reduceLT, Nat.reduceLeDiff, true_and, and_true, true_or, or_true, Int.reduceEq, Nat.reduceEqDiff, reduceCtorEq, true_implies, false_implies, not_true_eq_false, not_false_eq_true, Nat.zero_le, Int.zero_add, Nat.zero_add, Nat.lt_add_one, eq_self, forall_const, implies_true, Bool.false_eq_true, false_or, or_false, and_self, ne_eq, me_ne, me_self, q_85, b01_01]
  rw [w32_id (by omega) (by omega)]
  exact bb5 Q (by omega)
theorem q_93 {k hr : Int} (h0 : 0 ≤ k) (h1 : k < 12) : Cl d 93 [vR 50, vI k, vI hr] M Q = Q (b01 (M 63 k ≠ -1 ∧ M 63 k ≤ hr)) M := by
  unfold Cl
  rw [en_93]
  simp only [bq93_0, bq93_1, bq93_2, s_0, lgI_some, s_3, s_24, s_30, cnP_0, cnP_1, cnP_2, cnP_3, cnP_4, cnP_5, s_31, s_32, s_37i, s_37z, s_47, lgR_some, kd_51, kd_52, kd_53, kd_54, kd_55, kd_56, kd_57, kd_58, kd_59, kd_60, kd_61, kd_62, kd_63, kd_64, kd_65, kd_66, kd_67, kd_68, kd_69, kd_70, kd_71, kd_72, kd_73, kd_74, kd_75, kd_76, kd_77, kd_78, kd_79, kd_80, kd_81, kd_82, kd_83, kd_84, kd_85, ln_51, ln_52, ln_53, ln_54, ln_55, ln_56, ln_57, ln_58, ln_59, ln_60, ln_61, ln_62, ln_63, ln_64, ln_65, ln_66, ln_67, ln_68, ln_69, ln_70, ln_71, ln_72, ln_73, ln_74, ln_75, ln_76, ln_77, ln_78, ln_79, ln_80, ln_81, ln_82, ln_83, ln_84, ln_85, lg_0, lg_1, lg_2, g_50_15, List.length_cons, List.length_nil, Nat.reduceAdd, Nat.reduceLT, Nat.reduceLeDiff, true_and, and_true, true_or, or_true, Int.reduceEq, Nat.reduceEqDiff, reduceCtorEq, true_implies, false_implies, not_true_eq_false, not_false_eq_true, Nat.zero_le, Int.zero_add, Nat.zero_add, Nat.lt_add_one, eq_self, forall_const, implies_true, Bool.false_eq_true, false_or, or_false, and_self, ne_eq, me_ne, me_self, h0, h1]
  simp only [bb1 Q, bb3 Q]
  exact bb5 Q (by omega)
theorem q_97 {k n : Int} (h1 : 0 ≤ M 50 9) (hn : M 50 9 ≤ 12) : Cl (d + 2) 97 [vR 50, vI k, vI n] M Q = Q (b01 ((0 ≤ k ∧ k < M 50 9) ∧ (1 ≤ n ∧ n ≤ M 50 18) ∧ w32 (M 50 0 + M 62 k) < 100)) M := by
  unfold Cl
  rw [en_97]
  simp only [bq97_0, bq97_1, bq97_2, s_0, lgI_some, s_3, s_6, s_24, s_29, cnP_0, cnP_1, cnP_2, cnP_3, cnP_4, cnP_5, s_30, s_31, s_32, s_37i, s_37z, s_47, lgR_some, s_52, res_0, res_1, nlg_n, nlg_I, nlg_R, Bool.true_and, Bool.and_self, Bool.and_true, kd_51, kd_52, kd_53, kd_54, kd_55, kd_56, kd_57, kd_58, kd_59, kd_60, kd_61, kd_62, kd_63, kd_64, kd_65, kd_66, kd_67, kd_68, kd_69, kd_70, kd_71, kd_72, kd_73, kd_74, kd_75, kd_76, kd_77, kd_78, kd_79, kd_80, kd_81, kd_82, kd_83, kd_84, kd_85, ln_51, ln_52, ln_53, ln_54, ln_55, ln_56, ln_57, ln_58, ln_59, ln_60, ln_61, ln_62, ln_63, ln_64, ln_65, ln_66, ln_67, ln_68, ln_69, ln_70, ln_71, ln_72, ln_73, ln_74, ln_75, ln_76, ln_77, ln_78, ln_79, ln_80, ln_81, ln_82, ln_83, ln_84, ln_85, lg_0, lg_1, lg_2, g_50_0, g_50_14, g_50_18, rc_88_50, List.length_cons, List.length_nil, Nat.reduceAdd, Nat.reduceLT, Nat.reduceLeDiff, true_and, and_true, true_or, or_true, Int.reduceEq, Nat.reduceEqDiff, reduceCtorEq, true_implies, false_implies, not_true_eq_false, not_false_eq_true, Nat.zero_le, Int.zero_add, Nat.zero_add, Nat.lt_add_one, eq_self, forall_const, implies_true, Bool.false_eq_true, false_or, or_false, and_self, ne_eq, me_ne, me_self, q_88 (M := M) (show -2147483648 < M 50 9 by omega) (show M 50 9 < 2147483648 by omega), b01_z, b01_01, Classical.not_not]
  by_cases h1 : 0 ≤ k ∧ k < M 50 9
  · simp only [h1, not_true_eq_false, false_implies, true_and, true_implies, show k < 12 by omega, bb1 Q, bb2 Q, bb3 Q, bb4 Q, and_true]
    exact bb5 Q (by omega)
  · simp only [h1, not_false_eq_true, true_implies, false_implies, and_true, false_and, b01_F]
end QB
end
section
/-! the invariant's parts on the class's world, and the pure hour -/
theorem lc_le (x y : Int) : ((if x < y then (-1 : Int) else if x = y then 0 else 1) ≤ 0) = (x ≤ y) := by
  apply propext
  by_cases h : x < y
  · simp only [h, if_true]; omega
  · by_cases h2 : x = y
    · subst h2; simp
    · simp only [h, h2, if_false]; omega
theorem lc_ge (x y : Int) : (0 ≤ (if x < y then (-1 : Int) else if x = y then 0 else 1)) = (y ≤ x) := by
  apply propext
  by_cases h : x < y
  · simp only [h, if_true]; omega
  · by_cases h2 : x = y
    · subst h2; simp
    · simp only [h, h2, if_false]; omega
/-- how many of the first k are no cells -/
def rk (f : Int → Int) : Nat → Int
  | 0 => 0
  | k + 1 => rk f k + (if f (k : Int) = 0 then 1 else 0)
theorem rk_bd (f : Int → Int) (k : Nat) : 0 ≤ rk f k ∧ rk f k ≤ k := by
  induction k with
  | zero => exact ⟨Int.le_refl _, Int.le_refl _⟩
  | succ k ih =>
    simp only [rk]
    split <;> omega
theorem rk_inv (f : Int → Int) (n : Nat) : ∀ i : Int, 0 ≤ i → i < rk f n → ∃ c : Nat, c < n ∧ f c = 0 ∧ rk f c = i := by
  induction n with
  | zero => intro i h0 h1; simp only [rk] at h1; omega
  | succ n ih =>
    intro i h0 h1
    simp only [rk] at h1
    by_cases q : i < rk f n
    · obtain ⟨c, a, b, e⟩ := ih i h0 q
      exact ⟨c, by omega, b, e⟩
    · by_cases z : f n = 0
      · rw [if_pos z] at h1
        exact ⟨n, by omega, z, by omega⟩
      · rw [if_neg z] at h1; omega
theorem rk_cg {f g : Int → Int} {n : Nat} (h : ∀ c : Nat, c < n → f c = g c) : rk f n = rk g n := by
  induction n with
  | zero => rfl
  | succ n ih => simp only [rk]; rw [ih (fun c hc => h c (by omega)), h n (by omega)]
theorem rk_le {f : Int → Int} {a b : Nat} (h : a ≤ b) : rk f a ≤ rk f b := by
  induction b with
  | zero => have : a = 0 := by omega
            subst this; exact Int.le_refl _
  | succ b ih =>
    by_cases q : a = b + 1
    · subst q; exact Int.le_refl _
    · have := ih (by omega)
      simp only [rk]
      split <;> omega
/-- bodies -/
def IvB (M : Me) : Prop := (0 ≤ M 1 8 ∧ M 1 8 ≤ 10) ∧ (∀ c, M 9 c = 0 ∨ M 9 c = 1) ∧ (∀ c, M 1 8 ≤ c → M 9 c = 0) ∧
  (∀ c, 0 ≤ c → c < M 1 8 → (1 ≤ M 10 c ∧ M 10 c ≤ 1000) ∧ (0 ≤ M 11 c ∧ M 11 c ≤ 1000)) ∧
  (∀ c, 0 ≤ c → c < M 1 8 → M 9 c = 0 → 0 ≤ M 12 c ∧ M 12 c ≤ 100) ∧
  (∀ c, M 9 c = 0 → M 13 c = 0) ∧ (∀ c, 0 ≤ M 13 c ∧ M 13 c ≤ 500) ∧ (∀ c, 0 ≤ M 14 c ∧ M 14 c ≤ 1000000) ∧ (∀ h, 0 ≤ M 16 h ∧ M 16 h ≤ 1000000) ∧
  M 1 9 = rk (M 9) (M 1 8).toNat ∧ (∀ c : Nat, (c : Int) < M 1 8 → M 9 c = 0 → M 15 (rk (M 9) c) = c)
/-- dikes -/
def IvD (M : Me) : Prop := (0 ≤ M 2 8 ∧ M 2 8 ≤ 12) ∧
  (∀ k, 0 ≤ k → k < M 2 8 → (0 ≤ M 17 k ∧ M 17 k < M 1 8) ∧ (0 ≤ M 18 k ∧ M 18 k < M 1 8) ∧ M 17 k ≠ M 18 k ∧ (0 ≤ M 19 k ∧ M 19 k ≤ 2000) ∧ (1 ≤ M 20 k ∧ M 20 k ≤ 1000) ∧ (0 ≤ M 21 k ∧ M 21 k ≤ 20)) ∧ (∀ k, 0 ≤ M 22 k ∧ M 22 k ≤ 2000)
theorem IvB_st {M : Me} (h : IvB M) {i : Int} (h0 : 0 ≤ i) (h1 : i < M 1 9) : (0 ≤ M 15 i ∧ M 15 i < M 1 8) ∧ M 9 (M 15 i) = 0 ∧ i = rk (M 9) (M 15 i).toNat := by
  obtain ⟨a, -, -, -, -, -, -, -, -, b, c⟩ := h
  rw [b] at h1
  obtain ⟨k, x, y, z⟩ := rk_inv _ _ i h0 h1
  have := c k (by omega) y
  rw [z] at this
  rw [this]
  exact ⟨by omega, y, by rw [← z]; rfl⟩
theorem IvB_sc {M : Me} (h : IvB M) : 0 ≤ M 1 9 ∧ M 1 9 ≤ M 1 8 := by
  obtain ⟨a, -, -, -, -, -, -, -, -, b, c⟩ := h
  have := rk_bd (M 9) (M 1 8).toNat
  omega
/-- an hour's state: water, bags, washed, out, came in -/
abbrev HS : Type := (Int → Int) × (Int → Int) × Int × Int × Int
def fu (f : Int → Int) (i v : Int) : Int → Int := fun j => if j = i then v else f j
theorem fu_s (f : Int → Int) (i v : Int) : fu f i v i = v := by simp [fu]
theorem fu_n {f : Int → Int} {i v j : Int} (h : j ≠ i) : fu f i v j = f j := by simp [fu, h]
theorem fu_fu (f : Int → Int) (i v w : Int) : fu (fu f i v) i w = fu f i w := by
  funext j; simp only [fu]; split <;> rfl
def hIn (K : Me) (h : Int) (s : HS) : HS := if K 1 9 ≤ 0 then s else (fu s.1 (K 15 0) (w32 (s.1 (K 15 0) + K 16 h)), s.2.1, s.2.2.1, s.2.2.2.1, s.2.2.2.2 + K 16 h)
def hpg (K : Me) (w b : Int) : Int := w32 (w64 ((w64 (w * K 12 b)).tdiv 100))
def hPs (K : Me) (i : Int) (s : HS) : HS :=
  if i = K 1 9 - 1 then (fu s.1 (K 15 i) (w32 (s.1 (K 15 i) - hpg K (s.1 (K 15 i)) (K 15 i))), s.2.1, s.2.2.1, s.2.2.2.1 + hpg K (s.1 (K 15 i)) (K 15 i), s.2.2.2.2)
  else (fu (fu s.1 (K 15 i) (w32 (s.1 (K 15 i) - hpg K (s.1 (K 15 i)) (K 15 i)))) (K 15 (i + 1)) (w32 (fu s.1 (K 15 i) (w32 (s.1 (K 15 i) - hpg K (s.1 (K 15 i)) (K 15 i))) (K 15 (i + 1)) + hpg K (s.1 (K 15 i)) (K 15 i))), s.2.1, s.2.2.1, s.2.2.2.1, s.2.2.2.2)
def hPd (K : Me) : Nat → HS → HS
  | 0, s => s
  | k + 1, s => hPd K k (hPs K k s)
def hbr (K : Me) (h k : Int) : Prop := ¬ K 23 k = -1 ∧ K 23 k ≤ h
noncomputable def hLa (K : Me) (h k : Int) (s : HS) : HS :=
  @ite HS (hbr K h k) (Classical.propDecidable _) (s.1, fu s.2.1 k 0, w32 (s.2.2.1 + w32 (s.2.1 k + K 24 (k * 100 + h))), s.2.2.2) (s.1, fu s.2.1 k (w32 (s.2.1 k + K 24 (k * 100 + h))), s.2.2)
noncomputable def hLd (K : Me) (h : Int) : Nat → Int → HS → HS
  | 0, _, s => s
  | n + 1, k, s => hLd K h n (k + 1) (hLa K h k s)
def hlv (K : Me) (s : HS) (b : Int) : Int := w32 (K 11 b + w32 ((s.1 b).tdiv (K 10 b)))
noncomputable def htp (K : Me) (h : Int) (s : HS) (k : Int) : Int := @ite Int (hbr K h k) (Classical.propDecidable _) (K 22 k) (w32 (K 19 k + w32 ((s.2.1 k).tdiv 10)))
def hmn (x y : Int) : Int := if y < x then y else x
def hgo (wd hd ar wu : Int) : Int := w32 (if wu < (if w64 ((w64 (hd * ar)).tdiv 2) < w64 (wd * hd) then w64 ((w64 (hd * ar)).tdiv 2) else w64 (wd * hd)) then wu else (if w64 ((w64 (hd * ar)).tdiv 2) < w64 (wd * hd) then w64 ((w64 (hd * ar)).tdiv 2) else w64 (wd * hd)))
def hhd (ul ll tp : Int) : Int := w32 (ul - if tp < ll then ll else tp)
/-- over a dike from u to l -/
noncomputable def hO1 (K : Me) (h k u l : Int) (s : HS) : HS :=
  if hhd (hlv K s u) (hlv K s l) (htp K h s k) ≤ 0 then s
  else (fu (fu s.1 u (w32 (s.1 u - hgo (K 20 k) (hhd (hlv K s u) (hlv K s l) (htp K h s k)) (K 10 u) (s.1 u)))) l (w32 (fu s.1 u (w32 (s.1 u - hgo (K 20 k) (hhd (hlv K s u) (hlv K s l) (htp K h s k)) (K 10 u) (s.1 u))) l + hgo (K 20 k) (hhd (hlv K s u) (hlv K s l) (htp K h s k)) (K 10 u) (s.1 u))), s.2)
noncomputable def hOv (K : Me) (h k : Int) (s : HS) : HS :=
  if hlv K s (K 18 k) ≤ hlv K s (K 17 k) then hO1 K h k (K 17 k) (K 18 k) s else hO1 K h k (K 18 k) (K 17 k) s
noncomputable def hOd (K : Me) (h : Int) : Nat → Int → HS → HS
  | 0, _, s => s
  | n + 1, k, s => hOd K h n (k + 1) (hOv K h k s)
noncomputable def hF (K : Me) (h : Int) (s : HS) : HS :=
  hOd K h (K 2 8).toNat 0 (hLd K h (K 2 8).toNat 0 (hPd K (K 1 9).toNat (hIn K h s)))
/-- how much water there is -/
def hP (B : Int) (s : HS) : Prop := (∀ i, 0 ≤ i → i < 10 → 0 ≤ s.1 i) ∧ sm 10 s.1 ≤ B
theorem sm_ge {n : Nat} {f : Int → Int} (h : ∀ i : Int, 0 ≤ i → i < n → 0 ≤ f i) : 0 ≤ sm n f ∧ ∀ i : Int, 0 ≤ i → i < n → f i ≤ sm n f := by
  induction n with
  | zero => exact ⟨Int.le_refl _, fun i h1 h2 => by omega⟩
  | succ n ih =>
    have := ih (fun i h1 h2 => h i h1 (by omega))
    have h3 := h n (by omega) (by omega)
    simp only [sm]
    refine ⟨by omega, fun i h1 h2 => ?_⟩
    by_cases q : i = n
    · subst q; omega
    · have := this.2 i h1 (by omega); omega
theorem hP_le {B : Int} {s : HS} (h : hP B s) {i : Int} (h0 : 0 ≤ i) (h1 : i < 10) : 0 ≤ s.1 i ∧ s.1 i ≤ B :=
  ⟨h.1 i h0 h1, Int.le_trans ((sm_ge (n := 10) h.1).2 i h0 (by omega)) h.2⟩
theorem sm_fu {n : Nat} {f : Int → Int} {i v : Int} (h0 : 0 ≤ i) (h1 : i < n) : sm n (fu f i v) = sm n f + (v - f i) :=
  sm_up h0 h1 (by rw [fu_s]; omega) (fun j _ _ h => fu_n h)
theorem hpg_bd {K : Me} {w b : Int} (h0 : 0 ≤ w) (h1 : w ≤ 1000000000) (h2 : 0 ≤ K 12 b) (h3 : K 12 b ≤ 100) : 0 ≤ hpg K w b ∧ hpg K w b ≤ w := by
  unfold hpg
  have a1 : 0 ≤ w * K 12 b := Int.mul_nonneg h0 h2
  have a2 : w * K 12 b ≤ w * 100 := Int.mul_le_mul_of_nonneg_left h3 h0
  generalize w * K 12 b = x at a1 a2
  rw [w64_id (x := x) (by omega) (by omega), Int.tdiv_eq_ediv_of_nonneg a1, w64_id (by omega) (by omega), w32_id (by omega) (by omega)]
  omega
theorem hP_in {K : Me} {h B : Int} {s : HS} (hB : IvB K) (hb : B ≤ 1000000000) (H : hP B s) : hP (B + 1000000) (hIn K h s) := by
  unfold hIn
  by_cases q : K 1 9 ≤ 0
  · rw [if_pos q]; exact ⟨H.1, by have := H.2; omega⟩
  · rw [if_neg q]
    have b1 := IvB_st hB (Int.le_refl 0) (by omega)
    have b2 : 0 ≤ K 16 h ∧ K 16 h ≤ 1000000 := hB.2.2.2.2.2.2.2.2.1 h
    have b3 := hP_le H (i := K 15 0) (by omega) (by have := hB.1; omega)
    have b4 : K 15 0 < 10 := by have := hB.1; omega
    refine ⟨?_, ?_⟩
    · intro i h0 h1
      by_cases z : i = K 15 0
      · subst z; simp only [fu_s]; rw [w32_id (by omega) (by omega)]; omega
      · simp only [fu_n z]; exact H.1 i h0 h1
    · show sm 10 (fu s.1 _ _) ≤ _
      rw [sm_fu (by omega) (by omega), w32_id (by omega) (by omega)]
      have := H.2
      omega
theorem hP_mv {B x : Int} {s : HS} {u l : Int} (hu0 : 0 ≤ u) (hu1 : u < 10) (hl0 : 0 ≤ l) (hl1 : l < 10) (hul : u ≠ l) (hb : B ≤ 1010000000) (H : hP B s) (h0 : 0 ≤ x) (h1 : x ≤ s.1 u) (s' : (Int → Int) × Int × Int × Int) :
    hP B (fu (fu s.1 u (w32 (s.1 u - x))) l (w32 (fu s.1 u (w32 (s.1 u - x)) l + x)), s') := by
  have a1 := hP_le H hu0 hu1
  have a2 := hP_le H hl0 hl1
  have a3 : s.1 u + s.1 l ≤ B := by
    have e := sm_fu (n := 10) (f := s.1) (i := u) (v := s.1 u - s.1 u) hu0 (by omega)
    have g := sm_ge (n := 10) (f := fu s.1 u (s.1 u - s.1 u)) (fun i h2 h3 => by
      by_cases z : i = u
      · subst z; rw [fu_s]; omega
      · rw [fu_n z]; exact H.1 i h2 (by omega))
    have := g.2 l hl0 (by omega)
    rw [fu_n (Ne.symm hul)] at this
    have := H.2
    omega
  rw [w32_id (x := s.1 u - x) (by omega) (by omega), fu_n (Ne.symm hul), w32_id (by omega) (by omega)]
  refine ⟨?_, ?_⟩
  · intro i h2 h3
    by_cases z : i = l
    · subst z; simp only [fu_s]; omega
    · simp only [fu_n z]
      by_cases y : i = u
      · subst y; simp only [fu_s]; omega
      · rw [fu_n y]; exact H.1 i h2 h3
  · show sm 10 (fu (fu s.1 _ _) _ _) ≤ _
    rw [sm_fu hl0 (by omega), sm_fu hu0 (by omega), fu_n (Ne.symm hul)]
    have := H.2
    omega
theorem hP_ps {K : Me} {B i : Int} {s : HS} (hB : IvB K) (hb : B ≤ 1000000000) (h0 : 0 ≤ i) (h1 : i < K 1 9) (H : hP B s) : hP B (hPs K i s) := by
  have b1 := IvB_st hB h0 h1
  have b4 : K 15 i < 10 := by have := hB.1; omega
  have b3 := hP_le H (i := K 15 i) (by omega) b4
  have b5 := hB.2.2.2.2.1 (K 15 i) b1.1.1 b1.1.2 b1.2.1
  have b6 := hpg_bd (w := s.1 (K 15 i)) (b := K 15 i) b3.1 (by omega) b5.1 b5.2
  unfold hPs
  by_cases q : i = K 1 9 - 1
  · rw [if_pos q]
    generalize hpg K (s.1 (K 15 i)) (K 15 i) = x at b6
    rw [w32_id (x := s.1 (K 15 i) - x) (by omega) (by omega)]
    refine ⟨?_, ?_⟩
    · intro j h2 h3
      by_cases z : j = K 15 i
      · subst z; simp only [fu_s]; omega
      · simp only [fu_n z]; exact H.1 j h2 h3
    · show sm 10 (fu s.1 _ _) ≤ _
      rw [sm_fu (by omega) (by omega)]
      have := H.2
      omega
  · rw [if_neg q]
    have b7 := IvB_st hB (i := i + 1) (by omega) (by omega)
    have b8 : K 15 (i + 1) < 10 := by have := hB.1; omega
    refine hP_mv b1.1.1 b4 b7.1.1 b8 (fun e => ?_) (by omega) H b6.1 b6.2 _
    have := b1.2.2
    rw [e] at this
    have := b7.2.2
    omega
theorem hP_pd {K : Me} {B : Int} (hB : IvB K) (hb : B ≤ 1000000000) (n : Nat) : ∀ s : HS, (n : Int) ≤ K 1 9 → hP B s → hP B (hPd K n s) := by
  induction n with
  | zero => intro s _ H; exact H
  | succ n ih => intro s hn H; exact ih _ (by omega) (hP_ps hB hb (by omega) (by omega) H)
theorem hP_la {K : Me} {B h k : Int} {s : HS} (H : hP B s) : hP B (hLa K h k s) := by
  unfold hLa
  split <;> exact H
theorem hP_ld {K : Me} {B h : Int} (n : Nat) : ∀ (k : Int) (s : HS), hP B s → hP B (hLd K h n k s) := by
  induction n with
  | zero => intro k s H; exact H
  | succ n ih => intro k s H; exact ih _ _ (hP_la H)
theorem hlv_bd {K : Me} {B : Int} {s : HS} {b : Int} (hB : IvB K) (hb : B ≤ 1000000000) (H : hP B s) (h0 : 0 ≤ b) (h1 : b < K 1 8) : 0 ≤ hlv K s b ∧ hlv K s b ≤ 1000001000 := by
  have a := hB.2.2.2.1 b h0 h1
  have c := hP_le H h0 (by have := hB.1; omega)
  unfold hlv
  rw [Int.tdiv_eq_ediv_of_nonneg c.1]
  have e1 : 0 ≤ s.1 b / K 10 b := Int.ediv_nonneg c.1 (by omega)
  have e2 : s.1 b / K 10 b ≤ s.1 b := Int.ediv_le_self _ c.1
  rw [w32_id (x := s.1 b / K 10 b) (by omega) (by omega), w32_id (by omega) (by omega)]
  omega
theorem w32_bd (x : Int) : -2147483648 ≤ w32 x ∧ w32 x < 2147483648 := by
  unfold w32
  have h1 := Int.le_bmod (x := x) (m := 4294967296) (by omega)
  have h2 := Int.bmod_lt (x := x) (m := 4294967296) (by omega)
  omega
theorem htp_bd {K : Me} {h k : Int} {s : HS} (hD : IvD K) : -2147483648 ≤ htp K h s k ∧ htp K h s k < 2147483648 := by
  unfold htp
  have := hD.2.2 k
  split
  · omega
  · exact w32_bd _
theorem hhd_bd {K : Me} {B h k u l : Int} {s : HS} (hB : IvB K) (hD : IvD K) (hb : B ≤ 1000000000) (H : hP B s) (hu : 0 ≤ u ∧ u < K 1 8) (hl : 0 ≤ l ∧ l < K 1 8) : hhd (hlv K s u) (hlv K s l) (htp K h s k) ≤ 1000001000 := by
  have a := hlv_bd hB hb H hu.1 hu.2
  have b := hlv_bd hB hb H hl.1 hl.2
  have c := htp_bd (K := K) (h := h) (k := k) (s := s) hD
  unfold hhd
  generalize hlv K s u = x at *
  generalize hlv K s l = y at *
  generalize htp K h s k = z at *
  split
  · rw [w32_id (by omega) (by omega)]; omega
  · rw [w32_id (by omega) (by omega)]; omega
theorem hgo_bd {wd hd ar wu : Int} (h1 : 1 ≤ wd) (h2 : wd ≤ 1000) (h3 : 0 < hd) (h4 : hd ≤ 1000001000) (h5 : 1 ≤ ar) (h6 : ar ≤ 1000) (h7 : 0 ≤ wu) (h8 : wu ≤ 1000000000) : 0 ≤ hgo wd hd ar wu ∧ hgo wd hd ar wu ≤ wu := by
  unfold hgo
  have a1 : 0 ≤ hd * ar := Int.mul_nonneg (by omega) (by omega)
  have a2 : hd * ar ≤ hd * 1000 := Int.mul_le_mul_of_nonneg_left h6 (by omega)
  have b1 : 0 ≤ wd * hd := Int.mul_nonneg (by omega) (by omega)
  have b2 : wd * hd ≤ 1000 * hd := Int.mul_le_mul_of_nonneg_right h2 (by omega)
  generalize hd * ar = x at *
  generalize wd * hd = y at *
  rw [w64_id (x := x) (by omega) (by omega), w64_id (x := y) (by omega) (by omega), Int.tdiv_eq_ediv_of_nonneg a1, w64_id (x := x / 2) (by omega) (by omega)]
  rw [w32_id]
  · split <;> split <;> omega
  · split <;> split <;> omega
  · split <;> split <;> omega
theorem hP_o1 {K : Me} {B h k u l : Int} {s : HS} (hB : IvB K) (hD : IvD K) (hb : B ≤ 1000000000) (hk : 0 ≤ k ∧ k < K 2 8) (hu : 0 ≤ u ∧ u < K 1 8) (hl : 0 ≤ l ∧ l < K 1 8) (hul : u ≠ l) (H : hP B s) : hP B (hO1 K h k u l s) := by
  unfold hO1
  have c := hhd_bd (h := h) (k := k) hB hD hb H hu hl
  have e := hP_le H hu.1 (by have := hB.1; omega)
  have f := hB.2.2.2.1 u hu.1 hu.2
  have g := hD.2.1 k hk.1 hk.2
  have i := hB.1
  generalize hhd (hlv K s u) (hlv K s l) (htp K h s k) = x at *
  by_cases q : x ≤ 0
  · rw [if_pos q]; exact H
  · rw [if_neg q]
    have j := hgo_bd (wd := K 20 k) (hd := x) (ar := K 10 u) (wu := s.1 u) (by omega) (by omega) (by omega) c (by omega) (by omega) e.1 (by omega)
    exact hP_mv hu.1 (by omega) hl.1 (by omega) hul (by omega) H j.1 j.2 _
theorem hP_ov {K : Me} {B h k : Int} {s : HS} (hB : IvB K) (hD : IvD K) (hb : B ≤ 1000000000) (hk : 0 ≤ k ∧ k < K 2 8) (H : hP B s) : hP B (hOv K h k s) := by
  have g := hD.2.1 k hk.1 hk.2
  unfold hOv
  split
  · exact hP_o1 hB hD hb hk g.1 g.2.1 g.2.2.1 H
  · exact hP_o1 hB hD hb hk g.2.1 g.1 (Ne.symm g.2.2.1) H
theorem hP_od {K : Me} {B h : Int} (hB : IvB K) (hD : IvD K) (hb : B ≤ 1000000000) (n : Nat) : ∀ (k : Int) (s : HS), 0 ≤ k → k + n ≤ K 2 8 → hP B s → hP B (hOd K h n k s) := by
  induction n with
  | zero => intro k s _ _ H; exact H
  | succ n ih => intro k s h0 h1 H; exact ih _ _ (by omega) (by omega) (hP_ov hB hD hb ⟨h0, by omega⟩ H)
theorem hP_F {K : Me} {B h : Int} {s : HS} (hB : IvB K) (hD : IvD K) (hb : B ≤ 900000000) (H : hP B s) : hP (B + 1000000) (hF K h s) := by
  have h1 := hB.1
  have h2 := hD.1
  have h3 := IvB_sc hB
  exact hP_od hB hD (by omega) _ _ _ (Int.le_refl 0) (by omega) (hP_ld _ _ _ (hP_pd hB (by omega) _ _ (by omega) (hP_in hB (by omega) H)))
end
