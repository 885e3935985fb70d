set_option maxRecDepth 100000 in
theorem cow_1 : lw_tbl[428]? = some (Cond.code yX0_has cX0_has 2 (some .boolean)) := rfl
set_option maxRecDepth 100000 in
theorem cow_2 : lw_tbl[501]? = some (Cond.code yX0_hasCell cX0_hasCell 2 (some .boolean)) := rfl
set_option maxRecDepth 100000 in
theorem cow_3 : lw_tbl[387]? = some (Cond.code yX0_canTake cX0_canTake 3 (some .boolean)) := rfl
set_option maxRecDepth 100000 in
theorem cow_4 : lw_tbl[395]? = some (Cond.code yX0_addStretch cX0_addStretch 5 (some .int)) := rfl
set_option maxRecDepth 100000 in
theorem cow_5 : lw_tbl[420]? = some (Cond.code yX0_addCell cX0_addCell 6 (some .int)) := rfl
set_option maxRecDepth 100000 in
theorem cow_6 : lw_tbl[399]? = some (Cond.code yX0_add cX0_add 4 (some .int)) := rfl
set_option maxRecDepth 100000 in
theorem cow_7 : lw_tbl[440]? = some (Cond.code yX1_has cX1_has 2 (some .boolean)) := rfl
set_option maxRecDepth 100000 in
theorem cow_8 : lw_tbl[432]? = some (Cond.code yX1_add cX1_add 7 (some .int)) := rfl
set_option maxRecDepth 100000 in
theorem cow_9 : lw_tbl[452]? = some (Cond.code yX1_isBreached cX1_isBreached 3 (some .boolean)) := rfl
set_option maxRecDepth 100000 in
theorem cow_10 : lw_tbl[473]? = some (Cond.code yX1_bringBags cX1_bringBags 4 (none)) := rfl
set_option maxRecDepth 100000 in
theorem cow_11 : lw_tbl[569]? = some (Cond.code yX1_bagsUnderWay cX1_bagsUnderWay 5 (some .int)) := rfl
set_option maxRecDepth 100000 in
theorem cow_12 : lw_tbl[411]? = some (Cond.code yX2_forget cX2_forget 1 (none)) := rfl
set_option maxRecDepth 100000 in
theorem cow_13 : lw_tbl[632]? = some (Cond.code yX2_begin cX2_begin 6 (none)) := rfl
set_option maxRecDepth 100000 in
theorem cow_14 : lw_tbl[641]? = some (Cond.code yX2_runTo cX2_runTo 5 (none)) := rfl
set_option maxRecDepth 100000 in
theorem cow_15 : lw_tbl[696]? = some (Cond.code yX2_firstHourOfMost cX2_firstHourOfMost 3 (some .int)) := rfl
set_option maxRecDepth 100000 in
theorem cow_16 : lw_tbl[645]? = some (Cond.code yX2_fillRoadOut cX2_fillRoadOut 9 (none)) := rfl
set_option maxRecDepth 100000 in
theorem cow_17 : lw_tbl[649]? = some (Cond.code yX2_findPeople cX2_findPeople 6 (some .int)) := rfl
set_option maxRecDepth 100000 in
theorem cow_18 : lw_tbl[653]? = some (Cond.code yX2_beginSearch cX2_beginSearch 1 (none)) := rfl
set_option maxRecDepth 100000 in
theorem cow_19 : lw_tbl[657]? = some (Cond.code yX2_meet cX2_meet 4 (none)) := rfl
set_option maxRecDepth 100000 in
theorem cow_20 : lw_tbl[661]? = some (Cond.code yX2_meetThoseBehind cX2_meetThoseBehind 8 (none)) := rfl
set_option maxRecDepth 100000 in
theorem cow_21 : lw_tbl[665]? = some (Cond.code yX2_endOf cX2_endOf 4 (some .int)) := rfl
set_option maxRecDepth 100000 in
theorem cow_22 : lw_tbl[669]? = some (Cond.code yX2_roomFrom cX2_roomFrom 6 (some .int)) := rfl
set_option maxRecDepth 100000 in
theorem cow_23 : lw_tbl[684]? = some (Cond.code yX2_moveFrom cX2_moveFrom 7 (none)) := rfl
set_option maxRecDepth 100000 in
theorem cow_24 : lw_tbl[680]? = some (Cond.code yX2_placeAhead cX2_placeAhead 6 (some .int)) := rfl
set_option maxRecDepth 100000 in
theorem cow_25 : lw_tbl[673]? = some (Cond.code yX2_roomOfStep cX2_roomOfStep 6 (some .int)) := rfl
set_option maxRecDepth 100000 in
theorem cow_26 : lw_tbl[688]? = some (Cond.code yX2_moveStep cX2_moveStep 7 (none)) := rfl
set_option maxRecDepth 100000 in
theorem cow_27 : lw_tbl[708]? = some (Cond.code yX2_findBars cX2_findBars 4 (none)) := rfl
set_option maxRecDepth 100000 in
theorem cow_28 : lw_tbl[712]? = some (Cond.code yX2_meetThoseAhead cX2_meetThoseAhead 9 (none)) := rfl
set_option maxRecDepth 100000 in
theorem cow_29 : lw_tbl[716]? = some (Cond.code yX2_listBars cX2_listBars 5 (none)) := rfl
set_option maxRecDepth 100000 in
theorem cow_30 : lw_tbl[720]? = some (Cond.code yX2_isBar cX2_isBar 5 (some .boolean)) := rfl
set_option maxRecDepth 100000 in
theorem cow_31 : lw_tbl[728]? = some (Cond.code yX2_barRoad cX2_barRoad 2 (some .int)) := rfl
set_option maxRecDepth 100000 in
theorem cow_32 : lw_tbl[732]? = some (Cond.code yX2_barHour cX2_barHour 2 (some .int)) := rfl
set_option maxRecDepth 100000 in
theorem cow_33 : lw_tbl[581]? = some (Cond.code yX3_copyFrom cX3_copyFrom 2 (none)) := rfl
set_option maxRecDepth 100000 in
theorem cow_34 : lw_tbl[536]? = some (Cond.code yX3_level cX3_level 4 (some .int)) := rfl
set_option maxRecDepth 100000 in
theorem cow_35 : lw_tbl[560]? = some (Cond.code yX3_isWet cX3_isWet 3 (some .boolean)) := rfl
set_option maxRecDepth 100000 in
theorem cow_36 : lw_tbl[540]? = some (Cond.code yX3_top cX3_top 3 (some .int)) := rfl
set_option maxRecDepth 100000 in
theorem cow_37 : lw_tbl[744]? = some (Cond.code yX3_bagsOnDikes cX3_bagsOnDikes 3 (some .int)) := rfl
set_option maxRecDepth 100000 in
theorem cow_38 : lw_tbl[514]? = some (Cond.code yX3_passHour cX3_passHour 4 (none)) := rfl
set_option maxRecDepth 100000 in
theorem cow_39 : lw_tbl[518]? = some (Cond.code yX3_takeInflow cX3_takeInflow 3 (none)) := rfl
set_option maxRecDepth 100000 in
theorem cow_40 : lw_tbl[522]? = some (Cond.code yX3_passDown cX3_passDown 6 (none)) := rfl
set_option maxRecDepth 100000 in
theorem cow_41 : lw_tbl[527]? = some (Cond.code yX3_layBags cX3_layBags 3 (none)) := rfl
set_option maxRecDepth 100000 in
theorem cow_42 : lw_tbl[532]? = some (Cond.code yX3_goOver cX3_goOver 13 (none)) := rfl
set_option maxRecDepth 100000 in
theorem cow_43 : lw_tbl[407]? = some (Cond.code yX4_forget cX4_forget 1 (none)) := rfl
set_option maxRecDepth 100000 in
theorem cow_44 : lw_tbl[577]? = some (Cond.code yX4_foresee cX4_foresee 5 (none)) := rfl
set_option maxRecDepth 100000 in
theorem cow_45 : lw_tbl[598]? = some (Cond.code yX4_waterAt cX4_waterAt 3 (some .int)) := rfl
set_option maxRecDepth 100000 in
theorem cow_46 : lw_tbl[594]? = some (Cond.code yX4_isWet cX4_isWet 4 (some .boolean)) := rfl
set_option maxRecDepth 100000 in
theorem cow_47 : lw_tbl[590]? = some (Cond.code yX4_firstWet cX4_firstWet 5 (some .int)) := rfl
set_option maxRecDepth 100000 in
theorem cow_48 : lw_tbl[611]? = some (Cond.code yX4_lossFrom cX4_lossFrom 7 (some .int)) := rfl
set_option maxRecDepth 100000 in
theorem cow_49 : lw_tbl[481]? = some (Cond.code yX5_add cX5_add 4 (some .boolean)) := rfl
set_option maxRecDepth 100000 in
theorem cow_50 : lw_tbl[489]? = some (Cond.code yX5_latest cX5_latest 4 (some .int)) := rfl
set_option maxRecDepth 100000 in
theorem cow_51 : lw_tbl[506]? = some (Cond.code yX6_add cX6_add 6 (some .int)) := rfl
set_option maxRecDepth 100000 in
theorem cow_52 : lw_tbl[383]? = some (Cond.code yX7_stretch cX7_stretch 5 (some .int)) := rfl
set_option maxRecDepth 100000 in
theorem cow_53 : lw_tbl[415]? = some (Cond.code yX7_cell cX7_cell 6 (some .int)) := rfl
set_option maxRecDepth 100000 in
theorem cow_54 : lw_tbl[424]? = some (Cond.code yX7_dike cX7_dike 7 (some .int)) := rfl
set_option maxRecDepth 100000 in
theorem cow_55 : lw_tbl[436]? = some (Cond.code yX7_breach cX7_breach 4 (some .boolean)) := rfl
set_option maxRecDepth 100000 in
theorem cow_56 : lw_tbl[456]? = some (Cond.code yX7_flows cX7_flows 3 (some .boolean)) := rfl
set_option maxRecDepth 100000 in
theorem cow_57 : lw_tbl[460]? = some (Cond.code yX7_pit cX7_pit 2 (some .int)) := rfl
set_option maxRecDepth 100000 in
theorem cow_58 : lw_tbl[465]? = some (Cond.code yX7_send cX7_send 4 (some .int)) := rfl
set_option maxRecDepth 100000 in
theorem cow_59 : lw_tbl[477]? = some (Cond.code yX7_tell cX7_tell 4 (some .boolean)) := rfl
set_option maxRecDepth 100000 in
theorem cow_60 : lw_tbl[485]? = some (Cond.code yX7_known cX7_known 2 (some .int)) := rfl
set_option maxRecDepth 100000 in
theorem cow_61 : lw_tbl[493]? = some (Cond.code yX7_worst cX7_worst 5 (some .int)) := rfl
set_option maxRecDepth 100000 in
theorem cow_62 : lw_tbl[497]? = some (Cond.code yX7_road cX7_road 6 (some .int)) := rfl
set_option maxRecDepth 100000 in
theorem cow_63 : lw_tbl[510]? = some (Cond.code yX7_go cX7_go 3 (some .int)) := rfl
set_option maxRecDepth 100000 in
theorem cow_64 : lw_tbl[551]? = some (Cond.code yX7_people cX7_people 3 (some .boolean)) := rfl
set_option maxRecDepth 100000 in
theorem cow_65 : lw_tbl[555]? = some (Cond.code yX7_told cX7_told 4 (some .int)) := rfl
set_option maxRecDepth 100000 in
theorem cow_66 : lw_tbl[564]? = some (Cond.code yX7_crest cX7_crest 3 (some .int)) := rfl
set_option maxRecDepth 100000 in
theorem cow_67 : lw_tbl[573]? = some (Cond.code yX7_wet cX7_wet 2 (some .int)) := rfl
set_option maxRecDepth 100000 in
theorem cow_68 : lw_tbl[602]? = some (Cond.code yX7_foretold cX7_foretold 3 (some .int)) := rfl
set_option maxRecDepth 100000 in
theorem cow_69 : lw_tbl[607]? = some (Cond.code yX7_loss cX7_loss 1 (some .int)) := rfl
set_option maxRecDepth 100000 in
theorem cow_70 : lw_tbl[616]? = some (Cond.code yX7_best cX7_best 6 (some .int)) := rfl
set_option maxRecDepth 100000 in
theorem cow_71 : lw_tbl[624]? = some (Cond.code yX7_leave cX7_leave 2 (some .int)) := rfl
set_option maxRecDepth 100000 in
theorem cow_72 : lw_tbl[692]? = some (Cond.code yX7_soonest cX7_soonest 1 (some .int)) := rfl
set_option maxRecDepth 100000 in
theorem cow_73 : lw_tbl[700]? = some (Cond.code yX7_bars cX7_bars 2 (some .int)) := rfl
set_option maxRecDepth 100000 in
theorem cow_74 : lw_tbl[724]? = some (Cond.code yX7_bar cX7_bar 4 (some .int)) := rfl
set_option maxRecDepth 100000 in
theorem cow_75 : lw_tbl[736]? = some (Cond.code yX7_count cX7_count 2 (some .int)) := rfl
set_option maxRecDepth 100000 in
theorem cow_76 : lw_tbl[390]? = some (Cond.code yX7_within cX7_within 3 (some .boolean)) := rfl
set_option maxRecDepth 100000 in
theorem cow_77 : lw_tbl[444]? = some (Cond.code yX7_hourToCome cX7_hourToCome 2 (some .boolean)) := rfl
set_option maxRecDepth 100000 in
theorem cow_78 : lw_tbl[448]? = some (Cond.code yX7_brokeBefore cX7_brokeBefore 2 (some .boolean)) := rfl
set_option maxRecDepth 100000 in
theorem cow_79 : lw_tbl[469]? = some (Cond.code yX7_canSend cX7_canSend 3 (some .boolean)) := rfl
set_option maxRecDepth 100000 in
theorem cow_80 : lw_tbl[740]? = some (Cond.code yX7_allBagsUnderWay cX7_allBagsUnderWay 3 (some .int)) := rfl
set_option maxRecDepth 100000 in
theorem cow_81 : lw_tbl[620]? = some (Cond.code yX7_lossWithBags cX7_lossWithBags 5 (some .int)) := rfl
set_option maxRecDepth 100000 in
theorem cow_82 : lw_tbl[403]? = some (Cond.code yX7_waterChanges cX7_waterChanges 1 (none)) := rfl
set_option maxRecDepth 100000 in
theorem cow_83 : lw_tbl[628]? = some (Cond.code yX7_readyFlight cX7_readyFlight 1 (none)) := rfl
set_option maxRecDepth 100000 in
theorem cow_84 : lw_tbl[704]? = some (Cond.code yX7_readyBars cX7_readyBars 2 (none)) := rfl
set_option maxRecDepth 100000 in
theorem cow_85 : lw_tbl[891]? = some (Cond.code yX8_in cX8_in 3 (some .boolean)) := rfl
set_option maxRecDepth 100000 in
theorem cow_86 : lw_tbl[908]? = some (Cond.code yX8_isBody cX8_isBody 2 (some .boolean)) := rfl
set_option maxRecDepth 100000 in
theorem cow_87 : lw_tbl[958]? = some (Cond.code yX8_isCell cX8_isCell 2 (some .boolean)) := rfl
set_option maxRecDepth 100000 in
theorem cow_88 : lw_tbl[916]? = some (Cond.code yX8_isDike cX8_isDike 2 (some .boolean)) := rfl
set_option maxRecDepth 100000 in
theorem cow_89 : lw_tbl[895]? = some (Cond.code yX8_body cX8_body 3 (some .int)) := rfl
set_option maxRecDepth 100000 in
theorem cow_90 : lw_tbl[888]? = some (Cond.code yX8_stretch cX8_stretch 4 (some .int)) := rfl
set_option maxRecDepth 100000 in
theorem cow_91 : lw_tbl[899]? = some (Cond.code yX8_cell cX8_cell 5 (some .int)) := rfl
set_option maxRecDepth 100000 in
theorem cow_92 : lw_tbl[904]? = some (Cond.code yX8_dike cX8_dike 6 (some .int)) := rfl
set_option maxRecDepth 100000 in
theorem cow_93 : lw_tbl[920]? = some (Cond.code yX8_isBreached cX8_isBreached 3 (some .boolean)) := rfl
set_option maxRecDepth 100000 in
theorem cow_94 : lw_tbl[912]? = some (Cond.code yX8_breach cX8_breach 4 (some .boolean)) := rfl
set_option maxRecDepth 100000 in
theorem cow_95 : lw_tbl[924]? = some (Cond.code yX8_flows cX8_flows 3 (some .boolean)) := rfl
set_option maxRecDepth 100000 in
theorem cow_96 : lw_tbl[928]? = some (Cond.code yX8_pit cX8_pit 2 (some .int)) := rfl
set_option maxRecDepth 100000 in
theorem cow_97 : lw_tbl[937]? = some (Cond.code yX8_canSend cX8_canSend 3 (some .boolean)) := rfl
set_option maxRecDepth 100000 in
theorem cow_98 : lw_tbl[933]? = some (Cond.code yX8_send cX8_send 3 (some .int)) := rfl
set_option maxRecDepth 100000 in
theorem cow_99 : lw_tbl[941]? = some (Cond.code yX8_tell cX8_tell 4 (some .boolean)) := rfl
set_option maxRecDepth 100000 in
theorem cow_100 : lw_tbl[945]? = some (Cond.code yX8_known cX8_known 4 (some .int)) := rfl
set_option maxRecDepth 100000 in
theorem cow_101 : lw_tbl[949]? = some (Cond.code yX8_worst cX8_worst 3 (some .int)) := rfl
set_option maxRecDepth 100000 in
theorem cow_102 : lw_tbl[954]? = some (Cond.code yX8_road cX8_road 5 (some .int)) := rfl
set_option maxRecDepth 100000 in
theorem cow_103 : lw_tbl[975]? = some (Cond.code yX8_level cX8_level 3 (some .int)) := rfl
set_option maxRecDepth 100000 in
theorem cow_104 : lw_tbl[979]? = some (Cond.code yX8_top cX8_top 4 (some .int)) := rfl
set_option maxRecDepth 100000 in
theorem cow_105 : lw_tbl[966]? = some (Cond.code yX8_hour cX8_hour 7 (none)) := rfl
set_option maxRecDepth 100000 in
theorem cow_106 : lw_tbl[971]? = some (Cond.code yX8_over cX8_over 15 (none)) := rfl
set_option maxRecDepth 100000 in
theorem cow_107 : lw_tbl[962]? = some (Cond.code yX8_go cX8_go 4 (some .int)) := rfl
set_option maxRecDepth 100000 in
theorem cow_108 : lw_tbl[1004]? = some (Cond.code yX8_foretells cX8_foretells 3 (none)) := rfl
set_option maxRecDepth 100000 in
theorem cow_109 : lw_tbl[1008]? = some (Cond.code yX8_isWet cX8_isWet 3 (some .boolean)) := rfl
set_option maxRecDepth 100000 in
theorem cow_110 : lw_tbl[984]? = some (Cond.code yX8_people cX8_people 3 (some .boolean)) := rfl
set_option maxRecDepth 100000 in
theorem cow_111 : lw_tbl[988]? = some (Cond.code yX8_told cX8_told 4 (some .int)) := rfl
set_option maxRecDepth 100000 in
theorem cow_112 : lw_tbl[996]? = some (Cond.code yX8_underWay cX8_underWay 4 (some .int)) := rfl
set_option maxRecDepth 100000 in
theorem cow_113 : lw_tbl[992]? = some (Cond.code yX8_crest cX8_crest 3 (some .int)) := rfl
set_option maxRecDepth 100000 in
theorem cow_114 : lw_tbl[1000]? = some (Cond.code yX8_wet cX8_wet 3 (some .int)) := rfl
set_option maxRecDepth 100000 in
theorem cow_115 : lw_tbl[1012]? = some (Cond.code yX8_foretold cX8_foretold 3 (some .int)) := rfl
set_option maxRecDepth 100000 in
theorem cow_116 : lw_tbl[1016]? = some (Cond.code yX8_loss cX8_loss 5 (some .int)) := rfl
set_option maxRecDepth 100000 in
theorem cow_117 : lw_tbl[1020]? = some (Cond.code yX8_best cX8_best 7 (some .int)) := rfl
set_option maxRecDepth 100000 in
theorem cow_118 : lw_tbl[1037]? = some (Cond.code yX8_isPlace cX8_isPlace 4 (some .boolean)) := rfl
set_option maxRecDepth 100000 in
theorem cow_119 : lw_tbl[1041]? = some (Cond.code yX8_sees cX8_sees 6 (none)) := rfl
set_option maxRecDepth 100000 in
theorem cow_120 : lw_tbl[1033]? = some (Cond.code yX8_seeks cX8_seeks 3 (some .boolean)) := rfl
set_option maxRecDepth 100000 in
theorem cow_121 : lw_tbl[1045]? = some (Cond.code yX8_spreads cX8_spreads 7 (none)) := rfl
set_option maxRecDepth 100000 in
theorem cow_122 : lw_tbl[1054]? = some (Cond.code yX8_placeAhead cX8_placeAhead 3 (some .int)) := rfl
set_option maxRecDepth 100000 in
theorem cow_123 : lw_tbl[1049]? = some (Cond.code yX8_more cX8_more 3 (some .int)) := rfl
set_option maxRecDepth 100000 in
theorem cow_124 : lw_tbl[1058]? = some (Cond.code yX8_goes cX8_goes 4 (none)) := rfl
set_option maxRecDepth 100000 in
theorem cow_125 : lw_tbl[1029]? = some (Cond.code yX8_leads cX8_leads 7 (some .int)) := rfl
set_option maxRecDepth 100000 in
theorem cow_126 : lw_tbl[1025]? = some (Cond.code yX8_leave cX8_leave 2 (some .int)) := rfl
set_option maxRecDepth 100000 in
theorem cow_127 : lw_tbl[1062]? = some (Cond.code yX8_soonest cX8_soonest 5 (some .int)) := rfl
set_option maxRecDepth 100000 in
theorem cow_128 : lw_tbl[1070]? = some (Cond.code yX8_isBar cX8_isBar 6 (some .boolean)) := rfl
set_option maxRecDepth 100000 in
theorem cow_129 : lw_tbl[1066]? = some (Cond.code yX8_bars cX8_bars 5 (some .int)) := rfl
set_option maxRecDepth 100000 in
theorem cow_130 : lw_tbl[1074]? = some (Cond.code yX8_bar cX8_bar 7 (some .int)) := rfl
set_option maxRecDepth 100000 in
theorem cow_131 : lw_tbl[1078]? = some (Cond.code yX8_count cX8_count 4 (some .int)) := rfl
set_option maxRecDepth 100000 in
theorem cow_132 : lw_tbl[635]? = some (Cond.code yJ7_fill_53178 cJ7_fill_53178 4 (none)) := rfl
