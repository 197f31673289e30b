/-! the methods' own words -/
set_option maxRecDepth 100000 in
theorem zcw_1 : lw_tbl[230]? = some (.code yX0_init cX0_init 1 (none)) := rfl
set_option maxRecDepth 100000 in
theorem zcw_2 : lw_tbl[593]? = some (.code yX0_look cX0_look 4 (none)) := rfl
set_option maxRecDepth 100000 in
theorem zcw_3 : lw_tbl[597]? = some (.code yX0_findBringers cX0_findBringers 7 (none)) := rfl
set_option maxRecDepth 100000 in
theorem zcw_4 : lw_tbl[611]? = some (.code yX0_lackingFor cX0_lackingFor 6 (some .int)) := rfl
set_option maxRecDepth 100000 in
theorem zcw_5 : lw_tbl[606]? = some (.code yX0_ableBy cX0_ableBy 5 (some .int)) := rfl
set_option maxRecDepth 100000 in
theorem zcw_6 : lw_tbl[602]? = some (.code yX0_hold cX0_hold 2 (some .boolean)) := rfl
set_option maxRecDepth 100000 in
theorem zcw_7 : lw_tbl[632]? = some (.code yX0_allow cX0_allow 2 (some .boolean)) := rfl
set_option maxRecDepth 100000 in
theorem zcw_8 : lw_tbl[641]? = some (.code yX0_greatestWithout cX0_greatestWithout 5 (some .int)) := rfl
set_option maxRecDepth 100000 in
theorem zcw_9 : lw_tbl[649]? = some (.code yX0_madeOf cX0_madeOf 4 (some .int)) := rfl
set_option maxRecDepth 100000 in
theorem zcw_10 : lw_tbl[653]? = some (.code yX0_stepsOf cX0_stepsOf 5 (some .int)) := rfl
set_option maxRecDepth 100000 in
theorem zcw_11 : lw_tbl[661]? = some (.code yX0_goingRound cX0_goingRound 3 (some .int)) := rfl
set_option maxRecDepth 100000 in
theorem zcw_12 : lw_tbl[117]? = some (.code yX1_init cX1_init 1 (none)) := rfl
set_option maxRecDepth 100000 in
theorem zcw_13 : lw_tbl[505]? = some (.code yX1_become cX1_become 2 (none)) := rfl
set_option maxRecDepth 100000 in
theorem zcw_14 : lw_tbl[707]? = some (.code yX1_tenths cX1_tenths 1 (some .int)) := rfl
set_option maxRecDepth 100000 in
theorem zcw_15 : lw_tbl[89]? = some (.code yX2_init cX2_init 2 (none)) := rfl
set_option maxRecDepth 100000 in
theorem zcw_16 : lw_tbl[369]? = some (.code yX2_empty cX2_empty 2 (none)) := rfl
set_option maxRecDepth 100000 in
theorem zcw_17 : lw_tbl[501]? = some (.code yX2_become cX2_become 3 (none)) := rfl
set_option maxRecDepth 100000 in
theorem zcw_18 : lw_tbl[497]? = some (.code yX2_isOne cX2_isOne 2 (some .boolean)) := rfl
set_option maxRecDepth 100000 in
theorem zcw_19 : lw_tbl[493]? = some (.code yX2_isHour cX2_isHour 2 (some .boolean)) := rfl
set_option maxRecDepth 100000 in
theorem zcw_20 : lw_tbl[529]? = some (.code yX2_isDeed cX2_isDeed 2 (some .boolean)) := rfl
set_option maxRecDepth 100000 in
theorem zcw_21 : lw_tbl[573]? = some (.code yX2_isDay cX2_isDay 2 (some .boolean)) := rfl
set_option maxRecDepth 100000 in
theorem zcw_22 : lw_tbl[560]? = some (.code yX2_isMarkOf cX2_isMarkOf 3 (some .boolean)) := rfl
set_option maxRecDepth 100000 in
theorem zcw_23 : lw_tbl[582]? = some (.code yX2_isEarlier cX2_isEarlier 5 (some .boolean)) := rfl
set_option maxRecDepth 100000 in
theorem zcw_24 : lw_tbl[577]? = some (.code yX2_thingsHad cX2_thingsHad 7 (some .int)) := rfl
set_option maxRecDepth 100000 in
theorem zcw_25 : lw_tbl[735]? = some (.code yX2_wayCodes cX2_wayCodes 3 (some .int)) := rfl
set_option maxRecDepth 100000 in
theorem zcw_26 : lw_tbl[739]? = some (.code yX2_goBy cX2_goBy 4 (none)) := rfl
set_option maxRecDepth 100000 in
theorem zcw_27 : lw_tbl[489]? = some (.code yX2_isWhole cX2_isWhole 2 (some .boolean)) := rfl
set_option maxRecDepth 100000 in
theorem zcw_28 : lw_tbl[100]? = some (.code yX3_init cX3_init 1 (none)) := rfl
set_option maxRecDepth 100000 in
theorem zcw_29 : lw_tbl[258]? = some (.code yX4_init cX4_init 1 (none)) := rfl
set_option maxRecDepth 100000 in
theorem zcw_30 : lw_tbl[365]? = some (.code yX4_tell cX4_tell 3 (some .int)) := rfl
set_option maxRecDepth 100000 in
theorem zcw_31 : lw_tbl[385]? = some (.code yX4_takeLine cX4_takeLine 1 (some .boolean)) := rfl
set_option maxRecDepth 100000 in
theorem zcw_32 : lw_tbl[442]? = some (.code yX4_takeHours cX4_takeHours 1 (some .boolean)) := rfl
set_option maxRecDepth 100000 in
theorem zcw_33 : lw_tbl[459]? = some (.code yX4_takeOne cX4_takeOne 2 (some .boolean)) := rfl
set_option maxRecDepth 100000 in
theorem zcw_34 : lw_tbl[474]? = some (.code yX4_takeDeed cX4_takeDeed 2 (some .boolean)) := rfl
set_option maxRecDepth 100000 in
theorem zcw_35 : lw_tbl[479]? = some (.code yX4_takeMark cX4_takeMark 2 (some .boolean)) := rfl
set_option maxRecDepth 100000 in
theorem zcw_36 : lw_tbl[485]? = some (.code yX4_takeOdds cX4_takeOdds 2 (some .boolean)) := rfl
set_option maxRecDepth 100000 in
theorem zcw_37 : lw_tbl[466]? = some (.code yX4_takeThings cX4_takeThings 3 (some .int)) := rfl
set_option maxRecDepth 100000 in
theorem zcw_38 : lw_tbl[446]? = some (.code yX4_takeNumber cX4_takeNumber 3 (some .boolean)) := rfl
set_option maxRecDepth 100000 in
theorem zcw_39 : lw_tbl[454]? = some (.code yX4_takeSemicolon cX4_takeSemicolon 1 (some .boolean)) := rfl
set_option maxRecDepth 100000 in
theorem zcw_40 : lw_tbl[450]? = some (.code yX4_isNumber cX4_isNumber 3 (some .boolean)) := rfl
set_option maxRecDepth 100000 in
theorem zcw_41 : lw_tbl[390]? = some (.code yX4_isName cX4_isName 3 (some .boolean)) := rfl
set_option maxRecDepth 100000 in
theorem zcw_42 : lw_tbl[373]? = some (.code yX4_takeToken cX4_takeToken 1 (some .boolean)) := rfl
set_option maxRecDepth 100000 in
theorem zcw_43 : lw_tbl[377]? = some (.code yX4_takeFigures cX4_takeFigures 2 (some .int)) := rfl
set_option maxRecDepth 100000 in
theorem zcw_44 : lw_tbl[381]? = some (.code yX4_refuse cX4_refuse 3 (some .boolean)) := rfl
set_option maxRecDepth 100000 in
theorem zcw_45 : lw_tbl[310]? = some (.code yX5_init cX5_init 1 (none)) := rfl
set_option maxRecDepth 100000 in
theorem zcw_46 : lw_tbl[782]? = some (.code yX5_isNothing cX5_isNothing 1 (some .boolean)) := rfl
set_option maxRecDepth 100000 in
theorem zcw_47 : lw_tbl[770]? = some (.code yX5_renew cX5_renew 4 (none)) := rfl
set_option maxRecDepth 100000 in
theorem zcw_48 : lw_tbl[794]? = some (.code yX5_faultOfLane cX5_faultOfLane 2 (some .int)) := rfl
set_option maxRecDepth 100000 in
theorem zcw_49 : lw_tbl[778]? = some (.code yX5_faultOfCell cX5_faultOfCell 2 (some .int)) := rfl
set_option maxRecDepth 100000 in
theorem zcw_50 : lw_tbl[798]? = some (.code yX5_faultOfPair cX5_faultOfPair 3 (some .int)) := rfl
set_option maxRecDepth 100000 in
theorem zcw_51 : lw_tbl[786]? = some (.code yX5_put cX5_put 3 (none)) := rfl
set_option maxRecDepth 100000 in
theorem zcw_52 : lw_tbl[170]? = some (.code yX6_init cX6_init 1 (none)) := rfl
set_option maxRecDepth 100000 in
theorem zcw_53 : lw_tbl[81]? = some (.code yX7_init cX7_init 2 (none)) := rfl
set_option maxRecDepth 100000 in
theorem zcw_54 : lw_tbl[353]? = some (.code yX7_feed cX7_feed 2 (some .int)) := rfl
set_option maxRecDepth 100000 in
theorem zcw_55 : lw_tbl[357]? = some (.code yX7_end cX7_end 3 (some .int)) := rfl
set_option maxRecDepth 100000 in
theorem zcw_56 : lw_tbl[361]? = some (.code yX7_text cX7_text 3 (some .int)) := rfl
set_option maxRecDepth 100000 in
theorem zcw_57 : lw_tbl[509]? = some (.code yX7_fault cX7_fault 1 (some .int)) := rfl
set_option maxRecDepth 100000 in
theorem zcw_58 : lw_tbl[513]? = some (.code yX7_rule cX7_rule 2 (some .int)) := rfl
set_option maxRecDepth 100000 in
theorem zcw_59 : lw_tbl[517]? = some (.code yX7_one cX7_one 4 (some .int)) := rfl
set_option maxRecDepth 100000 in
theorem zcw_60 : lw_tbl[525]? = some (.code yX7_deed cX7_deed 4 (some .int)) := rfl
set_option maxRecDepth 100000 in
theorem zcw_61 : lw_tbl[533]? = some (.code yX7_go cX7_go 4 (some .int)) := rfl
set_option maxRecDepth 100000 in
theorem zcw_62 : lw_tbl[537]? = some (.code yX7_birth cX7_birth 4 (some .int)) := rfl
set_option maxRecDepth 100000 in
theorem zcw_63 : lw_tbl[544]? = some (.code yX7_does cX7_does 7 (some .int)) := rfl
set_option maxRecDepth 100000 in
theorem zcw_64 : lw_tbl[552]? = some (.code yX7_shift cX7_shift 4 (some .int)) := rfl
set_option maxRecDepth 100000 in
theorem zcw_65 : lw_tbl[556]? = some (.code yX7_mark cX7_mark 4 (some .int)) := rfl
set_option maxRecDepth 100000 in
theorem zcw_66 : lw_tbl[565]? = some (.code yX7_odd cX7_odd 4 (some .int)) := rfl
set_option maxRecDepth 100000 in
theorem zcw_67 : lw_tbl[569]? = some (.code yX7_has cX7_has 4 (some .int)) := rfl
set_option maxRecDepth 100000 in
theorem zcw_68 : lw_tbl[589]? = some (.code yX7_hangs cX7_hangs 2 (some .int)) := rfl
set_option maxRecDepth 100000 in
theorem zcw_69 : lw_tbl[615]? = some (.code yX7_lacks cX7_lacks 5 (some .int)) := rfl
set_option maxRecDepth 100000 in
theorem zcw_70 : lw_tbl[628]? = some (.code yX7_days cX7_days 8 (some .int)) := rfl
set_option maxRecDepth 100000 in
theorem zcw_71 : lw_tbl[637]? = some (.code yX7_greatest cX7_greatest 1 (some .int)) := rfl
set_option maxRecDepth 100000 in
theorem zcw_72 : lw_tbl[645]? = some (.code yX7_made cX7_made 3 (some .int)) := rfl
set_option maxRecDepth 100000 in
theorem zcw_73 : lw_tbl[657]? = some (.code yX7_stop cX7_stop 6 (some .int)) := rfl
set_option maxRecDepth 100000 in
theorem zcw_74 : lw_tbl[673]? = some (.code yX7_reach cX7_reach 9 (some .int)) := rfl
set_option maxRecDepth 100000 in
theorem zcw_75 : lw_tbl[682]? = some (.code yX7_better cX7_better 7 (some .int)) := rfl
set_option maxRecDepth 100000 in
theorem zcw_76 : lw_tbl[690]? = some (.code yX7_common cX7_common 7 (some .int)) := rfl
set_option maxRecDepth 100000 in
theorem zcw_77 : lw_tbl[694]? = some (.code yX7_odds cX7_odds 2 (some .long)) := rfl
set_option maxRecDepth 100000 in
theorem zcw_78 : lw_tbl[719]? = some (.code yX7_luck cX7_luck 5 (some .long)) := rfl
set_option maxRecDepth 100000 in
theorem zcw_79 : lw_tbl[723]? = some (.code yX7_see cX7_see 6 (some .int)) := rfl
set_option maxRecDepth 100000 in
theorem zcw_80 : lw_tbl[727]? = some (.code yX7_forget cX7_forget 3 (some .int)) := rfl
set_option maxRecDepth 100000 in
theorem zcw_81 : lw_tbl[731]? = some (.code yX7_ways cX7_ways 8 (some .int)) := rfl
set_option maxRecDepth 100000 in
theorem zcw_82 : lw_tbl[747]? = some (.code yX7_walk cX7_walk 8 (some .int)) := rfl
set_option maxRecDepth 100000 in
theorem zcw_83 : lw_tbl[752]? = some (.code yX7_keep cX7_keep 3 (some .int)) := rfl
set_option maxRecDepth 100000 in
theorem zcw_84 : lw_tbl[756]? = some (.code yX7_back cX7_back 2 (some .int)) := rfl
set_option maxRecDepth 100000 in
theorem zcw_85 : lw_tbl[760]? = some (.code yX7_sheet cX7_sheet 4 (some .int)) := rfl
set_option maxRecDepth 100000 in
theorem zcw_86 : lw_tbl[774]? = some (.code yX7_lay cX7_lay 5 (some .int)) := rfl
set_option maxRecDepth 100000 in
theorem zcw_87 : lw_tbl[790]? = some (.code yX7_read cX7_read 10 (some .int)) := rfl
set_option maxRecDepth 100000 in
theorem zcw_88 : lw_tbl[803]? = some (.code yX7_torn cX7_torn 1 (some .int)) := rfl
set_option maxRecDepth 100000 in
theorem zcw_89 : lw_tbl[807]? = some (.code yX7_count cX7_count 2 (some .int)) := rfl
set_option maxRecDepth 100000 in
theorem zcw_90 : lw_tbl[469]? = some (.code yX7_bit cX7_bit 2 (some .boolean)) := rfl
set_option maxRecDepth 100000 in
theorem zcw_91 : lw_tbl[548]? = some (.code yX7_isThing cX7_isThing 1 (some .boolean)) := rfl
set_option maxRecDepth 100000 in
theorem zcw_92 : lw_tbl[540]? = some (.code yX7_areThings cX7_areThings 1 (some .boolean)) := rfl
set_option maxRecDepth 100000 in
theorem zcw_93 : lw_tbl[763]? = some (.code yX7_isNoSheet cX7_isNoSheet 1 (some .boolean)) := rfl
set_option maxRecDepth 100000 in
theorem zcw_94 : lw_tbl[766]? = some (.code yX7_isNoLane cX7_isNoLane 1 (some .boolean)) := rfl
set_option maxRecDepth 100000 in
theorem zcw_95 : lw_tbl[618]? = some (.code yX7_isNoHalf cX7_isNoHalf 1 (some .boolean)) := rfl
set_option maxRecDepth 100000 in
theorem zcw_96 : lw_tbl[677]? = some (.code yX7_isNoSight cX7_isNoSight 4 (some .boolean)) := rfl
set_option maxRecDepth 100000 in
theorem zcw_97 : lw_tbl[521]? = some (.code yX7_hourAt cX7_hourAt 3 (some .int)) := rfl
set_option maxRecDepth 100000 in
theorem zcw_98 : lw_tbl[585]? = some (.code yX7_placeOf cX7_placeOf 3 (some .int)) := rfl
set_option maxRecDepth 100000 in
theorem zcw_99 : lw_tbl[811]? = some (.code yX7_marked cX7_marked 4 (some .int)) := rfl
set_option maxRecDepth 100000 in
theorem zcw_100 : lw_tbl[686]? = some (.code yX7_sizeOfGreatest cX7_sizeOfGreatest 2 (some .int)) := rfl
set_option maxRecDepth 100000 in
theorem zcw_101 : lw_tbl[743]? = some (.code yX7_isFit cX7_isFit 5 (some .boolean)) := rfl
set_option maxRecDepth 100000 in
theorem zcw_102 : lw_tbl[699]? = some (.code yX7_weightOfDays cX7_weightOfDays 7 (some .long)) := rfl
set_option maxRecDepth 100000 in
theorem zcw_103 : lw_tbl[703]? = some (.code yX7_weightOf cX7_weightOf 6 (some .long)) := rfl
set_option maxRecDepth 100000 in
theorem zcw_104 : lw_tbl[711]? = some (.code yX7_halfOf cX7_halfOf 10 (some .long)) := rfl
set_option maxRecDepth 100000 in
theorem zcw_105 : lw_tbl[715]? = some (.code yX7_greatestDivisor cX7_greatestDivisor 11 (some .long)) := rfl
set_option maxRecDepth 100000 in
theorem zcw_106 : lw_tbl[817]? = some (.code yX8_init cX8_init 2 (none)) := rfl
set_option maxRecDepth 100000 in
theorem zcw_107 : lw_tbl[919]? = some (.code yX8_in cX8_in 6 (some .boolean)) := rfl
set_option maxRecDepth 100000 in
theorem zcw_108 : lw_tbl[1089]? = some (.code yX8_flag cX8_flag 1 (some .int)) := rfl
set_option maxRecDepth 100000 in
theorem zcw_109 : lw_tbl[822]? = some (.code yX8_firstDraft cX8_firstDraft 2 (none)) := rfl
set_option maxRecDepth 100000 in
theorem zcw_110 : lw_tbl[826]? = some (.code yX8_keepDraft cX8_keepDraft 2 (none)) := rfl
set_option maxRecDepth 100000 in
theorem zcw_111 : lw_tbl[915]? = some (.code yX8_feed cX8_feed 2 (some .int)) := rfl
set_option maxRecDepth 100000 in
theorem zcw_112 : lw_tbl[923]? = some (.code yX8_end cX8_end 3 (some .int)) := rfl
set_option maxRecDepth 100000 in
theorem zcw_113 : lw_tbl[943]? = some (.code yX8_needs cX8_needs 3 (none)) := rfl
set_option maxRecDepth 100000 in
theorem zcw_114 : lw_tbl[935]? = some (.code yX8_look cX8_look 2 (some .int)) := rfl
set_option maxRecDepth 100000 in
theorem zcw_115 : lw_tbl[955]? = some (.code yX8_is cX8_is 5 (some .boolean)) := rfl
set_option maxRecDepth 100000 in
theorem zcw_116 : lw_tbl[959]? = some (.code yX8_ends cX8_ends 3 (some .boolean)) := rfl
set_option maxRecDepth 100000 in
theorem zcw_117 : lw_tbl[951]? = some (.code yX8_lineNow cX8_lineNow 1 (some .int)) := rfl
set_option maxRecDepth 100000 in
theorem zcw_118 : lw_tbl[979]? = some (.code yX8_wayNow cX8_wayNow 1 (some .int)) := rfl
set_option maxRecDepth 100000 in
theorem zcw_119 : lw_tbl[931]? = some (.code yX8_next cX8_next 2 (none)) := rfl
set_option maxRecDepth 100000 in
theorem zcw_120 : lw_tbl[971]? = some (.code yX8_looked cX8_looked 3 (some .int)) := rfl
set_option maxRecDepth 100000 in
theorem zcw_121 : lw_tbl[967]? = some (.code yX8_readNumber cX8_readNumber 4 (some .int)) := rfl
set_option maxRecDepth 100000 in
theorem zcw_122 : lw_tbl[983]? = some (.code yX8_readThings cX8_readThings 3 (some .int)) := rfl
set_option maxRecDepth 100000 in
theorem zcw_123 : lw_tbl[975]? = some (.code yX8_readOne cX8_readOne 2 (none)) := rfl
set_option maxRecDepth 100000 in
theorem zcw_124 : lw_tbl[991]? = some (.code yX8_readHis cX8_readHis 2 (some .int)) := rfl
set_option maxRecDepth 100000 in
theorem zcw_125 : lw_tbl[987]? = some (.code yX8_readDeed cX8_readDeed 3 (none)) := rfl
set_option maxRecDepth 100000 in
theorem zcw_126 : lw_tbl[995]? = some (.code yX8_readFresh cX8_readFresh 3 (some .int)) := rfl
set_option maxRecDepth 100000 in
theorem zcw_127 : lw_tbl[963]? = some (.code yX8_readLineOf cX8_readLineOf 3 (none)) := rfl
set_option maxRecDepth 100000 in
theorem zcw_128 : lw_tbl[947]? = some (.code yX8_readLine cX8_readLine 2 (none)) := rfl
set_option maxRecDepth 100000 in
theorem zcw_129 : lw_tbl[927]? = some (.code yX8_text cX8_text 2 (some .int)) := rfl
set_option maxRecDepth 100000 in
theorem zcw_130 : lw_tbl[999]? = some (.code yX8_fault cX8_fault 1 (some .int)) := rfl
set_option maxRecDepth 100000 in
theorem zcw_131 : lw_tbl[1011]? = some (.code yX8_isOne cX8_isOne 2 (some .boolean)) := rfl
set_option maxRecDepth 100000 in
theorem zcw_132 : lw_tbl[1031]? = some (.code yX8_isDeed cX8_isDeed 2 (some .boolean)) := rfl
set_option maxRecDepth 100000 in
theorem zcw_133 : lw_tbl[1015]? = some (.code yX8_isHour cX8_isHour 2 (some .boolean)) := rfl
set_option maxRecDepth 100000 in
theorem zcw_134 : lw_tbl[1060]? = some (.code yX8_isThing cX8_isThing 1 (some .boolean)) := rfl
set_option maxRecDepth 100000 in
theorem zcw_135 : lw_tbl[1082]? = some (.code yX8_isDay cX8_isDay 2 (some .boolean)) := rfl
set_option maxRecDepth 100000 in
theorem zcw_136 : lw_tbl[1036]? = some (.code yX8_of cX8_of 3 (some .int)) := rfl
set_option maxRecDepth 100000 in
theorem zcw_137 : lw_tbl[1023]? = some (.code yX8_placeOf cX8_placeOf 5 (some .int)) := rfl
set_option maxRecDepth 100000 in
theorem zcw_138 : lw_tbl[1019]? = some (.code yX8_hourAt cX8_hourAt 5 (some .int)) := rfl
set_option maxRecDepth 100000 in
theorem zcw_139 : lw_tbl[1003]? = some (.code yX8_rule cX8_rule 2 (some .int)) := rfl
set_option maxRecDepth 100000 in
theorem zcw_140 : lw_tbl[1007]? = some (.code yX8_one cX8_one 3 (some .int)) := rfl
set_option maxRecDepth 100000 in
theorem zcw_141 : lw_tbl[1027]? = some (.code yX8_deed cX8_deed 3 (some .int)) := rfl
set_option maxRecDepth 100000 in
theorem zcw_142 : lw_tbl[1045]? = some (.code yX8_becomes cX8_becomes 4 (some .int)) := rfl
set_option maxRecDepth 100000 in
theorem zcw_143 : lw_tbl[1040]? = some (.code yX8_go cX8_go 3 (some .int)) := rfl
set_option maxRecDepth 100000 in
theorem zcw_144 : lw_tbl[1052]? = some (.code yX8_areThings cX8_areThings 1 (some .boolean)) := rfl
set_option maxRecDepth 100000 in
theorem zcw_145 : lw_tbl[1049]? = some (.code yX8_birth cX8_birth 3 (some .int)) := rfl
set_option maxRecDepth 100000 in
theorem zcw_146 : lw_tbl[1057]? = some (.code yX8_does cX8_does 7 (some .int)) := rfl
set_option maxRecDepth 100000 in
theorem zcw_147 : lw_tbl[1065]? = some (.code yX8_shift cX8_shift 3 (some .int)) := rfl
set_option maxRecDepth 100000 in
theorem zcw_148 : lw_tbl[1069]? = some (.code yX8_mark cX8_mark 3 (some .int)) := rfl
set_option maxRecDepth 100000 in
theorem zcw_149 : lw_tbl[1073]? = some (.code yX8_odd cX8_odd 3 (some .int)) := rfl
set_option maxRecDepth 100000 in
theorem zcw_150 : lw_tbl[1086]? = some (.code yX8_hasBy cX8_hasBy 8 (some .int)) := rfl
set_option maxRecDepth 100000 in
theorem zcw_151 : lw_tbl[1101]? = some (.code yX8_lacksBy cX8_lacksBy 3 (some .int)) := rfl
set_option maxRecDepth 100000 in
theorem zcw_152 : lw_tbl[1097]? = some (.code yX8_doesHang cX8_doesHang 4 (some .boolean)) := rfl
set_option maxRecDepth 100000 in
theorem zcw_153 : lw_tbl[1078]? = some (.code yX8_has cX8_has 4 (some .int)) := rfl
set_option maxRecDepth 100000 in
theorem zcw_154 : lw_tbl[1093]? = some (.code yX8_hangs cX8_hangs 2 (some .int)) := rfl
set_option maxRecDepth 100000 in
theorem zcw_155 : lw_tbl[1108]? = some (.code yX8_lowestOf cX8_lowestOf 2 (some .int)) := rfl
set_option maxRecDepth 100000 in
theorem zcw_156 : lw_tbl[1105]? = some (.code yX8_lacks cX8_lacks 5 (some .int)) := rfl
set_option maxRecDepth 100000 in
theorem zcw_157 : lw_tbl[1125]? = some (.code yX8_marked cX8_marked 4 (some .int)) := rfl
set_option maxRecDepth 100000 in
theorem zcw_158 : lw_tbl[1117]? = some (.code yX8_allDeeds cX8_allDeeds 1 (some .int)) := rfl
set_option maxRecDepth 100000 in
theorem zcw_159 : lw_tbl[1121]? = some (.code yX8_isAllowed cX8_isAllowed 2 (some .boolean)) := rfl
set_option maxRecDepth 100000 in
theorem zcw_160 : lw_tbl[1112]? = some (.code yX8_days cX8_days 8 (some .int)) := rfl
set_option maxRecDepth 100000 in
theorem zcw_161 : lw_tbl[1133]? = some (.code yX8_findGreatest cX8_findGreatest 4 (some .int)) := rfl
set_option maxRecDepth 100000 in
theorem zcw_162 : lw_tbl[1129]? = some (.code yX8_greatest cX8_greatest 1 (some .int)) := rfl
set_option maxRecDepth 100000 in
theorem zcw_163 : lw_tbl[1141]? = some (.code yX8_findMade cX8_findMade 6 (some .int)) := rfl
set_option maxRecDepth 100000 in
theorem zcw_164 : lw_tbl[1152]? = some (.code yX8_bitsOf cX8_bitsOf 3 (some .int)) := rfl
set_option maxRecDepth 100000 in
theorem zcw_165 : lw_tbl[1137]? = some (.code yX8_made cX8_made 4 (some .int)) := rfl
set_option maxRecDepth 100000 in
theorem zcw_166 : lw_tbl[1149]? = some (.code yX8_roundNow cX8_roundNow 2 (some .int)) := rfl
set_option maxRecDepth 100000 in
theorem zcw_167 : lw_tbl[1145]? = some (.code yX8_stop cX8_stop 8 (some .int)) := rfl
set_option maxRecDepth 100000 in
theorem zcw_168 : lw_tbl[1156]? = some (.code yX8_reach cX8_reach 9 (some .int)) := rfl
set_option maxRecDepth 100000 in
theorem zcw_169 : lw_tbl[1160]? = some (.code yX8_better cX8_better 9 (some .int)) := rfl
set_option maxRecDepth 100000 in
theorem zcw_170 : lw_tbl[1164]? = some (.code yX8_common cX8_common 7 (some .int)) := rfl
set_option maxRecDepth 100000 in
theorem zcw_171 : lw_tbl[1173]? = some (.code yX8_waysOf cX8_waysOf 7 (some .long)) := rfl
set_option maxRecDepth 100000 in
theorem zcw_172 : lw_tbl[1177]? = some (.code yX8_told cX8_told 12 (some .long)) := rfl
set_option maxRecDepth 100000 in
theorem zcw_173 : lw_tbl[1168]? = some (.code yX8_odds cX8_odds 5 (some .long)) := rfl
set_option maxRecDepth 100000 in
theorem zcw_174 : lw_tbl[1181]? = some (.code yX8_luck cX8_luck 8 (some .long)) := rfl
set_option maxRecDepth 100000 in
theorem zcw_175 : lw_tbl[1185]? = some (.code yX8_see cX8_see 6 (some .int)) := rfl
set_option maxRecDepth 100000 in
theorem zcw_176 : lw_tbl[1189]? = some (.code yX8_forget cX8_forget 2 (some .int)) := rfl
set_option maxRecDepth 100000 in
theorem zcw_177 : lw_tbl[1197]? = some (.code yX8_isSo cX8_isSo 5 (some .boolean)) := rfl
set_option maxRecDepth 100000 in
theorem zcw_178 : lw_tbl[1193]? = some (.code yX8_ways cX8_ways 9 (some .int)) := rfl
set_option maxRecDepth 100000 in
theorem zcw_179 : lw_tbl[1201]? = some (.code yX8_walk cX8_walk 7 (some .int)) := rfl
set_option maxRecDepth 100000 in
theorem zcw_180 : lw_tbl[1211]? = some (.code yX8_copies cX8_copies 4 (none)) := rfl
set_option maxRecDepth 100000 in
theorem zcw_181 : lw_tbl[1207]? = some (.code yX8_keep cX8_keep 3 (some .int)) := rfl
set_option maxRecDepth 100000 in
theorem zcw_182 : lw_tbl[1215]? = some (.code yX8_back cX8_back 2 (some .int)) := rfl
set_option maxRecDepth 100000 in
theorem zcw_183 : lw_tbl[1222]? = some (.code yX8_isSheet cX8_isSheet 2 (some .boolean)) := rfl
set_option maxRecDepth 100000 in
theorem zcw_184 : lw_tbl[1219]? = some (.code yX8_sheet cX8_sheet 5 (some .int)) := rfl
set_option maxRecDepth 100000 in
theorem zcw_185 : lw_tbl[1227]? = some (.code yX8_lay cX8_lay 4 (some .int)) := rfl
set_option maxRecDepth 100000 in
theorem zcw_186 : lw_tbl[1231]? = some (.code yX8_read cX8_read 11 (some .int)) := rfl
set_option maxRecDepth 100000 in
theorem zcw_187 : lw_tbl[1237]? = some (.code yX8_torn cX8_torn 1 (some .int)) := rfl
set_option maxRecDepth 100000 in
theorem zcw_188 : lw_tbl[1241]? = some (.code yX8_count cX8_count 2 (some .int)) := rfl
set_option maxRecDepth 100000 in
theorem zcw_189 : lw_tbl[623]? = some (.code yJ6_numberOfTrailingZeros_0f7a4 cJ6_numberOfTrailingZeros_0f7a4 2 (some .int)) := rfl
set_option maxRecDepth 100000 in
theorem zcw_190 : lw_tbl[666]? = some (.code yJ6_bitCount_0f7a4 cJ6_bitCount_0f7a4 1 (some .int)) := rfl
set_option maxRecDepth 100000 in
theorem zcw_191 : lw_tbl[394]? = some (.code yJ0_length_8abf5 cJ0_length_8abf5 1 (some .int)) := rfl
set_option maxRecDepth 100000 in
theorem zcw_192 : lw_tbl[404]? = some (.code yJ0_charAt_5068e cJ0_charAt_5068e 2 (some .char)) := rfl
set_option maxRecDepth 100000 in
theorem zcw_193 : lw_tbl[398]? = some (.code yJ0_coder_7d493 cJ0_coder_7d493 1 (some .byte)) := rfl
set_option maxRecDepth 100000 in
theorem zcw_194 : lw_tbl[408]? = some (.code yJ0_isLatin1_aae02 cJ0_isLatin1_aae02 1 (some .boolean)) := rfl
set_option maxRecDepth 100000 in
theorem zcw_195 : lw_tbl[414]? = some (.code yJ0_checkIndex_df160 cJ0_checkIndex_df160 2 (none)) := rfl
set_option maxRecDepth 100000 in
theorem zcw_196 : lw_tbl[411]? = some (.code yJ1_charAt_3b067 cJ1_charAt_3b067 2 (some .char)) := rfl
set_option maxRecDepth 100000 in
theorem zcw_197 : lw_tbl[419]? = some (.code yJ3_checkIndex_8e157 cJ3_checkIndex_8e157 3 (some .int)) := rfl
set_option maxRecDepth 100000 in
theorem zk_code : ∀ {j : Nat}, 0 < j → j < z_nM → j ≠ z_law → Cond.code (z_Y j) (z_B j) (z_L j) (z_R j) ∈ z_T := by
  intro j h0 h1 h2
  match j, h0, h1, h2 with
  | 1, _, _, _ => exact z_T_in zcw_1 rfl
  | 2, _, _, _ => exact z_T_in zcw_2 rfl
  | 3, _, _, _ => exact z_T_in zcw_3 rfl
  | 4, _, _, _ => exact z_T_in zcw_4 rfl
  | 5, _, _, _ => exact z_T_in zcw_5 rfl
  | 6, _, _, _ => exact z_T_in zcw_6 rfl
  | 7, _, _, _ => exact z_T_in zcw_7 rfl
  | 8, _, _, _ => exact z_T_in zcw_8 rfl
  | 9, _, _, _ => exact z_T_in zcw_9 rfl
  | 10, _, _, _ => exact z_T_in zcw_10 rfl
  | 11, _, _, _ => exact z_T_in zcw_11 rfl
  | 12, _, _, _ => exact z_T_in zcw_12 rfl
  | 13, _, _, _ => exact z_T_in zcw_13 rfl
  | 14, _, _, _ => exact z_T_in zcw_14 rfl
  | 15, _, _, _ => exact z_T_in zcw_15 rfl
  | 16, _, _, _ => exact z_T_in zcw_16 rfl
  | 17, _, _, _ => exact z_T_in zcw_17 rfl
  | 18, _, _, _ => exact z_T_in zcw_18 rfl
  | 19, _, _, _ => exact z_T_in zcw_19 rfl
  | 20, _, _, _ => exact z_T_in zcw_20 rfl
  | 21, _, _, _ => exact z_T_in zcw_21 rfl
  | 22, _, _, _ => exact z_T_in zcw_22 rfl
  | 23, _, _, _ => exact z_T_in zcw_23 rfl
  | 24, _, _, _ => exact z_T_in zcw_24 rfl
  | 25, _, _, _ => exact z_T_in zcw_25 rfl
  | 26, _, _, _ => exact z_T_in zcw_26 rfl
  | 27, _, _, _ => exact z_T_in zcw_27 rfl
  | 28, _, _, _ => exact z_T_in zcw_28 rfl
  | 29, _, _, _ => exact z_T_in zcw_29 rfl
  | 30, _, _, _ => exact z_T_in zcw_30 rfl
  | 31, _, _, _ => exact z_T_in zcw_31 rfl
  | 32, _, _, _ => exact z_T_in zcw_32 rfl
  | 33, _, _, _ => exact z_T_in zcw_33 rfl
  | 34, _, _, _ => exact z_T_in zcw_34 rfl
  | 35, _, _, _ => exact z_T_in zcw_35 rfl
  | 36, _, _, _ => exact z_T_in zcw_36 rfl
  | 37, _, _, _ => exact z_T_in zcw_37 rfl
  | 38, _, _, _ => exact z_T_in zcw_38 rfl
  | 39, _, _, _ => exact z_T_in zcw_39 rfl
  | 40, _, _, _ => exact z_T_in zcw_40 rfl
  | 41, _, _, _ => exact z_T_in zcw_41 rfl
  | 42, _, _, _ => exact z_T_in zcw_42 rfl
  | 43, _, _, _ => exact z_T_in zcw_43 rfl
  | 44, _, _, _ => exact z_T_in zcw_44 rfl
  | 45, _, _, _ => exact z_T_in zcw_45 rfl
  | 46, _, _, _ => exact z_T_in zcw_46 rfl
  | 47, _, _, _ => exact z_T_in zcw_47 rfl
  | 48, _, _, _ => exact z_T_in zcw_48 rfl
  | 49, _, _, _ => exact z_T_in zcw_49 rfl
  | 50, _, _, _ => exact z_T_in zcw_50 rfl
  | 51, _, _, _ => exact z_T_in zcw_51 rfl
  | 52, _, _, _ => exact z_T_in zcw_52 rfl
  | 53, _, _, _ => exact z_T_in zcw_53 rfl
  | 54, _, _, _ => exact z_T_in zcw_54 rfl
  | 55, _, _, _ => exact z_T_in zcw_55 rfl
  | 56, _, _, _ => exact z_T_in zcw_56 rfl
  | 57, _, _, _ => exact z_T_in zcw_57 rfl
  | 58, _, _, _ => exact z_T_in zcw_58 rfl
  | 59, _, _, _ => exact z_T_in zcw_59 rfl
  | 60, _, _, _ => exact z_T_in zcw_60 rfl
  | 61, _, _, _ => exact z_T_in zcw_61 rfl
  | 62, _, _, _ => exact z_T_in zcw_62 rfl
  | 63, _, _, _ => exact z_T_in zcw_63 rfl
  | 64, _, _, _ => exact z_T_in zcw_64 rfl
  | 65, _, _, _ => exact z_T_in zcw_65 rfl
  | 66, _, _, _ => exact z_T_in zcw_66 rfl
  | 67, _, _, _ => exact z_T_in zcw_67 rfl
  | 68, _, _, _ => exact z_T_in zcw_68 rfl
  | 69, _, _, _ => exact z_T_in zcw_69 rfl
  | 70, _, _, _ => exact z_T_in zcw_70 rfl
  | 71, _, _, _ => exact z_T_in zcw_71 rfl
  | 72, _, _, _ => exact z_T_in zcw_72 rfl
  | 73, _, _, _ => exact z_T_in zcw_73 rfl
  | 74, _, _, _ => exact z_T_in zcw_74 rfl
  | 75, _, _, _ => exact z_T_in zcw_75 rfl
  | 76, _, _, _ => exact z_T_in zcw_76 rfl
  | 77, _, _, _ => exact z_T_in zcw_77 rfl
  | 78, _, _, _ => exact z_T_in zcw_78 rfl
  | 79, _, _, _ => exact z_T_in zcw_79 rfl
  | 80, _, _, _ => exact z_T_in zcw_80 rfl
  | 81, _, _, _ => exact z_T_in zcw_81 rfl
  | 82, _, _, _ => exact z_T_in zcw_82 rfl
  | 83, _, _, _ => exact z_T_in zcw_83 rfl
  | 84, _, _, _ => exact z_T_in zcw_84 rfl
  | 85, _, _, _ => exact z_T_in zcw_85 rfl
  | 86, _, _, _ => exact z_T_in zcw_86 rfl
  | 87, _, _, _ => exact z_T_in zcw_87 rfl
  | 88, _, _, _ => exact z_T_in zcw_88 rfl
  | 89, _, _, _ => exact z_T_in zcw_89 rfl
  | 90, _, _, _ => exact z_T_in zcw_90 rfl
  | 91, _, _, _ => exact z_T_in zcw_91 rfl
  | 92, _, _, _ => exact z_T_in zcw_92 rfl
  | 93, _, _, _ => exact z_T_in zcw_93 rfl
  | 94, _, _, _ => exact z_T_in zcw_94 rfl
  | 95, _, _, _ => exact z_T_in zcw_95 rfl
  | 96, _, _, _ => exact z_T_in zcw_96 rfl
  | 97, _, _, _ => exact z_T_in zcw_97 rfl
  | 98, _, _, _ => exact z_T_in zcw_98 rfl
  | 99, _, _, _ => exact z_T_in zcw_99 rfl
  | 100, _, _, _ => exact z_T_in zcw_100 rfl
  | 101, _, _, _ => exact z_T_in zcw_101 rfl
  | 102, _, _, _ => exact z_T_in zcw_102 rfl
  | 103, _, _, _ => exact z_T_in zcw_103 rfl
  | 104, _, _, _ => exact z_T_in zcw_104 rfl
  | 105, _, _, _ => exact z_T_in zcw_105 rfl
  | 106, _, _, _ => exact z_T_in zcw_106 rfl
  | 107, _, _, _ => exact z_T_in zcw_107 rfl
  | 108, _, _, _ => exact z_T_in zcw_108 rfl
  | 109, _, _, _ => exact z_T_in zcw_109 rfl
  | 110, _, _, _ => exact z_T_in zcw_110 rfl
  | 111, _, _, _ => exact z_T_in zcw_111 rfl
  | 112, _, _, _ => exact z_T_in zcw_112 rfl
  | 113, _, _, _ => exact z_T_in zcw_113 rfl
  | 114, _, _, _ => exact z_T_in zcw_114 rfl
  | 115, _, _, _ => exact z_T_in zcw_115 rfl
  | 116, _, _, _ => exact z_T_in zcw_116 rfl
  | 117, _, _, _ => exact z_T_in zcw_117 rfl
  | 118, _, _, _ => exact z_T_in zcw_118 rfl
  | 119, _, _, _ => exact z_T_in zcw_119 rfl
  | 120, _, _, _ => exact z_T_in zcw_120 rfl
  | 121, _, _, _ => exact z_T_in zcw_121 rfl
  | 122, _, _, _ => exact z_T_in zcw_122 rfl
  | 123, _, _, _ => exact z_T_in zcw_123 rfl
  | 124, _, _, _ => exact z_T_in zcw_124 rfl
  | 125, _, _, _ => exact z_T_in zcw_125 rfl
  | 126, _, _, _ => exact z_T_in zcw_126 rfl
  | 127, _, _, _ => exact z_T_in zcw_127 rfl
  | 128, _, _, _ => exact z_T_in zcw_128 rfl
  | 129, _, _, _ => exact z_T_in zcw_129 rfl
  | 130, _, _, _ => exact z_T_in zcw_130 rfl
  | 131, _, _, _ => exact z_T_in zcw_131 rfl
  | 132, _, _, _ => exact z_T_in zcw_132 rfl
  | 133, _, _, _ => exact z_T_in zcw_133 rfl
  | 134, _, _, _ => exact z_T_in zcw_134 rfl
  | 135, _, _, _ => exact z_T_in zcw_135 rfl
  | 136, _, _, _ => exact z_T_in zcw_136 rfl
  | 137, _, _, _ => exact z_T_in zcw_137 rfl
  | 138, _, _, _ => exact z_T_in zcw_138 rfl
  | 139, _, _, _ => exact z_T_in zcw_139 rfl
  | 140, _, _, _ => exact z_T_in zcw_140 rfl
  | 141, _, _, _ => exact z_T_in zcw_141 rfl
  | 142, _, _, _ => exact z_T_in zcw_142 rfl
  | 143, _, _, _ => exact z_T_in zcw_143 rfl
  | 144, _, _, _ => exact z_T_in zcw_144 rfl
  | 145, _, _, _ => exact z_T_in zcw_145 rfl
  | 146, _, _, _ => exact z_T_in zcw_146 rfl
  | 147, _, _, _ => exact z_T_in zcw_147 rfl
  | 148, _, _, _ => exact z_T_in zcw_148 rfl
  | 149, _, _, _ => exact z_T_in zcw_149 rfl
  | 150, _, _, _ => exact z_T_in zcw_150 rfl
  | 151, _, _, _ => exact z_T_in zcw_151 rfl
  | 152, _, _, _ => exact z_T_in zcw_152 rfl
  | 153, _, _, _ => exact z_T_in zcw_153 rfl
  | 154, _, _, _ => exact z_T_in zcw_154 rfl
  | 155, _, _, _ => exact z_T_in zcw_155 rfl
  | 156, _, _, _ => exact z_T_in zcw_156 rfl
  | 157, _, _, _ => exact z_T_in zcw_157 rfl
  | 158, _, _, _ => exact z_T_in zcw_158 rfl
  | 159, _, _, _ => exact z_T_in zcw_159 rfl
  | 160, _, _, _ => exact z_T_in zcw_160 rfl
  | 161, _, _, _ => exact z_T_in zcw_161 rfl
  | 162, _, _, _ => exact z_T_in zcw_162 rfl
  | 163, _, _, _ => exact z_T_in zcw_163 rfl
  | 164, _, _, _ => exact z_T_in zcw_164 rfl
  | 165, _, _, _ => exact z_T_in zcw_165 rfl
  | 166, _, _, _ => exact z_T_in zcw_166 rfl
  | 167, _, _, _ => exact z_T_in zcw_167 rfl
  | 168, _, _, _ => exact z_T_in zcw_168 rfl
  | 169, _, _, _ => exact z_T_in zcw_169 rfl
  | 170, _, _, _ => exact z_T_in zcw_170 rfl
  | 171, _, _, _ => exact z_T_in zcw_171 rfl
  | 172, _, _, _ => exact z_T_in zcw_172 rfl
  | 173, _, _, _ => exact z_T_in zcw_173 rfl
  | 174, _, _, _ => exact z_T_in zcw_174 rfl
  | 175, _, _, _ => exact z_T_in zcw_175 rfl
  | 176, _, _, _ => exact z_T_in zcw_176 rfl
  | 177, _, _, _ => exact z_T_in zcw_177 rfl
  | 178, _, _, _ => exact z_T_in zcw_178 rfl
  | 179, _, _, _ => exact z_T_in zcw_179 rfl
  | 180, _, _, _ => exact z_T_in zcw_180 rfl
  | 181, _, _, _ => exact z_T_in zcw_181 rfl
  | 182, _, _, _ => exact z_T_in zcw_182 rfl
  | 183, _, _, _ => exact z_T_in zcw_183 rfl
  | 184, _, _, _ => exact z_T_in zcw_184 rfl
  | 185, _, _, _ => exact z_T_in zcw_185 rfl
  | 186, _, _, _ => exact z_T_in zcw_186 rfl
  | 187, _, _, _ => exact z_T_in zcw_187 rfl
  | 188, _, _, _ => exact z_T_in zcw_188 rfl
  | 189, _, _, _ => exact z_T_in zcw_189 rfl
  | 190, _, _, _ => exact z_T_in zcw_190 rfl
  | 191, _, _, _ => exact z_T_in zcw_191 rfl
  | 192, _, _, _ => exact z_T_in zcw_192 rfl
  | 193, _, _, _ => exact z_T_in zcw_193 rfl
  | 194, _, _, _ => exact z_T_in zcw_194 rfl
  | 195, _, _, _ => exact z_T_in zcw_195 rfl
  | 196, _, _, _ => exact z_T_in zcw_196 rfl
  | 197, _, _, _ => exact z_T_in zcw_197 rfl
  | 198, _, _, h => exact absurd rfl h
  | k + 199, _, h, _ => exact absurd h (by simp [z_nM])
def zk_mw (j : Nat) : Bool := Nat.beq j 0 || Nat.beq j z_law || (decide (lw_tbl[z_Ip.getD j 0]? = some (if z_K j = 0 then .static (z_Y j) else .instanceMethod (z_Y j))) && (!Nat.beq (z_K j) 1 || decide (lw_tbl[z_Sp.getD j 0]? = some (.selects (z_Y j).cls (z_Y j) (z_Y j)))))
def zk_mm (j : Nat) : Bool := decide ((z_Y j).cls ≠ "java/lang/invoke/MethodHandle") && decide ((z_Y j).cls ≠ "java/lang/invoke/VarHandle") && decide ((parseMethodDescriptor (z_Y j).desc).map (fun d => d.parameters.length) = some (z_N j)) && Nat.ble (z_L j) 12 &&
  (Nat.beq j 0 || (decide ((z_Y j).cls = z_cn (z_O j)) && plainName (z_Y j).cls)) && (!Nat.beq (z_K j) 2 || (decide ((z_Y j).name = "<init>") && decide (z_R j = none))) && Nat.blt (z_O j) 14
set_option maxRecDepth 100000 in
theorem zo_mw1 : (List.range 100).all zk_mw = true := by decide +kernel
set_option maxRecDepth 100000 in
theorem zo_mw2 : (List.range 99).all (fun j => zk_mw (100 + j)) = true := by decide +kernel
set_option maxRecDepth 100000 in
theorem zo_mm : (List.range z_nM).all zk_mm = true := by decide +kernel
set_option maxRecDepth 100000 in
theorem zo_z : (List.range 14).all (fun o => decide (lw_tbl[z_Zp.getD o 0]? = some (.initialized (z_cn o)))) = true := by decide +kernel
set_option maxRecDepth 100000 in
theorem zo_ob : lw_tbl[z_Cp.getD 0 0]? = some (.code objectInit ⟨#[0xb1]⟩ 1 none) := by decide +kernel
set_option maxRecDepth 100000 in
theorem zo_obi : lw_tbl[83]? = some (.instanceMethod objectInit) := by decide +kernel
theorem zo_mw {j : Nat} (h : j < z_nM) : zk_mw j = true := by
  have hn : z_nM = 199 := rfl
  by_cases hj : j < 100
  · exact List.all_eq_true.mp zo_mw1 j (List.mem_range.mpr hj)
  · have := List.all_eq_true.mp zo_mw2 (j - 100) (List.mem_range.mpr (by omega))
    rwa [show 100 + (j - 100) = j by omega] at this
