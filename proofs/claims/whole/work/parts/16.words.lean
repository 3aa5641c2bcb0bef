/-! the words, printed by wip/whole/gen_memb.py -/
theorem xw_0 : (.fieldLink RX3 9 "DustReads$Library" "dust" "[I" : Cond) ∈ xWg := xmem (List.mem_of_getElem? (i := 115) (by decide +kernel)) rfl
theorem xw_1 : (.fieldLink RX3 15 "DustReads$Library" "book" "[I" : Cond) ∈ xWg := xmem (List.mem_of_getElem? (i := 118) (by decide +kernel)) rfl
theorem xw_2 : (.fieldLink RX3 18 "DustReads$Library" "faded" "[I" : Cond) ∈ xWg := xmem (List.mem_of_getElem? (i := 121) (by decide +kernel)) rfl
theorem xw_3 : (.fieldLink RX3 21 "DustReads$Library" "out" "[I" : Cond) ∈ xWg := xmem (List.mem_of_getElem? (i := 124) (by decide +kernel)) rfl
theorem xw_4 : (.fieldLink RX3 24 "DustReads$Library" "plan" "LDustReads$Plan;" : Cond) ∈ xWg := xmem (List.mem_of_getElem? (i := 112) (by decide +kernel)) rfl
theorem xw_5 : (.fieldLink RX3 28 "DustReads$Library" "hour" "I" : Cond) ∈ xWg := xmem (List.mem_of_getElem? (i := 113) (by decide +kernel)) rfl
theorem xw_6 : (.fieldLink RX3 94 "DustReads$Place" "draught" "I" : Cond) ∈ xWg := xmem (List.mem_of_getElem? (i := 441) (by decide +kernel)) rfl
theorem xw_7 : (.fieldLink RX5 7 "DustReads$Place" "number" "I" : Cond) ∈ xWg := xmem (List.mem_of_getElem? (i := 437) (by decide +kernel)) rfl
theorem xw_8 : (.fieldLink RX5 13 "DustReads$Place" "draught" "I" : Cond) ∈ xWg := xmem (List.mem_of_getElem? (i := 439) (by decide +kernel)) rfl
theorem xw_9 : (.fieldLink RX6 11 "DustReads$Plan" "places" "[LDustReads$Place;" : Cond) ∈ xWg := xmem (List.mem_of_getElem? (i := 272) (by decide +kernel)) rfl
theorem xw_10 : (.fieldLink RX6 17 "DustReads$Plan" "from" "[I" : Cond) ∈ xWg := xmem (List.mem_of_getElem? (i := 276) (by decide +kernel)) rfl
theorem xw_11 : (.fieldLink RX6 21 "DustReads$Plan" "to" "[I" : Cond) ∈ xWg := xmem (List.mem_of_getElem? (i := 277) (by decide +kernel)) rfl
theorem xw_12 : (.fieldLink RX6 24 "DustReads$Plan" "spots" "I" : Cond) ∈ xWg := xmem (List.mem_of_getElem? (i := 274) (by decide +kernel)) rfl
theorem xw_13 : (.fieldLink RX6 28 "DustReads$Plan" "readers" "I" : Cond) ∈ xWg := xmem (List.mem_of_getElem? (i := 278) (by decide +kernel)) rfl
theorem xw_14 : (.fieldLink RX7 9 "DustReads$Reading" "text" "[B" : Cond) ∈ xWg := xmem (List.mem_of_getElem? (i := 293) (by decide +kernel)) rfl
theorem xw_15 : (.fieldLink RX7 21 "DustReads$Reading" "length" "I" : Cond) ∈ xWg := xmem (List.mem_of_getElem? (i := 294) (by decide +kernel)) rfl
theorem xw_16 : (.fieldLink RX7 28 "DustReads$Reading" "plan" "LDustReads$Plan;" : Cond) ∈ xWg := xmem (List.mem_of_getElem? (i := 301) (by decide +kernel)) rfl
theorem xw_17 : (.fieldLink RX7 37 "DustReads$Reading" "told" "LDustReads$Library;" : Cond) ∈ xWg := xmem (List.mem_of_getElem? (i := 302) (by decide +kernel)) rfl
theorem xw_18 : (.fieldLink RX7 50 "DustReads$Reading" "form" "I" : Cond) ∈ xWg := xmem (List.mem_of_getElem? (i := 295) (by decide +kernel)) rfl
theorem xw_19 : (.fieldLink RX7 57 "DustReads$Reading" "fault" "I" : Cond) ∈ xWg := xmem (List.mem_of_getElem? (i := 299) (by decide +kernel)) rfl
theorem xw_20 : (.fieldLink RX7 135 "DustReads$Reading" "first" "I" : Cond) ∈ xWg := xmem (List.mem_of_getElem? (i := 297) (by decide +kernel)) rfl
theorem xw_21 : (.fieldLink RX7 138 "DustReads$Reading" "behind" "I" : Cond) ∈ xWg := xmem (List.mem_of_getElem? (i := 298) (by decide +kernel)) rfl
theorem xw_22 : (.fieldLink RX8 11 "DustReads$Rows" "items" "[[I" : Cond) ∈ xWg := xmem (List.mem_of_getElem? (i := 95) (by decide +kernel)) rfl
theorem xw_23 : (.fieldLink RX8 16 "DustReads$Rows" "lanes" "[I" : Cond) ∈ xWg := xmem (List.mem_of_getElem? (i := 96) (by decide +kernel)) rfl
theorem xw_24 : (.fieldLink RX8 20 "DustReads$Rows" "sizes" "[I" : Cond) ∈ xWg := xmem (List.mem_of_getElem? (i := 97) (by decide +kernel)) rfl
theorem xw_25 : (.fieldLink RX9 9 "DustReads$Trace" "numbers" "[I" : Cond) ∈ xWg := xmem (List.mem_of_getElem? (i := 147) (by decide +kernel)) rfl
theorem xw_26 : (.fieldLink RX9 15 "DustReads$Trace" "length" "I" : Cond) ∈ xWg := xmem (List.mem_of_getElem? (i := 148) (by decide +kernel)) rfl
theorem xw_27 : (.fieldLink RX11 10 "DustReads" "rows" "LDustReads$Rows;" : Cond) ∈ xWg := xmem (List.mem_of_getElem? (i := 154) (by decide +kernel)) rfl
theorem xw_28 : (.fieldLink RX11 16 "DustReads" "tape" "[B" : Cond) ∈ xWg := xmem (List.mem_of_getElem? (i := 156) (by decide +kernel)) rfl
theorem xw_29 : (.fieldLink RX11 25 "DustReads" "library" "LDustReads$Library;" : Cond) ∈ xWg := xmem (List.mem_of_getElem? (i := 159) (by decide +kernel)) rfl
theorem xw_30 : (.fieldLink RX11 29 "DustReads" "past" "[LDustReads$Library;" : Cond) ∈ xWg := xmem (List.mem_of_getElem? (i := 160) (by decide +kernel)) rfl
theorem xw_31 : (.fieldLink RX11 33 "DustReads" "images" "[LDustReads$Library;" : Cond) ∈ xWg := xmem (List.mem_of_getElem? (i := 163) (by decide +kernel)) rfl
theorem xw_32 : (.fieldLink RX11 39 "DustReads" "trace" "LDustReads$Trace;" : Cond) ∈ xWg := xmem (List.mem_of_getElem? (i := 164) (by decide +kernel)) rfl
theorem xw_33 : (.fieldLink RX11 48 "DustReads" "finding" "I" : Cond) ∈ xWg := xmem (List.mem_of_getElem? (i := 155) (by decide +kernel)) rfl
theorem xw_34 : (.fieldLink RX11 79 "DustReads" "taped" "I" : Cond) ∈ xWg := xmem (List.mem_of_getElem? (i := 157) (by decide +kernel)) rfl
theorem xw_35 : (.fieldLink RX11 95 "DustReads" "latestFault" "I" : Cond) ∈ xWg := xmem (List.mem_of_getElem? (i := 158) (by decide +kernel)) rfl
theorem xw_36 : (.fieldLink RX11 152 "DustReads" "undoable" "I" : Cond) ∈ xWg := xmem (List.mem_of_getElem? (i := 162) (by decide +kernel)) rfl
theorem xw_37 : (.fieldLink RX11 155 "DustReads" "oldest" "I" : Cond) ∈ xWg := xmem (List.mem_of_getElem? (i := 161) (by decide +kernel)) rfl
theorem xw_38 : (.fieldLink RX11 166 "DustReads$Place" "draught" "I" : Cond) ∈ xWg := xmem (List.mem_of_getElem? (i := 440) (by decide +kernel)) rfl
theorem xw_39 : (.fieldLink RX11 235 "DustReads$Place" "number" "I" : Cond) ∈ xWg := xmem (List.mem_of_getElem? (i := 438) (by decide +kernel)) rfl
theorem xw_40 : (.fieldLink RX12 7 "DustReadsModel" "st" "[I" : Cond) ∈ xWg := xmem (List.mem_of_getElem? (i := 874) (by decide +kernel)) rfl
theorem xw_41 : (.fieldLink RX12 13 "DustReadsModel" "kept" "[I" : Cond) ∈ xWg := xmem (List.mem_of_getElem? (i := 875) (by decide +kernel)) rfl
theorem xw_42 : (.fieldLink RX12 16 "DustReadsModel" "isKept" "[Z" : Cond) ∈ xWg := xmem (List.mem_of_getElem? (i := 876) (by decide +kernel)) rfl
theorem xw_43 : (.fieldLink RX12 20 "DustReadsModel" "was" "[I" : Cond) ∈ xWg := xmem (List.mem_of_getElem? (i := 877) (by decide +kernel)) rfl
theorem xw_44 : (.fieldLink RX12 23 "DustReadsModel" "lanes" "[I" : Cond) ∈ xWg := xmem (List.mem_of_getElem? (i := 879) (by decide +kernel)) rfl
theorem xw_45 : (.fieldLink RX12 26 "DustReadsModel" "sizes" "[I" : Cond) ∈ xWg := xmem (List.mem_of_getElem? (i := 880) (by decide +kernel)) rfl
theorem xw_46 : (.fieldLink RX12 29 "DustReadsModel" "items" "[I" : Cond) ∈ xWg := xmem (List.mem_of_getElem? (i := 881) (by decide +kernel)) rfl
theorem xw_47 : (.fieldLink RX12 32 "DustReadsModel" "tape" "[I" : Cond) ∈ xWg := xmem (List.mem_of_getElem? (i := 883) (by decide +kernel)) rfl
theorem xw_48 : (.fieldLink RX12 35 "DustReadsModel" "read" "[I" : Cond) ∈ xWg := xmem (List.mem_of_getElem? (i := 892) (by decide +kernel)) rfl
theorem xw_49 : (.fieldLink RX12 38 "DustReadsModel" "trace" "[I" : Cond) ∈ xWg := xmem (List.mem_of_getElem? (i := 897) (by decide +kernel)) rfl
theorem xw_50 : (.fieldLink RX12 42 "DustReadsModel" "status" "I" : Cond) ∈ xWg := xmem (List.mem_of_getElem? (i := 882) (by decide +kernel)) rfl
theorem xw_51 : (.fieldLink RX12 66 "DustReadsModel" "taped" "I" : Cond) ∈ xWg := xmem (List.mem_of_getElem? (i := 884) (by decide +kernel)) rfl
theorem xw_52 : (.fieldLink RX12 72 "DustReadsModel" "cursor" "I" : Cond) ∈ xWg := xmem (List.mem_of_getElem? (i := 885) (by decide +kernel)) rfl
theorem xw_53 : (.fieldLink RX12 78 "DustReadsModel" "start" "I" : Cond) ∈ xWg := xmem (List.mem_of_getElem? (i := 886) (by decide +kernel)) rfl
theorem xw_54 : (.fieldLink RX12 81 "DustReadsModel" "token" "I" : Cond) ∈ xWg := xmem (List.mem_of_getElem? (i := 887) (by decide +kernel)) rfl
theorem xw_55 : (.fieldLink RX12 84 "DustReadsModel" "name" "J" : Cond) ∈ xWg := xmem (List.mem_of_getElem? (i := 889) (by decide +kernel)) rfl
theorem xw_56 : (.fieldLink RX12 88 "DustReadsModel" "number" "I" : Cond) ∈ xWg := xmem (List.mem_of_getElem? (i := 888) (by decide +kernel)) rfl
theorem xw_57 : (.fieldLink RX12 91 "DustReadsModel" "fault" "I" : Cond) ∈ xWg := xmem (List.mem_of_getElem? (i := 890) (by decide +kernel)) rfl
theorem xw_58 : (.fieldLink RX12 139 "DustReadsModel" "latestFault" "I" : Cond) ∈ xWg := xmem (List.mem_of_getElem? (i := 891) (by decide +kernel)) rfl
theorem xw_59 : (.fieldLink RX12 143 "DustReadsModel" "acts" "I" : Cond) ∈ xWg := xmem (List.mem_of_getElem? (i := 878) (by decide +kernel)) rfl
theorem xw_60 : (.fieldLink RX12 177 "DustReadsModel" "thenDust" "I" : Cond) ∈ xWg := xmem (List.mem_of_getElem? (i := 893) (by decide +kernel)) rfl
theorem xw_61 : (.fieldLink RX12 180 "DustReadsModel" "thenFaded" "I" : Cond) ∈ xWg := xmem (List.mem_of_getElem? (i := 894) (by decide +kernel)) rfl
theorem xw_62 : (.fieldLink RX12 187 "DustReadsModel" "firstHour" "I" : Cond) ∈ xWg := xmem (List.mem_of_getElem? (i := 895) (by decide +kernel)) rfl
theorem xw_63 : (.fieldLink RX12 190 "DustReadsModel" "lastHour" "I" : Cond) ∈ xWg := xmem (List.mem_of_getElem? (i := 896) (by decide +kernel)) rfl
theorem xw_64 : (.fieldLink RX12 209 "DustReadsModel" "traced" "I" : Cond) ∈ xWg := xmem (List.mem_of_getElem? (i := 898) (by decide +kernel)) rfl
theorem xw_65 : (.constant RX11 47 (-1000001) : Cond) ∈ xWg := xmem (List.mem_of_getElem? (i := 196) (by decide +kernel)) rfl
theorem xw_66 : (.constant RX11 52 (-1000010) : Cond) ∈ xWg := xmem (List.mem_of_getElem? (i := 197) (by decide +kernel)) rfl
theorem xw_67 : (.constant RX11 82 (-1000003) : Cond) ∈ xWg := xmem (List.mem_of_getElem? (i := 250) (by decide +kernel)) rfl
theorem xw_68 : (.constant RX11 98 (-1000100) : Cond) ∈ xWg := xmem (List.mem_of_getElem? (i := 500) (by decide +kernel)) rfl
theorem xw_69 : (.constant RX11 115 (-1000002) : Cond) ∈ xWg := xmem (List.mem_of_getElem? (i := 521) (by decide +kernel)) rfl
theorem xw_70 : (.constant RX11 209 (-1000000) : Cond) ∈ xWg := xmem (List.mem_of_getElem? (i := 699) (by decide +kernel)) rfl
theorem xw_71 : (.constant RX3 100 (-1000000) : Cond) ∈ xWg := xmem (List.mem_of_getElem? (i := 671) (by decide +kernel)) rfl
theorem xw_72 : (.constant RX9 19 (-1000000) : Cond) ∈ xWg := xmem (List.mem_of_getElem? (i := 849) (by decide +kernel)) rfl
theorem xw_73 : (.constant RX12 41 (-1000000) : Cond) ∈ xWg := xmem (List.mem_of_getElem? (i := 873) (by decide +kernel)) rfl
theorem xw_74 : (.constant RX12 46 (-1000010) : Cond) ∈ xWg := xmem (List.mem_of_getElem? (i := 966) (by decide +kernel)) rfl
theorem xw_75 : (.constant RX12 55 (-1000001) : Cond) ∈ xWg := xmem (List.mem_of_getElem? (i := 961) (by decide +kernel)) rfl
theorem xw_76 : (.constant RX12 69 (-1000003) : Cond) ∈ xWg := xmem (List.mem_of_getElem? (i := 991) (by decide +kernel)) rfl
theorem xw_77 : (.constant RX12 142 (-1000100) : Cond) ∈ xWg := xmem (List.mem_of_getElem? (i := 1044) (by decide +kernel)) rfl
theorem xw_78 : (.constant RX12 153 (-1000002) : Cond) ∈ xWg := xmem (List.mem_of_getElem? (i := 1057) (by decide +kernel)) rfl
theorem xw_79 : (.constant RJ6 265 (1431655765) : Cond) ∈ xWg := xmem (List.mem_of_getElem? (i := 717) (by decide +kernel)) rfl
theorem xw_80 : (.constant RJ6 266 (858993459) : Cond) ∈ xWg := xmem (List.mem_of_getElem? (i := 718) (by decide +kernel)) rfl
theorem xw_81 : (.constant RJ6 267 (252645135) : Cond) ∈ xWg := xmem (List.mem_of_getElem? (i := 719) (by decide +kernel)) rfl
theorem xw_82 : (.constantLong RL 32 (4294967295) : Cond) ∈ xWg := xmem (List.mem_of_getElem? (i := 1242) (by decide +kernel)) rfl
theorem xw_83 : (.constantLong RX12 70 (255) : Cond) ∈ xWg := xmem (List.mem_of_getElem? (i := 992) (by decide +kernel)) rfl
theorem xw_84 : (.constantLong RX12 104 (1869636974) : Cond) ∈ xWg := xmem (List.mem_of_getElem? (i := 1026) (by decide +kernel)) rfl
theorem xw_85 : (.constantLong RX12 110 (131294707347319) : Cond) ∈ xWg := xmem (List.mem_of_getElem? (i := 1027) (by decide +kernel)) rfl
theorem xw_86 : (.constantLong RX12 112 (114784635876456) : Cond) ∈ xWg := xmem (List.mem_of_getElem? (i := 1028) (by decide +kernel)) rfl
theorem xw_87 : (.constantLong RX12 114 (109330312357234) : Cond) ∈ xWg := xmem (List.mem_of_getElem? (i := 1029) (by decide +kernel)) rfl
theorem xw_88 : (.constantLong RX12 116 (444199957363) : Cond) ∈ xWg := xmem (List.mem_of_getElem? (i := 1030) (by decide +kernel)) rfl
theorem xw_89 : (.constantLong RX12 118 (1936748404) : Cond) ∈ xWg := xmem (List.mem_of_getElem? (i := 1009) (by decide +kernel)) rfl
theorem xw_90 : (.constantLong RX12 134 (125779751232882) : Cond) ∈ xWg := xmem (List.mem_of_getElem? (i := 1039) (by decide +kernel)) rfl
theorem xw_91 : (.classLink RX11 7 RX8 : Cond) ∈ xWg := xmem (List.mem_of_getElem? (i := 84) (by decide +kernel)) rfl
theorem xw_92 : (.instantiable RX8 3 : Cond) ∈ xWg := xmem (List.mem_of_getElem? (i := 85) (by decide +kernel)) rfl
theorem xw_93 : (.initialized RX8 : Cond) ∈ xWg := xmem (List.mem_of_getElem? (i := 56) (by decide +kernel)) rfl
theorem xw_94 : (.classLink RX11 20 RX3 : Cond) ∈ xWg := xmem (List.mem_of_getElem? (i := 106) (by decide +kernel)) rfl
theorem xw_95 : (.instantiable RX3 6 : Cond) ∈ xWg := xmem (List.mem_of_getElem? (i := 107) (by decide +kernel)) rfl
theorem xw_96 : (.initialized RX3 : Cond) ∈ xWg := xmem (List.mem_of_getElem? (i := 58) (by decide +kernel)) rfl
theorem xw_97 : (.classLink RX11 36 RX9 : Cond) ∈ xWg := xmem (List.mem_of_getElem? (i := 141) (by decide +kernel)) rfl
theorem xw_98 : (.instantiable RX9 2 : Cond) ∈ xWg := xmem (List.mem_of_getElem? (i := 142) (by decide +kernel)) rfl
theorem xw_99 : (.initialized RX9 : Cond) ∈ xWg := xmem (List.mem_of_getElem? (i := 59) (by decide +kernel)) rfl
theorem xw_100 : (.classLink RX11 83 RX7 : Cond) ∈ xWg := xmem (List.mem_of_getElem? (i := 255) (by decide +kernel)) rfl
theorem xw_101 : (.instantiable RX7 8 : Cond) ∈ xWg := xmem (List.mem_of_getElem? (i := 256) (by decide +kernel)) rfl
theorem xw_102 : (.initialized RX7 : Cond) ∈ xWg := xmem (List.mem_of_getElem? (i := 62) (by decide +kernel)) rfl
theorem xw_103 : (.classLink RX7 25 RX6 : Cond) ∈ xWg := xmem (List.mem_of_getElem? (i := 264) (by decide +kernel)) rfl
theorem xw_104 : (.instantiable RX6 5 : Cond) ∈ xWg := xmem (List.mem_of_getElem? (i := 265) (by decide +kernel)) rfl
theorem xw_105 : (.initialized RX6 : Cond) ∈ xWg := xmem (List.mem_of_getElem? (i := 64) (by decide +kernel)) rfl
theorem xw_106 : (.classLink RX7 32 RX3 : Cond) ∈ xWg := xmem (List.mem_of_getElem? (i := 291) (by decide +kernel)) rfl
theorem xw_107 : (.classLink RX7 119 RX4 : Cond) ∈ xWg := xmem (List.mem_of_getElem? (i := 428) (by decide +kernel)) rfl
theorem xw_108 : (.instantiable RX4 2 : Cond) ∈ xWg := xmem (List.mem_of_getElem? (i := 429) (by decide +kernel)) rfl
theorem xw_109 : (.initialized RX4 : Cond) ∈ xWg := xmem (List.mem_of_getElem? (i := 70) (by decide +kernel)) rfl
theorem xw_110 : (.classLink RX7 123 RX10 : Cond) ∈ xWg := xmem (List.mem_of_getElem? (i := 447) (by decide +kernel)) rfl
theorem xw_111 : (.instantiable RX10 2 : Cond) ∈ xWg := xmem (List.mem_of_getElem? (i := 448) (by decide +kernel)) rfl
theorem xw_112 : (.initialized RX10 : Cond) ∈ xWg := xmem (List.mem_of_getElem? (i := 71) (by decide +kernel)) rfl
theorem xw_113 : (.classLink RX7 126 RX2 : Cond) ∈ xWg := xmem (List.mem_of_getElem? (i := 456) (by decide +kernel)) rfl
theorem xw_114 : (.instantiable RX2 2 : Cond) ∈ xWg := xmem (List.mem_of_getElem? (i := 457) (by decide +kernel)) rfl
theorem xw_115 : (.initialized RX2 : Cond) ∈ xWg := xmem (List.mem_of_getElem? (i := 72) (by decide +kernel)) rfl
theorem xw_116 : (.classLink RX7 129 RX0 : Cond) ∈ xWg := xmem (List.mem_of_getElem? (i := 465) (by decide +kernel)) rfl
theorem xw_117 : (.instantiable RX0 2 : Cond) ∈ xWg := xmem (List.mem_of_getElem? (i := 466) (by decide +kernel)) rfl
theorem xw_118 : (.initialized RX0 : Cond) ∈ xWg := xmem (List.mem_of_getElem? (i := 73) (by decide +kernel)) rfl
theorem xw_119 : (.classLink RX7 132 RX1 : Cond) ∈ xWg := xmem (List.mem_of_getElem? (i := 474) (by decide +kernel)) rfl
theorem xw_120 : (.instantiable RX1 2 : Cond) ∈ xWg := xmem (List.mem_of_getElem? (i := 475) (by decide +kernel)) rfl
theorem xw_121 : (.initialized RX1 : Cond) ∈ xWg := xmem (List.mem_of_getElem? (i := 74) (by decide +kernel)) rfl
theorem xw_122 : (.classLink RL 7 RX11 : Cond) ∈ xWg := xmem (List.mem_of_getElem? (i := 76) (by decide +kernel)) rfl
theorem xw_123 : (.instantiable RX11 11 : Cond) ∈ xWg := xmem (List.mem_of_getElem? (i := 77) (by decide +kernel)) rfl
theorem xw_124 : (.initialized RX11 : Cond) ∈ xWg := xmem (List.mem_of_getElem? (i := 55) (by decide +kernel)) rfl
theorem xw_125 : (.classLink RL 10 RX12 : Cond) ∈ xWg := xmem (List.mem_of_getElem? (i := 867) (by decide +kernel)) rfl
theorem xw_126 : (.instantiable RX12 25 : Cond) ∈ xWg := xmem (List.mem_of_getElem? (i := 868) (by decide +kernel)) rfl
theorem xw_127 : (.initialized RX12 : Cond) ∈ xWg := xmem (List.mem_of_getElem? (i := 60) (by decide +kernel)) rfl
theorem xw_128 : (.classLink RX11 20 "DustReads$Library" : Cond) ∈ xWg := xmem (List.mem_of_getElem? (i := 106) (by decide +kernel)) rfl
theorem xw_129 : (.classLink RX6 9 "DustReads$Place" : Cond) ∈ xWg := xmem (List.mem_of_getElem? (i := 270) (by decide +kernel)) rfl
theorem xw_130 : (.classLink RX11 271 "DustReads$Open" : Cond) ∈ xWg := xmem (List.mem_of_getElem? (i := 777) (by decide +kernel)) rfl
theorem xw_131 : (.classLink RX11 273 "DustReads$Window" : Cond) ∈ xWg := xmem (List.mem_of_getElem? (i := 778) (by decide +kernel)) rfl
theorem xw_132 : (.classLink RX11 275 "DustReads$Hearth" : Cond) ∈ xWg := xmem (List.mem_of_getElem? (i := 779) (by decide +kernel)) rfl
theorem xw_133 : (.classLink RX11 277 "DustReads$Corner" : Cond) ∈ xWg := xmem (List.mem_of_getElem? (i := 780) (by decide +kernel)) rfl
theorem xw_134 : (.classLink RX11 279 "DustReads$Glass" : Cond) ∈ xWg := xmem (List.mem_of_getElem? (i := 781) (by decide +kernel)) rfl
theorem xw_135 : (.code yX9_leave cX9_leave 2 none : Cond) ∈ xWg := xmem (List.mem_of_getElem? (i := 799) (by decide +kernel)) rfl
theorem xw_136 : (.methodLink RX0 7 yX9_leave : Cond) ∈ xWg := xmem (List.mem_of_getElem? (i := 796) (by decide +kernel)) rfl
theorem xw_137 : (.instanceMethod yX9_leave : Cond) ∈ xWg := xmem (List.mem_of_getElem? (i := 797) (by decide +kernel)) rfl
theorem xw_138 : (.selects RX9 yX9_leave yX9_leave : Cond) ∈ xWg := xmem (List.mem_of_getElem? (i := 798) (by decide +kernel)) rfl
theorem xw_139 : (.code yX0_askSize cX0_askSize 3 (some .int) : Cond) ∈ xWg := xmem (List.mem_of_getElem? (i := 795) (by decide +kernel)) rfl
theorem xw_140 : (.methodLink RX0 20 yX0_askSize : Cond) ∈ xWg := xmem (List.mem_of_getElem? (i := 840) (by decide +kernel)) rfl
theorem xw_141 : (.instanceMethod yX0_askSize : Cond) ∈ xWg := xmem (List.mem_of_getElem? (i := 794) (by decide +kernel)) rfl
theorem xw_142 : (.selects RX0 yX0_askSize yX0_askSize : Cond) ∈ xWg := xmem (List.mem_of_getElem? (i := 1247) (by decide +kernel)) rfl
theorem xw_143 : (.code yX1_askSize cX1_askSize 3 (some .int) : Cond) ∈ xWg := xmem (List.mem_of_getElem? (i := 803) (by decide +kernel)) rfl
theorem xw_144 : (.instanceMethod yX1_askSize : Cond) ∈ xWg := xmem (List.mem_of_getElem? (i := 802) (by decide +kernel)) rfl
theorem xw_145 : (.selects RX1 yX0_askSize yX1_askSize : Cond) ∈ xWg := xmem (List.mem_of_getElem? (i := 1248) (by decide +kernel)) rfl
theorem xw_146 : (.sameMethod "DustReads$Corner" "DustReads$Corner" "askSize" "(LDustReads$Trace;I)I" : Cond) ∈ xWg := xmem (List.mem_of_getElem? (i := 1243) (by decide +kernel)) rfl
theorem xw_147 : (.methodLink RX1 7 yX9_leave : Cond) ∈ xWg := xmem (List.mem_of_getElem? (i := 804) (by decide +kernel)) rfl
theorem xw_148 : (.methodLink RX2 9 yX9_leave : Cond) ∈ xWg := xmem (List.mem_of_getElem? (i := 818) (by decide +kernel)) rfl
theorem xw_149 : (.code yX3_spots cX3_spots 1 (some .int) : Cond) ∈ xWg := xmem (List.mem_of_getElem? (i := 508) (by decide +kernel)) rfl
theorem xw_150 : (.methodLink RX3 46 yX3_spots : Cond) ∈ xWg := xmem (List.mem_of_getElem? (i := 535) (by decide +kernel)) rfl
theorem xw_151 : (.instanceMethod yX3_spots : Cond) ∈ xWg := xmem (List.mem_of_getElem? (i := 506) (by decide +kernel)) rfl
theorem xw_152 : (.selects RX3 yX3_spots yX3_spots : Cond) ∈ xWg := xmem (List.mem_of_getElem? (i := 507) (by decide +kernel)) rfl
theorem xw_153 : (.code yX3_readers cX3_readers 1 (some .int) : Cond) ∈ xWg := xmem (List.mem_of_getElem? (i := 689) (by decide +kernel)) rfl
theorem xw_154 : (.methodLink RX3 49 yX3_readers : Cond) ∈ xWg := xmem (List.mem_of_getElem? (i := 686) (by decide +kernel)) rfl
theorem xw_155 : (.instanceMethod yX3_readers : Cond) ∈ xWg := xmem (List.mem_of_getElem? (i := 687) (by decide +kernel)) rfl
theorem xw_156 : (.selects RX3 yX3_readers yX3_readers : Cond) ∈ xWg := xmem (List.mem_of_getElem? (i := 688) (by decide +kernel)) rfl
theorem xw_157 : (.code yX3_allSpots cX3_allSpots 1 (some .int) : Cond) ∈ xWg := xmem (List.mem_of_getElem? (i := 621) (by decide +kernel)) rfl
theorem xw_158 : (.methodLink RX3 51 yX3_allSpots : Cond) ∈ xWg := xmem (List.mem_of_getElem? (i := 618) (by decide +kernel)) rfl
theorem xw_159 : (.instanceMethod yX3_allSpots : Cond) ∈ xWg := xmem (List.mem_of_getElem? (i := 619) (by decide +kernel)) rfl
theorem xw_160 : (.selects RX3 yX3_allSpots yX3_allSpots : Cond) ∈ xWg := xmem (List.mem_of_getElem? (i := 620) (by decide +kernel)) rfl
theorem xw_161 : (.code yX3_isOut cX3_isOut 2 (some .boolean) : Cond) ∈ xWg := xmem (List.mem_of_getElem? (i := 596) (by decide +kernel)) rfl
theorem xw_162 : (.methodLink RX3 58 yX3_isOut : Cond) ∈ xWg := xmem (List.mem_of_getElem? (i := 724) (by decide +kernel)) rfl
theorem xw_163 : (.instanceMethod yX3_isOut : Cond) ∈ xWg := xmem (List.mem_of_getElem? (i := 594) (by decide +kernel)) rfl
theorem xw_164 : (.selects RX3 yX3_isOut yX3_isOut : Cond) ∈ xWg := xmem (List.mem_of_getElem? (i := 595) (by decide +kernel)) rfl
theorem xw_165 : (.code yX3_dustNext cX3_dustNext 4 (some .int) : Cond) ∈ xWg := xmem (List.mem_of_getElem? (i := 539) (by decide +kernel)) rfl
theorem xw_166 : (.methodLink RX3 62 yX3_dustNext : Cond) ∈ xWg := xmem (List.mem_of_getElem? (i := 536) (by decide +kernel)) rfl
theorem xw_167 : (.instanceMethod yX3_dustNext : Cond) ∈ xWg := xmem (List.mem_of_getElem? (i := 537) (by decide +kernel)) rfl
theorem xw_168 : (.selects RX3 yX3_dustNext yX3_dustNext : Cond) ∈ xWg := xmem (List.mem_of_getElem? (i := 538) (by decide +kernel)) rfl
theorem xw_169 : (.code yX3_fadedNext cX3_fadedNext 5 (some .int) : Cond) ∈ xWg := xmem (List.mem_of_getElem? (i := 570) (by decide +kernel)) rfl
theorem xw_170 : (.methodLink RX3 66 yX3_fadedNext : Cond) ∈ xWg := xmem (List.mem_of_getElem? (i := 567) (by decide +kernel)) rfl
theorem xw_171 : (.instanceMethod yX3_fadedNext : Cond) ∈ xWg := xmem (List.mem_of_getElem? (i := 569) (by decide +kernel)) rfl
theorem xw_172 : (.selects RX3 yX3_fadedNext yX3_fadedNext : Cond) ∈ xWg := xmem (List.mem_of_getElem? (i := 16) (by decide +kernel)) rfl
theorem xw_173 : (.code yX3_wipe cX3_wipe 3 (some .int) : Cond) ∈ xWg := xmem (List.mem_of_getElem? (i := 600) (by decide +kernel)) rfl
theorem xw_174 : (.methodLink RX3 75 yX3_wipe : Cond) ∈ xWg := xmem (List.mem_of_getElem? (i := 609) (by decide +kernel)) rfl
theorem xw_175 : (.instanceMethod yX3_wipe : Cond) ∈ xWg := xmem (List.mem_of_getElem? (i := 598) (by decide +kernel)) rfl
theorem xw_176 : (.selects RX3 yX3_wipe yX3_wipe : Cond) ∈ xWg := xmem (List.mem_of_getElem? (i := 599) (by decide +kernel)) rfl
theorem xw_177 : (.code yX3_fallAt cX3_fallAt 4 (some .int) : Cond) ∈ xWg := xmem (List.mem_of_getElem? (i := 543) (by decide +kernel)) rfl
theorem xw_178 : (.methodLink RX3 79 yX3_fallAt : Cond) ∈ xWg := xmem (List.mem_of_getElem? (i := 540) (by decide +kernel)) rfl
theorem xw_179 : (.instanceMethod yX3_fallAt : Cond) ∈ xWg := xmem (List.mem_of_getElem? (i := 542) (by decide +kernel)) rfl
theorem xw_180 : (.selects RX3 yX3_fallAt yX3_fallAt : Cond) ∈ xWg := xmem (List.mem_of_getElem? (i := 15) (by decide +kernel)) rfl
theorem xw_181 : (.code yX3_placeAt cX3_placeAt 2 (some (.object "DustReads$Place")) : Cond) ∈ xWg := xmem (List.mem_of_getElem? (i := 547) (by decide +kernel)) rfl
theorem xw_182 : (.methodLink RX3 85 yX3_placeAt : Cond) ∈ xWg := xmem (List.mem_of_getElem? (i := 544) (by decide +kernel)) rfl
theorem xw_183 : (.instanceMethod yX3_placeAt : Cond) ∈ xWg := xmem (List.mem_of_getElem? (i := 545) (by decide +kernel)) rfl
theorem xw_184 : (.selects RX3 yX3_placeAt yX3_placeAt : Cond) ∈ xWg := xmem (List.mem_of_getElem? (i := 546) (by decide +kernel)) rfl
theorem xw_185 : (.code yX5_sunIn cX5_sunIn 2 (some .int) : Cond) ∈ xWg := xmem (List.mem_of_getElem? (i := 581) (by decide +kernel)) rfl
theorem xw_186 : (.methodLink RX3 89 yX5_sunIn : Cond) ∈ xWg := xmem (List.mem_of_getElem? (i := 571) (by decide +kernel)) rfl
theorem xw_187 : (.instanceMethod yX5_sunIn : Cond) ∈ xWg := xmem (List.mem_of_getElem? (i := 572) (by decide +kernel)) rfl
theorem xw_188 : (.selects RX0 yX5_sunIn yX5_sunIn : Cond) ∈ xWg := xmem (List.mem_of_getElem? (i := 574) (by decide +kernel)) rfl
theorem xw_189 : (.initialized RX5 : Cond) ∈ xWg := xmem (List.mem_of_getElem? (i := 69) (by decide +kernel)) rfl
theorem xw_190 : (.sameMethod "DustReads$Place" "DustReads$Place" "sunIn" "(I)I" : Cond) ∈ xWg := xmem (List.mem_of_getElem? (i := 573) (by decide +kernel)) rfl
theorem xw_191 : (.selects RX1 yX5_sunIn yX5_sunIn : Cond) ∈ xWg := xmem (List.mem_of_getElem? (i := 575) (by decide +kernel)) rfl
theorem xw_192 : (.selects RX2 yX5_sunIn yX5_sunIn : Cond) ∈ xWg := xmem (List.mem_of_getElem? (i := 576) (by decide +kernel)) rfl
theorem xw_193 : (.selects RX4 yX5_sunIn yX5_sunIn : Cond) ∈ xWg := xmem (List.mem_of_getElem? (i := 577) (by decide +kernel)) rfl
theorem xw_194 : (.code yX10_sunIn cX10_sunIn 3 (some .int) : Cond) ∈ xWg := xmem (List.mem_of_getElem? (i := 580) (by decide +kernel)) rfl
theorem xw_195 : (.instanceMethod yX10_sunIn : Cond) ∈ xWg := xmem (List.mem_of_getElem? (i := 579) (by decide +kernel)) rfl
theorem xw_196 : (.selects RX10 yX5_sunIn yX10_sunIn : Cond) ∈ xWg := xmem (List.mem_of_getElem? (i := 578) (by decide +kernel)) rfl
theorem xw_197 : (.code yX0_fallBy cX0_fallBy 4 (some .int) : Cond) ∈ xWg := xmem (List.mem_of_getElem? (i := 553) (by decide +kernel)) rfl
theorem xw_198 : (.methodLink RX3 97 yX5_fallBy : Cond) ∈ xWg := xmem (List.mem_of_getElem? (i := 548) (by decide +kernel)) rfl
theorem xw_199 : (.instanceMethod yX0_fallBy : Cond) ∈ xWg := xmem (List.mem_of_getElem? (i := 552) (by decide +kernel)) rfl
theorem xw_200 : (.selects RX0 yX5_fallBy yX0_fallBy : Cond) ∈ xWg := xmem (List.mem_of_getElem? (i := 551) (by decide +kernel)) rfl
theorem xw_201 : (.sameMethod "DustReads$Place" "DustReads$Place" "fallBy" "(II)I" : Cond) ∈ xWg := xmem (List.mem_of_getElem? (i := 550) (by decide +kernel)) rfl
theorem xw_202 : (.instanceMethod yX5_fallBy : Cond) ∈ xWg := xmem (List.mem_of_getElem? (i := 549) (by decide +kernel)) rfl
theorem xw_203 : (.code yX5_fallBy cX5_fallBy 3 (some .int) : Cond) ∈ xWg := xmem (List.mem_of_getElem? (i := 562) (by decide +kernel)) rfl
theorem xw_204 : (.code yX1_fallBy cX1_fallBy 3 (some .int) : Cond) ∈ xWg := xmem (List.mem_of_getElem? (i := 556) (by decide +kernel)) rfl
theorem xw_205 : (.instanceMethod yX1_fallBy : Cond) ∈ xWg := xmem (List.mem_of_getElem? (i := 555) (by decide +kernel)) rfl
theorem xw_206 : (.selects RX1 yX5_fallBy yX1_fallBy : Cond) ∈ xWg := xmem (List.mem_of_getElem? (i := 554) (by decide +kernel)) rfl
theorem xw_207 : (.code yX2_fallBy cX2_fallBy 4 (some .int) : Cond) ∈ xWg := xmem (List.mem_of_getElem? (i := 559) (by decide +kernel)) rfl
theorem xw_208 : (.instanceMethod yX2_fallBy : Cond) ∈ xWg := xmem (List.mem_of_getElem? (i := 558) (by decide +kernel)) rfl
theorem xw_209 : (.selects RX2 yX5_fallBy yX2_fallBy : Cond) ∈ xWg := xmem (List.mem_of_getElem? (i := 557) (by decide +kernel)) rfl
theorem xw_210 : (.selects RX4 yX5_fallBy yX5_fallBy : Cond) ∈ xWg := xmem (List.mem_of_getElem? (i := 560) (by decide +kernel)) rfl
theorem xw_211 : (.selects RX10 yX5_fallBy yX5_fallBy : Cond) ∈ xWg := xmem (List.mem_of_getElem? (i := 561) (by decide +kernel)) rfl
theorem xw_212 : (.code yX3_lastTouch cX3_lastTouch 5 (some .int) : Cond) ∈ xWg := xmem (List.mem_of_getElem? (i := 670) (by decide +kernel)) rfl
theorem xw_213 : (.methodLink RX3 101 yX3_lastTouch : Cond) ∈ xWg := xmem (List.mem_of_getElem? (i := 667) (by decide +kernel)) rfl
theorem xw_214 : (.instanceMethod yX3_lastTouch : Cond) ∈ xWg := xmem (List.mem_of_getElem? (i := 668) (by decide +kernel)) rfl
theorem xw_215 : (.selects RX3 yX3_lastTouch yX3_lastTouch : Cond) ∈ xWg := xmem (List.mem_of_getElem? (i := 669) (by decide +kernel)) rfl
theorem xw_216 : (.code yX3_firstTouch cX3_firstTouch 4 (some .int) : Cond) ∈ xWg := xmem (List.mem_of_getElem? (i := 666) (by decide +kernel)) rfl
theorem xw_217 : (.methodLink RX3 104 yX3_firstTouch : Cond) ∈ xWg := xmem (List.mem_of_getElem? (i := 681) (by decide +kernel)) rfl
theorem xw_218 : (.instanceMethod yX3_firstTouch : Cond) ∈ xWg := xmem (List.mem_of_getElem? (i := 664) (by decide +kernel)) rfl
theorem xw_219 : (.selects RX3 yX3_firstTouch yX3_firstTouch : Cond) ∈ xWg := xmem (List.mem_of_getElem? (i := 665) (by decide +kernel)) rfl
theorem xw_220 : (.code yX3_allReaders cX3_allReaders 1 (some .int) : Cond) ∈ xWg := xmem (List.mem_of_getElem? (i := 685) (by decide +kernel)) rfl
theorem xw_221 : (.methodLink RX3 107 yX3_allReaders : Cond) ∈ xWg := xmem (List.mem_of_getElem? (i := 682) (by decide +kernel)) rfl
theorem xw_222 : (.instanceMethod yX3_allReaders : Cond) ∈ xWg := xmem (List.mem_of_getElem? (i := 683) (by decide +kernel)) rfl
theorem xw_223 : (.selects RX3 yX3_allReaders yX3_allReaders : Cond) ∈ xWg := xmem (List.mem_of_getElem? (i := 684) (by decide +kernel)) rfl
theorem xw_224 : (.code yX6_comers cX6_comers 5 (some .int) : Cond) ∈ xWg := xmem (List.mem_of_getElem? (i := 693) (by decide +kernel)) rfl
theorem xw_225 : (.methodLink RX3 110 yX6_comers : Cond) ∈ xWg := xmem (List.mem_of_getElem? (i := 690) (by decide +kernel)) rfl
theorem xw_226 : (.instanceMethod yX6_comers : Cond) ∈ xWg := xmem (List.mem_of_getElem? (i := 691) (by decide +kernel)) rfl
theorem xw_227 : (.selects RX6 yX6_comers yX6_comers : Cond) ∈ xWg := xmem (List.mem_of_getElem? (i := 692) (by decide +kernel)) rfl
theorem xw_228 : (.methodLink RX4 7 yX9_leave : Cond) ∈ xWg := xmem (List.mem_of_getElem? (i := 809) (by decide +kernel)) rfl
theorem xw_229 : (.code yX4_askMark cX4_askMark 3 (some .int) : Cond) ∈ xWg := xmem (List.mem_of_getElem? (i := 825) (by decide +kernel)) rfl
theorem xw_230 : (.methodLink RX4 17 yX4_askMark : Cond) ∈ xWg := xmem (List.mem_of_getElem? (i := 811) (by decide +kernel)) rfl
theorem xw_231 : (.instanceMethod yX4_askMark : Cond) ∈ xWg := xmem (List.mem_of_getElem? (i := 812) (by decide +kernel)) rfl
theorem xw_232 : (.selects RX4 yX4_askMark yX4_askMark : Cond) ∈ xWg := xmem (List.mem_of_getElem? (i := 813) (by decide +kernel)) rfl
theorem xw_233 : (.code yX2_askMark cX2_askMark 3 (some .int) : Cond) ∈ xWg := xmem (List.mem_of_getElem? (i := 817) (by decide +kernel)) rfl
theorem xw_234 : (.instanceMethod yX2_askMark : Cond) ∈ xWg := xmem (List.mem_of_getElem? (i := 816) (by decide +kernel)) rfl
theorem xw_235 : (.selects RX2 yX4_askMark yX2_askMark : Cond) ∈ xWg := xmem (List.mem_of_getElem? (i := 815) (by decide +kernel)) rfl
theorem xw_236 : (.sameMethod "DustReads$Open" "DustReads$Open" "askMark" "(LDustReads$Trace;I)I" : Cond) ∈ xWg := xmem (List.mem_of_getElem? (i := 814) (by decide +kernel)) rfl
theorem xw_237 : (.code yX10_askMark cX10_askMark 3 (some .int) : Cond) ∈ xWg := xmem (List.mem_of_getElem? (i := 822) (by decide +kernel)) rfl
theorem xw_238 : (.instanceMethod yX10_askMark : Cond) ∈ xWg := xmem (List.mem_of_getElem? (i := 821) (by decide +kernel)) rfl
theorem xw_239 : (.selects RX10 yX4_askMark yX10_askMark : Cond) ∈ xWg := xmem (List.mem_of_getElem? (i := 820) (by decide +kernel)) rfl
theorem xw_240 : (.methodLink RX5 16 yX9_leave : Cond) ∈ xWg := xmem (List.mem_of_getElem? (i := 829) (by decide +kernel)) rfl
theorem xw_241 : (.code yX7_advance cX7_advance 1 none : Cond) ∈ xWg := xmem (List.mem_of_getElem? (i := 328) (by decide +kernel)) rfl
theorem xw_242 : (.methodLink RX7 41 yX7_advance : Cond) ∈ xWg := xmem (List.mem_of_getElem? (i := 325) (by decide +kernel)) rfl
theorem xw_243 : (.instanceMethod yX7_advance : Cond) ∈ xWg := xmem (List.mem_of_getElem? (i := 327) (by decide +kernel)) rfl
theorem xw_244 : (.selects RX7 yX7_advance yX7_advance : Cond) ∈ xWg := xmem (List.mem_of_getElem? (i := 1) (by decide +kernel)) rfl
theorem xw_245 : (.code yX7_readSpots cX7_readSpots 2 none : Cond) ∈ xWg := xmem (List.mem_of_getElem? (i := 342) (by decide +kernel)) rfl
theorem xw_246 : (.methodLink RX7 44 yX7_readSpots : Cond) ∈ xWg := xmem (List.mem_of_getElem? (i := 339) (by decide +kernel)) rfl
theorem xw_247 : (.instanceMethod yX7_readSpots : Cond) ∈ xWg := xmem (List.mem_of_getElem? (i := 341) (by decide +kernel)) rfl
theorem xw_248 : (.selects RX7 yX7_readSpots yX7_readSpots : Cond) ∈ xWg := xmem (List.mem_of_getElem? (i := 3) (by decide +kernel)) rfl
theorem xw_249 : (.code yX7_readReaders cX7_readReaders 2 none : Cond) ∈ xWg := xmem (List.mem_of_getElem? (i := 490) (by decide +kernel)) rfl
theorem xw_250 : (.methodLink RX7 47 yX7_readReaders : Cond) ∈ xWg := xmem (List.mem_of_getElem? (i := 487) (by decide +kernel)) rfl
theorem xw_251 : (.instanceMethod yX7_readReaders : Cond) ∈ xWg := xmem (List.mem_of_getElem? (i := 489) (by decide +kernel)) rfl
theorem xw_252 : (.selects RX7 yX7_readReaders yX7_readReaders : Cond) ∈ xWg := xmem (List.mem_of_getElem? (i := 11) (by decide +kernel)) rfl
theorem xw_253 : (.code yX7_fail cX7_fail 2 none : Cond) ∈ xWg := xmem (List.mem_of_getElem? (i := 399) (by decide +kernel)) rfl
theorem xw_254 : (.methodLink RX7 53 yX7_fail : Cond) ∈ xWg := xmem (List.mem_of_getElem? (i := 396) (by decide +kernel)) rfl
theorem xw_255 : (.instanceMethod yX7_fail : Cond) ∈ xWg := xmem (List.mem_of_getElem? (i := 398) (by decide +kernel)) rfl
theorem xw_256 : (.selects RX7 yX7_fail yX7_fail : Cond) ∈ xWg := xmem (List.mem_of_getElem? (i := 5) (by decide +kernel)) rfl
theorem xw_257 : (.code yX7_isWord cX7_isWord 3 (some .boolean) : Cond) ∈ xWg := xmem (List.mem_of_getElem? (i := 347) (by decide +kernel)) rfl
theorem xw_258 : (.methodLink RX7 62 yX7_isWord : Cond) ∈ xWg := xmem (List.mem_of_getElem? (i := 344) (by decide +kernel)) rfl
theorem xw_259 : (.instanceMethod yX7_isWord : Cond) ∈ xWg := xmem (List.mem_of_getElem? (i := 346) (by decide +kernel)) rfl
theorem xw_260 : (.selects RX7 yX7_isWord yX7_isWord : Cond) ∈ xWg := xmem (List.mem_of_getElem? (i := 4) (by decide +kernel)) rfl
theorem xw_261 : (.code yX7_readSpot cX7_readSpot 6 none : Cond) ∈ xWg := xmem (List.mem_of_getElem? (i := 403) (by decide +kernel)) rfl
theorem xw_262 : (.methodLink RX7 66 yX7_readSpot : Cond) ∈ xWg := xmem (List.mem_of_getElem? (i := 400) (by decide +kernel)) rfl
theorem xw_263 : (.instanceMethod yX7_readSpot : Cond) ∈ xWg := xmem (List.mem_of_getElem? (i := 402) (by decide +kernel)) rfl
theorem xw_264 : (.selects RX7 yX7_readSpot yX7_readSpot : Cond) ∈ xWg := xmem (List.mem_of_getElem? (i := 6) (by decide +kernel)) rfl
theorem xw_265 : (.code yX7_readKind cX7_readKind 2 (some .int) : Cond) ∈ xWg := xmem (List.mem_of_getElem? (i := 407) (by decide +kernel)) rfl
theorem xw_266 : (.methodLink RX7 69 yX7_readKind : Cond) ∈ xWg := xmem (List.mem_of_getElem? (i := 404) (by decide +kernel)) rfl
theorem xw_267 : (.instanceMethod yX7_readKind : Cond) ∈ xWg := xmem (List.mem_of_getElem? (i := 406) (by decide +kernel)) rfl
theorem xw_268 : (.selects RX7 yX7_readKind yX7_readKind : Cond) ∈ xWg := xmem (List.mem_of_getElem? (i := 7) (by decide +kernel)) rfl
theorem xw_269 : (.code yX7_readNumber cX7_readNumber 5 (some .int) : Cond) ∈ xWg := xmem (List.mem_of_getElem? (i := 420) (by decide +kernel)) rfl
theorem xw_270 : (.methodLink RX7 73 yX7_readNumber : Cond) ∈ xWg := xmem (List.mem_of_getElem? (i := 417) (by decide +kernel)) rfl
theorem xw_271 : (.instanceMethod yX7_readNumber : Cond) ∈ xWg := xmem (List.mem_of_getElem? (i := 419) (by decide +kernel)) rfl
theorem xw_272 : (.selects RX7 yX7_readNumber yX7_readNumber : Cond) ∈ xWg := xmem (List.mem_of_getElem? (i := 9) (by decide +kernel)) rfl
theorem xw_273 : (.code yX7_readEnd cX7_readEnd 1 none : Cond) ∈ xWg := xmem (List.mem_of_getElem? (i := 424) (by decide +kernel)) rfl
theorem xw_274 : (.methodLink RX7 76 yX7_readEnd : Cond) ∈ xWg := xmem (List.mem_of_getElem? (i := 421) (by decide +kernel)) rfl
theorem xw_275 : (.instanceMethod yX7_readEnd : Cond) ∈ xWg := xmem (List.mem_of_getElem? (i := 423) (by decide +kernel)) rfl
theorem xw_276 : (.selects RX7 yX7_readEnd yX7_readEnd : Cond) ∈ xWg := xmem (List.mem_of_getElem? (i := 10) (by decide +kernel)) rfl
theorem xw_277 : (.code yX6_addPlace cX6_addPlace 2 none : Cond) ∈ xWg := xmem (List.mem_of_getElem? (i := 486) (by decide +kernel)) rfl
theorem xw_278 : (.methodLink RX7 83 yX6_addPlace : Cond) ∈ xWg := xmem (List.mem_of_getElem? (i := 483) (by decide +kernel)) rfl
theorem xw_279 : (.instanceMethod yX6_addPlace : Cond) ∈ xWg := xmem (List.mem_of_getElem? (i := 484) (by decide +kernel)) rfl
theorem xw_280 : (.selects RX6 yX6_addPlace yX6_addPlace : Cond) ∈ xWg := xmem (List.mem_of_getElem? (i := 485) (by decide +kernel)) rfl
theorem xw_281 : (.code yX7_readReader cX7_readReader 3 none : Cond) ∈ xWg := xmem (List.mem_of_getElem? (i := 495) (by decide +kernel)) rfl
theorem xw_282 : (.methodLink RX7 99 yX7_readReader : Cond) ∈ xWg := xmem (List.mem_of_getElem? (i := 492) (by decide +kernel)) rfl
theorem xw_283 : (.instanceMethod yX7_readReader : Cond) ∈ xWg := xmem (List.mem_of_getElem? (i := 494) (by decide +kernel)) rfl
theorem xw_284 : (.selects RX7 yX7_readReader yX7_readReader : Cond) ∈ xWg := xmem (List.mem_of_getElem? (i := 12) (by decide +kernel)) rfl
theorem xw_285 : (.code yX6_addReader cX6_addReader 3 none : Cond) ∈ xWg := xmem (List.mem_of_getElem? (i := 499) (by decide +kernel)) rfl
theorem xw_286 : (.methodLink RX7 102 yX6_addReader : Cond) ∈ xWg := xmem (List.mem_of_getElem? (i := 496) (by decide +kernel)) rfl
theorem xw_287 : (.instanceMethod yX6_addReader : Cond) ∈ xWg := xmem (List.mem_of_getElem? (i := 497) (by decide +kernel)) rfl
theorem xw_288 : (.selects RX6 yX6_addReader yX6_addReader : Cond) ∈ xWg := xmem (List.mem_of_getElem? (i := 498) (by decide +kernel)) rfl
theorem xw_289 : (.code yX7_kindOfWord cX7_kindOfWord 1 (some .int) : Cond) ∈ xWg := xmem (List.mem_of_getElem? (i := 411) (by decide +kernel)) rfl
theorem xw_290 : (.methodLink RX7 106 yX7_kindOfWord : Cond) ∈ xWg := xmem (List.mem_of_getElem? (i := 408) (by decide +kernel)) rfl
theorem xw_291 : (.instanceMethod yX7_kindOfWord : Cond) ∈ xWg := xmem (List.mem_of_getElem? (i := 410) (by decide +kernel)) rfl
theorem xw_292 : (.selects RX7 yX7_kindOfWord yX7_kindOfWord : Cond) ∈ xWg := xmem (List.mem_of_getElem? (i := 8) (by decide +kernel)) rfl
theorem xw_293 : (.code yX7_advanceOverSign cX7_advanceOverSign 1 none : Cond) ∈ xWg := xmem (List.mem_of_getElem? (i := 338) (by decide +kernel)) rfl
theorem xw_294 : (.methodLink RX7 156 yX7_advanceOverSign : Cond) ∈ xWg := xmem (List.mem_of_getElem? (i := 335) (by decide +kernel)) rfl
theorem xw_295 : (.instanceMethod yX7_advanceOverSign : Cond) ∈ xWg := xmem (List.mem_of_getElem? (i := 337) (by decide +kernel)) rfl
theorem xw_296 : (.selects RX7 yX7_advanceOverSign yX7_advanceOverSign : Cond) ∈ xWg := xmem (List.mem_of_getElem? (i := 2) (by decide +kernel)) rfl
theorem xw_297 : (.code yX8_isMissing cX8_isMissing 2 (some .boolean) : Cond) ∈ xWg := xmem (List.mem_of_getElem? (i := 213) (by decide +kernel)) rfl
theorem xw_298 : (.methodLink RX8 29 yX8_isMissing : Cond) ∈ xWg := xmem (List.mem_of_getElem? (i := 210) (by decide +kernel)) rfl
theorem xw_299 : (.instanceMethod yX8_isMissing : Cond) ∈ xWg := xmem (List.mem_of_getElem? (i := 211) (by decide +kernel)) rfl
theorem xw_300 : (.selects RX8 yX8_isMissing yX8_isMissing : Cond) ∈ xWg := xmem (List.mem_of_getElem? (i := 212) (by decide +kernel)) rfl
theorem xw_301 : (.code yX8_isWithin cX8_isWithin 4 (some .boolean) : Cond) ∈ xWg := xmem (List.mem_of_getElem? (i := 217) (by decide +kernel)) rfl
theorem xw_302 : (.methodLink RX8 33 yX8_isWithin : Cond) ∈ xWg := xmem (List.mem_of_getElem? (i := 214) (by decide +kernel)) rfl
theorem xw_303 : (.instanceMethod yX8_isWithin : Cond) ∈ xWg := xmem (List.mem_of_getElem? (i := 216) (by decide +kernel)) rfl
theorem xw_304 : (.selects RX8 yX8_isWithin yX8_isWithin : Cond) ∈ xWg := xmem (List.mem_of_getElem? (i := 0) (by decide +kernel)) rfl
theorem xw_305 : (.methodLink RX10 9 yX9_leave : Cond) ∈ xWg := xmem (List.mem_of_getElem? (i := 823) (by decide +kernel)) rfl
theorem xw_306 : (.code yX8_isRow cX8_isRow 2 (some .boolean) : Cond) ∈ xWg := xmem (List.mem_of_getElem? (i := 195) (by decide +kernel)) rfl
theorem xw_307 : (.methodLink RX11 43 yX8_isRow : Cond) ∈ xWg := xmem (List.mem_of_getElem? (i := 192) (by decide +kernel)) rfl
theorem xw_308 : (.instanceMethod yX8_isRow : Cond) ∈ xWg := xmem (List.mem_of_getElem? (i := 193) (by decide +kernel)) rfl
theorem xw_309 : (.selects RX8 yX8_isRow yX8_isRow : Cond) ∈ xWg := xmem (List.mem_of_getElem? (i := 194) (by decide +kernel)) rfl
theorem xw_310 : (.code yX8_lay cX8_lay 4 none : Cond) ∈ xWg := xmem (List.mem_of_getElem? (i := 201) (by decide +kernel)) rfl
theorem xw_311 : (.methodLink RX11 53 yX8_lay : Cond) ∈ xWg := xmem (List.mem_of_getElem? (i := 198) (by decide +kernel)) rfl
theorem xw_312 : (.instanceMethod yX8_lay : Cond) ∈ xWg := xmem (List.mem_of_getElem? (i := 199) (by decide +kernel)) rfl
theorem xw_313 : (.selects RX8 yX8_lay yX8_lay : Cond) ∈ xWg := xmem (List.mem_of_getElem? (i := 200) (by decide +kernel)) rfl
theorem xw_314 : (.code yX8_findingAt cX8_findingAt 4 (some .int) : Cond) ∈ xWg := xmem (List.mem_of_getElem? (i := 209) (by decide +kernel)) rfl
theorem xw_315 : (.methodLink RX11 57 yX8_findingAt : Cond) ∈ xWg := xmem (List.mem_of_getElem? (i := 206) (by decide +kernel)) rfl
theorem xw_316 : (.instanceMethod yX8_findingAt : Cond) ∈ xWg := xmem (List.mem_of_getElem? (i := 207) (by decide +kernel)) rfl
theorem xw_317 : (.selects RX8 yX8_findingAt yX8_findingAt : Cond) ∈ xWg := xmem (List.mem_of_getElem? (i := 208) (by decide +kernel)) rfl
theorem xw_318 : (.code yX8_put cX8_put 5 (some .int) : Cond) ∈ xWg := xmem (List.mem_of_getElem? (i := 221) (by decide +kernel)) rfl
theorem xw_319 : (.methodLink RX11 61 yX8_put : Cond) ∈ xWg := xmem (List.mem_of_getElem? (i := 218) (by decide +kernel)) rfl
theorem xw_320 : (.instanceMethod yX8_put : Cond) ∈ xWg := xmem (List.mem_of_getElem? (i := 219) (by decide +kernel)) rfl
theorem xw_321 : (.selects RX8 yX8_put yX8_put : Cond) ∈ xWg := xmem (List.mem_of_getElem? (i := 220) (by decide +kernel)) rfl
theorem xw_322 : (.code yX8_findingBetween cX8_findingBetween 6 (some .int) : Cond) ∈ xWg := xmem (List.mem_of_getElem? (i := 229) (by decide +kernel)) rfl
theorem xw_323 : (.methodLink RX11 64 yX8_findingBetween : Cond) ∈ xWg := xmem (List.mem_of_getElem? (i := 226) (by decide +kernel)) rfl
theorem xw_324 : (.instanceMethod yX8_findingBetween : Cond) ∈ xWg := xmem (List.mem_of_getElem? (i := 227) (by decide +kernel)) rfl
theorem xw_325 : (.selects RX8 yX8_findingBetween yX8_findingBetween : Cond) ∈ xWg := xmem (List.mem_of_getElem? (i := 228) (by decide +kernel)) rfl
theorem xw_326 : (.code yX8_carry cX8_carry 6 none : Cond) ∈ xWg := xmem (List.mem_of_getElem? (i := 233) (by decide +kernel)) rfl
theorem xw_327 : (.methodLink RX11 68 yX8_carry : Cond) ∈ xWg := xmem (List.mem_of_getElem? (i := 230) (by decide +kernel)) rfl
theorem xw_328 : (.instanceMethod yX8_carry : Cond) ∈ xWg := xmem (List.mem_of_getElem? (i := 231) (by decide +kernel)) rfl
theorem xw_329 : (.selects RX8 yX8_carry yX8_carry : Cond) ∈ xWg := xmem (List.mem_of_getElem? (i := 232) (by decide +kernel)) rfl
theorem xw_330 : (.methodLink RX11 72 yX8_isMissing : Cond) ∈ xWg := xmem (List.mem_of_getElem? (i := 241) (by decide +kernel)) rfl
theorem xw_331 : (.code yX8_remove cX8_remove 3 (some .int) : Cond) ∈ xWg := xmem (List.mem_of_getElem? (i := 245) (by decide +kernel)) rfl
theorem xw_332 : (.methodLink RX11 75 yX8_remove : Cond) ∈ xWg := xmem (List.mem_of_getElem? (i := 242) (by decide +kernel)) rfl
theorem xw_333 : (.instanceMethod yX8_remove : Cond) ∈ xWg := xmem (List.mem_of_getElem? (i := 243) (by decide +kernel)) rfl
theorem xw_334 : (.selects RX8 yX8_remove yX8_remove : Cond) ∈ xWg := xmem (List.mem_of_getElem? (i := 244) (by decide +kernel)) rfl
theorem xw_335 : (.code yX7_isWhole cX7_isWhole 1 (some .boolean) : Cond) ∈ xWg := xmem (List.mem_of_getElem? (i := 324) (by decide +kernel)) rfl
theorem xw_336 : (.methodLink RX11 88 yX7_isWhole : Cond) ∈ xWg := xmem (List.mem_of_getElem? (i := 321) (by decide +kernel)) rfl
theorem xw_337 : (.instanceMethod yX7_isWhole : Cond) ∈ xWg := xmem (List.mem_of_getElem? (i := 322) (by decide +kernel)) rfl
theorem xw_338 : (.selects RX7 yX7_isWhole yX7_isWhole : Cond) ∈ xWg := xmem (List.mem_of_getElem? (i := 323) (by decide +kernel)) rfl
theorem xw_339 : (.code yX11_forgetActs cX11_forgetActs 1 none : Cond) ∈ xWg := xmem (List.mem_of_getElem? (i := 504) (by decide +kernel)) rfl
theorem xw_340 : (.methodLink RX11 105 yX11_forgetActs : Cond) ∈ xWg := xmem (List.mem_of_getElem? (i := 501) (by decide +kernel)) rfl
theorem xw_341 : (.instanceMethod yX11_forgetActs : Cond) ∈ xWg := xmem (List.mem_of_getElem? (i := 503) (by decide +kernel)) rfl
theorem xw_342 : (.selects RX11 yX11_forgetActs yX11_forgetActs : Cond) ∈ xWg := xmem (List.mem_of_getElem? (i := 13) (by decide +kernel)) rfl
theorem xw_343 : (.methodLink RX11 108 yX3_spots : Cond) ∈ xWg := xmem (List.mem_of_getElem? (i := 505) (by decide +kernel)) rfl
theorem xw_344 : (.code yX3_isThere cX3_isThere 1 (some .boolean) : Cond) ∈ xWg := xmem (List.mem_of_getElem? (i := 520) (by decide +kernel)) rfl
theorem xw_345 : (.methodLink RX11 112 yX3_isThere : Cond) ∈ xWg := xmem (List.mem_of_getElem? (i := 517) (by decide +kernel)) rfl
theorem xw_346 : (.instanceMethod yX3_isThere : Cond) ∈ xWg := xmem (List.mem_of_getElem? (i := 518) (by decide +kernel)) rfl
theorem xw_347 : (.selects RX3 yX3_isThere yX3_isThere : Cond) ∈ xWg := xmem (List.mem_of_getElem? (i := 519) (by decide +kernel)) rfl
theorem xw_348 : (.code yX11_keepForUndo cX11_keepForUndo 1 none : Cond) ∈ xWg := xmem (List.mem_of_getElem? (i := 525) (by decide +kernel)) rfl
theorem xw_349 : (.methodLink RX11 119 yX11_keepForUndo : Cond) ∈ xWg := xmem (List.mem_of_getElem? (i := 522) (by decide +kernel)) rfl
theorem xw_350 : (.instanceMethod yX11_keepForUndo : Cond) ∈ xWg := xmem (List.mem_of_getElem? (i := 524) (by decide +kernel)) rfl
theorem xw_351 : (.selects RX11 yX11_keepForUndo yX11_keepForUndo : Cond) ∈ xWg := xmem (List.mem_of_getElem? (i := 14) (by decide +kernel)) rfl
theorem xw_352 : (.code yX3_passHour cX3_passHour 2 none : Cond) ∈ xWg := xmem (List.mem_of_getElem? (i := 534) (by decide +kernel)) rfl
theorem xw_353 : (.methodLink RX11 122 yX3_passHour : Cond) ∈ xWg := xmem (List.mem_of_getElem? (i := 531) (by decide +kernel)) rfl
theorem xw_354 : (.instanceMethod yX3_passHour : Cond) ∈ xWg := xmem (List.mem_of_getElem? (i := 532) (by decide +kernel)) rfl
theorem xw_355 : (.selects RX3 yX3_passHour yX3_passHour : Cond) ∈ xWg := xmem (List.mem_of_getElem? (i := 533) (by decide +kernel)) rfl
theorem xw_356 : (.code yX3_isSpot cX3_isSpot 2 (some .boolean) : Cond) ∈ xWg := xmem (List.mem_of_getElem? (i := 592) (by decide +kernel)) rfl
theorem xw_357 : (.methodLink RX11 125 yX3_isSpot : Cond) ∈ xWg := xmem (List.mem_of_getElem? (i := 589) (by decide +kernel)) rfl
theorem xw_358 : (.instanceMethod yX3_isSpot : Cond) ∈ xWg := xmem (List.mem_of_getElem? (i := 590) (by decide +kernel)) rfl
theorem xw_359 : (.selects RX3 yX3_isSpot yX3_isSpot : Cond) ∈ xWg := xmem (List.mem_of_getElem? (i := 591) (by decide +kernel)) rfl
theorem xw_360 : (.methodLink RX11 128 yX3_isOut : Cond) ∈ xWg := xmem (List.mem_of_getElem? (i := 593) (by decide +kernel)) rfl
theorem xw_361 : (.methodLink RX11 135 yX3_wipe : Cond) ∈ xWg := xmem (List.mem_of_getElem? (i := 597) (by decide +kernel)) rfl
theorem xw_362 : (.code yX3_swap cX3_swap 5 none : Cond) ∈ xWg := xmem (List.mem_of_getElem? (i := 608) (by decide +kernel)) rfl
theorem xw_363 : (.methodLink RX11 138 yX3_swap : Cond) ∈ xWg := xmem (List.mem_of_getElem? (i := 605) (by decide +kernel)) rfl
theorem xw_364 : (.instanceMethod yX3_swap : Cond) ∈ xWg := xmem (List.mem_of_getElem? (i := 606) (by decide +kernel)) rfl
theorem xw_365 : (.selects RX3 yX3_swap yX3_swap : Cond) ∈ xWg := xmem (List.mem_of_getElem? (i := 607) (by decide +kernel)) rfl
theorem xw_366 : (.code yX3_isSet cX3_isSet 2 (some .boolean) : Cond) ∈ xWg := xmem (List.mem_of_getElem? (i := 617) (by decide +kernel)) rfl
theorem xw_367 : (.methodLink RX11 145 yX3_isSet : Cond) ∈ xWg := xmem (List.mem_of_getElem? (i := 614) (by decide +kernel)) rfl
theorem xw_368 : (.instanceMethod yX3_isSet : Cond) ∈ xWg := xmem (List.mem_of_getElem? (i := 615) (by decide +kernel)) rfl
theorem xw_369 : (.selects RX3 yX3_isSet yX3_isSet : Cond) ∈ xWg := xmem (List.mem_of_getElem? (i := 616) (by decide +kernel)) rfl
theorem xw_370 : (.code yX3_become cX3_become 2 none : Cond) ∈ xWg := xmem (List.mem_of_getElem? (i := 529) (by decide +kernel)) rfl
theorem xw_371 : (.methodLink RX11 158 yX3_become : Cond) ∈ xWg := xmem (List.mem_of_getElem? (i := 526) (by decide +kernel)) rfl
theorem xw_372 : (.instanceMethod yX3_become : Cond) ∈ xWg := xmem (List.mem_of_getElem? (i := 527) (by decide +kernel)) rfl
theorem xw_373 : (.selects RX3 yX3_become yX3_become : Cond) ∈ xWg := xmem (List.mem_of_getElem? (i := 528) (by decide +kernel)) rfl
theorem xw_374 : (.methodLink RX11 162 yX3_placeAt : Cond) ∈ xWg := xmem (List.mem_of_getElem? (i := 633) (by decide +kernel)) rfl
theorem xw_375 : (.methodLink RX11 180 yX5_fallBy : Cond) ∈ xWg := xmem (List.mem_of_getElem? (i := 641) (by decide +kernel)) rfl
theorem xw_376 : (.methodLink RX11 184 yX5_sunIn : Cond) ∈ xWg := xmem (List.mem_of_getElem? (i := 642) (by decide +kernel)) rfl
theorem xw_377 : (.code yX3_dustBehind cX3_dustBehind 5 (some .int) : Cond) ∈ xWg := xmem (List.mem_of_getElem? (i := 650) (by decide +kernel)) rfl
theorem xw_378 : (.methodLink RX11 187 yX3_dustBehind : Cond) ∈ xWg := xmem (List.mem_of_getElem? (i := 647) (by decide +kernel)) rfl
theorem xw_379 : (.instanceMethod yX3_dustBehind : Cond) ∈ xWg := xmem (List.mem_of_getElem? (i := 648) (by decide +kernel)) rfl
theorem xw_380 : (.selects RX3 yX3_dustBehind yX3_dustBehind : Cond) ∈ xWg := xmem (List.mem_of_getElem? (i := 649) (by decide +kernel)) rfl
theorem xw_381 : (.code yX3_fadedBehind cX3_fadedBehind 5 (some .int) : Cond) ∈ xWg := xmem (List.mem_of_getElem? (i := 654) (by decide +kernel)) rfl
theorem xw_382 : (.methodLink RX11 190 yX3_fadedBehind : Cond) ∈ xWg := xmem (List.mem_of_getElem? (i := 651) (by decide +kernel)) rfl
theorem xw_383 : (.instanceMethod yX3_fadedBehind : Cond) ∈ xWg := xmem (List.mem_of_getElem? (i := 652) (by decide +kernel)) rfl
theorem xw_384 : (.selects RX3 yX3_fadedBehind yX3_fadedBehind : Cond) ∈ xWg := xmem (List.mem_of_getElem? (i := 653) (by decide +kernel)) rfl
theorem xw_385 : (.code yX11_canLie cX11_canLie 3 (some .boolean) : Cond) ∈ xWg := xmem (List.mem_of_getElem? (i := 662) (by decide +kernel)) rfl
theorem xw_386 : (.methodLink RX11 193 yX11_canLie : Cond) ∈ xWg := xmem (List.mem_of_getElem? (i := 659) (by decide +kernel)) rfl
theorem xw_387 : (.instanceMethod yX11_canLie : Cond) ∈ xWg := xmem (List.mem_of_getElem? (i := 661) (by decide +kernel)) rfl
theorem xw_388 : (.selects RX11 yX11_canLie yX11_canLie : Cond) ∈ xWg := xmem (List.mem_of_getElem? (i := 17) (by decide +kernel)) rfl
theorem xw_389 : (.methodLink RX11 196 yX3_firstTouch : Cond) ∈ xWg := xmem (List.mem_of_getElem? (i := 663) (by decide +kernel)) rfl
theorem xw_390 : (.methodLink RX11 199 yX3_lastTouch : Cond) ∈ xWg := xmem (List.mem_of_getElem? (i := 672) (by decide +kernel)) rfl
theorem xw_391 : (.code yX3_suspects cX3_suspects 10 (some .int) : Cond) ∈ xWg := xmem (List.mem_of_getElem? (i := 680) (by decide +kernel)) rfl
theorem xw_392 : (.methodLink RX11 202 yX3_suspects : Cond) ∈ xWg := xmem (List.mem_of_getElem? (i := 677) (by decide +kernel)) rfl
theorem xw_393 : (.instanceMethod yX3_suspects : Cond) ∈ xWg := xmem (List.mem_of_getElem? (i := 678) (by decide +kernel)) rfl
theorem xw_394 : (.selects RX3 yX3_suspects yX3_suspects : Cond) ∈ xWg := xmem (List.mem_of_getElem? (i := 679) (by decide +kernel)) rfl
theorem xw_395 : (.methodLink RX11 206 yX3_allReaders : Cond) ∈ xWg := xmem (List.mem_of_getElem? (i := 698) (by decide +kernel)) rfl
theorem xw_396 : (.methodLink RX11 210 yX3_dustNext : Cond) ∈ xWg := xmem (List.mem_of_getElem? (i := 708) (by decide +kernel)) rfl
theorem xw_397 : (.methodLink RX11 213 yX3_allSpots : Cond) ∈ xWg := xmem (List.mem_of_getElem? (i := 713) (by decide +kernel)) rfl
theorem xw_398 : (.code yX3_spreadWithout cX3_spreadWithout 6 (some .int) : Cond) ∈ xWg := xmem (List.mem_of_getElem? (i := 723) (by decide +kernel)) rfl
theorem xw_399 : (.methodLink RX11 221 yX3_spreadWithout : Cond) ∈ xWg := xmem (List.mem_of_getElem? (i := 720) (by decide +kernel)) rfl
theorem xw_400 : (.instanceMethod yX3_spreadWithout : Cond) ∈ xWg := xmem (List.mem_of_getElem? (i := 721) (by decide +kernel)) rfl
theorem xw_401 : (.selects RX3 yX3_spreadWithout yX3_spreadWithout : Cond) ∈ xWg := xmem (List.mem_of_getElem? (i := 722) (by decide +kernel)) rfl
theorem xw_402 : (.code yX11_wouldTell cX11_wouldTell 9 (some .boolean) : Cond) ∈ xWg := xmem (List.mem_of_getElem? (i := 734) (by decide +kernel)) rfl
theorem xw_403 : (.methodLink RX11 224 yX11_wouldTell : Cond) ∈ xWg := xmem (List.mem_of_getElem? (i := 731) (by decide +kernel)) rfl
theorem xw_404 : (.instanceMethod yX11_wouldTell : Cond) ∈ xWg := xmem (List.mem_of_getElem? (i := 733) (by decide +kernel)) rfl
theorem xw_405 : (.selects RX11 yX11_wouldTell yX11_wouldTell : Cond) ∈ xWg := xmem (List.mem_of_getElem? (i := 18) (by decide +kernel)) rfl
theorem xw_406 : (.code yX0_kindTold cX0_kindTold 1 (some .int) : Cond) ∈ xWg := xmem (List.mem_of_getElem? (i := 757) (by decide +kernel)) rfl
theorem xw_407 : (.methodLink RX11 228 ⟨"DustReads$Place", "kindTold", "()I"⟩ : Cond) ∈ xWg := xmem (List.mem_of_getElem? (i := 752) (by decide +kernel)) rfl
theorem xw_408 : (.instanceMethod yX0_kindTold : Cond) ∈ xWg := xmem (List.mem_of_getElem? (i := 756) (by decide +kernel)) rfl
theorem xw_409 : (.selects RX0 ⟨"DustReads$Place", "kindTold", "()I"⟩ yX0_kindTold : Cond) ∈ xWg := xmem (List.mem_of_getElem? (i := 755) (by decide +kernel)) rfl
theorem xw_410 : (.sameMethod "DustReads$Place" "DustReads$Place" "kindTold" "()I" : Cond) ∈ xWg := xmem (List.mem_of_getElem? (i := 754) (by decide +kernel)) rfl
theorem xw_411 : (.code yX1_kindTold cX1_kindTold 1 (some .int) : Cond) ∈ xWg := xmem (List.mem_of_getElem? (i := 760) (by decide +kernel)) rfl
theorem xw_412 : (.instanceMethod yX1_kindTold : Cond) ∈ xWg := xmem (List.mem_of_getElem? (i := 759) (by decide +kernel)) rfl
theorem xw_413 : (.selects RX1 ⟨"DustReads$Place", "kindTold", "()I"⟩ yX1_kindTold : Cond) ∈ xWg := xmem (List.mem_of_getElem? (i := 758) (by decide +kernel)) rfl
theorem xw_414 : (.code yX2_kindTold cX2_kindTold 1 (some .int) : Cond) ∈ xWg := xmem (List.mem_of_getElem? (i := 763) (by decide +kernel)) rfl
theorem xw_415 : (.instanceMethod yX2_kindTold : Cond) ∈ xWg := xmem (List.mem_of_getElem? (i := 762) (by decide +kernel)) rfl
theorem xw_416 : (.selects RX2 ⟨"DustReads$Place", "kindTold", "()I"⟩ yX2_kindTold : Cond) ∈ xWg := xmem (List.mem_of_getElem? (i := 761) (by decide +kernel)) rfl
theorem xw_417 : (.code yX4_kindTold cX4_kindTold 1 (some .int) : Cond) ∈ xWg := xmem (List.mem_of_getElem? (i := 766) (by decide +kernel)) rfl
theorem xw_418 : (.instanceMethod yX4_kindTold : Cond) ∈ xWg := xmem (List.mem_of_getElem? (i := 765) (by decide +kernel)) rfl
theorem xw_419 : (.selects RX4 ⟨"DustReads$Place", "kindTold", "()I"⟩ yX4_kindTold : Cond) ∈ xWg := xmem (List.mem_of_getElem? (i := 764) (by decide +kernel)) rfl
theorem xw_420 : (.code yX10_kindTold cX10_kindTold 1 (some .int) : Cond) ∈ xWg := xmem (List.mem_of_getElem? (i := 769) (by decide +kernel)) rfl
theorem xw_421 : (.instanceMethod yX10_kindTold : Cond) ∈ xWg := xmem (List.mem_of_getElem? (i := 768) (by decide +kernel)) rfl
theorem xw_422 : (.selects RX10 ⟨"DustReads$Place", "kindTold", "()I"⟩ yX10_kindTold : Cond) ∈ xWg := xmem (List.mem_of_getElem? (i := 767) (by decide +kernel)) rfl
theorem xw_423 : (.code yX9_clear cX9_clear 1 none : Cond) ∈ xWg := xmem (List.mem_of_getElem? (i := 789) (by decide +kernel)) rfl
theorem xw_424 : (.methodLink RX11 238 yX9_clear : Cond) ∈ xWg := xmem (List.mem_of_getElem? (i := 786) (by decide +kernel)) rfl
theorem xw_425 : (.instanceMethod yX9_clear : Cond) ∈ xWg := xmem (List.mem_of_getElem? (i := 787) (by decide +kernel)) rfl
theorem xw_426 : (.selects RX9 yX9_clear yX9_clear : Cond) ∈ xWg := xmem (List.mem_of_getElem? (i := 788) (by decide +kernel)) rfl
theorem xw_427 : (.methodLink RX11 241 yX5_askSize : Cond) ∈ xWg := xmem (List.mem_of_getElem? (i := 790) (by decide +kernel)) rfl
theorem xw_428 : (.selects RX0 yX5_askSize yX0_askSize : Cond) ∈ xWg := xmem (List.mem_of_getElem? (i := 793) (by decide +kernel)) rfl
theorem xw_429 : (.sameMethod "DustReads$Place" "DustReads$Place" "askSize" "(LDustReads$Trace;I)I" : Cond) ∈ xWg := xmem (List.mem_of_getElem? (i := 792) (by decide +kernel)) rfl
theorem xw_430 : (.instanceMethod yX5_askSize : Cond) ∈ xWg := xmem (List.mem_of_getElem? (i := 791) (by decide +kernel)) rfl
theorem xw_431 : (.code yX5_askSize cX5_askSize 3 (some .int) : Cond) ∈ xWg := xmem (List.mem_of_getElem? (i := 835) (by decide +kernel)) rfl
theorem xw_432 : (.selects RX1 yX5_askSize yX1_askSize : Cond) ∈ xWg := xmem (List.mem_of_getElem? (i := 801) (by decide +kernel)) rfl
theorem xw_433 : (.code yX4_askSize cX4_askSize 4 (some .int) : Cond) ∈ xWg := xmem (List.mem_of_getElem? (i := 808) (by decide +kernel)) rfl
theorem xw_434 : (.instanceMethod yX4_askSize : Cond) ∈ xWg := xmem (List.mem_of_getElem? (i := 807) (by decide +kernel)) rfl
theorem xw_435 : (.selects RX2 yX5_askSize yX4_askSize : Cond) ∈ xWg := xmem (List.mem_of_getElem? (i := 806) (by decide +kernel)) rfl
theorem xw_436 : (.selects RX4 yX5_askSize yX4_askSize : Cond) ∈ xWg := xmem (List.mem_of_getElem? (i := 830) (by decide +kernel)) rfl
theorem xw_437 : (.code yX10_askSize cX10_askSize 3 (some .int) : Cond) ∈ xWg := xmem (List.mem_of_getElem? (i := 833) (by decide +kernel)) rfl
theorem xw_438 : (.instanceMethod yX10_askSize : Cond) ∈ xWg := xmem (List.mem_of_getElem? (i := 832) (by decide +kernel)) rfl
theorem xw_439 : (.selects RX10 yX5_askSize yX10_askSize : Cond) ∈ xWg := xmem (List.mem_of_getElem? (i := 831) (by decide +kernel)) rfl
theorem xw_440 : (.code yX0_askMark cX0_askMark 4 (some .int) : Cond) ∈ xWg := xmem (List.mem_of_getElem? (i := 838) (by decide +kernel)) rfl
theorem xw_441 : (.methodLink RX11 245 yX5_askMark : Cond) ∈ xWg := xmem (List.mem_of_getElem? (i := 836) (by decide +kernel)) rfl
theorem xw_442 : (.instanceMethod yX0_askMark : Cond) ∈ xWg := xmem (List.mem_of_getElem? (i := 837) (by decide +kernel)) rfl
theorem xw_443 : (.selects RX0 yX5_askMark yX0_askMark : Cond) ∈ xWg := xmem (List.mem_of_getElem? (i := 1246) (by decide +kernel)) rfl
theorem xw_444 : (.sameMethod "DustReads$Place" "DustReads$Place" "askMark" "(LDustReads$Trace;I)I" : Cond) ∈ xWg := xmem (List.mem_of_getElem? (i := 1244) (by decide +kernel)) rfl
theorem xw_445 : (.instanceMethod yX5_askMark : Cond) ∈ xWg := xmem (List.mem_of_getElem? (i := 827) (by decide +kernel)) rfl
theorem xw_446 : (.code yX5_askMark cX5_askMark 3 (some .int) : Cond) ∈ xWg := xmem (List.mem_of_getElem? (i := 828) (by decide +kernel)) rfl
theorem xw_447 : (.selects RX1 yX5_askMark yX0_askMark : Cond) ∈ xWg := xmem (List.mem_of_getElem? (i := 1249) (by decide +kernel)) rfl
theorem xw_448 : (.selects RX2 yX5_askMark yX2_askMark : Cond) ∈ xWg := xmem (List.mem_of_getElem? (i := 1250) (by decide +kernel)) rfl
theorem xw_449 : (.selects RX4 yX5_askMark yX4_askMark : Cond) ∈ xWg := xmem (List.mem_of_getElem? (i := 1251) (by decide +kernel)) rfl
theorem xw_450 : (.selects RX10 yX5_askMark yX10_askMark : Cond) ∈ xWg := xmem (List.mem_of_getElem? (i := 1252) (by decide +kernel)) rfl
theorem xw_451 : (.code yX9_numberAt cX9_numberAt 2 (some .int) : Cond) ∈ xWg := xmem (List.mem_of_getElem? (i := 848) (by decide +kernel)) rfl
theorem xw_452 : (.methodLink RX11 248 yX9_numberAt : Cond) ∈ xWg := xmem (List.mem_of_getElem? (i := 845) (by decide +kernel)) rfl
theorem xw_453 : (.instanceMethod yX9_numberAt : Cond) ∈ xWg := xmem (List.mem_of_getElem? (i := 846) (by decide +kernel)) rfl
theorem xw_454 : (.selects RX9 yX9_numberAt yX9_numberAt : Cond) ∈ xWg := xmem (List.mem_of_getElem? (i := 847) (by decide +kernel)) rfl
theorem xw_455 : (.code yX8_howMany cX8_howMany 3 (some .int) : Cond) ∈ xWg := xmem (List.mem_of_getElem? (i := 857) (by decide +kernel)) rfl
theorem xw_456 : (.methodLink RX11 251 yX8_howMany : Cond) ∈ xWg := xmem (List.mem_of_getElem? (i := 854) (by decide +kernel)) rfl
theorem xw_457 : (.instanceMethod yX8_howMany : Cond) ∈ xWg := xmem (List.mem_of_getElem? (i := 855) (by decide +kernel)) rfl
theorem xw_458 : (.selects RX8 yX8_howMany yX8_howMany : Cond) ∈ xWg := xmem (List.mem_of_getElem? (i := 856) (by decide +kernel)) rfl
theorem xw_459 : (.methodLink RX11 254 yX3_readers : Cond) ∈ xWg := xmem (List.mem_of_getElem? (i := 858) (by decide +kernel)) rfl
theorem xw_460 : (.code yX3_howManyOut cX3_howManyOut 3 (some .int) : Cond) ∈ xWg := xmem (List.mem_of_getElem? (i := 862) (by decide +kernel)) rfl
theorem xw_461 : (.methodLink RX11 257 yX3_howManyOut : Cond) ∈ xWg := xmem (List.mem_of_getElem? (i := 859) (by decide +kernel)) rfl
theorem xw_462 : (.instanceMethod yX3_howManyOut : Cond) ∈ xWg := xmem (List.mem_of_getElem? (i := 860) (by decide +kernel)) rfl
theorem xw_463 : (.selects RX3 yX3_howManyOut yX3_howManyOut : Cond) ∈ xWg := xmem (List.mem_of_getElem? (i := 861) (by decide +kernel)) rfl
theorem xw_464 : (.code yX8_itemAt cX8_itemAt 3 (some .int) : Cond) ∈ xWg := xmem (List.mem_of_getElem? (i := 739) (by decide +kernel)) rfl
theorem xw_465 : (.methodLink RX11 263 yX8_itemAt : Cond) ∈ xWg := xmem (List.mem_of_getElem? (i := 736) (by decide +kernel)) rfl
theorem xw_466 : (.instanceMethod yX8_itemAt : Cond) ∈ xWg := xmem (List.mem_of_getElem? (i := 737) (by decide +kernel)) rfl
theorem xw_467 : (.selects RX8 yX8_itemAt yX8_itemAt : Cond) ∈ xWg := xmem (List.mem_of_getElem? (i := 738) (by decide +kernel)) rfl
theorem xw_468 : (.code yX12_found cX12_found 2 (some .int) : Cond) ∈ xWg := xmem (List.mem_of_getElem? (i := 965) (by decide +kernel)) rfl
theorem xw_469 : (.methodLink RX12 56 yX12_found : Cond) ∈ xWg := xmem (List.mem_of_getElem? (i := 962) (by decide +kernel)) rfl
theorem xw_470 : (.instanceMethod yX12_found : Cond) ∈ xWg := xmem (List.mem_of_getElem? (i := 964) (by decide +kernel)) rfl
theorem xw_471 : (.selects RX12 yX12_found yX12_found : Cond) ∈ xWg := xmem (List.mem_of_getElem? (i := 19) (by decide +kernel)) rfl
theorem xw_472 : (.code yX12_well cX12_well 2 (some .int) : Cond) ∈ xWg := xmem (List.mem_of_getElem? (i := 970) (by decide +kernel)) rfl
theorem xw_473 : (.methodLink RX12 60 yX12_well : Cond) ∈ xWg := xmem (List.mem_of_getElem? (i := 967) (by decide +kernel)) rfl
theorem xw_474 : (.instanceMethod yX12_well : Cond) ∈ xWg := xmem (List.mem_of_getElem? (i := 969) (by decide +kernel)) rfl
theorem xw_475 : (.selects RX12 yX12_well yX12_well : Cond) ∈ xWg := xmem (List.mem_of_getElem? (i := 20) (by decide +kernel)) rfl
theorem xw_476 : (.code yX12_isSpan cX12_isSpan 4 (some .boolean) : Cond) ∈ xWg := xmem (List.mem_of_getElem? (i := 982) (by decide +kernel)) rfl
theorem xw_477 : (.methodLink RX12 63 yX12_isSpan : Cond) ∈ xWg := xmem (List.mem_of_getElem? (i := 979) (by decide +kernel)) rfl
theorem xw_478 : (.instanceMethod yX12_isSpan : Cond) ∈ xWg := xmem (List.mem_of_getElem? (i := 981) (by decide +kernel)) rfl
theorem xw_479 : (.selects RX12 yX12_isSpan yX12_isSpan : Cond) ∈ xWg := xmem (List.mem_of_getElem? (i := 21) (by decide +kernel)) rfl
theorem xw_480 : (.code yX12_byteAt cX12_byteAt 2 (some .int) : Cond) ∈ xWg := xmem (List.mem_of_getElem? (i := 1004) (by decide +kernel)) rfl
theorem xw_481 : (.methodLink RX12 75 yX12_byteAt : Cond) ∈ xWg := xmem (List.mem_of_getElem? (i := 1001) (by decide +kernel)) rfl
theorem xw_482 : (.instanceMethod yX12_byteAt : Cond) ∈ xWg := xmem (List.mem_of_getElem? (i := 1003) (by decide +kernel)) rfl
theorem xw_483 : (.selects RX12 yX12_byteAt yX12_byteAt : Cond) ∈ xWg := xmem (List.mem_of_getElem? (i := 23) (by decide +kernel)) rfl
theorem xw_484 : (.code yX12_next cX12_next 2 none : Cond) ∈ xWg := xmem (List.mem_of_getElem? (i := 1000) (by decide +kernel)) rfl
theorem xw_485 : (.methodLink RX12 94 yX12_next : Cond) ∈ xWg := xmem (List.mem_of_getElem? (i := 997) (by decide +kernel)) rfl
theorem xw_486 : (.instanceMethod yX12_next : Cond) ∈ xWg := xmem (List.mem_of_getElem? (i := 999) (by decide +kernel)) rfl
theorem xw_487 : (.selects RX12 yX12_next yX12_next : Cond) ∈ xWg := xmem (List.mem_of_getElem? (i := 22) (by decide +kernel)) rfl
theorem xw_488 : (.code yX12_must cX12_must 3 none : Cond) ∈ xWg := xmem (List.mem_of_getElem? (i := 1017) (by decide +kernel)) rfl
theorem xw_489 : (.methodLink RX12 97 yX12_must : Cond) ∈ xWg := xmem (List.mem_of_getElem? (i := 1014) (by decide +kernel)) rfl
theorem xw_490 : (.instanceMethod yX12_must : Cond) ∈ xWg := xmem (List.mem_of_getElem? (i := 1016) (by decide +kernel)) rfl
theorem xw_491 : (.selects RX12 yX12_must yX12_must : Cond) ∈ xWg := xmem (List.mem_of_getElem? (i := 26) (by decide +kernel)) rfl
theorem xw_492 : (.code yX12_goesOn cX12_goesOn 1 none : Cond) ∈ xWg := xmem (List.mem_of_getElem? (i := 1021) (by decide +kernel)) rfl
theorem xw_493 : (.methodLink RX12 101 yX12_goesOn : Cond) ∈ xWg := xmem (List.mem_of_getElem? (i := 1018) (by decide +kernel)) rfl
theorem xw_494 : (.instanceMethod yX12_goesOn : Cond) ∈ xWg := xmem (List.mem_of_getElem? (i := 1020) (by decide +kernel)) rfl
theorem xw_495 : (.selects RX12 yX12_goesOn yX12_goesOn : Cond) ∈ xWg := xmem (List.mem_of_getElem? (i := 27) (by decide +kernel)) rfl
theorem xw_496 : (.code yX12_isName cX12_isName 3 (some .boolean) : Cond) ∈ xWg := xmem (List.mem_of_getElem? (i := 1013) (by decide +kernel)) rfl
theorem xw_497 : (.methodLink RX12 106 yX12_isName : Cond) ∈ xWg := xmem (List.mem_of_getElem? (i := 1010) (by decide +kernel)) rfl
theorem xw_498 : (.instanceMethod yX12_isName : Cond) ∈ xWg := xmem (List.mem_of_getElem? (i := 1012) (by decide +kernel)) rfl
theorem xw_499 : (.selects RX12 yX12_isName yX12_isName : Cond) ∈ xWg := xmem (List.mem_of_getElem? (i := 25) (by decide +kernel)) rfl
theorem xw_500 : (.code yX12_sortNow cX12_sortNow 1 (some .int) : Cond) ∈ xWg := xmem (List.mem_of_getElem? (i := 1025) (by decide +kernel)) rfl
theorem xw_501 : (.methodLink RX12 120 yX12_sortNow : Cond) ∈ xWg := xmem (List.mem_of_getElem? (i := 1022) (by decide +kernel)) rfl
theorem xw_502 : (.instanceMethod yX12_sortNow : Cond) ∈ xWg := xmem (List.mem_of_getElem? (i := 1024) (by decide +kernel)) rfl
theorem xw_503 : (.selects RX12 yX12_sortNow yX12_sortNow : Cond) ∈ xWg := xmem (List.mem_of_getElem? (i := 28) (by decide +kernel)) rfl
theorem xw_504 : (.code yX12_readNumber cX12_readNumber 5 (some .int) : Cond) ∈ xWg := xmem (List.mem_of_getElem? (i := 1034) (by decide +kernel)) rfl
theorem xw_505 : (.methodLink RX12 124 yX12_readNumber : Cond) ∈ xWg := xmem (List.mem_of_getElem? (i := 1031) (by decide +kernel)) rfl
theorem xw_506 : (.instanceMethod yX12_readNumber : Cond) ∈ xWg := xmem (List.mem_of_getElem? (i := 1033) (by decide +kernel)) rfl
theorem xw_507 : (.selects RX12 yX12_readNumber yX12_readNumber : Cond) ∈ xWg := xmem (List.mem_of_getElem? (i := 29) (by decide +kernel)) rfl
theorem xw_508 : (.code yX12_readStop cX12_readStop 1 none : Cond) ∈ xWg := xmem (List.mem_of_getElem? (i := 1038) (by decide +kernel)) rfl
theorem xw_509 : (.methodLink RX12 128 yX12_readStop : Cond) ∈ xWg := xmem (List.mem_of_getElem? (i := 1035) (by decide +kernel)) rfl
theorem xw_510 : (.instanceMethod yX12_readStop : Cond) ∈ xWg := xmem (List.mem_of_getElem? (i := 1037) (by decide +kernel)) rfl
theorem xw_511 : (.selects RX12 yX12_readStop yX12_readStop : Cond) ∈ xWg := xmem (List.mem_of_getElem? (i := 30) (by decide +kernel)) rfl
theorem xw_512 : (.code yX12_readSpot cX12_readSpot 6 none : Cond) ∈ xWg := xmem (List.mem_of_getElem? (i := 1008) (by decide +kernel)) rfl
theorem xw_513 : (.methodLink RX12 131 yX12_readSpot : Cond) ∈ xWg := xmem (List.mem_of_getElem? (i := 1005) (by decide +kernel)) rfl
theorem xw_514 : (.instanceMethod yX12_readSpot : Cond) ∈ xWg := xmem (List.mem_of_getElem? (i := 1007) (by decide +kernel)) rfl
theorem xw_515 : (.selects RX12 yX12_readSpot yX12_readSpot : Cond) ∈ xWg := xmem (List.mem_of_getElem? (i := 24) (by decide +kernel)) rfl
theorem xw_516 : (.code yX12_readReader cX12_readReader 3 none : Cond) ∈ xWg := xmem (List.mem_of_getElem? (i := 1043) (by decide +kernel)) rfl
theorem xw_517 : (.methodLink RX12 136 yX12_readReader : Cond) ∈ xWg := xmem (List.mem_of_getElem? (i := 1040) (by decide +kernel)) rfl
theorem xw_518 : (.instanceMethod yX12_readReader : Cond) ∈ xWg := xmem (List.mem_of_getElem? (i := 1042) (by decide +kernel)) rfl
theorem xw_519 : (.selects RX12 yX12_readReader yX12_readReader : Cond) ∈ xWg := xmem (List.mem_of_getElem? (i := 31) (by decide +kernel)) rfl
theorem xw_520 : (.code yX12_fallBy cX12_fallBy 5 (some .int) : Cond) ∈ xWg := xmem (List.mem_of_getElem? (i := 1069) (by decide +kernel)) rfl
theorem xw_521 : (.methodLink RX12 146 yX12_fallBy : Cond) ∈ xWg := xmem (List.mem_of_getElem? (i := 1066) (by decide +kernel)) rfl
theorem xw_522 : (.instanceMethod yX12_fallBy : Cond) ∈ xWg := xmem (List.mem_of_getElem? (i := 1068) (by decide +kernel)) rfl
theorem xw_523 : (.selects RX12 yX12_fallBy yX12_fallBy : Cond) ∈ xWg := xmem (List.mem_of_getElem? (i := 35) (by decide +kernel)) rfl
theorem xw_524 : (.code yX12_isLibrary cX12_isLibrary 1 (some .boolean) : Cond) ∈ xWg := xmem (List.mem_of_getElem? (i := 1056) (by decide +kernel)) rfl
theorem xw_525 : (.methodLink RX12 149 yX12_isLibrary : Cond) ∈ xWg := xmem (List.mem_of_getElem? (i := 1053) (by decide +kernel)) rfl
theorem xw_526 : (.instanceMethod yX12_isLibrary : Cond) ∈ xWg := xmem (List.mem_of_getElem? (i := 1055) (by decide +kernel)) rfl
theorem xw_527 : (.selects RX12 yX12_isLibrary yX12_isLibrary : Cond) ∈ xWg := xmem (List.mem_of_getElem? (i := 32) (by decide +kernel)) rfl
theorem xw_528 : (.code yX12_remembers cX12_remembers 2 none : Cond) ∈ xWg := xmem (List.mem_of_getElem? (i := 1061) (by decide +kernel)) rfl
theorem xw_529 : (.methodLink RX12 154 yX12_remembers : Cond) ∈ xWg := xmem (List.mem_of_getElem? (i := 1058) (by decide +kernel)) rfl
theorem xw_530 : (.instanceMethod yX12_remembers : Cond) ∈ xWg := xmem (List.mem_of_getElem? (i := 1060) (by decide +kernel)) rfl
theorem xw_531 : (.selects RX12 yX12_remembers yX12_remembers : Cond) ∈ xWg := xmem (List.mem_of_getElem? (i := 33) (by decide +kernel)) rfl
theorem xw_532 : (.code yX12_fallOf cX12_fallOf 3 (some .int) : Cond) ∈ xWg := xmem (List.mem_of_getElem? (i := 1065) (by decide +kernel)) rfl
theorem xw_533 : (.methodLink RX12 157 yX12_fallOf : Cond) ∈ xWg := xmem (List.mem_of_getElem? (i := 1062) (by decide +kernel)) rfl
theorem xw_534 : (.instanceMethod yX12_fallOf : Cond) ∈ xWg := xmem (List.mem_of_getElem? (i := 1064) (by decide +kernel)) rfl
theorem xw_535 : (.selects RX12 yX12_fallOf yX12_fallOf : Cond) ∈ xWg := xmem (List.mem_of_getElem? (i := 34) (by decide +kernel)) rfl
theorem xw_536 : (.code yX12_sunOf cX12_sunOf 3 (some .int) : Cond) ∈ xWg := xmem (List.mem_of_getElem? (i := 1076) (by decide +kernel)) rfl
theorem xw_537 : (.methodLink RX12 164 yX12_sunOf : Cond) ∈ xWg := xmem (List.mem_of_getElem? (i := 1073) (by decide +kernel)) rfl
theorem xw_538 : (.instanceMethod yX12_sunOf : Cond) ∈ xWg := xmem (List.mem_of_getElem? (i := 1075) (by decide +kernel)) rfl
theorem xw_539 : (.selects RX12 yX12_sunOf yX12_sunOf : Cond) ∈ xWg := xmem (List.mem_of_getElem? (i := 36) (by decide +kernel)) rfl
theorem xw_540 : (.code yX12_isSpot cX12_isSpot 2 (some .boolean) : Cond) ∈ xWg := xmem (List.mem_of_getElem? (i := 1084) (by decide +kernel)) rfl
theorem xw_541 : (.methodLink RX12 167 yX12_isSpot : Cond) ∈ xWg := xmem (List.mem_of_getElem? (i := 1081) (by decide +kernel)) rfl
theorem xw_542 : (.instanceMethod yX12_isSpot : Cond) ∈ xWg := xmem (List.mem_of_getElem? (i := 1083) (by decide +kernel)) rfl
theorem xw_543 : (.selects RX12 yX12_isSpot yX12_isSpot : Cond) ∈ xWg := xmem (List.mem_of_getElem? (i := 37) (by decide +kernel)) rfl
theorem xw_544 : (.code yX12_isSet cX12_isSet 2 (some .boolean) : Cond) ∈ xWg := xmem (List.mem_of_getElem? (i := 1096) (by decide +kernel)) rfl
theorem xw_545 : (.methodLink RX12 170 yX12_isSet : Cond) ∈ xWg := xmem (List.mem_of_getElem? (i := 1093) (by decide +kernel)) rfl
theorem xw_546 : (.instanceMethod yX12_isSet : Cond) ∈ xWg := xmem (List.mem_of_getElem? (i := 1095) (by decide +kernel)) rfl
theorem xw_547 : (.selects RX12 yX12_isSet yX12_isSet : Cond) ∈ xWg := xmem (List.mem_of_getElem? (i := 38) (by decide +kernel)) rfl
theorem xw_548 : (.code yX12_goes cX12_goes 4 none : Cond) ∈ xWg := xmem (List.mem_of_getElem? (i := 1119) (by decide +kernel)) rfl
theorem xw_549 : (.methodLink RX12 183 yX12_goes : Cond) ∈ xWg := xmem (List.mem_of_getElem? (i := 1116) (by decide +kernel)) rfl
theorem xw_550 : (.instanceMethod yX12_goes : Cond) ∈ xWg := xmem (List.mem_of_getElem? (i := 1118) (by decide +kernel)) rfl
theorem xw_551 : (.selects RX12 yX12_goes yX12_goes : Cond) ∈ xWg := xmem (List.mem_of_getElem? (i := 39) (by decide +kernel)) rfl
theorem xw_552 : (.code yX12_findWhen cX12_findWhen 5 none : Cond) ∈ xWg := xmem (List.mem_of_getElem? (i := 1127) (by decide +kernel)) rfl
theorem xw_553 : (.methodLink RX12 193 yX12_findWhen : Cond) ∈ xWg := xmem (List.mem_of_getElem? (i := 1124) (by decide +kernel)) rfl
theorem xw_554 : (.instanceMethod yX12_findWhen : Cond) ∈ xWg := xmem (List.mem_of_getElem? (i := 1126) (by decide +kernel)) rfl
theorem xw_555 : (.selects RX12 yX12_findWhen yX12_findWhen : Cond) ∈ xWg := xmem (List.mem_of_getElem? (i := 40) (by decide +kernel)) rfl
theorem xw_556 : (.code yX12_whoOf cX12_whoOf 7 (some .int) : Cond) ∈ xWg := xmem (List.mem_of_getElem? (i := 1135) (by decide +kernel)) rfl
theorem xw_557 : (.methodLink RX12 196 yX12_whoOf : Cond) ∈ xWg := xmem (List.mem_of_getElem? (i := 1132) (by decide +kernel)) rfl
theorem xw_558 : (.instanceMethod yX12_whoOf : Cond) ∈ xWg := xmem (List.mem_of_getElem? (i := 1134) (by decide +kernel)) rfl
theorem xw_559 : (.selects RX12 yX12_whoOf yX12_whoOf : Cond) ∈ xWg := xmem (List.mem_of_getElem? (i := 41) (by decide +kernel)) rfl
theorem xw_560 : (.code yX12_areLike cX12_areLike 8 (some .boolean) : Cond) ∈ xWg := xmem (List.mem_of_getElem? (i := 1158) (by decide +kernel)) rfl
theorem xw_561 : (.methodLink RX12 203 yX12_areLike : Cond) ∈ xWg := xmem (List.mem_of_getElem? (i := 1155) (by decide +kernel)) rfl
theorem xw_562 : (.instanceMethod yX12_areLike : Cond) ∈ xWg := xmem (List.mem_of_getElem? (i := 1157) (by decide +kernel)) rfl
theorem xw_563 : (.selects RX12 yX12_areLike yX12_areLike : Cond) ∈ xWg := xmem (List.mem_of_getElem? (i := 42) (by decide +kernel)) rfl
theorem xw_564 : (.code yX12_begins cX12_begins 2 none : Cond) ∈ xWg := xmem (List.mem_of_getElem? (i := 1197) (by decide +kernel)) rfl
theorem xw_565 : (.methodLink RX12 212 yX12_begins : Cond) ∈ xWg := xmem (List.mem_of_getElem? (i := 1194) (by decide +kernel)) rfl
theorem xw_566 : (.instanceMethod yX12_begins : Cond) ∈ xWg := xmem (List.mem_of_getElem? (i := 1196) (by decide +kernel)) rfl
theorem xw_567 : (.selects RX12 yX12_begins yX12_begins : Cond) ∈ xWg := xmem (List.mem_of_getElem? (i := 45) (by decide +kernel)) rfl
theorem xw_568 : (.code yX12_lentMark cX12_lentMark 2 (some .int) : Cond) ∈ xWg := xmem (List.mem_of_getElem? (i := 1221) (by decide +kernel)) rfl
theorem xw_569 : (.methodLink RX12 216 yX12_lentMark : Cond) ∈ xWg := xmem (List.mem_of_getElem? (i := 1218) (by decide +kernel)) rfl
theorem xw_570 : (.instanceMethod yX12_lentMark : Cond) ∈ xWg := xmem (List.mem_of_getElem? (i := 1220) (by decide +kernel)) rfl
theorem xw_571 : (.selects RX12 yX12_lentMark yX12_lentMark : Cond) ∈ xWg := xmem (List.mem_of_getElem? (i := 51) (by decide +kernel)) rfl
theorem xw_572 : (.code yX12_openMark cX12_openMark 2 (some .int) : Cond) ∈ xWg := xmem (List.mem_of_getElem? (i := 1217) (by decide +kernel)) rfl
theorem xw_573 : (.methodLink RX12 219 yX12_openMark : Cond) ∈ xWg := xmem (List.mem_of_getElem? (i := 1214) (by decide +kernel)) rfl
theorem xw_574 : (.instanceMethod yX12_openMark : Cond) ∈ xWg := xmem (List.mem_of_getElem? (i := 1216) (by decide +kernel)) rfl
theorem xw_575 : (.selects RX12 yX12_openMark yX12_openMark : Cond) ∈ xWg := xmem (List.mem_of_getElem? (i := 50) (by decide +kernel)) rfl
theorem xw_576 : (.code yX12_lentSize cX12_lentSize 2 (some .int) : Cond) ∈ xWg := xmem (List.mem_of_getElem? (i := 1205) (by decide +kernel)) rfl
theorem xw_577 : (.methodLink RX12 222 yX12_lentSize : Cond) ∈ xWg := xmem (List.mem_of_getElem? (i := 1202) (by decide +kernel)) rfl
theorem xw_578 : (.instanceMethod yX12_lentSize : Cond) ∈ xWg := xmem (List.mem_of_getElem? (i := 1204) (by decide +kernel)) rfl
theorem xw_579 : (.selects RX12 yX12_lentSize yX12_lentSize : Cond) ∈ xWg := xmem (List.mem_of_getElem? (i := 47) (by decide +kernel)) rfl
theorem xw_580 : (.code yX12_markOfOpen cX12_markOfOpen 3 (some .int) : Cond) ∈ xWg := xmem (List.mem_of_getElem? (i := 1213) (by decide +kernel)) rfl
theorem xw_581 : (.methodLink RX12 225 yX12_markOfOpen : Cond) ∈ xWg := xmem (List.mem_of_getElem? (i := 1210) (by decide +kernel)) rfl
theorem xw_582 : (.instanceMethod yX12_markOfOpen : Cond) ∈ xWg := xmem (List.mem_of_getElem? (i := 1212) (by decide +kernel)) rfl
theorem xw_583 : (.selects RX12 yX12_markOfOpen yX12_markOfOpen : Cond) ∈ xWg := xmem (List.mem_of_getElem? (i := 49) (by decide +kernel)) rfl
theorem xw_584 : (.code yX12_cornerSize cX12_cornerSize 2 (some .int) : Cond) ∈ xWg := xmem (List.mem_of_getElem? (i := 1201) (by decide +kernel)) rfl
theorem xw_585 : (.methodLink RX12 228 yX12_cornerSize : Cond) ∈ xWg := xmem (List.mem_of_getElem? (i := 1198) (by decide +kernel)) rfl
theorem xw_586 : (.instanceMethod yX12_cornerSize : Cond) ∈ xWg := xmem (List.mem_of_getElem? (i := 1200) (by decide +kernel)) rfl
theorem xw_587 : (.selects RX12 yX12_cornerSize yX12_cornerSize : Cond) ∈ xWg := xmem (List.mem_of_getElem? (i := 46) (by decide +kernel)) rfl
theorem xw_588 : (.code yX12_sizeOfCorners cX12_sizeOfCorners 2 (some .int) : Cond) ∈ xWg := xmem (List.mem_of_getElem? (i := 1193) (by decide +kernel)) rfl
theorem xw_589 : (.methodLink RX12 231 yX12_sizeOfCorners : Cond) ∈ xWg := xmem (List.mem_of_getElem? (i := 1190) (by decide +kernel)) rfl
theorem xw_590 : (.instanceMethod yX12_sizeOfCorners : Cond) ∈ xWg := xmem (List.mem_of_getElem? (i := 1192) (by decide +kernel)) rfl
theorem xw_591 : (.selects RX12 yX12_sizeOfCorners yX12_sizeOfCorners : Cond) ∈ xWg := xmem (List.mem_of_getElem? (i := 44) (by decide +kernel)) rfl
theorem xw_592 : (.code yX12_openSize cX12_openSize 3 (some .int) : Cond) ∈ xWg := xmem (List.mem_of_getElem? (i := 1209) (by decide +kernel)) rfl
theorem xw_593 : (.methodLink RX12 234 yX12_openSize : Cond) ∈ xWg := xmem (List.mem_of_getElem? (i := 1206) (by decide +kernel)) rfl
theorem xw_594 : (.instanceMethod yX12_openSize : Cond) ∈ xWg := xmem (List.mem_of_getElem? (i := 1208) (by decide +kernel)) rfl
theorem xw_595 : (.selects RX12 yX12_openSize yX12_openSize : Cond) ∈ xWg := xmem (List.mem_of_getElem? (i := 48) (by decide +kernel)) rfl
theorem xw_596 : (.code yX12_sizeOf cX12_sizeOf 2 (some .int) : Cond) ∈ xWg := xmem (List.mem_of_getElem? (i := 1189) (by decide +kernel)) rfl
theorem xw_597 : (.methodLink RX12 237 yX12_sizeOf : Cond) ∈ xWg := xmem (List.mem_of_getElem? (i := 1186) (by decide +kernel)) rfl
theorem xw_598 : (.instanceMethod yX12_sizeOf : Cond) ∈ xWg := xmem (List.mem_of_getElem? (i := 1188) (by decide +kernel)) rfl
theorem xw_599 : (.selects RX12 yX12_sizeOf yX12_sizeOf : Cond) ∈ xWg := xmem (List.mem_of_getElem? (i := 43) (by decide +kernel)) rfl
theorem xw_600 : (.code yX12_markOf cX12_markOf 3 (some .int) : Cond) ∈ xWg := xmem (List.mem_of_getElem? (i := 1225) (by decide +kernel)) rfl
theorem xw_601 : (.methodLink RX12 240 yX12_markOf : Cond) ∈ xWg := xmem (List.mem_of_getElem? (i := 1222) (by decide +kernel)) rfl
theorem xw_602 : (.instanceMethod yX12_markOf : Cond) ∈ xWg := xmem (List.mem_of_getElem? (i := 1224) (by decide +kernel)) rfl
theorem xw_603 : (.selects RX12 yX12_markOf yX12_markOf : Cond) ∈ xWg := xmem (List.mem_of_getElem? (i := 52) (by decide +kernel)) rfl
theorem xw_604 : (.code yX12_outNow cX12_outNow 3 (some .int) : Cond) ∈ xWg := xmem (List.mem_of_getElem? (i := 1237) (by decide +kernel)) rfl
theorem xw_605 : (.methodLink RX12 243 yX12_outNow : Cond) ∈ xWg := xmem (List.mem_of_getElem? (i := 1234) (by decide +kernel)) rfl
theorem xw_606 : (.instanceMethod yX12_outNow : Cond) ∈ xWg := xmem (List.mem_of_getElem? (i := 1236) (by decide +kernel)) rfl
theorem xw_607 : (.selects RX12 yX12_outNow yX12_outNow : Cond) ∈ xWg := xmem (List.mem_of_getElem? (i := 53) (by decide +kernel)) rfl
theorem xw_608 : (.code yX11_row cX11_row 4 (some .int) : Cond) ∈ xWg := xmem (List.mem_of_getElem? (i := 191) (by decide +kernel)) rfl
theorem xw_609 : (.methodLink RL 13 yX11_row : Cond) ∈ xWg := xmem (List.mem_of_getElem? (i := 188) (by decide +kernel)) rfl
theorem xw_610 : (.instanceMethod yX11_row : Cond) ∈ xWg := xmem (List.mem_of_getElem? (i := 189) (by decide +kernel)) rfl
theorem xw_611 : (.selects RX11 yX11_row yX11_row : Cond) ∈ xWg := xmem (List.mem_of_getElem? (i := 190) (by decide +kernel)) rfl
theorem xw_612 : (.code yX12_row cX12_row 5 (some .int) : Cond) ∈ xWg := xmem (List.mem_of_getElem? (i := 954) (by decide +kernel)) rfl
theorem xw_613 : (.methodLink RL 17 yX12_row : Cond) ∈ xWg := xmem (List.mem_of_getElem? (i := 951) (by decide +kernel)) rfl
theorem xw_614 : (.instanceMethod yX12_row : Cond) ∈ xWg := xmem (List.mem_of_getElem? (i := 952) (by decide +kernel)) rfl
theorem xw_615 : (.selects RX12 yX12_row yX12_row : Cond) ∈ xWg := xmem (List.mem_of_getElem? (i := 953) (by decide +kernel)) rfl
theorem xw_616 : (.code yX11_set cX11_set 4 (some .int) : Cond) ∈ xWg := xmem (List.mem_of_getElem? (i := 205) (by decide +kernel)) rfl
theorem xw_617 : (.methodLink RL 18 yX11_set : Cond) ∈ xWg := xmem (List.mem_of_getElem? (i := 202) (by decide +kernel)) rfl
theorem xw_618 : (.instanceMethod yX11_set : Cond) ∈ xWg := xmem (List.mem_of_getElem? (i := 203) (by decide +kernel)) rfl
theorem xw_619 : (.selects RX11 yX11_set yX11_set : Cond) ∈ xWg := xmem (List.mem_of_getElem? (i := 204) (by decide +kernel)) rfl
theorem xw_620 : (.code yX12_set cX12_set 5 (some .int) : Cond) ∈ xWg := xmem (List.mem_of_getElem? (i := 974) (by decide +kernel)) rfl
theorem xw_621 : (.methodLink RL 21 yX12_set : Cond) ∈ xWg := xmem (List.mem_of_getElem? (i := 971) (by decide +kernel)) rfl
theorem xw_622 : (.instanceMethod yX12_set : Cond) ∈ xWg := xmem (List.mem_of_getElem? (i := 972) (by decide +kernel)) rfl
theorem xw_623 : (.selects RX12 yX12_set yX12_set : Cond) ∈ xWg := xmem (List.mem_of_getElem? (i := 973) (by decide +kernel)) rfl
theorem xw_624 : (.code yX11_copy cX11_copy 6 (some .int) : Cond) ∈ xWg := xmem (List.mem_of_getElem? (i := 225) (by decide +kernel)) rfl
theorem xw_625 : (.methodLink RL 22 yX11_copy : Cond) ∈ xWg := xmem (List.mem_of_getElem? (i := 222) (by decide +kernel)) rfl
theorem xw_626 : (.instanceMethod yX11_copy : Cond) ∈ xWg := xmem (List.mem_of_getElem? (i := 223) (by decide +kernel)) rfl
theorem xw_627 : (.selects RX11 yX11_copy yX11_copy : Cond) ∈ xWg := xmem (List.mem_of_getElem? (i := 224) (by decide +kernel)) rfl
theorem xw_628 : (.code yX12_copy cX12_copy 8 (some .int) : Cond) ∈ xWg := xmem (List.mem_of_getElem? (i := 978) (by decide +kernel)) rfl
theorem xw_629 : (.methodLink RL 26 yX12_copy : Cond) ∈ xWg := xmem (List.mem_of_getElem? (i := 975) (by decide +kernel)) rfl
theorem xw_630 : (.instanceMethod yX12_copy : Cond) ∈ xWg := xmem (List.mem_of_getElem? (i := 976) (by decide +kernel)) rfl
theorem xw_631 : (.selects RX12 yX12_copy yX12_copy : Cond) ∈ xWg := xmem (List.mem_of_getElem? (i := 977) (by decide +kernel)) rfl
theorem xw_632 : (.code yX11_drop cX11_drop 2 (some .int) : Cond) ∈ xWg := xmem (List.mem_of_getElem? (i := 240) (by decide +kernel)) rfl
theorem xw_633 : (.methodLink RL 27 yX11_drop : Cond) ∈ xWg := xmem (List.mem_of_getElem? (i := 237) (by decide +kernel)) rfl
theorem xw_634 : (.instanceMethod yX11_drop : Cond) ∈ xWg := xmem (List.mem_of_getElem? (i := 238) (by decide +kernel)) rfl
theorem xw_635 : (.selects RX11 yX11_drop yX11_drop : Cond) ∈ xWg := xmem (List.mem_of_getElem? (i := 239) (by decide +kernel)) rfl
theorem xw_636 : (.code yX12_drop cX12_drop 2 (some .int) : Cond) ∈ xWg := xmem (List.mem_of_getElem? (i := 986) (by decide +kernel)) rfl
theorem xw_637 : (.methodLink RL 31 yX12_drop : Cond) ∈ xWg := xmem (List.mem_of_getElem? (i := 983) (by decide +kernel)) rfl
theorem xw_638 : (.instanceMethod yX12_drop : Cond) ∈ xWg := xmem (List.mem_of_getElem? (i := 984) (by decide +kernel)) rfl
theorem xw_639 : (.selects RX12 yX12_drop yX12_drop : Cond) ∈ xWg := xmem (List.mem_of_getElem? (i := 985) (by decide +kernel)) rfl
theorem xw_640 : (.code yX11_feed cX11_feed 5 (some .int) : Cond) ∈ xWg := xmem (List.mem_of_getElem? (i := 249) (by decide +kernel)) rfl
theorem xw_641 : (.methodLink RL 34 yX11_feed : Cond) ∈ xWg := xmem (List.mem_of_getElem? (i := 246) (by decide +kernel)) rfl
theorem xw_642 : (.instanceMethod yX11_feed : Cond) ∈ xWg := xmem (List.mem_of_getElem? (i := 247) (by decide +kernel)) rfl
theorem xw_643 : (.selects RX11 yX11_feed yX11_feed : Cond) ∈ xWg := xmem (List.mem_of_getElem? (i := 248) (by decide +kernel)) rfl
theorem xw_644 : (.code yX12_feed cX12_feed 5 (some .int) : Cond) ∈ xWg := xmem (List.mem_of_getElem? (i := 990) (by decide +kernel)) rfl
theorem xw_645 : (.methodLink RL 38 yX12_feed : Cond) ∈ xWg := xmem (List.mem_of_getElem? (i := 987) (by decide +kernel)) rfl
theorem xw_646 : (.instanceMethod yX12_feed : Cond) ∈ xWg := xmem (List.mem_of_getElem? (i := 988) (by decide +kernel)) rfl
theorem xw_647 : (.selects RX12 yX12_feed yX12_feed : Cond) ∈ xWg := xmem (List.mem_of_getElem? (i := 989) (by decide +kernel)) rfl
theorem xw_648 : (.code yX11_library cX11_library 2 (some .int) : Cond) ∈ xWg := xmem (List.mem_of_getElem? (i := 254) (by decide +kernel)) rfl
theorem xw_649 : (.methodLink RL 39 yX11_library : Cond) ∈ xWg := xmem (List.mem_of_getElem? (i := 251) (by decide +kernel)) rfl
theorem xw_650 : (.instanceMethod yX11_library : Cond) ∈ xWg := xmem (List.mem_of_getElem? (i := 252) (by decide +kernel)) rfl
theorem xw_651 : (.selects RX11 yX11_library yX11_library : Cond) ∈ xWg := xmem (List.mem_of_getElem? (i := 253) (by decide +kernel)) rfl
theorem xw_652 : (.code yX12_library cX12_library 3 (some .int) : Cond) ∈ xWg := xmem (List.mem_of_getElem? (i := 996) (by decide +kernel)) rfl
theorem xw_653 : (.methodLink RL 43 yX12_library : Cond) ∈ xWg := xmem (List.mem_of_getElem? (i := 993) (by decide +kernel)) rfl
theorem xw_654 : (.instanceMethod yX12_library : Cond) ∈ xWg := xmem (List.mem_of_getElem? (i := 994) (by decide +kernel)) rfl
theorem xw_655 : (.selects RX12 yX12_library yX12_library : Cond) ∈ xWg := xmem (List.mem_of_getElem? (i := 995) (by decide +kernel)) rfl
theorem xw_656 : (.code yX11_fault cX11_fault 1 (some .int) : Cond) ∈ xWg := xmem (List.mem_of_getElem? (i := 512) (by decide +kernel)) rfl
theorem xw_657 : (.methodLink RL 44 yX11_fault : Cond) ∈ xWg := xmem (List.mem_of_getElem? (i := 509) (by decide +kernel)) rfl
theorem xw_658 : (.instanceMethod yX11_fault : Cond) ∈ xWg := xmem (List.mem_of_getElem? (i := 510) (by decide +kernel)) rfl
theorem xw_659 : (.selects RX11 yX11_fault yX11_fault : Cond) ∈ xWg := xmem (List.mem_of_getElem? (i := 511) (by decide +kernel)) rfl
theorem xw_660 : (.code yX12_fault cX12_fault 1 (some .int) : Cond) ∈ xWg := xmem (List.mem_of_getElem? (i := 1048) (by decide +kernel)) rfl
theorem xw_661 : (.methodLink RL 47 yX12_fault : Cond) ∈ xWg := xmem (List.mem_of_getElem? (i := 1045) (by decide +kernel)) rfl
theorem xw_662 : (.instanceMethod yX12_fault : Cond) ∈ xWg := xmem (List.mem_of_getElem? (i := 1046) (by decide +kernel)) rfl
theorem xw_663 : (.selects RX12 yX12_fault yX12_fault : Cond) ∈ xWg := xmem (List.mem_of_getElem? (i := 1047) (by decide +kernel)) rfl
theorem xw_664 : (.code yX11_hours cX11_hours 3 (some .int) : Cond) ∈ xWg := xmem (List.mem_of_getElem? (i := 516) (by decide +kernel)) rfl
theorem xw_665 : (.methodLink RL 48 yX11_hours : Cond) ∈ xWg := xmem (List.mem_of_getElem? (i := 513) (by decide +kernel)) rfl
theorem xw_666 : (.instanceMethod yX11_hours : Cond) ∈ xWg := xmem (List.mem_of_getElem? (i := 514) (by decide +kernel)) rfl
theorem xw_667 : (.selects RX11 yX11_hours yX11_hours : Cond) ∈ xWg := xmem (List.mem_of_getElem? (i := 515) (by decide +kernel)) rfl
theorem xw_668 : (.code yX12_hours cX12_hours 5 (some .int) : Cond) ∈ xWg := xmem (List.mem_of_getElem? (i := 1052) (by decide +kernel)) rfl
theorem xw_669 : (.methodLink RL 51 yX12_hours : Cond) ∈ xWg := xmem (List.mem_of_getElem? (i := 1049) (by decide +kernel)) rfl
theorem xw_670 : (.instanceMethod yX12_hours : Cond) ∈ xWg := xmem (List.mem_of_getElem? (i := 1050) (by decide +kernel)) rfl
theorem xw_671 : (.selects RX12 yX12_hours yX12_hours : Cond) ∈ xWg := xmem (List.mem_of_getElem? (i := 1051) (by decide +kernel)) rfl
theorem xw_672 : (.code yX11_take cX11_take 3 (some .int) : Cond) ∈ xWg := xmem (List.mem_of_getElem? (i := 588) (by decide +kernel)) rfl
theorem xw_673 : (.methodLink RL 52 yX11_take : Cond) ∈ xWg := xmem (List.mem_of_getElem? (i := 585) (by decide +kernel)) rfl
theorem xw_674 : (.instanceMethod yX11_take : Cond) ∈ xWg := xmem (List.mem_of_getElem? (i := 586) (by decide +kernel)) rfl
theorem xw_675 : (.selects RX11 yX11_take yX11_take : Cond) ∈ xWg := xmem (List.mem_of_getElem? (i := 587) (by decide +kernel)) rfl
theorem xw_676 : (.code yX12_take cX12_take 4 (some .int) : Cond) ∈ xWg := xmem (List.mem_of_getElem? (i := 1080) (by decide +kernel)) rfl
theorem xw_677 : (.methodLink RL 56 yX12_take : Cond) ∈ xWg := xmem (List.mem_of_getElem? (i := 1077) (by decide +kernel)) rfl
theorem xw_678 : (.instanceMethod yX12_take : Cond) ∈ xWg := xmem (List.mem_of_getElem? (i := 1078) (by decide +kernel)) rfl
theorem xw_679 : (.selects RX12 yX12_take yX12_take : Cond) ∈ xWg := xmem (List.mem_of_getElem? (i := 1079) (by decide +kernel)) rfl
theorem xw_680 : (.code yX11_change cX11_change 3 (some .int) : Cond) ∈ xWg := xmem (List.mem_of_getElem? (i := 604) (by decide +kernel)) rfl
theorem xw_681 : (.methodLink RL 57 yX11_change : Cond) ∈ xWg := xmem (List.mem_of_getElem? (i := 601) (by decide +kernel)) rfl
theorem xw_682 : (.instanceMethod yX11_change : Cond) ∈ xWg := xmem (List.mem_of_getElem? (i := 602) (by decide +kernel)) rfl
theorem xw_683 : (.selects RX11 yX11_change yX11_change : Cond) ∈ xWg := xmem (List.mem_of_getElem? (i := 603) (by decide +kernel)) rfl
theorem xw_684 : (.code yX12_change cX12_change 4 (some .int) : Cond) ∈ xWg := xmem (List.mem_of_getElem? (i := 1088) (by decide +kernel)) rfl
theorem xw_685 : (.methodLink RL 60 yX12_change : Cond) ∈ xWg := xmem (List.mem_of_getElem? (i := 1085) (by decide +kernel)) rfl
theorem xw_686 : (.instanceMethod yX12_change : Cond) ∈ xWg := xmem (List.mem_of_getElem? (i := 1086) (by decide +kernel)) rfl
theorem xw_687 : (.selects RX12 yX12_change yX12_change : Cond) ∈ xWg := xmem (List.mem_of_getElem? (i := 1087) (by decide +kernel)) rfl
theorem xw_688 : (.code yX11_dusts cX11_dusts 4 (some .int) : Cond) ∈ xWg := xmem (List.mem_of_getElem? (i := 613) (by decide +kernel)) rfl
theorem xw_689 : (.methodLink RL 61 yX11_dusts : Cond) ∈ xWg := xmem (List.mem_of_getElem? (i := 610) (by decide +kernel)) rfl
theorem xw_690 : (.instanceMethod yX11_dusts : Cond) ∈ xWg := xmem (List.mem_of_getElem? (i := 611) (by decide +kernel)) rfl
theorem xw_691 : (.selects RX11 yX11_dusts yX11_dusts : Cond) ∈ xWg := xmem (List.mem_of_getElem? (i := 612) (by decide +kernel)) rfl
theorem xw_692 : (.code yX12_dusts cX12_dusts 4 (some .int) : Cond) ∈ xWg := xmem (List.mem_of_getElem? (i := 1092) (by decide +kernel)) rfl
theorem xw_693 : (.methodLink RL 64 yX12_dusts : Cond) ∈ xWg := xmem (List.mem_of_getElem? (i := 1089) (by decide +kernel)) rfl
theorem xw_694 : (.instanceMethod yX12_dusts : Cond) ∈ xWg := xmem (List.mem_of_getElem? (i := 1090) (by decide +kernel)) rfl
theorem xw_695 : (.selects RX12 yX12_dusts yX12_dusts : Cond) ∈ xWg := xmem (List.mem_of_getElem? (i := 1091) (by decide +kernel)) rfl
theorem xw_696 : (.code yX11_undo cX11_undo 1 (some .int) : Cond) ∈ xWg := xmem (List.mem_of_getElem? (i := 628) (by decide +kernel)) rfl
theorem xw_697 : (.methodLink RL 65 yX11_undo : Cond) ∈ xWg := xmem (List.mem_of_getElem? (i := 625) (by decide +kernel)) rfl
theorem xw_698 : (.instanceMethod yX11_undo : Cond) ∈ xWg := xmem (List.mem_of_getElem? (i := 626) (by decide +kernel)) rfl
theorem xw_699 : (.selects RX11 yX11_undo yX11_undo : Cond) ∈ xWg := xmem (List.mem_of_getElem? (i := 627) (by decide +kernel)) rfl
theorem xw_700 : (.code yX12_undo cX12_undo 2 (some .int) : Cond) ∈ xWg := xmem (List.mem_of_getElem? (i := 1103) (by decide +kernel)) rfl
theorem xw_701 : (.methodLink RL 68 yX12_undo : Cond) ∈ xWg := xmem (List.mem_of_getElem? (i := 1100) (by decide +kernel)) rfl
theorem xw_702 : (.instanceMethod yX12_undo : Cond) ∈ xWg := xmem (List.mem_of_getElem? (i := 1101) (by decide +kernel)) rfl
theorem xw_703 : (.selects RX12 yX12_undo yX12_undo : Cond) ∈ xWg := xmem (List.mem_of_getElem? (i := 1102) (by decide +kernel)) rfl
theorem xw_704 : (.code yX11_spot cX11_spot 4 (some .int) : Cond) ∈ xWg := xmem (List.mem_of_getElem? (i := 632) (by decide +kernel)) rfl
theorem xw_705 : (.methodLink RL 69 yX11_spot : Cond) ∈ xWg := xmem (List.mem_of_getElem? (i := 629) (by decide +kernel)) rfl
theorem xw_706 : (.instanceMethod yX11_spot : Cond) ∈ xWg := xmem (List.mem_of_getElem? (i := 630) (by decide +kernel)) rfl
theorem xw_707 : (.selects RX11 yX11_spot yX11_spot : Cond) ∈ xWg := xmem (List.mem_of_getElem? (i := 631) (by decide +kernel)) rfl
theorem xw_708 : (.code yX12_spot cX12_spot 4 (some .int) : Cond) ∈ xWg := xmem (List.mem_of_getElem? (i := 1107) (by decide +kernel)) rfl
theorem xw_709 : (.methodLink RL 72 yX12_spot : Cond) ∈ xWg := xmem (List.mem_of_getElem? (i := 1104) (by decide +kernel)) rfl
theorem xw_710 : (.instanceMethod yX12_spot : Cond) ∈ xWg := xmem (List.mem_of_getElem? (i := 1105) (by decide +kernel)) rfl
theorem xw_711 : (.selects RX12 yX12_spot yX12_spot : Cond) ∈ xWg := xmem (List.mem_of_getElem? (i := 1106) (by decide +kernel)) rfl
theorem xw_712 : (.code yX11_fall cX11_fall 5 (some .int) : Cond) ∈ xWg := xmem (List.mem_of_getElem? (i := 637) (by decide +kernel)) rfl
theorem xw_713 : (.methodLink RL 73 yX11_fall : Cond) ∈ xWg := xmem (List.mem_of_getElem? (i := 634) (by decide +kernel)) rfl
theorem xw_714 : (.instanceMethod yX11_fall : Cond) ∈ xWg := xmem (List.mem_of_getElem? (i := 635) (by decide +kernel)) rfl
theorem xw_715 : (.selects RX11 yX11_fall yX11_fall : Cond) ∈ xWg := xmem (List.mem_of_getElem? (i := 636) (by decide +kernel)) rfl
theorem xw_716 : (.code yX12_fall cX12_fall 4 (some .int) : Cond) ∈ xWg := xmem (List.mem_of_getElem? (i := 1111) (by decide +kernel)) rfl
theorem xw_717 : (.methodLink RL 76 yX12_fall : Cond) ∈ xWg := xmem (List.mem_of_getElem? (i := 1108) (by decide +kernel)) rfl
theorem xw_718 : (.instanceMethod yX12_fall : Cond) ∈ xWg := xmem (List.mem_of_getElem? (i := 1109) (by decide +kernel)) rfl
theorem xw_719 : (.selects RX12 yX12_fall yX12_fall : Cond) ∈ xWg := xmem (List.mem_of_getElem? (i := 1110) (by decide +kernel)) rfl
theorem xw_720 : (.code yX11_ahead cX11_ahead 4 (some .int) : Cond) ∈ xWg := xmem (List.mem_of_getElem? (i := 646) (by decide +kernel)) rfl
theorem xw_721 : (.methodLink RL 77 yX11_ahead : Cond) ∈ xWg := xmem (List.mem_of_getElem? (i := 643) (by decide +kernel)) rfl
theorem xw_722 : (.instanceMethod yX11_ahead : Cond) ∈ xWg := xmem (List.mem_of_getElem? (i := 644) (by decide +kernel)) rfl
theorem xw_723 : (.selects RX11 yX11_ahead yX11_ahead : Cond) ∈ xWg := xmem (List.mem_of_getElem? (i := 645) (by decide +kernel)) rfl
theorem xw_724 : (.code yX12_ahead cX12_ahead 4 (some .int) : Cond) ∈ xWg := xmem (List.mem_of_getElem? (i := 1115) (by decide +kernel)) rfl
theorem xw_725 : (.methodLink RL 80 yX12_ahead : Cond) ∈ xWg := xmem (List.mem_of_getElem? (i := 1112) (by decide +kernel)) rfl
theorem xw_726 : (.instanceMethod yX12_ahead : Cond) ∈ xWg := xmem (List.mem_of_getElem? (i := 1113) (by decide +kernel)) rfl
theorem xw_727 : (.selects RX12 yX12_ahead yX12_ahead : Cond) ∈ xWg := xmem (List.mem_of_getElem? (i := 1114) (by decide +kernel)) rfl
theorem xw_728 : (.code yX11_when cX11_when 4 (some .int) : Cond) ∈ xWg := xmem (List.mem_of_getElem? (i := 658) (by decide +kernel)) rfl
theorem xw_729 : (.methodLink RL 81 yX11_when : Cond) ∈ xWg := xmem (List.mem_of_getElem? (i := 655) (by decide +kernel)) rfl
theorem xw_730 : (.instanceMethod yX11_when : Cond) ∈ xWg := xmem (List.mem_of_getElem? (i := 656) (by decide +kernel)) rfl
theorem xw_731 : (.selects RX11 yX11_when yX11_when : Cond) ∈ xWg := xmem (List.mem_of_getElem? (i := 657) (by decide +kernel)) rfl
theorem xw_732 : (.code yX12_when cX12_when 4 (some .int) : Cond) ∈ xWg := xmem (List.mem_of_getElem? (i := 1123) (by decide +kernel)) rfl
theorem xw_733 : (.methodLink RL 84 yX12_when : Cond) ∈ xWg := xmem (List.mem_of_getElem? (i := 1120) (by decide +kernel)) rfl
theorem xw_734 : (.instanceMethod yX12_when : Cond) ∈ xWg := xmem (List.mem_of_getElem? (i := 1121) (by decide +kernel)) rfl
theorem xw_735 : (.selects RX12 yX12_when yX12_when : Cond) ∈ xWg := xmem (List.mem_of_getElem? (i := 1122) (by decide +kernel)) rfl
theorem xw_736 : (.code yX11_who cX11_who 4 (some .int) : Cond) ∈ xWg := xmem (List.mem_of_getElem? (i := 676) (by decide +kernel)) rfl
theorem xw_737 : (.methodLink RL 85 yX11_who : Cond) ∈ xWg := xmem (List.mem_of_getElem? (i := 673) (by decide +kernel)) rfl
theorem xw_738 : (.instanceMethod yX11_who : Cond) ∈ xWg := xmem (List.mem_of_getElem? (i := 674) (by decide +kernel)) rfl
theorem xw_739 : (.selects RX11 yX11_who yX11_who : Cond) ∈ xWg := xmem (List.mem_of_getElem? (i := 675) (by decide +kernel)) rfl
theorem xw_740 : (.code yX12_who cX12_who 4 (some .int) : Cond) ∈ xWg := xmem (List.mem_of_getElem? (i := 1131) (by decide +kernel)) rfl
theorem xw_741 : (.methodLink RL 88 yX12_who : Cond) ∈ xWg := xmem (List.mem_of_getElem? (i := 1128) (by decide +kernel)) rfl
theorem xw_742 : (.instanceMethod yX12_who : Cond) ∈ xWg := xmem (List.mem_of_getElem? (i := 1129) (by decide +kernel)) rfl
theorem xw_743 : (.selects RX12 yX12_who yX12_who : Cond) ∈ xWg := xmem (List.mem_of_getElem? (i := 1130) (by decide +kernel)) rfl
theorem xw_744 : (.code yX11_oneHand cX11_oneHand 5 (some .int) : Cond) ∈ xWg := xmem (List.mem_of_getElem? (i := 697) (by decide +kernel)) rfl
theorem xw_745 : (.methodLink RL 89 yX11_oneHand : Cond) ∈ xWg := xmem (List.mem_of_getElem? (i := 694) (by decide +kernel)) rfl
theorem xw_746 : (.instanceMethod yX11_oneHand : Cond) ∈ xWg := xmem (List.mem_of_getElem? (i := 695) (by decide +kernel)) rfl
theorem xw_747 : (.selects RX11 yX11_oneHand yX11_oneHand : Cond) ∈ xWg := xmem (List.mem_of_getElem? (i := 696) (by decide +kernel)) rfl
theorem xw_748 : (.code yX12_oneHand cX12_oneHand 4 (some .int) : Cond) ∈ xWg := xmem (List.mem_of_getElem? (i := 1139) (by decide +kernel)) rfl
theorem xw_749 : (.methodLink RL 92 yX12_oneHand : Cond) ∈ xWg := xmem (List.mem_of_getElem? (i := 1136) (by decide +kernel)) rfl
theorem xw_750 : (.instanceMethod yX12_oneHand : Cond) ∈ xWg := xmem (List.mem_of_getElem? (i := 1137) (by decide +kernel)) rfl
theorem xw_751 : (.selects RX12 yX12_oneHand yX12_oneHand : Cond) ∈ xWg := xmem (List.mem_of_getElem? (i := 1138) (by decide +kernel)) rfl
theorem xw_752 : (.code yX11_moved cX11_moved 3 (some .int) : Cond) ∈ xWg := xmem (List.mem_of_getElem? (i := 703) (by decide +kernel)) rfl
theorem xw_753 : (.methodLink RL 93 yX11_moved : Cond) ∈ xWg := xmem (List.mem_of_getElem? (i := 700) (by decide +kernel)) rfl
theorem xw_754 : (.instanceMethod yX11_moved : Cond) ∈ xWg := xmem (List.mem_of_getElem? (i := 701) (by decide +kernel)) rfl
theorem xw_755 : (.selects RX11 yX11_moved yX11_moved : Cond) ∈ xWg := xmem (List.mem_of_getElem? (i := 702) (by decide +kernel)) rfl
theorem xw_756 : (.code yX12_moved cX12_moved 3 (some .int) : Cond) ∈ xWg := xmem (List.mem_of_getElem? (i := 1143) (by decide +kernel)) rfl
theorem xw_757 : (.methodLink RL 96 yX12_moved : Cond) ∈ xWg := xmem (List.mem_of_getElem? (i := 1140) (by decide +kernel)) rfl
theorem xw_758 : (.instanceMethod yX12_moved : Cond) ∈ xWg := xmem (List.mem_of_getElem? (i := 1141) (by decide +kernel)) rfl
theorem xw_759 : (.selects RX12 yX12_moved yX12_moved : Cond) ∈ xWg := xmem (List.mem_of_getElem? (i := 1142) (by decide +kernel)) rfl
theorem xw_760 : (.code yX11_like cX11_like 6 (some .int) : Cond) ∈ xWg := xmem (List.mem_of_getElem? (i := 707) (by decide +kernel)) rfl
theorem xw_761 : (.methodLink RL 97 yX11_like : Cond) ∈ xWg := xmem (List.mem_of_getElem? (i := 704) (by decide +kernel)) rfl
theorem xw_762 : (.instanceMethod yX11_like : Cond) ∈ xWg := xmem (List.mem_of_getElem? (i := 705) (by decide +kernel)) rfl
theorem xw_763 : (.selects RX11 yX11_like yX11_like : Cond) ∈ xWg := xmem (List.mem_of_getElem? (i := 706) (by decide +kernel)) rfl
theorem xw_764 : (.code yX12_like cX12_like 5 (some .int) : Cond) ∈ xWg := xmem (List.mem_of_getElem? (i := 1147) (by decide +kernel)) rfl
theorem xw_765 : (.methodLink RL 100 yX12_like : Cond) ∈ xWg := xmem (List.mem_of_getElem? (i := 1144) (by decide +kernel)) rfl
theorem xw_766 : (.instanceMethod yX12_like : Cond) ∈ xWg := xmem (List.mem_of_getElem? (i := 1145) (by decide +kernel)) rfl
theorem xw_767 : (.selects RX12 yX12_like yX12_like : Cond) ∈ xWg := xmem (List.mem_of_getElem? (i := 1146) (by decide +kernel)) rfl
theorem xw_768 : (.code yX11_hide cX11_hide 4 (some .int) : Cond) ∈ xWg := xmem (List.mem_of_getElem? (i := 712) (by decide +kernel)) rfl
theorem xw_769 : (.methodLink RL 101 yX11_hide : Cond) ∈ xWg := xmem (List.mem_of_getElem? (i := 709) (by decide +kernel)) rfl
theorem xw_770 : (.instanceMethod yX11_hide : Cond) ∈ xWg := xmem (List.mem_of_getElem? (i := 710) (by decide +kernel)) rfl
theorem xw_771 : (.selects RX11 yX11_hide yX11_hide : Cond) ∈ xWg := xmem (List.mem_of_getElem? (i := 711) (by decide +kernel)) rfl
theorem xw_772 : (.code yX12_hide cX12_hide 4 (some .int) : Cond) ∈ xWg := xmem (List.mem_of_getElem? (i := 1151) (by decide +kernel)) rfl
theorem xw_773 : (.methodLink RL 104 yX12_hide : Cond) ∈ xWg := xmem (List.mem_of_getElem? (i := 1148) (by decide +kernel)) rfl
theorem xw_774 : (.instanceMethod yX12_hide : Cond) ∈ xWg := xmem (List.mem_of_getElem? (i := 1149) (by decide +kernel)) rfl
theorem xw_775 : (.selects RX12 yX12_hide yX12_hide : Cond) ∈ xWg := xmem (List.mem_of_getElem? (i := 1150) (by decide +kernel)) rfl
theorem xw_776 : (.code yX11_learnt cX11_learnt 7 (some .int) : Cond) ∈ xWg := xmem (List.mem_of_getElem? (i := 730) (by decide +kernel)) rfl
theorem xw_777 : (.methodLink RL 105 yX11_learnt : Cond) ∈ xWg := xmem (List.mem_of_getElem? (i := 727) (by decide +kernel)) rfl
theorem xw_778 : (.instanceMethod yX11_learnt : Cond) ∈ xWg := xmem (List.mem_of_getElem? (i := 728) (by decide +kernel)) rfl
theorem xw_779 : (.selects RX11 yX11_learnt yX11_learnt : Cond) ∈ xWg := xmem (List.mem_of_getElem? (i := 729) (by decide +kernel)) rfl
theorem xw_780 : (.code yX12_learnt cX12_learnt 10 (some .int) : Cond) ∈ xWg := xmem (List.mem_of_getElem? (i := 1162) (by decide +kernel)) rfl
theorem xw_781 : (.methodLink RL 109 yX12_learnt : Cond) ∈ xWg := xmem (List.mem_of_getElem? (i := 1159) (by decide +kernel)) rfl
theorem xw_782 : (.instanceMethod yX12_learnt : Cond) ∈ xWg := xmem (List.mem_of_getElem? (i := 1160) (by decide +kernel)) rfl
theorem xw_783 : (.selects RX12 yX12_learnt yX12_learnt : Cond) ∈ xWg := xmem (List.mem_of_getElem? (i := 1161) (by decide +kernel)) rfl
theorem xw_784 : (.code yX11_image cX11_image 2 (some .int) : Cond) ∈ xWg := xmem (List.mem_of_getElem? (i := 743) (by decide +kernel)) rfl
theorem xw_785 : (.methodLink RL 110 yX11_image : Cond) ∈ xWg := xmem (List.mem_of_getElem? (i := 740) (by decide +kernel)) rfl
theorem xw_786 : (.instanceMethod yX11_image : Cond) ∈ xWg := xmem (List.mem_of_getElem? (i := 741) (by decide +kernel)) rfl
theorem xw_787 : (.selects RX11 yX11_image yX11_image : Cond) ∈ xWg := xmem (List.mem_of_getElem? (i := 742) (by decide +kernel)) rfl
theorem xw_788 : (.code yX12_image cX12_image 3 (some .int) : Cond) ∈ xWg := xmem (List.mem_of_getElem? (i := 1166) (by decide +kernel)) rfl
theorem xw_789 : (.methodLink RL 113 yX12_image : Cond) ∈ xWg := xmem (List.mem_of_getElem? (i := 1163) (by decide +kernel)) rfl
theorem xw_790 : (.instanceMethod yX12_image : Cond) ∈ xWg := xmem (List.mem_of_getElem? (i := 1164) (by decide +kernel)) rfl
theorem xw_791 : (.selects RX12 yX12_image yX12_image : Cond) ∈ xWg := xmem (List.mem_of_getElem? (i := 1165) (by decide +kernel)) rfl
theorem xw_792 : (.code yX11_restore cX11_restore 2 (some .int) : Cond) ∈ xWg := xmem (List.mem_of_getElem? (i := 747) (by decide +kernel)) rfl
theorem xw_793 : (.methodLink RL 114 yX11_restore : Cond) ∈ xWg := xmem (List.mem_of_getElem? (i := 744) (by decide +kernel)) rfl
theorem xw_794 : (.instanceMethod yX11_restore : Cond) ∈ xWg := xmem (List.mem_of_getElem? (i := 745) (by decide +kernel)) rfl
theorem xw_795 : (.selects RX11 yX11_restore yX11_restore : Cond) ∈ xWg := xmem (List.mem_of_getElem? (i := 746) (by decide +kernel)) rfl
theorem xw_796 : (.code yX12_restore cX12_restore 3 (some .int) : Cond) ∈ xWg := xmem (List.mem_of_getElem? (i := 1170) (by decide +kernel)) rfl
theorem xw_797 : (.methodLink RL 117 yX12_restore : Cond) ∈ xWg := xmem (List.mem_of_getElem? (i := 1167) (by decide +kernel)) rfl
theorem xw_798 : (.instanceMethod yX12_restore : Cond) ∈ xWg := xmem (List.mem_of_getElem? (i := 1168) (by decide +kernel)) rfl
theorem xw_799 : (.selects RX12 yX12_restore yX12_restore : Cond) ∈ xWg := xmem (List.mem_of_getElem? (i := 1169) (by decide +kernel)) rfl
theorem xw_800 : (.code yX11_kind cX11_kind 3 (some .int) : Cond) ∈ xWg := xmem (List.mem_of_getElem? (i := 751) (by decide +kernel)) rfl
theorem xw_801 : (.methodLink RL 118 yX11_kind : Cond) ∈ xWg := xmem (List.mem_of_getElem? (i := 748) (by decide +kernel)) rfl
theorem xw_802 : (.instanceMethod yX11_kind : Cond) ∈ xWg := xmem (List.mem_of_getElem? (i := 749) (by decide +kernel)) rfl
theorem xw_803 : (.selects RX11 yX11_kind yX11_kind : Cond) ∈ xWg := xmem (List.mem_of_getElem? (i := 750) (by decide +kernel)) rfl
theorem xw_804 : (.code yX12_kind cX12_kind 2 (some .int) : Cond) ∈ xWg := xmem (List.mem_of_getElem? (i := 1174) (by decide +kernel)) rfl
theorem xw_805 : (.methodLink RL 121 yX12_kind : Cond) ∈ xWg := xmem (List.mem_of_getElem? (i := 1171) (by decide +kernel)) rfl
theorem xw_806 : (.instanceMethod yX12_kind : Cond) ∈ xWg := xmem (List.mem_of_getElem? (i := 1172) (by decide +kernel)) rfl
theorem xw_807 : (.selects RX12 yX12_kind yX12_kind : Cond) ∈ xWg := xmem (List.mem_of_getElem? (i := 1173) (by decide +kernel)) rfl
theorem xw_808 : (.code yX11_as cX11_as 4 (some .int) : Cond) ∈ xWg := xmem (List.mem_of_getElem? (i := 773) (by decide +kernel)) rfl
theorem xw_809 : (.methodLink RL 122 yX11_as : Cond) ∈ xWg := xmem (List.mem_of_getElem? (i := 770) (by decide +kernel)) rfl
theorem xw_810 : (.instanceMethod yX11_as : Cond) ∈ xWg := xmem (List.mem_of_getElem? (i := 771) (by decide +kernel)) rfl
theorem xw_811 : (.selects RX11 yX11_as yX11_as : Cond) ∈ xWg := xmem (List.mem_of_getElem? (i := 772) (by decide +kernel)) rfl
theorem xw_812 : (.code yX12_as cX12_as 3 (some .int) : Cond) ∈ xWg := xmem (List.mem_of_getElem? (i := 1178) (by decide +kernel)) rfl
theorem xw_813 : (.methodLink RL 125 yX12_as : Cond) ∈ xWg := xmem (List.mem_of_getElem? (i := 1175) (by decide +kernel)) rfl
theorem xw_814 : (.instanceMethod yX12_as : Cond) ∈ xWg := xmem (List.mem_of_getElem? (i := 1176) (by decide +kernel)) rfl
theorem xw_815 : (.selects RX12 yX12_as yX12_as : Cond) ∈ xWg := xmem (List.mem_of_getElem? (i := 1177) (by decide +kernel)) rfl
theorem xw_816 : (.code yX11_ask cX11_ask 5 (some .int) : Cond) ∈ xWg := xmem (List.mem_of_getElem? (i := 785) (by decide +kernel)) rfl
theorem xw_817 : (.methodLink RL 126 yX11_ask : Cond) ∈ xWg := xmem (List.mem_of_getElem? (i := 782) (by decide +kernel)) rfl
theorem xw_818 : (.instanceMethod yX11_ask : Cond) ∈ xWg := xmem (List.mem_of_getElem? (i := 783) (by decide +kernel)) rfl
theorem xw_819 : (.selects RX11 yX11_ask yX11_ask : Cond) ∈ xWg := xmem (List.mem_of_getElem? (i := 784) (by decide +kernel)) rfl
theorem xw_820 : (.code yX12_ask cX12_ask 3 (some .int) : Cond) ∈ xWg := xmem (List.mem_of_getElem? (i := 1185) (by decide +kernel)) rfl
theorem xw_821 : (.methodLink RL 129 yX12_ask : Cond) ∈ xWg := xmem (List.mem_of_getElem? (i := 1182) (by decide +kernel)) rfl
theorem xw_822 : (.instanceMethod yX12_ask : Cond) ∈ xWg := xmem (List.mem_of_getElem? (i := 1183) (by decide +kernel)) rfl
theorem xw_823 : (.selects RX12 yX12_ask yX12_ask : Cond) ∈ xWg := xmem (List.mem_of_getElem? (i := 1184) (by decide +kernel)) rfl
theorem xw_824 : (.code yX11_trace cX11_trace 2 (some .int) : Cond) ∈ xWg := xmem (List.mem_of_getElem? (i := 844) (by decide +kernel)) rfl
theorem xw_825 : (.methodLink RL 130 yX11_trace : Cond) ∈ xWg := xmem (List.mem_of_getElem? (i := 841) (by decide +kernel)) rfl
theorem xw_826 : (.instanceMethod yX11_trace : Cond) ∈ xWg := xmem (List.mem_of_getElem? (i := 842) (by decide +kernel)) rfl
theorem xw_827 : (.selects RX11 yX11_trace yX11_trace : Cond) ∈ xWg := xmem (List.mem_of_getElem? (i := 843) (by decide +kernel)) rfl
theorem xw_828 : (.code yX12_trace cX12_trace 2 (some .int) : Cond) ∈ xWg := xmem (List.mem_of_getElem? (i := 1229) (by decide +kernel)) rfl
theorem xw_829 : (.methodLink RL 133 yX12_trace : Cond) ∈ xWg := xmem (List.mem_of_getElem? (i := 1226) (by decide +kernel)) rfl
theorem xw_830 : (.instanceMethod yX12_trace : Cond) ∈ xWg := xmem (List.mem_of_getElem? (i := 1227) (by decide +kernel)) rfl
theorem xw_831 : (.selects RX12 yX12_trace yX12_trace : Cond) ∈ xWg := xmem (List.mem_of_getElem? (i := 1228) (by decide +kernel)) rfl
theorem xw_832 : (.code yX11_count cX11_count 2 (some .int) : Cond) ∈ xWg := xmem (List.mem_of_getElem? (i := 853) (by decide +kernel)) rfl
theorem xw_833 : (.methodLink RL 134 yX11_count : Cond) ∈ xWg := xmem (List.mem_of_getElem? (i := 850) (by decide +kernel)) rfl
theorem xw_834 : (.instanceMethod yX11_count : Cond) ∈ xWg := xmem (List.mem_of_getElem? (i := 851) (by decide +kernel)) rfl
theorem xw_835 : (.selects RX11 yX11_count yX11_count : Cond) ∈ xWg := xmem (List.mem_of_getElem? (i := 852) (by decide +kernel)) rfl
theorem xw_836 : (.code yX12_count cX12_count 4 (some .int) : Cond) ∈ xWg := xmem (List.mem_of_getElem? (i := 1233) (by decide +kernel)) rfl
theorem xw_837 : (.methodLink RL 137 yX12_count : Cond) ∈ xWg := xmem (List.mem_of_getElem? (i := 1230) (by decide +kernel)) rfl
theorem xw_838 : (.instanceMethod yX12_count : Cond) ∈ xWg := xmem (List.mem_of_getElem? (i := 1231) (by decide +kernel)) rfl
theorem xw_839 : (.selects RX12 yX12_count yX12_count : Cond) ∈ xWg := xmem (List.mem_of_getElem? (i := 1232) (by decide +kernel)) rfl
theorem xw_840 : (.code yX11_status cX11_status 1 (some .int) : Cond) ∈ xWg := xmem (List.mem_of_getElem? (i := 866) (by decide +kernel)) rfl
theorem xw_841 : (.methodLink RL 138 yX11_status : Cond) ∈ xWg := xmem (List.mem_of_getElem? (i := 863) (by decide +kernel)) rfl
theorem xw_842 : (.instanceMethod yX11_status : Cond) ∈ xWg := xmem (List.mem_of_getElem? (i := 864) (by decide +kernel)) rfl
theorem xw_843 : (.selects RX11 yX11_status yX11_status : Cond) ∈ xWg := xmem (List.mem_of_getElem? (i := 865) (by decide +kernel)) rfl
theorem xw_844 : (.code yX12_status cX12_status 1 (some .int) : Cond) ∈ xWg := xmem (List.mem_of_getElem? (i := 1241) (by decide +kernel)) rfl
theorem xw_845 : (.methodLink RL 141 yX12_status : Cond) ∈ xWg := xmem (List.mem_of_getElem? (i := 1238) (by decide +kernel)) rfl
theorem xw_846 : (.instanceMethod yX12_status : Cond) ∈ xWg := xmem (List.mem_of_getElem? (i := 1239) (by decide +kernel)) rfl
theorem xw_847 : (.selects RX12 yX12_status yX12_status : Cond) ∈ xWg := xmem (List.mem_of_getElem? (i := 1240) (by decide +kernel)) rfl
theorem xw_848 : (.code yX5_init cX5_init 3 none : Cond) ∈ xWg := xmem (List.mem_of_getElem? (i := 435) (by decide +kernel)) rfl
theorem xw_849 : (.instanceMethod yX5_init : Cond) ∈ xWg := xmem (List.mem_of_getElem? (i := 434) (by decide +kernel)) rfl
theorem xw_850 : (.methodLink RX0 1 yX5_init : Cond) ∈ xWg := xmem (List.mem_of_getElem? (i := 470) (by decide +kernel)) rfl
theorem xw_851 : (.methodLink RX0 13 yX5_askSize : Cond) ∈ xWg := xmem (List.mem_of_getElem? (i := 800) (by decide +kernel)) rfl
theorem xw_852 : (.superclass RX0 RX5 : Cond) ∈ xWg := xmem (List.mem_of_getElem? (i := 473) (by decide +kernel)) rfl
theorem xw_853 : (.methodLink RX0 17 yX5_askMark : Cond) ∈ xWg := xmem (List.mem_of_getElem? (i := 839) (by decide +kernel)) rfl
theorem xw_854 : (.code yX0_init cX0_init 3 none : Cond) ∈ xWg := xmem (List.mem_of_getElem? (i := 469) (by decide +kernel)) rfl
theorem xw_855 : (.instanceMethod yX0_init : Cond) ∈ xWg := xmem (List.mem_of_getElem? (i := 468) (by decide +kernel)) rfl
theorem xw_856 : (.methodLink RX1 1 yX0_init : Cond) ∈ xWg := xmem (List.mem_of_getElem? (i := 479) (by decide +kernel)) rfl
theorem xw_857 : (.methodLink RX1 13 yX0_askSize : Cond) ∈ xWg := xmem (List.mem_of_getElem? (i := 805) (by decide +kernel)) rfl
theorem xw_858 : (.superclass RX1 RX0 : Cond) ∈ xWg := xmem (List.mem_of_getElem? (i := 482) (by decide +kernel)) rfl
theorem xw_859 : (.code yX4_init cX4_init 3 none : Cond) ∈ xWg := xmem (List.mem_of_getElem? (i := 432) (by decide +kernel)) rfl
theorem xw_860 : (.instanceMethod yX4_init : Cond) ∈ xWg := xmem (List.mem_of_getElem? (i := 431) (by decide +kernel)) rfl
theorem xw_861 : (.methodLink RX2 3 yX4_init : Cond) ∈ xWg := xmem (List.mem_of_getElem? (i := 461) (by decide +kernel)) rfl
theorem xw_862 : (.methodLink RX2 15 yX4_askMark : Cond) ∈ xWg := xmem (List.mem_of_getElem? (i := 819) (by decide +kernel)) rfl
theorem xw_863 : (.superclass RX2 RX4 : Cond) ∈ xWg := xmem (List.mem_of_getElem? (i := 464) (by decide +kernel)) rfl
theorem xw_864 : (.methodLink RX4 1 yX5_init : Cond) ∈ xWg := xmem (List.mem_of_getElem? (i := 433) (by decide +kernel)) rfl
theorem xw_865 : (.methodLink RX4 13 yX5_askSize : Cond) ∈ xWg := xmem (List.mem_of_getElem? (i := 810) (by decide +kernel)) rfl
theorem xw_866 : (.superclass RX4 RX5 : Cond) ∈ xWg := xmem (List.mem_of_getElem? (i := 446) (by decide +kernel)) rfl
theorem xw_867 : (.methodLink RX4 22 yX5_askMark : Cond) ∈ xWg := xmem (List.mem_of_getElem? (i := 826) (by decide +kernel)) rfl
theorem xw_868 : (.code yX6_init cX6_init 1 none : Cond) ∈ xWg := xmem (List.mem_of_getElem? (i := 268) (by decide +kernel)) rfl
theorem xw_869 : (.instanceMethod yX6_init : Cond) ∈ xWg := xmem (List.mem_of_getElem? (i := 267) (by decide +kernel)) rfl
theorem xw_870 : (.code yX3_init cX3_init 2 none : Cond) ∈ xWg := xmem (List.mem_of_getElem? (i := 110) (by decide +kernel)) rfl
theorem xw_871 : (.instanceMethod yX3_init : Cond) ∈ xWg := xmem (List.mem_of_getElem? (i := 109) (by decide +kernel)) rfl
theorem xw_872 : (.methodLink RX7 34 yX3_init : Cond) ∈ xWg := xmem (List.mem_of_getElem? (i := 292) (by decide +kernel)) rfl
theorem xw_873 : (.methodLink RX7 121 yX4_init : Cond) ∈ xWg := xmem (List.mem_of_getElem? (i := 430) (by decide +kernel)) rfl
theorem xw_874 : (.code yX10_init cX10_init 3 none : Cond) ∈ xWg := xmem (List.mem_of_getElem? (i := 451) (by decide +kernel)) rfl
theorem xw_875 : (.instanceMethod yX10_init : Cond) ∈ xWg := xmem (List.mem_of_getElem? (i := 450) (by decide +kernel)) rfl
theorem xw_876 : (.methodLink RX7 125 yX10_init : Cond) ∈ xWg := xmem (List.mem_of_getElem? (i := 449) (by decide +kernel)) rfl
theorem xw_877 : (.code yX2_init cX2_init 3 none : Cond) ∈ xWg := xmem (List.mem_of_getElem? (i := 460) (by decide +kernel)) rfl
theorem xw_878 : (.instanceMethod yX2_init : Cond) ∈ xWg := xmem (List.mem_of_getElem? (i := 459) (by decide +kernel)) rfl
theorem xw_879 : (.methodLink RX7 128 yX2_init : Cond) ∈ xWg := xmem (List.mem_of_getElem? (i := 458) (by decide +kernel)) rfl
theorem xw_880 : (.methodLink RX7 131 yX0_init : Cond) ∈ xWg := xmem (List.mem_of_getElem? (i := 467) (by decide +kernel)) rfl
theorem xw_881 : (.code yX1_init cX1_init 3 none : Cond) ∈ xWg := xmem (List.mem_of_getElem? (i := 478) (by decide +kernel)) rfl
theorem xw_882 : (.instanceMethod yX1_init : Cond) ∈ xWg := xmem (List.mem_of_getElem? (i := 477) (by decide +kernel)) rfl
theorem xw_883 : (.methodLink RX7 134 yX1_init : Cond) ∈ xWg := xmem (List.mem_of_getElem? (i := 476) (by decide +kernel)) rfl
theorem xw_884 : (.methodLink RX10 3 yX4_init : Cond) ∈ xWg := xmem (List.mem_of_getElem? (i := 452) (by decide +kernel)) rfl
theorem xw_885 : (.methodLink RX10 15 yX4_askSize : Cond) ∈ xWg := xmem (List.mem_of_getElem? (i := 834) (by decide +kernel)) rfl
theorem xw_886 : (.sameMethod "DustReads$Open" "DustReads$Open" "askSize" "(LDustReads$Trace;I)I" : Cond) ∈ xWg := xmem (List.mem_of_getElem? (i := 1245) (by decide +kernel)) rfl
theorem xw_887 : (.superclass RX10 RX4 : Cond) ∈ xWg := xmem (List.mem_of_getElem? (i := 455) (by decide +kernel)) rfl
theorem xw_888 : (.methodLink RX10 19 yX4_askMark : Cond) ∈ xWg := xmem (List.mem_of_getElem? (i := 824) (by decide +kernel)) rfl
theorem xw_889 : (.code yX8_init cX8_init 1 none : Cond) ∈ xWg := xmem (List.mem_of_getElem? (i := 88) (by decide +kernel)) rfl
theorem xw_890 : (.instanceMethod yX8_init : Cond) ∈ xWg := xmem (List.mem_of_getElem? (i := 87) (by decide +kernel)) rfl
theorem xw_891 : (.methodLink RX11 9 yX8_init : Cond) ∈ xWg := xmem (List.mem_of_getElem? (i := 86) (by decide +kernel)) rfl
theorem xw_892 : (.methodLink RX11 22 yX3_init : Cond) ∈ xWg := xmem (List.mem_of_getElem? (i := 108) (by decide +kernel)) rfl
theorem xw_893 : (.code yX9_init cX9_init 1 none : Cond) ∈ xWg := xmem (List.mem_of_getElem? (i := 145) (by decide +kernel)) rfl
theorem xw_894 : (.instanceMethod yX9_init : Cond) ∈ xWg := xmem (List.mem_of_getElem? (i := 144) (by decide +kernel)) rfl
theorem xw_895 : (.code yX7_init cX7_init 3 none : Cond) ∈ xWg := xmem (List.mem_of_getElem? (i := 259) (by decide +kernel)) rfl
theorem xw_896 : (.instanceMethod yX7_init : Cond) ∈ xWg := xmem (List.mem_of_getElem? (i := 258) (by decide +kernel)) rfl
theorem xw_897 : (.methodLink RX11 85 yX7_init : Cond) ∈ xWg := xmem (List.mem_of_getElem? (i := 257) (by decide +kernel)) rfl
theorem xw_898 : (.code yX11_init cX11_init 2 none : Cond) ∈ xWg := xmem (List.mem_of_getElem? (i := 80) (by decide +kernel)) rfl
theorem xw_899 : (.instanceMethod yX11_init : Cond) ∈ xWg := xmem (List.mem_of_getElem? (i := 79) (by decide +kernel)) rfl
theorem xw_900 : (.methodLink RL 9 yX11_init : Cond) ∈ xWg := xmem (List.mem_of_getElem? (i := 78) (by decide +kernel)) rfl
theorem xw_901 : (.code yX12_init cX12_init 2 none : Cond) ∈ xWg := xmem (List.mem_of_getElem? (i := 871) (by decide +kernel)) rfl
theorem xw_902 : (.instanceMethod yX12_init : Cond) ∈ xWg := xmem (List.mem_of_getElem? (i := 870) (by decide +kernel)) rfl
theorem xw_903 : (.methodLink RL 12 yX12_init : Cond) ∈ xWg := xmem (List.mem_of_getElem? (i := 869) (by decide +kernel)) rfl
theorem xw_904 : (.code yX11_atMost cX11_atMost 1 (some .int) : Cond) ∈ xWg := xmem (List.mem_of_getElem? (i := 565) (by decide +kernel)) rfl
theorem xw_905 : (.static yX11_atMost : Cond) ∈ xWg := xmem (List.mem_of_getElem? (i := 564) (by decide +kernel)) rfl
theorem xw_906 : (.code yX11_isIn cX11_isIn 2 (some .boolean) : Cond) ∈ xWg := xmem (List.mem_of_getElem? (i := 624) (by decide +kernel)) rfl
theorem xw_907 : (.static yX11_isIn : Cond) ∈ xWg := xmem (List.mem_of_getElem? (i := 623) (by decide +kernel)) rfl
theorem xw_908 : (.code yX7_newPlace cX7_newPlace 3 (some (.object "DustReads$Place")) : Cond) ∈ xWg := xmem (List.mem_of_getElem? (i := 427) (by decide +kernel)) rfl
theorem xw_909 : (.static yX7_newPlace : Cond) ∈ xWg := xmem (List.mem_of_getElem? (i := 426) (by decide +kernel)) rfl
theorem xw_910 : (.methodLink RX7 79 yX7_newPlace : Cond) ∈ xWg := xmem (List.mem_of_getElem? (i := 425) (by decide +kernel)) rfl
theorem xw_911 : (.code yX7_isLetter cX7_isLetter 1 (some .boolean) : Cond) ∈ xWg := xmem (List.mem_of_getElem? (i := 331) (by decide +kernel)) rfl
theorem xw_912 : (.static yX7_isLetter : Cond) ∈ xWg := xmem (List.mem_of_getElem? (i := 330) (by decide +kernel)) rfl
theorem xw_913 : (.methodLink RX7 149 yX7_isLetter : Cond) ∈ xWg := xmem (List.mem_of_getElem? (i := 329) (by decide +kernel)) rfl
theorem xw_914 : (.code yX7_isFigure cX7_isFigure 1 (some .boolean) : Cond) ∈ xWg := xmem (List.mem_of_getElem? (i := 334) (by decide +kernel)) rfl
theorem xw_915 : (.static yX7_isFigure : Cond) ∈ xWg := xmem (List.mem_of_getElem? (i := 333) (by decide +kernel)) rfl
theorem xw_916 : (.methodLink RX7 153 yX7_isFigure : Cond) ∈ xWg := xmem (List.mem_of_getElem? (i := 332) (by decide +kernel)) rfl
theorem xw_917 : (.code yJ7_fill_53178 cJ7_fill_53178 4 none : Cond) ∈ xWg := xmem (List.mem_of_getElem? (i := 94) (by decide +kernel)) rfl
theorem xw_918 : (.static yJ7_fill_53178 : Cond) ∈ xWg := xmem (List.mem_of_getElem? (i := 93) (by decide +kernel)) rfl
theorem xw_919 : (.initialized RJ7 : Cond) ∈ xWg := xmem (List.mem_of_getElem? (i := 57) (by decide +kernel)) rfl
theorem xw_920 : (.methodLink RX8 23 yJ7_fill_53178 : Cond) ∈ xWg := xmem (List.mem_of_getElem? (i := 92) (by decide +kernel)) rfl
theorem xw_921 : (.methodLink RX11 148 yX11_isIn : Cond) ∈ xWg := xmem (List.mem_of_getElem? (i := 622) (by decide +kernel)) rfl
theorem xw_922 : (.code yX11_isEither cX11_isEither 1 (some .boolean) : Cond) ∈ xWg := xmem (List.mem_of_getElem? (i := 640) (by decide +kernel)) rfl
theorem xw_923 : (.static yX11_isEither : Cond) ∈ xWg := xmem (List.mem_of_getElem? (i := 639) (by decide +kernel)) rfl
theorem xw_924 : (.methodLink RX11 177 yX11_isEither : Cond) ∈ xWg := xmem (List.mem_of_getElem? (i := 638) (by decide +kernel)) rfl
theorem xw_925 : (.code yJ6_bitCount_0f7a4 cJ6_bitCount_0f7a4 1 (some .int) : Cond) ∈ xWg := xmem (List.mem_of_getElem? (i := 716) (by decide +kernel)) rfl
theorem xw_926 : (.static yJ6_bitCount_0f7a4 : Cond) ∈ xWg := xmem (List.mem_of_getElem? (i := 715) (by decide +kernel)) rfl
theorem xw_927 : (.initialized RJ6 : Cond) ∈ xWg := xmem (List.mem_of_getElem? (i := 75) (by decide +kernel)) rfl
theorem xw_928 : (.methodLink RX11 216 yJ6_bitCount_0f7a4 : Cond) ∈ xWg := xmem (List.mem_of_getElem? (i := 714) (by decide +kernel)) rfl
theorem xw_929 : (.code yX11_isOfKind cX11_isOfKind 2 (some .boolean) : Cond) ∈ xWg := xmem (List.mem_of_getElem? (i := 776) (by decide +kernel)) rfl
theorem xw_930 : (.static yX11_isOfKind : Cond) ∈ xWg := xmem (List.mem_of_getElem? (i := 775) (by decide +kernel)) rfl
theorem xw_931 : (.methodLink RX11 231 yX11_isOfKind : Cond) ∈ xWg := xmem (List.mem_of_getElem? (i := 774) (by decide +kernel)) rfl
theorem xw_932 : (.methodLink RX11 260 yX11_atMost : Cond) ∈ xWg := xmem (List.mem_of_getElem? (i := 735) (by decide +kernel)) rfl
theorem xw_933 : (.code yX12_in cX12_in 3 (some .boolean) : Cond) ∈ xWg := xmem (List.mem_of_getElem? (i := 960) (by decide +kernel)) rfl
theorem xw_934 : (.static yX12_in : Cond) ∈ xWg := xmem (List.mem_of_getElem? (i := 959) (by decide +kernel)) rfl
theorem xw_935 : (.methodLink RX12 47 yX12_in : Cond) ∈ xWg := xmem (List.mem_of_getElem? (i := 958) (by decide +kernel)) rfl
theorem xw_936 : (.code yX12_isRow cX12_isRow 1 (some .boolean) : Cond) ∈ xWg := xmem (List.mem_of_getElem? (i := 957) (by decide +kernel)) rfl
theorem xw_937 : (.static yX12_isRow : Cond) ∈ xWg := xmem (List.mem_of_getElem? (i := 956) (by decide +kernel)) rfl
theorem xw_938 : (.methodLink RX12 51 yX12_isRow : Cond) ∈ xWg := xmem (List.mem_of_getElem? (i := 955) (by decide +kernel)) rfl
theorem xw_939 : (.code yX12_atMost cX12_atMost 1 (some .int) : Cond) ∈ xWg := xmem (List.mem_of_getElem? (i := 1072) (by decide +kernel)) rfl
theorem xw_940 : (.static yX12_atMost : Cond) ∈ xWg := xmem (List.mem_of_getElem? (i := 1071) (by decide +kernel)) rfl
theorem xw_941 : (.methodLink RX12 161 yX12_atMost : Cond) ∈ xWg := xmem (List.mem_of_getElem? (i := 1070) (by decide +kernel)) rfl
theorem xw_942 : (.code yX12_has cX12_has 2 (some .boolean) : Cond) ∈ xWg := xmem (List.mem_of_getElem? (i := 1099) (by decide +kernel)) rfl
theorem xw_943 : (.static yX12_has : Cond) ∈ xWg := xmem (List.mem_of_getElem? (i := 1098) (by decide +kernel)) rfl
theorem xw_944 : (.methodLink RX12 173 yX12_has : Cond) ∈ xWg := xmem (List.mem_of_getElem? (i := 1097) (by decide +kernel)) rfl
theorem xw_945 : (.code yX12_bits cX12_bits 3 (some .int) : Cond) ∈ xWg := xmem (List.mem_of_getElem? (i := 1154) (by decide +kernel)) rfl
theorem xw_946 : (.static yX12_bits : Cond) ∈ xWg := xmem (List.mem_of_getElem? (i := 1153) (by decide +kernel)) rfl
theorem xw_947 : (.methodLink RX12 200 yX12_bits : Cond) ∈ xWg := xmem (List.mem_of_getElem? (i := 1152) (by decide +kernel)) rfl
theorem xw_948 : (.code yX12_isA cX12_isA 2 (some .boolean) : Cond) ∈ xWg := xmem (List.mem_of_getElem? (i := 1181) (by decide +kernel)) rfl
theorem xw_949 : (.static yX12_isA : Cond) ∈ xWg := xmem (List.mem_of_getElem? (i := 1180) (by decide +kernel)) rfl
theorem xw_950 : (.methodLink RX12 206 yX12_isA : Cond) ∈ xWg := xmem (List.mem_of_getElem? (i := 1179) (by decide +kernel)) rfl
theorem xw_951 : (.methodLink RX3 3 objectInit : Cond) ∈ xWg := xmem (List.mem_of_getElem? (i := 111) (by decide +kernel)) rfl
theorem xw_952 : (.methodLink RX3 32 arraycopyName : Cond) ∈ xWg := xmem (List.mem_of_getElem? (i := 530) (by decide +kernel)) rfl
theorem xw_953 : (.methodLink RX3 69 Lib.Math.max.name : Cond) ∈ xWg := xmem (List.mem_of_getElem? (i := 582) (by decide +kernel)) rfl
theorem xw_954 : (.methodLink RX3 117 Lib.Math.min.name : Cond) ∈ xWg := xmem (List.mem_of_getElem? (i := 726) (by decide +kernel)) rfl
theorem xw_955 : (.methodLink RX5 1 objectInit : Cond) ∈ xWg := xmem (List.mem_of_getElem? (i := 436) (by decide +kernel)) rfl
theorem xw_956 : (.methodLink RX6 3 objectInit : Cond) ∈ xWg := xmem (List.mem_of_getElem? (i := 269) (by decide +kernel)) rfl
theorem xw_957 : (.methodLink RX7 3 objectInit : Cond) ∈ xWg := xmem (List.mem_of_getElem? (i := 260) (by decide +kernel)) rfl
theorem xw_958 : (.methodLink RX7 15 Lib.Math.min.name : Cond) ∈ xWg := xmem (List.mem_of_getElem? (i := 261) (by decide +kernel)) rfl
theorem xw_959 : (.methodLink RX7 141 yJ0_length_8abf5 : Cond) ∈ xWg := xmem (List.mem_of_getElem? (i := 348) (by decide +kernel)) rfl
theorem xw_960 : (.methodLink RX7 145 yJ0_charAt_5068e : Cond) ∈ xWg := xmem (List.mem_of_getElem? (i := 358) (by decide +kernel)) rfl
theorem xw_961 : (.methodLink RX8 3 objectInit : Cond) ∈ xWg := xmem (List.mem_of_getElem? (i := 89) (by decide +kernel)) rfl
theorem xw_962 : (.methodLink RX8 37 arraycopyName : Cond) ∈ xWg := xmem (List.mem_of_getElem? (i := 234) (by decide +kernel)) rfl
theorem xw_963 : (.methodLink RX9 3 objectInit : Cond) ∈ xWg := xmem (List.mem_of_getElem? (i := 146) (by decide +kernel)) rfl
theorem xw_964 : (.methodLink RX11 1 objectInit : Cond) ∈ xWg := xmem (List.mem_of_getElem? (i := 81) (by decide +kernel)) rfl
theorem xw_965 : (.methodLink RX11 266 Lib.Math.min.name : Cond) ∈ xWg := xmem (List.mem_of_getElem? (i := 566) (by decide +kernel)) rfl
theorem xw_966 : (.methodLink RX12 1 objectInit : Cond) ∈ xWg := xmem (List.mem_of_getElem? (i := 872) (by decide +kernel)) rfl
