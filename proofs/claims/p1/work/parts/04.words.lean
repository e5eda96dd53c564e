theorem tw_0 : Cond.fieldLink RX7 62 "HandsReturned" "houseCount" "I" ∈ zz_all := zz_m2 34 rfl rfl
theorem tw_1 : Cond.code yX7_within cX7_within 3 (some .boolean) ∈ zz_all := zz_m2 77 rfl rfl
theorem tw_2 : Cond.initialized RX7 ∈ zz_all := zz_m1 1 rfl rfl
theorem tw_3 : Cond.methodLink RX7 80 yX7_within ∈ zz_all := zz_m2 75 rfl rfl
theorem tw_4 : Cond.static yX7_within ∈ zz_all := zz_m2 76 rfl rfl
theorem tw_5 : Cond.fieldLink RX7 77 "HandsReturned" "fieldCount" "I" ∈ zz_all := zz_m2 35 rfl rfl
theorem tw_6 : Cond.fieldLink RX7 11 "HandsReturned" "houses" "[LHandsReturned$House;" ∈ zz_all := zz_m2 26 rfl rfl
theorem tw_7 : Cond.code yX7_houseAt cX7_houseAt 2 (some (.object "HandsReturned$House")) ∈ zz_all := zz_m2 74 rfl rfl
theorem tw_8 : Cond.methodLink RX7 73 yX7_houseAt ∈ zz_all := zz_m2 71 rfl rfl
theorem tw_9 : Cond.instanceMethod yX7_houseAt ∈ zz_all := zz_m2 73 rfl rfl
theorem tw_10 : Cond.selects RX7 yX7_houseAt yX7_houseAt ∈ zz_all := zz_ms 0 rfl rfl
theorem tw_11 : Cond.fieldLink RX7 23 "HandsReturned" "losses" "[I" ∈ zz_all := zz_m2 28 rfl rfl
theorem tw_12 : Cond.fieldLink RX6 15 "HandsReturned$Tape" "length" "I" ∈ zz_all := zz_m1 105 rfl rfl
theorem tw_13 : Cond.fieldLink RX6 9 "HandsReturned$Tape" "bytes" "[I" ∈ zz_all := zz_m1 104 rfl rfl
theorem tw_14 : Cond.fieldLink RX7 30 "HandsReturned" "tape" "LHandsReturned$Tape;" ∈ zz_all := zz_m2 29 rfl rfl
theorem tw_15 : Cond.code yX6_append cX6_append 3 none ∈ zz_all := zz_m2 89 rfl rfl
theorem tw_16 : Cond.initialized RX6 ∈ zz_all := zz_m1 4 rfl rfl
theorem tw_17 : Cond.instanceMethod yX6_append ∈ zz_all := zz_m2 88 rfl rfl
theorem tw_18 : Cond.selects RX6 yX6_append yX6_append ∈ zz_all := zz_ms 1 rfl rfl
theorem tw_19 : Cond.fieldLink RX0 15 "HandsReturned$Custom" "draft" "[I" ∈ zz_all := zz_m1 127 rfl rfl
theorem tw_20 : Cond.methodLink RX0 28 arraycopyName ∈ zz_all := zz_m1 122 rfl rfl
theorem tw_21 : Cond.native arraycopyName ∈ zz_all := zz_m1 124 rfl rfl
theorem tw_22 : Cond.static arraycopyName ∈ zz_all := zz_m1 123 rfl rfl
theorem tw_23 : Cond.initialized "java/lang/System" ∈ zz_all := zz_m1 6 rfl rfl
theorem tw_24 : Cond.fieldLink RX0 18 "HandsReturned$Custom" "flaw" "I" ∈ zz_all := zz_m1 128 rfl rfl
theorem tw_25 : Cond.fieldLink RX0 22 "HandsReturned$Custom" "place" "I" ∈ zz_all := zz_m1 130 rfl rfl
theorem tw_26 : Cond.fieldLink RX0 34 "HandsReturned$Custom" "wanted" "I" ∈ zz_all := zz_m1 132 rfl rfl
theorem tw_27 : Cond.fieldLink RX0 37 "HandsReturned$Custom" "word" "I" ∈ zz_all := zz_m1 133 rfl rfl
theorem tw_28 : Cond.fieldLink RX0 40 "HandsReturned$Custom" "seen" "I" ∈ zz_all := zz_m1 134 rfl rfl
theorem tw_29 : Cond.fieldLink RX0 43 "HandsReturned$Custom" "clauses" "I" ∈ zz_all := zz_m1 135 rfl rfl
theorem tw_30 : Cond.fieldLink RX0 9 "HandsReturned$Custom" "told" "[I" ∈ zz_all := zz_m1 125 rfl rfl
theorem tw_31 : Cond.fieldLink RX7 37 "HandsReturned" "customs" "LHandsReturned$Custom;" ∈ zz_all := zz_m2 30 rfl rfl
theorem tw_32 : Cond.code yX0_read cX0_read 3 (some .int) ∈ zz_all := zz_m2 101 rfl rfl
theorem tw_33 : Cond.initialized RX0 ∈ zz_all := zz_m1 5 rfl rfl
theorem tw_34 : Cond.instanceMethod yX0_read ∈ zz_all := zz_m2 100 rfl rfl
theorem tw_35 : Cond.selects RX0 yX0_read yX0_read ∈ zz_all := zz_ms 2 rfl rfl
theorem tw_36 : Cond.code yX7_fieldAt cX7_fieldAt 2 (some (.object "HandsReturned$Field")) ∈ zz_all := zz_m2 223 rfl rfl
theorem tw_37 : Cond.methodLink RX7 122 yX7_fieldAt ∈ zz_all := zz_m2 220 rfl rfl
theorem tw_38 : Cond.instanceMethod yX7_fieldAt ∈ zz_all := zz_m2 222 rfl rfl
theorem tw_39 : Cond.selects RX7 yX7_fieldAt yX7_fieldAt ∈ zz_all := zz_ms 8 rfl rfl
theorem tw_40 : Cond.constant RX7 160 (-1000000) ∈ zz_all := zz_m3 45 rfl rfl
theorem tw_41 : Cond.code yX7_areTwoHouses cX7_areTwoHouses 3 (some .boolean) ∈ zz_all := zz_m3 61 rfl rfl
theorem tw_42 : Cond.methodLink RX7 181 yX7_areTwoHouses ∈ zz_all := zz_m3 58 rfl rfl
theorem tw_43 : Cond.instanceMethod yX7_areTwoHouses ∈ zz_all := zz_m3 60 rfl rfl
theorem tw_44 : Cond.selects RX7 yX7_areTwoHouses yX7_areTwoHouses ∈ zz_all := zz_ms 20 rfl rfl
theorem tw_45 : Cond.fieldLink RX2 15 "HandsReturned$Evening" "freshNets" "[I" ∈ zz_all := zz_m1 190 rfl rfl
theorem tw_46 : Cond.fieldLink RX2 9 "HandsReturned$Evening" "nets" "[I" ∈ zz_all := zz_m1 189 rfl rfl
theorem tw_47 : Cond.code yX2_takeNets cX2_takeNets 4 (some .boolean) ∈ zz_all := zz_m3 85 rfl rfl
theorem tw_48 : Cond.initialized RX2 ∈ zz_all := zz_m1 8 rfl rfl
theorem tw_49 : Cond.methodLink RX2 36 yX2_takeNets ∈ zz_all := zz_m3 82 rfl rfl
theorem tw_50 : Cond.instanceMethod yX2_takeNets ∈ zz_all := zz_m3 84 rfl rfl
theorem tw_51 : Cond.selects RX2 yX2_takeNets yX2_takeNets ∈ zz_all := zz_ms 24 rfl rfl
theorem tw_52 : Cond.fieldLink RX7 51 "HandsReturned" "evening" "LHandsReturned$Evening;" ∈ zz_all := zz_m2 32 rfl rfl
theorem tw_53 : Cond.fieldLink RX7 44 "HandsReturned" "debts" "LHandsReturned$Debts;" ∈ zz_all := zz_m2 31 rfl rfl
theorem tw_54 : Cond.code yX2_tellFor cX2_tellFor 2 none ∈ zz_all := zz_m3 81 rfl rfl
theorem tw_55 : Cond.instanceMethod yX2_tellFor ∈ zz_all := zz_m3 80 rfl rfl
theorem tw_56 : Cond.selects RX2 yX2_tellFor yX2_tellFor ∈ zz_all := zz_ms 23 rfl rfl
theorem tw_57 : Cond.fieldLink RX5 36 "HandsReturned$Plan" "count" "I" ∈ zz_all := zz_m1 238 rfl rfl
theorem tw_58 : Cond.fieldLink RX5 40 "HandsReturned$Plan" "today" "I" ∈ zz_all := zz_m1 239 rfl rfl
theorem tw_59 : Cond.methodLink RX5 43 Lib.Math.max.name ∈ zz_all := zz_m3 129 rfl rfl
theorem tw_60 : Cond.static Lib.Math.max.name ∈ zz_all := zz_m3 22 rfl rfl
theorem tw_61 : Cond.initialized "java/lang/Math" ∈ zz_all := zz_m1 15 rfl rfl
theorem tw_62 : Cond.code Lib.Math.max.name Lib.Math.max.code 2 (some .int) ∈ zz_all := zz_m3 23 rfl rfl
theorem tw_63 : Cond.fieldLink RX5 49 "HandsReturned$Plan" "hands" "I" ∈ zz_all := zz_m2 0 rfl rfl
theorem tw_64 : Cond.fieldLink RX5 27 "HandsReturned$Plan" "leastLost" "[I" ∈ zz_all := zz_m1 232 rfl rfl
theorem tw_65 : Cond.fieldLink RX5 70 "HandsReturned$Plan" "chosenCount" "I" ∈ zz_all := zz_m1 236 rfl rfl
theorem tw_66 : Cond.code yX7_waitingFields cX7_waitingFields 3 (some .int) ∈ zz_all := zz_m3 124 rfl rfl
theorem tw_67 : Cond.methodLink RX7 205 yX7_waitingFields ∈ zz_all := zz_m3 121 rfl rfl
theorem tw_68 : Cond.instanceMethod yX7_waitingFields ∈ zz_all := zz_m3 123 rfl rfl
theorem tw_69 : Cond.selects RX7 yX7_waitingFields yX7_waitingFields ∈ zz_all := zz_ms 30 rfl rfl
theorem tw_70 : Cond.fieldLink RX7 58 "HandsReturned" "order" "LHandsReturned$Plan;" ∈ zz_all := zz_m2 33 rfl rfl
theorem tw_71 : Cond.fieldLink RX7 129 "HandsReturned" "clock" "I" ∈ zz_all := zz_m2 36 rfl rfl
theorem tw_72 : Cond.code yX5_begin cX5_begin 3 none ∈ zz_all := zz_m3 128 rfl rfl
theorem tw_73 : Cond.initialized RX5 ∈ zz_all := zz_m1 9 rfl rfl
theorem tw_74 : Cond.instanceMethod yX5_begin ∈ zz_all := zz_m3 127 rfl rfl
theorem tw_75 : Cond.selects RX5 yX5_begin yX5_begin ∈ zz_all := zz_ms 31 rfl rfl
theorem tw_76 : Cond.code yX5_choose cX5_choose 6 (some .int) ∈ zz_all := zz_m3 141 rfl rfl
theorem tw_77 : Cond.instanceMethod yX5_choose ∈ zz_all := zz_m3 140 rfl rfl
theorem tw_78 : Cond.selects RX5 yX5_choose yX5_choose ∈ zz_all := zz_ms 34 rfl rfl
theorem tw_79 : Cond.fieldLink RX7 151 "HandsReturned" "hired" "I" ∈ zz_all := zz_m2 37 rfl rfl
theorem tw_80 : Cond.fieldLink RX1 24 "HandsReturned$Debts" "count" "I" ∈ zz_all := zz_m1 169 rfl rfl
theorem tw_81 : Cond.code yX1_dropEmpty cX1_dropEmpty 3 none ∈ zz_all := zz_m3 8 rfl rfl
theorem tw_82 : Cond.initialized RX1 ∈ zz_all := zz_m1 7 rfl rfl
theorem tw_83 : Cond.instanceMethod yX1_dropEmpty ∈ zz_all := zz_m3 7 rfl rfl
theorem tw_84 : Cond.selects RX1 yX1_dropEmpty yX1_dropEmpty ∈ zz_all := zz_ms 14 rfl rfl
theorem tw_85 : Cond.code yX7_lapseDebts cX7_lapseDebts 4 none ∈ zz_all := zz_m3 39 rfl rfl
theorem tw_86 : Cond.methodLink RX7 246 yX7_lapseDebts ∈ zz_all := zz_m3 36 rfl rfl
theorem tw_87 : Cond.instanceMethod yX7_lapseDebts ∈ zz_all := zz_m3 38 rfl rfl
theorem tw_88 : Cond.selects RX7 yX7_lapseDebts yX7_lapseDebts ∈ zz_all := zz_ms 18 rfl rfl
theorem tw_89 : Cond.code yX7_nextDay cX7_nextDay 2 none ∈ zz_all := zz_m3 35 rfl rfl
theorem tw_90 : Cond.methodLink RX7 157 yX7_nextDay ∈ zz_all := zz_m3 32 rfl rfl
theorem tw_91 : Cond.instanceMethod yX7_nextDay ∈ zz_all := zz_m3 34 rfl rfl
theorem tw_92 : Cond.selects RX7 yX7_nextDay yX7_nextDay ∈ zz_all := zz_ms 17 rfl rfl
theorem tw_93 : Cond.fieldLink RX8 115 "HandsReturnedModel" "houses" "I" ∈ zz_all := zz_m3 179 rfl rfl
theorem tw_94 : Cond.code yX8_in cX8_in 6 (some .boolean) ∈ zz_all := zz_m4 81 rfl rfl
theorem tw_95 : Cond.initialized RX8 ∈ zz_all := zz_m1 10 rfl rfl
theorem tw_96 : Cond.methodLink RX8 118 yX8_in ∈ zz_all := zz_m4 79 rfl rfl
theorem tw_97 : Cond.static yX8_in ∈ zz_all := zz_m4 80 rfl rfl
theorem tw_98 : Cond.fieldLink RX8 122 "HandsReturnedModel" "fields" "I" ∈ zz_all := zz_m3 189 rfl rfl
theorem tw_99 : Cond.code yX8_isField cX8_isField 2 (some .boolean) ∈ zz_all := zz_m4 178 rfl rfl
theorem tw_100 : Cond.methodLink RX8 220 yX8_isField ∈ zz_all := zz_m4 175 rfl rfl
theorem tw_101 : Cond.instanceMethod yX8_isField ∈ zz_all := zz_m4 177 rfl rfl
theorem tw_102 : Cond.selects RX8 yX8_isField yX8_isField ∈ zz_all := zz_ms 43 rfl rfl
theorem tw_103 : Cond.constantLong RX8 125 9 ∈ zz_all := zz_m4 78 rfl rfl
theorem tw_104 : Cond.fieldLink RX8 31 "HandsReturnedModel" "hands" "[I" ∈ zz_all := zz_m3 180 rfl rfl
theorem tw_105 : Cond.fieldLink RX8 34 "HandsReturnedModel" "isWidow" "[Z" ∈ zz_all := zz_m3 181 rfl rfl
theorem tw_106 : Cond.code yX8_isHouse cX8_isHouse 2 (some .boolean) ∈ zz_all := zz_m4 89 rfl rfl
theorem tw_107 : Cond.methodLink RX8 127 yX8_isHouse ∈ zz_all := zz_m4 86 rfl rfl
theorem tw_108 : Cond.instanceMethod yX8_isHouse ∈ zz_all := zz_m4 88 rfl rfl
theorem tw_109 : Cond.selects RX8 yX8_isHouse yX8_isHouse ∈ zz_all := zz_ms 37 rfl rfl
theorem tw_110 : Cond.constantLong RX8 139 100 ∈ zz_all := zz_m4 98 rfl rfl
theorem tw_111 : Cond.fieldLink RX8 55 "HandsReturnedModel" "loss" "[I" ∈ zz_all := zz_m3 188 rfl rfl
theorem tw_112 : Cond.fieldLink RX8 7 "HandsReturnedModel" "tape" "[B" ∈ zz_all := zz_m3 165 rfl rfl
theorem tw_113 : Cond.fieldLink RX8 141 "HandsReturnedModel" "taped" "I" ∈ zz_all := zz_m3 166 rfl rfl
theorem tw_114 : Cond.code yX8_put cX8_put 2 none ∈ zz_all := zz_m4 106 rfl rfl
theorem tw_115 : Cond.methodLink RX8 144 yX8_put ∈ zz_all := zz_m4 103 rfl rfl
theorem tw_116 : Cond.instanceMethod yX8_put ∈ zz_all := zz_m4 105 rfl rfl
theorem tw_117 : Cond.selects RX8 yX8_put yX8_put ∈ zz_all := zz_ms 38 rfl rfl
theorem tw_118 : Cond.fieldLink RX8 170 "HandsReturnedModel" "at" "I" ∈ zz_all := zz_m3 167 rfl rfl
theorem tw_119 : Cond.fieldLink RX8 173 "HandsReturnedModel" "token" "I" ∈ zz_all := zz_m3 168 rfl rfl
theorem tw_120 : Cond.fieldLink RX8 176 "HandsReturnedModel" "sort" "I" ∈ zz_all := zz_m3 169 rfl rfl
theorem tw_121 : Cond.fieldLink RX8 196 "HandsReturnedModel" "wrong" "I" ∈ zz_all := zz_m3 171 rfl rfl
theorem tw_122 : Cond.fieldLink RX8 199 "HandsReturnedModel" "wrongAt" "I" ∈ zz_all := zz_m3 172 rfl rfl
theorem tw_123 : Cond.fieldLink RX8 20 "HandsReturnedModel" "isTold" "[Z" ∈ zz_all := zz_m3 175 rfl rfl
theorem tw_124 : Cond.fieldLink RX8 24 "HandsReturnedModel" "newCustom" "[I" ∈ zz_all := zz_m3 176 rfl rfl
theorem tw_125 : Cond.code yX8_next cX8_next 6 none ∈ zz_all := zz_m4 118 rfl rfl
theorem tw_126 : Cond.methodLink RX8 205 yX8_next ∈ zz_all := zz_m4 115 rfl rfl
theorem tw_127 : Cond.instanceMethod yX8_next ∈ zz_all := zz_m4 117 rfl rfl
theorem tw_128 : Cond.selects RX8 yX8_next yX8_next ∈ zz_all := zz_ms 39 rfl rfl
theorem tw_129 : Cond.fieldLink RX8 13 "HandsReturnedModel" "fault" "I" ∈ zz_all := zz_m3 173 rfl rfl
theorem tw_130 : Cond.fieldLink RX8 17 "HandsReturnedModel" "faultAt" "I" ∈ zz_all := zz_m3 174 rfl rfl
theorem tw_131 : Cond.fieldLink RX8 28 "HandsReturnedModel" "custom" "[I" ∈ zz_all := zz_m3 177 rfl rfl
theorem tw_132 : Cond.constantLong RX8 218 6 ∈ zz_all := zz_m4 162 rfl rfl
theorem tw_133 : Cond.code yX8_canWork cX8_canWork 3 (some .boolean) ∈ zz_all := zz_m4 174 rfl rfl
theorem tw_134 : Cond.methodLink RX8 233 yX8_canWork ∈ zz_all := zz_m4 171 rfl rfl
theorem tw_135 : Cond.instanceMethod yX8_canWork ∈ zz_all := zz_m4 173 rfl rfl
theorem tw_136 : Cond.selects RX8 yX8_canWork yX8_canWork ∈ zz_all := zz_ms 42 rfl rfl
theorem tw_137 : Cond.fieldLink RX8 230 "HandsReturnedModel" "debts" "I" ∈ zz_all := zz_m3 198 rfl rfl
theorem tw_138 : Cond.fieldLink RX8 223 "HandsReturnedModel" "clock" "I" ∈ zz_all := zz_m3 178 rfl rfl
theorem tw_139 : Cond.fieldLink RX8 254 "HandsReturnedModel" "hired" "I" ∈ zz_all := zz_m3 197 rfl rfl
theorem tw_140 : Cond.code yX8_drops cX8_drops 3 none ∈ zz_all := zz_m4 190 rfl rfl
theorem tw_141 : Cond.methodLink RX8 247 yX8_drops ∈ zz_all := zz_m4 187 rfl rfl
theorem tw_142 : Cond.instanceMethod yX8_drops ∈ zz_all := zz_m4 189 rfl rfl
theorem tw_143 : Cond.selects RX8 yX8_drops yX8_drops ∈ zz_all := zz_ms 46 rfl rfl
theorem tw_144 : Cond.code yX8_goes cX8_goes 3 none ∈ zz_all := zz_m4 218 rfl rfl
theorem tw_145 : Cond.methodLink RX8 257 yX8_goes ∈ zz_all := zz_m4 215 rfl rfl
theorem tw_146 : Cond.instanceMethod yX8_goes ∈ zz_all := zz_m4 217 rfl rfl
theorem tw_147 : Cond.selects RX8 yX8_goes yX8_goes ∈ zz_all := zz_ms 51 rfl rfl
theorem tw_148 : Cond.constant RX8 263 (-1000000) ∈ zz_all := zz_m4 223 rfl rfl
theorem tw_149 : Cond.fieldLink RX8 94 "HandsReturnedModel" "groups" "[I" ∈ zz_all := zz_m3 204 rfl rfl
theorem tw_150 : Cond.fieldLink RX8 276 "HandsReturnedModel" "payments" "I" ∈ zz_all := zz_m3 205 rfl rfl
theorem tw_151 : Cond.code yX8_parts cX8_parts 5 none ∈ zz_all := zz_m5 15 rfl rfl
theorem tw_152 : Cond.methodLink RX8 279 yX8_parts ∈ zz_all := zz_m5 12 rfl rfl
theorem tw_153 : Cond.instanceMethod yX8_parts ∈ zz_all := zz_m5 14 rfl rfl
theorem tw_154 : Cond.selects RX8 yX8_parts yX8_parts ∈ zz_all := zz_ms 55 rfl rfl
theorem tw_155 : Cond.code yX8_pays cX8_pays 3 none ∈ zz_all := zz_m5 11 rfl rfl
theorem tw_156 : Cond.methodLink RX8 289 yX8_pays ∈ zz_all := zz_m5 8 rfl rfl
theorem tw_157 : Cond.instanceMethod yX8_pays ∈ zz_all := zz_m5 10 rfl rfl
theorem tw_158 : Cond.selects RX8 yX8_pays yX8_pays ∈ zz_all := zz_ms 54 rfl rfl
theorem tw_159 : Cond.fieldLink RX8 292 "HandsReturnedModel" "waiting" "I" ∈ zz_all := zz_m3 209 rfl rfl
theorem tw_160 : Cond.constantLong RX8 299 99 ∈ zz_all := zz_m5 43 rfl rfl
theorem tw_161 : Cond.fieldLink RX8 301 "HandsReturnedModel" "planned" "I" ∈ zz_all := zz_m3 212 rfl rfl
theorem tw_162 : Cond.code yX8_lost cX8_lost 9 (some .int) ∈ zz_all := zz_m5 47 rfl rfl
theorem tw_163 : Cond.methodLink RX8 304 yX8_lost ∈ zz_all := zz_m5 44 rfl rfl
theorem tw_164 : Cond.instanceMethod yX8_lost ∈ zz_all := zz_m5 46 rfl rfl
theorem tw_165 : Cond.selects RX8 yX8_lost yX8_lost ∈ zz_all := zz_ms 59 rfl rfl
theorem tw_166 : Cond.code yX8_nextOrder cX8_nextOrder 5 (some .boolean) ∈ zz_all := zz_m5 51 rfl rfl
theorem tw_167 : Cond.methodLink RX8 307 yX8_nextOrder ∈ zz_all := zz_m5 48 rfl rfl
theorem tw_168 : Cond.instanceMethod yX8_nextOrder ∈ zz_all := zz_m5 50 rfl rfl
theorem tw_169 : Cond.selects RX8 yX8_nextOrder yX8_nextOrder ∈ zz_all := zz_ms 60 rfl rfl
theorem tw_170 : Cond.constantLong RX8 311 20 ∈ zz_all := zz_m5 64 rfl rfl
theorem tw_171 : Cond.constantLong RX8 313 29 ∈ zz_all := zz_m5 65 rfl rfl
theorem dX7_within_0 : decode cX7_within 0 = .ok (.iload_n 0, 1) := by decide +kernel
theorem dX7_within_1 : decode cX7_within 1 = .ok (.iload_n 1, 1) := by decide +kernel
theorem dX7_within_2 : decode cX7_within 2 = .ok (.if_icmp .lt 12, 3) := by decide +kernel
theorem dX7_within_5 : decode cX7_within 5 = .ok (.iload_n 0, 1) := by decide +kernel
theorem dX7_within_6 : decode cX7_within 6 = .ok (.iload_n 2, 1) := by decide +kernel
theorem dX7_within_7 : decode cX7_within 7 = .ok (.if_icmp .gt 7, 3) := by decide +kernel
theorem dX7_within_10 : decode cX7_within 10 = .ok (.iconst 1, 1) := by decide +kernel
theorem dX7_within_11 : decode cX7_within 11 = .ok (.goto 4, 3) := by decide +kernel
theorem dX7_within_14 : decode cX7_within 14 = .ok (.iconst 0, 1) := by decide +kernel
theorem dX7_within_15 : decode cX7_within 15 = .ok (.ireturn, 1) := by decide +kernel
theorem dX8_in_0 : decode cX8_in 0 = .ok (.lload_n 0, 1) := by decide +kernel
theorem dX8_in_1 : decode cX8_in 1 = .ok (.lload_n 2, 1) := by decide +kernel
theorem dX8_in_2 : decode cX8_in 2 = .ok (.lcmp, 1) := by decide +kernel
theorem dX8_in_3 : decode cX8_in 3 = .ok (.ifCond .lt 14, 3) := by decide +kernel
theorem dX8_in_6 : decode cX8_in 6 = .ok (.lload_n 0, 1) := by decide +kernel
theorem dX8_in_7 : decode cX8_in 7 = .ok (.lload 4, 2) := by decide +kernel
theorem dX8_in_9 : decode cX8_in 9 = .ok (.lcmp, 1) := by decide +kernel
theorem dX8_in_10 : decode cX8_in 10 = .ok (.ifCond .gt 7, 3) := by decide +kernel
theorem dX8_in_13 : decode cX8_in 13 = .ok (.iconst 1, 1) := by decide +kernel
theorem dX8_in_14 : decode cX8_in 14 = .ok (.goto 4, 3) := by decide +kernel
theorem dX8_in_17 : decode cX8_in 17 = .ok (.iconst 0, 1) := by decide +kernel
theorem dX8_in_18 : decode cX8_in 18 = .ok (.ireturn, 1) := by decide +kernel
theorem dX7_houseAt_0 : decode cX7_houseAt 0 = .ok (.iload_n 1, 1) := by decide +kernel
theorem dX7_houseAt_1 : decode cX7_houseAt 1 = .ok (.iconst 0, 1) := by decide +kernel
theorem dX7_houseAt_2 : decode cX7_houseAt 2 = .ok (.aload_n 0, 1) := by decide +kernel
theorem dX7_houseAt_3 : decode cX7_houseAt 3 = .ok (.getfield 62, 3) := by decide +kernel
theorem dX7_houseAt_6 : decode cX7_houseAt 6 = .ok (.iconst 1, 1) := by decide +kernel
theorem dX7_houseAt_7 : decode cX7_houseAt 7 = .ok (.isub, 1) := by decide +kernel
theorem dX7_houseAt_8 : decode cX7_houseAt 8 = .ok (.invokestatic 80, 3) := by decide +kernel
theorem dX7_houseAt_11 : decode cX7_houseAt 11 = .ok (.ifCond .eq 12, 3) := by decide +kernel
theorem dX7_houseAt_23 : decode cX7_houseAt 23 = .ok (.aconst_null, 1) := by decide +kernel
theorem dX7_houseAt_24 : decode cX7_houseAt 24 = .ok (.areturn, 1) := by decide +kernel
theorem dX7_fieldAt_0 : decode cX7_fieldAt 0 = .ok (.iload_n 1, 1) := by decide +kernel
theorem dX7_fieldAt_1 : decode cX7_fieldAt 1 = .ok (.iconst 0, 1) := by decide +kernel
theorem dX7_fieldAt_2 : decode cX7_fieldAt 2 = .ok (.aload_n 0, 1) := by decide +kernel
theorem dX7_fieldAt_3 : decode cX7_fieldAt 3 = .ok (.getfield 77, 3) := by decide +kernel
theorem dX7_fieldAt_6 : decode cX7_fieldAt 6 = .ok (.iconst 1, 1) := by decide +kernel
theorem dX7_fieldAt_7 : decode cX7_fieldAt 7 = .ok (.isub, 1) := by decide +kernel
theorem dX7_fieldAt_8 : decode cX7_fieldAt 8 = .ok (.invokestatic 80, 3) := by decide +kernel
theorem dX7_fieldAt_11 : decode cX7_fieldAt 11 = .ok (.ifCond .eq 12, 3) := by decide +kernel
theorem dX7_fieldAt_23 : decode cX7_fieldAt 23 = .ok (.aconst_null, 1) := by decide +kernel
theorem dX7_fieldAt_24 : decode cX7_fieldAt 24 = .ok (.areturn, 1) := by decide +kernel
theorem dX7_house_0 : decode cX7_house 0 = .ok (.iload_n 1, 1) := by decide +kernel
theorem dX7_house_1 : decode cX7_house 1 = .ok (.iconst 1, 1) := by decide +kernel
theorem dX7_house_2 : decode cX7_house 2 = .ok (.if_icmp .lt 18, 3) := by decide +kernel
theorem dX7_house_5 : decode cX7_house 5 = .ok (.iload_n 1, 1) := by decide +kernel
theorem dX7_house_6 : decode cX7_house 6 = .ok (.bipush 9, 2) := by decide +kernel
theorem dX7_house_8 : decode cX7_house 8 = .ok (.if_icmp .gt 12, 3) := by decide +kernel
theorem dX7_house_11 : decode cX7_house 11 = .ok (.aload_n 0, 1) := by decide +kernel
theorem dX7_house_12 : decode cX7_house 12 = .ok (.getfield 62, 3) := by decide +kernel
theorem dX7_house_15 : decode cX7_house 15 = .ok (.bipush 8, 2) := by decide +kernel
theorem dX7_house_17 : decode cX7_house 17 = .ok (.if_icmp .lt 5, 3) := by decide +kernel
theorem dX7_house_20 : decode cX7_house 20 = .ok (.iconst (-1), 1) := by decide +kernel
theorem dX7_house_21 : decode cX7_house 21 = .ok (.ireturn, 1) := by decide +kernel
theorem dX7_house_22 : decode cX7_house 22 = .ok (.aload_n 0, 1) := by decide +kernel
theorem dX7_house_23 : decode cX7_house 23 = .ok (.getfield 11, 3) := by decide +kernel
theorem dX7_house_26 : decode cX7_house 26 = .ok (.aload_n 0, 1) := by decide +kernel
theorem dX7_house_27 : decode cX7_house 27 = .ok (.getfield 62, 3) := by decide +kernel
theorem dX7_house_30 : decode cX7_house 30 = .ok (.aaload, 1) := by decide +kernel
theorem dX7_house_31 : decode cX7_house 31 = .ok (.astore_n 3, 1) := by decide +kernel
theorem dX7_house_32 : decode cX7_house 32 = .ok (.aload_n 3, 1) := by decide +kernel
theorem dX7_house_33 : decode cX7_house 33 = .ok (.iload_n 1, 1) := by decide +kernel
theorem dX7_house_34 : decode cX7_house 34 = .ok (.putfield 66, 3) := by decide +kernel
theorem dX7_house_37 : decode cX7_house 37 = .ok (.aload_n 3, 1) := by decide +kernel
theorem dX7_house_38 : decode cX7_house 38 = .ok (.iload_n 2, 1) := by decide +kernel
theorem dX7_house_39 : decode cX7_house 39 = .ok (.putfield 69, 3) := by decide +kernel
theorem dX7_house_42 : decode cX7_house 42 = .ok (.aload_n 0, 1) := by decide +kernel
theorem dX7_house_43 : decode cX7_house 43 = .ok (.dup, 1) := by decide +kernel
theorem dX7_house_44 : decode cX7_house 44 = .ok (.getfield 62, 3) := by decide +kernel
theorem dX7_house_47 : decode cX7_house 47 = .ok (.iconst 1, 1) := by decide +kernel
theorem dX7_house_48 : decode cX7_house 48 = .ok (.iadd, 1) := by decide +kernel
theorem dX7_house_49 : decode cX7_house 49 = .ok (.putfield 62, 3) := by decide +kernel
theorem dX7_house_52 : decode cX7_house 52 = .ok (.aload_n 0, 1) := by decide +kernel
theorem dX7_house_53 : decode cX7_house 53 = .ok (.getfield 62, 3) := by decide +kernel
theorem dX7_house_56 : decode cX7_house 56 = .ok (.iconst 1, 1) := by decide +kernel
theorem dX7_house_57 : decode cX7_house 57 = .ok (.isub, 1) := by decide +kernel
theorem dX7_house_58 : decode cX7_house 58 = .ok (.ireturn, 1) := by decide +kernel
theorem dX7_field_0 : decode cX7_field 0 = .ok (.aload_n 0, 1) := by decide +kernel
theorem dX7_field_1 : decode cX7_field 1 = .ok (.iload_n 1, 1) := by decide +kernel
theorem dX7_field_2 : decode cX7_field 2 = .ok (.invokevirtual 73, 3) := by decide +kernel
theorem dX7_field_5 : decode cX7_field 5 = .ok (.ifnull 12, 3) := by decide +kernel
theorem dX7_field_17 : decode cX7_field 17 = .ok (.iconst (-1), 1) := by decide +kernel
theorem dX7_field_18 : decode cX7_field 18 = .ok (.ireturn, 1) := by decide +kernel
theorem dX7_loss_0 : decode cX7_loss 0 = .ok (.iload_n 1, 1) := by decide +kernel
theorem dX7_loss_1 : decode cX7_loss 1 = .ok (.iconst 0, 1) := by decide +kernel
theorem dX7_loss_2 : decode cX7_loss 2 = .ok (.bipush 9, 2) := by decide +kernel
theorem dX7_loss_4 : decode cX7_loss 4 = .ok (.invokestatic 80, 3) := by decide +kernel
theorem dX7_loss_7 : decode cX7_loss 7 = .ok (.ifCond .eq 13, 3) := by decide +kernel
theorem dX7_loss_10 : decode cX7_loss 10 = .ok (.iload_n 2, 1) := by decide +kernel
theorem dX7_loss_11 : decode cX7_loss 11 = .ok (.iconst 0, 1) := by decide +kernel
theorem dX7_loss_12 : decode cX7_loss 12 = .ok (.bipush 100, 2) := by decide +kernel
theorem dX7_loss_14 : decode cX7_loss 14 = .ok (.invokestatic 80, 3) := by decide +kernel
theorem dX7_loss_17 : decode cX7_loss 17 = .ok (.ifCond .ne 5, 3) := by decide +kernel
theorem dX7_loss_20 : decode cX7_loss 20 = .ok (.iconst 0, 1) := by decide +kernel
theorem dX7_loss_21 : decode cX7_loss 21 = .ok (.ireturn, 1) := by decide +kernel
theorem dX7_loss_22 : decode cX7_loss 22 = .ok (.aload_n 0, 1) := by decide +kernel
theorem dX7_loss_23 : decode cX7_loss 23 = .ok (.getfield 23, 3) := by decide +kernel
theorem dX7_loss_26 : decode cX7_loss 26 = .ok (.iload_n 1, 1) := by decide +kernel
theorem dX7_loss_27 : decode cX7_loss 27 = .ok (.iload_n 2, 1) := by decide +kernel
theorem dX7_loss_28 : decode cX7_loss 28 = .ok (.iastore, 1) := by decide +kernel
theorem dX7_loss_29 : decode cX7_loss 29 = .ok (.iconst 1, 1) := by decide +kernel
theorem dX7_loss_30 : decode cX7_loss 30 = .ok (.ireturn, 1) := by decide +kernel
theorem dX6_append_0 : decode cX6_append 0 = .ok (.bipush 24, 2) := by decide +kernel
theorem dX6_append_2 : decode cX6_append 2 = .ok (.istore_n 2, 1) := by decide +kernel
theorem dX6_append_3 : decode cX6_append 3 = .ok (.iload_n 2, 1) := by decide +kernel
theorem dX6_append_4 : decode cX6_append 4 = .ok (.ifCond .lt 45, 3) := by decide +kernel
theorem dX6_append_7 : decode cX6_append 7 = .ok (.aload_n 0, 1) := by decide +kernel
theorem dX6_append_8 : decode cX6_append 8 = .ok (.getfield 15, 3) := by decide +kernel
theorem dX6_append_11 : decode cX6_append 11 = .ok (.sipush 200, 3) := by decide +kernel
theorem dX6_append_14 : decode cX6_append 14 = .ok (.if_icmp .ge 35, 3) := by decide +kernel
theorem dX6_append_17 : decode cX6_append 17 = .ok (.aload_n 0, 1) := by decide +kernel
theorem dX6_append_18 : decode cX6_append 18 = .ok (.getfield 9, 3) := by decide +kernel
theorem dX6_append_21 : decode cX6_append 21 = .ok (.aload_n 0, 1) := by decide +kernel
theorem dX6_append_22 : decode cX6_append 22 = .ok (.getfield 15, 3) := by decide +kernel
theorem dX6_append_25 : decode cX6_append 25 = .ok (.iload_n 1, 1) := by decide +kernel
theorem dX6_append_26 : decode cX6_append 26 = .ok (.iload_n 2, 1) := by decide +kernel
theorem dX6_append_27 : decode cX6_append 27 = .ok (.iushr, 1) := by decide +kernel
theorem dX6_append_28 : decode cX6_append 28 = .ok (.sipush 255, 3) := by decide +kernel
theorem dX6_append_31 : decode cX6_append 31 = .ok (.iand, 1) := by decide +kernel
theorem dX6_append_32 : decode cX6_append 32 = .ok (.iastore, 1) := by decide +kernel
theorem dX6_append_33 : decode cX6_append 33 = .ok (.aload_n 0, 1) := by decide +kernel
theorem dX6_append_34 : decode cX6_append 34 = .ok (.dup, 1) := by decide +kernel
theorem dX6_append_35 : decode cX6_append 35 = .ok (.getfield 15, 3) := by decide +kernel
theorem dX6_append_38 : decode cX6_append 38 = .ok (.iconst 1, 1) := by decide +kernel
theorem dX6_append_39 : decode cX6_append 39 = .ok (.iadd, 1) := by decide +kernel
theorem dX6_append_40 : decode cX6_append 40 = .ok (.putfield 15, 3) := by decide +kernel
theorem dX6_append_43 : decode cX6_append 43 = .ok (.iinc 2 (-8), 3) := by decide +kernel
theorem dX6_append_46 : decode cX6_append 46 = .ok (.goto (-43), 3) := by decide +kernel
theorem dX6_append_49 : decode cX6_append 49 = .ok (.return_, 1) := by decide +kernel
theorem dX7_feed_0 : decode cX7_feed 0 = .ok (.aload_n 0, 1) := by decide +kernel
theorem dX7_feed_1 : decode cX7_feed 1 = .ok (.getfield 30, 3) := by decide +kernel
theorem dX7_feed_4 : decode cX7_feed 4 = .ok (.getfield 99, 3) := by decide +kernel
theorem dX7_feed_7 : decode cX7_feed 7 = .ok (.sipush 180, 3) := by decide +kernel
theorem dX7_feed_10 : decode cX7_feed 10 = .ok (.if_icmp .le 5, 3) := by decide +kernel
theorem dX7_feed_15 : decode cX7_feed 15 = .ok (.aload_n 0, 1) := by decide +kernel
theorem dX7_feed_16 : decode cX7_feed 16 = .ok (.getfield 30, 3) := by decide +kernel
theorem dX7_feed_19 : decode cX7_feed 19 = .ok (.iload_n 1, 1) := by decide +kernel
theorem dX7_feed_20 : decode cX7_feed 20 = .ok (.invokevirtual 102, 3) := by decide +kernel
theorem dX7_feed_23 : decode cX7_feed 23 = .ok (.aload_n 0, 1) := by decide +kernel
theorem dX7_feed_24 : decode cX7_feed 24 = .ok (.getfield 30, 3) := by decide +kernel
theorem dX7_feed_27 : decode cX7_feed 27 = .ok (.iload_n 2, 1) := by decide +kernel
theorem dX7_feed_28 : decode cX7_feed 28 = .ok (.invokevirtual 102, 3) := by decide +kernel
theorem dX7_feed_31 : decode cX7_feed 31 = .ok (.aload_n 0, 1) := by decide +kernel
theorem dX7_feed_32 : decode cX7_feed 32 = .ok (.getfield 30, 3) := by decide +kernel
theorem dX7_feed_35 : decode cX7_feed 35 = .ok (.iload_n 3, 1) := by decide +kernel
theorem dX7_feed_36 : decode cX7_feed 36 = .ok (.invokevirtual 102, 3) := by decide +kernel
theorem dX7_feed_39 : decode cX7_feed 39 = .ok (.aload_n 0, 1) := by decide +kernel
theorem dX7_feed_40 : decode cX7_feed 40 = .ok (.getfield 30, 3) := by decide +kernel
theorem dX7_feed_43 : decode cX7_feed 43 = .ok (.iload 4, 2) := by decide +kernel
theorem dX7_feed_45 : decode cX7_feed 45 = .ok (.invokevirtual 102, 3) := by decide +kernel
theorem dX7_feed_48 : decode cX7_feed 48 = .ok (.aload_n 0, 1) := by decide +kernel
theorem dX7_feed_49 : decode cX7_feed 49 = .ok (.getfield 30, 3) := by decide +kernel
theorem dX7_feed_52 : decode cX7_feed 52 = .ok (.iload 5, 2) := by decide +kernel
theorem dX7_feed_54 : decode cX7_feed 54 = .ok (.invokevirtual 102, 3) := by decide +kernel
theorem dX7_feed_57 : decode cX7_feed 57 = .ok (.aload_n 0, 1) := by decide +kernel
theorem dX7_feed_58 : decode cX7_feed 58 = .ok (.getfield 30, 3) := by decide +kernel
theorem dX7_feed_61 : decode cX7_feed 61 = .ok (.getfield 99, 3) := by decide +kernel
theorem dX7_feed_64 : decode cX7_feed 64 = .ok (.ireturn, 1) := by decide +kernel
theorem dX7_end_0 : decode cX7_end 0 = .ok (.iload_n 1, 1) := by decide +kernel
theorem dX7_end_1 : decode cX7_end 1 = .ok (.iconst 0, 1) := by decide +kernel
theorem dX7_end_2 : decode cX7_end 2 = .ok (.aload_n 0, 1) := by decide +kernel
theorem dX7_end_3 : decode cX7_end 3 = .ok (.getfield 30, 3) := by decide +kernel
theorem dX7_end_6 : decode cX7_end 6 = .ok (.getfield 99, 3) := by decide +kernel
theorem dX7_end_9 : decode cX7_end 9 = .ok (.invokestatic 80, 3) := by decide +kernel
theorem dX7_end_12 : decode cX7_end 12 = .ok (.ifCond .ne 5, 3) := by decide +kernel
theorem dX7_end_15 : decode cX7_end 15 = .ok (.iconst (-1), 1) := by decide +kernel
theorem dX7_end_16 : decode cX7_end 16 = .ok (.ireturn, 1) := by decide +kernel
theorem dX7_end_17 : decode cX7_end 17 = .ok (.aload_n 0, 1) := by decide +kernel
theorem dX7_end_18 : decode cX7_end 18 = .ok (.getfield 30, 3) := by decide +kernel
theorem dX7_end_21 : decode cX7_end 21 = .ok (.iload_n 1, 1) := by decide +kernel
theorem dX7_end_22 : decode cX7_end 22 = .ok (.putfield 99, 3) := by decide +kernel
theorem dX7_end_25 : decode cX7_end 25 = .ok (.iload_n 1, 1) := by decide +kernel
theorem dX7_end_26 : decode cX7_end 26 = .ok (.ireturn, 1) := by decide +kernel
theorem dX0_read_0 : decode cX0_read 0 = .ok (.getstatic 25, 3) := by decide +kernel
theorem dX0_read_3 : decode cX0_read 3 = .ok (.iconst 0, 1) := by decide +kernel
theorem dX0_read_4 : decode cX0_read 4 = .ok (.aload_n 0, 1) := by decide +kernel
theorem dX0_read_5 : decode cX0_read 5 = .ok (.getfield 15, 3) := by decide +kernel
theorem dX0_read_8 : decode cX0_read 8 = .ok (.iconst 0, 1) := by decide +kernel
theorem dX0_read_9 : decode cX0_read 9 = .ok (.bipush 7, 2) := by decide +kernel
theorem dX0_read_11 : decode cX0_read 11 = .ok (.invokestatic 28, 3) := by decide +kernel
theorem dX0_read_14 : decode cX0_read 14 = .ok (.aload_n 0, 1) := by decide +kernel
theorem dX0_read_15 : decode cX0_read 15 = .ok (.iconst 0, 1) := by decide +kernel
theorem dX0_read_16 : decode cX0_read 16 = .ok (.putfield 18, 3) := by decide +kernel
theorem dX0_read_19 : decode cX0_read 19 = .ok (.aload_n 0, 1) := by decide +kernel
theorem dX0_read_20 : decode cX0_read 20 = .ok (.iconst (-1), 1) := by decide +kernel
theorem dX0_read_21 : decode cX0_read 21 = .ok (.putfield 22, 3) := by decide +kernel
theorem dX0_read_24 : decode cX0_read 24 = .ok (.aload_n 0, 1) := by decide +kernel
theorem dX0_read_25 : decode cX0_read 25 = .ok (.iconst 1, 1) := by decide +kernel
theorem dX0_read_26 : decode cX0_read 26 = .ok (.putfield 34, 3) := by decide +kernel
theorem dX0_read_29 : decode cX0_read 29 = .ok (.aload_n 0, 1) := by decide +kernel
theorem dX0_read_30 : decode cX0_read 30 = .ok (.iconst (-1), 1) := by decide +kernel
theorem dX0_read_31 : decode cX0_read 31 = .ok (.putfield 37, 3) := by decide +kernel
theorem dX0_read_34 : decode cX0_read 34 = .ok (.aload_n 0, 1) := by decide +kernel
theorem dX0_read_35 : decode cX0_read 35 = .ok (.iconst 0, 1) := by decide +kernel
theorem dX0_read_36 : decode cX0_read 36 = .ok (.putfield 40, 3) := by decide +kernel
theorem dX0_read_39 : decode cX0_read 39 = .ok (.aload_n 0, 1) := by decide +kernel
theorem dX0_read_40 : decode cX0_read 40 = .ok (.iconst 0, 1) := by decide +kernel
theorem dX0_read_41 : decode cX0_read 41 = .ok (.putfield 43, 3) := by decide +kernel
theorem dX0_read_44 : decode cX0_read 44 = .ok (.iconst 0, 1) := by decide +kernel
theorem dX0_read_45 : decode cX0_read 45 = .ok (.istore_n 2, 1) := by decide +kernel
theorem dX0_read_46 : decode cX0_read 46 = .ok (.iload_n 2, 1) := by decide +kernel
theorem dX0_read_47 : decode cX0_read 47 = .ok (.aload_n 1, 1) := by decide +kernel
theorem dX0_read_48 : decode cX0_read 48 = .ok (.getfield 46, 3) := by decide +kernel
theorem dX0_read_51 : decode cX0_read 51 = .ok (.if_icmp .ge 35, 3) := by decide +kernel
theorem dX0_read_86 : decode cX0_read 86 = .ok (.aload_n 0, 1) := by decide +kernel
theorem dX0_read_87 : decode cX0_read 87 = .ok (.getfield 18, 3) := by decide +kernel
theorem dX0_read_90 : decode cX0_read 90 = .ok (.ifCond .ne 20, 3) := by decide +kernel
theorem dX0_read_93 : decode cX0_read 93 = .ok (.aload_n 0, 1) := by decide +kernel
theorem dX0_read_94 : decode cX0_read 94 = .ok (.getfield 34, 3) := by decide +kernel
theorem dX0_read_97 : decode cX0_read 97 = .ok (.iconst 1, 1) := by decide +kernel
theorem dX0_read_98 : decode cX0_read 98 = .ok (.if_icmp .eq 12, 3) := by decide +kernel
theorem dX0_read_110 : decode cX0_read 110 = .ok (.aload_n 0, 1) := by decide +kernel
theorem dX0_read_111 : decode cX0_read 111 = .ok (.getfield 18, 3) := by decide +kernel
theorem dX0_read_114 : decode cX0_read 114 = .ok (.ifCond .eq 5, 3) := by decide +kernel
theorem dX0_read_119 : decode cX0_read 119 = .ok (.aload_n 0, 1) := by decide +kernel
theorem dX0_read_120 : decode cX0_read 120 = .ok (.getfield 15, 3) := by decide +kernel
theorem dX0_read_123 : decode cX0_read 123 = .ok (.iconst 0, 1) := by decide +kernel
theorem dX0_read_124 : decode cX0_read 124 = .ok (.aload_n 0, 1) := by decide +kernel
theorem dX0_read_125 : decode cX0_read 125 = .ok (.getfield 9, 3) := by decide +kernel
theorem dX0_read_128 : decode cX0_read 128 = .ok (.iconst 0, 1) := by decide +kernel
theorem dX0_read_129 : decode cX0_read 129 = .ok (.bipush 7, 2) := by decide +kernel
theorem dX0_read_131 : decode cX0_read 131 = .ok (.invokestatic 28, 3) := by decide +kernel
theorem dX0_read_134 : decode cX0_read 134 = .ok (.aload_n 0, 1) := by decide +kernel
theorem dX0_read_135 : decode cX0_read 135 = .ok (.getfield 43, 3) := by decide +kernel
theorem dX0_read_138 : decode cX0_read 138 = .ok (.ireturn, 1) := by decide +kernel
theorem dX7_custom_0 : decode cX7_custom 0 = .ok (.aload_n 0, 1) := by decide +kernel
theorem dX7_custom_1 : decode cX7_custom 1 = .ok (.getfield 37, 3) := by decide +kernel
theorem dX7_custom_4 : decode cX7_custom 4 = .ok (.aload_n 0, 1) := by decide +kernel
theorem dX7_custom_5 : decode cX7_custom 5 = .ok (.getfield 30, 3) := by decide +kernel
theorem dX7_custom_8 : decode cX7_custom 8 = .ok (.invokevirtual 106, 3) := by decide +kernel
theorem dX7_custom_11 : decode cX7_custom 11 = .ok (.istore_n 1, 1) := by decide +kernel
theorem dX7_custom_12 : decode cX7_custom 12 = .ok (.aload_n 0, 1) := by decide +kernel
theorem dX7_custom_13 : decode cX7_custom 13 = .ok (.getfield 30, 3) := by decide +kernel
theorem dX7_custom_16 : decode cX7_custom 16 = .ok (.iconst 0, 1) := by decide +kernel
theorem dX7_custom_17 : decode cX7_custom 17 = .ok (.putfield 99, 3) := by decide +kernel
theorem dX7_custom_20 : decode cX7_custom 20 = .ok (.iload_n 1, 1) := by decide +kernel
theorem dX7_custom_21 : decode cX7_custom 21 = .ok (.ireturn, 1) := by decide +kernel
theorem dX7_fault_0 : decode cX7_fault 0 = .ok (.iload_n 1, 1) := by decide +kernel
theorem dX7_fault_1 : decode cX7_fault 1 = .ok (.lookupswitch 43 #[(0, 27), (1, 35)], 27) := by decide +kernel
theorem dX7_fault_28 : decode cX7_fault 28 = .ok (.aload_n 0, 1) := by decide +kernel
theorem dX7_fault_29 : decode cX7_fault 29 = .ok (.getfield 37, 3) := by decide +kernel
theorem dX7_fault_32 : decode cX7_fault 32 = .ok (.getfield 110, 3) := by decide +kernel
theorem dX7_fault_35 : decode cX7_fault 35 = .ok (.ireturn, 1) := by decide +kernel
theorem dX7_fault_36 : decode cX7_fault 36 = .ok (.aload_n 0, 1) := by decide +kernel
theorem dX7_fault_37 : decode cX7_fault 37 = .ok (.getfield 37, 3) := by decide +kernel
theorem dX7_fault_40 : decode cX7_fault 40 = .ok (.getfield 113, 3) := by decide +kernel
theorem dX7_fault_43 : decode cX7_fault 43 = .ok (.ireturn, 1) := by decide +kernel
theorem dX7_fault_44 : decode cX7_fault 44 = .ok (.iconst (-1), 1) := by decide +kernel
theorem dX7_fault_45 : decode cX7_fault 45 = .ok (.ireturn, 1) := by decide +kernel
theorem dX7_says_0 : decode cX7_says 0 = .ok (.iload_n 1, 1) := by decide +kernel
theorem dX7_says_1 : decode cX7_says 1 = .ok (.iconst 0, 1) := by decide +kernel
theorem dX7_says_2 : decode cX7_says 2 = .ok (.bipush 6, 2) := by decide +kernel
theorem dX7_says_4 : decode cX7_says 4 = .ok (.invokestatic 80, 3) := by decide +kernel
theorem dX7_says_7 : decode cX7_says 7 = .ok (.ifCond .eq 15, 3) := by decide +kernel
theorem dX7_says_10 : decode cX7_says 10 = .ok (.aload_n 0, 1) := by decide +kernel
theorem dX7_says_11 : decode cX7_says 11 = .ok (.getfield 37, 3) := by decide +kernel
theorem dX7_says_14 : decode cX7_says 14 = .ok (.getfield 116, 3) := by decide +kernel
theorem dX7_says_17 : decode cX7_says 17 = .ok (.iload_n 1, 1) := by decide +kernel
theorem dX7_says_18 : decode cX7_says 18 = .ok (.iaload, 1) := by decide +kernel
theorem dX7_says_19 : decode cX7_says 19 = .ok (.goto 4, 3) := by decide +kernel
theorem dX7_says_22 : decode cX7_says 22 = .ok (.iconst (-1), 1) := by decide +kernel
theorem dX7_says_23 : decode cX7_says 23 = .ok (.ireturn, 1) := by decide +kernel
theorem dX7_ill_0 : decode cX7_ill 0 = .ok (.aload_n 0, 1) := by decide +kernel
theorem dX7_ill_1 : decode cX7_ill 1 = .ok (.iload_n 1, 1) := by decide +kernel
theorem dX7_ill_2 : decode cX7_ill 2 = .ok (.invokevirtual 73, 3) := by decide +kernel
theorem dX7_ill_5 : decode cX7_ill 5 = .ok (.astore_n 3, 1) := by decide +kernel
theorem dX7_ill_6 : decode cX7_ill 6 = .ok (.aload_n 3, 1) := by decide +kernel
theorem dX7_ill_7 : decode cX7_ill 7 = .ok (.ifnull 14, 3) := by decide +kernel
theorem dX7_ill_21 : decode cX7_ill 21 = .ok (.iconst 0, 1) := by decide +kernel
theorem dX7_ill_22 : decode cX7_ill 22 = .ok (.ireturn, 1) := by decide +kernel
theorem dX7_work_0 : decode cX7_work 0 = .ok (.aload_n 0, 1) := by decide +kernel
theorem dX7_work_1 : decode cX7_work 1 = .ok (.iload_n 1, 1) := by decide +kernel
theorem dX7_work_2 : decode cX7_work 2 = .ok (.invokevirtual 73, 3) := by decide +kernel
theorem dX7_work_5 : decode cX7_work 5 = .ok (.astore 4, 2) := by decide +kernel
theorem dX7_work_7 : decode cX7_work 7 = .ok (.aload_n 0, 1) := by decide +kernel
theorem dX7_work_8 : decode cX7_work 8 = .ok (.iload_n 2, 1) := by decide +kernel
theorem dX7_work_9 : decode cX7_work 9 = .ok (.invokevirtual 122, 3) := by decide +kernel
theorem dX7_work_12 : decode cX7_work 12 = .ok (.astore 5, 2) := by decide +kernel
theorem dX7_work_14 : decode cX7_work 14 = .ok (.aload 4, 2) := by decide +kernel
theorem dX7_work_16 : decode cX7_work 16 = .ok (.ifnull 21, 3) := by decide +kernel
theorem dX7_work_37 : decode cX7_work 37 = .ok (.iconst (-1), 1) := by decide +kernel
theorem dX7_work_38 : decode cX7_work 38 = .ok (.ireturn, 1) := by decide +kernel
theorem dX7_hire_0 : decode cX7_hire 0 = .ok (.aload_n 0, 1) := by decide +kernel
theorem dX7_hire_1 : decode cX7_hire 1 = .ok (.iload_n 1, 1) := by decide +kernel
theorem dX7_hire_2 : decode cX7_hire 2 = .ok (.invokevirtual 122, 3) := by decide +kernel
theorem dX7_hire_5 : decode cX7_hire 5 = .ok (.astore_n 3, 1) := by decide +kernel
theorem dX7_hire_6 : decode cX7_hire 6 = .ok (.aload_n 3, 1) := by decide +kernel
theorem dX7_hire_7 : decode cX7_hire 7 = .ok (.ifnull 26, 3) := by decide +kernel
theorem dX7_hire_33 : decode cX7_hire 33 = .ok (.iconst (-1), 1) := by decide +kernel
theorem dX7_hire_34 : decode cX7_hire 34 = .ok (.ireturn, 1) := by decide +kernel
theorem dX7_houseOf_0 : decode cX7_houseOf 0 = .ok (.aload_n 0, 1) := by decide +kernel
theorem dX7_houseOf_1 : decode cX7_houseOf 1 = .ok (.iload_n 1, 1) := by decide +kernel
theorem dX7_houseOf_2 : decode cX7_houseOf 2 = .ok (.invokevirtual 73, 3) := by decide +kernel
theorem dX7_houseOf_5 : decode cX7_houseOf 5 = .ok (.astore_n 3, 1) := by decide +kernel
theorem dX7_houseOf_6 : decode cX7_houseOf 6 = .ok (.aload_n 3, 1) := by decide +kernel
theorem dX7_houseOf_7 : decode cX7_houseOf 7 = .ok (.ifnonnull 6, 3) := by decide +kernel
theorem dX7_houseOf_10 : decode cX7_houseOf 10 = .ok (.ldc 160, 2) := by decide +kernel
theorem dX7_houseOf_12 : decode cX7_houseOf 12 = .ok (.ireturn, 1) := by decide +kernel
theorem dX7_fieldOf_0 : decode cX7_fieldOf 0 = .ok (.aload_n 0, 1) := by decide +kernel
theorem dX7_fieldOf_1 : decode cX7_fieldOf 1 = .ok (.iload_n 1, 1) := by decide +kernel
theorem dX7_fieldOf_2 : decode cX7_fieldOf 2 = .ok (.invokevirtual 122, 3) := by decide +kernel
theorem dX7_fieldOf_5 : decode cX7_fieldOf 5 = .ok (.astore_n 3, 1) := by decide +kernel
theorem dX7_fieldOf_6 : decode cX7_fieldOf 6 = .ok (.aload_n 3, 1) := by decide +kernel
theorem dX7_fieldOf_7 : decode cX7_fieldOf 7 = .ok (.ifnonnull 5, 3) := by decide +kernel
theorem dX7_fieldOf_10 : decode cX7_fieldOf 10 = .ok (.iconst (-1), 1) := by decide +kernel
theorem dX7_fieldOf_11 : decode cX7_fieldOf 11 = .ok (.ireturn, 1) := by decide +kernel
theorem dX7_areTwoHouses_0 : decode cX7_areTwoHouses 0 = .ok (.iload_n 1, 1) := by decide +kernel
theorem dX7_areTwoHouses_1 : decode cX7_areTwoHouses 1 = .ok (.iload_n 2, 1) := by decide +kernel
theorem dX7_areTwoHouses_2 : decode cX7_areTwoHouses 2 = .ok (.if_icmp .eq 23, 3) := by decide +kernel
theorem dX7_areTwoHouses_5 : decode cX7_areTwoHouses 5 = .ok (.aload_n 0, 1) := by decide +kernel
theorem dX7_areTwoHouses_6 : decode cX7_areTwoHouses 6 = .ok (.iload_n 1, 1) := by decide +kernel
theorem dX7_areTwoHouses_7 : decode cX7_areTwoHouses 7 = .ok (.invokevirtual 73, 3) := by decide +kernel
theorem dX7_areTwoHouses_10 : decode cX7_areTwoHouses 10 = .ok (.ifnull 15, 3) := by decide +kernel
theorem dX7_areTwoHouses_25 : decode cX7_areTwoHouses 25 = .ok (.iconst 0, 1) := by decide +kernel
theorem dX7_areTwoHouses_26 : decode cX7_areTwoHouses 26 = .ok (.ireturn, 1) := by decide +kernel
theorem dX7_owes_0 : decode cX7_owes 0 = .ok (.aload_n 0, 1) := by decide +kernel
theorem dX7_owes_1 : decode cX7_owes 1 = .ok (.iload_n 1, 1) := by decide +kernel
theorem dX7_owes_2 : decode cX7_owes 2 = .ok (.iload_n 2, 1) := by decide +kernel
theorem dX7_owes_3 : decode cX7_owes 3 = .ok (.invokevirtual 181, 3) := by decide +kernel
theorem dX7_owes_6 : decode cX7_owes 6 = .ok (.ifCond .eq 15, 3) := by decide +kernel
theorem dX7_owes_21 : decode cX7_owes 21 = .ok (.iconst (-1), 1) := by decide +kernel
theorem dX7_owes_22 : decode cX7_owes 22 = .ok (.ireturn, 1) := by decide +kernel
theorem dX7_oldest_0 : decode cX7_oldest 0 = .ok (.aload_n 0, 1) := by decide +kernel
theorem dX7_oldest_1 : decode cX7_oldest 1 = .ok (.iload_n 1, 1) := by decide +kernel
theorem dX7_oldest_2 : decode cX7_oldest 2 = .ok (.iload_n 2, 1) := by decide +kernel
theorem dX7_oldest_3 : decode cX7_oldest 3 = .ok (.invokevirtual 181, 3) := by decide +kernel
theorem dX7_oldest_6 : decode cX7_oldest 6 = .ok (.ifCond .eq 15, 3) := by decide +kernel
theorem dX7_oldest_21 : decode cX7_oldest 21 = .ok (.iconst (-1), 1) := by decide +kernel
theorem dX7_oldest_22 : decode cX7_oldest 22 = .ok (.ireturn, 1) := by decide +kernel
theorem dX2_takeNets_0 : decode cX2_takeNets 0 = .ok (.iconst 0, 1) := by decide +kernel
theorem dX2_takeNets_1 : decode cX2_takeNets 1 = .ok (.istore_n 2, 1) := by decide +kernel
theorem dX2_takeNets_2 : decode cX2_takeNets 2 = .ok (.iconst 0, 1) := by decide +kernel
theorem dX2_takeNets_3 : decode cX2_takeNets 3 = .ok (.istore_n 3, 1) := by decide +kernel
theorem dX2_takeNets_4 : decode cX2_takeNets 4 = .ok (.iload_n 3, 1) := by decide +kernel
theorem dX2_takeNets_5 : decode cX2_takeNets 5 = .ok (.bipush 8, 2) := by decide +kernel
theorem dX2_takeNets_7 : decode cX2_takeNets 7 = .ok (.if_icmp .ge 16, 3) := by decide +kernel
theorem dX2_takeNets_10 : decode cX2_takeNets 10 = .ok (.aload_n 0, 1) := by decide +kernel
theorem dX2_takeNets_11 : decode cX2_takeNets 11 = .ok (.getfield 15, 3) := by decide +kernel
theorem dX2_takeNets_14 : decode cX2_takeNets 14 = .ok (.iload_n 3, 1) := by decide +kernel
theorem dX2_takeNets_15 : decode cX2_takeNets 15 = .ok (.iconst 0, 1) := by decide +kernel
theorem dX2_takeNets_16 : decode cX2_takeNets 16 = .ok (.iastore, 1) := by decide +kernel
theorem dX2_takeNets_17 : decode cX2_takeNets 17 = .ok (.iinc 3 1, 3) := by decide +kernel
theorem dX2_takeNets_20 : decode cX2_takeNets 20 = .ok (.goto (-16), 3) := by decide +kernel
theorem dX2_takeNets_23 : decode cX2_takeNets 23 = .ok (.iconst 0, 1) := by decide +kernel
theorem dX2_takeNets_24 : decode cX2_takeNets 24 = .ok (.istore_n 3, 1) := by decide +kernel
theorem dX2_takeNets_25 : decode cX2_takeNets 25 = .ok (.iload_n 3, 1) := by decide +kernel
theorem dX2_takeNets_26 : decode cX2_takeNets 26 = .ok (.aload_n 1, 1) := by decide +kernel
theorem dX2_takeNets_27 : decode cX2_takeNets 27 = .ok (.getfield 43, 3) := by decide +kernel
theorem dX2_takeNets_30 : decode cX2_takeNets 30 = .ok (.if_icmp .ge 79, 3) := by decide +kernel
theorem dX2_takeNets_109 : decode cX2_takeNets 109 = .ok (.iconst 0, 1) := by decide +kernel
theorem dX2_takeNets_110 : decode cX2_takeNets 110 = .ok (.istore_n 3, 1) := by decide +kernel
theorem dX2_takeNets_111 : decode cX2_takeNets 111 = .ok (.iload_n 3, 1) := by decide +kernel
theorem dX2_takeNets_112 : decode cX2_takeNets 112 = .ok (.bipush 8, 2) := by decide +kernel
theorem dX2_takeNets_114 : decode cX2_takeNets 114 = .ok (.if_icmp .ge 38, 3) := by decide +kernel
theorem dX2_takeNets_117 : decode cX2_takeNets 117 = .ok (.aload_n 0, 1) := by decide +kernel
theorem dX2_takeNets_118 : decode cX2_takeNets 118 = .ok (.getfield 9, 3) := by decide +kernel
theorem dX2_takeNets_121 : decode cX2_takeNets 121 = .ok (.iload_n 3, 1) := by decide +kernel
theorem dX2_takeNets_122 : decode cX2_takeNets 122 = .ok (.iaload, 1) := by decide +kernel
theorem dX2_takeNets_123 : decode cX2_takeNets 123 = .ok (.aload_n 0, 1) := by decide +kernel
theorem dX2_takeNets_124 : decode cX2_takeNets 124 = .ok (.getfield 15, 3) := by decide +kernel
theorem dX2_takeNets_127 : decode cX2_takeNets 127 = .ok (.iload_n 3, 1) := by decide +kernel
theorem dX2_takeNets_128 : decode cX2_takeNets 128 = .ok (.iaload, 1) := by decide +kernel
theorem dX2_takeNets_129 : decode cX2_takeNets 129 = .ok (.if_icmp .eq 17, 3) := by decide +kernel
theorem dX2_takeNets_146 : decode cX2_takeNets 146 = .ok (.iinc 3 1, 3) := by decide +kernel
theorem dX2_takeNets_149 : decode cX2_takeNets 149 = .ok (.goto (-38), 3) := by decide +kernel
theorem dX2_takeNets_152 : decode cX2_takeNets 152 = .ok (.iload_n 2, 1) := by decide +kernel
theorem dX2_takeNets_153 : decode cX2_takeNets 153 = .ok (.ireturn, 1) := by decide +kernel
theorem dX2_tellFor_0 : decode cX2_tellFor 0 = .ok (.aload_n 0, 1) := by decide +kernel
theorem dX2_tellFor_1 : decode cX2_tellFor 1 = .ok (.aload_n 1, 1) := by decide +kernel
theorem dX2_tellFor_2 : decode cX2_tellFor 2 = .ok (.invokevirtual 36, 3) := by decide +kernel
theorem dX2_tellFor_5 : decode cX2_tellFor 5 = .ok (.ifCond .eq 7, 3) := by decide +kernel
theorem dX2_tellFor_12 : decode cX2_tellFor 12 = .ok (.return_, 1) := by decide +kernel
theorem dX7_payments_0 : decode cX7_payments 0 = .ok (.aload_n 0, 1) := by decide +kernel
theorem dX7_payments_1 : decode cX7_payments 1 = .ok (.getfield 51, 3) := by decide +kernel
theorem dX7_payments_4 : decode cX7_payments 4 = .ok (.aload_n 0, 1) := by decide +kernel
theorem dX7_payments_5 : decode cX7_payments 5 = .ok (.getfield 44, 3) := by decide +kernel
theorem dX7_payments_8 : decode cX7_payments 8 = .ok (.invokevirtual 191, 3) := by decide +kernel
theorem dX7_payments_11 : decode cX7_payments 11 = .ok (.aload_n 0, 1) := by decide +kernel
theorem dX7_payments_12 : decode cX7_payments 12 = .ok (.getfield 51, 3) := by decide +kernel
theorem dX7_payments_15 : decode cX7_payments 15 = .ok (.getfield 195, 3) := by decide +kernel
theorem dX7_payments_18 : decode cX7_payments 18 = .ok (.ireturn, 1) := by decide +kernel
theorem dX7_payment_0 : decode cX7_payment 0 = .ok (.aload_n 0, 1) := by decide +kernel
theorem dX7_payment_1 : decode cX7_payment 1 = .ok (.getfield 51, 3) := by decide +kernel
theorem dX7_payment_4 : decode cX7_payment 4 = .ok (.aload_n 0, 1) := by decide +kernel
theorem dX7_payment_5 : decode cX7_payment 5 = .ok (.getfield 44, 3) := by decide +kernel
theorem dX7_payment_8 : decode cX7_payment 8 = .ok (.invokevirtual 191, 3) := by decide +kernel
theorem dX7_payment_11 : decode cX7_payment 11 = .ok (.iload_n 1, 1) := by decide +kernel
theorem dX7_payment_12 : decode cX7_payment 12 = .ok (.iconst 0, 1) := by decide +kernel
theorem dX7_payment_13 : decode cX7_payment 13 = .ok (.aload_n 0, 1) := by decide +kernel
theorem dX7_payment_14 : decode cX7_payment 14 = .ok (.getfield 51, 3) := by decide +kernel
theorem dX7_payment_17 : decode cX7_payment 17 = .ok (.getfield 195, 3) := by decide +kernel
theorem dX7_payment_20 : decode cX7_payment 20 = .ok (.iconst 1, 1) := by decide +kernel
theorem dX7_payment_21 : decode cX7_payment 21 = .ok (.isub, 1) := by decide +kernel
theorem dX7_payment_22 : decode cX7_payment 22 = .ok (.invokestatic 80, 3) := by decide +kernel
theorem dX7_payment_25 : decode cX7_payment 25 = .ok (.ifCond .ne 5, 3) := by decide +kernel
theorem dX7_payment_28 : decode cX7_payment 28 = .ok (.iconst (-1), 1) := by decide +kernel
theorem dX7_payment_29 : decode cX7_payment 29 = .ok (.ireturn, 1) := by decide +kernel
theorem dX7_even_0 : decode cX7_even 0 = .ok (.aload_n 0, 1) := by decide +kernel
theorem dX7_even_1 : decode cX7_even 1 = .ok (.getfield 44, 3) := by decide +kernel
theorem dX7_even_4 : decode cX7_even 4 = .ok (.getfield 126, 3) := by decide +kernel
theorem dX7_even_7 : decode cX7_even 7 = .ok (.istore_n 1, 1) := by decide +kernel
theorem dX7_even_8 : decode cX7_even 8 = .ok (.aload_n 0, 1) := by decide +kernel
theorem dX7_even_9 : decode cX7_even 9 = .ok (.getfield 44, 3) := by decide +kernel
theorem dX7_even_12 : decode cX7_even 12 = .ok (.iconst 0, 1) := by decide +kernel
theorem dX7_even_13 : decode cX7_even 13 = .ok (.putfield 126, 3) := by decide +kernel
theorem dX7_even_16 : decode cX7_even 16 = .ok (.iload_n 1, 1) := by decide +kernel
theorem dX7_even_17 : decode cX7_even 17 = .ok (.ireturn, 1) := by decide +kernel
theorem dX7_waitingFields_0 : decode cX7_waitingFields 0 = .ok (.iconst 0, 1) := by decide +kernel
theorem dX7_waitingFields_1 : decode cX7_waitingFields 1 = .ok (.istore_n 1, 1) := by decide +kernel
theorem dX7_waitingFields_2 : decode cX7_waitingFields 2 = .ok (.iconst 0, 1) := by decide +kernel
theorem dX7_waitingFields_3 : decode cX7_waitingFields 3 = .ok (.istore_n 2, 1) := by decide +kernel
theorem dX7_waitingFields_4 : decode cX7_waitingFields 4 = .ok (.iload_n 2, 1) := by decide +kernel
theorem dX7_waitingFields_5 : decode cX7_waitingFields 5 = .ok (.aload_n 0, 1) := by decide +kernel
theorem dX7_waitingFields_6 : decode cX7_waitingFields 6 = .ok (.getfield 77, 3) := by decide +kernel
theorem dX7_waitingFields_9 : decode cX7_waitingFields 9 = .ok (.if_icmp .ge 24, 3) := by decide +kernel
theorem dX7_waitingFields_33 : decode cX7_waitingFields 33 = .ok (.iload_n 1, 1) := by decide +kernel
theorem dX7_waitingFields_34 : decode cX7_waitingFields 34 = .ok (.ireturn, 1) := by decide +kernel
theorem dX5_begin_0 : decode cX5_begin 0 = .ok (.aload_n 0, 1) := by decide +kernel
theorem dX5_begin_1 : decode cX5_begin 1 = .ok (.iconst 0, 1) := by decide +kernel
theorem dX5_begin_2 : decode cX5_begin 2 = .ok (.putfield 36, 3) := by decide +kernel
theorem dX5_begin_5 : decode cX5_begin 5 = .ok (.aload_n 0, 1) := by decide +kernel
theorem dX5_begin_6 : decode cX5_begin 6 = .ok (.iload_n 1, 1) := by decide +kernel
theorem dX5_begin_7 : decode cX5_begin 7 = .ok (.putfield 40, 3) := by decide +kernel
theorem dX5_begin_10 : decode cX5_begin 10 = .ok (.aload_n 0, 1) := by decide +kernel
theorem dX5_begin_11 : decode cX5_begin 11 = .ok (.iconst 1, 1) := by decide +kernel
theorem dX5_begin_12 : decode cX5_begin 12 = .ok (.iload_n 2, 1) := by decide +kernel
theorem dX5_begin_13 : decode cX5_begin 13 = .ok (.invokestatic 43, 3) := by decide +kernel
theorem dX5_begin_16 : decode cX5_begin 16 = .ok (.putfield 49, 3) := by decide +kernel
theorem dX5_begin_19 : decode cX5_begin 19 = .ok (.return_, 1) := by decide +kernel
theorem dX5_choose_0 : decode cX5_choose 0 = .ok (.iconst 1, 1) := by decide +kernel
theorem dX5_choose_1 : decode cX5_choose 1 = .ok (.aload_n 0, 1) := by decide +kernel
theorem dX5_choose_2 : decode cX5_choose 2 = .ok (.getfield 36, 3) := by decide +kernel
theorem dX5_choose_5 : decode cX5_choose 5 = .ok (.ishl, 1) := by decide +kernel
theorem dX5_choose_6 : decode cX5_choose 6 = .ok (.iconst 1, 1) := by decide +kernel
theorem dX5_choose_7 : decode cX5_choose 7 = .ok (.isub, 1) := by decide +kernel
theorem dX5_choose_8 : decode cX5_choose 8 = .ok (.istore_n 2, 1) := by decide +kernel
theorem dX5_choose_9 : decode cX5_choose 9 = .ok (.aload_n 0, 1) := by decide +kernel
theorem dX5_choose_10 : decode cX5_choose 10 = .ok (.getfield 27, 3) := by decide +kernel
theorem dX5_choose_13 : decode cX5_choose 13 = .ok (.iload_n 2, 1) := by decide +kernel
theorem dX5_choose_14 : decode cX5_choose 14 = .ok (.iconst 0, 1) := by decide +kernel
theorem dX5_choose_15 : decode cX5_choose 15 = .ok (.iastore, 1) := by decide +kernel
theorem dX5_choose_16 : decode cX5_choose 16 = .ok (.iload_n 2, 1) := by decide +kernel
theorem dX5_choose_17 : decode cX5_choose 17 = .ok (.iconst 1, 1) := by decide +kernel
theorem dX5_choose_18 : decode cX5_choose 18 = .ok (.isub, 1) := by decide +kernel
theorem dX5_choose_19 : decode cX5_choose 19 = .ok (.istore_n 3, 1) := by decide +kernel
theorem dX5_choose_20 : decode cX5_choose 20 = .ok (.iload_n 3, 1) := by decide +kernel
theorem dX5_choose_21 : decode cX5_choose 21 = .ok (.ifCond .lt 15, 3) := by decide +kernel
theorem dX5_choose_36 : decode cX5_choose 36 = .ok (.aload_n 0, 1) := by decide +kernel
theorem dX5_choose_37 : decode cX5_choose 37 = .ok (.aload_n 0, 1) := by decide +kernel
theorem dX5_choose_38 : decode cX5_choose 38 = .ok (.getfield 36, 3) := by decide +kernel
theorem dX5_choose_41 : decode cX5_choose 41 = .ok (.putfield 70, 3) := by decide +kernel
theorem dX5_choose_44 : decode cX5_choose 44 = .ok (.iconst 0, 1) := by decide +kernel
theorem dX5_choose_45 : decode cX5_choose 45 = .ok (.istore_n 3, 1) := by decide +kernel
theorem dX5_choose_46 : decode cX5_choose 46 = .ok (.iconst 0, 1) := by decide +kernel
theorem dX5_choose_47 : decode cX5_choose 47 = .ok (.istore 4, 2) := by decide +kernel
theorem dX5_choose_49 : decode cX5_choose 49 = .ok (.iload 4, 2) := by decide +kernel
theorem dX5_choose_51 : decode cX5_choose 51 = .ok (.aload_n 0, 1) := by decide +kernel
theorem dX5_choose_52 : decode cX5_choose 52 = .ok (.getfield 36, 3) := by decide +kernel
theorem dX5_choose_55 : decode cX5_choose 55 = .ok (.if_icmp .ge 38, 3) := by decide +kernel
theorem dX5_choose_93 : decode cX5_choose 93 = .ok (.aload_n 0, 1) := by decide +kernel
theorem dX5_choose_94 : decode cX5_choose 94 = .ok (.getfield 27, 3) := by decide +kernel
theorem dX5_choose_97 : decode cX5_choose 97 = .ok (.iconst 0, 1) := by decide +kernel
theorem dX5_choose_98 : decode cX5_choose 98 = .ok (.iaload, 1) := by decide +kernel
theorem dX5_choose_99 : decode cX5_choose 99 = .ok (.ireturn, 1) := by decide +kernel
theorem dX7_plan_0 : decode cX7_plan 0 = .ok (.iload_n 1, 1) := by decide +kernel
theorem dX7_plan_1 : decode cX7_plan 1 = .ok (.iconst 1, 1) := by decide +kernel
theorem dX7_plan_2 : decode cX7_plan 2 = .ok (.bipush 99, 2) := by decide +kernel
theorem dX7_plan_4 : decode cX7_plan 4 = .ok (.invokestatic 80, 3) := by decide +kernel
theorem dX7_plan_7 : decode cX7_plan 7 = .ok (.ifCond .eq 12, 3) := by decide +kernel
theorem dX7_plan_10 : decode cX7_plan 10 = .ok (.aload_n 0, 1) := by decide +kernel
theorem dX7_plan_11 : decode cX7_plan 11 = .ok (.invokevirtual 205, 3) := by decide +kernel
theorem dX7_plan_14 : decode cX7_plan 14 = .ok (.bipush 7, 2) := by decide +kernel
theorem dX7_plan_16 : decode cX7_plan 16 = .ok (.if_icmp .le 5, 3) := by decide +kernel
theorem dX7_plan_19 : decode cX7_plan 19 = .ok (.iconst (-1), 1) := by decide +kernel
theorem dX7_plan_20 : decode cX7_plan 20 = .ok (.ireturn, 1) := by decide +kernel
theorem dX7_plan_21 : decode cX7_plan 21 = .ok (.aload_n 0, 1) := by decide +kernel
theorem dX7_plan_22 : decode cX7_plan 22 = .ok (.getfield 58, 3) := by decide +kernel
theorem dX7_plan_25 : decode cX7_plan 25 = .ok (.aload_n 0, 1) := by decide +kernel
theorem dX7_plan_26 : decode cX7_plan 26 = .ok (.getfield 129, 3) := by decide +kernel
theorem dX7_plan_29 : decode cX7_plan 29 = .ok (.iload_n 1, 1) := by decide +kernel
theorem dX7_plan_30 : decode cX7_plan 30 = .ok (.invokevirtual 208, 3) := by decide +kernel
theorem dX7_plan_33 : decode cX7_plan 33 = .ok (.iconst 0, 1) := by decide +kernel
theorem dX7_plan_34 : decode cX7_plan 34 = .ok (.istore_n 2, 1) := by decide +kernel
theorem dX7_plan_35 : decode cX7_plan 35 = .ok (.iload_n 2, 1) := by decide +kernel
theorem dX7_plan_36 : decode cX7_plan 36 = .ok (.aload_n 0, 1) := by decide +kernel
theorem dX7_plan_37 : decode cX7_plan 37 = .ok (.getfield 77, 3) := by decide +kernel
theorem dX7_plan_40 : decode cX7_plan 40 = .ok (.if_icmp .ge 35, 3) := by decide +kernel
theorem dX7_plan_75 : decode cX7_plan 75 = .ok (.aload_n 0, 1) := by decide +kernel
theorem dX7_plan_76 : decode cX7_plan 76 = .ok (.getfield 58, 3) := by decide +kernel
theorem dX7_plan_79 : decode cX7_plan 79 = .ok (.aload_n 0, 1) := by decide +kernel
theorem dX7_plan_80 : decode cX7_plan 80 = .ok (.getfield 23, 3) := by decide +kernel
theorem dX7_plan_83 : decode cX7_plan 83 = .ok (.invokevirtual 216, 3) := by decide +kernel
theorem dX7_plan_86 : decode cX7_plan 86 = .ok (.ireturn, 1) := by decide +kernel
theorem dX7_planned_0 : decode cX7_planned 0 = .ok (.iload_n 1, 1) := by decide +kernel
theorem dX7_planned_1 : decode cX7_planned 1 = .ok (.iconst 0, 1) := by decide +kernel
theorem dX7_planned_2 : decode cX7_planned 2 = .ok (.aload_n 0, 1) := by decide +kernel
theorem dX7_planned_3 : decode cX7_planned 3 = .ok (.getfield 58, 3) := by decide +kernel
theorem dX7_planned_6 : decode cX7_planned 6 = .ok (.getfield 220, 3) := by decide +kernel
theorem dX7_planned_9 : decode cX7_planned 9 = .ok (.iconst 1, 1) := by decide +kernel
theorem dX7_planned_10 : decode cX7_planned 10 = .ok (.isub, 1) := by decide +kernel
theorem dX7_planned_11 : decode cX7_planned 11 = .ok (.invokestatic 80, 3) := by decide +kernel
theorem dX7_planned_14 : decode cX7_planned 14 = .ok (.ifCond .eq 15, 3) := by decide +kernel
theorem dX7_planned_29 : decode cX7_planned 29 = .ok (.iconst (-1), 1) := by decide +kernel
theorem dX7_planned_30 : decode cX7_planned 30 = .ok (.ireturn, 1) := by decide +kernel
theorem dX7_about_0 : decode cX7_about 0 = .ok (.iload_n 1, 1) := by decide +kernel
theorem dX7_about_1 : decode cX7_about 1 = .ok (.tableswitch 75 0 5 #[39, 44, 49, 54, 62, 67], 39) := by decide +kernel
theorem dX7_about_40 : decode cX7_about 40 = .ok (.aload_n 0, 1) := by decide +kernel
theorem dX7_about_41 : decode cX7_about 41 = .ok (.getfield 62, 3) := by decide +kernel
theorem dX7_about_44 : decode cX7_about 44 = .ok (.ireturn, 1) := by decide +kernel
theorem dX7_about_45 : decode cX7_about 45 = .ok (.aload_n 0, 1) := by decide +kernel
theorem dX7_about_46 : decode cX7_about 46 = .ok (.getfield 77, 3) := by decide +kernel
theorem dX7_about_49 : decode cX7_about 49 = .ok (.ireturn, 1) := by decide +kernel
theorem dX7_about_50 : decode cX7_about 50 = .ok (.aload_n 0, 1) := by decide +kernel
theorem dX7_about_51 : decode cX7_about 51 = .ok (.getfield 129, 3) := by decide +kernel
theorem dX7_about_54 : decode cX7_about 54 = .ok (.ireturn, 1) := by decide +kernel
theorem dX7_about_55 : decode cX7_about 55 = .ok (.aload_n 0, 1) := by decide +kernel
theorem dX7_about_56 : decode cX7_about 56 = .ok (.getfield 44, 3) := by decide +kernel
theorem dX7_about_59 : decode cX7_about 59 = .ok (.getfield 126, 3) := by decide +kernel
theorem dX7_about_62 : decode cX7_about 62 = .ok (.ireturn, 1) := by decide +kernel
theorem dX7_about_63 : decode cX7_about 63 = .ok (.aload_n 0, 1) := by decide +kernel
theorem dX7_about_64 : decode cX7_about 64 = .ok (.getfield 151, 3) := by decide +kernel
theorem dX7_about_67 : decode cX7_about 67 = .ok (.ireturn, 1) := by decide +kernel
theorem dX7_about_68 : decode cX7_about 68 = .ok (.aload_n 0, 1) := by decide +kernel
theorem dX7_about_69 : decode cX7_about 69 = .ok (.getfield 30, 3) := by decide +kernel
theorem dX7_about_72 : decode cX7_about 72 = .ok (.getfield 99, 3) := by decide +kernel
theorem dX7_about_75 : decode cX7_about 75 = .ok (.ireturn, 1) := by decide +kernel
theorem dX7_about_76 : decode cX7_about 76 = .ok (.iload_n 1, 1) := by decide +kernel
theorem dX7_about_77 : decode cX7_about 77 = .ok (.bipush 20, 2) := by decide +kernel
theorem dX7_about_79 : decode cX7_about 79 = .ok (.bipush 29, 2) := by decide +kernel
theorem dX7_about_81 : decode cX7_about 81 = .ok (.invokestatic 80, 3) := by decide +kernel
theorem dX7_about_84 : decode cX7_about 84 = .ok (.ifCond .eq 15, 3) := by decide +kernel
theorem dX7_about_87 : decode cX7_about 87 = .ok (.aload_n 0, 1) := by decide +kernel
theorem dX7_about_88 : decode cX7_about 88 = .ok (.getfield 23, 3) := by decide +kernel
theorem dX7_about_91 : decode cX7_about 91 = .ok (.iload_n 1, 1) := by decide +kernel
theorem dX7_about_92 : decode cX7_about 92 = .ok (.bipush 20, 2) := by decide +kernel
theorem dX7_about_94 : decode cX7_about 94 = .ok (.isub, 1) := by decide +kernel
theorem dX7_about_95 : decode cX7_about 95 = .ok (.iaload, 1) := by decide +kernel
theorem dX7_about_96 : decode cX7_about 96 = .ok (.goto 4, 3) := by decide +kernel
theorem dX7_about_99 : decode cX7_about 99 = .ok (.iconst (-1), 1) := by decide +kernel
theorem dX7_about_100 : decode cX7_about 100 = .ok (.ireturn, 1) := by decide +kernel
theorem dX1_dropEmpty_0 : decode cX1_dropEmpty 0 = .ok (.iconst 0, 1) := by decide +kernel
theorem dX1_dropEmpty_1 : decode cX1_dropEmpty 1 = .ok (.istore_n 1, 1) := by decide +kernel
theorem dX1_dropEmpty_2 : decode cX1_dropEmpty 2 = .ok (.iconst 0, 1) := by decide +kernel
theorem dX1_dropEmpty_3 : decode cX1_dropEmpty 3 = .ok (.istore_n 2, 1) := by decide +kernel
theorem dX1_dropEmpty_4 : decode cX1_dropEmpty 4 = .ok (.iload_n 2, 1) := by decide +kernel
theorem dX1_dropEmpty_5 : decode cX1_dropEmpty 5 = .ok (.aload_n 0, 1) := by decide +kernel
theorem dX1_dropEmpty_6 : decode cX1_dropEmpty 6 = .ok (.getfield 24, 3) := by decide +kernel
theorem dX1_dropEmpty_9 : decode cX1_dropEmpty 9 = .ok (.if_icmp .ge 69, 3) := by decide +kernel
theorem dX1_dropEmpty_78 : decode cX1_dropEmpty 78 = .ok (.aload_n 0, 1) := by decide +kernel
theorem dX1_dropEmpty_79 : decode cX1_dropEmpty 79 = .ok (.iload_n 1, 1) := by decide +kernel
theorem dX1_dropEmpty_80 : decode cX1_dropEmpty 80 = .ok (.putfield 24, 3) := by decide +kernel
theorem dX1_dropEmpty_83 : decode cX1_dropEmpty 83 = .ok (.return_, 1) := by decide +kernel
theorem dX7_lapseDebts_0 : decode cX7_lapseDebts 0 = .ok (.iconst 0, 1) := by decide +kernel
theorem dX7_lapseDebts_1 : decode cX7_lapseDebts 1 = .ok (.istore_n 1, 1) := by decide +kernel
theorem dX7_lapseDebts_2 : decode cX7_lapseDebts 2 = .ok (.iload_n 1, 1) := by decide +kernel
theorem dX7_lapseDebts_3 : decode cX7_lapseDebts 3 = .ok (.aload_n 0, 1) := by decide +kernel
theorem dX7_lapseDebts_4 : decode cX7_lapseDebts 4 = .ok (.getfield 44, 3) := by decide +kernel
theorem dX7_lapseDebts_7 : decode cX7_lapseDebts 7 = .ok (.getfield 126, 3) := by decide +kernel
theorem dX7_lapseDebts_10 : decode cX7_lapseDebts 10 = .ok (.if_icmp .ge 107, 3) := by decide +kernel
theorem dX7_lapseDebts_117 : decode cX7_lapseDebts 117 = .ok (.aload_n 0, 1) := by decide +kernel
theorem dX7_lapseDebts_118 : decode cX7_lapseDebts 118 = .ok (.getfield 44, 3) := by decide +kernel
theorem dX7_lapseDebts_121 : decode cX7_lapseDebts 121 = .ok (.invokevirtual 256, 3) := by decide +kernel
theorem dX7_lapseDebts_124 : decode cX7_lapseDebts 124 = .ok (.return_, 1) := by decide +kernel
theorem dX7_nextDay_0 : decode cX7_nextDay 0 = .ok (.aload_n 0, 1) := by decide +kernel
theorem dX7_nextDay_1 : decode cX7_nextDay 1 = .ok (.dup, 1) := by decide +kernel
theorem dX7_nextDay_2 : decode cX7_nextDay 2 = .ok (.getfield 129, 3) := by decide +kernel
theorem dX7_nextDay_5 : decode cX7_nextDay 5 = .ok (.iconst 1, 1) := by decide +kernel
theorem dX7_nextDay_6 : decode cX7_nextDay 6 = .ok (.iadd, 1) := by decide +kernel
theorem dX7_nextDay_7 : decode cX7_nextDay 7 = .ok (.putfield 129, 3) := by decide +kernel
theorem dX7_nextDay_10 : decode cX7_nextDay 10 = .ok (.aload_n 0, 1) := by decide +kernel
theorem dX7_nextDay_11 : decode cX7_nextDay 11 = .ok (.iconst 0, 1) := by decide +kernel
theorem dX7_nextDay_12 : decode cX7_nextDay 12 = .ok (.putfield 151, 3) := by decide +kernel
theorem dX7_nextDay_15 : decode cX7_nextDay 15 = .ok (.iconst 0, 1) := by decide +kernel
theorem dX7_nextDay_16 : decode cX7_nextDay 16 = .ok (.istore_n 1, 1) := by decide +kernel
theorem dX7_nextDay_17 : decode cX7_nextDay 17 = .ok (.iload_n 1, 1) := by decide +kernel
theorem dX7_nextDay_18 : decode cX7_nextDay 18 = .ok (.aload_n 0, 1) := by decide +kernel
theorem dX7_nextDay_19 : decode cX7_nextDay 19 = .ok (.getfield 62, 3) := by decide +kernel
theorem dX7_nextDay_22 : decode cX7_nextDay 22 = .ok (.if_icmp .ge 43, 3) := by decide +kernel
theorem dX7_nextDay_65 : decode cX7_nextDay 65 = .ok (.aload_n 0, 1) := by decide +kernel
theorem dX7_nextDay_66 : decode cX7_nextDay 66 = .ok (.invokevirtual 246, 3) := by decide +kernel
theorem dX7_nextDay_69 : decode cX7_nextDay 69 = .ok (.return_, 1) := by decide +kernel
theorem dX7_days_0 : decode cX7_days 0 = .ok (.iload_n 1, 1) := by decide +kernel
theorem dX7_days_1 : decode cX7_days 1 = .ok (.iconst 1, 1) := by decide +kernel
theorem dX7_days_2 : decode cX7_days 2 = .ok (.bipush 100, 2) := by decide +kernel
theorem dX7_days_4 : decode cX7_days 4 = .ok (.invokestatic 80, 3) := by decide +kernel
theorem dX7_days_7 : decode cX7_days 7 = .ok (.ifCond .eq 15, 3) := by decide +kernel
theorem dX7_days_10 : decode cX7_days 10 = .ok (.iload_n 1, 1) := by decide +kernel
theorem dX7_days_11 : decode cX7_days 11 = .ok (.sipush 400, 3) := by decide +kernel
theorem dX7_days_14 : decode cX7_days 14 = .ok (.aload_n 0, 1) := by decide +kernel
theorem dX7_days_15 : decode cX7_days 15 = .ok (.getfield 129, 3) := by decide +kernel
theorem dX7_days_18 : decode cX7_days 18 = .ok (.isub, 1) := by decide +kernel
theorem dX7_days_19 : decode cX7_days 19 = .ok (.if_icmp .le 5, 3) := by decide +kernel
theorem dX7_days_22 : decode cX7_days 22 = .ok (.iconst (-1), 1) := by decide +kernel
theorem dX7_days_23 : decode cX7_days 23 = .ok (.ireturn, 1) := by decide +kernel
theorem dX7_days_24 : decode cX7_days 24 = .ok (.iconst 0, 1) := by decide +kernel
theorem dX7_days_25 : decode cX7_days 25 = .ok (.istore_n 2, 1) := by decide +kernel
theorem dX7_days_26 : decode cX7_days 26 = .ok (.iload_n 2, 1) := by decide +kernel
theorem dX7_days_27 : decode cX7_days 27 = .ok (.iload_n 1, 1) := by decide +kernel
theorem dX7_days_28 : decode cX7_days 28 = .ok (.if_icmp .ge 13, 3) := by decide +kernel
theorem dX7_days_31 : decode cX7_days 31 = .ok (.aload_n 0, 1) := by decide +kernel
theorem dX7_days_32 : decode cX7_days 32 = .ok (.invokevirtual 157, 3) := by decide +kernel
theorem dX7_days_35 : decode cX7_days 35 = .ok (.iinc 2 1, 3) := by decide +kernel
theorem dX7_days_38 : decode cX7_days 38 = .ok (.goto (-12), 3) := by decide +kernel
theorem dX7_days_41 : decode cX7_days 41 = .ok (.aload_n 0, 1) := by decide +kernel
theorem dX7_days_42 : decode cX7_days 42 = .ok (.getfield 129, 3) := by decide +kernel
theorem dX7_days_45 : decode cX7_days 45 = .ok (.ireturn, 1) := by decide +kernel
theorem dX8_isHouse_0 : decode cX8_isHouse 0 = .ok (.iload_n 1, 1) := by decide +kernel
theorem dX8_isHouse_1 : decode cX8_isHouse 1 = .ok (.i2l, 1) := by decide +kernel
theorem dX8_isHouse_2 : decode cX8_isHouse 2 = .ok (.lconst 0, 1) := by decide +kernel
theorem dX8_isHouse_3 : decode cX8_isHouse 3 = .ok (.aload_n 0, 1) := by decide +kernel
theorem dX8_isHouse_4 : decode cX8_isHouse 4 = .ok (.getfield 115, 3) := by decide +kernel
theorem dX8_isHouse_7 : decode cX8_isHouse 7 = .ok (.iconst 1, 1) := by decide +kernel
theorem dX8_isHouse_8 : decode cX8_isHouse 8 = .ok (.isub, 1) := by decide +kernel
theorem dX8_isHouse_9 : decode cX8_isHouse 9 = .ok (.i2l, 1) := by decide +kernel
theorem dX8_isHouse_10 : decode cX8_isHouse 10 = .ok (.invokestatic 118, 3) := by decide +kernel
theorem dX8_isHouse_13 : decode cX8_isHouse 13 = .ok (.ireturn, 1) := by decide +kernel
theorem dX8_isField_0 : decode cX8_isField 0 = .ok (.iload_n 1, 1) := by decide +kernel
theorem dX8_isField_1 : decode cX8_isField 1 = .ok (.i2l, 1) := by decide +kernel
theorem dX8_isField_2 : decode cX8_isField 2 = .ok (.lconst 0, 1) := by decide +kernel
theorem dX8_isField_3 : decode cX8_isField 3 = .ok (.aload_n 0, 1) := by decide +kernel
theorem dX8_isField_4 : decode cX8_isField 4 = .ok (.getfield 122, 3) := by decide +kernel
theorem dX8_isField_7 : decode cX8_isField 7 = .ok (.iconst 1, 1) := by decide +kernel
theorem dX8_isField_8 : decode cX8_isField 8 = .ok (.isub, 1) := by decide +kernel
theorem dX8_isField_9 : decode cX8_isField 9 = .ok (.i2l, 1) := by decide +kernel
theorem dX8_isField_10 : decode cX8_isField 10 = .ok (.invokestatic 118, 3) := by decide +kernel
theorem dX8_isField_13 : decode cX8_isField 13 = .ok (.ireturn, 1) := by decide +kernel
theorem dX8_canWork_0 : decode cX8_canWork 0 = .ok (.aload_n 0, 1) := by decide +kernel
theorem dX8_canWork_1 : decode cX8_canWork 1 = .ok (.iload_n 1, 1) := by decide +kernel
theorem dX8_canWork_2 : decode cX8_canWork 2 = .ok (.invokevirtual 220, 3) := by decide +kernel
theorem dX8_canWork_5 : decode cX8_canWork 5 = .ok (.ifCond .eq 35, 3) := by decide +kernel
theorem dX8_canWork_40 : decode cX8_canWork 40 = .ok (.iconst 0, 1) := by decide +kernel
theorem dX8_canWork_41 : decode cX8_canWork 41 = .ok (.ireturn, 1) := by decide +kernel
theorem dX8_house_0 : decode cX8_house 0 = .ok (.iload_n 1, 1) := by decide +kernel
theorem dX8_house_1 : decode cX8_house 1 = .ok (.i2l, 1) := by decide +kernel
theorem dX8_house_2 : decode cX8_house 2 = .ok (.lconst 1, 1) := by decide +kernel
theorem dX8_house_3 : decode cX8_house 3 = .ok (.ldc2_w 125, 3) := by decide +kernel
theorem dX8_house_6 : decode cX8_house 6 = .ok (.invokestatic 118, 3) := by decide +kernel
theorem dX8_house_9 : decode cX8_house 9 = .ok (.ifCond .eq 12, 3) := by decide +kernel
theorem dX8_house_12 : decode cX8_house 12 = .ok (.aload_n 0, 1) := by decide +kernel
theorem dX8_house_13 : decode cX8_house 13 = .ok (.getfield 115, 3) := by decide +kernel
theorem dX8_house_16 : decode cX8_house 16 = .ok (.bipush 8, 2) := by decide +kernel
theorem dX8_house_18 : decode cX8_house 18 = .ok (.if_icmp .ne 5, 3) := by decide +kernel
theorem dX8_house_21 : decode cX8_house 21 = .ok (.iconst (-1), 1) := by decide +kernel
theorem dX8_house_22 : decode cX8_house 22 = .ok (.ireturn, 1) := by decide +kernel
theorem dX8_house_23 : decode cX8_house 23 = .ok (.aload_n 0, 1) := by decide +kernel
theorem dX8_house_24 : decode cX8_house 24 = .ok (.getfield 31, 3) := by decide +kernel
theorem dX8_house_27 : decode cX8_house 27 = .ok (.aload_n 0, 1) := by decide +kernel
theorem dX8_house_28 : decode cX8_house 28 = .ok (.getfield 115, 3) := by decide +kernel
theorem dX8_house_31 : decode cX8_house 31 = .ok (.iload_n 1, 1) := by decide +kernel
theorem dX8_house_32 : decode cX8_house 32 = .ok (.iastore, 1) := by decide +kernel
theorem dX8_house_33 : decode cX8_house 33 = .ok (.aload_n 0, 1) := by decide +kernel
theorem dX8_house_34 : decode cX8_house 34 = .ok (.getfield 34, 3) := by decide +kernel
theorem dX8_house_37 : decode cX8_house 37 = .ok (.aload_n 0, 1) := by decide +kernel
theorem dX8_house_38 : decode cX8_house 38 = .ok (.getfield 115, 3) := by decide +kernel
theorem dX8_house_41 : decode cX8_house 41 = .ok (.iload_n 2, 1) := by decide +kernel
theorem dX8_house_42 : decode cX8_house 42 = .ok (.bastore, 1) := by decide +kernel
theorem dX8_house_43 : decode cX8_house 43 = .ok (.aload_n 0, 1) := by decide +kernel
theorem dX8_house_44 : decode cX8_house 44 = .ok (.dup, 1) := by decide +kernel
theorem dX8_house_45 : decode cX8_house 45 = .ok (.getfield 115, 3) := by decide +kernel
theorem dX8_house_48 : decode cX8_house 48 = .ok (.iconst 1, 1) := by decide +kernel
theorem dX8_house_49 : decode cX8_house 49 = .ok (.iadd, 1) := by decide +kernel
theorem dX8_house_50 : decode cX8_house 50 = .ok (.putfield 115, 3) := by decide +kernel
theorem dX8_house_53 : decode cX8_house 53 = .ok (.aload_n 0, 1) := by decide +kernel
theorem dX8_house_54 : decode cX8_house 54 = .ok (.getfield 115, 3) := by decide +kernel
theorem dX8_house_57 : decode cX8_house 57 = .ok (.iconst 1, 1) := by decide +kernel
theorem dX8_house_58 : decode cX8_house 58 = .ok (.isub, 1) := by decide +kernel
theorem dX8_house_59 : decode cX8_house 59 = .ok (.ireturn, 1) := by decide +kernel
theorem dX8_field_0 : decode cX8_field 0 = .ok (.aload_n 0, 1) := by decide +kernel
theorem dX8_field_1 : decode cX8_field 1 = .ok (.iload_n 1, 1) := by decide +kernel
theorem dX8_field_2 : decode cX8_field 2 = .ok (.invokevirtual 127, 3) := by decide +kernel
theorem dX8_field_5 : decode cX8_field 5 = .ok (.ifCond .eq 62, 3) := by decide +kernel
theorem dX8_field_67 : decode cX8_field 67 = .ok (.iconst (-1), 1) := by decide +kernel
theorem dX8_field_68 : decode cX8_field 68 = .ok (.ireturn, 1) := by decide +kernel
theorem dX8_loss_0 : decode cX8_loss 0 = .ok (.iload_n 1, 1) := by decide +kernel
theorem dX8_loss_1 : decode cX8_loss 1 = .ok (.i2l, 1) := by decide +kernel
theorem dX8_loss_2 : decode cX8_loss 2 = .ok (.lconst 0, 1) := by decide +kernel
theorem dX8_loss_3 : decode cX8_loss 3 = .ok (.ldc2_w 125, 3) := by decide +kernel
theorem dX8_loss_6 : decode cX8_loss 6 = .ok (.invokestatic 118, 3) := by decide +kernel
theorem dX8_loss_9 : decode cX8_loss 9 = .ok (.ifCond .eq 15, 3) := by decide +kernel
theorem dX8_loss_12 : decode cX8_loss 12 = .ok (.iload_n 2, 1) := by decide +kernel
theorem dX8_loss_13 : decode cX8_loss 13 = .ok (.i2l, 1) := by decide +kernel
theorem dX8_loss_14 : decode cX8_loss 14 = .ok (.lconst 0, 1) := by decide +kernel
theorem dX8_loss_15 : decode cX8_loss 15 = .ok (.ldc2_w 139, 3) := by decide +kernel
theorem dX8_loss_18 : decode cX8_loss 18 = .ok (.invokestatic 118, 3) := by decide +kernel
theorem dX8_loss_21 : decode cX8_loss 21 = .ok (.ifCond .ne 5, 3) := by decide +kernel
theorem dX8_loss_24 : decode cX8_loss 24 = .ok (.iconst 0, 1) := by decide +kernel
theorem dX8_loss_25 : decode cX8_loss 25 = .ok (.ireturn, 1) := by decide +kernel
theorem dX8_loss_26 : decode cX8_loss 26 = .ok (.aload_n 0, 1) := by decide +kernel
theorem dX8_loss_27 : decode cX8_loss 27 = .ok (.getfield 55, 3) := by decide +kernel
theorem dX8_loss_30 : decode cX8_loss 30 = .ok (.iload_n 1, 1) := by decide +kernel
theorem dX8_loss_31 : decode cX8_loss 31 = .ok (.iload_n 2, 1) := by decide +kernel
theorem dX8_loss_32 : decode cX8_loss 32 = .ok (.iastore, 1) := by decide +kernel
theorem dX8_loss_33 : decode cX8_loss 33 = .ok (.iconst 1, 1) := by decide +kernel
theorem dX8_loss_34 : decode cX8_loss 34 = .ok (.ireturn, 1) := by decide +kernel
theorem dX8_put_0 : decode cX8_put 0 = .ok (.aload_n 0, 1) := by decide +kernel
theorem dX8_put_1 : decode cX8_put 1 = .ok (.getfield 7, 3) := by decide +kernel
theorem dX8_put_4 : decode cX8_put 4 = .ok (.aload_n 0, 1) := by decide +kernel
theorem dX8_put_5 : decode cX8_put 5 = .ok (.getfield 141, 3) := by decide +kernel
theorem dX8_put_8 : decode cX8_put 8 = .ok (.iload_n 1, 1) := by decide +kernel
theorem dX8_put_9 : decode cX8_put 9 = .ok (.bipush 24, 2) := by decide +kernel
theorem dX8_put_11 : decode cX8_put 11 = .ok (.ishr, 1) := by decide +kernel
theorem dX8_put_12 : decode cX8_put 12 = .ok (.i2b, 1) := by decide +kernel
theorem dX8_put_13 : decode cX8_put 13 = .ok (.bastore, 1) := by decide +kernel
theorem dX8_put_14 : decode cX8_put 14 = .ok (.aload_n 0, 1) := by decide +kernel
theorem dX8_put_15 : decode cX8_put 15 = .ok (.getfield 7, 3) := by decide +kernel
theorem dX8_put_18 : decode cX8_put 18 = .ok (.aload_n 0, 1) := by decide +kernel
theorem dX8_put_19 : decode cX8_put 19 = .ok (.getfield 141, 3) := by decide +kernel
theorem dX8_put_22 : decode cX8_put 22 = .ok (.iconst 1, 1) := by decide +kernel
theorem dX8_put_23 : decode cX8_put 23 = .ok (.iadd, 1) := by decide +kernel
theorem dX8_put_24 : decode cX8_put 24 = .ok (.iload_n 1, 1) := by decide +kernel
theorem dX8_put_25 : decode cX8_put 25 = .ok (.bipush 16, 2) := by decide +kernel
theorem dX8_put_27 : decode cX8_put 27 = .ok (.ishr, 1) := by decide +kernel
theorem dX8_put_28 : decode cX8_put 28 = .ok (.i2b, 1) := by decide +kernel
theorem dX8_put_29 : decode cX8_put 29 = .ok (.bastore, 1) := by decide +kernel
theorem dX8_put_30 : decode cX8_put 30 = .ok (.aload_n 0, 1) := by decide +kernel
theorem dX8_put_31 : decode cX8_put 31 = .ok (.getfield 7, 3) := by decide +kernel
theorem dX8_put_34 : decode cX8_put 34 = .ok (.aload_n 0, 1) := by decide +kernel
theorem dX8_put_35 : decode cX8_put 35 = .ok (.getfield 141, 3) := by decide +kernel
theorem dX8_put_38 : decode cX8_put 38 = .ok (.iconst 2, 1) := by decide +kernel
theorem dX8_put_39 : decode cX8_put 39 = .ok (.iadd, 1) := by decide +kernel
theorem dX8_put_40 : decode cX8_put 40 = .ok (.iload_n 1, 1) := by decide +kernel
theorem dX8_put_41 : decode cX8_put 41 = .ok (.bipush 8, 2) := by decide +kernel
theorem dX8_put_43 : decode cX8_put 43 = .ok (.ishr, 1) := by decide +kernel
theorem dX8_put_44 : decode cX8_put 44 = .ok (.i2b, 1) := by decide +kernel
theorem dX8_put_45 : decode cX8_put 45 = .ok (.bastore, 1) := by decide +kernel
theorem dX8_put_46 : decode cX8_put 46 = .ok (.aload_n 0, 1) := by decide +kernel
theorem dX8_put_47 : decode cX8_put 47 = .ok (.getfield 7, 3) := by decide +kernel
theorem dX8_put_50 : decode cX8_put 50 = .ok (.aload_n 0, 1) := by decide +kernel
theorem dX8_put_51 : decode cX8_put 51 = .ok (.getfield 141, 3) := by decide +kernel
theorem dX8_put_54 : decode cX8_put 54 = .ok (.iconst 3, 1) := by decide +kernel
theorem dX8_put_55 : decode cX8_put 55 = .ok (.iadd, 1) := by decide +kernel
theorem dX8_put_56 : decode cX8_put 56 = .ok (.iload_n 1, 1) := by decide +kernel
theorem dX8_put_57 : decode cX8_put 57 = .ok (.i2b, 1) := by decide +kernel
theorem dX8_put_58 : decode cX8_put 58 = .ok (.bastore, 1) := by decide +kernel
theorem dX8_put_59 : decode cX8_put 59 = .ok (.aload_n 0, 1) := by decide +kernel
theorem dX8_put_60 : decode cX8_put 60 = .ok (.dup, 1) := by decide +kernel
theorem dX8_put_61 : decode cX8_put 61 = .ok (.getfield 141, 3) := by decide +kernel
theorem dX8_put_64 : decode cX8_put 64 = .ok (.iconst 4, 1) := by decide +kernel
theorem dX8_put_65 : decode cX8_put 65 = .ok (.iadd, 1) := by decide +kernel
theorem dX8_put_66 : decode cX8_put 66 = .ok (.putfield 141, 3) := by decide +kernel
theorem dX8_put_69 : decode cX8_put 69 = .ok (.return_, 1) := by decide +kernel
theorem dX8_feed_0 : decode cX8_feed 0 = .ok (.aload_n 0, 1) := by decide +kernel
theorem dX8_feed_1 : decode cX8_feed 1 = .ok (.getfield 141, 3) := by decide +kernel
theorem dX8_feed_4 : decode cX8_feed 4 = .ok (.bipush 20, 2) := by decide +kernel
theorem dX8_feed_6 : decode cX8_feed 6 = .ok (.iadd, 1) := by decide +kernel
theorem dX8_feed_7 : decode cX8_feed 7 = .ok (.sipush 200, 3) := by decide +kernel
theorem dX8_feed_10 : decode cX8_feed 10 = .ok (.if_icmp .le 5, 3) := by decide +kernel
theorem dX8_feed_15 : decode cX8_feed 15 = .ok (.aload_n 0, 1) := by decide +kernel
theorem dX8_feed_16 : decode cX8_feed 16 = .ok (.iload_n 1, 1) := by decide +kernel
theorem dX8_feed_17 : decode cX8_feed 17 = .ok (.invokevirtual 144, 3) := by decide +kernel
theorem dX8_feed_20 : decode cX8_feed 20 = .ok (.aload_n 0, 1) := by decide +kernel
theorem dX8_feed_21 : decode cX8_feed 21 = .ok (.iload_n 2, 1) := by decide +kernel
theorem dX8_feed_22 : decode cX8_feed 22 = .ok (.invokevirtual 144, 3) := by decide +kernel
theorem dX8_feed_25 : decode cX8_feed 25 = .ok (.aload_n 0, 1) := by decide +kernel
theorem dX8_feed_26 : decode cX8_feed 26 = .ok (.iload_n 3, 1) := by decide +kernel
theorem dX8_feed_27 : decode cX8_feed 27 = .ok (.invokevirtual 144, 3) := by decide +kernel
theorem dX8_feed_30 : decode cX8_feed 30 = .ok (.aload_n 0, 1) := by decide +kernel
theorem dX8_feed_31 : decode cX8_feed 31 = .ok (.iload 4, 2) := by decide +kernel
theorem dX8_feed_33 : decode cX8_feed 33 = .ok (.invokevirtual 144, 3) := by decide +kernel
theorem dX8_feed_36 : decode cX8_feed 36 = .ok (.aload_n 0, 1) := by decide +kernel
theorem dX8_feed_37 : decode cX8_feed 37 = .ok (.iload 5, 2) := by decide +kernel
theorem dX8_feed_39 : decode cX8_feed 39 = .ok (.invokevirtual 144, 3) := by decide +kernel
theorem dX8_feed_42 : decode cX8_feed 42 = .ok (.aload_n 0, 1) := by decide +kernel
theorem dX8_feed_43 : decode cX8_feed 43 = .ok (.getfield 141, 3) := by decide +kernel
theorem dX8_feed_46 : decode cX8_feed 46 = .ok (.ireturn, 1) := by decide +kernel
theorem dX8_end_0 : decode cX8_end 0 = .ok (.iload_n 1, 1) := by decide +kernel
theorem dX8_end_1 : decode cX8_end 1 = .ok (.i2l, 1) := by decide +kernel
theorem dX8_end_2 : decode cX8_end 2 = .ok (.lconst 0, 1) := by decide +kernel
theorem dX8_end_3 : decode cX8_end 3 = .ok (.aload_n 0, 1) := by decide +kernel
theorem dX8_end_4 : decode cX8_end 4 = .ok (.getfield 141, 3) := by decide +kernel
theorem dX8_end_7 : decode cX8_end 7 = .ok (.i2l, 1) := by decide +kernel
theorem dX8_end_8 : decode cX8_end 8 = .ok (.invokestatic 118, 3) := by decide +kernel
theorem dX8_end_11 : decode cX8_end 11 = .ok (.ifCond .ne 5, 3) := by decide +kernel
theorem dX8_end_14 : decode cX8_end 14 = .ok (.iconst (-1), 1) := by decide +kernel
theorem dX8_end_15 : decode cX8_end 15 = .ok (.ireturn, 1) := by decide +kernel
theorem dX8_end_16 : decode cX8_end 16 = .ok (.aload_n 0, 1) := by decide +kernel
theorem dX8_end_17 : decode cX8_end 17 = .ok (.iload_n 1, 1) := by decide +kernel
theorem dX8_end_18 : decode cX8_end 18 = .ok (.putfield 141, 3) := by decide +kernel
theorem dX8_end_21 : decode cX8_end 21 = .ok (.iload_n 1, 1) := by decide +kernel
theorem dX8_end_22 : decode cX8_end 22 = .ok (.ireturn, 1) := by decide +kernel
theorem dX8_next_0 : decode cX8_next 0 = .ok (.aload_n 0, 1) := by decide +kernel
theorem dX8_next_1 : decode cX8_next 1 = .ok (.getfield 170, 3) := by decide +kernel
theorem dX8_next_4 : decode cX8_next 4 = .ok (.iload_n 1, 1) := by decide +kernel
theorem dX8_next_5 : decode cX8_next 5 = .ok (.if_icmp .ge 30, 3) := by decide +kernel
theorem dX8_next_35 : decode cX8_next 35 = .ok (.aload_n 0, 1) := by decide +kernel
theorem dX8_next_36 : decode cX8_next 36 = .ok (.aload_n 0, 1) := by decide +kernel
theorem dX8_next_37 : decode cX8_next 37 = .ok (.getfield 170, 3) := by decide +kernel
theorem dX8_next_40 : decode cX8_next 40 = .ok (.putfield 173, 3) := by decide +kernel
theorem dX8_next_43 : decode cX8_next 43 = .ok (.aload_n 0, 1) := by decide +kernel
theorem dX8_next_44 : decode cX8_next 44 = .ok (.getfield 170, 3) := by decide +kernel
theorem dX8_next_47 : decode cX8_next 47 = .ok (.iload_n 1, 1) := by decide +kernel
theorem dX8_next_48 : decode cX8_next 48 = .ok (.if_icmp .ne 9, 3) := by decide +kernel
theorem dX8_next_51 : decode cX8_next 51 = .ok (.aload_n 0, 1) := by decide +kernel
theorem dX8_next_52 : decode cX8_next 52 = .ok (.iconst 0, 1) := by decide +kernel
theorem dX8_next_53 : decode cX8_next 53 = .ok (.putfield 176, 3) := by decide +kernel
theorem dX8_next_56 : decode cX8_next 56 = .ok (.return_, 1) := by decide +kernel
theorem dX8_custom_0 : decode cX8_custom 0 = .ok (.aload_n 0, 1) := by decide +kernel
theorem dX8_custom_1 : decode cX8_custom 1 = .ok (.getfield 141, 3) := by decide +kernel
theorem dX8_custom_4 : decode cX8_custom 4 = .ok (.istore_n 1, 1) := by decide +kernel
theorem dX8_custom_5 : decode cX8_custom 5 = .ok (.aload_n 0, 1) := by decide +kernel
theorem dX8_custom_6 : decode cX8_custom 6 = .ok (.iconst 0, 1) := by decide +kernel
theorem dX8_custom_7 : decode cX8_custom 7 = .ok (.putfield 141, 3) := by decide +kernel
theorem dX8_custom_10 : decode cX8_custom 10 = .ok (.aload_n 0, 1) := by decide +kernel
theorem dX8_custom_11 : decode cX8_custom 11 = .ok (.iconst 0, 1) := by decide +kernel
theorem dX8_custom_12 : decode cX8_custom 12 = .ok (.putfield 170, 3) := by decide +kernel
theorem dX8_custom_15 : decode cX8_custom 15 = .ok (.aload_n 0, 1) := by decide +kernel
theorem dX8_custom_16 : decode cX8_custom 16 = .ok (.iconst 0, 1) := by decide +kernel
theorem dX8_custom_17 : decode cX8_custom 17 = .ok (.putfield 196, 3) := by decide +kernel
theorem dX8_custom_20 : decode cX8_custom 20 = .ok (.aload_n 0, 1) := by decide +kernel
theorem dX8_custom_21 : decode cX8_custom 21 = .ok (.iconst (-1), 1) := by decide +kernel
theorem dX8_custom_22 : decode cX8_custom 22 = .ok (.putfield 199, 3) := by decide +kernel
theorem dX8_custom_25 : decode cX8_custom 25 = .ok (.iconst 0, 1) := by decide +kernel
theorem dX8_custom_26 : decode cX8_custom 26 = .ok (.istore_n 2, 1) := by decide +kernel
theorem dX8_custom_27 : decode cX8_custom 27 = .ok (.iconst 0, 1) := by decide +kernel
theorem dX8_custom_28 : decode cX8_custom 28 = .ok (.istore_n 3, 1) := by decide +kernel
theorem dX8_custom_29 : decode cX8_custom 29 = .ok (.iload_n 3, 1) := by decide +kernel
theorem dX8_custom_30 : decode cX8_custom 30 = .ok (.bipush 7, 2) := by decide +kernel
theorem dX8_custom_32 : decode cX8_custom 32 = .ok (.if_icmp .ge 43, 3) := by decide +kernel
theorem dX8_custom_35 : decode cX8_custom 35 = .ok (.aload_n 0, 1) := by decide +kernel
theorem dX8_custom_36 : decode cX8_custom 36 = .ok (.getfield 20, 3) := by decide +kernel
theorem dX8_custom_39 : decode cX8_custom 39 = .ok (.iload_n 3, 1) := by decide +kernel
theorem dX8_custom_40 : decode cX8_custom 40 = .ok (.iconst 0, 1) := by decide +kernel
theorem dX8_custom_41 : decode cX8_custom 41 = .ok (.bastore, 1) := by decide +kernel
theorem dX8_custom_42 : decode cX8_custom 42 = .ok (.aload_n 0, 1) := by decide +kernel
theorem dX8_custom_43 : decode cX8_custom 43 = .ok (.getfield 24, 3) := by decide +kernel
theorem dX8_custom_46 : decode cX8_custom 46 = .ok (.iload_n 3, 1) := by decide +kernel
theorem dX8_custom_47 : decode cX8_custom 47 = .ok (.iload_n 3, 1) := by decide +kernel
theorem dX8_custom_48 : decode cX8_custom 48 = .ok (.iconst 3, 1) := by decide +kernel
theorem dX8_custom_49 : decode cX8_custom 49 = .ok (.if_icmp .ge 7, 3) := by decide +kernel
theorem dX8_custom_52 : decode cX8_custom 52 = .ok (.iconst 1, 1) := by decide +kernel
theorem dX8_custom_53 : decode cX8_custom 53 = .ok (.goto 15, 3) := by decide +kernel
theorem dX8_custom_56 : decode cX8_custom 56 = .ok (.iload_n 3, 1) := by decide +kernel
theorem dX8_custom_57 : decode cX8_custom 57 = .ok (.iconst 3, 1) := by decide +kernel
theorem dX8_custom_58 : decode cX8_custom 58 = .ok (.if_icmp .ne 9, 3) := by decide +kernel
theorem dX8_custom_61 : decode cX8_custom 61 = .ok (.sipush 400, 3) := by decide +kernel
theorem dX8_custom_64 : decode cX8_custom 64 = .ok (.goto 4, 3) := by decide +kernel
theorem dX8_custom_67 : decode cX8_custom 67 = .ok (.iconst 0, 1) := by decide +kernel
theorem dX8_custom_68 : decode cX8_custom 68 = .ok (.iastore, 1) := by decide +kernel
theorem dX8_custom_69 : decode cX8_custom 69 = .ok (.iinc 3 1, 3) := by decide +kernel
theorem dX8_custom_72 : decode cX8_custom 72 = .ok (.goto (-43), 3) := by decide +kernel
theorem dX8_custom_75 : decode cX8_custom 75 = .ok (.aload_n 0, 1) := by decide +kernel
theorem dX8_custom_76 : decode cX8_custom 76 = .ok (.iload_n 1, 1) := by decide +kernel
theorem dX8_custom_77 : decode cX8_custom 77 = .ok (.invokevirtual 205, 3) := by decide +kernel
theorem dX8_custom_80 : decode cX8_custom 80 = .ok (.aload_n 0, 1) := by decide +kernel
theorem dX8_custom_81 : decode cX8_custom 81 = .ok (.getfield 176, 3) := by decide +kernel
theorem dX8_custom_84 : decode cX8_custom 84 = .ok (.ifCond .eq 21, 3) := by decide +kernel
theorem dX8_custom_105 : decode cX8_custom 105 = .ok (.aload_n 0, 1) := by decide +kernel
theorem dX8_custom_106 : decode cX8_custom 106 = .ok (.aload_n 0, 1) := by decide +kernel
theorem dX8_custom_107 : decode cX8_custom 107 = .ok (.getfield 196, 3) := by decide +kernel
theorem dX8_custom_110 : decode cX8_custom 110 = .ok (.putfield 13, 3) := by decide +kernel
theorem dX8_custom_113 : decode cX8_custom 113 = .ok (.aload_n 0, 1) := by decide +kernel
theorem dX8_custom_114 : decode cX8_custom 114 = .ok (.aload_n 0, 1) := by decide +kernel
theorem dX8_custom_115 : decode cX8_custom 115 = .ok (.getfield 199, 3) := by decide +kernel
theorem dX8_custom_118 : decode cX8_custom 118 = .ok (.putfield 17, 3) := by decide +kernel
theorem dX8_custom_121 : decode cX8_custom 121 = .ok (.aload_n 0, 1) := by decide +kernel
theorem dX8_custom_122 : decode cX8_custom 122 = .ok (.getfield 196, 3) := by decide +kernel
theorem dX8_custom_125 : decode cX8_custom 125 = .ok (.ifCond .le 5, 3) := by decide +kernel
theorem dX8_custom_130 : decode cX8_custom 130 = .ok (.iconst 0, 1) := by decide +kernel
theorem dX8_custom_131 : decode cX8_custom 131 = .ok (.istore_n 3, 1) := by decide +kernel
theorem dX8_custom_132 : decode cX8_custom 132 = .ok (.iload_n 3, 1) := by decide +kernel
theorem dX8_custom_133 : decode cX8_custom 133 = .ok (.bipush 7, 2) := by decide +kernel
theorem dX8_custom_135 : decode cX8_custom 135 = .ok (.if_icmp .ge 21, 3) := by decide +kernel
theorem dX8_custom_138 : decode cX8_custom 138 = .ok (.aload_n 0, 1) := by decide +kernel
theorem dX8_custom_139 : decode cX8_custom 139 = .ok (.getfield 28, 3) := by decide +kernel
theorem dX8_custom_142 : decode cX8_custom 142 = .ok (.iload_n 3, 1) := by decide +kernel
theorem dX8_custom_143 : decode cX8_custom 143 = .ok (.aload_n 0, 1) := by decide +kernel
theorem dX8_custom_144 : decode cX8_custom 144 = .ok (.getfield 24, 3) := by decide +kernel
theorem dX8_custom_147 : decode cX8_custom 147 = .ok (.iload_n 3, 1) := by decide +kernel
theorem dX8_custom_148 : decode cX8_custom 148 = .ok (.iaload, 1) := by decide +kernel
theorem dX8_custom_149 : decode cX8_custom 149 = .ok (.iastore, 1) := by decide +kernel
theorem dX8_custom_150 : decode cX8_custom 150 = .ok (.iinc 3 1, 3) := by decide +kernel
theorem dX8_custom_153 : decode cX8_custom 153 = .ok (.goto (-21), 3) := by decide +kernel
theorem dX8_custom_156 : decode cX8_custom 156 = .ok (.iload_n 2, 1) := by decide +kernel
theorem dX8_custom_157 : decode cX8_custom 157 = .ok (.ireturn, 1) := by decide +kernel
theorem dX8_fault_0 : decode cX8_fault 0 = .ok (.iload_n 1, 1) := by decide +kernel
theorem dX8_fault_1 : decode cX8_fault 1 = .ok (.ifCond .ne 10, 3) := by decide +kernel
theorem dX8_fault_4 : decode cX8_fault 4 = .ok (.aload_n 0, 1) := by decide +kernel
theorem dX8_fault_5 : decode cX8_fault 5 = .ok (.getfield 13, 3) := by decide +kernel
theorem dX8_fault_8 : decode cX8_fault 8 = .ok (.goto 16, 3) := by decide +kernel
theorem dX8_fault_11 : decode cX8_fault 11 = .ok (.iload_n 1, 1) := by decide +kernel
theorem dX8_fault_12 : decode cX8_fault 12 = .ok (.iconst 1, 1) := by decide +kernel
theorem dX8_fault_13 : decode cX8_fault 13 = .ok (.if_icmp .ne 10, 3) := by decide +kernel
theorem dX8_fault_16 : decode cX8_fault 16 = .ok (.aload_n 0, 1) := by decide +kernel
theorem dX8_fault_17 : decode cX8_fault 17 = .ok (.getfield 17, 3) := by decide +kernel
theorem dX8_fault_20 : decode cX8_fault 20 = .ok (.goto 4, 3) := by decide +kernel
theorem dX8_fault_23 : decode cX8_fault 23 = .ok (.iconst (-1), 1) := by decide +kernel
theorem dX8_fault_24 : decode cX8_fault 24 = .ok (.ireturn, 1) := by decide +kernel
theorem dX8_says_0 : decode cX8_says 0 = .ok (.iload_n 1, 1) := by decide +kernel
theorem dX8_says_1 : decode cX8_says 1 = .ok (.i2l, 1) := by decide +kernel
theorem dX8_says_2 : decode cX8_says 2 = .ok (.lconst 0, 1) := by decide +kernel
theorem dX8_says_3 : decode cX8_says 3 = .ok (.ldc2_w 218, 3) := by decide +kernel
theorem dX8_says_6 : decode cX8_says 6 = .ok (.invokestatic 118, 3) := by decide +kernel
theorem dX8_says_9 : decode cX8_says 9 = .ok (.ifCond .eq 12, 3) := by decide +kernel
theorem dX8_says_12 : decode cX8_says 12 = .ok (.aload_n 0, 1) := by decide +kernel
theorem dX8_says_13 : decode cX8_says 13 = .ok (.getfield 28, 3) := by decide +kernel
theorem dX8_says_16 : decode cX8_says 16 = .ok (.iload_n 1, 1) := by decide +kernel
theorem dX8_says_17 : decode cX8_says 17 = .ok (.iaload, 1) := by decide +kernel
theorem dX8_says_18 : decode cX8_says 18 = .ok (.goto 4, 3) := by decide +kernel
theorem dX8_says_21 : decode cX8_says 21 = .ok (.iconst (-1), 1) := by decide +kernel
theorem dX8_says_22 : decode cX8_says 22 = .ok (.ireturn, 1) := by decide +kernel
theorem dX8_ill_0 : decode cX8_ill 0 = .ok (.aload_n 0, 1) := by decide +kernel
theorem dX8_ill_1 : decode cX8_ill 1 = .ok (.iload_n 1, 1) := by decide +kernel
theorem dX8_ill_2 : decode cX8_ill 2 = .ok (.invokevirtual 127, 3) := by decide +kernel
theorem dX8_ill_5 : decode cX8_ill 5 = .ok (.ifCond .eq 15, 3) := by decide +kernel
theorem dX8_ill_20 : decode cX8_ill 20 = .ok (.iconst 0, 1) := by decide +kernel
theorem dX8_ill_21 : decode cX8_ill 21 = .ok (.ireturn, 1) := by decide +kernel
theorem dX8_work_0 : decode cX8_work 0 = .ok (.aload_n 0, 1) := by decide +kernel
theorem dX8_work_1 : decode cX8_work 1 = .ok (.iload_n 1, 1) := by decide +kernel
theorem dX8_work_2 : decode cX8_work 2 = .ok (.invokevirtual 127, 3) := by decide +kernel
theorem dX8_work_5 : decode cX8_work 5 = .ok (.ifCond .eq 31, 3) := by decide +kernel
theorem dX8_work_36 : decode cX8_work 36 = .ok (.iconst (-1), 1) := by decide +kernel
theorem dX8_work_37 : decode cX8_work 37 = .ok (.ireturn, 1) := by decide +kernel
theorem dX8_hire_0 : decode cX8_hire 0 = .ok (.aload_n 0, 1) := by decide +kernel
theorem dX8_hire_1 : decode cX8_hire 1 = .ok (.iload_n 1, 1) := by decide +kernel
theorem dX8_hire_2 : decode cX8_hire 2 = .ok (.iload_n 2, 1) := by decide +kernel
theorem dX8_hire_3 : decode cX8_hire 3 = .ok (.invokevirtual 233, 3) := by decide +kernel
theorem dX8_hire_6 : decode cX8_hire 6 = .ok (.ifCond .eq 14, 3) := by decide +kernel
theorem dX8_hire_20 : decode cX8_hire 20 = .ok (.iconst (-1), 1) := by decide +kernel
theorem dX8_hire_21 : decode cX8_hire 21 = .ok (.ireturn, 1) := by decide +kernel
theorem dX8_drops_0 : decode cX8_drops 0 = .ok (.iconst 0, 1) := by decide +kernel
theorem dX8_drops_1 : decode cX8_drops 1 = .ok (.istore_n 1, 1) := by decide +kernel
theorem dX8_drops_2 : decode cX8_drops 2 = .ok (.iconst 0, 1) := by decide +kernel
theorem dX8_drops_3 : decode cX8_drops 3 = .ok (.istore_n 2, 1) := by decide +kernel
theorem dX8_drops_4 : decode cX8_drops 4 = .ok (.iload_n 2, 1) := by decide +kernel
theorem dX8_drops_5 : decode cX8_drops 5 = .ok (.aload_n 0, 1) := by decide +kernel
theorem dX8_drops_6 : decode cX8_drops 6 = .ok (.getfield 230, 3) := by decide +kernel
theorem dX8_drops_9 : decode cX8_drops 9 = .ok (.if_icmp .ge 69, 3) := by decide +kernel
theorem dX8_drops_78 : decode cX8_drops 78 = .ok (.aload_n 0, 1) := by decide +kernel
theorem dX8_drops_79 : decode cX8_drops 79 = .ok (.iload_n 1, 1) := by decide +kernel
theorem dX8_drops_80 : decode cX8_drops 80 = .ok (.putfield 230, 3) := by decide +kernel
theorem dX8_drops_83 : decode cX8_drops 83 = .ok (.return_, 1) := by decide +kernel
theorem dX8_goes_0 : decode cX8_goes 0 = .ok (.aload_n 0, 1) := by decide +kernel
theorem dX8_goes_1 : decode cX8_goes 1 = .ok (.dup, 1) := by decide +kernel
theorem dX8_goes_2 : decode cX8_goes 2 = .ok (.getfield 223, 3) := by decide +kernel
theorem dX8_goes_5 : decode cX8_goes 5 = .ok (.iconst 1, 1) := by decide +kernel
theorem dX8_goes_6 : decode cX8_goes 6 = .ok (.iadd, 1) := by decide +kernel
theorem dX8_goes_7 : decode cX8_goes 7 = .ok (.putfield 223, 3) := by decide +kernel
theorem dX8_goes_10 : decode cX8_goes 10 = .ok (.aload_n 0, 1) := by decide +kernel
theorem dX8_goes_11 : decode cX8_goes 11 = .ok (.iconst 0, 1) := by decide +kernel
theorem dX8_goes_12 : decode cX8_goes 12 = .ok (.putfield 254, 3) := by decide +kernel
theorem dX8_goes_15 : decode cX8_goes 15 = .ok (.iconst 0, 1) := by decide +kernel
theorem dX8_goes_16 : decode cX8_goes 16 = .ok (.istore_n 1, 1) := by decide +kernel
theorem dX8_goes_17 : decode cX8_goes 17 = .ok (.iload_n 1, 1) := by decide +kernel
theorem dX8_goes_18 : decode cX8_goes 18 = .ok (.aload_n 0, 1) := by decide +kernel
theorem dX8_goes_19 : decode cX8_goes 19 = .ok (.getfield 115, 3) := by decide +kernel
theorem dX8_goes_22 : decode cX8_goes 22 = .ok (.if_icmp .ge 39, 3) := by decide +kernel
theorem dX8_goes_61 : decode cX8_goes 61 = .ok (.iconst 0, 1) := by decide +kernel
theorem dX8_goes_62 : decode cX8_goes 62 = .ok (.istore_n 1, 1) := by decide +kernel
theorem dX8_goes_63 : decode cX8_goes 63 = .ok (.iload_n 1, 1) := by decide +kernel
theorem dX8_goes_64 : decode cX8_goes 64 = .ok (.aload_n 0, 1) := by decide +kernel
theorem dX8_goes_65 : decode cX8_goes 65 = .ok (.getfield 230, 3) := by decide +kernel
theorem dX8_goes_68 : decode cX8_goes 68 = .ok (.if_icmp .ge 83, 3) := by decide +kernel
theorem dX8_goes_151 : decode cX8_goes 151 = .ok (.aload_n 0, 1) := by decide +kernel
theorem dX8_goes_152 : decode cX8_goes 152 = .ok (.invokevirtual 247, 3) := by decide +kernel
theorem dX8_goes_155 : decode cX8_goes 155 = .ok (.return_, 1) := by decide +kernel
theorem dX8_days_0 : decode cX8_days 0 = .ok (.iload_n 1, 1) := by decide +kernel
theorem dX8_days_1 : decode cX8_days 1 = .ok (.i2l, 1) := by decide +kernel
theorem dX8_days_2 : decode cX8_days 2 = .ok (.lconst 1, 1) := by decide +kernel
theorem dX8_days_3 : decode cX8_days 3 = .ok (.ldc2_w 139, 3) := by decide +kernel
theorem dX8_days_6 : decode cX8_days 6 = .ok (.invokestatic 118, 3) := by decide +kernel
theorem dX8_days_9 : decode cX8_days 9 = .ok (.ifCond .eq 15, 3) := by decide +kernel
theorem dX8_days_12 : decode cX8_days 12 = .ok (.aload_n 0, 1) := by decide +kernel
theorem dX8_days_13 : decode cX8_days 13 = .ok (.getfield 223, 3) := by decide +kernel
theorem dX8_days_16 : decode cX8_days 16 = .ok (.iload_n 1, 1) := by decide +kernel
theorem dX8_days_17 : decode cX8_days 17 = .ok (.iadd, 1) := by decide +kernel
theorem dX8_days_18 : decode cX8_days 18 = .ok (.sipush 400, 3) := by decide +kernel
theorem dX8_days_21 : decode cX8_days 21 = .ok (.if_icmp .le 5, 3) := by decide +kernel
theorem dX8_days_24 : decode cX8_days 24 = .ok (.iconst (-1), 1) := by decide +kernel
theorem dX8_days_25 : decode cX8_days 25 = .ok (.ireturn, 1) := by decide +kernel
theorem dX8_days_26 : decode cX8_days 26 = .ok (.iconst 0, 1) := by decide +kernel
theorem dX8_days_27 : decode cX8_days 27 = .ok (.istore_n 2, 1) := by decide +kernel
theorem dX8_days_28 : decode cX8_days 28 = .ok (.iload_n 2, 1) := by decide +kernel
theorem dX8_days_29 : decode cX8_days 29 = .ok (.iload_n 1, 1) := by decide +kernel
theorem dX8_days_30 : decode cX8_days 30 = .ok (.if_icmp .ge 13, 3) := by decide +kernel
theorem dX8_days_33 : decode cX8_days 33 = .ok (.aload_n 0, 1) := by decide +kernel
theorem dX8_days_34 : decode cX8_days 34 = .ok (.invokevirtual 257, 3) := by decide +kernel
theorem dX8_days_37 : decode cX8_days 37 = .ok (.iinc 2 1, 3) := by decide +kernel
theorem dX8_days_40 : decode cX8_days 40 = .ok (.goto (-12), 3) := by decide +kernel
theorem dX8_days_43 : decode cX8_days 43 = .ok (.aload_n 0, 1) := by decide +kernel
theorem dX8_days_44 : decode cX8_days 44 = .ok (.getfield 223, 3) := by decide +kernel
theorem dX8_days_47 : decode cX8_days 47 = .ok (.ireturn, 1) := by decide +kernel
theorem dX8_houseOf_0 : decode cX8_houseOf 0 = .ok (.aload_n 0, 1) := by decide +kernel
theorem dX8_houseOf_1 : decode cX8_houseOf 1 = .ok (.iload_n 1, 1) := by decide +kernel
theorem dX8_houseOf_2 : decode cX8_houseOf 2 = .ok (.invokevirtual 127, 3) := by decide +kernel
theorem dX8_houseOf_5 : decode cX8_houseOf 5 = .ok (.ifCond .ne 7, 3) := by decide +kernel
theorem dX8_houseOf_8 : decode cX8_houseOf 8 = .ok (.ldc_w 263, 3) := by decide +kernel
theorem dX8_houseOf_11 : decode cX8_houseOf 11 = .ok (.ireturn, 1) := by decide +kernel
theorem dX8_fieldOf_0 : decode cX8_fieldOf 0 = .ok (.aload_n 0, 1) := by decide +kernel
theorem dX8_fieldOf_1 : decode cX8_fieldOf 1 = .ok (.iload_n 1, 1) := by decide +kernel
theorem dX8_fieldOf_2 : decode cX8_fieldOf 2 = .ok (.invokevirtual 220, 3) := by decide +kernel
theorem dX8_fieldOf_5 : decode cX8_fieldOf 5 = .ok (.ifCond .ne 5, 3) := by decide +kernel
theorem dX8_fieldOf_8 : decode cX8_fieldOf 8 = .ok (.iconst (-1), 1) := by decide +kernel
theorem dX8_fieldOf_9 : decode cX8_fieldOf 9 = .ok (.ireturn, 1) := by decide +kernel
theorem dX8_owes_0 : decode cX8_owes 0 = .ok (.aload_n 0, 1) := by decide +kernel
theorem dX8_owes_1 : decode cX8_owes 1 = .ok (.iload_n 1, 1) := by decide +kernel
theorem dX8_owes_2 : decode cX8_owes 2 = .ok (.invokevirtual 127, 3) := by decide +kernel
theorem dX8_owes_5 : decode cX8_owes 5 = .ok (.ifCond .eq 16, 3) := by decide +kernel
theorem dX8_owes_21 : decode cX8_owes 21 = .ok (.iconst (-1), 1) := by decide +kernel
theorem dX8_owes_22 : decode cX8_owes 22 = .ok (.goto 9, 3) := by decide +kernel
theorem dX8_owes_31 : decode cX8_owes 31 = .ok (.ireturn, 1) := by decide +kernel
theorem dX8_oldest_0 : decode cX8_oldest 0 = .ok (.aload_n 0, 1) := by decide +kernel
theorem dX8_oldest_1 : decode cX8_oldest 1 = .ok (.iload_n 1, 1) := by decide +kernel
theorem dX8_oldest_2 : decode cX8_oldest 2 = .ok (.invokevirtual 127, 3) := by decide +kernel
theorem dX8_oldest_5 : decode cX8_oldest 5 = .ok (.ifCond .eq 11, 3) := by decide +kernel
theorem dX8_oldest_16 : decode cX8_oldest 16 = .ok (.iconst (-1), 1) := by decide +kernel
theorem dX8_oldest_17 : decode cX8_oldest 17 = .ok (.ireturn, 1) := by decide +kernel
theorem dX8_parts_0 : decode cX8_parts 0 = .ok (.aload_n 0, 1) := by decide +kernel
theorem dX8_parts_1 : decode cX8_parts 1 = .ok (.getfield 94, 3) := by decide +kernel
theorem dX8_parts_4 : decode cX8_parts 4 = .ok (.iconst 0, 1) := by decide +kernel
theorem dX8_parts_5 : decode cX8_parts 5 = .ok (.iconst 0, 1) := by decide +kernel
theorem dX8_parts_6 : decode cX8_parts 6 = .ok (.iastore, 1) := by decide +kernel
theorem dX8_parts_7 : decode cX8_parts 7 = .ok (.iconst 1, 1) := by decide +kernel
theorem dX8_parts_8 : decode cX8_parts 8 = .ok (.istore_n 2, 1) := by decide +kernel
theorem dX8_parts_9 : decode cX8_parts 9 = .ok (.iload_n 2, 1) := by decide +kernel
theorem dX8_parts_10 : decode cX8_parts 10 = .ok (.iload_n 1, 1) := by decide +kernel
theorem dX8_parts_11 : decode cX8_parts 11 = .ok (.if_icmp .gt 114, 3) := by decide +kernel
theorem dX8_parts_125 : decode cX8_parts 125 = .ok (.return_, 1) := by decide +kernel
theorem dX8_pays_0 : decode cX8_pays 0 = .ok (.iconst 0, 1) := by decide +kernel
theorem dX8_pays_1 : decode cX8_pays 1 = .ok (.istore_n 1, 1) := by decide +kernel
theorem dX8_pays_2 : decode cX8_pays 2 = .ok (.aload_n 0, 1) := by decide +kernel
theorem dX8_pays_3 : decode cX8_pays 3 = .ok (.iconst 0, 1) := by decide +kernel
theorem dX8_pays_4 : decode cX8_pays 4 = .ok (.putfield 276, 3) := by decide +kernel
theorem dX8_pays_7 : decode cX8_pays 7 = .ok (.iconst 0, 1) := by decide +kernel
theorem dX8_pays_8 : decode cX8_pays 8 = .ok (.istore_n 2, 1) := by decide +kernel
theorem dX8_pays_9 : decode cX8_pays 9 = .ok (.iload_n 2, 1) := by decide +kernel
theorem dX8_pays_10 : decode cX8_pays 10 = .ok (.aload_n 0, 1) := by decide +kernel
theorem dX8_pays_11 : decode cX8_pays 11 = .ok (.getfield 115, 3) := by decide +kernel
theorem dX8_pays_14 : decode cX8_pays 14 = .ok (.if_icmp .ge 39, 3) := by decide +kernel
theorem dX8_pays_53 : decode cX8_pays 53 = .ok (.aload_n 0, 1) := by decide +kernel
theorem dX8_pays_54 : decode cX8_pays 54 = .ok (.iload_n 1, 1) := by decide +kernel
theorem dX8_pays_55 : decode cX8_pays 55 = .ok (.invokevirtual 279, 3) := by decide +kernel
theorem dX8_pays_58 : decode cX8_pays 58 = .ok (.iload_n 1, 1) := by decide +kernel
theorem dX8_pays_59 : decode cX8_pays 59 = .ok (.ifCond .le 68, 3) := by decide +kernel
theorem dX8_pays_127 : decode cX8_pays 127 = .ok (.return_, 1) := by decide +kernel
theorem dX8_payments_0 : decode cX8_payments 0 = .ok (.aload_n 0, 1) := by decide +kernel
theorem dX8_payments_1 : decode cX8_payments 1 = .ok (.invokevirtual 289, 3) := by decide +kernel
theorem dX8_payments_4 : decode cX8_payments 4 = .ok (.aload_n 0, 1) := by decide +kernel
theorem dX8_payments_5 : decode cX8_payments 5 = .ok (.getfield 276, 3) := by decide +kernel
theorem dX8_payments_8 : decode cX8_payments 8 = .ok (.ireturn, 1) := by decide +kernel
theorem dX8_payment_0 : decode cX8_payment 0 = .ok (.aload_n 0, 1) := by decide +kernel
theorem dX8_payment_1 : decode cX8_payment 1 = .ok (.invokevirtual 289, 3) := by decide +kernel
theorem dX8_payment_4 : decode cX8_payment 4 = .ok (.iload_n 1, 1) := by decide +kernel
theorem dX8_payment_5 : decode cX8_payment 5 = .ok (.i2l, 1) := by decide +kernel
theorem dX8_payment_6 : decode cX8_payment 6 = .ok (.lconst 0, 1) := by decide +kernel
theorem dX8_payment_7 : decode cX8_payment 7 = .ok (.aload_n 0, 1) := by decide +kernel
theorem dX8_payment_8 : decode cX8_payment 8 = .ok (.getfield 276, 3) := by decide +kernel
theorem dX8_payment_11 : decode cX8_payment 11 = .ok (.iconst 1, 1) := by decide +kernel
theorem dX8_payment_12 : decode cX8_payment 12 = .ok (.isub, 1) := by decide +kernel
theorem dX8_payment_13 : decode cX8_payment 13 = .ok (.i2l, 1) := by decide +kernel
theorem dX8_payment_14 : decode cX8_payment 14 = .ok (.invokestatic 118, 3) := by decide +kernel
theorem dX8_payment_17 : decode cX8_payment 17 = .ok (.ifCond .ne 5, 3) := by decide +kernel
theorem dX8_payment_20 : decode cX8_payment 20 = .ok (.iconst (-1), 1) := by decide +kernel
theorem dX8_payment_21 : decode cX8_payment 21 = .ok (.ireturn, 1) := by decide +kernel
theorem dX8_even_0 : decode cX8_even 0 = .ok (.aload_n 0, 1) := by decide +kernel
theorem dX8_even_1 : decode cX8_even 1 = .ok (.invokevirtual 289, 3) := by decide +kernel
theorem dX8_even_4 : decode cX8_even 4 = .ok (.aload_n 0, 1) := by decide +kernel
theorem dX8_even_5 : decode cX8_even 5 = .ok (.iconst 0, 1) := by decide +kernel
theorem dX8_even_6 : decode cX8_even 6 = .ok (.putfield 230, 3) := by decide +kernel
theorem dX8_even_9 : decode cX8_even 9 = .ok (.aload_n 0, 1) := by decide +kernel
theorem dX8_even_10 : decode cX8_even 10 = .ok (.getfield 276, 3) := by decide +kernel
theorem dX8_even_13 : decode cX8_even 13 = .ok (.ireturn, 1) := by decide +kernel
theorem dX8_lost_0 : decode cX8_lost 0 = .ok (.aload_n 0, 1) := by decide +kernel
theorem dX8_lost_1 : decode cX8_lost 1 = .ok (.getfield 292, 3) := by decide +kernel
theorem dX8_lost_4 : decode cX8_lost 4 = .ok (.istore_n 2, 1) := by decide +kernel
theorem dX8_lost_5 : decode cX8_lost 5 = .ok (.iconst 0, 1) := by decide +kernel
theorem dX8_lost_6 : decode cX8_lost 6 = .ok (.istore_n 3, 1) := by decide +kernel
theorem dX8_lost_7 : decode cX8_lost 7 = .ok (.iconst 0, 1) := by decide +kernel
theorem dX8_lost_8 : decode cX8_lost 8 = .ok (.istore 4, 2) := by decide +kernel
theorem dX8_lost_10 : decode cX8_lost 10 = .ok (.iload 4, 2) := by decide +kernel
theorem dX8_lost_12 : decode cX8_lost 12 = .ok (.aload_n 0, 1) := by decide +kernel
theorem dX8_lost_13 : decode cX8_lost 13 = .ok (.getfield 292, 3) := by decide +kernel
theorem dX8_lost_16 : decode cX8_lost 16 = .ok (.if_icmp .ge 33, 3) := by decide +kernel
theorem dX8_lost_49 : decode cX8_lost 49 = .ok (.aload_n 0, 1) := by decide +kernel
theorem dX8_lost_50 : decode cX8_lost 50 = .ok (.getfield 223, 3) := by decide +kernel
theorem dX8_lost_53 : decode cX8_lost 53 = .ok (.istore 4, 2) := by decide +kernel
theorem dX8_lost_55 : decode cX8_lost 55 = .ok (.iload_n 2, 1) := by decide +kernel
theorem dX8_lost_56 : decode cX8_lost 56 = .ok (.ifCond .le 141, 3) := by decide +kernel
theorem dX8_lost_197 : decode cX8_lost 197 = .ok (.iload_n 3, 1) := by decide +kernel
theorem dX8_lost_198 : decode cX8_lost 198 = .ok (.ireturn, 1) := by decide +kernel
theorem dX8_nextOrder_0 : decode cX8_nextOrder 0 = .ok (.aload_n 0, 1) := by decide +kernel
theorem dX8_nextOrder_1 : decode cX8_nextOrder 1 = .ok (.getfield 292, 3) := by decide +kernel
theorem dX8_nextOrder_4 : decode cX8_nextOrder 4 = .ok (.iconst 2, 1) := by decide +kernel
theorem dX8_nextOrder_5 : decode cX8_nextOrder 5 = .ok (.isub, 1) := by decide +kernel
theorem dX8_nextOrder_6 : decode cX8_nextOrder 6 = .ok (.istore_n 1, 1) := by decide +kernel
theorem dX8_nextOrder_7 : decode cX8_nextOrder 7 = .ok (.iload_n 1, 1) := by decide +kernel
theorem dX8_nextOrder_8 : decode cX8_nextOrder 8 = .ok (.ifCond .lt 26, 3) := by decide +kernel
theorem dX8_nextOrder_34 : decode cX8_nextOrder 34 = .ok (.iload_n 1, 1) := by decide +kernel
theorem dX8_nextOrder_35 : decode cX8_nextOrder 35 = .ok (.ifCond .ge 5, 3) := by decide +kernel
theorem dX8_nextOrder_38 : decode cX8_nextOrder 38 = .ok (.iconst 0, 1) := by decide +kernel
theorem dX8_nextOrder_39 : decode cX8_nextOrder 39 = .ok (.ireturn, 1) := by decide +kernel
theorem dX8_plan_0 : decode cX8_plan 0 = .ok (.iconst 0, 1) := by decide +kernel
theorem dX8_plan_1 : decode cX8_plan 1 = .ok (.istore_n 2, 1) := by decide +kernel
theorem dX8_plan_2 : decode cX8_plan 2 = .ok (.iconst 0, 1) := by decide +kernel
theorem dX8_plan_3 : decode cX8_plan 3 = .ok (.istore_n 3, 1) := by decide +kernel
theorem dX8_plan_4 : decode cX8_plan 4 = .ok (.iload_n 3, 1) := by decide +kernel
theorem dX8_plan_5 : decode cX8_plan 5 = .ok (.aload_n 0, 1) := by decide +kernel
theorem dX8_plan_6 : decode cX8_plan 6 = .ok (.getfield 122, 3) := by decide +kernel
theorem dX8_plan_9 : decode cX8_plan 9 = .ok (.if_icmp .ge 26, 3) := by decide +kernel
theorem dX8_plan_35 : decode cX8_plan 35 = .ok (.iload_n 1, 1) := by decide +kernel
theorem dX8_plan_36 : decode cX8_plan 36 = .ok (.i2l, 1) := by decide +kernel
theorem dX8_plan_37 : decode cX8_plan 37 = .ok (.lconst 1, 1) := by decide +kernel
theorem dX8_plan_38 : decode cX8_plan 38 = .ok (.ldc2_w 299, 3) := by decide +kernel
theorem dX8_plan_41 : decode cX8_plan 41 = .ok (.invokestatic 118, 3) := by decide +kernel
theorem dX8_plan_44 : decode cX8_plan 44 = .ok (.ifCond .eq 9, 3) := by decide +kernel
theorem dX8_plan_47 : decode cX8_plan 47 = .ok (.iload_n 2, 1) := by decide +kernel
theorem dX8_plan_48 : decode cX8_plan 48 = .ok (.bipush 7, 2) := by decide +kernel
theorem dX8_plan_50 : decode cX8_plan 50 = .ok (.if_icmp .le 5, 3) := by decide +kernel
theorem dX8_plan_53 : decode cX8_plan 53 = .ok (.iconst (-1), 1) := by decide +kernel
theorem dX8_plan_54 : decode cX8_plan 54 = .ok (.ireturn, 1) := by decide +kernel
theorem dX8_plan_55 : decode cX8_plan 55 = .ok (.aload_n 0, 1) := by decide +kernel
theorem dX8_plan_56 : decode cX8_plan 56 = .ok (.iconst 0, 1) := by decide +kernel
theorem dX8_plan_57 : decode cX8_plan 57 = .ok (.putfield 292, 3) := by decide +kernel
theorem dX8_plan_60 : decode cX8_plan 60 = .ok (.iconst 0, 1) := by decide +kernel
theorem dX8_plan_61 : decode cX8_plan 61 = .ok (.istore_n 3, 1) := by decide +kernel
theorem dX8_plan_62 : decode cX8_plan 62 = .ok (.iload_n 3, 1) := by decide +kernel
theorem dX8_plan_63 : decode cX8_plan 63 = .ok (.aload_n 0, 1) := by decide +kernel
theorem dX8_plan_64 : decode cX8_plan 64 = .ok (.getfield 122, 3) := by decide +kernel
theorem dX8_plan_67 : decode cX8_plan 67 = .ok (.if_icmp .ge 38, 3) := by decide +kernel
theorem dX8_plan_105 : decode cX8_plan 105 = .ok (.aload_n 0, 1) := by decide +kernel
theorem dX8_plan_106 : decode cX8_plan 106 = .ok (.aload_n 0, 1) := by decide +kernel
theorem dX8_plan_107 : decode cX8_plan 107 = .ok (.getfield 292, 3) := by decide +kernel
theorem dX8_plan_110 : decode cX8_plan 110 = .ok (.putfield 301, 3) := by decide +kernel
theorem dX8_plan_113 : decode cX8_plan 113 = .ok (.iconst (-1), 1) := by decide +kernel
theorem dX8_plan_114 : decode cX8_plan 114 = .ok (.istore_n 3, 1) := by decide +kernel
theorem dX8_plan_115 : decode cX8_plan 115 = .ok (.iconst 1, 1) := by decide +kernel
theorem dX8_plan_116 : decode cX8_plan 116 = .ok (.istore 4, 2) := by decide +kernel
theorem dX8_plan_118 : decode cX8_plan 118 = .ok (.iload 4, 2) := by decide +kernel
theorem dX8_plan_120 : decode cX8_plan 120 = .ok (.ifCond .eq 64, 3) := by decide +kernel
theorem dX8_plan_123 : decode cX8_plan 123 = .ok (.aload_n 0, 1) := by decide +kernel
theorem dX8_plan_124 : decode cX8_plan 124 = .ok (.iload_n 1, 1) := by decide +kernel
theorem dX8_plan_125 : decode cX8_plan 125 = .ok (.invokevirtual 304, 3) := by decide +kernel
theorem dX8_plan_128 : decode cX8_plan 128 = .ok (.istore 5, 2) := by decide +kernel
theorem dX8_plan_130 : decode cX8_plan 130 = .ok (.iload_n 3, 1) := by decide +kernel
theorem dX8_plan_131 : decode cX8_plan 131 = .ok (.ifCond .lt 9, 3) := by decide +kernel
theorem dX8_plan_140 : decode cX8_plan 140 = .ok (.iload 5, 2) := by decide +kernel
theorem dX8_plan_142 : decode cX8_plan 142 = .ok (.istore_n 3, 1) := by decide +kernel
theorem dX8_plan_143 : decode cX8_plan 143 = .ok (.iconst 0, 1) := by decide +kernel
theorem dX8_plan_144 : decode cX8_plan 144 = .ok (.istore 6, 2) := by decide +kernel
theorem dX8_plan_146 : decode cX8_plan 146 = .ok (.iload 6, 2) := by decide +kernel
theorem dX8_plan_148 : decode cX8_plan 148 = .ok (.aload_n 0, 1) := by decide +kernel
theorem dX8_plan_149 : decode cX8_plan 149 = .ok (.getfield 292, 3) := by decide +kernel
theorem dX8_plan_152 : decode cX8_plan 152 = .ok (.if_icmp .ge 23, 3) := by decide +kernel
theorem dX8_plan_175 : decode cX8_plan 175 = .ok (.aload_n 0, 1) := by decide +kernel
theorem dX8_plan_176 : decode cX8_plan 176 = .ok (.invokevirtual 307, 3) := by decide +kernel
theorem dX8_plan_179 : decode cX8_plan 179 = .ok (.istore 4, 2) := by decide +kernel
theorem dX8_plan_181 : decode cX8_plan 181 = .ok (.goto (-63), 3) := by decide +kernel
theorem dX8_plan_184 : decode cX8_plan 184 = .ok (.iload_n 3, 1) := by decide +kernel
theorem dX8_plan_185 : decode cX8_plan 185 = .ok (.ireturn, 1) := by decide +kernel
theorem dX8_planned_0 : decode cX8_planned 0 = .ok (.iload_n 1, 1) := by decide +kernel
theorem dX8_planned_1 : decode cX8_planned 1 = .ok (.i2l, 1) := by decide +kernel
theorem dX8_planned_2 : decode cX8_planned 2 = .ok (.lconst 0, 1) := by decide +kernel
theorem dX8_planned_3 : decode cX8_planned 3 = .ok (.aload_n 0, 1) := by decide +kernel
theorem dX8_planned_4 : decode cX8_planned 4 = .ok (.getfield 301, 3) := by decide +kernel
theorem dX8_planned_7 : decode cX8_planned 7 = .ok (.iconst 1, 1) := by decide +kernel
theorem dX8_planned_8 : decode cX8_planned 8 = .ok (.isub, 1) := by decide +kernel
theorem dX8_planned_9 : decode cX8_planned 9 = .ok (.i2l, 1) := by decide +kernel
theorem dX8_planned_10 : decode cX8_planned 10 = .ok (.invokestatic 118, 3) := by decide +kernel
theorem dX8_planned_13 : decode cX8_planned 13 = .ok (.ifCond .eq 12, 3) := by decide +kernel
theorem dX8_planned_25 : decode cX8_planned 25 = .ok (.iconst (-1), 1) := by decide +kernel
theorem dX8_planned_26 : decode cX8_planned 26 = .ok (.ireturn, 1) := by decide +kernel
theorem dX8_about_0 : decode cX8_about 0 = .ok (.iload_n 1, 1) := by decide +kernel
theorem dX8_about_1 : decode cX8_about 1 = .ok (.tableswitch 69 0 5 #[39, 44, 49, 54, 59, 64], 39) := by decide +kernel
theorem dX8_about_40 : decode cX8_about 40 = .ok (.aload_n 0, 1) := by decide +kernel
theorem dX8_about_41 : decode cX8_about 41 = .ok (.getfield 115, 3) := by decide +kernel
theorem dX8_about_44 : decode cX8_about 44 = .ok (.ireturn, 1) := by decide +kernel
theorem dX8_about_45 : decode cX8_about 45 = .ok (.aload_n 0, 1) := by decide +kernel
theorem dX8_about_46 : decode cX8_about 46 = .ok (.getfield 122, 3) := by decide +kernel
theorem dX8_about_49 : decode cX8_about 49 = .ok (.ireturn, 1) := by decide +kernel
theorem dX8_about_50 : decode cX8_about 50 = .ok (.aload_n 0, 1) := by decide +kernel
theorem dX8_about_51 : decode cX8_about 51 = .ok (.getfield 223, 3) := by decide +kernel
theorem dX8_about_54 : decode cX8_about 54 = .ok (.ireturn, 1) := by decide +kernel
theorem dX8_about_55 : decode cX8_about 55 = .ok (.aload_n 0, 1) := by decide +kernel
theorem dX8_about_56 : decode cX8_about 56 = .ok (.getfield 230, 3) := by decide +kernel
theorem dX8_about_59 : decode cX8_about 59 = .ok (.ireturn, 1) := by decide +kernel
theorem dX8_about_60 : decode cX8_about 60 = .ok (.aload_n 0, 1) := by decide +kernel
theorem dX8_about_61 : decode cX8_about 61 = .ok (.getfield 254, 3) := by decide +kernel
theorem dX8_about_64 : decode cX8_about 64 = .ok (.ireturn, 1) := by decide +kernel
theorem dX8_about_65 : decode cX8_about 65 = .ok (.aload_n 0, 1) := by decide +kernel
theorem dX8_about_66 : decode cX8_about 66 = .ok (.getfield 141, 3) := by decide +kernel
theorem dX8_about_69 : decode cX8_about 69 = .ok (.ireturn, 1) := by decide +kernel
theorem dX8_about_70 : decode cX8_about 70 = .ok (.iload_n 1, 1) := by decide +kernel
theorem dX8_about_71 : decode cX8_about 71 = .ok (.i2l, 1) := by decide +kernel
theorem dX8_about_72 : decode cX8_about 72 = .ok (.ldc2_w 311, 3) := by decide +kernel
theorem dX8_about_75 : decode cX8_about 75 = .ok (.ldc2_w 313, 3) := by decide +kernel
theorem dX8_about_78 : decode cX8_about 78 = .ok (.invokestatic 118, 3) := by decide +kernel
theorem dX8_about_81 : decode cX8_about 81 = .ok (.ifCond .eq 15, 3) := by decide +kernel
theorem dX8_about_84 : decode cX8_about 84 = .ok (.aload_n 0, 1) := by decide +kernel
theorem dX8_about_85 : decode cX8_about 85 = .ok (.getfield 55, 3) := by decide +kernel
theorem dX8_about_88 : decode cX8_about 88 = .ok (.iload_n 1, 1) := by decide +kernel
theorem dX8_about_89 : decode cX8_about 89 = .ok (.bipush 20, 2) := by decide +kernel
theorem dX8_about_91 : decode cX8_about 91 = .ok (.isub, 1) := by decide +kernel
theorem dX8_about_92 : decode cX8_about 92 = .ok (.iaload, 1) := by decide +kernel
theorem dX8_about_93 : decode cX8_about 93 = .ok (.goto 4, 3) := by decide +kernel
theorem dX8_about_96 : decode cX8_about 96 = .ok (.iconst (-1), 1) := by decide +kernel
theorem dX8_about_97 : decode cX8_about 97 = .ok (.ireturn, 1) := by decide +kernel
