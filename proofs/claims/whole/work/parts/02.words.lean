theorem tp_1 : Cond.selects nR_Machines nY_Machines_steer nY_Machines_steer ∈ TT := tt_p (i := 1) (by decide +kernel) (by decide +kernel)
theorem tp_2 : Cond.selects nR_Room nY_Room_addRiskPoints nY_Room_addRiskPoints ∈ TT := tt_p (i := 2) (by decide +kernel) (by decide +kernel)
theorem tp_3 : Cond.selects nR_Rules nY_Rules_isBroken nY_Rules_isBroken ∈ TT := tt_p (i := 3) (by decide +kernel) (by decide +kernel)
theorem tp_4 : Cond.selects nR_Rules nY_Rules_isHeld nY_Rules_isHeld ∈ TT := tt_p (i := 4) (by decide +kernel) (by decide +kernel)
theorem tp_5 : Cond.selects nR_Gauge nY_Gauge_lastCheckUpTo nY_Gauge_lastCheckUpTo ∈ TT := tt_p (i := 5) (by decide +kernel) (by decide +kernel)
theorem tp_6 : Cond.selects nR_Gauge nY_Gauge_firstCheckFrom nY_Gauge_firstCheckFrom ∈ TT := tt_p (i := 6) (by decide +kernel) (by decide +kernel)
theorem tp_7 : Cond.selects nR_Gauge nY_Gauge_driftOfCheck nY_Gauge_driftOfCheck ∈ TT := tt_p (i := 7) (by decide +kernel) (by decide +kernel)
theorem tp_8 : Cond.selects nR_Room nY_Room_costOfLevel nY_Room_costOfLevel ∈ TT := tt_p (i := 8) (by decide +kernel) (by decide +kernel)
theorem tp_9 : Cond.selects nR_Model nY_Model_goes nY_Model_goes ∈ TT := tt_p (i := 9) (by decide +kernel) (by decide +kernel)
theorem tp_10 : Cond.selects nR_Model nY_Model_goBy nY_Model_goBy ∈ TT := tt_p (i := 10) (by decide +kernel) (by decide +kernel)
theorem tp_11 : Cond.selects nR_Model nY_Model_air nY_Model_air ∈ TT := tt_p (i := 11) (by decide +kernel) (by decide +kernel)
theorem tp_12 : Cond.selects nR_Model nY_Model_degreesNow nY_Model_degreesNow ∈ TT := tt_p (i := 12) (by decide +kernel) (by decide +kernel)
theorem tp_13 : Cond.selects nR_Model nY_Model_dampNow nY_Model_dampNow ∈ TT := tt_p (i := 13) (by decide +kernel) (by decide +kernel)
theorem tp_14 : Cond.selects nR_Model nY_Model_change nY_Model_change ∈ TT := tt_p (i := 14) (by decide +kernel) (by decide +kernel)
theorem tp_15 : Cond.selects nR_Model nY_Model_walls nY_Model_walls ∈ TT := tt_p (i := 15) (by decide +kernel) (by decide +kernel)
theorem tp_16 : Cond.selects nR_Model nY_Model_layerNow nY_Model_layerNow ∈ TT := tt_p (i := 16) (by decide +kernel) (by decide +kernel)
theorem tp_17 : Cond.selects nR_Model nY_Model_goodsTake nY_Model_goodsTake ∈ TT := tt_p (i := 17) (by decide +kernel) (by decide +kernel)
theorem tp_18 : Cond.selects nR_Model nY_Model_due nY_Model_due ∈ TT := tt_p (i := 18) (by decide +kernel) (by decide +kernel)
theorem tp_19 : Cond.selects nR_Model nY_Model_works nY_Model_works ∈ TT := tt_p (i := 19) (by decide +kernel) (by decide +kernel)
theorem tp_20 : Cond.selects nR_Model nY_Model_addPoints nY_Model_addPoints ∈ TT := tt_p (i := 20) (by decide +kernel) (by decide +kernel)
theorem tp_21 : Cond.selects nR_Model nY_Model_ring nY_Model_ring ∈ TT := tt_p (i := 21) (by decide +kernel) (by decide +kernel)
theorem tp_22 : Cond.selects nR_Model nY_Model_isLayer nY_Model_isLayer ∈ TT := tt_p (i := 22) (by decide +kernel) (by decide +kernel)
theorem tp_23 : Cond.selects nR_Model nY_Model_wasHour nY_Model_wasHour ∈ TT := tt_p (i := 23) (by decide +kernel) (by decide +kernel)
theorem tp_24 : Cond.selects nR_Model nY_Model_tried nY_Model_tried ∈ TT := tt_p (i := 24) (by decide +kernel) (by decide +kernel)
theorem tt_1 : Cond.initialized nR_Room ∈ TT := tt_t (i := 1) (by decide +kernel) (by decide +kernel)
theorem tt_2 : Cond.initialized nR_Steps ∈ TT := tt_t (i := 2) (by decide +kernel) (by decide +kernel)
theorem tt_3 : Cond.initialized nR_House ∈ TT := tt_t (i := 3) (by decide +kernel) (by decide +kernel)
theorem tt_4 : Cond.initialized nR_Interior ∈ TT := tt_t (i := 4) (by decide +kernel) (by decide +kernel)
theorem tt_5 : Cond.initialized nR_Walls ∈ TT := tt_t (i := 5) (by decide +kernel) (by decide +kernel)
theorem tt_6 : Cond.initialized nR_Machines ∈ TT := tt_t (i := 6) (by decide +kernel) (by decide +kernel)
theorem tt_7 : Cond.initialized nR_Goods ∈ TT := tt_t (i := 7) (by decide +kernel) (by decide +kernel)
theorem tt_8 : Cond.initialized nR_Rules ∈ TT := tt_t (i := 8) (by decide +kernel) (by decide +kernel)
theorem tt_9 : Cond.initialized nR_Gauge ∈ TT := tt_t (i := 9) (by decide +kernel) (by decide +kernel)
theorem tt_10 : Cond.initialized nR_Model ∈ TT := tt_t (i := 10) (by decide +kernel) (by decide +kernel)
theorem tt_11 : Cond.initialized "java/lang/Throwable" ∈ TT := tt_t (i := 11) (by decide +kernel) (by decide +kernel)
theorem tt_14 : Cond.initialized "java/lang/IllegalArgumentException" ∈ TT := tt_t (i := 14) (by decide +kernel) (by decide +kernel)
theorem tt_15 : Cond.initialized "java/lang/IllegalStateException" ∈ TT := tt_t (i := 15) (by decide +kernel) (by decide +kernel)
theorem tt_16 : Cond.initialized "java/lang/IndexOutOfBoundsException" ∈ TT := tt_t (i := 16) (by decide +kernel) (by decide +kernel)
theorem tt_17 : Cond.initialized nR_Math ∈ TT := tt_t (i := 17) (by decide +kernel) (by decide +kernel)
theorem tt_24 : Cond.instanceMethod objectInit ∈ TT := tt_t (i := 24) (by decide +kernel) (by decide +kernel)
set_option maxRecDepth 100000 in
theorem tt_25 : Cond.code objectInit object_method_1_code 1 none ∈ TT := tt_t (i := 25) (rfl) (by decide +kernel)
theorem tt_32 : Cond.fieldLink nR_Steps 7 "RoomClimate$Steps" "levels" "[I" ∈ TT := tt_t (i := 32) (by decide +kernel) (by decide +kernel)
theorem tt_33 : Cond.fieldLink nR_Steps 13 "RoomClimate$Steps" "amounts" "[I" ∈ TT := tt_t (i := 33) (by decide +kernel) (by decide +kernel)
theorem tt_34 : Cond.fieldLink nR_Steps 16 "RoomClimate$Steps" "size" "I" ∈ TT := tt_t (i := 34) (by decide +kernel) (by decide +kernel)
theorem tt_35 : Cond.fieldLinkNest nR_Room 98 "RoomClimate$Steps" "size" "I" "RoomClimate" ∈ TT := tt_t (i := 35) (by decide +kernel) (by decide +kernel)
theorem tt_36 : Cond.laysFinal nR_Steps "RoomClimate$Steps" "levels" "[I" ∈ TT := tt_t (i := 36) (by decide +kernel) (by decide +kernel)
theorem tt_38 : Cond.laysFinal nR_Steps "RoomClimate$Steps" "amounts" "[I" ∈ TT := tt_t (i := 38) (by decide +kernel) (by decide +kernel)
theorem tt_40 : Cond.lays nR_Steps "RoomClimate$Steps" "size" "I" ∈ TT := tt_t (i := 40) (by decide +kernel) (by decide +kernel)
theorem tt_58 : Cond.fieldLink nR_Interior 9 "RoomClimate$Interior" "heatBooks" "[J" ∈ TT := tt_t (i := 58) (by decide +kernel) (by decide +kernel)
theorem tt_59 : Cond.fieldLinkNest nR_Room 156 "RoomClimate$Interior" "heatBooks" "[J" "RoomClimate" ∈ TT := tt_t (i := 59) (by decide +kernel) (by decide +kernel)
theorem tt_60 : Cond.fieldLink nR_Interior 15 "RoomClimate$Interior" "waterBooks" "[J" ∈ TT := tt_t (i := 60) (by decide +kernel) (by decide +kernel)
theorem tt_61 : Cond.fieldLinkNest nR_Room 160 "RoomClimate$Interior" "waterBooks" "[J" "RoomClimate" ∈ TT := tt_t (i := 61) (by decide +kernel) (by decide +kernel)
theorem tt_62 : Cond.fieldLink nR_Interior 18 "RoomClimate$Interior" "volume" "I" ∈ TT := tt_t (i := 62) (by decide +kernel) (by decide +kernel)
theorem tt_63 : Cond.fieldLinkNest nR_Room 60 "RoomClimate$Interior" "volume" "I" "RoomClimate" ∈ TT := tt_t (i := 63) (by decide +kernel) (by decide +kernel)
theorem tt_64 : Cond.fieldLink nR_Interior 22 "RoomClimate$Interior" "share" "I" ∈ TT := tt_t (i := 64) (by decide +kernel) (by decide +kernel)
theorem tt_65 : Cond.fieldLinkNest nR_Room 65 "RoomClimate$Interior" "share" "I" "RoomClimate" ∈ TT := tt_t (i := 65) (by decide +kernel) (by decide +kernel)
theorem tt_66 : Cond.fieldLink nR_Interior 27 "RoomClimate$Interior" "heat" "J" ∈ TT := tt_t (i := 66) (by decide +kernel) (by decide +kernel)
theorem tt_67 : Cond.fieldLinkNest nR_Room 150 "RoomClimate$Interior" "heat" "J" "RoomClimate" ∈ TT := tt_t (i := 67) (by decide +kernel) (by decide +kernel)
theorem tt_68 : Cond.fieldLink nR_Interior 33 "RoomClimate$Interior" "water" "J" ∈ TT := tt_t (i := 68) (by decide +kernel) (by decide +kernel)
theorem tt_69 : Cond.fieldLinkNest nR_Goods 41 "RoomClimate$Interior" "water" "J" "RoomClimate" ∈ TT := tt_t (i := 69) (by decide +kernel) (by decide +kernel)
theorem tt_70 : Cond.fieldLinkNest nR_Machines 51 "RoomClimate$Interior" "water" "J" "RoomClimate" ∈ TT := tt_t (i := 70) (by decide +kernel) (by decide +kernel)
theorem tt_71 : Cond.fieldLinkNest nR_Room 153 "RoomClimate$Interior" "water" "J" "RoomClimate" ∈ TT := tt_t (i := 71) (by decide +kernel) (by decide +kernel)
theorem tt_72 : Cond.laysFinal nR_Interior "RoomClimate$Interior" "heatBooks" "[J" ∈ TT := tt_t (i := 72) (by decide +kernel) (by decide +kernel)
theorem tt_74 : Cond.laysFinal nR_Interior "RoomClimate$Interior" "waterBooks" "[J" ∈ TT := tt_t (i := 74) (by decide +kernel) (by decide +kernel)
theorem tt_76 : Cond.lays nR_Interior "RoomClimate$Interior" "volume" "I" ∈ TT := tt_t (i := 76) (by decide +kernel) (by decide +kernel)
theorem tt_78 : Cond.lays nR_Interior "RoomClimate$Interior" "share" "I" ∈ TT := tt_t (i := 78) (by decide +kernel) (by decide +kernel)
theorem tt_80 : Cond.lays nR_Interior "RoomClimate$Interior" "heat" "J" ∈ TT := tt_t (i := 80) (by decide +kernel) (by decide +kernel)
theorem tt_82 : Cond.lays nR_Interior "RoomClimate$Interior" "water" "J" ∈ TT := tt_t (i := 82) (by decide +kernel) (by decide +kernel)
theorem tt_92 : Cond.fieldLink nR_Walls 9 "RoomClimate$Walls" "conductances" "[I" ∈ TT := tt_t (i := 92) (by decide +kernel) (by decide +kernel)
theorem tt_93 : Cond.fieldLink nR_Walls 15 "RoomClimate$Walls" "capacities" "[I" ∈ TT := tt_t (i := 93) (by decide +kernel) (by decide +kernel)
theorem tt_94 : Cond.fieldLink nR_Walls 18 "RoomClimate$Walls" "heats" "[J" ∈ TT := tt_t (i := 94) (by decide +kernel) (by decide +kernel)
theorem tt_95 : Cond.fieldLink nR_Walls 22 "RoomClimate$Walls" "layers" "I" ∈ TT := tt_t (i := 95) (by decide +kernel) (by decide +kernel)
theorem tt_96 : Cond.fieldLinkNest nR_Room 72 "RoomClimate$Walls" "layers" "I" "RoomClimate" ∈ TT := tt_t (i := 96) (by decide +kernel) (by decide +kernel)
theorem tt_97 : Cond.laysFinal nR_Walls "RoomClimate$Walls" "conductances" "[I" ∈ TT := tt_t (i := 97) (by decide +kernel) (by decide +kernel)
theorem tt_99 : Cond.laysFinal nR_Walls "RoomClimate$Walls" "capacities" "[I" ∈ TT := tt_t (i := 99) (by decide +kernel) (by decide +kernel)
theorem tt_101 : Cond.laysFinal nR_Walls "RoomClimate$Walls" "heats" "[J" ∈ TT := tt_t (i := 101) (by decide +kernel) (by decide +kernel)
theorem tt_103 : Cond.lays nR_Walls "RoomClimate$Walls" "layers" "I" ∈ TT := tt_t (i := 103) (by decide +kernel) (by decide +kernel)
theorem tt_112 : Cond.fieldLink nR_Machines 9 "RoomClimate$Machines" "lows" "[I" ∈ TT := tt_t (i := 112) (by decide +kernel) (by decide +kernel)
theorem tt_113 : Cond.fieldLink nR_Machines 15 "RoomClimate$Machines" "highs" "[I" ∈ TT := tt_t (i := 113) (by decide +kernel) (by decide +kernel)
theorem tt_114 : Cond.fieldLink nR_Machines 18 "RoomClimate$Machines" "rates" "[I" ∈ TT := tt_t (i := 114) (by decide +kernel) (by decide +kernel)
theorem tt_115 : Cond.fieldLink nR_Machines 21 "RoomClimate$Machines" "told" "[Z" ∈ TT := tt_t (i := 115) (by decide +kernel) (by decide +kernel)
theorem tt_116 : Cond.fieldLink nR_Machines 25 "RoomClimate$Machines" "running" "[Z" ∈ TT := tt_t (i := 116) (by decide +kernel) (by decide +kernel)
theorem tt_117 : Cond.fieldLinkNest nR_Room 146 "RoomClimate$Machines" "running" "[Z" "RoomClimate" ∈ TT := tt_t (i := 117) (by decide +kernel) (by decide +kernel)
theorem tt_118 : Cond.laysFinal nR_Machines "RoomClimate$Machines" "lows" "[I" ∈ TT := tt_t (i := 118) (by decide +kernel) (by decide +kernel)
theorem tt_120 : Cond.laysFinal nR_Machines "RoomClimate$Machines" "highs" "[I" ∈ TT := tt_t (i := 120) (by decide +kernel) (by decide +kernel)
theorem tt_122 : Cond.laysFinal nR_Machines "RoomClimate$Machines" "rates" "[I" ∈ TT := tt_t (i := 122) (by decide +kernel) (by decide +kernel)
theorem tt_124 : Cond.laysFinal nR_Machines "RoomClimate$Machines" "told" "[Z" ∈ TT := tt_t (i := 124) (by decide +kernel) (by decide +kernel)
theorem tt_126 : Cond.laysFinal nR_Machines "RoomClimate$Machines" "running" "[Z" ∈ TT := tt_t (i := 126) (by decide +kernel) (by decide +kernel)
theorem tt_136 : Cond.fieldLink nR_Goods 19 "RoomClimate$Goods" "rows" "LRoomClimate$Steps;" ∈ TT := tt_t (i := 136) (by decide +kernel) (by decide +kernel)
theorem tt_137 : Cond.fieldLinkNest nR_Room 94 "RoomClimate$Goods" "rows" "LRoomClimate$Steps;" "RoomClimate" ∈ TT := tt_t (i := 137) (by decide +kernel) (by decide +kernel)
theorem tt_138 : Cond.fieldLink nR_Goods 9 "RoomClimate$Goods" "kilograms" "I" ∈ TT := tt_t (i := 138) (by decide +kernel) (by decide +kernel)
theorem tt_139 : Cond.fieldLinkNest nR_Room 89 "RoomClimate$Goods" "kilograms" "I" "RoomClimate" ∈ TT := tt_t (i := 139) (by decide +kernel) (by decide +kernel)
theorem tt_140 : Cond.fieldLink nR_Goods 15 "RoomClimate$Goods" "load" "J" ∈ TT := tt_t (i := 140) (by decide +kernel) (by decide +kernel)
theorem tt_141 : Cond.fieldLinkNest nR_Room 142 "RoomClimate$Goods" "load" "J" "RoomClimate" ∈ TT := tt_t (i := 141) (by decide +kernel) (by decide +kernel)
theorem tt_142 : Cond.laysFinal nR_Goods "RoomClimate$Goods" "rows" "LRoomClimate$Steps;" ∈ TT := tt_t (i := 142) (by decide +kernel) (by decide +kernel)
theorem tt_144 : Cond.lays nR_Goods "RoomClimate$Goods" "kilograms" "I" ∈ TT := tt_t (i := 144) (by decide +kernel) (by decide +kernel)
theorem tt_146 : Cond.lays nR_Goods "RoomClimate$Goods" "load" "J" ∈ TT := tt_t (i := 146) (by decide +kernel) (by decide +kernel)
theorem tt_149 : Cond.fieldLink nR_House 10 "RoomClimate$House" "inside" "LRoomClimate$Interior;" ∈ TT := tt_t (i := 149) (by decide +kernel) (by decide +kernel)
theorem tt_150 : Cond.fieldLinkNest nR_Room 56 "RoomClimate$House" "inside" "LRoomClimate$Interior;" "RoomClimate" ∈ TT := tt_t (i := 150) (by decide +kernel) (by decide +kernel)
theorem tt_151 : Cond.fieldLink nR_House 19 "RoomClimate$House" "walls" "LRoomClimate$Walls;" ∈ TT := tt_t (i := 151) (by decide +kernel) (by decide +kernel)
theorem tt_152 : Cond.fieldLinkNest nR_Room 68 "RoomClimate$House" "walls" "LRoomClimate$Walls;" "RoomClimate" ∈ TT := tt_t (i := 152) (by decide +kernel) (by decide +kernel)
theorem tt_153 : Cond.fieldLink nR_House 35 "RoomClimate$House" "goods" "LRoomClimate$Goods;" ∈ TT := tt_t (i := 153) (by decide +kernel) (by decide +kernel)
theorem tt_154 : Cond.fieldLinkNest nR_Room 85 "RoomClimate$House" "goods" "LRoomClimate$Goods;" "RoomClimate" ∈ TT := tt_t (i := 154) (by decide +kernel) (by decide +kernel)
theorem tt_155 : Cond.fieldLink nR_House 26 "RoomClimate$House" "machines" "LRoomClimate$Machines;" ∈ TT := tt_t (i := 155) (by decide +kernel) (by decide +kernel)
theorem tt_156 : Cond.fieldLinkNest nR_Room 112 "RoomClimate$House" "machines" "LRoomClimate$Machines;" "RoomClimate" ∈ TT := tt_t (i := 156) (by decide +kernel) (by decide +kernel)
theorem tt_157 : Cond.laysFinal nR_House "RoomClimate$House" "inside" "LRoomClimate$Interior;" ∈ TT := tt_t (i := 157) (by decide +kernel) (by decide +kernel)
theorem tt_159 : Cond.laysFinal nR_House "RoomClimate$House" "walls" "LRoomClimate$Walls;" ∈ TT := tt_t (i := 159) (by decide +kernel) (by decide +kernel)
theorem tt_161 : Cond.laysFinal nR_House "RoomClimate$House" "goods" "LRoomClimate$Goods;" ∈ TT := tt_t (i := 161) (by decide +kernel) (by decide +kernel)
theorem tt_163 : Cond.laysFinal nR_House "RoomClimate$House" "machines" "LRoomClimate$Machines;" ∈ TT := tt_t (i := 163) (by decide +kernel) (by decide +kernel)
theorem tt_175 : Cond.fieldLink nR_Rules 9 "RoomClimate$Rules" "kinds" "[I" ∈ TT := tt_t (i := 175) (by decide +kernel) (by decide +kernel)
theorem tt_176 : Cond.fieldLink nR_Rules 15 "RoomClimate$Rules" "levels" "[I" ∈ TT := tt_t (i := 176) (by decide +kernel) (by decide +kernel)
theorem tt_177 : Cond.fieldLink nR_Rules 18 "RoomClimate$Rules" "holds" "[I" ∈ TT := tt_t (i := 177) (by decide +kernel) (by decide +kernel)
theorem tt_178 : Cond.fieldLink nR_Rules 21 "RoomClimate$Rules" "alarmCounts" "[I" ∈ TT := tt_t (i := 178) (by decide +kernel) (by decide +kernel)
theorem tt_179 : Cond.fieldLinkNest nR_Room 180 "RoomClimate$Rules" "alarmCounts" "[I" "RoomClimate" ∈ TT := tt_t (i := 179) (by decide +kernel) (by decide +kernel)
theorem tt_180 : Cond.fieldLink nR_Rules 26 "RoomClimate$Rules" "alarmHours" "[[I" ∈ TT := tt_t (i := 180) (by decide +kernel) (by decide +kernel)
theorem tt_181 : Cond.fieldLinkNest nR_Room 183 "RoomClimate$Rules" "alarmHours" "[[I" "RoomClimate" ∈ TT := tt_t (i := 181) (by decide +kernel) (by decide +kernel)
theorem tt_182 : Cond.fieldLink nR_Rules 29 "RoomClimate$Rules" "size" "I" ∈ TT := tt_t (i := 182) (by decide +kernel) (by decide +kernel)
theorem tt_183 : Cond.fieldLinkNest nR_Room 169 "RoomClimate$Rules" "size" "I" "RoomClimate" ∈ TT := tt_t (i := 183) (by decide +kernel) (by decide +kernel)
theorem tt_184 : Cond.laysFinal nR_Rules "RoomClimate$Rules" "kinds" "[I" ∈ TT := tt_t (i := 184) (by decide +kernel) (by decide +kernel)
theorem tt_186 : Cond.laysFinal nR_Rules "RoomClimate$Rules" "levels" "[I" ∈ TT := tt_t (i := 186) (by decide +kernel) (by decide +kernel)
theorem tt_188 : Cond.laysFinal nR_Rules "RoomClimate$Rules" "holds" "[I" ∈ TT := tt_t (i := 188) (by decide +kernel) (by decide +kernel)
theorem tt_190 : Cond.laysFinal nR_Rules "RoomClimate$Rules" "alarmCounts" "[I" ∈ TT := tt_t (i := 190) (by decide +kernel) (by decide +kernel)
theorem tt_192 : Cond.laysFinal nR_Rules "RoomClimate$Rules" "alarmHours" "[[I" ∈ TT := tt_t (i := 192) (by decide +kernel) (by decide +kernel)
theorem tt_194 : Cond.lays nR_Rules "RoomClimate$Rules" "size" "I" ∈ TT := tt_t (i := 194) (by decide +kernel) (by decide +kernel)
theorem tt_203 : Cond.fieldLink nR_Gauge 9 "RoomClimate$Gauge" "values" "[I" ∈ TT := tt_t (i := 203) (by decide +kernel) (by decide +kernel)
theorem tt_204 : Cond.fieldLinkNest nR_Room 202 "RoomClimate$Gauge" "values" "[I" "RoomClimate" ∈ TT := tt_t (i := 204) (by decide +kernel) (by decide +kernel)
theorem tt_205 : Cond.fieldLink nR_Gauge 15 "RoomClimate$Gauge" "sensed" "[Z" ∈ TT := tt_t (i := 205) (by decide +kernel) (by decide +kernel)
theorem tt_206 : Cond.fieldLinkNest nR_Room 191 "RoomClimate$Gauge" "sensed" "[Z" "RoomClimate" ∈ TT := tt_t (i := 206) (by decide +kernel) (by decide +kernel)
theorem tt_207 : Cond.fieldLink nR_Gauge 19 "RoomClimate$Gauge" "rights" "[I" ∈ TT := tt_t (i := 207) (by decide +kernel) (by decide +kernel)
theorem tt_208 : Cond.fieldLink nR_Gauge 22 "RoomClimate$Gauge" "checked" "[Z" ∈ TT := tt_t (i := 208) (by decide +kernel) (by decide +kernel)
theorem tt_209 : Cond.fieldLink nR_Gauge 25 "RoomClimate$Gauge" "checks" "I" ∈ TT := tt_t (i := 209) (by decide +kernel) (by decide +kernel)
theorem tt_210 : Cond.fieldLinkNest nR_Room 216 "RoomClimate$Gauge" "checks" "I" "RoomClimate" ∈ TT := tt_t (i := 210) (by decide +kernel) (by decide +kernel)
theorem tt_211 : Cond.laysFinal nR_Gauge "RoomClimate$Gauge" "values" "[I" ∈ TT := tt_t (i := 211) (by decide +kernel) (by decide +kernel)
theorem tt_213 : Cond.laysFinal nR_Gauge "RoomClimate$Gauge" "sensed" "[Z" ∈ TT := tt_t (i := 213) (by decide +kernel) (by decide +kernel)
theorem tt_215 : Cond.laysFinal nR_Gauge "RoomClimate$Gauge" "rights" "[I" ∈ TT := tt_t (i := 215) (by decide +kernel) (by decide +kernel)
theorem tt_217 : Cond.laysFinal nR_Gauge "RoomClimate$Gauge" "checked" "[Z" ∈ TT := tt_t (i := 217) (by decide +kernel) (by decide +kernel)
theorem tt_219 : Cond.lays nR_Gauge "RoomClimate$Gauge" "checks" "I" ∈ TT := tt_t (i := 219) (by decide +kernel) (by decide +kernel)
theorem tt_222 : Cond.fieldLink nR_Room 19 "RoomClimate" "house" "LRoomClimate$House;" ∈ TT := tt_t (i := 222) (by decide +kernel) (by decide +kernel)
theorem tt_223 : Cond.fieldLink nR_Room 23 "RoomClimate" "trial" "LRoomClimate$House;" ∈ TT := tt_t (i := 223) (by decide +kernel) (by decide +kernel)
theorem tt_224 : Cond.fieldLink nR_Room 26 "RoomClimate" "risks" "[LRoomClimate$Steps;" ∈ TT := tt_t (i := 224) (by decide +kernel) (by decide +kernel)
theorem tt_225 : Cond.fieldLink nR_Room 30 "RoomClimate" "riskPoints" "[I" ∈ TT := tt_t (i := 225) (by decide +kernel) (by decide +kernel)
theorem tt_226 : Cond.fieldLink nR_Room 37 "RoomClimate" "rules" "LRoomClimate$Rules;" ∈ TT := tt_t (i := 226) (by decide +kernel) (by decide +kernel)
theorem tt_227 : Cond.fieldLink nR_Room 44 "RoomClimate" "gauge" "LRoomClimate$Gauge;" ∈ TT := tt_t (i := 227) (by decide +kernel) (by decide +kernel)
theorem tt_228 : Cond.fieldLink nR_Room 48 "RoomClimate" "hoursGone" "I" ∈ TT := tt_t (i := 228) (by decide +kernel) (by decide +kernel)
theorem tt_229 : Cond.laysFinal nR_Room "RoomClimate" "house" "LRoomClimate$House;" ∈ TT := tt_t (i := 229) (by decide +kernel) (by decide +kernel)
theorem tt_231 : Cond.laysFinal nR_Room "RoomClimate" "trial" "LRoomClimate$House;" ∈ TT := tt_t (i := 231) (by decide +kernel) (by decide +kernel)
theorem tt_233 : Cond.laysFinal nR_Room "RoomClimate" "risks" "[LRoomClimate$Steps;" ∈ TT := tt_t (i := 233) (by decide +kernel) (by decide +kernel)
theorem tt_235 : Cond.laysFinal nR_Room "RoomClimate" "riskPoints" "[I" ∈ TT := tt_t (i := 235) (by decide +kernel) (by decide +kernel)
theorem tt_237 : Cond.laysFinal nR_Room "RoomClimate" "rules" "LRoomClimate$Rules;" ∈ TT := tt_t (i := 237) (by decide +kernel) (by decide +kernel)
theorem tt_239 : Cond.laysFinal nR_Room "RoomClimate" "gauge" "LRoomClimate$Gauge;" ∈ TT := tt_t (i := 239) (by decide +kernel) (by decide +kernel)
theorem tt_241 : Cond.lays nR_Room "RoomClimate" "hoursGone" "I" ∈ TT := tt_t (i := 241) (by decide +kernel) (by decide +kernel)
theorem tt_245 : Cond.instanceMethod nY_Room_degrees ∈ TT := tt_t (i := 245) (by decide +kernel) (by decide +kernel)
theorem tt_246 : Cond.selects nR_Room nY_Room_degrees nY_Room_degrees ∈ TT := tt_t (i := 246) (by decide +kernel) (by decide +kernel)
set_option maxRecDepth 100000 in
theorem tt_247 : Cond.code nY_Room_degrees nC_Room_degrees 1 (some .int) ∈ TT := tt_t (i := 247) (rfl) (by decide +kernel)
theorem tt_248 : Cond.methodLink nR_Room 132 nY_Interior_warmth ∈ TT := tt_t (i := 248) (by decide +kernel) (by decide +kernel)
theorem tt_249 : Cond.instanceMethod nY_Interior_warmth ∈ TT := tt_t (i := 249) (by decide +kernel) (by decide +kernel)
theorem tt_250 : Cond.selects nR_Interior nY_Interior_warmth nY_Interior_warmth ∈ TT := tt_t (i := 250) (by decide +kernel) (by decide +kernel)
set_option maxRecDepth 100000 in
theorem tt_251 : Cond.code nY_Interior_warmth nC_Interior_warmth 1 (some .long) ∈ TT := tt_t (i := 251) (rfl) (by decide +kernel)
theorem tt_252 : Cond.methodLinkNest nR_Interior 36 nY_Room_by "RoomClimate" ∈ TT := tt_t (i := 252) (by decide +kernel) (by decide +kernel)
theorem tt_253 : Cond.static nY_Room_by ∈ TT := tt_t (i := 253) (by decide +kernel) (by decide +kernel)
set_option maxRecDepth 100000 in
theorem tt_254 : Cond.code nY_Room_by nC_Room_by 4 (some .long) ∈ TT := tt_t (i := 254) (rfl) (by decide +kernel)
theorem tt_255 : Cond.methodLink nR_Room 261 nY_Math_floorDiv ∈ TT := tt_t (i := 255) (by decide +kernel) (by decide +kernel)
theorem tt_256 : Cond.static nY_Math_floorDiv ∈ TT := tt_t (i := 256) (by decide +kernel) (by decide +kernel)
set_option maxRecDepth 100000 in
theorem tt_257 : Cond.code nY_Math_floorDiv nC_Math_floorDiv 6 (some .long) ∈ TT := tt_t (i := 257) (rfl) (by decide +kernel)
theorem tt_259 : Cond.instanceMethod nY_Room_damp ∈ TT := tt_t (i := 259) (by decide +kernel) (by decide +kernel)
theorem tt_260 : Cond.selects nR_Room nY_Room_damp nY_Room_damp ∈ TT := tt_t (i := 260) (by decide +kernel) (by decide +kernel)
set_option maxRecDepth 100000 in
theorem tt_261 : Cond.code nY_Room_damp nC_Room_damp 1 (some .int) ∈ TT := tt_t (i := 261) (rfl) (by decide +kernel)
theorem tt_262 : Cond.methodLink nR_Room 136 nY_Interior_moisture ∈ TT := tt_t (i := 262) (by decide +kernel) (by decide +kernel)
theorem tt_263 : Cond.instanceMethod nY_Interior_moisture ∈ TT := tt_t (i := 263) (by decide +kernel) (by decide +kernel)
theorem tt_264 : Cond.selects nR_Interior nY_Interior_moisture nY_Interior_moisture ∈ TT := tt_t (i := 264) (by decide +kernel) (by decide +kernel)
set_option maxRecDepth 100000 in
theorem tt_265 : Cond.code nY_Interior_moisture nC_Interior_moisture 1 (some .long) ∈ TT := tt_t (i := 265) (rfl) (by decide +kernel)
theorem tt_267 : Cond.instanceMethod nY_Room_held ∈ TT := tt_t (i := 267) (by decide +kernel) (by decide +kernel)
theorem tt_268 : Cond.selects nR_Room nY_Room_held nY_Room_held ∈ TT := tt_t (i := 268) (by decide +kernel) (by decide +kernel)
set_option maxRecDepth 100000 in
theorem tt_269 : Cond.code nY_Room_held nC_Room_held 1 (some .int) ∈ TT := tt_t (i := 269) (rfl) (by decide +kernel)
theorem tt_275 : Cond.instanceMethod nY_Room_room ∈ TT := tt_t (i := 275) (by decide +kernel) (by decide +kernel)
theorem tt_276 : Cond.selects nR_Room nY_Room_room nY_Room_room ∈ TT := tt_t (i := 276) (by decide +kernel) (by decide +kernel)
set_option maxRecDepth 100000 in
theorem tt_277 : Cond.code nY_Room_room nC_Room_room 3 none ∈ TT := tt_t (i := 277) (rfl) (by decide +kernel)
theorem tt_278 : Cond.methodLink nR_Room 52 nY_Room_requireWithin ∈ TT := tt_t (i := 278) (by decide +kernel) (by decide +kernel)
theorem tt_279 : Cond.static nY_Room_requireWithin ∈ TT := tt_t (i := 279) (by decide +kernel) (by decide +kernel)
set_option maxRecDepth 100000 in
theorem tt_280 : Cond.code nY_Room_requireWithin nC_Room_requireWithin 3 none ∈ TT := tt_t (i := 280) (rfl) (by decide +kernel)
theorem tt_281 : Cond.classLink nR_Room 250 "java/lang/IllegalArgumentException" ∈ TT := tt_t (i := 281) (by decide +kernel) (by decide +kernel)
theorem tt_282 : Cond.instantiable "java/lang/IllegalArgumentException" 6 ∈ TT := tt_t (i := 282) (by decide +kernel) (by decide +kernel)
theorem tt_283 : Cond.castable "java/lang/IllegalArgumentException" "java/lang/IllegalArgumentException" ∈ TT := tt_t (i := 283) (by decide +kernel) (by decide +kernel)
theorem tt_285 : Cond.declares ⟨"java/lang/RuntimeException", "<init>", "(Ljava/lang/String;)V"⟩ ∈ TT := tt_t (i := 285) (by decide +kernel) (by decide +kernel)
theorem tt_287 : Cond.declares ⟨"java/lang/Exception", "<init>", "(Ljava/lang/String;)V"⟩ ∈ TT := tt_t (i := 287) (by decide +kernel) (by decide +kernel)
theorem tt_289 : Cond.declares ⟨"java/lang/Throwable", "<init>", "(Ljava/lang/String;)V"⟩ ∈ TT := tt_t (i := 289) (by decide +kernel) (by decide +kernel)
theorem tt_290 : Cond.selects "java/lang/IllegalArgumentException" ⟨"java/lang/Throwable", "fillInStackTrace", "(I)Ljava/lang/Throwable;"⟩ ⟨"java/lang/Throwable", "fillInStackTrace", "(I)Ljava/lang/Throwable;"⟩ ∈ TT := tt_t (i := 290) (by decide +kernel) (by decide +kernel)
theorem tt_291 : Cond.selects "java/lang/IllegalArgumentException" ⟨"java/lang/Throwable", "fillInStackTrace", "()Ljava/lang/Throwable;"⟩ ⟨"java/lang/Throwable", "fillInStackTrace", "()Ljava/lang/Throwable;"⟩ ∈ TT := tt_t (i := 291) (by decide +kernel) (by decide +kernel)
theorem tt_292 : Cond.lays "java/lang/IllegalArgumentException" "java/lang/Throwable" "cause" "Ljava/lang/Throwable;" ∈ TT := tt_t (i := 292) (by decide +kernel) (by decide +kernel)
theorem tt_293 : Cond.lays "java/lang/Throwable" "java/lang/Throwable" "cause" "Ljava/lang/Throwable;" ∈ TT := tt_t (i := 293) (by decide +kernel) (by decide +kernel)
theorem tt_294 : Cond.lays "java/lang/IllegalArgumentException" "java/lang/Throwable" "stackTrace" "[Ljava/lang/StackTraceElement;" ∈ TT := tt_t (i := 294) (by decide +kernel) (by decide +kernel)
theorem tt_295 : Cond.lays "java/lang/Throwable" "java/lang/Throwable" "stackTrace" "[Ljava/lang/StackTraceElement;" ∈ TT := tt_t (i := 295) (by decide +kernel) (by decide +kernel)
theorem tt_296 : Cond.lays "java/lang/IllegalArgumentException" "java/lang/Throwable" "suppressedExceptions" "Ljava/util/List;" ∈ TT := tt_t (i := 296) (by decide +kernel) (by decide +kernel)
theorem tt_297 : Cond.lays "java/lang/Throwable" "java/lang/Throwable" "suppressedExceptions" "Ljava/util/List;" ∈ TT := tt_t (i := 297) (by decide +kernel) (by decide +kernel)
theorem tt_298 : Cond.lays "java/lang/IllegalArgumentException" "java/lang/Throwable" "detailMessage" "Ljava/lang/String;" ∈ TT := tt_t (i := 298) (by decide +kernel) (by decide +kernel)
theorem tt_299 : Cond.lays "java/lang/Throwable" "java/lang/Throwable" "detailMessage" "Ljava/lang/String;" ∈ TT := tt_t (i := 299) (by decide +kernel) (by decide +kernel)
theorem tt_300 : Cond.lays "java/lang/IllegalArgumentException" "java/lang/Throwable" "backtrace" "Ljava/lang/Object;" ∈ TT := tt_t (i := 300) (by decide +kernel) (by decide +kernel)
theorem tt_301 : Cond.lays "java/lang/Throwable" "java/lang/Throwable" "backtrace" "Ljava/lang/Object;" ∈ TT := tt_t (i := 301) (by decide +kernel) (by decide +kernel)
theorem tt_302 : Cond.fieldLink "java/lang/Throwable" 198 "java/lang/Throwable" "backtrace" "Ljava/lang/Object;" ∈ TT := tt_t (i := 302) (by decide +kernel) (by decide +kernel)
theorem tt_303 : Cond.superclass "java/lang/Throwable" "java/lang/Object" ∈ TT := tt_t (i := 303) (by decide +kernel) (by decide +kernel)
theorem tt_304 : Cond.instanceMethod ⟨"java/lang/Throwable", "<init>", "()V"⟩ ∈ TT := tt_t (i := 304) (by decide +kernel) (by decide +kernel)
set_option maxRecDepth 100000 in
theorem tt_305 : Cond.code ⟨"java/lang/Throwable", "<init>", "()V"⟩ prog_19_method_1_code 1 none ∈ TT := tt_t (i := 305) (rfl) (by decide +kernel)
theorem tt_306 : Cond.methodLink "java/lang/Throwable" 1 objectInit ∈ TT := tt_t (i := 306) (by decide +kernel) (by decide +kernel)
theorem tt_307 : Cond.fieldLink "java/lang/Throwable" 13 "java/lang/Throwable" "UNASSIGNED_STACK" "[Ljava/lang/StackTraceElement;" ∈ TT := tt_t (i := 307) (by decide +kernel) (by decide +kernel)
theorem tt_309 : Cond.fieldLink "java/lang/Throwable" 20 "java/lang/Throwable" "SUPPRESSED_SENTINEL" "Ljava/util/List;" ∈ TT := tt_t (i := 309) (by decide +kernel) (by decide +kernel)
theorem tt_311 : Cond.methodLink "java/lang/Throwable" 27 ⟨"java/lang/Throwable", "fillInStackTrace", "()Ljava/lang/Throwable;"⟩ ∈ TT := tt_t (i := 311) (by decide +kernel) (by decide +kernel)
theorem tt_312 : Cond.instanceMethod ⟨"java/lang/Throwable", "fillInStackTrace", "()Ljava/lang/Throwable;"⟩ ∈ TT := tt_t (i := 312) (by decide +kernel) (by decide +kernel)
theorem tt_314 : Cond.selects "java/lang/IllegalStateException" ⟨"java/lang/Throwable", "fillInStackTrace", "()Ljava/lang/Throwable;"⟩ ⟨"java/lang/Throwable", "fillInStackTrace", "()Ljava/lang/Throwable;"⟩ ∈ TT := tt_t (i := 314) (by decide +kernel) (by decide +kernel)
theorem tt_315 : Cond.selects "java/lang/IndexOutOfBoundsException" ⟨"java/lang/Throwable", "fillInStackTrace", "()Ljava/lang/Throwable;"⟩ ⟨"java/lang/Throwable", "fillInStackTrace", "()Ljava/lang/Throwable;"⟩ ∈ TT := tt_t (i := 315) (by decide +kernel) (by decide +kernel)
set_option maxRecDepth 100000 in
theorem tt_316 : Cond.codeSync ⟨"java/lang/Throwable", "fillInStackTrace", "()Ljava/lang/Throwable;"⟩ prog_19_method_18_code 1 (some (.object "java/lang/Throwable")) ∈ TT := tt_t (i := 316) (rfl) (by decide +kernel)
theorem tt_317 : Cond.methodLink "java/lang/Throwable" 202 ⟨"java/lang/Throwable", "fillInStackTrace", "(I)Ljava/lang/Throwable;"⟩ ∈ TT := tt_t (i := 317) (by decide +kernel) (by decide +kernel)
theorem tt_319 : Cond.instanceMethod ⟨"java/lang/Throwable", "fillInStackTrace", "(I)Ljava/lang/Throwable;"⟩ ∈ TT := tt_t (i := 319) (by decide +kernel) (by decide +kernel)
theorem tt_321 : Cond.native ⟨"java/lang/Throwable", "fillInStackTrace", "(I)Ljava/lang/Throwable;"⟩ ∈ TT := tt_t (i := 321) (by decide +kernel) (by decide +kernel)
theorem tt_322 : Cond.stringRef nR_Room 252 "the number is outside its bounds" ∈ TT := tt_t (i := 322) (by decide +kernel) (by decide +kernel)
theorem tt_323 : Cond.methodLink nR_Room 254 ⟨"java/lang/IllegalArgumentException", "<init>", "(Ljava/lang/String;)V"⟩ ∈ TT := tt_t (i := 323) (by decide +kernel) (by decide +kernel)
theorem tt_324 : Cond.instanceMethod ⟨"java/lang/IllegalArgumentException", "<init>", "(Ljava/lang/String;)V"⟩ ∈ TT := tt_t (i := 324) (by decide +kernel) (by decide +kernel)
set_option maxRecDepth 100000 in
theorem tt_325 : Cond.code ⟨"java/lang/IllegalArgumentException", "<init>", "(Ljava/lang/String;)V"⟩ prog_13_method_2_code 2 none ∈ TT := tt_t (i := 325) (rfl) (by decide +kernel)
theorem tt_326 : Cond.methodLink "java/lang/IllegalArgumentException" 7 ⟨"java/lang/RuntimeException", "<init>", "(Ljava/lang/String;)V"⟩ ∈ TT := tt_t (i := 326) (by decide +kernel) (by decide +kernel)
theorem tt_327 : Cond.instanceMethod ⟨"java/lang/RuntimeException", "<init>", "(Ljava/lang/String;)V"⟩ ∈ TT := tt_t (i := 327) (by decide +kernel) (by decide +kernel)
set_option maxRecDepth 100000 in
theorem tt_328 : Cond.code ⟨"java/lang/RuntimeException", "<init>", "(Ljava/lang/String;)V"⟩ prog_17_method_2_code 2 none ∈ TT := tt_t (i := 328) (rfl) (by decide +kernel)
theorem tt_329 : Cond.methodLink "java/lang/RuntimeException" 7 ⟨"java/lang/Exception", "<init>", "(Ljava/lang/String;)V"⟩ ∈ TT := tt_t (i := 329) (by decide +kernel) (by decide +kernel)
theorem tt_330 : Cond.instanceMethod ⟨"java/lang/Exception", "<init>", "(Ljava/lang/String;)V"⟩ ∈ TT := tt_t (i := 330) (by decide +kernel) (by decide +kernel)
set_option maxRecDepth 100000 in
theorem tt_331 : Cond.code ⟨"java/lang/Exception", "<init>", "(Ljava/lang/String;)V"⟩ prog_12_method_2_code 2 none ∈ TT := tt_t (i := 331) (rfl) (by decide +kernel)
theorem tt_332 : Cond.methodLink "java/lang/Exception" 7 ⟨"java/lang/Throwable", "<init>", "(Ljava/lang/String;)V"⟩ ∈ TT := tt_t (i := 332) (by decide +kernel) (by decide +kernel)
theorem tt_333 : Cond.instanceMethod ⟨"java/lang/Throwable", "<init>", "(Ljava/lang/String;)V"⟩ ∈ TT := tt_t (i := 333) (by decide +kernel) (by decide +kernel)
set_option maxRecDepth 100000 in
theorem tt_334 : Cond.code ⟨"java/lang/Throwable", "<init>", "(Ljava/lang/String;)V"⟩ prog_19_method_2_code 2 none ∈ TT := tt_t (i := 334) (rfl) (by decide +kernel)
theorem tt_336 : Cond.fieldLink "java/lang/Throwable" 31 "java/lang/Throwable" "detailMessage" "Ljava/lang/String;" ∈ TT := tt_t (i := 336) (by decide +kernel) (by decide +kernel)
theorem tt_337 : Cond.fieldLink "java/lang/Throwable" 7 "java/lang/Throwable" "cause" "Ljava/lang/Throwable;" ∈ TT := tt_t (i := 337) (by decide +kernel) (by decide +kernel)
theorem tt_338 : Cond.fieldLink "java/lang/Throwable" 17 "java/lang/Throwable" "stackTrace" "[Ljava/lang/StackTraceElement;" ∈ TT := tt_t (i := 338) (by decide +kernel) (by decide +kernel)
theorem tt_339 : Cond.fieldLink "java/lang/Throwable" 24 "java/lang/Throwable" "suppressedExceptions" "Ljava/util/List;" ∈ TT := tt_t (i := 339) (by decide +kernel) (by decide +kernel)
theorem tt_354 : Cond.instanceMethod nY_Room_wall ∈ TT := tt_t (i := 354) (by decide +kernel) (by decide +kernel)
theorem tt_355 : Cond.selects nR_Room nY_Room_wall nY_Room_wall ∈ TT := tt_t (i := 355) (by decide +kernel) (by decide +kernel)
set_option maxRecDepth 100000 in
theorem tt_356 : Cond.code nY_Room_wall nC_Room_wall 3 (some .int) ∈ TT := tt_t (i := 356) (rfl) (by decide +kernel)
theorem tt_357 : Cond.methodLink nR_Room 77 nY_Room_requireSpace ∈ TT := tt_t (i := 357) (by decide +kernel) (by decide +kernel)
theorem tt_358 : Cond.static nY_Room_requireSpace ∈ TT := tt_t (i := 358) (by decide +kernel) (by decide +kernel)
set_option maxRecDepth 100000 in
theorem tt_359 : Cond.code nY_Room_requireSpace nC_Room_requireSpace 2 none ∈ TT := tt_t (i := 359) (rfl) (by decide +kernel)
theorem tt_360 : Cond.classLink nR_Room 194 "java/lang/IllegalStateException" ∈ TT := tt_t (i := 360) (by decide +kernel) (by decide +kernel)
theorem tt_361 : Cond.instantiable "java/lang/IllegalStateException" 6 ∈ TT := tt_t (i := 361) (by decide +kernel) (by decide +kernel)
theorem tt_362 : Cond.castable "java/lang/IllegalStateException" "java/lang/IllegalStateException" ∈ TT := tt_t (i := 362) (by decide +kernel) (by decide +kernel)
theorem tt_363 : Cond.selects "java/lang/IllegalStateException" ⟨"java/lang/Throwable", "fillInStackTrace", "(I)Ljava/lang/Throwable;"⟩ ⟨"java/lang/Throwable", "fillInStackTrace", "(I)Ljava/lang/Throwable;"⟩ ∈ TT := tt_t (i := 363) (by decide +kernel) (by decide +kernel)
theorem tt_364 : Cond.lays "java/lang/IllegalStateException" "java/lang/Throwable" "cause" "Ljava/lang/Throwable;" ∈ TT := tt_t (i := 364) (by decide +kernel) (by decide +kernel)
theorem tt_365 : Cond.lays "java/lang/IllegalStateException" "java/lang/Throwable" "stackTrace" "[Ljava/lang/StackTraceElement;" ∈ TT := tt_t (i := 365) (by decide +kernel) (by decide +kernel)
theorem tt_366 : Cond.lays "java/lang/IllegalStateException" "java/lang/Throwable" "suppressedExceptions" "Ljava/util/List;" ∈ TT := tt_t (i := 366) (by decide +kernel) (by decide +kernel)
theorem tt_367 : Cond.lays "java/lang/IllegalStateException" "java/lang/Throwable" "detailMessage" "Ljava/lang/String;" ∈ TT := tt_t (i := 367) (by decide +kernel) (by decide +kernel)
theorem tt_368 : Cond.lays "java/lang/IllegalStateException" "java/lang/Throwable" "backtrace" "Ljava/lang/Object;" ∈ TT := tt_t (i := 368) (by decide +kernel) (by decide +kernel)
theorem tt_369 : Cond.stringRef nR_Room 248 "there are as many as there may be" ∈ TT := tt_t (i := 369) (by decide +kernel) (by decide +kernel)
theorem tt_370 : Cond.methodLink nR_Room 198 ⟨"java/lang/IllegalStateException", "<init>", "(Ljava/lang/String;)V"⟩ ∈ TT := tt_t (i := 370) (by decide +kernel) (by decide +kernel)
theorem tt_371 : Cond.instanceMethod ⟨"java/lang/IllegalStateException", "<init>", "(Ljava/lang/String;)V"⟩ ∈ TT := tt_t (i := 371) (by decide +kernel) (by decide +kernel)
set_option maxRecDepth 100000 in
theorem tt_372 : Cond.code ⟨"java/lang/IllegalStateException", "<init>", "(Ljava/lang/String;)V"⟩ prog_14_method_2_code 2 none ∈ TT := tt_t (i := 372) (rfl) (by decide +kernel)
theorem tt_373 : Cond.methodLink "java/lang/IllegalStateException" 7 ⟨"java/lang/RuntimeException", "<init>", "(Ljava/lang/String;)V"⟩ ∈ TT := tt_t (i := 373) (by decide +kernel) (by decide +kernel)
theorem tt_376 : Cond.methodLink nR_Room 81 nY_Walls_append ∈ TT := tt_t (i := 376) (by decide +kernel) (by decide +kernel)
theorem tt_377 : Cond.instanceMethod nY_Walls_append ∈ TT := tt_t (i := 377) (by decide +kernel) (by decide +kernel)
theorem tt_378 : Cond.selects nR_Walls nY_Walls_append nY_Walls_append ∈ TT := tt_t (i := 378) (by decide +kernel) (by decide +kernel)
set_option maxRecDepth 100000 in
theorem tt_379 : Cond.code nY_Walls_append nC_Walls_append 3 (some .int) ∈ TT := tt_t (i := 379) (rfl) (by decide +kernel)
theorem tt_380 : Cond.constantLong nR_Walls 26 (20000 : Int64) ∈ TT := tt_t (i := 380) (by decide +kernel) (by decide +kernel)
theorem tt_385 : Cond.instanceMethod nY_Room_goods ∈ TT := tt_t (i := 385) (by decide +kernel) (by decide +kernel)
theorem tt_386 : Cond.selects nR_Room nY_Room_goods nY_Room_goods ∈ TT := tt_t (i := 386) (by decide +kernel) (by decide +kernel)
set_option maxRecDepth 100000 in
theorem tt_387 : Cond.code nY_Room_goods nC_Room_goods 3 (some .int) ∈ TT := tt_t (i := 387) (rfl) (by decide +kernel)
theorem tt_392 : Cond.instanceMethod nY_Room_row ∈ TT := tt_t (i := 392) (by decide +kernel) (by decide +kernel)
theorem tt_393 : Cond.selects nR_Room nY_Room_row nY_Room_row ∈ TT := tt_t (i := 393) (by decide +kernel) (by decide +kernel)
set_option maxRecDepth 100000 in
theorem tt_394 : Cond.code nY_Room_row nC_Room_row 4 (some .int) ∈ TT := tt_t (i := 394) (rfl) (by decide +kernel)
theorem tt_395 : Cond.constant nR_Room 101 (60000 : Int32) ∈ TT := tt_t (i := 395) (by decide +kernel) (by decide +kernel)
theorem tt_396 : Cond.methodLink nR_Room 102 nY_Room_requireRise ∈ TT := tt_t (i := 396) (by decide +kernel) (by decide +kernel)
theorem tt_397 : Cond.static nY_Room_requireRise ∈ TT := tt_t (i := 397) (by decide +kernel) (by decide +kernel)
set_option maxRecDepth 100000 in
theorem tt_398 : Cond.code nY_Room_requireRise nC_Room_requireRise 2 none ∈ TT := tt_t (i := 398) (rfl) (by decide +kernel)
theorem tt_399 : Cond.methodLink nR_Room 255 nY_Steps_wouldRise ∈ TT := tt_t (i := 399) (by decide +kernel) (by decide +kernel)
theorem tt_400 : Cond.instanceMethod nY_Steps_wouldRise ∈ TT := tt_t (i := 400) (by decide +kernel) (by decide +kernel)
theorem tt_401 : Cond.selects nR_Steps nY_Steps_wouldRise nY_Steps_wouldRise ∈ TT := tt_t (i := 401) (by decide +kernel) (by decide +kernel)
set_option maxRecDepth 100000 in
theorem tt_402 : Cond.code nY_Steps_wouldRise nC_Steps_wouldRise 2 (some .boolean) ∈ TT := tt_t (i := 402) (rfl) (by decide +kernel)
theorem tt_403 : Cond.stringRef nR_Room 259 "it is not above that of the last row" ∈ TT := tt_t (i := 403) (by decide +kernel) (by decide +kernel)
theorem tt_404 : Cond.methodLink nR_Room 106 nY_Steps_append ∈ TT := tt_t (i := 404) (by decide +kernel) (by decide +kernel)
theorem tt_405 : Cond.instanceMethod nY_Steps_append ∈ TT := tt_t (i := 405) (by decide +kernel) (by decide +kernel)
theorem tt_406 : Cond.selects nR_Steps nY_Steps_append nY_Steps_append ∈ TT := tt_t (i := 406) (by decide +kernel) (by decide +kernel)
set_option maxRecDepth 100000 in
theorem tt_407 : Cond.code nY_Steps_append nC_Steps_append 3 (some .int) ∈ TT := tt_t (i := 407) (rfl) (by decide +kernel)
theorem tt_413 : Cond.instanceMethod nY_Room_machine ∈ TT := tt_t (i := 413) (by decide +kernel) (by decide +kernel)
theorem tt_414 : Cond.selects nR_Room nY_Room_machine nY_Room_machine ∈ TT := tt_t (i := 414) (by decide +kernel) (by decide +kernel)
set_option maxRecDepth 100000 in
theorem tt_415 : Cond.code nY_Room_machine nC_Room_machine 5 none ∈ TT := tt_t (i := 415) (rfl) (by decide +kernel)
theorem tt_416 : Cond.methodLink nR_Room 107 nY_Room_requireIndex ∈ TT := tt_t (i := 416) (by decide +kernel) (by decide +kernel)
theorem tt_417 : Cond.static nY_Room_requireIndex ∈ TT := tt_t (i := 417) (by decide +kernel) (by decide +kernel)
set_option maxRecDepth 100000 in
theorem tt_418 : Cond.code nY_Room_requireIndex nC_Room_requireIndex 2 none ∈ TT := tt_t (i := 418) (rfl) (by decide +kernel)
theorem tt_419 : Cond.classLink nR_Room 173 "java/lang/IndexOutOfBoundsException" ∈ TT := tt_t (i := 419) (by decide +kernel) (by decide +kernel)
theorem tt_420 : Cond.instantiable "java/lang/IndexOutOfBoundsException" 6 ∈ TT := tt_t (i := 420) (by decide +kernel) (by decide +kernel)
theorem tt_421 : Cond.castable "java/lang/IndexOutOfBoundsException" "java/lang/IndexOutOfBoundsException" ∈ TT := tt_t (i := 421) (by decide +kernel) (by decide +kernel)
theorem tt_422 : Cond.selects "java/lang/IndexOutOfBoundsException" ⟨"java/lang/Throwable", "fillInStackTrace", "(I)Ljava/lang/Throwable;"⟩ ⟨"java/lang/Throwable", "fillInStackTrace", "(I)Ljava/lang/Throwable;"⟩ ∈ TT := tt_t (i := 422) (by decide +kernel) (by decide +kernel)
theorem tt_423 : Cond.lays "java/lang/IndexOutOfBoundsException" "java/lang/Throwable" "cause" "Ljava/lang/Throwable;" ∈ TT := tt_t (i := 423) (by decide +kernel) (by decide +kernel)
theorem tt_424 : Cond.lays "java/lang/IndexOutOfBoundsException" "java/lang/Throwable" "stackTrace" "[Ljava/lang/StackTraceElement;" ∈ TT := tt_t (i := 424) (by decide +kernel) (by decide +kernel)
theorem tt_425 : Cond.lays "java/lang/IndexOutOfBoundsException" "java/lang/Throwable" "suppressedExceptions" "Ljava/util/List;" ∈ TT := tt_t (i := 425) (by decide +kernel) (by decide +kernel)
theorem tt_426 : Cond.lays "java/lang/IndexOutOfBoundsException" "java/lang/Throwable" "detailMessage" "Ljava/lang/String;" ∈ TT := tt_t (i := 426) (by decide +kernel) (by decide +kernel)
theorem tt_427 : Cond.lays "java/lang/IndexOutOfBoundsException" "java/lang/Throwable" "backtrace" "Ljava/lang/Object;" ∈ TT := tt_t (i := 427) (by decide +kernel) (by decide +kernel)
theorem tt_428 : Cond.stringRef nR_Room 246 "there is nothing with this number" ∈ TT := tt_t (i := 428) (by decide +kernel) (by decide +kernel)
theorem tt_429 : Cond.methodLink nR_Room 177 ⟨"java/lang/IndexOutOfBoundsException", "<init>", "(Ljava/lang/String;)V"⟩ ∈ TT := tt_t (i := 429) (by decide +kernel) (by decide +kernel)
theorem tt_430 : Cond.instanceMethod ⟨"java/lang/IndexOutOfBoundsException", "<init>", "(Ljava/lang/String;)V"⟩ ∈ TT := tt_t (i := 430) (by decide +kernel) (by decide +kernel)
set_option maxRecDepth 100000 in
theorem tt_431 : Cond.code ⟨"java/lang/IndexOutOfBoundsException", "<init>", "(Ljava/lang/String;)V"⟩ prog_15_method_2_code 2 none ∈ TT := tt_t (i := 431) (rfl) (by decide +kernel)
theorem tt_432 : Cond.methodLink "java/lang/IndexOutOfBoundsException" 7 ⟨"java/lang/RuntimeException", "<init>", "(Ljava/lang/String;)V"⟩ ∈ TT := tt_t (i := 432) (by decide +kernel) (by decide +kernel)
theorem tt_435 : Cond.constant nR_Room 110 (-60000 : Int32) ∈ TT := tt_t (i := 435) (by decide +kernel) (by decide +kernel)
theorem tt_436 : Cond.constant nR_Room 111 (100000 : Int32) ∈ TT := tt_t (i := 436) (by decide +kernel) (by decide +kernel)
theorem tt_437 : Cond.methodLink nR_Room 116 nY_Machines_install ∈ TT := tt_t (i := 437) (by decide +kernel) (by decide +kernel)
theorem tt_438 : Cond.instanceMethod nY_Machines_install ∈ TT := tt_t (i := 438) (by decide +kernel) (by decide +kernel)
theorem tt_439 : Cond.selects nR_Machines nY_Machines_install nY_Machines_install ∈ TT := tt_t (i := 439) (by decide +kernel) (by decide +kernel)
set_option maxRecDepth 100000 in
theorem tt_440 : Cond.code nY_Machines_install nC_Machines_install 5 none ∈ TT := tt_t (i := 440) (rfl) (by decide +kernel)
theorem tt_445 : Cond.instanceMethod nY_Room_hour ∈ TT := tt_t (i := 445) (by decide +kernel) (by decide +kernel)
theorem tt_446 : Cond.selects nR_Room nY_Room_hour nY_Room_hour ∈ TT := tt_t (i := 446) (by decide +kernel) (by decide +kernel)
set_option maxRecDepth 100000 in
theorem tt_447 : Cond.code nY_Room_hour nC_Room_hour 4 (some .int) ∈ TT := tt_t (i := 447) (rfl) (by decide +kernel)
theorem tt_448 : Cond.methodLink nR_Room 122 nY_House_pass ∈ TT := tt_t (i := 448) (by decide +kernel) (by decide +kernel)
theorem tt_449 : Cond.instanceMethod nY_House_pass ∈ TT := tt_t (i := 449) (by decide +kernel) (by decide +kernel)
theorem tt_450 : Cond.selects nR_House nY_House_pass nY_House_pass ∈ TT := tt_t (i := 450) (by decide +kernel) (by decide +kernel)
set_option maxRecDepth 100000 in
theorem tt_451 : Cond.code nY_House_pass nC_House_pass 4 none ∈ TT := tt_t (i := 451) (rfl) (by decide +kernel)
theorem tt_452 : Cond.methodLink nR_House 39 nY_Interior_exchangeAir ∈ TT := tt_t (i := 452) (by decide +kernel) (by decide +kernel)
theorem tt_453 : Cond.instanceMethod nY_Interior_exchangeAir ∈ TT := tt_t (i := 453) (by decide +kernel) (by decide +kernel)
theorem tt_454 : Cond.selects nR_Interior nY_Interior_exchangeAir nY_Interior_exchangeAir ∈ TT := tt_t (i := 454) (by decide +kernel) (by decide +kernel)
set_option maxRecDepth 100000 in
theorem tt_455 : Cond.code nY_Interior_exchangeAir nC_Interior_exchangeAir 3 none ∈ TT := tt_t (i := 455) (rfl) (by decide +kernel)
theorem tt_456 : Cond.methodLink nR_Interior 40 nY_Interior_warmth ∈ TT := tt_t (i := 456) (by decide +kernel) (by decide +kernel)
theorem tt_457 : Cond.constantLong nR_Interior 44 (1000 : Int64) ∈ TT := tt_t (i := 457) (by decide +kernel) (by decide +kernel)
theorem tt_458 : Cond.methodLink nR_Interior 46 nY_Interior_gainHeat ∈ TT := tt_t (i := 458) (by decide +kernel) (by decide +kernel)
theorem tt_459 : Cond.instanceMethod nY_Interior_gainHeat ∈ TT := tt_t (i := 459) (by decide +kernel) (by decide +kernel)
theorem tt_460 : Cond.selects nR_Interior nY_Interior_gainHeat nY_Interior_gainHeat ∈ TT := tt_t (i := 460) (by decide +kernel) (by decide +kernel)
set_option maxRecDepth 100000 in
theorem tt_461 : Cond.code nY_Interior_gainHeat nC_Interior_gainHeat 4 none ∈ TT := tt_t (i := 461) (rfl) (by decide +kernel)
theorem tt_462 : Cond.methodLink nR_Interior 50 nY_Interior_moisture ∈ TT := tt_t (i := 462) (by decide +kernel) (by decide +kernel)
theorem tt_463 : Cond.methodLink nR_Interior 53 nY_Interior_gainWater ∈ TT := tt_t (i := 463) (by decide +kernel) (by decide +kernel)
theorem tt_464 : Cond.instanceMethod nY_Interior_gainWater ∈ TT := tt_t (i := 464) (by decide +kernel) (by decide +kernel)
theorem tt_465 : Cond.selects nR_Interior nY_Interior_gainWater nY_Interior_gainWater ∈ TT := tt_t (i := 465) (by decide +kernel) (by decide +kernel)
set_option maxRecDepth 100000 in
theorem tt_466 : Cond.code nY_Interior_gainWater nC_Interior_gainWater 4 none ∈ TT := tt_t (i := 466) (rfl) (by decide +kernel)
theorem tt_467 : Cond.methodLink nR_House 43 nY_Walls_conduct ∈ TT := tt_t (i := 467) (by decide +kernel) (by decide +kernel)
theorem tt_468 : Cond.instanceMethod nY_Walls_conduct ∈ TT := tt_t (i := 468) (by decide +kernel) (by decide +kernel)
theorem tt_469 : Cond.selects nR_Walls nY_Walls_conduct nY_Walls_conduct ∈ TT := tt_t (i := 469) (by decide +kernel) (by decide +kernel)
set_option maxRecDepth 100000 in
theorem tt_470 : Cond.code nY_Walls_conduct nC_Walls_conduct 8 none ∈ TT := tt_t (i := 470) (rfl) (by decide +kernel)
theorem tt_471 : Cond.methodLink nR_Walls 32 nY_Interior_warmth ∈ TT := tt_t (i := 471) (by decide +kernel) (by decide +kernel)
theorem tt_472 : Cond.methodLink nR_Walls 38 nY_Walls_warmth ∈ TT := tt_t (i := 472) (by decide +kernel) (by decide +kernel)
theorem tt_473 : Cond.instanceMethod nY_Walls_warmth ∈ TT := tt_t (i := 473) (by decide +kernel) (by decide +kernel)
theorem tt_474 : Cond.selects nR_Walls nY_Walls_warmth nY_Walls_warmth ∈ TT := tt_t (i := 474) (by decide +kernel) (by decide +kernel)
set_option maxRecDepth 100000 in
theorem tt_475 : Cond.code nY_Walls_warmth nC_Walls_warmth 2 (some .long) ∈ TT := tt_t (i := 475) (rfl) (by decide +kernel)
theorem tt_476 : Cond.methodLinkNest nR_Walls 28 nY_Room_by "RoomClimate" ∈ TT := tt_t (i := 476) (by decide +kernel) (by decide +kernel)
theorem tt_477 : Cond.constantLong nR_Walls 41 (100 : Int64) ∈ TT := tt_t (i := 477) (by decide +kernel) (by decide +kernel)
theorem tt_478 : Cond.methodLink nR_Walls 43 nY_Interior_gainHeat ∈ TT := tt_t (i := 478) (by decide +kernel) (by decide +kernel)
theorem tt_479 : Cond.methodLink nR_House 47 nY_Goods_soak ∈ TT := tt_t (i := 479) (by decide +kernel) (by decide +kernel)
theorem tt_480 : Cond.instanceMethod nY_Goods_soak ∈ TT := tt_t (i := 480) (by decide +kernel) (by decide +kernel)
theorem tt_481 : Cond.selects nR_Goods nY_Goods_soak nY_Goods_soak ∈ TT := tt_t (i := 481) (by decide +kernel) (by decide +kernel)
set_option maxRecDepth 100000 in
theorem tt_482 : Cond.code nY_Goods_soak nC_Goods_soak 6 none ∈ TT := tt_t (i := 482) (rfl) (by decide +kernel)
theorem tt_483 : Cond.methodLink nR_Goods 23 nY_Interior_moisture ∈ TT := tt_t (i := 483) (by decide +kernel) (by decide +kernel)
theorem tt_484 : Cond.methodLink nR_Goods 29 nY_Steps_amountUpTo ∈ TT := tt_t (i := 484) (by decide +kernel) (by decide +kernel)
theorem tt_485 : Cond.instanceMethod nY_Steps_amountUpTo ∈ TT := tt_t (i := 485) (by decide +kernel) (by decide +kernel)
theorem tt_486 : Cond.selects nR_Steps nY_Steps_amountUpTo nY_Steps_amountUpTo ∈ TT := tt_t (i := 486) (by decide +kernel) (by decide +kernel)
set_option maxRecDepth 100000 in
theorem tt_487 : Cond.code nY_Steps_amountUpTo nC_Steps_amountUpTo 4 (some .int) ∈ TT := tt_t (i := 487) (rfl) (by decide +kernel)
theorem tt_488 : Cond.constantLong nR_Goods 35 (4 : Int64) ∈ TT := tt_t (i := 488) (by decide +kernel) (by decide +kernel)
theorem tt_489 : Cond.methodLinkNest nR_Goods 37 nY_Room_by "RoomClimate" ∈ TT := tt_t (i := 489) (by decide +kernel) (by decide +kernel)
theorem tt_490 : Cond.methodLink nR_Goods 44 Lib.MathLoose.min_long.x ∈ TT := tt_t (i := 490) (by decide +kernel) (by decide +kernel)
theorem tt_491 : Cond.static Lib.MathLoose.min_long.x ∈ TT := tt_t (i := 491) (by decide +kernel) (by decide +kernel)
set_option maxRecDepth 100000 in
theorem tt_492 : Cond.code Lib.MathLoose.min_long.x Lib.MathLoose.min_long.code 4 (some .long) ∈ TT := tt_t (i := 492) (rfl) (by decide +kernel)
theorem tt_493 : Cond.methodLink nR_Goods 49 nY_Interior_gainWater ∈ TT := tt_t (i := 493) (by decide +kernel) (by decide +kernel)
theorem tt_494 : Cond.methodLink nR_House 51 nY_Interior_receive ∈ TT := tt_t (i := 494) (by decide +kernel) (by decide +kernel)
theorem tt_495 : Cond.instanceMethod nY_Interior_receive ∈ TT := tt_t (i := 495) (by decide +kernel) (by decide +kernel)
theorem tt_496 : Cond.selects nR_Interior nY_Interior_receive nY_Interior_receive ∈ TT := tt_t (i := 496) (by decide +kernel) (by decide +kernel)
set_option maxRecDepth 100000 in
theorem tt_497 : Cond.code nY_Interior_receive nC_Interior_receive 2 none ∈ TT := tt_t (i := 497) (rfl) (by decide +kernel)
theorem tt_498 : Cond.constantLong nR_Interior 56 (100 : Int64) ∈ TT := tt_t (i := 498) (by decide +kernel) (by decide +kernel)
theorem tt_499 : Cond.constantLong nR_Interior 58 (50 : Int64) ∈ TT := tt_t (i := 499) (by decide +kernel) (by decide +kernel)
theorem tt_500 : Cond.methodLink nR_House 55 nY_Machines_work ∈ TT := tt_t (i := 500) (by decide +kernel) (by decide +kernel)
theorem tt_501 : Cond.instanceMethod nY_Machines_work ∈ TT := tt_t (i := 501) (by decide +kernel) (by decide +kernel)
theorem tt_502 : Cond.selects nR_Machines nY_Machines_work nY_Machines_work ∈ TT := tt_t (i := 502) (by decide +kernel) (by decide +kernel)
set_option maxRecDepth 100000 in
theorem tt_503 : Cond.code nY_Machines_work nC_Machines_work 2 none ∈ TT := tt_t (i := 503) (rfl) (by decide +kernel)
theorem tt_504 : Cond.methodLink nR_Machines 28 nY_Interior_warmth ∈ TT := tt_t (i := 504) (by decide +kernel) (by decide +kernel)
theorem tt_505 : Cond.methodLink nR_Machines 34 nY_Machines_steer ∈ TT := tt_t (i := 505) (by decide +kernel) (by decide +kernel)
theorem tt_507 : Cond.instanceMethod nY_Machines_steer ∈ TT := tt_t (i := 507) (by decide +kernel) (by decide +kernel)
set_option maxRecDepth 100000 in
theorem tt_508 : Cond.code nY_Machines_steer nC_Machines_steer 5 none ∈ TT := tt_t (i := 508) (rfl) (by decide +kernel)
theorem tt_509 : Cond.methodLink nR_Machines 38 nY_Machines_output ∈ TT := tt_t (i := 509) (by decide +kernel) (by decide +kernel)
theorem tt_510 : Cond.instanceMethod nY_Machines_output ∈ TT := tt_t (i := 510) (by decide +kernel) (by decide +kernel)
theorem tt_511 : Cond.selects nR_Machines nY_Machines_output nY_Machines_output ∈ TT := tt_t (i := 511) (by decide +kernel) (by decide +kernel)
set_option maxRecDepth 100000 in
theorem tt_512 : Cond.code nY_Machines_output nC_Machines_output 2 (some .int) ∈ TT := tt_t (i := 512) (rfl) (by decide +kernel)
theorem tt_513 : Cond.methodLink nR_Machines 42 nY_Interior_gainHeat ∈ TT := tt_t (i := 513) (by decide +kernel) (by decide +kernel)
theorem tt_514 : Cond.methodLink nR_Machines 45 nY_Interior_moisture ∈ TT := tt_t (i := 514) (by decide +kernel) (by decide +kernel)
theorem tt_515 : Cond.methodLink nR_Machines 48 nY_Interior_gainWater ∈ TT := tt_t (i := 515) (by decide +kernel) (by decide +kernel)
theorem tt_516 : Cond.methodLink nR_Machines 55 Lib.MathLoose.min_long.x ∈ TT := tt_t (i := 516) (by decide +kernel) (by decide +kernel)
theorem tt_517 : Cond.methodLink nR_Room 125 nY_Room_addRiskPoints ∈ TT := tt_t (i := 517) (by decide +kernel) (by decide +kernel)
theorem tt_519 : Cond.instanceMethod nY_Room_addRiskPoints ∈ TT := tt_t (i := 519) (by decide +kernel) (by decide +kernel)
set_option maxRecDepth 100000 in
theorem tt_520 : Cond.code nY_Room_addRiskPoints nC_Room_addRiskPoints 5 none ∈ TT := tt_t (i := 520) (rfl) (by decide +kernel)
theorem tt_521 : Cond.methodLink nR_Room 221 nY_Steps_amountFrom ∈ TT := tt_t (i := 521) (by decide +kernel) (by decide +kernel)
theorem tt_522 : Cond.instanceMethod nY_Steps_amountFrom ∈ TT := tt_t (i := 522) (by decide +kernel) (by decide +kernel)
theorem tt_523 : Cond.selects nR_Steps nY_Steps_amountFrom nY_Steps_amountFrom ∈ TT := tt_t (i := 523) (by decide +kernel) (by decide +kernel)
set_option maxRecDepth 100000 in
theorem tt_524 : Cond.code nY_Steps_amountFrom nC_Steps_amountFrom 5 (some .int) ∈ TT := tt_t (i := 524) (rfl) (by decide +kernel)
theorem tt_525 : Cond.methodLink nR_Room 128 nY_Rules_tell ∈ TT := tt_t (i := 525) (by decide +kernel) (by decide +kernel)
theorem tt_526 : Cond.instanceMethod nY_Rules_tell ∈ TT := tt_t (i := 526) (by decide +kernel) (by decide +kernel)
theorem tt_527 : Cond.selects nR_Rules nY_Rules_tell nY_Rules_tell ∈ TT := tt_t (i := 527) (by decide +kernel) (by decide +kernel)
set_option maxRecDepth 100000 in
theorem tt_528 : Cond.code nY_Rules_tell nC_Rules_tell 4 none ∈ TT := tt_t (i := 528) (rfl) (by decide +kernel)
theorem tt_529 : Cond.methodLink nR_Rules 33 nY_Rules_isBroken ∈ TT := tt_t (i := 529) (by decide +kernel) (by decide +kernel)
theorem tt_531 : Cond.instanceMethod nY_Rules_isBroken ∈ TT := tt_t (i := 531) (by decide +kernel) (by decide +kernel)
set_option maxRecDepth 100000 in
theorem tt_532 : Cond.code nY_Rules_isBroken nC_Rules_isBroken 3 (some .boolean) ∈ TT := tt_t (i := 532) (rfl) (by decide +kernel)
theorem tt_533 : Cond.methodLink nR_Rules 41 nY_Interior_warmth ∈ TT := tt_t (i := 533) (by decide +kernel) (by decide +kernel)
theorem tt_534 : Cond.methodLink nR_Rules 47 nY_Interior_moisture ∈ TT := tt_t (i := 534) (by decide +kernel) (by decide +kernel)
theorem tt_535 : Cond.methodLink nR_Rules 37 nY_Rules_isHeld ∈ TT := tt_t (i := 535) (by decide +kernel) (by decide +kernel)
theorem tt_537 : Cond.instanceMethod nY_Rules_isHeld ∈ TT := tt_t (i := 537) (by decide +kernel) (by decide +kernel)
set_option maxRecDepth 100000 in
theorem tt_538 : Cond.code nY_Rules_isHeld nC_Rules_isHeld 4 (some .boolean) ∈ TT := tt_t (i := 538) (rfl) (by decide +kernel)
theorem tt_543 : Cond.instanceMethod nY_Room_layer ∈ TT := tt_t (i := 543) (by decide +kernel) (by decide +kernel)
theorem tt_544 : Cond.selects nR_Room nY_Room_layer nY_Room_layer ∈ TT := tt_t (i := 544) (by decide +kernel) (by decide +kernel)
set_option maxRecDepth 100000 in
theorem tt_545 : Cond.code nY_Room_layer nC_Room_layer 2 (some .int) ∈ TT := tt_t (i := 545) (rfl) (by decide +kernel)
theorem tt_546 : Cond.methodLink nR_Room 139 nY_Walls_warmth ∈ TT := tt_t (i := 546) (by decide +kernel) (by decide +kernel)
theorem tt_551 : Cond.instanceMethod nY_Room_on ∈ TT := tt_t (i := 551) (by decide +kernel) (by decide +kernel)
theorem tt_552 : Cond.selects nR_Room nY_Room_on nY_Room_on ∈ TT := tt_t (i := 552) (by decide +kernel) (by decide +kernel)
set_option maxRecDepth 100000 in
theorem tt_553 : Cond.code nY_Room_on nC_Room_on 2 (some .boolean) ∈ TT := tt_t (i := 553) (rfl) (by decide +kernel)
theorem tt_558 : Cond.instanceMethod nY_Room_book ∈ TT := tt_t (i := 558) (by decide +kernel) (by decide +kernel)
theorem tt_559 : Cond.selects nR_Room nY_Room_book nY_Room_book ∈ TT := tt_t (i := 559) (by decide +kernel) (by decide +kernel)
set_option maxRecDepth 100000 in
theorem tt_560 : Cond.code nY_Room_book nC_Room_book 3 (some .long) ∈ TT := tt_t (i := 560) (rfl) (by decide +kernel)
theorem tt_565 : Cond.instanceMethod nY_Room_dew ∈ TT := tt_t (i := 565) (by decide +kernel) (by decide +kernel)
theorem tt_566 : Cond.selects nR_Room nY_Room_dew nY_Room_dew ∈ TT := tt_t (i := 566) (by decide +kernel) (by decide +kernel)
set_option maxRecDepth 100000 in
theorem tt_567 : Cond.code nY_Room_dew nC_Room_dew 2 (some .boolean) ∈ TT := tt_t (i := 567) (rfl) (by decide +kernel)
theorem tt_568 : Cond.methodLink nR_Room 163 Lib.MathLoose.max_long.x ∈ TT := tt_t (i := 568) (by decide +kernel) (by decide +kernel)
theorem tt_569 : Cond.static Lib.MathLoose.max_long.x ∈ TT := tt_t (i := 569) (by decide +kernel) (by decide +kernel)
set_option maxRecDepth 100000 in
theorem tt_570 : Cond.code Lib.MathLoose.max_long.x Lib.MathLoose.max_long.code 4 (some .long) ∈ TT := tt_t (i := 570) (rfl) (by decide +kernel)
theorem tt_575 : Cond.instanceMethod nY_Room_risk ∈ TT := tt_t (i := 575) (by decide +kernel) (by decide +kernel)
theorem tt_576 : Cond.selects nR_Room nY_Room_risk nY_Room_risk ∈ TT := tt_t (i := 576) (by decide +kernel) (by decide +kernel)
set_option maxRecDepth 100000 in
theorem tt_577 : Cond.code nY_Room_risk nC_Room_risk 4 (some .int) ∈ TT := tt_t (i := 577) (rfl) (by decide +kernel)
theorem tt_582 : Cond.instanceMethod nY_Room_points ∈ TT := tt_t (i := 582) (by decide +kernel) (by decide +kernel)
theorem tt_583 : Cond.selects nR_Room nY_Room_points nY_Room_points ∈ TT := tt_t (i := 583) (by decide +kernel) (by decide +kernel)
set_option maxRecDepth 100000 in
theorem tt_584 : Cond.code nY_Room_points nC_Room_points 2 (some .int) ∈ TT := tt_t (i := 584) (rfl) (by decide +kernel)
theorem tt_589 : Cond.instanceMethod nY_Room_rule ∈ TT := tt_t (i := 589) (by decide +kernel) (by decide +kernel)
theorem tt_590 : Cond.selects nR_Room nY_Room_rule nY_Room_rule ∈ TT := tt_t (i := 590) (by decide +kernel) (by decide +kernel)
set_option maxRecDepth 100000 in
theorem tt_591 : Cond.code nY_Room_rule nC_Room_rule 4 (some .int) ∈ TT := tt_t (i := 591) (rfl) (by decide +kernel)
theorem tt_592 : Cond.methodLink nR_Room 170 nY_Rules_append ∈ TT := tt_t (i := 592) (by decide +kernel) (by decide +kernel)
theorem tt_593 : Cond.instanceMethod nY_Rules_append ∈ TT := tt_t (i := 593) (by decide +kernel) (by decide +kernel)
theorem tt_594 : Cond.selects nR_Rules nY_Rules_append nY_Rules_append ∈ TT := tt_t (i := 594) (by decide +kernel) (by decide +kernel)
set_option maxRecDepth 100000 in
theorem tt_595 : Cond.code nY_Rules_append nC_Rules_append 4 (some .int) ∈ TT := tt_t (i := 595) (rfl) (by decide +kernel)
theorem tt_600 : Cond.instanceMethod nY_Room_alarm ∈ TT := tt_t (i := 600) (by decide +kernel) (by decide +kernel)
theorem tt_601 : Cond.selects nR_Room nY_Room_alarm nY_Room_alarm ∈ TT := tt_t (i := 601) (by decide +kernel) (by decide +kernel)
set_option maxRecDepth 100000 in
theorem tt_602 : Cond.code nY_Room_alarm nC_Room_alarm 4 (some .int) ∈ TT := tt_t (i := 602) (rfl) (by decide +kernel)
theorem tt_603 : Cond.stringRef nR_Room 175 "no alarm has such a number" ∈ TT := tt_t (i := 603) (by decide +kernel) (by decide +kernel)
theorem tt_608 : Cond.instanceMethod nY_Room_sensor ∈ TT := tt_t (i := 608) (by decide +kernel) (by decide +kernel)
theorem tt_609 : Cond.selects nR_Room nY_Room_sensor nY_Room_sensor ∈ TT := tt_t (i := 609) (by decide +kernel) (by decide +kernel)
set_option maxRecDepth 100000 in
theorem tt_610 : Cond.code nY_Room_sensor nC_Room_sensor 3 none ∈ TT := tt_t (i := 610) (rfl) (by decide +kernel)
theorem tt_611 : Cond.constant nR_Room 187 (-100000 : Int32) ∈ TT := tt_t (i := 611) (by decide +kernel) (by decide +kernel)
theorem tt_612 : Cond.methodLink nR_Room 188 nY_Gauge_sense ∈ TT := tt_t (i := 612) (by decide +kernel) (by decide +kernel)
theorem tt_613 : Cond.instanceMethod nY_Gauge_sense ∈ TT := tt_t (i := 613) (by decide +kernel) (by decide +kernel)
theorem tt_614 : Cond.selects nR_Gauge nY_Gauge_sense nY_Gauge_sense ∈ TT := tt_t (i := 614) (by decide +kernel) (by decide +kernel)
set_option maxRecDepth 100000 in
theorem tt_615 : Cond.code nY_Gauge_sense nC_Gauge_sense 3 none ∈ TT := tt_t (i := 615) (rfl) (by decide +kernel)
theorem tt_620 : Cond.instanceMethod nY_Room_check ∈ TT := tt_t (i := 620) (by decide +kernel) (by decide +kernel)
theorem tt_621 : Cond.selects nR_Room nY_Room_check nY_Room_check ∈ TT := tt_t (i := 621) (by decide +kernel) (by decide +kernel)
set_option maxRecDepth 100000 in
theorem tt_622 : Cond.code nY_Room_check nC_Room_check 3 none ∈ TT := tt_t (i := 622) (rfl) (by decide +kernel)
theorem tt_623 : Cond.stringRef nR_Room 196 "this hour has no value to check" ∈ TT := tt_t (i := 623) (by decide +kernel) (by decide +kernel)
theorem tt_624 : Cond.methodLink nR_Room 199 nY_Gauge_compare ∈ TT := tt_t (i := 624) (by decide +kernel) (by decide +kernel)
theorem tt_625 : Cond.instanceMethod nY_Gauge_compare ∈ TT := tt_t (i := 625) (by decide +kernel) (by decide +kernel)
theorem tt_626 : Cond.selects nR_Gauge nY_Gauge_compare nY_Gauge_compare ∈ TT := tt_t (i := 626) (by decide +kernel) (by decide +kernel)
set_option maxRecDepth 100000 in
theorem tt_627 : Cond.code nY_Gauge_compare nC_Gauge_compare 3 none ∈ TT := tt_t (i := 627) (rfl) (by decide +kernel)
theorem tt_632 : Cond.instanceMethod nY_Room_corrected ∈ TT := tt_t (i := 632) (by decide +kernel) (by decide +kernel)
theorem tt_633 : Cond.selects nR_Room nY_Room_corrected nY_Room_corrected ∈ TT := tt_t (i := 633) (by decide +kernel) (by decide +kernel)
set_option maxRecDepth 100000 in
theorem tt_634 : Cond.code nY_Room_corrected nC_Room_corrected 2 (some .int) ∈ TT := tt_t (i := 634) (rfl) (by decide +kernel)
theorem tt_635 : Cond.methodLink nR_Room 205 nY_Gauge_drift ∈ TT := tt_t (i := 635) (by decide +kernel) (by decide +kernel)
theorem tt_636 : Cond.instanceMethod nY_Gauge_drift ∈ TT := tt_t (i := 636) (by decide +kernel) (by decide +kernel)
theorem tt_637 : Cond.selects nR_Gauge nY_Gauge_drift nY_Gauge_drift ∈ TT := tt_t (i := 637) (by decide +kernel) (by decide +kernel)
set_option maxRecDepth 100000 in
theorem tt_638 : Cond.code nY_Gauge_drift nC_Gauge_drift 6 (some .int) ∈ TT := tt_t (i := 638) (rfl) (by decide +kernel)
theorem tt_639 : Cond.methodLink nR_Gauge 29 nY_Gauge_lastCheckUpTo ∈ TT := tt_t (i := 639) (by decide +kernel) (by decide +kernel)
theorem tt_641 : Cond.instanceMethod nY_Gauge_lastCheckUpTo ∈ TT := tt_t (i := 641) (by decide +kernel) (by decide +kernel)
set_option maxRecDepth 100000 in
theorem tt_642 : Cond.code nY_Gauge_lastCheckUpTo nC_Gauge_lastCheckUpTo 3 (some .int) ∈ TT := tt_t (i := 642) (rfl) (by decide +kernel)
theorem tt_643 : Cond.methodLink nR_Gauge 33 nY_Gauge_firstCheckFrom ∈ TT := tt_t (i := 643) (by decide +kernel) (by decide +kernel)
theorem tt_645 : Cond.instanceMethod nY_Gauge_firstCheckFrom ∈ TT := tt_t (i := 645) (by decide +kernel) (by decide +kernel)
set_option maxRecDepth 100000 in
theorem tt_646 : Cond.code nY_Gauge_firstCheckFrom nC_Gauge_firstCheckFrom 4 (some .int) ∈ TT := tt_t (i := 646) (rfl) (by decide +kernel)
theorem tt_647 : Cond.methodLink nR_Gauge 37 nY_Gauge_driftOfCheck ∈ TT := tt_t (i := 647) (by decide +kernel) (by decide +kernel)
theorem tt_649 : Cond.instanceMethod nY_Gauge_driftOfCheck ∈ TT := tt_t (i := 649) (by decide +kernel) (by decide +kernel)
set_option maxRecDepth 100000 in
theorem tt_650 : Cond.code nY_Gauge_driftOfCheck nC_Gauge_driftOfCheck 2 (some .int) ∈ TT := tt_t (i := 650) (rfl) (by decide +kernel)
theorem tt_651 : Cond.methodLinkNest nR_Gauge 40 nY_Room_by "RoomClimate" ∈ TT := tt_t (i := 651) (by decide +kernel) (by decide +kernel)
theorem tt_652 : Cond.constant nR_Room 208 (-200000 : Int32) ∈ TT := tt_t (i := 652) (by decide +kernel) (by decide +kernel)
theorem tt_657 : Cond.instanceMethod nY_Room_silent ∈ TT := tt_t (i := 657) (by decide +kernel) (by decide +kernel)
theorem tt_658 : Cond.selects nR_Room nY_Room_silent nY_Room_silent ∈ TT := tt_t (i := 658) (by decide +kernel) (by decide +kernel)
set_option maxRecDepth 100000 in
theorem tt_659 : Cond.code nY_Room_silent nC_Room_silent 2 (some .int) ∈ TT := tt_t (i := 659) (rfl) (by decide +kernel)
theorem tt_660 : Cond.methodLink nR_Room 209 nY_Gauge_longestGap ∈ TT := tt_t (i := 660) (by decide +kernel) (by decide +kernel)
theorem tt_661 : Cond.instanceMethod nY_Gauge_longestGap ∈ TT := tt_t (i := 661) (by decide +kernel) (by decide +kernel)
theorem tt_662 : Cond.selects nR_Gauge nY_Gauge_longestGap nY_Gauge_longestGap ∈ TT := tt_t (i := 662) (by decide +kernel) (by decide +kernel)
set_option maxRecDepth 100000 in
theorem tt_663 : Cond.code nY_Gauge_longestGap nC_Gauge_longestGap 7 (some .int) ∈ TT := tt_t (i := 663) (rfl) (by decide +kernel)
theorem tt_668 : Cond.instanceMethod nY_Room_plan ∈ TT := tt_t (i := 668) (by decide +kernel) (by decide +kernel)
theorem tt_669 : Cond.selects nR_Room nY_Room_plan nY_Room_plan ∈ TT := tt_t (i := 669) (by decide +kernel) (by decide +kernel)
set_option maxRecDepth 100000 in
theorem tt_670 : Cond.code nY_Room_plan nC_Room_plan 10 (some .int) ∈ TT := tt_t (i := 670) (rfl) (by decide +kernel)
theorem tt_671 : Cond.methodLink nR_Room 212 nY_Room_costOfLevel ∈ TT := tt_t (i := 671) (by decide +kernel) (by decide +kernel)
theorem tt_673 : Cond.instanceMethod nY_Room_costOfLevel ∈ TT := tt_t (i := 673) (by decide +kernel) (by decide +kernel)
set_option maxRecDepth 100000 in
theorem tt_674 : Cond.code nY_Room_costOfLevel nC_Room_costOfLevel 8 (some .long) ∈ TT := tt_t (i := 674) (rfl) (by decide +kernel)
theorem tt_675 : Cond.methodLink nR_Room 225 nY_House_copyFrom ∈ TT := tt_t (i := 675) (by decide +kernel) (by decide +kernel)
theorem tt_676 : Cond.instanceMethod nY_House_copyFrom ∈ TT := tt_t (i := 676) (by decide +kernel) (by decide +kernel)
theorem tt_677 : Cond.selects nR_House nY_House_copyFrom nY_House_copyFrom ∈ TT := tt_t (i := 677) (by decide +kernel) (by decide +kernel)
set_option maxRecDepth 100000 in
theorem tt_678 : Cond.code nY_House_copyFrom nC_House_copyFrom 2 none ∈ TT := tt_t (i := 678) (rfl) (by decide +kernel)
theorem tt_679 : Cond.methodLink nR_House 58 nY_Interior_copyFrom ∈ TT := tt_t (i := 679) (by decide +kernel) (by decide +kernel)
theorem tt_680 : Cond.instanceMethod nY_Interior_copyFrom ∈ TT := tt_t (i := 680) (by decide +kernel) (by decide +kernel)
theorem tt_681 : Cond.selects nR_Interior nY_Interior_copyFrom nY_Interior_copyFrom ∈ TT := tt_t (i := 681) (by decide +kernel) (by decide +kernel)
set_option maxRecDepth 100000 in
theorem tt_682 : Cond.code nY_Interior_copyFrom nC_Interior_copyFrom 2 none ∈ TT := tt_t (i := 682) (rfl) (by decide +kernel)
theorem tt_683 : Cond.methodLink nR_House 61 nY_Walls_copyFrom ∈ TT := tt_t (i := 683) (by decide +kernel) (by decide +kernel)
theorem tt_684 : Cond.instanceMethod nY_Walls_copyFrom ∈ TT := tt_t (i := 684) (by decide +kernel) (by decide +kernel)
theorem tt_685 : Cond.selects nR_Walls nY_Walls_copyFrom nY_Walls_copyFrom ∈ TT := tt_t (i := 685) (by decide +kernel) (by decide +kernel)
set_option maxRecDepth 100000 in
theorem tt_686 : Cond.code nY_Walls_copyFrom nC_Walls_copyFrom 3 none ∈ TT := tt_t (i := 686) (rfl) (by decide +kernel)
theorem tt_687 : Cond.methodLink nR_House 64 nY_Goods_copyFrom ∈ TT := tt_t (i := 687) (by decide +kernel) (by decide +kernel)
theorem tt_688 : Cond.instanceMethod nY_Goods_copyFrom ∈ TT := tt_t (i := 688) (by decide +kernel) (by decide +kernel)
theorem tt_689 : Cond.selects nR_Goods nY_Goods_copyFrom nY_Goods_copyFrom ∈ TT := tt_t (i := 689) (by decide +kernel) (by decide +kernel)
set_option maxRecDepth 100000 in
theorem tt_690 : Cond.code nY_Goods_copyFrom nC_Goods_copyFrom 2 none ∈ TT := tt_t (i := 690) (rfl) (by decide +kernel)
theorem tt_691 : Cond.methodLink nR_House 67 nY_Machines_copyFrom ∈ TT := tt_t (i := 691) (by decide +kernel) (by decide +kernel)
theorem tt_692 : Cond.instanceMethod nY_Machines_copyFrom ∈ TT := tt_t (i := 692) (by decide +kernel) (by decide +kernel)
theorem tt_693 : Cond.selects nR_Machines nY_Machines_copyFrom nY_Machines_copyFrom ∈ TT := tt_t (i := 693) (by decide +kernel) (by decide +kernel)
set_option maxRecDepth 100000 in
theorem tt_694 : Cond.code nY_Machines_copyFrom nC_Machines_copyFrom 3 none ∈ TT := tt_t (i := 694) (rfl) (by decide +kernel)
theorem tt_695 : Cond.methodLink nR_Room 229 nY_Machines_rateOr ∈ TT := tt_t (i := 695) (by decide +kernel) (by decide +kernel)
theorem tt_696 : Cond.instanceMethod nY_Machines_rateOr ∈ TT := tt_t (i := 696) (by decide +kernel) (by decide +kernel)
theorem tt_697 : Cond.selects nR_Machines nY_Machines_rateOr nY_Machines_rateOr ∈ TT := tt_t (i := 697) (by decide +kernel) (by decide +kernel)
set_option maxRecDepth 100000 in
theorem tt_698 : Cond.code nY_Machines_rateOr nC_Machines_rateOr 3 (some .int) ∈ TT := tt_t (i := 698) (rfl) (by decide +kernel)
theorem tt_699 : Cond.methodLink nR_Room 232 nY_Machines_output ∈ TT := tt_t (i := 699) (by decide +kernel) (by decide +kernel)
theorem tt_700 : Cond.constantLong nR_Room 236 (100 : Int64) ∈ TT := tt_t (i := 700) (by decide +kernel) (by decide +kernel)
theorem tt_701 : Cond.methodLink nR_Room 238 nY_Room_distanceFromPlanned ∈ TT := tt_t (i := 701) (by decide +kernel) (by decide +kernel)
theorem tt_702 : Cond.static nY_Room_distanceFromPlanned ∈ TT := tt_t (i := 702) (by decide +kernel) (by decide +kernel)
set_option maxRecDepth 100000 in
theorem tt_703 : Cond.code nY_Room_distanceFromPlanned nC_Room_distanceFromPlanned 2 (some .long) ∈ TT := tt_t (i := 703) (rfl) (by decide +kernel)
theorem tt_704 : Cond.constantLong nR_Room 242 (18000 : Int64) ∈ TT := tt_t (i := 704) (by decide +kernel) (by decide +kernel)
theorem tt_705 : Cond.constantLong nR_Room 244 (22000 : Int64) ∈ TT := tt_t (i := 705) (by decide +kernel) (by decide +kernel)
theorem tt_710 : Cond.instanceMethod nY_Room_count ∈ TT := tt_t (i := 710) (by decide +kernel) (by decide +kernel)
theorem tt_711 : Cond.selects nR_Room nY_Room_count nY_Room_count ∈ TT := tt_t (i := 711) (by decide +kernel) (by decide +kernel)
set_option maxRecDepth 100000 in
theorem tt_712 : Cond.code nY_Room_count nC_Room_count 2 (some .int) ∈ TT := tt_t (i := 712) (rfl) (by decide +kernel)
theorem tt_713 : Cond.stringRef nR_Room 219 "there is no such count" ∈ TT := tt_t (i := 713) (by decide +kernel) (by decide +kernel)
theorem tt_722 : Cond.constant nR_Model 95 (-200000 : Int32) ∈ TT := tt_t (i := 722) (by decide +kernel) (by decide +kernel)
theorem tt_723 : Cond.fieldLink nR_Model 96 "RoomClimateModel" "thrown" "I" ∈ TT := tt_t (i := 723) (by decide +kernel) (by decide +kernel)
theorem tt_724 : Cond.fieldLink nR_Model 7 "RoomClimateModel" "volume" "I" ∈ TT := tt_t (i := 724) (by decide +kernel) (by decide +kernel)
theorem tt_725 : Cond.fieldLink nR_Model 13 "RoomClimateModel" "share" "I" ∈ TT := tt_t (i := 725) (by decide +kernel) (by decide +kernel)
theorem tt_726 : Cond.fieldLink nR_Model 16 "RoomClimateModel" "now" "[J" ∈ TT := tt_t (i := 726) (by decide +kernel) (by decide +kernel)
theorem tt_727 : Cond.fieldLink nR_Model 20 "RoomClimateModel" "kept" "[J" ∈ TT := tt_t (i := 727) (by decide +kernel) (by decide +kernel)
theorem tt_728 : Cond.fieldLink nR_Model 23 "RoomClimateModel" "books" "[J" ∈ TT := tt_t (i := 728) (by decide +kernel) (by decide +kernel)
theorem tt_729 : Cond.fieldLink nR_Model 26 "RoomClimateModel" "keptBooks" "[J" ∈ TT := tt_t (i := 729) (by decide +kernel) (by decide +kernel)
theorem tt_730 : Cond.fieldLink nR_Model 107 "RoomClimateModel" "layers" "I" ∈ TT := tt_t (i := 730) (by decide +kernel) (by decide +kernel)
theorem tt_731 : Cond.fieldLink nR_Model 29 "RoomClimateModel" "conductances" "[I" ∈ TT := tt_t (i := 731) (by decide +kernel) (by decide +kernel)
theorem tt_732 : Cond.fieldLink nR_Model 33 "RoomClimateModel" "capacities" "[I" ∈ TT := tt_t (i := 732) (by decide +kernel) (by decide +kernel)
theorem tt_733 : Cond.fieldLink nR_Model 112 "RoomClimateModel" "kilograms" "I" ∈ TT := tt_t (i := 733) (by decide +kernel) (by decide +kernel)
theorem tt_734 : Cond.fieldLink nR_Model 115 "RoomClimateModel" "rows" "I" ∈ TT := tt_t (i := 734) (by decide +kernel) (by decide +kernel)
theorem tt_735 : Cond.fieldLink nR_Model 36 "RoomClimateModel" "rowDamps" "[I" ∈ TT := tt_t (i := 735) (by decide +kernel) (by decide +kernel)
theorem tt_736 : Cond.fieldLink nR_Model 39 "RoomClimateModel" "rowWaters" "[I" ∈ TT := tt_t (i := 736) (by decide +kernel) (by decide +kernel)
theorem tt_737 : Cond.fieldLink nR_Model 42 "RoomClimateModel" "told" "[Z" ∈ TT := tt_t (i := 737) (by decide +kernel) (by decide +kernel)
theorem tt_738 : Cond.fieldLink nR_Model 46 "RoomClimateModel" "lows" "[I" ∈ TT := tt_t (i := 738) (by decide +kernel) (by decide +kernel)
theorem tt_739 : Cond.fieldLink nR_Model 49 "RoomClimateModel" "highs" "[I" ∈ TT := tt_t (i := 739) (by decide +kernel) (by decide +kernel)
theorem tt_740 : Cond.fieldLink nR_Model 52 "RoomClimateModel" "rates" "[I" ∈ TT := tt_t (i := 740) (by decide +kernel) (by decide +kernel)
theorem tt_741 : Cond.fieldLink nR_Model 172 "RoomClimateModel" "hours" "I" ∈ TT := tt_t (i := 741) (by decide +kernel) (by decide +kernel)
theorem tt_742 : Cond.fieldLink nR_Model 55 "RoomClimateModel" "riskRows" "[I" ∈ TT := tt_t (i := 742) (by decide +kernel) (by decide +kernel)
theorem tt_743 : Cond.fieldLink nR_Model 58 "RoomClimateModel" "levels" "[I" ∈ TT := tt_t (i := 743) (by decide +kernel) (by decide +kernel)
theorem tt_744 : Cond.fieldLink nR_Model 61 "RoomClimateModel" "pointsOf" "[I" ∈ TT := tt_t (i := 744) (by decide +kernel) (by decide +kernel)
theorem tt_745 : Cond.fieldLink nR_Model 64 "RoomClimateModel" "sums" "[I" ∈ TT := tt_t (i := 745) (by decide +kernel) (by decide +kernel)
theorem tt_746 : Cond.fieldLink nR_Model 169 "RoomClimateModel" "rules" "I" ∈ TT := tt_t (i := 746) (by decide +kernel) (by decide +kernel)
theorem tt_747 : Cond.fieldLink nR_Model 67 "RoomClimateModel" "ruleKinds" "[I" ∈ TT := tt_t (i := 747) (by decide +kernel) (by decide +kernel)
theorem tt_748 : Cond.fieldLink nR_Model 70 "RoomClimateModel" "ruleLevels" "[I" ∈ TT := tt_t (i := 748) (by decide +kernel) (by decide +kernel)
theorem tt_749 : Cond.fieldLink nR_Model 73 "RoomClimateModel" "holds" "[I" ∈ TT := tt_t (i := 749) (by decide +kernel) (by decide +kernel)
theorem tt_750 : Cond.fieldLink nR_Model 76 "RoomClimateModel" "alarms" "[I" ∈ TT := tt_t (i := 750) (by decide +kernel) (by decide +kernel)
theorem tt_751 : Cond.fieldLink nR_Model 79 "RoomClimateModel" "alarmHours" "[I" ∈ TT := tt_t (i := 751) (by decide +kernel) (by decide +kernel)
theorem tt_752 : Cond.fieldLink nR_Model 82 "RoomClimateModel" "values" "[I" ∈ TT := tt_t (i := 752) (by decide +kernel) (by decide +kernel)
theorem tt_753 : Cond.fieldLink nR_Model 85 "RoomClimateModel" "checked" "[Z" ∈ TT := tt_t (i := 753) (by decide +kernel) (by decide +kernel)
theorem tt_754 : Cond.fieldLink nR_Model 88 "RoomClimateModel" "rights" "[I" ∈ TT := tt_t (i := 754) (by decide +kernel) (by decide +kernel)
theorem tt_755 : Cond.lays nR_Model "RoomClimateModel" "thrown" "I" ∈ TT := tt_t (i := 755) (by decide +kernel) (by decide +kernel)
theorem tt_757 : Cond.lays nR_Model "RoomClimateModel" "volume" "I" ∈ TT := tt_t (i := 757) (by decide +kernel) (by decide +kernel)
theorem tt_759 : Cond.lays nR_Model "RoomClimateModel" "share" "I" ∈ TT := tt_t (i := 759) (by decide +kernel) (by decide +kernel)
theorem tt_761 : Cond.laysFinal nR_Model "RoomClimateModel" "now" "[J" ∈ TT := tt_t (i := 761) (by decide +kernel) (by decide +kernel)
theorem tt_763 : Cond.laysFinal nR_Model "RoomClimateModel" "kept" "[J" ∈ TT := tt_t (i := 763) (by decide +kernel) (by decide +kernel)
theorem tt_765 : Cond.laysFinal nR_Model "RoomClimateModel" "books" "[J" ∈ TT := tt_t (i := 765) (by decide +kernel) (by decide +kernel)
theorem tt_767 : Cond.laysFinal nR_Model "RoomClimateModel" "keptBooks" "[J" ∈ TT := tt_t (i := 767) (by decide +kernel) (by decide +kernel)
theorem tt_769 : Cond.lays nR_Model "RoomClimateModel" "layers" "I" ∈ TT := tt_t (i := 769) (by decide +kernel) (by decide +kernel)
theorem tt_771 : Cond.laysFinal nR_Model "RoomClimateModel" "conductances" "[I" ∈ TT := tt_t (i := 771) (by decide +kernel) (by decide +kernel)
theorem tt_773 : Cond.laysFinal nR_Model "RoomClimateModel" "capacities" "[I" ∈ TT := tt_t (i := 773) (by decide +kernel) (by decide +kernel)
theorem tt_775 : Cond.lays nR_Model "RoomClimateModel" "kilograms" "I" ∈ TT := tt_t (i := 775) (by decide +kernel) (by decide +kernel)
theorem tt_777 : Cond.lays nR_Model "RoomClimateModel" "rows" "I" ∈ TT := tt_t (i := 777) (by decide +kernel) (by decide +kernel)
theorem tt_779 : Cond.laysFinal nR_Model "RoomClimateModel" "rowDamps" "[I" ∈ TT := tt_t (i := 779) (by decide +kernel) (by decide +kernel)
theorem tt_781 : Cond.laysFinal nR_Model "RoomClimateModel" "rowWaters" "[I" ∈ TT := tt_t (i := 781) (by decide +kernel) (by decide +kernel)
theorem tt_783 : Cond.laysFinal nR_Model "RoomClimateModel" "told" "[Z" ∈ TT := tt_t (i := 783) (by decide +kernel) (by decide +kernel)
theorem tt_785 : Cond.laysFinal nR_Model "RoomClimateModel" "lows" "[I" ∈ TT := tt_t (i := 785) (by decide +kernel) (by decide +kernel)
theorem tt_787 : Cond.laysFinal nR_Model "RoomClimateModel" "highs" "[I" ∈ TT := tt_t (i := 787) (by decide +kernel) (by decide +kernel)
theorem tt_789 : Cond.laysFinal nR_Model "RoomClimateModel" "rates" "[I" ∈ TT := tt_t (i := 789) (by decide +kernel) (by decide +kernel)
theorem tt_791 : Cond.lays nR_Model "RoomClimateModel" "hours" "I" ∈ TT := tt_t (i := 791) (by decide +kernel) (by decide +kernel)
theorem tt_793 : Cond.laysFinal nR_Model "RoomClimateModel" "riskRows" "[I" ∈ TT := tt_t (i := 793) (by decide +kernel) (by decide +kernel)
theorem tt_795 : Cond.laysFinal nR_Model "RoomClimateModel" "levels" "[I" ∈ TT := tt_t (i := 795) (by decide +kernel) (by decide +kernel)
theorem tt_797 : Cond.laysFinal nR_Model "RoomClimateModel" "pointsOf" "[I" ∈ TT := tt_t (i := 797) (by decide +kernel) (by decide +kernel)
theorem tt_799 : Cond.laysFinal nR_Model "RoomClimateModel" "sums" "[I" ∈ TT := tt_t (i := 799) (by decide +kernel) (by decide +kernel)
theorem tt_801 : Cond.lays nR_Model "RoomClimateModel" "rules" "I" ∈ TT := tt_t (i := 801) (by decide +kernel) (by decide +kernel)
theorem tt_803 : Cond.laysFinal nR_Model "RoomClimateModel" "ruleKinds" "[I" ∈ TT := tt_t (i := 803) (by decide +kernel) (by decide +kernel)
theorem tt_805 : Cond.laysFinal nR_Model "RoomClimateModel" "ruleLevels" "[I" ∈ TT := tt_t (i := 805) (by decide +kernel) (by decide +kernel)
theorem tt_807 : Cond.laysFinal nR_Model "RoomClimateModel" "holds" "[I" ∈ TT := tt_t (i := 807) (by decide +kernel) (by decide +kernel)
theorem tt_809 : Cond.laysFinal nR_Model "RoomClimateModel" "alarms" "[I" ∈ TT := tt_t (i := 809) (by decide +kernel) (by decide +kernel)
theorem tt_811 : Cond.laysFinal nR_Model "RoomClimateModel" "alarmHours" "[I" ∈ TT := tt_t (i := 811) (by decide +kernel) (by decide +kernel)
theorem tt_813 : Cond.laysFinal nR_Model "RoomClimateModel" "values" "[I" ∈ TT := tt_t (i := 813) (by decide +kernel) (by decide +kernel)
theorem tt_815 : Cond.laysFinal nR_Model "RoomClimateModel" "checked" "[Z" ∈ TT := tt_t (i := 815) (by decide +kernel) (by decide +kernel)
theorem tt_817 : Cond.laysFinal nR_Model "RoomClimateModel" "rights" "[I" ∈ TT := tt_t (i := 817) (by decide +kernel) (by decide +kernel)
theorem tt_821 : Cond.instanceMethod nY_Model_thrown ∈ TT := tt_t (i := 821) (by decide +kernel) (by decide +kernel)
theorem tt_822 : Cond.selects nR_Model nY_Model_thrown nY_Model_thrown ∈ TT := tt_t (i := 822) (by decide +kernel) (by decide +kernel)
set_option maxRecDepth 100000 in
theorem tt_823 : Cond.code nY_Model_thrown nC_Model_thrown 1 (some .int) ∈ TT := tt_t (i := 823) (rfl) (by decide +kernel)
theorem tt_825 : Cond.instanceMethod nY_Model_room ∈ TT := tt_t (i := 825) (by decide +kernel) (by decide +kernel)
theorem tt_826 : Cond.selects nR_Model nY_Model_room nY_Model_room ∈ TT := tt_t (i := 826) (by decide +kernel) (by decide +kernel)
set_option maxRecDepth 100000 in
theorem tt_827 : Cond.code nY_Model_room nC_Model_room 3 none ∈ TT := tt_t (i := 827) (rfl) (by decide +kernel)
theorem tt_828 : Cond.methodLink nR_Model 99 nY_Model_within ∈ TT := tt_t (i := 828) (by decide +kernel) (by decide +kernel)
theorem tt_829 : Cond.static nY_Model_within ∈ TT := tt_t (i := 829) (by decide +kernel) (by decide +kernel)
set_option maxRecDepth 100000 in
theorem tt_830 : Cond.code nY_Model_within nC_Model_within 3 (some .boolean) ∈ TT := tt_t (i := 830) (rfl) (by decide +kernel)
theorem tt_831 : Cond.methodLink nR_Model 103 nY_Model_goes ∈ TT := tt_t (i := 831) (by decide +kernel) (by decide +kernel)
theorem tt_833 : Cond.instanceMethod nY_Model_goes ∈ TT := tt_t (i := 833) (by decide +kernel) (by decide +kernel)
set_option maxRecDepth 100000 in
theorem tt_834 : Cond.code nY_Model_goes nC_Model_goes 4 (some .boolean) ∈ TT := tt_t (i := 834) (rfl) (by decide +kernel)
theorem tt_836 : Cond.instanceMethod nY_Model_wall ∈ TT := tt_t (i := 836) (by decide +kernel) (by decide +kernel)
theorem tt_837 : Cond.selects nR_Model nY_Model_wall nY_Model_wall ∈ TT := tt_t (i := 837) (by decide +kernel) (by decide +kernel)
set_option maxRecDepth 100000 in
theorem tt_838 : Cond.code nY_Model_wall nC_Model_wall 3 (some .int) ∈ TT := tt_t (i := 838) (rfl) (by decide +kernel)
theorem tt_839 : Cond.constantLong nR_Model 110 (20000 : Int64) ∈ TT := tt_t (i := 839) (by decide +kernel) (by decide +kernel)
theorem tt_841 : Cond.instanceMethod nY_Model_goods ∈ TT := tt_t (i := 841) (by decide +kernel) (by decide +kernel)
theorem tt_842 : Cond.selects nR_Model nY_Model_goods nY_Model_goods ∈ TT := tt_t (i := 842) (by decide +kernel) (by decide +kernel)
set_option maxRecDepth 100000 in
theorem tt_843 : Cond.code nY_Model_goods nC_Model_goods 3 (some .int) ∈ TT := tt_t (i := 843) (rfl) (by decide +kernel)
theorem tt_845 : Cond.instanceMethod nY_Model_row ∈ TT := tt_t (i := 845) (by decide +kernel) (by decide +kernel)
theorem tt_846 : Cond.selects nR_Model nY_Model_row nY_Model_row ∈ TT := tt_t (i := 846) (by decide +kernel) (by decide +kernel)
set_option maxRecDepth 100000 in
theorem tt_847 : Cond.code nY_Model_row nC_Model_row 4 (some .int) ∈ TT := tt_t (i := 847) (rfl) (by decide +kernel)
theorem tt_848 : Cond.constant nR_Model 118 (60000 : Int32) ∈ TT := tt_t (i := 848) (by decide +kernel) (by decide +kernel)
theorem tt_850 : Cond.instanceMethod nY_Model_machine ∈ TT := tt_t (i := 850) (by decide +kernel) (by decide +kernel)
theorem tt_851 : Cond.selects nR_Model nY_Model_machine nY_Model_machine ∈ TT := tt_t (i := 851) (by decide +kernel) (by decide +kernel)
set_option maxRecDepth 100000 in
theorem tt_852 : Cond.code nY_Model_machine nC_Model_machine 5 none ∈ TT := tt_t (i := 852) (rfl) (by decide +kernel)
theorem tt_853 : Cond.methodLink nR_Model 120 nY_Model_isLevel ∈ TT := tt_t (i := 853) (by decide +kernel) (by decide +kernel)
theorem tt_854 : Cond.static nY_Model_isLevel ∈ TT := tt_t (i := 854) (by decide +kernel) (by decide +kernel)
set_option maxRecDepth 100000 in
theorem tt_855 : Cond.code nY_Model_isLevel nC_Model_isLevel 1 (some .boolean) ∈ TT := tt_t (i := 855) (rfl) (by decide +kernel)
theorem tt_856 : Cond.constant nR_Model 119 (-60000 : Int32) ∈ TT := tt_t (i := 856) (by decide +kernel) (by decide +kernel)
theorem tt_857 : Cond.constant nR_Model 124 (100000 : Int32) ∈ TT := tt_t (i := 857) (by decide +kernel) (by decide +kernel)
theorem tt_859 : Cond.instanceMethod nY_Model_hour ∈ TT := tt_t (i := 859) (by decide +kernel) (by decide +kernel)
theorem tt_860 : Cond.selects nR_Model nY_Model_hour nY_Model_hour ∈ TT := tt_t (i := 860) (by decide +kernel) (by decide +kernel)
set_option maxRecDepth 100000 in
theorem tt_861 : Cond.code nY_Model_hour nC_Model_hour 4 (some .int) ∈ TT := tt_t (i := 861) (rfl) (by decide +kernel)
theorem tt_862 : Cond.methodLink nR_Model 175 nY_Model_isOutside ∈ TT := tt_t (i := 862) (by decide +kernel) (by decide +kernel)
theorem tt_863 : Cond.static nY_Model_isOutside ∈ TT := tt_t (i := 863) (by decide +kernel) (by decide +kernel)
set_option maxRecDepth 100000 in
theorem tt_864 : Cond.code nY_Model_isOutside nC_Model_isOutside 2 (some .boolean) ∈ TT := tt_t (i := 864) (rfl) (by decide +kernel)
theorem tt_865 : Cond.methodLink nR_Model 179 nY_Model_goBy ∈ TT := tt_t (i := 865) (by decide +kernel) (by decide +kernel)
theorem tt_867 : Cond.instanceMethod nY_Model_goBy ∈ TT := tt_t (i := 867) (by decide +kernel) (by decide +kernel)
set_option maxRecDepth 100000 in
theorem tt_868 : Cond.code nY_Model_goBy nC_Model_goBy 6 (some .long) ∈ TT := tt_t (i := 868) (rfl) (by decide +kernel)
theorem tt_869 : Cond.methodLink nR_Model 153 nY_Model_air ∈ TT := tt_t (i := 869) (by decide +kernel) (by decide +kernel)
theorem tt_871 : Cond.instanceMethod nY_Model_air ∈ TT := tt_t (i := 871) (by decide +kernel) (by decide +kernel)
set_option maxRecDepth 100000 in
theorem tt_872 : Cond.code nY_Model_air nC_Model_air 7 none ∈ TT := tt_t (i := 872) (rfl) (by decide +kernel)
theorem tt_873 : Cond.methodLink nR_Model 129 nY_Model_degreesNow ∈ TT := tt_t (i := 873) (by decide +kernel) (by decide +kernel)
theorem tt_875 : Cond.instanceMethod nY_Model_degreesNow ∈ TT := tt_t (i := 875) (by decide +kernel) (by decide +kernel)
set_option maxRecDepth 100000 in
theorem tt_876 : Cond.code nY_Model_degreesNow nC_Model_degreesNow 1 (some .long) ∈ TT := tt_t (i := 876) (rfl) (by decide +kernel)
theorem tt_877 : Cond.methodLink nR_Model 125 nY_Model_by ∈ TT := tt_t (i := 877) (by decide +kernel) (by decide +kernel)
theorem tt_878 : Cond.static nY_Model_by ∈ TT := tt_t (i := 878) (by decide +kernel) (by decide +kernel)
set_option maxRecDepth 100000 in
theorem tt_879 : Cond.code nY_Model_by nC_Model_by 6 (some .long) ∈ TT := tt_t (i := 879) (rfl) (by decide +kernel)
theorem tt_880 : Cond.constantLong nR_Model 133 (1000 : Int64) ∈ TT := tt_t (i := 880) (by decide +kernel) (by decide +kernel)
theorem tt_881 : Cond.methodLink nR_Model 135 nY_Model_dampNow ∈ TT := tt_t (i := 881) (by decide +kernel) (by decide +kernel)
theorem tt_883 : Cond.instanceMethod nY_Model_dampNow ∈ TT := tt_t (i := 883) (by decide +kernel) (by decide +kernel)
set_option maxRecDepth 100000 in
theorem tt_884 : Cond.code nY_Model_dampNow nC_Model_dampNow 1 (some .long) ∈ TT := tt_t (i := 884) (rfl) (by decide +kernel)
theorem tt_885 : Cond.methodLink nR_Model 138 nY_Model_change ∈ TT := tt_t (i := 885) (by decide +kernel) (by decide +kernel)
theorem tt_887 : Cond.instanceMethod nY_Model_change ∈ TT := tt_t (i := 887) (by decide +kernel) (by decide +kernel)
set_option maxRecDepth 100000 in
theorem tt_888 : Cond.code nY_Model_change nC_Model_change 6 none ∈ TT := tt_t (i := 888) (rfl) (by decide +kernel)
theorem tt_889 : Cond.methodLink nR_Model 157 nY_Model_walls ∈ TT := tt_t (i := 889) (by decide +kernel) (by decide +kernel)
theorem tt_891 : Cond.instanceMethod nY_Model_walls ∈ TT := tt_t (i := 891) (by decide +kernel) (by decide +kernel)
set_option maxRecDepth 100000 in
theorem tt_892 : Cond.code nY_Model_walls nC_Model_walls 7 none ∈ TT := tt_t (i := 892) (rfl) (by decide +kernel)
theorem tt_893 : Cond.methodLink nR_Model 142 nY_Model_layerNow ∈ TT := tt_t (i := 893) (by decide +kernel) (by decide +kernel)
theorem tt_895 : Cond.instanceMethod nY_Model_layerNow ∈ TT := tt_t (i := 895) (by decide +kernel) (by decide +kernel)
set_option maxRecDepth 100000 in
theorem tt_896 : Cond.code nY_Model_layerNow nC_Model_layerNow 2 (some .long) ∈ TT := tt_t (i := 896) (rfl) (by decide +kernel)
theorem tt_897 : Cond.constantLong nR_Model 146 (100 : Int64) ∈ TT := tt_t (i := 897) (by decide +kernel) (by decide +kernel)
theorem tt_898 : Cond.methodLink nR_Model 161 nY_Model_goodsTake ∈ TT := tt_t (i := 898) (by decide +kernel) (by decide +kernel)
theorem tt_900 : Cond.instanceMethod nY_Model_goodsTake ∈ TT := tt_t (i := 900) (by decide +kernel) (by decide +kernel)
set_option maxRecDepth 100000 in
theorem tt_901 : Cond.code nY_Model_goodsTake nC_Model_goodsTake 3 none ∈ TT := tt_t (i := 901) (rfl) (by decide +kernel)
theorem tt_902 : Cond.methodLink nR_Model 148 nY_Model_due ∈ TT := tt_t (i := 902) (by decide +kernel) (by decide +kernel)
theorem tt_904 : Cond.instanceMethod nY_Model_due ∈ TT := tt_t (i := 904) (by decide +kernel) (by decide +kernel)
set_option maxRecDepth 100000 in
theorem tt_905 : Cond.code nY_Model_due nC_Model_due 4 (some .long) ∈ TT := tt_t (i := 905) (rfl) (by decide +kernel)
theorem tt_906 : Cond.constantLong nR_Model 151 (4 : Int64) ∈ TT := tt_t (i := 906) (by decide +kernel) (by decide +kernel)
theorem tt_907 : Cond.constantLong nR_Model 164 (50 : Int64) ∈ TT := tt_t (i := 907) (by decide +kernel) (by decide +kernel)
theorem tt_908 : Cond.methodLink nR_Model 166 nY_Model_works ∈ TT := tt_t (i := 908) (by decide +kernel) (by decide +kernel)
theorem tt_910 : Cond.instanceMethod nY_Model_works ∈ TT := tt_t (i := 910) (by decide +kernel) (by decide +kernel)
set_option maxRecDepth 100000 in
theorem tt_911 : Cond.code nY_Model_works nC_Model_works 9 (some .long) ∈ TT := tt_t (i := 911) (rfl) (by decide +kernel)
theorem tt_912 : Cond.methodLink nR_Model 183 nY_Model_addPoints ∈ TT := tt_t (i := 912) (by decide +kernel) (by decide +kernel)
theorem tt_914 : Cond.instanceMethod nY_Model_addPoints ∈ TT := tt_t (i := 914) (by decide +kernel) (by decide +kernel)
set_option maxRecDepth 100000 in
theorem tt_915 : Cond.code nY_Model_addPoints nC_Model_addPoints 6 none ∈ TT := tt_t (i := 915) (rfl) (by decide +kernel)
theorem tt_916 : Cond.methodLink nR_Model 186 nY_Model_ring ∈ TT := tt_t (i := 916) (by decide +kernel) (by decide +kernel)
theorem tt_918 : Cond.instanceMethod nY_Model_ring ∈ TT := tt_t (i := 918) (by decide +kernel) (by decide +kernel)
set_option maxRecDepth 100000 in
theorem tt_919 : Cond.code nY_Model_ring nC_Model_ring 6 none ∈ TT := tt_t (i := 919) (rfl) (by decide +kernel)
theorem tt_921 : Cond.instanceMethod nY_Model_degrees ∈ TT := tt_t (i := 921) (by decide +kernel) (by decide +kernel)
theorem tt_922 : Cond.selects nR_Model nY_Model_degrees nY_Model_degrees ∈ TT := tt_t (i := 922) (by decide +kernel) (by decide +kernel)
set_option maxRecDepth 100000 in
theorem tt_923 : Cond.code nY_Model_degrees nC_Model_degrees 1 (some .int) ∈ TT := tt_t (i := 923) (rfl) (by decide +kernel)
theorem tt_925 : Cond.instanceMethod nY_Model_damp ∈ TT := tt_t (i := 925) (by decide +kernel) (by decide +kernel)
theorem tt_926 : Cond.selects nR_Model nY_Model_damp nY_Model_damp ∈ TT := tt_t (i := 926) (by decide +kernel) (by decide +kernel)
set_option maxRecDepth 100000 in
theorem tt_927 : Cond.code nY_Model_damp nC_Model_damp 1 (some .int) ∈ TT := tt_t (i := 927) (rfl) (by decide +kernel)
theorem tt_929 : Cond.instanceMethod nY_Model_layer ∈ TT := tt_t (i := 929) (by decide +kernel) (by decide +kernel)
theorem tt_930 : Cond.selects nR_Model nY_Model_layer nY_Model_layer ∈ TT := tt_t (i := 930) (by decide +kernel) (by decide +kernel)
set_option maxRecDepth 100000 in
theorem tt_931 : Cond.code nY_Model_layer nC_Model_layer 2 (some .int) ∈ TT := tt_t (i := 931) (rfl) (by decide +kernel)
theorem tt_932 : Cond.methodLink nR_Model 189 nY_Model_isLayer ∈ TT := tt_t (i := 932) (by decide +kernel) (by decide +kernel)
theorem tt_934 : Cond.instanceMethod nY_Model_isLayer ∈ TT := tt_t (i := 934) (by decide +kernel) (by decide +kernel)
set_option maxRecDepth 100000 in
theorem tt_935 : Cond.code nY_Model_isLayer nC_Model_isLayer 2 (some .boolean) ∈ TT := tt_t (i := 935) (rfl) (by decide +kernel)
theorem tt_937 : Cond.instanceMethod nY_Model_held ∈ TT := tt_t (i := 937) (by decide +kernel) (by decide +kernel)
theorem tt_938 : Cond.selects nR_Model nY_Model_held nY_Model_held ∈ TT := tt_t (i := 938) (by decide +kernel) (by decide +kernel)
set_option maxRecDepth 100000 in
theorem tt_939 : Cond.code nY_Model_held nC_Model_held 1 (some .int) ∈ TT := tt_t (i := 939) (rfl) (by decide +kernel)
theorem tt_941 : Cond.instanceMethod nY_Model_on ∈ TT := tt_t (i := 941) (by decide +kernel) (by decide +kernel)
theorem tt_942 : Cond.selects nR_Model nY_Model_on nY_Model_on ∈ TT := tt_t (i := 942) (by decide +kernel) (by decide +kernel)
set_option maxRecDepth 100000 in
theorem tt_943 : Cond.code nY_Model_on nC_Model_on 2 (some .boolean) ∈ TT := tt_t (i := 943) (rfl) (by decide +kernel)
theorem tt_945 : Cond.instanceMethod nY_Model_book ∈ TT := tt_t (i := 945) (by decide +kernel) (by decide +kernel)
theorem tt_946 : Cond.selects nR_Model nY_Model_book nY_Model_book ∈ TT := tt_t (i := 946) (by decide +kernel) (by decide +kernel)
set_option maxRecDepth 100000 in
theorem tt_947 : Cond.code nY_Model_book nC_Model_book 3 (some .long) ∈ TT := tt_t (i := 947) (rfl) (by decide +kernel)
theorem tt_949 : Cond.instanceMethod nY_Model_dew ∈ TT := tt_t (i := 949) (by decide +kernel) (by decide +kernel)
theorem tt_950 : Cond.selects nR_Model nY_Model_dew nY_Model_dew ∈ TT := tt_t (i := 950) (by decide +kernel) (by decide +kernel)
set_option maxRecDepth 100000 in
theorem tt_951 : Cond.code nY_Model_dew nC_Model_dew 4 (some .boolean) ∈ TT := tt_t (i := 951) (rfl) (by decide +kernel)
theorem tt_953 : Cond.instanceMethod nY_Model_risk ∈ TT := tt_t (i := 953) (by decide +kernel) (by decide +kernel)
theorem tt_954 : Cond.selects nR_Model nY_Model_risk nY_Model_risk ∈ TT := tt_t (i := 954) (by decide +kernel) (by decide +kernel)
set_option maxRecDepth 100000 in
theorem tt_955 : Cond.code nY_Model_risk nC_Model_risk 7 (some .int) ∈ TT := tt_t (i := 955) (rfl) (by decide +kernel)
theorem tt_957 : Cond.instanceMethod nY_Model_points ∈ TT := tt_t (i := 957) (by decide +kernel) (by decide +kernel)
theorem tt_958 : Cond.selects nR_Model nY_Model_points nY_Model_points ∈ TT := tt_t (i := 958) (by decide +kernel) (by decide +kernel)
set_option maxRecDepth 100000 in
theorem tt_959 : Cond.code nY_Model_points nC_Model_points 2 (some .int) ∈ TT := tt_t (i := 959) (rfl) (by decide +kernel)
theorem tt_961 : Cond.instanceMethod nY_Model_rule ∈ TT := tt_t (i := 961) (by decide +kernel) (by decide +kernel)
theorem tt_962 : Cond.selects nR_Model nY_Model_rule nY_Model_rule ∈ TT := tt_t (i := 962) (by decide +kernel) (by decide +kernel)
set_option maxRecDepth 100000 in
theorem tt_963 : Cond.code nY_Model_rule nC_Model_rule 4 (some .int) ∈ TT := tt_t (i := 963) (rfl) (by decide +kernel)
theorem tt_965 : Cond.instanceMethod nY_Model_alarm ∈ TT := tt_t (i := 965) (by decide +kernel) (by decide +kernel)
theorem tt_966 : Cond.selects nR_Model nY_Model_alarm nY_Model_alarm ∈ TT := tt_t (i := 966) (by decide +kernel) (by decide +kernel)
set_option maxRecDepth 100000 in
theorem tt_967 : Cond.code nY_Model_alarm nC_Model_alarm 3 (some .int) ∈ TT := tt_t (i := 967) (rfl) (by decide +kernel)
theorem tt_969 : Cond.instanceMethod nY_Model_sensor ∈ TT := tt_t (i := 969) (by decide +kernel) (by decide +kernel)
theorem tt_970 : Cond.selects nR_Model nY_Model_sensor nY_Model_sensor ∈ TT := tt_t (i := 970) (by decide +kernel) (by decide +kernel)
set_option maxRecDepth 100000 in
theorem tt_971 : Cond.code nY_Model_sensor nC_Model_sensor 3 none ∈ TT := tt_t (i := 971) (rfl) (by decide +kernel)
theorem tt_972 : Cond.methodLink nR_Model 192 nY_Model_wasHour ∈ TT := tt_t (i := 972) (by decide +kernel) (by decide +kernel)
theorem tt_974 : Cond.instanceMethod nY_Model_wasHour ∈ TT := tt_t (i := 974) (by decide +kernel) (by decide +kernel)
set_option maxRecDepth 100000 in
theorem tt_975 : Cond.code nY_Model_wasHour nC_Model_wasHour 2 (some .boolean) ∈ TT := tt_t (i := 975) (rfl) (by decide +kernel)
theorem tt_976 : Cond.constant nR_Model 195 (-100000 : Int32) ∈ TT := tt_t (i := 976) (by decide +kernel) (by decide +kernel)
theorem tt_978 : Cond.instanceMethod nY_Model_check ∈ TT := tt_t (i := 978) (by decide +kernel) (by decide +kernel)
theorem tt_979 : Cond.selects nR_Model nY_Model_check nY_Model_check ∈ TT := tt_t (i := 979) (by decide +kernel) (by decide +kernel)
set_option maxRecDepth 100000 in
theorem tt_980 : Cond.code nY_Model_check nC_Model_check 4 none ∈ TT := tt_t (i := 980) (rfl) (by decide +kernel)
theorem tt_982 : Cond.instanceMethod nY_Model_corrected ∈ TT := tt_t (i := 982) (by decide +kernel) (by decide +kernel)
theorem tt_983 : Cond.selects nR_Model nY_Model_corrected nY_Model_corrected ∈ TT := tt_t (i := 983) (by decide +kernel) (by decide +kernel)
set_option maxRecDepth 100000 in
theorem tt_984 : Cond.code nY_Model_corrected nC_Model_corrected 12 (some .int) ∈ TT := tt_t (i := 984) (rfl) (by decide +kernel)
theorem tt_986 : Cond.instanceMethod nY_Model_silent ∈ TT := tt_t (i := 986) (by decide +kernel) (by decide +kernel)
theorem tt_987 : Cond.selects nR_Model nY_Model_silent nY_Model_silent ∈ TT := tt_t (i := 987) (by decide +kernel) (by decide +kernel)
set_option maxRecDepth 100000 in
theorem tt_988 : Cond.code nY_Model_silent nC_Model_silent 6 (some .int) ∈ TT := tt_t (i := 988) (rfl) (by decide +kernel)
theorem tt_990 : Cond.instanceMethod nY_Model_plan ∈ TT := tt_t (i := 990) (by decide +kernel) (by decide +kernel)
theorem tt_991 : Cond.selects nR_Model nY_Model_plan nY_Model_plan ∈ TT := tt_t (i := 991) (by decide +kernel) (by decide +kernel)
set_option maxRecDepth 100000 in
theorem tt_992 : Cond.code nY_Model_plan nC_Model_plan 15 (some .int) ∈ TT := tt_t (i := 992) (rfl) (by decide +kernel)
theorem tt_993 : Cond.methodLink nR_Model 200 nY_Model_tried ∈ TT := tt_t (i := 993) (by decide +kernel) (by decide +kernel)
theorem tt_995 : Cond.instanceMethod nY_Model_tried ∈ TT := tt_t (i := 995) (by decide +kernel) (by decide +kernel)
set_option maxRecDepth 100000 in
theorem tt_996 : Cond.code nY_Model_tried nC_Model_tried 10 (some .long) ∈ TT := tt_t (i := 996) (rfl) (by decide +kernel)
theorem tt_997 : Cond.constantLong nR_Model 196 (18000 : Int64) ∈ TT := tt_t (i := 997) (by decide +kernel) (by decide +kernel)
theorem tt_998 : Cond.constantLong nR_Model 198 (22000 : Int64) ∈ TT := tt_t (i := 998) (by decide +kernel) (by decide +kernel)
theorem tt_1000 : Cond.instanceMethod nY_Model_count ∈ TT := tt_t (i := 1000) (by decide +kernel) (by decide +kernel)
theorem tt_1001 : Cond.selects nR_Model nY_Model_count nY_Model_count ∈ TT := tt_t (i := 1001) (by decide +kernel) (by decide +kernel)
set_option maxRecDepth 100000 in
theorem tt_1002 : Cond.code nY_Model_count nC_Model_count 4 (some .int) ∈ TT := tt_t (i := 1002) (rfl) (by decide +kernel)
theorem ni_Gauge : ∀ w ∈ u_ws nR_Gauge nT_Gauge 5, w ∈ TT := by
  intro w h
  obtain ⟨k, hk, rfl⟩ := List.mem_map.mp h
  have hk := List.mem_range.mp hk
  match k, hk with
  | 0, _ => exact tt_211
  | 1, _ => exact tt_213
  | 2, _ => exact tt_215
  | 3, _ => exact tt_217
  | 4, _ => exact tt_219
  | k + 5, h => exact absurd h (by omega)
theorem ni_Goods : ∀ w ∈ u_ws nR_Goods nT_Goods 3, w ∈ TT := by
  intro w h
  obtain ⟨k, hk, rfl⟩ := List.mem_map.mp h
  have hk := List.mem_range.mp hk
  match k, hk with
  | 0, _ => exact tt_142
  | 1, _ => exact tt_144
  | 2, _ => exact tt_146
  | k + 3, h => exact absurd h (by omega)
theorem ni_House : ∀ w ∈ u_ws nR_House nT_House 4, w ∈ TT := by
  intro w h
  obtain ⟨k, hk, rfl⟩ := List.mem_map.mp h
  have hk := List.mem_range.mp hk
  match k, hk with
  | 0, _ => exact tt_157
  | 1, _ => exact tt_159
  | 2, _ => exact tt_161
  | 3, _ => exact tt_163
  | k + 4, h => exact absurd h (by omega)
theorem ni_Interior : ∀ w ∈ u_ws nR_Interior nT_Interior 6, w ∈ TT := by
  intro w h
  obtain ⟨k, hk, rfl⟩ := List.mem_map.mp h
  have hk := List.mem_range.mp hk
  match k, hk with
  | 0, _ => exact tt_72
  | 1, _ => exact tt_74
  | 2, _ => exact tt_76
  | 3, _ => exact tt_78
  | 4, _ => exact tt_80
  | 5, _ => exact tt_82
  | k + 6, h => exact absurd h (by omega)
theorem ni_Machines : ∀ w ∈ u_ws nR_Machines nT_Machines 5, w ∈ TT := by
  intro w h
  obtain ⟨k, hk, rfl⟩ := List.mem_map.mp h
  have hk := List.mem_range.mp hk
  match k, hk with
  | 0, _ => exact tt_118
  | 1, _ => exact tt_120
  | 2, _ => exact tt_122
  | 3, _ => exact tt_124
  | 4, _ => exact tt_126
  | k + 5, h => exact absurd h (by omega)
theorem ni_Rules : ∀ w ∈ u_ws nR_Rules nT_Rules 6, w ∈ TT := by
  intro w h
  obtain ⟨k, hk, rfl⟩ := List.mem_map.mp h
  have hk := List.mem_range.mp hk
  match k, hk with
  | 0, _ => exact tt_184
  | 1, _ => exact tt_186
  | 2, _ => exact tt_188
  | 3, _ => exact tt_190
  | 4, _ => exact tt_192
  | 5, _ => exact tt_194
  | k + 6, h => exact absurd h (by omega)
theorem ni_Steps : ∀ w ∈ u_ws nR_Steps nT_Steps 3, w ∈ TT := by
  intro w h
  obtain ⟨k, hk, rfl⟩ := List.mem_map.mp h
  have hk := List.mem_range.mp hk
  match k, hk with
  | 0, _ => exact tt_36
  | 1, _ => exact tt_38
  | 2, _ => exact tt_40
  | k + 3, h => exact absurd h (by omega)
theorem ni_Walls : ∀ w ∈ u_ws nR_Walls nT_Walls 4, w ∈ TT := by
  intro w h
  obtain ⟨k, hk, rfl⟩ := List.mem_map.mp h
  have hk := List.mem_range.mp hk
  match k, hk with
  | 0, _ => exact tt_97
  | 1, _ => exact tt_99
  | 2, _ => exact tt_101
  | 3, _ => exact tt_103
  | k + 4, h => exact absurd h (by omega)
theorem ni_Room : ∀ w ∈ u_ws nR_Room nT_Room 7, w ∈ TT := by
  intro w h
  obtain ⟨k, hk, rfl⟩ := List.mem_map.mp h
  have hk := List.mem_range.mp hk
  match k, hk with
  | 0, _ => exact tt_229
  | 1, _ => exact tt_231
  | 2, _ => exact tt_233
  | 3, _ => exact tt_235
  | 4, _ => exact tt_237
  | 5, _ => exact tt_239
  | 6, _ => exact tt_241
  | k + 7, h => exact absurd h (by omega)
theorem ni_Model : ∀ w ∈ u_ws nR_Model nT_Model 32, w ∈ TT := by
  intro w h
  obtain ⟨k, hk, rfl⟩ := List.mem_map.mp h
  have hk := List.mem_range.mp hk
  match k, hk with
  | 0, _ => exact tt_755
  | 1, _ => exact tt_757
  | 2, _ => exact tt_759
  | 3, _ => exact tt_761
  | 4, _ => exact tt_763
  | 5, _ => exact tt_765
  | 6, _ => exact tt_767
  | 7, _ => exact tt_769
  | 8, _ => exact tt_771
  | 9, _ => exact tt_773
  | 10, _ => exact tt_775
  | 11, _ => exact tt_777
  | 12, _ => exact tt_779
  | 13, _ => exact tt_781
  | 14, _ => exact tt_783
  | 15, _ => exact tt_785
  | 16, _ => exact tt_787
  | 17, _ => exact tt_789
  | 18, _ => exact tt_791
  | 19, _ => exact tt_793
  | 20, _ => exact tt_795
  | 21, _ => exact tt_797
  | 22, _ => exact tt_799
  | 23, _ => exact tt_801
  | 24, _ => exact tt_803
  | 25, _ => exact tt_805
  | 26, _ => exact tt_807
  | 27, _ => exact tt_809
  | 28, _ => exact tt_811
  | 29, _ => exact tt_813
  | 30, _ => exact tt_815
  | 31, _ => exact tt_817
  | k + 32, h => exact absurd h (by omega)
