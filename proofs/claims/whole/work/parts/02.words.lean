theorem tt_1 : Cond.initialized nR_Room ∈ TT := tt_t (i := 1) (by decide +kernel) (by decide +kernel)
theorem tt_2 : Cond.initialized nR_Steps ∈ TT := tt_t (i := 2) (by decide +kernel) (by decide +kernel)
theorem tt_4 : Cond.initialized nR_Interior ∈ TT := tt_t (i := 4) (by decide +kernel) (by decide +kernel)
theorem tt_17 : Cond.initialized nR_Math ∈ TT := tt_t (i := 17) (by decide +kernel) (by decide +kernel)
theorem tt_32 : Cond.fieldLink nR_Steps 7 "RoomClimate$Steps" "levels" "[I" ∈ TT := tt_t (i := 32) (by decide +kernel) (by decide +kernel)
theorem tt_33 : Cond.fieldLink nR_Steps 13 "RoomClimate$Steps" "amounts" "[I" ∈ TT := tt_t (i := 33) (by decide +kernel) (by decide +kernel)
theorem tt_34 : Cond.fieldLink nR_Steps 16 "RoomClimate$Steps" "size" "I" ∈ TT := tt_t (i := 34) (by decide +kernel) (by decide +kernel)
theorem tt_36 : Cond.laysFinal nR_Steps "RoomClimate$Steps" "levels" "[I" ∈ TT := tt_t (i := 36) (by decide +kernel) (by decide +kernel)
theorem tt_38 : Cond.laysFinal nR_Steps "RoomClimate$Steps" "amounts" "[I" ∈ TT := tt_t (i := 38) (by decide +kernel) (by decide +kernel)
theorem tt_40 : Cond.lays nR_Steps "RoomClimate$Steps" "size" "I" ∈ TT := tt_t (i := 40) (by decide +kernel) (by decide +kernel)
theorem tt_58 : Cond.fieldLink nR_Interior 9 "RoomClimate$Interior" "heatBooks" "[J" ∈ TT := tt_t (i := 58) (by decide +kernel) (by decide +kernel)
theorem tt_60 : Cond.fieldLink nR_Interior 15 "RoomClimate$Interior" "waterBooks" "[J" ∈ TT := tt_t (i := 60) (by decide +kernel) (by decide +kernel)
theorem tt_62 : Cond.fieldLink nR_Interior 18 "RoomClimate$Interior" "volume" "I" ∈ TT := tt_t (i := 62) (by decide +kernel) (by decide +kernel)
theorem tt_64 : Cond.fieldLink nR_Interior 22 "RoomClimate$Interior" "share" "I" ∈ TT := tt_t (i := 64) (by decide +kernel) (by decide +kernel)
theorem tt_66 : Cond.fieldLink nR_Interior 27 "RoomClimate$Interior" "heat" "J" ∈ TT := tt_t (i := 66) (by decide +kernel) (by decide +kernel)
theorem tt_68 : Cond.fieldLink nR_Interior 33 "RoomClimate$Interior" "water" "J" ∈ TT := tt_t (i := 68) (by decide +kernel) (by decide +kernel)
theorem tt_72 : Cond.laysFinal nR_Interior "RoomClimate$Interior" "heatBooks" "[J" ∈ TT := tt_t (i := 72) (by decide +kernel) (by decide +kernel)
theorem tt_74 : Cond.laysFinal nR_Interior "RoomClimate$Interior" "waterBooks" "[J" ∈ TT := tt_t (i := 74) (by decide +kernel) (by decide +kernel)
theorem tt_76 : Cond.lays nR_Interior "RoomClimate$Interior" "volume" "I" ∈ TT := tt_t (i := 76) (by decide +kernel) (by decide +kernel)
theorem tt_78 : Cond.lays nR_Interior "RoomClimate$Interior" "share" "I" ∈ TT := tt_t (i := 78) (by decide +kernel) (by decide +kernel)
theorem tt_80 : Cond.lays nR_Interior "RoomClimate$Interior" "heat" "J" ∈ TT := tt_t (i := 80) (by decide +kernel) (by decide +kernel)
theorem tt_82 : Cond.lays nR_Interior "RoomClimate$Interior" "water" "J" ∈ TT := tt_t (i := 82) (by decide +kernel) (by decide +kernel)
theorem tt_97 : Cond.laysFinal nR_Walls "RoomClimate$Walls" "conductances" "[I" ∈ TT := tt_t (i := 97) (by decide +kernel) (by decide +kernel)
theorem tt_99 : Cond.laysFinal nR_Walls "RoomClimate$Walls" "capacities" "[I" ∈ TT := tt_t (i := 99) (by decide +kernel) (by decide +kernel)
theorem tt_101 : Cond.laysFinal nR_Walls "RoomClimate$Walls" "heats" "[J" ∈ TT := tt_t (i := 101) (by decide +kernel) (by decide +kernel)
theorem tt_103 : Cond.lays nR_Walls "RoomClimate$Walls" "layers" "I" ∈ TT := tt_t (i := 103) (by decide +kernel) (by decide +kernel)
theorem tt_118 : Cond.laysFinal nR_Machines "RoomClimate$Machines" "lows" "[I" ∈ TT := tt_t (i := 118) (by decide +kernel) (by decide +kernel)
theorem tt_120 : Cond.laysFinal nR_Machines "RoomClimate$Machines" "highs" "[I" ∈ TT := tt_t (i := 120) (by decide +kernel) (by decide +kernel)
theorem tt_122 : Cond.laysFinal nR_Machines "RoomClimate$Machines" "rates" "[I" ∈ TT := tt_t (i := 122) (by decide +kernel) (by decide +kernel)
theorem tt_124 : Cond.laysFinal nR_Machines "RoomClimate$Machines" "told" "[Z" ∈ TT := tt_t (i := 124) (by decide +kernel) (by decide +kernel)
theorem tt_126 : Cond.laysFinal nR_Machines "RoomClimate$Machines" "running" "[Z" ∈ TT := tt_t (i := 126) (by decide +kernel) (by decide +kernel)
theorem tt_142 : Cond.laysFinal nR_Goods "RoomClimate$Goods" "rows" "LRoomClimate$Steps;" ∈ TT := tt_t (i := 142) (by decide +kernel) (by decide +kernel)
theorem tt_144 : Cond.lays nR_Goods "RoomClimate$Goods" "kilograms" "I" ∈ TT := tt_t (i := 144) (by decide +kernel) (by decide +kernel)
theorem tt_146 : Cond.lays nR_Goods "RoomClimate$Goods" "load" "J" ∈ TT := tt_t (i := 146) (by decide +kernel) (by decide +kernel)
theorem tt_157 : Cond.laysFinal nR_House "RoomClimate$House" "inside" "LRoomClimate$Interior;" ∈ TT := tt_t (i := 157) (by decide +kernel) (by decide +kernel)
theorem tt_159 : Cond.laysFinal nR_House "RoomClimate$House" "walls" "LRoomClimate$Walls;" ∈ TT := tt_t (i := 159) (by decide +kernel) (by decide +kernel)
theorem tt_161 : Cond.laysFinal nR_House "RoomClimate$House" "goods" "LRoomClimate$Goods;" ∈ TT := tt_t (i := 161) (by decide +kernel) (by decide +kernel)
theorem tt_163 : Cond.laysFinal nR_House "RoomClimate$House" "machines" "LRoomClimate$Machines;" ∈ TT := tt_t (i := 163) (by decide +kernel) (by decide +kernel)
theorem tt_184 : Cond.laysFinal nR_Rules "RoomClimate$Rules" "kinds" "[I" ∈ TT := tt_t (i := 184) (by decide +kernel) (by decide +kernel)
theorem tt_186 : Cond.laysFinal nR_Rules "RoomClimate$Rules" "levels" "[I" ∈ TT := tt_t (i := 186) (by decide +kernel) (by decide +kernel)
theorem tt_188 : Cond.laysFinal nR_Rules "RoomClimate$Rules" "holds" "[I" ∈ TT := tt_t (i := 188) (by decide +kernel) (by decide +kernel)
theorem tt_190 : Cond.laysFinal nR_Rules "RoomClimate$Rules" "alarmCounts" "[I" ∈ TT := tt_t (i := 190) (by decide +kernel) (by decide +kernel)
theorem tt_192 : Cond.laysFinal nR_Rules "RoomClimate$Rules" "alarmHours" "[[I" ∈ TT := tt_t (i := 192) (by decide +kernel) (by decide +kernel)
theorem tt_194 : Cond.lays nR_Rules "RoomClimate$Rules" "size" "I" ∈ TT := tt_t (i := 194) (by decide +kernel) (by decide +kernel)
theorem tt_211 : Cond.laysFinal nR_Gauge "RoomClimate$Gauge" "values" "[I" ∈ TT := tt_t (i := 211) (by decide +kernel) (by decide +kernel)
theorem tt_213 : Cond.laysFinal nR_Gauge "RoomClimate$Gauge" "sensed" "[Z" ∈ TT := tt_t (i := 213) (by decide +kernel) (by decide +kernel)
theorem tt_215 : Cond.laysFinal nR_Gauge "RoomClimate$Gauge" "rights" "[I" ∈ TT := tt_t (i := 215) (by decide +kernel) (by decide +kernel)
theorem tt_217 : Cond.laysFinal nR_Gauge "RoomClimate$Gauge" "checked" "[Z" ∈ TT := tt_t (i := 217) (by decide +kernel) (by decide +kernel)
theorem tt_219 : Cond.lays nR_Gauge "RoomClimate$Gauge" "checks" "I" ∈ TT := tt_t (i := 219) (by decide +kernel) (by decide +kernel)
theorem tt_229 : Cond.laysFinal nR_Room "RoomClimate" "house" "LRoomClimate$House;" ∈ TT := tt_t (i := 229) (by decide +kernel) (by decide +kernel)
theorem tt_231 : Cond.laysFinal nR_Room "RoomClimate" "trial" "LRoomClimate$House;" ∈ TT := tt_t (i := 231) (by decide +kernel) (by decide +kernel)
theorem tt_233 : Cond.laysFinal nR_Room "RoomClimate" "risks" "[LRoomClimate$Steps;" ∈ TT := tt_t (i := 233) (by decide +kernel) (by decide +kernel)
theorem tt_235 : Cond.laysFinal nR_Room "RoomClimate" "riskPoints" "[I" ∈ TT := tt_t (i := 235) (by decide +kernel) (by decide +kernel)
theorem tt_237 : Cond.laysFinal nR_Room "RoomClimate" "rules" "LRoomClimate$Rules;" ∈ TT := tt_t (i := 237) (by decide +kernel) (by decide +kernel)
theorem tt_239 : Cond.laysFinal nR_Room "RoomClimate" "gauge" "LRoomClimate$Gauge;" ∈ TT := tt_t (i := 239) (by decide +kernel) (by decide +kernel)
theorem tt_241 : Cond.lays nR_Room "RoomClimate" "hoursGone" "I" ∈ TT := tt_t (i := 241) (by decide +kernel) (by decide +kernel)
theorem tt_249 : Cond.instanceMethod nY_Interior_warmth ∈ TT := tt_t (i := 249) (by decide +kernel) (by decide +kernel)
theorem tt_250 : Cond.selects nR_Interior nY_Interior_warmth nY_Interior_warmth ∈ TT := tt_t (i := 250) (by decide +kernel) (by decide +kernel)
theorem tt_251 : Cond.code nY_Interior_warmth nC_Interior_warmth 1 (some .long) ∈ TT := tt_t (i := 251) (rfl) (by decide +kernel)
theorem tt_252 : Cond.methodLinkNest nR_Interior 36 nY_Room_by "RoomClimate" ∈ TT := tt_t (i := 252) (by decide +kernel) (by decide +kernel)
theorem tt_253 : Cond.static nY_Room_by ∈ TT := tt_t (i := 253) (by decide +kernel) (by decide +kernel)
theorem tt_254 : Cond.code nY_Room_by nC_Room_by 4 (some .long) ∈ TT := tt_t (i := 254) (rfl) (by decide +kernel)
theorem tt_255 : Cond.methodLink nR_Room 261 nY_Math_floorDiv ∈ TT := tt_t (i := 255) (by decide +kernel) (by decide +kernel)
theorem tt_256 : Cond.static nY_Math_floorDiv ∈ TT := tt_t (i := 256) (by decide +kernel) (by decide +kernel)
theorem tt_257 : Cond.code nY_Math_floorDiv nC_Math_floorDiv 6 (some .long) ∈ TT := tt_t (i := 257) (rfl) (by decide +kernel)
theorem tt_263 : Cond.instanceMethod nY_Interior_moisture ∈ TT := tt_t (i := 263) (by decide +kernel) (by decide +kernel)
theorem tt_264 : Cond.selects nR_Interior nY_Interior_moisture nY_Interior_moisture ∈ TT := tt_t (i := 264) (by decide +kernel) (by decide +kernel)
theorem tt_265 : Cond.code nY_Interior_moisture nC_Interior_moisture 1 (some .long) ∈ TT := tt_t (i := 265) (rfl) (by decide +kernel)
theorem tt_453 : Cond.instanceMethod nY_Interior_exchangeAir ∈ TT := tt_t (i := 453) (by decide +kernel) (by decide +kernel)
theorem tt_454 : Cond.selects nR_Interior nY_Interior_exchangeAir nY_Interior_exchangeAir ∈ TT := tt_t (i := 454) (by decide +kernel) (by decide +kernel)
theorem tt_455 : Cond.code nY_Interior_exchangeAir nC_Interior_exchangeAir 3 none ∈ TT := tt_t (i := 455) (rfl) (by decide +kernel)
theorem tt_456 : Cond.methodLink nR_Interior 40 nY_Interior_warmth ∈ TT := tt_t (i := 456) (by decide +kernel) (by decide +kernel)
theorem tt_457 : Cond.constantLong nR_Interior 44 (1000 : Int64) ∈ TT := tt_t (i := 457) (by decide +kernel) (by decide +kernel)
theorem tt_458 : Cond.methodLink nR_Interior 46 nY_Interior_gainHeat ∈ TT := tt_t (i := 458) (by decide +kernel) (by decide +kernel)
theorem tt_459 : Cond.instanceMethod nY_Interior_gainHeat ∈ TT := tt_t (i := 459) (by decide +kernel) (by decide +kernel)
theorem tt_460 : Cond.selects nR_Interior nY_Interior_gainHeat nY_Interior_gainHeat ∈ TT := tt_t (i := 460) (by decide +kernel) (by decide +kernel)
theorem tt_461 : Cond.code nY_Interior_gainHeat nC_Interior_gainHeat 4 none ∈ TT := tt_t (i := 461) (rfl) (by decide +kernel)
theorem tt_462 : Cond.methodLink nR_Interior 50 nY_Interior_moisture ∈ TT := tt_t (i := 462) (by decide +kernel) (by decide +kernel)
theorem tt_463 : Cond.methodLink nR_Interior 53 nY_Interior_gainWater ∈ TT := tt_t (i := 463) (by decide +kernel) (by decide +kernel)
theorem tt_464 : Cond.instanceMethod nY_Interior_gainWater ∈ TT := tt_t (i := 464) (by decide +kernel) (by decide +kernel)
theorem tt_465 : Cond.selects nR_Interior nY_Interior_gainWater nY_Interior_gainWater ∈ TT := tt_t (i := 465) (by decide +kernel) (by decide +kernel)
theorem tt_466 : Cond.code nY_Interior_gainWater nC_Interior_gainWater 4 none ∈ TT := tt_t (i := 466) (rfl) (by decide +kernel)
theorem tt_485 : Cond.instanceMethod nY_Steps_amountUpTo ∈ TT := tt_t (i := 485) (by decide +kernel) (by decide +kernel)
theorem tt_486 : Cond.selects nR_Steps nY_Steps_amountUpTo nY_Steps_amountUpTo ∈ TT := tt_t (i := 486) (by decide +kernel) (by decide +kernel)
theorem tt_487 : Cond.code nY_Steps_amountUpTo nC_Steps_amountUpTo 4 (some .int) ∈ TT := tt_t (i := 487) (rfl) (by decide +kernel)
theorem tt_755 : Cond.lays nR_Model "RoomClimateModel" "thrown" "I" ∈ TT := tt_t (i := 755) (by decide +kernel) (by decide +kernel)
theorem tt_757 : Cond.lays nR_Model "RoomClimateModel" "volume" "I" ∈ TT := tt_t (i := 757) (by decide +kernel) (by decide +kernel)
theorem tt_759 : Cond.lays nR_Model "RoomClimateModel" "share" "I" ∈ TT := tt_t (i := 759) (by decide +kernel) (by decide +kernel)
theorem tt_761 : Cond.laysFinal nR_Model "RoomClimateModel" "now" "[J" ∈ TT := tt_t (i := 761) (by decide +kernel) (by decide +kernel)
theorem tt_763 : Cond.laysFinal nR_Model "RoomClimateModel" "kept" "[J" ∈ TT := tt_t (i := 763) (by decide +kernel) (by decide +kernel)
theorem tt_765 : Cond.laysFinal nR_Model "RoomClimateModel" "books" "[J" ∈ TT := tt_t (i := 765) (by decide +kernel) (by decide +kernel)
theorem tt_767 : Cond.laysFinal nR_Model "RoomClimateModel" "keptBooks" "[J" ∈ TT := tt_t (i := 767) (by decide +kernel) (by decide +kernel)
theorem tt_769 : Cond.lays nR_Model "RoomClimateModel" "layers" "I" ∈ TT := tt_t (i := 769) (by decide +kernel) (by decide +kernel)
theorem tt_771 : Cond.laysFinal nR_Model "RoomClimateModel" "conductances" "[I" ∈ TT := tt_t (i := 771) (by decide +kernel) (by decide +kernel)
theorem tt_773 : Cond.laysFinal nR_Model "RoomClimateModel" "capacities" "[I" ∈ TT := tt_t (i := 773) (by decide +kernel) (by decide +kernel)
theorem tt_775 : Cond.lays nR_Model "RoomClimateModel" "kilograms" "I" ∈ TT := tt_t (i := 775) (by decide +kernel) (by decide +kernel)
theorem tt_777 : Cond.lays nR_Model "RoomClimateModel" "rows" "I" ∈ TT := tt_t (i := 777) (by decide +kernel) (by decide +kernel)
theorem tt_779 : Cond.laysFinal nR_Model "RoomClimateModel" "rowDamps" "[I" ∈ TT := tt_t (i := 779) (by decide +kernel) (by decide +kernel)
theorem tt_781 : Cond.laysFinal nR_Model "RoomClimateModel" "rowWaters" "[I" ∈ TT := tt_t (i := 781) (by decide +kernel) (by decide +kernel)
theorem tt_783 : Cond.laysFinal nR_Model "RoomClimateModel" "told" "[Z" ∈ TT := tt_t (i := 783) (by decide +kernel) (by decide +kernel)
theorem tt_785 : Cond.laysFinal nR_Model "RoomClimateModel" "lows" "[I" ∈ TT := tt_t (i := 785) (by decide +kernel) (by decide +kernel)
theorem tt_787 : Cond.laysFinal nR_Model "RoomClimateModel" "highs" "[I" ∈ TT := tt_t (i := 787) (by decide +kernel) (by decide +kernel)
theorem tt_789 : Cond.laysFinal nR_Model "RoomClimateModel" "rates" "[I" ∈ TT := tt_t (i := 789) (by decide +kernel) (by decide +kernel)
theorem tt_791 : Cond.lays nR_Model "RoomClimateModel" "hours" "I" ∈ TT := tt_t (i := 791) (by decide +kernel) (by decide +kernel)
theorem tt_793 : Cond.laysFinal nR_Model "RoomClimateModel" "riskRows" "[I" ∈ TT := tt_t (i := 793) (by decide +kernel) (by decide +kernel)
theorem tt_795 : Cond.laysFinal nR_Model "RoomClimateModel" "levels" "[I" ∈ TT := tt_t (i := 795) (by decide +kernel) (by decide +kernel)
theorem tt_797 : Cond.laysFinal nR_Model "RoomClimateModel" "pointsOf" "[I" ∈ TT := tt_t (i := 797) (by decide +kernel) (by decide +kernel)
theorem tt_799 : Cond.laysFinal nR_Model "RoomClimateModel" "sums" "[I" ∈ TT := tt_t (i := 799) (by decide +kernel) (by decide +kernel)
theorem tt_801 : Cond.lays nR_Model "RoomClimateModel" "rules" "I" ∈ TT := tt_t (i := 801) (by decide +kernel) (by decide +kernel)
theorem tt_803 : Cond.laysFinal nR_Model "RoomClimateModel" "ruleKinds" "[I" ∈ TT := tt_t (i := 803) (by decide +kernel) (by decide +kernel)
theorem tt_805 : Cond.laysFinal nR_Model "RoomClimateModel" "ruleLevels" "[I" ∈ TT := tt_t (i := 805) (by decide +kernel) (by decide +kernel)
theorem tt_807 : Cond.laysFinal nR_Model "RoomClimateModel" "holds" "[I" ∈ TT := tt_t (i := 807) (by decide +kernel) (by decide +kernel)
theorem tt_809 : Cond.laysFinal nR_Model "RoomClimateModel" "alarms" "[I" ∈ TT := tt_t (i := 809) (by decide +kernel) (by decide +kernel)
theorem tt_811 : Cond.laysFinal nR_Model "RoomClimateModel" "alarmHours" "[I" ∈ TT := tt_t (i := 811) (by decide +kernel) (by decide +kernel)
theorem tt_813 : Cond.laysFinal nR_Model "RoomClimateModel" "values" "[I" ∈ TT := tt_t (i := 813) (by decide +kernel) (by decide +kernel)
theorem tt_815 : Cond.laysFinal nR_Model "RoomClimateModel" "checked" "[Z" ∈ TT := tt_t (i := 815) (by decide +kernel) (by decide +kernel)
theorem tt_817 : Cond.laysFinal nR_Model "RoomClimateModel" "rights" "[I" ∈ TT := tt_t (i := 817) (by decide +kernel) (by decide +kernel)
theorem ni_Gauge : ∀ w ∈ u_ws nR_Gauge nT_Gauge 5, w ∈ TT := by
  intro w h
  obtain ⟨k, hk, rfl⟩ := List.mem_map.mp h
  have hk := List.mem_range.mp hk
  match k, hk with
  | 0, _ => exact tt_211
  | 1, _ => exact tt_213
  | 2, _ => exact tt_215
  | 3, _ => exact tt_217
  | 4, _ => exact tt_219
  | k + 5, h => exact absurd h (by omega)
theorem ni_Goods : ∀ w ∈ u_ws nR_Goods nT_Goods 3, w ∈ TT := by
  intro w h
  obtain ⟨k, hk, rfl⟩ := List.mem_map.mp h
  have hk := List.mem_range.mp hk
  match k, hk with
  | 0, _ => exact tt_142
  | 1, _ => exact tt_144
  | 2, _ => exact tt_146
  | k + 3, h => exact absurd h (by omega)
theorem ni_House : ∀ w ∈ u_ws nR_House nT_House 4, w ∈ TT := by
  intro w h
  obtain ⟨k, hk, rfl⟩ := List.mem_map.mp h
  have hk := List.mem_range.mp hk
  match k, hk with
  | 0, _ => exact tt_157
  | 1, _ => exact tt_159
  | 2, _ => exact tt_161
  | 3, _ => exact tt_163
  | k + 4, h => exact absurd h (by omega)
theorem ni_Interior : ∀ w ∈ u_ws nR_Interior nT_Interior 6, w ∈ TT := by
  intro w h
  obtain ⟨k, hk, rfl⟩ := List.mem_map.mp h
  have hk := List.mem_range.mp hk
  match k, hk with
  | 0, _ => exact tt_72
  | 1, _ => exact tt_74
  | 2, _ => exact tt_76
  | 3, _ => exact tt_78
  | 4, _ => exact tt_80
  | 5, _ => exact tt_82
  | k + 6, h => exact absurd h (by omega)
theorem ni_Machines : ∀ w ∈ u_ws nR_Machines nT_Machines 5, w ∈ TT := by
  intro w h
  obtain ⟨k, hk, rfl⟩ := List.mem_map.mp h
  have hk := List.mem_range.mp hk
  match k, hk with
  | 0, _ => exact tt_118
  | 1, _ => exact tt_120
  | 2, _ => exact tt_122
  | 3, _ => exact tt_124
  | 4, _ => exact tt_126
  | k + 5, h => exact absurd h (by omega)
theorem ni_Rules : ∀ w ∈ u_ws nR_Rules nT_Rules 6, w ∈ TT := by
  intro w h
  obtain ⟨k, hk, rfl⟩ := List.mem_map.mp h
  have hk := List.mem_range.mp hk
  match k, hk with
  | 0, _ => exact tt_184
  | 1, _ => exact tt_186
  | 2, _ => exact tt_188
  | 3, _ => exact tt_190
  | 4, _ => exact tt_192
  | 5, _ => exact tt_194
  | k + 6, h => exact absurd h (by omega)
theorem ni_Steps : ∀ w ∈ u_ws nR_Steps nT_Steps 3, w ∈ TT := by
  intro w h
  obtain ⟨k, hk, rfl⟩ := List.mem_map.mp h
  have hk := List.mem_range.mp hk
  match k, hk with
  | 0, _ => exact tt_36
  | 1, _ => exact tt_38
  | 2, _ => exact tt_40
  | k + 3, h => exact absurd h (by omega)
theorem ni_Walls : ∀ w ∈ u_ws nR_Walls nT_Walls 4, w ∈ TT := by
  intro w h
  obtain ⟨k, hk, rfl⟩ := List.mem_map.mp h
  have hk := List.mem_range.mp hk
  match k, hk with
  | 0, _ => exact tt_97
  | 1, _ => exact tt_99
  | 2, _ => exact tt_101
  | 3, _ => exact tt_103
  | k + 4, h => exact absurd h (by omega)
theorem ni_Room : ∀ w ∈ u_ws nR_Room nT_Room 7, w ∈ TT := by
  intro w h
  obtain ⟨k, hk, rfl⟩ := List.mem_map.mp h
  have hk := List.mem_range.mp hk
  match k, hk with
  | 0, _ => exact tt_229
  | 1, _ => exact tt_231
  | 2, _ => exact tt_233
  | 3, _ => exact tt_235
  | 4, _ => exact tt_237
  | 5, _ => exact tt_239
  | 6, _ => exact tt_241
  | k + 7, h => exact absurd h (by omega)
theorem ni_Model : ∀ w ∈ u_ws nR_Model nT_Model 32, w ∈ TT := by
  intro w h
  obtain ⟨k, hk, rfl⟩ := List.mem_map.mp h
  have hk := List.mem_range.mp hk
  match k, hk with
  | 0, _ => exact tt_755
  | 1, _ => exact tt_757
  | 2, _ => exact tt_759
  | 3, _ => exact tt_761
  | 4, _ => exact tt_763
  | 5, _ => exact tt_765
  | 6, _ => exact tt_767
  | 7, _ => exact tt_769
  | 8, _ => exact tt_771
  | 9, _ => exact tt_773
  | 10, _ => exact tt_775
  | 11, _ => exact tt_777
  | 12, _ => exact tt_779
  | 13, _ => exact tt_781
  | 14, _ => exact tt_783
  | 15, _ => exact tt_785
  | 16, _ => exact tt_787
  | 17, _ => exact tt_789
  | 18, _ => exact tt_791
  | 19, _ => exact tt_793
  | 20, _ => exact tt_795
  | 21, _ => exact tt_797
  | 22, _ => exact tt_799
  | 23, _ => exact tt_801
  | 24, _ => exact tt_803
  | 25, _ => exact tt_805
  | 26, _ => exact tt_807
  | 27, _ => exact tt_809
  | 28, _ => exact tt_811
  | 29, _ => exact tt_813
  | 30, _ => exact tt_815
  | 31, _ => exact tt_817
  | k + 32, h => exact absurd h (by omega)
