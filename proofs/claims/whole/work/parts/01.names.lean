-- ===== PART A: goes FIRST, ahead of the names: the tables' words, and 'selects' of the private methods out of them =====
/-- a private method of a class that the tables say can be made, by its rows of tables_1 -/
def lw_okq (q : MethodName × Nat) : Prop := (q.1.cls ≠ "java/lang/invoke/MethodHandle" ∧ q.1.cls ≠ "java/lang/invoke/VarHandle") ∧ Cond.instantiable q.1.cls q.2 ∈ tables_1 ∧ Cond.privateMethod q.1 ∈ tables_1 ∧ Cond.instanceMethod q.1 ∈ tables_1
theorem lw_p0 : lw_okq (⟨"java/lang/Throwable", "fillInStackTrace", "(I)Ljava/lang/Throwable;"⟩, 6) := ⟨⟨by decide +kernel, by decide +kernel⟩, List.mem_of_getElem? (i := 320) (by decide +kernel), List.mem_of_getElem? (i := 318) (by decide +kernel), List.mem_of_getElem? (i := 319) (by decide +kernel)⟩
theorem lw_p1 : lw_okq (⟨"RoomClimate$Machines", "steer", "(IJ)V"⟩, 5) := ⟨⟨by decide +kernel, by decide +kernel⟩, List.mem_of_getElem? (i := 107) (by decide +kernel), List.mem_of_getElem? (i := 506) (by decide +kernel), List.mem_of_getElem? (i := 507) (by decide +kernel)⟩
theorem lw_p2 : lw_okq (⟨"RoomClimate", "addRiskPoints", "()V"⟩, 7) := ⟨⟨by decide +kernel, by decide +kernel⟩, List.mem_of_getElem? (i := 19) (by decide +kernel), List.mem_of_getElem? (i := 518) (by decide +kernel), List.mem_of_getElem? (i := 519) (by decide +kernel)⟩
theorem lw_p3 : lw_okq (⟨"RoomClimate$Rules", "isBroken", "(ILRoomClimate$Interior;)Z"⟩, 6) := ⟨⟨by decide +kernel, by decide +kernel⟩, List.mem_of_getElem? (i := 168) (by decide +kernel), List.mem_of_getElem? (i := 530) (by decide +kernel), List.mem_of_getElem? (i := 531) (by decide +kernel)⟩
theorem lw_p4 : lw_okq (⟨"RoomClimate$Rules", "isHeld", "(II)Z"⟩, 6) := ⟨⟨by decide +kernel, by decide +kernel⟩, List.mem_of_getElem? (i := 168) (by decide +kernel), List.mem_of_getElem? (i := 536) (by decide +kernel), List.mem_of_getElem? (i := 537) (by decide +kernel)⟩
theorem lw_p5 : lw_okq (⟨"RoomClimate$Gauge", "lastCheckUpTo", "(I)I"⟩, 5) := ⟨⟨by decide +kernel, by decide +kernel⟩, List.mem_of_getElem? (i := 198) (by decide +kernel), List.mem_of_getElem? (i := 640) (by decide +kernel), List.mem_of_getElem? (i := 641) (by decide +kernel)⟩
theorem lw_p6 : lw_okq (⟨"RoomClimate$Gauge", "firstCheckFrom", "(II)I"⟩, 5) := ⟨⟨by decide +kernel, by decide +kernel⟩, List.mem_of_getElem? (i := 198) (by decide +kernel), List.mem_of_getElem? (i := 644) (by decide +kernel), List.mem_of_getElem? (i := 645) (by decide +kernel)⟩
theorem lw_p7 : lw_okq (⟨"RoomClimate$Gauge", "driftOfCheck", "(I)I"⟩, 5) := ⟨⟨by decide +kernel, by decide +kernel⟩, List.mem_of_getElem? (i := 198) (by decide +kernel), List.mem_of_getElem? (i := 648) (by decide +kernel), List.mem_of_getElem? (i := 649) (by decide +kernel)⟩
theorem lw_p8 : lw_okq (⟨"RoomClimate", "costOfLevel", "(IIII)J"⟩, 7) := ⟨⟨by decide +kernel, by decide +kernel⟩, List.mem_of_getElem? (i := 19) (by decide +kernel), List.mem_of_getElem? (i := 672) (by decide +kernel), List.mem_of_getElem? (i := 673) (by decide +kernel)⟩
theorem lw_p9 : lw_okq (⟨"RoomClimateModel", "goes", "(ZZZ)Z"⟩, 32) := ⟨⟨by decide +kernel, by decide +kernel⟩, List.mem_of_getElem? (i := 715) (by decide +kernel), List.mem_of_getElem? (i := 832) (by decide +kernel), List.mem_of_getElem? (i := 833) (by decide +kernel)⟩
theorem lw_p10 : lw_okq (⟨"RoomClimateModel", "goBy", "(III)J"⟩, 32) := ⟨⟨by decide +kernel, by decide +kernel⟩, List.mem_of_getElem? (i := 715) (by decide +kernel), List.mem_of_getElem? (i := 866) (by decide +kernel), List.mem_of_getElem? (i := 867) (by decide +kernel)⟩
theorem lw_p11 : lw_okq (⟨"RoomClimateModel", "air", "(II)V"⟩, 32) := ⟨⟨by decide +kernel, by decide +kernel⟩, List.mem_of_getElem? (i := 715) (by decide +kernel), List.mem_of_getElem? (i := 870) (by decide +kernel), List.mem_of_getElem? (i := 871) (by decide +kernel)⟩
theorem lw_p12 : lw_okq (⟨"RoomClimateModel", "degreesNow", "()J"⟩, 32) := ⟨⟨by decide +kernel, by decide +kernel⟩, List.mem_of_getElem? (i := 715) (by decide +kernel), List.mem_of_getElem? (i := 874) (by decide +kernel), List.mem_of_getElem? (i := 875) (by decide +kernel)⟩
theorem lw_p13 : lw_okq (⟨"RoomClimateModel", "dampNow", "()J"⟩, 32) := ⟨⟨by decide +kernel, by decide +kernel⟩, List.mem_of_getElem? (i := 715) (by decide +kernel), List.mem_of_getElem? (i := 882) (by decide +kernel), List.mem_of_getElem? (i := 883) (by decide +kernel)⟩
theorem lw_p14 : lw_okq (⟨"RoomClimateModel", "change", "(IJJ)V"⟩, 32) := ⟨⟨by decide +kernel, by decide +kernel⟩, List.mem_of_getElem? (i := 715) (by decide +kernel), List.mem_of_getElem? (i := 886) (by decide +kernel), List.mem_of_getElem? (i := 887) (by decide +kernel)⟩
theorem lw_p15 : lw_okq (⟨"RoomClimateModel", "walls", "(I)V"⟩, 32) := ⟨⟨by decide +kernel, by decide +kernel⟩, List.mem_of_getElem? (i := 715) (by decide +kernel), List.mem_of_getElem? (i := 890) (by decide +kernel), List.mem_of_getElem? (i := 891) (by decide +kernel)⟩
def lw_privs_1 : List (MethodName × Nat) := [(⟨"java/lang/Throwable", "fillInStackTrace", "(I)Ljava/lang/Throwable;"⟩, 6), (⟨"RoomClimate$Machines", "steer", "(IJ)V"⟩, 5), (⟨"RoomClimate", "addRiskPoints", "()V"⟩, 7), (⟨"RoomClimate$Rules", "isBroken", "(ILRoomClimate$Interior;)Z"⟩, 6), (⟨"RoomClimate$Rules", "isHeld", "(II)Z"⟩, 6), (⟨"RoomClimate$Gauge", "lastCheckUpTo", "(I)I"⟩, 5), (⟨"RoomClimate$Gauge", "firstCheckFrom", "(II)I"⟩, 5), (⟨"RoomClimate$Gauge", "driftOfCheck", "(I)I"⟩, 5), (⟨"RoomClimate", "costOfLevel", "(IIII)J"⟩, 7), (⟨"RoomClimateModel", "goes", "(ZZZ)Z"⟩, 32), (⟨"RoomClimateModel", "goBy", "(III)J"⟩, 32), (⟨"RoomClimateModel", "air", "(II)V"⟩, 32), (⟨"RoomClimateModel", "degreesNow", "()J"⟩, 32), (⟨"RoomClimateModel", "dampNow", "()J"⟩, 32), (⟨"RoomClimateModel", "change", "(IJJ)V"⟩, 32), (⟨"RoomClimateModel", "walls", "(I)V"⟩, 32)]
theorem lw_r1 : ∀ q ∈ lw_privs_1, lw_okq q := List.forall_mem_cons.mpr ⟨lw_p0, List.forall_mem_cons.mpr ⟨lw_p1, List.forall_mem_cons.mpr ⟨lw_p2, List.forall_mem_cons.mpr ⟨lw_p3, List.forall_mem_cons.mpr ⟨lw_p4, List.forall_mem_cons.mpr ⟨lw_p5, List.forall_mem_cons.mpr ⟨lw_p6, List.forall_mem_cons.mpr ⟨lw_p7, List.forall_mem_cons.mpr ⟨lw_p8, List.forall_mem_cons.mpr ⟨lw_p9, List.forall_mem_cons.mpr ⟨lw_p10, List.forall_mem_cons.mpr ⟨lw_p11, List.forall_mem_cons.mpr ⟨lw_p12, List.forall_mem_cons.mpr ⟨lw_p13, List.forall_mem_cons.mpr ⟨lw_p14, List.forall_mem_cons.mpr ⟨lw_p15, fun _ h => absurd h List.not_mem_nil⟩⟩⟩⟩⟩⟩⟩⟩⟩⟩⟩⟩⟩⟩⟩⟩
theorem lw_p16 : lw_okq (⟨"RoomClimateModel", "layerNow", "(I)J"⟩, 32) := ⟨⟨by decide +kernel, by decide +kernel⟩, List.mem_of_getElem? (i := 715) (by decide +kernel), List.mem_of_getElem? (i := 894) (by decide +kernel), List.mem_of_getElem? (i := 895) (by decide +kernel)⟩
theorem lw_p17 : lw_okq (⟨"RoomClimateModel", "goodsTake", "()V"⟩, 32) := ⟨⟨by decide +kernel, by decide +kernel⟩, List.mem_of_getElem? (i := 715) (by decide +kernel), List.mem_of_getElem? (i := 899) (by decide +kernel), List.mem_of_getElem? (i := 900) (by decide +kernel)⟩
theorem lw_p18 : lw_okq (⟨"RoomClimateModel", "due", "()J"⟩, 32) := ⟨⟨by decide +kernel, by decide +kernel⟩, List.mem_of_getElem? (i := 715) (by decide +kernel), List.mem_of_getElem? (i := 903) (by decide +kernel), List.mem_of_getElem? (i := 904) (by decide +kernel)⟩
theorem lw_p19 : lw_okq (⟨"RoomClimateModel", "works", "(I)J"⟩, 32) := ⟨⟨by decide +kernel, by decide +kernel⟩, List.mem_of_getElem? (i := 715) (by decide +kernel), List.mem_of_getElem? (i := 909) (by decide +kernel), List.mem_of_getElem? (i := 910) (by decide +kernel)⟩
theorem lw_p20 : lw_okq (⟨"RoomClimateModel", "addPoints", "()V"⟩, 32) := ⟨⟨by decide +kernel, by decide +kernel⟩, List.mem_of_getElem? (i := 715) (by decide +kernel), List.mem_of_getElem? (i := 913) (by decide +kernel), List.mem_of_getElem? (i := 914) (by decide +kernel)⟩
theorem lw_p21 : lw_okq (⟨"RoomClimateModel", "ring", "()V"⟩, 32) := ⟨⟨by decide +kernel, by decide +kernel⟩, List.mem_of_getElem? (i := 715) (by decide +kernel), List.mem_of_getElem? (i := 917) (by decide +kernel), List.mem_of_getElem? (i := 918) (by decide +kernel)⟩
theorem lw_p22 : lw_okq (⟨"RoomClimateModel", "isLayer", "(I)Z"⟩, 32) := ⟨⟨by decide +kernel, by decide +kernel⟩, List.mem_of_getElem? (i := 715) (by decide +kernel), List.mem_of_getElem? (i := 933) (by decide +kernel), List.mem_of_getElem? (i := 934) (by decide +kernel)⟩
theorem lw_p23 : lw_okq (⟨"RoomClimateModel", "wasHour", "(I)Z"⟩, 32) := ⟨⟨by decide +kernel, by decide +kernel⟩, List.mem_of_getElem? (i := 715) (by decide +kernel), List.mem_of_getElem? (i := 973) (by decide +kernel), List.mem_of_getElem? (i := 974) (by decide +kernel)⟩
theorem lw_p24 : lw_okq (⟨"RoomClimateModel", "tried", "(IIII)J"⟩, 32) := ⟨⟨by decide +kernel, by decide +kernel⟩, List.mem_of_getElem? (i := 715) (by decide +kernel), List.mem_of_getElem? (i := 994) (by decide +kernel), List.mem_of_getElem? (i := 995) (by decide +kernel)⟩
def lw_privs_2 : List (MethodName × Nat) := [(⟨"RoomClimateModel", "layerNow", "(I)J"⟩, 32), (⟨"RoomClimateModel", "goodsTake", "()V"⟩, 32), (⟨"RoomClimateModel", "due", "()J"⟩, 32), (⟨"RoomClimateModel", "works", "(I)J"⟩, 32), (⟨"RoomClimateModel", "addPoints", "()V"⟩, 32), (⟨"RoomClimateModel", "ring", "()V"⟩, 32), (⟨"RoomClimateModel", "isLayer", "(I)Z"⟩, 32), (⟨"RoomClimateModel", "wasHour", "(I)Z"⟩, 32), (⟨"RoomClimateModel", "tried", "(IIII)J"⟩, 32)]
theorem lw_r2 : ∀ q ∈ lw_privs_2, lw_okq q := List.forall_mem_cons.mpr ⟨lw_p16, List.forall_mem_cons.mpr ⟨lw_p17, List.forall_mem_cons.mpr ⟨lw_p18, List.forall_mem_cons.mpr ⟨lw_p19, List.forall_mem_cons.mpr ⟨lw_p20, List.forall_mem_cons.mpr ⟨lw_p21, List.forall_mem_cons.mpr ⟨lw_p22, List.forall_mem_cons.mpr ⟨lw_p23, List.forall_mem_cons.mpr ⟨lw_p24, fun _ h => absurd h List.not_mem_nil⟩⟩⟩⟩⟩⟩⟩⟩⟩
def lw_privs : List (MethodName × Nat) := lw_privs_1 ++ (lw_privs_2)
def lw_tbl : List Cond := k2_sels lw_privs ++ tables_1
theorem lw_privs_ok : ∀ q ∈ lw_privs, lw_okq q := by
  show ∀ q ∈ lw_privs_1 ++ (lw_privs_2), lw_okq q
  exact List.forall_mem_append.mpr ⟨lw_r1, lw_r2⟩
-- ===== end of PART A; then your names; then what follows =====
def nR_Gauge : String := "RoomClimate$Gauge"
def nT_Gauge : u_T := fun k => match k with
  | 0 => ("RoomClimate$Gauge", "values", "[I", true)
  | 1 => ("RoomClimate$Gauge", "sensed", "[Z", true)
  | 2 => ("RoomClimate$Gauge", "rights", "[I", true)
  | 3 => ("RoomClimate$Gauge", "checked", "[Z", true)
  | _ => ("RoomClimate$Gauge", "checks", "I", false)
def nt_Gauge : Nat → FieldType := fun k => match k with
  | 0 => .array .int
  | 1 => .array .boolean
  | 2 => .array .int
  | 3 => .array .boolean
  | _ => .int
theorem nn_Gauge : ∀ a, a < 5 → ∀ b, b < 5 → a ≠ b → (nT_Gauge a).2.1 ≠ (nT_Gauge b).2.1 := by decide +kernel
theorem nt_Gauge_ok : ∀ k, k < 5 → parseFieldDescriptor (nT_Gauge k).2.2.1 = some (nt_Gauge k) := by decide +kernel
def nR_Goods : String := "RoomClimate$Goods"
def nT_Goods : u_T := fun k => match k with
  | 0 => ("RoomClimate$Goods", "rows", "LRoomClimate$Steps;", true)
  | 1 => ("RoomClimate$Goods", "kilograms", "I", false)
  | _ => ("RoomClimate$Goods", "load", "J", false)
def nt_Goods : Nat → FieldType := fun k => match k with
  | 0 => .object "RoomClimate$Steps"
  | 1 => .int
  | _ => .long
theorem nn_Goods : ∀ a, a < 3 → ∀ b, b < 3 → a ≠ b → (nT_Goods a).2.1 ≠ (nT_Goods b).2.1 := by decide +kernel
theorem nt_Goods_ok : ∀ k, k < 3 → parseFieldDescriptor (nT_Goods k).2.2.1 = some (nt_Goods k) := by decide +kernel
def nR_House : String := "RoomClimate$House"
def nT_House : u_T := fun k => match k with
  | 0 => ("RoomClimate$House", "inside", "LRoomClimate$Interior;", true)
  | 1 => ("RoomClimate$House", "walls", "LRoomClimate$Walls;", true)
  | 2 => ("RoomClimate$House", "goods", "LRoomClimate$Goods;", true)
  | _ => ("RoomClimate$House", "machines", "LRoomClimate$Machines;", true)
def nt_House : Nat → FieldType := fun k => match k with
  | 0 => .object "RoomClimate$Interior"
  | 1 => .object "RoomClimate$Walls"
  | 2 => .object "RoomClimate$Goods"
  | _ => .object "RoomClimate$Machines"
theorem nn_House : ∀ a, a < 4 → ∀ b, b < 4 → a ≠ b → (nT_House a).2.1 ≠ (nT_House b).2.1 := by decide +kernel
theorem nt_House_ok : ∀ k, k < 4 → parseFieldDescriptor (nT_House k).2.2.1 = some (nt_House k) := by decide +kernel
def nR_Interior : String := "RoomClimate$Interior"
def nT_Interior : u_T := fun k => match k with
  | 0 => ("RoomClimate$Interior", "heatBooks", "[J", true)
  | 1 => ("RoomClimate$Interior", "waterBooks", "[J", true)
  | 2 => ("RoomClimate$Interior", "volume", "I", false)
  | 3 => ("RoomClimate$Interior", "share", "I", false)
  | 4 => ("RoomClimate$Interior", "heat", "J", false)
  | _ => ("RoomClimate$Interior", "water", "J", false)
def nt_Interior : Nat → FieldType := fun k => match k with
  | 0 => .array .long
  | 1 => .array .long
  | 2 => .int
  | 3 => .int
  | 4 => .long
  | _ => .long
theorem nn_Interior : ∀ a, a < 6 → ∀ b, b < 6 → a ≠ b → (nT_Interior a).2.1 ≠ (nT_Interior b).2.1 := by decide +kernel
theorem nt_Interior_ok : ∀ k, k < 6 → parseFieldDescriptor (nT_Interior k).2.2.1 = some (nt_Interior k) := by decide +kernel
def nR_Machines : String := "RoomClimate$Machines"
def nT_Machines : u_T := fun k => match k with
  | 0 => ("RoomClimate$Machines", "lows", "[I", true)
  | 1 => ("RoomClimate$Machines", "highs", "[I", true)
  | 2 => ("RoomClimate$Machines", "rates", "[I", true)
  | 3 => ("RoomClimate$Machines", "told", "[Z", true)
  | _ => ("RoomClimate$Machines", "running", "[Z", true)
def nt_Machines : Nat → FieldType := fun k => match k with
  | 0 => .array .int
  | 1 => .array .int
  | 2 => .array .int
  | 3 => .array .boolean
  | _ => .array .boolean
theorem nn_Machines : ∀ a, a < 5 → ∀ b, b < 5 → a ≠ b → (nT_Machines a).2.1 ≠ (nT_Machines b).2.1 := by decide +kernel
theorem nt_Machines_ok : ∀ k, k < 5 → parseFieldDescriptor (nT_Machines k).2.2.1 = some (nt_Machines k) := by decide +kernel
def nR_Rules : String := "RoomClimate$Rules"
def nT_Rules : u_T := fun k => match k with
  | 0 => ("RoomClimate$Rules", "kinds", "[I", true)
  | 1 => ("RoomClimate$Rules", "levels", "[I", true)
  | 2 => ("RoomClimate$Rules", "holds", "[I", true)
  | 3 => ("RoomClimate$Rules", "alarmCounts", "[I", true)
  | 4 => ("RoomClimate$Rules", "alarmHours", "[[I", true)
  | _ => ("RoomClimate$Rules", "size", "I", false)
def nt_Rules : Nat → FieldType := fun k => match k with
  | 0 => .array .int
  | 1 => .array .int
  | 2 => .array .int
  | 3 => .array .int
  | 4 => .array (.array .int)
  | _ => .int
theorem nn_Rules : ∀ a, a < 6 → ∀ b, b < 6 → a ≠ b → (nT_Rules a).2.1 ≠ (nT_Rules b).2.1 := by decide +kernel
theorem nt_Rules_ok : ∀ k, k < 6 → parseFieldDescriptor (nT_Rules k).2.2.1 = some (nt_Rules k) := by decide +kernel
def nR_Steps : String := "RoomClimate$Steps"
def nT_Steps : u_T := fun k => match k with
  | 0 => ("RoomClimate$Steps", "levels", "[I", true)
  | 1 => ("RoomClimate$Steps", "amounts", "[I", true)
  | _ => ("RoomClimate$Steps", "size", "I", false)
def nt_Steps : Nat → FieldType := fun k => match k with
  | 0 => .array .int
  | 1 => .array .int
  | _ => .int
theorem nn_Steps : ∀ a, a < 3 → ∀ b, b < 3 → a ≠ b → (nT_Steps a).2.1 ≠ (nT_Steps b).2.1 := by decide +kernel
theorem nt_Steps_ok : ∀ k, k < 3 → parseFieldDescriptor (nT_Steps k).2.2.1 = some (nt_Steps k) := by decide +kernel
def nR_Walls : String := "RoomClimate$Walls"
def nT_Walls : u_T := fun k => match k with
  | 0 => ("RoomClimate$Walls", "conductances", "[I", true)
  | 1 => ("RoomClimate$Walls", "capacities", "[I", true)
  | 2 => ("RoomClimate$Walls", "heats", "[J", true)
  | _ => ("RoomClimate$Walls", "layers", "I", false)
def nt_Walls : Nat → FieldType := fun k => match k with
  | 0 => .array .int
  | 1 => .array .int
  | 2 => .array .long
  | _ => .int
theorem nn_Walls : ∀ a, a < 4 → ∀ b, b < 4 → a ≠ b → (nT_Walls a).2.1 ≠ (nT_Walls b).2.1 := by decide +kernel
theorem nt_Walls_ok : ∀ k, k < 4 → parseFieldDescriptor (nT_Walls k).2.2.1 = some (nt_Walls k) := by decide +kernel
def nR_Room : String := "RoomClimate"
def nT_Room : u_T := fun k => match k with
  | 0 => ("RoomClimate", "house", "LRoomClimate$House;", true)
  | 1 => ("RoomClimate", "trial", "LRoomClimate$House;", true)
  | 2 => ("RoomClimate", "risks", "[LRoomClimate$Steps;", true)
  | 3 => ("RoomClimate", "riskPoints", "[I", true)
  | 4 => ("RoomClimate", "rules", "LRoomClimate$Rules;", true)
  | 5 => ("RoomClimate", "gauge", "LRoomClimate$Gauge;", true)
  | _ => ("RoomClimate", "hoursGone", "I", false)
def nt_Room : Nat → FieldType := fun k => match k with
  | 0 => .object "RoomClimate$House"
  | 1 => .object "RoomClimate$House"
  | 2 => .array (.object "RoomClimate$Steps")
  | 3 => .array .int
  | 4 => .object "RoomClimate$Rules"
  | 5 => .object "RoomClimate$Gauge"
  | _ => .int
theorem nn_Room : ∀ a, a < 7 → ∀ b, b < 7 → a ≠ b → (nT_Room a).2.1 ≠ (nT_Room b).2.1 := by decide +kernel
theorem nt_Room_ok : ∀ k, k < 7 → parseFieldDescriptor (nT_Room k).2.2.1 = some (nt_Room k) := by decide +kernel
def nR_Model : String := "RoomClimateModel"
def nT_Model : u_T := fun k => match k with
  | 0 => ("RoomClimateModel", "thrown", "I", false)
  | 1 => ("RoomClimateModel", "volume", "I", false)
  | 2 => ("RoomClimateModel", "share", "I", false)
  | 3 => ("RoomClimateModel", "now", "[J", true)
  | 4 => ("RoomClimateModel", "kept", "[J", true)
  | 5 => ("RoomClimateModel", "books", "[J", true)
  | 6 => ("RoomClimateModel", "keptBooks", "[J", true)
  | 7 => ("RoomClimateModel", "layers", "I", false)
  | 8 => ("RoomClimateModel", "conductances", "[I", true)
  | 9 => ("RoomClimateModel", "capacities", "[I", true)
  | 10 => ("RoomClimateModel", "kilograms", "I", false)
  | 11 => ("RoomClimateModel", "rows", "I", false)
  | 12 => ("RoomClimateModel", "rowDamps", "[I", true)
  | 13 => ("RoomClimateModel", "rowWaters", "[I", true)
  | 14 => ("RoomClimateModel", "told", "[Z", true)
  | 15 => ("RoomClimateModel", "lows", "[I", true)
  | 16 => ("RoomClimateModel", "highs", "[I", true)
  | 17 => ("RoomClimateModel", "rates", "[I", true)
  | 18 => ("RoomClimateModel", "hours", "I", false)
  | 19 => ("RoomClimateModel", "riskRows", "[I", true)
  | 20 => ("RoomClimateModel", "levels", "[I", true)
  | 21 => ("RoomClimateModel", "pointsOf", "[I", true)
  | 22 => ("RoomClimateModel", "sums", "[I", true)
  | 23 => ("RoomClimateModel", "rules", "I", false)
  | 24 => ("RoomClimateModel", "ruleKinds", "[I", true)
  | 25 => ("RoomClimateModel", "ruleLevels", "[I", true)
  | 26 => ("RoomClimateModel", "holds", "[I", true)
  | 27 => ("RoomClimateModel", "alarms", "[I", true)
  | 28 => ("RoomClimateModel", "alarmHours", "[I", true)
  | 29 => ("RoomClimateModel", "values", "[I", true)
  | 30 => ("RoomClimateModel", "checked", "[Z", true)
  | _ => ("RoomClimateModel", "rights", "[I", true)
def nt_Model : Nat → FieldType := fun k => match k with
  | 0 => .int
  | 1 => .int
  | 2 => .int
  | 3 => .array .long
  | 4 => .array .long
  | 5 => .array .long
  | 6 => .array .long
  | 7 => .int
  | 8 => .array .int
  | 9 => .array .int
  | 10 => .int
  | 11 => .int
  | 12 => .array .int
  | 13 => .array .int
  | 14 => .array .boolean
  | 15 => .array .int
  | 16 => .array .int
  | 17 => .array .int
  | 18 => .int
  | 19 => .array .int
  | 20 => .array .int
  | 21 => .array .int
  | 22 => .array .int
  | 23 => .int
  | 24 => .array .int
  | 25 => .array .int
  | 26 => .array .int
  | 27 => .array .int
  | 28 => .array .int
  | 29 => .array .int
  | 30 => .array .boolean
  | _ => .array .int
theorem nn_Model : ∀ a, a < 32 → ∀ b, b < 32 → a ≠ b → (nT_Model a).2.1 ≠ (nT_Model b).2.1 := by decide +kernel
theorem nt_Model_ok : ∀ k, k < 32 → parseFieldDescriptor (nT_Model k).2.2.1 = some (nt_Model k) := by decide +kernel
def nR_Law : String := "RoomClimateLaw"
def nR_Math : String := "java/lang/Math"
abbrev nC_Room_init : ByteArray := prog_1_method_1_code
def nY_Room_init : MethodName := ⟨nR_Room, "<init>", "()V"⟩
abbrev nC_Room_room : ByteArray := prog_1_method_2_code
def nY_Room_room : MethodName := ⟨nR_Room, "room", "(II)V"⟩
abbrev nC_Room_wall : ByteArray := prog_1_method_3_code
def nY_Room_wall : MethodName := ⟨nR_Room, "wall", "(II)I"⟩
abbrev nC_Room_goods : ByteArray := prog_1_method_4_code
def nY_Room_goods : MethodName := ⟨nR_Room, "goods", "(I)I"⟩
abbrev nC_Room_row : ByteArray := prog_1_method_5_code
def nY_Room_row : MethodName := ⟨nR_Room, "row", "(II)I"⟩
abbrev nC_Room_machine : ByteArray := prog_1_method_6_code
def nY_Room_machine : MethodName := ⟨nR_Room, "machine", "(IIII)V"⟩
abbrev nC_Room_hour : ByteArray := prog_1_method_7_code
def nY_Room_hour : MethodName := ⟨nR_Room, "hour", "(III)I"⟩
abbrev nC_Room_degrees : ByteArray := prog_1_method_8_code
def nY_Room_degrees : MethodName := ⟨nR_Room, "degrees", "()I"⟩
abbrev nC_Room_damp : ByteArray := prog_1_method_9_code
def nY_Room_damp : MethodName := ⟨nR_Room, "damp", "()I"⟩
abbrev nC_Room_layer : ByteArray := prog_1_method_10_code
def nY_Room_layer : MethodName := ⟨nR_Room, "layer", "(I)I"⟩
abbrev nC_Room_held : ByteArray := prog_1_method_11_code
def nY_Room_held : MethodName := ⟨nR_Room, "held", "()I"⟩
abbrev nC_Room_on : ByteArray := prog_1_method_12_code
def nY_Room_on : MethodName := ⟨nR_Room, "on", "(I)Z"⟩
abbrev nC_Room_book : ByteArray := prog_1_method_13_code
def nY_Room_book : MethodName := ⟨nR_Room, "book", "(II)J"⟩
abbrev nC_Room_dew : ByteArray := prog_1_method_14_code
def nY_Room_dew : MethodName := ⟨nR_Room, "dew", "(I)Z"⟩
abbrev nC_Room_risk : ByteArray := prog_1_method_15_code
def nY_Room_risk : MethodName := ⟨nR_Room, "risk", "(III)I"⟩
abbrev nC_Room_points : ByteArray := prog_1_method_16_code
def nY_Room_points : MethodName := ⟨nR_Room, "points", "(I)I"⟩
abbrev nC_Room_rule : ByteArray := prog_1_method_17_code
def nY_Room_rule : MethodName := ⟨nR_Room, "rule", "(III)I"⟩
abbrev nC_Room_alarm : ByteArray := prog_1_method_18_code
def nY_Room_alarm : MethodName := ⟨nR_Room, "alarm", "(II)I"⟩
abbrev nC_Room_sensor : ByteArray := prog_1_method_19_code
def nY_Room_sensor : MethodName := ⟨nR_Room, "sensor", "(II)V"⟩
abbrev nC_Room_check : ByteArray := prog_1_method_20_code
def nY_Room_check : MethodName := ⟨nR_Room, "check", "(II)V"⟩
abbrev nC_Room_corrected : ByteArray := prog_1_method_21_code
def nY_Room_corrected : MethodName := ⟨nR_Room, "corrected", "(I)I"⟩
abbrev nC_Room_silent : ByteArray := prog_1_method_22_code
def nY_Room_silent : MethodName := ⟨nR_Room, "silent", "(I)I"⟩
abbrev nC_Room_plan : ByteArray := prog_1_method_23_code
def nY_Room_plan : MethodName := ⟨nR_Room, "plan", "(III)I"⟩
abbrev nC_Room_count : ByteArray := prog_1_method_24_code
def nY_Room_count : MethodName := ⟨nR_Room, "count", "(I)I"⟩
abbrev nC_Room_addRiskPoints : ByteArray := prog_1_method_25_code
def nY_Room_addRiskPoints : MethodName := ⟨nR_Room, "addRiskPoints", "()V"⟩
abbrev nC_Room_costOfLevel : ByteArray := prog_1_method_26_code
def nY_Room_costOfLevel : MethodName := ⟨nR_Room, "costOfLevel", "(IIII)J"⟩
abbrev nC_Room_distanceFromPlanned : ByteArray := prog_1_method_27_code
def nY_Room_distanceFromPlanned : MethodName := ⟨nR_Room, "distanceFromPlanned", "(J)J"⟩
abbrev nC_Room_requireIndex : ByteArray := prog_1_method_28_code
def nY_Room_requireIndex : MethodName := ⟨nR_Room, "requireIndex", "(II)V"⟩
abbrev nC_Room_requireSpace : ByteArray := prog_1_method_29_code
def nY_Room_requireSpace : MethodName := ⟨nR_Room, "requireSpace", "(II)V"⟩
abbrev nC_Room_requireWithin : ByteArray := prog_1_method_30_code
def nY_Room_requireWithin : MethodName := ⟨nR_Room, "requireWithin", "(III)V"⟩
abbrev nC_Room_requireRise : ByteArray := prog_1_method_31_code
def nY_Room_requireRise : MethodName := ⟨nR_Room, "requireRise", "(LRoomClimate$Steps;I)V"⟩
abbrev nC_Room_by : ByteArray := prog_1_method_32_code
def nY_Room_by : MethodName := ⟨nR_Room, "by", "(JJ)J"⟩
abbrev nC_Model_init : ByteArray := prog_11_method_1_code
def nY_Model_init : MethodName := ⟨nR_Model, "<init>", "()V"⟩
abbrev nC_Model_thrown : ByteArray := prog_11_method_2_code
def nY_Model_thrown : MethodName := ⟨nR_Model, "thrown", "()I"⟩
abbrev nC_Model_goes : ByteArray := prog_11_method_3_code
def nY_Model_goes : MethodName := ⟨nR_Model, "goes", "(ZZZ)Z"⟩
abbrev nC_Model_within : ByteArray := prog_11_method_4_code
def nY_Model_within : MethodName := ⟨nR_Model, "within", "(III)Z"⟩
abbrev nC_Model_by : ByteArray := prog_11_method_5_code
def nY_Model_by : MethodName := ⟨nR_Model, "by", "(JJ)J"⟩
abbrev nC_Model_room : ByteArray := prog_11_method_6_code
def nY_Model_room : MethodName := ⟨nR_Model, "room", "(II)V"⟩
abbrev nC_Model_wall : ByteArray := prog_11_method_7_code
def nY_Model_wall : MethodName := ⟨nR_Model, "wall", "(II)I"⟩
abbrev nC_Model_goods : ByteArray := prog_11_method_8_code
def nY_Model_goods : MethodName := ⟨nR_Model, "goods", "(I)I"⟩
abbrev nC_Model_row : ByteArray := prog_11_method_9_code
def nY_Model_row : MethodName := ⟨nR_Model, "row", "(II)I"⟩
abbrev nC_Model_isLevel : ByteArray := prog_11_method_10_code
def nY_Model_isLevel : MethodName := ⟨nR_Model, "isLevel", "(I)Z"⟩
abbrev nC_Model_machine : ByteArray := prog_11_method_11_code
def nY_Model_machine : MethodName := ⟨nR_Model, "machine", "(IIII)V"⟩
abbrev nC_Model_degreesNow : ByteArray := prog_11_method_12_code
def nY_Model_degreesNow : MethodName := ⟨nR_Model, "degreesNow", "()J"⟩
abbrev nC_Model_dampNow : ByteArray := prog_11_method_13_code
def nY_Model_dampNow : MethodName := ⟨nR_Model, "dampNow", "()J"⟩
abbrev nC_Model_layerNow : ByteArray := prog_11_method_14_code
def nY_Model_layerNow : MethodName := ⟨nR_Model, "layerNow", "(I)J"⟩
abbrev nC_Model_change : ByteArray := prog_11_method_15_code
def nY_Model_change : MethodName := ⟨nR_Model, "change", "(IJJ)V"⟩
abbrev nC_Model_air : ByteArray := prog_11_method_16_code
def nY_Model_air : MethodName := ⟨nR_Model, "air", "(II)V"⟩
abbrev nC_Model_walls : ByteArray := prog_11_method_17_code
def nY_Model_walls : MethodName := ⟨nR_Model, "walls", "(I)V"⟩
abbrev nC_Model_due : ByteArray := prog_11_method_18_code
def nY_Model_due : MethodName := ⟨nR_Model, "due", "()J"⟩
abbrev nC_Model_goodsTake : ByteArray := prog_11_method_19_code
def nY_Model_goodsTake : MethodName := ⟨nR_Model, "goodsTake", "()V"⟩
abbrev nC_Model_works : ByteArray := prog_11_method_20_code
def nY_Model_works : MethodName := ⟨nR_Model, "works", "(I)J"⟩
abbrev nC_Model_goBy : ByteArray := prog_11_method_21_code
def nY_Model_goBy : MethodName := ⟨nR_Model, "goBy", "(III)J"⟩
abbrev nC_Model_addPoints : ByteArray := prog_11_method_22_code
def nY_Model_addPoints : MethodName := ⟨nR_Model, "addPoints", "()V"⟩
abbrev nC_Model_ring : ByteArray := prog_11_method_23_code
def nY_Model_ring : MethodName := ⟨nR_Model, "ring", "()V"⟩
abbrev nC_Model_isOutside : ByteArray := prog_11_method_24_code
def nY_Model_isOutside : MethodName := ⟨nR_Model, "isOutside", "(II)Z"⟩
abbrev nC_Model_hour : ByteArray := prog_11_method_25_code
def nY_Model_hour : MethodName := ⟨nR_Model, "hour", "(III)I"⟩
abbrev nC_Model_degrees : ByteArray := prog_11_method_26_code
def nY_Model_degrees : MethodName := ⟨nR_Model, "degrees", "()I"⟩
abbrev nC_Model_damp : ByteArray := prog_11_method_27_code
def nY_Model_damp : MethodName := ⟨nR_Model, "damp", "()I"⟩
abbrev nC_Model_isLayer : ByteArray := prog_11_method_28_code
def nY_Model_isLayer : MethodName := ⟨nR_Model, "isLayer", "(I)Z"⟩
abbrev nC_Model_layer : ByteArray := prog_11_method_29_code
def nY_Model_layer : MethodName := ⟨nR_Model, "layer", "(I)I"⟩
abbrev nC_Model_held : ByteArray := prog_11_method_30_code
def nY_Model_held : MethodName := ⟨nR_Model, "held", "()I"⟩
abbrev nC_Model_on : ByteArray := prog_11_method_31_code
def nY_Model_on : MethodName := ⟨nR_Model, "on", "(I)Z"⟩
abbrev nC_Model_book : ByteArray := prog_11_method_32_code
def nY_Model_book : MethodName := ⟨nR_Model, "book", "(II)J"⟩
abbrev nC_Model_dew : ByteArray := prog_11_method_33_code
def nY_Model_dew : MethodName := ⟨nR_Model, "dew", "(I)Z"⟩
abbrev nC_Model_risk : ByteArray := prog_11_method_34_code
def nY_Model_risk : MethodName := ⟨nR_Model, "risk", "(III)I"⟩
abbrev nC_Model_points : ByteArray := prog_11_method_35_code
def nY_Model_points : MethodName := ⟨nR_Model, "points", "(I)I"⟩
abbrev nC_Model_rule : ByteArray := prog_11_method_36_code
def nY_Model_rule : MethodName := ⟨nR_Model, "rule", "(III)I"⟩
abbrev nC_Model_alarm : ByteArray := prog_11_method_37_code
def nY_Model_alarm : MethodName := ⟨nR_Model, "alarm", "(II)I"⟩
abbrev nC_Model_wasHour : ByteArray := prog_11_method_38_code
def nY_Model_wasHour : MethodName := ⟨nR_Model, "wasHour", "(I)Z"⟩
abbrev nC_Model_sensor : ByteArray := prog_11_method_39_code
def nY_Model_sensor : MethodName := ⟨nR_Model, "sensor", "(II)V"⟩
abbrev nC_Model_check : ByteArray := prog_11_method_40_code
def nY_Model_check : MethodName := ⟨nR_Model, "check", "(II)V"⟩
abbrev nC_Model_corrected : ByteArray := prog_11_method_41_code
def nY_Model_corrected : MethodName := ⟨nR_Model, "corrected", "(I)I"⟩
abbrev nC_Model_silent : ByteArray := prog_11_method_42_code
def nY_Model_silent : MethodName := ⟨nR_Model, "silent", "(I)I"⟩
abbrev nC_Model_tried : ByteArray := prog_11_method_43_code
def nY_Model_tried : MethodName := ⟨nR_Model, "tried", "(IIII)J"⟩
abbrev nC_Model_plan : ByteArray := prog_11_method_44_code
def nY_Model_plan : MethodName := ⟨nR_Model, "plan", "(III)I"⟩
abbrev nC_Model_count : ByteArray := prog_11_method_45_code
def nY_Model_count : MethodName := ⟨nR_Model, "count", "(I)I"⟩
abbrev nC_Gauge_init : ByteArray := prog_2_method_1_code
def nY_Gauge_init : MethodName := ⟨nR_Gauge, "<init>", "()V"⟩
abbrev nC_Gauge_sense : ByteArray := prog_2_method_2_code
def nY_Gauge_sense : MethodName := ⟨nR_Gauge, "sense", "(II)V"⟩
abbrev nC_Gauge_compare : ByteArray := prog_2_method_3_code
def nY_Gauge_compare : MethodName := ⟨nR_Gauge, "compare", "(II)V"⟩
abbrev nC_Gauge_drift : ByteArray := prog_2_method_4_code
def nY_Gauge_drift : MethodName := ⟨nR_Gauge, "drift", "(II)I"⟩
abbrev nC_Gauge_driftOfCheck : ByteArray := prog_2_method_5_code
def nY_Gauge_driftOfCheck : MethodName := ⟨nR_Gauge, "driftOfCheck", "(I)I"⟩
abbrev nC_Gauge_lastCheckUpTo : ByteArray := prog_2_method_6_code
def nY_Gauge_lastCheckUpTo : MethodName := ⟨nR_Gauge, "lastCheckUpTo", "(I)I"⟩
abbrev nC_Gauge_firstCheckFrom : ByteArray := prog_2_method_7_code
def nY_Gauge_firstCheckFrom : MethodName := ⟨nR_Gauge, "firstCheckFrom", "(II)I"⟩
abbrev nC_Gauge_longestGap : ByteArray := prog_2_method_8_code
def nY_Gauge_longestGap : MethodName := ⟨nR_Gauge, "longestGap", "(II)I"⟩
abbrev nC_Goods_init : ByteArray := prog_3_method_1_code
def nY_Goods_init : MethodName := ⟨nR_Goods, "<init>", "(LRoomClimate$Steps;)V"⟩
abbrev nC_Goods_soak : ByteArray := prog_3_method_2_code
def nY_Goods_soak : MethodName := ⟨nR_Goods, "soak", "(LRoomClimate$Interior;)V"⟩
abbrev nC_Goods_copyFrom : ByteArray := prog_3_method_3_code
def nY_Goods_copyFrom : MethodName := ⟨nR_Goods, "copyFrom", "(LRoomClimate$Goods;)V"⟩
abbrev nC_House_init : ByteArray := prog_4_method_1_code
def nY_House_init : MethodName := ⟨nR_House, "<init>", "(LRoomClimate$Steps;)V"⟩
abbrev nC_House_pass : ByteArray := prog_4_method_2_code
def nY_House_pass : MethodName := ⟨nR_House, "pass", "(III)V"⟩
abbrev nC_House_copyFrom : ByteArray := prog_4_method_3_code
def nY_House_copyFrom : MethodName := ⟨nR_House, "copyFrom", "(LRoomClimate$House;)V"⟩
abbrev nC_Interior_init : ByteArray := prog_5_method_1_code
def nY_Interior_init : MethodName := ⟨nR_Interior, "<init>", "()V"⟩
abbrev nC_Interior_warmth : ByteArray := prog_5_method_2_code
def nY_Interior_warmth : MethodName := ⟨nR_Interior, "warmth", "()J"⟩
abbrev nC_Interior_moisture : ByteArray := prog_5_method_3_code
def nY_Interior_moisture : MethodName := ⟨nR_Interior, "moisture", "()J"⟩
abbrev nC_Interior_gainHeat : ByteArray := prog_5_method_4_code
def nY_Interior_gainHeat : MethodName := ⟨nR_Interior, "gainHeat", "(IJ)V"⟩
abbrev nC_Interior_gainWater : ByteArray := prog_5_method_5_code
def nY_Interior_gainWater : MethodName := ⟨nR_Interior, "gainWater", "(IJ)V"⟩
abbrev nC_Interior_exchangeAir : ByteArray := prog_5_method_6_code
def nY_Interior_exchangeAir : MethodName := ⟨nR_Interior, "exchangeAir", "(II)V"⟩
abbrev nC_Interior_receive : ByteArray := prog_5_method_7_code
def nY_Interior_receive : MethodName := ⟨nR_Interior, "receive", "(I)V"⟩
abbrev nC_Interior_copyFrom : ByteArray := prog_5_method_8_code
def nY_Interior_copyFrom : MethodName := ⟨nR_Interior, "copyFrom", "(LRoomClimate$Interior;)V"⟩
abbrev nC_Machines_init : ByteArray := prog_6_method_1_code
def nY_Machines_init : MethodName := ⟨nR_Machines, "<init>", "()V"⟩
abbrev nC_Machines_install : ByteArray := prog_6_method_2_code
def nY_Machines_install : MethodName := ⟨nR_Machines, "install", "(IIII)V"⟩
abbrev nC_Machines_rateOr : ByteArray := prog_6_method_3_code
def nY_Machines_rateOr : MethodName := ⟨nR_Machines, "rateOr", "(II)I"⟩
abbrev nC_Machines_output : ByteArray := prog_6_method_4_code
def nY_Machines_output : MethodName := ⟨nR_Machines, "output", "(I)I"⟩
abbrev nC_Machines_work : ByteArray := prog_6_method_5_code
def nY_Machines_work : MethodName := ⟨nR_Machines, "work", "(LRoomClimate$Interior;)V"⟩
abbrev nC_Machines_steer : ByteArray := prog_6_method_6_code
def nY_Machines_steer : MethodName := ⟨nR_Machines, "steer", "(IJ)V"⟩
abbrev nC_Machines_copyFrom : ByteArray := prog_6_method_7_code
def nY_Machines_copyFrom : MethodName := ⟨nR_Machines, "copyFrom", "(LRoomClimate$Machines;)V"⟩
abbrev nC_Rules_init : ByteArray := prog_7_method_1_code
def nY_Rules_init : MethodName := ⟨nR_Rules, "<init>", "()V"⟩
abbrev nC_Rules_append : ByteArray := prog_7_method_2_code
def nY_Rules_append : MethodName := ⟨nR_Rules, "append", "(III)I"⟩
abbrev nC_Rules_tell : ByteArray := prog_7_method_3_code
def nY_Rules_tell : MethodName := ⟨nR_Rules, "tell", "(ILRoomClimate$Interior;)V"⟩
abbrev nC_Rules_isBroken : ByteArray := prog_7_method_4_code
def nY_Rules_isBroken : MethodName := ⟨nR_Rules, "isBroken", "(ILRoomClimate$Interior;)Z"⟩
abbrev nC_Rules_isHeld : ByteArray := prog_7_method_5_code
def nY_Rules_isHeld : MethodName := ⟨nR_Rules, "isHeld", "(II)Z"⟩
abbrev nC_Steps_init : ByteArray := prog_8_method_1_code
def nY_Steps_init : MethodName := ⟨nR_Steps, "<init>", "(I)V"⟩
abbrev nC_Steps_wouldRise : ByteArray := prog_8_method_2_code
def nY_Steps_wouldRise : MethodName := ⟨nR_Steps, "wouldRise", "(I)Z"⟩
abbrev nC_Steps_append : ByteArray := prog_8_method_3_code
def nY_Steps_append : MethodName := ⟨nR_Steps, "append", "(II)I"⟩
abbrev nC_Steps_amountUpTo : ByteArray := prog_8_method_4_code
def nY_Steps_amountUpTo : MethodName := ⟨nR_Steps, "amountUpTo", "(J)I"⟩
abbrev nC_Steps_amountFrom : ByteArray := prog_8_method_5_code
def nY_Steps_amountFrom : MethodName := ⟨nR_Steps, "amountFrom", "(J)I"⟩
abbrev nC_Walls_init : ByteArray := prog_9_method_1_code
def nY_Walls_init : MethodName := ⟨nR_Walls, "<init>", "()V"⟩
abbrev nC_Walls_append : ByteArray := prog_9_method_2_code
def nY_Walls_append : MethodName := ⟨nR_Walls, "append", "(II)I"⟩
abbrev nC_Walls_warmth : ByteArray := prog_9_method_3_code
def nY_Walls_warmth : MethodName := ⟨nR_Walls, "warmth", "(I)J"⟩
abbrev nC_Walls_conduct : ByteArray := prog_9_method_4_code
def nY_Walls_conduct : MethodName := ⟨nR_Walls, "conduct", "(LRoomClimate$Interior;I)V"⟩
abbrev nC_Walls_copyFrom : ByteArray := prog_9_method_5_code
def nY_Walls_copyFrom : MethodName := ⟨nR_Walls, "copyFrom", "(LRoomClimate$Walls;)V"⟩
abbrev nC_Law_room : ByteArray := method_3_code
def nY_Law_room : MethodName := ⟨nR_Law, "room", "(LRoomClimate;II)I"⟩
abbrev nC_Law_wall : ByteArray := method_4_code
def nY_Law_wall : MethodName := ⟨nR_Law, "wall", "(LRoomClimate;II[J)I"⟩
abbrev nC_Law_goods : ByteArray := method_5_code
def nY_Law_goods : MethodName := ⟨nR_Law, "goods", "(LRoomClimate;I[J)I"⟩
abbrev nC_Law_row : ByteArray := method_6_code
def nY_Law_row : MethodName := ⟨nR_Law, "row", "(LRoomClimate;II[J)I"⟩
abbrev nC_Law_machine : ByteArray := method_7_code
def nY_Law_machine : MethodName := ⟨nR_Law, "machine", "(LRoomClimate;IIII)I"⟩
abbrev nC_Law_hour : ByteArray := method_8_code
def nY_Law_hour : MethodName := ⟨nR_Law, "hour", "(LRoomClimate;III[J)I"⟩
abbrev nC_Law_layer : ByteArray := method_9_code
def nY_Law_layer : MethodName := ⟨nR_Law, "layer", "(LRoomClimate;I[J)I"⟩
abbrev nC_Law_on : ByteArray := method_10_code
def nY_Law_on : MethodName := ⟨nR_Law, "on", "(LRoomClimate;I[J)I"⟩
abbrev nC_Law_book : ByteArray := method_11_code
def nY_Law_book : MethodName := ⟨nR_Law, "book", "(LRoomClimate;II[J)I"⟩
abbrev nC_Law_dew : ByteArray := method_12_code
def nY_Law_dew : MethodName := ⟨nR_Law, "dew", "(LRoomClimate;I[J)I"⟩
abbrev nC_Law_risk : ByteArray := method_13_code
def nY_Law_risk : MethodName := ⟨nR_Law, "risk", "(LRoomClimate;III[J)I"⟩
abbrev nC_Law_points : ByteArray := method_14_code
def nY_Law_points : MethodName := ⟨nR_Law, "points", "(LRoomClimate;I[J)I"⟩
abbrev nC_Law_rule : ByteArray := method_15_code
def nY_Law_rule : MethodName := ⟨nR_Law, "rule", "(LRoomClimate;III[J)I"⟩
abbrev nC_Law_alarm : ByteArray := method_16_code
def nY_Law_alarm : MethodName := ⟨nR_Law, "alarm", "(LRoomClimate;II[J)I"⟩
abbrev nC_Law_sensor : ByteArray := method_17_code
def nY_Law_sensor : MethodName := ⟨nR_Law, "sensor", "(LRoomClimate;II)I"⟩
abbrev nC_Law_check : ByteArray := method_18_code
def nY_Law_check : MethodName := ⟨nR_Law, "check", "(LRoomClimate;II)I"⟩
abbrev nC_Law_corrected : ByteArray := method_19_code
def nY_Law_corrected : MethodName := ⟨nR_Law, "corrected", "(LRoomClimate;I[J)I"⟩
abbrev nC_Law_silent : ByteArray := method_20_code
def nY_Law_silent : MethodName := ⟨nR_Law, "silent", "(LRoomClimate;I[J)I"⟩
abbrev nC_Law_plan : ByteArray := method_21_code
def nY_Law_plan : MethodName := ⟨nR_Law, "plan", "(LRoomClimate;III[J)I"⟩
abbrev nC_Law_count : ByteArray := method_22_code
def nY_Law_count : MethodName := ⟨nR_Law, "count", "(LRoomClimate;I[J)I"⟩
abbrev nC_Law_law : ByteArray := code
def nY_Law_law : MethodName := ⟨nR_Law, "law", "([I)Z"⟩
abbrev nC_Math_floorDiv : ByteArray := prog_16_method_49_code
def nY_Math_floorDiv : MethodName := ⟨nR_Math, "floorDiv", "(JJ)J"⟩
abbrev vwCl : List vw_C := [(nR_Gauge, nT_Gauge, 5), (nR_Goods, nT_Goods, 3), (nR_House, nT_House, 4), (nR_Interior, nT_Interior, 6), (nR_Machines, nT_Machines, 5), (nR_Rules, nT_Rules, 6), (nR_Steps, nT_Steps, 3), (nR_Walls, nT_Walls, 4), (nR_Room, nT_Room, 7), (nR_Model, nT_Model, 32)]
/-- the words that every contract here stands over: all words of the tables that a warmer machine keeps -/
def k_ok (w : Cond) : Bool := goodWord w || (match w with
  | .fieldLinkNest .. => true
  | .methodLinkNest .. => true
  | .castable .. => true
  | .declares .. => true
  | .stringRef .. => true
  | .arrayOver (.object _) => true
  | .arrayOver (.array _) => true
  | _ => false)
def TT : List Cond := lw_tbl.filter k_ok
theorem k_strw {args a' : Array Value} {s U : State} {cls text : String} {index : Nat} (hW : s.WarmedH U.vm) (hb : (Cond.stringRef cls index text).before args s = true) : (Cond.stringRef cls index text).before a' U = true := by
  cases hc : s.vm.findClass cls with
  | none => simp [Cond.before, Cond.holds, Cond.value, hc] at hb
  | some cur =>
    obtain ⟨-, -, -, sa, -, -, -, -, -, hev⟩ := Cond.stringRef_spec hc hb
    exact (vk_R.warm hW (vk_R.of hb hev)).1
theorem k_aow {args a' : Array Value} {u U : State} {t : FieldType} (hvm : u.vm.Alike U.vm) (h : (Cond.arrayOver (.array t)).before args u = true) : (Cond.arrayOver (.array t)).before a' U = true := by
  obtain ⟨comp, c, k, h1, h2, h3, h4, h5⟩ := arrayOver_specB h
  obtain ⟨k', hk', he⟩ := hvm.2.2 _ _ h3
  have hi : (U.vm.classes.findIdx? fun (x : Class) => match x.kind with | .array component _ => component == comp | _ => false) = some c := by
    have a1 := va_idx_bare U.vm comp
    have a2 := va_idx_bare u.vm comp
    first
      | (rw [hvm.bare_eq] at a1; exact a1.symm.trans (a2.trans h2))
      | (rw [← hvm.bare_eq] at a1; exact a1.symm.trans (a2.trans h2))
  have hkind : k'.kind = .array comp (.array t) := by rw [he]; exact h4
  have f1 : U.vm.findClass (FieldType.array t).toString = some comp := by rw [hvm.findClass]; exact h1
  have f2 : U.vm.findClass ("[" ++ (FieldType.array t).toString) = some c := by rw [hvm.findClass]; exact h5
  unfold Cond.before Cond.holds
  simp only [Cond.value]
  rw [f1, Option.bind_some]
  refine (congrArg (fun o : Option Nat => (o.bind (fun c => (U.vm.classes[c]?).map fun (k : Class) => match k.kind with | .array _ ty => decide (ty = FieldType.array t) && decide (U.vm.findClass ("[" ++ (FieldType.array t).toString) = some c) | _ => false) == some true)) hi).trans ?_
  simp [hk', hkind, f2]
set_option maxHeartbeats 8000000 in
theorem k_warm {args : Array Value} {s : State} (hts : ∀ w ∈ TT, w.before args s = true) : ∀ w ∈ TT, ∀ (a' : Array Value) (U : State), s.WarmedH U.vm → w.before a' U = true := by
  intro w hw a' U hW
  have hk := (List.mem_filter.mp hw).2
  have hb := hts w hw
  by_cases hg : goodWord w = true
  · exact pay_in (big := [w]) (ws := [w]) (fun z hz => by rw [List.mem_singleton.mp hz]; exact hb) (fun z hz => by rw [List.mem_singleton.mp hz]; exact ⟨List.mem_singleton_self w, good_of_word hg⟩) w (List.mem_singleton_self w) a' U hW
  · rw [Bool.not_eq_true] at hg
    unfold k_ok at hk
    rw [hg, Bool.false_or] at hk
    cases w <;> first
      | exact va_Nw.use rfl (va_Nw.warmF hW (va_Nw.of rfl hb))
      | exact va_Nw.use rfl (va_Nw.warmM hW (va_Nw.of rfl hb))
      | exact k_strw hW hb
      | exact va_tabs rfl (rfl : (s.setVm U.vm).vm = U.vm) ((Cond.castable_setVm hW.alike _ _).trans hb)
      | exact va_tabs rfl (rfl : (s.setVm U.vm).vm = U.vm) ((Cond.declares_setVm hW.alike _).trans hb)
      | exact Bool.noConfusion hk
      | (rename_i ty; cases ty <;> first | exact va_AO.use (va_AO.moved hW.alike (va_AO.of hb)) | exact k_aow hW.alike hb | exact Bool.noConfusion hk)
theorem tt_p {i : Nat} {w : Cond} (h : (k2_sels lw_privs)[i]? = some w) (hg : k_ok w = true) : w ∈ TT := List.mem_filter.mpr ⟨List.mem_append_left _ (List.mem_of_getElem? h), hg⟩
theorem tt_t {i : Nat} {w : Cond} (h : tables_1[i]? = some w) (hg : k_ok w = true) : w ∈ TT := List.mem_filter.mpr ⟨List.mem_append_right _ (List.mem_of_getElem? h), hg⟩
