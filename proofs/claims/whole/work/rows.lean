section
-- ===== PART A: goes FIRST, ahead of the names: the tables' words, and 'selects' of the private methods out of them =====
/-- a private method of a class that the tables say can be made, by its rows of tables_1 -/
def lw_okq (q : MethodName × Nat) : Prop := (q.1.cls ≠ "java/lang/invoke/MethodHandle" ∧ q.1.cls ≠ "java/lang/invoke/VarHandle") ∧ Cond.instantiable q.1.cls q.2 ∈ tables_1 ∧ Cond.privateMethod q.1 ∈ tables_1 ∧ Cond.instanceMethod q.1 ∈ tables_1
theorem lw_p0 : lw_okq (⟨"java/lang/Throwable", "fillInStackTrace", "(I)Ljava/lang/Throwable;"⟩, 6) := ⟨⟨by decide +kernel, by decide +kernel⟩, List.mem_of_getElem? (i := 320) (by decide +kernel), List.mem_of_getElem? (i := 318) (by decide +kernel), List.mem_of_getElem? (i := 319) (by decide +kernel)⟩
theorem lw_p1 : lw_okq (⟨"RoomClimate$Machines", "steer", "(IJ)V"⟩, 5) := ⟨⟨by decide +kernel, by decide +kernel⟩, List.mem_of_getElem? (i := 107) (by decide +kernel), List.mem_of_getElem? (i := 506) (by decide +kernel), List.mem_of_getElem? (i := 507) (by decide +kernel)⟩
theorem lw_p2 : lw_okq (⟨"RoomClimate", "addRiskPoints", "()V"⟩, 7) := ⟨⟨by decide +kernel, by decide +kernel⟩, List.mem_of_getElem? (i := 19) (by decide +kernel), List.mem_of_getElem? (i := 518) (by decide +kernel), List.mem_of_getElem? (i := 519) (by decide +kernel)⟩
theorem lw_p3 : lw_okq (⟨"RoomClimate$Rules", "isBroken", "(ILRoomClimate$Interior;)Z"⟩, 6) := ⟨⟨by decide +kernel, by decide +kernel⟩, List.mem_of_getElem? (i := 168) (by decide +kernel), List.mem_of_getElem? (i := 530) (by decide +kernel), List.mem_of_getElem? (i := 531) (by decide +kernel)⟩
theorem lw_p4 : lw_okq (⟨"RoomClimate$Rules", "isHeld", "(II)Z"⟩, 6) := ⟨⟨by decide +kernel, by decide +kernel⟩, List.mem_of_getElem? (i := 168) (by decide +kernel), List.mem_of_getElem? (i := 536) (by decide +kernel), List.mem_of_getElem? (i := 537) (by decide +kernel)⟩
theorem lw_p5 : lw_okq (⟨"RoomClimate$Gauge", "lastCheckUpTo", "(I)I"⟩, 5) := ⟨⟨by decide +kernel, by decide +kernel⟩, List.mem_of_getElem? (i := 198) (by decide +kernel), List.mem_of_getElem? (i := 640) (by decide +kernel), List.mem_of_getElem? (i := 641) (by decide +kernel)⟩
theorem lw_p6 : lw_okq (⟨"RoomClimate$Gauge", "firstCheckFrom", "(II)I"⟩, 5) := ⟨⟨by decide +kernel, by decide +kernel⟩, List.mem_of_getElem? (i := 198) (by decide +kernel), List.mem_of_getElem? (i := 644) (by decide +kernel), List.mem_of_getElem? (i := 645) (by decide +kernel)⟩
theorem lw_p7 : lw_okq (⟨"RoomClimate$Gauge", "driftOfCheck", "(I)I"⟩, 5) := ⟨⟨by decide +kernel, by decide +kernel⟩, List.mem_of_getElem? (i := 198) (by decide +kernel), List.mem_of_getElem? (i := 648) (by decide +kernel), List.mem_of_getElem? (i := 649) (by decide +kernel)⟩
theorem lw_p8 : lw_okq (⟨"RoomClimate", "costOfLevel", "(IIII)J"⟩, 7) := ⟨⟨by decide +kernel, by decide +kernel⟩, List.mem_of_getElem? (i := 19) (by decide +kernel), List.mem_of_getElem? (i := 672) (by decide +kernel), List.mem_of_getElem? (i := 673) (by decide +kernel)⟩
theorem lw_p9 : lw_okq (⟨"RoomClimateModel", "goes", "(ZZZ)Z"⟩, 32) := ⟨⟨by decide +kernel, by decide +kernel⟩, List.mem_of_getElem? (i := 715) (by decide +kernel), List.mem_of_getElem? (i := 832) (by decide +kernel), List.mem_of_getElem? (i := 833) (by decide +kernel)⟩
theorem lw_p10 : lw_okq (⟨"RoomClimateModel", "goBy", "(III)J"⟩, 32) := ⟨⟨by decide +kernel, by decide +kernel⟩, List.mem_of_getElem? (i := 715) (by decide +kernel), List.mem_of_getElem? (i := 866) (by decide +kernel), List.mem_of_getElem? (i := 867) (by decide +kernel)⟩
theorem lw_p11 : lw_okq (⟨"RoomClimateModel", "air", "(II)V"⟩, 32) := ⟨⟨by decide +kernel, by decide +kernel⟩, List.mem_of_getElem? (i := 715) (by decide +kernel), List.mem_of_getElem? (i := 870) (by decide +kernel), List.mem_of_getElem? (i := 871) (by decide +kernel)⟩
theorem lw_p12 : lw_okq (⟨"RoomClimateModel", "degreesNow", "()J"⟩, 32) := ⟨⟨by decide +kernel, by decide +kernel⟩, List.mem_of_getElem? (i := 715) (by decide +kernel), List.mem_of_getElem? (i := 874) (by decide +kernel), List.mem_of_getElem? (i := 875) (by decide +kernel)⟩
theorem lw_p13 : lw_okq (⟨"RoomClimateModel", "dampNow", "()J"⟩, 32) := ⟨⟨by decide +kernel, by decide +kernel⟩, List.mem_of_getElem? (i := 715) (by decide +kernel), List.mem_of_getElem? (i := 882) (by decide +kernel), List.mem_of_getElem? (i := 883) (by decide +kernel)⟩
theorem lw_p14 : lw_okq (⟨"RoomClimateModel", "change", "(IJJ)V"⟩, 32) := ⟨⟨by decide +kernel, by decide +kernel⟩, List.mem_of_getElem? (i := 715) (by decide +kernel), List.mem_of_getElem? (i := 886) (by decide +kernel), List.mem_of_getElem? (i := 887) (by decide +kernel)⟩
theorem lw_p15 : lw_okq (⟨"RoomClimateModel", "walls", "(I)V"⟩, 32) := ⟨⟨by decide +kernel, by decide +kernel⟩, List.mem_of_getElem? (i := 715) (by decide +kernel), List.mem_of_getElem? (i := 890) (by decide +kernel), List.mem_of_getElem? (i := 891) (by decide +kernel)⟩
def lw_privs_1 : List (MethodName × Nat) := [(⟨"java/lang/Throwable", "fillInStackTrace", "(I)Ljava/lang/Throwable;"⟩, 6), (⟨"RoomClimate$Machines", "steer", "(IJ)V"⟩, 5), (⟨"RoomClimate", "addRiskPoints", "()V"⟩, 7), (⟨"RoomClimate$Rules", "isBroken", "(ILRoomClimate$Interior;)Z"⟩, 6), (⟨"RoomClimate$Rules", "isHeld", "(II)Z"⟩, 6), (⟨"RoomClimate$Gauge", "lastCheckUpTo", "(I)I"⟩, 5), (⟨"RoomClimate$Gauge", "firstCheckFrom", "(II)I"⟩, 5), (⟨"RoomClimate$Gauge", "driftOfCheck", "(I)I"⟩, 5), (⟨"RoomClimate", "costOfLevel", "(IIII)J"⟩, 7), (⟨"RoomClimateModel", "goes", "(ZZZ)Z"⟩, 32), (⟨"RoomClimateModel", "goBy", "(III)J"⟩, 32), (⟨"RoomClimateModel", "air", "(II)V"⟩, 32), (⟨"RoomClimateModel", "degreesNow", "()J"⟩, 32), (⟨"RoomClimateModel", "dampNow", "()J"⟩, 32), (⟨"RoomClimateModel", "change", "(IJJ)V"⟩, 32), (⟨"RoomClimateModel", "walls", "(I)V"⟩, 32)]
theorem lw_r1 : ∀ q ∈ lw_privs_1, lw_okq q := List.forall_mem_cons.mpr ⟨lw_p0, List.forall_mem_cons.mpr ⟨lw_p1, List.forall_mem_cons.mpr ⟨lw_p2, List.forall_mem_cons.mpr ⟨lw_p3, List.forall_mem_cons.mpr ⟨lw_p4, List.forall_mem_cons.mpr ⟨lw_p5, List.forall_mem_cons.mpr ⟨lw_p6, List.forall_mem_cons.mpr ⟨lw_p7, List.forall_mem_cons.mpr ⟨lw_p8, List.forall_mem_cons.mpr ⟨lw_p9, List.forall_mem_cons.mpr ⟨lw_p10, List.forall_mem_cons.mpr ⟨lw_p11, List.forall_mem_cons.mpr ⟨lw_p12, List.forall_mem_cons.mpr ⟨lw_p13, List.forall_mem_cons.mpr ⟨lw_p14, List.forall_mem_cons.mpr ⟨lw_p15, fun _ h => absurd h List.not_mem_nil⟩⟩⟩⟩⟩⟩⟩⟩⟩⟩⟩⟩⟩⟩⟩⟩
theorem lw_p16 : lw_okq (⟨"RoomClimateModel", "layerNow", "(I)J"⟩, 32) := ⟨⟨by decide +kernel, by decide +kernel⟩, List.mem_of_getElem? (i := 715) (by decide +kernel), List.mem_of_getElem? (i := 894) (by decide +kernel), List.mem_of_getElem? (i := 895) (by decide +kernel)⟩
theorem lw_p17 : lw_okq (⟨"RoomClimateModel", "goodsTake", "()V"⟩, 32) := ⟨⟨by decide +kernel, by decide +kernel⟩, List.mem_of_getElem? (i := 715) (by decide +kernel), List.mem_of_getElem? (i := 899) (by decide +kernel), List.mem_of_getElem? (i := 900) (by decide +kernel)⟩
theorem lw_p18 : lw_okq (⟨"RoomClimateModel", "due", "()J"⟩, 32) := ⟨⟨by decide +kernel, by decide +kernel⟩, List.mem_of_getElem? (i := 715) (by decide +kernel), List.mem_of_getElem? (i := 903) (by decide +kernel), List.mem_of_getElem? (i := 904) (by decide +kernel)⟩
theorem lw_p19 : lw_okq (⟨"RoomClimateModel", "works", "(I)J"⟩, 32) := ⟨⟨by decide +kernel, by decide +kernel⟩, List.mem_of_getElem? (i := 715) (by decide +kernel), List.mem_of_getElem? (i := 909) (by decide +kernel), List.mem_of_getElem? (i := 910) (by decide +kernel)⟩
theorem lw_p20 : lw_okq (⟨"RoomClimateModel", "addPoints", "()V"⟩, 32) := ⟨⟨by decide +kernel, by decide +kernel⟩, List.mem_of_getElem? (i := 715) (by decide +kernel), List.mem_of_getElem? (i := 913) (by decide +kernel), List.mem_of_getElem? (i := 914) (by decide +kernel)⟩
theorem lw_p21 : lw_okq (⟨"RoomClimateModel", "ring", "()V"⟩, 32) := ⟨⟨by decide +kernel, by decide +kernel⟩, List.mem_of_getElem? (i := 715) (by decide +kernel), List.mem_of_getElem? (i := 917) (by decide +kernel), List.mem_of_getElem? (i := 918) (by decide +kernel)⟩
theorem lw_p22 : lw_okq (⟨"RoomClimateModel", "isLayer", "(I)Z"⟩, 32) := ⟨⟨by decide +kernel, by decide +kernel⟩, List.mem_of_getElem? (i := 715) (by decide +kernel), List.mem_of_getElem? (i := 933) (by decide +kernel), List.mem_of_getElem? (i := 934) (by decide +kernel)⟩
theorem lw_p23 : lw_okq (⟨"RoomClimateModel", "wasHour", "(I)Z"⟩, 32) := ⟨⟨by decide +kernel, by decide +kernel⟩, List.mem_of_getElem? (i := 715) (by decide +kernel), List.mem_of_getElem? (i := 973) (by decide +kernel), List.mem_of_getElem? (i := 974) (by decide +kernel)⟩
theorem lw_p24 : lw_okq (⟨"RoomClimateModel", "tried", "(IIII)J"⟩, 32) := ⟨⟨by decide +kernel, by decide +kernel⟩, List.mem_of_getElem? (i := 715) (by decide +kernel), List.mem_of_getElem? (i := 994) (by decide +kernel), List.mem_of_getElem? (i := 995) (by decide +kernel)⟩
def lw_privs_2 : List (MethodName × Nat) := [(⟨"RoomClimateModel", "layerNow", "(I)J"⟩, 32), (⟨"RoomClimateModel", "goodsTake", "()V"⟩, 32), (⟨"RoomClimateModel", "due", "()J"⟩, 32), (⟨"RoomClimateModel", "works", "(I)J"⟩, 32), (⟨"RoomClimateModel", "addPoints", "()V"⟩, 32), (⟨"RoomClimateModel", "ring", "()V"⟩, 32), (⟨"RoomClimateModel", "isLayer", "(I)Z"⟩, 32), (⟨"RoomClimateModel", "wasHour", "(I)Z"⟩, 32), (⟨"RoomClimateModel", "tried", "(IIII)J"⟩, 32)]
theorem lw_r2 : ∀ q ∈ lw_privs_2, lw_okq q := List.forall_mem_cons.mpr ⟨lw_p16, List.forall_mem_cons.mpr ⟨lw_p17, List.forall_mem_cons.mpr ⟨lw_p18, List.forall_mem_cons.mpr ⟨lw_p19, List.forall_mem_cons.mpr ⟨lw_p20, List.forall_mem_cons.mpr ⟨lw_p21, List.forall_mem_cons.mpr ⟨lw_p22, List.forall_mem_cons.mpr ⟨lw_p23, List.forall_mem_cons.mpr ⟨lw_p24, fun _ h => absurd h List.not_mem_nil⟩⟩⟩⟩⟩⟩⟩⟩⟩
def lw_privs : List (MethodName × Nat) := lw_privs_1 ++ (lw_privs_2)
def lw_tbl : List Cond := k2_sels lw_privs ++ tables_1
theorem lw_privs_ok : ∀ q ∈ lw_privs, lw_okq q := by
  show ∀ q ∈ lw_privs_1 ++ (lw_privs_2), lw_okq q
  exact List.forall_mem_append.mpr ⟨lw_r1, lw_r2⟩
-- ===== end of PART A; then your names; then what follows =====
def nR_Gauge : String := "RoomClimate$Gauge"
def nT_Gauge : u_T := fun k => match k with
  | 0 => ("RoomClimate$Gauge", "values", "[I", true)
  | 1 => ("RoomClimate$Gauge", "sensed", "[Z", true)
  | 2 => ("RoomClimate$Gauge", "rights", "[I", true)
  | 3 => ("RoomClimate$Gauge", "checked", "[Z", true)
  | _ => ("RoomClimate$Gauge", "checks", "I", false)
def nt_Gauge : Nat → FieldType := fun k => match k with
  | 0 => .array .int
  | 1 => .array .boolean
  | 2 => .array .int
  | 3 => .array .boolean
  | _ => .int
theorem nn_Gauge : ∀ a, a < 5 → ∀ b, b < 5 → a ≠ b → (nT_Gauge a).2.1 ≠ (nT_Gauge b).2.1 := by decide +kernel
theorem nt_Gauge_ok : ∀ k, k < 5 → parseFieldDescriptor (nT_Gauge k).2.2.1 = some (nt_Gauge k) := by decide +kernel
def nR_Goods : String := "RoomClimate$Goods"
def nT_Goods : u_T := fun k => match k with
  | 0 => ("RoomClimate$Goods", "rows", "LRoomClimate$Steps;", true)
  | 1 => ("RoomClimate$Goods", "kilograms", "I", false)
  | _ => ("RoomClimate$Goods", "load", "J", false)
def nt_Goods : Nat → FieldType := fun k => match k with
  | 0 => .object "RoomClimate$Steps"
  | 1 => .int
  | _ => .long
theorem nn_Goods : ∀ a, a < 3 → ∀ b, b < 3 → a ≠ b → (nT_Goods a).2.1 ≠ (nT_Goods b).2.1 := by decide +kernel
theorem nt_Goods_ok : ∀ k, k < 3 → parseFieldDescriptor (nT_Goods k).2.2.1 = some (nt_Goods k) := by decide +kernel
def nR_House : String := "RoomClimate$House"
def nT_House : u_T := fun k => match k with
  | 0 => ("RoomClimate$House", "inside", "LRoomClimate$Interior;", true)
  | 1 => ("RoomClimate$House", "walls", "LRoomClimate$Walls;", true)
  | 2 => ("RoomClimate$House", "goods", "LRoomClimate$Goods;", true)
  | _ => ("RoomClimate$House", "machines", "LRoomClimate$Machines;", true)
def nt_House : Nat → FieldType := fun k => match k with
  | 0 => .object "RoomClimate$Interior"
  | 1 => .object "RoomClimate$Walls"
  | 2 => .object "RoomClimate$Goods"
  | _ => .object "RoomClimate$Machines"
theorem nn_House : ∀ a, a < 4 → ∀ b, b < 4 → a ≠ b → (nT_House a).2.1 ≠ (nT_House b).2.1 := by decide +kernel
theorem nt_House_ok : ∀ k, k < 4 → parseFieldDescriptor (nT_House k).2.2.1 = some (nt_House k) := by decide +kernel
def nR_Interior : String := "RoomClimate$Interior"
def nT_Interior : u_T := fun k => match k with
  | 0 => ("RoomClimate$Interior", "heatBooks", "[J", true)
  | 1 => ("RoomClimate$Interior", "waterBooks", "[J", true)
  | 2 => ("RoomClimate$Interior", "volume", "I", false)
  | 3 => ("RoomClimate$Interior", "share", "I", false)
  | 4 => ("RoomClimate$Interior", "heat", "J", false)
  | _ => ("RoomClimate$Interior", "water", "J", false)
def nt_Interior : Nat → FieldType := fun k => match k with
  | 0 => .array .long
  | 1 => .array .long
  | 2 => .int
  | 3 => .int
  | 4 => .long
  | _ => .long
theorem nn_Interior : ∀ a, a < 6 → ∀ b, b < 6 → a ≠ b → (nT_Interior a).2.1 ≠ (nT_Interior b).2.1 := by decide +kernel
theorem nt_Interior_ok : ∀ k, k < 6 → parseFieldDescriptor (nT_Interior k).2.2.1 = some (nt_Interior k) := by decide +kernel
def nR_Machines : String := "RoomClimate$Machines"
def nT_Machines : u_T := fun k => match k with
  | 0 => ("RoomClimate$Machines", "lows", "[I", true)
  | 1 => ("RoomClimate$Machines", "highs", "[I", true)
  | 2 => ("RoomClimate$Machines", "rates", "[I", true)
  | 3 => ("RoomClimate$Machines", "told", "[Z", true)
  | _ => ("RoomClimate$Machines", "running", "[Z", true)
def nt_Machines : Nat → FieldType := fun k => match k with
  | 0 => .array .int
  | 1 => .array .int
  | 2 => .array .int
  | 3 => .array .boolean
  | _ => .array .boolean
theorem nn_Machines : ∀ a, a < 5 → ∀ b, b < 5 → a ≠ b → (nT_Machines a).2.1 ≠ (nT_Machines b).2.1 := by decide +kernel
theorem nt_Machines_ok : ∀ k, k < 5 → parseFieldDescriptor (nT_Machines k).2.2.1 = some (nt_Machines k) := by decide +kernel
def nR_Rules : String := "RoomClimate$Rules"
def nT_Rules : u_T := fun k => match k with
  | 0 => ("RoomClimate$Rules", "kinds", "[I", true)
  | 1 => ("RoomClimate$Rules", "levels", "[I", true)
  | 2 => ("RoomClimate$Rules", "holds", "[I", true)
  | 3 => ("RoomClimate$Rules", "alarmCounts", "[I", true)
  | 4 => ("RoomClimate$Rules", "alarmHours", "[[I", true)
  | _ => ("RoomClimate$Rules", "size", "I", false)
def nt_Rules : Nat → FieldType := fun k => match k with
  | 0 => .array .int
  | 1 => .array .int
  | 2 => .array .int
  | 3 => .array .int
  | 4 => .array (.array .int)
  | _ => .int
theorem nn_Rules : ∀ a, a < 6 → ∀ b, b < 6 → a ≠ b → (nT_Rules a).2.1 ≠ (nT_Rules b).2.1 := by decide +kernel
theorem nt_Rules_ok : ∀ k, k < 6 → parseFieldDescriptor (nT_Rules k).2.2.1 = some (nt_Rules k) := by decide +kernel
def nR_Steps : String := "RoomClimate$Steps"
def nT_Steps : u_T := fun k => match k with
  | 0 => ("RoomClimate$Steps", "levels", "[I", true)
  | 1 => ("RoomClimate$Steps", "amounts", "[I", true)
  | _ => ("RoomClimate$Steps", "size", "I", false)
def nt_Steps : Nat → FieldType := fun k => match k with
  | 0 => .array .int
  | 1 => .array .int
  | _ => .int
theorem nn_Steps : ∀ a, a < 3 → ∀ b, b < 3 → a ≠ b → (nT_Steps a).2.1 ≠ (nT_Steps b).2.1 := by decide +kernel
theorem nt_Steps_ok : ∀ k, k < 3 → parseFieldDescriptor (nT_Steps k).2.2.1 = some (nt_Steps k) := by decide +kernel
def nR_Walls : String := "RoomClimate$Walls"
def nT_Walls : u_T := fun k => match k with
  | 0 => ("RoomClimate$Walls", "conductances", "[I", true)
  | 1 => ("RoomClimate$Walls", "capacities", "[I", true)
  | 2 => ("RoomClimate$Walls", "heats", "[J", true)
  | _ => ("RoomClimate$Walls", "layers", "I", false)
def nt_Walls : Nat → FieldType := fun k => match k with
  | 0 => .array .int
  | 1 => .array .int
  | 2 => .array .long
  | _ => .int
theorem nn_Walls : ∀ a, a < 4 → ∀ b, b < 4 → a ≠ b → (nT_Walls a).2.1 ≠ (nT_Walls b).2.1 := by decide +kernel
theorem nt_Walls_ok : ∀ k, k < 4 → parseFieldDescriptor (nT_Walls k).2.2.1 = some (nt_Walls k) := by decide +kernel
def nR_Room : String := "RoomClimate"
def nT_Room : u_T := fun k => match k with
  | 0 => ("RoomClimate", "house", "LRoomClimate$House;", true)
  | 1 => ("RoomClimate", "trial", "LRoomClimate$House;", true)
  | 2 => ("RoomClimate", "risks", "[LRoomClimate$Steps;", true)
  | 3 => ("RoomClimate", "riskPoints", "[I", true)
  | 4 => ("RoomClimate", "rules", "LRoomClimate$Rules;", true)
  | 5 => ("RoomClimate", "gauge", "LRoomClimate$Gauge;", true)
  | _ => ("RoomClimate", "hoursGone", "I", false)
def nt_Room : Nat → FieldType := fun k => match k with
  | 0 => .object "RoomClimate$House"
  | 1 => .object "RoomClimate$House"
  | 2 => .array (.object "RoomClimate$Steps")
  | 3 => .array .int
  | 4 => .object "RoomClimate$Rules"
  | 5 => .object "RoomClimate$Gauge"
  | _ => .int
theorem nn_Room : ∀ a, a < 7 → ∀ b, b < 7 → a ≠ b → (nT_Room a).2.1 ≠ (nT_Room b).2.1 := by decide +kernel
theorem nt_Room_ok : ∀ k, k < 7 → parseFieldDescriptor (nT_Room k).2.2.1 = some (nt_Room k) := by decide +kernel
def nR_Model : String := "RoomClimateModel"
def nT_Model : u_T := fun k => match k with
  | 0 => ("RoomClimateModel", "thrown", "I", false)
  | 1 => ("RoomClimateModel", "volume", "I", false)
  | 2 => ("RoomClimateModel", "share", "I", false)
  | 3 => ("RoomClimateModel", "now", "[J", true)
  | 4 => ("RoomClimateModel", "kept", "[J", true)
  | 5 => ("RoomClimateModel", "books", "[J", true)
  | 6 => ("RoomClimateModel", "keptBooks", "[J", true)
  | 7 => ("RoomClimateModel", "layers", "I", false)
  | 8 => ("RoomClimateModel", "conductances", "[I", true)
  | 9 => ("RoomClimateModel", "capacities", "[I", true)
  | 10 => ("RoomClimateModel", "kilograms", "I", false)
  | 11 => ("RoomClimateModel", "rows", "I", false)
  | 12 => ("RoomClimateModel", "rowDamps", "[I", true)
  | 13 => ("RoomClimateModel", "rowWaters", "[I", true)
  | 14 => ("RoomClimateModel", "told", "[Z", true)
  | 15 => ("RoomClimateModel", "lows", "[I", true)
  | 16 => ("RoomClimateModel", "highs", "[I", true)
  | 17 => ("RoomClimateModel", "rates", "[I", true)
  | 18 => ("RoomClimateModel", "hours", "I", false)
  | 19 => ("RoomClimateModel", "riskRows", "[I", true)
  | 20 => ("RoomClimateModel", "levels", "[I", true)
  | 21 => ("RoomClimateModel", "pointsOf", "[I", true)
  | 22 => ("RoomClimateModel", "sums", "[I", true)
  | 23 => ("RoomClimateModel", "rules", "I", false)
  | 24 => ("RoomClimateModel", "ruleKinds", "[I", true)
  | 25 => ("RoomClimateModel", "ruleLevels", "[I", true)
  | 26 => ("RoomClimateModel", "holds", "[I", true)
  | 27 => ("RoomClimateModel", "alarms", "[I", true)
  | 28 => ("RoomClimateModel", "alarmHours", "[I", true)
  | 29 => ("RoomClimateModel", "values", "[I", true)
  | 30 => ("RoomClimateModel", "checked", "[Z", true)
  | _ => ("RoomClimateModel", "rights", "[I", true)
def nt_Model : Nat → FieldType := fun k => match k with
  | 0 => .int
  | 1 => .int
  | 2 => .int
  | 3 => .array .long
  | 4 => .array .long
  | 5 => .array .long
  | 6 => .array .long
  | 7 => .int
  | 8 => .array .int
  | 9 => .array .int
  | 10 => .int
  | 11 => .int
  | 12 => .array .int
  | 13 => .array .int
  | 14 => .array .boolean
  | 15 => .array .int
  | 16 => .array .int
  | 17 => .array .int
  | 18 => .int
  | 19 => .array .int
  | 20 => .array .int
  | 21 => .array .int
  | 22 => .array .int
  | 23 => .int
  | 24 => .array .int
  | 25 => .array .int
  | 26 => .array .int
  | 27 => .array .int
  | 28 => .array .int
  | 29 => .array .int
  | 30 => .array .boolean
  | _ => .array .int
theorem nn_Model : ∀ a, a < 32 → ∀ b, b < 32 → a ≠ b → (nT_Model a).2.1 ≠ (nT_Model b).2.1 := by decide +kernel
theorem nt_Model_ok : ∀ k, k < 32 → parseFieldDescriptor (nT_Model k).2.2.1 = some (nt_Model k) := by decide +kernel
def nR_Law : String := "RoomClimateLaw"
def nR_Math : String := "java/lang/Math"
abbrev nC_Room_init : ByteArray := prog_1_method_1_code
def nY_Room_init : MethodName := ⟨nR_Room, "<init>", "()V"⟩
abbrev nC_Room_room : ByteArray := prog_1_method_2_code
def nY_Room_room : MethodName := ⟨nR_Room, "room", "(II)V"⟩
abbrev nC_Room_wall : ByteArray := prog_1_method_3_code
def nY_Room_wall : MethodName := ⟨nR_Room, "wall", "(II)I"⟩
abbrev nC_Room_goods : ByteArray := prog_1_method_4_code
def nY_Room_goods : MethodName := ⟨nR_Room, "goods", "(I)I"⟩
abbrev nC_Room_row : ByteArray := prog_1_method_5_code
def nY_Room_row : MethodName := ⟨nR_Room, "row", "(II)I"⟩
abbrev nC_Room_machine : ByteArray := prog_1_method_6_code
def nY_Room_machine : MethodName := ⟨nR_Room, "machine", "(IIII)V"⟩
abbrev nC_Room_hour : ByteArray := prog_1_method_7_code
def nY_Room_hour : MethodName := ⟨nR_Room, "hour", "(III)I"⟩
abbrev nC_Room_degrees : ByteArray := prog_1_method_8_code
def nY_Room_degrees : MethodName := ⟨nR_Room, "degrees", "()I"⟩
abbrev nC_Room_damp : ByteArray := prog_1_method_9_code
def nY_Room_damp : MethodName := ⟨nR_Room, "damp", "()I"⟩
abbrev nC_Room_layer : ByteArray := prog_1_method_10_code
def nY_Room_layer : MethodName := ⟨nR_Room, "layer", "(I)I"⟩
abbrev nC_Room_held : ByteArray := prog_1_method_11_code
def nY_Room_held : MethodName := ⟨nR_Room, "held", "()I"⟩
abbrev nC_Room_on : ByteArray := prog_1_method_12_code
def nY_Room_on : MethodName := ⟨nR_Room, "on", "(I)Z"⟩
abbrev nC_Room_book : ByteArray := prog_1_method_13_code
def nY_Room_book : MethodName := ⟨nR_Room, "book", "(II)J"⟩
abbrev nC_Room_dew : ByteArray := prog_1_method_14_code
def nY_Room_dew : MethodName := ⟨nR_Room, "dew", "(I)Z"⟩
abbrev nC_Room_risk : ByteArray := prog_1_method_15_code
def nY_Room_risk : MethodName := ⟨nR_Room, "risk", "(III)I"⟩
abbrev nC_Room_points : ByteArray := prog_1_method_16_code
def nY_Room_points : MethodName := ⟨nR_Room, "points", "(I)I"⟩
abbrev nC_Room_rule : ByteArray := prog_1_method_17_code
def nY_Room_rule : MethodName := ⟨nR_Room, "rule", "(III)I"⟩
abbrev nC_Room_alarm : ByteArray := prog_1_method_18_code
def nY_Room_alarm : MethodName := ⟨nR_Room, "alarm", "(II)I"⟩
abbrev nC_Room_sensor : ByteArray := prog_1_method_19_code
def nY_Room_sensor : MethodName := ⟨nR_Room, "sensor", "(II)V"⟩
abbrev nC_Room_check : ByteArray := prog_1_method_20_code
def nY_Room_check : MethodName := ⟨nR_Room, "check", "(II)V"⟩
abbrev nC_Room_corrected : ByteArray := prog_1_method_21_code
def nY_Room_corrected : MethodName := ⟨nR_Room, "corrected", "(I)I"⟩
abbrev nC_Room_silent : ByteArray := prog_1_method_22_code
def nY_Room_silent : MethodName := ⟨nR_Room, "silent", "(I)I"⟩
abbrev nC_Room_plan : ByteArray := prog_1_method_23_code
def nY_Room_plan : MethodName := ⟨nR_Room, "plan", "(III)I"⟩
abbrev nC_Room_count : ByteArray := prog_1_method_24_code
def nY_Room_count : MethodName := ⟨nR_Room, "count", "(I)I"⟩
abbrev nC_Room_addRiskPoints : ByteArray := prog_1_method_25_code
def nY_Room_addRiskPoints : MethodName := ⟨nR_Room, "addRiskPoints", "()V"⟩
abbrev nC_Room_costOfLevel : ByteArray := prog_1_method_26_code
def nY_Room_costOfLevel : MethodName := ⟨nR_Room, "costOfLevel", "(IIII)J"⟩
abbrev nC_Room_distanceFromPlanned : ByteArray := prog_1_method_27_code
def nY_Room_distanceFromPlanned : MethodName := ⟨nR_Room, "distanceFromPlanned", "(J)J"⟩
abbrev nC_Room_requireIndex : ByteArray := prog_1_method_28_code
def nY_Room_requireIndex : MethodName := ⟨nR_Room, "requireIndex", "(II)V"⟩
abbrev nC_Room_requireSpace : ByteArray := prog_1_method_29_code
def nY_Room_requireSpace : MethodName := ⟨nR_Room, "requireSpace", "(II)V"⟩
abbrev nC_Room_requireWithin : ByteArray := prog_1_method_30_code
def nY_Room_requireWithin : MethodName := ⟨nR_Room, "requireWithin", "(III)V"⟩
abbrev nC_Room_requireRise : ByteArray := prog_1_method_31_code
def nY_Room_requireRise : MethodName := ⟨nR_Room, "requireRise", "(LRoomClimate$Steps;I)V"⟩
abbrev nC_Room_by : ByteArray := prog_1_method_32_code
def nY_Room_by : MethodName := ⟨nR_Room, "by", "(JJ)J"⟩
abbrev nC_Model_init : ByteArray := prog_11_method_1_code
def nY_Model_init : MethodName := ⟨nR_Model, "<init>", "()V"⟩
abbrev nC_Model_thrown : ByteArray := prog_11_method_2_code
def nY_Model_thrown : MethodName := ⟨nR_Model, "thrown", "()I"⟩
abbrev nC_Model_goes : ByteArray := prog_11_method_3_code
def nY_Model_goes : MethodName := ⟨nR_Model, "goes", "(ZZZ)Z"⟩
abbrev nC_Model_within : ByteArray := prog_11_method_4_code
def nY_Model_within : MethodName := ⟨nR_Model, "within", "(III)Z"⟩
abbrev nC_Model_by : ByteArray := prog_11_method_5_code
def nY_Model_by : MethodName := ⟨nR_Model, "by", "(JJ)J"⟩
abbrev nC_Model_room : ByteArray := prog_11_method_6_code
def nY_Model_room : MethodName := ⟨nR_Model, "room", "(II)V"⟩
abbrev nC_Model_wall : ByteArray := prog_11_method_7_code
def nY_Model_wall : MethodName := ⟨nR_Model, "wall", "(II)I"⟩
abbrev nC_Model_goods : ByteArray := prog_11_method_8_code
def nY_Model_goods : MethodName := ⟨nR_Model, "goods", "(I)I"⟩
abbrev nC_Model_row : ByteArray := prog_11_method_9_code
def nY_Model_row : MethodName := ⟨nR_Model, "row", "(II)I"⟩
abbrev nC_Model_isLevel : ByteArray := prog_11_method_10_code
def nY_Model_isLevel : MethodName := ⟨nR_Model, "isLevel", "(I)Z"⟩
abbrev nC_Model_machine : ByteArray := prog_11_method_11_code
def nY_Model_machine : MethodName := ⟨nR_Model, "machine", "(IIII)V"⟩
abbrev nC_Model_degreesNow : ByteArray := prog_11_method_12_code
def nY_Model_degreesNow : MethodName := ⟨nR_Model, "degreesNow", "()J"⟩
abbrev nC_Model_dampNow : ByteArray := prog_11_method_13_code
def nY_Model_dampNow : MethodName := ⟨nR_Model, "dampNow", "()J"⟩
abbrev nC_Model_layerNow : ByteArray := prog_11_method_14_code
def nY_Model_layerNow : MethodName := ⟨nR_Model, "layerNow", "(I)J"⟩
abbrev nC_Model_change : ByteArray := prog_11_method_15_code
def nY_Model_change : MethodName := ⟨nR_Model, "change", "(IJJ)V"⟩
abbrev nC_Model_air : ByteArray := prog_11_method_16_code
def nY_Model_air : MethodName := ⟨nR_Model, "air", "(II)V"⟩
abbrev nC_Model_walls : ByteArray := prog_11_method_17_code
def nY_Model_walls : MethodName := ⟨nR_Model, "walls", "(I)V"⟩
abbrev nC_Model_due : ByteArray := prog_11_method_18_code
def nY_Model_due : MethodName := ⟨nR_Model, "due", "()J"⟩
abbrev nC_Model_goodsTake : ByteArray := prog_11_method_19_code
def nY_Model_goodsTake : MethodName := ⟨nR_Model, "goodsTake", "()V"⟩
abbrev nC_Model_works : ByteArray := prog_11_method_20_code
def nY_Model_works : MethodName := ⟨nR_Model, "works", "(I)J"⟩
abbrev nC_Model_goBy : ByteArray := prog_11_method_21_code
def nY_Model_goBy : MethodName := ⟨nR_Model, "goBy", "(III)J"⟩
abbrev nC_Model_addPoints : ByteArray := prog_11_method_22_code
def nY_Model_addPoints : MethodName := ⟨nR_Model, "addPoints", "()V"⟩
abbrev nC_Model_ring : ByteArray := prog_11_method_23_code
def nY_Model_ring : MethodName := ⟨nR_Model, "ring", "()V"⟩
abbrev nC_Model_isOutside : ByteArray := prog_11_method_24_code
def nY_Model_isOutside : MethodName := ⟨nR_Model, "isOutside", "(II)Z"⟩
abbrev nC_Model_hour : ByteArray := prog_11_method_25_code
def nY_Model_hour : MethodName := ⟨nR_Model, "hour", "(III)I"⟩
abbrev nC_Model_degrees : ByteArray := prog_11_method_26_code
def nY_Model_degrees : MethodName := ⟨nR_Model, "degrees", "()I"⟩
abbrev nC_Model_damp : ByteArray := prog_11_method_27_code
def nY_Model_damp : MethodName := ⟨nR_Model, "damp", "()I"⟩
abbrev nC_Model_isLayer : ByteArray := prog_11_method_28_code
def nY_Model_isLayer : MethodName := ⟨nR_Model, "isLayer", "(I)Z"⟩
abbrev nC_Model_layer : ByteArray := prog_11_method_29_code
def nY_Model_layer : MethodName := ⟨nR_Model, "layer", "(I)I"⟩
abbrev nC_Model_held : ByteArray := prog_11_method_30_code
def nY_Model_held : MethodName := ⟨nR_Model, "held", "()I"⟩
abbrev nC_Model_on : ByteArray := prog_11_method_31_code
def nY_Model_on : MethodName := ⟨nR_Model, "on", "(I)Z"⟩
abbrev nC_Model_book : ByteArray := prog_11_method_32_code
def nY_Model_book : MethodName := ⟨nR_Model, "book", "(II)J"⟩
abbrev nC_Model_dew : ByteArray := prog_11_method_33_code
def nY_Model_dew : MethodName := ⟨nR_Model, "dew", "(I)Z"⟩
abbrev nC_Model_risk : ByteArray := prog_11_method_34_code
def nY_Model_risk : MethodName := ⟨nR_Model, "risk", "(III)I"⟩
abbrev nC_Model_points : ByteArray := prog_11_method_35_code
def nY_Model_points : MethodName := ⟨nR_Model, "points", "(I)I"⟩
abbrev nC_Model_rule : ByteArray := prog_11_method_36_code
def nY_Model_rule : MethodName := ⟨nR_Model, "rule", "(III)I"⟩
abbrev nC_Model_alarm : ByteArray := prog_11_method_37_code
def nY_Model_alarm : MethodName := ⟨nR_Model, "alarm", "(II)I"⟩
abbrev nC_Model_wasHour : ByteArray := prog_11_method_38_code
def nY_Model_wasHour : MethodName := ⟨nR_Model, "wasHour", "(I)Z"⟩
abbrev nC_Model_sensor : ByteArray := prog_11_method_39_code
def nY_Model_sensor : MethodName := ⟨nR_Model, "sensor", "(II)V"⟩
abbrev nC_Model_check : ByteArray := prog_11_method_40_code
def nY_Model_check : MethodName := ⟨nR_Model, "check", "(II)V"⟩
abbrev nC_Model_corrected : ByteArray := prog_11_method_41_code
def nY_Model_corrected : MethodName := ⟨nR_Model, "corrected", "(I)I"⟩
abbrev nC_Model_silent : ByteArray := prog_11_method_42_code
def nY_Model_silent : MethodName := ⟨nR_Model, "silent", "(I)I"⟩
abbrev nC_Model_tried : ByteArray := prog_11_method_43_code
def nY_Model_tried : MethodName := ⟨nR_Model, "tried", "(IIII)J"⟩
abbrev nC_Model_plan : ByteArray := prog_11_method_44_code
def nY_Model_plan : MethodName := ⟨nR_Model, "plan", "(III)I"⟩
abbrev nC_Model_count : ByteArray := prog_11_method_45_code
def nY_Model_count : MethodName := ⟨nR_Model, "count", "(I)I"⟩
abbrev nC_Gauge_init : ByteArray := prog_2_method_1_code
def nY_Gauge_init : MethodName := ⟨nR_Gauge, "<init>", "()V"⟩
abbrev nC_Gauge_sense : ByteArray := prog_2_method_2_code
def nY_Gauge_sense : MethodName := ⟨nR_Gauge, "sense", "(II)V"⟩
abbrev nC_Gauge_compare : ByteArray := prog_2_method_3_code
def nY_Gauge_compare : MethodName := ⟨nR_Gauge, "compare", "(II)V"⟩
abbrev nC_Gauge_drift : ByteArray := prog_2_method_4_code
def nY_Gauge_drift : MethodName := ⟨nR_Gauge, "drift", "(II)I"⟩
abbrev nC_Gauge_driftOfCheck : ByteArray := prog_2_method_5_code
def nY_Gauge_driftOfCheck : MethodName := ⟨nR_Gauge, "driftOfCheck", "(I)I"⟩
abbrev nC_Gauge_lastCheckUpTo : ByteArray := prog_2_method_6_code
def nY_Gauge_lastCheckUpTo : MethodName := ⟨nR_Gauge, "lastCheckUpTo", "(I)I"⟩
abbrev nC_Gauge_firstCheckFrom : ByteArray := prog_2_method_7_code
def nY_Gauge_firstCheckFrom : MethodName := ⟨nR_Gauge, "firstCheckFrom", "(II)I"⟩
abbrev nC_Gauge_longestGap : ByteArray := prog_2_method_8_code
def nY_Gauge_longestGap : MethodName := ⟨nR_Gauge, "longestGap", "(II)I"⟩
abbrev nC_Goods_init : ByteArray := prog_3_method_1_code
def nY_Goods_init : MethodName := ⟨nR_Goods, "<init>", "(LRoomClimate$Steps;)V"⟩
abbrev nC_Goods_soak : ByteArray := prog_3_method_2_code
def nY_Goods_soak : MethodName := ⟨nR_Goods, "soak", "(LRoomClimate$Interior;)V"⟩
abbrev nC_Goods_copyFrom : ByteArray := prog_3_method_3_code
def nY_Goods_copyFrom : MethodName := ⟨nR_Goods, "copyFrom", "(LRoomClimate$Goods;)V"⟩
abbrev nC_House_init : ByteArray := prog_4_method_1_code
def nY_House_init : MethodName := ⟨nR_House, "<init>", "(LRoomClimate$Steps;)V"⟩
abbrev nC_House_pass : ByteArray := prog_4_method_2_code
def nY_House_pass : MethodName := ⟨nR_House, "pass", "(III)V"⟩
abbrev nC_House_copyFrom : ByteArray := prog_4_method_3_code
def nY_House_copyFrom : MethodName := ⟨nR_House, "copyFrom", "(LRoomClimate$House;)V"⟩
abbrev nC_Interior_init : ByteArray := prog_5_method_1_code
def nY_Interior_init : MethodName := ⟨nR_Interior, "<init>", "()V"⟩
abbrev nC_Interior_warmth : ByteArray := prog_5_method_2_code
def nY_Interior_warmth : MethodName := ⟨nR_Interior, "warmth", "()J"⟩
abbrev nC_Interior_moisture : ByteArray := prog_5_method_3_code
def nY_Interior_moisture : MethodName := ⟨nR_Interior, "moisture", "()J"⟩
abbrev nC_Interior_gainHeat : ByteArray := prog_5_method_4_code
def nY_Interior_gainHeat : MethodName := ⟨nR_Interior, "gainHeat", "(IJ)V"⟩
abbrev nC_Interior_gainWater : ByteArray := prog_5_method_5_code
def nY_Interior_gainWater : MethodName := ⟨nR_Interior, "gainWater", "(IJ)V"⟩
abbrev nC_Interior_exchangeAir : ByteArray := prog_5_method_6_code
def nY_Interior_exchangeAir : MethodName := ⟨nR_Interior, "exchangeAir", "(II)V"⟩
abbrev nC_Interior_receive : ByteArray := prog_5_method_7_code
def nY_Interior_receive : MethodName := ⟨nR_Interior, "receive", "(I)V"⟩
abbrev nC_Interior_copyFrom : ByteArray := prog_5_method_8_code
def nY_Interior_copyFrom : MethodName := ⟨nR_Interior, "copyFrom", "(LRoomClimate$Interior;)V"⟩
abbrev nC_Machines_init : ByteArray := prog_6_method_1_code
def nY_Machines_init : MethodName := ⟨nR_Machines, "<init>", "()V"⟩
abbrev nC_Machines_install : ByteArray := prog_6_method_2_code
def nY_Machines_install : MethodName := ⟨nR_Machines, "install", "(IIII)V"⟩
abbrev nC_Machines_rateOr : ByteArray := prog_6_method_3_code
def nY_Machines_rateOr : MethodName := ⟨nR_Machines, "rateOr", "(II)I"⟩
abbrev nC_Machines_output : ByteArray := prog_6_method_4_code
def nY_Machines_output : MethodName := ⟨nR_Machines, "output", "(I)I"⟩
abbrev nC_Machines_work : ByteArray := prog_6_method_5_code
def nY_Machines_work : MethodName := ⟨nR_Machines, "work", "(LRoomClimate$Interior;)V"⟩
abbrev nC_Machines_steer : ByteArray := prog_6_method_6_code
def nY_Machines_steer : MethodName := ⟨nR_Machines, "steer", "(IJ)V"⟩
abbrev nC_Machines_copyFrom : ByteArray := prog_6_method_7_code
def nY_Machines_copyFrom : MethodName := ⟨nR_Machines, "copyFrom", "(LRoomClimate$Machines;)V"⟩
abbrev nC_Rules_init : ByteArray := prog_7_method_1_code
def nY_Rules_init : MethodName := ⟨nR_Rules, "<init>", "()V"⟩
abbrev nC_Rules_append : ByteArray := prog_7_method_2_code
def nY_Rules_append : MethodName := ⟨nR_Rules, "append", "(III)I"⟩
abbrev nC_Rules_tell : ByteArray := prog_7_method_3_code
def nY_Rules_tell : MethodName := ⟨nR_Rules, "tell", "(ILRoomClimate$Interior;)V"⟩
abbrev nC_Rules_isBroken : ByteArray := prog_7_method_4_code
def nY_Rules_isBroken : MethodName := ⟨nR_Rules, "isBroken", "(ILRoomClimate$Interior;)Z"⟩
abbrev nC_Rules_isHeld : ByteArray := prog_7_method_5_code
def nY_Rules_isHeld : MethodName := ⟨nR_Rules, "isHeld", "(II)Z"⟩
abbrev nC_Steps_init : ByteArray := prog_8_method_1_code
def nY_Steps_init : MethodName := ⟨nR_Steps, "<init>", "(I)V"⟩
abbrev nC_Steps_wouldRise : ByteArray := prog_8_method_2_code
def nY_Steps_wouldRise : MethodName := ⟨nR_Steps, "wouldRise", "(I)Z"⟩
abbrev nC_Steps_append : ByteArray := prog_8_method_3_code
def nY_Steps_append : MethodName := ⟨nR_Steps, "append", "(II)I"⟩
abbrev nC_Steps_amountUpTo : ByteArray := prog_8_method_4_code
def nY_Steps_amountUpTo : MethodName := ⟨nR_Steps, "amountUpTo", "(J)I"⟩
abbrev nC_Steps_amountFrom : ByteArray := prog_8_method_5_code
def nY_Steps_amountFrom : MethodName := ⟨nR_Steps, "amountFrom", "(J)I"⟩
abbrev nC_Walls_init : ByteArray := prog_9_method_1_code
def nY_Walls_init : MethodName := ⟨nR_Walls, "<init>", "()V"⟩
abbrev nC_Walls_append : ByteArray := prog_9_method_2_code
def nY_Walls_append : MethodName := ⟨nR_Walls, "append", "(II)I"⟩
abbrev nC_Walls_warmth : ByteArray := prog_9_method_3_code
def nY_Walls_warmth : MethodName := ⟨nR_Walls, "warmth", "(I)J"⟩
abbrev nC_Walls_conduct : ByteArray := prog_9_method_4_code
def nY_Walls_conduct : MethodName := ⟨nR_Walls, "conduct", "(LRoomClimate$Interior;I)V"⟩
abbrev nC_Walls_copyFrom : ByteArray := prog_9_method_5_code
def nY_Walls_copyFrom : MethodName := ⟨nR_Walls, "copyFrom", "(LRoomClimate$Walls;)V"⟩
abbrev nC_Law_room : ByteArray := method_3_code
def nY_Law_room : MethodName := ⟨nR_Law, "room", "(LRoomClimate;II)I"⟩
abbrev nC_Law_wall : ByteArray := method_4_code
def nY_Law_wall : MethodName := ⟨nR_Law, "wall", "(LRoomClimate;II[J)I"⟩
abbrev nC_Law_goods : ByteArray := method_5_code
def nY_Law_goods : MethodName := ⟨nR_Law, "goods", "(LRoomClimate;I[J)I"⟩
abbrev nC_Law_row : ByteArray := method_6_code
def nY_Law_row : MethodName := ⟨nR_Law, "row", "(LRoomClimate;II[J)I"⟩
abbrev nC_Law_machine : ByteArray := method_7_code
def nY_Law_machine : MethodName := ⟨nR_Law, "machine", "(LRoomClimate;IIII)I"⟩
abbrev nC_Law_hour : ByteArray := method_8_code
def nY_Law_hour : MethodName := ⟨nR_Law, "hour", "(LRoomClimate;III[J)I"⟩
abbrev nC_Law_layer : ByteArray := method_9_code
def nY_Law_layer : MethodName := ⟨nR_Law, "layer", "(LRoomClimate;I[J)I"⟩
abbrev nC_Law_on : ByteArray := method_10_code
def nY_Law_on : MethodName := ⟨nR_Law, "on", "(LRoomClimate;I[J)I"⟩
abbrev nC_Law_book : ByteArray := method_11_code
def nY_Law_book : MethodName := ⟨nR_Law, "book", "(LRoomClimate;II[J)I"⟩
abbrev nC_Law_dew : ByteArray := method_12_code
def nY_Law_dew : MethodName := ⟨nR_Law, "dew", "(LRoomClimate;I[J)I"⟩
abbrev nC_Law_risk : ByteArray := method_13_code
def nY_Law_risk : MethodName := ⟨nR_Law, "risk", "(LRoomClimate;III[J)I"⟩
abbrev nC_Law_points : ByteArray := method_14_code
def nY_Law_points : MethodName := ⟨nR_Law, "points", "(LRoomClimate;I[J)I"⟩
abbrev nC_Law_rule : ByteArray := method_15_code
def nY_Law_rule : MethodName := ⟨nR_Law, "rule", "(LRoomClimate;III[J)I"⟩
abbrev nC_Law_alarm : ByteArray := method_16_code
def nY_Law_alarm : MethodName := ⟨nR_Law, "alarm", "(LRoomClimate;II[J)I"⟩
abbrev nC_Law_sensor : ByteArray := method_17_code
def nY_Law_sensor : MethodName := ⟨nR_Law, "sensor", "(LRoomClimate;II)I"⟩
abbrev nC_Law_check : ByteArray := method_18_code
def nY_Law_check : MethodName := ⟨nR_Law, "check", "(LRoomClimate;II)I"⟩
abbrev nC_Law_corrected : ByteArray := method_19_code
def nY_Law_corrected : MethodName := ⟨nR_Law, "corrected", "(LRoomClimate;I[J)I"⟩
abbrev nC_Law_silent : ByteArray := method_20_code
def nY_Law_silent : MethodName := ⟨nR_Law, "silent", "(LRoomClimate;I[J)I"⟩
abbrev nC_Law_plan : ByteArray := method_21_code
def nY_Law_plan : MethodName := ⟨nR_Law, "plan", "(LRoomClimate;III[J)I"⟩
abbrev nC_Law_count : ByteArray := method_22_code
def nY_Law_count : MethodName := ⟨nR_Law, "count", "(LRoomClimate;I[J)I"⟩
abbrev nC_Law_law : ByteArray := code
def nY_Law_law : MethodName := ⟨nR_Law, "law", "([I)Z"⟩
abbrev nC_Math_floorDiv : ByteArray := prog_16_method_49_code
def nY_Math_floorDiv : MethodName := ⟨nR_Math, "floorDiv", "(JJ)J"⟩
abbrev vwCl : List vw_C := [(nR_Gauge, nT_Gauge, 5), (nR_Goods, nT_Goods, 3), (nR_House, nT_House, 4), (nR_Interior, nT_Interior, 6), (nR_Machines, nT_Machines, 5), (nR_Rules, nT_Rules, 6), (nR_Steps, nT_Steps, 3), (nR_Walls, nT_Walls, 4), (nR_Room, nT_Room, 7), (nR_Model, nT_Model, 32)]
/-- the words that every contract here stands over: all words of the tables that a warmer machine keeps -/
def k_ok (w : Cond) : Bool := goodWord w || (match w with
  | .fieldLinkNest .. => true
  | .methodLinkNest .. => true
  | _ => false)
def TT : List Cond := lw_tbl.filter k_ok
theorem k_warm {args : Array Value} {s : State} (hts : ∀ w ∈ TT, w.before args s = true) : ∀ w ∈ TT, ∀ (a' : Array Value) (U : State), s.WarmedH U.vm → w.before a' U = true := by
  intro w hw a' U hW
  have hk := (List.mem_filter.mp hw).2
  have hb := hts w hw
  by_cases hg : goodWord w = true
  · exact pay_in (big := [w]) (ws := [w]) (fun z hz => by rw [List.mem_singleton.mp hz]; exact hb) (fun z hz => by rw [List.mem_singleton.mp hz]; exact ⟨List.mem_singleton_self w, good_of_word hg⟩) w (List.mem_singleton_self w) a' U hW
  · rw [Bool.not_eq_true] at hg
    unfold k_ok at hk
    rw [hg, Bool.false_or] at hk
    cases w <;> first
      | exact va_Nw.use rfl (va_Nw.warmF hW (va_Nw.of rfl hb))
      | exact va_Nw.use rfl (va_Nw.warmM hW (va_Nw.of rfl hb))
      | exact Bool.noConfusion hk
theorem tt_p {i : Nat} {w : Cond} (h : (k2_sels lw_privs)[i]? = some w) (hg : k_ok w = true) : w ∈ TT := List.mem_filter.mpr ⟨List.mem_append_left _ (List.mem_of_getElem? h), hg⟩
theorem tt_t {i : Nat} {w : Cond} (h : tables_1[i]? = some w) (hg : k_ok w = true) : w ∈ TT := List.mem_filter.mpr ⟨List.mem_append_right _ (List.mem_of_getElem? h), hg⟩
end
section
theorem tt_1 : Cond.initialized nR_Room ∈ TT := tt_t (i := 1) (by decide +kernel) (by decide +kernel)
theorem tt_2 : Cond.initialized nR_Steps ∈ TT := tt_t (i := 2) (by decide +kernel) (by decide +kernel)
theorem tt_4 : Cond.initialized nR_Interior ∈ TT := tt_t (i := 4) (by decide +kernel) (by decide +kernel)
theorem tt_17 : Cond.initialized nR_Math ∈ TT := tt_t (i := 17) (by decide +kernel) (by decide +kernel)
theorem tt_32 : Cond.fieldLink nR_Steps 7 "RoomClimate$Steps" "levels" "[I" ∈ TT := tt_t (i := 32) (by decide +kernel) (by decide +kernel)
theorem tt_33 : Cond.fieldLink nR_Steps 13 "RoomClimate$Steps" "amounts" "[I" ∈ TT := tt_t (i := 33) (by decide +kernel) (by decide +kernel)
theorem tt_34 : Cond.fieldLink nR_Steps 16 "RoomClimate$Steps" "size" "I" ∈ TT := tt_t (i := 34) (by decide +kernel) (by decide +kernel)
theorem tt_36 : Cond.laysFinal nR_Steps "RoomClimate$Steps" "levels" "[I" ∈ TT := tt_t (i := 36) (by decide +kernel) (by decide +kernel)
theorem tt_38 : Cond.laysFinal nR_Steps "RoomClimate$Steps" "amounts" "[I" ∈ TT := tt_t (i := 38) (by decide +kernel) (by decide +kernel)
theorem tt_40 : Cond.lays nR_Steps "RoomClimate$Steps" "size" "I" ∈ TT := tt_t (i := 40) (by decide +kernel) (by decide +kernel)
theorem tt_58 : Cond.fieldLink nR_Interior 9 "RoomClimate$Interior" "heatBooks" "[J" ∈ TT := tt_t (i := 58) (by decide +kernel) (by decide +kernel)
theorem tt_60 : Cond.fieldLink nR_Interior 15 "RoomClimate$Interior" "waterBooks" "[J" ∈ TT := tt_t (i := 60) (by decide +kernel) (by decide +kernel)
theorem tt_62 : Cond.fieldLink nR_Interior 18 "RoomClimate$Interior" "volume" "I" ∈ TT := tt_t (i := 62) (by decide +kernel) (by decide +kernel)
theorem tt_64 : Cond.fieldLink nR_Interior 22 "RoomClimate$Interior" "share" "I" ∈ TT := tt_t (i := 64) (by decide +kernel) (by decide +kernel)
theorem tt_66 : Cond.fieldLink nR_Interior 27 "RoomClimate$Interior" "heat" "J" ∈ TT := tt_t (i := 66) (by decide +kernel) (by decide +kernel)
theorem tt_68 : Cond.fieldLink nR_Interior 33 "RoomClimate$Interior" "water" "J" ∈ TT := tt_t (i := 68) (by decide +kernel) (by decide +kernel)
theorem tt_72 : Cond.laysFinal nR_Interior "RoomClimate$Interior" "heatBooks" "[J" ∈ TT := tt_t (i := 72) (by decide +kernel) (by decide +kernel)
theorem tt_74 : Cond.laysFinal nR_Interior "RoomClimate$Interior" "waterBooks" "[J" ∈ TT := tt_t (i := 74) (by decide +kernel) (by decide +kernel)
theorem tt_76 : Cond.lays nR_Interior "RoomClimate$Interior" "volume" "I" ∈ TT := tt_t (i := 76) (by decide +kernel) (by decide +kernel)
theorem tt_78 : Cond.lays nR_Interior "RoomClimate$Interior" "share" "I" ∈ TT := tt_t (i := 78) (by decide +kernel) (by decide +kernel)
theorem tt_80 : Cond.lays nR_Interior "RoomClimate$Interior" "heat" "J" ∈ TT := tt_t (i := 80) (by decide +kernel) (by decide +kernel)
theorem tt_82 : Cond.lays nR_Interior "RoomClimate$Interior" "water" "J" ∈ TT := tt_t (i := 82) (by decide +kernel) (by decide +kernel)
theorem tt_97 : Cond.laysFinal nR_Walls "RoomClimate$Walls" "conductances" "[I" ∈ TT := tt_t (i := 97) (by decide +kernel) (by decide +kernel)
theorem tt_99 : Cond.laysFinal nR_Walls "RoomClimate$Walls" "capacities" "[I" ∈ TT := tt_t (i := 99) (by decide +kernel) (by decide +kernel)
theorem tt_101 : Cond.laysFinal nR_Walls "RoomClimate$Walls" "heats" "[J" ∈ TT := tt_t (i := 101) (by decide +kernel) (by decide +kernel)
theorem tt_103 : Cond.lays nR_Walls "RoomClimate$Walls" "layers" "I" ∈ TT := tt_t (i := 103) (by decide +kernel) (by decide +kernel)
theorem tt_118 : Cond.laysFinal nR_Machines "RoomClimate$Machines" "lows" "[I" ∈ TT := tt_t (i := 118) (by decide +kernel) (by decide +kernel)
theorem tt_120 : Cond.laysFinal nR_Machines "RoomClimate$Machines" "highs" "[I" ∈ TT := tt_t (i := 120) (by decide +kernel) (by decide +kernel)
theorem tt_122 : Cond.laysFinal nR_Machines "RoomClimate$Machines" "rates" "[I" ∈ TT := tt_t (i := 122) (by decide +kernel) (by decide +kernel)
theorem tt_124 : Cond.laysFinal nR_Machines "RoomClimate$Machines" "told" "[Z" ∈ TT := tt_t (i := 124) (by decide +kernel) (by decide +kernel)
theorem tt_126 : Cond.laysFinal nR_Machines "RoomClimate$Machines" "running" "[Z" ∈ TT := tt_t (i := 126) (by decide +kernel) (by decide +kernel)
theorem tt_142 : Cond.laysFinal nR_Goods "RoomClimate$Goods" "rows" "LRoomClimate$Steps;" ∈ TT := tt_t (i := 142) (by decide +kernel) (by decide +kernel)
theorem tt_144 : Cond.lays nR_Goods "RoomClimate$Goods" "kilograms" "I" ∈ TT := tt_t (i := 144) (by decide +kernel) (by decide +kernel)
theorem tt_146 : Cond.lays nR_Goods "RoomClimate$Goods" "load" "J" ∈ TT := tt_t (i := 146) (by decide +kernel) (by decide +kernel)
theorem tt_157 : Cond.laysFinal nR_House "RoomClimate$House" "inside" "LRoomClimate$Interior;" ∈ TT := tt_t (i := 157) (by decide +kernel) (by decide +kernel)
theorem tt_159 : Cond.laysFinal nR_House "RoomClimate$House" "walls" "LRoomClimate$Walls;" ∈ TT := tt_t (i := 159) (by decide +kernel) (by decide +kernel)
theorem tt_161 : Cond.laysFinal nR_House "RoomClimate$House" "goods" "LRoomClimate$Goods;" ∈ TT := tt_t (i := 161) (by decide +kernel) (by decide +kernel)
theorem tt_163 : Cond.laysFinal nR_House "RoomClimate$House" "machines" "LRoomClimate$Machines;" ∈ TT := tt_t (i := 163) (by decide +kernel) (by decide +kernel)
theorem tt_184 : Cond.laysFinal nR_Rules "RoomClimate$Rules" "kinds" "[I" ∈ TT := tt_t (i := 184) (by decide +kernel) (by decide +kernel)
theorem tt_186 : Cond.laysFinal nR_Rules "RoomClimate$Rules" "levels" "[I" ∈ TT := tt_t (i := 186) (by decide +kernel) (by decide +kernel)
theorem tt_188 : Cond.laysFinal nR_Rules "RoomClimate$Rules" "holds" "[I" ∈ TT := tt_t (i := 188) (by decide +kernel) (by decide +kernel)
theorem tt_190 : Cond.laysFinal nR_Rules "RoomClimate$Rules" "alarmCounts" "[I" ∈ TT := tt_t (i := 190) (by decide +kernel) (by decide +kernel)
theorem tt_192 : Cond.laysFinal nR_Rules "RoomClimate$Rules" "alarmHours" "[[I" ∈ TT := tt_t (i := 192) (by decide +kernel) (by decide +kernel)
theorem tt_194 : Cond.lays nR_Rules "RoomClimate$Rules" "size" "I" ∈ TT := tt_t (i := 194) (by decide +kernel) (by decide +kernel)
theorem tt_211 : Cond.laysFinal nR_Gauge "RoomClimate$Gauge" "values" "[I" ∈ TT := tt_t (i := 211) (by decide +kernel) (by decide +kernel)
theorem tt_213 : Cond.laysFinal nR_Gauge "RoomClimate$Gauge" "sensed" "[Z" ∈ TT := tt_t (i := 213) (by decide +kernel) (by decide +kernel)
theorem tt_215 : Cond.laysFinal nR_Gauge "RoomClimate$Gauge" "rights" "[I" ∈ TT := tt_t (i := 215) (by decide +kernel) (by decide +kernel)
theorem tt_217 : Cond.laysFinal nR_Gauge "RoomClimate$Gauge" "checked" "[Z" ∈ TT := tt_t (i := 217) (by decide +kernel) (by decide +kernel)
theorem tt_219 : Cond.lays nR_Gauge "RoomClimate$Gauge" "checks" "I" ∈ TT := tt_t (i := 219) (by decide +kernel) (by decide +kernel)
theorem tt_229 : Cond.laysFinal nR_Room "RoomClimate" "house" "LRoomClimate$House;" ∈ TT := tt_t (i := 229) (by decide +kernel) (by decide +kernel)
theorem tt_231 : Cond.laysFinal nR_Room "RoomClimate" "trial" "LRoomClimate$House;" ∈ TT := tt_t (i := 231) (by decide +kernel) (by decide +kernel)
theorem tt_233 : Cond.laysFinal nR_Room "RoomClimate" "risks" "[LRoomClimate$Steps;" ∈ TT := tt_t (i := 233) (by decide +kernel) (by decide +kernel)
theorem tt_235 : Cond.laysFinal nR_Room "RoomClimate" "riskPoints" "[I" ∈ TT := tt_t (i := 235) (by decide +kernel) (by decide +kernel)
theorem tt_237 : Cond.laysFinal nR_Room "RoomClimate" "rules" "LRoomClimate$Rules;" ∈ TT := tt_t (i := 237) (by decide +kernel) (by decide +kernel)
theorem tt_239 : Cond.laysFinal nR_Room "RoomClimate" "gauge" "LRoomClimate$Gauge;" ∈ TT := tt_t (i := 239) (by decide +kernel) (by decide +kernel)
theorem tt_241 : Cond.lays nR_Room "RoomClimate" "hoursGone" "I" ∈ TT := tt_t (i := 241) (by decide +kernel) (by decide +kernel)
theorem tt_249 : Cond.instanceMethod nY_Interior_warmth ∈ TT := tt_t (i := 249) (by decide +kernel) (by decide +kernel)
theorem tt_250 : Cond.selects nR_Interior nY_Interior_warmth nY_Interior_warmth ∈ TT := tt_t (i := 250) (by decide +kernel) (by decide +kernel)
theorem tt_251 : Cond.code nY_Interior_warmth nC_Interior_warmth 1 (some .long) ∈ TT := tt_t (i := 251) (rfl) (by decide +kernel)
theorem tt_252 : Cond.methodLinkNest nR_Interior 36 nY_Room_by "RoomClimate" ∈ TT := tt_t (i := 252) (by decide +kernel) (by decide +kernel)
theorem tt_253 : Cond.static nY_Room_by ∈ TT := tt_t (i := 253) (by decide +kernel) (by decide +kernel)
theorem tt_254 : Cond.code nY_Room_by nC_Room_by 4 (some .long) ∈ TT := tt_t (i := 254) (rfl) (by decide +kernel)
theorem tt_255 : Cond.methodLink nR_Room 261 nY_Math_floorDiv ∈ TT := tt_t (i := 255) (by decide +kernel) (by decide +kernel)
theorem tt_256 : Cond.static nY_Math_floorDiv ∈ TT := tt_t (i := 256) (by decide +kernel) (by decide +kernel)
theorem tt_257 : Cond.code nY_Math_floorDiv nC_Math_floorDiv 6 (some .long) ∈ TT := tt_t (i := 257) (rfl) (by decide +kernel)
theorem tt_263 : Cond.instanceMethod nY_Interior_moisture ∈ TT := tt_t (i := 263) (by decide +kernel) (by decide +kernel)
theorem tt_264 : Cond.selects nR_Interior nY_Interior_moisture nY_Interior_moisture ∈ TT := tt_t (i := 264) (by decide +kernel) (by decide +kernel)
theorem tt_265 : Cond.code nY_Interior_moisture nC_Interior_moisture 1 (some .long) ∈ TT := tt_t (i := 265) (rfl) (by decide +kernel)
theorem tt_453 : Cond.instanceMethod nY_Interior_exchangeAir ∈ TT := tt_t (i := 453) (by decide +kernel) (by decide +kernel)
theorem tt_454 : Cond.selects nR_Interior nY_Interior_exchangeAir nY_Interior_exchangeAir ∈ TT := tt_t (i := 454) (by decide +kernel) (by decide +kernel)
theorem tt_455 : Cond.code nY_Interior_exchangeAir nC_Interior_exchangeAir 3 none ∈ TT := tt_t (i := 455) (rfl) (by decide +kernel)
theorem tt_456 : Cond.methodLink nR_Interior 40 nY_Interior_warmth ∈ TT := tt_t (i := 456) (by decide +kernel) (by decide +kernel)
theorem tt_457 : Cond.constantLong nR_Interior 44 (1000 : Int64) ∈ TT := tt_t (i := 457) (by decide +kernel) (by decide +kernel)
theorem tt_458 : Cond.methodLink nR_Interior 46 nY_Interior_gainHeat ∈ TT := tt_t (i := 458) (by decide +kernel) (by decide +kernel)
theorem tt_459 : Cond.instanceMethod nY_Interior_gainHeat ∈ TT := tt_t (i := 459) (by decide +kernel) (by decide +kernel)
theorem tt_460 : Cond.selects nR_Interior nY_Interior_gainHeat nY_Interior_gainHeat ∈ TT := tt_t (i := 460) (by decide +kernel) (by decide +kernel)
theorem tt_461 : Cond.code nY_Interior_gainHeat nC_Interior_gainHeat 4 none ∈ TT := tt_t (i := 461) (rfl) (by decide +kernel)
theorem tt_462 : Cond.methodLink nR_Interior 50 nY_Interior_moisture ∈ TT := tt_t (i := 462) (by decide +kernel) (by decide +kernel)
theorem tt_463 : Cond.methodLink nR_Interior 53 nY_Interior_gainWater ∈ TT := tt_t (i := 463) (by decide +kernel) (by decide +kernel)
theorem tt_464 : Cond.instanceMethod nY_Interior_gainWater ∈ TT := tt_t (i := 464) (by decide +kernel) (by decide +kernel)
theorem tt_465 : Cond.selects nR_Interior nY_Interior_gainWater nY_Interior_gainWater ∈ TT := tt_t (i := 465) (by decide +kernel) (by decide +kernel)
theorem tt_466 : Cond.code nY_Interior_gainWater nC_Interior_gainWater 4 none ∈ TT := tt_t (i := 466) (rfl) (by decide +kernel)
theorem tt_485 : Cond.instanceMethod nY_Steps_amountUpTo ∈ TT := tt_t (i := 485) (by decide +kernel) (by decide +kernel)
theorem tt_486 : Cond.selects nR_Steps nY_Steps_amountUpTo nY_Steps_amountUpTo ∈ TT := tt_t (i := 486) (by decide +kernel) (by decide +kernel)
theorem tt_487 : Cond.code nY_Steps_amountUpTo nC_Steps_amountUpTo 4 (some .int) ∈ TT := tt_t (i := 487) (rfl) (by decide +kernel)
theorem tt_755 : Cond.lays nR_Model "RoomClimateModel" "thrown" "I" ∈ TT := tt_t (i := 755) (by decide +kernel) (by decide +kernel)
theorem tt_757 : Cond.lays nR_Model "RoomClimateModel" "volume" "I" ∈ TT := tt_t (i := 757) (by decide +kernel) (by decide +kernel)
theorem tt_759 : Cond.lays nR_Model "RoomClimateModel" "share" "I" ∈ TT := tt_t (i := 759) (by decide +kernel) (by decide +kernel)
theorem tt_761 : Cond.laysFinal nR_Model "RoomClimateModel" "now" "[J" ∈ TT := tt_t (i := 761) (by decide +kernel) (by decide +kernel)
theorem tt_763 : Cond.laysFinal nR_Model "RoomClimateModel" "kept" "[J" ∈ TT := tt_t (i := 763) (by decide +kernel) (by decide +kernel)
theorem tt_765 : Cond.laysFinal nR_Model "RoomClimateModel" "books" "[J" ∈ TT := tt_t (i := 765) (by decide +kernel) (by decide +kernel)
theorem tt_767 : Cond.laysFinal nR_Model "RoomClimateModel" "keptBooks" "[J" ∈ TT := tt_t (i := 767) (by decide +kernel) (by decide +kernel)
theorem tt_769 : Cond.lays nR_Model "RoomClimateModel" "layers" "I" ∈ TT := tt_t (i := 769) (by decide +kernel) (by decide +kernel)
theorem tt_771 : Cond.laysFinal nR_Model "RoomClimateModel" "conductances" "[I" ∈ TT := tt_t (i := 771) (by decide +kernel) (by decide +kernel)
theorem tt_773 : Cond.laysFinal nR_Model "RoomClimateModel" "capacities" "[I" ∈ TT := tt_t (i := 773) (by decide +kernel) (by decide +kernel)
theorem tt_775 : Cond.lays nR_Model "RoomClimateModel" "kilograms" "I" ∈ TT := tt_t (i := 775) (by decide +kernel) (by decide +kernel)
theorem tt_777 : Cond.lays nR_Model "RoomClimateModel" "rows" "I" ∈ TT := tt_t (i := 777) (by decide +kernel) (by decide +kernel)
theorem tt_779 : Cond.laysFinal nR_Model "RoomClimateModel" "rowDamps" "[I" ∈ TT := tt_t (i := 779) (by decide +kernel) (by decide +kernel)
theorem tt_781 : Cond.laysFinal nR_Model "RoomClimateModel" "rowWaters" "[I" ∈ TT := tt_t (i := 781) (by decide +kernel) (by decide +kernel)
theorem tt_783 : Cond.laysFinal nR_Model "RoomClimateModel" "told" "[Z" ∈ TT := tt_t (i := 783) (by decide +kernel) (by decide +kernel)
theorem tt_785 : Cond.laysFinal nR_Model "RoomClimateModel" "lows" "[I" ∈ TT := tt_t (i := 785) (by decide +kernel) (by decide +kernel)
theorem tt_787 : Cond.laysFinal nR_Model "RoomClimateModel" "highs" "[I" ∈ TT := tt_t (i := 787) (by decide +kernel) (by decide +kernel)
theorem tt_789 : Cond.laysFinal nR_Model "RoomClimateModel" "rates" "[I" ∈ TT := tt_t (i := 789) (by decide +kernel) (by decide +kernel)
theorem tt_791 : Cond.lays nR_Model "RoomClimateModel" "hours" "I" ∈ TT := tt_t (i := 791) (by decide +kernel) (by decide +kernel)
theorem tt_793 : Cond.laysFinal nR_Model "RoomClimateModel" "riskRows" "[I" ∈ TT := tt_t (i := 793) (by decide +kernel) (by decide +kernel)
theorem tt_795 : Cond.laysFinal nR_Model "RoomClimateModel" "levels" "[I" ∈ TT := tt_t (i := 795) (by decide +kernel) (by decide +kernel)
theorem tt_797 : Cond.laysFinal nR_Model "RoomClimateModel" "pointsOf" "[I" ∈ TT := tt_t (i := 797) (by decide +kernel) (by decide +kernel)
theorem tt_799 : Cond.laysFinal nR_Model "RoomClimateModel" "sums" "[I" ∈ TT := tt_t (i := 799) (by decide +kernel) (by decide +kernel)
theorem tt_801 : Cond.lays nR_Model "RoomClimateModel" "rules" "I" ∈ TT := tt_t (i := 801) (by decide +kernel) (by decide +kernel)
theorem tt_803 : Cond.laysFinal nR_Model "RoomClimateModel" "ruleKinds" "[I" ∈ TT := tt_t (i := 803) (by decide +kernel) (by decide +kernel)
theorem tt_805 : Cond.laysFinal nR_Model "RoomClimateModel" "ruleLevels" "[I" ∈ TT := tt_t (i := 805) (by decide +kernel) (by decide +kernel)
theorem tt_807 : Cond.laysFinal nR_Model "RoomClimateModel" "holds" "[I" ∈ TT := tt_t (i := 807) (by decide +kernel) (by decide +kernel)
theorem tt_809 : Cond.laysFinal nR_Model "RoomClimateModel" "alarms" "[I" ∈ TT := tt_t (i := 809) (by decide +kernel) (by decide +kernel)
theorem tt_811 : Cond.laysFinal nR_Model "RoomClimateModel" "alarmHours" "[I" ∈ TT := tt_t (i := 811) (by decide +kernel) (by decide +kernel)
theorem tt_813 : Cond.laysFinal nR_Model "RoomClimateModel" "values" "[I" ∈ TT := tt_t (i := 813) (by decide +kernel) (by decide +kernel)
theorem tt_815 : Cond.laysFinal nR_Model "RoomClimateModel" "checked" "[Z" ∈ TT := tt_t (i := 815) (by decide +kernel) (by decide +kernel)
theorem tt_817 : Cond.laysFinal nR_Model "RoomClimateModel" "rights" "[I" ∈ TT := tt_t (i := 817) (by decide +kernel) (by decide +kernel)
theorem ni_Gauge : ∀ w ∈ u_ws nR_Gauge nT_Gauge 5, w ∈ TT := by
  intro w h
  obtain ⟨k, hk, rfl⟩ := List.mem_map.mp h
  have hk := List.mem_range.mp hk
  match k, hk with
  | 0, _ => exact tt_211
  | 1, _ => exact tt_213
  | 2, _ => exact tt_215
  | 3, _ => exact tt_217
  | 4, _ => exact tt_219
  | k + 5, h => exact absurd h (by omega)
theorem ni_Goods : ∀ w ∈ u_ws nR_Goods nT_Goods 3, w ∈ TT := by
  intro w h
  obtain ⟨k, hk, rfl⟩ := List.mem_map.mp h
  have hk := List.mem_range.mp hk
  match k, hk with
  | 0, _ => exact tt_142
  | 1, _ => exact tt_144
  | 2, _ => exact tt_146
  | k + 3, h => exact absurd h (by omega)
theorem ni_House : ∀ w ∈ u_ws nR_House nT_House 4, w ∈ TT := by
  intro w h
  obtain ⟨k, hk, rfl⟩ := List.mem_map.mp h
  have hk := List.mem_range.mp hk
  match k, hk with
  | 0, _ => exact tt_157
  | 1, _ => exact tt_159
  | 2, _ => exact tt_161
  | 3, _ => exact tt_163
  | k + 4, h => exact absurd h (by omega)
theorem ni_Interior : ∀ w ∈ u_ws nR_Interior nT_Interior 6, w ∈ TT := by
  intro w h
  obtain ⟨k, hk, rfl⟩ := List.mem_map.mp h
  have hk := List.mem_range.mp hk
  match k, hk with
  | 0, _ => exact tt_72
  | 1, _ => exact tt_74
  | 2, _ => exact tt_76
  | 3, _ => exact tt_78
  | 4, _ => exact tt_80
  | 5, _ => exact tt_82
  | k + 6, h => exact absurd h (by omega)
theorem ni_Machines : ∀ w ∈ u_ws nR_Machines nT_Machines 5, w ∈ TT := by
  intro w h
  obtain ⟨k, hk, rfl⟩ := List.mem_map.mp h
  have hk := List.mem_range.mp hk
  match k, hk with
  | 0, _ => exact tt_118
  | 1, _ => exact tt_120
  | 2, _ => exact tt_122
  | 3, _ => exact tt_124
  | 4, _ => exact tt_126
  | k + 5, h => exact absurd h (by omega)
theorem ni_Rules : ∀ w ∈ u_ws nR_Rules nT_Rules 6, w ∈ TT := by
  intro w h
  obtain ⟨k, hk, rfl⟩ := List.mem_map.mp h
  have hk := List.mem_range.mp hk
  match k, hk with
  | 0, _ => exact tt_184
  | 1, _ => exact tt_186
  | 2, _ => exact tt_188
  | 3, _ => exact tt_190
  | 4, _ => exact tt_192
  | 5, _ => exact tt_194
  | k + 6, h => exact absurd h (by omega)
theorem ni_Steps : ∀ w ∈ u_ws nR_Steps nT_Steps 3, w ∈ TT := by
  intro w h
  obtain ⟨k, hk, rfl⟩ := List.mem_map.mp h
  have hk := List.mem_range.mp hk
  match k, hk with
  | 0, _ => exact tt_36
  | 1, _ => exact tt_38
  | 2, _ => exact tt_40
  | k + 3, h => exact absurd h (by omega)
theorem ni_Walls : ∀ w ∈ u_ws nR_Walls nT_Walls 4, w ∈ TT := by
  intro w h
  obtain ⟨k, hk, rfl⟩ := List.mem_map.mp h
  have hk := List.mem_range.mp hk
  match k, hk with
  | 0, _ => exact tt_97
  | 1, _ => exact tt_99
  | 2, _ => exact tt_101
  | 3, _ => exact tt_103
  | k + 4, h => exact absurd h (by omega)
theorem ni_Room : ∀ w ∈ u_ws nR_Room nT_Room 7, w ∈ TT := by
  intro w h
  obtain ⟨k, hk, rfl⟩ := List.mem_map.mp h
  have hk := List.mem_range.mp hk
  match k, hk with
  | 0, _ => exact tt_229
  | 1, _ => exact tt_231
  | 2, _ => exact tt_233
  | 3, _ => exact tt_235
  | 4, _ => exact tt_237
  | 5, _ => exact tt_239
  | 6, _ => exact tt_241
  | k + 7, h => exact absurd h (by omega)
theorem ni_Model : ∀ w ∈ u_ws nR_Model nT_Model 32, w ∈ TT := by
  intro w h
  obtain ⟨k, hk, rfl⟩ := List.mem_map.mp h
  have hk := List.mem_range.mp hk
  match k, hk with
  | 0, _ => exact tt_755
  | 1, _ => exact tt_757
  | 2, _ => exact tt_759
  | 3, _ => exact tt_761
  | 4, _ => exact tt_763
  | 5, _ => exact tt_765
  | 6, _ => exact tt_767
  | 7, _ => exact tt_769
  | 8, _ => exact tt_771
  | 9, _ => exact tt_773
  | 10, _ => exact tt_775
  | 11, _ => exact tt_777
  | 12, _ => exact tt_779
  | 13, _ => exact tt_781
  | 14, _ => exact tt_783
  | 15, _ => exact tt_785
  | 16, _ => exact tt_787
  | 17, _ => exact tt_789
  | 18, _ => exact tt_791
  | 19, _ => exact tt_793
  | 20, _ => exact tt_795
  | 21, _ => exact tt_797
  | 22, _ => exact tt_799
  | 23, _ => exact tt_801
  | 24, _ => exact tt_803
  | 25, _ => exact tt_805
  | 26, _ => exact tt_807
  | 27, _ => exact tt_809
  | 28, _ => exact tt_811
  | 29, _ => exact tt_813
  | 30, _ => exact tt_815
  | 31, _ => exact tt_817
  | k + 32, h => exact absurd h (by omega)
end
section
abbrev tyG (ca : Nat → ClassId) : List (ClassId × FieldType) := [(ca 0, .int), (ca 1, .long), (ca 2, .boolean), (ca 3, .object "RoomClimate$Steps"), (ca 4, .array .int)]
abbrev oc_Gauge (q : Nat) (f0 : Nat) (f1 : Nat) (f2 : Nat) (f3 : Nat) (f4 : Int32) : Nat × va_E := (q, .inr (0, [.ref f0, .ref f1, .ref f2, .ref f3, .int f4]))
abbrev oc_Goods (q : Nat) (f0 : Nat) (f1 : Int32) (f2 : Int64) : Nat × va_E := (q, .inr (1, [.ref f0, .int f1, .long f2]))
abbrev oc_House (q : Nat) (f0 : Nat) (f1 : Nat) (f2 : Nat) (f3 : Nat) : Nat × va_E := (q, .inr (2, [.ref f0, .ref f1, .ref f2, .ref f3]))
abbrev oc_Interior (q : Nat) (f0 : Nat) (f1 : Nat) (f2 : Int32) (f3 : Int32) (f4 : Int64) (f5 : Int64) : Nat × va_E := (q, .inr (3, [.ref f0, .ref f1, .int f2, .int f3, .long f4, .long f5]))
abbrev oc_Machines (q : Nat) (f0 : Nat) (f1 : Nat) (f2 : Nat) (f3 : Nat) (f4 : Nat) : Nat × va_E := (q, .inr (4, [.ref f0, .ref f1, .ref f2, .ref f3, .ref f4]))
abbrev oc_Rules (q : Nat) (f0 : Nat) (f1 : Nat) (f2 : Nat) (f3 : Nat) (f4 : Nat) (f5 : Int32) : Nat × va_E := (q, .inr (5, [.ref f0, .ref f1, .ref f2, .ref f3, .ref f4, .int f5]))
abbrev oc_Steps (q : Nat) (f0 : Nat) (f1 : Nat) (f2 : Int32) : Nat × va_E := (q, .inr (6, [.ref f0, .ref f1, .int f2]))
abbrev oc_Walls (q : Nat) (f0 : Nat) (f1 : Nat) (f2 : Nat) (f3 : Int32) : Nat × va_E := (q, .inr (7, [.ref f0, .ref f1, .ref f2, .int f3]))
abbrev oc_Room (q : Nat) (f0 : Nat) (f1 : Nat) (f2 : Nat) (f3 : Nat) (f4 : Nat) (f5 : Nat) (f6 : Int32) : Nat × va_E := (q, .inr (8, [.ref f0, .ref f1, .ref f2, .ref f3, .ref f4, .ref f5, .int f6]))
abbrev oc_Model (q : Nat) (f0 : Int32) (f1 : Int32) (f2 : Int32) (f3 : Nat) (f4 : Nat) (f5 : Nat) (f6 : Nat) (f7 : Int32) (f8 : Nat) (f9 : Nat) (f10 : Int32) (f11 : Int32) (f12 : Nat) (f13 : Nat) (f14 : Nat) (f15 : Nat) (f16 : Nat) (f17 : Nat) (f18 : Int32) (f19 : Nat) (f20 : Nat) (f21 : Nat) (f22 : Nat) (f23 : Int32) (f24 : Nat) (f25 : Nat) (f26 : Nat) (f27 : Nat) (f28 : Nat) (f29 : Nat) (f30 : Nat) (f31 : Nat) : Nat × va_E := (q, .inr (9, [.int f0, .int f1, .int f2, .ref f3, .ref f4, .ref f5, .ref f6, .int f7, .ref f8, .ref f9, .int f10, .int f11, .ref f12, .ref f13, .ref f14, .ref f15, .ref f16, .ref f17, .int f18, .ref f19, .ref f20, .ref f21, .ref f22, .int f23, .ref f24, .ref f25, .ref f26, .ref f27, .ref f28, .ref f29, .ref f30, .ref f31]))
abbrev aI (q : Nat) (ca : Nat → ClassId) (n : Nat) (f : Nat → Int32) : Nat × va_E := (q, .inl (ca 0, n, .inl f))
abbrev aJ (q : Nat) (ca : Nat → ClassId) (n : Nat) (f : Nat → Int64) : Nat × va_E := (q, .inl (ca 1, n, .inr (.inl f)))
abbrev aZ (q : Nat) (ca : Nat → ClassId) (n : Nat) (f : Nat → Int32) : Nat × va_E := (q, .inl (ca 2, n, .inl f))
abbrev aS (q : Nat) (ca : Nat → ClassId) (f : Nat → Option Nat) : Nat × va_E := (q, .inl (ca 3, 4, .inr (.inr (.inr (.inr f)))))
abbrev aG (q : Nat) (ca : Nat → ClassId) (f : Nat → Option Nat) : Nat × va_E := (q, .inl (ca 4, 4, .inr (.inr (.inr (.inr f)))))
def rq4 (a b c d : Nat) : Nat → Option Nat := fun j => match j with
  | 0 => some a
  | 1 => some b
  | 2 => some c
  | 3 => some d
  | _ => none
/-! Own kit: option combinators, and the start / call rows in a short form. -/
def gx_ix (i : Int32) (n : Nat) : Bool := decide (¬ (i < 0 ∨ n ≤ i.toNatClampNeg))
theorem q_ix {α : Type} {i : Int32} {n : Nat} {a : Option α} {R : α} (h : (if gx_ix i n then a else none) = some R) : vp_in i n ∧ a = some R := by
  by_cases hc : gx_ix i n = true
  · rw [if_pos hc] at h
    have h9 : ¬ (i < 0 ∨ n ≤ i.toNatClampNeg) := of_decide_eq_true hc
    exact ⟨h9, h⟩
  · rw [if_neg hc] at h; exact nomatch h
def gx_bz (v : Int32) : Bool := decide (v = 0 ∨ v = 1)
theorem q_bzn {v : Int32} (h : v = 0 ∨ v = 1) : narrow .boolean (.int v) = .int v := by
  rcases h with rfl | rfl <;> rfl
theorem q_bz {α : Type} {v : Int32} {a : Option α} {R : α} (h : (if gx_bz v then a else none) = some R) : narrow .boolean (.int v) = .int v ∧ a = some R := by
  by_cases hc : gx_bz v = true
  · rw [if_pos hc] at h; exact ⟨q_bzn (of_decide_eq_true hc), h⟩
  · rw [if_neg hc] at h; exact nomatch h
theorem q_nz {α ι : Type} [OfNat ι 0] {y : ι} [Decidable (y = 0)] {a : Option α} {R : α} (h : (if y = 0 then none else a) = some R) : ¬ y = 0 ∧ a = some R := by
  by_cases hc : y = 0
  · rw [if_pos hc] at h; exact nomatch h
  · rw [if_neg hc] at h; exact ⟨hc, h⟩
theorem q_p {α : Type} {c : Prop} [Decidable c] {a b R : α} (hc : c) (h : (if c then a else b) = R) : a = R := by rwa [if_pos hc] at h
theorem q_n {α : Type} {c : Prop} [Decidable c] {a b R : α} (hc : ¬ c) (h : (if c then a else b) = R) : b = R := by rwa [if_neg hc] at h
def gx_lift {α : Type} (o : Option α) : Option (Nat ⊕ α) := o.map Sum.inr
theorem q_lr {α : Type} {o : Option α} {R : α} (h : gx_lift o = some (.inr R)) : o = some R := by
  cases o with
  | none => exact nomatch h
  | some a => exact congrArg some (Sum.inr.inj (Option.some.inj h))
theorem q_lx {α : Type} {o : Option α} {e : Nat} (h : gx_lift o = some (.inl e)) : False := by
  cases o with
  | none => exact nomatch h
  | some a => exact nomatch (Option.some.inj h)
def gx_xb {α : Type} (o : Option (Nat ⊕ Unit)) (k : Option (Nat ⊕ α)) : Option (Nat ⊕ α) := match o with
  | none => none
  | some (.inl e) => some (.inl e)
  | some (.inr _) => k
theorem q_xr {α : Type} {o : Option (Nat ⊕ Unit)} {k : Option (Nat ⊕ α)} {R : α} (h : gx_xb o k = some (.inr R)) : o = some (.inr ()) ∧ k = some (.inr R) := by
  match o, h with
  | none, h => exact nomatch h
  | some (.inl e), h => exact nomatch (Option.some.inj h)
  | some (.inr ()), h => exact ⟨rfl, h⟩
theorem q_xx {α : Type} {o : Option (Nat ⊕ Unit)} {k : Option (Nat ⊕ α)} {e : Nat} (h : gx_xb o k = some (.inl e)) : o = some (.inl e) ∨ (o = some (.inr ()) ∧ k = some (.inl e)) := by
  match o, h with
  | none, h => exact nomatch h
  | some (.inl e'), h => exact Or.inl (congrArg some (congrArg Sum.inl (Sum.inl.inj (Option.some.inj h))))
  | some (.inr ()), h => exact Or.inr ⟨rfl, h⟩
def gx_b1 {α β1 : Type} (o : Option (β1)) (k : β1 → Option α) : Option α := o.bind (fun r => k r)
theorem q_b1 {α β1 : Type} {o : Option (β1)} {k : β1 → Option α} {R : α} (h : gx_b1 o k = some R) : ∃ b1, o = some (b1) ∧ k b1 = some R := by
  cases o with
  | none => exact nomatch h
  | some r => exact ⟨r, rfl, h⟩
def gx_b2 {α β1 β2 : Type} (o : Option (β1 × β2)) (k : β1 → β2 → Option α) : Option α := o.bind (fun r => k r.1 r.2)
theorem q_b2 {α β1 β2 : Type} {o : Option (β1 × β2)} {k : β1 → β2 → Option α} {R : α} (h : gx_b2 o k = some R) : ∃ b1 b2, o = some (b1, b2) ∧ k b1 b2 = some R := by
  cases o with
  | none => exact nomatch h
  | some r => exact ⟨r.1, r.2, rfl, h⟩
def gx_b3 {α β1 β2 β3 : Type} (o : Option (β1 × β2 × β3)) (k : β1 → β2 → β3 → Option α) : Option α := o.bind (fun r => k r.1 r.2.1 r.2.2)
theorem q_b3 {α β1 β2 β3 : Type} {o : Option (β1 × β2 × β3)} {k : β1 → β2 → β3 → Option α} {R : α} (h : gx_b3 o k = some R) : ∃ b1 b2 b3, o = some (b1, b2, b3) ∧ k b1 b2 b3 = some R := by
  cases o with
  | none => exact nomatch h
  | some r => exact ⟨r.1, r.2.1, r.2.2, rfl, h⟩
def gx_b4 {α β1 β2 β3 β4 : Type} (o : Option (β1 × β2 × β3 × β4)) (k : β1 → β2 → β3 → β4 → Option α) : Option α := o.bind (fun r => k r.1 r.2.1 r.2.2.1 r.2.2.2)
theorem q_b4 {α β1 β2 β3 β4 : Type} {o : Option (β1 × β2 × β3 × β4)} {k : β1 → β2 → β3 → β4 → Option α} {R : α} (h : gx_b4 o k = some R) : ∃ b1 b2 b3 b4, o = some (b1, b2, b3, b4) ∧ k b1 b2 b3 b4 = some R := by
  cases o with
  | none => exact nomatch h
  | some r => exact ⟨r.1, r.2.1, r.2.2.1, r.2.2.2, rfl, h⟩
def gx_b5 {α β1 β2 β3 β4 β5 : Type} (o : Option (β1 × β2 × β3 × β4 × β5)) (k : β1 → β2 → β3 → β4 → β5 → Option α) : Option α := o.bind (fun r => k r.1 r.2.1 r.2.2.1 r.2.2.2.1 r.2.2.2.2)
theorem q_b5 {α β1 β2 β3 β4 β5 : Type} {o : Option (β1 × β2 × β3 × β4 × β5)} {k : β1 → β2 → β3 → β4 → β5 → Option α} {R : α} (h : gx_b5 o k = some R) : ∃ b1 b2 b3 b4 b5, o = some (b1, b2, b3, b4, b5) ∧ k b1 b2 b3 b4 b5 = some R := by
  cases o with
  | none => exact nomatch h
  | some r => exact ⟨r.1, r.2.1, r.2.2.1, r.2.2.2.1, r.2.2.2.2, rfl, h⟩
def gx_b6 {α β1 β2 β3 β4 β5 β6 : Type} (o : Option (β1 × β2 × β3 × β4 × β5 × β6)) (k : β1 → β2 → β3 → β4 → β5 → β6 → Option α) : Option α := o.bind (fun r => k r.1 r.2.1 r.2.2.1 r.2.2.2.1 r.2.2.2.2.1 r.2.2.2.2.2)
theorem q_b6 {α β1 β2 β3 β4 β5 β6 : Type} {o : Option (β1 × β2 × β3 × β4 × β5 × β6)} {k : β1 → β2 → β3 → β4 → β5 → β6 → Option α} {R : α} (h : gx_b6 o k = some R) : ∃ b1 b2 b3 b4 b5 b6, o = some (b1, b2, b3, b4, b5, b6) ∧ k b1 b2 b3 b4 b5 b6 = some R := by
  cases o with
  | none => exact nomatch h
  | some r => exact ⟨r.1, r.2.1, r.2.2.1, r.2.2.2.1, r.2.2.2.2.1, r.2.2.2.2.2, rfl, h⟩
def gx_b7 {α β1 β2 β3 β4 β5 β6 β7 : Type} (o : Option (β1 × β2 × β3 × β4 × β5 × β6 × β7)) (k : β1 → β2 → β3 → β4 → β5 → β6 → β7 → Option α) : Option α := o.bind (fun r => k r.1 r.2.1 r.2.2.1 r.2.2.2.1 r.2.2.2.2.1 r.2.2.2.2.2.1 r.2.2.2.2.2.2)
theorem q_b7 {α β1 β2 β3 β4 β5 β6 β7 : Type} {o : Option (β1 × β2 × β3 × β4 × β5 × β6 × β7)} {k : β1 → β2 → β3 → β4 → β5 → β6 → β7 → Option α} {R : α} (h : gx_b7 o k = some R) : ∃ b1 b2 b3 b4 b5 b6 b7, o = some (b1, b2, b3, b4, b5, b6, b7) ∧ k b1 b2 b3 b4 b5 b6 b7 = some R := by
  cases o with
  | none => exact nomatch h
  | some r => exact ⟨r.1, r.2.1, r.2.2.1, r.2.2.2.1, r.2.2.2.2.1, r.2.2.2.2.2.1, r.2.2.2.2.2.2, rfl, h⟩
def gx_b8 {α β1 β2 β3 β4 β5 β6 β7 β8 : Type} (o : Option (β1 × β2 × β3 × β4 × β5 × β6 × β7 × β8)) (k : β1 → β2 → β3 → β4 → β5 → β6 → β7 → β8 → Option α) : Option α := o.bind (fun r => k r.1 r.2.1 r.2.2.1 r.2.2.2.1 r.2.2.2.2.1 r.2.2.2.2.2.1 r.2.2.2.2.2.2.1 r.2.2.2.2.2.2.2)
theorem q_b8 {α β1 β2 β3 β4 β5 β6 β7 β8 : Type} {o : Option (β1 × β2 × β3 × β4 × β5 × β6 × β7 × β8)} {k : β1 → β2 → β3 → β4 → β5 → β6 → β7 → β8 → Option α} {R : α} (h : gx_b8 o k = some R) : ∃ b1 b2 b3 b4 b5 b6 b7 b8, o = some (b1, b2, b3, b4, b5, b6, b7, b8) ∧ k b1 b2 b3 b4 b5 b6 b7 b8 = some R := by
  cases o with
  | none => exact nomatch h
  | some r => exact ⟨r.1, r.2.1, r.2.2.1, r.2.2.2.1, r.2.2.2.2.1, r.2.2.2.2.2.1, r.2.2.2.2.2.2.1, r.2.2.2.2.2.2.2, rfl, h⟩
def gx_b9 {α β1 β2 β3 β4 β5 β6 β7 β8 β9 : Type} (o : Option (β1 × β2 × β3 × β4 × β5 × β6 × β7 × β8 × β9)) (k : β1 → β2 → β3 → β4 → β5 → β6 → β7 → β8 → β9 → Option α) : Option α := o.bind (fun r => k r.1 r.2.1 r.2.2.1 r.2.2.2.1 r.2.2.2.2.1 r.2.2.2.2.2.1 r.2.2.2.2.2.2.1 r.2.2.2.2.2.2.2.1 r.2.2.2.2.2.2.2.2)
theorem q_b9 {α β1 β2 β3 β4 β5 β6 β7 β8 β9 : Type} {o : Option (β1 × β2 × β3 × β4 × β5 × β6 × β7 × β8 × β9)} {k : β1 → β2 → β3 → β4 → β5 → β6 → β7 → β8 → β9 → Option α} {R : α} (h : gx_b9 o k = some R) : ∃ b1 b2 b3 b4 b5 b6 b7 b8 b9, o = some (b1, b2, b3, b4, b5, b6, b7, b8, b9) ∧ k b1 b2 b3 b4 b5 b6 b7 b8 b9 = some R := by
  cases o with
  | none => exact nomatch h
  | some r => exact ⟨r.1, r.2.1, r.2.2.1, r.2.2.2.1, r.2.2.2.2.1, r.2.2.2.2.2.1, r.2.2.2.2.2.2.1, r.2.2.2.2.2.2.2.1, r.2.2.2.2.2.2.2.2, rfl, h⟩
def gx_b10 {α β1 β2 β3 β4 β5 β6 β7 β8 β9 β10 : Type} (o : Option (β1 × β2 × β3 × β4 × β5 × β6 × β7 × β8 × β9 × β10)) (k : β1 → β2 → β3 → β4 → β5 → β6 → β7 → β8 → β9 → β10 → Option α) : Option α := o.bind (fun r => k r.1 r.2.1 r.2.2.1 r.2.2.2.1 r.2.2.2.2.1 r.2.2.2.2.2.1 r.2.2.2.2.2.2.1 r.2.2.2.2.2.2.2.1 r.2.2.2.2.2.2.2.2.1 r.2.2.2.2.2.2.2.2.2)
theorem q_b10 {α β1 β2 β3 β4 β5 β6 β7 β8 β9 β10 : Type} {o : Option (β1 × β2 × β3 × β4 × β5 × β6 × β7 × β8 × β9 × β10)} {k : β1 → β2 → β3 → β4 → β5 → β6 → β7 → β8 → β9 → β10 → Option α} {R : α} (h : gx_b10 o k = some R) : ∃ b1 b2 b3 b4 b5 b6 b7 b8 b9 b10, o = some (b1, b2, b3, b4, b5, b6, b7, b8, b9, b10) ∧ k b1 b2 b3 b4 b5 b6 b7 b8 b9 b10 = some R := by
  cases o with
  | none => exact nomatch h
  | some r => exact ⟨r.1, r.2.1, r.2.2.1, r.2.2.2.1, r.2.2.2.2.1, r.2.2.2.2.2.1, r.2.2.2.2.2.2.1, r.2.2.2.2.2.2.2.1, r.2.2.2.2.2.2.2.2.1, r.2.2.2.2.2.2.2.2.2, rfl, h⟩
def gx_b11 {α β1 β2 β3 β4 β5 β6 β7 β8 β9 β10 β11 : Type} (o : Option (β1 × β2 × β3 × β4 × β5 × β6 × β7 × β8 × β9 × β10 × β11)) (k : β1 → β2 → β3 → β4 → β5 → β6 → β7 → β8 → β9 → β10 → β11 → Option α) : Option α := o.bind (fun r => k r.1 r.2.1 r.2.2.1 r.2.2.2.1 r.2.2.2.2.1 r.2.2.2.2.2.1 r.2.2.2.2.2.2.1 r.2.2.2.2.2.2.2.1 r.2.2.2.2.2.2.2.2.1 r.2.2.2.2.2.2.2.2.2.1 r.2.2.2.2.2.2.2.2.2.2)
theorem q_b11 {α β1 β2 β3 β4 β5 β6 β7 β8 β9 β10 β11 : Type} {o : Option (β1 × β2 × β3 × β4 × β5 × β6 × β7 × β8 × β9 × β10 × β11)} {k : β1 → β2 → β3 → β4 → β5 → β6 → β7 → β8 → β9 → β10 → β11 → Option α} {R : α} (h : gx_b11 o k = some R) : ∃ b1 b2 b3 b4 b5 b6 b7 b8 b9 b10 b11, o = some (b1, b2, b3, b4, b5, b6, b7, b8, b9, b10, b11) ∧ k b1 b2 b3 b4 b5 b6 b7 b8 b9 b10 b11 = some R := by
  cases o with
  | none => exact nomatch h
  | some r => exact ⟨r.1, r.2.1, r.2.2.1, r.2.2.2.1, r.2.2.2.2.1, r.2.2.2.2.2.1, r.2.2.2.2.2.2.1, r.2.2.2.2.2.2.2.1, r.2.2.2.2.2.2.2.2.1, r.2.2.2.2.2.2.2.2.2.1, r.2.2.2.2.2.2.2.2.2.2, rfl, h⟩
def gx_b12 {α β1 β2 β3 β4 β5 β6 β7 β8 β9 β10 β11 β12 : Type} (o : Option (β1 × β2 × β3 × β4 × β5 × β6 × β7 × β8 × β9 × β10 × β11 × β12)) (k : β1 → β2 → β3 → β4 → β5 → β6 → β7 → β8 → β9 → β10 → β11 → β12 → Option α) : Option α := o.bind (fun r => k r.1 r.2.1 r.2.2.1 r.2.2.2.1 r.2.2.2.2.1 r.2.2.2.2.2.1 r.2.2.2.2.2.2.1 r.2.2.2.2.2.2.2.1 r.2.2.2.2.2.2.2.2.1 r.2.2.2.2.2.2.2.2.2.1 r.2.2.2.2.2.2.2.2.2.2.1 r.2.2.2.2.2.2.2.2.2.2.2)
theorem q_b12 {α β1 β2 β3 β4 β5 β6 β7 β8 β9 β10 β11 β12 : Type} {o : Option (β1 × β2 × β3 × β4 × β5 × β6 × β7 × β8 × β9 × β10 × β11 × β12)} {k : β1 → β2 → β3 → β4 → β5 → β6 → β7 → β8 → β9 → β10 → β11 → β12 → Option α} {R : α} (h : gx_b12 o k = some R) : ∃ b1 b2 b3 b4 b5 b6 b7 b8 b9 b10 b11 b12, o = some (b1, b2, b3, b4, b5, b6, b7, b8, b9, b10, b11, b12) ∧ k b1 b2 b3 b4 b5 b6 b7 b8 b9 b10 b11 b12 = some R := by
  cases o with
  | none => exact nomatch h
  | some r => exact ⟨r.1, r.2.1, r.2.2.1, r.2.2.2.1, r.2.2.2.2.1, r.2.2.2.2.2.1, r.2.2.2.2.2.2.1, r.2.2.2.2.2.2.2.1, r.2.2.2.2.2.2.2.2.1, r.2.2.2.2.2.2.2.2.2.1, r.2.2.2.2.2.2.2.2.2.2.1, r.2.2.2.2.2.2.2.2.2.2.2, rfl, h⟩
def gx_b13 {α β1 β2 β3 β4 β5 β6 β7 β8 β9 β10 β11 β12 β13 : Type} (o : Option (β1 × β2 × β3 × β4 × β5 × β6 × β7 × β8 × β9 × β10 × β11 × β12 × β13)) (k : β1 → β2 → β3 → β4 → β5 → β6 → β7 → β8 → β9 → β10 → β11 → β12 → β13 → Option α) : Option α := o.bind (fun r => k r.1 r.2.1 r.2.2.1 r.2.2.2.1 r.2.2.2.2.1 r.2.2.2.2.2.1 r.2.2.2.2.2.2.1 r.2.2.2.2.2.2.2.1 r.2.2.2.2.2.2.2.2.1 r.2.2.2.2.2.2.2.2.2.1 r.2.2.2.2.2.2.2.2.2.2.1 r.2.2.2.2.2.2.2.2.2.2.2.1 r.2.2.2.2.2.2.2.2.2.2.2.2)
theorem q_b13 {α β1 β2 β3 β4 β5 β6 β7 β8 β9 β10 β11 β12 β13 : Type} {o : Option (β1 × β2 × β3 × β4 × β5 × β6 × β7 × β8 × β9 × β10 × β11 × β12 × β13)} {k : β1 → β2 → β3 → β4 → β5 → β6 → β7 → β8 → β9 → β10 → β11 → β12 → β13 → Option α} {R : α} (h : gx_b13 o k = some R) : ∃ b1 b2 b3 b4 b5 b6 b7 b8 b9 b10 b11 b12 b13, o = some (b1, b2, b3, b4, b5, b6, b7, b8, b9, b10, b11, b12, b13) ∧ k b1 b2 b3 b4 b5 b6 b7 b8 b9 b10 b11 b12 b13 = some R := by
  cases o with
  | none => exact nomatch h
  | some r => exact ⟨r.1, r.2.1, r.2.2.1, r.2.2.2.1, r.2.2.2.2.1, r.2.2.2.2.2.1, r.2.2.2.2.2.2.1, r.2.2.2.2.2.2.2.1, r.2.2.2.2.2.2.2.2.1, r.2.2.2.2.2.2.2.2.2.1, r.2.2.2.2.2.2.2.2.2.2.1, r.2.2.2.2.2.2.2.2.2.2.2.1, r.2.2.2.2.2.2.2.2.2.2.2.2, rfl, h⟩
def gx_b14 {α β1 β2 β3 β4 β5 β6 β7 β8 β9 β10 β11 β12 β13 β14 : Type} (o : Option (β1 × β2 × β3 × β4 × β5 × β6 × β7 × β8 × β9 × β10 × β11 × β12 × β13 × β14)) (k : β1 → β2 → β3 → β4 → β5 → β6 → β7 → β8 → β9 → β10 → β11 → β12 → β13 → β14 → Option α) : Option α := o.bind (fun r => k r.1 r.2.1 r.2.2.1 r.2.2.2.1 r.2.2.2.2.1 r.2.2.2.2.2.1 r.2.2.2.2.2.2.1 r.2.2.2.2.2.2.2.1 r.2.2.2.2.2.2.2.2.1 r.2.2.2.2.2.2.2.2.2.1 r.2.2.2.2.2.2.2.2.2.2.1 r.2.2.2.2.2.2.2.2.2.2.2.1 r.2.2.2.2.2.2.2.2.2.2.2.2.1 r.2.2.2.2.2.2.2.2.2.2.2.2.2)
theorem q_b14 {α β1 β2 β3 β4 β5 β6 β7 β8 β9 β10 β11 β12 β13 β14 : Type} {o : Option (β1 × β2 × β3 × β4 × β5 × β6 × β7 × β8 × β9 × β10 × β11 × β12 × β13 × β14)} {k : β1 → β2 → β3 → β4 → β5 → β6 → β7 → β8 → β9 → β10 → β11 → β12 → β13 → β14 → Option α} {R : α} (h : gx_b14 o k = some R) : ∃ b1 b2 b3 b4 b5 b6 b7 b8 b9 b10 b11 b12 b13 b14, o = some (b1, b2, b3, b4, b5, b6, b7, b8, b9, b10, b11, b12, b13, b14) ∧ k b1 b2 b3 b4 b5 b6 b7 b8 b9 b10 b11 b12 b13 b14 = some R := by
  cases o with
  | none => exact nomatch h
  | some r => exact ⟨r.1, r.2.1, r.2.2.1, r.2.2.2.1, r.2.2.2.2.1, r.2.2.2.2.2.1, r.2.2.2.2.2.2.1, r.2.2.2.2.2.2.2.1, r.2.2.2.2.2.2.2.2.1, r.2.2.2.2.2.2.2.2.2.1, r.2.2.2.2.2.2.2.2.2.2.1, r.2.2.2.2.2.2.2.2.2.2.2.1, r.2.2.2.2.2.2.2.2.2.2.2.2.1, r.2.2.2.2.2.2.2.2.2.2.2.2.2, rfl, h⟩
def gx_b15 {α β1 β2 β3 β4 β5 β6 β7 β8 β9 β10 β11 β12 β13 β14 β15 : Type} (o : Option (β1 × β2 × β3 × β4 × β5 × β6 × β7 × β8 × β9 × β10 × β11 × β12 × β13 × β14 × β15)) (k : β1 → β2 → β3 → β4 → β5 → β6 → β7 → β8 → β9 → β10 → β11 → β12 → β13 → β14 → β15 → Option α) : Option α := o.bind (fun r => k r.1 r.2.1 r.2.2.1 r.2.2.2.1 r.2.2.2.2.1 r.2.2.2.2.2.1 r.2.2.2.2.2.2.1 r.2.2.2.2.2.2.2.1 r.2.2.2.2.2.2.2.2.1 r.2.2.2.2.2.2.2.2.2.1 r.2.2.2.2.2.2.2.2.2.2.1 r.2.2.2.2.2.2.2.2.2.2.2.1 r.2.2.2.2.2.2.2.2.2.2.2.2.1 r.2.2.2.2.2.2.2.2.2.2.2.2.2.1 r.2.2.2.2.2.2.2.2.2.2.2.2.2.2)
theorem q_b15 {α β1 β2 β3 β4 β5 β6 β7 β8 β9 β10 β11 β12 β13 β14 β15 : Type} {o : Option (β1 × β2 × β3 × β4 × β5 × β6 × β7 × β8 × β9 × β10 × β11 × β12 × β13 × β14 × β15)} {k : β1 → β2 → β3 → β4 → β5 → β6 → β7 → β8 → β9 → β10 → β11 → β12 → β13 → β14 → β15 → Option α} {R : α} (h : gx_b15 o k = some R) : ∃ b1 b2 b3 b4 b5 b6 b7 b8 b9 b10 b11 b12 b13 b14 b15, o = some (b1, b2, b3, b4, b5, b6, b7, b8, b9, b10, b11, b12, b13, b14, b15) ∧ k b1 b2 b3 b4 b5 b6 b7 b8 b9 b10 b11 b12 b13 b14 b15 = some R := by
  cases o with
  | none => exact nomatch h
  | some r => exact ⟨r.1, r.2.1, r.2.2.1, r.2.2.2.1, r.2.2.2.2.1, r.2.2.2.2.2.1, r.2.2.2.2.2.2.1, r.2.2.2.2.2.2.2.1, r.2.2.2.2.2.2.2.2.1, r.2.2.2.2.2.2.2.2.2.1, r.2.2.2.2.2.2.2.2.2.2.1, r.2.2.2.2.2.2.2.2.2.2.2.1, r.2.2.2.2.2.2.2.2.2.2.2.2.1, r.2.2.2.2.2.2.2.2.2.2.2.2.2.1, r.2.2.2.2.2.2.2.2.2.2.2.2.2.2, rfl, h⟩
def gx_b16 {α β1 β2 β3 β4 β5 β6 β7 β8 β9 β10 β11 β12 β13 β14 β15 β16 : Type} (o : Option (β1 × β2 × β3 × β4 × β5 × β6 × β7 × β8 × β9 × β10 × β11 × β12 × β13 × β14 × β15 × β16)) (k : β1 → β2 → β3 → β4 → β5 → β6 → β7 → β8 → β9 → β10 → β11 → β12 → β13 → β14 → β15 → β16 → Option α) : Option α := o.bind (fun r => k r.1 r.2.1 r.2.2.1 r.2.2.2.1 r.2.2.2.2.1 r.2.2.2.2.2.1 r.2.2.2.2.2.2.1 r.2.2.2.2.2.2.2.1 r.2.2.2.2.2.2.2.2.1 r.2.2.2.2.2.2.2.2.2.1 r.2.2.2.2.2.2.2.2.2.2.1 r.2.2.2.2.2.2.2.2.2.2.2.1 r.2.2.2.2.2.2.2.2.2.2.2.2.1 r.2.2.2.2.2.2.2.2.2.2.2.2.2.1 r.2.2.2.2.2.2.2.2.2.2.2.2.2.2.1 r.2.2.2.2.2.2.2.2.2.2.2.2.2.2.2)
theorem q_b16 {α β1 β2 β3 β4 β5 β6 β7 β8 β9 β10 β11 β12 β13 β14 β15 β16 : Type} {o : Option (β1 × β2 × β3 × β4 × β5 × β6 × β7 × β8 × β9 × β10 × β11 × β12 × β13 × β14 × β15 × β16)} {k : β1 → β2 → β3 → β4 → β5 → β6 → β7 → β8 → β9 → β10 → β11 → β12 → β13 → β14 → β15 → β16 → Option α} {R : α} (h : gx_b16 o k = some R) : ∃ b1 b2 b3 b4 b5 b6 b7 b8 b9 b10 b11 b12 b13 b14 b15 b16, o = some (b1, b2, b3, b4, b5, b6, b7, b8, b9, b10, b11, b12, b13, b14, b15, b16) ∧ k b1 b2 b3 b4 b5 b6 b7 b8 b9 b10 b11 b12 b13 b14 b15 b16 = some R := by
  cases o with
  | none => exact nomatch h
  | some r => exact ⟨r.1, r.2.1, r.2.2.1, r.2.2.2.1, r.2.2.2.2.1, r.2.2.2.2.2.1, r.2.2.2.2.2.2.1, r.2.2.2.2.2.2.2.1, r.2.2.2.2.2.2.2.2.1, r.2.2.2.2.2.2.2.2.2.1, r.2.2.2.2.2.2.2.2.2.2.1, r.2.2.2.2.2.2.2.2.2.2.2.1, r.2.2.2.2.2.2.2.2.2.2.2.2.1, r.2.2.2.2.2.2.2.2.2.2.2.2.2.1, r.2.2.2.2.2.2.2.2.2.2.2.2.2.2.1, r.2.2.2.2.2.2.2.2.2.2.2.2.2.2.2, rfl, h⟩
def gx_b17 {α β1 β2 β3 β4 β5 β6 β7 β8 β9 β10 β11 β12 β13 β14 β15 β16 β17 : Type} (o : Option (β1 × β2 × β3 × β4 × β5 × β6 × β7 × β8 × β9 × β10 × β11 × β12 × β13 × β14 × β15 × β16 × β17)) (k : β1 → β2 → β3 → β4 → β5 → β6 → β7 → β8 → β9 → β10 → β11 → β12 → β13 → β14 → β15 → β16 → β17 → Option α) : Option α := o.bind (fun r => k r.1 r.2.1 r.2.2.1 r.2.2.2.1 r.2.2.2.2.1 r.2.2.2.2.2.1 r.2.2.2.2.2.2.1 r.2.2.2.2.2.2.2.1 r.2.2.2.2.2.2.2.2.1 r.2.2.2.2.2.2.2.2.2.1 r.2.2.2.2.2.2.2.2.2.2.1 r.2.2.2.2.2.2.2.2.2.2.2.1 r.2.2.2.2.2.2.2.2.2.2.2.2.1 r.2.2.2.2.2.2.2.2.2.2.2.2.2.1 r.2.2.2.2.2.2.2.2.2.2.2.2.2.2.1 r.2.2.2.2.2.2.2.2.2.2.2.2.2.2.2.1 r.2.2.2.2.2.2.2.2.2.2.2.2.2.2.2.2)
theorem q_b17 {α β1 β2 β3 β4 β5 β6 β7 β8 β9 β10 β11 β12 β13 β14 β15 β16 β17 : Type} {o : Option (β1 × β2 × β3 × β4 × β5 × β6 × β7 × β8 × β9 × β10 × β11 × β12 × β13 × β14 × β15 × β16 × β17)} {k : β1 → β2 → β3 → β4 → β5 → β6 → β7 → β8 → β9 → β10 → β11 → β12 → β13 → β14 → β15 → β16 → β17 → Option α} {R : α} (h : gx_b17 o k = some R) : ∃ b1 b2 b3 b4 b5 b6 b7 b8 b9 b10 b11 b12 b13 b14 b15 b16 b17, o = some (b1, b2, b3, b4, b5, b6, b7, b8, b9, b10, b11, b12, b13, b14, b15, b16, b17) ∧ k b1 b2 b3 b4 b5 b6 b7 b8 b9 b10 b11 b12 b13 b14 b15 b16 b17 = some R := by
  cases o with
  | none => exact nomatch h
  | some r => exact ⟨r.1, r.2.1, r.2.2.1, r.2.2.2.1, r.2.2.2.2.1, r.2.2.2.2.2.1, r.2.2.2.2.2.2.1, r.2.2.2.2.2.2.2.1, r.2.2.2.2.2.2.2.2.1, r.2.2.2.2.2.2.2.2.2.1, r.2.2.2.2.2.2.2.2.2.2.1, r.2.2.2.2.2.2.2.2.2.2.2.1, r.2.2.2.2.2.2.2.2.2.2.2.2.1, r.2.2.2.2.2.2.2.2.2.2.2.2.2.1, r.2.2.2.2.2.2.2.2.2.2.2.2.2.2.1, r.2.2.2.2.2.2.2.2.2.2.2.2.2.2.2.1, r.2.2.2.2.2.2.2.2.2.2.2.2.2.2.2.2, rfl, h⟩
def gx_b18 {α β1 β2 β3 β4 β5 β6 β7 β8 β9 β10 β11 β12 β13 β14 β15 β16 β17 β18 : Type} (o : Option (β1 × β2 × β3 × β4 × β5 × β6 × β7 × β8 × β9 × β10 × β11 × β12 × β13 × β14 × β15 × β16 × β17 × β18)) (k : β1 → β2 → β3 → β4 → β5 → β6 → β7 → β8 → β9 → β10 → β11 → β12 → β13 → β14 → β15 → β16 → β17 → β18 → Option α) : Option α := o.bind (fun r => k r.1 r.2.1 r.2.2.1 r.2.2.2.1 r.2.2.2.2.1 r.2.2.2.2.2.1 r.2.2.2.2.2.2.1 r.2.2.2.2.2.2.2.1 r.2.2.2.2.2.2.2.2.1 r.2.2.2.2.2.2.2.2.2.1 r.2.2.2.2.2.2.2.2.2.2.1 r.2.2.2.2.2.2.2.2.2.2.2.1 r.2.2.2.2.2.2.2.2.2.2.2.2.1 r.2.2.2.2.2.2.2.2.2.2.2.2.2.1 r.2.2.2.2.2.2.2.2.2.2.2.2.2.2.1 r.2.2.2.2.2.2.2.2.2.2.2.2.2.2.2.1 r.2.2.2.2.2.2.2.2.2.2.2.2.2.2.2.2.1 r.2.2.2.2.2.2.2.2.2.2.2.2.2.2.2.2.2)
theorem q_b18 {α β1 β2 β3 β4 β5 β6 β7 β8 β9 β10 β11 β12 β13 β14 β15 β16 β17 β18 : Type} {o : Option (β1 × β2 × β3 × β4 × β5 × β6 × β7 × β8 × β9 × β10 × β11 × β12 × β13 × β14 × β15 × β16 × β17 × β18)} {k : β1 → β2 → β3 → β4 → β5 → β6 → β7 → β8 → β9 → β10 → β11 → β12 → β13 → β14 → β15 → β16 → β17 → β18 → Option α} {R : α} (h : gx_b18 o k = some R) : ∃ b1 b2 b3 b4 b5 b6 b7 b8 b9 b10 b11 b12 b13 b14 b15 b16 b17 b18, o = some (b1, b2, b3, b4, b5, b6, b7, b8, b9, b10, b11, b12, b13, b14, b15, b16, b17, b18) ∧ k b1 b2 b3 b4 b5 b6 b7 b8 b9 b10 b11 b12 b13 b14 b15 b16 b17 b18 = some R := by
  cases o with
  | none => exact nomatch h
  | some r => exact ⟨r.1, r.2.1, r.2.2.1, r.2.2.2.1, r.2.2.2.2.1, r.2.2.2.2.2.1, r.2.2.2.2.2.2.1, r.2.2.2.2.2.2.2.1, r.2.2.2.2.2.2.2.2.1, r.2.2.2.2.2.2.2.2.2.1, r.2.2.2.2.2.2.2.2.2.2.1, r.2.2.2.2.2.2.2.2.2.2.2.1, r.2.2.2.2.2.2.2.2.2.2.2.2.1, r.2.2.2.2.2.2.2.2.2.2.2.2.2.1, r.2.2.2.2.2.2.2.2.2.2.2.2.2.2.1, r.2.2.2.2.2.2.2.2.2.2.2.2.2.2.2.1, r.2.2.2.2.2.2.2.2.2.2.2.2.2.2.2.2.1, r.2.2.2.2.2.2.2.2.2.2.2.2.2.2.2.2.2, rfl, h⟩
def gx_b19 {α β1 β2 β3 β4 β5 β6 β7 β8 β9 β10 β11 β12 β13 β14 β15 β16 β17 β18 β19 : Type} (o : Option (β1 × β2 × β3 × β4 × β5 × β6 × β7 × β8 × β9 × β10 × β11 × β12 × β13 × β14 × β15 × β16 × β17 × β18 × β19)) (k : β1 → β2 → β3 → β4 → β5 → β6 → β7 → β8 → β9 → β10 → β11 → β12 → β13 → β14 → β15 → β16 → β17 → β18 → β19 → Option α) : Option α := o.bind (fun r => k r.1 r.2.1 r.2.2.1 r.2.2.2.1 r.2.2.2.2.1 r.2.2.2.2.2.1 r.2.2.2.2.2.2.1 r.2.2.2.2.2.2.2.1 r.2.2.2.2.2.2.2.2.1 r.2.2.2.2.2.2.2.2.2.1 r.2.2.2.2.2.2.2.2.2.2.1 r.2.2.2.2.2.2.2.2.2.2.2.1 r.2.2.2.2.2.2.2.2.2.2.2.2.1 r.2.2.2.2.2.2.2.2.2.2.2.2.2.1 r.2.2.2.2.2.2.2.2.2.2.2.2.2.2.1 r.2.2.2.2.2.2.2.2.2.2.2.2.2.2.2.1 r.2.2.2.2.2.2.2.2.2.2.2.2.2.2.2.2.1 r.2.2.2.2.2.2.2.2.2.2.2.2.2.2.2.2.2.1 r.2.2.2.2.2.2.2.2.2.2.2.2.2.2.2.2.2.2)
theorem q_b19 {α β1 β2 β3 β4 β5 β6 β7 β8 β9 β10 β11 β12 β13 β14 β15 β16 β17 β18 β19 : Type} {o : Option (β1 × β2 × β3 × β4 × β5 × β6 × β7 × β8 × β9 × β10 × β11 × β12 × β13 × β14 × β15 × β16 × β17 × β18 × β19)} {k : β1 → β2 → β3 → β4 → β5 → β6 → β7 → β8 → β9 → β10 → β11 → β12 → β13 → β14 → β15 → β16 → β17 → β18 → β19 → Option α} {R : α} (h : gx_b19 o k = some R) : ∃ b1 b2 b3 b4 b5 b6 b7 b8 b9 b10 b11 b12 b13 b14 b15 b16 b17 b18 b19, o = some (b1, b2, b3, b4, b5, b6, b7, b8, b9, b10, b11, b12, b13, b14, b15, b16, b17, b18, b19) ∧ k b1 b2 b3 b4 b5 b6 b7 b8 b9 b10 b11 b12 b13 b14 b15 b16 b17 b18 b19 = some R := by
  cases o with
  | none => exact nomatch h
  | some r => exact ⟨r.1, r.2.1, r.2.2.1, r.2.2.2.1, r.2.2.2.2.1, r.2.2.2.2.2.1, r.2.2.2.2.2.2.1, r.2.2.2.2.2.2.2.1, r.2.2.2.2.2.2.2.2.1, r.2.2.2.2.2.2.2.2.2.1, r.2.2.2.2.2.2.2.2.2.2.1, r.2.2.2.2.2.2.2.2.2.2.2.1, r.2.2.2.2.2.2.2.2.2.2.2.2.1, r.2.2.2.2.2.2.2.2.2.2.2.2.2.1, r.2.2.2.2.2.2.2.2.2.2.2.2.2.2.1, r.2.2.2.2.2.2.2.2.2.2.2.2.2.2.2.1, r.2.2.2.2.2.2.2.2.2.2.2.2.2.2.2.2.1, r.2.2.2.2.2.2.2.2.2.2.2.2.2.2.2.2.2.1, r.2.2.2.2.2.2.2.2.2.2.2.2.2.2.2.2.2.2, rfl, h⟩
def gx_b20 {α β1 β2 β3 β4 β5 β6 β7 β8 β9 β10 β11 β12 β13 β14 β15 β16 β17 β18 β19 β20 : Type} (o : Option (β1 × β2 × β3 × β4 × β5 × β6 × β7 × β8 × β9 × β10 × β11 × β12 × β13 × β14 × β15 × β16 × β17 × β18 × β19 × β20)) (k : β1 → β2 → β3 → β4 → β5 → β6 → β7 → β8 → β9 → β10 → β11 → β12 → β13 → β14 → β15 → β16 → β17 → β18 → β19 → β20 → Option α) : Option α := o.bind (fun r => k r.1 r.2.1 r.2.2.1 r.2.2.2.1 r.2.2.2.2.1 r.2.2.2.2.2.1 r.2.2.2.2.2.2.1 r.2.2.2.2.2.2.2.1 r.2.2.2.2.2.2.2.2.1 r.2.2.2.2.2.2.2.2.2.1 r.2.2.2.2.2.2.2.2.2.2.1 r.2.2.2.2.2.2.2.2.2.2.2.1 r.2.2.2.2.2.2.2.2.2.2.2.2.1 r.2.2.2.2.2.2.2.2.2.2.2.2.2.1 r.2.2.2.2.2.2.2.2.2.2.2.2.2.2.1 r.2.2.2.2.2.2.2.2.2.2.2.2.2.2.2.1 r.2.2.2.2.2.2.2.2.2.2.2.2.2.2.2.2.1 r.2.2.2.2.2.2.2.2.2.2.2.2.2.2.2.2.2.1 r.2.2.2.2.2.2.2.2.2.2.2.2.2.2.2.2.2.2.1 r.2.2.2.2.2.2.2.2.2.2.2.2.2.2.2.2.2.2.2)
theorem q_b20 {α β1 β2 β3 β4 β5 β6 β7 β8 β9 β10 β11 β12 β13 β14 β15 β16 β17 β18 β19 β20 : Type} {o : Option (β1 × β2 × β3 × β4 × β5 × β6 × β7 × β8 × β9 × β10 × β11 × β12 × β13 × β14 × β15 × β16 × β17 × β18 × β19 × β20)} {k : β1 → β2 → β3 → β4 → β5 → β6 → β7 → β8 → β9 → β10 → β11 → β12 → β13 → β14 → β15 → β16 → β17 → β18 → β19 → β20 → Option α} {R : α} (h : gx_b20 o k = some R) : ∃ b1 b2 b3 b4 b5 b6 b7 b8 b9 b10 b11 b12 b13 b14 b15 b16 b17 b18 b19 b20, o = some (b1, b2, b3, b4, b5, b6, b7, b8, b9, b10, b11, b12, b13, b14, b15, b16, b17, b18, b19, b20) ∧ k b1 b2 b3 b4 b5 b6 b7 b8 b9 b10 b11 b12 b13 b14 b15 b16 b17 b18 b19 b20 = some R := by
  cases o with
  | none => exact nomatch h
  | some r => exact ⟨r.1, r.2.1, r.2.2.1, r.2.2.2.1, r.2.2.2.2.1, r.2.2.2.2.2.1, r.2.2.2.2.2.2.1, r.2.2.2.2.2.2.2.1, r.2.2.2.2.2.2.2.2.1, r.2.2.2.2.2.2.2.2.2.1, r.2.2.2.2.2.2.2.2.2.2.1, r.2.2.2.2.2.2.2.2.2.2.2.1, r.2.2.2.2.2.2.2.2.2.2.2.2.1, r.2.2.2.2.2.2.2.2.2.2.2.2.2.1, r.2.2.2.2.2.2.2.2.2.2.2.2.2.2.1, r.2.2.2.2.2.2.2.2.2.2.2.2.2.2.2.1, r.2.2.2.2.2.2.2.2.2.2.2.2.2.2.2.2.1, r.2.2.2.2.2.2.2.2.2.2.2.2.2.2.2.2.2.1, r.2.2.2.2.2.2.2.2.2.2.2.2.2.2.2.2.2.2.1, r.2.2.2.2.2.2.2.2.2.2.2.2.2.2.2.2.2.2.2, rfl, h⟩
def gx_b21 {α β1 β2 β3 β4 β5 β6 β7 β8 β9 β10 β11 β12 β13 β14 β15 β16 β17 β18 β19 β20 β21 : Type} (o : Option (β1 × β2 × β3 × β4 × β5 × β6 × β7 × β8 × β9 × β10 × β11 × β12 × β13 × β14 × β15 × β16 × β17 × β18 × β19 × β20 × β21)) (k : β1 → β2 → β3 → β4 → β5 → β6 → β7 → β8 → β9 → β10 → β11 → β12 → β13 → β14 → β15 → β16 → β17 → β18 → β19 → β20 → β21 → Option α) : Option α := o.bind (fun r => k r.1 r.2.1 r.2.2.1 r.2.2.2.1 r.2.2.2.2.1 r.2.2.2.2.2.1 r.2.2.2.2.2.2.1 r.2.2.2.2.2.2.2.1 r.2.2.2.2.2.2.2.2.1 r.2.2.2.2.2.2.2.2.2.1 r.2.2.2.2.2.2.2.2.2.2.1 r.2.2.2.2.2.2.2.2.2.2.2.1 r.2.2.2.2.2.2.2.2.2.2.2.2.1 r.2.2.2.2.2.2.2.2.2.2.2.2.2.1 r.2.2.2.2.2.2.2.2.2.2.2.2.2.2.1 r.2.2.2.2.2.2.2.2.2.2.2.2.2.2.2.1 r.2.2.2.2.2.2.2.2.2.2.2.2.2.2.2.2.1 r.2.2.2.2.2.2.2.2.2.2.2.2.2.2.2.2.2.1 r.2.2.2.2.2.2.2.2.2.2.2.2.2.2.2.2.2.2.1 r.2.2.2.2.2.2.2.2.2.2.2.2.2.2.2.2.2.2.2.1 r.2.2.2.2.2.2.2.2.2.2.2.2.2.2.2.2.2.2.2.2)
theorem q_b21 {α β1 β2 β3 β4 β5 β6 β7 β8 β9 β10 β11 β12 β13 β14 β15 β16 β17 β18 β19 β20 β21 : Type} {o : Option (β1 × β2 × β3 × β4 × β5 × β6 × β7 × β8 × β9 × β10 × β11 × β12 × β13 × β14 × β15 × β16 × β17 × β18 × β19 × β20 × β21)} {k : β1 → β2 → β3 → β4 → β5 → β6 → β7 → β8 → β9 → β10 → β11 → β12 → β13 → β14 → β15 → β16 → β17 → β18 → β19 → β20 → β21 → Option α} {R : α} (h : gx_b21 o k = some R) : ∃ b1 b2 b3 b4 b5 b6 b7 b8 b9 b10 b11 b12 b13 b14 b15 b16 b17 b18 b19 b20 b21, o = some (b1, b2, b3, b4, b5, b6, b7, b8, b9, b10, b11, b12, b13, b14, b15, b16, b17, b18, b19, b20, b21) ∧ k b1 b2 b3 b4 b5 b6 b7 b8 b9 b10 b11 b12 b13 b14 b15 b16 b17 b18 b19 b20 b21 = some R := by
  cases o with
  | none => exact nomatch h
  | some r => exact ⟨r.1, r.2.1, r.2.2.1, r.2.2.2.1, r.2.2.2.2.1, r.2.2.2.2.2.1, r.2.2.2.2.2.2.1, r.2.2.2.2.2.2.2.1, r.2.2.2.2.2.2.2.2.1, r.2.2.2.2.2.2.2.2.2.1, r.2.2.2.2.2.2.2.2.2.2.1, r.2.2.2.2.2.2.2.2.2.2.2.1, r.2.2.2.2.2.2.2.2.2.2.2.2.1, r.2.2.2.2.2.2.2.2.2.2.2.2.2.1, r.2.2.2.2.2.2.2.2.2.2.2.2.2.2.1, r.2.2.2.2.2.2.2.2.2.2.2.2.2.2.2.1, r.2.2.2.2.2.2.2.2.2.2.2.2.2.2.2.2.1, r.2.2.2.2.2.2.2.2.2.2.2.2.2.2.2.2.2.1, r.2.2.2.2.2.2.2.2.2.2.2.2.2.2.2.2.2.2.1, r.2.2.2.2.2.2.2.2.2.2.2.2.2.2.2.2.2.2.2.1, r.2.2.2.2.2.2.2.2.2.2.2.2.2.2.2.2.2.2.2.2, rfl, h⟩
def gx_b22 {α β1 β2 β3 β4 β5 β6 β7 β8 β9 β10 β11 β12 β13 β14 β15 β16 β17 β18 β19 β20 β21 β22 : Type} (o : Option (β1 × β2 × β3 × β4 × β5 × β6 × β7 × β8 × β9 × β10 × β11 × β12 × β13 × β14 × β15 × β16 × β17 × β18 × β19 × β20 × β21 × β22)) (k : β1 → β2 → β3 → β4 → β5 → β6 → β7 → β8 → β9 → β10 → β11 → β12 → β13 → β14 → β15 → β16 → β17 → β18 → β19 → β20 → β21 → β22 → Option α) : Option α := o.bind (fun r => k r.1 r.2.1 r.2.2.1 r.2.2.2.1 r.2.2.2.2.1 r.2.2.2.2.2.1 r.2.2.2.2.2.2.1 r.2.2.2.2.2.2.2.1 r.2.2.2.2.2.2.2.2.1 r.2.2.2.2.2.2.2.2.2.1 r.2.2.2.2.2.2.2.2.2.2.1 r.2.2.2.2.2.2.2.2.2.2.2.1 r.2.2.2.2.2.2.2.2.2.2.2.2.1 r.2.2.2.2.2.2.2.2.2.2.2.2.2.1 r.2.2.2.2.2.2.2.2.2.2.2.2.2.2.1 r.2.2.2.2.2.2.2.2.2.2.2.2.2.2.2.1 r.2.2.2.2.2.2.2.2.2.2.2.2.2.2.2.2.1 r.2.2.2.2.2.2.2.2.2.2.2.2.2.2.2.2.2.1 r.2.2.2.2.2.2.2.2.2.2.2.2.2.2.2.2.2.2.1 r.2.2.2.2.2.2.2.2.2.2.2.2.2.2.2.2.2.2.2.1 r.2.2.2.2.2.2.2.2.2.2.2.2.2.2.2.2.2.2.2.2.1 r.2.2.2.2.2.2.2.2.2.2.2.2.2.2.2.2.2.2.2.2.2)
theorem q_b22 {α β1 β2 β3 β4 β5 β6 β7 β8 β9 β10 β11 β12 β13 β14 β15 β16 β17 β18 β19 β20 β21 β22 : Type} {o : Option (β1 × β2 × β3 × β4 × β5 × β6 × β7 × β8 × β9 × β10 × β11 × β12 × β13 × β14 × β15 × β16 × β17 × β18 × β19 × β20 × β21 × β22)} {k : β1 → β2 → β3 → β4 → β5 → β6 → β7 → β8 → β9 → β10 → β11 → β12 → β13 → β14 → β15 → β16 → β17 → β18 → β19 → β20 → β21 → β22 → Option α} {R : α} (h : gx_b22 o k = some R) : ∃ b1 b2 b3 b4 b5 b6 b7 b8 b9 b10 b11 b12 b13 b14 b15 b16 b17 b18 b19 b20 b21 b22, o = some (b1, b2, b3, b4, b5, b6, b7, b8, b9, b10, b11, b12, b13, b14, b15, b16, b17, b18, b19, b20, b21, b22) ∧ k b1 b2 b3 b4 b5 b6 b7 b8 b9 b10 b11 b12 b13 b14 b15 b16 b17 b18 b19 b20 b21 b22 = some R := by
  cases o with
  | none => exact nomatch h
  | some r => exact ⟨r.1, r.2.1, r.2.2.1, r.2.2.2.1, r.2.2.2.2.1, r.2.2.2.2.2.1, r.2.2.2.2.2.2.1, r.2.2.2.2.2.2.2.1, r.2.2.2.2.2.2.2.2.1, r.2.2.2.2.2.2.2.2.2.1, r.2.2.2.2.2.2.2.2.2.2.1, r.2.2.2.2.2.2.2.2.2.2.2.1, r.2.2.2.2.2.2.2.2.2.2.2.2.1, r.2.2.2.2.2.2.2.2.2.2.2.2.2.1, r.2.2.2.2.2.2.2.2.2.2.2.2.2.2.1, r.2.2.2.2.2.2.2.2.2.2.2.2.2.2.2.1, r.2.2.2.2.2.2.2.2.2.2.2.2.2.2.2.2.1, r.2.2.2.2.2.2.2.2.2.2.2.2.2.2.2.2.2.1, r.2.2.2.2.2.2.2.2.2.2.2.2.2.2.2.2.2.2.1, r.2.2.2.2.2.2.2.2.2.2.2.2.2.2.2.2.2.2.2.1, r.2.2.2.2.2.2.2.2.2.2.2.2.2.2.2.2.2.2.2.2.1, r.2.2.2.2.2.2.2.2.2.2.2.2.2.2.2.2.2.2.2.2.2, rfl, h⟩
def gx_b23 {α β1 β2 β3 β4 β5 β6 β7 β8 β9 β10 β11 β12 β13 β14 β15 β16 β17 β18 β19 β20 β21 β22 β23 : Type} (o : Option (β1 × β2 × β3 × β4 × β5 × β6 × β7 × β8 × β9 × β10 × β11 × β12 × β13 × β14 × β15 × β16 × β17 × β18 × β19 × β20 × β21 × β22 × β23)) (k : β1 → β2 → β3 → β4 → β5 → β6 → β7 → β8 → β9 → β10 → β11 → β12 → β13 → β14 → β15 → β16 → β17 → β18 → β19 → β20 → β21 → β22 → β23 → Option α) : Option α := o.bind (fun r => k r.1 r.2.1 r.2.2.1 r.2.2.2.1 r.2.2.2.2.1 r.2.2.2.2.2.1 r.2.2.2.2.2.2.1 r.2.2.2.2.2.2.2.1 r.2.2.2.2.2.2.2.2.1 r.2.2.2.2.2.2.2.2.2.1 r.2.2.2.2.2.2.2.2.2.2.1 r.2.2.2.2.2.2.2.2.2.2.2.1 r.2.2.2.2.2.2.2.2.2.2.2.2.1 r.2.2.2.2.2.2.2.2.2.2.2.2.2.1 r.2.2.2.2.2.2.2.2.2.2.2.2.2.2.1 r.2.2.2.2.2.2.2.2.2.2.2.2.2.2.2.1 r.2.2.2.2.2.2.2.2.2.2.2.2.2.2.2.2.1 r.2.2.2.2.2.2.2.2.2.2.2.2.2.2.2.2.2.1 r.2.2.2.2.2.2.2.2.2.2.2.2.2.2.2.2.2.2.1 r.2.2.2.2.2.2.2.2.2.2.2.2.2.2.2.2.2.2.2.1 r.2.2.2.2.2.2.2.2.2.2.2.2.2.2.2.2.2.2.2.2.1 r.2.2.2.2.2.2.2.2.2.2.2.2.2.2.2.2.2.2.2.2.2.1 r.2.2.2.2.2.2.2.2.2.2.2.2.2.2.2.2.2.2.2.2.2.2)
theorem q_b23 {α β1 β2 β3 β4 β5 β6 β7 β8 β9 β10 β11 β12 β13 β14 β15 β16 β17 β18 β19 β20 β21 β22 β23 : Type} {o : Option (β1 × β2 × β3 × β4 × β5 × β6 × β7 × β8 × β9 × β10 × β11 × β12 × β13 × β14 × β15 × β16 × β17 × β18 × β19 × β20 × β21 × β22 × β23)} {k : β1 → β2 → β3 → β4 → β5 → β6 → β7 → β8 → β9 → β10 → β11 → β12 → β13 → β14 → β15 → β16 → β17 → β18 → β19 → β20 → β21 → β22 → β23 → Option α} {R : α} (h : gx_b23 o k = some R) : ∃ b1 b2 b3 b4 b5 b6 b7 b8 b9 b10 b11 b12 b13 b14 b15 b16 b17 b18 b19 b20 b21 b22 b23, o = some (b1, b2, b3, b4, b5, b6, b7, b8, b9, b10, b11, b12, b13, b14, b15, b16, b17, b18, b19, b20, b21, b22, b23) ∧ k b1 b2 b3 b4 b5 b6 b7 b8 b9 b10 b11 b12 b13 b14 b15 b16 b17 b18 b19 b20 b21 b22 b23 = some R := by
  cases o with
  | none => exact nomatch h
  | some r => exact ⟨r.1, r.2.1, r.2.2.1, r.2.2.2.1, r.2.2.2.2.1, r.2.2.2.2.2.1, r.2.2.2.2.2.2.1, r.2.2.2.2.2.2.2.1, r.2.2.2.2.2.2.2.2.1, r.2.2.2.2.2.2.2.2.2.1, r.2.2.2.2.2.2.2.2.2.2.1, r.2.2.2.2.2.2.2.2.2.2.2.1, r.2.2.2.2.2.2.2.2.2.2.2.2.1, r.2.2.2.2.2.2.2.2.2.2.2.2.2.1, r.2.2.2.2.2.2.2.2.2.2.2.2.2.2.1, r.2.2.2.2.2.2.2.2.2.2.2.2.2.2.2.1, r.2.2.2.2.2.2.2.2.2.2.2.2.2.2.2.2.1, r.2.2.2.2.2.2.2.2.2.2.2.2.2.2.2.2.2.1, r.2.2.2.2.2.2.2.2.2.2.2.2.2.2.2.2.2.2.1, r.2.2.2.2.2.2.2.2.2.2.2.2.2.2.2.2.2.2.2.1, r.2.2.2.2.2.2.2.2.2.2.2.2.2.2.2.2.2.2.2.2.1, r.2.2.2.2.2.2.2.2.2.2.2.2.2.2.2.2.2.2.2.2.2.1, r.2.2.2.2.2.2.2.2.2.2.2.2.2.2.2.2.2.2.2.2.2.2, rfl, h⟩
def gx_b24 {α β1 β2 β3 β4 β5 β6 β7 β8 β9 β10 β11 β12 β13 β14 β15 β16 β17 β18 β19 β20 β21 β22 β23 β24 : Type} (o : Option (β1 × β2 × β3 × β4 × β5 × β6 × β7 × β8 × β9 × β10 × β11 × β12 × β13 × β14 × β15 × β16 × β17 × β18 × β19 × β20 × β21 × β22 × β23 × β24)) (k : β1 → β2 → β3 → β4 → β5 → β6 → β7 → β8 → β9 → β10 → β11 → β12 → β13 → β14 → β15 → β16 → β17 → β18 → β19 → β20 → β21 → β22 → β23 → β24 → Option α) : Option α := o.bind (fun r => k r.1 r.2.1 r.2.2.1 r.2.2.2.1 r.2.2.2.2.1 r.2.2.2.2.2.1 r.2.2.2.2.2.2.1 r.2.2.2.2.2.2.2.1 r.2.2.2.2.2.2.2.2.1 r.2.2.2.2.2.2.2.2.2.1 r.2.2.2.2.2.2.2.2.2.2.1 r.2.2.2.2.2.2.2.2.2.2.2.1 r.2.2.2.2.2.2.2.2.2.2.2.2.1 r.2.2.2.2.2.2.2.2.2.2.2.2.2.1 r.2.2.2.2.2.2.2.2.2.2.2.2.2.2.1 r.2.2.2.2.2.2.2.2.2.2.2.2.2.2.2.1 r.2.2.2.2.2.2.2.2.2.2.2.2.2.2.2.2.1 r.2.2.2.2.2.2.2.2.2.2.2.2.2.2.2.2.2.1 r.2.2.2.2.2.2.2.2.2.2.2.2.2.2.2.2.2.2.1 r.2.2.2.2.2.2.2.2.2.2.2.2.2.2.2.2.2.2.2.1 r.2.2.2.2.2.2.2.2.2.2.2.2.2.2.2.2.2.2.2.2.1 r.2.2.2.2.2.2.2.2.2.2.2.2.2.2.2.2.2.2.2.2.2.1 r.2.2.2.2.2.2.2.2.2.2.2.2.2.2.2.2.2.2.2.2.2.2.1 r.2.2.2.2.2.2.2.2.2.2.2.2.2.2.2.2.2.2.2.2.2.2.2)
theorem q_b24 {α β1 β2 β3 β4 β5 β6 β7 β8 β9 β10 β11 β12 β13 β14 β15 β16 β17 β18 β19 β20 β21 β22 β23 β24 : Type} {o : Option (β1 × β2 × β3 × β4 × β5 × β6 × β7 × β8 × β9 × β10 × β11 × β12 × β13 × β14 × β15 × β16 × β17 × β18 × β19 × β20 × β21 × β22 × β23 × β24)} {k : β1 → β2 → β3 → β4 → β5 → β6 → β7 → β8 → β9 → β10 → β11 → β12 → β13 → β14 → β15 → β16 → β17 → β18 → β19 → β20 → β21 → β22 → β23 → β24 → Option α} {R : α} (h : gx_b24 o k = some R) : ∃ b1 b2 b3 b4 b5 b6 b7 b8 b9 b10 b11 b12 b13 b14 b15 b16 b17 b18 b19 b20 b21 b22 b23 b24, o = some (b1, b2, b3, b4, b5, b6, b7, b8, b9, b10, b11, b12, b13, b14, b15, b16, b17, b18, b19, b20, b21, b22, b23, b24) ∧ k b1 b2 b3 b4 b5 b6 b7 b8 b9 b10 b11 b12 b13 b14 b15 b16 b17 b18 b19 b20 b21 b22 b23 b24 = some R := by
  cases o with
  | none => exact nomatch h
  | some r => exact ⟨r.1, r.2.1, r.2.2.1, r.2.2.2.1, r.2.2.2.2.1, r.2.2.2.2.2.1, r.2.2.2.2.2.2.1, r.2.2.2.2.2.2.2.1, r.2.2.2.2.2.2.2.2.1, r.2.2.2.2.2.2.2.2.2.1, r.2.2.2.2.2.2.2.2.2.2.1, r.2.2.2.2.2.2.2.2.2.2.2.1, r.2.2.2.2.2.2.2.2.2.2.2.2.1, r.2.2.2.2.2.2.2.2.2.2.2.2.2.1, r.2.2.2.2.2.2.2.2.2.2.2.2.2.2.1, r.2.2.2.2.2.2.2.2.2.2.2.2.2.2.2.1, r.2.2.2.2.2.2.2.2.2.2.2.2.2.2.2.2.1, r.2.2.2.2.2.2.2.2.2.2.2.2.2.2.2.2.2.1, r.2.2.2.2.2.2.2.2.2.2.2.2.2.2.2.2.2.2.1, r.2.2.2.2.2.2.2.2.2.2.2.2.2.2.2.2.2.2.2.1, r.2.2.2.2.2.2.2.2.2.2.2.2.2.2.2.2.2.2.2.2.1, r.2.2.2.2.2.2.2.2.2.2.2.2.2.2.2.2.2.2.2.2.2.1, r.2.2.2.2.2.2.2.2.2.2.2.2.2.2.2.2.2.2.2.2.2.2.1, r.2.2.2.2.2.2.2.2.2.2.2.2.2.2.2.2.2.2.2.2.2.2.2, rfl, h⟩
theorem k_fm {α : Type} {ws ws' : List α} {is : List Nat} (h : is.map (fun i => ws[i]?) = ws'.map some) : is.filterMap (fun i => ws[i]?) = ws' := by
  have h2 : (is.map (fun i => ws[i]?)).filterMap id = (ws'.map some).filterMap id := by rw [h]
  rw [List.filterMap_map, List.filterMap_map] at h2
  simpa using h2
abbrev rd_P (av : List Value) (D : va_G) (ca : Nat → ClassId) (ws : va_W) : Array Value → State → Prop := va_Pc av (fun U => va_P D vwCl ws U.heap ∧ va_K D vwCl (tyG ca) U)
abbrev wr_P (av : List Value) (D : va_G) (ca : Nat → ClassId) (ws : va_W) (sz : Nat) : Array Value → State → Prop := va_Pc av (fun U => U.heap.size = sz ∧ va_P D vwCl ws U.heap ∧ va_K D vwCl (tyG ca) U ∧ va_D (fun _ => True) ws)
abbrev wr_B (D : va_G) (w0 : va_W) (sz : Nat) (w1 : va_W) : Unit → State → Prop := fun _ t => va_P D vwCl w1 t.heap ∧ va_D (va_A w0 sz) w1
theorem rd_blind {av : List Value} {D : va_G} {ca : Nat → ClassId} {ws : va_W} : FrameBlind (rd_P av D ca ws) := fun a U g mk q => by
  obtain ⟨q0, qP, qK⟩ := q
  exact ⟨q0, qP, va_K.moved (u := U) (U := U.calling g mk a) (Vm.Alike.refl U.vm) qK⟩
theorem wr_blind {av : List Value} {D : va_G} {ca : Nat → ClassId} {ws : va_W} {sz : Nat} : FrameBlind (wr_P av D ca ws sz) := fun a U g mk q => by
  obtain ⟨q0, q1, qP, qK, qD⟩ := q
  exact ⟨q0, q1, qP, va_K.moved (u := U) (U := U.calling g mk a) (Vm.Alike.refl U.vm) qK, qD⟩
theorem rd_ofI {l : Launch} {y : MethodName} {cc : ByteArray} {maxL : Nat} {rm : Room} {av : List Value} {D : va_G} {ca : Nat → ClassId} {ws : va_W} {r : Int32} (hy : plainFor y = true) (hlen : (lg_sl av).length ≤ maxL)
    (body : ∀ (p : Program) (e : Env) (s : State) (m : MethodId) (below : List Frame) (meth : Method) (c : Code) (Q : State → Prop) (ar : Array Value) (ls : Array Slot),
      p.tables.exec = Jvm.exec → c.code = cc → c.maxLocals = maxL → (∀ w ∈ TT, w.before ar s = true) → s.vm.findClass y.cls = some m.cls → va_P D vwCl ws s.heap → va_K D vwCl (tyG ca) s → lv_has ls maxL (lv_args 0 av) →
      (∀ (v : Int32) (pc : Nat) (ls : Array Slot), decode cc pc = .ok (.ireturn, 1) → v = r → W p l e rm s m ar below meth c s.heap [] 0 0 Q (F0 m pc ls [.int v])) →
      W p l e rm s m ar below meth c s.heap [] 0 0 Q (F0 m 0 ls [])) :
    Met l y (Cond.code y cc maxL (some .int) :: TT) rm (rd_P av D ca ws) (vp_Si (fun x => x = r)) 0 0 (fun _ => False) := by
  refine va_MetF (cc := cc) (maxL := maxL) (ret := some .int) hy rfl ?_
  intro p e s m args below meth c s₁ B hml hv
  obtain ⟨rfl, hP, hK⟩ := hv
  have hts := atoms_spec (ws := Cond.code y cc maxL (some .int) :: TT) B.pre
  have hl := lv_entry av (n := maxL) hlen
  rw [lg_entry_eq]
  generalize (lg_sl av ++ List.replicate (maxL - (lg_sl av).length) Slot.unset).toArray = ls at hl ⊢
  exact body p e s m below meth c _ _ ls B.exec B.bytes hml (fun w h => hts w (List.mem_cons_of_mem _ h)) (findClass_of_methodNamed B.named) hP hK hl
    (fun v pc ls hd hvr => W.iret B.exec B.bytes B.returns (fun t ht hW => ⟨v, rfl, hvr, ht⟩) (fun q h => nomatch h) hd B.notSynchronized)
theorem wr_ofI {l : Launch} {y : MethodName} {cc : ByteArray} {maxL : Nat} {rm : Room} {av : List Value} {D : va_G} {ca : Nat → ClassId} {ws : va_W} {sz : Nat} {ρ : Type} {R : ρ} {val : ρ → Int32} {w1 : ρ → va_W} (hy : plainFor y = true) (hlen : (lg_sl av).length ≤ maxL)
    (body : ∀ (p : Program) (e : Env) (s : State) (m : MethodId) (below : List Frame) (meth : Method) (c : Code) (Q : State → Prop) (ar : Array Value) (ls : Array Slot),
      p.tables.exec = Jvm.exec → c.code = cc → c.maxLocals = maxL → (∀ w ∈ TT, w.before ar s = true) → s.vm.findClass y.cls = some m.cls → va_P D vwCl ws s.heap → va_K D vwCl (tyG ca) s → ∀ A : Nat → Prop, va_D A ws → (∀ q : Nat, s.heap.size ≤ q → A q) → lv_has ls maxL (lv_args 0 av) →
      (∀ (x : ρ) (H : Heap) (locs : List Loc) (pc : Nat) (ls : Array Slot), decode cc pc = .ok (.ireturn, 1) → some x = some R → va_P D vwCl (w1 x) H → va_D A (w1 x) → va_S A s.heap H locs → W p l e rm s m ar below meth c H locs 0 0 Q (F0 m pc ls [.int (val x)])) →
      W p l e rm s m ar below meth c s.heap [] 0 0 Q (F0 m 0 ls [])) :
    Met l y (Cond.code y cc maxL (some .int) :: TT) rm (wr_P av D ca ws sz) (va_Qi (fun r (_ : Unit) => r = val R) (wr_B D ws sz (w1 R)) (va_A ws sz)) 0 0 (va_A ws sz) := by
  refine va_MetF (cc := cc) (maxL := maxL) (ret := some .int) hy rfl ?_
  intro p e s m args below meth c s₁ B hml hv
  obtain ⟨rfl, hsz, hP, hK, hD0⟩ := hv
  subst hsz
  have hD := hD0.self (sz := s.heap.size)
  have hts := atoms_spec (ws := Cond.code y cc maxL (some .int) :: TT) B.pre
  have hl := lv_entry av (n := maxL) hlen
  rw [lg_entry_eq]
  generalize (lg_sl av ++ List.replicate (maxL - (lg_sl av).length) Slot.unset).toArray = ls at hl ⊢
  refine body p e s m below meth c _ _ ls B.exec B.bytes hml (fun w h => hts w (List.mem_cons_of_mem _ h)) (findClass_of_methodNamed B.named) hP hK _ hD (fun q h => Or.inr h) hl ?_
  intro x H locs pc ls hd hxR hP hD hS
  cases hxR
  exact W.iret B.exec B.bytes B.returns (fun t ht hW => ⟨⟨_, (), rfl, rfl, by rw [ht]; exact hP, hD⟩, hS.F ht⟩) hS.2.2 hd B.notSynchronized
theorem rd_ofJ {l : Launch} {y : MethodName} {cc : ByteArray} {maxL : Nat} {rm : Room} {av : List Value} {D : va_G} {ca : Nat → ClassId} {ws : va_W} {r : Int64} (hy : plainFor y = true) (hlen : (lg_sl av).length ≤ maxL)
    (body : ∀ (p : Program) (e : Env) (s : State) (m : MethodId) (below : List Frame) (meth : Method) (c : Code) (Q : State → Prop) (ar : Array Value) (ls : Array Slot),
      p.tables.exec = Jvm.exec → c.code = cc → c.maxLocals = maxL → (∀ w ∈ TT, w.before ar s = true) → s.vm.findClass y.cls = some m.cls → va_P D vwCl ws s.heap → va_K D vwCl (tyG ca) s → lv_has ls maxL (lv_args 0 av) →
      (∀ (v : Int64) (pc : Nat) (ls : Array Slot), decode cc pc = .ok (.lreturn, 1) → v = r → W p l e rm s m ar below meth c s.heap [] 0 0 Q (F0 m pc ls [.long v])) →
      W p l e rm s m ar below meth c s.heap [] 0 0 Q (F0 m 0 ls [])) :
    Met l y (Cond.code y cc maxL (some .long) :: TT) rm (rd_P av D ca ws) (vp_Sl (fun x => x = r)) 0 0 (fun _ => False) := by
  refine va_MetF (cc := cc) (maxL := maxL) (ret := some .long) hy rfl ?_
  intro p e s m args below meth c s₁ B hml hv
  obtain ⟨rfl, hP, hK⟩ := hv
  have hts := atoms_spec (ws := Cond.code y cc maxL (some .long) :: TT) B.pre
  have hl := lv_entry av (n := maxL) hlen
  rw [lg_entry_eq]
  generalize (lg_sl av ++ List.replicate (maxL - (lg_sl av).length) Slot.unset).toArray = ls at hl ⊢
  exact body p e s m below meth c _ _ ls B.exec B.bytes hml (fun w h => hts w (List.mem_cons_of_mem _ h)) (findClass_of_methodNamed B.named) hP hK hl
    (fun v pc ls hd hvr => W.lret B.exec B.bytes B.returns (fun t ht hW => ⟨v, rfl, hvr, ht⟩) (fun q h => nomatch h) hd B.notSynchronized)
theorem wr_ofJ {l : Launch} {y : MethodName} {cc : ByteArray} {maxL : Nat} {rm : Room} {av : List Value} {D : va_G} {ca : Nat → ClassId} {ws : va_W} {sz : Nat} {ρ : Type} {R : ρ} {val : ρ → Int64} {w1 : ρ → va_W} (hy : plainFor y = true) (hlen : (lg_sl av).length ≤ maxL)
    (body : ∀ (p : Program) (e : Env) (s : State) (m : MethodId) (below : List Frame) (meth : Method) (c : Code) (Q : State → Prop) (ar : Array Value) (ls : Array Slot),
      p.tables.exec = Jvm.exec → c.code = cc → c.maxLocals = maxL → (∀ w ∈ TT, w.before ar s = true) → s.vm.findClass y.cls = some m.cls → va_P D vwCl ws s.heap → va_K D vwCl (tyG ca) s → ∀ A : Nat → Prop, va_D A ws → (∀ q : Nat, s.heap.size ≤ q → A q) → lv_has ls maxL (lv_args 0 av) →
      (∀ (x : ρ) (H : Heap) (locs : List Loc) (pc : Nat) (ls : Array Slot), decode cc pc = .ok (.lreturn, 1) → some x = some R → va_P D vwCl (w1 x) H → va_D A (w1 x) → va_S A s.heap H locs → W p l e rm s m ar below meth c H locs 0 0 Q (F0 m pc ls [.long (val x)])) →
      W p l e rm s m ar below meth c s.heap [] 0 0 Q (F0 m 0 ls [])) :
    Met l y (Cond.code y cc maxL (some .long) :: TT) rm (wr_P av D ca ws sz) (va_Ql (fun r (_ : Unit) => r = val R) (wr_B D ws sz (w1 R)) (va_A ws sz)) 0 0 (va_A ws sz) := by
  refine va_MetF (cc := cc) (maxL := maxL) (ret := some .long) hy rfl ?_
  intro p e s m args below meth c s₁ B hml hv
  obtain ⟨rfl, hsz, hP, hK, hD0⟩ := hv
  subst hsz
  have hD := hD0.self (sz := s.heap.size)
  have hts := atoms_spec (ws := Cond.code y cc maxL (some .long) :: TT) B.pre
  have hl := lv_entry av (n := maxL) hlen
  rw [lg_entry_eq]
  generalize (lg_sl av ++ List.replicate (maxL - (lg_sl av).length) Slot.unset).toArray = ls at hl ⊢
  refine body p e s m below meth c _ _ ls B.exec B.bytes hml (fun w h => hts w (List.mem_cons_of_mem _ h)) (findClass_of_methodNamed B.named) hP hK _ hD (fun q h => Or.inr h) hl ?_
  intro x H locs pc ls hd hxR hP hD hS
  cases hxR
  exact W.lret B.exec B.bytes B.returns (fun t ht hW => ⟨⟨_, (), rfl, rfl, by rw [ht]; exact hP, hD⟩, hS.F ht⟩) hS.2.2 hd B.notSynchronized
theorem rd_ofV {l : Launch} {y : MethodName} {cc : ByteArray} {maxL : Nat} {rm : Room} {av : List Value} {D : va_G} {ca : Nat → ClassId} {ws : va_W}  (hy : plainFor y = true) (hlen : (lg_sl av).length ≤ maxL)
    (body : ∀ (p : Program) (e : Env) (s : State) (m : MethodId) (below : List Frame) (meth : Method) (c : Code) (Q : State → Prop) (ar : Array Value) (ls : Array Slot),
      p.tables.exec = Jvm.exec → c.code = cc → c.maxLocals = maxL → (∀ w ∈ TT, w.before ar s = true) → s.vm.findClass y.cls = some m.cls → va_P D vwCl ws s.heap → va_K D vwCl (tyG ca) s → lv_has ls maxL (lv_args 0 av) →
      (∀ (pc : Nat) (ls : Array Slot), decode cc pc = .ok (.return_, 1) → W p l e rm s m ar below meth c s.heap [] 0 0 Q (F0 m pc ls [])) →
      W p l e rm s m ar below meth c s.heap [] 0 0 Q (F0 m 0 ls [])) :
    Met l y (Cond.code y cc maxL (none) :: TT) rm (rd_P av D ca ws) (va_Sv (fun _ => True)) 0 0 (fun _ => False) := by
  refine va_MetF (cc := cc) (maxL := maxL) (ret := none) hy rfl ?_
  intro p e s m args below meth c s₁ B hml hv
  obtain ⟨rfl, hP, hK⟩ := hv
  have hts := atoms_spec (ws := Cond.code y cc maxL (none) :: TT) B.pre
  have hl := lv_entry av (n := maxL) hlen
  rw [lg_entry_eq]
  generalize (lg_sl av ++ List.replicate (maxL - (lg_sl av).length) Slot.unset).toArray = ls at hl ⊢
  exact body p e s m below meth c _ _ ls B.exec B.bytes hml (fun w h => hts w (List.mem_cons_of_mem _ h)) (findClass_of_methodNamed B.named) hP hK hl
    (fun pc ls hd => W.vret B.exec B.bytes B.returns (fun t ht hW => ⟨rfl, trivial, ht⟩) (fun q h => nomatch h) hd B.notSynchronized)
theorem wr_ofV {l : Launch} {y : MethodName} {cc : ByteArray} {maxL : Nat} {rm : Room} {av : List Value} {D : va_G} {ca : Nat → ClassId} {ws : va_W} {sz : Nat} {ρ : Type} {R : ρ} {w1 : ρ → va_W} (hy : plainFor y = true) (hlen : (lg_sl av).length ≤ maxL)
    (body : ∀ (p : Program) (e : Env) (s : State) (m : MethodId) (below : List Frame) (meth : Method) (c : Code) (Q : State → Prop) (ar : Array Value) (ls : Array Slot),
      p.tables.exec = Jvm.exec → c.code = cc → c.maxLocals = maxL → (∀ w ∈ TT, w.before ar s = true) → s.vm.findClass y.cls = some m.cls → va_P D vwCl ws s.heap → va_K D vwCl (tyG ca) s → ∀ A : Nat → Prop, va_D A ws → (∀ q : Nat, s.heap.size ≤ q → A q) → lv_has ls maxL (lv_args 0 av) →
      (∀ (x : ρ) (H : Heap) (locs : List Loc) (pc : Nat) (ls : Array Slot), decode cc pc = .ok (.return_, 1) → some x = some R → va_P D vwCl (w1 x) H → va_D A (w1 x) → va_S A s.heap H locs → W p l e rm s m ar below meth c H locs 0 0 Q (F0 m pc ls [])) →
      W p l e rm s m ar below meth c s.heap [] 0 0 Q (F0 m 0 ls [])) :
    Met l y (Cond.code y cc maxL (none) :: TT) rm (wr_P av D ca ws sz) (va_Qv (fun (_ : Unit) => True) (wr_B D ws sz (w1 R)) (va_A ws sz)) 0 0 (va_A ws sz) := by
  refine va_MetF (cc := cc) (maxL := maxL) (ret := none) hy rfl ?_
  intro p e s m args below meth c s₁ B hml hv
  obtain ⟨rfl, hsz, hP, hK, hD0⟩ := hv
  subst hsz
  have hD := hD0.self (sz := s.heap.size)
  have hts := atoms_spec (ws := Cond.code y cc maxL (none) :: TT) B.pre
  have hl := lv_entry av (n := maxL) hlen
  rw [lg_entry_eq]
  generalize (lg_sl av ++ List.replicate (maxL - (lg_sl av).length) Slot.unset).toArray = ls at hl ⊢
  refine body p e s m below meth c _ _ ls B.exec B.bytes hml (fun w h => hts w (List.mem_cons_of_mem _ h)) (findClass_of_methodNamed B.named) hP hK _ hD (fun q h => Or.inr h) hl ?_
  intro x H locs pc ls hd hxR hP hD hS
  cases hxR
  exact W.vret B.exec B.bytes B.returns (fun t ht hW => ⟨⟨(), rfl, trivial, by rw [ht]; exact hP, hD⟩, hS.F ht⟩) hS.2.2 hd B.notSynchronized
theorem rd_ofZ {l : Launch} {y : MethodName} {cc : ByteArray} {maxL : Nat} {rm : Room} {av : List Value} {D : va_G} {ca : Nat → ClassId} {ws : va_W} {r : Int32} (hy : plainFor y = true) (hlen : (lg_sl av).length ≤ maxL)
    (body : ∀ (p : Program) (e : Env) (s : State) (m : MethodId) (below : List Frame) (meth : Method) (c : Code) (Q : State → Prop) (ar : Array Value) (ls : Array Slot),
      p.tables.exec = Jvm.exec → c.code = cc → c.maxLocals = maxL → (∀ w ∈ TT, w.before ar s = true) → s.vm.findClass y.cls = some m.cls → va_P D vwCl ws s.heap → va_K D vwCl (tyG ca) s → lv_has ls maxL (lv_args 0 av) →
      (∀ (v : Int32) (pc : Nat) (ls : Array Slot), decode cc pc = .ok (.ireturn, 1) → narrow .boolean (.int v) = .int v → v = r → W p l e rm s m ar below meth c s.heap [] 0 0 Q (F0 m pc ls [.int v])) →
      W p l e rm s m ar below meth c s.heap [] 0 0 Q (F0 m 0 ls [])) :
    Met l y (Cond.code y cc maxL (some .boolean) :: TT) rm (rd_P av D ca ws) (vp_Si (fun x => x = r)) 0 0 (fun _ => False) := by
  refine va_MetF (cc := cc) (maxL := maxL) (ret := some .boolean) hy rfl ?_
  intro p e s m args below meth c s₁ B hml hv
  obtain ⟨rfl, hP, hK⟩ := hv
  have hts := atoms_spec (ws := Cond.code y cc maxL (some .boolean) :: TT) B.pre
  have hl := lv_entry av (n := maxL) hlen
  rw [lg_entry_eq]
  generalize (lg_sl av ++ List.replicate (maxL - (lg_sl av).length) Slot.unset).toArray = ls at hl ⊢
  exact body p e s m below meth c _ _ ls B.exec B.bytes hml (fun w h => hts w (List.mem_cons_of_mem _ h)) (findClass_of_methodNamed B.named) hP hK hl
    (fun v pc ls hd hz hvr => W.zret B.exec B.bytes B.returns hz (fun t ht hW => ⟨v, rfl, hvr, ht⟩) (fun q h => nomatch h) hd B.notSynchronized)
theorem wr_ofZ {l : Launch} {y : MethodName} {cc : ByteArray} {maxL : Nat} {rm : Room} {av : List Value} {D : va_G} {ca : Nat → ClassId} {ws : va_W} {sz : Nat} {ρ : Type} {R : ρ} {val : ρ → Int32} {w1 : ρ → va_W} (hy : plainFor y = true) (hlen : (lg_sl av).length ≤ maxL)
    (body : ∀ (p : Program) (e : Env) (s : State) (m : MethodId) (below : List Frame) (meth : Method) (c : Code) (Q : State → Prop) (ar : Array Value) (ls : Array Slot),
      p.tables.exec = Jvm.exec → c.code = cc → c.maxLocals = maxL → (∀ w ∈ TT, w.before ar s = true) → s.vm.findClass y.cls = some m.cls → va_P D vwCl ws s.heap → va_K D vwCl (tyG ca) s → ∀ A : Nat → Prop, va_D A ws → (∀ q : Nat, s.heap.size ≤ q → A q) → lv_has ls maxL (lv_args 0 av) →
      (∀ (x : ρ) (H : Heap) (locs : List Loc) (pc : Nat) (ls : Array Slot), decode cc pc = .ok (.ireturn, 1) → narrow .boolean (.int (val x)) = .int (val x) → some x = some R → va_P D vwCl (w1 x) H → va_D A (w1 x) → va_S A s.heap H locs → W p l e rm s m ar below meth c H locs 0 0 Q (F0 m pc ls [.int (val x)])) →
      W p l e rm s m ar below meth c s.heap [] 0 0 Q (F0 m 0 ls [])) :
    Met l y (Cond.code y cc maxL (some .boolean) :: TT) rm (wr_P av D ca ws sz) (va_Qi (fun r (_ : Unit) => r = val R) (wr_B D ws sz (w1 R)) (va_A ws sz)) 0 0 (va_A ws sz) := by
  refine va_MetF (cc := cc) (maxL := maxL) (ret := some .boolean) hy rfl ?_
  intro p e s m args below meth c s₁ B hml hv
  obtain ⟨rfl, hsz, hP, hK, hD0⟩ := hv
  subst hsz
  have hD := hD0.self (sz := s.heap.size)
  have hts := atoms_spec (ws := Cond.code y cc maxL (some .boolean) :: TT) B.pre
  have hl := lv_entry av (n := maxL) hlen
  rw [lg_entry_eq]
  generalize (lg_sl av ++ List.replicate (maxL - (lg_sl av).length) Slot.unset).toArray = ls at hl ⊢
  refine body p e s m below meth c _ _ ls B.exec B.bytes hml (fun w h => hts w (List.mem_cons_of_mem _ h)) (findClass_of_methodNamed B.named) hP hK _ hD (fun q h => Or.inr h) hl ?_
  intro x H locs pc ls hd hz hxR hP hD hS
  cases hxR
  exact W.zret B.exec B.bytes B.returns hz (fun t ht hW => ⟨⟨_, (), rfl, rfl, by rw [ht]; exact hP, hD⟩, hS.F ht⟩) hS.2.2 hd B.notSynchronized
theorem k_warmc {y : MethodName} {bytes : ByteArray} {maxL : Nat} {ret : Option FieldType} {args : Array Value} {s : State} (hts : ∀ w ∈ TT, w.before args s = true) (h : Cond.code y bytes maxL ret ∈ TT) : ∀ w ∈ Cond.code y bytes maxL ret :: TT, ∀ (a' : Array Value) (U : State), s.WarmedH U.vm → w.before a' U = true := fun w hw => by
  rcases List.mem_cons.mp hw with rfl | hw
  · exact k_warm hts _ h
  · exact k_warm hts _ hw
abbrev k_hd (y : MethodName) (n : Nat) : Prop := y.cls ≠ "java/lang/invoke/MethodHandle" ∧ y.cls ≠ "java/lang/invoke/VarHandle" ∧ (parseMethodDescriptor y.desc).map (fun d => d.parameters.length) = some n
abbrev k_cal (y : MethodName) (bytes : ByteArray) (maxL : Nat) (ret : Option FieldType) (n : Nat) : Prop := Cond.code y bytes maxL ret ∈ TT ∧ Cond.initialized y.cls ∈ TT ∧ k_hd y n
abbrev k_vir (y : MethodName) : Prop := Cond.instanceMethod y ∈ TT ∧ Cond.selects y.cls y y ∈ TT
theorem k_len {y : MethodName} {n : Nat} (hd : k_hd y n) : ∀ sig, parseMethodDescriptor y.desc = some sig → n = sig.parameters.length := fun sig h => by
  have h2 := hd.2.2
  rw [h] at h2
  exact (Option.some.inj h2).symm
theorem k_cB {R : Room} {s : State} {args : Array Value} {own : String} {index : Nat} {y : MethodName} {bytes : ByteArray} {maxL : Nat} {ret : Option FieldType} {rm : Room} {mc ms n : Nat} (hts : ∀ w ∈ TT, w.before args s = true) (kc : k_cal y bytes maxL ret n) (hk : Cond.methodLink own index y ∈ TT) (hrc : rm.cells = mc) (hrs : rm.slots = ms) (hR : rm.frames + 1 ≤ R.frames ∧ 8 + (maxL + 11) + rm.locals ≤ R.locals) : CallB R s args own index y bytes maxL ret (Cond.code y bytes maxL ret :: TT) rm mc ms n :=
  ⟨hrc, hrs, hR.1, hR.2, k_warmc hts kc.1, List.mem_cons_self, hts _ kc.1, hts _ kc.2.1, ⟨kc.2.2.1, kc.2.2.2.1⟩, k_len kc.2.2, hts _ hk⟩
theorem k_cN {R : Room} {s : State} {args : Array Value} {own host : String} {index : Nat} {y : MethodName} {bytes : ByteArray} {maxL : Nat} {ret : Option FieldType} {rm : Room} {mc ms n : Nat} (hts : ∀ w ∈ TT, w.before args s = true) (kc : k_cal y bytes maxL ret n) (hk : Cond.methodLinkNest own index y host ∈ TT) (hrc : rm.cells = mc) (hrs : rm.slots = ms) (hR : rm.frames + 1 ≤ R.frames ∧ 8 + (maxL + 11) + rm.locals ≤ R.locals) : va_CN R s args own index y host bytes maxL ret (Cond.code y bytes maxL ret :: TT) rm mc ms n :=
  ⟨⟨hrc, hrs, hR.1, hR.2, k_warmc hts kc.1, List.mem_cons_self⟩, hts _ kc.1, hts _ kc.2.1, ⟨kc.2.2.1, kc.2.2.2.1⟩, k_len kc.2.2, hts _ hk⟩
theorem k_rVI {p : Program} {l : Launch} {e : Env} {R : Room} {s : State} {m : MethodId} {ar : Array Value} {below : List Frame} {meth : Method} {c : Code} {H : Heap} {locs : List Loc} {cells slots : Nat} {Q : State → Prop} {y : MethodName} {bytes cc : ByteArray} {maxL nL n index : Nat} {ret : Option FieldType} {rm : Room} {own : String} {As rest st0 : List Value} {pc : Nat} {ls : Array Slot} {D : va_G} {ca : Nat → ClassId} {wc ws : va_W} {b ci : Nat} {fs : List Value} {q : vw_C} {r : Int32} (hx : p.tables.exec = Jvm.exec) (hb : c.code = cc) (hml : c.maxLocals = nL) (hown : s.vm.findClass own = some m.cls) (hts : ∀ w ∈ TT, w.before ar s = true)
    (hM : Met l y (Cond.code y bytes maxL ret :: TT) rm (rd_P (.ref b :: As) D ca wc) (vp_Si (fun x => x = r)) 0 0 (fun _ => False)) (kc : k_cal y bytes maxL ret n) (kv : k_vir y) (hk : Cond.methodLink own index y ∈ TT) (hR : rm.frames + 1 ≤ R.frames ∧ 8 + (maxL + 11) + rm.locals ≤ R.locals) (hrc : rm.cells = 0) (hrs : rm.slots = 0)
    (hP : va_P D vwCl ws H) (hK : va_K D vwCl (tyG ca) s) (is : List Nat) (hs : is.filterMap (fun i => ws[i]?) = wc) (q0 : Nat) (hq : wc[q0]? = some (b, .inr (ci, fs))) (hc : vwCl[ci]? = some q) (hqc : q.1 = y.cls) (hn : As.length = n) (hsz : ls.size = nL) (hw : (rest.map fun v => v.category).sum ≤ 8) (hst : st0 = As.reverse ++ .ref b :: rest) (hdg : decode cc pc = .ok (.invokevirtual index, 3)) (hf : cells ≤ R.cells ∧ slots ≤ R.slots)
    (kk : W p l e R s m ar below meth c H locs cells slots Q (F0 m (pc + 3) ls (.int r :: rest))) : W p l e R s m ar below meth c H locs cells slots Q (F0 m pc ls st0) :=
  vp_callSi (va_Run.run (va_runV (As := As) (rest := rest) ⟨hx, hb, hml, hown, hts⟩ hM ⟨k_cB hts kc hk hrc hrs hR, hts _ kv.1, hts _ kv.2⟩ ⟨rd_blind, (by obtain ⟨cellB, a1, a2, a3⟩ := va_recv hK (hP.sub is hs) hc hq; exact ⟨cellB, a1, a2, by rw [← hqc]; exact a3⟩), fun U hU hW => ⟨rfl, by rw [hU]; exact hP.sub is hs, va_K.moved hW.alike hK⟩⟩ rfl hn hsz hst (lv_room hw) hdg hf)) (fun x hx9 => by subst hx9; exact kk)
theorem k_wVI {p : Program} {l : Launch} {e : Env} {R : Room} {s : State} {m : MethodId} {ar : Array Value} {below : List Frame} {meth : Method} {c : Code} {H : Heap} {locs : List Loc} {cells slots : Nat} {Q : State → Prop} {y : MethodName} {bytes cc : ByteArray} {maxL nL n index : Nat} {ret : Option FieldType} {rm : Room} {own : String} {As rest st0 : List Value} {pc : Nat} {ls : Array Slot} {D : va_G} {ca : Nat → ClassId} {wc ws : va_W} {b ci : Nat} {fs : List Value} {q : vw_C} {r : Int32} {wr w1 w2 : va_W} {A : Nat → Prop} {H0 : Heap} (hx : p.tables.exec = Jvm.exec) (hb : c.code = cc) (hml : c.maxLocals = nL) (hown : s.vm.findClass own = some m.cls) (hts : ∀ w ∈ TT, w.before ar s = true)
    (hM : Met l y (Cond.code y bytes maxL ret :: TT) rm (wr_P (.ref b :: As) D ca wc H.size) (va_Qi (fun x (_ : Unit) => x = r) (wr_B D wc H.size w1) (va_A wc H.size)) 0 0 (va_A wc H.size)) (kc : k_cal y bytes maxL ret n) (kv : k_vir y) (hk : Cond.methodLink own index y ∈ TT) (hR : rm.frames + 1 ≤ R.frames ∧ 8 + (maxL + 11) + rm.locals ≤ R.locals) (hrc : rm.cells = 0) (hrs : rm.slots = 0)
    (hP : va_P D vwCl ws H) (hK : va_K D vwCl (tyG ca) s) (hD : va_D A ws) (hS : va_S A H0 H locs) (hA : ∀ q : Nat, H0.size ≤ q → A q)
    (isC isR isF : List Nat) (hC : isC.map (fun i => ws[i]?) = wc.map some) (hCn : va_nd isC = true) (hRr : isR.map (fun i => ws[i]?) = wr.map some) (hRn : va_nd isR = true) (hdis : ∀ i ∈ isR, i ∉ isC) (hF : isF.map (fun i => (wr ++ w1)[i]?) = w2.map some) (hFn : va_nd isF = true)
    (q0 : Nat) (hq : wc[q0]? = some (b, .inr (ci, fs))) (hc : vwCl[ci]? = some q) (hqc : q.1 = y.cls) (hn : As.length = n) (hsz : ls.size = nL) (hw : (rest.map fun v => v.category).sum ≤ 8) (hst : st0 = As.reverse ++ .ref b :: rest) (hdg : decode cc pc = .ok (.invokevirtual index, 3)) (hf : cells ≤ R.cells ∧ slots ≤ R.slots)
    (kk : ∀ (H1 : Heap) (locs1 : List Loc), va_P D vwCl w2 H1 → va_D A w2 → va_S A H0 H1 locs1 → W p l e R s m ar below meth c H1 locs1 cells slots Q (F0 m (pc + 3) ls (.int r :: rest))) : W p l e R s m ar below meth c H locs cells slots Q (F0 m pc ls st0) := by
  have hPc : va_P D vwCl wc H := hP.sub isC (k_fm hC)
  have hDc : va_D A wc := hD.sub isC hCn hC
  have hFc := va_free (wc := wc) hD hS hA isC hC
  refine va_calli (va_runV (As := As) (rest := rest) ⟨hx, hb, hml, hown, hts⟩ hM ⟨k_cB hts kc hk hrc hrs hR, hts _ kv.1, hts _ kv.2⟩ ⟨wr_blind, (by obtain ⟨cellB, a1, a2, a3⟩ := va_recv hK hPc hc hq; exact ⟨cellB, a1, a2, by rw [← hqc]; exact a3⟩), fun U hU hW => ⟨rfl, by rw [hU], by rw [hU]; exact hPc, va_K.moved hW.alike hK, hDc.weaken (fun _ _ _ _ => trivial)⟩⟩ rfl hn hsz hst (lv_room hw) hdg hf) hS (fun q _ h => hFc q h) hFc (fun x u t H1 locs ht hvm hw9 hB hz1 hk1 hS => ?_)
  subst hw9
  obtain ⟨hP1, hD1⟩ := hB
  rw [ht] at hP1
  obtain ⟨hP, hD⟩ := va_join (wr := wr) (w1 := w1) hP hD isC isR hC hRr hRn hdis hk1 hFc hP1 hD1
  exact kk H1 locs (hP.sub isF (k_fm hF)) (hD.sub isF hFn hF) hS
theorem k_rVJ {p : Program} {l : Launch} {e : Env} {R : Room} {s : State} {m : MethodId} {ar : Array Value} {below : List Frame} {meth : Method} {c : Code} {H : Heap} {locs : List Loc} {cells slots : Nat} {Q : State → Prop} {y : MethodName} {bytes cc : ByteArray} {maxL nL n index : Nat} {ret : Option FieldType} {rm : Room} {own : String} {As rest st0 : List Value} {pc : Nat} {ls : Array Slot} {D : va_G} {ca : Nat → ClassId} {wc ws : va_W} {b ci : Nat} {fs : List Value} {q : vw_C} {r : Int64} (hx : p.tables.exec = Jvm.exec) (hb : c.code = cc) (hml : c.maxLocals = nL) (hown : s.vm.findClass own = some m.cls) (hts : ∀ w ∈ TT, w.before ar s = true)
    (hM : Met l y (Cond.code y bytes maxL ret :: TT) rm (rd_P (.ref b :: As) D ca wc) (vp_Sl (fun x => x = r)) 0 0 (fun _ => False)) (kc : k_cal y bytes maxL ret n) (kv : k_vir y) (hk : Cond.methodLink own index y ∈ TT) (hR : rm.frames + 1 ≤ R.frames ∧ 8 + (maxL + 11) + rm.locals ≤ R.locals) (hrc : rm.cells = 0) (hrs : rm.slots = 0)
    (hP : va_P D vwCl ws H) (hK : va_K D vwCl (tyG ca) s) (is : List Nat) (hs : is.filterMap (fun i => ws[i]?) = wc) (q0 : Nat) (hq : wc[q0]? = some (b, .inr (ci, fs))) (hc : vwCl[ci]? = some q) (hqc : q.1 = y.cls) (hn : As.length = n) (hsz : ls.size = nL) (hw : (rest.map fun v => v.category).sum ≤ 8) (hst : st0 = As.reverse ++ .ref b :: rest) (hdg : decode cc pc = .ok (.invokevirtual index, 3)) (hf : cells ≤ R.cells ∧ slots ≤ R.slots)
    (kk : W p l e R s m ar below meth c H locs cells slots Q (F0 m (pc + 3) ls (.long r :: rest))) : W p l e R s m ar below meth c H locs cells slots Q (F0 m pc ls st0) :=
  vp_callSl (va_Run.run (va_runV (As := As) (rest := rest) ⟨hx, hb, hml, hown, hts⟩ hM ⟨k_cB hts kc hk hrc hrs hR, hts _ kv.1, hts _ kv.2⟩ ⟨rd_blind, (by obtain ⟨cellB, a1, a2, a3⟩ := va_recv hK (hP.sub is hs) hc hq; exact ⟨cellB, a1, a2, by rw [← hqc]; exact a3⟩), fun U hU hW => ⟨rfl, by rw [hU]; exact hP.sub is hs, va_K.moved hW.alike hK⟩⟩ rfl hn hsz hst (lv_room hw) hdg hf)) (fun x hx9 => by subst hx9; exact kk)
theorem k_wVJ {p : Program} {l : Launch} {e : Env} {R : Room} {s : State} {m : MethodId} {ar : Array Value} {below : List Frame} {meth : Method} {c : Code} {H : Heap} {locs : List Loc} {cells slots : Nat} {Q : State → Prop} {y : MethodName} {bytes cc : ByteArray} {maxL nL n index : Nat} {ret : Option FieldType} {rm : Room} {own : String} {As rest st0 : List Value} {pc : Nat} {ls : Array Slot} {D : va_G} {ca : Nat → ClassId} {wc ws : va_W} {b ci : Nat} {fs : List Value} {q : vw_C} {r : Int64} {wr w1 w2 : va_W} {A : Nat → Prop} {H0 : Heap} (hx : p.tables.exec = Jvm.exec) (hb : c.code = cc) (hml : c.maxLocals = nL) (hown : s.vm.findClass own = some m.cls) (hts : ∀ w ∈ TT, w.before ar s = true)
    (hM : Met l y (Cond.code y bytes maxL ret :: TT) rm (wr_P (.ref b :: As) D ca wc H.size) (va_Ql (fun x (_ : Unit) => x = r) (wr_B D wc H.size w1) (va_A wc H.size)) 0 0 (va_A wc H.size)) (kc : k_cal y bytes maxL ret n) (kv : k_vir y) (hk : Cond.methodLink own index y ∈ TT) (hR : rm.frames + 1 ≤ R.frames ∧ 8 + (maxL + 11) + rm.locals ≤ R.locals) (hrc : rm.cells = 0) (hrs : rm.slots = 0)
    (hP : va_P D vwCl ws H) (hK : va_K D vwCl (tyG ca) s) (hD : va_D A ws) (hS : va_S A H0 H locs) (hA : ∀ q : Nat, H0.size ≤ q → A q)
    (isC isR isF : List Nat) (hC : isC.map (fun i => ws[i]?) = wc.map some) (hCn : va_nd isC = true) (hRr : isR.map (fun i => ws[i]?) = wr.map some) (hRn : va_nd isR = true) (hdis : ∀ i ∈ isR, i ∉ isC) (hF : isF.map (fun i => (wr ++ w1)[i]?) = w2.map some) (hFn : va_nd isF = true)
    (q0 : Nat) (hq : wc[q0]? = some (b, .inr (ci, fs))) (hc : vwCl[ci]? = some q) (hqc : q.1 = y.cls) (hn : As.length = n) (hsz : ls.size = nL) (hw : (rest.map fun v => v.category).sum ≤ 8) (hst : st0 = As.reverse ++ .ref b :: rest) (hdg : decode cc pc = .ok (.invokevirtual index, 3)) (hf : cells ≤ R.cells ∧ slots ≤ R.slots)
    (kk : ∀ (H1 : Heap) (locs1 : List Loc), va_P D vwCl w2 H1 → va_D A w2 → va_S A H0 H1 locs1 → W p l e R s m ar below meth c H1 locs1 cells slots Q (F0 m (pc + 3) ls (.long r :: rest))) : W p l e R s m ar below meth c H locs cells slots Q (F0 m pc ls st0) := by
  have hPc : va_P D vwCl wc H := hP.sub isC (k_fm hC)
  have hDc : va_D A wc := hD.sub isC hCn hC
  have hFc := va_free (wc := wc) hD hS hA isC hC
  refine va_calll (va_runV (As := As) (rest := rest) ⟨hx, hb, hml, hown, hts⟩ hM ⟨k_cB hts kc hk hrc hrs hR, hts _ kv.1, hts _ kv.2⟩ ⟨wr_blind, (by obtain ⟨cellB, a1, a2, a3⟩ := va_recv hK hPc hc hq; exact ⟨cellB, a1, a2, by rw [← hqc]; exact a3⟩), fun U hU hW => ⟨rfl, by rw [hU], by rw [hU]; exact hPc, va_K.moved hW.alike hK, hDc.weaken (fun _ _ _ _ => trivial)⟩⟩ rfl hn hsz hst (lv_room hw) hdg hf) hS (fun q _ h => hFc q h) hFc (fun x u t H1 locs ht hvm hw9 hB hz1 hk1 hS => ?_)
  subst hw9
  obtain ⟨hP1, hD1⟩ := hB
  rw [ht] at hP1
  obtain ⟨hP, hD⟩ := va_join (wr := wr) (w1 := w1) hP hD isC isR hC hRr hRn hdis hk1 hFc hP1 hD1
  exact kk H1 locs (hP.sub isF (k_fm hF)) (hD.sub isF hFn hF) hS
theorem k_rVV {p : Program} {l : Launch} {e : Env} {R : Room} {s : State} {m : MethodId} {ar : Array Value} {below : List Frame} {meth : Method} {c : Code} {H : Heap} {locs : List Loc} {cells slots : Nat} {Q : State → Prop} {y : MethodName} {bytes cc : ByteArray} {maxL nL n index : Nat} {ret : Option FieldType} {rm : Room} {own : String} {As rest st0 : List Value} {pc : Nat} {ls : Array Slot} {D : va_G} {ca : Nat → ClassId} {wc ws : va_W} {b ci : Nat} {fs : List Value} {q : vw_C} (hx : p.tables.exec = Jvm.exec) (hb : c.code = cc) (hml : c.maxLocals = nL) (hown : s.vm.findClass own = some m.cls) (hts : ∀ w ∈ TT, w.before ar s = true)
    (hM : Met l y (Cond.code y bytes maxL ret :: TT) rm (rd_P (.ref b :: As) D ca wc) (va_Sv (fun _ => True)) 0 0 (fun _ => False)) (kc : k_cal y bytes maxL ret n) (kv : k_vir y) (hk : Cond.methodLink own index y ∈ TT) (hR : rm.frames + 1 ≤ R.frames ∧ 8 + (maxL + 11) + rm.locals ≤ R.locals) (hrc : rm.cells = 0) (hrs : rm.slots = 0)
    (hP : va_P D vwCl ws H) (hK : va_K D vwCl (tyG ca) s) (is : List Nat) (hs : is.filterMap (fun i => ws[i]?) = wc) (q0 : Nat) (hq : wc[q0]? = some (b, .inr (ci, fs))) (hc : vwCl[ci]? = some q) (hqc : q.1 = y.cls) (hn : As.length = n) (hsz : ls.size = nL) (hw : (rest.map fun v => v.category).sum ≤ 8) (hst : st0 = As.reverse ++ .ref b :: rest) (hdg : decode cc pc = .ok (.invokevirtual index, 3)) (hf : cells ≤ R.cells ∧ slots ≤ R.slots)
    (kk : W p l e R s m ar below meth c H locs cells slots Q (F0 m (pc + 3) ls rest)) : W p l e R s m ar below meth c H locs cells slots Q (F0 m pc ls st0) :=
  va_csv (va_Run.run (va_runV (As := As) (rest := rest) ⟨hx, hb, hml, hown, hts⟩ hM ⟨k_cB hts kc hk hrc hrs hR, hts _ kv.1, hts _ kv.2⟩ ⟨rd_blind, (by obtain ⟨cellB, a1, a2, a3⟩ := va_recv hK (hP.sub is hs) hc hq; exact ⟨cellB, a1, a2, by rw [← hqc]; exact a3⟩), fun U hU hW => ⟨rfl, by rw [hU]; exact hP.sub is hs, va_K.moved hW.alike hK⟩⟩ rfl hn hsz hst (lv_room hw) hdg hf)) (fun _ => kk)
theorem k_wVV {p : Program} {l : Launch} {e : Env} {R : Room} {s : State} {m : MethodId} {ar : Array Value} {below : List Frame} {meth : Method} {c : Code} {H : Heap} {locs : List Loc} {cells slots : Nat} {Q : State → Prop} {y : MethodName} {bytes cc : ByteArray} {maxL nL n index : Nat} {ret : Option FieldType} {rm : Room} {own : String} {As rest st0 : List Value} {pc : Nat} {ls : Array Slot} {D : va_G} {ca : Nat → ClassId} {wc ws : va_W} {b ci : Nat} {fs : List Value} {q : vw_C} {wr w1 w2 : va_W} {A : Nat → Prop} {H0 : Heap} (hx : p.tables.exec = Jvm.exec) (hb : c.code = cc) (hml : c.maxLocals = nL) (hown : s.vm.findClass own = some m.cls) (hts : ∀ w ∈ TT, w.before ar s = true)
    (hM : Met l y (Cond.code y bytes maxL ret :: TT) rm (wr_P (.ref b :: As) D ca wc H.size) (va_Qv (fun (_ : Unit) => True) (wr_B D wc H.size w1) (va_A wc H.size)) 0 0 (va_A wc H.size)) (kc : k_cal y bytes maxL ret n) (kv : k_vir y) (hk : Cond.methodLink own index y ∈ TT) (hR : rm.frames + 1 ≤ R.frames ∧ 8 + (maxL + 11) + rm.locals ≤ R.locals) (hrc : rm.cells = 0) (hrs : rm.slots = 0)
    (hP : va_P D vwCl ws H) (hK : va_K D vwCl (tyG ca) s) (hD : va_D A ws) (hS : va_S A H0 H locs) (hA : ∀ q : Nat, H0.size ≤ q → A q)
    (isC isR isF : List Nat) (hC : isC.map (fun i => ws[i]?) = wc.map some) (hCn : va_nd isC = true) (hRr : isR.map (fun i => ws[i]?) = wr.map some) (hRn : va_nd isR = true) (hdis : ∀ i ∈ isR, i ∉ isC) (hF : isF.map (fun i => (wr ++ w1)[i]?) = w2.map some) (hFn : va_nd isF = true)
    (q0 : Nat) (hq : wc[q0]? = some (b, .inr (ci, fs))) (hc : vwCl[ci]? = some q) (hqc : q.1 = y.cls) (hn : As.length = n) (hsz : ls.size = nL) (hw : (rest.map fun v => v.category).sum ≤ 8) (hst : st0 = As.reverse ++ .ref b :: rest) (hdg : decode cc pc = .ok (.invokevirtual index, 3)) (hf : cells ≤ R.cells ∧ slots ≤ R.slots)
    (kk : ∀ (H1 : Heap) (locs1 : List Loc), va_P D vwCl w2 H1 → va_D A w2 → va_S A H0 H1 locs1 → W p l e R s m ar below meth c H1 locs1 cells slots Q (F0 m (pc + 3) ls rest)) : W p l e R s m ar below meth c H locs cells slots Q (F0 m pc ls st0) := by
  have hPc : va_P D vwCl wc H := hP.sub isC (k_fm hC)
  have hDc : va_D A wc := hD.sub isC hCn hC
  have hFc := va_free (wc := wc) hD hS hA isC hC
  refine va_callv (va_runV (As := As) (rest := rest) ⟨hx, hb, hml, hown, hts⟩ hM ⟨k_cB hts kc hk hrc hrs hR, hts _ kv.1, hts _ kv.2⟩ ⟨wr_blind, (by obtain ⟨cellB, a1, a2, a3⟩ := va_recv hK hPc hc hq; exact ⟨cellB, a1, a2, by rw [← hqc]; exact a3⟩), fun U hU hW => ⟨rfl, by rw [hU], by rw [hU]; exact hPc, va_K.moved hW.alike hK, hDc.weaken (fun _ _ _ _ => trivial)⟩⟩ rfl hn hsz hst (lv_room hw) hdg hf) hS (fun q _ h => hFc q h) hFc (fun u t H1 locs ht hvm hw9 hB hz1 hk1 hS => ?_)
  obtain ⟨hP1, hD1⟩ := hB
  rw [ht] at hP1
  obtain ⟨hP, hD⟩ := va_join (wr := wr) (w1 := w1) hP hD isC isR hC hRr hRn hdis hk1 hFc hP1 hD1
  exact kk H1 locs (hP.sub isF (k_fm hF)) (hD.sub isF hFn hF) hS
theorem k_rSI {p : Program} {l : Launch} {e : Env} {R : Room} {s : State} {m : MethodId} {ar : Array Value} {below : List Frame} {meth : Method} {c : Code} {H : Heap} {locs : List Loc} {cells slots : Nat} {Q : State → Prop} {y : MethodName} {bytes cc : ByteArray} {maxL nL n index : Nat} {ret : Option FieldType} {rm : Room} {own : String} {As rest st0 : List Value} {pc : Nat} {ls : Array Slot} {D : va_G} {ca : Nat → ClassId} {wc ws : va_W} {r : Int32} (hx : p.tables.exec = Jvm.exec) (hb : c.code = cc) (hml : c.maxLocals = nL) (hown : s.vm.findClass own = some m.cls) (hts : ∀ w ∈ TT, w.before ar s = true)
    (hM : Met l y (Cond.code y bytes maxL ret :: TT) rm (rd_P As D ca wc) (vp_Si (fun x => x = r)) 0 0 (fun _ => False)) (kc : k_cal y bytes maxL ret n) (kv : Cond.static y ∈ TT) (hk : Cond.methodLink own index y ∈ TT) (hR : rm.frames + 1 ≤ R.frames ∧ 8 + (maxL + 11) + rm.locals ≤ R.locals) (hrc : rm.cells = 0) (hrs : rm.slots = 0)
    (hP : va_P D vwCl ws H) (hK : va_K D vwCl (tyG ca) s) (is : List Nat) (hs : is.filterMap (fun i => ws[i]?) = wc) (hn : As.length = n) (hsz : ls.size = nL) (hw : (rest.map fun v => v.category).sum ≤ 8) (hst : st0 = As.reverse ++ rest) (hdg : decode cc pc = .ok (.invokestatic index, 3)) (hf : cells ≤ R.cells ∧ slots ≤ R.slots)
    (kk : W p l e R s m ar below meth c H locs cells slots Q (F0 m (pc + 3) ls (.int r :: rest))) : W p l e R s m ar below meth c H locs cells slots Q (F0 m pc ls st0) :=
  vp_callSi (va_Run.run (va_runS (As := As) (rest := rest) ⟨hx, hb, hml, hown, hts⟩ hM ⟨k_cB hts kc hk hrc hrs hR, hts _ kv⟩ ⟨rd_blind, fun U hU hW => ⟨rfl, by rw [hU]; exact hP.sub is hs, va_K.moved hW.alike hK⟩⟩ rfl hn hsz hst (lv_room hw) hdg hf)) (fun x hx9 => by subst hx9; exact kk)
theorem k_wSI {p : Program} {l : Launch} {e : Env} {R : Room} {s : State} {m : MethodId} {ar : Array Value} {below : List Frame} {meth : Method} {c : Code} {H : Heap} {locs : List Loc} {cells slots : Nat} {Q : State → Prop} {y : MethodName} {bytes cc : ByteArray} {maxL nL n index : Nat} {ret : Option FieldType} {rm : Room} {own : String} {As rest st0 : List Value} {pc : Nat} {ls : Array Slot} {D : va_G} {ca : Nat → ClassId} {wc ws : va_W} {r : Int32} {wr w1 w2 : va_W} {A : Nat → Prop} {H0 : Heap} (hx : p.tables.exec = Jvm.exec) (hb : c.code = cc) (hml : c.maxLocals = nL) (hown : s.vm.findClass own = some m.cls) (hts : ∀ w ∈ TT, w.before ar s = true)
    (hM : Met l y (Cond.code y bytes maxL ret :: TT) rm (wr_P As D ca wc H.size) (va_Qi (fun x (_ : Unit) => x = r) (wr_B D wc H.size w1) (va_A wc H.size)) 0 0 (va_A wc H.size)) (kc : k_cal y bytes maxL ret n) (kv : Cond.static y ∈ TT) (hk : Cond.methodLink own index y ∈ TT) (hR : rm.frames + 1 ≤ R.frames ∧ 8 + (maxL + 11) + rm.locals ≤ R.locals) (hrc : rm.cells = 0) (hrs : rm.slots = 0)
    (hP : va_P D vwCl ws H) (hK : va_K D vwCl (tyG ca) s) (hD : va_D A ws) (hS : va_S A H0 H locs) (hA : ∀ q : Nat, H0.size ≤ q → A q)
    (isC isR isF : List Nat) (hC : isC.map (fun i => ws[i]?) = wc.map some) (hCn : va_nd isC = true) (hRr : isR.map (fun i => ws[i]?) = wr.map some) (hRn : va_nd isR = true) (hdis : ∀ i ∈ isR, i ∉ isC) (hF : isF.map (fun i => (wr ++ w1)[i]?) = w2.map some) (hFn : va_nd isF = true)
    (hn : As.length = n) (hsz : ls.size = nL) (hw : (rest.map fun v => v.category).sum ≤ 8) (hst : st0 = As.reverse ++ rest) (hdg : decode cc pc = .ok (.invokestatic index, 3)) (hf : cells ≤ R.cells ∧ slots ≤ R.slots)
    (kk : ∀ (H1 : Heap) (locs1 : List Loc), va_P D vwCl w2 H1 → va_D A w2 → va_S A H0 H1 locs1 → W p l e R s m ar below meth c H1 locs1 cells slots Q (F0 m (pc + 3) ls (.int r :: rest))) : W p l e R s m ar below meth c H locs cells slots Q (F0 m pc ls st0) := by
  have hPc : va_P D vwCl wc H := hP.sub isC (k_fm hC)
  have hDc : va_D A wc := hD.sub isC hCn hC
  have hFc := va_free (wc := wc) hD hS hA isC hC
  refine va_calli (va_runS (As := As) (rest := rest) ⟨hx, hb, hml, hown, hts⟩ hM ⟨k_cB hts kc hk hrc hrs hR, hts _ kv⟩ ⟨wr_blind, fun U hU hW => ⟨rfl, by rw [hU], by rw [hU]; exact hPc, va_K.moved hW.alike hK, hDc.weaken (fun _ _ _ _ => trivial)⟩⟩ rfl hn hsz hst (lv_room hw) hdg hf) hS (fun q _ h => hFc q h) hFc (fun x u t H1 locs ht hvm hw9 hB hz1 hk1 hS => ?_)
  subst hw9
  obtain ⟨hP1, hD1⟩ := hB
  rw [ht] at hP1
  obtain ⟨hP, hD⟩ := va_join (wr := wr) (w1 := w1) hP hD isC isR hC hRr hRn hdis hk1 hFc hP1 hD1
  exact kk H1 locs (hP.sub isF (k_fm hF)) (hD.sub isF hFn hF) hS
theorem k_rSJ {p : Program} {l : Launch} {e : Env} {R : Room} {s : State} {m : MethodId} {ar : Array Value} {below : List Frame} {meth : Method} {c : Code} {H : Heap} {locs : List Loc} {cells slots : Nat} {Q : State → Prop} {y : MethodName} {bytes cc : ByteArray} {maxL nL n index : Nat} {ret : Option FieldType} {rm : Room} {own : String} {As rest st0 : List Value} {pc : Nat} {ls : Array Slot} {D : va_G} {ca : Nat → ClassId} {wc ws : va_W} {r : Int64} (hx : p.tables.exec = Jvm.exec) (hb : c.code = cc) (hml : c.maxLocals = nL) (hown : s.vm.findClass own = some m.cls) (hts : ∀ w ∈ TT, w.before ar s = true)
    (hM : Met l y (Cond.code y bytes maxL ret :: TT) rm (rd_P As D ca wc) (vp_Sl (fun x => x = r)) 0 0 (fun _ => False)) (kc : k_cal y bytes maxL ret n) (kv : Cond.static y ∈ TT) (hk : Cond.methodLink own index y ∈ TT) (hR : rm.frames + 1 ≤ R.frames ∧ 8 + (maxL + 11) + rm.locals ≤ R.locals) (hrc : rm.cells = 0) (hrs : rm.slots = 0)
    (hP : va_P D vwCl ws H) (hK : va_K D vwCl (tyG ca) s) (is : List Nat) (hs : is.filterMap (fun i => ws[i]?) = wc) (hn : As.length = n) (hsz : ls.size = nL) (hw : (rest.map fun v => v.category).sum ≤ 8) (hst : st0 = As.reverse ++ rest) (hdg : decode cc pc = .ok (.invokestatic index, 3)) (hf : cells ≤ R.cells ∧ slots ≤ R.slots)
    (kk : W p l e R s m ar below meth c H locs cells slots Q (F0 m (pc + 3) ls (.long r :: rest))) : W p l e R s m ar below meth c H locs cells slots Q (F0 m pc ls st0) :=
  vp_callSl (va_Run.run (va_runS (As := As) (rest := rest) ⟨hx, hb, hml, hown, hts⟩ hM ⟨k_cB hts kc hk hrc hrs hR, hts _ kv⟩ ⟨rd_blind, fun U hU hW => ⟨rfl, by rw [hU]; exact hP.sub is hs, va_K.moved hW.alike hK⟩⟩ rfl hn hsz hst (lv_room hw) hdg hf)) (fun x hx9 => by subst hx9; exact kk)
theorem k_wSJ {p : Program} {l : Launch} {e : Env} {R : Room} {s : State} {m : MethodId} {ar : Array Value} {below : List Frame} {meth : Method} {c : Code} {H : Heap} {locs : List Loc} {cells slots : Nat} {Q : State → Prop} {y : MethodName} {bytes cc : ByteArray} {maxL nL n index : Nat} {ret : Option FieldType} {rm : Room} {own : String} {As rest st0 : List Value} {pc : Nat} {ls : Array Slot} {D : va_G} {ca : Nat → ClassId} {wc ws : va_W} {r : Int64} {wr w1 w2 : va_W} {A : Nat → Prop} {H0 : Heap} (hx : p.tables.exec = Jvm.exec) (hb : c.code = cc) (hml : c.maxLocals = nL) (hown : s.vm.findClass own = some m.cls) (hts : ∀ w ∈ TT, w.before ar s = true)
    (hM : Met l y (Cond.code y bytes maxL ret :: TT) rm (wr_P As D ca wc H.size) (va_Ql (fun x (_ : Unit) => x = r) (wr_B D wc H.size w1) (va_A wc H.size)) 0 0 (va_A wc H.size)) (kc : k_cal y bytes maxL ret n) (kv : Cond.static y ∈ TT) (hk : Cond.methodLink own index y ∈ TT) (hR : rm.frames + 1 ≤ R.frames ∧ 8 + (maxL + 11) + rm.locals ≤ R.locals) (hrc : rm.cells = 0) (hrs : rm.slots = 0)
    (hP : va_P D vwCl ws H) (hK : va_K D vwCl (tyG ca) s) (hD : va_D A ws) (hS : va_S A H0 H locs) (hA : ∀ q : Nat, H0.size ≤ q → A q)
    (isC isR isF : List Nat) (hC : isC.map (fun i => ws[i]?) = wc.map some) (hCn : va_nd isC = true) (hRr : isR.map (fun i => ws[i]?) = wr.map some) (hRn : va_nd isR = true) (hdis : ∀ i ∈ isR, i ∉ isC) (hF : isF.map (fun i => (wr ++ w1)[i]?) = w2.map some) (hFn : va_nd isF = true)
    (hn : As.length = n) (hsz : ls.size = nL) (hw : (rest.map fun v => v.category).sum ≤ 8) (hst : st0 = As.reverse ++ rest) (hdg : decode cc pc = .ok (.invokestatic index, 3)) (hf : cells ≤ R.cells ∧ slots ≤ R.slots)
    (kk : ∀ (H1 : Heap) (locs1 : List Loc), va_P D vwCl w2 H1 → va_D A w2 → va_S A H0 H1 locs1 → W p l e R s m ar below meth c H1 locs1 cells slots Q (F0 m (pc + 3) ls (.long r :: rest))) : W p l e R s m ar below meth c H locs cells slots Q (F0 m pc ls st0) := by
  have hPc : va_P D vwCl wc H := hP.sub isC (k_fm hC)
  have hDc : va_D A wc := hD.sub isC hCn hC
  have hFc := va_free (wc := wc) hD hS hA isC hC
  refine va_calll (va_runS (As := As) (rest := rest) ⟨hx, hb, hml, hown, hts⟩ hM ⟨k_cB hts kc hk hrc hrs hR, hts _ kv⟩ ⟨wr_blind, fun U hU hW => ⟨rfl, by rw [hU], by rw [hU]; exact hPc, va_K.moved hW.alike hK, hDc.weaken (fun _ _ _ _ => trivial)⟩⟩ rfl hn hsz hst (lv_room hw) hdg hf) hS (fun q _ h => hFc q h) hFc (fun x u t H1 locs ht hvm hw9 hB hz1 hk1 hS => ?_)
  subst hw9
  obtain ⟨hP1, hD1⟩ := hB
  rw [ht] at hP1
  obtain ⟨hP, hD⟩ := va_join (wr := wr) (w1 := w1) hP hD isC isR hC hRr hRn hdis hk1 hFc hP1 hD1
  exact kk H1 locs (hP.sub isF (k_fm hF)) (hD.sub isF hFn hF) hS
theorem k_rSV {p : Program} {l : Launch} {e : Env} {R : Room} {s : State} {m : MethodId} {ar : Array Value} {below : List Frame} {meth : Method} {c : Code} {H : Heap} {locs : List Loc} {cells slots : Nat} {Q : State → Prop} {y : MethodName} {bytes cc : ByteArray} {maxL nL n index : Nat} {ret : Option FieldType} {rm : Room} {own : String} {As rest st0 : List Value} {pc : Nat} {ls : Array Slot} {D : va_G} {ca : Nat → ClassId} {wc ws : va_W} (hx : p.tables.exec = Jvm.exec) (hb : c.code = cc) (hml : c.maxLocals = nL) (hown : s.vm.findClass own = some m.cls) (hts : ∀ w ∈ TT, w.before ar s = true)
    (hM : Met l y (Cond.code y bytes maxL ret :: TT) rm (rd_P As D ca wc) (va_Sv (fun _ => True)) 0 0 (fun _ => False)) (kc : k_cal y bytes maxL ret n) (kv : Cond.static y ∈ TT) (hk : Cond.methodLink own index y ∈ TT) (hR : rm.frames + 1 ≤ R.frames ∧ 8 + (maxL + 11) + rm.locals ≤ R.locals) (hrc : rm.cells = 0) (hrs : rm.slots = 0)
    (hP : va_P D vwCl ws H) (hK : va_K D vwCl (tyG ca) s) (is : List Nat) (hs : is.filterMap (fun i => ws[i]?) = wc) (hn : As.length = n) (hsz : ls.size = nL) (hw : (rest.map fun v => v.category).sum ≤ 8) (hst : st0 = As.reverse ++ rest) (hdg : decode cc pc = .ok (.invokestatic index, 3)) (hf : cells ≤ R.cells ∧ slots ≤ R.slots)
    (kk : W p l e R s m ar below meth c H locs cells slots Q (F0 m (pc + 3) ls rest)) : W p l e R s m ar below meth c H locs cells slots Q (F0 m pc ls st0) :=
  va_csv (va_Run.run (va_runS (As := As) (rest := rest) ⟨hx, hb, hml, hown, hts⟩ hM ⟨k_cB hts kc hk hrc hrs hR, hts _ kv⟩ ⟨rd_blind, fun U hU hW => ⟨rfl, by rw [hU]; exact hP.sub is hs, va_K.moved hW.alike hK⟩⟩ rfl hn hsz hst (lv_room hw) hdg hf)) (fun _ => kk)
theorem k_wSV {p : Program} {l : Launch} {e : Env} {R : Room} {s : State} {m : MethodId} {ar : Array Value} {below : List Frame} {meth : Method} {c : Code} {H : Heap} {locs : List Loc} {cells slots : Nat} {Q : State → Prop} {y : MethodName} {bytes cc : ByteArray} {maxL nL n index : Nat} {ret : Option FieldType} {rm : Room} {own : String} {As rest st0 : List Value} {pc : Nat} {ls : Array Slot} {D : va_G} {ca : Nat → ClassId} {wc ws : va_W} {wr w1 w2 : va_W} {A : Nat → Prop} {H0 : Heap} (hx : p.tables.exec = Jvm.exec) (hb : c.code = cc) (hml : c.maxLocals = nL) (hown : s.vm.findClass own = some m.cls) (hts : ∀ w ∈ TT, w.before ar s = true)
    (hM : Met l y (Cond.code y bytes maxL ret :: TT) rm (wr_P As D ca wc H.size) (va_Qv (fun (_ : Unit) => True) (wr_B D wc H.size w1) (va_A wc H.size)) 0 0 (va_A wc H.size)) (kc : k_cal y bytes maxL ret n) (kv : Cond.static y ∈ TT) (hk : Cond.methodLink own index y ∈ TT) (hR : rm.frames + 1 ≤ R.frames ∧ 8 + (maxL + 11) + rm.locals ≤ R.locals) (hrc : rm.cells = 0) (hrs : rm.slots = 0)
    (hP : va_P D vwCl ws H) (hK : va_K D vwCl (tyG ca) s) (hD : va_D A ws) (hS : va_S A H0 H locs) (hA : ∀ q : Nat, H0.size ≤ q → A q)
    (isC isR isF : List Nat) (hC : isC.map (fun i => ws[i]?) = wc.map some) (hCn : va_nd isC = true) (hRr : isR.map (fun i => ws[i]?) = wr.map some) (hRn : va_nd isR = true) (hdis : ∀ i ∈ isR, i ∉ isC) (hF : isF.map (fun i => (wr ++ w1)[i]?) = w2.map some) (hFn : va_nd isF = true)
    (hn : As.length = n) (hsz : ls.size = nL) (hw : (rest.map fun v => v.category).sum ≤ 8) (hst : st0 = As.reverse ++ rest) (hdg : decode cc pc = .ok (.invokestatic index, 3)) (hf : cells ≤ R.cells ∧ slots ≤ R.slots)
    (kk : ∀ (H1 : Heap) (locs1 : List Loc), va_P D vwCl w2 H1 → va_D A w2 → va_S A H0 H1 locs1 → W p l e R s m ar below meth c H1 locs1 cells slots Q (F0 m (pc + 3) ls rest)) : W p l e R s m ar below meth c H locs cells slots Q (F0 m pc ls st0) := by
  have hPc : va_P D vwCl wc H := hP.sub isC (k_fm hC)
  have hDc : va_D A wc := hD.sub isC hCn hC
  have hFc := va_free (wc := wc) hD hS hA isC hC
  refine va_callv (va_runS (As := As) (rest := rest) ⟨hx, hb, hml, hown, hts⟩ hM ⟨k_cB hts kc hk hrc hrs hR, hts _ kv⟩ ⟨wr_blind, fun U hU hW => ⟨rfl, by rw [hU], by rw [hU]; exact hPc, va_K.moved hW.alike hK, hDc.weaken (fun _ _ _ _ => trivial)⟩⟩ rfl hn hsz hst (lv_room hw) hdg hf) hS (fun q _ h => hFc q h) hFc (fun u t H1 locs ht hvm hw9 hB hz1 hk1 hS => ?_)
  obtain ⟨hP1, hD1⟩ := hB
  rw [ht] at hP1
  obtain ⟨hP, hD⟩ := va_join (wr := wr) (w1 := w1) hP hD isC isR hC hRr hRn hdis hk1 hFc hP1 hD1
  exact kk H1 locs (hP.sub isF (k_fm hF)) (hD.sub isF hFn hF) hS
theorem k_rVNI {p : Program} {l : Launch} {e : Env} {R : Room} {s : State} {m : MethodId} {ar : Array Value} {below : List Frame} {meth : Method} {c : Code} {H : Heap} {locs : List Loc} {cells slots : Nat} {Q : State → Prop} {y : MethodName} {bytes cc : ByteArray} {maxL nL n index : Nat} {ret : Option FieldType} {rm : Room} {own : String} {As rest st0 : List Value} {pc : Nat} {ls : Array Slot} {D : va_G} {ca : Nat → ClassId} {wc ws : va_W} {host : String} {b ci : Nat} {fs : List Value} {q : vw_C} {r : Int32} (hx : p.tables.exec = Jvm.exec) (hb : c.code = cc) (hml : c.maxLocals = nL) (hown : s.vm.findClass own = some m.cls) (hts : ∀ w ∈ TT, w.before ar s = true)
    (hM : Met l y (Cond.code y bytes maxL ret :: TT) rm (rd_P (.ref b :: As) D ca wc) (vp_Si (fun x => x = r)) 0 0 (fun _ => False)) (kc : k_cal y bytes maxL ret n) (kv : k_vir y) (hk : Cond.methodLinkNest own index y host ∈ TT) (hR : rm.frames + 1 ≤ R.frames ∧ 8 + (maxL + 11) + rm.locals ≤ R.locals) (hrc : rm.cells = 0) (hrs : rm.slots = 0)
    (hP : va_P D vwCl ws H) (hK : va_K D vwCl (tyG ca) s) (is : List Nat) (hs : is.filterMap (fun i => ws[i]?) = wc) (q0 : Nat) (hq : wc[q0]? = some (b, .inr (ci, fs))) (hc : vwCl[ci]? = some q) (hqc : q.1 = y.cls) (hn : As.length = n) (hsz : ls.size = nL) (hw : (rest.map fun v => v.category).sum ≤ 8) (hst : st0 = As.reverse ++ .ref b :: rest) (hdg : decode cc pc = .ok (.invokevirtual index, 3)) (hf : cells ≤ R.cells ∧ slots ≤ R.slots)
    (kk : W p l e R s m ar below meth c H locs cells slots Q (F0 m (pc + 3) ls (.int r :: rest))) : W p l e R s m ar below meth c H locs cells slots Q (F0 m pc ls st0) :=
  vp_callSi (va_Run.run (va_runVN (As := As) (rest := rest) ⟨hx, hb, hml, hown, hts⟩ hM ⟨k_cN hts kc hk hrc hrs hR, hts _ kv.1, hts _ kv.2⟩ ⟨rd_blind, (by obtain ⟨cellB, a1, a2, a3⟩ := va_recv hK (hP.sub is hs) hc hq; exact ⟨cellB, a1, a2, by rw [← hqc]; exact a3⟩), fun U hU hW => ⟨rfl, by rw [hU]; exact hP.sub is hs, va_K.moved hW.alike hK⟩⟩ rfl hn hsz hst (lv_room hw) hdg hf)) (fun x hx9 => by subst hx9; exact kk)
theorem k_wVNI {p : Program} {l : Launch} {e : Env} {R : Room} {s : State} {m : MethodId} {ar : Array Value} {below : List Frame} {meth : Method} {c : Code} {H : Heap} {locs : List Loc} {cells slots : Nat} {Q : State → Prop} {y : MethodName} {bytes cc : ByteArray} {maxL nL n index : Nat} {ret : Option FieldType} {rm : Room} {own : String} {As rest st0 : List Value} {pc : Nat} {ls : Array Slot} {D : va_G} {ca : Nat → ClassId} {wc ws : va_W} {host : String} {b ci : Nat} {fs : List Value} {q : vw_C} {r : Int32} {wr w1 w2 : va_W} {A : Nat → Prop} {H0 : Heap} (hx : p.tables.exec = Jvm.exec) (hb : c.code = cc) (hml : c.maxLocals = nL) (hown : s.vm.findClass own = some m.cls) (hts : ∀ w ∈ TT, w.before ar s = true)
    (hM : Met l y (Cond.code y bytes maxL ret :: TT) rm (wr_P (.ref b :: As) D ca wc H.size) (va_Qi (fun x (_ : Unit) => x = r) (wr_B D wc H.size w1) (va_A wc H.size)) 0 0 (va_A wc H.size)) (kc : k_cal y bytes maxL ret n) (kv : k_vir y) (hk : Cond.methodLinkNest own index y host ∈ TT) (hR : rm.frames + 1 ≤ R.frames ∧ 8 + (maxL + 11) + rm.locals ≤ R.locals) (hrc : rm.cells = 0) (hrs : rm.slots = 0)
    (hP : va_P D vwCl ws H) (hK : va_K D vwCl (tyG ca) s) (hD : va_D A ws) (hS : va_S A H0 H locs) (hA : ∀ q : Nat, H0.size ≤ q → A q)
    (isC isR isF : List Nat) (hC : isC.map (fun i => ws[i]?) = wc.map some) (hCn : va_nd isC = true) (hRr : isR.map (fun i => ws[i]?) = wr.map some) (hRn : va_nd isR = true) (hdis : ∀ i ∈ isR, i ∉ isC) (hF : isF.map (fun i => (wr ++ w1)[i]?) = w2.map some) (hFn : va_nd isF = true)
    (q0 : Nat) (hq : wc[q0]? = some (b, .inr (ci, fs))) (hc : vwCl[ci]? = some q) (hqc : q.1 = y.cls) (hn : As.length = n) (hsz : ls.size = nL) (hw : (rest.map fun v => v.category).sum ≤ 8) (hst : st0 = As.reverse ++ .ref b :: rest) (hdg : decode cc pc = .ok (.invokevirtual index, 3)) (hf : cells ≤ R.cells ∧ slots ≤ R.slots)
    (kk : ∀ (H1 : Heap) (locs1 : List Loc), va_P D vwCl w2 H1 → va_D A w2 → va_S A H0 H1 locs1 → W p l e R s m ar below meth c H1 locs1 cells slots Q (F0 m (pc + 3) ls (.int r :: rest))) : W p l e R s m ar below meth c H locs cells slots Q (F0 m pc ls st0) := by
  have hPc : va_P D vwCl wc H := hP.sub isC (k_fm hC)
  have hDc : va_D A wc := hD.sub isC hCn hC
  have hFc := va_free (wc := wc) hD hS hA isC hC
  refine va_calli (va_runVN (As := As) (rest := rest) ⟨hx, hb, hml, hown, hts⟩ hM ⟨k_cN hts kc hk hrc hrs hR, hts _ kv.1, hts _ kv.2⟩ ⟨wr_blind, (by obtain ⟨cellB, a1, a2, a3⟩ := va_recv hK hPc hc hq; exact ⟨cellB, a1, a2, by rw [← hqc]; exact a3⟩), fun U hU hW => ⟨rfl, by rw [hU], by rw [hU]; exact hPc, va_K.moved hW.alike hK, hDc.weaken (fun _ _ _ _ => trivial)⟩⟩ rfl hn hsz hst (lv_room hw) hdg hf) hS (fun q _ h => hFc q h) hFc (fun x u t H1 locs ht hvm hw9 hB hz1 hk1 hS => ?_)
  subst hw9
  obtain ⟨hP1, hD1⟩ := hB
  rw [ht] at hP1
  obtain ⟨hP, hD⟩ := va_join (wr := wr) (w1 := w1) hP hD isC isR hC hRr hRn hdis hk1 hFc hP1 hD1
  exact kk H1 locs (hP.sub isF (k_fm hF)) (hD.sub isF hFn hF) hS
theorem k_rVNJ {p : Program} {l : Launch} {e : Env} {R : Room} {s : State} {m : MethodId} {ar : Array Value} {below : List Frame} {meth : Method} {c : Code} {H : Heap} {locs : List Loc} {cells slots : Nat} {Q : State → Prop} {y : MethodName} {bytes cc : ByteArray} {maxL nL n index : Nat} {ret : Option FieldType} {rm : Room} {own : String} {As rest st0 : List Value} {pc : Nat} {ls : Array Slot} {D : va_G} {ca : Nat → ClassId} {wc ws : va_W} {host : String} {b ci : Nat} {fs : List Value} {q : vw_C} {r : Int64} (hx : p.tables.exec = Jvm.exec) (hb : c.code = cc) (hml : c.maxLocals = nL) (hown : s.vm.findClass own = some m.cls) (hts : ∀ w ∈ TT, w.before ar s = true)
    (hM : Met l y (Cond.code y bytes maxL ret :: TT) rm (rd_P (.ref b :: As) D ca wc) (vp_Sl (fun x => x = r)) 0 0 (fun _ => False)) (kc : k_cal y bytes maxL ret n) (kv : k_vir y) (hk : Cond.methodLinkNest own index y host ∈ TT) (hR : rm.frames + 1 ≤ R.frames ∧ 8 + (maxL + 11) + rm.locals ≤ R.locals) (hrc : rm.cells = 0) (hrs : rm.slots = 0)
    (hP : va_P D vwCl ws H) (hK : va_K D vwCl (tyG ca) s) (is : List Nat) (hs : is.filterMap (fun i => ws[i]?) = wc) (q0 : Nat) (hq : wc[q0]? = some (b, .inr (ci, fs))) (hc : vwCl[ci]? = some q) (hqc : q.1 = y.cls) (hn : As.length = n) (hsz : ls.size = nL) (hw : (rest.map fun v => v.category).sum ≤ 8) (hst : st0 = As.reverse ++ .ref b :: rest) (hdg : decode cc pc = .ok (.invokevirtual index, 3)) (hf : cells ≤ R.cells ∧ slots ≤ R.slots)
    (kk : W p l e R s m ar below meth c H locs cells slots Q (F0 m (pc + 3) ls (.long r :: rest))) : W p l e R s m ar below meth c H locs cells slots Q (F0 m pc ls st0) :=
  vp_callSl (va_Run.run (va_runVN (As := As) (rest := rest) ⟨hx, hb, hml, hown, hts⟩ hM ⟨k_cN hts kc hk hrc hrs hR, hts _ kv.1, hts _ kv.2⟩ ⟨rd_blind, (by obtain ⟨cellB, a1, a2, a3⟩ := va_recv hK (hP.sub is hs) hc hq; exact ⟨cellB, a1, a2, by rw [← hqc]; exact a3⟩), fun U hU hW => ⟨rfl, by rw [hU]; exact hP.sub is hs, va_K.moved hW.alike hK⟩⟩ rfl hn hsz hst (lv_room hw) hdg hf)) (fun x hx9 => by subst hx9; exact kk)
theorem k_wVNJ {p : Program} {l : Launch} {e : Env} {R : Room} {s : State} {m : MethodId} {ar : Array Value} {below : List Frame} {meth : Method} {c : Code} {H : Heap} {locs : List Loc} {cells slots : Nat} {Q : State → Prop} {y : MethodName} {bytes cc : ByteArray} {maxL nL n index : Nat} {ret : Option FieldType} {rm : Room} {own : String} {As rest st0 : List Value} {pc : Nat} {ls : Array Slot} {D : va_G} {ca : Nat → ClassId} {wc ws : va_W} {host : String} {b ci : Nat} {fs : List Value} {q : vw_C} {r : Int64} {wr w1 w2 : va_W} {A : Nat → Prop} {H0 : Heap} (hx : p.tables.exec = Jvm.exec) (hb : c.code = cc) (hml : c.maxLocals = nL) (hown : s.vm.findClass own = some m.cls) (hts : ∀ w ∈ TT, w.before ar s = true)
    (hM : Met l y (Cond.code y bytes maxL ret :: TT) rm (wr_P (.ref b :: As) D ca wc H.size) (va_Ql (fun x (_ : Unit) => x = r) (wr_B D wc H.size w1) (va_A wc H.size)) 0 0 (va_A wc H.size)) (kc : k_cal y bytes maxL ret n) (kv : k_vir y) (hk : Cond.methodLinkNest own index y host ∈ TT) (hR : rm.frames + 1 ≤ R.frames ∧ 8 + (maxL + 11) + rm.locals ≤ R.locals) (hrc : rm.cells = 0) (hrs : rm.slots = 0)
    (hP : va_P D vwCl ws H) (hK : va_K D vwCl (tyG ca) s) (hD : va_D A ws) (hS : va_S A H0 H locs) (hA : ∀ q : Nat, H0.size ≤ q → A q)
    (isC isR isF : List Nat) (hC : isC.map (fun i => ws[i]?) = wc.map some) (hCn : va_nd isC = true) (hRr : isR.map (fun i => ws[i]?) = wr.map some) (hRn : va_nd isR = true) (hdis : ∀ i ∈ isR, i ∉ isC) (hF : isF.map (fun i => (wr ++ w1)[i]?) = w2.map some) (hFn : va_nd isF = true)
    (q0 : Nat) (hq : wc[q0]? = some (b, .inr (ci, fs))) (hc : vwCl[ci]? = some q) (hqc : q.1 = y.cls) (hn : As.length = n) (hsz : ls.size = nL) (hw : (rest.map fun v => v.category).sum ≤ 8) (hst : st0 = As.reverse ++ .ref b :: rest) (hdg : decode cc pc = .ok (.invokevirtual index, 3)) (hf : cells ≤ R.cells ∧ slots ≤ R.slots)
    (kk : ∀ (H1 : Heap) (locs1 : List Loc), va_P D vwCl w2 H1 → va_D A w2 → va_S A H0 H1 locs1 → W p l e R s m ar below meth c H1 locs1 cells slots Q (F0 m (pc + 3) ls (.long r :: rest))) : W p l e R s m ar below meth c H locs cells slots Q (F0 m pc ls st0) := by
  have hPc : va_P D vwCl wc H := hP.sub isC (k_fm hC)
  have hDc : va_D A wc := hD.sub isC hCn hC
  have hFc := va_free (wc := wc) hD hS hA isC hC
  refine va_calll (va_runVN (As := As) (rest := rest) ⟨hx, hb, hml, hown, hts⟩ hM ⟨k_cN hts kc hk hrc hrs hR, hts _ kv.1, hts _ kv.2⟩ ⟨wr_blind, (by obtain ⟨cellB, a1, a2, a3⟩ := va_recv hK hPc hc hq; exact ⟨cellB, a1, a2, by rw [← hqc]; exact a3⟩), fun U hU hW => ⟨rfl, by rw [hU], by rw [hU]; exact hPc, va_K.moved hW.alike hK, hDc.weaken (fun _ _ _ _ => trivial)⟩⟩ rfl hn hsz hst (lv_room hw) hdg hf) hS (fun q _ h => hFc q h) hFc (fun x u t H1 locs ht hvm hw9 hB hz1 hk1 hS => ?_)
  subst hw9
  obtain ⟨hP1, hD1⟩ := hB
  rw [ht] at hP1
  obtain ⟨hP, hD⟩ := va_join (wr := wr) (w1 := w1) hP hD isC isR hC hRr hRn hdis hk1 hFc hP1 hD1
  exact kk H1 locs (hP.sub isF (k_fm hF)) (hD.sub isF hFn hF) hS
theorem k_rVNV {p : Program} {l : Launch} {e : Env} {R : Room} {s : State} {m : MethodId} {ar : Array Value} {below : List Frame} {meth : Method} {c : Code} {H : Heap} {locs : List Loc} {cells slots : Nat} {Q : State → Prop} {y : MethodName} {bytes cc : ByteArray} {maxL nL n index : Nat} {ret : Option FieldType} {rm : Room} {own : String} {As rest st0 : List Value} {pc : Nat} {ls : Array Slot} {D : va_G} {ca : Nat → ClassId} {wc ws : va_W} {host : String} {b ci : Nat} {fs : List Value} {q : vw_C} (hx : p.tables.exec = Jvm.exec) (hb : c.code = cc) (hml : c.maxLocals = nL) (hown : s.vm.findClass own = some m.cls) (hts : ∀ w ∈ TT, w.before ar s = true)
    (hM : Met l y (Cond.code y bytes maxL ret :: TT) rm (rd_P (.ref b :: As) D ca wc) (va_Sv (fun _ => True)) 0 0 (fun _ => False)) (kc : k_cal y bytes maxL ret n) (kv : k_vir y) (hk : Cond.methodLinkNest own index y host ∈ TT) (hR : rm.frames + 1 ≤ R.frames ∧ 8 + (maxL + 11) + rm.locals ≤ R.locals) (hrc : rm.cells = 0) (hrs : rm.slots = 0)
    (hP : va_P D vwCl ws H) (hK : va_K D vwCl (tyG ca) s) (is : List Nat) (hs : is.filterMap (fun i => ws[i]?) = wc) (q0 : Nat) (hq : wc[q0]? = some (b, .inr (ci, fs))) (hc : vwCl[ci]? = some q) (hqc : q.1 = y.cls) (hn : As.length = n) (hsz : ls.size = nL) (hw : (rest.map fun v => v.category).sum ≤ 8) (hst : st0 = As.reverse ++ .ref b :: rest) (hdg : decode cc pc = .ok (.invokevirtual index, 3)) (hf : cells ≤ R.cells ∧ slots ≤ R.slots)
    (kk : W p l e R s m ar below meth c H locs cells slots Q (F0 m (pc + 3) ls rest)) : W p l e R s m ar below meth c H locs cells slots Q (F0 m pc ls st0) :=
  va_csv (va_Run.run (va_runVN (As := As) (rest := rest) ⟨hx, hb, hml, hown, hts⟩ hM ⟨k_cN hts kc hk hrc hrs hR, hts _ kv.1, hts _ kv.2⟩ ⟨rd_blind, (by obtain ⟨cellB, a1, a2, a3⟩ := va_recv hK (hP.sub is hs) hc hq; exact ⟨cellB, a1, a2, by rw [← hqc]; exact a3⟩), fun U hU hW => ⟨rfl, by rw [hU]; exact hP.sub is hs, va_K.moved hW.alike hK⟩⟩ rfl hn hsz hst (lv_room hw) hdg hf)) (fun _ => kk)
theorem k_wVNV {p : Program} {l : Launch} {e : Env} {R : Room} {s : State} {m : MethodId} {ar : Array Value} {below : List Frame} {meth : Method} {c : Code} {H : Heap} {locs : List Loc} {cells slots : Nat} {Q : State → Prop} {y : MethodName} {bytes cc : ByteArray} {maxL nL n index : Nat} {ret : Option FieldType} {rm : Room} {own : String} {As rest st0 : List Value} {pc : Nat} {ls : Array Slot} {D : va_G} {ca : Nat → ClassId} {wc ws : va_W} {host : String} {b ci : Nat} {fs : List Value} {q : vw_C} {wr w1 w2 : va_W} {A : Nat → Prop} {H0 : Heap} (hx : p.tables.exec = Jvm.exec) (hb : c.code = cc) (hml : c.maxLocals = nL) (hown : s.vm.findClass own = some m.cls) (hts : ∀ w ∈ TT, w.before ar s = true)
    (hM : Met l y (Cond.code y bytes maxL ret :: TT) rm (wr_P (.ref b :: As) D ca wc H.size) (va_Qv (fun (_ : Unit) => True) (wr_B D wc H.size w1) (va_A wc H.size)) 0 0 (va_A wc H.size)) (kc : k_cal y bytes maxL ret n) (kv : k_vir y) (hk : Cond.methodLinkNest own index y host ∈ TT) (hR : rm.frames + 1 ≤ R.frames ∧ 8 + (maxL + 11) + rm.locals ≤ R.locals) (hrc : rm.cells = 0) (hrs : rm.slots = 0)
    (hP : va_P D vwCl ws H) (hK : va_K D vwCl (tyG ca) s) (hD : va_D A ws) (hS : va_S A H0 H locs) (hA : ∀ q : Nat, H0.size ≤ q → A q)
    (isC isR isF : List Nat) (hC : isC.map (fun i => ws[i]?) = wc.map some) (hCn : va_nd isC = true) (hRr : isR.map (fun i => ws[i]?) = wr.map some) (hRn : va_nd isR = true) (hdis : ∀ i ∈ isR, i ∉ isC) (hF : isF.map (fun i => (wr ++ w1)[i]?) = w2.map some) (hFn : va_nd isF = true)
    (q0 : Nat) (hq : wc[q0]? = some (b, .inr (ci, fs))) (hc : vwCl[ci]? = some q) (hqc : q.1 = y.cls) (hn : As.length = n) (hsz : ls.size = nL) (hw : (rest.map fun v => v.category).sum ≤ 8) (hst : st0 = As.reverse ++ .ref b :: rest) (hdg : decode cc pc = .ok (.invokevirtual index, 3)) (hf : cells ≤ R.cells ∧ slots ≤ R.slots)
    (kk : ∀ (H1 : Heap) (locs1 : List Loc), va_P D vwCl w2 H1 → va_D A w2 → va_S A H0 H1 locs1 → W p l e R s m ar below meth c H1 locs1 cells slots Q (F0 m (pc + 3) ls rest)) : W p l e R s m ar below meth c H locs cells slots Q (F0 m pc ls st0) := by
  have hPc : va_P D vwCl wc H := hP.sub isC (k_fm hC)
  have hDc : va_D A wc := hD.sub isC hCn hC
  have hFc := va_free (wc := wc) hD hS hA isC hC
  refine va_callv (va_runVN (As := As) (rest := rest) ⟨hx, hb, hml, hown, hts⟩ hM ⟨k_cN hts kc hk hrc hrs hR, hts _ kv.1, hts _ kv.2⟩ ⟨wr_blind, (by obtain ⟨cellB, a1, a2, a3⟩ := va_recv hK hPc hc hq; exact ⟨cellB, a1, a2, by rw [← hqc]; exact a3⟩), fun U hU hW => ⟨rfl, by rw [hU], by rw [hU]; exact hPc, va_K.moved hW.alike hK, hDc.weaken (fun _ _ _ _ => trivial)⟩⟩ rfl hn hsz hst (lv_room hw) hdg hf) hS (fun q _ h => hFc q h) hFc (fun u t H1 locs ht hvm hw9 hB hz1 hk1 hS => ?_)
  obtain ⟨hP1, hD1⟩ := hB
  rw [ht] at hP1
  obtain ⟨hP, hD⟩ := va_join (wr := wr) (w1 := w1) hP hD isC isR hC hRr hRn hdis hk1 hFc hP1 hD1
  exact kk H1 locs (hP.sub isF (k_fm hF)) (hD.sub isF hFn hF) hS
theorem k_rSNI {p : Program} {l : Launch} {e : Env} {R : Room} {s : State} {m : MethodId} {ar : Array Value} {below : List Frame} {meth : Method} {c : Code} {H : Heap} {locs : List Loc} {cells slots : Nat} {Q : State → Prop} {y : MethodName} {bytes cc : ByteArray} {maxL nL n index : Nat} {ret : Option FieldType} {rm : Room} {own : String} {As rest st0 : List Value} {pc : Nat} {ls : Array Slot} {D : va_G} {ca : Nat → ClassId} {wc ws : va_W} {host : String} {r : Int32} (hx : p.tables.exec = Jvm.exec) (hb : c.code = cc) (hml : c.maxLocals = nL) (hown : s.vm.findClass own = some m.cls) (hts : ∀ w ∈ TT, w.before ar s = true)
    (hM : Met l y (Cond.code y bytes maxL ret :: TT) rm (rd_P As D ca wc) (vp_Si (fun x => x = r)) 0 0 (fun _ => False)) (kc : k_cal y bytes maxL ret n) (kv : Cond.static y ∈ TT) (hk : Cond.methodLinkNest own index y host ∈ TT) (hR : rm.frames + 1 ≤ R.frames ∧ 8 + (maxL + 11) + rm.locals ≤ R.locals) (hrc : rm.cells = 0) (hrs : rm.slots = 0)
    (hP : va_P D vwCl ws H) (hK : va_K D vwCl (tyG ca) s) (is : List Nat) (hs : is.filterMap (fun i => ws[i]?) = wc) (hn : As.length = n) (hsz : ls.size = nL) (hw : (rest.map fun v => v.category).sum ≤ 8) (hst : st0 = As.reverse ++ rest) (hdg : decode cc pc = .ok (.invokestatic index, 3)) (hf : cells ≤ R.cells ∧ slots ≤ R.slots)
    (kk : W p l e R s m ar below meth c H locs cells slots Q (F0 m (pc + 3) ls (.int r :: rest))) : W p l e R s m ar below meth c H locs cells slots Q (F0 m pc ls st0) :=
  vp_callSi (va_Run.run (va_runSN (As := As) (rest := rest) ⟨hx, hb, hml, hown, hts⟩ hM ⟨k_cN hts kc hk hrc hrs hR, hts _ kv, trivial⟩ ⟨rd_blind, fun U hU hW => ⟨rfl, by rw [hU]; exact hP.sub is hs, va_K.moved hW.alike hK⟩⟩ rfl hn hsz hst (lv_room hw) hdg hf)) (fun x hx9 => by subst hx9; exact kk)
theorem k_wSNI {p : Program} {l : Launch} {e : Env} {R : Room} {s : State} {m : MethodId} {ar : Array Value} {below : List Frame} {meth : Method} {c : Code} {H : Heap} {locs : List Loc} {cells slots : Nat} {Q : State → Prop} {y : MethodName} {bytes cc : ByteArray} {maxL nL n index : Nat} {ret : Option FieldType} {rm : Room} {own : String} {As rest st0 : List Value} {pc : Nat} {ls : Array Slot} {D : va_G} {ca : Nat → ClassId} {wc ws : va_W} {host : String} {r : Int32} {wr w1 w2 : va_W} {A : Nat → Prop} {H0 : Heap} (hx : p.tables.exec = Jvm.exec) (hb : c.code = cc) (hml : c.maxLocals = nL) (hown : s.vm.findClass own = some m.cls) (hts : ∀ w ∈ TT, w.before ar s = true)
    (hM : Met l y (Cond.code y bytes maxL ret :: TT) rm (wr_P As D ca wc H.size) (va_Qi (fun x (_ : Unit) => x = r) (wr_B D wc H.size w1) (va_A wc H.size)) 0 0 (va_A wc H.size)) (kc : k_cal y bytes maxL ret n) (kv : Cond.static y ∈ TT) (hk : Cond.methodLinkNest own index y host ∈ TT) (hR : rm.frames + 1 ≤ R.frames ∧ 8 + (maxL + 11) + rm.locals ≤ R.locals) (hrc : rm.cells = 0) (hrs : rm.slots = 0)
    (hP : va_P D vwCl ws H) (hK : va_K D vwCl (tyG ca) s) (hD : va_D A ws) (hS : va_S A H0 H locs) (hA : ∀ q : Nat, H0.size ≤ q → A q)
    (isC isR isF : List Nat) (hC : isC.map (fun i => ws[i]?) = wc.map some) (hCn : va_nd isC = true) (hRr : isR.map (fun i => ws[i]?) = wr.map some) (hRn : va_nd isR = true) (hdis : ∀ i ∈ isR, i ∉ isC) (hF : isF.map (fun i => (wr ++ w1)[i]?) = w2.map some) (hFn : va_nd isF = true)
    (hn : As.length = n) (hsz : ls.size = nL) (hw : (rest.map fun v => v.category).sum ≤ 8) (hst : st0 = As.reverse ++ rest) (hdg : decode cc pc = .ok (.invokestatic index, 3)) (hf : cells ≤ R.cells ∧ slots ≤ R.slots)
    (kk : ∀ (H1 : Heap) (locs1 : List Loc), va_P D vwCl w2 H1 → va_D A w2 → va_S A H0 H1 locs1 → W p l e R s m ar below meth c H1 locs1 cells slots Q (F0 m (pc + 3) ls (.int r :: rest))) : W p l e R s m ar below meth c H locs cells slots Q (F0 m pc ls st0) := by
  have hPc : va_P D vwCl wc H := hP.sub isC (k_fm hC)
  have hDc : va_D A wc := hD.sub isC hCn hC
  have hFc := va_free (wc := wc) hD hS hA isC hC
  refine va_calli (va_runSN (As := As) (rest := rest) ⟨hx, hb, hml, hown, hts⟩ hM ⟨k_cN hts kc hk hrc hrs hR, hts _ kv, trivial⟩ ⟨wr_blind, fun U hU hW => ⟨rfl, by rw [hU], by rw [hU]; exact hPc, va_K.moved hW.alike hK, hDc.weaken (fun _ _ _ _ => trivial)⟩⟩ rfl hn hsz hst (lv_room hw) hdg hf) hS (fun q _ h => hFc q h) hFc (fun x u t H1 locs ht hvm hw9 hB hz1 hk1 hS => ?_)
  subst hw9
  obtain ⟨hP1, hD1⟩ := hB
  rw [ht] at hP1
  obtain ⟨hP, hD⟩ := va_join (wr := wr) (w1 := w1) hP hD isC isR hC hRr hRn hdis hk1 hFc hP1 hD1
  exact kk H1 locs (hP.sub isF (k_fm hF)) (hD.sub isF hFn hF) hS
theorem k_rSNJ {p : Program} {l : Launch} {e : Env} {R : Room} {s : State} {m : MethodId} {ar : Array Value} {below : List Frame} {meth : Method} {c : Code} {H : Heap} {locs : List Loc} {cells slots : Nat} {Q : State → Prop} {y : MethodName} {bytes cc : ByteArray} {maxL nL n index : Nat} {ret : Option FieldType} {rm : Room} {own : String} {As rest st0 : List Value} {pc : Nat} {ls : Array Slot} {D : va_G} {ca : Nat → ClassId} {wc ws : va_W} {host : String} {r : Int64} (hx : p.tables.exec = Jvm.exec) (hb : c.code = cc) (hml : c.maxLocals = nL) (hown : s.vm.findClass own = some m.cls) (hts : ∀ w ∈ TT, w.before ar s = true)
    (hM : Met l y (Cond.code y bytes maxL ret :: TT) rm (rd_P As D ca wc) (vp_Sl (fun x => x = r)) 0 0 (fun _ => False)) (kc : k_cal y bytes maxL ret n) (kv : Cond.static y ∈ TT) (hk : Cond.methodLinkNest own index y host ∈ TT) (hR : rm.frames + 1 ≤ R.frames ∧ 8 + (maxL + 11) + rm.locals ≤ R.locals) (hrc : rm.cells = 0) (hrs : rm.slots = 0)
    (hP : va_P D vwCl ws H) (hK : va_K D vwCl (tyG ca) s) (is : List Nat) (hs : is.filterMap (fun i => ws[i]?) = wc) (hn : As.length = n) (hsz : ls.size = nL) (hw : (rest.map fun v => v.category).sum ≤ 8) (hst : st0 = As.reverse ++ rest) (hdg : decode cc pc = .ok (.invokestatic index, 3)) (hf : cells ≤ R.cells ∧ slots ≤ R.slots)
    (kk : W p l e R s m ar below meth c H locs cells slots Q (F0 m (pc + 3) ls (.long r :: rest))) : W p l e R s m ar below meth c H locs cells slots Q (F0 m pc ls st0) :=
  vp_callSl (va_Run.run (va_runSN (As := As) (rest := rest) ⟨hx, hb, hml, hown, hts⟩ hM ⟨k_cN hts kc hk hrc hrs hR, hts _ kv, trivial⟩ ⟨rd_blind, fun U hU hW => ⟨rfl, by rw [hU]; exact hP.sub is hs, va_K.moved hW.alike hK⟩⟩ rfl hn hsz hst (lv_room hw) hdg hf)) (fun x hx9 => by subst hx9; exact kk)
theorem k_wSNJ {p : Program} {l : Launch} {e : Env} {R : Room} {s : State} {m : MethodId} {ar : Array Value} {below : List Frame} {meth : Method} {c : Code} {H : Heap} {locs : List Loc} {cells slots : Nat} {Q : State → Prop} {y : MethodName} {bytes cc : ByteArray} {maxL nL n index : Nat} {ret : Option FieldType} {rm : Room} {own : String} {As rest st0 : List Value} {pc : Nat} {ls : Array Slot} {D : va_G} {ca : Nat → ClassId} {wc ws : va_W} {host : String} {r : Int64} {wr w1 w2 : va_W} {A : Nat → Prop} {H0 : Heap} (hx : p.tables.exec = Jvm.exec) (hb : c.code = cc) (hml : c.maxLocals = nL) (hown : s.vm.findClass own = some m.cls) (hts : ∀ w ∈ TT, w.before ar s = true)
    (hM : Met l y (Cond.code y bytes maxL ret :: TT) rm (wr_P As D ca wc H.size) (va_Ql (fun x (_ : Unit) => x = r) (wr_B D wc H.size w1) (va_A wc H.size)) 0 0 (va_A wc H.size)) (kc : k_cal y bytes maxL ret n) (kv : Cond.static y ∈ TT) (hk : Cond.methodLinkNest own index y host ∈ TT) (hR : rm.frames + 1 ≤ R.frames ∧ 8 + (maxL + 11) + rm.locals ≤ R.locals) (hrc : rm.cells = 0) (hrs : rm.slots = 0)
    (hP : va_P D vwCl ws H) (hK : va_K D vwCl (tyG ca) s) (hD : va_D A ws) (hS : va_S A H0 H locs) (hA : ∀ q : Nat, H0.size ≤ q → A q)
    (isC isR isF : List Nat) (hC : isC.map (fun i => ws[i]?) = wc.map some) (hCn : va_nd isC = true) (hRr : isR.map (fun i => ws[i]?) = wr.map some) (hRn : va_nd isR = true) (hdis : ∀ i ∈ isR, i ∉ isC) (hF : isF.map (fun i => (wr ++ w1)[i]?) = w2.map some) (hFn : va_nd isF = true)
    (hn : As.length = n) (hsz : ls.size = nL) (hw : (rest.map fun v => v.category).sum ≤ 8) (hst : st0 = As.reverse ++ rest) (hdg : decode cc pc = .ok (.invokestatic index, 3)) (hf : cells ≤ R.cells ∧ slots ≤ R.slots)
    (kk : ∀ (H1 : Heap) (locs1 : List Loc), va_P D vwCl w2 H1 → va_D A w2 → va_S A H0 H1 locs1 → W p l e R s m ar below meth c H1 locs1 cells slots Q (F0 m (pc + 3) ls (.long r :: rest))) : W p l e R s m ar below meth c H locs cells slots Q (F0 m pc ls st0) := by
  have hPc : va_P D vwCl wc H := hP.sub isC (k_fm hC)
  have hDc : va_D A wc := hD.sub isC hCn hC
  have hFc := va_free (wc := wc) hD hS hA isC hC
  refine va_calll (va_runSN (As := As) (rest := rest) ⟨hx, hb, hml, hown, hts⟩ hM ⟨k_cN hts kc hk hrc hrs hR, hts _ kv, trivial⟩ ⟨wr_blind, fun U hU hW => ⟨rfl, by rw [hU], by rw [hU]; exact hPc, va_K.moved hW.alike hK, hDc.weaken (fun _ _ _ _ => trivial)⟩⟩ rfl hn hsz hst (lv_room hw) hdg hf) hS (fun q _ h => hFc q h) hFc (fun x u t H1 locs ht hvm hw9 hB hz1 hk1 hS => ?_)
  subst hw9
  obtain ⟨hP1, hD1⟩ := hB
  rw [ht] at hP1
  obtain ⟨hP, hD⟩ := va_join (wr := wr) (w1 := w1) hP hD isC isR hC hRr hRn hdis hk1 hFc hP1 hD1
  exact kk H1 locs (hP.sub isF (k_fm hF)) (hD.sub isF hFn hF) hS
theorem k_rSNV {p : Program} {l : Launch} {e : Env} {R : Room} {s : State} {m : MethodId} {ar : Array Value} {below : List Frame} {meth : Method} {c : Code} {H : Heap} {locs : List Loc} {cells slots : Nat} {Q : State → Prop} {y : MethodName} {bytes cc : ByteArray} {maxL nL n index : Nat} {ret : Option FieldType} {rm : Room} {own : String} {As rest st0 : List Value} {pc : Nat} {ls : Array Slot} {D : va_G} {ca : Nat → ClassId} {wc ws : va_W} {host : String} (hx : p.tables.exec = Jvm.exec) (hb : c.code = cc) (hml : c.maxLocals = nL) (hown : s.vm.findClass own = some m.cls) (hts : ∀ w ∈ TT, w.before ar s = true)
    (hM : Met l y (Cond.code y bytes maxL ret :: TT) rm (rd_P As D ca wc) (va_Sv (fun _ => True)) 0 0 (fun _ => False)) (kc : k_cal y bytes maxL ret n) (kv : Cond.static y ∈ TT) (hk : Cond.methodLinkNest own index y host ∈ TT) (hR : rm.frames + 1 ≤ R.frames ∧ 8 + (maxL + 11) + rm.locals ≤ R.locals) (hrc : rm.cells = 0) (hrs : rm.slots = 0)
    (hP : va_P D vwCl ws H) (hK : va_K D vwCl (tyG ca) s) (is : List Nat) (hs : is.filterMap (fun i => ws[i]?) = wc) (hn : As.length = n) (hsz : ls.size = nL) (hw : (rest.map fun v => v.category).sum ≤ 8) (hst : st0 = As.reverse ++ rest) (hdg : decode cc pc = .ok (.invokestatic index, 3)) (hf : cells ≤ R.cells ∧ slots ≤ R.slots)
    (kk : W p l e R s m ar below meth c H locs cells slots Q (F0 m (pc + 3) ls rest)) : W p l e R s m ar below meth c H locs cells slots Q (F0 m pc ls st0) :=
  va_csv (va_Run.run (va_runSN (As := As) (rest := rest) ⟨hx, hb, hml, hown, hts⟩ hM ⟨k_cN hts kc hk hrc hrs hR, hts _ kv, trivial⟩ ⟨rd_blind, fun U hU hW => ⟨rfl, by rw [hU]; exact hP.sub is hs, va_K.moved hW.alike hK⟩⟩ rfl hn hsz hst (lv_room hw) hdg hf)) (fun _ => kk)
theorem k_wSNV {p : Program} {l : Launch} {e : Env} {R : Room} {s : State} {m : MethodId} {ar : Array Value} {below : List Frame} {meth : Method} {c : Code} {H : Heap} {locs : List Loc} {cells slots : Nat} {Q : State → Prop} {y : MethodName} {bytes cc : ByteArray} {maxL nL n index : Nat} {ret : Option FieldType} {rm : Room} {own : String} {As rest st0 : List Value} {pc : Nat} {ls : Array Slot} {D : va_G} {ca : Nat → ClassId} {wc ws : va_W} {host : String} {wr w1 w2 : va_W} {A : Nat → Prop} {H0 : Heap} (hx : p.tables.exec = Jvm.exec) (hb : c.code = cc) (hml : c.maxLocals = nL) (hown : s.vm.findClass own = some m.cls) (hts : ∀ w ∈ TT, w.before ar s = true)
    (hM : Met l y (Cond.code y bytes maxL ret :: TT) rm (wr_P As D ca wc H.size) (va_Qv (fun (_ : Unit) => True) (wr_B D wc H.size w1) (va_A wc H.size)) 0 0 (va_A wc H.size)) (kc : k_cal y bytes maxL ret n) (kv : Cond.static y ∈ TT) (hk : Cond.methodLinkNest own index y host ∈ TT) (hR : rm.frames + 1 ≤ R.frames ∧ 8 + (maxL + 11) + rm.locals ≤ R.locals) (hrc : rm.cells = 0) (hrs : rm.slots = 0)
    (hP : va_P D vwCl ws H) (hK : va_K D vwCl (tyG ca) s) (hD : va_D A ws) (hS : va_S A H0 H locs) (hA : ∀ q : Nat, H0.size ≤ q → A q)
    (isC isR isF : List Nat) (hC : isC.map (fun i => ws[i]?) = wc.map some) (hCn : va_nd isC = true) (hRr : isR.map (fun i => ws[i]?) = wr.map some) (hRn : va_nd isR = true) (hdis : ∀ i ∈ isR, i ∉ isC) (hF : isF.map (fun i => (wr ++ w1)[i]?) = w2.map some) (hFn : va_nd isF = true)
    (hn : As.length = n) (hsz : ls.size = nL) (hw : (rest.map fun v => v.category).sum ≤ 8) (hst : st0 = As.reverse ++ rest) (hdg : decode cc pc = .ok (.invokestatic index, 3)) (hf : cells ≤ R.cells ∧ slots ≤ R.slots)
    (kk : ∀ (H1 : Heap) (locs1 : List Loc), va_P D vwCl w2 H1 → va_D A w2 → va_S A H0 H1 locs1 → W p l e R s m ar below meth c H1 locs1 cells slots Q (F0 m (pc + 3) ls rest)) : W p l e R s m ar below meth c H locs cells slots Q (F0 m pc ls st0) := by
  have hPc : va_P D vwCl wc H := hP.sub isC (k_fm hC)
  have hDc : va_D A wc := hD.sub isC hCn hC
  have hFc := va_free (wc := wc) hD hS hA isC hC
  refine va_callv (va_runSN (As := As) (rest := rest) ⟨hx, hb, hml, hown, hts⟩ hM ⟨k_cN hts kc hk hrc hrs hR, hts _ kv, trivial⟩ ⟨wr_blind, fun U hU hW => ⟨rfl, by rw [hU], by rw [hU]; exact hPc, va_K.moved hW.alike hK, hDc.weaken (fun _ _ _ _ => trivial)⟩⟩ rfl hn hsz hst (lv_room hw) hdg hf) hS (fun q _ h => hFc q h) hFc (fun u t H1 locs ht hvm hw9 hB hz1 hk1 hS => ?_)
  obtain ⟨hP1, hD1⟩ := hB
  rw [ht] at hP1
  obtain ⟨hP, hD⟩ := va_join (wr := wr) (w1 := w1) hP hD isC isR hC hRr hRn hdis hk1 hFc hP1 hD1
  exact kk H1 locs (hP.sub isF (k_fm hF)) (hD.sub isF hFn hF) hS
end
section
theorem nd_Math_floorDiv_0 : decode nC_Math_floorDiv 0 = .ok (.lload_n 0, 1) := by decide +kernel
theorem nd_Math_floorDiv_1 : decode nC_Math_floorDiv 1 = .ok (.lload_n 2, 1) := by decide +kernel
theorem nd_Math_floorDiv_2 : decode nC_Math_floorDiv 2 = .ok (.ldiv, 1) := by decide +kernel
theorem nd_Math_floorDiv_3 : decode nC_Math_floorDiv 3 = .ok (.lstore 4, 2) := by decide +kernel
theorem nd_Math_floorDiv_5 : decode nC_Math_floorDiv 5 = .ok (.lload_n 0, 1) := by decide +kernel
theorem nd_Math_floorDiv_6 : decode nC_Math_floorDiv 6 = .ok (.lload_n 2, 1) := by decide +kernel
theorem nd_Math_floorDiv_7 : decode nC_Math_floorDiv 7 = .ok (.lxor, 1) := by decide +kernel
theorem nd_Math_floorDiv_8 : decode nC_Math_floorDiv 8 = .ok (.lconst 0, 1) := by decide +kernel
theorem nd_Math_floorDiv_9 : decode nC_Math_floorDiv 9 = .ok (.lcmp, 1) := by decide +kernel
theorem nd_Math_floorDiv_10 : decode nC_Math_floorDiv 10 = .ok (.ifCond .ge 17, 3) := by decide +kernel
theorem nd_Math_floorDiv_13 : decode nC_Math_floorDiv 13 = .ok (.lload 4, 2) := by decide +kernel
theorem nd_Math_floorDiv_15 : decode nC_Math_floorDiv 15 = .ok (.lload_n 2, 1) := by decide +kernel
theorem nd_Math_floorDiv_16 : decode nC_Math_floorDiv 16 = .ok (.lmul, 1) := by decide +kernel
theorem nd_Math_floorDiv_17 : decode nC_Math_floorDiv 17 = .ok (.lload_n 0, 1) := by decide +kernel
theorem nd_Math_floorDiv_18 : decode nC_Math_floorDiv 18 = .ok (.lcmp, 1) := by decide +kernel
theorem nd_Math_floorDiv_19 : decode nC_Math_floorDiv 19 = .ok (.ifCond .eq 8, 3) := by decide +kernel
theorem nd_Math_floorDiv_22 : decode nC_Math_floorDiv 22 = .ok (.lload 4, 2) := by decide +kernel
theorem nd_Math_floorDiv_24 : decode nC_Math_floorDiv 24 = .ok (.lconst 1, 1) := by decide +kernel
theorem nd_Math_floorDiv_25 : decode nC_Math_floorDiv 25 = .ok (.lsub, 1) := by decide +kernel
theorem nd_Math_floorDiv_26 : decode nC_Math_floorDiv 26 = .ok (.lreturn, 1) := by decide +kernel
theorem nd_Math_floorDiv_27 : decode nC_Math_floorDiv 27 = .ok (.lload 4, 2) := by decide +kernel
theorem nd_Math_floorDiv_29 : decode nC_Math_floorDiv 29 = .ok (.lreturn, 1) := by decide +kernel
theorem nd_Room_by_0 : decode nC_Room_by 0 = .ok (.lload_n 2, 1) := by decide +kernel
theorem nd_Room_by_1 : decode nC_Room_by 1 = .ok (.lconst 0, 1) := by decide +kernel
theorem nd_Room_by_2 : decode nC_Room_by 2 = .ok (.lcmp, 1) := by decide +kernel
theorem nd_Room_by_3 : decode nC_Room_by 3 = .ok (.ifCond .le 11, 3) := by decide +kernel
theorem nd_Room_by_6 : decode nC_Room_by 6 = .ok (.lload_n 0, 1) := by decide +kernel
theorem nd_Room_by_7 : decode nC_Room_by 7 = .ok (.lload_n 2, 1) := by decide +kernel
theorem nd_Room_by_8 : decode nC_Room_by 8 = .ok (.invokestatic 261, 3) := by decide +kernel
theorem nd_Room_by_11 : decode nC_Room_by 11 = .ok (.goto 4, 3) := by decide +kernel
theorem nd_Room_by_14 : decode nC_Room_by 14 = .ok (.lconst 0, 1) := by decide +kernel
theorem nd_Room_by_15 : decode nC_Room_by 15 = .ok (.lreturn, 1) := by decide +kernel
theorem nd_Interior_warmth_0 : decode nC_Interior_warmth 0 = .ok (.aload_n 0, 1) := by decide +kernel
theorem nd_Interior_warmth_1 : decode nC_Interior_warmth 1 = .ok (.getfield 27, 3) := by decide +kernel
theorem nd_Interior_warmth_4 : decode nC_Interior_warmth 4 = .ok (.aload_n 0, 1) := by decide +kernel
theorem nd_Interior_warmth_5 : decode nC_Interior_warmth 5 = .ok (.getfield 18, 3) := by decide +kernel
theorem nd_Interior_warmth_8 : decode nC_Interior_warmth 8 = .ok (.i2l, 1) := by decide +kernel
theorem nd_Interior_warmth_9 : decode nC_Interior_warmth 9 = .ok (.invokestatic 36, 3) := by decide +kernel
theorem nd_Interior_warmth_12 : decode nC_Interior_warmth 12 = .ok (.lreturn, 1) := by decide +kernel
theorem nd_Interior_gainHeat_0 : decode nC_Interior_gainHeat 0 = .ok (.aload_n 0, 1) := by decide +kernel
theorem nd_Interior_gainHeat_1 : decode nC_Interior_gainHeat 1 = .ok (.dup, 1) := by decide +kernel
theorem nd_Interior_gainHeat_2 : decode nC_Interior_gainHeat 2 = .ok (.getfield 27, 3) := by decide +kernel
theorem nd_Interior_gainHeat_5 : decode nC_Interior_gainHeat 5 = .ok (.lload_n 2, 1) := by decide +kernel
theorem nd_Interior_gainHeat_6 : decode nC_Interior_gainHeat 6 = .ok (.ladd, 1) := by decide +kernel
theorem nd_Interior_gainHeat_7 : decode nC_Interior_gainHeat 7 = .ok (.putfield 27, 3) := by decide +kernel
theorem nd_Interior_gainHeat_10 : decode nC_Interior_gainHeat 10 = .ok (.aload_n 0, 1) := by decide +kernel
theorem nd_Interior_gainHeat_11 : decode nC_Interior_gainHeat 11 = .ok (.getfield 9, 3) := by decide +kernel
theorem nd_Interior_gainHeat_14 : decode nC_Interior_gainHeat 14 = .ok (.iload_n 1, 1) := by decide +kernel
theorem nd_Interior_gainHeat_15 : decode nC_Interior_gainHeat 15 = .ok (.dup2, 1) := by decide +kernel
theorem nd_Interior_gainHeat_16 : decode nC_Interior_gainHeat 16 = .ok (.laload, 1) := by decide +kernel
theorem nd_Interior_gainHeat_17 : decode nC_Interior_gainHeat 17 = .ok (.lload_n 2, 1) := by decide +kernel
theorem nd_Interior_gainHeat_18 : decode nC_Interior_gainHeat 18 = .ok (.ladd, 1) := by decide +kernel
theorem nd_Interior_gainHeat_19 : decode nC_Interior_gainHeat 19 = .ok (.lastore, 1) := by decide +kernel
theorem nd_Interior_gainHeat_20 : decode nC_Interior_gainHeat 20 = .ok (.return_, 1) := by decide +kernel
theorem nd_Interior_moisture_0 : decode nC_Interior_moisture 0 = .ok (.aload_n 0, 1) := by decide +kernel
theorem nd_Interior_moisture_1 : decode nC_Interior_moisture 1 = .ok (.getfield 33, 3) := by decide +kernel
theorem nd_Interior_moisture_4 : decode nC_Interior_moisture 4 = .ok (.aload_n 0, 1) := by decide +kernel
theorem nd_Interior_moisture_5 : decode nC_Interior_moisture 5 = .ok (.getfield 18, 3) := by decide +kernel
theorem nd_Interior_moisture_8 : decode nC_Interior_moisture 8 = .ok (.i2l, 1) := by decide +kernel
theorem nd_Interior_moisture_9 : decode nC_Interior_moisture 9 = .ok (.invokestatic 36, 3) := by decide +kernel
theorem nd_Interior_moisture_12 : decode nC_Interior_moisture 12 = .ok (.lreturn, 1) := by decide +kernel
theorem nd_Interior_gainWater_0 : decode nC_Interior_gainWater 0 = .ok (.aload_n 0, 1) := by decide +kernel
theorem nd_Interior_gainWater_1 : decode nC_Interior_gainWater 1 = .ok (.dup, 1) := by decide +kernel
theorem nd_Interior_gainWater_2 : decode nC_Interior_gainWater 2 = .ok (.getfield 33, 3) := by decide +kernel
theorem nd_Interior_gainWater_5 : decode nC_Interior_gainWater 5 = .ok (.lload_n 2, 1) := by decide +kernel
theorem nd_Interior_gainWater_6 : decode nC_Interior_gainWater 6 = .ok (.ladd, 1) := by decide +kernel
theorem nd_Interior_gainWater_7 : decode nC_Interior_gainWater 7 = .ok (.putfield 33, 3) := by decide +kernel
theorem nd_Interior_gainWater_10 : decode nC_Interior_gainWater 10 = .ok (.aload_n 0, 1) := by decide +kernel
theorem nd_Interior_gainWater_11 : decode nC_Interior_gainWater 11 = .ok (.getfield 15, 3) := by decide +kernel
theorem nd_Interior_gainWater_14 : decode nC_Interior_gainWater 14 = .ok (.iload_n 1, 1) := by decide +kernel
theorem nd_Interior_gainWater_15 : decode nC_Interior_gainWater 15 = .ok (.dup2, 1) := by decide +kernel
theorem nd_Interior_gainWater_16 : decode nC_Interior_gainWater 16 = .ok (.laload, 1) := by decide +kernel
theorem nd_Interior_gainWater_17 : decode nC_Interior_gainWater 17 = .ok (.lload_n 2, 1) := by decide +kernel
theorem nd_Interior_gainWater_18 : decode nC_Interior_gainWater 18 = .ok (.ladd, 1) := by decide +kernel
theorem nd_Interior_gainWater_19 : decode nC_Interior_gainWater 19 = .ok (.lastore, 1) := by decide +kernel
theorem nd_Interior_gainWater_20 : decode nC_Interior_gainWater 20 = .ok (.return_, 1) := by decide +kernel
theorem nd_Interior_exchangeAir_0 : decode nC_Interior_exchangeAir 0 = .ok (.aload_n 0, 1) := by decide +kernel
theorem nd_Interior_exchangeAir_1 : decode nC_Interior_exchangeAir 1 = .ok (.iconst 0, 1) := by decide +kernel
theorem nd_Interior_exchangeAir_2 : decode nC_Interior_exchangeAir 2 = .ok (.aload_n 0, 1) := by decide +kernel
theorem nd_Interior_exchangeAir_3 : decode nC_Interior_exchangeAir 3 = .ok (.getfield 22, 3) := by decide +kernel
theorem nd_Interior_exchangeAir_6 : decode nC_Interior_exchangeAir 6 = .ok (.i2l, 1) := by decide +kernel
theorem nd_Interior_exchangeAir_7 : decode nC_Interior_exchangeAir 7 = .ok (.iload_n 1, 1) := by decide +kernel
theorem nd_Interior_exchangeAir_8 : decode nC_Interior_exchangeAir 8 = .ok (.i2l, 1) := by decide +kernel
theorem nd_Interior_exchangeAir_9 : decode nC_Interior_exchangeAir 9 = .ok (.aload_n 0, 1) := by decide +kernel
theorem nd_Interior_exchangeAir_10 : decode nC_Interior_exchangeAir 10 = .ok (.invokevirtual 40, 3) := by decide +kernel
theorem nd_Interior_exchangeAir_13 : decode nC_Interior_exchangeAir 13 = .ok (.lsub, 1) := by decide +kernel
theorem nd_Interior_exchangeAir_14 : decode nC_Interior_exchangeAir 14 = .ok (.lmul, 1) := by decide +kernel
theorem nd_Interior_exchangeAir_15 : decode nC_Interior_exchangeAir 15 = .ok (.aload_n 0, 1) := by decide +kernel
theorem nd_Interior_exchangeAir_16 : decode nC_Interior_exchangeAir 16 = .ok (.getfield 18, 3) := by decide +kernel
theorem nd_Interior_exchangeAir_19 : decode nC_Interior_exchangeAir 19 = .ok (.i2l, 1) := by decide +kernel
theorem nd_Interior_exchangeAir_20 : decode nC_Interior_exchangeAir 20 = .ok (.lmul, 1) := by decide +kernel
theorem nd_Interior_exchangeAir_21 : decode nC_Interior_exchangeAir 21 = .ok (.ldc2_w 44, 3) := by decide +kernel
theorem nd_Interior_exchangeAir_24 : decode nC_Interior_exchangeAir 24 = .ok (.invokestatic 36, 3) := by decide +kernel
theorem nd_Interior_exchangeAir_27 : decode nC_Interior_exchangeAir 27 = .ok (.invokevirtual 46, 3) := by decide +kernel
theorem nd_Interior_exchangeAir_30 : decode nC_Interior_exchangeAir 30 = .ok (.aload_n 0, 1) := by decide +kernel
theorem nd_Interior_exchangeAir_31 : decode nC_Interior_exchangeAir 31 = .ok (.iconst 0, 1) := by decide +kernel
theorem nd_Interior_exchangeAir_32 : decode nC_Interior_exchangeAir 32 = .ok (.aload_n 0, 1) := by decide +kernel
theorem nd_Interior_exchangeAir_33 : decode nC_Interior_exchangeAir 33 = .ok (.getfield 22, 3) := by decide +kernel
theorem nd_Interior_exchangeAir_36 : decode nC_Interior_exchangeAir 36 = .ok (.i2l, 1) := by decide +kernel
theorem nd_Interior_exchangeAir_37 : decode nC_Interior_exchangeAir 37 = .ok (.iload_n 2, 1) := by decide +kernel
theorem nd_Interior_exchangeAir_38 : decode nC_Interior_exchangeAir 38 = .ok (.i2l, 1) := by decide +kernel
theorem nd_Interior_exchangeAir_39 : decode nC_Interior_exchangeAir 39 = .ok (.aload_n 0, 1) := by decide +kernel
theorem nd_Interior_exchangeAir_40 : decode nC_Interior_exchangeAir 40 = .ok (.invokevirtual 50, 3) := by decide +kernel
theorem nd_Interior_exchangeAir_43 : decode nC_Interior_exchangeAir 43 = .ok (.lsub, 1) := by decide +kernel
theorem nd_Interior_exchangeAir_44 : decode nC_Interior_exchangeAir 44 = .ok (.lmul, 1) := by decide +kernel
theorem nd_Interior_exchangeAir_45 : decode nC_Interior_exchangeAir 45 = .ok (.aload_n 0, 1) := by decide +kernel
theorem nd_Interior_exchangeAir_46 : decode nC_Interior_exchangeAir 46 = .ok (.getfield 18, 3) := by decide +kernel
theorem nd_Interior_exchangeAir_49 : decode nC_Interior_exchangeAir 49 = .ok (.i2l, 1) := by decide +kernel
theorem nd_Interior_exchangeAir_50 : decode nC_Interior_exchangeAir 50 = .ok (.lmul, 1) := by decide +kernel
theorem nd_Interior_exchangeAir_51 : decode nC_Interior_exchangeAir 51 = .ok (.ldc2_w 44, 3) := by decide +kernel
theorem nd_Interior_exchangeAir_54 : decode nC_Interior_exchangeAir 54 = .ok (.invokestatic 36, 3) := by decide +kernel
theorem nd_Interior_exchangeAir_57 : decode nC_Interior_exchangeAir 57 = .ok (.invokevirtual 53, 3) := by decide +kernel
theorem nd_Interior_exchangeAir_60 : decode nC_Interior_exchangeAir 60 = .ok (.return_, 1) := by decide +kernel
theorem nd_Steps_amountUpTo_0 : decode nC_Steps_amountUpTo 0 = .ok (.iconst 0, 1) := by decide +kernel
theorem nd_Steps_amountUpTo_1 : decode nC_Steps_amountUpTo 1 = .ok (.istore_n 3, 1) := by decide +kernel
theorem nd_Steps_amountUpTo_2 : decode nC_Steps_amountUpTo 2 = .ok (.iload_n 3, 1) := by decide +kernel
theorem nd_Steps_amountUpTo_3 : decode nC_Steps_amountUpTo 3 = .ok (.aload_n 0, 1) := by decide +kernel
theorem nd_Steps_amountUpTo_4 : decode nC_Steps_amountUpTo 4 = .ok (.getfield 16, 3) := by decide +kernel
theorem nd_Steps_amountUpTo_7 : decode nC_Steps_amountUpTo 7 = .ok (.if_icmp .ge 28, 3) := by decide +kernel
theorem nd_Steps_amountUpTo_10 : decode nC_Steps_amountUpTo 10 = .ok (.aload_n 0, 1) := by decide +kernel
theorem nd_Steps_amountUpTo_11 : decode nC_Steps_amountUpTo 11 = .ok (.getfield 7, 3) := by decide +kernel
theorem nd_Steps_amountUpTo_14 : decode nC_Steps_amountUpTo 14 = .ok (.iload_n 3, 1) := by decide +kernel
theorem nd_Steps_amountUpTo_15 : decode nC_Steps_amountUpTo 15 = .ok (.iaload, 1) := by decide +kernel
theorem nd_Steps_amountUpTo_16 : decode nC_Steps_amountUpTo 16 = .ok (.i2l, 1) := by decide +kernel
theorem nd_Steps_amountUpTo_17 : decode nC_Steps_amountUpTo 17 = .ok (.lload_n 1, 1) := by decide +kernel
theorem nd_Steps_amountUpTo_18 : decode nC_Steps_amountUpTo 18 = .ok (.lcmp, 1) := by decide +kernel
theorem nd_Steps_amountUpTo_19 : decode nC_Steps_amountUpTo 19 = .ok (.ifCond .lt 10, 3) := by decide +kernel
theorem nd_Steps_amountUpTo_22 : decode nC_Steps_amountUpTo 22 = .ok (.aload_n 0, 1) := by decide +kernel
theorem nd_Steps_amountUpTo_23 : decode nC_Steps_amountUpTo 23 = .ok (.getfield 13, 3) := by decide +kernel
theorem nd_Steps_amountUpTo_26 : decode nC_Steps_amountUpTo 26 = .ok (.iload_n 3, 1) := by decide +kernel
theorem nd_Steps_amountUpTo_27 : decode nC_Steps_amountUpTo 27 = .ok (.iaload, 1) := by decide +kernel
theorem nd_Steps_amountUpTo_28 : decode nC_Steps_amountUpTo 28 = .ok (.ireturn, 1) := by decide +kernel
theorem nd_Steps_amountUpTo_29 : decode nC_Steps_amountUpTo 29 = .ok (.iinc 3 1, 3) := by decide +kernel
theorem nd_Steps_amountUpTo_32 : decode nC_Steps_amountUpTo 32 = .ok (.goto (-30), 3) := by decide +kernel
theorem nd_Steps_amountUpTo_35 : decode nC_Steps_amountUpTo 35 = .ok (.aload_n 0, 1) := by decide +kernel
theorem nd_Steps_amountUpTo_36 : decode nC_Steps_amountUpTo 36 = .ok (.getfield 16, 3) := by decide +kernel
theorem nd_Steps_amountUpTo_39 : decode nC_Steps_amountUpTo 39 = .ok (.ifCond .le 17, 3) := by decide +kernel
theorem nd_Steps_amountUpTo_42 : decode nC_Steps_amountUpTo 42 = .ok (.aload_n 0, 1) := by decide +kernel
theorem nd_Steps_amountUpTo_43 : decode nC_Steps_amountUpTo 43 = .ok (.getfield 13, 3) := by decide +kernel
theorem nd_Steps_amountUpTo_46 : decode nC_Steps_amountUpTo 46 = .ok (.aload_n 0, 1) := by decide +kernel
theorem nd_Steps_amountUpTo_47 : decode nC_Steps_amountUpTo 47 = .ok (.getfield 16, 3) := by decide +kernel
theorem nd_Steps_amountUpTo_50 : decode nC_Steps_amountUpTo 50 = .ok (.iconst 1, 1) := by decide +kernel
theorem nd_Steps_amountUpTo_51 : decode nC_Steps_amountUpTo 51 = .ok (.isub, 1) := by decide +kernel
theorem nd_Steps_amountUpTo_52 : decode nC_Steps_amountUpTo 52 = .ok (.iaload, 1) := by decide +kernel
theorem nd_Steps_amountUpTo_53 : decode nC_Steps_amountUpTo 53 = .ok (.goto 4, 3) := by decide +kernel
theorem nd_Steps_amountUpTo_56 : decode nC_Steps_amountUpTo 56 = .ok (.iconst 0, 1) := by decide +kernel
theorem nd_Steps_amountUpTo_57 : decode nC_Steps_amountUpTo 57 = .ok (.ireturn, 1) := by decide +kernel
end
section
def fn_Math_floorDiv (x0 : Int64) (x2 : Int64) : Option (Int64) :=
  (if x2 = 0 then none else
  (if 0 ≤ lg_cmp (x0 ^^^ x2) (0 : Int64) then
  some (x0 / x2)
  else
  (if lg_cmp ((x0 / x2) * x2) x0 = 0 then
  some (x0 / x2)
  else
  some ((x0 / x2) - (1 : Int64)))))
def rm_Math_floorDiv : Room := { frames := 0, cells := 0, slots := 0, locals := 0 }
theorem kc_Math_floorDiv : k_cal nY_Math_floorDiv nC_Math_floorDiv 6 (some .long) 2 := ⟨tt_257, tt_17, by decide +kernel⟩
theorem ks_Math_floorDiv : Cond.static nY_Math_floorDiv ∈ TT := tt_256
set_option maxHeartbeats 4000000 in
set_option maxRecDepth 100000 in
theorem cn_Math_floorDiv (l : Launch) (D : va_G) (ca : Nat → ClassId) (x0 : Int64) (x2 : Int64) (R0 : Int64) (hR : fn_Math_floorDiv x0 x2 = some R0) : Met l nY_Math_floorDiv (Cond.code nY_Math_floorDiv nC_Math_floorDiv 6 (some .long) :: TT) rm_Math_floorDiv (rd_P [.long x0, .long x2] D ca []) (vp_Sl (fun x => x = R0)) 0 0 (fun _ => False) := by
  refine rd_ofJ (by decide +kernel) (Nat.le_of_ble_eq_true rfl) ?_
  intro p e s m below meth c Q ar ls hx hb hml hts hown hP hK hl hret
  have hown : s.vm.findClass nR_Math = some m.cls := hown
  have hl : lv_has ls 6 [(0, .long x0), (2, .long x2)] := hl
  unfold fn_Math_floorDiv at hR
  refine lv_lload_n hx hb nd_Math_floorDiv_0 rfl (lv_at hl 0 rfl) ?_
  refine lv_lload_n hx hb nd_Math_floorDiv_1 rfl (lv_at hl 1 rfl) ?_
  obtain ⟨h1, hR⟩ := q_nz hR
  refine lv_ldiv hx hb nd_Math_floorDiv_2 h1 ?_
  refine lv_lstore (lv' := [(4, .long (x0 / x2)), (0, .long x0), (2, .long x2)]) hx hb nd_Math_floorDiv_3 hl (by decide) rfl (fun ls hl => ?_)
  refine lv_lload_n hx hb nd_Math_floorDiv_5 rfl (lv_at hl 1 rfl) ?_
  refine lv_lload_n hx hb nd_Math_floorDiv_6 rfl (lv_at hl 2 rfl) ?_
  refine lv_lxor hx hb nd_Math_floorDiv_7 ?_
  refine lv_lconst (v := 0) hx hb nd_Math_floorDiv_8 (by decide) ?_
  refine W.lcmp hx hb nd_Math_floorDiv_9 ?_
  refine lv_if_ge (tgt := 27) hx hb nd_Math_floorDiv_10 (by decide) (fun c2 => ?_) (fun c2 => ?_)
  · replace hR := q_p c2 hR
    refine lv_lload hx hb nd_Math_floorDiv_27 (lv_at hl 0 rfl) ?_
    exact hret _ _ _ nd_Math_floorDiv_29 (Option.some.inj hR)
  · replace hR := q_n c2 hR
    refine lv_lload hx hb nd_Math_floorDiv_13 (lv_at hl 0 rfl) ?_
    refine lv_lload_n hx hb nd_Math_floorDiv_15 rfl (lv_at hl 2 rfl) ?_
    refine lv_lmul hx hb nd_Math_floorDiv_16 ?_
    refine lv_lload_n hx hb nd_Math_floorDiv_17 rfl (lv_at hl 1 rfl) ?_
    refine W.lcmp hx hb nd_Math_floorDiv_18 ?_
    refine lv_if_eq (tgt := 27) hx hb nd_Math_floorDiv_19 (by decide) (fun c3 => ?_) (fun c3 => ?_)
    · replace hR := q_p c3 hR
      refine lv_lload hx hb nd_Math_floorDiv_27 (lv_at hl 0 rfl) ?_
      exact hret _ _ _ nd_Math_floorDiv_29 (Option.some.inj hR)
    · replace hR := q_n c3 hR
      refine lv_lload hx hb nd_Math_floorDiv_22 (lv_at hl 0 rfl) ?_
      refine lv_lconst (v := 1) hx hb nd_Math_floorDiv_24 (by decide) ?_
      refine lv_lsub hx hb nd_Math_floorDiv_25 ?_
      exact hret _ _ _ nd_Math_floorDiv_26 (Option.some.inj hR)
def fn_Room_by (x0 : Int64) (x2 : Int64) : Option (Int64) :=
  (if lg_cmp x2 (0 : Int64) ≤ 0 then
  some (0 : Int64)
  else
  (gx_b1 (fn_Math_floorDiv x0 x2) fun r2 =>
  some r2))
def rm_Room_by : Room := { frames := 1, cells := 0, slots := 0, locals := 25 }
theorem kc_Room_by : k_cal nY_Room_by nC_Room_by 4 (some .long) 2 := ⟨tt_254, tt_1, by decide +kernel⟩
theorem ks_Room_by : Cond.static nY_Room_by ∈ TT := tt_253
set_option maxHeartbeats 4000000 in
set_option maxRecDepth 100000 in
theorem cn_Room_by (l : Launch) (D : va_G) (ca : Nat → ClassId) (x0 : Int64) (x2 : Int64) (R0 : Int64) (hR : fn_Room_by x0 x2 = some R0) : Met l nY_Room_by (Cond.code nY_Room_by nC_Room_by 4 (some .long) :: TT) rm_Room_by (rd_P [.long x0, .long x2] D ca []) (vp_Sl (fun x => x = R0)) 0 0 (fun _ => False) := by
  refine rd_ofJ (by decide +kernel) (Nat.le_of_ble_eq_true rfl) ?_
  intro p e s m below meth c Q ar ls hx hb hml hts hown hP hK hl hret
  have hown : s.vm.findClass nR_Room = some m.cls := hown
  have hl : lv_has ls 4 [(0, .long x0), (2, .long x2)] := hl
  unfold fn_Room_by at hR
  refine lv_lload_n hx hb nd_Room_by_0 rfl (lv_at hl 1 rfl) ?_
  refine lv_lconst (v := 0) hx hb nd_Room_by_1 (by decide) ?_
  refine W.lcmp hx hb nd_Room_by_2 ?_
  refine lv_if_le (tgt := 14) hx hb nd_Room_by_3 (by decide) (fun c1 => ?_) (fun c1 => ?_)
  · replace hR := q_p c1 hR
    refine lv_lconst (v := 0) hx hb nd_Room_by_14 (by decide) ?_
    exact hret _ _ _ nd_Room_by_15 (Option.some.inj hR)
  · replace hR := q_n c1 hR
    refine lv_lload_n hx hb nd_Room_by_6 rfl (lv_at hl 0 rfl) ?_
    refine lv_lload_n hx hb nd_Room_by_7 rfl (lv_at hl 1 rfl) ?_
    obtain ⟨r2, e2, hR⟩ := q_b1 hR
    refine k_rSJ (As := [.long x0, .long x2]) (rest := []) (r := r2) hx hb hml hown hts (cn_Math_floorDiv l D ca x0 x2 r2 e2) kc_Math_floorDiv ks_Math_floorDiv tt_255 ⟨by decide, by decide⟩ rfl rfl hP hK [] rfl rfl hl.1 (Nat.le_of_ble_eq_true rfl) rfl nd_Room_by_8 ⟨Nat.zero_le _, Nat.zero_le _⟩ ?_
    refine lv_goto (tgt := 15) hx hb nd_Room_by_11 (by decide) ?_
    exact hret _ _ _ nd_Room_by_15 (Option.some.inj hR)
def fn_Interior_warmth (volume_ : Int32) (heat_ : Int64) : Option (Int64) :=
  (gx_b1 (fn_Room_by heat_ volume_.toInt64) fun r1 =>
  some r1)
def rm_Interior_warmth : Room := { frames := 2, cells := 0, slots := 0, locals := 48 }
theorem kc_Interior_warmth : k_cal nY_Interior_warmth nC_Interior_warmth 1 (some .long) 0 := ⟨tt_251, tt_4, by decide +kernel⟩
theorem kv_Interior_warmth : k_vir nY_Interior_warmth := ⟨tt_249, tt_250⟩
set_option maxHeartbeats 4000000 in
set_option maxRecDepth 100000 in
theorem cn_Interior_warmth (l : Launch) (D : va_G) (ca : Nat → ClassId) (qa0 qheatBooks qwaterBooks : Nat) (volume_ : Int32) (share_ : Int32) (heat_ : Int64) (water_ : Int64) (R0 : Int64) (hR : fn_Interior_warmth volume_ heat_ = some R0) : Met l nY_Interior_warmth (Cond.code nY_Interior_warmth nC_Interior_warmth 1 (some .long) :: TT) rm_Interior_warmth (rd_P [.ref qa0] D ca [oc_Interior qa0 qheatBooks qwaterBooks volume_ share_ heat_ water_]) (vp_Sl (fun x => x = R0)) 0 0 (fun _ => False) := by
  refine rd_ofJ (by decide +kernel) (Nat.le_of_ble_eq_true rfl) ?_
  intro p e s m below meth c Q ar ls hx hb hml hts hown hP hK hl hret
  have hown : s.vm.findClass nR_Interior = some m.cls := hown
  have hl : lv_has ls 1 [(0, .ref qa0)] := hl
  unfold fn_Interior_warmth at hR
  refine lv_aload_n hx hb nd_Interior_warmth_0 rfl (lv_at hl 0 rfl) ?_
  refine va_get (D := D) (ci := 3) (v := .long heat_) (C := nR_Interior) (T := nT_Interior) (N := 6) hx hb hts ni_Interior hown hK hP 0 rfl rfl 4 (by decide) (hts (.fieldLink nR_Interior 27 "RoomClimate$Interior" "heat" "J") tt_66) (fun _ h9 => h9) rfl nd_Interior_warmth_1 ?_
  refine lv_aload_n hx hb nd_Interior_warmth_4 rfl (lv_at hl 0 rfl) ?_
  refine va_get (D := D) (ci := 3) (v := .int volume_) (C := nR_Interior) (T := nT_Interior) (N := 6) hx hb hts ni_Interior hown hK hP 0 rfl rfl 2 (by decide) (hts (.fieldLink nR_Interior 18 "RoomClimate$Interior" "volume" "I") tt_62) (fun _ h9 => h9) rfl nd_Interior_warmth_5 ?_
  refine lv_i2l hx hb nd_Interior_warmth_8 rfl ?_
  obtain ⟨r1, e1, hR⟩ := q_b1 hR
  refine k_rSNJ (As := [.long heat_, .long volume_.toInt64]) (rest := []) (r := r1) hx hb hml hown hts (cn_Room_by l D ca heat_ volume_.toInt64 r1 e1) kc_Room_by ks_Room_by tt_252 ⟨by decide, by decide⟩ rfl rfl hP hK [] rfl rfl hl.1 (Nat.le_of_ble_eq_true rfl) rfl nd_Interior_warmth_9 ⟨Nat.zero_le _, Nat.zero_le _⟩ ?_
  exact hret _ _ _ nd_Interior_warmth_12 (Option.some.inj hR)
def fn_Interior_gainHeat (heat_ : Int64) (heatBooks_ : Nat → Int64) (x1 : Int32) (x2 : Int64) : Option (Int64 × (Nat → Int64)) :=
  (if gx_ix x1 5 then
  some (heat_ + x2, vp_updL heatBooks_ x1.toNatClampNeg ((heatBooks_ x1.toNatClampNeg) + x2))
  else none)
def rm_Interior_gainHeat : Room := { frames := 0, cells := 0, slots := 0, locals := 0 }
theorem kc_Interior_gainHeat : k_cal nY_Interior_gainHeat nC_Interior_gainHeat 4 none 2 := ⟨tt_461, tt_4, by decide +kernel⟩
theorem kv_Interior_gainHeat : k_vir nY_Interior_gainHeat := ⟨tt_459, tt_460⟩
set_option maxHeartbeats 4000000 in
set_option maxRecDepth 100000 in
theorem cn_Interior_gainHeat (l : Launch) (D : va_G) (ca : Nat → ClassId) (qa0 qheatBooks qwaterBooks : Nat) (volume_ : Int32) (share_ : Int32) (heat_ : Int64) (water_ : Int64) (heatBooks_ : Nat → Int64) (x1 : Int32) (x2 : Int64) (R0 : Int64) (R1 : Nat → Int64) (hR : fn_Interior_gainHeat heat_ heatBooks_ x1 x2 = some (R0, R1)) (sz : Nat) : Met l nY_Interior_gainHeat (Cond.code nY_Interior_gainHeat nC_Interior_gainHeat 4 none :: TT) rm_Interior_gainHeat (wr_P [.ref qa0, .int x1, .long x2] D ca [oc_Interior qa0 qheatBooks qwaterBooks volume_ share_ heat_ water_, aJ qheatBooks ca 5 heatBooks_] sz) (va_Qv (fun (_ : Unit) => True) (wr_B D [oc_Interior qa0 qheatBooks qwaterBooks volume_ share_ heat_ water_, aJ qheatBooks ca 5 heatBooks_] sz [oc_Interior qa0 qheatBooks qwaterBooks volume_ share_ R0 water_, aJ qheatBooks ca 5 R1]) (va_A [oc_Interior qa0 qheatBooks qwaterBooks volume_ share_ heat_ water_, aJ qheatBooks ca 5 heatBooks_] sz)) 0 0 (va_A [oc_Interior qa0 qheatBooks qwaterBooks volume_ share_ heat_ water_, aJ qheatBooks ca 5 heatBooks_] sz) := by
  refine wr_ofV (R := (R0, R1)) (w1 := fun r : Int64 × (Nat → Int64) => [oc_Interior qa0 qheatBooks qwaterBooks volume_ share_ r.1 water_, aJ qheatBooks ca 5 r.2]) (by decide +kernel) (Nat.le_of_ble_eq_true rfl) ?_
  intro p e s m below meth c Q ar ls hx hb hml hts hown hP hK A hD hA hl hret
  have hS : va_S A s.heap s.heap [] := va_S.rf
  have hown : s.vm.findClass nR_Interior = some m.cls := hown
  have hl : lv_has ls 4 [(0, .ref qa0), (1, .int x1), (2, .long x2)] := hl
  unfold fn_Interior_gainHeat at hR
  refine lv_aload_n hx hb nd_Interior_gainHeat_0 rfl (lv_at hl 0 rfl) ?_
  refine lv_dup hx hb nd_Interior_gainHeat_1 rfl ?_
  refine va_get (D := D) (ci := 3) (v := .long heat_) (C := nR_Interior) (T := nT_Interior) (N := 6) hx hb hts ni_Interior hown hK hP 0 rfl rfl 4 (by decide) (hts (.fieldLink nR_Interior 27 "RoomClimate$Interior" "heat" "J") tt_66) (fun _ h9 => h9) rfl nd_Interior_gainHeat_2 ?_
  refine lv_lload_n hx hb nd_Interior_gainHeat_5 rfl (lv_at hl 2 rfl) ?_
  refine lv_ladd hx hb nd_Interior_gainHeat_6 ?_
  refine va_put (D := D) (ci := 3) (v := .long (heat_ + x2)) (ty := .long) (C := nR_Interior) (T := nT_Interior) (N := 6) hx hb hts ni_Interior nt_Interior nt_Interior_ok nn_Interior hown hK hP hD hS 0 rfl rfl 4 (by decide) (hts (.fieldLink nR_Interior 27 "RoomClimate$Interior" "heat" "J") tt_66) (fun _ h9 => h9) rfl (by decide +kernel) rfl rfl (Nat.le_of_ble_eq_true rfl) nd_Interior_gainHeat_7 (fun H locs hP hD hS => ?_)
  have hP : va_P D vwCl [oc_Interior qa0 qheatBooks qwaterBooks volume_ share_ (heat_ + x2) water_, aJ qheatBooks ca 5 heatBooks_] H := hP
  have hD : va_D A [oc_Interior qa0 qheatBooks qwaterBooks volume_ share_ (heat_ + x2) water_, aJ qheatBooks ca 5 heatBooks_] := hD
  refine lv_aload_n hx hb nd_Interior_gainHeat_10 rfl (lv_at hl 0 rfl) ?_
  refine va_get (D := D) (ci := 3) (v := .ref qheatBooks) (C := nR_Interior) (T := nT_Interior) (N := 6) hx hb hts ni_Interior hown hK hP 0 rfl rfl 0 (by decide) (hts (.fieldLink nR_Interior 9 "RoomClimate$Interior" "heatBooks" "[J") tt_58) (fun _ h9 => h9) rfl nd_Interior_gainHeat_11 ?_
  refine lv_iload_n hx hb nd_Interior_gainHeat_14 rfl (lv_at hl 1 rfl) ?_
  refine lv_dup2_11 hx hb nd_Interior_gainHeat_15 rfl rfl ?_
  obtain ⟨h1, hR⟩ := q_ix hR
  refine va_lald hx hb hK hP 1 1 rfl rfl h1 nd_Interior_gainHeat_16 ?_
  refine lv_lload_n hx hb nd_Interior_gainHeat_17 rfl (lv_at hl 2 rfl) ?_
  refine lv_ladd hx hb nd_Interior_gainHeat_18 ?_
  refine va_last hx hb hK hP hD hS 1 1 rfl rfl h1 nd_Interior_gainHeat_19 (fun H locs hP hD hS => ?_)
  have hP : va_P D vwCl [oc_Interior qa0 qheatBooks qwaterBooks volume_ share_ (heat_ + x2) water_, aJ qheatBooks ca 5 (vp_updL heatBooks_ x1.toNatClampNeg ((heatBooks_ x1.toNatClampNeg) + x2))] H := hP
  have hD : va_D A [oc_Interior qa0 qheatBooks qwaterBooks volume_ share_ (heat_ + x2) water_, aJ qheatBooks ca 5 (vp_updL heatBooks_ x1.toNatClampNeg ((heatBooks_ x1.toNatClampNeg) + x2))] := hD
  exact hret (heat_ + x2, vp_updL heatBooks_ x1.toNatClampNeg ((heatBooks_ x1.toNatClampNeg) + x2)) _ _ _ _ nd_Interior_gainHeat_20 hR hP hD hS
def fn_Interior_moisture (volume_ : Int32) (water_ : Int64) : Option (Int64) :=
  (gx_b1 (fn_Room_by water_ volume_.toInt64) fun r1 =>
  some r1)
def rm_Interior_moisture : Room := { frames := 2, cells := 0, slots := 0, locals := 48 }
theorem kc_Interior_moisture : k_cal nY_Interior_moisture nC_Interior_moisture 1 (some .long) 0 := ⟨tt_265, tt_4, by decide +kernel⟩
theorem kv_Interior_moisture : k_vir nY_Interior_moisture := ⟨tt_263, tt_264⟩
set_option maxHeartbeats 4000000 in
set_option maxRecDepth 100000 in
theorem cn_Interior_moisture (l : Launch) (D : va_G) (ca : Nat → ClassId) (qa0 qheatBooks qwaterBooks : Nat) (volume_ : Int32) (share_ : Int32) (heat_ : Int64) (water_ : Int64) (R0 : Int64) (hR : fn_Interior_moisture volume_ water_ = some R0) : Met l nY_Interior_moisture (Cond.code nY_Interior_moisture nC_Interior_moisture 1 (some .long) :: TT) rm_Interior_moisture (rd_P [.ref qa0] D ca [oc_Interior qa0 qheatBooks qwaterBooks volume_ share_ heat_ water_]) (vp_Sl (fun x => x = R0)) 0 0 (fun _ => False) := by
  refine rd_ofJ (by decide +kernel) (Nat.le_of_ble_eq_true rfl) ?_
  intro p e s m below meth c Q ar ls hx hb hml hts hown hP hK hl hret
  have hown : s.vm.findClass nR_Interior = some m.cls := hown
  have hl : lv_has ls 1 [(0, .ref qa0)] := hl
  unfold fn_Interior_moisture at hR
  refine lv_aload_n hx hb nd_Interior_moisture_0 rfl (lv_at hl 0 rfl) ?_
  refine va_get (D := D) (ci := 3) (v := .long water_) (C := nR_Interior) (T := nT_Interior) (N := 6) hx hb hts ni_Interior hown hK hP 0 rfl rfl 5 (by decide) (hts (.fieldLink nR_Interior 33 "RoomClimate$Interior" "water" "J") tt_68) (fun _ h9 => h9) rfl nd_Interior_moisture_1 ?_
  refine lv_aload_n hx hb nd_Interior_moisture_4 rfl (lv_at hl 0 rfl) ?_
  refine va_get (D := D) (ci := 3) (v := .int volume_) (C := nR_Interior) (T := nT_Interior) (N := 6) hx hb hts ni_Interior hown hK hP 0 rfl rfl 2 (by decide) (hts (.fieldLink nR_Interior 18 "RoomClimate$Interior" "volume" "I") tt_62) (fun _ h9 => h9) rfl nd_Interior_moisture_5 ?_
  refine lv_i2l hx hb nd_Interior_moisture_8 rfl ?_
  obtain ⟨r1, e1, hR⟩ := q_b1 hR
  refine k_rSNJ (As := [.long water_, .long volume_.toInt64]) (rest := []) (r := r1) hx hb hml hown hts (cn_Room_by l D ca water_ volume_.toInt64 r1 e1) kc_Room_by ks_Room_by tt_252 ⟨by decide, by decide⟩ rfl rfl hP hK [] rfl rfl hl.1 (Nat.le_of_ble_eq_true rfl) rfl nd_Interior_moisture_9 ⟨Nat.zero_le _, Nat.zero_le _⟩ ?_
  exact hret _ _ _ nd_Interior_moisture_12 (Option.some.inj hR)
def fn_Interior_gainWater (water_ : Int64) (waterBooks_ : Nat → Int64) (x1 : Int32) (x2 : Int64) : Option (Int64 × (Nat → Int64)) :=
  (if gx_ix x1 5 then
  some (water_ + x2, vp_updL waterBooks_ x1.toNatClampNeg ((waterBooks_ x1.toNatClampNeg) + x2))
  else none)
def rm_Interior_gainWater : Room := { frames := 0, cells := 0, slots := 0, locals := 0 }
theorem kc_Interior_gainWater : k_cal nY_Interior_gainWater nC_Interior_gainWater 4 none 2 := ⟨tt_466, tt_4, by decide +kernel⟩
theorem kv_Interior_gainWater : k_vir nY_Interior_gainWater := ⟨tt_464, tt_465⟩
set_option maxHeartbeats 4000000 in
set_option maxRecDepth 100000 in
theorem cn_Interior_gainWater (l : Launch) (D : va_G) (ca : Nat → ClassId) (qa0 qheatBooks qwaterBooks : Nat) (volume_ : Int32) (share_ : Int32) (heat_ : Int64) (water_ : Int64) (waterBooks_ : Nat → Int64) (x1 : Int32) (x2 : Int64) (R0 : Int64) (R1 : Nat → Int64) (hR : fn_Interior_gainWater water_ waterBooks_ x1 x2 = some (R0, R1)) (sz : Nat) : Met l nY_Interior_gainWater (Cond.code nY_Interior_gainWater nC_Interior_gainWater 4 none :: TT) rm_Interior_gainWater (wr_P [.ref qa0, .int x1, .long x2] D ca [oc_Interior qa0 qheatBooks qwaterBooks volume_ share_ heat_ water_, aJ qwaterBooks ca 5 waterBooks_] sz) (va_Qv (fun (_ : Unit) => True) (wr_B D [oc_Interior qa0 qheatBooks qwaterBooks volume_ share_ heat_ water_, aJ qwaterBooks ca 5 waterBooks_] sz [oc_Interior qa0 qheatBooks qwaterBooks volume_ share_ heat_ R0, aJ qwaterBooks ca 5 R1]) (va_A [oc_Interior qa0 qheatBooks qwaterBooks volume_ share_ heat_ water_, aJ qwaterBooks ca 5 waterBooks_] sz)) 0 0 (va_A [oc_Interior qa0 qheatBooks qwaterBooks volume_ share_ heat_ water_, aJ qwaterBooks ca 5 waterBooks_] sz) := by
  refine wr_ofV (R := (R0, R1)) (w1 := fun r : Int64 × (Nat → Int64) => [oc_Interior qa0 qheatBooks qwaterBooks volume_ share_ heat_ r.1, aJ qwaterBooks ca 5 r.2]) (by decide +kernel) (Nat.le_of_ble_eq_true rfl) ?_
  intro p e s m below meth c Q ar ls hx hb hml hts hown hP hK A hD hA hl hret
  have hS : va_S A s.heap s.heap [] := va_S.rf
  have hown : s.vm.findClass nR_Interior = some m.cls := hown
  have hl : lv_has ls 4 [(0, .ref qa0), (1, .int x1), (2, .long x2)] := hl
  unfold fn_Interior_gainWater at hR
  refine lv_aload_n hx hb nd_Interior_gainWater_0 rfl (lv_at hl 0 rfl) ?_
  refine lv_dup hx hb nd_Interior_gainWater_1 rfl ?_
  refine va_get (D := D) (ci := 3) (v := .long water_) (C := nR_Interior) (T := nT_Interior) (N := 6) hx hb hts ni_Interior hown hK hP 0 rfl rfl 5 (by decide) (hts (.fieldLink nR_Interior 33 "RoomClimate$Interior" "water" "J") tt_68) (fun _ h9 => h9) rfl nd_Interior_gainWater_2 ?_
  refine lv_lload_n hx hb nd_Interior_gainWater_5 rfl (lv_at hl 2 rfl) ?_
  refine lv_ladd hx hb nd_Interior_gainWater_6 ?_
  refine va_put (D := D) (ci := 3) (v := .long (water_ + x2)) (ty := .long) (C := nR_Interior) (T := nT_Interior) (N := 6) hx hb hts ni_Interior nt_Interior nt_Interior_ok nn_Interior hown hK hP hD hS 0 rfl rfl 5 (by decide) (hts (.fieldLink nR_Interior 33 "RoomClimate$Interior" "water" "J") tt_68) (fun _ h9 => h9) rfl (by decide +kernel) rfl rfl (Nat.le_of_ble_eq_true rfl) nd_Interior_gainWater_7 (fun H locs hP hD hS => ?_)
  have hP : va_P D vwCl [oc_Interior qa0 qheatBooks qwaterBooks volume_ share_ heat_ (water_ + x2), aJ qwaterBooks ca 5 waterBooks_] H := hP
  have hD : va_D A [oc_Interior qa0 qheatBooks qwaterBooks volume_ share_ heat_ (water_ + x2), aJ qwaterBooks ca 5 waterBooks_] := hD
  refine lv_aload_n hx hb nd_Interior_gainWater_10 rfl (lv_at hl 0 rfl) ?_
  refine va_get (D := D) (ci := 3) (v := .ref qwaterBooks) (C := nR_Interior) (T := nT_Interior) (N := 6) hx hb hts ni_Interior hown hK hP 0 rfl rfl 1 (by decide) (hts (.fieldLink nR_Interior 15 "RoomClimate$Interior" "waterBooks" "[J") tt_60) (fun _ h9 => h9) rfl nd_Interior_gainWater_11 ?_
  refine lv_iload_n hx hb nd_Interior_gainWater_14 rfl (lv_at hl 1 rfl) ?_
  refine lv_dup2_11 hx hb nd_Interior_gainWater_15 rfl rfl ?_
  obtain ⟨h1, hR⟩ := q_ix hR
  refine va_lald hx hb hK hP 1 1 rfl rfl h1 nd_Interior_gainWater_16 ?_
  refine lv_lload_n hx hb nd_Interior_gainWater_17 rfl (lv_at hl 2 rfl) ?_
  refine lv_ladd hx hb nd_Interior_gainWater_18 ?_
  refine va_last hx hb hK hP hD hS 1 1 rfl rfl h1 nd_Interior_gainWater_19 (fun H locs hP hD hS => ?_)
  have hP : va_P D vwCl [oc_Interior qa0 qheatBooks qwaterBooks volume_ share_ heat_ (water_ + x2), aJ qwaterBooks ca 5 (vp_updL waterBooks_ x1.toNatClampNeg ((waterBooks_ x1.toNatClampNeg) + x2))] H := hP
  have hD : va_D A [oc_Interior qa0 qheatBooks qwaterBooks volume_ share_ heat_ (water_ + x2), aJ qwaterBooks ca 5 (vp_updL waterBooks_ x1.toNatClampNeg ((waterBooks_ x1.toNatClampNeg) + x2))] := hD
  exact hret (water_ + x2, vp_updL waterBooks_ x1.toNatClampNeg ((waterBooks_ x1.toNatClampNeg) + x2)) _ _ _ _ nd_Interior_gainWater_20 hR hP hD hS
def fn_Interior_exchangeAir (volume_ : Int32) (share_ : Int32) (heat_ : Int64) (water_ : Int64) (heatBooks_ : Nat → Int64) (waterBooks_ : Nat → Int64) (x1 : Int32) (x2 : Int32) : Option (Int64 × (Nat → Int64) × Int64 × (Nat → Int64)) :=
  (gx_b1 (fn_Interior_warmth volume_ heat_) fun r1 =>
  (gx_b1 (fn_Room_by ((share_.toInt64 * (x1.toInt64 - r1)) * volume_.toInt64) (1000 : Int64)) fun r2 =>
  (gx_b2 (fn_Interior_gainHeat heat_ heatBooks_ (0 : Int32) r2) fun u3_0 u3_1 =>
  (gx_b1 (fn_Interior_moisture volume_ water_) fun r4 =>
  (gx_b1 (fn_Room_by ((share_.toInt64 * (x2.toInt64 - r4)) * volume_.toInt64) (1000 : Int64)) fun r5 =>
  (gx_b2 (fn_Interior_gainWater water_ waterBooks_ (0 : Int32) r5) fun u6_0 u6_1 =>
  some (u3_0, u3_1, u6_0, u6_1)))))))
def rm_Interior_exchangeAir : Room := { frames := 3, cells := 0, slots := 0, locals := 68 }
theorem kc_Interior_exchangeAir : k_cal nY_Interior_exchangeAir nC_Interior_exchangeAir 3 none 2 := ⟨tt_455, tt_4, by decide +kernel⟩
theorem kv_Interior_exchangeAir : k_vir nY_Interior_exchangeAir := ⟨tt_453, tt_454⟩
set_option maxHeartbeats 4000000 in
set_option maxRecDepth 100000 in
theorem cn_Interior_exchangeAir (l : Launch) (D : va_G) (ca : Nat → ClassId) (qa0 qheatBooks qwaterBooks : Nat) (volume_ : Int32) (share_ : Int32) (heat_ : Int64) (water_ : Int64) (heatBooks_ : Nat → Int64) (waterBooks_ : Nat → Int64) (x1 : Int32) (x2 : Int32) (R0 : Int64) (R1 : Nat → Int64) (R2 : Int64) (R3 : Nat → Int64) (hR : fn_Interior_exchangeAir volume_ share_ heat_ water_ heatBooks_ waterBooks_ x1 x2 = some (R0, R1, R2, R3)) (sz : Nat) : Met l nY_Interior_exchangeAir (Cond.code nY_Interior_exchangeAir nC_Interior_exchangeAir 3 none :: TT) rm_Interior_exchangeAir (wr_P [.ref qa0, .int x1, .int x2] D ca [oc_Interior qa0 qheatBooks qwaterBooks volume_ share_ heat_ water_, aJ qheatBooks ca 5 heatBooks_, aJ qwaterBooks ca 5 waterBooks_] sz) (va_Qv (fun (_ : Unit) => True) (wr_B D [oc_Interior qa0 qheatBooks qwaterBooks volume_ share_ heat_ water_, aJ qheatBooks ca 5 heatBooks_, aJ qwaterBooks ca 5 waterBooks_] sz [oc_Interior qa0 qheatBooks qwaterBooks volume_ share_ R0 R2, aJ qheatBooks ca 5 R1, aJ qwaterBooks ca 5 R3]) (va_A [oc_Interior qa0 qheatBooks qwaterBooks volume_ share_ heat_ water_, aJ qheatBooks ca 5 heatBooks_, aJ qwaterBooks ca 5 waterBooks_] sz)) 0 0 (va_A [oc_Interior qa0 qheatBooks qwaterBooks volume_ share_ heat_ water_, aJ qheatBooks ca 5 heatBooks_, aJ qwaterBooks ca 5 waterBooks_] sz) := by
  refine wr_ofV (R := (R0, R1, R2, R3)) (w1 := fun r : Int64 × (Nat → Int64) × Int64 × (Nat → Int64) => [oc_Interior qa0 qheatBooks qwaterBooks volume_ share_ r.1 r.2.2.1, aJ qheatBooks ca 5 r.2.1, aJ qwaterBooks ca 5 r.2.2.2]) (by decide +kernel) (Nat.le_of_ble_eq_true rfl) ?_
  intro p e s m below meth c Q ar ls hx hb hml hts hown hP hK A hD hA hl hret
  have hS : va_S A s.heap s.heap [] := va_S.rf
  have hown : s.vm.findClass nR_Interior = some m.cls := hown
  have hl : lv_has ls 3 [(0, .ref qa0), (1, .int x1), (2, .int x2)] := hl
  unfold fn_Interior_exchangeAir at hR
  refine lv_aload_n hx hb nd_Interior_exchangeAir_0 rfl (lv_at hl 0 rfl) ?_
  refine lv_iconst (v := 0) hx hb nd_Interior_exchangeAir_1 (by decide) ?_
  refine lv_aload_n hx hb nd_Interior_exchangeAir_2 rfl (lv_at hl 0 rfl) ?_
  refine va_get (D := D) (ci := 3) (v := .int share_) (C := nR_Interior) (T := nT_Interior) (N := 6) hx hb hts ni_Interior hown hK hP 0 rfl rfl 3 (by decide) (hts (.fieldLink nR_Interior 22 "RoomClimate$Interior" "share" "I") tt_64) (fun _ h9 => h9) rfl nd_Interior_exchangeAir_3 ?_
  refine lv_i2l hx hb nd_Interior_exchangeAir_6 rfl ?_
  refine lv_iload_n hx hb nd_Interior_exchangeAir_7 rfl (lv_at hl 1 rfl) ?_
  refine lv_i2l hx hb nd_Interior_exchangeAir_8 rfl ?_
  refine lv_aload_n hx hb nd_Interior_exchangeAir_9 rfl (lv_at hl 0 rfl) ?_
  obtain ⟨r1, e1, hR⟩ := q_b1 hR
  refine k_rVJ (As := []) (rest := [.long x1.toInt64, .long share_.toInt64, .int (0 : Int32), .ref qa0]) (r := r1) hx hb hml hown hts (cn_Interior_warmth l D ca qa0 qheatBooks qwaterBooks volume_ share_ heat_ water_ r1 e1) kc_Interior_warmth kv_Interior_warmth tt_456 ⟨by decide, by decide⟩ rfl rfl hP hK [0] rfl 0 rfl rfl rfl rfl hl.1 (Nat.le_of_ble_eq_true rfl) rfl nd_Interior_exchangeAir_10 ⟨Nat.zero_le _, Nat.zero_le _⟩ ?_
  refine lv_lsub hx hb nd_Interior_exchangeAir_13 ?_
  refine lv_lmul hx hb nd_Interior_exchangeAir_14 ?_
  refine lv_aload_n hx hb nd_Interior_exchangeAir_15 rfl (lv_at hl 0 rfl) ?_
  refine va_get (D := D) (ci := 3) (v := .int volume_) (C := nR_Interior) (T := nT_Interior) (N := 6) hx hb hts ni_Interior hown hK hP 0 rfl rfl 2 (by decide) (hts (.fieldLink nR_Interior 18 "RoomClimate$Interior" "volume" "I") tt_62) (fun _ h9 => h9) rfl nd_Interior_exchangeAir_16 ?_
  refine lv_i2l hx hb nd_Interior_exchangeAir_19 rfl ?_
  refine lv_lmul hx hb nd_Interior_exchangeAir_20 ?_
  refine lv_ldc2 hx hb hown (hts _ tt_457) nd_Interior_exchangeAir_21 ?_
  obtain ⟨r2, e2, hR⟩ := q_b1 hR
  refine k_rSNJ (As := [.long ((share_.toInt64 * (x1.toInt64 - r1)) * volume_.toInt64), .long (1000 : Int64)]) (rest := [.int (0 : Int32), .ref qa0]) (r := r2) hx hb hml hown hts (cn_Room_by l D ca ((share_.toInt64 * (x1.toInt64 - r1)) * volume_.toInt64) (1000 : Int64) r2 e2) kc_Room_by ks_Room_by tt_252 ⟨by decide, by decide⟩ rfl rfl hP hK [] rfl rfl hl.1 (Nat.le_of_ble_eq_true rfl) rfl nd_Interior_exchangeAir_24 ⟨Nat.zero_le _, Nat.zero_le _⟩ ?_
  obtain ⟨u3_0, u3_1, e3, hR⟩ := q_b2 hR
  refine k_wVV (w2 := [oc_Interior qa0 qheatBooks qwaterBooks volume_ share_ u3_0 water_, aJ qheatBooks ca 5 u3_1, aJ qwaterBooks ca 5 waterBooks_]) (As := [.int (0 : Int32), .long r2]) (rest := []) hx hb hml hown hts (cn_Interior_gainHeat l D ca qa0 qheatBooks qwaterBooks volume_ share_ heat_ water_ heatBooks_ (0 : Int32) r2 u3_0 u3_1 e3 H.size) kc_Interior_gainHeat kv_Interior_gainHeat tt_458 ⟨by decide, by decide⟩ rfl rfl hP hK hD hS hA [0, 1] [2] [1, 2, 0] rfl (by decide) rfl (by decide) (by decide) rfl (by decide) 0 rfl rfl rfl rfl hl.1 (Nat.le_of_ble_eq_true rfl) rfl nd_Interior_exchangeAir_27 ⟨Nat.zero_le _, Nat.zero_le _⟩ (fun H locs hP hD hS => ?_)
  refine lv_aload_n hx hb nd_Interior_exchangeAir_30 rfl (lv_at hl 0 rfl) ?_
  refine lv_iconst (v := 0) hx hb nd_Interior_exchangeAir_31 (by decide) ?_
  refine lv_aload_n hx hb nd_Interior_exchangeAir_32 rfl (lv_at hl 0 rfl) ?_
  refine va_get (D := D) (ci := 3) (v := .int share_) (C := nR_Interior) (T := nT_Interior) (N := 6) hx hb hts ni_Interior hown hK hP 0 rfl rfl 3 (by decide) (hts (.fieldLink nR_Interior 22 "RoomClimate$Interior" "share" "I") tt_64) (fun _ h9 => h9) rfl nd_Interior_exchangeAir_33 ?_
  refine lv_i2l hx hb nd_Interior_exchangeAir_36 rfl ?_
  refine lv_iload_n hx hb nd_Interior_exchangeAir_37 rfl (lv_at hl 2 rfl) ?_
  refine lv_i2l hx hb nd_Interior_exchangeAir_38 rfl ?_
  refine lv_aload_n hx hb nd_Interior_exchangeAir_39 rfl (lv_at hl 0 rfl) ?_
  obtain ⟨r4, e4, hR⟩ := q_b1 hR
  refine k_rVJ (As := []) (rest := [.long x2.toInt64, .long share_.toInt64, .int (0 : Int32), .ref qa0]) (r := r4) hx hb hml hown hts (cn_Interior_moisture l D ca qa0 qheatBooks qwaterBooks volume_ share_ u3_0 water_ r4 e4) kc_Interior_moisture kv_Interior_moisture tt_462 ⟨by decide, by decide⟩ rfl rfl hP hK [0] rfl 0 rfl rfl rfl rfl hl.1 (Nat.le_of_ble_eq_true rfl) rfl nd_Interior_exchangeAir_40 ⟨Nat.zero_le _, Nat.zero_le _⟩ ?_
  refine lv_lsub hx hb nd_Interior_exchangeAir_43 ?_
  refine lv_lmul hx hb nd_Interior_exchangeAir_44 ?_
  refine lv_aload_n hx hb nd_Interior_exchangeAir_45 rfl (lv_at hl 0 rfl) ?_
  refine va_get (D := D) (ci := 3) (v := .int volume_) (C := nR_Interior) (T := nT_Interior) (N := 6) hx hb hts ni_Interior hown hK hP 0 rfl rfl 2 (by decide) (hts (.fieldLink nR_Interior 18 "RoomClimate$Interior" "volume" "I") tt_62) (fun _ h9 => h9) rfl nd_Interior_exchangeAir_46 ?_
  refine lv_i2l hx hb nd_Interior_exchangeAir_49 rfl ?_
  refine lv_lmul hx hb nd_Interior_exchangeAir_50 ?_
  refine lv_ldc2 hx hb hown (hts _ tt_457) nd_Interior_exchangeAir_51 ?_
  obtain ⟨r5, e5, hR⟩ := q_b1 hR
  refine k_rSNJ (As := [.long ((share_.toInt64 * (x2.toInt64 - r4)) * volume_.toInt64), .long (1000 : Int64)]) (rest := [.int (0 : Int32), .ref qa0]) (r := r5) hx hb hml hown hts (cn_Room_by l D ca ((share_.toInt64 * (x2.toInt64 - r4)) * volume_.toInt64) (1000 : Int64) r5 e5) kc_Room_by ks_Room_by tt_252 ⟨by decide, by decide⟩ rfl rfl hP hK [] rfl rfl hl.1 (Nat.le_of_ble_eq_true rfl) rfl nd_Interior_exchangeAir_54 ⟨Nat.zero_le _, Nat.zero_le _⟩ ?_
  obtain ⟨u6_0, u6_1, e6, hR⟩ := q_b2 hR
  refine k_wVV (w2 := [oc_Interior qa0 qheatBooks qwaterBooks volume_ share_ u3_0 u6_0, aJ qheatBooks ca 5 u3_1, aJ qwaterBooks ca 5 u6_1]) (As := [.int (0 : Int32), .long r5]) (rest := []) hx hb hml hown hts (cn_Interior_gainWater l D ca qa0 qheatBooks qwaterBooks volume_ share_ u3_0 water_ waterBooks_ (0 : Int32) r5 u6_0 u6_1 e6 H.size) kc_Interior_gainWater kv_Interior_gainWater tt_463 ⟨by decide, by decide⟩ rfl rfl hP hK hD hS hA [0, 2] [1] [1, 0, 2] rfl (by decide) rfl (by decide) (by decide) rfl (by decide) 0 rfl rfl rfl rfl hl.1 (Nat.le_of_ble_eq_true rfl) rfl nd_Interior_exchangeAir_57 ⟨Nat.zero_le _, Nat.zero_le _⟩ (fun H locs hP hD hS => ?_)
  exact hret (u3_0, u3_1, u6_0, u6_1) _ _ _ _ nd_Interior_exchangeAir_60 hR hP hD hS
def fn_Steps_amountUpTo_L2 (x1 : Int64) (size_ : Int32) (amounts_ : Nat → Int32) (levels_ : Nat → Int32) (n_a0 : Nat) : Nat → Int32 → Option (Int32)
  | 0, _ => none
  | n + 1, i3_2 =>
    (if size_ ≤ i3_2 then
    (if size_ ≤ 0 then
    some (0 : Int32)
    else
    (if gx_ix (size_ - (1 : Int32)) n_a0 then
    some (amounts_ (size_ - (1 : Int32)).toNatClampNeg)
    else none))
    else
    (if gx_ix i3_2 n_a0 then
    (if lg_cmp ((levels_ i3_2.toNatClampNeg).toInt64) x1 < 0 then
    fn_Steps_amountUpTo_L2 x1 size_ amounts_ levels_ n_a0 n (i3_2 + 1)
    else
    some (amounts_ i3_2.toNatClampNeg))
    else none))
def fn_Steps_amountUpTo (size_ : Int32) (amounts_ : Nat → Int32) (levels_ : Nat → Int32) (n_a0 : Nat) (x1 : Int64) : Option (Int32) :=
  fn_Steps_amountUpTo_L2 x1 size_ amounts_ levels_ n_a0 8 (0 : Int32)
def rm_Steps_amountUpTo : Room := { frames := 0, cells := 0, slots := 0, locals := 0 }
theorem kc_Steps_amountUpTo : k_cal nY_Steps_amountUpTo nC_Steps_amountUpTo 4 (some .int) 1 := ⟨tt_487, tt_2, by decide +kernel⟩
theorem kv_Steps_amountUpTo : k_vir nY_Steps_amountUpTo := ⟨tt_485, tt_486⟩
set_option maxHeartbeats 4000000 in
set_option maxRecDepth 100000 in
theorem cn_Steps_amountUpTo (l : Launch) (D : va_G) (ca : Nat → ClassId) (qa0 qlevels qamounts : Nat) (size_ : Int32) (amounts_ : Nat → Int32) (levels_ : Nat → Int32) (n_a0 : Nat) (x1 : Int64) (R0 : Int32) (hR : fn_Steps_amountUpTo size_ amounts_ levels_ n_a0 x1 = some R0) : Met l nY_Steps_amountUpTo (Cond.code nY_Steps_amountUpTo nC_Steps_amountUpTo 4 (some .int) :: TT) rm_Steps_amountUpTo (rd_P [.ref qa0, .long x1] D ca [oc_Steps qa0 qlevels qamounts size_, aI qamounts ca n_a0 amounts_, aI qlevels ca n_a0 levels_]) (vp_Si (fun x => x = R0)) 0 0 (fun _ => False) := by
  refine rd_ofI (by decide +kernel) (Nat.le_of_ble_eq_true rfl) ?_
  intro p e s m below meth c Q ar ls hx hb hml hts hown hP hK hl hret
  have hown : s.vm.findClass nR_Steps = some m.cls := hown
  have hl : lv_has ls 4 [(0, .ref qa0), (1, .long x1)] := hl
  unfold fn_Steps_amountUpTo at hR
  refine lv_iconst (v := 0) hx hb nd_Steps_amountUpTo_0 (by decide) ?_
  refine lv_istore_n (lv' := [(3, .int (0 : Int32)), (0, .ref qa0), (1, .long x1)]) hx hb nd_Steps_amountUpTo_1 rfl hl (by decide) rfl (fun ls hl => ?_)
  have hL2 : ∀ (n : Nat) (i3_2 : Int32) (ls : Array Slot), fn_Steps_amountUpTo_L2 x1 size_ amounts_ levels_ n_a0 n i3_2 = some R0 → lv_has ls 4 [(0, .ref qa0), (1, .long x1), (3, .int i3_2)] → W p l e rm_Steps_amountUpTo s m ar below meth c s.heap [] 0 0 Q (F0 m 2 ls []) := by
    intro n
    induction n with
    | zero => intro i3_2 ls hR; exact nomatch hR
    | succ n ih =>
      intro i3_2 ls hR  hl
      rw [fn_Steps_amountUpTo_L2] at hR
      refine lv_iload_n hx hb nd_Steps_amountUpTo_2 rfl (lv_at hl 2 rfl) ?_
      refine lv_aload_n hx hb nd_Steps_amountUpTo_3 rfl (lv_at hl 0 rfl) ?_
      refine va_get (D := D) (ci := 6) (v := .int size_) (C := nR_Steps) (T := nT_Steps) (N := 3) hx hb hts ni_Steps hown hK hP 0 rfl rfl 2 (by decide) (hts (.fieldLink nR_Steps 16 "RoomClimate$Steps" "size" "I") tt_34) (fun _ h9 => h9) rfl nd_Steps_amountUpTo_4 ?_
      refine lv_icmp_ge (tgt := 35) hx hb nd_Steps_amountUpTo_7 (by decide) (fun c1 => ?_) (fun c1 => ?_)
      · replace hR := q_p c1 hR
        refine lv_aload_n hx hb nd_Steps_amountUpTo_35 rfl (lv_at hl 0 rfl) ?_
        refine va_get (D := D) (ci := 6) (v := .int size_) (C := nR_Steps) (T := nT_Steps) (N := 3) hx hb hts ni_Steps hown hK hP 0 rfl rfl 2 (by decide) (hts (.fieldLink nR_Steps 16 "RoomClimate$Steps" "size" "I") tt_34) (fun _ h9 => h9) rfl nd_Steps_amountUpTo_36 ?_
        refine lv_if_le (tgt := 56) hx hb nd_Steps_amountUpTo_39 (by decide) (fun c2 => ?_) (fun c2 => ?_)
        · replace hR := q_p c2 hR
          refine lv_iconst (v := 0) hx hb nd_Steps_amountUpTo_56 (by decide) ?_
          exact hret _ _ _ nd_Steps_amountUpTo_57 (Option.some.inj hR)
        · replace hR := q_n c2 hR
          refine lv_aload_n hx hb nd_Steps_amountUpTo_42 rfl (lv_at hl 0 rfl) ?_
          refine va_get (D := D) (ci := 6) (v := .ref qamounts) (C := nR_Steps) (T := nT_Steps) (N := 3) hx hb hts ni_Steps hown hK hP 0 rfl rfl 1 (by decide) (hts (.fieldLink nR_Steps 13 "RoomClimate$Steps" "amounts" "[I") tt_33) (fun _ h9 => h9) rfl nd_Steps_amountUpTo_43 ?_
          refine lv_aload_n hx hb nd_Steps_amountUpTo_46 rfl (lv_at hl 0 rfl) ?_
          refine va_get (D := D) (ci := 6) (v := .int size_) (C := nR_Steps) (T := nT_Steps) (N := 3) hx hb hts ni_Steps hown hK hP 0 rfl rfl 2 (by decide) (hts (.fieldLink nR_Steps 16 "RoomClimate$Steps" "size" "I") tt_34) (fun _ h9 => h9) rfl nd_Steps_amountUpTo_47 ?_
          refine lv_iconst (v := 1) hx hb nd_Steps_amountUpTo_50 (by decide) ?_
          refine lv_isub hx hb nd_Steps_amountUpTo_51 ?_
          obtain ⟨h3, hR⟩ := q_ix hR
          refine va_iald hx hb hK hP 1 0 rfl rfl h3 nd_Steps_amountUpTo_52 ?_
          refine lv_goto (tgt := 57) hx hb nd_Steps_amountUpTo_53 (by decide) ?_
          exact hret _ _ _ nd_Steps_amountUpTo_57 (Option.some.inj hR)
      · replace hR := q_n c1 hR
        refine lv_aload_n hx hb nd_Steps_amountUpTo_10 rfl (lv_at hl 0 rfl) ?_
        refine va_get (D := D) (ci := 6) (v := .ref qlevels) (C := nR_Steps) (T := nT_Steps) (N := 3) hx hb hts ni_Steps hown hK hP 0 rfl rfl 0 (by decide) (hts (.fieldLink nR_Steps 7 "RoomClimate$Steps" "levels" "[I") tt_32) (fun _ h9 => h9) rfl nd_Steps_amountUpTo_11 ?_
        refine lv_iload_n hx hb nd_Steps_amountUpTo_14 rfl (lv_at hl 2 rfl) ?_
        obtain ⟨h4, hR⟩ := q_ix hR
        refine va_iald hx hb hK hP 2 0 rfl rfl h4 nd_Steps_amountUpTo_15 ?_
        refine lv_i2l hx hb nd_Steps_amountUpTo_16 rfl ?_
        refine lv_lload_n hx hb nd_Steps_amountUpTo_17 rfl (lv_at hl 1 rfl) ?_
        refine W.lcmp hx hb nd_Steps_amountUpTo_18 ?_
        refine lv_if_lt (tgt := 29) hx hb nd_Steps_amountUpTo_19 (by decide) (fun c5 => ?_) (fun c5 => ?_)
        · replace hR := q_p c5 hR
          refine lv_iinc (v := i3_2 + 1) (lv' := [(3, .int (i3_2 + 1)), (0, .ref qa0), (1, .long x1)]) hx hb nd_Steps_amountUpTo_29 hl (k := 2) rfl (by first | rfl | decide) (by decide) rfl (fun ls hl => ?_)
          refine lv_goto (tgt := 2) hx hb nd_Steps_amountUpTo_32 (by decide) ?_
          exact ih (i3_2 + 1) _ hR  (lv_sub hl [1, 2, 0] rfl)
        · replace hR := q_n c5 hR
          refine lv_aload_n hx hb nd_Steps_amountUpTo_22 rfl (lv_at hl 0 rfl) ?_
          refine va_get (D := D) (ci := 6) (v := .ref qamounts) (C := nR_Steps) (T := nT_Steps) (N := 3) hx hb hts ni_Steps hown hK hP 0 rfl rfl 1 (by decide) (hts (.fieldLink nR_Steps 13 "RoomClimate$Steps" "amounts" "[I") tt_33) (fun _ h9 => h9) rfl nd_Steps_amountUpTo_23 ?_
          refine lv_iload_n hx hb nd_Steps_amountUpTo_26 rfl (lv_at hl 2 rfl) ?_
          refine va_iald hx hb hK hP 1 0 rfl rfl h4 nd_Steps_amountUpTo_27 ?_
          exact hret _ _ _ nd_Steps_amountUpTo_28 (Option.some.inj hR)
  exact hL2 8 (0 : Int32) _ hR  (lv_sub hl [1, 2, 0] rfl)
end
