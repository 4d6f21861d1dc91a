section
-- ===== PART A: goes FIRST, ahead of the names: the tables' words, and 'selects' of the private methods out of them =====
/-- a private method of a class that the tables say can be made, by its rows of tables_1 -/
def lw_okq (q : MethodName × Nat) : Prop := (q.1.cls ≠ "java/lang/invoke/MethodHandle" ∧ q.1.cls ≠ "java/lang/invoke/VarHandle") ∧ Cond.instantiable q.1.cls q.2 ∈ tables_1 ∧ Cond.privateMethod q.1 ∈ tables_1 ∧ Cond.instanceMethod q.1 ∈ tables_1
theorem lw_p0 : lw_okq (⟨"WaterMeadows", "hasAllDeeds", "()Z"⟩, 6) := ⟨⟨by decide +kernel, by decide +kernel⟩, List.mem_of_getElem? (i := 8) (by decide +kernel), List.mem_of_getElem? (i := 195) (by decide +kernel), List.mem_of_getElem? (i := 196) (by decide +kernel)⟩
theorem lw_p1 : lw_okq (⟨"WaterMeadows", "advance", "()V"⟩, 6) := ⟨⟨by decide +kernel, by decide +kernel⟩, List.mem_of_getElem? (i := 8) (by decide +kernel), List.mem_of_getElem? (i := 247) (by decide +kernel), List.mem_of_getElem? (i := 248) (by decide +kernel)⟩
theorem lw_p2 : lw_okq (⟨"WaterMeadows$Course", "takeIn", "(II)V"⟩, 14) := ⟨⟨by decide +kernel, by decide +kernel⟩, List.mem_of_getElem? (i := 107) (by decide +kernel), List.mem_of_getElem? (i := 255) (by decide +kernel), List.mem_of_getElem? (i := 256) (by decide +kernel)⟩
theorem lw_p3 : lw_okq (⟨"WaterMeadows$Course", "soakPanes", "(I)I"⟩, 14) := ⟨⟨by decide +kernel, by decide +kernel⟩, List.mem_of_getElem? (i := 107) (by decide +kernel), List.mem_of_getElem? (i := 270) (by decide +kernel), List.mem_of_getElem? (i := 271) (by decide +kernel)⟩
theorem lw_p4 : lw_okq (⟨"WaterMeadows$Course", "tendPanes", "(II)V"⟩, 14) := ⟨⟨by decide +kernel, by decide +kernel⟩, List.mem_of_getElem? (i := 107) (by decide +kernel), List.mem_of_getElem? (i := 275) (by decide +kernel), List.mem_of_getElem? (i := 276) (by decide +kernel)⟩
theorem lw_p5 : lw_okq (⟨"WaterMeadows$Course", "growGrass", "(I)V"⟩, 14) := ⟨⟨by decide +kernel, by decide +kernel⟩, List.mem_of_getElem? (i := 107) (by decide +kernel), List.mem_of_getElem? (i := 284) (by decide +kernel), List.mem_of_getElem? (i := 285) (by decide +kernel)⟩
theorem lw_p6 : lw_okq (⟨"WaterMeadows$Course", "grazePane", "(I)V"⟩, 14) := ⟨⟨by decide +kernel, by decide +kernel⟩, List.mem_of_getElem? (i := 107) (by decide +kernel), List.mem_of_getElem? (i := 288) (by decide +kernel), List.mem_of_getElem? (i := 289) (by decide +kernel)⟩
theorem lw_p7 : lw_okq (⟨"WaterMeadows", "judgeHour", "()V"⟩, 6) := ⟨⟨by decide +kernel, by decide +kernel⟩, List.mem_of_getElem? (i := 8) (by decide +kernel), List.mem_of_getElem? (i := 304) (by decide +kernel), List.mem_of_getElem? (i := 305) (by decide +kernel)⟩
theorem lw_p8 : lw_okq (⟨"WaterMeadowsModel", "isFull", "()Z"⟩, 29) := ⟨⟨by decide +kernel, by decide +kernel⟩, List.mem_of_getElem? (i := 355) (by decide +kernel), List.mem_of_getElem? (i := 456) (by decide +kernel), List.mem_of_getElem? (i := 457) (by decide +kernel)⟩
theorem lw_p9 : lw_okq (⟨"WaterMeadowsModel", "isHatch", "(I)Z"⟩, 29) := ⟨⟨by decide +kernel, by decide +kernel⟩, List.mem_of_getElem? (i := 355) (by decide +kernel), List.mem_of_getElem? (i := 464) (by decide +kernel), List.mem_of_getElem? (i := 465) (by decide +kernel)⟩
theorem lw_p10 : lw_okq (⟨"WaterMeadowsModel", "isPane", "(II)Z"⟩, 29) := ⟨⟨by decide +kernel, by decide +kernel⟩, List.mem_of_getElem? (i := 355) (by decide +kernel), List.mem_of_getElem? (i := 484) (by decide +kernel), List.mem_of_getElem? (i := 485) (by decide +kernel)⟩
theorem lw_p11 : lw_okq (⟨"WaterMeadowsModel", "flows", "(I)V"⟩, 29) := ⟨⟨by decide +kernel, by decide +kernel⟩, List.mem_of_getElem? (i := 355) (by decide +kernel), List.mem_of_getElem? (i := 496) (by decide +kernel), List.mem_of_getElem? (i := 497) (by decide +kernel)⟩
theorem lw_p12 : lw_okq (⟨"WaterMeadowsModel", "most", "(II)I"⟩, 29) := ⟨⟨by decide +kernel, by decide +kernel⟩, List.mem_of_getElem? (i := 355) (by decide +kernel), List.mem_of_getElem? (i := 500) (by decide +kernel), List.mem_of_getElem? (i := 501) (by decide +kernel)⟩
theorem lw_p13 : lw_okq (⟨"WaterMeadowsModel", "grows", "(III)V"⟩, 29) := ⟨⟨by decide +kernel, by decide +kernel⟩, List.mem_of_getElem? (i := 355) (by decide +kernel), List.mem_of_getElem? (i := 504) (by decide +kernel), List.mem_of_getElem? (i := 505) (by decide +kernel)⟩
theorem lw_p14 : lw_okq (⟨"WaterMeadowsModel", "judges", "()V"⟩, 29) := ⟨⟨by decide +kernel, by decide +kernel⟩, List.mem_of_getElem? (i := 355) (by decide +kernel), List.mem_of_getElem? (i := 508) (by decide +kernel), List.mem_of_getElem? (i := 509) (by decide +kernel)⟩
theorem lw_p15 : lw_okq (⟨"WaterMeadowsModel", "breaks", "(II)V"⟩, 29) := ⟨⟨by decide +kernel, by decide +kernel⟩, List.mem_of_getElem? (i := 355) (by decide +kernel), List.mem_of_getElem? (i := 512) (by decide +kernel), List.mem_of_getElem? (i := 513) (by decide +kernel)⟩
def lw_privs_1 : List (MethodName × Nat) := [(⟨"WaterMeadows", "hasAllDeeds", "()Z"⟩, 6), (⟨"WaterMeadows", "advance", "()V"⟩, 6), (⟨"WaterMeadows$Course", "takeIn", "(II)V"⟩, 14), (⟨"WaterMeadows$Course", "soakPanes", "(I)I"⟩, 14), (⟨"WaterMeadows$Course", "tendPanes", "(II)V"⟩, 14), (⟨"WaterMeadows$Course", "growGrass", "(I)V"⟩, 14), (⟨"WaterMeadows$Course", "grazePane", "(I)V"⟩, 14), (⟨"WaterMeadows", "judgeHour", "()V"⟩, 6), (⟨"WaterMeadowsModel", "isFull", "()Z"⟩, 29), (⟨"WaterMeadowsModel", "isHatch", "(I)Z"⟩, 29), (⟨"WaterMeadowsModel", "isPane", "(II)Z"⟩, 29), (⟨"WaterMeadowsModel", "flows", "(I)V"⟩, 29), (⟨"WaterMeadowsModel", "most", "(II)I"⟩, 29), (⟨"WaterMeadowsModel", "grows", "(III)V"⟩, 29), (⟨"WaterMeadowsModel", "judges", "()V"⟩, 29), (⟨"WaterMeadowsModel", "breaks", "(II)V"⟩, 29)]
theorem lw_r1 : ∀ q ∈ lw_privs_1, lw_okq q := List.forall_mem_cons.mpr ⟨lw_p0, List.forall_mem_cons.mpr ⟨lw_p1, List.forall_mem_cons.mpr ⟨lw_p2, List.forall_mem_cons.mpr ⟨lw_p3, List.forall_mem_cons.mpr ⟨lw_p4, List.forall_mem_cons.mpr ⟨lw_p5, List.forall_mem_cons.mpr ⟨lw_p6, List.forall_mem_cons.mpr ⟨lw_p7, List.forall_mem_cons.mpr ⟨lw_p8, List.forall_mem_cons.mpr ⟨lw_p9, List.forall_mem_cons.mpr ⟨lw_p10, List.forall_mem_cons.mpr ⟨lw_p11, List.forall_mem_cons.mpr ⟨lw_p12, List.forall_mem_cons.mpr ⟨lw_p13, List.forall_mem_cons.mpr ⟨lw_p14, List.forall_mem_cons.mpr ⟨lw_p15, fun _ h => absurd h List.not_mem_nil⟩⟩⟩⟩⟩⟩⟩⟩⟩⟩⟩⟩⟩⟩⟩⟩
theorem lw_p16 : lw_okq (⟨"WaterMeadowsModel", "sum", "([II)I"⟩, 29) := ⟨⟨by decide +kernel, by decide +kernel⟩, List.mem_of_getElem? (i := 355) (by decide +kernel), List.mem_of_getElem? (i := 528) (by decide +kernel), List.mem_of_getElem? (i := 529) (by decide +kernel)⟩
theorem lw_p17 : lw_okq (⟨"WaterMeadowsModel", "ofFarm", "([III)I"⟩, 29) := ⟨⟨by decide +kernel, by decide +kernel⟩, List.mem_of_getElem? (i := 355) (by decide +kernel), List.mem_of_getElem? (i := 540) (by decide +kernel), List.mem_of_getElem? (i := 541) (by decide +kernel)⟩
def lw_privs_2 : List (MethodName × Nat) := [(⟨"WaterMeadowsModel", "sum", "([II)I"⟩, 29), (⟨"WaterMeadowsModel", "ofFarm", "([III)I"⟩, 29)]
theorem lw_r2 : ∀ q ∈ lw_privs_2, lw_okq q := List.forall_mem_cons.mpr ⟨lw_p16, List.forall_mem_cons.mpr ⟨lw_p17, fun _ h => absurd h List.not_mem_nil⟩⟩
def lw_privs : List (MethodName × Nat) := lw_privs_1 ++ (lw_privs_2)
def lw_tbl : List Cond := k2_sels lw_privs ++ tables_1
theorem lw_privs_ok : ∀ q ∈ lw_privs, lw_okq q := by
  show ∀ q ∈ lw_privs_1 ++ (lw_privs_2), lw_okq q
  exact List.forall_mem_append.mpr ⟨lw_r1, lw_r2⟩
-- ===== end of PART A; then your names; then what follows =====
end
section
/-! ===== BEGIN words of one list among another's, by their places ===== -/
theorem goodIn_r {big : List Cond} (ws : List Cond) (ps : List Nat) (hp : ws = ps.filterMap (fun i => big[i]?)) (h : ws.all goodWord = true) : GoodIn big ws := by
  intro w hw
  have h1 := List.all_eq_true.mp h w hw
  rw [hp] at hw
  obtain ⟨i, -, hi⟩ := List.mem_filterMap.mp hw
  have hm : w ∈ big := by first | exact List.mem_of_getElem? hi | exact List.getElem?_mem hi
  exact ⟨hm, good_of_word h1⟩
theorem goodIn_app {big a b : List Cond} (ha : GoodIn big a) (hb : GoodIn big b) : GoodIn big (a ++ b) := fun w h => (List.mem_append.mp h).elim (ha w) (hb w)
theorem goodIn_ca {big a b : List Cond} {c : Cond} (ha : GoodIn big (c :: a)) (hb : GoodIn big b) : GoodIn big (c :: (a ++ b)) := fun w h => (List.mem_cons.mp h).elim (fun e => ha w (List.mem_cons.mpr (Or.inl e))) (fun h => (List.mem_append.mp h).elim (fun h => ha w (List.mem_cons.mpr (Or.inr h))) (hb w))
theorem goodIn_sub {big ws : List Cond} (hm : ∀ w ∈ ws, w ∈ big) (h : ws.all goodWord = true) : GoodIn big ws := fun w hw => ⟨hm w hw, good_of_word (List.all_eq_true.mp h w hw)⟩
/-! ===== END ===== -/

/-! ===== BEGIN printed: names, fields, word lists, decode rows ===== -/
def RX0 : String := "WaterMeadows$Course"
def TX0 : u_T := fun k => match k with
  | 0 => ("WaterMeadows$Course", "orders", "LWaterMeadows$Orders;", true)
  | 1 => ("WaterMeadows$Course", "neverOpen", "I", true)
  | 2 => ("WaterMeadows$Course", "carried", "[I", true)
  | 3 => ("WaterMeadows$Course", "took", "[I", true)
  | 4 => ("WaterMeadows$Course", "grass", "[I", true)
  | 5 => ("WaterMeadows$Course", "got", "[I", true)
  | 6 => ("WaterMeadows$Course", "wetHours", "[I", true)
  | 7 => ("WaterMeadows$Course", "drank", "[I", true)
  | 8 => ("WaterMeadows$Course", "eaten", "[I", true)
  | 9 => ("WaterMeadows$Course", "brought", "I", false)
  | 10 => ("WaterMeadows$Course", "drunk", "I", false)
  | 11 => ("WaterMeadows$Course", "milled", "I", false)
  | 12 => ("WaterMeadows$Course", "atMill", "I", false)
  | _ => ("WaterMeadows$Course", "millBroken", "I", false)
def tyX0 : Nat → FieldType := fun k => match k with
  | 0 => .object "WaterMeadows$Orders"
  | 1 => .int
  | 2 => .array .int
  | 3 => .array .int
  | 4 => .array .int
  | 5 => .array .int
  | 6 => .array .int
  | 7 => .array .int
  | 8 => .array .int
  | 9 => .int
  | 10 => .int
  | 11 => .int
  | 12 => .int
  | _ => .int
abbrev wsX00 : List Cond := u_ws RX0 TX0 14
theorem nmX0 : ∀ a, a < 14 → ∀ b, b < 14 → a ≠ b → (TX0 a).2.1 ≠ (TX0 b).2.1 := by decide +kernel
theorem tyX0_ok : ∀ k, k < 14 → parseFieldDescriptor (TX0 k).2.2.1 = some (tyX0 k) := by decide +kernel
abbrev cX0_init : ByteArray := prog_2_method_1_code
def yX0_init : MethodName := ⟨RX0, "<init>", "(LWaterMeadows$Orders;I)V"⟩
abbrev cX0_siltOf : ByteArray := prog_2_method_2_code
def yX0_siltOf : MethodName := ⟨RX0, "siltOf", "(I)I"⟩
abbrev cX0_mostOf : ByteArray := prog_2_method_3_code
def yX0_mostOf : MethodName := ⟨RX0, "mostOf", "(I)I"⟩
abbrev cX0_passHour : ByteArray := prog_2_method_4_code
def yX0_passHour : MethodName := ⟨RX0, "passHour", "(I)V"⟩
abbrev cX0_isMillShort : ByteArray := prog_2_method_5_code
def yX0_isMillShort : MethodName := ⟨RX0, "isMillShort", "(I)Z"⟩
abbrev cX0_sumOfFarm : ByteArray := prog_2_method_6_code
def yX0_sumOfFarm : MethodName := ⟨RX0, "sumOfFarm", "([II)I"⟩
abbrev cX0_takeIn : ByteArray := prog_2_method_7_code
def yX0_takeIn : MethodName := ⟨RX0, "takeIn", "(II)V"⟩
abbrev cX0_soakPanes : ByteArray := prog_2_method_8_code
def yX0_soakPanes : MethodName := ⟨RX0, "soakPanes", "(I)I"⟩
abbrev cX0_tendPanes : ByteArray := prog_2_method_9_code
def yX0_tendPanes : MethodName := ⟨RX0, "tendPanes", "(II)V"⟩
abbrev cX0_growGrass : ByteArray := prog_2_method_10_code
def yX0_growGrass : MethodName := ⟨RX0, "growGrass", "(I)V"⟩
abbrev cX0_grazePane : ByteArray := prog_2_method_11_code
def yX0_grazePane : MethodName := ⟨RX0, "grazePane", "(I)V"⟩
def RX1 : String := "WaterMeadows$Ledger"
def TX1 : u_T := fun k => match k with
  | 0 => ("WaterMeadows$Ledger", "hourOf", "[I", true)
  | 1 => ("WaterMeadows$Ledger", "sortOf", "[I", true)
  | 2 => ("WaterMeadows$Ledger", "whoOf", "[I", true)
  | 3 => ("WaterMeadows$Ledger", "turnsOf", "[I", true)
  | 4 => ("WaterMeadows$Ledger", "kept", "I", false)
  | _ => ("WaterMeadows$Ledger", "all", "I", false)
def tyX1 : Nat → FieldType := fun k => match k with
  | 0 => .array .int
  | 1 => .array .int
  | 2 => .array .int
  | 3 => .array .int
  | 4 => .int
  | _ => .int
abbrev wsX10 : List Cond := u_ws RX1 TX1 6
theorem nmX1 : ∀ a, a < 6 → ∀ b, b < 6 → a ≠ b → (TX1 a).2.1 ≠ (TX1 b).2.1 := by decide +kernel
theorem tyX1_ok : ∀ k, k < 6 → parseFieldDescriptor (TX1 k).2.2.1 = some (tyX1 k) := by decide +kernel
abbrev cX1_init : ByteArray := prog_3_method_1_code
def yX1_init : MethodName := ⟨RX1, "<init>", "()V"⟩
abbrev cX1_enterTurn : ByteArray := prog_3_method_2_code
def yX1_enterTurn : MethodName := ⟨RX1, "enterTurn", "(III)V"⟩
abbrev cX1_enter : ByteArray := prog_3_method_3_code
def yX1_enter : MethodName := ⟨RX1, "enter", "(III)V"⟩
def RX2 : String := "WaterMeadows$Orders"
def TX2 : u_T := fun k => match k with
  | 0 => ("WaterMeadows$Orders", "farmOf", "[I", true)
  | 1 => ("WaterMeadows$Orders", "widthOf", "[I", true)
  | 2 => ("WaterMeadows$Orders", "panesOf", "[I", true)
  | 3 => ("WaterMeadows$Orders", "quartersOf", "[I", true)
  | 4 => ("WaterMeadows$Orders", "sheepOn", "[I", true)
  | 5 => ("WaterMeadows$Orders", "hatches", "I", false)
  | 6 => ("WaterMeadows$Orders", "flowNow", "I", false)
  | 7 => ("WaterMeadows$Orders", "airNow", "I", false)
  | 8 => ("WaterMeadows$Orders", "rightNow", "I", false)
  | 9 => ("WaterMeadows$Orders", "rightFrom", "I", false)
  | _ => ("WaterMeadows$Orders", "rightAheadOf", "I", false)
def tyX2 : Nat → FieldType := fun k => match k with
  | 0 => .array .int
  | 1 => .array .int
  | 2 => .array .int
  | 3 => .array .int
  | 4 => .array .int
  | 5 => .int
  | 6 => .int
  | 7 => .int
  | 8 => .int
  | 9 => .int
  | _ => .int
abbrev wsX20 : List Cond := u_ws RX2 TX2 11
theorem nmX2 : ∀ a, a < 11 → ∀ b, b < 11 → a ≠ b → (TX2 a).2.1 ≠ (TX2 b).2.1 := by decide +kernel
theorem tyX2_ok : ∀ k, k < 11 → parseFieldDescriptor (TX2 k).2.2.1 = some (tyX2 k) := by decide +kernel
abbrev cX2_init : ByteArray := prog_4_method_1_code
def yX2_init : MethodName := ⟨RX2, "<init>", "()V"⟩
abbrev cX2_isHatch : ByteArray := prog_4_method_2_code
def yX2_isHatch : MethodName := ⟨RX2, "isHatch", "(I)Z"⟩
abbrev cX2_isPane : ByteArray := prog_4_method_3_code
def yX2_isPane : MethodName := ⟨RX2, "isPane", "(II)Z"⟩
abbrev cX2_addHatch : ByteArray := prog_4_method_4_code
def yX2_addHatch : MethodName := ⟨RX2, "addHatch", "(III)I"⟩
abbrev cX2_isLawless : ByteArray := prog_4_method_5_code
def yX2_isLawless : MethodName := ⟨RX2, "isLawless", "()Z"⟩
abbrev cX2_isOutOfTurn : ByteArray := prog_4_method_6_code
def yX2_isOutOfTurn : MethodName := ⟨RX2, "isOutOfTurn", "(II)Z"⟩
abbrev cX2_rightAt : ByteArray := prog_4_method_7_code
def yX2_rightAt : MethodName := ⟨RX2, "rightAt", "(I)I"⟩
abbrev cX2_isGrazing : ByteArray := prog_4_method_8_code
def yX2_isGrazing : MethodName := ⟨RX2, "isGrazing", "(I)Z"⟩
def RX3 : String := "WaterMeadows"
def TX3 : u_T := fun k => match k with
  | 0 => ("WaterMeadows", "orders", "LWaterMeadows$Orders;", true)
  | 1 => ("WaterMeadows", "ledger", "LWaterMeadows$Ledger;", true)
  | 2 => ("WaterMeadows", "real", "LWaterMeadows$Course;", true)
  | 3 => ("WaterMeadows", "shut", "[LWaterMeadows$Course;", true)
  | 4 => ("WaterMeadows", "hourNow", "I", false)
  | _ => ("WaterMeadows", "deeds", "I", false)
def tyX3 : Nat → FieldType := fun k => match k with
  | 0 => .object "WaterMeadows$Orders"
  | 1 => .object "WaterMeadows$Ledger"
  | 2 => .object "WaterMeadows$Course"
  | 3 => .array (.object "WaterMeadows$Course")
  | 4 => .int
  | _ => .int
abbrev wsX30 : List Cond := u_ws RX3 TX3 6
theorem nmX3 : ∀ a, a < 6 → ∀ b, b < 6 → a ≠ b → (TX3 a).2.1 ≠ (TX3 b).2.1 := by decide +kernel
theorem tyX3_ok : ∀ k, k < 6 → parseFieldDescriptor (TX3 k).2.2.1 = some (tyX3 k) := by decide +kernel
abbrev cX3_init : ByteArray := prog_1_method_1_code
def yX3_init : MethodName := ⟨RX3, "<init>", "()V"⟩
abbrev cX3_hatch : ByteArray := prog_1_method_2_code
def yX3_hatch : MethodName := ⟨RX3, "hatch", "(III)I"⟩
abbrev cX3_open : ByteArray := prog_1_method_3_code
def yX3_open : MethodName := ⟨RX3, "open", "(II)I"⟩
abbrev cX3_flow : ByteArray := prog_1_method_4_code
def yX3_flow : MethodName := ⟨RX3, "flow", "(I)I"⟩
abbrev cX3_air : ByteArray := prog_1_method_5_code
def yX3_air : MethodName := ⟨RX3, "air", "(I)I"⟩
abbrev cX3_dig : ByteArray := prog_1_method_6_code
def yX3_dig : MethodName := ⟨RX3, "dig", "(I)I"⟩
abbrev cX3_sheep : ByteArray := prog_1_method_7_code
def yX3_sheep : MethodName := ⟨RX3, "sheep", "(III)I"⟩
abbrev cX3_right : ByteArray := prog_1_method_8_code
def yX3_right : MethodName := ⟨RX3, "right", "(III)I"⟩
abbrev cX3_hours : ByteArray := prog_1_method_9_code
def yX3_hours : MethodName := ⟨RX3, "hours", "(I)I"⟩
abbrev cX3_told : ByteArray := prog_1_method_10_code
def yX3_told : MethodName := ⟨RX3, "told", "(II)I"⟩
abbrev cX3_pane : ByteArray := prog_1_method_11_code
def yX3_pane : MethodName := ⟨RX3, "pane", "(III)I"⟩
abbrev cX3_stream : ByteArray := prog_1_method_12_code
def yX3_stream : MethodName := ⟨RX3, "stream", "(I)I"⟩
abbrev cX3_broken : ByteArray := prog_1_method_13_code
def yX3_broken : MethodName := ⟨RX3, "broken", "(II)I"⟩
abbrev cX3_farm : ByteArray := prog_1_method_14_code
def yX3_farm : MethodName := ⟨RX3, "farm", "(II)I"⟩
abbrev cX3_without : ByteArray := prog_1_method_15_code
def yX3_without : MethodName := ⟨RX3, "without", "(II)I"⟩
abbrev cX3_count : ByteArray := prog_1_method_16_code
def yX3_count : MethodName := ⟨RX3, "count", "(I)I"⟩
abbrev cX3_isWithin : ByteArray := prog_1_method_17_code
def yX3_isWithin : MethodName := ⟨RX3, "isWithin", "(III)Z"⟩
abbrev cX3_placeOf : ByteArray := prog_1_method_18_code
def yX3_placeOf : MethodName := ⟨RX3, "placeOf", "(II)I"⟩
abbrev cX3_hasAllDeeds : ByteArray := prog_1_method_19_code
def yX3_hasAllDeeds : MethodName := ⟨RX3, "hasAllDeeds", "()Z"⟩
abbrev cX3_advance : ByteArray := prog_1_method_20_code
def yX3_advance : MethodName := ⟨RX3, "advance", "()V"⟩
abbrev cX3_judgeHour : ByteArray := prog_1_method_21_code
def yX3_judgeHour : MethodName := ⟨RX3, "judgeHour", "()V"⟩
def RX4 : String := "WaterMeadowsModel"
def TX4 : u_T := fun k => match k with
  | 0 => ("WaterMeadowsModel", "hatches", "I", false)
  | 1 => ("WaterMeadowsModel", "hour", "I", false)
  | 2 => ("WaterMeadowsModel", "deeds", "I", false)
  | 3 => ("WaterMeadowsModel", "flow", "I", false)
  | 4 => ("WaterMeadowsModel", "air", "I", false)
  | 5 => ("WaterMeadowsModel", "right", "I", false)
  | 6 => ("WaterMeadowsModel", "from", "I", false)
  | 7 => ("WaterMeadowsModel", "to", "I", false)
  | 8 => ("WaterMeadowsModel", "farm", "[I", true)
  | 9 => ("WaterMeadowsModel", "width", "[I", true)
  | 10 => ("WaterMeadowsModel", "panes", "[I", true)
  | 11 => ("WaterMeadowsModel", "open", "[I", true)
  | 12 => ("WaterMeadowsModel", "sheep", "[I", true)
  | 13 => ("WaterMeadowsModel", "carried", "[I", true)
  | 14 => ("WaterMeadowsModel", "took", "[I", true)
  | 15 => ("WaterMeadowsModel", "grass", "[I", true)
  | 16 => ("WaterMeadowsModel", "got", "[I", true)
  | 17 => ("WaterMeadowsModel", "wet", "[I", true)
  | 18 => ("WaterMeadowsModel", "drunk", "[I", true)
  | 19 => ("WaterMeadowsModel", "eaten", "[I", true)
  | 20 => ("WaterMeadowsModel", "mill", "[I", true)
  | 21 => ("WaterMeadowsModel", "millLast", "[I", true)
  | 22 => ("WaterMeadowsModel", "millBroken", "[I", true)
  | 23 => ("WaterMeadowsModel", "brought", "I", false)
  | 24 => ("WaterMeadowsModel", "broken", "I", false)
  | 25 => ("WaterMeadowsModel", "brokenHour", "[I", true)
  | 26 => ("WaterMeadowsModel", "brokenSort", "[I", true)
  | 27 => ("WaterMeadowsModel", "brokenWho", "[I", true)
  | _ => ("WaterMeadowsModel", "turnsBroken", "[I", true)
def tyX4 : Nat → FieldType := fun k => match k with
  | 0 => .int
  | 1 => .int
  | 2 => .int
  | 3 => .int
  | 4 => .int
  | 5 => .int
  | 6 => .int
  | 7 => .int
  | 8 => .array .int
  | 9 => .array .int
  | 10 => .array .int
  | 11 => .array .int
  | 12 => .array .int
  | 13 => .array .int
  | 14 => .array .int
  | 15 => .array .int
  | 16 => .array .int
  | 17 => .array .int
  | 18 => .array .int
  | 19 => .array .int
  | 20 => .array .int
  | 21 => .array .int
  | 22 => .array .int
  | 23 => .int
  | 24 => .int
  | 25 => .array .int
  | 26 => .array .int
  | 27 => .array .int
  | _ => .array .int
abbrev wsX40 : List Cond := u_ws RX4 TX4 29
theorem nmX4 : ∀ a, a < 29 → ∀ b, b < 29 → a ≠ b → (TX4 a).2.1 ≠ (TX4 b).2.1 := by decide +kernel
theorem tyX4_ok : ∀ k, k < 29 → parseFieldDescriptor (TX4 k).2.2.1 = some (tyX4 k) := by decide +kernel
abbrev cX4_init : ByteArray := prog_6_method_1_code
def yX4_init : MethodName := ⟨RX4, "<init>", "()V"⟩
abbrev cX4_in : ByteArray := prog_6_method_2_code
def yX4_in : MethodName := ⟨RX4, "in", "(III)Z"⟩
abbrev cX4_isHatch : ByteArray := prog_6_method_3_code
def yX4_isHatch : MethodName := ⟨RX4, "isHatch", "(I)Z"⟩
abbrev cX4_isFull : ByteArray := prog_6_method_4_code
def yX4_isFull : MethodName := ⟨RX4, "isFull", "()Z"⟩
abbrev cX4_hatch : ByteArray := prog_6_method_5_code
def yX4_hatch : MethodName := ⟨RX4, "hatch", "(III)I"⟩
abbrev cX4_open : ByteArray := prog_6_method_6_code
def yX4_open : MethodName := ⟨RX4, "open", "(II)I"⟩
abbrev cX4_flow : ByteArray := prog_6_method_7_code
def yX4_flow : MethodName := ⟨RX4, "flow", "(I)I"⟩
abbrev cX4_air : ByteArray := prog_6_method_8_code
def yX4_air : MethodName := ⟨RX4, "air", "(I)I"⟩
abbrev cX4_dig : ByteArray := prog_6_method_9_code
def yX4_dig : MethodName := ⟨RX4, "dig", "(I)I"⟩
abbrev cX4_isPane : ByteArray := prog_6_method_10_code
def yX4_isPane : MethodName := ⟨RX4, "isPane", "(II)Z"⟩
abbrev cX4_sheep : ByteArray := prog_6_method_11_code
def yX4_sheep : MethodName := ⟨RX4, "sheep", "(III)I"⟩
abbrev cX4_right : ByteArray := prog_6_method_12_code
def yX4_right : MethodName := ⟨RX4, "right", "(III)I"⟩
abbrev cX4_most : ByteArray := prog_6_method_13_code
def yX4_most : MethodName := ⟨RX4, "most", "(II)I"⟩
abbrev cX4_flows : ByteArray := prog_6_method_14_code
def yX4_flows : MethodName := ⟨RX4, "flows", "(I)V"⟩
abbrev cX4_grows : ByteArray := prog_6_method_15_code
def yX4_grows : MethodName := ⟨RX4, "grows", "(III)V"⟩
abbrev cX4_breaks : ByteArray := prog_6_method_16_code
def yX4_breaks : MethodName := ⟨RX4, "breaks", "(II)V"⟩
abbrev cX4_judges : ByteArray := prog_6_method_17_code
def yX4_judges : MethodName := ⟨RX4, "judges", "()V"⟩
abbrev cX4_hours : ByteArray := prog_6_method_18_code
def yX4_hours : MethodName := ⟨RX4, "hours", "(I)I"⟩
abbrev cX4_told : ByteArray := prog_6_method_19_code
def yX4_told : MethodName := ⟨RX4, "told", "(II)I"⟩
abbrev cX4_pane : ByteArray := prog_6_method_20_code
def yX4_pane : MethodName := ⟨RX4, "pane", "(III)I"⟩
abbrev cX4_sum : ByteArray := prog_6_method_21_code
def yX4_sum : MethodName := ⟨RX4, "sum", "([II)I"⟩
abbrev cX4_stream : ByteArray := prog_6_method_22_code
def yX4_stream : MethodName := ⟨RX4, "stream", "(I)I"⟩
abbrev cX4_broken : ByteArray := prog_6_method_23_code
def yX4_broken : MethodName := ⟨RX4, "broken", "(II)I"⟩
abbrev cX4_ofFarm : ByteArray := prog_6_method_24_code
def yX4_ofFarm : MethodName := ⟨RX4, "ofFarm", "([III)I"⟩
abbrev cX4_farm : ByteArray := prog_6_method_25_code
def yX4_farm : MethodName := ⟨RX4, "farm", "(II)I"⟩
abbrev cX4_without : ByteArray := prog_6_method_26_code
def yX4_without : MethodName := ⟨RX4, "without", "(II)I"⟩
abbrev cX4_count : ByteArray := prog_6_method_27_code
def yX4_count : MethodName := ⟨RX4, "count", "(I)I"⟩
def RJ9 : String := "java/lang/Math"
def TJ9 : u_T := fun k => match k with
  | _ => ("", "", "", false)
def tyJ9 : Nat → FieldType := fun k => match k with
  | _ => .int
abbrev wsJ90 : List Cond := u_ws RJ9 TJ9 0
theorem nmJ9 : ∀ a, a < 0 → ∀ b, b < 0 → a ≠ b → (TJ9 a).2.1 ≠ (TJ9 b).2.1 := by decide +kernel
theorem tyJ9_ok : ∀ k, k < 0 → parseFieldDescriptor (TJ9 k).2.2.1 = some (tyJ9 k) := by decide +kernel
abbrev cJ9_max_7cf53 : ByteArray := prog_7_method_65_code
def yJ9_max_7cf53 : MethodName := ⟨RJ9, "max", "(II)I"⟩
abbrev cJ9_min_7cf53 : ByteArray := prog_7_method_69_code
def yJ9_min_7cf53 : MethodName := ⟨RJ9, "min", "(II)I"⟩
def RL : String := "WaterMeadowsLaw"
abbrev cL_law : ByteArray := code
def yL_law : MethodName := ⟨RL, "law", "([I)Z"⟩
abbrev vwCl : List vw_C := [(RX0, TX0, 14), (RX1, TX1, 6), (RX2, TX2, 11), (RX3, TX3, 6), (RX4, TX4, 29)]
end
section
/-! ===== the walk's own judgement: V, world, locals, pc and stack in the goal; contracts RdI (reads), MuI, MuV (writes in place) ===== -/
abbrev v_Cfg : Type := va_G × ClassId × ClassId
abbrev v_tys (G : v_Cfg) : List (ClassId × FieldType) := [(G.2.1, .int), (G.2.2, .object RX0)]
def v_n97 : Cond := .methodLinkNest RX0 97 yX3_placeOf RX3
def v_n54 : Cond := .methodLinkNest RX2 54 yX3_isWithin RX3
def xK (G : v_Cfg) (U : State) : Prop := va_K G.1 vwCl (v_tys G) U ∧ va_Nw v_n97 U ∧ va_Nw v_n54 U
theorem xK.warm {G : v_Cfg} {s U : State} (hW : s.WarmedH U.vm) (h : xK G s) : xK G U := ⟨va_K.moved hW.alike h.1, va_Nw.warmM hW h.2.1, va_Nw.warmM hW h.2.2⟩
theorem xK.same {G : v_Cfg} {s U : State} (e : s.vm = U.vm) (h : xK G s) : xK G U := ⟨va_K.moved (by rw [e]; exact Vm.Alike.refl _) h.1, va_Nw.same rfl e h.2.1, va_Nw.same rfl e h.2.2⟩
/-- the tables' words that stay true under every call -/
def tbG : List Cond := lw_tbl.filter goodWord
theorem tb_in {w : Cond} (h : w ∈ lw_tbl) (g : goodWord w = true) : w ∈ tbG := List.mem_filter.mpr ⟨h, g⟩
theorem tb_0 {w : Cond} {i : Nat} (h : (k2_sels lw_privs)[i]? = some w) (g : goodWord w = true) : w ∈ tbG := tb_in (List.mem_append_left _ (List.mem_of_getElem? h)) g
theorem tb_1 {w : Cond} {i : Nat} (h : tables_1_1[i]? = some w) (g : goodWord w = true) : w ∈ tbG := tb_in (List.mem_append_right _ (List.mem_append_left _ (List.mem_of_getElem? h))) g
theorem tb_2 {w : Cond} {i : Nat} (h : tables_1_2[i]? = some w) (g : goodWord w = true) : w ∈ tbG := tb_in (List.mem_append_right _ (List.mem_append_right _ (List.mem_append_left _ (List.mem_of_getElem? h)))) g
theorem tb_3 {w : Cond} {i : Nat} (h : tables_1_3[i]? = some w) (g : goodWord w = true) : w ∈ tbG := tb_in (List.mem_append_right _ (List.mem_append_right _ (List.mem_append_right _ (List.mem_of_getElem? h)))) g
theorem v_goodIn {y : MethodName} {cc : ByteArray} {n : Nat} {ret : Option FieldType} (h : Cond.code y cc n ret ∈ tbG) : GoodIn tbG (Cond.code y cc n ret :: tbG) := fun w hw => by
  have hm : w ∈ tbG := (List.mem_cons.mp hw).elim (fun e => e ▸ h) id
  exact ⟨hm, good_of_word (List.mem_filter.mp hm).2⟩
abbrev v_ws (y : MethodName) (cc : ByteArray) (n : Nat) (ret : Option FieldType) : List Cond := Cond.code y cc n ret :: tbG
def rmk (d : Nat) : Room := { frames := d, cells := 0, slots := 0, locals := 32 * d }
/-- the addresses of a world -/
def v_in (w : va_W) : Nat → Prop := fun q => ∃ (k : Nat) (e : va_E), w[k]? = some (q, e)
def v_Pr (G : v_Cfg) (av : List Value) (w : va_W) : Array Value → State → Prop := va_Pc av (fun U => va_P G.1 vwCl w U.heap ∧ xK G U)
def v_Pm (G : v_Cfg) (av : List Value) (w : va_W) : Array Value → State → Prop := va_Pc av (fun U => va_P G.1 vwCl w U.heap ∧ va_D (fun _ => True) w ∧ xK G U)
def v_Qi (G : v_Cfg) (r : Int32) (w w1 : va_W) : Array Value → State → Outcome → State → Prop := fun _ st o t => o = .returned (some (.int r)) ∧ va_P G.1 vwCl w1 t.heap ∧ va_F (v_in w) st t
def v_Qv (G : v_Cfg) (w w1 : va_W) : Array Value → State → Outcome → State → Prop := fun _ st o t => o = .returned none ∧ va_P G.1 vwCl w1 t.heap ∧ va_F (v_in w) st t
/-- a method that reads the cells w, and answers r -/
def RdI (l : Launch) (G : v_Cfg) (y : MethodName) (cc : ByteArray) (n : Nat) (ret : Option FieldType) (d : Nat) (av : List Value) (w : va_W) (r : Int32) : Prop := Met l y (v_ws y cc n ret) (rmk d) (v_Pr G av w) (vp_Si (fun x => x = r)) 0 0 (fun _ => False)
/-- a method that turns the cells w into w1 (the same addresses), and answers r -/
def MuI (l : Launch) (G : v_Cfg) (y : MethodName) (cc : ByteArray) (n : Nat) (ret : Option FieldType) (d : Nat) (av : List Value) (w w1 : va_W) (r : Int32) : Prop := Met l y (v_ws y cc n ret) (rmk d) (v_Pm G av w) (v_Qi G r w w1) 0 0 (v_in w)
def MuV (l : Launch) (G : v_Cfg) (y : MethodName) (cc : ByteArray) (n : Nat) (ret : Option FieldType) (d : Nat) (av : List Value) (w w1 : va_W) : Prop := Met l y (v_ws y cc n ret) (rmk d) (v_Pm G av w) (v_Qv G w w1) 0 0 (v_in w)
/-- what a walk keeps beside its world: a reader has changed nothing; a writer only its own cells -/
def v_Ir (s : State) (_ : va_W) (H : Heap) (locs : List Loc) : Prop := H = s.heap ∧ locs = []
def v_Iw (A : Nat → Prop) (s : State) (ws : va_W) (H : Heap) (locs : List Loc) : Prop := va_D A ws ∧ va_S A s.heap H locs
def V_ctx (p : Program) (s : State) (m : MethodId) (args : Array Value) (meth : Method) (c : Code) (G : v_Cfg) (cc : ByteArray) (own : String) (nL : Nat) (ret : Option FieldType) : Prop :=
  p.tables.exec = Jvm.exec ∧ c.code = cc ∧ c.maxLocals = nL ∧ s.vm.findClass own = some m.cls ∧ (∀ w ∈ tbG, w.before args s = true) ∧ xK G s ∧ meth.locks = false ∧ meth.sig.returnType = ret
def V (p : Program) (l : Launch) (e : Env) (R : Room) (s : State) (m : MethodId) (args : Array Value) (below : List Frame) (meth : Method) (c : Code) (Q : State → Prop) (G : v_Cfg) (I : va_W → Heap → List Loc → Prop) (cc : ByteArray) (own : String) (nL : Nat) (ret : Option FieldType) (ws : va_W) (k n : Nat) (lv : List (Nat × Value)) (pc : Nat) (st : List Value) : Prop :=
  V_ctx p s m args meth c G cc own nL ret → ∀ (H : Heap) (locs : List Loc) (ls : Array Slot), va_P G.1 vwCl ws H → I ws H locs → lv_has ls nL lv → W p l e R s m args below meth c H locs k n Q (F0 m pc ls st)
/-- what the tables say of a field: by the class that names it and its number there -/
def v_FL (own : String) (index ci k : Nat) : Prop := ∃ (C : String) (T : u_T) (N : Nat) (ty : Nat → FieldType), vwCl[ci]? = some (C, T, N) ∧ (∀ w ∈ u_ws C T N, w ∈ tbG) ∧ (∀ k, k < N → parseFieldDescriptor (T k).2.2.1 = some (ty k)) ∧ (∀ a, a < N → ∀ b, b < N → a ≠ b → (T a).2.1 ≠ (T b).2.1) ∧ k < N ∧ Cond.fieldLink own index (T k).1 (T k).2.1 (T k).2.2.1 ∈ tbG
def v_FP (own : String) (index ci k : Nat) : Prop := ∃ (C : String) (T : u_T) (N : Nat) (ty : Nat → FieldType), vwCl[ci]? = some (C, T, N) ∧ (∀ w ∈ u_ws C T N, w ∈ tbG) ∧ (∀ k, k < N → parseFieldDescriptor (T k).2.2.1 = some (ty k)) ∧ (∀ a, a < N → ∀ b, b < N → a ≠ b → (T a).2.1 ≠ (T b).2.1) ∧ k < N ∧ Cond.fieldLink own index (T k).1 (T k).2.1 (T k).2.2.1 ∈ tbG ∧ (T k).2.2.2 = false ∧ parseFieldDescriptor (T k).2.2.1 = some .int
def v_Y (y : MethodName) (cc : ByteArray) (n : Nat) (ret : Option FieldType) (na : Nat) : Prop := Cond.code y cc n ret ∈ tbG ∧ Cond.initialized y.cls ∈ tbG ∧ y.cls ≠ "java/lang/invoke/MethodHandle" ∧ y.cls ≠ "java/lang/invoke/VarHandle" ∧ (parseMethodDescriptor y.desc).map (fun d => d.parameters.length) = some na
def v_LV (own : String) (index : Nat) (y : MethodName) : Prop := Cond.methodLink own index y ∈ tbG ∧ Cond.instanceMethod y ∈ tbG ∧ Cond.selects y.cls y y ∈ tbG
def v_LS (own : String) (index : Nat) (y : MethodName) : Prop := Cond.methodLink own index y ∈ tbG ∧ Cond.static y ∈ tbG
/-- cells of the callee put back at their places -/
def v_put (ws : va_W) : List Nat → va_W → va_W
  | i :: is, c :: cs => v_put (ws.set i c) is cs
  | _, _ => ws
theorem v_put_src : ∀ (isC : List Nat) (w1 ws : va_W), isC.length = w1.length → ∀ (k : Nat) (q : Nat × va_E), (v_put ws isC w1)[k]? = some q → (∃ j : Nat, w1[j]? = some q) ∨ (ws[k]? = some q ∧ k ∉ isC)
  | [], [], ws, _, k, q, h => Or.inr ⟨h, List.not_mem_nil⟩
  | [], _ :: _, _, e, _, _, _ => by cases e
  | _ :: _, [], _, e, _, _, _ => by cases e
  | i :: is, c :: cs, ws, e, k, q, h => by
    rcases v_put_src is cs (ws.set i c) (Nat.succ.inj e) k q h with ⟨j, hj⟩ | ⟨h1, h2⟩
    · exact Or.inl ⟨j + 1, hj⟩
    · by_cases hki : k = i
      · subst hki
        rw [List.getElem?_set] at h1
        simp only [↓reduceIte] at h1
        split at h1
        · exact Or.inl ⟨0, h1⟩
        · cases h1
      · rw [List.getElem?_set_ne (fun q => hki q.symm)] at h1
        refine Or.inr ⟨h1, fun hm => ?_⟩
        rcases List.mem_cons.mp hm with h3 | h3
        · exact hki h3
        · exact h2 h3
theorem va_D.addr {A : Nat → Prop} {ws ws' : va_W} (h : va_D A ws) (e : ws'.map Prod.fst = ws.map Prod.fst) : va_D A ws' := by
  have key : ∀ (i : Nat) (x : Nat × va_E), ws'[i]? = some x → ∃ y, ws[i]? = some y ∧ y.1 = x.1 := by
    intro i x hx
    have h1 : (ws'.map Prod.fst)[i]? = some x.1 := by rw [List.getElem?_map, hx]; rfl
    rw [e, List.getElem?_map] at h1
    cases hy : ws[i]? with
    | none => rw [hy] at h1; cases h1
    | some y => rw [hy] at h1; exact ⟨y, rfl, Option.some.inj h1⟩
  refine ⟨fun i j x y hx hy hxy => ?_, fun k x hx => ?_⟩
  · obtain ⟨x', h1, h2⟩ := key i x hx
    obtain ⟨y', h3, h4⟩ := key j y hy
    exact h.1 i j x' y' h1 h3 (by rw [h2, h4]; exact hxy)
  · obtain ⟨x', h1, h2⟩ := key k x hx
    rw [← h2]; exact h.2 k x' h1
/-- what is behind a call: each cell is the callee's, or one that the callee did not have -/
theorem v_mixed {A : Nat → Prop} {D : va_G} {cl : List vw_C} {ws wc w1 ws' : va_W} {H H1 : Heap} (hP : va_P D cl ws H) (hD : va_D A ws) (isC : List Nat) (hC : isC.map (fun i => ws[i]?) = wc.map some) (hP1 : va_P D cl w1 H1) (hk : ∀ q : Nat, q < H.size → ¬ v_in wc q → H1[q]? = H[q]?)
    (hsrc : ∀ (k : Nat) (q : Nat × va_E), ws'[k]? = some q → (∃ j : Nat, w1[j]? = some q) ∨ (ws[k]? = some q ∧ k ∉ isC)) : va_P D cl ws' H1 := by
  intro k q hq
  rcases hsrc k q hq with ⟨j, hj⟩ | ⟨h1, h2⟩
  · exact hP1 j q hj
  · refine (hP k q h1).kept (hk q.1 (hP k q h1).lt ?_)
    rintro ⟨k2, e2, h⟩
    have h3 : (isC.map (fun i => ws[i]?))[k2]? = some (some (q.1, e2)) := by rw [hC, List.getElem?_map, h]; rfl
    rw [List.getElem?_map] at h3
    cases hi : isC[k2]? with
    | none => rw [hi] at h3; cases h3
    | some i =>
      rw [hi] at h3
      have hij := hD.1 k i q (q.1, e2) h1 (Option.some.inj h3) rfl
      subst hij
      exact h2 (List.mem_of_getElem? hi)
section VR
variable {p : Program} {l : Launch} {e : Env} {R : Room} {s : State} {m : MethodId} {args : Array Value} {below : List Frame} {meth : Method} {c : Code} {Q : State → Prop} {G : v_Cfg} {I : va_W → Heap → List Loc → Prop} {cc : ByteArray} {own : String} {nL : Nat} {ret : Option FieldType} {ws : va_W} {k n : Nat} {lv : List (Nat × Value)} {pc : Nat} {st : List Value}
theorem v_iconst {n0 : Int} {v : Int32} (hdg : decode cc pc = .ok (.iconst n0, 1)) (hv : Int32.ofInt n0 = v) (kk : V p l e R s m args below meth c Q G I cc own nL ret ws k n lv (pc + 1) (.int v :: st)) : V p l e R s m args below meth c Q G I cc own nL ret ws k n lv pc st := fun C H locs ls hP hI hl => lv_iconst C.1 C.2.1 hdg hv (kk C H locs ls hP hI hl)
theorem v_bipush {n0 : Int} {v : Int32} (hdg : decode cc pc = .ok (.bipush n0, 2)) (hv : (Int8.ofInt n0).toInt32 = v) (kk : V p l e R s m args below meth c Q G I cc own nL ret ws k n lv (pc + 2) (.int v :: st)) : V p l e R s m args below meth c Q G I cc own nL ret ws k n lv pc st := fun C H locs ls hP hI hl => lv_bipush C.1 C.2.1 hdg hv (kk C H locs ls hP hI hl)
theorem v_sipush {n0 : Int} {v : Int32} (hdg : decode cc pc = .ok (.sipush n0, 3)) (hv : (Int16.ofInt n0).toInt32 = v) (kk : V p l e R s m args below meth c Q G I cc own nL ret ws k n lv (pc + 3) (.int v :: st)) : V p l e R s m args below meth c Q G I cc own nL ret ws k n lv pc st := fun C H locs ls hP hI hl => lv_sipush C.1 C.2.1 hdg hv (kk C H locs ls hP hI hl)
theorem v_iload_n {j : Fin 4} {i : Nat} {x : Int32} (hdg : decode cc pc = .ok (.iload_n j, 1)) (hi : (j : Nat) = i) (q : Nat) (hq : lv[q]? = some (i, .int x)) (kk : V p l e R s m args below meth c Q G I cc own nL ret ws k n lv (pc + 1) (.int x :: st)) : V p l e R s m args below meth c Q G I cc own nL ret ws k n lv pc st := fun C H locs ls hP hI hl => lv_iload_n C.1 C.2.1 hdg hi (lv_at hl q hq) (kk C H locs ls hP hI hl)
theorem v_iload {i : Nat} {x : Int32} (hdg : decode cc pc = .ok (.iload i, 2)) (q : Nat) (hq : lv[q]? = some (i, .int x)) (kk : V p l e R s m args below meth c Q G I cc own nL ret ws k n lv (pc + 2) (.int x :: st)) : V p l e R s m args below meth c Q G I cc own nL ret ws k n lv pc st := fun C H locs ls hP hI hl => lv_iload C.1 C.2.1 hdg (lv_at hl q hq) (kk C H locs ls hP hI hl)
theorem v_aload_n {j : Fin 4} {i x : Nat} (hdg : decode cc pc = .ok (.aload_n j, 1)) (hi : (j : Nat) = i) (q : Nat) (hq : lv[q]? = some (i, .ref x)) (kk : V p l e R s m args below meth c Q G I cc own nL ret ws k n lv (pc + 1) (.ref x :: st)) : V p l e R s m args below meth c Q G I cc own nL ret ws k n lv pc st := fun C H locs ls hP hI hl => lv_aload_n C.1 C.2.1 hdg hi (lv_at hl q hq) (kk C H locs ls hP hI hl)
theorem v_aload {i x : Nat} (hdg : decode cc pc = .ok (.aload i, 2)) (q : Nat) (hq : lv[q]? = some (i, .ref x)) (kk : V p l e R s m args below meth c Q G I cc own nL ret ws k n lv (pc + 2) (.ref x :: st)) : V p l e R s m args below meth c Q G I cc own nL ret ws k n lv pc st := fun C H locs ls hP hI hl => lv_aload C.1 C.2.1 hdg (lv_at hl q hq) (kk C H locs ls hP hI hl)
theorem v_istore_n {j : Fin 4} {i : Nat} {x : Int32} {lv' : List (Nat × Value)} (hdg : decode cc pc = .ok (.istore_n j, 1)) (hi : (j : Nat) = i) (hn : i < nL) (hq : (i, Value.int x) :: lv.filter (fun q => !(q.1 == i) && !(q.1 + 1 == i && q.2.category == 2)) = lv') (kk : V p l e R s m args below meth c Q G I cc own nL ret ws k n lv' (pc + 1) st) : V p l e R s m args below meth c Q G I cc own nL ret ws k n lv pc (.int x :: st) := fun C H locs ls hP hI hl => lv_istore_n C.1 C.2.1 hdg hi hl hn hq (fun ls' hl' => kk C H locs ls' hP hI hl')
theorem v_istore {i : Nat} {x : Int32} {lv' : List (Nat × Value)} (hdg : decode cc pc = .ok (.istore i, 2)) (hn : i < nL) (hq : (i, Value.int x) :: lv.filter (fun q => !(q.1 == i) && !(q.1 + 1 == i && q.2.category == 2)) = lv') (kk : V p l e R s m args below meth c Q G I cc own nL ret ws k n lv' (pc + 2) st) : V p l e R s m args below meth c Q G I cc own nL ret ws k n lv pc (.int x :: st) := fun C H locs ls hP hI hl => lv_istore C.1 C.2.1 hdg hl hn hq (fun ls' hl' => kk C H locs ls' hP hI hl')
theorem v_astore_n {j : Fin 4} {i : Nat} {x : Nat} {lv' : List (Nat × Value)} (hdg : decode cc pc = .ok (.astore_n j, 1)) (hi : (j : Nat) = i) (hn : i < nL) (hq : (i, Value.ref x) :: lv.filter (fun q => !(q.1 == i) && !(q.1 + 1 == i && q.2.category == 2)) = lv') (kk : V p l e R s m args below meth c Q G I cc own nL ret ws k n lv' (pc + 1) st) : V p l e R s m args below meth c Q G I cc own nL ret ws k n lv pc (.ref x :: st) := fun C H locs ls hP hI hl => lv_astore_n C.1 C.2.1 hdg hi hl hn hq (fun ls' hl' => kk C H locs ls' hP hI hl')
theorem v_astore {i : Nat} {x : Nat} {lv' : List (Nat × Value)} (hdg : decode cc pc = .ok (.astore i, 2)) (hn : i < nL) (hq : (i, Value.ref x) :: lv.filter (fun q => !(q.1 == i) && !(q.1 + 1 == i && q.2.category == 2)) = lv') (kk : V p l e R s m args below meth c Q G I cc own nL ret ws k n lv' (pc + 2) st) : V p l e R s m args below meth c Q G I cc own nL ret ws k n lv pc (.ref x :: st) := fun C H locs ls hP hI hl => lv_astore C.1 C.2.1 hdg hl hn hq (fun ls' hl' => kk C H locs ls' hP hI hl')
theorem v_iinc {i q : Nat} {n0 : Int} {x v : Int32} {lv' : List (Nat × Value)} (hdg : decode cc pc = .ok (.iinc i n0, 3)) (hk : lv[q]? = some (i, .int x)) (hv : x + Int32.ofInt n0 = v) (hn : i < nL) (hq : (i, Value.int v) :: lv.filter (fun q => !(q.1 == i) && !(q.1 + 1 == i && q.2.category == 2)) = lv') (kk : V p l e R s m args below meth c Q G I cc own nL ret ws k n lv' (pc + 3) st) : V p l e R s m args below meth c Q G I cc own nL ret ws k n lv pc st := fun C H locs ls hP hI hl => lv_iinc C.1 C.2.1 hdg hl hk hv hn hq (fun ls' hl' => kk C H locs ls' hP hI hl')
theorem v_iadd {x y : Int32} (hdg : decode cc pc = .ok (.iadd, 1)) (kk : V p l e R s m args below meth c Q G I cc own nL ret ws k n lv (pc + 1) (.int (x + y) :: st)) : V p l e R s m args below meth c Q G I cc own nL ret ws k n lv pc (.int y :: .int x :: st) := fun C H locs ls hP hI hl => lv_iadd C.1 C.2.1 hdg (kk C H locs ls hP hI hl)
theorem v_isub {x y : Int32} (hdg : decode cc pc = .ok (.isub, 1)) (kk : V p l e R s m args below meth c Q G I cc own nL ret ws k n lv (pc + 1) (.int (x - y) :: st)) : V p l e R s m args below meth c Q G I cc own nL ret ws k n lv pc (.int y :: .int x :: st) := fun C H locs ls hP hI hl => lv_isub C.1 C.2.1 hdg (kk C H locs ls hP hI hl)
theorem v_imul {x y : Int32} (hdg : decode cc pc = .ok (.imul, 1)) (kk : V p l e R s m args below meth c Q G I cc own nL ret ws k n lv (pc + 1) (.int (x * y) :: st)) : V p l e R s m args below meth c Q G I cc own nL ret ws k n lv pc (.int y :: .int x :: st) := fun C H locs ls hP hI hl => lv_imul C.1 C.2.1 hdg (kk C H locs ls hP hI hl)
theorem v_iand {x y : Int32} (hdg : decode cc pc = .ok (.iand, 1)) (kk : V p l e R s m args below meth c Q G I cc own nL ret ws k n lv (pc + 1) (.int (x &&& y) :: st)) : V p l e R s m args below meth c Q G I cc own nL ret ws k n lv pc (.int y :: .int x :: st) := fun C H locs ls hP hI hl => lv_iand C.1 C.2.1 hdg (kk C H locs ls hP hI hl)
theorem v_ior {x y : Int32} (hdg : decode cc pc = .ok (.ior, 1)) (kk : V p l e R s m args below meth c Q G I cc own nL ret ws k n lv (pc + 1) (.int (x ||| y) :: st)) : V p l e R s m args below meth c Q G I cc own nL ret ws k n lv pc (.int y :: .int x :: st) := fun C H locs ls hP hI hl => lv_ior C.1 C.2.1 hdg (kk C H locs ls hP hI hl)
theorem v_idiv {x y : Int32} (hdg : decode cc pc = .ok (.idiv, 1)) (hne : ¬ y = 0) (kk : V p l e R s m args below meth c Q G I cc own nL ret ws k n lv (pc + 1) (.int (x / y) :: st)) : V p l e R s m args below meth c Q G I cc own nL ret ws k n lv pc (.int y :: .int x :: st) := fun C H locs ls hP hI hl => lv_idiv C.1 C.2.1 hdg hne (kk C H locs ls hP hI hl)
theorem v_irem {x y : Int32} (hdg : decode cc pc = .ok (.irem, 1)) (hne : ¬ y = 0) (kk : V p l e R s m args below meth c Q G I cc own nL ret ws k n lv (pc + 1) (.int (x - x / y * y) :: st)) : V p l e R s m args below meth c Q G I cc own nL ret ws k n lv pc (.int y :: .int x :: st) := fun C H locs ls hP hI hl => lv_irem C.1 C.2.1 hdg hne (kk C H locs ls hP hI hl)
theorem v_dup {va : Value} (hdg : decode cc pc = .ok (.dup, 1)) (hva : va.category = 1) (kk : V p l e R s m args below meth c Q G I cc own nL ret ws k n lv (pc + 1) (va :: va :: st)) : V p l e R s m args below meth c Q G I cc own nL ret ws k n lv pc (va :: st) := fun C H locs ls hP hI hl => lv_dup C.1 C.2.1 hdg hva (kk C H locs ls hP hI hl)
theorem v_pop {va : Value} (hdg : decode cc pc = .ok (.pop, 1)) (hva : va.category = 1) (kk : V p l e R s m args below meth c Q G I cc own nL ret ws k n lv (pc + 1) st) : V p l e R s m args below meth c Q G I cc own nL ret ws k n lv pc (va :: st) := fun C H locs ls hP hI hl => lv_pop C.1 C.2.1 hdg hva (kk C H locs ls hP hI hl)
theorem v_dup2 {va vb : Value} (hdg : decode cc pc = .ok (.dup2, 1)) (hva : va.category = 1) (hvb : vb.category = 1) (kk : V p l e R s m args below meth c Q G I cc own nL ret ws k n lv (pc + 1) (va :: vb :: va :: vb :: st)) : V p l e R s m args below meth c Q G I cc own nL ret ws k n lv pc (va :: vb :: st) := fun C H locs ls hP hI hl => lv_dup2_11 C.1 C.2.1 hdg hva hvb (kk C H locs ls hP hI hl)
theorem v_dup_x1 {va vb : Value} (hdg : decode cc pc = .ok (.dup_x1, 1)) (hva : va.category = 1) (hvb : vb.category = 1) (kk : V p l e R s m args below meth c Q G I cc own nL ret ws k n lv (pc + 1) (va :: vb :: va :: st)) : V p l e R s m args below meth c Q G I cc own nL ret ws k n lv pc (va :: vb :: st) := fun C H locs ls hP hI hl => lv_dup_x1 C.1 C.2.1 hdg hva hvb (kk C H locs ls hP hI hl)
theorem v_ishl {x y : Int32} (hdg : decode cc pc = .ok (.ishl, 1)) (kk : V p l e R s m args below meth c Q G I cc own nL ret ws k n lv (pc + 1) (.int (x <<< (y &&& 31)) :: st)) : V p l e R s m args below meth c Q G I cc own nL ret ws k n lv pc (.int y :: .int x :: st) := fun C H locs ls hP hI hl => lv_ishl C.1 C.2.1 hdg (kk C H locs ls hP hI hl)
theorem v_if_eq {x : Int32} {off : Int} {tgt : Nat} (hdg : decode cc pc = .ok (.ifCond .eq off, 3)) (ht : (pc : Int) + off = (tgt : Int)) (kt : x = 0 → V p l e R s m args below meth c Q G I cc own nL ret ws k n lv tgt st) (kf : ¬ x = 0 → V p l e R s m args below meth c Q G I cc own nL ret ws k n lv (pc + 3) st) : V p l e R s m args below meth c Q G I cc own nL ret ws k n lv pc (.int x :: st) := fun C H locs ls hP hI hl => lv_if_eq C.1 C.2.1 hdg ht (fun h => kt h C H locs ls hP hI hl) (fun h => kf h C H locs ls hP hI hl)
theorem v_icmp_eq {x y : Int32} {off : Int} {tgt : Nat} (hdg : decode cc pc = .ok (.if_icmp .eq off, 3)) (ht : (pc : Int) + off = (tgt : Int)) (kt : x = y → V p l e R s m args below meth c Q G I cc own nL ret ws k n lv tgt st) (kf : ¬ x = y → V p l e R s m args below meth c Q G I cc own nL ret ws k n lv (pc + 3) st) : V p l e R s m args below meth c Q G I cc own nL ret ws k n lv pc (.int y :: .int x :: st) := fun C H locs ls hP hI hl => lv_icmp_eq C.1 C.2.1 hdg ht (fun h => kt h C H locs ls hP hI hl) (fun h => kf h C H locs ls hP hI hl)
theorem v_if_ne {x : Int32} {off : Int} {tgt : Nat} (hdg : decode cc pc = .ok (.ifCond .ne off, 3)) (ht : (pc : Int) + off = (tgt : Int)) (kt : ¬ x = 0 → V p l e R s m args below meth c Q G I cc own nL ret ws k n lv tgt st) (kf : x = 0 → V p l e R s m args below meth c Q G I cc own nL ret ws k n lv (pc + 3) st) : V p l e R s m args below meth c Q G I cc own nL ret ws k n lv pc (.int x :: st) := fun C H locs ls hP hI hl => lv_if_ne C.1 C.2.1 hdg ht (fun h => kt h C H locs ls hP hI hl) (fun h => kf h C H locs ls hP hI hl)
theorem v_icmp_ne {x y : Int32} {off : Int} {tgt : Nat} (hdg : decode cc pc = .ok (.if_icmp .ne off, 3)) (ht : (pc : Int) + off = (tgt : Int)) (kt : ¬ x = y → V p l e R s m args below meth c Q G I cc own nL ret ws k n lv tgt st) (kf : x = y → V p l e R s m args below meth c Q G I cc own nL ret ws k n lv (pc + 3) st) : V p l e R s m args below meth c Q G I cc own nL ret ws k n lv pc (.int y :: .int x :: st) := fun C H locs ls hP hI hl => lv_icmp_ne C.1 C.2.1 hdg ht (fun h => kt h C H locs ls hP hI hl) (fun h => kf h C H locs ls hP hI hl)
theorem v_if_lt {x : Int32} {off : Int} {tgt : Nat} (hdg : decode cc pc = .ok (.ifCond .lt off, 3)) (ht : (pc : Int) + off = (tgt : Int)) (kt : x < 0 → V p l e R s m args below meth c Q G I cc own nL ret ws k n lv tgt st) (kf : ¬ x < 0 → V p l e R s m args below meth c Q G I cc own nL ret ws k n lv (pc + 3) st) : V p l e R s m args below meth c Q G I cc own nL ret ws k n lv pc (.int x :: st) := fun C H locs ls hP hI hl => lv_if_lt C.1 C.2.1 hdg ht (fun h => kt h C H locs ls hP hI hl) (fun h => kf h C H locs ls hP hI hl)
theorem v_icmp_lt {x y : Int32} {off : Int} {tgt : Nat} (hdg : decode cc pc = .ok (.if_icmp .lt off, 3)) (ht : (pc : Int) + off = (tgt : Int)) (kt : x < y → V p l e R s m args below meth c Q G I cc own nL ret ws k n lv tgt st) (kf : ¬ x < y → V p l e R s m args below meth c Q G I cc own nL ret ws k n lv (pc + 3) st) : V p l e R s m args below meth c Q G I cc own nL ret ws k n lv pc (.int y :: .int x :: st) := fun C H locs ls hP hI hl => lv_icmp_lt C.1 C.2.1 hdg ht (fun h => kt h C H locs ls hP hI hl) (fun h => kf h C H locs ls hP hI hl)
theorem v_if_ge {x : Int32} {off : Int} {tgt : Nat} (hdg : decode cc pc = .ok (.ifCond .ge off, 3)) (ht : (pc : Int) + off = (tgt : Int)) (kt : 0 ≤ x → V p l e R s m args below meth c Q G I cc own nL ret ws k n lv tgt st) (kf : ¬ 0 ≤ x → V p l e R s m args below meth c Q G I cc own nL ret ws k n lv (pc + 3) st) : V p l e R s m args below meth c Q G I cc own nL ret ws k n lv pc (.int x :: st) := fun C H locs ls hP hI hl => lv_if_ge C.1 C.2.1 hdg ht (fun h => kt h C H locs ls hP hI hl) (fun h => kf h C H locs ls hP hI hl)
theorem v_icmp_ge {x y : Int32} {off : Int} {tgt : Nat} (hdg : decode cc pc = .ok (.if_icmp .ge off, 3)) (ht : (pc : Int) + off = (tgt : Int)) (kt : y ≤ x → V p l e R s m args below meth c Q G I cc own nL ret ws k n lv tgt st) (kf : ¬ y ≤ x → V p l e R s m args below meth c Q G I cc own nL ret ws k n lv (pc + 3) st) : V p l e R s m args below meth c Q G I cc own nL ret ws k n lv pc (.int y :: .int x :: st) := fun C H locs ls hP hI hl => lv_icmp_ge C.1 C.2.1 hdg ht (fun h => kt h C H locs ls hP hI hl) (fun h => kf h C H locs ls hP hI hl)
theorem v_if_gt {x : Int32} {off : Int} {tgt : Nat} (hdg : decode cc pc = .ok (.ifCond .gt off, 3)) (ht : (pc : Int) + off = (tgt : Int)) (kt : 0 < x → V p l e R s m args below meth c Q G I cc own nL ret ws k n lv tgt st) (kf : ¬ 0 < x → V p l e R s m args below meth c Q G I cc own nL ret ws k n lv (pc + 3) st) : V p l e R s m args below meth c Q G I cc own nL ret ws k n lv pc (.int x :: st) := fun C H locs ls hP hI hl => lv_if_gt C.1 C.2.1 hdg ht (fun h => kt h C H locs ls hP hI hl) (fun h => kf h C H locs ls hP hI hl)
theorem v_icmp_gt {x y : Int32} {off : Int} {tgt : Nat} (hdg : decode cc pc = .ok (.if_icmp .gt off, 3)) (ht : (pc : Int) + off = (tgt : Int)) (kt : y < x → V p l e R s m args below meth c Q G I cc own nL ret ws k n lv tgt st) (kf : ¬ y < x → V p l e R s m args below meth c Q G I cc own nL ret ws k n lv (pc + 3) st) : V p l e R s m args below meth c Q G I cc own nL ret ws k n lv pc (.int y :: .int x :: st) := fun C H locs ls hP hI hl => lv_icmp_gt C.1 C.2.1 hdg ht (fun h => kt h C H locs ls hP hI hl) (fun h => kf h C H locs ls hP hI hl)
theorem v_if_le {x : Int32} {off : Int} {tgt : Nat} (hdg : decode cc pc = .ok (.ifCond .le off, 3)) (ht : (pc : Int) + off = (tgt : Int)) (kt : x ≤ 0 → V p l e R s m args below meth c Q G I cc own nL ret ws k n lv tgt st) (kf : ¬ x ≤ 0 → V p l e R s m args below meth c Q G I cc own nL ret ws k n lv (pc + 3) st) : V p l e R s m args below meth c Q G I cc own nL ret ws k n lv pc (.int x :: st) := fun C H locs ls hP hI hl => lv_if_le C.1 C.2.1 hdg ht (fun h => kt h C H locs ls hP hI hl) (fun h => kf h C H locs ls hP hI hl)
theorem v_icmp_le {x y : Int32} {off : Int} {tgt : Nat} (hdg : decode cc pc = .ok (.if_icmp .le off, 3)) (ht : (pc : Int) + off = (tgt : Int)) (kt : x ≤ y → V p l e R s m args below meth c Q G I cc own nL ret ws k n lv tgt st) (kf : ¬ x ≤ y → V p l e R s m args below meth c Q G I cc own nL ret ws k n lv (pc + 3) st) : V p l e R s m args below meth c Q G I cc own nL ret ws k n lv pc (.int y :: .int x :: st) := fun C H locs ls hP hI hl => lv_icmp_le C.1 C.2.1 hdg ht (fun h => kt h C H locs ls hP hI hl) (fun h => kf h C H locs ls hP hI hl)
theorem v_goto {off : Int} {tgt : Nat} (hdg : decode cc pc = .ok (.goto off, 3)) (ht : (pc : Int) + off = (tgt : Int)) (kk : V p l e R s m args below meth c Q G I cc own nL ret ws k n lv tgt st) : V p l e R s m args below meth c Q G I cc own nL ret ws k n lv pc st := fun C H locs ls hP hI hl => lv_goto C.1 C.2.1 hdg ht (kk C H locs ls hP hI hl)
theorem v_tableOut {dflt lo hi : Int} {offs : Array Int} {len : Nat} {x : Int32} {tgt : Nat} (hdg : decode cc pc = .ok (.tableswitch dflt lo hi offs, len)) (h : x.toInt < lo ∨ hi < x.toInt) (ht : (pc : Int) + dflt = (tgt : Int)) (kk : V p l e R s m args below meth c Q G I cc own nL ret ws k n lv tgt st) : V p l e R s m args below meth c Q G I cc own nL ret ws k n lv pc (.int x :: st) := fun C H locs ls hP hI hl => lv_tableOut C.1 C.2.1 hdg h ht (kk C H locs ls hP hI hl)
theorem v_tableIn {dflt lo hi : Int} {offs : Array Int} {len : Nat} {x : Int32} {off : Int} {tgt : Nat} (hdg : decode cc pc = .ok (.tableswitch dflt lo hi offs, len)) (h1 : ¬ x.toInt < lo) (h2 : ¬ hi < x.toInt) (ho : offs[(x.toInt - lo).toNat]? = some off) (ht : (pc : Int) + off = (tgt : Int)) (kk : V p l e R s m args below meth c Q G I cc own nL ret ws k n lv tgt st) : V p l e R s m args below meth c Q G I cc own nL ret ws k n lv pc (.int x :: st) := fun C H locs ls hP hI hl => lv_tableIn C.1 C.2.1 hdg h1 h2 ho ht (kk C H locs ls hP hI hl)
theorem v_lookup {dflt : Int} {ps : Array (Int × Int)} {len : Nat} {x : Int32} {off : Int} {tgt : Nat} (hdg : decode cc pc = .ok (.lookupswitch dflt ps, len)) (hp : (ps.toList.zip (ps.toList.drop 1)).all (fun (a, next) => a.1 < next.1) = true) (ho : Op.lookupswitch.offset ps.toList dflt x.toInt = off) (ht : (pc : Int) + off = (tgt : Int)) (kk : V p l e R s m args below meth c Q G I cc own nL ret ws k n lv tgt st) : V p l e R s m args below meth c Q G I cc own nL ret ws k n lv pc (.int x :: st) := fun C H locs ls hP hI hl => lv_lookup C.1 C.2.1 hdg hp ho ht (kk C H locs ls hP hI hl)
theorem v_topi {x : Int32} (kk : ∀ y : Int32, y = x → V p l e R s m args below meth c Q G I cc own nL ret ws k n lv pc (.int y :: st)) : V p l e R s m args below meth c Q G I cc own nL ret ws k n lv pc (.int x :: st) := kk x rfl
theorem v_eqi {x : Int32} (y : Int32) (h : x = y) (kk : V p l e R s m args below meth c Q G I cc own nL ret ws k n lv pc (.int y :: st)) : V p l e R s m args below meth c Q G I cc own nL ret ws k n lv pc (.int x :: st) := h ▸ kk
theorem v_world {ws' : va_W} (h : ws = ws') (kk : V p l e R s m args below meth c Q G I cc own nL ret ws' k n lv pc st) : V p l e R s m args below meth c Q G I cc own nL ret ws k n lv pc st := h ▸ kk
theorem v_locals {lv' : List (Nat × Value)} (ks : List Nat) (h : lv_pick lv ks = lv') (kk : V p l e R s m args below meth c Q G I cc own nL ret ws k n lv' pc st) : V p l e R s m args below meth c Q G I cc own nL ret ws k n lv pc st := fun C H locs ls hP hI hl => kk C H locs ls hP hI (lv_sub hl ks h)
theorem v_get {a index ci k0 : Nat} {fs : List Value} {v : Value} (h : v_FL own index ci k0) (hdg : decode cc pc = .ok (.getfield index, 3)) (q0 : Nat) (he : ws[q0]? = some (a, .inr (ci, fs))) (hv : fs[k0]? = some v) (kk : V p l e R s m args below meth c Q G I cc own nL ret ws k n lv (pc + 3) (v :: st)) : V p l e R s m args below meth c Q G I cc own nL ret ws k n lv pc (.ref a :: st) := fun C H locs ls hP hI hl => by
  obtain ⟨Cn, T, N, ty, h1, h2, -, -, h5, h6⟩ := h
  exact va_get C.1 C.2.1 C.2.2.2.2.1 h2 C.2.2.2.1 C.2.2.2.2.2.1.1 hP q0 he h1 k0 h5 (C.2.2.2.2.1 _ h6) (fun _ h9 => h9) hv hdg (kk C H locs ls hP hI hl)
theorem v_puti {A : Nat → Prop} {a index ci k0 : Nat} {fs : List Value} {x : Int32} {ws' : va_W} (h : v_FP own index ci k0) (hdg : decode cc pc = .ok (.putfield index, 3)) (q0 : Nat) (he : ws[q0]? = some (a, .inr (ci, fs))) (hl0 : k0 < fs.length) (hw : ws.set q0 (a, .inr (ci, fs.set k0 (.int x))) = ws')
    (kk : V p l e R s m args below meth c Q G (v_Iw A s) cc own nL ret ws' k n lv (pc + 3) st) : V p l e R s m args below meth c Q G (v_Iw A s) cc own nL ret ws k n lv pc (.int x :: .ref a :: st) := fun C H locs ls hP hI hl => by
  obtain ⟨Cn, T, N, ty, h1, h2, h3, h4, h5, h6, h7, h8⟩ := h
  subst hw
  exact va_put C.1 C.2.1 C.2.2.2.2.1 h2 ty h3 h4 C.2.2.2.1 C.2.2.2.2.2.1.1 hP hI.1 hI.2 q0 he h1 k0 h5 (C.2.2.2.2.1 _ h6) (fun _ h9 => h9) h7 h8 rfl rfl hl0 hdg (fun H1 locs1 hP1 hD1 hS1 => kk C H1 locs1 ls hP1 ⟨hD1, hS1⟩ hl)
theorem v_iald {a N : Nat} {f : Nat → Int32} {i : Int32} (hdg : decode cc pc = .ok (.iaload, 1)) (q0 : Nat) (he : ws[q0]? = some (a, .inl (G.2.1, N, .inl f))) (j : Nat) (hi : i = nI j) (hj : j < N) (hN : N < 2 ^ 31) (kk : V p l e R s m args below meth c Q G I cc own nL ret ws k n lv (pc + 1) (.int (f j) :: st)) : V p l e R s m args below meth c Q G I cc own nL ret ws k n lv pc (.int i :: .ref a :: st) := fun C H locs ls hP hI hl => by
  subst hi
  refine va_iald C.1 C.2.1 C.2.2.2.2.2.1.1 hP q0 0 he rfl (vp_in_nI hj hN) hdg ?_
  rw [nI_clamp (Nat.lt_trans hj hN)]
  exact kk C H locs ls hP hI hl
theorem v_iast {A : Nat → Prop} {a N : Nat} {f : Nat → Int32} {i x : Int32} {ws' : va_W} (hdg : decode cc pc = .ok (.iastore, 1)) (q0 : Nat) (he : ws[q0]? = some (a, .inl (G.2.1, N, .inl f))) (j : Nat) (hi : i = nI j) (hj : j < N) (hN : N < 2 ^ 31) (hw : ws.set q0 (a, .inl (G.2.1, N, .inl (upd f j x))) = ws')
    (kk : V p l e R s m args below meth c Q G (v_Iw A s) cc own nL ret ws' k n lv (pc + 1) st) : V p l e R s m args below meth c Q G (v_Iw A s) cc own nL ret ws k n lv pc (.int x :: .int i :: .ref a :: st) := fun C H locs ls hP hI hl => by
  subst hi
  subst hw
  refine va_iast C.1 C.2.1 C.2.2.2.2.2.1.1 hP hI.1 hI.2 q0 0 he rfl (vp_in_nI hj hN) hdg (fun H1 locs1 hP1 hD1 hS1 => ?_)
  rw [nI_clamp (Nat.lt_trans hj hN)] at hP1 hD1
  exact kk C H1 locs1 ls hP1 ⟨hD1, hS1⟩ hl
theorem v_aald {a N x : Nat} {f : Nat → Option Nat} {i : Int32} (hdg : decode cc pc = .ok (.aaload, 1)) (q0 : Nat) (he : ws[q0]? = some (a, .inl (G.2.2, N, .inr (.inr (.inr (.inr f)))))) (j : Nat) (hi : i = nI j) (hj : j < N) (hN : N < 2 ^ 31) (hf : f j = some x) (kk : V p l e R s m args below meth c Q G I cc own nL ret ws k n lv (pc + 1) (.ref x :: st)) : V p l e R s m args below meth c Q G I cc own nL ret ws k n lv pc (.int i :: .ref a :: st) := fun C H locs ls hP hI hl => by
  subst hi
  refine va_aldq C.1 C.2.1 C.2.2.2.2.2.1.1 hP q0 1 he rfl (vp_in_nI hj hN) hdg ?_
  rw [nI_clamp (Nat.lt_trans hj hN), hf]
  exact kk C H locs ls hP hI hl
/-- Math.max and Math.min of the JDK, by the kit's own rows -/
def v_LM (own : String) (index : Nat) (y : MethodName) (cd : ByteArray) : Prop := Cond.methodLink own index y ∈ tbG ∧ Cond.static y ∈ tbG ∧ Cond.initialized "java/lang/Math" ∈ tbG ∧ Cond.code y cd 2 (some .int) ∈ tbG
theorem v_mmax {index : Nat} {x y : Int32} (h : v_LM own index Lib.Math.max.name Lib.Math.max.code) (hdg : decode cc pc = .ok (.invokestatic index, 3)) (hR : 1 ≤ R.frames ∧ (st.map fun v => v.category).sum + 13 ≤ R.locals ∧ k ≤ R.cells ∧ n ≤ R.slots) (kk : V p l e R s m args below meth c Q G I cc own nL ret ws k n lv (pc + 3) (.int (if x < y then y else x) :: st)) : V p l e R s m args below meth c Q G I cc own nL ret ws k n lv pc (.int y :: .int x :: st) := fun C H locs ls hP hI hl =>
  va_mmax C.1 C.2.1 (C.2.2.1.trans hl.1.symm) C.2.2.2.1 (C.2.2.2.2.1 _ h.1) (C.2.2.2.2.1 _ h.2.1) (C.2.2.2.2.1 _ h.2.2.1) (C.2.2.2.2.1 _ h.2.2.2) hR.1 hR.2.1 hR.2.2.1 hR.2.2.2 hdg (kk C H locs ls hP hI hl)
theorem v_mmin {index : Nat} {x y : Int32} (h : v_LM own index Lib.Math.min.name Lib.Math.min.code) (hdg : decode cc pc = .ok (.invokestatic index, 3)) (hR : 1 ≤ R.frames ∧ (st.map fun v => v.category).sum + 13 ≤ R.locals ∧ k ≤ R.cells ∧ n ≤ R.slots) (kk : V p l e R s m args below meth c Q G I cc own nL ret ws k n lv (pc + 3) (.int (if y < x then y else x) :: st)) : V p l e R s m args below meth c Q G I cc own nL ret ws k n lv pc (.int y :: .int x :: st) := fun C H locs ls hP hI hl =>
  va_mmin C.1 C.2.1 (C.2.2.1.trans hl.1.symm) C.2.2.2.1 (C.2.2.2.2.1 _ h.1) (C.2.2.2.2.1 _ h.2.1) (C.2.2.2.2.1 _ h.2.2.1) (C.2.2.2.2.1 _ h.2.2.2) hR.1 hR.2.1 hR.2.2.1 hR.2.2.2 hdg (kk C H locs ls hP hI hl)
/-! ends -/
theorem v_iretR {r v : Int32} (hdg : decode cc pc = .ok (.ireturn, 1)) (hr : v = r) : V p l e R s m args below meth c (MQ below (vp_Si (fun x => x = r)) args s k n (fun _ => False)) G (v_Ir s) cc own nL (some .int) ws k n lv pc [.int v] := fun C H locs ls hP hI hl =>
  W.iret (hlocks := C.2.2.2.2.2.2.1) C.1 C.2.1 C.2.2.2.2.2.2.2 (fun t ht _ => ⟨v, rfl, hr, ht.trans hI.1⟩) (fun q hq => by rw [hI.2] at hq; cases hq) hdg
theorem v_zretR {r v : Int32} (hdg : decode cc pc = .ok (.ireturn, 1)) (hr : v = r) (hn : narrow .boolean (.int v) = .int v) : V p l e R s m args below meth c (MQ below (vp_Si (fun x => x = r)) args s k n (fun _ => False)) G (v_Ir s) cc own nL (some .boolean) ws k n lv pc [.int v] := fun C H locs ls hP hI hl =>
  W.zret (hlocks := C.2.2.2.2.2.2.1) C.1 C.2.1 C.2.2.2.2.2.2.2 hn (fun t ht _ => ⟨v, rfl, hr, ht.trans hI.1⟩) (fun q hq => by rw [hI.2] at hq; cases hq) hdg
theorem v_iretM {r v : Int32} {w w1 : va_W} (hdg : decode cc pc = .ok (.ireturn, 1)) (hr : v = r) (hw : ws = w1) : V p l e R s m args below meth c (MQ below (v_Qi G r w w1) args s k n (v_in w)) G (v_Iw (v_in w) s) cc own nL (some .int) ws k n lv pc [.int v] := fun C H locs ls hP hI hl =>
  W.iret (hlocks := C.2.2.2.2.2.2.1) C.1 C.2.1 C.2.2.2.2.2.2.2 (fun t ht _ => ⟨by rw [hr], by rw [ht, ← hw]; exact hP, hI.2.F ht⟩) hI.2.2.2 hdg
theorem v_vretM {w w1 : va_W} (hdg : decode cc pc = .ok (.return_, 1)) (hw : ws = w1) : V p l e R s m args below meth c (MQ below (v_Qv G w w1) args s k n (v_in w)) G (v_Iw (v_in w) s) cc own nL none ws k n lv pc [] := fun C H locs ls hP hI hl =>
  W.vret (hlocks := C.2.2.2.2.2.2.1) C.1 C.2.1 C.2.2.2.2.2.2.2 (fun t ht _ => ⟨rfl, by rw [ht, ← hw]; exact hP, hI.2.F ht⟩) hI.2.2.2 hdg
end VR
/-! entries -/
theorem RdI.of {l : Launch} {G : v_Cfg} {y : MethodName} {cc : ByteArray} {nL : Nat} {ret : Option FieldType} {d : Nat} {av : List Value} {w : va_W} {r : Int32} {own : String} (hy : plainName y.cls = true) (ho : y.cls = own) (hn : (lg_sl av).length ≤ nL)
    (body : ∀ (p : Program) (e : Env) (s : State) (m : MethodId) (below : List Frame) (meth : Method) (c : Code), V p l e (rmk d) s m av.toArray below meth c (MQ below (vp_Si (fun x => x = r)) av.toArray s 0 0 (fun _ => False)) G (v_Ir s) cc own nL ret w 0 0 (lv_args 0 av) 0 []) : RdI l G y cc nL ret d av w r := by
  subst ho
  refine Met.ofW (cc := cc) (maxL := nL) (ret := ret) hy rfl ?_
  intro p e s m args below meth c s₁ B hml hv
  obtain ⟨rfl, hP, hK⟩ := hv
  have hts := atoms_spec (ws := v_ws y cc nL ret) B.pre
  rw [lg_entry_eq]
  exact body p e s m below meth c ⟨B.exec, B.bytes, hml, findClass_of_methodNamed B.named, fun w hw => hts w (List.mem_cons_of_mem _ hw), hK, B.notSynchronized, B.returns⟩ _ _ _ hP ⟨rfl, rfl⟩ (lv_entry av hn)
theorem v_selfD {w : va_W} (h : va_D (fun _ => True) w) : va_D (v_in w) w := ⟨h.1, fun k q hk => ⟨k, q.2, hk⟩⟩
theorem MuI.of {l : Launch} {G : v_Cfg} {y : MethodName} {cc : ByteArray} {nL : Nat} {ret : Option FieldType} {d : Nat} {av : List Value} {w w1 : va_W} {r : Int32} {own : String} (hy : plainName y.cls = true) (ho : y.cls = own) (hn : (lg_sl av).length ≤ nL)
    (body : ∀ (p : Program) (e : Env) (s : State) (m : MethodId) (below : List Frame) (meth : Method) (c : Code), V p l e (rmk d) s m av.toArray below meth c (MQ below (v_Qi G r w w1) av.toArray s 0 0 (v_in w)) G (v_Iw (v_in w) s) cc own nL ret w 0 0 (lv_args 0 av) 0 []) : MuI l G y cc nL ret d av w w1 r := by
  subst ho
  refine Met.ofW (cc := cc) (maxL := nL) (ret := ret) hy rfl ?_
  intro p e s m args below meth c s₁ B hml hv
  obtain ⟨rfl, hP, hD, hK⟩ := hv
  have hts := atoms_spec (ws := v_ws y cc nL ret) B.pre
  rw [lg_entry_eq]
  exact body p e s m below meth c ⟨B.exec, B.bytes, hml, findClass_of_methodNamed B.named, fun w hw => hts w (List.mem_cons_of_mem _ hw), hK, B.notSynchronized, B.returns⟩ _ _ _ hP ⟨v_selfD hD, va_S.rf⟩ (lv_entry av hn)
theorem MuV.of {l : Launch} {G : v_Cfg} {y : MethodName} {cc : ByteArray} {nL : Nat} {ret : Option FieldType} {d : Nat} {av : List Value} {w w1 : va_W} {own : String} (hy : plainName y.cls = true) (ho : y.cls = own) (hn : (lg_sl av).length ≤ nL)
    (body : ∀ (p : Program) (e : Env) (s : State) (m : MethodId) (below : List Frame) (meth : Method) (c : Code), V p l e (rmk d) s m av.toArray below meth c (MQ below (v_Qv G w w1) av.toArray s 0 0 (v_in w)) G (v_Iw (v_in w) s) cc own nL ret w 0 0 (lv_args 0 av) 0 []) : MuV l G y cc nL ret d av w w1 := by
  subst ho
  refine Met.ofW (cc := cc) (maxL := nL) (ret := ret) hy rfl ?_
  intro p e s m args below meth c s₁ B hml hv
  obtain ⟨rfl, hP, hD, hK⟩ := hv
  have hts := atoms_spec (ws := v_ws y cc nL ret) B.pre
  rw [lg_entry_eq]
  exact body p e s m below meth c ⟨B.exec, B.bytes, hml, findClass_of_methodNamed B.named, fun w hw => hts w (List.mem_cons_of_mem _ hw), hK, B.notSynchronized, B.returns⟩ _ _ _ hP ⟨v_selfD hD, va_S.rf⟩ (lv_entry av hn)
/-! calls -/
section VC
variable {p : Program} {l : Launch} {e : Env} {R : Room} {s : State} {m : MethodId} {args : Array Value} {below : List Frame} {meth : Method} {c : Code} {Q : State → Prop} {G : v_Cfg} {I : va_W → Heap → List Loc → Prop} {cc : ByteArray} {own : String} {nL : Nat} {ret : Option FieldType} {ws : va_W} {k n : Nat} {lv : List (Nat × Value)} {pc : Nat} {st : List Value}
theorem v_rdW {H : Heap} {locs : List Loc} {ls : Array Slot} {a : Array Value} {rest st0 : List Value} {r : Int32} (hr : va_Run p l e R s m args below meth c H locs k n 0 0 (F0 m pc ls st0) rest (vp_Si (fun x => x = r) a) (fun _ => False)) (kk : W p l e R s m args below meth c H locs k n Q (F0 m (pc + 3) ls (.int r :: rest))) : W p l e R s m args below meth c H locs k n Q (F0 m pc ls st0) := by
  intro T hT X
  obtain ⟨v, st₀, t, T', L, h0, X', hL, e1, e2, ⟨r', hv, hp, hh⟩, st⟩ := hr T hT X
  cases hv
  subst hp
  obtain ⟨t2, a1, b1⟩ := kk T' (by rw [e1, hh, h0]) (Stand.forget X' (fun q h => (hL q h).elim))
  exact ⟨t2, st t2 a1, b1⟩
theorem v_aft {H : Heap} {locs L : List Loc} {t : State} {T' : State} {A : Nat → Prop} {w : va_W} (e1 : T'.heap = t.heap) (hS : va_S A s.heap H locs) (hin : ∀ q, v_in w q → A q) (hz : H.size ≤ t.heap.size) (hk : ∀ q : Nat, q < H.size → ¬ v_in w q → t.heap[q]? = H[q]?) (hL : ∀ q ∈ L, v_in w q.base) : va_S A s.heap T'.heap (locs ++ L) :=
  ⟨Nat.le_trans hS.1 (by rw [e1]; exact hz), fun q h1 h2 => by rw [e1, hk q (Nat.lt_of_lt_of_le h1 hS.1) (fun z => h2 (hin q z))]; exact hS.2.1 q h1 h2, fun q hq => (List.mem_append.mp hq).elim (hS.2.2 q) (fun h => hin _ (hL q h))⟩
theorem v_muiW {H : Heap} {locs : List Loc} {ls : Array Slot} {a : Array Value} {rest st0 : List Value} {r : Int32} {A : Nat → Prop} {w w1 : va_W} (hr : va_Run p l e R s m args below meth c H locs k n 0 0 (F0 m pc ls st0) rest (v_Qi G r w w1 a) (v_in w)) (hin : ∀ q, v_in w q → A q) (hS : va_S A s.heap H locs)
    (kk : ∀ (H1 : Heap) (locs1 : List Loc), va_P G.1 vwCl w1 H1 → (∀ q : Nat, q < H.size → ¬ v_in w q → H1[q]? = H[q]?) → va_S A s.heap H1 locs1 → W p l e R s m args below meth c H1 locs1 k n Q (F0 m (pc + 3) ls (.int r :: rest))) : W p l e R s m args below meth c H locs k n Q (F0 m pc ls st0) := by
  intro T hT X
  obtain ⟨v, st₀, t, T', L, h0, X', hL, e1, e2, ⟨ho, hp, hz, hk⟩, st⟩ := hr T hT X
  cases ho
  rw [h0] at hz hk
  obtain ⟨t2, a1, b1⟩ := kk T'.heap (locs ++ L) (by rw [e1]; exact hp) (fun q h1 h2 => by rw [e1]; exact hk q h1 h2) (v_aft e1 hS hin hz hk hL) T' rfl X'
  exact ⟨t2, st t2 a1, b1⟩
theorem v_muvW {H : Heap} {locs : List Loc} {ls : Array Slot} {a : Array Value} {rest st0 : List Value} {A : Nat → Prop} {w w1 : va_W} (hr : va_Run p l e R s m args below meth c H locs k n 0 0 (F0 m pc ls st0) rest (v_Qv G w w1 a) (v_in w)) (hin : ∀ q, v_in w q → A q) (hS : va_S A s.heap H locs)
    (kk : ∀ (H1 : Heap) (locs1 : List Loc), va_P G.1 vwCl w1 H1 → (∀ q : Nat, q < H.size → ¬ v_in w q → H1[q]? = H[q]?) → va_S A s.heap H1 locs1 → W p l e R s m args below meth c H1 locs1 k n Q (F0 m (pc + 3) ls rest)) : W p l e R s m args below meth c H locs k n Q (F0 m pc ls st0) := by
  intro T hT X
  obtain ⟨v, st₀, t, T', L, h0, X', hL, e1, e2, ⟨ho, hp, hz, hk⟩, st⟩ := hr T hT X
  cases ho
  rw [h0] at hz hk
  obtain ⟨t2, a1, b1⟩ := kk T'.heap (locs ++ L) (by rw [e1]; exact hp) (fun q h1 h2 => by rw [e1]; exact hk q h1 h2) (v_aft e1 hS hin hz hk hL) T' rfl X'
  exact ⟨t2, st t2 a1, b1⟩
theorem v_part {D : va_G} {cl : List vw_C} {H : Heap} {wc : va_W} (hP : va_P D cl ws H) (isC : List Nat) (hC : isC.map (fun i => ws[i]?) = wc.map some) : va_P D cl wc H := fun k q hk => by
  obtain ⟨i, -, hi⟩ := va_in_of isC hC hk
  exact hP i q hi
theorem v_inA {A : Nat → Prop} {wc : va_W} (hD : va_D A ws) (isC : List Nat) (hC : isC.map (fun i => ws[i]?) = wc.map some) : ∀ q, v_in wc q → A q := fun q ⟨k, e, hk⟩ => by
  obtain ⟨i, -, hi⟩ := va_in_of isC hC hk
  exact hD.2 i (q, e) hi
theorem v_blr (G : v_Cfg) (av : List Value) (w : va_W) : FrameBlind (v_Pr G av w) := fun _ _ _ _ q => ⟨q.1, q.2.1, xK.same rfl q.2.2⟩
theorem v_blm (G : v_Cfg) (av : List Value) (w : va_W) : FrameBlind (v_Pm G av w) := fun _ _ _ _ q => ⟨q.1, q.2.1, q.2.2.1, xK.same rfl q.2.2.2⟩
variable {y : MethodName} {ycc : ByteArray} {yn : Nat} {yret : Option FieldType} {d na index : Nat}
theorem v_cw (hts : ∀ w ∈ tbG, w.before args s = true) (hY : v_Y y ycc yn yret na) (hL : v_LV own index y) (hR : (rmk d).frames + 1 ≤ R.frames ∧ 8 + (yn + 11) + (rmk d).locals ≤ R.locals) : CallW R s args own y.cls index y ycc yn yret (v_ws y ycc yn yret) (rmk d) 0 0 na :=
  ⟨callB_of na hts (v_goodIn hY.1) rfl rfl rfl (hts _ hY.2.1) (hts _ hL.1) ⟨hY.2.2.1, hY.2.2.2.1, hY.2.2.2.2⟩ hR, hts _ hL.2.1, hts _ hL.2.2⟩
theorem v_cs (hts : ∀ w ∈ tbG, w.before args s = true) (hY : v_Y y ycc yn yret na) (hL : v_LS own index y) (hR : (rmk d).frames + 1 ≤ R.frames ∧ 8 + (yn + 11) + (rmk d).locals ≤ R.locals) : CallB R s args own index y ycc yn yret (v_ws y ycc yn yret) (rmk d) 0 0 na ∧ (Cond.static y).before args s = true :=
  ⟨callB_of na hts (v_goodIn hY.1) rfl rfl rfl (hts _ hY.2.1) (hts _ hL.1) ⟨hY.2.2.1, hY.2.2.2.1, hY.2.2.2.2⟩ hR, hts _ hL.2⟩
def v_ci (ci : Nat) (C : String) : Prop := ∃ q : vw_C, vwCl[ci]? = some q ∧ q.1 = C
theorem v_rcv {H : Heap} {b q0 ci : Nat} {fs : List Value} {C : String} (hK : xK G s) (hP : va_P G.1 vwCl ws H) (hci : v_ci ci C) (he : ws[q0]? = some (b, .inr (ci, fs))) : ∃ cellB : Cell, H[b]? = some cellB ∧ cellB.vm.isStatics = false ∧ s.vm.findClass C = some cellB.cls := by
  obtain ⟨q, h1, rfl⟩ := hci
  exact va_recv hK.1 hP h1 he
theorem v_vRd {b ci : Nat} {fs : List Value} {As rest : List Value} {wc : va_W} {r : Int32} (hM : RdI l G y ycc yn yret d (.ref b :: As) wc r) (hY : v_Y y ycc yn yret na) (hL : v_LV own index y) (hdg : decode cc pc = .ok (.invokevirtual index, 3)) (hci : v_ci ci y.cls) (q0 : Nat) (he : ws[q0]? = some (b, .inr (ci, fs))) (isC : List Nat) (hC : isC.map (fun i => ws[i]?) = wc.map some) (hn : As.length = na) (hst : st = As.reverse ++ .ref b :: rest) (hW : (rest.map fun v => v.category).sum ≤ 8) (hR : (rmk d).frames + 1 ≤ R.frames ∧ 8 + (yn + 11) + (rmk d).locals ≤ R.locals) (hf : k ≤ R.cells ∧ n ≤ R.slots)
    (kk : V p l e R s m args below meth c Q G I cc own nL ret ws k n lv (pc + 3) (.int r :: rest)) : V p l e R s m args below meth c Q G I cc own nL ret ws k n lv pc st := fun C H locs ls hP hI hl => by
  subst hst
  exact v_rdW (va_runV (As := As) (rest := rest) ⟨C.1, C.2.1, C.2.2.1, C.2.2.2.1, C.2.2.2.2.1⟩ hM (v_cw C.2.2.2.2.1 hY hL hR) ⟨v_blr _ _ _, v_rcv C.2.2.2.2.2.1 hP hci he, fun U hU hW => ⟨rfl, by rw [hU]; exact v_part hP isC hC, xK.warm hW C.2.2.2.2.2.1⟩⟩ rfl hn hl.1 rfl (lv_room hW) hdg hf) (kk C H locs ls hP hI hl)
theorem v_sRd {As rest : List Value} {wc : va_W} {r : Int32} (hM : RdI l G y ycc yn yret d As wc r) (hY : v_Y y ycc yn yret na) (hL : v_LS own index y) (hdg : decode cc pc = .ok (.invokestatic index, 3)) (isC : List Nat) (hC : isC.map (fun i => ws[i]?) = wc.map some) (hn : As.length = na) (hst : st = As.reverse ++ rest) (hW : (rest.map fun v => v.category).sum ≤ 8) (hR : (rmk d).frames + 1 ≤ R.frames ∧ 8 + (yn + 11) + (rmk d).locals ≤ R.locals) (hf : k ≤ R.cells ∧ n ≤ R.slots)
    (kk : V p l e R s m args below meth c Q G I cc own nL ret ws k n lv (pc + 3) (.int r :: rest)) : V p l e R s m args below meth c Q G I cc own nL ret ws k n lv pc st := fun C H locs ls hP hI hl => by
  subst hst
  exact v_rdW (va_runS (As := As) (rest := rest) ⟨C.1, C.2.1, C.2.2.1, C.2.2.2.1, C.2.2.2.2.1⟩ hM (v_cs C.2.2.2.2.1 hY hL hR) ⟨v_blr _ _ _, fun U hU hW => ⟨rfl, by rw [hU]; exact v_part hP isC hC, xK.warm hW C.2.2.2.2.2.1⟩⟩ rfl hn hl.1 rfl (lv_room hW) hdg hf) (kk C H locs ls hP hI hl)
/-- a private static method of the nest's host, called from a class inside -/
theorem v_nRd {As rest : List Value} {wc : va_W} {r : Int32} {host : String} (hM : RdI l G y ycc yn yret d As wc r) (hY : v_Y y ycc yn yret na) (hS : Cond.static y ∈ tbG) (hL : xK G s → va_Nw (.methodLinkNest own index y host) s) (hdg : decode cc pc = .ok (.invokestatic index, 3)) (isC : List Nat) (hC : isC.map (fun i => ws[i]?) = wc.map some) (hn : As.length = na) (hst : st = As.reverse ++ rest) (hW : (rest.map fun v => v.category).sum ≤ 8) (hR : (rmk d).frames + 1 ≤ R.frames ∧ 8 + (yn + 11) + (rmk d).locals ≤ R.locals) (hf : k ≤ R.cells ∧ n ≤ R.slots)
    (kk : V p l e R s m args below meth c Q G I cc own nL ret ws k n lv (pc + 3) (.int r :: rest)) : V p l e R s m args below meth c Q G I cc own nL ret ws k n lv pc st := fun C H locs ls hP hI hl => by
  subst hst
  exact v_rdW (va_runSN (As := As) (rest := rest) ⟨C.1, C.2.1, C.2.2.1, C.2.2.2.1, C.2.2.2.2.1⟩ hM ⟨va_cnB na C.2.2.2.2.1 (v_goodIn hY.1) rfl rfl rfl (hL C.2.2.2.2.2.1) (C.2.2.2.2.1 _ hY.2.1) ⟨hY.2.2.1, hY.2.2.2.1, hY.2.2.2.2⟩ hR, C.2.2.2.2.1 _ hS, trivial⟩ ⟨v_blr _ _ _, fun U hU hW => ⟨rfl, by rw [hU]; exact v_part hP isC hC, xK.warm hW C.2.2.2.2.2.1⟩⟩ rfl hn hl.1 rfl (lv_room hW) hdg hf) (kk C H locs ls hP hI hl)
theorem v_vMi {A : Nat → Prop} {b ci : Nat} {fs : List Value} {As rest : List Value} {wc w1 ws' : va_W} {r : Int32} (hM : MuI l G y ycc yn yret d (.ref b :: As) wc w1 r) (hY : v_Y y ycc yn yret na) (hL : v_LV own index y) (hdg : decode cc pc = .ok (.invokevirtual index, 3)) (hci : v_ci ci y.cls) (q0 : Nat) (he : ws[q0]? = some (b, .inr (ci, fs))) (isC : List Nat) (hnd : va_nd isC = true) (hC : isC.map (fun i => ws[i]?) = wc.map some) (hln : isC.length = w1.length) (hws : v_put ws isC w1 = ws') (had : ws'.map Prod.fst = ws.map Prod.fst) (hn : As.length = na) (hst : st = As.reverse ++ .ref b :: rest) (hW : (rest.map fun v => v.category).sum ≤ 8) (hR : (rmk d).frames + 1 ≤ R.frames ∧ 8 + (yn + 11) + (rmk d).locals ≤ R.locals) (hf : k ≤ R.cells ∧ n ≤ R.slots)
    (kk : V p l e R s m args below meth c Q G (v_Iw A s) cc own nL ret ws' k n lv (pc + 3) (.int r :: rest)) : V p l e R s m args below meth c Q G (v_Iw A s) cc own nL ret ws k n lv pc st := fun C H locs ls hP hI hl => by
  subst hst
  subst hws
  refine v_muiW (va_runV (As := As) (rest := rest) ⟨C.1, C.2.1, C.2.2.1, C.2.2.2.1, C.2.2.2.2.1⟩ hM (v_cw C.2.2.2.2.1 hY hL hR) ⟨v_blm _ _ _, v_rcv C.2.2.2.2.2.1 hP hci he, fun U hU hW => ⟨rfl, by rw [hU]; exact v_part hP isC hC, (hI.1.sub isC hnd hC).weaken (fun _ _ _ _ => trivial), xK.warm hW C.2.2.2.2.2.1⟩⟩ rfl hn hl.1 rfl (lv_room hW) hdg hf) (v_inA hI.1 isC hC) hI.2 (fun H1 locs1 hP1 hk hS1 => ?_)
  exact kk C H1 locs1 ls (v_mixed hP hI.1 isC hC hP1 hk (v_put_src isC w1 ws hln)) ⟨hI.1.addr had, hS1⟩ hl
theorem v_vMv {A : Nat → Prop} {b ci : Nat} {fs : List Value} {As rest : List Value} {wc w1 ws' : va_W} (hM : MuV l G y ycc yn yret d (.ref b :: As) wc w1) (hY : v_Y y ycc yn yret na) (hL : v_LV own index y) (hdg : decode cc pc = .ok (.invokevirtual index, 3)) (hci : v_ci ci y.cls) (q0 : Nat) (he : ws[q0]? = some (b, .inr (ci, fs))) (isC : List Nat) (hnd : va_nd isC = true) (hC : isC.map (fun i => ws[i]?) = wc.map some) (hln : isC.length = w1.length) (hws : v_put ws isC w1 = ws') (had : ws'.map Prod.fst = ws.map Prod.fst) (hn : As.length = na) (hst : st = As.reverse ++ .ref b :: rest) (hW : (rest.map fun v => v.category).sum ≤ 8) (hR : (rmk d).frames + 1 ≤ R.frames ∧ 8 + (yn + 11) + (rmk d).locals ≤ R.locals) (hf : k ≤ R.cells ∧ n ≤ R.slots)
    (kk : V p l e R s m args below meth c Q G (v_Iw A s) cc own nL ret ws' k n lv (pc + 3) rest) : V p l e R s m args below meth c Q G (v_Iw A s) cc own nL ret ws k n lv pc st := fun C H locs ls hP hI hl => by
  subst hst
  subst hws
  refine v_muvW (va_runV (As := As) (rest := rest) ⟨C.1, C.2.1, C.2.2.1, C.2.2.2.1, C.2.2.2.2.1⟩ hM (v_cw C.2.2.2.2.1 hY hL hR) ⟨v_blm _ _ _, v_rcv C.2.2.2.2.2.1 hP hci he, fun U hU hW => ⟨rfl, by rw [hU]; exact v_part hP isC hC, (hI.1.sub isC hnd hC).weaken (fun _ _ _ _ => trivial), xK.warm hW C.2.2.2.2.2.1⟩⟩ rfl hn hl.1 rfl (lv_room hW) hdg hf) (v_inA hI.1 isC hC) hI.2 (fun H1 locs1 hP1 hk hS1 => ?_)
  exact kk C H1 locs1 ls (v_mixed hP hI.1 isC hC hP1 hk (v_put_src isC w1 ws hln)) ⟨hI.1.addr had, hS1⟩ hl
end VC
end
section
/-! ===== what the tables say: fields, methods, calls: by their places in tables_1 ===== -/
theorem inX0 : ∀ w ∈ u_ws RX0 TX0 14, w ∈ tbG := fun w h => by
  obtain ⟨k, hk, rfl⟩ := List.mem_map.mp h
  have hk2 := List.mem_range.mp hk
  match k, hk2 with
  | 0, _ => exact tb_1 (i := 138) (by decide +kernel) rfl
  | 1, _ => exact tb_1 (i := 140) (by decide +kernel) rfl
  | 2, _ => exact tb_1 (i := 142) (by decide +kernel) rfl
  | 3, _ => exact tb_1 (i := 144) (by decide +kernel) rfl
  | 4, _ => exact tb_1 (i := 146) (by decide +kernel) rfl
  | 5, _ => exact tb_1 (i := 148) (by decide +kernel) rfl
  | 6, _ => exact tb_1 (i := 150) (by decide +kernel) rfl
  | 7, _ => exact tb_1 (i := 152) (by decide +kernel) rfl
  | 8, _ => exact tb_1 (i := 154) (by decide +kernel) rfl
  | 9, _ => exact tb_1 (i := 156) (by decide +kernel) rfl
  | 10, _ => exact tb_1 (i := 158) (by decide +kernel) rfl
  | 11, _ => exact tb_1 (i := 160) (by decide +kernel) rfl
  | 12, _ => exact tb_1 (i := 162) (by decide +kernel) rfl
  | 13, _ => exact tb_1 (i := 164) (by decide +kernel) rfl
  | k + 14, h => exact absurd h (by omega)
theorem inX1 : ∀ w ∈ u_ws RX1 TX1 6, w ∈ tbG := fun w h => by
  obtain ⟨k, hk, rfl⟩ := List.mem_map.mp h
  have hk2 := List.mem_range.mp hk
  match k, hk2 with
  | 0, _ => exact tb_1 (i := 93) (by decide +kernel) rfl
  | 1, _ => exact tb_1 (i := 95) (by decide +kernel) rfl
  | 2, _ => exact tb_1 (i := 97) (by decide +kernel) rfl
  | 3, _ => exact tb_1 (i := 99) (by decide +kernel) rfl
  | 4, _ => exact tb_1 (i := 101) (by decide +kernel) rfl
  | 5, _ => exact tb_1 (i := 103) (by decide +kernel) rfl
  | k + 6, h => exact absurd h (by omega)
theorem inX2 : ∀ w ∈ u_ws RX2 TX2 11, w ∈ tbG := fun w h => by
  obtain ⟨k, hk, rfl⟩ := List.mem_map.mp h
  have hk2 := List.mem_range.mp hk
  match k, hk2 with
  | 0, _ => exact tb_1 (i := 51) (by decide +kernel) rfl
  | 1, _ => exact tb_1 (i := 53) (by decide +kernel) rfl
  | 2, _ => exact tb_1 (i := 55) (by decide +kernel) rfl
  | 3, _ => exact tb_1 (i := 57) (by decide +kernel) rfl
  | 4, _ => exact tb_1 (i := 59) (by decide +kernel) rfl
  | 5, _ => exact tb_1 (i := 61) (by decide +kernel) rfl
  | 6, _ => exact tb_1 (i := 63) (by decide +kernel) rfl
  | 7, _ => exact tb_1 (i := 65) (by decide +kernel) rfl
  | 8, _ => exact tb_1 (i := 67) (by decide +kernel) rfl
  | 9, _ => exact tb_1 (i := 69) (by decide +kernel) rfl
  | 10, _ => exact tb_1 (i := 71) (by decide +kernel) rfl
  | k + 11, h => exact absurd h (by omega)
theorem inX3 : ∀ w ∈ u_ws RX3 TX3 6, w ∈ tbG := fun w h => by
  obtain ⟨k, hk, rfl⟩ := List.mem_map.mp h
  have hk2 := List.mem_range.mp hk
  match k, hk2 with
  | 0, _ => exact tb_1 (i := 174) (by decide +kernel) rfl
  | 1, _ => exact tb_1 (i := 176) (by decide +kernel) rfl
  | 2, _ => exact tb_1 (i := 178) (by decide +kernel) rfl
  | 3, _ => exact tb_1 (i := 180) (by decide +kernel) rfl
  | 4, _ => exact tb_1 (i := 182) (by decide +kernel) rfl
  | 5, _ => exact tb_1 (i := 184) (by decide +kernel) rfl
  | k + 6, h => exact absurd h (by omega)
theorem inX4 : ∀ w ∈ u_ws RX4 TX4 29, w ∈ tbG := fun w h => by
  obtain ⟨k, hk, rfl⟩ := List.mem_map.mp h
  have hk2 := List.mem_range.mp hk
  match k, hk2 with
  | 0, _ => exact tb_2 (i := 149) (by decide +kernel) rfl
  | 1, _ => exact tb_2 (i := 151) (by decide +kernel) rfl
  | 2, _ => exact tb_2 (i := 153) (by decide +kernel) rfl
  | 3, _ => exact tb_2 (i := 155) (by decide +kernel) rfl
  | 4, _ => exact tb_2 (i := 157) (by decide +kernel) rfl
  | 5, _ => exact tb_2 (i := 159) (by decide +kernel) rfl
  | 6, _ => exact tb_2 (i := 161) (by decide +kernel) rfl
  | 7, _ => exact tb_2 (i := 163) (by decide +kernel) rfl
  | 8, _ => exact tb_2 (i := 165) (by decide +kernel) rfl
  | 9, _ => exact tb_2 (i := 167) (by decide +kernel) rfl
  | 10, _ => exact tb_2 (i := 169) (by decide +kernel) rfl
  | 11, _ => exact tb_2 (i := 171) (by decide +kernel) rfl
  | 12, _ => exact tb_2 (i := 173) (by decide +kernel) rfl
  | 13, _ => exact tb_2 (i := 175) (by decide +kernel) rfl
  | 14, _ => exact tb_2 (i := 177) (by decide +kernel) rfl
  | 15, _ => exact tb_2 (i := 179) (by decide +kernel) rfl
  | 16, _ => exact tb_2 (i := 181) (by decide +kernel) rfl
  | 17, _ => exact tb_2 (i := 183) (by decide +kernel) rfl
  | 18, _ => exact tb_2 (i := 185) (by decide +kernel) rfl
  | 19, _ => exact tb_2 (i := 187) (by decide +kernel) rfl
  | 20, _ => exact tb_2 (i := 189) (by decide +kernel) rfl
  | 21, _ => exact tb_2 (i := 191) (by decide +kernel) rfl
  | 22, _ => exact tb_2 (i := 193) (by decide +kernel) rfl
  | 23, _ => exact tb_2 (i := 195) (by decide +kernel) rfl
  | 24, _ => exact tb_2 (i := 197) (by decide +kernel) rfl
  | 25, _ => exact tb_2 (i := 199) (by decide +kernel) rfl
  | 26, _ => exact tb_2 (i := 201) (by decide +kernel) rfl
  | 27, _ => exact tb_2 (i := 203) (by decide +kernel) rfl
  | 28, _ => exact tb_2 (i := 205) (by decide +kernel) rfl
  | k + 29, h => exact absurd h (by omega)
theorem fX2_9 : v_FL RX2 9 2 0 := ⟨RX2, TX2, 11, tyX2, rfl, inX2, tyX2_ok, nmX2, by decide, tb_1 (i := 21) (by decide +kernel) rfl⟩
theorem fX0_91 : v_FL RX0 91 2 0 := ⟨RX2, TX2, 11, tyX2, rfl, inX2, tyX2_ok, nmX2, by decide, tb_1 (i := 22) (by decide +kernel) rfl⟩
theorem fX3_102 : v_FL RX3 102 2 0 := ⟨RX2, TX2, 11, tyX2, rfl, inX2, tyX2_ok, nmX2, by decide, tb_1 (i := 23) (by decide +kernel) rfl⟩
theorem fX2_15 : v_FL RX2 15 2 1 := ⟨RX2, TX2, 11, tyX2, rfl, inX2, tyX2_ok, nmX2, by decide, tb_1 (i := 24) (by decide +kernel) rfl⟩
theorem fX0_41 : v_FL RX0 41 2 1 := ⟨RX2, TX2, 11, tyX2, rfl, inX2, tyX2_ok, nmX2, by decide, tb_1 (i := 25) (by decide +kernel) rfl⟩
theorem fX3_105 : v_FL RX3 105 2 1 := ⟨RX2, TX2, 11, tyX2, rfl, inX2, tyX2_ok, nmX2, by decide, tb_1 (i := 26) (by decide +kernel) rfl⟩
theorem fX2_18 : v_FL RX2 18 2 2 := ⟨RX2, TX2, 11, tyX2, rfl, inX2, tyX2_ok, nmX2, by decide, tb_1 (i := 27) (by decide +kernel) rfl⟩
theorem fX0_94 : v_FL RX0 94 2 2 := ⟨RX2, TX2, 11, tyX2, rfl, inX2, tyX2_ok, nmX2, by decide, tb_1 (i := 28) (by decide +kernel) rfl⟩
theorem fX3_108 : v_FL RX3 108 2 2 := ⟨RX2, TX2, 11, tyX2, rfl, inX2, tyX2_ok, nmX2, by decide, tb_1 (i := 29) (by decide +kernel) rfl⟩
theorem fX2_21 : v_FL RX2 21 2 3 := ⟨RX2, TX2, 11, tyX2, rfl, inX2, tyX2_ok, nmX2, by decide, tb_1 (i := 30) (by decide +kernel) rfl⟩
theorem fX3_59 : v_FL RX3 59 2 3 := ⟨RX2, TX2, 11, tyX2, rfl, inX2, tyX2_ok, nmX2, by decide, tb_1 (i := 31) (by decide +kernel) rfl⟩
theorem fX0_100 : v_FL RX0 100 2 3 := ⟨RX2, TX2, 11, tyX2, rfl, inX2, tyX2_ok, nmX2, by decide, tb_1 (i := 32) (by decide +kernel) rfl⟩
theorem fX2_24 : v_FL RX2 24 2 4 := ⟨RX2, TX2, 11, tyX2, rfl, inX2, tyX2_ok, nmX2, by decide, tb_1 (i := 33) (by decide +kernel) rfl⟩
theorem fX3_84 : v_FL RX3 84 2 4 := ⟨RX2, TX2, 11, tyX2, rfl, inX2, tyX2_ok, nmX2, by decide, tb_1 (i := 34) (by decide +kernel) rfl⟩
theorem fX0_125 : v_FL RX0 125 2 4 := ⟨RX2, TX2, 11, tyX2, rfl, inX2, tyX2_ok, nmX2, by decide, tb_1 (i := 35) (by decide +kernel) rfl⟩
theorem fX2_34 : v_FL RX2 34 2 5 := ⟨RX2, TX2, 11, tyX2, rfl, inX2, tyX2_ok, nmX2, by decide, tb_1 (i := 36) (by decide +kernel) rfl⟩
theorem pX2_34 : v_FP RX2 34 2 5 := ⟨RX2, TX2, 11, tyX2, rfl, inX2, tyX2_ok, nmX2, by decide, tb_1 (i := 36) (by decide +kernel) rfl, rfl, by decide +kernel⟩
theorem fX3_40 : v_FL RX3 40 2 5 := ⟨RX2, TX2, 11, tyX2, rfl, inX2, tyX2_ok, nmX2, by decide, tb_1 (i := 37) (by decide +kernel) rfl⟩
theorem pX3_40 : v_FP RX3 40 2 5 := ⟨RX2, TX2, 11, tyX2, rfl, inX2, tyX2_ok, nmX2, by decide, tb_1 (i := 37) (by decide +kernel) rfl, rfl, by decide +kernel⟩
theorem fX0_62 : v_FL RX0 62 2 5 := ⟨RX2, TX2, 11, tyX2, rfl, inX2, tyX2_ok, nmX2, by decide, tb_1 (i := 38) (by decide +kernel) rfl⟩
theorem pX0_62 : v_FP RX0 62 2 5 := ⟨RX2, TX2, 11, tyX2, rfl, inX2, tyX2_ok, nmX2, by decide, tb_1 (i := 38) (by decide +kernel) rfl, rfl, by decide +kernel⟩
theorem fX2_27 : v_FL RX2 27 2 6 := ⟨RX2, TX2, 11, tyX2, rfl, inX2, tyX2_ok, nmX2, by decide, tb_1 (i := 39) (by decide +kernel) rfl⟩
theorem pX2_27 : v_FP RX2 27 2 6 := ⟨RX2, TX2, 11, tyX2, rfl, inX2, tyX2_ok, nmX2, by decide, tb_1 (i := 39) (by decide +kernel) rfl, rfl, by decide +kernel⟩
theorem fX0_56 : v_FL RX0 56 2 6 := ⟨RX2, TX2, 11, tyX2, rfl, inX2, tyX2_ok, nmX2, by decide, tb_1 (i := 40) (by decide +kernel) rfl⟩
theorem pX0_56 : v_FP RX0 56 2 6 := ⟨RX2, TX2, 11, tyX2, rfl, inX2, tyX2_ok, nmX2, by decide, tb_1 (i := 40) (by decide +kernel) rfl, rfl, by decide +kernel⟩
theorem fX3_63 : v_FL RX3 63 2 6 := ⟨RX2, TX2, 11, tyX2, rfl, inX2, tyX2_ok, nmX2, by decide, tb_1 (i := 41) (by decide +kernel) rfl⟩
theorem pX3_63 : v_FP RX3 63 2 6 := ⟨RX2, TX2, 11, tyX2, rfl, inX2, tyX2_ok, nmX2, by decide, tb_1 (i := 41) (by decide +kernel) rfl, rfl, by decide +kernel⟩
theorem fX2_31 : v_FL RX2 31 2 7 := ⟨RX2, TX2, 11, tyX2, rfl, inX2, tyX2_ok, nmX2, by decide, tb_1 (i := 42) (by decide +kernel) rfl⟩
theorem pX2_31 : v_FP RX2 31 2 7 := ⟨RX2, TX2, 11, tyX2, rfl, inX2, tyX2_ok, nmX2, by decide, tb_1 (i := 42) (by decide +kernel) rfl, rfl, by decide +kernel⟩
theorem fX3_66 : v_FL RX3 66 2 7 := ⟨RX2, TX2, 11, tyX2, rfl, inX2, tyX2_ok, nmX2, by decide, tb_1 (i := 43) (by decide +kernel) rfl⟩
theorem pX3_66 : v_FP RX3 66 2 7 := ⟨RX2, TX2, 11, tyX2, rfl, inX2, tyX2_ok, nmX2, by decide, tb_1 (i := 43) (by decide +kernel) rfl, rfl, by decide +kernel⟩
theorem fX0_122 : v_FL RX0 122 2 7 := ⟨RX2, TX2, 11, tyX2, rfl, inX2, tyX2_ok, nmX2, by decide, tb_1 (i := 44) (by decide +kernel) rfl⟩
theorem pX0_122 : v_FP RX0 122 2 7 := ⟨RX2, TX2, 11, tyX2, rfl, inX2, tyX2_ok, nmX2, by decide, tb_1 (i := 44) (by decide +kernel) rfl, rfl, by decide +kernel⟩
theorem fX2_51 : v_FL RX2 51 2 8 := ⟨RX2, TX2, 11, tyX2, rfl, inX2, tyX2_ok, nmX2, by decide, tb_1 (i := 45) (by decide +kernel) rfl⟩
theorem pX2_51 : v_FP RX2 51 2 8 := ⟨RX2, TX2, 11, tyX2, rfl, inX2, tyX2_ok, nmX2, by decide, tb_1 (i := 45) (by decide +kernel) rfl, rfl, by decide +kernel⟩
theorem fX3_87 : v_FL RX3 87 2 8 := ⟨RX2, TX2, 11, tyX2, rfl, inX2, tyX2_ok, nmX2, by decide, tb_1 (i := 46) (by decide +kernel) rfl⟩
theorem pX3_87 : v_FP RX3 87 2 8 := ⟨RX2, TX2, 11, tyX2, rfl, inX2, tyX2_ok, nmX2, by decide, tb_1 (i := 46) (by decide +kernel) rfl, rfl, by decide +kernel⟩
theorem fX2_45 : v_FL RX2 45 2 9 := ⟨RX2, TX2, 11, tyX2, rfl, inX2, tyX2_ok, nmX2, by decide, tb_1 (i := 47) (by decide +kernel) rfl⟩
theorem pX2_45 : v_FP RX2 45 2 9 := ⟨RX2, TX2, 11, tyX2, rfl, inX2, tyX2_ok, nmX2, by decide, tb_1 (i := 47) (by decide +kernel) rfl, rfl, by decide +kernel⟩
theorem fX3_90 : v_FL RX3 90 2 9 := ⟨RX2, TX2, 11, tyX2, rfl, inX2, tyX2_ok, nmX2, by decide, tb_1 (i := 48) (by decide +kernel) rfl⟩
theorem pX3_90 : v_FP RX3 90 2 9 := ⟨RX2, TX2, 11, tyX2, rfl, inX2, tyX2_ok, nmX2, by decide, tb_1 (i := 48) (by decide +kernel) rfl, rfl, by decide +kernel⟩
theorem fX2_48 : v_FL RX2 48 2 10 := ⟨RX2, TX2, 11, tyX2, rfl, inX2, tyX2_ok, nmX2, by decide, tb_1 (i := 49) (by decide +kernel) rfl⟩
theorem pX2_48 : v_FP RX2 48 2 10 := ⟨RX2, TX2, 11, tyX2, rfl, inX2, tyX2_ok, nmX2, by decide, tb_1 (i := 49) (by decide +kernel) rfl, rfl, by decide +kernel⟩
theorem fX3_93 : v_FL RX3 93 2 10 := ⟨RX2, TX2, 11, tyX2, rfl, inX2, tyX2_ok, nmX2, by decide, tb_1 (i := 50) (by decide +kernel) rfl⟩
theorem pX3_93 : v_FP RX3 93 2 10 := ⟨RX2, TX2, 11, tyX2, rfl, inX2, tyX2_ok, nmX2, by decide, tb_1 (i := 50) (by decide +kernel) rfl, rfl, by decide +kernel⟩
theorem fX1_9 : v_FL RX1 9 1 0 := ⟨RX1, TX1, 6, tyX1, rfl, inX1, tyX1_ok, nmX1, by decide, tb_1 (i := 81) (by decide +kernel) rfl⟩
theorem fX3_153 : v_FL RX3 153 1 0 := ⟨RX1, TX1, 6, tyX1, rfl, inX1, tyX1_ok, nmX1, by decide, tb_1 (i := 82) (by decide +kernel) rfl⟩
theorem fX1_15 : v_FL RX1 15 1 1 := ⟨RX1, TX1, 6, tyX1, rfl, inX1, tyX1_ok, nmX1, by decide, tb_1 (i := 83) (by decide +kernel) rfl⟩
theorem fX3_156 : v_FL RX3 156 1 1 := ⟨RX1, TX1, 6, tyX1, rfl, inX1, tyX1_ok, nmX1, by decide, tb_1 (i := 84) (by decide +kernel) rfl⟩
theorem fX1_18 : v_FL RX1 18 1 2 := ⟨RX1, TX1, 6, tyX1, rfl, inX1, tyX1_ok, nmX1, by decide, tb_1 (i := 85) (by decide +kernel) rfl⟩
theorem fX3_159 : v_FL RX3 159 1 2 := ⟨RX1, TX1, 6, tyX1, rfl, inX1, tyX1_ok, nmX1, by decide, tb_1 (i := 86) (by decide +kernel) rfl⟩
theorem fX1_21 : v_FL RX1 21 1 3 := ⟨RX1, TX1, 6, tyX1, rfl, inX1, tyX1_ok, nmX1, by decide, tb_1 (i := 87) (by decide +kernel) rfl⟩
theorem fX3_166 : v_FL RX3 166 1 3 := ⟨RX1, TX1, 6, tyX1, rfl, inX1, tyX1_ok, nmX1, by decide, tb_1 (i := 88) (by decide +kernel) rfl⟩
theorem fX1_32 : v_FL RX1 32 1 4 := ⟨RX1, TX1, 6, tyX1, rfl, inX1, tyX1_ok, nmX1, by decide, tb_1 (i := 89) (by decide +kernel) rfl⟩
theorem pX1_32 : v_FP RX1 32 1 4 := ⟨RX1, TX1, 6, tyX1, rfl, inX1, tyX1_ok, nmX1, by decide, tb_1 (i := 89) (by decide +kernel) rfl, rfl, by decide +kernel⟩
theorem fX3_150 : v_FL RX3 150 1 4 := ⟨RX1, TX1, 6, tyX1, rfl, inX1, tyX1_ok, nmX1, by decide, tb_1 (i := 90) (by decide +kernel) rfl⟩
theorem pX3_150 : v_FP RX3 150 1 4 := ⟨RX1, TX1, 6, tyX1, rfl, inX1, tyX1_ok, nmX1, by decide, tb_1 (i := 90) (by decide +kernel) rfl, rfl, by decide +kernel⟩
theorem fX1_28 : v_FL RX1 28 1 5 := ⟨RX1, TX1, 6, tyX1, rfl, inX1, tyX1_ok, nmX1, by decide, tb_1 (i := 91) (by decide +kernel) rfl⟩
theorem pX1_28 : v_FP RX1 28 1 5 := ⟨RX1, TX1, 6, tyX1, rfl, inX1, tyX1_ok, nmX1, by decide, tb_1 (i := 91) (by decide +kernel) rfl, rfl, by decide +kernel⟩
theorem fX3_147 : v_FL RX3 147 1 5 := ⟨RX1, TX1, 6, tyX1, rfl, inX1, tyX1_ok, nmX1, by decide, tb_1 (i := 92) (by decide +kernel) rfl⟩
theorem pX3_147 : v_FP RX3 147 1 5 := ⟨RX1, TX1, 6, tyX1, rfl, inX1, tyX1_ok, nmX1, by decide, tb_1 (i := 92) (by decide +kernel) rfl, rfl, by decide +kernel⟩
theorem fX0_33 : v_FL RX0 33 0 0 := ⟨RX0, TX0, 14, tyX0, rfl, inX0, tyX0_ok, nmX0, by decide, tb_1 (i := 112) (by decide +kernel) rfl⟩
theorem fX0_37 : v_FL RX0 37 0 1 := ⟨RX0, TX0, 14, tyX0, rfl, inX0, tyX0_ok, nmX0, by decide, tb_1 (i := 113) (by decide +kernel) rfl⟩
theorem fX0_9 : v_FL RX0 9 0 2 := ⟨RX0, TX0, 14, tyX0, rfl, inX0, tyX0_ok, nmX0, by decide, tb_1 (i := 114) (by decide +kernel) rfl⟩
theorem fX3_73 : v_FL RX3 73 0 2 := ⟨RX0, TX0, 14, tyX0, rfl, inX0, tyX0_ok, nmX0, by decide, tb_1 (i := 115) (by decide +kernel) rfl⟩
theorem fX0_15 : v_FL RX0 15 0 3 := ⟨RX0, TX0, 14, tyX0, rfl, inX0, tyX0_ok, nmX0, by decide, tb_1 (i := 116) (by decide +kernel) rfl⟩
theorem fX3_114 : v_FL RX3 114 0 3 := ⟨RX0, TX0, 14, tyX0, rfl, inX0, tyX0_ok, nmX0, by decide, tb_1 (i := 117) (by decide +kernel) rfl⟩
theorem fX0_18 : v_FL RX0 18 0 4 := ⟨RX0, TX0, 14, tyX0, rfl, inX0, tyX0_ok, nmX0, by decide, tb_1 (i := 118) (by decide +kernel) rfl⟩
theorem fX3_117 : v_FL RX3 117 0 4 := ⟨RX0, TX0, 14, tyX0, rfl, inX0, tyX0_ok, nmX0, by decide, tb_1 (i := 119) (by decide +kernel) rfl⟩
theorem fX0_21 : v_FL RX0 21 0 5 := ⟨RX0, TX0, 14, tyX0, rfl, inX0, tyX0_ok, nmX0, by decide, tb_1 (i := 120) (by decide +kernel) rfl⟩
theorem fX3_120 : v_FL RX3 120 0 5 := ⟨RX0, TX0, 14, tyX0, rfl, inX0, tyX0_ok, nmX0, by decide, tb_1 (i := 121) (by decide +kernel) rfl⟩
theorem fX0_24 : v_FL RX0 24 0 6 := ⟨RX0, TX0, 14, tyX0, rfl, inX0, tyX0_ok, nmX0, by decide, tb_1 (i := 122) (by decide +kernel) rfl⟩
theorem fX3_123 : v_FL RX3 123 0 6 := ⟨RX0, TX0, 14, tyX0, rfl, inX0, tyX0_ok, nmX0, by decide, tb_1 (i := 123) (by decide +kernel) rfl⟩
theorem fX0_27 : v_FL RX0 27 0 7 := ⟨RX0, TX0, 14, tyX0, rfl, inX0, tyX0_ok, nmX0, by decide, tb_1 (i := 124) (by decide +kernel) rfl⟩
theorem fX3_126 : v_FL RX3 126 0 7 := ⟨RX0, TX0, 14, tyX0, rfl, inX0, tyX0_ok, nmX0, by decide, tb_1 (i := 125) (by decide +kernel) rfl⟩
theorem fX0_30 : v_FL RX0 30 0 8 := ⟨RX0, TX0, 14, tyX0, rfl, inX0, tyX0_ok, nmX0, by decide, tb_1 (i := 126) (by decide +kernel) rfl⟩
theorem fX3_129 : v_FL RX3 129 0 8 := ⟨RX0, TX0, 14, tyX0, rfl, inX0, tyX0_ok, nmX0, by decide, tb_1 (i := 127) (by decide +kernel) rfl⟩
theorem fX0_59 : v_FL RX0 59 0 9 := ⟨RX0, TX0, 14, tyX0, rfl, inX0, tyX0_ok, nmX0, by decide, tb_1 (i := 128) (by decide +kernel) rfl⟩
theorem pX0_59 : v_FP RX0 59 0 9 := ⟨RX0, TX0, 14, tyX0, rfl, inX0, tyX0_ok, nmX0, by decide, tb_1 (i := 128) (by decide +kernel) rfl, rfl, by decide +kernel⟩
theorem fX3_132 : v_FL RX3 132 0 9 := ⟨RX0, TX0, 14, tyX0, rfl, inX0, tyX0_ok, nmX0, by decide, tb_1 (i := 129) (by decide +kernel) rfl⟩
theorem pX3_132 : v_FP RX3 132 0 9 := ⟨RX0, TX0, 14, tyX0, rfl, inX0, tyX0_ok, nmX0, by decide, tb_1 (i := 129) (by decide +kernel) rfl, rfl, by decide +kernel⟩
theorem fX0_109 : v_FL RX0 109 0 10 := ⟨RX0, TX0, 14, tyX0, rfl, inX0, tyX0_ok, nmX0, by decide, tb_1 (i := 130) (by decide +kernel) rfl⟩
theorem pX0_109 : v_FP RX0 109 0 10 := ⟨RX0, TX0, 14, tyX0, rfl, inX0, tyX0_ok, nmX0, by decide, tb_1 (i := 130) (by decide +kernel) rfl, rfl, by decide +kernel⟩
theorem fX3_135 : v_FL RX3 135 0 10 := ⟨RX0, TX0, 14, tyX0, rfl, inX0, tyX0_ok, nmX0, by decide, tb_1 (i := 131) (by decide +kernel) rfl⟩
theorem pX3_135 : v_FP RX3 135 0 10 := ⟨RX0, TX0, 14, tyX0, rfl, inX0, tyX0_ok, nmX0, by decide, tb_1 (i := 131) (by decide +kernel) rfl, rfl, by decide +kernel⟩
theorem fX0_78 : v_FL RX0 78 0 11 := ⟨RX0, TX0, 14, tyX0, rfl, inX0, tyX0_ok, nmX0, by decide, tb_1 (i := 132) (by decide +kernel) rfl⟩
theorem pX0_78 : v_FP RX0 78 0 11 := ⟨RX0, TX0, 14, tyX0, rfl, inX0, tyX0_ok, nmX0, by decide, tb_1 (i := 132) (by decide +kernel) rfl, rfl, by decide +kernel⟩
theorem fX3_138 : v_FL RX3 138 0 11 := ⟨RX0, TX0, 14, tyX0, rfl, inX0, tyX0_ok, nmX0, by decide, tb_1 (i := 133) (by decide +kernel) rfl⟩
theorem pX3_138 : v_FP RX3 138 0 11 := ⟨RX0, TX0, 14, tyX0, rfl, inX0, tyX0_ok, nmX0, by decide, tb_1 (i := 133) (by decide +kernel) rfl, rfl, by decide +kernel⟩
theorem fX0_75 : v_FL RX0 75 0 12 := ⟨RX0, TX0, 14, tyX0, rfl, inX0, tyX0_ok, nmX0, by decide, tb_1 (i := 134) (by decide +kernel) rfl⟩
theorem pX0_75 : v_FP RX0 75 0 12 := ⟨RX0, TX0, 14, tyX0, rfl, inX0, tyX0_ok, nmX0, by decide, tb_1 (i := 134) (by decide +kernel) rfl, rfl, by decide +kernel⟩
theorem fX3_141 : v_FL RX3 141 0 12 := ⟨RX0, TX0, 14, tyX0, rfl, inX0, tyX0_ok, nmX0, by decide, tb_1 (i := 135) (by decide +kernel) rfl⟩
theorem pX3_141 : v_FP RX3 141 0 12 := ⟨RX0, TX0, 14, tyX0, rfl, inX0, tyX0_ok, nmX0, by decide, tb_1 (i := 135) (by decide +kernel) rfl, rfl, by decide +kernel⟩
theorem fX0_85 : v_FL RX0 85 0 13 := ⟨RX0, TX0, 14, tyX0, rfl, inX0, tyX0_ok, nmX0, by decide, tb_1 (i := 136) (by decide +kernel) rfl⟩
theorem pX0_85 : v_FP RX0 85 0 13 := ⟨RX0, TX0, 14, tyX0, rfl, inX0, tyX0_ok, nmX0, by decide, tb_1 (i := 136) (by decide +kernel) rfl, rfl, by decide +kernel⟩
theorem fX3_144 : v_FL RX3 144 0 13 := ⟨RX0, TX0, 14, tyX0, rfl, inX0, tyX0_ok, nmX0, by decide, tb_1 (i := 137) (by decide +kernel) rfl⟩
theorem pX3_144 : v_FP RX3 144 0 13 := ⟨RX0, TX0, 14, tyX0, rfl, inX0, tyX0_ok, nmX0, by decide, tb_1 (i := 137) (by decide +kernel) rfl, rfl, by decide +kernel⟩
theorem fX3_10 : v_FL RX3 10 3 0 := ⟨RX3, TX3, 6, tyX3, rfl, inX3, tyX3_ok, nmX3, by decide, tb_1 (i := 168) (by decide +kernel) rfl⟩
theorem fX3_19 : v_FL RX3 19 3 1 := ⟨RX3, TX3, 6, tyX3, rfl, inX3, tyX3_ok, nmX3, by decide, tb_1 (i := 169) (by decide +kernel) rfl⟩
theorem fX3_28 : v_FL RX3 28 3 2 := ⟨RX3, TX3, 6, tyX3, rfl, inX3, tyX3_ok, nmX3, by decide, tb_1 (i := 170) (by decide +kernel) rfl⟩
theorem fX3_32 : v_FL RX3 32 3 3 := ⟨RX3, TX3, 6, tyX3, rfl, inX3, tyX3_ok, nmX3, by decide, tb_1 (i := 171) (by decide +kernel) rfl⟩
theorem fX3_96 : v_FL RX3 96 3 4 := ⟨RX3, TX3, 6, tyX3, rfl, inX3, tyX3_ok, nmX3, by decide, tb_1 (i := 172) (by decide +kernel) rfl⟩
theorem pX3_96 : v_FP RX3 96 3 4 := ⟨RX3, TX3, 6, tyX3, rfl, inX3, tyX3_ok, nmX3, by decide, tb_1 (i := 172) (by decide +kernel) rfl, rfl, by decide +kernel⟩
theorem fX3_48 : v_FL RX3 48 3 5 := ⟨RX3, TX3, 6, tyX3, rfl, inX3, tyX3_ok, nmX3, by decide, tb_1 (i := 173) (by decide +kernel) rfl⟩
theorem pX3_48 : v_FP RX3 48 3 5 := ⟨RX3, TX3, 6, tyX3, rfl, inX3, tyX3_ok, nmX3, by decide, tb_1 (i := 173) (by decide +kernel) rfl, rfl, by decide +kernel⟩
theorem fX4_74 : v_FL RX4 74 4 0 := ⟨RX4, TX4, 29, tyX4, rfl, inX4, tyX4_ok, nmX4, by decide, tb_2 (i := 120) (by decide +kernel) rfl⟩
theorem pX4_74 : v_FP RX4 74 4 0 := ⟨RX4, TX4, 29, tyX4, rfl, inX4, tyX4_ok, nmX4, by decide, tb_2 (i := 120) (by decide +kernel) rfl, rfl, by decide +kernel⟩
theorem fX4_113 : v_FL RX4 113 4 1 := ⟨RX4, TX4, 29, tyX4, rfl, inX4, tyX4_ok, nmX4, by decide, tb_2 (i := 121) (by decide +kernel) rfl⟩
theorem pX4_113 : v_FP RX4 113 4 1 := ⟨RX4, TX4, 29, tyX4, rfl, inX4, tyX4_ok, nmX4, by decide, tb_2 (i := 121) (by decide +kernel) rfl, rfl, by decide +kernel⟩
theorem fX4_81 : v_FL RX4 81 4 2 := ⟨RX4, TX4, 29, tyX4, rfl, inX4, tyX4_ok, nmX4, by decide, tb_2 (i := 122) (by decide +kernel) rfl⟩
theorem pX4_81 : v_FP RX4 81 4 2 := ⟨RX4, TX4, 29, tyX4, rfl, inX4, tyX4_ok, nmX4, by decide, tb_2 (i := 122) (by decide +kernel) rfl, rfl, by decide +kernel⟩
theorem fX4_7 : v_FL RX4 7 4 3 := ⟨RX4, TX4, 29, tyX4, rfl, inX4, tyX4_ok, nmX4, by decide, tb_2 (i := 123) (by decide +kernel) rfl⟩
theorem pX4_7 : v_FP RX4 7 4 3 := ⟨RX4, TX4, 29, tyX4, rfl, inX4, tyX4_ok, nmX4, by decide, tb_2 (i := 123) (by decide +kernel) rfl, rfl, by decide +kernel⟩
theorem fX4_13 : v_FL RX4 13 4 4 := ⟨RX4, TX4, 29, tyX4, rfl, inX4, tyX4_ok, nmX4, by decide, tb_2 (i := 124) (by decide +kernel) rfl⟩
theorem pX4_13 : v_FP RX4 13 4 4 := ⟨RX4, TX4, 29, tyX4, rfl, inX4, tyX4_ok, nmX4, by decide, tb_2 (i := 124) (by decide +kernel) rfl, rfl, by decide +kernel⟩
theorem fX4_96 : v_FL RX4 96 4 5 := ⟨RX4, TX4, 29, tyX4, rfl, inX4, tyX4_ok, nmX4, by decide, tb_2 (i := 125) (by decide +kernel) rfl⟩
theorem pX4_96 : v_FP RX4 96 4 5 := ⟨RX4, TX4, 29, tyX4, rfl, inX4, tyX4_ok, nmX4, by decide, tb_2 (i := 125) (by decide +kernel) rfl, rfl, by decide +kernel⟩
theorem fX4_99 : v_FL RX4 99 4 6 := ⟨RX4, TX4, 29, tyX4, rfl, inX4, tyX4_ok, nmX4, by decide, tb_2 (i := 126) (by decide +kernel) rfl⟩
theorem pX4_99 : v_FP RX4 99 4 6 := ⟨RX4, TX4, 29, tyX4, rfl, inX4, tyX4_ok, nmX4, by decide, tb_2 (i := 126) (by decide +kernel) rfl, rfl, by decide +kernel⟩
theorem fX4_102 : v_FL RX4 102 4 7 := ⟨RX4, TX4, 29, tyX4, rfl, inX4, tyX4_ok, nmX4, by decide, tb_2 (i := 127) (by decide +kernel) rfl⟩
theorem pX4_102 : v_FP RX4 102 4 7 := ⟨RX4, TX4, 29, tyX4, rfl, inX4, tyX4_ok, nmX4, by decide, tb_2 (i := 127) (by decide +kernel) rfl, rfl, by decide +kernel⟩
theorem fX4_16 : v_FL RX4 16 4 8 := ⟨RX4, TX4, 29, tyX4, rfl, inX4, tyX4_ok, nmX4, by decide, tb_2 (i := 128) (by decide +kernel) rfl⟩
theorem fX4_20 : v_FL RX4 20 4 9 := ⟨RX4, TX4, 29, tyX4, rfl, inX4, tyX4_ok, nmX4, by decide, tb_2 (i := 129) (by decide +kernel) rfl⟩
theorem fX4_23 : v_FL RX4 23 4 10 := ⟨RX4, TX4, 29, tyX4, rfl, inX4, tyX4_ok, nmX4, by decide, tb_2 (i := 130) (by decide +kernel) rfl⟩
theorem fX4_26 : v_FL RX4 26 4 11 := ⟨RX4, TX4, 29, tyX4, rfl, inX4, tyX4_ok, nmX4, by decide, tb_2 (i := 131) (by decide +kernel) rfl⟩
theorem fX4_29 : v_FL RX4 29 4 12 := ⟨RX4, TX4, 29, tyX4, rfl, inX4, tyX4_ok, nmX4, by decide, tb_2 (i := 132) (by decide +kernel) rfl⟩
theorem fX4_32 : v_FL RX4 32 4 13 := ⟨RX4, TX4, 29, tyX4, rfl, inX4, tyX4_ok, nmX4, by decide, tb_2 (i := 133) (by decide +kernel) rfl⟩
theorem fX4_35 : v_FL RX4 35 4 14 := ⟨RX4, TX4, 29, tyX4, rfl, inX4, tyX4_ok, nmX4, by decide, tb_2 (i := 134) (by decide +kernel) rfl⟩
theorem fX4_38 : v_FL RX4 38 4 15 := ⟨RX4, TX4, 29, tyX4, rfl, inX4, tyX4_ok, nmX4, by decide, tb_2 (i := 135) (by decide +kernel) rfl⟩
theorem fX4_41 : v_FL RX4 41 4 16 := ⟨RX4, TX4, 29, tyX4, rfl, inX4, tyX4_ok, nmX4, by decide, tb_2 (i := 136) (by decide +kernel) rfl⟩
theorem fX4_44 : v_FL RX4 44 4 17 := ⟨RX4, TX4, 29, tyX4, rfl, inX4, tyX4_ok, nmX4, by decide, tb_2 (i := 137) (by decide +kernel) rfl⟩
theorem fX4_47 : v_FL RX4 47 4 18 := ⟨RX4, TX4, 29, tyX4, rfl, inX4, tyX4_ok, nmX4, by decide, tb_2 (i := 138) (by decide +kernel) rfl⟩
theorem fX4_50 : v_FL RX4 50 4 19 := ⟨RX4, TX4, 29, tyX4, rfl, inX4, tyX4_ok, nmX4, by decide, tb_2 (i := 139) (by decide +kernel) rfl⟩
theorem fX4_53 : v_FL RX4 53 4 20 := ⟨RX4, TX4, 29, tyX4, rfl, inX4, tyX4_ok, nmX4, by decide, tb_2 (i := 140) (by decide +kernel) rfl⟩
theorem fX4_56 : v_FL RX4 56 4 21 := ⟨RX4, TX4, 29, tyX4, rfl, inX4, tyX4_ok, nmX4, by decide, tb_2 (i := 141) (by decide +kernel) rfl⟩
theorem fX4_59 : v_FL RX4 59 4 22 := ⟨RX4, TX4, 29, tyX4, rfl, inX4, tyX4_ok, nmX4, by decide, tb_2 (i := 142) (by decide +kernel) rfl⟩
theorem fX4_123 : v_FL RX4 123 4 23 := ⟨RX4, TX4, 29, tyX4, rfl, inX4, tyX4_ok, nmX4, by decide, tb_2 (i := 143) (by decide +kernel) rfl⟩
theorem pX4_123 : v_FP RX4 123 4 23 := ⟨RX4, TX4, 29, tyX4, rfl, inX4, tyX4_ok, nmX4, by decide, tb_2 (i := 143) (by decide +kernel) rfl, rfl, by decide +kernel⟩
theorem fX4_116 : v_FL RX4 116 4 24 := ⟨RX4, TX4, 29, tyX4, rfl, inX4, tyX4_ok, nmX4, by decide, tb_2 (i := 144) (by decide +kernel) rfl⟩
theorem pX4_116 : v_FP RX4 116 4 24 := ⟨RX4, TX4, 29, tyX4, rfl, inX4, tyX4_ok, nmX4, by decide, tb_2 (i := 144) (by decide +kernel) rfl, rfl, by decide +kernel⟩
theorem fX4_62 : v_FL RX4 62 4 25 := ⟨RX4, TX4, 29, tyX4, rfl, inX4, tyX4_ok, nmX4, by decide, tb_2 (i := 145) (by decide +kernel) rfl⟩
theorem fX4_65 : v_FL RX4 65 4 26 := ⟨RX4, TX4, 29, tyX4, rfl, inX4, tyX4_ok, nmX4, by decide, tb_2 (i := 146) (by decide +kernel) rfl⟩
theorem fX4_68 : v_FL RX4 68 4 27 := ⟨RX4, TX4, 29, tyX4, rfl, inX4, tyX4_ok, nmX4, by decide, tb_2 (i := 147) (by decide +kernel) rfl⟩
theorem fX4_71 : v_FL RX4 71 4 28 := ⟨RX4, TX4, 29, tyX4, rfl, inX4, tyX4_ok, nmX4, by decide, tb_2 (i := 148) (by decide +kernel) rfl⟩
theorem YX3_init : v_Y yX3_init cX3_init 2 none 0 := ⟨tb_1 (i := 11) (by decide +kernel) rfl, tb_1 (i := 1) (by decide +kernel) rfl, by decide +kernel, by decide +kernel, by decide +kernel⟩
theorem YX2_init : v_Y yX2_init cX2_init 1 none 0 := ⟨tb_1 (i := 19) (by decide +kernel) rfl, tb_1 (i := 2) (by decide +kernel) rfl, by decide +kernel, by decide +kernel, by decide +kernel⟩
theorem YX1_init : v_Y yX1_init cX1_init 1 none 0 := ⟨tb_1 (i := 79) (by decide +kernel) rfl, tb_1 (i := 3) (by decide +kernel) rfl, by decide +kernel, by decide +kernel, by decide +kernel⟩
theorem YX0_init : v_Y yX0_init cX0_init 3 none 2 := ⟨tb_1 (i := 110) (by decide +kernel) rfl, tb_1 (i := 4) (by decide +kernel) rfl, by decide +kernel, by decide +kernel, by decide +kernel⟩
theorem YX3_hatch : v_Y yX3_hatch cX3_hatch 4 (some .int) 3 := ⟨tb_1 (i := 190) (by decide +kernel) rfl, tb_1 (i := 1) (by decide +kernel) rfl, by decide +kernel, by decide +kernel, by decide +kernel⟩
theorem YX3_isWithin : v_Y yX3_isWithin cX3_isWithin 3 (some .boolean) 3 := ⟨tb_1 (i := 193) (by decide +kernel) rfl, tb_1 (i := 1) (by decide +kernel) rfl, by decide +kernel, by decide +kernel, by decide +kernel⟩
theorem YX3_hasAllDeeds : v_Y yX3_hasAllDeeds cX3_hasAllDeeds 1 (some .boolean) 0 := ⟨tb_1 (i := 197) (by decide +kernel) rfl, tb_1 (i := 1) (by decide +kernel) rfl, by decide +kernel, by decide +kernel, by decide +kernel⟩
theorem YX2_addHatch : v_Y yX2_addHatch cX2_addHatch 5 (some .int) 3 := ⟨tb_1 (i := 201) (by decide +kernel) rfl, tb_1 (i := 2) (by decide +kernel) rfl, by decide +kernel, by decide +kernel, by decide +kernel⟩
theorem YX3_open : v_Y yX3_open cX3_open 4 (some .int) 2 := ⟨tb_1 (i := 205) (by decide +kernel) rfl, tb_1 (i := 1) (by decide +kernel) rfl, by decide +kernel, by decide +kernel, by decide +kernel⟩
theorem YX2_isHatch : v_Y yX2_isHatch cX2_isHatch 2 (some .boolean) 1 := ⟨tb_1 (i := 209) (by decide +kernel) rfl, tb_1 (i := 2) (by decide +kernel) rfl, by decide +kernel, by decide +kernel, by decide +kernel⟩
theorem YX3_flow : v_Y yX3_flow cX3_flow 3 (some .int) 1 := ⟨tb_1 (i := 213) (by decide +kernel) rfl, tb_1 (i := 1) (by decide +kernel) rfl, by decide +kernel, by decide +kernel, by decide +kernel⟩
theorem YX3_air : v_Y yX3_air cX3_air 3 (some .int) 1 := ⟨tb_1 (i := 217) (by decide +kernel) rfl, tb_1 (i := 1) (by decide +kernel) rfl, by decide +kernel, by decide +kernel, by decide +kernel⟩
theorem YX3_dig : v_Y yX3_dig cX3_dig 4 (some .int) 1 := ⟨tb_1 (i := 221) (by decide +kernel) rfl, tb_1 (i := 1) (by decide +kernel) rfl, by decide +kernel, by decide +kernel, by decide +kernel⟩
theorem YX0_siltOf : v_Y yX0_siltOf cX0_siltOf 2 (some .int) 1 := ⟨tb_1 (i := 225) (by decide +kernel) rfl, tb_1 (i := 4) (by decide +kernel) rfl, by decide +kernel, by decide +kernel, by decide +kernel⟩
theorem YX3_sheep : v_Y yX3_sheep cX3_sheep 6 (some .int) 3 := ⟨tb_1 (i := 229) (by decide +kernel) rfl, tb_1 (i := 1) (by decide +kernel) rfl, by decide +kernel, by decide +kernel, by decide +kernel⟩
theorem YX2_isPane : v_Y yX2_isPane cX2_isPane 3 (some .boolean) 2 := ⟨tb_1 (i := 233) (by decide +kernel) rfl, tb_1 (i := 2) (by decide +kernel) rfl, by decide +kernel, by decide +kernel, by decide +kernel⟩
theorem YX3_placeOf : v_Y yX3_placeOf cX3_placeOf 2 (some .int) 2 := ⟨tb_1 (i := 237) (by decide +kernel) rfl, tb_1 (i := 1) (by decide +kernel) rfl, by decide +kernel, by decide +kernel, by decide +kernel⟩
theorem YX3_right : v_Y yX3_right cX3_right 5 (some .int) 3 := ⟨tb_2 (i := 1) (by decide +kernel) rfl, tb_1 (i := 1) (by decide +kernel) rfl, by decide +kernel, by decide +kernel, by decide +kernel⟩
theorem YX3_hours : v_Y yX3_hours cX3_hours 3 (some .int) 1 := ⟨tb_2 (i := 5) (by decide +kernel) rfl, tb_1 (i := 1) (by decide +kernel) rfl, by decide +kernel, by decide +kernel, by decide +kernel⟩
theorem YX3_advance : v_Y yX3_advance cX3_advance 2 none 0 := ⟨tb_2 (i := 9) (by decide +kernel) rfl, tb_1 (i := 1) (by decide +kernel) rfl, by decide +kernel, by decide +kernel, by decide +kernel⟩
theorem YX0_passHour : v_Y yX0_passHour cX0_passHour 4 none 1 := ⟨tb_2 (i := 13) (by decide +kernel) rfl, tb_1 (i := 4) (by decide +kernel) rfl, by decide +kernel, by decide +kernel, by decide +kernel⟩
theorem YX0_takeIn : v_Y yX0_takeIn cX0_takeIn 4 none 2 := ⟨tb_2 (i := 17) (by decide +kernel) rfl, tb_1 (i := 4) (by decide +kernel) rfl, by decide +kernel, by decide +kernel, by decide +kernel⟩
theorem YX0_mostOf : v_Y yX0_mostOf cX0_mostOf 2 (some .int) 1 := ⟨tb_2 (i := 21) (by decide +kernel) rfl, tb_1 (i := 4) (by decide +kernel) rfl, by decide +kernel, by decide +kernel, by decide +kernel⟩
theorem YX0_soakPanes : v_Y yX0_soakPanes cX0_soakPanes 9 (some .int) 1 := ⟨tb_2 (i := 32) (by decide +kernel) rfl, tb_1 (i := 4) (by decide +kernel) rfl, by decide +kernel, by decide +kernel, by decide +kernel⟩
theorem YX0_tendPanes : v_Y yX0_tendPanes cX0_tendPanes 6 none 2 := ⟨tb_2 (i := 37) (by decide +kernel) rfl, tb_1 (i := 4) (by decide +kernel) rfl, by decide +kernel, by decide +kernel, by decide +kernel⟩
theorem YX2_isGrazing : v_Y yX2_isGrazing cX2_isGrazing 2 (some .boolean) 1 := ⟨tb_2 (i := 41) (by decide +kernel) rfl, tb_1 (i := 2) (by decide +kernel) rfl, by decide +kernel, by decide +kernel, by decide +kernel⟩
theorem YX0_growGrass : v_Y yX0_growGrass cX0_growGrass 4 none 1 := ⟨tb_2 (i := 46) (by decide +kernel) rfl, tb_1 (i := 4) (by decide +kernel) rfl, by decide +kernel, by decide +kernel, by decide +kernel⟩
theorem YX0_grazePane : v_Y yX0_grazePane cX0_grazePane 3 none 1 := ⟨tb_2 (i := 50) (by decide +kernel) rfl, tb_1 (i := 4) (by decide +kernel) rfl, by decide +kernel, by decide +kernel, by decide +kernel⟩
theorem YX0_isMillShort : v_Y yX0_isMillShort cX0_isMillShort 2 (some .boolean) 1 := ⟨tb_2 (i := 54) (by decide +kernel) rfl, tb_1 (i := 4) (by decide +kernel) rfl, by decide +kernel, by decide +kernel, by decide +kernel⟩
theorem YX2_rightAt : v_Y yX2_rightAt cX2_rightAt 4 (some .int) 1 := ⟨tb_2 (i := 58) (by decide +kernel) rfl, tb_1 (i := 2) (by decide +kernel) rfl, by decide +kernel, by decide +kernel, by decide +kernel⟩
theorem YX2_isLawless : v_Y yX2_isLawless cX2_isLawless 1 (some .boolean) 0 := ⟨tb_2 (i := 62) (by decide +kernel) rfl, tb_1 (i := 2) (by decide +kernel) rfl, by decide +kernel, by decide +kernel, by decide +kernel⟩
theorem YX3_judgeHour : v_Y yX3_judgeHour cX3_judgeHour 4 none 0 := ⟨tb_2 (i := 66) (by decide +kernel) rfl, tb_1 (i := 1) (by decide +kernel) rfl, by decide +kernel, by decide +kernel, by decide +kernel⟩
theorem YX2_isOutOfTurn : v_Y yX2_isOutOfTurn cX2_isOutOfTurn 4 (some .boolean) 2 := ⟨tb_2 (i := 70) (by decide +kernel) rfl, tb_1 (i := 2) (by decide +kernel) rfl, by decide +kernel, by decide +kernel, by decide +kernel⟩
theorem YX1_enterTurn : v_Y yX1_enterTurn cX1_enterTurn 4 none 3 := ⟨tb_2 (i := 74) (by decide +kernel) rfl, tb_1 (i := 3) (by decide +kernel) rfl, by decide +kernel, by decide +kernel, by decide +kernel⟩
theorem YX1_enter : v_Y yX1_enter cX1_enter 4 none 3 := ⟨tb_2 (i := 78) (by decide +kernel) rfl, tb_1 (i := 3) (by decide +kernel) rfl, by decide +kernel, by decide +kernel, by decide +kernel⟩
theorem YX3_told : v_Y yX3_told cX3_told 3 (some .int) 2 := ⟨tb_2 (i := 84) (by decide +kernel) rfl, tb_1 (i := 1) (by decide +kernel) rfl, by decide +kernel, by decide +kernel, by decide +kernel⟩
theorem YX3_pane : v_Y yX3_pane cX3_pane 5 (some .int) 3 := ⟨tb_2 (i := 89) (by decide +kernel) rfl, tb_1 (i := 1) (by decide +kernel) rfl, by decide +kernel, by decide +kernel, by decide +kernel⟩
theorem YX3_stream : v_Y yX3_stream cX3_stream 2 (some .int) 1 := ⟨tb_2 (i := 93) (by decide +kernel) rfl, tb_1 (i := 1) (by decide +kernel) rfl, by decide +kernel, by decide +kernel, by decide +kernel⟩
theorem YX3_broken : v_Y yX3_broken cX3_broken 3 (some .int) 2 := ⟨tb_2 (i := 97) (by decide +kernel) rfl, tb_1 (i := 1) (by decide +kernel) rfl, by decide +kernel, by decide +kernel, by decide +kernel⟩
theorem YX3_farm : v_Y yX3_farm cX3_farm 3 (some .int) 2 := ⟨tb_2 (i := 101) (by decide +kernel) rfl, tb_1 (i := 1) (by decide +kernel) rfl, by decide +kernel, by decide +kernel, by decide +kernel⟩
theorem YX0_sumOfFarm : v_Y yX0_sumOfFarm cX0_sumOfFarm 6 (some .int) 2 := ⟨tb_2 (i := 105) (by decide +kernel) rfl, tb_1 (i := 4) (by decide +kernel) rfl, by decide +kernel, by decide +kernel, by decide +kernel⟩
theorem YX3_without : v_Y yX3_without cX3_without 4 (some .int) 2 := ⟨tb_2 (i := 109) (by decide +kernel) rfl, tb_1 (i := 1) (by decide +kernel) rfl, by decide +kernel, by decide +kernel, by decide +kernel⟩
theorem YX3_count : v_Y yX3_count cX3_count 2 (some .int) 1 := ⟨tb_2 (i := 113) (by decide +kernel) rfl, tb_1 (i := 1) (by decide +kernel) rfl, by decide +kernel, by decide +kernel, by decide +kernel⟩
theorem YX4_init : v_Y yX4_init cX4_init 1 none 0 := ⟨tb_2 (i := 118) (by decide +kernel) rfl, tb_1 (i := 5) (by decide +kernel) rfl, by decide +kernel, by decide +kernel, by decide +kernel⟩
theorem YX4_hatch : v_Y yX4_hatch cX4_hatch 4 (some .int) 3 := ⟨tb_2 (i := 211) (by decide +kernel) rfl, tb_1 (i := 5) (by decide +kernel) rfl, by decide +kernel, by decide +kernel, by decide +kernel⟩
theorem YX4_in : v_Y yX4_in cX4_in 3 (some .boolean) 3 := ⟨tb_2 (i := 214) (by decide +kernel) rfl, tb_1 (i := 5) (by decide +kernel) rfl, by decide +kernel, by decide +kernel, by decide +kernel⟩
theorem YX4_isFull : v_Y yX4_isFull cX4_isFull 1 (some .boolean) 0 := ⟨tb_2 (i := 218) (by decide +kernel) rfl, tb_1 (i := 5) (by decide +kernel) rfl, by decide +kernel, by decide +kernel, by decide +kernel⟩
theorem YX4_open : v_Y yX4_open cX4_open 4 (some .int) 2 := ⟨tb_2 (i := 222) (by decide +kernel) rfl, tb_1 (i := 5) (by decide +kernel) rfl, by decide +kernel, by decide +kernel, by decide +kernel⟩
theorem YX4_isHatch : v_Y yX4_isHatch cX4_isHatch 2 (some .boolean) 1 := ⟨tb_2 (i := 226) (by decide +kernel) rfl, tb_1 (i := 5) (by decide +kernel) rfl, by decide +kernel, by decide +kernel, by decide +kernel⟩
theorem YX4_flow : v_Y yX4_flow cX4_flow 3 (some .int) 1 := ⟨tb_2 (i := 230) (by decide +kernel) rfl, tb_1 (i := 5) (by decide +kernel) rfl, by decide +kernel, by decide +kernel, by decide +kernel⟩
theorem YX4_air : v_Y yX4_air cX4_air 3 (some .int) 1 := ⟨tb_2 (i := 234) (by decide +kernel) rfl, tb_1 (i := 5) (by decide +kernel) rfl, by decide +kernel, by decide +kernel, by decide +kernel⟩
theorem YX4_dig : v_Y yX4_dig cX4_dig 4 (some .int) 1 := ⟨tb_2 (i := 238) (by decide +kernel) rfl, tb_1 (i := 5) (by decide +kernel) rfl, by decide +kernel, by decide +kernel, by decide +kernel⟩
theorem YX4_sheep : v_Y yX4_sheep cX4_sheep 5 (some .int) 3 := ⟨tb_3 (i := 2) (by decide +kernel) rfl, tb_1 (i := 5) (by decide +kernel) rfl, by decide +kernel, by decide +kernel, by decide +kernel⟩
theorem YX4_isPane : v_Y yX4_isPane cX4_isPane 3 (some .boolean) 2 := ⟨tb_3 (i := 6) (by decide +kernel) rfl, tb_1 (i := 5) (by decide +kernel) rfl, by decide +kernel, by decide +kernel, by decide +kernel⟩
theorem YX4_right : v_Y yX4_right cX4_right 5 (some .int) 3 := ⟨tb_3 (i := 10) (by decide +kernel) rfl, tb_1 (i := 5) (by decide +kernel) rfl, by decide +kernel, by decide +kernel, by decide +kernel⟩
theorem YX4_hours : v_Y yX4_hours cX4_hours 4 (some .int) 1 := ⟨tb_3 (i := 14) (by decide +kernel) rfl, tb_1 (i := 5) (by decide +kernel) rfl, by decide +kernel, by decide +kernel, by decide +kernel⟩
theorem YX4_flows : v_Y yX4_flows cX4_flows 10 none 1 := ⟨tb_3 (i := 18) (by decide +kernel) rfl, tb_1 (i := 5) (by decide +kernel) rfl, by decide +kernel, by decide +kernel, by decide +kernel⟩
theorem YX4_most : v_Y yX4_most cX4_most 4 (some .int) 2 := ⟨tb_3 (i := 22) (by decide +kernel) rfl, tb_1 (i := 5) (by decide +kernel) rfl, by decide +kernel, by decide +kernel, by decide +kernel⟩
theorem YX4_grows : v_Y yX4_grows cX4_grows 7 none 3 := ⟨tb_3 (i := 26) (by decide +kernel) rfl, tb_1 (i := 5) (by decide +kernel) rfl, by decide +kernel, by decide +kernel, by decide +kernel⟩
theorem YX4_judges : v_Y yX4_judges cX4_judges 5 none 0 := ⟨tb_3 (i := 30) (by decide +kernel) rfl, tb_1 (i := 5) (by decide +kernel) rfl, by decide +kernel, by decide +kernel, by decide +kernel⟩
theorem YX4_breaks : v_Y yX4_breaks cX4_breaks 3 none 2 := ⟨tb_3 (i := 34) (by decide +kernel) rfl, tb_1 (i := 5) (by decide +kernel) rfl, by decide +kernel, by decide +kernel, by decide +kernel⟩
theorem YX4_told : v_Y yX4_told cX4_told 3 (some .int) 2 := ⟨tb_3 (i := 38) (by decide +kernel) rfl, tb_1 (i := 5) (by decide +kernel) rfl, by decide +kernel, by decide +kernel, by decide +kernel⟩
theorem YX4_pane : v_Y yX4_pane cX4_pane 5 (some .int) 3 := ⟨tb_3 (i := 42) (by decide +kernel) rfl, tb_1 (i := 5) (by decide +kernel) rfl, by decide +kernel, by decide +kernel, by decide +kernel⟩
theorem YX4_stream : v_Y yX4_stream cX4_stream 2 (some .int) 1 := ⟨tb_3 (i := 46) (by decide +kernel) rfl, tb_1 (i := 5) (by decide +kernel) rfl, by decide +kernel, by decide +kernel, by decide +kernel⟩
theorem YX4_sum : v_Y yX4_sum cX4_sum 5 (some .int) 2 := ⟨tb_3 (i := 50) (by decide +kernel) rfl, tb_1 (i := 5) (by decide +kernel) rfl, by decide +kernel, by decide +kernel, by decide +kernel⟩
theorem YX4_broken : v_Y yX4_broken cX4_broken 3 (some .int) 2 := ⟨tb_3 (i := 54) (by decide +kernel) rfl, tb_1 (i := 5) (by decide +kernel) rfl, by decide +kernel, by decide +kernel, by decide +kernel⟩
theorem YX4_farm : v_Y yX4_farm cX4_farm 3 (some .int) 2 := ⟨tb_3 (i := 58) (by decide +kernel) rfl, tb_1 (i := 5) (by decide +kernel) rfl, by decide +kernel, by decide +kernel, by decide +kernel⟩
theorem YX4_ofFarm : v_Y yX4_ofFarm cX4_ofFarm 7 (some .int) 3 := ⟨tb_3 (i := 62) (by decide +kernel) rfl, tb_1 (i := 5) (by decide +kernel) rfl, by decide +kernel, by decide +kernel, by decide +kernel⟩
theorem YX4_without : v_Y yX4_without cX4_without 3 (some .int) 2 := ⟨tb_3 (i := 66) (by decide +kernel) rfl, tb_1 (i := 5) (by decide +kernel) rfl, by decide +kernel, by decide +kernel, by decide +kernel⟩
theorem YX4_count : v_Y yX4_count cX4_count 2 (some .int) 1 := ⟨tb_3 (i := 70) (by decide +kernel) rfl, tb_1 (i := 5) (by decide +kernel) rfl, by decide +kernel, by decide +kernel, by decide +kernel⟩
theorem mL_13 : v_LV RL 13 yX3_hatch := ⟨tb_1 (i := 187) (by decide +kernel) rfl, tb_1 (i := 188) (by decide +kernel) rfl, tb_1 (i := 189) (by decide +kernel) rfl⟩
theorem mX3_36 : v_LS RX3 36 yX3_isWithin := ⟨tb_1 (i := 191) (by decide +kernel) rfl, tb_1 (i := 192) (by decide +kernel) rfl⟩
theorem mX3_44 : v_LV RX3 44 yX3_hasAllDeeds := ⟨tb_1 (i := 194) (by decide +kernel) rfl, tb_1 (i := 196) (by decide +kernel) rfl, tb_0 (i := 0) (by decide +kernel) rfl⟩
theorem mX3_51 : v_LV RX3 51 yX2_addHatch := ⟨tb_1 (i := 198) (by decide +kernel) rfl, tb_1 (i := 199) (by decide +kernel) rfl, tb_1 (i := 200) (by decide +kernel) rfl⟩
theorem mL_18 : v_LV RL 18 yX3_open := ⟨tb_1 (i := 202) (by decide +kernel) rfl, tb_1 (i := 203) (by decide +kernel) rfl, tb_1 (i := 204) (by decide +kernel) rfl⟩
theorem mX3_55 : v_LV RX3 55 yX2_isHatch := ⟨tb_1 (i := 206) (by decide +kernel) rfl, tb_1 (i := 207) (by decide +kernel) rfl, tb_1 (i := 208) (by decide +kernel) rfl⟩
theorem mL_23 : v_LV RL 23 yX3_flow := ⟨tb_1 (i := 210) (by decide +kernel) rfl, tb_1 (i := 211) (by decide +kernel) rfl, tb_1 (i := 212) (by decide +kernel) rfl⟩
theorem mL_28 : v_LV RL 28 yX3_air := ⟨tb_1 (i := 214) (by decide +kernel) rfl, tb_1 (i := 215) (by decide +kernel) rfl, tb_1 (i := 216) (by decide +kernel) rfl⟩
theorem mL_32 : v_LV RL 32 yX3_dig := ⟨tb_1 (i := 218) (by decide +kernel) rfl, tb_1 (i := 219) (by decide +kernel) rfl, tb_1 (i := 220) (by decide +kernel) rfl⟩
theorem mX3_69 : v_LV RX3 69 yX0_siltOf := ⟨tb_1 (i := 222) (by decide +kernel) rfl, tb_1 (i := 223) (by decide +kernel) rfl, tb_1 (i := 224) (by decide +kernel) rfl⟩
theorem mL_36 : v_LV RL 36 yX3_sheep := ⟨tb_1 (i := 226) (by decide +kernel) rfl, tb_1 (i := 227) (by decide +kernel) rfl, tb_1 (i := 228) (by decide +kernel) rfl⟩
theorem mX3_76 : v_LV RX3 76 yX2_isPane := ⟨tb_1 (i := 230) (by decide +kernel) rfl, tb_1 (i := 231) (by decide +kernel) rfl, tb_1 (i := 232) (by decide +kernel) rfl⟩
theorem mX2_37 : v_LV RX2 37 yX2_isHatch := ⟨tb_1 (i := 234) (by decide +kernel) rfl, tb_1 (i := 207) (by decide +kernel) rfl, tb_1 (i := 208) (by decide +kernel) rfl⟩
theorem mX3_80 : v_LS RX3 80 yX3_placeOf := ⟨tb_1 (i := 235) (by decide +kernel) rfl, tb_1 (i := 236) (by decide +kernel) rfl⟩
theorem mL_40 : v_LV RL 40 yX3_right := ⟨tb_1 (i := 238) (by decide +kernel) rfl, tb_1 (i := 239) (by decide +kernel) rfl, tb_2 (i := 0) (by decide +kernel) rfl⟩
theorem mL_44 : v_LV RL 44 yX3_hours := ⟨tb_2 (i := 2) (by decide +kernel) rfl, tb_2 (i := 3) (by decide +kernel) rfl, tb_2 (i := 4) (by decide +kernel) rfl⟩
theorem mX3_99 : v_LV RX3 99 yX3_advance := ⟨tb_2 (i := 6) (by decide +kernel) rfl, tb_2 (i := 8) (by decide +kernel) rfl, tb_0 (i := 1) (by decide +kernel) rfl⟩
theorem mX3_169 : v_LV RX3 169 yX0_passHour := ⟨tb_2 (i := 10) (by decide +kernel) rfl, tb_2 (i := 11) (by decide +kernel) rfl, tb_2 (i := 12) (by decide +kernel) rfl⟩
theorem mX0_65 : v_LV RX0 65 yX0_takeIn := ⟨tb_2 (i := 14) (by decide +kernel) rfl, tb_2 (i := 16) (by decide +kernel) rfl, tb_0 (i := 2) (by decide +kernel) rfl⟩
theorem mX0_103 : v_LV RX0 103 yX0_mostOf := ⟨tb_2 (i := 18) (by decide +kernel) rfl, tb_2 (i := 19) (by decide +kernel) rfl, tb_2 (i := 20) (by decide +kernel) rfl⟩
theorem mX0_46 : v_LV RX0 46 yX0_siltOf := ⟨tb_2 (i := 22) (by decide +kernel) rfl, tb_1 (i := 223) (by decide +kernel) rfl, tb_1 (i := 224) (by decide +kernel) rfl⟩
theorem mX0_50 : v_LM RX0 50 Lib.Math.max.name Lib.Math.max.code := ⟨tb_2 (i := 23) (by decide +kernel) rfl, tb_2 (i := 24) (by decide +kernel) rfl, tb_1 (i := 6) (by decide +kernel) rfl, tb_2 (i := 25) (by decide +kernel) rfl⟩
theorem mX0_106 : v_LM RX0 106 Lib.Math.min.name Lib.Math.min.code := ⟨tb_2 (i := 26) (by decide +kernel) rfl, tb_2 (i := 27) (by decide +kernel) rfl, tb_1 (i := 6) (by decide +kernel) rfl, tb_2 (i := 28) (by decide +kernel) rfl⟩
theorem mX0_69 : v_LV RX0 69 yX0_soakPanes := ⟨tb_2 (i := 29) (by decide +kernel) rfl, tb_2 (i := 31) (by decide +kernel) rfl, tb_0 (i := 3) (by decide +kernel) rfl⟩
theorem mX0_72 : v_LV RX0 72 yX0_tendPanes := ⟨tb_2 (i := 34) (by decide +kernel) rfl, tb_2 (i := 36) (by decide +kernel) rfl, tb_0 (i := 4) (by decide +kernel) rfl⟩
theorem mX0_112 : v_LV RX0 112 yX2_isGrazing := ⟨tb_2 (i := 38) (by decide +kernel) rfl, tb_2 (i := 39) (by decide +kernel) rfl, tb_2 (i := 40) (by decide +kernel) rfl⟩
theorem mX0_115 : v_LV RX0 115 yX0_growGrass := ⟨tb_2 (i := 43) (by decide +kernel) rfl, tb_2 (i := 45) (by decide +kernel) rfl, tb_0 (i := 5) (by decide +kernel) rfl⟩
theorem mX0_119 : v_LV RX0 119 yX0_grazePane := ⟨tb_2 (i := 47) (by decide +kernel) rfl, tb_2 (i := 49) (by decide +kernel) rfl, tb_0 (i := 6) (by decide +kernel) rfl⟩
theorem mX0_81 : v_LV RX0 81 yX0_isMillShort := ⟨tb_2 (i := 51) (by decide +kernel) rfl, tb_2 (i := 52) (by decide +kernel) rfl, tb_2 (i := 53) (by decide +kernel) rfl⟩
theorem mX0_88 : v_LV RX0 88 yX2_rightAt := ⟨tb_2 (i := 55) (by decide +kernel) rfl, tb_2 (i := 56) (by decide +kernel) rfl, tb_2 (i := 57) (by decide +kernel) rfl⟩
theorem mX2_41 : v_LV RX2 41 yX2_isLawless := ⟨tb_2 (i := 59) (by decide +kernel) rfl, tb_2 (i := 60) (by decide +kernel) rfl, tb_2 (i := 61) (by decide +kernel) rfl⟩
theorem mX3_173 : v_LV RX3 173 yX3_judgeHour := ⟨tb_2 (i := 63) (by decide +kernel) rfl, tb_2 (i := 65) (by decide +kernel) rfl, tb_0 (i := 7) (by decide +kernel) rfl⟩
theorem mX3_176 : v_LV RX3 176 yX2_isOutOfTurn := ⟨tb_2 (i := 67) (by decide +kernel) rfl, tb_2 (i := 68) (by decide +kernel) rfl, tb_2 (i := 69) (by decide +kernel) rfl⟩
theorem mX3_179 : v_LV RX3 179 yX1_enterTurn := ⟨tb_2 (i := 71) (by decide +kernel) rfl, tb_2 (i := 72) (by decide +kernel) rfl, tb_2 (i := 73) (by decide +kernel) rfl⟩
theorem mX1_24 : v_LV RX1 24 yX1_enter := ⟨tb_2 (i := 75) (by decide +kernel) rfl, tb_2 (i := 76) (by decide +kernel) rfl, tb_2 (i := 77) (by decide +kernel) rfl⟩
theorem mX3_183 : v_LV RX3 183 yX0_isMillShort := ⟨tb_2 (i := 79) (by decide +kernel) rfl, tb_2 (i := 52) (by decide +kernel) rfl, tb_2 (i := 53) (by decide +kernel) rfl⟩
theorem mX3_186 : v_LV RX3 186 yX1_enter := ⟨tb_2 (i := 80) (by decide +kernel) rfl, tb_2 (i := 76) (by decide +kernel) rfl, tb_2 (i := 77) (by decide +kernel) rfl⟩
theorem mL_48 : v_LV RL 48 yX3_told := ⟨tb_2 (i := 81) (by decide +kernel) rfl, tb_2 (i := 82) (by decide +kernel) rfl, tb_2 (i := 83) (by decide +kernel) rfl⟩
theorem mX3_111 : v_LV RX3 111 yX0_mostOf := ⟨tb_2 (i := 85) (by decide +kernel) rfl, tb_2 (i := 19) (by decide +kernel) rfl, tb_2 (i := 20) (by decide +kernel) rfl⟩
theorem mL_52 : v_LV RL 52 yX3_pane := ⟨tb_2 (i := 86) (by decide +kernel) rfl, tb_2 (i := 87) (by decide +kernel) rfl, tb_2 (i := 88) (by decide +kernel) rfl⟩
theorem mL_56 : v_LV RL 56 yX3_stream := ⟨tb_2 (i := 90) (by decide +kernel) rfl, tb_2 (i := 91) (by decide +kernel) rfl, tb_2 (i := 92) (by decide +kernel) rfl⟩
theorem mL_60 : v_LV RL 60 yX3_broken := ⟨tb_2 (i := 94) (by decide +kernel) rfl, tb_2 (i := 95) (by decide +kernel) rfl, tb_2 (i := 96) (by decide +kernel) rfl⟩
theorem mL_64 : v_LV RL 64 yX3_farm := ⟨tb_2 (i := 98) (by decide +kernel) rfl, tb_2 (i := 99) (by decide +kernel) rfl, tb_2 (i := 100) (by decide +kernel) rfl⟩
theorem mX3_162 : v_LV RX3 162 yX0_sumOfFarm := ⟨tb_2 (i := 102) (by decide +kernel) rfl, tb_2 (i := 103) (by decide +kernel) rfl, tb_2 (i := 104) (by decide +kernel) rfl⟩
theorem mL_68 : v_LV RL 68 yX3_without := ⟨tb_2 (i := 106) (by decide +kernel) rfl, tb_2 (i := 107) (by decide +kernel) rfl, tb_2 (i := 108) (by decide +kernel) rfl⟩
theorem mL_72 : v_LV RL 72 yX3_count := ⟨tb_2 (i := 110) (by decide +kernel) rfl, tb_2 (i := 111) (by decide +kernel) rfl, tb_2 (i := 112) (by decide +kernel) rfl⟩
theorem mL_17 : v_LV RL 17 yX4_hatch := ⟨tb_2 (i := 208) (by decide +kernel) rfl, tb_2 (i := 209) (by decide +kernel) rfl, tb_2 (i := 210) (by decide +kernel) rfl⟩
theorem mX4_77 : v_LS RX4 77 yX4_in := ⟨tb_2 (i := 212) (by decide +kernel) rfl, tb_2 (i := 213) (by decide +kernel) rfl⟩
theorem mX4_84 : v_LV RX4 84 yX4_isFull := ⟨tb_2 (i := 215) (by decide +kernel) rfl, tb_2 (i := 217) (by decide +kernel) rfl, tb_0 (i := 8) (by decide +kernel) rfl⟩
theorem mL_22 : v_LV RL 22 yX4_open := ⟨tb_2 (i := 219) (by decide +kernel) rfl, tb_2 (i := 220) (by decide +kernel) rfl, tb_2 (i := 221) (by decide +kernel) rfl⟩
theorem mX4_88 : v_LV RX4 88 yX4_isHatch := ⟨tb_2 (i := 223) (by decide +kernel) rfl, tb_2 (i := 225) (by decide +kernel) rfl, tb_0 (i := 9) (by decide +kernel) rfl⟩
theorem mL_27 : v_LV RL 27 yX4_flow := ⟨tb_2 (i := 227) (by decide +kernel) rfl, tb_2 (i := 228) (by decide +kernel) rfl, tb_2 (i := 229) (by decide +kernel) rfl⟩
theorem mL_31 : v_LV RL 31 yX4_air := ⟨tb_2 (i := 231) (by decide +kernel) rfl, tb_2 (i := 232) (by decide +kernel) rfl, tb_2 (i := 233) (by decide +kernel) rfl⟩
theorem mL_35 : v_LV RL 35 yX4_dig := ⟨tb_2 (i := 235) (by decide +kernel) rfl, tb_2 (i := 236) (by decide +kernel) rfl, tb_2 (i := 237) (by decide +kernel) rfl⟩
theorem mL_39 : v_LV RL 39 yX4_sheep := ⟨tb_2 (i := 239) (by decide +kernel) rfl, tb_3 (i := 0) (by decide +kernel) rfl, tb_3 (i := 1) (by decide +kernel) rfl⟩
theorem mX4_92 : v_LV RX4 92 yX4_isPane := ⟨tb_3 (i := 3) (by decide +kernel) rfl, tb_3 (i := 5) (by decide +kernel) rfl, tb_0 (i := 10) (by decide +kernel) rfl⟩
theorem mL_43 : v_LV RL 43 yX4_right := ⟨tb_3 (i := 7) (by decide +kernel) rfl, tb_3 (i := 8) (by decide +kernel) rfl, tb_3 (i := 9) (by decide +kernel) rfl⟩
theorem mL_47 : v_LV RL 47 yX4_hours := ⟨tb_3 (i := 11) (by decide +kernel) rfl, tb_3 (i := 12) (by decide +kernel) rfl, tb_3 (i := 13) (by decide +kernel) rfl⟩
theorem mX4_126 : v_LV RX4 126 yX4_flows := ⟨tb_3 (i := 15) (by decide +kernel) rfl, tb_3 (i := 17) (by decide +kernel) rfl, tb_0 (i := 11) (by decide +kernel) rfl⟩
theorem mX4_105 : v_LV RX4 105 yX4_most := ⟨tb_3 (i := 19) (by decide +kernel) rfl, tb_3 (i := 21) (by decide +kernel) rfl, tb_0 (i := 12) (by decide +kernel) rfl⟩
theorem mX4_109 : v_LV RX4 109 yX4_grows := ⟨tb_3 (i := 23) (by decide +kernel) rfl, tb_3 (i := 25) (by decide +kernel) rfl, tb_0 (i := 13) (by decide +kernel) rfl⟩
theorem mX4_130 : v_LV RX4 130 yX4_judges := ⟨tb_3 (i := 27) (by decide +kernel) rfl, tb_3 (i := 29) (by decide +kernel) rfl, tb_0 (i := 14) (by decide +kernel) rfl⟩
theorem mX4_119 : v_LV RX4 119 yX4_breaks := ⟨tb_3 (i := 31) (by decide +kernel) rfl, tb_3 (i := 33) (by decide +kernel) rfl, tb_0 (i := 15) (by decide +kernel) rfl⟩
theorem mL_51 : v_LV RL 51 yX4_told := ⟨tb_3 (i := 35) (by decide +kernel) rfl, tb_3 (i := 36) (by decide +kernel) rfl, tb_3 (i := 37) (by decide +kernel) rfl⟩
theorem mL_55 : v_LV RL 55 yX4_pane := ⟨tb_3 (i := 39) (by decide +kernel) rfl, tb_3 (i := 40) (by decide +kernel) rfl, tb_3 (i := 41) (by decide +kernel) rfl⟩
theorem mL_59 : v_LV RL 59 yX4_stream := ⟨tb_3 (i := 43) (by decide +kernel) rfl, tb_3 (i := 44) (by decide +kernel) rfl, tb_3 (i := 45) (by decide +kernel) rfl⟩
theorem mX4_133 : v_LV RX4 133 yX4_sum := ⟨tb_3 (i := 47) (by decide +kernel) rfl, tb_3 (i := 49) (by decide +kernel) rfl, tb_0 (i := 16) (by decide +kernel) rfl⟩
theorem mL_63 : v_LV RL 63 yX4_broken := ⟨tb_3 (i := 51) (by decide +kernel) rfl, tb_3 (i := 52) (by decide +kernel) rfl, tb_3 (i := 53) (by decide +kernel) rfl⟩
theorem mL_67 : v_LV RL 67 yX4_farm := ⟨tb_3 (i := 55) (by decide +kernel) rfl, tb_3 (i := 56) (by decide +kernel) rfl, tb_3 (i := 57) (by decide +kernel) rfl⟩
theorem mX4_137 : v_LV RX4 137 yX4_ofFarm := ⟨tb_3 (i := 59) (by decide +kernel) rfl, tb_3 (i := 61) (by decide +kernel) rfl, tb_0 (i := 17) (by decide +kernel) rfl⟩
theorem mL_71 : v_LV RL 71 yX4_without := ⟨tb_3 (i := 63) (by decide +kernel) rfl, tb_3 (i := 64) (by decide +kernel) rfl, tb_3 (i := 65) (by decide +kernel) rfl⟩
theorem mL_75 : v_LV RL 75 yX4_count := ⟨tb_3 (i := 67) (by decide +kernel) rfl, tb_3 (i := 68) (by decide +kernel) rfl, tb_3 (i := 69) (by decide +kernel) rfl⟩
theorem splaceOf : Cond.static yX3_placeOf ∈ tbG := tb_1 (i := 236) (by decide +kernel) rfl
theorem sisWithin : Cond.static yX3_isWithin ∈ tbG := tb_1 (i := 192) (by decide +kernel) rfl
theorem ciX0 : v_ci 0 RX0 := ⟨_, rfl, rfl⟩
theorem ciX1 : v_ci 1 RX1 := ⟨_, rfl, rfl⟩
theorem ciX2 : v_ci 2 RX2 := ⟨_, rfl, rfl⟩
theorem ciX3 : v_ci 3 RX3 := ⟨_, rfl, rfl⟩
theorem ciX4 : v_ci 4 RX4 := ⟨_, rfl, rfl⟩
end
section
theorem dX0_init_0 : decode cX0_init 0 = .ok (.aload_n 0, 1) := by decide +kernel
theorem dX0_init_1 : decode cX0_init 1 = .ok (.invokespecial 3, 3) := by decide +kernel
theorem dX0_init_4 : decode cX0_init 4 = .ok (.aload_n 0, 1) := by decide +kernel
theorem dX0_init_5 : decode cX0_init 5 = .ok (.bipush 6, 2) := by decide +kernel
theorem dX0_init_7 : decode cX0_init 7 = .ok (.newarray .int, 2) := by decide +kernel
theorem dX0_init_9 : decode cX0_init 9 = .ok (.putfield 9, 3) := by decide +kernel
theorem dX0_init_12 : decode cX0_init 12 = .ok (.aload_n 0, 1) := by decide +kernel
theorem dX0_init_13 : decode cX0_init 13 = .ok (.bipush 6, 2) := by decide +kernel
theorem dX0_init_15 : decode cX0_init 15 = .ok (.newarray .int, 2) := by decide +kernel
theorem dX0_init_17 : decode cX0_init 17 = .ok (.putfield 15, 3) := by decide +kernel
theorem dX0_init_20 : decode cX0_init 20 = .ok (.aload_n 0, 1) := by decide +kernel
theorem dX0_init_21 : decode cX0_init 21 = .ok (.bipush 24, 2) := by decide +kernel
theorem dX0_init_23 : decode cX0_init 23 = .ok (.newarray .int, 2) := by decide +kernel
theorem dX0_init_25 : decode cX0_init 25 = .ok (.putfield 18, 3) := by decide +kernel
theorem dX0_init_28 : decode cX0_init 28 = .ok (.aload_n 0, 1) := by decide +kernel
theorem dX0_init_29 : decode cX0_init 29 = .ok (.bipush 24, 2) := by decide +kernel
theorem dX0_init_31 : decode cX0_init 31 = .ok (.newarray .int, 2) := by decide +kernel
theorem dX0_init_33 : decode cX0_init 33 = .ok (.putfield 21, 3) := by decide +kernel
theorem dX0_init_36 : decode cX0_init 36 = .ok (.aload_n 0, 1) := by decide +kernel
theorem dX0_init_37 : decode cX0_init 37 = .ok (.bipush 24, 2) := by decide +kernel
theorem dX0_init_39 : decode cX0_init 39 = .ok (.newarray .int, 2) := by decide +kernel
theorem dX0_init_41 : decode cX0_init 41 = .ok (.putfield 24, 3) := by decide +kernel
theorem dX0_init_44 : decode cX0_init 44 = .ok (.aload_n 0, 1) := by decide +kernel
theorem dX0_init_45 : decode cX0_init 45 = .ok (.bipush 24, 2) := by decide +kernel
theorem dX0_init_47 : decode cX0_init 47 = .ok (.newarray .int, 2) := by decide +kernel
theorem dX0_init_49 : decode cX0_init 49 = .ok (.putfield 27, 3) := by decide +kernel
theorem dX0_init_52 : decode cX0_init 52 = .ok (.aload_n 0, 1) := by decide +kernel
theorem dX0_init_53 : decode cX0_init 53 = .ok (.bipush 24, 2) := by decide +kernel
theorem dX0_init_55 : decode cX0_init 55 = .ok (.newarray .int, 2) := by decide +kernel
theorem dX0_init_57 : decode cX0_init 57 = .ok (.putfield 30, 3) := by decide +kernel
theorem dX0_init_60 : decode cX0_init 60 = .ok (.aload_n 0, 1) := by decide +kernel
theorem dX0_init_61 : decode cX0_init 61 = .ok (.aload_n 1, 1) := by decide +kernel
theorem dX0_init_62 : decode cX0_init 62 = .ok (.putfield 33, 3) := by decide +kernel
theorem dX0_init_65 : decode cX0_init 65 = .ok (.aload_n 0, 1) := by decide +kernel
theorem dX0_init_66 : decode cX0_init 66 = .ok (.iload_n 2, 1) := by decide +kernel
theorem dX0_init_67 : decode cX0_init 67 = .ok (.putfield 37, 3) := by decide +kernel
theorem dX0_init_70 : decode cX0_init 70 = .ok (.return_, 1) := by decide +kernel
theorem dX0_siltOf_0 : decode cX0_siltOf 0 = .ok (.aload_n 0, 1) := by decide +kernel
theorem dX0_siltOf_1 : decode cX0_siltOf 1 = .ok (.getfield 9, 3) := by decide +kernel
theorem dX0_siltOf_4 : decode cX0_siltOf 4 = .ok (.iload_n 1, 1) := by decide +kernel
theorem dX0_siltOf_5 : decode cX0_siltOf 5 = .ok (.iaload, 1) := by decide +kernel
theorem dX0_siltOf_6 : decode cX0_siltOf 6 = .ok (.bipush 100, 2) := by decide +kernel
theorem dX0_siltOf_8 : decode cX0_siltOf 8 = .ok (.idiv, 1) := by decide +kernel
theorem dX0_siltOf_9 : decode cX0_siltOf 9 = .ok (.ireturn, 1) := by decide +kernel
theorem dX0_mostOf_0 : decode cX0_mostOf 0 = .ok (.iconst 0, 1) := by decide +kernel
theorem dX0_mostOf_1 : decode cX0_mostOf 1 = .ok (.aload_n 0, 1) := by decide +kernel
theorem dX0_mostOf_2 : decode cX0_mostOf 2 = .ok (.getfield 33, 3) := by decide +kernel
theorem dX0_mostOf_5 : decode cX0_mostOf 5 = .ok (.getfield 41, 3) := by decide +kernel
theorem dX0_mostOf_8 : decode cX0_mostOf 8 = .ok (.iload_n 1, 1) := by decide +kernel
theorem dX0_mostOf_9 : decode cX0_mostOf 9 = .ok (.iaload, 1) := by decide +kernel
theorem dX0_mostOf_10 : decode cX0_mostOf 10 = .ok (.aload_n 0, 1) := by decide +kernel
theorem dX0_mostOf_11 : decode cX0_mostOf 11 = .ok (.iload_n 1, 1) := by decide +kernel
theorem dX0_mostOf_12 : decode cX0_mostOf 12 = .ok (.invokevirtual 46, 3) := by decide +kernel
theorem dX0_mostOf_15 : decode cX0_mostOf 15 = .ok (.bipush 10, 2) := by decide +kernel
theorem dX0_mostOf_17 : decode cX0_mostOf 17 = .ok (.idiv, 1) := by decide +kernel
theorem dX0_mostOf_18 : decode cX0_mostOf 18 = .ok (.isub, 1) := by decide +kernel
theorem dX0_mostOf_19 : decode cX0_mostOf 19 = .ok (.invokestatic 50, 3) := by decide +kernel
theorem dX0_mostOf_22 : decode cX0_mostOf 22 = .ok (.ireturn, 1) := by decide +kernel
theorem dX0_passHour_0 : decode cX0_passHour 0 = .ok (.aload_n 0, 1) := by decide +kernel
theorem dX0_passHour_1 : decode cX0_passHour 1 = .ok (.getfield 33, 3) := by decide +kernel
theorem dX0_passHour_4 : decode cX0_passHour 4 = .ok (.getfield 56, 3) := by decide +kernel
theorem dX0_passHour_7 : decode cX0_passHour 7 = .ok (.istore_n 2, 1) := by decide +kernel
theorem dX0_passHour_8 : decode cX0_passHour 8 = .ok (.aload_n 0, 1) := by decide +kernel
theorem dX0_passHour_9 : decode cX0_passHour 9 = .ok (.dup, 1) := by decide +kernel
theorem dX0_passHour_10 : decode cX0_passHour 10 = .ok (.getfield 59, 3) := by decide +kernel
theorem dX0_passHour_13 : decode cX0_passHour 13 = .ok (.iload_n 2, 1) := by decide +kernel
theorem dX0_passHour_14 : decode cX0_passHour 14 = .ok (.iadd, 1) := by decide +kernel
theorem dX0_passHour_15 : decode cX0_passHour 15 = .ok (.putfield 59, 3) := by decide +kernel
theorem dX0_passHour_18 : decode cX0_passHour 18 = .ok (.iconst 0, 1) := by decide +kernel
theorem dX0_passHour_19 : decode cX0_passHour 19 = .ok (.istore_n 3, 1) := by decide +kernel
theorem dX0_passHour_20 : decode cX0_passHour 20 = .ok (.iload_n 3, 1) := by decide +kernel
theorem dX0_passHour_21 : decode cX0_passHour 21 = .ok (.aload_n 0, 1) := by decide +kernel
theorem dX0_passHour_22 : decode cX0_passHour 22 = .ok (.getfield 33, 3) := by decide +kernel
theorem dX0_passHour_25 : decode cX0_passHour 25 = .ok (.getfield 62, 3) := by decide +kernel
theorem dX0_passHour_28 : decode cX0_passHour 28 = .ok (.if_icmp .ge 29, 3) := by decide +kernel
theorem dX0_passHour_31 : decode cX0_passHour 31 = .ok (.aload_n 0, 1) := by decide +kernel
theorem dX0_passHour_32 : decode cX0_passHour 32 = .ok (.iload_n 3, 1) := by decide +kernel
theorem dX0_passHour_33 : decode cX0_passHour 33 = .ok (.iload_n 2, 1) := by decide +kernel
theorem dX0_passHour_34 : decode cX0_passHour 34 = .ok (.invokevirtual 65, 3) := by decide +kernel
theorem dX0_passHour_37 : decode cX0_passHour 37 = .ok (.iload_n 2, 1) := by decide +kernel
theorem dX0_passHour_38 : decode cX0_passHour 38 = .ok (.aload_n 0, 1) := by decide +kernel
theorem dX0_passHour_39 : decode cX0_passHour 39 = .ok (.iload_n 3, 1) := by decide +kernel
theorem dX0_passHour_40 : decode cX0_passHour 40 = .ok (.invokevirtual 69, 3) := by decide +kernel
theorem dX0_passHour_43 : decode cX0_passHour 43 = .ok (.isub, 1) := by decide +kernel
theorem dX0_passHour_44 : decode cX0_passHour 44 = .ok (.istore_n 2, 1) := by decide +kernel
theorem dX0_passHour_45 : decode cX0_passHour 45 = .ok (.aload_n 0, 1) := by decide +kernel
theorem dX0_passHour_46 : decode cX0_passHour 46 = .ok (.iload_n 3, 1) := by decide +kernel
theorem dX0_passHour_47 : decode cX0_passHour 47 = .ok (.iload_n 1, 1) := by decide +kernel
theorem dX0_passHour_48 : decode cX0_passHour 48 = .ok (.invokevirtual 72, 3) := by decide +kernel
theorem dX0_passHour_51 : decode cX0_passHour 51 = .ok (.iinc 3 1, 3) := by decide +kernel
theorem dX0_passHour_54 : decode cX0_passHour 54 = .ok (.goto (-34), 3) := by decide +kernel
theorem dX0_passHour_57 : decode cX0_passHour 57 = .ok (.aload_n 0, 1) := by decide +kernel
theorem dX0_passHour_58 : decode cX0_passHour 58 = .ok (.iload_n 2, 1) := by decide +kernel
theorem dX0_passHour_59 : decode cX0_passHour 59 = .ok (.putfield 75, 3) := by decide +kernel
theorem dX0_passHour_62 : decode cX0_passHour 62 = .ok (.aload_n 0, 1) := by decide +kernel
theorem dX0_passHour_63 : decode cX0_passHour 63 = .ok (.dup, 1) := by decide +kernel
theorem dX0_passHour_64 : decode cX0_passHour 64 = .ok (.getfield 78, 3) := by decide +kernel
theorem dX0_passHour_67 : decode cX0_passHour 67 = .ok (.iload_n 2, 1) := by decide +kernel
theorem dX0_passHour_68 : decode cX0_passHour 68 = .ok (.iadd, 1) := by decide +kernel
theorem dX0_passHour_69 : decode cX0_passHour 69 = .ok (.putfield 78, 3) := by decide +kernel
theorem dX0_passHour_72 : decode cX0_passHour 72 = .ok (.aload_n 0, 1) := by decide +kernel
theorem dX0_passHour_73 : decode cX0_passHour 73 = .ok (.iload_n 1, 1) := by decide +kernel
theorem dX0_passHour_74 : decode cX0_passHour 74 = .ok (.invokevirtual 81, 3) := by decide +kernel
theorem dX0_passHour_77 : decode cX0_passHour 77 = .ok (.ifCond .eq 13, 3) := by decide +kernel
theorem dX0_passHour_80 : decode cX0_passHour 80 = .ok (.aload_n 0, 1) := by decide +kernel
theorem dX0_passHour_81 : decode cX0_passHour 81 = .ok (.dup, 1) := by decide +kernel
theorem dX0_passHour_82 : decode cX0_passHour 82 = .ok (.getfield 85, 3) := by decide +kernel
theorem dX0_passHour_85 : decode cX0_passHour 85 = .ok (.iconst 1, 1) := by decide +kernel
theorem dX0_passHour_86 : decode cX0_passHour 86 = .ok (.iadd, 1) := by decide +kernel
theorem dX0_passHour_87 : decode cX0_passHour 87 = .ok (.putfield 85, 3) := by decide +kernel
theorem dX0_passHour_90 : decode cX0_passHour 90 = .ok (.return_, 1) := by decide +kernel
theorem dX0_isMillShort_0 : decode cX0_isMillShort 0 = .ok (.aload_n 0, 1) := by decide +kernel
theorem dX0_isMillShort_1 : decode cX0_isMillShort 1 = .ok (.getfield 75, 3) := by decide +kernel
theorem dX0_isMillShort_4 : decode cX0_isMillShort 4 = .ok (.aload_n 0, 1) := by decide +kernel
theorem dX0_isMillShort_5 : decode cX0_isMillShort 5 = .ok (.getfield 33, 3) := by decide +kernel
theorem dX0_isMillShort_8 : decode cX0_isMillShort 8 = .ok (.iload_n 1, 1) := by decide +kernel
theorem dX0_isMillShort_9 : decode cX0_isMillShort 9 = .ok (.invokevirtual 88, 3) := by decide +kernel
theorem dX0_isMillShort_12 : decode cX0_isMillShort 12 = .ok (.if_icmp .ge 7, 3) := by decide +kernel
theorem dX0_isMillShort_15 : decode cX0_isMillShort 15 = .ok (.iconst 1, 1) := by decide +kernel
theorem dX0_isMillShort_16 : decode cX0_isMillShort 16 = .ok (.goto 4, 3) := by decide +kernel
theorem dX0_isMillShort_19 : decode cX0_isMillShort 19 = .ok (.iconst 0, 1) := by decide +kernel
theorem dX0_isMillShort_20 : decode cX0_isMillShort 20 = .ok (.ireturn, 1) := by decide +kernel
theorem dX0_sumOfFarm_0 : decode cX0_sumOfFarm 0 = .ok (.iconst 0, 1) := by decide +kernel
theorem dX0_sumOfFarm_1 : decode cX0_sumOfFarm 1 = .ok (.istore_n 3, 1) := by decide +kernel
theorem dX0_sumOfFarm_2 : decode cX0_sumOfFarm 2 = .ok (.iconst 0, 1) := by decide +kernel
theorem dX0_sumOfFarm_3 : decode cX0_sumOfFarm 3 = .ok (.istore 4, 2) := by decide +kernel
theorem dX0_sumOfFarm_5 : decode cX0_sumOfFarm 5 = .ok (.iload 4, 2) := by decide +kernel
theorem dX0_sumOfFarm_7 : decode cX0_sumOfFarm 7 = .ok (.aload_n 0, 1) := by decide +kernel
theorem dX0_sumOfFarm_8 : decode cX0_sumOfFarm 8 = .ok (.getfield 33, 3) := by decide +kernel
theorem dX0_sumOfFarm_11 : decode cX0_sumOfFarm 11 = .ok (.getfield 62, 3) := by decide +kernel
theorem dX0_sumOfFarm_14 : decode cX0_sumOfFarm 14 = .ok (.if_icmp .ge 59, 3) := by decide +kernel
theorem dX0_sumOfFarm_17 : decode cX0_sumOfFarm 17 = .ok (.aload_n 0, 1) := by decide +kernel
theorem dX0_sumOfFarm_18 : decode cX0_sumOfFarm 18 = .ok (.getfield 33, 3) := by decide +kernel
theorem dX0_sumOfFarm_21 : decode cX0_sumOfFarm 21 = .ok (.getfield 91, 3) := by decide +kernel
theorem dX0_sumOfFarm_24 : decode cX0_sumOfFarm 24 = .ok (.iload 4, 2) := by decide +kernel
theorem dX0_sumOfFarm_26 : decode cX0_sumOfFarm 26 = .ok (.iaload, 1) := by decide +kernel
theorem dX0_sumOfFarm_27 : decode cX0_sumOfFarm 27 = .ok (.iload_n 2, 1) := by decide +kernel
theorem dX0_sumOfFarm_28 : decode cX0_sumOfFarm 28 = .ok (.if_icmp .ne 39, 3) := by decide +kernel
theorem dX0_sumOfFarm_31 : decode cX0_sumOfFarm 31 = .ok (.iconst 0, 1) := by decide +kernel
theorem dX0_sumOfFarm_32 : decode cX0_sumOfFarm 32 = .ok (.istore 5, 2) := by decide +kernel
theorem dX0_sumOfFarm_34 : decode cX0_sumOfFarm 34 = .ok (.iload 5, 2) := by decide +kernel
theorem dX0_sumOfFarm_36 : decode cX0_sumOfFarm 36 = .ok (.aload_n 0, 1) := by decide +kernel
theorem dX0_sumOfFarm_37 : decode cX0_sumOfFarm 37 = .ok (.getfield 33, 3) := by decide +kernel
theorem dX0_sumOfFarm_40 : decode cX0_sumOfFarm 40 = .ok (.getfield 94, 3) := by decide +kernel
theorem dX0_sumOfFarm_43 : decode cX0_sumOfFarm 43 = .ok (.iload 4, 2) := by decide +kernel
theorem dX0_sumOfFarm_45 : decode cX0_sumOfFarm 45 = .ok (.iaload, 1) := by decide +kernel
theorem dX0_sumOfFarm_46 : decode cX0_sumOfFarm 46 = .ok (.if_icmp .ge 21, 3) := by decide +kernel
theorem dX0_sumOfFarm_49 : decode cX0_sumOfFarm 49 = .ok (.iload_n 3, 1) := by decide +kernel
theorem dX0_sumOfFarm_50 : decode cX0_sumOfFarm 50 = .ok (.aload_n 1, 1) := by decide +kernel
theorem dX0_sumOfFarm_51 : decode cX0_sumOfFarm 51 = .ok (.iload 4, 2) := by decide +kernel
theorem dX0_sumOfFarm_53 : decode cX0_sumOfFarm 53 = .ok (.iload 5, 2) := by decide +kernel
theorem dX0_sumOfFarm_55 : decode cX0_sumOfFarm 55 = .ok (.invokestatic 97, 3) := by decide +kernel
theorem dX0_sumOfFarm_58 : decode cX0_sumOfFarm 58 = .ok (.iaload, 1) := by decide +kernel
theorem dX0_sumOfFarm_59 : decode cX0_sumOfFarm 59 = .ok (.iadd, 1) := by decide +kernel
theorem dX0_sumOfFarm_60 : decode cX0_sumOfFarm 60 = .ok (.istore_n 3, 1) := by decide +kernel
theorem dX0_sumOfFarm_61 : decode cX0_sumOfFarm 61 = .ok (.iinc 5 1, 3) := by decide +kernel
theorem dX0_sumOfFarm_64 : decode cX0_sumOfFarm 64 = .ok (.goto (-30), 3) := by decide +kernel
theorem dX0_sumOfFarm_67 : decode cX0_sumOfFarm 67 = .ok (.iinc 4 1, 3) := by decide +kernel
theorem dX0_sumOfFarm_70 : decode cX0_sumOfFarm 70 = .ok (.goto (-65), 3) := by decide +kernel
theorem dX0_sumOfFarm_73 : decode cX0_sumOfFarm 73 = .ok (.iload_n 3, 1) := by decide +kernel
theorem dX0_sumOfFarm_74 : decode cX0_sumOfFarm 74 = .ok (.ireturn, 1) := by decide +kernel
theorem dX0_takeIn_0 : decode cX0_takeIn 0 = .ok (.iload_n 1, 1) := by decide +kernel
theorem dX0_takeIn_1 : decode cX0_takeIn 1 = .ok (.aload_n 0, 1) := by decide +kernel
theorem dX0_takeIn_2 : decode cX0_takeIn 2 = .ok (.getfield 37, 3) := by decide +kernel
theorem dX0_takeIn_5 : decode cX0_takeIn 5 = .ok (.if_icmp .ne 7, 3) := by decide +kernel
theorem dX0_takeIn_8 : decode cX0_takeIn 8 = .ok (.iconst 0, 1) := by decide +kernel
theorem dX0_takeIn_9 : decode cX0_takeIn 9 = .ok (.goto 12, 3) := by decide +kernel
theorem dX0_takeIn_12 : decode cX0_takeIn 12 = .ok (.aload_n 0, 1) := by decide +kernel
theorem dX0_takeIn_13 : decode cX0_takeIn 13 = .ok (.getfield 33, 3) := by decide +kernel
theorem dX0_takeIn_16 : decode cX0_takeIn 16 = .ok (.getfield 100, 3) := by decide +kernel
theorem dX0_takeIn_19 : decode cX0_takeIn 19 = .ok (.iload_n 1, 1) := by decide +kernel
theorem dX0_takeIn_20 : decode cX0_takeIn 20 = .ok (.iaload, 1) := by decide +kernel
theorem dX0_takeIn_21 : decode cX0_takeIn 21 = .ok (.istore_n 3, 1) := by decide +kernel
theorem dX0_takeIn_22 : decode cX0_takeIn 22 = .ok (.aload_n 0, 1) := by decide +kernel
theorem dX0_takeIn_23 : decode cX0_takeIn 23 = .ok (.getfield 15, 3) := by decide +kernel
theorem dX0_takeIn_26 : decode cX0_takeIn 26 = .ok (.iload_n 1, 1) := by decide +kernel
theorem dX0_takeIn_27 : decode cX0_takeIn 27 = .ok (.iload_n 2, 1) := by decide +kernel
theorem dX0_takeIn_28 : decode cX0_takeIn 28 = .ok (.iload_n 3, 1) := by decide +kernel
theorem dX0_takeIn_29 : decode cX0_takeIn 29 = .ok (.imul, 1) := by decide +kernel
theorem dX0_takeIn_30 : decode cX0_takeIn 30 = .ok (.iconst 4, 1) := by decide +kernel
theorem dX0_takeIn_31 : decode cX0_takeIn 31 = .ok (.idiv, 1) := by decide +kernel
theorem dX0_takeIn_32 : decode cX0_takeIn 32 = .ok (.aload_n 0, 1) := by decide +kernel
theorem dX0_takeIn_33 : decode cX0_takeIn 33 = .ok (.iload_n 1, 1) := by decide +kernel
theorem dX0_takeIn_34 : decode cX0_takeIn 34 = .ok (.invokevirtual 103, 3) := by decide +kernel
theorem dX0_takeIn_37 : decode cX0_takeIn 37 = .ok (.invokestatic 106, 3) := by decide +kernel
theorem dX0_takeIn_40 : decode cX0_takeIn 40 = .ok (.iastore, 1) := by decide +kernel
theorem dX0_takeIn_41 : decode cX0_takeIn 41 = .ok (.aload_n 0, 1) := by decide +kernel
theorem dX0_takeIn_42 : decode cX0_takeIn 42 = .ok (.getfield 9, 3) := by decide +kernel
theorem dX0_takeIn_45 : decode cX0_takeIn 45 = .ok (.iload_n 1, 1) := by decide +kernel
theorem dX0_takeIn_46 : decode cX0_takeIn 46 = .ok (.dup2, 1) := by decide +kernel
theorem dX0_takeIn_47 : decode cX0_takeIn 47 = .ok (.iaload, 1) := by decide +kernel
theorem dX0_takeIn_48 : decode cX0_takeIn 48 = .ok (.aload_n 0, 1) := by decide +kernel
theorem dX0_takeIn_49 : decode cX0_takeIn 49 = .ok (.getfield 15, 3) := by decide +kernel
theorem dX0_takeIn_52 : decode cX0_takeIn 52 = .ok (.iload_n 1, 1) := by decide +kernel
theorem dX0_takeIn_53 : decode cX0_takeIn 53 = .ok (.iaload, 1) := by decide +kernel
theorem dX0_takeIn_54 : decode cX0_takeIn 54 = .ok (.iadd, 1) := by decide +kernel
theorem dX0_takeIn_55 : decode cX0_takeIn 55 = .ok (.iastore, 1) := by decide +kernel
theorem dX0_takeIn_56 : decode cX0_takeIn 56 = .ok (.return_, 1) := by decide +kernel
theorem dX0_soakPanes_0 : decode cX0_soakPanes 0 = .ok (.aload_n 0, 1) := by decide +kernel
theorem dX0_soakPanes_1 : decode cX0_soakPanes 1 = .ok (.getfield 33, 3) := by decide +kernel
theorem dX0_soakPanes_4 : decode cX0_soakPanes 4 = .ok (.getfield 94, 3) := by decide +kernel
theorem dX0_soakPanes_7 : decode cX0_soakPanes 7 = .ok (.iload_n 1, 1) := by decide +kernel
theorem dX0_soakPanes_8 : decode cX0_soakPanes 8 = .ok (.iaload, 1) := by decide +kernel
theorem dX0_soakPanes_9 : decode cX0_soakPanes 9 = .ok (.istore_n 2, 1) := by decide +kernel
theorem dX0_soakPanes_10 : decode cX0_soakPanes 10 = .ok (.iload_n 2, 1) := by decide +kernel
theorem dX0_soakPanes_11 : decode cX0_soakPanes 11 = .ok (.iconst 1, 1) := by decide +kernel
theorem dX0_soakPanes_12 : decode cX0_soakPanes 12 = .ok (.if_icmp .ge 5, 3) := by decide +kernel
theorem dX0_soakPanes_15 : decode cX0_soakPanes 15 = .ok (.iconst 0, 1) := by decide +kernel
theorem dX0_soakPanes_16 : decode cX0_soakPanes 16 = .ok (.ireturn, 1) := by decide +kernel
theorem dX0_soakPanes_17 : decode cX0_soakPanes 17 = .ok (.aload_n 0, 1) := by decide +kernel
theorem dX0_soakPanes_18 : decode cX0_soakPanes 18 = .ok (.getfield 15, 3) := by decide +kernel
theorem dX0_soakPanes_21 : decode cX0_soakPanes 21 = .ok (.iload_n 1, 1) := by decide +kernel
theorem dX0_soakPanes_22 : decode cX0_soakPanes 22 = .ok (.iaload, 1) := by decide +kernel
theorem dX0_soakPanes_23 : decode cX0_soakPanes 23 = .ok (.iload_n 2, 1) := by decide +kernel
theorem dX0_soakPanes_24 : decode cX0_soakPanes 24 = .ok (.idiv, 1) := by decide +kernel
theorem dX0_soakPanes_25 : decode cX0_soakPanes 25 = .ok (.istore_n 3, 1) := by decide +kernel
theorem dX0_soakPanes_26 : decode cX0_soakPanes 26 = .ok (.aload_n 0, 1) := by decide +kernel
theorem dX0_soakPanes_27 : decode cX0_soakPanes 27 = .ok (.getfield 15, 3) := by decide +kernel
theorem dX0_soakPanes_30 : decode cX0_soakPanes 30 = .ok (.iload_n 1, 1) := by decide +kernel
theorem dX0_soakPanes_31 : decode cX0_soakPanes 31 = .ok (.iaload, 1) := by decide +kernel
theorem dX0_soakPanes_32 : decode cX0_soakPanes 32 = .ok (.iload_n 2, 1) := by decide +kernel
theorem dX0_soakPanes_33 : decode cX0_soakPanes 33 = .ok (.irem, 1) := by decide +kernel
theorem dX0_soakPanes_34 : decode cX0_soakPanes 34 = .ok (.istore 4, 2) := by decide +kernel
theorem dX0_soakPanes_36 : decode cX0_soakPanes 36 = .ok (.iconst 0, 1) := by decide +kernel
theorem dX0_soakPanes_37 : decode cX0_soakPanes 37 = .ok (.istore 5, 2) := by decide +kernel
theorem dX0_soakPanes_39 : decode cX0_soakPanes 39 = .ok (.iconst 0, 1) := by decide +kernel
theorem dX0_soakPanes_40 : decode cX0_soakPanes 40 = .ok (.istore 6, 2) := by decide +kernel
theorem dX0_soakPanes_42 : decode cX0_soakPanes 42 = .ok (.iload 6, 2) := by decide +kernel
theorem dX0_soakPanes_44 : decode cX0_soakPanes 44 = .ok (.iload_n 2, 1) := by decide +kernel
theorem dX0_soakPanes_45 : decode cX0_soakPanes 45 = .ok (.if_icmp .ge 70, 3) := by decide +kernel
theorem dX0_soakPanes_48 : decode cX0_soakPanes 48 = .ok (.iload_n 1, 1) := by decide +kernel
theorem dX0_soakPanes_49 : decode cX0_soakPanes 49 = .ok (.iload 6, 2) := by decide +kernel
theorem dX0_soakPanes_51 : decode cX0_soakPanes 51 = .ok (.invokestatic 97, 3) := by decide +kernel
theorem dX0_soakPanes_54 : decode cX0_soakPanes 54 = .ok (.istore 7, 2) := by decide +kernel
theorem dX0_soakPanes_56 : decode cX0_soakPanes 56 = .ok (.aload_n 0, 1) := by decide +kernel
theorem dX0_soakPanes_57 : decode cX0_soakPanes 57 = .ok (.getfield 21, 3) := by decide +kernel
theorem dX0_soakPanes_60 : decode cX0_soakPanes 60 = .ok (.iload 7, 2) := by decide +kernel
theorem dX0_soakPanes_62 : decode cX0_soakPanes 62 = .ok (.iload 6, 2) := by decide +kernel
theorem dX0_soakPanes_64 : decode cX0_soakPanes 64 = .ok (.iload 4, 2) := by decide +kernel
theorem dX0_soakPanes_66 : decode cX0_soakPanes 66 = .ok (.if_icmp .ge 9, 3) := by decide +kernel
theorem dX0_soakPanes_69 : decode cX0_soakPanes 69 = .ok (.iload_n 3, 1) := by decide +kernel
theorem dX0_soakPanes_70 : decode cX0_soakPanes 70 = .ok (.iconst 1, 1) := by decide +kernel
theorem dX0_soakPanes_71 : decode cX0_soakPanes 71 = .ok (.iadd, 1) := by decide +kernel
theorem dX0_soakPanes_72 : decode cX0_soakPanes 72 = .ok (.goto 4, 3) := by decide +kernel
theorem dX0_soakPanes_75 : decode cX0_soakPanes 75 = .ok (.iload_n 3, 1) := by decide +kernel
theorem dX0_soakPanes_76 : decode cX0_soakPanes 76 = .ok (.iastore, 1) := by decide +kernel
theorem dX0_soakPanes_77 : decode cX0_soakPanes 77 = .ok (.aload_n 0, 1) := by decide +kernel
theorem dX0_soakPanes_78 : decode cX0_soakPanes 78 = .ok (.getfield 21, 3) := by decide +kernel
theorem dX0_soakPanes_81 : decode cX0_soakPanes 81 = .ok (.iload 7, 2) := by decide +kernel
theorem dX0_soakPanes_83 : decode cX0_soakPanes 83 = .ok (.iaload, 1) := by decide +kernel
theorem dX0_soakPanes_84 : decode cX0_soakPanes 84 = .ok (.iconst 3, 1) := by decide +kernel
theorem dX0_soakPanes_85 : decode cX0_soakPanes 85 = .ok (.invokestatic 106, 3) := by decide +kernel
theorem dX0_soakPanes_88 : decode cX0_soakPanes 88 = .ok (.istore 8, 2) := by decide +kernel
theorem dX0_soakPanes_90 : decode cX0_soakPanes 90 = .ok (.aload_n 0, 1) := by decide +kernel
theorem dX0_soakPanes_91 : decode cX0_soakPanes 91 = .ok (.getfield 27, 3) := by decide +kernel
theorem dX0_soakPanes_94 : decode cX0_soakPanes 94 = .ok (.iload 7, 2) := by decide +kernel
theorem dX0_soakPanes_96 : decode cX0_soakPanes 96 = .ok (.dup2, 1) := by decide +kernel
theorem dX0_soakPanes_97 : decode cX0_soakPanes 97 = .ok (.iaload, 1) := by decide +kernel
theorem dX0_soakPanes_98 : decode cX0_soakPanes 98 = .ok (.iload 8, 2) := by decide +kernel
theorem dX0_soakPanes_100 : decode cX0_soakPanes 100 = .ok (.iadd, 1) := by decide +kernel
theorem dX0_soakPanes_101 : decode cX0_soakPanes 101 = .ok (.iastore, 1) := by decide +kernel
theorem dX0_soakPanes_102 : decode cX0_soakPanes 102 = .ok (.iload 5, 2) := by decide +kernel
theorem dX0_soakPanes_104 : decode cX0_soakPanes 104 = .ok (.iload 8, 2) := by decide +kernel
theorem dX0_soakPanes_106 : decode cX0_soakPanes 106 = .ok (.iadd, 1) := by decide +kernel
theorem dX0_soakPanes_107 : decode cX0_soakPanes 107 = .ok (.istore 5, 2) := by decide +kernel
theorem dX0_soakPanes_109 : decode cX0_soakPanes 109 = .ok (.iinc 6 1, 3) := by decide +kernel
theorem dX0_soakPanes_112 : decode cX0_soakPanes 112 = .ok (.goto (-70), 3) := by decide +kernel
theorem dX0_soakPanes_115 : decode cX0_soakPanes 115 = .ok (.aload_n 0, 1) := by decide +kernel
theorem dX0_soakPanes_116 : decode cX0_soakPanes 116 = .ok (.dup, 1) := by decide +kernel
theorem dX0_soakPanes_117 : decode cX0_soakPanes 117 = .ok (.getfield 109, 3) := by decide +kernel
theorem dX0_soakPanes_120 : decode cX0_soakPanes 120 = .ok (.iload 5, 2) := by decide +kernel
theorem dX0_soakPanes_122 : decode cX0_soakPanes 122 = .ok (.iadd, 1) := by decide +kernel
theorem dX0_soakPanes_123 : decode cX0_soakPanes 123 = .ok (.putfield 109, 3) := by decide +kernel
theorem dX0_soakPanes_126 : decode cX0_soakPanes 126 = .ok (.iload 5, 2) := by decide +kernel
theorem dX0_soakPanes_128 : decode cX0_soakPanes 128 = .ok (.ireturn, 1) := by decide +kernel
theorem dX0_tendPanes_0 : decode cX0_tendPanes 0 = .ok (.aload_n 0, 1) := by decide +kernel
theorem dX0_tendPanes_1 : decode cX0_tendPanes 1 = .ok (.getfield 33, 3) := by decide +kernel
theorem dX0_tendPanes_4 : decode cX0_tendPanes 4 = .ok (.iload_n 2, 1) := by decide +kernel
theorem dX0_tendPanes_5 : decode cX0_tendPanes 5 = .ok (.invokevirtual 112, 3) := by decide +kernel
theorem dX0_tendPanes_8 : decode cX0_tendPanes 8 = .ok (.istore_n 3, 1) := by decide +kernel
theorem dX0_tendPanes_9 : decode cX0_tendPanes 9 = .ok (.iconst 0, 1) := by decide +kernel
theorem dX0_tendPanes_10 : decode cX0_tendPanes 10 = .ok (.istore 4, 2) := by decide +kernel
theorem dX0_tendPanes_12 : decode cX0_tendPanes 12 = .ok (.iload 4, 2) := by decide +kernel
theorem dX0_tendPanes_14 : decode cX0_tendPanes 14 = .ok (.aload_n 0, 1) := by decide +kernel
theorem dX0_tendPanes_15 : decode cX0_tendPanes 15 = .ok (.getfield 33, 3) := by decide +kernel
theorem dX0_tendPanes_18 : decode cX0_tendPanes 18 = .ok (.getfield 94, 3) := by decide +kernel
theorem dX0_tendPanes_21 : decode cX0_tendPanes 21 = .ok (.iload_n 1, 1) := by decide +kernel
theorem dX0_tendPanes_22 : decode cX0_tendPanes 22 = .ok (.iaload, 1) := by decide +kernel
theorem dX0_tendPanes_23 : decode cX0_tendPanes 23 = .ok (.if_icmp .ge 33, 3) := by decide +kernel
theorem dX0_tendPanes_26 : decode cX0_tendPanes 26 = .ok (.iload_n 1, 1) := by decide +kernel
theorem dX0_tendPanes_27 : decode cX0_tendPanes 27 = .ok (.iload 4, 2) := by decide +kernel
theorem dX0_tendPanes_29 : decode cX0_tendPanes 29 = .ok (.invokestatic 97, 3) := by decide +kernel
theorem dX0_tendPanes_32 : decode cX0_tendPanes 32 = .ok (.istore 5, 2) := by decide +kernel
theorem dX0_tendPanes_34 : decode cX0_tendPanes 34 = .ok (.aload_n 0, 1) := by decide +kernel
theorem dX0_tendPanes_35 : decode cX0_tendPanes 35 = .ok (.iload 5, 2) := by decide +kernel
theorem dX0_tendPanes_37 : decode cX0_tendPanes 37 = .ok (.invokevirtual 115, 3) := by decide +kernel
theorem dX0_tendPanes_40 : decode cX0_tendPanes 40 = .ok (.iload_n 3, 1) := by decide +kernel
theorem dX0_tendPanes_41 : decode cX0_tendPanes 41 = .ok (.ifCond .eq 9, 3) := by decide +kernel
theorem dX0_tendPanes_44 : decode cX0_tendPanes 44 = .ok (.aload_n 0, 1) := by decide +kernel
theorem dX0_tendPanes_45 : decode cX0_tendPanes 45 = .ok (.iload 5, 2) := by decide +kernel
theorem dX0_tendPanes_47 : decode cX0_tendPanes 47 = .ok (.invokevirtual 119, 3) := by decide +kernel
theorem dX0_tendPanes_50 : decode cX0_tendPanes 50 = .ok (.iinc 4 1, 3) := by decide +kernel
theorem dX0_tendPanes_53 : decode cX0_tendPanes 53 = .ok (.goto (-41), 3) := by decide +kernel
theorem dX0_tendPanes_56 : decode cX0_tendPanes 56 = .ok (.return_, 1) := by decide +kernel
theorem dX0_growGrass_0 : decode cX0_growGrass 0 = .ok (.aload_n 0, 1) := by decide +kernel
theorem dX0_growGrass_1 : decode cX0_growGrass 1 = .ok (.getfield 21, 3) := by decide +kernel
theorem dX0_growGrass_4 : decode cX0_growGrass 4 = .ok (.iload_n 1, 1) := by decide +kernel
theorem dX0_growGrass_5 : decode cX0_growGrass 5 = .ok (.iaload, 1) := by decide +kernel
theorem dX0_growGrass_6 : decode cX0_growGrass 6 = .ok (.ifCond .le 7, 3) := by decide +kernel
theorem dX0_growGrass_9 : decode cX0_growGrass 9 = .ok (.iconst 1, 1) := by decide +kernel
theorem dX0_growGrass_10 : decode cX0_growGrass 10 = .ok (.goto 4, 3) := by decide +kernel
theorem dX0_growGrass_13 : decode cX0_growGrass 13 = .ok (.iconst 0, 1) := by decide +kernel
theorem dX0_growGrass_14 : decode cX0_growGrass 14 = .ok (.istore_n 2, 1) := by decide +kernel
theorem dX0_growGrass_15 : decode cX0_growGrass 15 = .ok (.iload_n 2, 1) := by decide +kernel
theorem dX0_growGrass_16 : decode cX0_growGrass 16 = .ok (.ifCond .eq 13, 3) := by decide +kernel
theorem dX0_growGrass_19 : decode cX0_growGrass 19 = .ok (.aload_n 0, 1) := by decide +kernel
theorem dX0_growGrass_20 : decode cX0_growGrass 20 = .ok (.getfield 24, 3) := by decide +kernel
theorem dX0_growGrass_23 : decode cX0_growGrass 23 = .ok (.iload_n 1, 1) := by decide +kernel
theorem dX0_growGrass_24 : decode cX0_growGrass 24 = .ok (.dup2, 1) := by decide +kernel
theorem dX0_growGrass_25 : decode cX0_growGrass 25 = .ok (.iaload, 1) := by decide +kernel
theorem dX0_growGrass_26 : decode cX0_growGrass 26 = .ok (.iconst 1, 1) := by decide +kernel
theorem dX0_growGrass_27 : decode cX0_growGrass 27 = .ok (.iadd, 1) := by decide +kernel
theorem dX0_growGrass_28 : decode cX0_growGrass 28 = .ok (.iastore, 1) := by decide +kernel
theorem dX0_growGrass_29 : decode cX0_growGrass 29 = .ok (.iload_n 2, 1) := by decide +kernel
theorem dX0_growGrass_30 : decode cX0_growGrass 30 = .ok (.ifCond .eq 17, 3) := by decide +kernel
theorem dX0_growGrass_33 : decode cX0_growGrass 33 = .ok (.aload_n 0, 1) := by decide +kernel
theorem dX0_growGrass_34 : decode cX0_growGrass 34 = .ok (.getfield 33, 3) := by decide +kernel
theorem dX0_growGrass_37 : decode cX0_growGrass 37 = .ok (.getfield 122, 3) := by decide +kernel
theorem dX0_growGrass_40 : decode cX0_growGrass 40 = .ok (.iconst 4, 1) := by decide +kernel
theorem dX0_growGrass_41 : decode cX0_growGrass 41 = .ok (.invokestatic 50, 3) := by decide +kernel
theorem dX0_growGrass_44 : decode cX0_growGrass 44 = .ok (.goto 10, 3) := by decide +kernel
theorem dX0_growGrass_47 : decode cX0_growGrass 47 = .ok (.aload_n 0, 1) := by decide +kernel
theorem dX0_growGrass_48 : decode cX0_growGrass 48 = .ok (.getfield 33, 3) := by decide +kernel
theorem dX0_growGrass_51 : decode cX0_growGrass 51 = .ok (.getfield 122, 3) := by decide +kernel
theorem dX0_growGrass_54 : decode cX0_growGrass 54 = .ok (.istore_n 3, 1) := by decide +kernel
theorem dX0_growGrass_55 : decode cX0_growGrass 55 = .ok (.iload_n 3, 1) := by decide +kernel
theorem dX0_growGrass_56 : decode cX0_growGrass 56 = .ok (.iconst 2, 1) := by decide +kernel
theorem dX0_growGrass_57 : decode cX0_growGrass 57 = .ok (.if_icmp .le 28, 3) := by decide +kernel
theorem dX0_growGrass_60 : decode cX0_growGrass 60 = .ok (.aload_n 0, 1) := by decide +kernel
theorem dX0_growGrass_61 : decode cX0_growGrass 61 = .ok (.getfield 18, 3) := by decide +kernel
theorem dX0_growGrass_64 : decode cX0_growGrass 64 = .ok (.iload_n 1, 1) := by decide +kernel
theorem dX0_growGrass_65 : decode cX0_growGrass 65 = .ok (.sipush 5000, 3) := by decide +kernel
theorem dX0_growGrass_68 : decode cX0_growGrass 68 = .ok (.aload_n 0, 1) := by decide +kernel
theorem dX0_growGrass_69 : decode cX0_growGrass 69 = .ok (.getfield 18, 3) := by decide +kernel
theorem dX0_growGrass_72 : decode cX0_growGrass 72 = .ok (.iload_n 1, 1) := by decide +kernel
theorem dX0_growGrass_73 : decode cX0_growGrass 73 = .ok (.iaload, 1) := by decide +kernel
theorem dX0_growGrass_74 : decode cX0_growGrass 74 = .ok (.iload_n 3, 1) := by decide +kernel
theorem dX0_growGrass_75 : decode cX0_growGrass 75 = .ok (.iadd, 1) := by decide +kernel
theorem dX0_growGrass_76 : decode cX0_growGrass 76 = .ok (.iconst 2, 1) := by decide +kernel
theorem dX0_growGrass_77 : decode cX0_growGrass 77 = .ok (.isub, 1) := by decide +kernel
theorem dX0_growGrass_78 : decode cX0_growGrass 78 = .ok (.invokestatic 106, 3) := by decide +kernel
theorem dX0_growGrass_81 : decode cX0_growGrass 81 = .ok (.iastore, 1) := by decide +kernel
theorem dX0_growGrass_82 : decode cX0_growGrass 82 = .ok (.goto 25, 3) := by decide +kernel
theorem dX0_growGrass_85 : decode cX0_growGrass 85 = .ok (.iload_n 3, 1) := by decide +kernel
theorem dX0_growGrass_86 : decode cX0_growGrass 86 = .ok (.ifCond .ge 21, 3) := by decide +kernel
theorem dX0_growGrass_89 : decode cX0_growGrass 89 = .ok (.aload_n 0, 1) := by decide +kernel
theorem dX0_growGrass_90 : decode cX0_growGrass 90 = .ok (.getfield 18, 3) := by decide +kernel
theorem dX0_growGrass_93 : decode cX0_growGrass 93 = .ok (.iload_n 1, 1) := by decide +kernel
theorem dX0_growGrass_94 : decode cX0_growGrass 94 = .ok (.iconst 0, 1) := by decide +kernel
theorem dX0_growGrass_95 : decode cX0_growGrass 95 = .ok (.aload_n 0, 1) := by decide +kernel
theorem dX0_growGrass_96 : decode cX0_growGrass 96 = .ok (.getfield 18, 3) := by decide +kernel
theorem dX0_growGrass_99 : decode cX0_growGrass 99 = .ok (.iload_n 1, 1) := by decide +kernel
theorem dX0_growGrass_100 : decode cX0_growGrass 100 = .ok (.iaload, 1) := by decide +kernel
theorem dX0_growGrass_101 : decode cX0_growGrass 101 = .ok (.iconst 1, 1) := by decide +kernel
theorem dX0_growGrass_102 : decode cX0_growGrass 102 = .ok (.isub, 1) := by decide +kernel
theorem dX0_growGrass_103 : decode cX0_growGrass 103 = .ok (.invokestatic 50, 3) := by decide +kernel
theorem dX0_growGrass_106 : decode cX0_growGrass 106 = .ok (.iastore, 1) := by decide +kernel
theorem dX0_growGrass_107 : decode cX0_growGrass 107 = .ok (.return_, 1) := by decide +kernel
theorem dX0_grazePane_0 : decode cX0_grazePane 0 = .ok (.aload_n 0, 1) := by decide +kernel
theorem dX0_grazePane_1 : decode cX0_grazePane 1 = .ok (.getfield 33, 3) := by decide +kernel
theorem dX0_grazePane_4 : decode cX0_grazePane 4 = .ok (.getfield 125, 3) := by decide +kernel
theorem dX0_grazePane_7 : decode cX0_grazePane 7 = .ok (.iload_n 1, 1) := by decide +kernel
theorem dX0_grazePane_8 : decode cX0_grazePane 8 = .ok (.iaload, 1) := by decide +kernel
theorem dX0_grazePane_9 : decode cX0_grazePane 9 = .ok (.aload_n 0, 1) := by decide +kernel
theorem dX0_grazePane_10 : decode cX0_grazePane 10 = .ok (.getfield 18, 3) := by decide +kernel
theorem dX0_grazePane_13 : decode cX0_grazePane 13 = .ok (.iload_n 1, 1) := by decide +kernel
theorem dX0_grazePane_14 : decode cX0_grazePane 14 = .ok (.iaload, 1) := by decide +kernel
theorem dX0_grazePane_15 : decode cX0_grazePane 15 = .ok (.invokestatic 106, 3) := by decide +kernel
theorem dX0_grazePane_18 : decode cX0_grazePane 18 = .ok (.istore_n 2, 1) := by decide +kernel
theorem dX0_grazePane_19 : decode cX0_grazePane 19 = .ok (.aload_n 0, 1) := by decide +kernel
theorem dX0_grazePane_20 : decode cX0_grazePane 20 = .ok (.getfield 18, 3) := by decide +kernel
theorem dX0_grazePane_23 : decode cX0_grazePane 23 = .ok (.iload_n 1, 1) := by decide +kernel
theorem dX0_grazePane_24 : decode cX0_grazePane 24 = .ok (.dup2, 1) := by decide +kernel
theorem dX0_grazePane_25 : decode cX0_grazePane 25 = .ok (.iaload, 1) := by decide +kernel
theorem dX0_grazePane_26 : decode cX0_grazePane 26 = .ok (.iload_n 2, 1) := by decide +kernel
theorem dX0_grazePane_27 : decode cX0_grazePane 27 = .ok (.isub, 1) := by decide +kernel
theorem dX0_grazePane_28 : decode cX0_grazePane 28 = .ok (.iastore, 1) := by decide +kernel
theorem dX0_grazePane_29 : decode cX0_grazePane 29 = .ok (.aload_n 0, 1) := by decide +kernel
theorem dX0_grazePane_30 : decode cX0_grazePane 30 = .ok (.getfield 30, 3) := by decide +kernel
theorem dX0_grazePane_33 : decode cX0_grazePane 33 = .ok (.iload_n 1, 1) := by decide +kernel
theorem dX0_grazePane_34 : decode cX0_grazePane 34 = .ok (.dup2, 1) := by decide +kernel
theorem dX0_grazePane_35 : decode cX0_grazePane 35 = .ok (.iaload, 1) := by decide +kernel
theorem dX0_grazePane_36 : decode cX0_grazePane 36 = .ok (.iload_n 2, 1) := by decide +kernel
theorem dX0_grazePane_37 : decode cX0_grazePane 37 = .ok (.iadd, 1) := by decide +kernel
theorem dX0_grazePane_38 : decode cX0_grazePane 38 = .ok (.iastore, 1) := by decide +kernel
theorem dX0_grazePane_39 : decode cX0_grazePane 39 = .ok (.return_, 1) := by decide +kernel
theorem dX1_init_0 : decode cX1_init 0 = .ok (.aload_n 0, 1) := by decide +kernel
theorem dX1_init_1 : decode cX1_init 1 = .ok (.invokespecial 3, 3) := by decide +kernel
theorem dX1_init_4 : decode cX1_init 4 = .ok (.aload_n 0, 1) := by decide +kernel
theorem dX1_init_5 : decode cX1_init 5 = .ok (.bipush 60, 2) := by decide +kernel
theorem dX1_init_7 : decode cX1_init 7 = .ok (.newarray .int, 2) := by decide +kernel
theorem dX1_init_9 : decode cX1_init 9 = .ok (.putfield 9, 3) := by decide +kernel
theorem dX1_init_12 : decode cX1_init 12 = .ok (.aload_n 0, 1) := by decide +kernel
theorem dX1_init_13 : decode cX1_init 13 = .ok (.bipush 60, 2) := by decide +kernel
theorem dX1_init_15 : decode cX1_init 15 = .ok (.newarray .int, 2) := by decide +kernel
theorem dX1_init_17 : decode cX1_init 17 = .ok (.putfield 15, 3) := by decide +kernel
theorem dX1_init_20 : decode cX1_init 20 = .ok (.aload_n 0, 1) := by decide +kernel
theorem dX1_init_21 : decode cX1_init 21 = .ok (.bipush 60, 2) := by decide +kernel
theorem dX1_init_23 : decode cX1_init 23 = .ok (.newarray .int, 2) := by decide +kernel
theorem dX1_init_25 : decode cX1_init 25 = .ok (.putfield 18, 3) := by decide +kernel
theorem dX1_init_28 : decode cX1_init 28 = .ok (.aload_n 0, 1) := by decide +kernel
theorem dX1_init_29 : decode cX1_init 29 = .ok (.iconst 4, 1) := by decide +kernel
theorem dX1_init_30 : decode cX1_init 30 = .ok (.newarray .int, 2) := by decide +kernel
theorem dX1_init_32 : decode cX1_init 32 = .ok (.putfield 21, 3) := by decide +kernel
theorem dX1_init_35 : decode cX1_init 35 = .ok (.return_, 1) := by decide +kernel
theorem dX1_enterTurn_0 : decode cX1_enterTurn 0 = .ok (.aload_n 0, 1) := by decide +kernel
theorem dX1_enterTurn_1 : decode cX1_enterTurn 1 = .ok (.getfield 21, 3) := by decide +kernel
theorem dX1_enterTurn_4 : decode cX1_enterTurn 4 = .ok (.iload_n 3, 1) := by decide +kernel
theorem dX1_enterTurn_5 : decode cX1_enterTurn 5 = .ok (.dup2, 1) := by decide +kernel
theorem dX1_enterTurn_6 : decode cX1_enterTurn 6 = .ok (.iaload, 1) := by decide +kernel
theorem dX1_enterTurn_7 : decode cX1_enterTurn 7 = .ok (.iconst 1, 1) := by decide +kernel
theorem dX1_enterTurn_8 : decode cX1_enterTurn 8 = .ok (.iadd, 1) := by decide +kernel
theorem dX1_enterTurn_9 : decode cX1_enterTurn 9 = .ok (.iastore, 1) := by decide +kernel
theorem dX1_enterTurn_10 : decode cX1_enterTurn 10 = .ok (.aload_n 0, 1) := by decide +kernel
theorem dX1_enterTurn_11 : decode cX1_enterTurn 11 = .ok (.iload_n 1, 1) := by decide +kernel
theorem dX1_enterTurn_12 : decode cX1_enterTurn 12 = .ok (.iconst 1, 1) := by decide +kernel
theorem dX1_enterTurn_13 : decode cX1_enterTurn 13 = .ok (.iload_n 2, 1) := by decide +kernel
theorem dX1_enterTurn_14 : decode cX1_enterTurn 14 = .ok (.invokevirtual 24, 3) := by decide +kernel
theorem dX1_enterTurn_17 : decode cX1_enterTurn 17 = .ok (.return_, 1) := by decide +kernel
theorem dX1_enter_0 : decode cX1_enter 0 = .ok (.aload_n 0, 1) := by decide +kernel
theorem dX1_enter_1 : decode cX1_enter 1 = .ok (.dup, 1) := by decide +kernel
theorem dX1_enter_2 : decode cX1_enter 2 = .ok (.getfield 28, 3) := by decide +kernel
theorem dX1_enter_5 : decode cX1_enter 5 = .ok (.iconst 1, 1) := by decide +kernel
theorem dX1_enter_6 : decode cX1_enter 6 = .ok (.iadd, 1) := by decide +kernel
theorem dX1_enter_7 : decode cX1_enter 7 = .ok (.putfield 28, 3) := by decide +kernel
theorem dX1_enter_10 : decode cX1_enter 10 = .ok (.aload_n 0, 1) := by decide +kernel
theorem dX1_enter_11 : decode cX1_enter 11 = .ok (.getfield 32, 3) := by decide +kernel
theorem dX1_enter_14 : decode cX1_enter 14 = .ok (.bipush 60, 2) := by decide +kernel
theorem dX1_enter_16 : decode cX1_enter 16 = .ok (.if_icmp .ge 43, 3) := by decide +kernel
theorem dX1_enter_19 : decode cX1_enter 19 = .ok (.aload_n 0, 1) := by decide +kernel
theorem dX1_enter_20 : decode cX1_enter 20 = .ok (.getfield 9, 3) := by decide +kernel
theorem dX1_enter_23 : decode cX1_enter 23 = .ok (.aload_n 0, 1) := by decide +kernel
theorem dX1_enter_24 : decode cX1_enter 24 = .ok (.getfield 32, 3) := by decide +kernel
theorem dX1_enter_27 : decode cX1_enter 27 = .ok (.iload_n 1, 1) := by decide +kernel
theorem dX1_enter_28 : decode cX1_enter 28 = .ok (.iastore, 1) := by decide +kernel
theorem dX1_enter_29 : decode cX1_enter 29 = .ok (.aload_n 0, 1) := by decide +kernel
theorem dX1_enter_30 : decode cX1_enter 30 = .ok (.getfield 15, 3) := by decide +kernel
theorem dX1_enter_33 : decode cX1_enter 33 = .ok (.aload_n 0, 1) := by decide +kernel
theorem dX1_enter_34 : decode cX1_enter 34 = .ok (.getfield 32, 3) := by decide +kernel
theorem dX1_enter_37 : decode cX1_enter 37 = .ok (.iload_n 2, 1) := by decide +kernel
theorem dX1_enter_38 : decode cX1_enter 38 = .ok (.iastore, 1) := by decide +kernel
theorem dX1_enter_39 : decode cX1_enter 39 = .ok (.aload_n 0, 1) := by decide +kernel
theorem dX1_enter_40 : decode cX1_enter 40 = .ok (.getfield 18, 3) := by decide +kernel
theorem dX1_enter_43 : decode cX1_enter 43 = .ok (.aload_n 0, 1) := by decide +kernel
theorem dX1_enter_44 : decode cX1_enter 44 = .ok (.getfield 32, 3) := by decide +kernel
theorem dX1_enter_47 : decode cX1_enter 47 = .ok (.iload_n 3, 1) := by decide +kernel
theorem dX1_enter_48 : decode cX1_enter 48 = .ok (.iastore, 1) := by decide +kernel
theorem dX1_enter_49 : decode cX1_enter 49 = .ok (.aload_n 0, 1) := by decide +kernel
theorem dX1_enter_50 : decode cX1_enter 50 = .ok (.dup, 1) := by decide +kernel
theorem dX1_enter_51 : decode cX1_enter 51 = .ok (.getfield 32, 3) := by decide +kernel
theorem dX1_enter_54 : decode cX1_enter 54 = .ok (.iconst 1, 1) := by decide +kernel
theorem dX1_enter_55 : decode cX1_enter 55 = .ok (.iadd, 1) := by decide +kernel
theorem dX1_enter_56 : decode cX1_enter 56 = .ok (.putfield 32, 3) := by decide +kernel
theorem dX1_enter_59 : decode cX1_enter 59 = .ok (.return_, 1) := by decide +kernel
theorem dX2_init_0 : decode cX2_init 0 = .ok (.aload_n 0, 1) := by decide +kernel
theorem dX2_init_1 : decode cX2_init 1 = .ok (.invokespecial 3, 3) := by decide +kernel
theorem dX2_init_4 : decode cX2_init 4 = .ok (.aload_n 0, 1) := by decide +kernel
theorem dX2_init_5 : decode cX2_init 5 = .ok (.bipush 6, 2) := by decide +kernel
theorem dX2_init_7 : decode cX2_init 7 = .ok (.newarray .int, 2) := by decide +kernel
theorem dX2_init_9 : decode cX2_init 9 = .ok (.putfield 9, 3) := by decide +kernel
theorem dX2_init_12 : decode cX2_init 12 = .ok (.aload_n 0, 1) := by decide +kernel
theorem dX2_init_13 : decode cX2_init 13 = .ok (.bipush 6, 2) := by decide +kernel
theorem dX2_init_15 : decode cX2_init 15 = .ok (.newarray .int, 2) := by decide +kernel
theorem dX2_init_17 : decode cX2_init 17 = .ok (.putfield 15, 3) := by decide +kernel
theorem dX2_init_20 : decode cX2_init 20 = .ok (.aload_n 0, 1) := by decide +kernel
theorem dX2_init_21 : decode cX2_init 21 = .ok (.bipush 6, 2) := by decide +kernel
theorem dX2_init_23 : decode cX2_init 23 = .ok (.newarray .int, 2) := by decide +kernel
theorem dX2_init_25 : decode cX2_init 25 = .ok (.putfield 18, 3) := by decide +kernel
theorem dX2_init_28 : decode cX2_init 28 = .ok (.aload_n 0, 1) := by decide +kernel
theorem dX2_init_29 : decode cX2_init 29 = .ok (.bipush 6, 2) := by decide +kernel
theorem dX2_init_31 : decode cX2_init 31 = .ok (.newarray .int, 2) := by decide +kernel
theorem dX2_init_33 : decode cX2_init 33 = .ok (.putfield 21, 3) := by decide +kernel
theorem dX2_init_36 : decode cX2_init 36 = .ok (.aload_n 0, 1) := by decide +kernel
theorem dX2_init_37 : decode cX2_init 37 = .ok (.bipush 24, 2) := by decide +kernel
theorem dX2_init_39 : decode cX2_init 39 = .ok (.newarray .int, 2) := by decide +kernel
theorem dX2_init_41 : decode cX2_init 41 = .ok (.putfield 24, 3) := by decide +kernel
theorem dX2_init_44 : decode cX2_init 44 = .ok (.aload_n 0, 1) := by decide +kernel
theorem dX2_init_45 : decode cX2_init 45 = .ok (.bipush 100, 2) := by decide +kernel
theorem dX2_init_47 : decode cX2_init 47 = .ok (.putfield 27, 3) := by decide +kernel
theorem dX2_init_50 : decode cX2_init 50 = .ok (.aload_n 0, 1) := by decide +kernel
theorem dX2_init_51 : decode cX2_init 51 = .ok (.iconst 5, 1) := by decide +kernel
theorem dX2_init_52 : decode cX2_init 52 = .ok (.putfield 31, 3) := by decide +kernel
theorem dX2_init_55 : decode cX2_init 55 = .ok (.return_, 1) := by decide +kernel
theorem dX2_isHatch_0 : decode cX2_isHatch 0 = .ok (.iload_n 1, 1) := by decide +kernel
theorem dX2_isHatch_1 : decode cX2_isHatch 1 = .ok (.ifCond .lt 15, 3) := by decide +kernel
theorem dX2_isHatch_4 : decode cX2_isHatch 4 = .ok (.iload_n 1, 1) := by decide +kernel
theorem dX2_isHatch_5 : decode cX2_isHatch 5 = .ok (.aload_n 0, 1) := by decide +kernel
theorem dX2_isHatch_6 : decode cX2_isHatch 6 = .ok (.getfield 34, 3) := by decide +kernel
theorem dX2_isHatch_9 : decode cX2_isHatch 9 = .ok (.if_icmp .ge 7, 3) := by decide +kernel
theorem dX2_isHatch_12 : decode cX2_isHatch 12 = .ok (.iconst 1, 1) := by decide +kernel
theorem dX2_isHatch_13 : decode cX2_isHatch 13 = .ok (.goto 4, 3) := by decide +kernel
theorem dX2_isHatch_16 : decode cX2_isHatch 16 = .ok (.iconst 0, 1) := by decide +kernel
theorem dX2_isHatch_17 : decode cX2_isHatch 17 = .ok (.ireturn, 1) := by decide +kernel
theorem dX2_isPane_0 : decode cX2_isPane 0 = .ok (.aload_n 0, 1) := by decide +kernel
theorem dX2_isPane_1 : decode cX2_isPane 1 = .ok (.iload_n 1, 1) := by decide +kernel
theorem dX2_isPane_2 : decode cX2_isPane 2 = .ok (.invokevirtual 37, 3) := by decide +kernel
theorem dX2_isPane_5 : decode cX2_isPane 5 = .ok (.ifCond .eq 21, 3) := by decide +kernel
theorem dX2_isPane_8 : decode cX2_isPane 8 = .ok (.iload_n 2, 1) := by decide +kernel
theorem dX2_isPane_9 : decode cX2_isPane 9 = .ok (.ifCond .lt 17, 3) := by decide +kernel
theorem dX2_isPane_12 : decode cX2_isPane 12 = .ok (.iload_n 2, 1) := by decide +kernel
theorem dX2_isPane_13 : decode cX2_isPane 13 = .ok (.aload_n 0, 1) := by decide +kernel
theorem dX2_isPane_14 : decode cX2_isPane 14 = .ok (.getfield 18, 3) := by decide +kernel
theorem dX2_isPane_17 : decode cX2_isPane 17 = .ok (.iload_n 1, 1) := by decide +kernel
theorem dX2_isPane_18 : decode cX2_isPane 18 = .ok (.iaload, 1) := by decide +kernel
theorem dX2_isPane_19 : decode cX2_isPane 19 = .ok (.if_icmp .ge 7, 3) := by decide +kernel
theorem dX2_isPane_22 : decode cX2_isPane 22 = .ok (.iconst 1, 1) := by decide +kernel
theorem dX2_isPane_23 : decode cX2_isPane 23 = .ok (.goto 4, 3) := by decide +kernel
theorem dX2_isPane_26 : decode cX2_isPane 26 = .ok (.iconst 0, 1) := by decide +kernel
theorem dX2_isPane_27 : decode cX2_isPane 27 = .ok (.ireturn, 1) := by decide +kernel
theorem dX2_addHatch_0 : decode cX2_addHatch 0 = .ok (.aload_n 0, 1) := by decide +kernel
end
section
theorem dX2_addHatch_1 : decode cX2_addHatch 1 = .ok (.getfield 34, 3) := by decide +kernel
theorem dX2_addHatch_4 : decode cX2_addHatch 4 = .ok (.istore 4, 2) := by decide +kernel
theorem dX2_addHatch_6 : decode cX2_addHatch 6 = .ok (.aload_n 0, 1) := by decide +kernel
theorem dX2_addHatch_7 : decode cX2_addHatch 7 = .ok (.getfield 9, 3) := by decide +kernel
theorem dX2_addHatch_10 : decode cX2_addHatch 10 = .ok (.iload 4, 2) := by decide +kernel
theorem dX2_addHatch_12 : decode cX2_addHatch 12 = .ok (.iload_n 1, 1) := by decide +kernel
theorem dX2_addHatch_13 : decode cX2_addHatch 13 = .ok (.iastore, 1) := by decide +kernel
theorem dX2_addHatch_14 : decode cX2_addHatch 14 = .ok (.aload_n 0, 1) := by decide +kernel
theorem dX2_addHatch_15 : decode cX2_addHatch 15 = .ok (.getfield 15, 3) := by decide +kernel
theorem dX2_addHatch_18 : decode cX2_addHatch 18 = .ok (.iload 4, 2) := by decide +kernel
theorem dX2_addHatch_20 : decode cX2_addHatch 20 = .ok (.iload_n 2, 1) := by decide +kernel
theorem dX2_addHatch_21 : decode cX2_addHatch 21 = .ok (.iastore, 1) := by decide +kernel
theorem dX2_addHatch_22 : decode cX2_addHatch 22 = .ok (.aload_n 0, 1) := by decide +kernel
theorem dX2_addHatch_23 : decode cX2_addHatch 23 = .ok (.getfield 18, 3) := by decide +kernel
theorem dX2_addHatch_26 : decode cX2_addHatch 26 = .ok (.iload 4, 2) := by decide +kernel
theorem dX2_addHatch_28 : decode cX2_addHatch 28 = .ok (.iload_n 3, 1) := by decide +kernel
theorem dX2_addHatch_29 : decode cX2_addHatch 29 = .ok (.iastore, 1) := by decide +kernel
theorem dX2_addHatch_30 : decode cX2_addHatch 30 = .ok (.aload_n 0, 1) := by decide +kernel
theorem dX2_addHatch_31 : decode cX2_addHatch 31 = .ok (.dup, 1) := by decide +kernel
theorem dX2_addHatch_32 : decode cX2_addHatch 32 = .ok (.getfield 34, 3) := by decide +kernel
theorem dX2_addHatch_35 : decode cX2_addHatch 35 = .ok (.iconst 1, 1) := by decide +kernel
theorem dX2_addHatch_36 : decode cX2_addHatch 36 = .ok (.iadd, 1) := by decide +kernel
theorem dX2_addHatch_37 : decode cX2_addHatch 37 = .ok (.putfield 34, 3) := by decide +kernel
theorem dX2_addHatch_40 : decode cX2_addHatch 40 = .ok (.iload 4, 2) := by decide +kernel
theorem dX2_addHatch_42 : decode cX2_addHatch 42 = .ok (.ireturn, 1) := by decide +kernel
theorem dX2_isLawless_0 : decode cX2_isLawless 0 = .ok (.aload_n 0, 1) := by decide +kernel
theorem dX2_isLawless_1 : decode cX2_isLawless 1 = .ok (.getfield 27, 3) := by decide +kernel
theorem dX2_isLawless_4 : decode cX2_isLawless 4 = .ok (.sipush 400, 3) := by decide +kernel
theorem dX2_isLawless_7 : decode cX2_isLawless 7 = .ok (.if_icmp .le 7, 3) := by decide +kernel
theorem dX2_isLawless_10 : decode cX2_isLawless 10 = .ok (.iconst 1, 1) := by decide +kernel
theorem dX2_isLawless_11 : decode cX2_isLawless 11 = .ok (.goto 4, 3) := by decide +kernel
theorem dX2_isLawless_14 : decode cX2_isLawless 14 = .ok (.iconst 0, 1) := by decide +kernel
theorem dX2_isLawless_15 : decode cX2_isLawless 15 = .ok (.ireturn, 1) := by decide +kernel
theorem dX2_isOutOfTurn_0 : decode cX2_isOutOfTurn 0 = .ok (.iload_n 2, 1) := by decide +kernel
theorem dX2_isOutOfTurn_1 : decode cX2_isOutOfTurn 1 = .ok (.bipush 24, 2) := by decide +kernel
theorem dX2_isOutOfTurn_3 : decode cX2_isOutOfTurn 3 = .ok (.idiv, 1) := by decide +kernel
theorem dX2_isOutOfTurn_4 : decode cX2_isOutOfTurn 4 = .ok (.iconst 4, 1) := by decide +kernel
theorem dX2_isOutOfTurn_5 : decode cX2_isOutOfTurn 5 = .ok (.irem, 1) := by decide +kernel
theorem dX2_isOutOfTurn_6 : decode cX2_isOutOfTurn 6 = .ok (.aload_n 0, 1) := by decide +kernel
theorem dX2_isOutOfTurn_7 : decode cX2_isOutOfTurn 7 = .ok (.getfield 9, 3) := by decide +kernel
theorem dX2_isOutOfTurn_10 : decode cX2_isOutOfTurn 10 = .ok (.iload_n 1, 1) := by decide +kernel
theorem dX2_isOutOfTurn_11 : decode cX2_isOutOfTurn 11 = .ok (.iaload, 1) := by decide +kernel
theorem dX2_isOutOfTurn_12 : decode cX2_isOutOfTurn 12 = .ok (.if_icmp .ne 7, 3) := by decide +kernel
theorem dX2_isOutOfTurn_15 : decode cX2_isOutOfTurn 15 = .ok (.iconst 1, 1) := by decide +kernel
theorem dX2_isOutOfTurn_16 : decode cX2_isOutOfTurn 16 = .ok (.goto 4, 3) := by decide +kernel
theorem dX2_isOutOfTurn_19 : decode cX2_isOutOfTurn 19 = .ok (.iconst 0, 1) := by decide +kernel
theorem dX2_isOutOfTurn_20 : decode cX2_isOutOfTurn 20 = .ok (.istore_n 3, 1) := by decide +kernel
theorem dX2_isOutOfTurn_21 : decode cX2_isOutOfTurn 21 = .ok (.iload_n 3, 1) := by decide +kernel
theorem dX2_isOutOfTurn_22 : decode cX2_isOutOfTurn 22 = .ok (.ifCond .ne 21, 3) := by decide +kernel
theorem dX2_isOutOfTurn_25 : decode cX2_isOutOfTurn 25 = .ok (.aload_n 0, 1) := by decide +kernel
theorem dX2_isOutOfTurn_26 : decode cX2_isOutOfTurn 26 = .ok (.getfield 31, 3) := by decide +kernel
theorem dX2_isOutOfTurn_29 : decode cX2_isOutOfTurn 29 = .ok (.ifCond .lt 14, 3) := by decide +kernel
theorem dX2_isOutOfTurn_32 : decode cX2_isOutOfTurn 32 = .ok (.aload_n 0, 1) := by decide +kernel
theorem dX2_isOutOfTurn_33 : decode cX2_isOutOfTurn 33 = .ok (.invokevirtual 41, 3) := by decide +kernel
theorem dX2_isOutOfTurn_36 : decode cX2_isOutOfTurn 36 = .ok (.ifCond .ne 7, 3) := by decide +kernel
theorem dX2_isOutOfTurn_39 : decode cX2_isOutOfTurn 39 = .ok (.iconst 1, 1) := by decide +kernel
theorem dX2_isOutOfTurn_40 : decode cX2_isOutOfTurn 40 = .ok (.goto 4, 3) := by decide +kernel
theorem dX2_isOutOfTurn_43 : decode cX2_isOutOfTurn 43 = .ok (.iconst 0, 1) := by decide +kernel
theorem dX2_isOutOfTurn_44 : decode cX2_isOutOfTurn 44 = .ok (.ireturn, 1) := by decide +kernel
theorem dX2_rightAt_0 : decode cX2_rightAt 0 = .ok (.iload_n 1, 1) := by decide +kernel
theorem dX2_rightAt_1 : decode cX2_rightAt 1 = .ok (.bipush 24, 2) := by decide +kernel
theorem dX2_rightAt_3 : decode cX2_rightAt 3 = .ok (.irem, 1) := by decide +kernel
theorem dX2_rightAt_4 : decode cX2_rightAt 4 = .ok (.istore_n 2, 1) := by decide +kernel
theorem dX2_rightAt_5 : decode cX2_rightAt 5 = .ok (.iload_n 2, 1) := by decide +kernel
theorem dX2_rightAt_6 : decode cX2_rightAt 6 = .ok (.aload_n 0, 1) := by decide +kernel
theorem dX2_rightAt_7 : decode cX2_rightAt 7 = .ok (.getfield 45, 3) := by decide +kernel
theorem dX2_rightAt_10 : decode cX2_rightAt 10 = .ok (.if_icmp .lt 22, 3) := by decide +kernel
theorem dX2_rightAt_13 : decode cX2_rightAt 13 = .ok (.iload_n 2, 1) := by decide +kernel
theorem dX2_rightAt_14 : decode cX2_rightAt 14 = .ok (.aload_n 0, 1) := by decide +kernel
theorem dX2_rightAt_15 : decode cX2_rightAt 15 = .ok (.getfield 48, 3) := by decide +kernel
theorem dX2_rightAt_18 : decode cX2_rightAt 18 = .ok (.if_icmp .ge 14, 3) := by decide +kernel
theorem dX2_rightAt_21 : decode cX2_rightAt 21 = .ok (.aload_n 0, 1) := by decide +kernel
theorem dX2_rightAt_22 : decode cX2_rightAt 22 = .ok (.invokevirtual 41, 3) := by decide +kernel
theorem dX2_rightAt_25 : decode cX2_rightAt 25 = .ok (.ifCond .ne 7, 3) := by decide +kernel
theorem dX2_rightAt_28 : decode cX2_rightAt 28 = .ok (.iconst 1, 1) := by decide +kernel
theorem dX2_rightAt_29 : decode cX2_rightAt 29 = .ok (.goto 4, 3) := by decide +kernel
theorem dX2_rightAt_32 : decode cX2_rightAt 32 = .ok (.iconst 0, 1) := by decide +kernel
theorem dX2_rightAt_33 : decode cX2_rightAt 33 = .ok (.istore_n 3, 1) := by decide +kernel
theorem dX2_rightAt_34 : decode cX2_rightAt 34 = .ok (.iload_n 3, 1) := by decide +kernel
theorem dX2_rightAt_35 : decode cX2_rightAt 35 = .ok (.ifCond .eq 10, 3) := by decide +kernel
theorem dX2_rightAt_38 : decode cX2_rightAt 38 = .ok (.aload_n 0, 1) := by decide +kernel
theorem dX2_rightAt_39 : decode cX2_rightAt 39 = .ok (.getfield 51, 3) := by decide +kernel
theorem dX2_rightAt_42 : decode cX2_rightAt 42 = .ok (.goto 4, 3) := by decide +kernel
theorem dX2_rightAt_45 : decode cX2_rightAt 45 = .ok (.iconst 0, 1) := by decide +kernel
theorem dX2_rightAt_46 : decode cX2_rightAt 46 = .ok (.ireturn, 1) := by decide +kernel
theorem dX2_isGrazing_0 : decode cX2_isGrazing 0 = .ok (.iload_n 1, 1) := by decide +kernel
theorem dX2_isGrazing_1 : decode cX2_isGrazing 1 = .ok (.bipush 24, 2) := by decide +kernel
theorem dX2_isGrazing_3 : decode cX2_isGrazing 3 = .ok (.irem, 1) := by decide +kernel
theorem dX2_isGrazing_4 : decode cX2_isGrazing 4 = .ok (.bipush 6, 2) := by decide +kernel
theorem dX2_isGrazing_6 : decode cX2_isGrazing 6 = .ok (.bipush 17, 2) := by decide +kernel
theorem dX2_isGrazing_8 : decode cX2_isGrazing 8 = .ok (.invokestatic 54, 3) := by decide +kernel
theorem dX2_isGrazing_11 : decode cX2_isGrazing 11 = .ok (.ireturn, 1) := by decide +kernel
theorem dX3_init_0 : decode cX3_init 0 = .ok (.aload_n 0, 1) := by decide +kernel
theorem dX3_init_1 : decode cX3_init 1 = .ok (.invokespecial 1, 3) := by decide +kernel
theorem dX3_init_4 : decode cX3_init 4 = .ok (.aload_n 0, 1) := by decide +kernel
theorem dX3_init_5 : decode cX3_init 5 = .ok (.new 7, 3) := by decide +kernel
theorem dX3_init_8 : decode cX3_init 8 = .ok (.dup, 1) := by decide +kernel
theorem dX3_init_9 : decode cX3_init 9 = .ok (.invokespecial 9, 3) := by decide +kernel
theorem dX3_init_12 : decode cX3_init 12 = .ok (.putfield 10, 3) := by decide +kernel
theorem dX3_init_15 : decode cX3_init 15 = .ok (.aload_n 0, 1) := by decide +kernel
theorem dX3_init_16 : decode cX3_init 16 = .ok (.new 16, 3) := by decide +kernel
theorem dX3_init_19 : decode cX3_init 19 = .ok (.dup, 1) := by decide +kernel
theorem dX3_init_20 : decode cX3_init 20 = .ok (.invokespecial 18, 3) := by decide +kernel
theorem dX3_init_23 : decode cX3_init 23 = .ok (.putfield 19, 3) := by decide +kernel
theorem dX3_init_26 : decode cX3_init 26 = .ok (.aload_n 0, 1) := by decide +kernel
theorem dX3_init_27 : decode cX3_init 27 = .ok (.new 23, 3) := by decide +kernel
theorem dX3_init_30 : decode cX3_init 30 = .ok (.dup, 1) := by decide +kernel
theorem dX3_init_31 : decode cX3_init 31 = .ok (.aload_n 0, 1) := by decide +kernel
theorem dX3_init_32 : decode cX3_init 32 = .ok (.getfield 10, 3) := by decide +kernel
theorem dX3_init_35 : decode cX3_init 35 = .ok (.iconst (-1), 1) := by decide +kernel
theorem dX3_init_36 : decode cX3_init 36 = .ok (.invokespecial 25, 3) := by decide +kernel
theorem dX3_init_39 : decode cX3_init 39 = .ok (.putfield 28, 3) := by decide +kernel
theorem dX3_init_42 : decode cX3_init 42 = .ok (.aload_n 0, 1) := by decide +kernel
theorem dX3_init_43 : decode cX3_init 43 = .ok (.bipush 6, 2) := by decide +kernel
theorem dX3_init_45 : decode cX3_init 45 = .ok (.anewarray 23, 3) := by decide +kernel
theorem dX3_init_48 : decode cX3_init 48 = .ok (.putfield 32, 3) := by decide +kernel
theorem dX3_init_51 : decode cX3_init 51 = .ok (.iconst 0, 1) := by decide +kernel
theorem dX3_init_52 : decode cX3_init 52 = .ok (.istore_n 1, 1) := by decide +kernel
theorem dX3_init_53 : decode cX3_init 53 = .ok (.iload_n 1, 1) := by decide +kernel
theorem dX3_init_54 : decode cX3_init 54 = .ok (.bipush 6, 2) := by decide +kernel
theorem dX3_init_56 : decode cX3_init 56 = .ok (.if_icmp .ge 27, 3) := by decide +kernel
theorem dX3_init_59 : decode cX3_init 59 = .ok (.aload_n 0, 1) := by decide +kernel
theorem dX3_init_60 : decode cX3_init 60 = .ok (.getfield 32, 3) := by decide +kernel
theorem dX3_init_63 : decode cX3_init 63 = .ok (.iload_n 1, 1) := by decide +kernel
theorem dX3_init_64 : decode cX3_init 64 = .ok (.new 23, 3) := by decide +kernel
theorem dX3_init_67 : decode cX3_init 67 = .ok (.dup, 1) := by decide +kernel
theorem dX3_init_68 : decode cX3_init 68 = .ok (.aload_n 0, 1) := by decide +kernel
theorem dX3_init_69 : decode cX3_init 69 = .ok (.getfield 10, 3) := by decide +kernel
theorem dX3_init_72 : decode cX3_init 72 = .ok (.iload_n 1, 1) := by decide +kernel
theorem dX3_init_73 : decode cX3_init 73 = .ok (.invokespecial 25, 3) := by decide +kernel
theorem dX3_init_76 : decode cX3_init 76 = .ok (.aastore, 1) := by decide +kernel
theorem dX3_init_77 : decode cX3_init 77 = .ok (.iinc 1 1, 3) := by decide +kernel
theorem dX3_init_80 : decode cX3_init 80 = .ok (.goto (-27), 3) := by decide +kernel
theorem dX3_init_83 : decode cX3_init 83 = .ok (.return_, 1) := by decide +kernel
theorem dX3_hatch_0 : decode cX3_hatch 0 = .ok (.iload_n 1, 1) := by decide +kernel
theorem dX3_hatch_1 : decode cX3_hatch 1 = .ok (.iconst 0, 1) := by decide +kernel
theorem dX3_hatch_2 : decode cX3_hatch 2 = .ok (.iconst 3, 1) := by decide +kernel
theorem dX3_hatch_3 : decode cX3_hatch 3 = .ok (.invokestatic 36, 3) := by decide +kernel
theorem dX3_hatch_6 : decode cX3_hatch 6 = .ok (.ifCond .eq 23, 3) := by decide +kernel
theorem dX3_hatch_9 : decode cX3_hatch 9 = .ok (.iload_n 2, 1) := by decide +kernel
theorem dX3_hatch_10 : decode cX3_hatch 10 = .ok (.iconst 1, 1) := by decide +kernel
theorem dX3_hatch_11 : decode cX3_hatch 11 = .ok (.sipush 200, 3) := by decide +kernel
theorem dX3_hatch_14 : decode cX3_hatch 14 = .ok (.invokestatic 36, 3) := by decide +kernel
theorem dX3_hatch_17 : decode cX3_hatch 17 = .ok (.ifCond .eq 12, 3) := by decide +kernel
theorem dX3_hatch_20 : decode cX3_hatch 20 = .ok (.iload_n 3, 1) := by decide +kernel
theorem dX3_hatch_21 : decode cX3_hatch 21 = .ok (.iconst 1, 1) := by decide +kernel
theorem dX3_hatch_22 : decode cX3_hatch 22 = .ok (.iconst 4, 1) := by decide +kernel
theorem dX3_hatch_23 : decode cX3_hatch 23 = .ok (.invokestatic 36, 3) := by decide +kernel
theorem dX3_hatch_26 : decode cX3_hatch 26 = .ok (.ifCond .ne 5, 3) := by decide +kernel
theorem dX3_hatch_29 : decode cX3_hatch 29 = .ok (.iconst (-1), 1) := by decide +kernel
theorem dX3_hatch_30 : decode cX3_hatch 30 = .ok (.ireturn, 1) := by decide +kernel
theorem dX3_hatch_31 : decode cX3_hatch 31 = .ok (.aload_n 0, 1) := by decide +kernel
theorem dX3_hatch_32 : decode cX3_hatch 32 = .ok (.getfield 10, 3) := by decide +kernel
theorem dX3_hatch_35 : decode cX3_hatch 35 = .ok (.getfield 40, 3) := by decide +kernel
theorem dX3_hatch_38 : decode cX3_hatch 38 = .ok (.bipush 6, 2) := by decide +kernel
theorem dX3_hatch_40 : decode cX3_hatch 40 = .ok (.if_icmp .ge 10, 3) := by decide +kernel
theorem dX3_hatch_43 : decode cX3_hatch 43 = .ok (.aload_n 0, 1) := by decide +kernel
theorem dX3_hatch_44 : decode cX3_hatch 44 = .ok (.invokevirtual 44, 3) := by decide +kernel
theorem dX3_hatch_47 : decode cX3_hatch 47 = .ok (.ifCond .eq 6, 3) := by decide +kernel
theorem dX3_hatch_50 : decode cX3_hatch 50 = .ok (.bipush (-3), 2) := by decide +kernel
theorem dX3_hatch_52 : decode cX3_hatch 52 = .ok (.ireturn, 1) := by decide +kernel
theorem dX3_hatch_53 : decode cX3_hatch 53 = .ok (.aload_n 0, 1) := by decide +kernel
theorem dX3_hatch_54 : decode cX3_hatch 54 = .ok (.dup, 1) := by decide +kernel
theorem dX3_hatch_55 : decode cX3_hatch 55 = .ok (.getfield 48, 3) := by decide +kernel
theorem dX3_hatch_58 : decode cX3_hatch 58 = .ok (.iconst 1, 1) := by decide +kernel
theorem dX3_hatch_59 : decode cX3_hatch 59 = .ok (.iadd, 1) := by decide +kernel
theorem dX3_hatch_60 : decode cX3_hatch 60 = .ok (.putfield 48, 3) := by decide +kernel
theorem dX3_hatch_63 : decode cX3_hatch 63 = .ok (.aload_n 0, 1) := by decide +kernel
theorem dX3_hatch_64 : decode cX3_hatch 64 = .ok (.getfield 10, 3) := by decide +kernel
theorem dX3_hatch_67 : decode cX3_hatch 67 = .ok (.iload_n 1, 1) := by decide +kernel
theorem dX3_hatch_68 : decode cX3_hatch 68 = .ok (.iload_n 2, 1) := by decide +kernel
theorem dX3_hatch_69 : decode cX3_hatch 69 = .ok (.iload_n 3, 1) := by decide +kernel
theorem dX3_hatch_70 : decode cX3_hatch 70 = .ok (.invokevirtual 51, 3) := by decide +kernel
theorem dX3_hatch_73 : decode cX3_hatch 73 = .ok (.ireturn, 1) := by decide +kernel
theorem dX3_open_0 : decode cX3_open 0 = .ok (.aload_n 0, 1) := by decide +kernel
theorem dX3_open_1 : decode cX3_open 1 = .ok (.getfield 10, 3) := by decide +kernel
theorem dX3_open_4 : decode cX3_open 4 = .ok (.iload_n 1, 1) := by decide +kernel
theorem dX3_open_5 : decode cX3_open 5 = .ok (.invokevirtual 55, 3) := by decide +kernel
theorem dX3_open_8 : decode cX3_open 8 = .ok (.ifCond .eq 12, 3) := by decide +kernel
theorem dX3_open_11 : decode cX3_open 11 = .ok (.iload_n 2, 1) := by decide +kernel
theorem dX3_open_12 : decode cX3_open 12 = .ok (.iconst 0, 1) := by decide +kernel
theorem dX3_open_13 : decode cX3_open 13 = .ok (.iconst 4, 1) := by decide +kernel
theorem dX3_open_14 : decode cX3_open 14 = .ok (.invokestatic 36, 3) := by decide +kernel
theorem dX3_open_17 : decode cX3_open 17 = .ok (.ifCond .ne 5, 3) := by decide +kernel
theorem dX3_open_20 : decode cX3_open 20 = .ok (.iconst (-1), 1) := by decide +kernel
theorem dX3_open_21 : decode cX3_open 21 = .ok (.ireturn, 1) := by decide +kernel
theorem dX3_open_22 : decode cX3_open 22 = .ok (.aload_n 0, 1) := by decide +kernel
theorem dX3_open_23 : decode cX3_open 23 = .ok (.invokevirtual 44, 3) := by decide +kernel
theorem dX3_open_26 : decode cX3_open 26 = .ok (.ifCond .eq 6, 3) := by decide +kernel
theorem dX3_open_29 : decode cX3_open 29 = .ok (.bipush (-3), 2) := by decide +kernel
theorem dX3_open_31 : decode cX3_open 31 = .ok (.ireturn, 1) := by decide +kernel
theorem dX3_open_32 : decode cX3_open 32 = .ok (.aload_n 0, 1) := by decide +kernel
theorem dX3_open_33 : decode cX3_open 33 = .ok (.dup, 1) := by decide +kernel
theorem dX3_open_34 : decode cX3_open 34 = .ok (.getfield 48, 3) := by decide +kernel
theorem dX3_open_37 : decode cX3_open 37 = .ok (.iconst 1, 1) := by decide +kernel
theorem dX3_open_38 : decode cX3_open 38 = .ok (.iadd, 1) := by decide +kernel
theorem dX3_open_39 : decode cX3_open 39 = .ok (.putfield 48, 3) := by decide +kernel
theorem dX3_open_42 : decode cX3_open 42 = .ok (.aload_n 0, 1) := by decide +kernel
theorem dX3_open_43 : decode cX3_open 43 = .ok (.getfield 10, 3) := by decide +kernel
theorem dX3_open_46 : decode cX3_open 46 = .ok (.getfield 59, 3) := by decide +kernel
theorem dX3_open_49 : decode cX3_open 49 = .ok (.iload_n 1, 1) := by decide +kernel
theorem dX3_open_50 : decode cX3_open 50 = .ok (.iaload, 1) := by decide +kernel
theorem dX3_open_51 : decode cX3_open 51 = .ok (.istore_n 3, 1) := by decide +kernel
theorem dX3_open_52 : decode cX3_open 52 = .ok (.aload_n 0, 1) := by decide +kernel
theorem dX3_open_53 : decode cX3_open 53 = .ok (.getfield 10, 3) := by decide +kernel
theorem dX3_open_56 : decode cX3_open 56 = .ok (.getfield 59, 3) := by decide +kernel
theorem dX3_open_59 : decode cX3_open 59 = .ok (.iload_n 1, 1) := by decide +kernel
theorem dX3_open_60 : decode cX3_open 60 = .ok (.iload_n 2, 1) := by decide +kernel
theorem dX3_open_61 : decode cX3_open 61 = .ok (.iastore, 1) := by decide +kernel
theorem dX3_open_62 : decode cX3_open 62 = .ok (.iload_n 3, 1) := by decide +kernel
theorem dX3_open_63 : decode cX3_open 63 = .ok (.ireturn, 1) := by decide +kernel
theorem dX3_flow_0 : decode cX3_flow 0 = .ok (.iload_n 1, 1) := by decide +kernel
theorem dX3_flow_1 : decode cX3_flow 1 = .ok (.iconst 0, 1) := by decide +kernel
theorem dX3_flow_2 : decode cX3_flow 2 = .ok (.sipush 1000, 3) := by decide +kernel
theorem dX3_flow_5 : decode cX3_flow 5 = .ok (.invokestatic 36, 3) := by decide +kernel
theorem dX3_flow_8 : decode cX3_flow 8 = .ok (.ifCond .ne 5, 3) := by decide +kernel
theorem dX3_flow_11 : decode cX3_flow 11 = .ok (.iconst (-1), 1) := by decide +kernel
theorem dX3_flow_12 : decode cX3_flow 12 = .ok (.ireturn, 1) := by decide +kernel
theorem dX3_flow_13 : decode cX3_flow 13 = .ok (.aload_n 0, 1) := by decide +kernel
theorem dX3_flow_14 : decode cX3_flow 14 = .ok (.invokevirtual 44, 3) := by decide +kernel
theorem dX3_flow_17 : decode cX3_flow 17 = .ok (.ifCond .eq 6, 3) := by decide +kernel
theorem dX3_flow_20 : decode cX3_flow 20 = .ok (.bipush (-3), 2) := by decide +kernel
theorem dX3_flow_22 : decode cX3_flow 22 = .ok (.ireturn, 1) := by decide +kernel
theorem dX3_flow_23 : decode cX3_flow 23 = .ok (.aload_n 0, 1) := by decide +kernel
theorem dX3_flow_24 : decode cX3_flow 24 = .ok (.dup, 1) := by decide +kernel
theorem dX3_flow_25 : decode cX3_flow 25 = .ok (.getfield 48, 3) := by decide +kernel
theorem dX3_flow_28 : decode cX3_flow 28 = .ok (.iconst 1, 1) := by decide +kernel
theorem dX3_flow_29 : decode cX3_flow 29 = .ok (.iadd, 1) := by decide +kernel
theorem dX3_flow_30 : decode cX3_flow 30 = .ok (.putfield 48, 3) := by decide +kernel
theorem dX3_flow_33 : decode cX3_flow 33 = .ok (.aload_n 0, 1) := by decide +kernel
theorem dX3_flow_34 : decode cX3_flow 34 = .ok (.getfield 10, 3) := by decide +kernel
theorem dX3_flow_37 : decode cX3_flow 37 = .ok (.getfield 63, 3) := by decide +kernel
theorem dX3_flow_40 : decode cX3_flow 40 = .ok (.istore_n 2, 1) := by decide +kernel
theorem dX3_flow_41 : decode cX3_flow 41 = .ok (.aload_n 0, 1) := by decide +kernel
theorem dX3_flow_42 : decode cX3_flow 42 = .ok (.getfield 10, 3) := by decide +kernel
theorem dX3_flow_45 : decode cX3_flow 45 = .ok (.iload_n 1, 1) := by decide +kernel
theorem dX3_flow_46 : decode cX3_flow 46 = .ok (.putfield 63, 3) := by decide +kernel
theorem dX3_flow_49 : decode cX3_flow 49 = .ok (.iload_n 2, 1) := by decide +kernel
theorem dX3_flow_50 : decode cX3_flow 50 = .ok (.ireturn, 1) := by decide +kernel
theorem dX3_air_0 : decode cX3_air 0 = .ok (.iload_n 1, 1) := by decide +kernel
theorem dX3_air_1 : decode cX3_air 1 = .ok (.bipush (-20), 2) := by decide +kernel
theorem dX3_air_3 : decode cX3_air 3 = .ok (.bipush 30, 2) := by decide +kernel
theorem dX3_air_5 : decode cX3_air 5 = .ok (.invokestatic 36, 3) := by decide +kernel
theorem dX3_air_8 : decode cX3_air 8 = .ok (.ifCond .ne 6, 3) := by decide +kernel
theorem dX3_air_11 : decode cX3_air 11 = .ok (.bipush (-100), 2) := by decide +kernel
theorem dX3_air_13 : decode cX3_air 13 = .ok (.ireturn, 1) := by decide +kernel
theorem dX3_air_14 : decode cX3_air 14 = .ok (.aload_n 0, 1) := by decide +kernel
theorem dX3_air_15 : decode cX3_air 15 = .ok (.invokevirtual 44, 3) := by decide +kernel
theorem dX3_air_18 : decode cX3_air 18 = .ok (.ifCond .eq 6, 3) := by decide +kernel
theorem dX3_air_21 : decode cX3_air 21 = .ok (.bipush (-101), 2) := by decide +kernel
theorem dX3_air_23 : decode cX3_air 23 = .ok (.ireturn, 1) := by decide +kernel
theorem dX3_air_24 : decode cX3_air 24 = .ok (.aload_n 0, 1) := by decide +kernel
theorem dX3_air_25 : decode cX3_air 25 = .ok (.dup, 1) := by decide +kernel
theorem dX3_air_26 : decode cX3_air 26 = .ok (.getfield 48, 3) := by decide +kernel
theorem dX3_air_29 : decode cX3_air 29 = .ok (.iconst 1, 1) := by decide +kernel
theorem dX3_air_30 : decode cX3_air 30 = .ok (.iadd, 1) := by decide +kernel
theorem dX3_air_31 : decode cX3_air 31 = .ok (.putfield 48, 3) := by decide +kernel
theorem dX3_air_34 : decode cX3_air 34 = .ok (.aload_n 0, 1) := by decide +kernel
theorem dX3_air_35 : decode cX3_air 35 = .ok (.getfield 10, 3) := by decide +kernel
theorem dX3_air_38 : decode cX3_air 38 = .ok (.getfield 66, 3) := by decide +kernel
theorem dX3_air_41 : decode cX3_air 41 = .ok (.istore_n 2, 1) := by decide +kernel
theorem dX3_air_42 : decode cX3_air 42 = .ok (.aload_n 0, 1) := by decide +kernel
theorem dX3_air_43 : decode cX3_air 43 = .ok (.getfield 10, 3) := by decide +kernel
theorem dX3_air_46 : decode cX3_air 46 = .ok (.iload_n 1, 1) := by decide +kernel
theorem dX3_air_47 : decode cX3_air 47 = .ok (.putfield 66, 3) := by decide +kernel
theorem dX3_air_50 : decode cX3_air 50 = .ok (.iload_n 2, 1) := by decide +kernel
theorem dX3_air_51 : decode cX3_air 51 = .ok (.ireturn, 1) := by decide +kernel
theorem dX3_dig_0 : decode cX3_dig 0 = .ok (.aload_n 0, 1) := by decide +kernel
theorem dX3_dig_1 : decode cX3_dig 1 = .ok (.getfield 10, 3) := by decide +kernel
theorem dX3_dig_4 : decode cX3_dig 4 = .ok (.iload_n 1, 1) := by decide +kernel
theorem dX3_dig_5 : decode cX3_dig 5 = .ok (.invokevirtual 55, 3) := by decide +kernel
theorem dX3_dig_8 : decode cX3_dig 8 = .ok (.ifCond .ne 5, 3) := by decide +kernel
theorem dX3_dig_11 : decode cX3_dig 11 = .ok (.iconst (-1), 1) := by decide +kernel
theorem dX3_dig_12 : decode cX3_dig 12 = .ok (.ireturn, 1) := by decide +kernel
theorem dX3_dig_13 : decode cX3_dig 13 = .ok (.aload_n 0, 1) := by decide +kernel
theorem dX3_dig_14 : decode cX3_dig 14 = .ok (.invokevirtual 44, 3) := by decide +kernel
theorem dX3_dig_17 : decode cX3_dig 17 = .ok (.ifCond .eq 6, 3) := by decide +kernel
theorem dX3_dig_20 : decode cX3_dig 20 = .ok (.bipush (-3), 2) := by decide +kernel
theorem dX3_dig_22 : decode cX3_dig 22 = .ok (.ireturn, 1) := by decide +kernel
theorem dX3_dig_23 : decode cX3_dig 23 = .ok (.aload_n 0, 1) := by decide +kernel
theorem dX3_dig_24 : decode cX3_dig 24 = .ok (.dup, 1) := by decide +kernel
theorem dX3_dig_25 : decode cX3_dig 25 = .ok (.getfield 48, 3) := by decide +kernel
theorem dX3_dig_28 : decode cX3_dig 28 = .ok (.iconst 1, 1) := by decide +kernel
theorem dX3_dig_29 : decode cX3_dig 29 = .ok (.iadd, 1) := by decide +kernel
theorem dX3_dig_30 : decode cX3_dig 30 = .ok (.putfield 48, 3) := by decide +kernel
theorem dX3_dig_33 : decode cX3_dig 33 = .ok (.aload_n 0, 1) := by decide +kernel
theorem dX3_dig_34 : decode cX3_dig 34 = .ok (.getfield 28, 3) := by decide +kernel
theorem dX3_dig_37 : decode cX3_dig 37 = .ok (.iload_n 1, 1) := by decide +kernel
theorem dX3_dig_38 : decode cX3_dig 38 = .ok (.invokevirtual 69, 3) := by decide +kernel
theorem dX3_dig_41 : decode cX3_dig 41 = .ok (.istore_n 2, 1) := by decide +kernel
theorem dX3_dig_42 : decode cX3_dig 42 = .ok (.aload_n 0, 1) := by decide +kernel
theorem dX3_dig_43 : decode cX3_dig 43 = .ok (.getfield 28, 3) := by decide +kernel
theorem dX3_dig_46 : decode cX3_dig 46 = .ok (.getfield 73, 3) := by decide +kernel
theorem dX3_dig_49 : decode cX3_dig 49 = .ok (.iload_n 1, 1) := by decide +kernel
theorem dX3_dig_50 : decode cX3_dig 50 = .ok (.iconst 0, 1) := by decide +kernel
theorem dX3_dig_51 : decode cX3_dig 51 = .ok (.iastore, 1) := by decide +kernel
theorem dX3_dig_52 : decode cX3_dig 52 = .ok (.iconst 0, 1) := by decide +kernel
theorem dX3_dig_53 : decode cX3_dig 53 = .ok (.istore_n 3, 1) := by decide +kernel
theorem dX3_dig_54 : decode cX3_dig 54 = .ok (.iload_n 3, 1) := by decide +kernel
theorem dX3_dig_55 : decode cX3_dig 55 = .ok (.bipush 6, 2) := by decide +kernel
theorem dX3_dig_57 : decode cX3_dig 57 = .ok (.if_icmp .ge 21, 3) := by decide +kernel
theorem dX3_dig_60 : decode cX3_dig 60 = .ok (.aload_n 0, 1) := by decide +kernel
theorem dX3_dig_61 : decode cX3_dig 61 = .ok (.getfield 32, 3) := by decide +kernel
theorem dX3_dig_64 : decode cX3_dig 64 = .ok (.iload_n 3, 1) := by decide +kernel
theorem dX3_dig_65 : decode cX3_dig 65 = .ok (.aaload, 1) := by decide +kernel
theorem dX3_dig_66 : decode cX3_dig 66 = .ok (.getfield 73, 3) := by decide +kernel
theorem dX3_dig_69 : decode cX3_dig 69 = .ok (.iload_n 1, 1) := by decide +kernel
theorem dX3_dig_70 : decode cX3_dig 70 = .ok (.iconst 0, 1) := by decide +kernel
theorem dX3_dig_71 : decode cX3_dig 71 = .ok (.iastore, 1) := by decide +kernel
theorem dX3_dig_72 : decode cX3_dig 72 = .ok (.iinc 3 1, 3) := by decide +kernel
theorem dX3_dig_75 : decode cX3_dig 75 = .ok (.goto (-21), 3) := by decide +kernel
theorem dX3_dig_78 : decode cX3_dig 78 = .ok (.iload_n 2, 1) := by decide +kernel
theorem dX3_dig_79 : decode cX3_dig 79 = .ok (.ireturn, 1) := by decide +kernel
theorem dX3_sheep_0 : decode cX3_sheep 0 = .ok (.aload_n 0, 1) := by decide +kernel
theorem dX3_sheep_1 : decode cX3_sheep 1 = .ok (.getfield 10, 3) := by decide +kernel
theorem dX3_sheep_4 : decode cX3_sheep 4 = .ok (.iload_n 1, 1) := by decide +kernel
theorem dX3_sheep_5 : decode cX3_sheep 5 = .ok (.iload_n 2, 1) := by decide +kernel
theorem dX3_sheep_6 : decode cX3_sheep 6 = .ok (.invokevirtual 76, 3) := by decide +kernel
theorem dX3_sheep_9 : decode cX3_sheep 9 = .ok (.ifCond .eq 13, 3) := by decide +kernel
theorem dX3_sheep_12 : decode cX3_sheep 12 = .ok (.iload_n 3, 1) := by decide +kernel
theorem dX3_sheep_13 : decode cX3_sheep 13 = .ok (.iconst 0, 1) := by decide +kernel
theorem dX3_sheep_14 : decode cX3_sheep 14 = .ok (.bipush 50, 2) := by decide +kernel
theorem dX3_sheep_16 : decode cX3_sheep 16 = .ok (.invokestatic 36, 3) := by decide +kernel
theorem dX3_sheep_19 : decode cX3_sheep 19 = .ok (.ifCond .ne 5, 3) := by decide +kernel
theorem dX3_sheep_22 : decode cX3_sheep 22 = .ok (.iconst (-1), 1) := by decide +kernel
theorem dX3_sheep_23 : decode cX3_sheep 23 = .ok (.ireturn, 1) := by decide +kernel
theorem dX3_sheep_24 : decode cX3_sheep 24 = .ok (.aload_n 0, 1) := by decide +kernel
theorem dX3_sheep_25 : decode cX3_sheep 25 = .ok (.invokevirtual 44, 3) := by decide +kernel
theorem dX3_sheep_28 : decode cX3_sheep 28 = .ok (.ifCond .eq 6, 3) := by decide +kernel
theorem dX3_sheep_31 : decode cX3_sheep 31 = .ok (.bipush (-3), 2) := by decide +kernel
theorem dX3_sheep_33 : decode cX3_sheep 33 = .ok (.ireturn, 1) := by decide +kernel
theorem dX3_sheep_34 : decode cX3_sheep 34 = .ok (.aload_n 0, 1) := by decide +kernel
theorem dX3_sheep_35 : decode cX3_sheep 35 = .ok (.dup, 1) := by decide +kernel
theorem dX3_sheep_36 : decode cX3_sheep 36 = .ok (.getfield 48, 3) := by decide +kernel
theorem dX3_sheep_39 : decode cX3_sheep 39 = .ok (.iconst 1, 1) := by decide +kernel
theorem dX3_sheep_40 : decode cX3_sheep 40 = .ok (.iadd, 1) := by decide +kernel
theorem dX3_sheep_41 : decode cX3_sheep 41 = .ok (.putfield 48, 3) := by decide +kernel
theorem dX3_sheep_44 : decode cX3_sheep 44 = .ok (.iload_n 1, 1) := by decide +kernel
theorem dX3_sheep_45 : decode cX3_sheep 45 = .ok (.iload_n 2, 1) := by decide +kernel
theorem dX3_sheep_46 : decode cX3_sheep 46 = .ok (.invokestatic 80, 3) := by decide +kernel
theorem dX3_sheep_49 : decode cX3_sheep 49 = .ok (.istore 4, 2) := by decide +kernel
theorem dX3_sheep_51 : decode cX3_sheep 51 = .ok (.aload_n 0, 1) := by decide +kernel
theorem dX3_sheep_52 : decode cX3_sheep 52 = .ok (.getfield 10, 3) := by decide +kernel
theorem dX3_sheep_55 : decode cX3_sheep 55 = .ok (.getfield 84, 3) := by decide +kernel
theorem dX3_sheep_58 : decode cX3_sheep 58 = .ok (.iload 4, 2) := by decide +kernel
theorem dX3_sheep_60 : decode cX3_sheep 60 = .ok (.iaload, 1) := by decide +kernel
theorem dX3_sheep_61 : decode cX3_sheep 61 = .ok (.istore 5, 2) := by decide +kernel
theorem dX3_sheep_63 : decode cX3_sheep 63 = .ok (.aload_n 0, 1) := by decide +kernel
theorem dX3_sheep_64 : decode cX3_sheep 64 = .ok (.getfield 10, 3) := by decide +kernel
theorem dX3_sheep_67 : decode cX3_sheep 67 = .ok (.getfield 84, 3) := by decide +kernel
theorem dX3_sheep_70 : decode cX3_sheep 70 = .ok (.iload 4, 2) := by decide +kernel
theorem dX3_sheep_72 : decode cX3_sheep 72 = .ok (.iload_n 3, 1) := by decide +kernel
theorem dX3_sheep_73 : decode cX3_sheep 73 = .ok (.iastore, 1) := by decide +kernel
theorem dX3_sheep_74 : decode cX3_sheep 74 = .ok (.iload 5, 2) := by decide +kernel
theorem dX3_sheep_76 : decode cX3_sheep 76 = .ok (.ireturn, 1) := by decide +kernel
theorem dX3_right_0 : decode cX3_right 0 = .ok (.iload_n 1, 1) := by decide +kernel
theorem dX3_right_1 : decode cX3_right 1 = .ok (.iconst 0, 1) := by decide +kernel
theorem dX3_right_2 : decode cX3_right 2 = .ok (.sipush 1000, 3) := by decide +kernel
theorem dX3_right_5 : decode cX3_right 5 = .ok (.invokestatic 36, 3) := by decide +kernel
theorem dX3_right_8 : decode cX3_right 8 = .ok (.ifCond .eq 28, 3) := by decide +kernel
theorem dX3_right_11 : decode cX3_right 11 = .ok (.iload_n 2, 1) := by decide +kernel
theorem dX3_right_12 : decode cX3_right 12 = .ok (.iconst 0, 1) := by decide +kernel
theorem dX3_right_13 : decode cX3_right 13 = .ok (.bipush 24, 2) := by decide +kernel
theorem dX3_right_15 : decode cX3_right 15 = .ok (.invokestatic 36, 3) := by decide +kernel
theorem dX3_right_18 : decode cX3_right 18 = .ok (.ifCond .eq 18, 3) := by decide +kernel
theorem dX3_right_21 : decode cX3_right 21 = .ok (.iload_n 3, 1) := by decide +kernel
theorem dX3_right_22 : decode cX3_right 22 = .ok (.iconst 0, 1) := by decide +kernel
theorem dX3_right_23 : decode cX3_right 23 = .ok (.bipush 24, 2) := by decide +kernel
theorem dX3_right_25 : decode cX3_right 25 = .ok (.invokestatic 36, 3) := by decide +kernel
theorem dX3_right_28 : decode cX3_right 28 = .ok (.ifCond .eq 8, 3) := by decide +kernel
theorem dX3_right_31 : decode cX3_right 31 = .ok (.iload_n 2, 1) := by decide +kernel
theorem dX3_right_32 : decode cX3_right 32 = .ok (.iload_n 3, 1) := by decide +kernel
theorem dX3_right_33 : decode cX3_right 33 = .ok (.if_icmp .lt 5, 3) := by decide +kernel
theorem dX3_right_36 : decode cX3_right 36 = .ok (.iconst (-1), 1) := by decide +kernel
theorem dX3_right_37 : decode cX3_right 37 = .ok (.ireturn, 1) := by decide +kernel
theorem dX3_right_38 : decode cX3_right 38 = .ok (.aload_n 0, 1) := by decide +kernel
theorem dX3_right_39 : decode cX3_right 39 = .ok (.invokevirtual 44, 3) := by decide +kernel
theorem dX3_right_42 : decode cX3_right 42 = .ok (.ifCond .eq 6, 3) := by decide +kernel
theorem dX3_right_45 : decode cX3_right 45 = .ok (.bipush (-3), 2) := by decide +kernel
theorem dX3_right_47 : decode cX3_right 47 = .ok (.ireturn, 1) := by decide +kernel
theorem dX3_right_48 : decode cX3_right 48 = .ok (.aload_n 0, 1) := by decide +kernel
theorem dX3_right_49 : decode cX3_right 49 = .ok (.dup, 1) := by decide +kernel
theorem dX3_right_50 : decode cX3_right 50 = .ok (.getfield 48, 3) := by decide +kernel
theorem dX3_right_53 : decode cX3_right 53 = .ok (.iconst 1, 1) := by decide +kernel
theorem dX3_right_54 : decode cX3_right 54 = .ok (.iadd, 1) := by decide +kernel
theorem dX3_right_55 : decode cX3_right 55 = .ok (.putfield 48, 3) := by decide +kernel
theorem dX3_right_58 : decode cX3_right 58 = .ok (.aload_n 0, 1) := by decide +kernel
theorem dX3_right_59 : decode cX3_right 59 = .ok (.getfield 10, 3) := by decide +kernel
theorem dX3_right_62 : decode cX3_right 62 = .ok (.getfield 87, 3) := by decide +kernel
theorem dX3_right_65 : decode cX3_right 65 = .ok (.istore 4, 2) := by decide +kernel
theorem dX3_right_67 : decode cX3_right 67 = .ok (.aload_n 0, 1) := by decide +kernel
theorem dX3_right_68 : decode cX3_right 68 = .ok (.getfield 10, 3) := by decide +kernel
theorem dX3_right_71 : decode cX3_right 71 = .ok (.iload_n 1, 1) := by decide +kernel
theorem dX3_right_72 : decode cX3_right 72 = .ok (.putfield 87, 3) := by decide +kernel
theorem dX3_right_75 : decode cX3_right 75 = .ok (.aload_n 0, 1) := by decide +kernel
theorem dX3_right_76 : decode cX3_right 76 = .ok (.getfield 10, 3) := by decide +kernel
theorem dX3_right_79 : decode cX3_right 79 = .ok (.iload_n 2, 1) := by decide +kernel
theorem dX3_right_80 : decode cX3_right 80 = .ok (.putfield 90, 3) := by decide +kernel
theorem dX3_right_83 : decode cX3_right 83 = .ok (.aload_n 0, 1) := by decide +kernel
theorem dX3_right_84 : decode cX3_right 84 = .ok (.getfield 10, 3) := by decide +kernel
theorem dX3_right_87 : decode cX3_right 87 = .ok (.iload_n 3, 1) := by decide +kernel
theorem dX3_right_88 : decode cX3_right 88 = .ok (.putfield 93, 3) := by decide +kernel
theorem dX3_right_91 : decode cX3_right 91 = .ok (.iload 4, 2) := by decide +kernel
theorem dX3_right_93 : decode cX3_right 93 = .ok (.ireturn, 1) := by decide +kernel
theorem dX3_hours_0 : decode cX3_hours 0 = .ok (.iload_n 1, 1) := by decide +kernel
theorem dX3_hours_1 : decode cX3_hours 1 = .ok (.iconst 1, 1) := by decide +kernel
theorem dX3_hours_2 : decode cX3_hours 2 = .ok (.sipush 200, 3) := by decide +kernel
theorem dX3_hours_5 : decode cX3_hours 5 = .ok (.invokestatic 36, 3) := by decide +kernel
theorem dX3_hours_8 : decode cX3_hours 8 = .ok (.ifCond .ne 5, 3) := by decide +kernel
theorem dX3_hours_11 : decode cX3_hours 11 = .ok (.iconst (-1), 1) := by decide +kernel
theorem dX3_hours_12 : decode cX3_hours 12 = .ok (.ireturn, 1) := by decide +kernel
theorem dX3_hours_13 : decode cX3_hours 13 = .ok (.aload_n 0, 1) := by decide +kernel
theorem dX3_hours_14 : decode cX3_hours 14 = .ok (.getfield 96, 3) := by decide +kernel
theorem dX3_hours_17 : decode cX3_hours 17 = .ok (.iload_n 1, 1) := by decide +kernel
theorem dX3_hours_18 : decode cX3_hours 18 = .ok (.iadd, 1) := by decide +kernel
theorem dX3_hours_19 : decode cX3_hours 19 = .ok (.sipush 2400, 3) := by decide +kernel
theorem dX3_hours_22 : decode cX3_hours 22 = .ok (.if_icmp .le 6, 3) := by decide +kernel
theorem dX3_hours_25 : decode cX3_hours 25 = .ok (.bipush (-3), 2) := by decide +kernel
theorem dX3_hours_27 : decode cX3_hours 27 = .ok (.ireturn, 1) := by decide +kernel
theorem dX3_hours_28 : decode cX3_hours 28 = .ok (.iconst 0, 1) := by decide +kernel
theorem dX3_hours_29 : decode cX3_hours 29 = .ok (.istore_n 2, 1) := by decide +kernel
theorem dX3_hours_30 : decode cX3_hours 30 = .ok (.iload_n 2, 1) := by decide +kernel
theorem dX3_hours_31 : decode cX3_hours 31 = .ok (.iload_n 1, 1) := by decide +kernel
theorem dX3_hours_32 : decode cX3_hours 32 = .ok (.if_icmp .ge 13, 3) := by decide +kernel
theorem dX3_hours_35 : decode cX3_hours 35 = .ok (.aload_n 0, 1) := by decide +kernel
theorem dX3_hours_36 : decode cX3_hours 36 = .ok (.invokevirtual 99, 3) := by decide +kernel
theorem dX3_hours_39 : decode cX3_hours 39 = .ok (.iinc 2 1, 3) := by decide +kernel
theorem dX3_hours_42 : decode cX3_hours 42 = .ok (.goto (-12), 3) := by decide +kernel
theorem dX3_hours_45 : decode cX3_hours 45 = .ok (.aload_n 0, 1) := by decide +kernel
theorem dX3_hours_46 : decode cX3_hours 46 = .ok (.getfield 96, 3) := by decide +kernel
theorem dX3_hours_49 : decode cX3_hours 49 = .ok (.ireturn, 1) := by decide +kernel
theorem dX3_told_0 : decode cX3_told 0 = .ok (.aload_n 0, 1) := by decide +kernel
theorem dX3_told_1 : decode cX3_told 1 = .ok (.getfield 10, 3) := by decide +kernel
theorem dX3_told_4 : decode cX3_told 4 = .ok (.iload_n 1, 1) := by decide +kernel
theorem dX3_told_5 : decode cX3_told 5 = .ok (.invokevirtual 55, 3) := by decide +kernel
theorem dX3_told_8 : decode cX3_told 8 = .ok (.ifCond .ne 5, 3) := by decide +kernel
theorem dX3_told_11 : decode cX3_told 11 = .ok (.iconst (-1), 1) := by decide +kernel
theorem dX3_told_12 : decode cX3_told 12 = .ok (.ireturn, 1) := by decide +kernel
theorem dX3_told_13 : decode cX3_told 13 = .ok (.iload_n 2, 1) := by decide +kernel
theorem dX3_told_14 : decode cX3_told 14 = .ok (.tableswitch 124 0 7 #[46, 56, 66, 76, 86, 95, 105, 114], 46) := by decide +kernel
theorem dX3_told_60 : decode cX3_told 60 = .ok (.aload_n 0, 1) := by decide +kernel
theorem dX3_told_61 : decode cX3_told 61 = .ok (.getfield 10, 3) := by decide +kernel
theorem dX3_told_64 : decode cX3_told 64 = .ok (.getfield 102, 3) := by decide +kernel
theorem dX3_told_67 : decode cX3_told 67 = .ok (.iload_n 1, 1) := by decide +kernel
theorem dX3_told_68 : decode cX3_told 68 = .ok (.iaload, 1) := by decide +kernel
theorem dX3_told_69 : decode cX3_told 69 = .ok (.ireturn, 1) := by decide +kernel
theorem dX3_told_70 : decode cX3_told 70 = .ok (.aload_n 0, 1) := by decide +kernel
theorem dX3_told_71 : decode cX3_told 71 = .ok (.getfield 10, 3) := by decide +kernel
theorem dX3_told_74 : decode cX3_told 74 = .ok (.getfield 105, 3) := by decide +kernel
theorem dX3_told_77 : decode cX3_told 77 = .ok (.iload_n 1, 1) := by decide +kernel
theorem dX3_told_78 : decode cX3_told 78 = .ok (.iaload, 1) := by decide +kernel
theorem dX3_told_79 : decode cX3_told 79 = .ok (.ireturn, 1) := by decide +kernel
theorem dX3_told_80 : decode cX3_told 80 = .ok (.aload_n 0, 1) := by decide +kernel
theorem dX3_told_81 : decode cX3_told 81 = .ok (.getfield 10, 3) := by decide +kernel
theorem dX3_told_84 : decode cX3_told 84 = .ok (.getfield 108, 3) := by decide +kernel
theorem dX3_told_87 : decode cX3_told 87 = .ok (.iload_n 1, 1) := by decide +kernel
theorem dX3_told_88 : decode cX3_told 88 = .ok (.iaload, 1) := by decide +kernel
theorem dX3_told_89 : decode cX3_told 89 = .ok (.ireturn, 1) := by decide +kernel
theorem dX3_told_90 : decode cX3_told 90 = .ok (.aload_n 0, 1) := by decide +kernel
theorem dX3_told_91 : decode cX3_told 91 = .ok (.getfield 10, 3) := by decide +kernel
theorem dX3_told_94 : decode cX3_told 94 = .ok (.getfield 59, 3) := by decide +kernel
theorem dX3_told_97 : decode cX3_told 97 = .ok (.iload_n 1, 1) := by decide +kernel
theorem dX3_told_98 : decode cX3_told 98 = .ok (.iaload, 1) := by decide +kernel
theorem dX3_told_99 : decode cX3_told 99 = .ok (.ireturn, 1) := by decide +kernel
theorem dX3_told_100 : decode cX3_told 100 = .ok (.aload_n 0, 1) := by decide +kernel
theorem dX3_told_101 : decode cX3_told 101 = .ok (.getfield 28, 3) := by decide +kernel
theorem dX3_told_104 : decode cX3_told 104 = .ok (.iload_n 1, 1) := by decide +kernel
theorem dX3_told_105 : decode cX3_told 105 = .ok (.invokevirtual 69, 3) := by decide +kernel
theorem dX3_told_108 : decode cX3_told 108 = .ok (.ireturn, 1) := by decide +kernel
theorem dX3_told_109 : decode cX3_told 109 = .ok (.aload_n 0, 1) := by decide +kernel
theorem dX3_told_110 : decode cX3_told 110 = .ok (.getfield 28, 3) := by decide +kernel
theorem dX3_told_113 : decode cX3_told 113 = .ok (.getfield 73, 3) := by decide +kernel
theorem dX3_told_116 : decode cX3_told 116 = .ok (.iload_n 1, 1) := by decide +kernel
theorem dX3_told_117 : decode cX3_told 117 = .ok (.iaload, 1) := by decide +kernel
theorem dX3_told_118 : decode cX3_told 118 = .ok (.ireturn, 1) := by decide +kernel
theorem dX3_told_119 : decode cX3_told 119 = .ok (.aload_n 0, 1) := by decide +kernel
theorem dX3_told_120 : decode cX3_told 120 = .ok (.getfield 28, 3) := by decide +kernel
theorem dX3_told_123 : decode cX3_told 123 = .ok (.iload_n 1, 1) := by decide +kernel
theorem dX3_told_124 : decode cX3_told 124 = .ok (.invokevirtual 111, 3) := by decide +kernel
theorem dX3_told_127 : decode cX3_told 127 = .ok (.ireturn, 1) := by decide +kernel
theorem dX3_told_128 : decode cX3_told 128 = .ok (.aload_n 0, 1) := by decide +kernel
theorem dX3_told_129 : decode cX3_told 129 = .ok (.getfield 28, 3) := by decide +kernel
theorem dX3_told_132 : decode cX3_told 132 = .ok (.getfield 114, 3) := by decide +kernel
theorem dX3_told_135 : decode cX3_told 135 = .ok (.iload_n 1, 1) := by decide +kernel
theorem dX3_told_136 : decode cX3_told 136 = .ok (.iaload, 1) := by decide +kernel
theorem dX3_told_137 : decode cX3_told 137 = .ok (.ireturn, 1) := by decide +kernel
theorem dX3_told_138 : decode cX3_told 138 = .ok (.iconst (-1), 1) := by decide +kernel
theorem dX3_told_139 : decode cX3_told 139 = .ok (.ireturn, 1) := by decide +kernel
theorem dX3_pane_0 : decode cX3_pane 0 = .ok (.aload_n 0, 1) := by decide +kernel
theorem dX3_pane_1 : decode cX3_pane 1 = .ok (.getfield 10, 3) := by decide +kernel
theorem dX3_pane_4 : decode cX3_pane 4 = .ok (.iload_n 1, 1) := by decide +kernel
theorem dX3_pane_5 : decode cX3_pane 5 = .ok (.iload_n 2, 1) := by decide +kernel
theorem dX3_pane_6 : decode cX3_pane 6 = .ok (.invokevirtual 76, 3) := by decide +kernel
theorem dX3_pane_9 : decode cX3_pane 9 = .ok (.ifCond .ne 5, 3) := by decide +kernel
theorem dX3_pane_12 : decode cX3_pane 12 = .ok (.iconst (-1), 1) := by decide +kernel
theorem dX3_pane_13 : decode cX3_pane 13 = .ok (.ireturn, 1) := by decide +kernel
theorem dX3_pane_14 : decode cX3_pane 14 = .ok (.iload_n 1, 1) := by decide +kernel
theorem dX3_pane_15 : decode cX3_pane 15 = .ok (.iload_n 2, 1) := by decide +kernel
theorem dX3_pane_16 : decode cX3_pane 16 = .ok (.invokestatic 80, 3) := by decide +kernel
theorem dX3_pane_19 : decode cX3_pane 19 = .ok (.istore 4, 2) := by decide +kernel
theorem dX3_pane_21 : decode cX3_pane 21 = .ok (.iload_n 3, 1) := by decide +kernel
theorem dX3_pane_22 : decode cX3_pane 22 = .ok (.tableswitch 104 0 5 #[38, 49, 60, 71, 82, 93], 38) := by decide +kernel
theorem dX3_pane_60 : decode cX3_pane 60 = .ok (.aload_n 0, 1) := by decide +kernel
theorem dX3_pane_61 : decode cX3_pane 61 = .ok (.getfield 28, 3) := by decide +kernel
theorem dX3_pane_64 : decode cX3_pane 64 = .ok (.getfield 117, 3) := by decide +kernel
theorem dX3_pane_67 : decode cX3_pane 67 = .ok (.iload 4, 2) := by decide +kernel
theorem dX3_pane_69 : decode cX3_pane 69 = .ok (.iaload, 1) := by decide +kernel
theorem dX3_pane_70 : decode cX3_pane 70 = .ok (.ireturn, 1) := by decide +kernel
theorem dX3_pane_71 : decode cX3_pane 71 = .ok (.aload_n 0, 1) := by decide +kernel
theorem dX3_pane_72 : decode cX3_pane 72 = .ok (.getfield 28, 3) := by decide +kernel
theorem dX3_pane_75 : decode cX3_pane 75 = .ok (.getfield 120, 3) := by decide +kernel
theorem dX3_pane_78 : decode cX3_pane 78 = .ok (.iload 4, 2) := by decide +kernel
theorem dX3_pane_80 : decode cX3_pane 80 = .ok (.iaload, 1) := by decide +kernel
theorem dX3_pane_81 : decode cX3_pane 81 = .ok (.ireturn, 1) := by decide +kernel
theorem dX3_pane_82 : decode cX3_pane 82 = .ok (.aload_n 0, 1) := by decide +kernel
theorem dX3_pane_83 : decode cX3_pane 83 = .ok (.getfield 28, 3) := by decide +kernel
theorem dX3_pane_86 : decode cX3_pane 86 = .ok (.getfield 123, 3) := by decide +kernel
theorem dX3_pane_89 : decode cX3_pane 89 = .ok (.iload 4, 2) := by decide +kernel
theorem dX3_pane_91 : decode cX3_pane 91 = .ok (.iaload, 1) := by decide +kernel
theorem dX3_pane_92 : decode cX3_pane 92 = .ok (.ireturn, 1) := by decide +kernel
end
section
theorem dX3_pane_93 : decode cX3_pane 93 = .ok (.aload_n 0, 1) := by decide +kernel
theorem dX3_pane_94 : decode cX3_pane 94 = .ok (.getfield 28, 3) := by decide +kernel
theorem dX3_pane_97 : decode cX3_pane 97 = .ok (.getfield 126, 3) := by decide +kernel
theorem dX3_pane_100 : decode cX3_pane 100 = .ok (.iload 4, 2) := by decide +kernel
theorem dX3_pane_102 : decode cX3_pane 102 = .ok (.iaload, 1) := by decide +kernel
theorem dX3_pane_103 : decode cX3_pane 103 = .ok (.ireturn, 1) := by decide +kernel
theorem dX3_pane_104 : decode cX3_pane 104 = .ok (.aload_n 0, 1) := by decide +kernel
theorem dX3_pane_105 : decode cX3_pane 105 = .ok (.getfield 10, 3) := by decide +kernel
theorem dX3_pane_108 : decode cX3_pane 108 = .ok (.getfield 84, 3) := by decide +kernel
theorem dX3_pane_111 : decode cX3_pane 111 = .ok (.iload 4, 2) := by decide +kernel
theorem dX3_pane_113 : decode cX3_pane 113 = .ok (.iaload, 1) := by decide +kernel
theorem dX3_pane_114 : decode cX3_pane 114 = .ok (.ireturn, 1) := by decide +kernel
theorem dX3_pane_115 : decode cX3_pane 115 = .ok (.aload_n 0, 1) := by decide +kernel
theorem dX3_pane_116 : decode cX3_pane 116 = .ok (.getfield 28, 3) := by decide +kernel
theorem dX3_pane_119 : decode cX3_pane 119 = .ok (.getfield 129, 3) := by decide +kernel
theorem dX3_pane_122 : decode cX3_pane 122 = .ok (.iload 4, 2) := by decide +kernel
theorem dX3_pane_124 : decode cX3_pane 124 = .ok (.iaload, 1) := by decide +kernel
theorem dX3_pane_125 : decode cX3_pane 125 = .ok (.ireturn, 1) := by decide +kernel
theorem dX3_pane_126 : decode cX3_pane 126 = .ok (.iconst (-1), 1) := by decide +kernel
theorem dX3_pane_127 : decode cX3_pane 127 = .ok (.ireturn, 1) := by decide +kernel
theorem dX3_stream_0 : decode cX3_stream 0 = .ok (.iload_n 1, 1) := by decide +kernel
theorem dX3_stream_1 : decode cX3_stream 1 = .ok (.tableswitch 99 0 6 #[43, 51, 59, 67, 75, 83, 91], 43) := by decide +kernel
theorem dX3_stream_44 : decode cX3_stream 44 = .ok (.aload_n 0, 1) := by decide +kernel
theorem dX3_stream_45 : decode cX3_stream 45 = .ok (.getfield 10, 3) := by decide +kernel
theorem dX3_stream_48 : decode cX3_stream 48 = .ok (.getfield 63, 3) := by decide +kernel
theorem dX3_stream_51 : decode cX3_stream 51 = .ok (.ireturn, 1) := by decide +kernel
theorem dX3_stream_52 : decode cX3_stream 52 = .ok (.aload_n 0, 1) := by decide +kernel
theorem dX3_stream_53 : decode cX3_stream 53 = .ok (.getfield 10, 3) := by decide +kernel
theorem dX3_stream_56 : decode cX3_stream 56 = .ok (.getfield 66, 3) := by decide +kernel
theorem dX3_stream_59 : decode cX3_stream 59 = .ok (.ireturn, 1) := by decide +kernel
theorem dX3_stream_60 : decode cX3_stream 60 = .ok (.aload_n 0, 1) := by decide +kernel
theorem dX3_stream_61 : decode cX3_stream 61 = .ok (.getfield 28, 3) := by decide +kernel
theorem dX3_stream_64 : decode cX3_stream 64 = .ok (.getfield 132, 3) := by decide +kernel
theorem dX3_stream_67 : decode cX3_stream 67 = .ok (.ireturn, 1) := by decide +kernel
theorem dX3_stream_68 : decode cX3_stream 68 = .ok (.aload_n 0, 1) := by decide +kernel
theorem dX3_stream_69 : decode cX3_stream 69 = .ok (.getfield 28, 3) := by decide +kernel
theorem dX3_stream_72 : decode cX3_stream 72 = .ok (.getfield 135, 3) := by decide +kernel
theorem dX3_stream_75 : decode cX3_stream 75 = .ok (.ireturn, 1) := by decide +kernel
theorem dX3_stream_76 : decode cX3_stream 76 = .ok (.aload_n 0, 1) := by decide +kernel
theorem dX3_stream_77 : decode cX3_stream 77 = .ok (.getfield 28, 3) := by decide +kernel
theorem dX3_stream_80 : decode cX3_stream 80 = .ok (.getfield 138, 3) := by decide +kernel
theorem dX3_stream_83 : decode cX3_stream 83 = .ok (.ireturn, 1) := by decide +kernel
theorem dX3_stream_84 : decode cX3_stream 84 = .ok (.aload_n 0, 1) := by decide +kernel
theorem dX3_stream_85 : decode cX3_stream 85 = .ok (.getfield 28, 3) := by decide +kernel
theorem dX3_stream_88 : decode cX3_stream 88 = .ok (.getfield 141, 3) := by decide +kernel
theorem dX3_stream_91 : decode cX3_stream 91 = .ok (.ireturn, 1) := by decide +kernel
theorem dX3_stream_92 : decode cX3_stream 92 = .ok (.aload_n 0, 1) := by decide +kernel
theorem dX3_stream_93 : decode cX3_stream 93 = .ok (.getfield 28, 3) := by decide +kernel
theorem dX3_stream_96 : decode cX3_stream 96 = .ok (.getfield 144, 3) := by decide +kernel
theorem dX3_stream_99 : decode cX3_stream 99 = .ok (.ireturn, 1) := by decide +kernel
theorem dX3_stream_100 : decode cX3_stream 100 = .ok (.bipush (-100), 2) := by decide +kernel
theorem dX3_stream_102 : decode cX3_stream 102 = .ok (.ireturn, 1) := by decide +kernel
theorem dX3_broken_0 : decode cX3_broken 0 = .ok (.iload_n 1, 1) := by decide +kernel
theorem dX3_broken_1 : decode cX3_broken 1 = .ok (.iconst (-1), 1) := by decide +kernel
theorem dX3_broken_2 : decode cX3_broken 2 = .ok (.if_icmp .ne 15, 3) := by decide +kernel
theorem dX3_broken_5 : decode cX3_broken 5 = .ok (.iload_n 2, 1) := by decide +kernel
theorem dX3_broken_6 : decode cX3_broken 6 = .ok (.ifCond .ne 11, 3) := by decide +kernel
theorem dX3_broken_9 : decode cX3_broken 9 = .ok (.aload_n 0, 1) := by decide +kernel
theorem dX3_broken_10 : decode cX3_broken 10 = .ok (.getfield 19, 3) := by decide +kernel
theorem dX3_broken_13 : decode cX3_broken 13 = .ok (.getfield 147, 3) := by decide +kernel
theorem dX3_broken_16 : decode cX3_broken 16 = .ok (.ireturn, 1) := by decide +kernel
theorem dX3_broken_17 : decode cX3_broken 17 = .ok (.iload_n 1, 1) := by decide +kernel
theorem dX3_broken_18 : decode cX3_broken 18 = .ok (.ifCond .lt 12, 3) := by decide +kernel
theorem dX3_broken_21 : decode cX3_broken 21 = .ok (.iload_n 2, 1) := by decide +kernel
theorem dX3_broken_22 : decode cX3_broken 22 = .ok (.iconst 0, 1) := by decide +kernel
theorem dX3_broken_23 : decode cX3_broken 23 = .ok (.iconst 2, 1) := by decide +kernel
theorem dX3_broken_24 : decode cX3_broken 24 = .ok (.invokestatic 36, 3) := by decide +kernel
theorem dX3_broken_27 : decode cX3_broken 27 = .ok (.ifCond .ne 5, 3) := by decide +kernel
theorem dX3_broken_30 : decode cX3_broken 30 = .ok (.iconst (-1), 1) := by decide +kernel
theorem dX3_broken_31 : decode cX3_broken 31 = .ok (.ireturn, 1) := by decide +kernel
theorem dX3_broken_32 : decode cX3_broken 32 = .ok (.iload_n 1, 1) := by decide +kernel
theorem dX3_broken_33 : decode cX3_broken 33 = .ok (.aload_n 0, 1) := by decide +kernel
theorem dX3_broken_34 : decode cX3_broken 34 = .ok (.getfield 19, 3) := by decide +kernel
theorem dX3_broken_37 : decode cX3_broken 37 = .ok (.getfield 150, 3) := by decide +kernel
theorem dX3_broken_40 : decode cX3_broken 40 = .ok (.if_icmp .lt 6, 3) := by decide +kernel
theorem dX3_broken_43 : decode cX3_broken 43 = .ok (.bipush (-4), 2) := by decide +kernel
theorem dX3_broken_45 : decode cX3_broken 45 = .ok (.ireturn, 1) := by decide +kernel
theorem dX3_broken_46 : decode cX3_broken 46 = .ok (.iload_n 2, 1) := by decide +kernel
theorem dX3_broken_47 : decode cX3_broken 47 = .ok (.lookupswitch 45 #[(0, 25), (1, 35)], 25) := by decide +kernel
theorem dX3_broken_72 : decode cX3_broken 72 = .ok (.aload_n 0, 1) := by decide +kernel
theorem dX3_broken_73 : decode cX3_broken 73 = .ok (.getfield 19, 3) := by decide +kernel
theorem dX3_broken_76 : decode cX3_broken 76 = .ok (.getfield 153, 3) := by decide +kernel
theorem dX3_broken_79 : decode cX3_broken 79 = .ok (.iload_n 1, 1) := by decide +kernel
theorem dX3_broken_80 : decode cX3_broken 80 = .ok (.iaload, 1) := by decide +kernel
theorem dX3_broken_81 : decode cX3_broken 81 = .ok (.ireturn, 1) := by decide +kernel
theorem dX3_broken_82 : decode cX3_broken 82 = .ok (.aload_n 0, 1) := by decide +kernel
theorem dX3_broken_83 : decode cX3_broken 83 = .ok (.getfield 19, 3) := by decide +kernel
theorem dX3_broken_86 : decode cX3_broken 86 = .ok (.getfield 156, 3) := by decide +kernel
theorem dX3_broken_89 : decode cX3_broken 89 = .ok (.iload_n 1, 1) := by decide +kernel
theorem dX3_broken_90 : decode cX3_broken 90 = .ok (.iaload, 1) := by decide +kernel
theorem dX3_broken_91 : decode cX3_broken 91 = .ok (.ireturn, 1) := by decide +kernel
theorem dX3_broken_92 : decode cX3_broken 92 = .ok (.aload_n 0, 1) := by decide +kernel
theorem dX3_broken_93 : decode cX3_broken 93 = .ok (.getfield 19, 3) := by decide +kernel
theorem dX3_broken_96 : decode cX3_broken 96 = .ok (.getfield 159, 3) := by decide +kernel
theorem dX3_broken_99 : decode cX3_broken 99 = .ok (.iload_n 1, 1) := by decide +kernel
theorem dX3_broken_100 : decode cX3_broken 100 = .ok (.iaload, 1) := by decide +kernel
theorem dX3_broken_101 : decode cX3_broken 101 = .ok (.ireturn, 1) := by decide +kernel
theorem dX3_farm_0 : decode cX3_farm 0 = .ok (.iload_n 1, 1) := by decide +kernel
theorem dX3_farm_1 : decode cX3_farm 1 = .ok (.iconst 0, 1) := by decide +kernel
theorem dX3_farm_2 : decode cX3_farm 2 = .ok (.iconst 3, 1) := by decide +kernel
theorem dX3_farm_3 : decode cX3_farm 3 = .ok (.invokestatic 36, 3) := by decide +kernel
theorem dX3_farm_6 : decode cX3_farm 6 = .ok (.ifCond .ne 5, 3) := by decide +kernel
theorem dX3_farm_9 : decode cX3_farm 9 = .ok (.iconst (-1), 1) := by decide +kernel
theorem dX3_farm_10 : decode cX3_farm 10 = .ok (.ireturn, 1) := by decide +kernel
theorem dX3_farm_11 : decode cX3_farm 11 = .ok (.iload_n 2, 1) := by decide +kernel
theorem dX3_farm_12 : decode cX3_farm 12 = .ok (.tableswitch 90 0 3 #[32, 48, 64, 80], 32) := by decide +kernel
theorem dX3_farm_44 : decode cX3_farm 44 = .ok (.aload_n 0, 1) := by decide +kernel
theorem dX3_farm_45 : decode cX3_farm 45 = .ok (.getfield 28, 3) := by decide +kernel
theorem dX3_farm_48 : decode cX3_farm 48 = .ok (.aload_n 0, 1) := by decide +kernel
theorem dX3_farm_49 : decode cX3_farm 49 = .ok (.getfield 28, 3) := by decide +kernel
theorem dX3_farm_52 : decode cX3_farm 52 = .ok (.getfield 117, 3) := by decide +kernel
theorem dX3_farm_55 : decode cX3_farm 55 = .ok (.iload_n 1, 1) := by decide +kernel
theorem dX3_farm_56 : decode cX3_farm 56 = .ok (.invokevirtual 162, 3) := by decide +kernel
theorem dX3_farm_59 : decode cX3_farm 59 = .ok (.ireturn, 1) := by decide +kernel
theorem dX3_farm_60 : decode cX3_farm 60 = .ok (.aload_n 0, 1) := by decide +kernel
theorem dX3_farm_61 : decode cX3_farm 61 = .ok (.getfield 28, 3) := by decide +kernel
theorem dX3_farm_64 : decode cX3_farm 64 = .ok (.aload_n 0, 1) := by decide +kernel
theorem dX3_farm_65 : decode cX3_farm 65 = .ok (.getfield 28, 3) := by decide +kernel
theorem dX3_farm_68 : decode cX3_farm 68 = .ok (.getfield 129, 3) := by decide +kernel
theorem dX3_farm_71 : decode cX3_farm 71 = .ok (.iload_n 1, 1) := by decide +kernel
theorem dX3_farm_72 : decode cX3_farm 72 = .ok (.invokevirtual 162, 3) := by decide +kernel
theorem dX3_farm_75 : decode cX3_farm 75 = .ok (.ireturn, 1) := by decide +kernel
theorem dX3_farm_76 : decode cX3_farm 76 = .ok (.aload_n 0, 1) := by decide +kernel
theorem dX3_farm_77 : decode cX3_farm 77 = .ok (.getfield 28, 3) := by decide +kernel
theorem dX3_farm_80 : decode cX3_farm 80 = .ok (.aload_n 0, 1) := by decide +kernel
theorem dX3_farm_81 : decode cX3_farm 81 = .ok (.getfield 28, 3) := by decide +kernel
theorem dX3_farm_84 : decode cX3_farm 84 = .ok (.getfield 123, 3) := by decide +kernel
theorem dX3_farm_87 : decode cX3_farm 87 = .ok (.iload_n 1, 1) := by decide +kernel
theorem dX3_farm_88 : decode cX3_farm 88 = .ok (.invokevirtual 162, 3) := by decide +kernel
theorem dX3_farm_91 : decode cX3_farm 91 = .ok (.ireturn, 1) := by decide +kernel
theorem dX3_farm_92 : decode cX3_farm 92 = .ok (.aload_n 0, 1) := by decide +kernel
theorem dX3_farm_93 : decode cX3_farm 93 = .ok (.getfield 19, 3) := by decide +kernel
theorem dX3_farm_96 : decode cX3_farm 96 = .ok (.getfield 166, 3) := by decide +kernel
theorem dX3_farm_99 : decode cX3_farm 99 = .ok (.iload_n 1, 1) := by decide +kernel
theorem dX3_farm_100 : decode cX3_farm 100 = .ok (.iaload, 1) := by decide +kernel
theorem dX3_farm_101 : decode cX3_farm 101 = .ok (.ireturn, 1) := by decide +kernel
theorem dX3_farm_102 : decode cX3_farm 102 = .ok (.iconst (-1), 1) := by decide +kernel
theorem dX3_farm_103 : decode cX3_farm 103 = .ok (.ireturn, 1) := by decide +kernel
theorem dX3_without_0 : decode cX3_without 0 = .ok (.aload_n 0, 1) := by decide +kernel
theorem dX3_without_1 : decode cX3_without 1 = .ok (.getfield 10, 3) := by decide +kernel
theorem dX3_without_4 : decode cX3_without 4 = .ok (.iload_n 1, 1) := by decide +kernel
theorem dX3_without_5 : decode cX3_without 5 = .ok (.invokevirtual 55, 3) := by decide +kernel
theorem dX3_without_8 : decode cX3_without 8 = .ok (.ifCond .eq 12, 3) := by decide +kernel
theorem dX3_without_11 : decode cX3_without 11 = .ok (.iload_n 2, 1) := by decide +kernel
theorem dX3_without_12 : decode cX3_without 12 = .ok (.iconst 0, 1) := by decide +kernel
theorem dX3_without_13 : decode cX3_without 13 = .ok (.iconst 5, 1) := by decide +kernel
theorem dX3_without_14 : decode cX3_without 14 = .ok (.invokestatic 36, 3) := by decide +kernel
theorem dX3_without_17 : decode cX3_without 17 = .ok (.ifCond .ne 5, 3) := by decide +kernel
theorem dX3_without_20 : decode cX3_without 20 = .ok (.iconst (-1), 1) := by decide +kernel
theorem dX3_without_21 : decode cX3_without 21 = .ok (.ireturn, 1) := by decide +kernel
theorem dX3_without_22 : decode cX3_without 22 = .ok (.aload_n 0, 1) := by decide +kernel
theorem dX3_without_23 : decode cX3_without 23 = .ok (.getfield 32, 3) := by decide +kernel
theorem dX3_without_26 : decode cX3_without 26 = .ok (.iload_n 1, 1) := by decide +kernel
theorem dX3_without_27 : decode cX3_without 27 = .ok (.aaload, 1) := by decide +kernel
theorem dX3_without_28 : decode cX3_without 28 = .ok (.astore_n 3, 1) := by decide +kernel
theorem dX3_without_29 : decode cX3_without 29 = .ok (.iload_n 2, 1) := by decide +kernel
theorem dX3_without_30 : decode cX3_without 30 = .ok (.lookupswitch 36 #[(0, 26), (1, 31)], 26) := by decide +kernel
theorem dX3_without_56 : decode cX3_without 56 = .ok (.aload_n 3, 1) := by decide +kernel
theorem dX3_without_57 : decode cX3_without 57 = .ok (.getfield 138, 3) := by decide +kernel
theorem dX3_without_60 : decode cX3_without 60 = .ok (.ireturn, 1) := by decide +kernel
theorem dX3_without_61 : decode cX3_without 61 = .ok (.aload_n 3, 1) := by decide +kernel
theorem dX3_without_62 : decode cX3_without 62 = .ok (.getfield 144, 3) := by decide +kernel
theorem dX3_without_65 : decode cX3_without 65 = .ok (.ireturn, 1) := by decide +kernel
theorem dX3_without_66 : decode cX3_without 66 = .ok (.aload_n 3, 1) := by decide +kernel
theorem dX3_without_67 : decode cX3_without 67 = .ok (.aload_n 3, 1) := by decide +kernel
theorem dX3_without_68 : decode cX3_without 68 = .ok (.getfield 117, 3) := by decide +kernel
theorem dX3_without_71 : decode cX3_without 71 = .ok (.iload_n 2, 1) := by decide +kernel
theorem dX3_without_72 : decode cX3_without 72 = .ok (.iconst 2, 1) := by decide +kernel
theorem dX3_without_73 : decode cX3_without 73 = .ok (.isub, 1) := by decide +kernel
theorem dX3_without_74 : decode cX3_without 74 = .ok (.invokevirtual 162, 3) := by decide +kernel
theorem dX3_without_77 : decode cX3_without 77 = .ok (.ireturn, 1) := by decide +kernel
theorem dX3_count_0 : decode cX3_count 0 = .ok (.iload_n 1, 1) := by decide +kernel
theorem dX3_count_1 : decode cX3_count 1 = .ok (.tableswitch 45 0 2 #[27, 35, 40], 27) := by decide +kernel
theorem dX3_count_28 : decode cX3_count 28 = .ok (.aload_n 0, 1) := by decide +kernel
theorem dX3_count_29 : decode cX3_count 29 = .ok (.getfield 10, 3) := by decide +kernel
theorem dX3_count_32 : decode cX3_count 32 = .ok (.getfield 40, 3) := by decide +kernel
theorem dX3_count_35 : decode cX3_count 35 = .ok (.ireturn, 1) := by decide +kernel
theorem dX3_count_36 : decode cX3_count 36 = .ok (.aload_n 0, 1) := by decide +kernel
theorem dX3_count_37 : decode cX3_count 37 = .ok (.getfield 96, 3) := by decide +kernel
theorem dX3_count_40 : decode cX3_count 40 = .ok (.ireturn, 1) := by decide +kernel
theorem dX3_count_41 : decode cX3_count 41 = .ok (.aload_n 0, 1) := by decide +kernel
theorem dX3_count_42 : decode cX3_count 42 = .ok (.getfield 48, 3) := by decide +kernel
theorem dX3_count_45 : decode cX3_count 45 = .ok (.ireturn, 1) := by decide +kernel
theorem dX3_count_46 : decode cX3_count 46 = .ok (.iconst (-1), 1) := by decide +kernel
theorem dX3_count_47 : decode cX3_count 47 = .ok (.ireturn, 1) := by decide +kernel
theorem dX3_isWithin_0 : decode cX3_isWithin 0 = .ok (.iload_n 0, 1) := by decide +kernel
theorem dX3_isWithin_1 : decode cX3_isWithin 1 = .ok (.iload_n 1, 1) := by decide +kernel
theorem dX3_isWithin_2 : decode cX3_isWithin 2 = .ok (.if_icmp .lt 12, 3) := by decide +kernel
theorem dX3_isWithin_5 : decode cX3_isWithin 5 = .ok (.iload_n 0, 1) := by decide +kernel
theorem dX3_isWithin_6 : decode cX3_isWithin 6 = .ok (.iload_n 2, 1) := by decide +kernel
theorem dX3_isWithin_7 : decode cX3_isWithin 7 = .ok (.if_icmp .gt 7, 3) := by decide +kernel
theorem dX3_isWithin_10 : decode cX3_isWithin 10 = .ok (.iconst 1, 1) := by decide +kernel
theorem dX3_isWithin_11 : decode cX3_isWithin 11 = .ok (.goto 4, 3) := by decide +kernel
theorem dX3_isWithin_14 : decode cX3_isWithin 14 = .ok (.iconst 0, 1) := by decide +kernel
theorem dX3_isWithin_15 : decode cX3_isWithin 15 = .ok (.ireturn, 1) := by decide +kernel
theorem dX3_placeOf_0 : decode cX3_placeOf 0 = .ok (.iload_n 0, 1) := by decide +kernel
theorem dX3_placeOf_1 : decode cX3_placeOf 1 = .ok (.iconst 4, 1) := by decide +kernel
theorem dX3_placeOf_2 : decode cX3_placeOf 2 = .ok (.imul, 1) := by decide +kernel
theorem dX3_placeOf_3 : decode cX3_placeOf 3 = .ok (.iload_n 1, 1) := by decide +kernel
theorem dX3_placeOf_4 : decode cX3_placeOf 4 = .ok (.iadd, 1) := by decide +kernel
theorem dX3_placeOf_5 : decode cX3_placeOf 5 = .ok (.ireturn, 1) := by decide +kernel
theorem dX3_hasAllDeeds_0 : decode cX3_hasAllDeeds 0 = .ok (.aload_n 0, 1) := by decide +kernel
theorem dX3_hasAllDeeds_1 : decode cX3_hasAllDeeds 1 = .ok (.getfield 48, 3) := by decide +kernel
theorem dX3_hasAllDeeds_4 : decode cX3_hasAllDeeds 4 = .ok (.bipush 90, 2) := by decide +kernel
theorem dX3_hasAllDeeds_6 : decode cX3_hasAllDeeds 6 = .ok (.if_icmp .lt 7, 3) := by decide +kernel
theorem dX3_hasAllDeeds_9 : decode cX3_hasAllDeeds 9 = .ok (.iconst 1, 1) := by decide +kernel
theorem dX3_hasAllDeeds_10 : decode cX3_hasAllDeeds 10 = .ok (.goto 4, 3) := by decide +kernel
theorem dX3_hasAllDeeds_13 : decode cX3_hasAllDeeds 13 = .ok (.iconst 0, 1) := by decide +kernel
theorem dX3_hasAllDeeds_14 : decode cX3_hasAllDeeds 14 = .ok (.ireturn, 1) := by decide +kernel
theorem dX3_advance_0 : decode cX3_advance 0 = .ok (.aload_n 0, 1) := by decide +kernel
theorem dX3_advance_1 : decode cX3_advance 1 = .ok (.getfield 28, 3) := by decide +kernel
theorem dX3_advance_4 : decode cX3_advance 4 = .ok (.aload_n 0, 1) := by decide +kernel
theorem dX3_advance_5 : decode cX3_advance 5 = .ok (.getfield 96, 3) := by decide +kernel
theorem dX3_advance_8 : decode cX3_advance 8 = .ok (.invokevirtual 169, 3) := by decide +kernel
theorem dX3_advance_11 : decode cX3_advance 11 = .ok (.aload_n 0, 1) := by decide +kernel
theorem dX3_advance_12 : decode cX3_advance 12 = .ok (.invokevirtual 173, 3) := by decide +kernel
theorem dX3_advance_15 : decode cX3_advance 15 = .ok (.iconst 0, 1) := by decide +kernel
theorem dX3_advance_16 : decode cX3_advance 16 = .ok (.istore_n 1, 1) := by decide +kernel
theorem dX3_advance_17 : decode cX3_advance 17 = .ok (.iload_n 1, 1) := by decide +kernel
theorem dX3_advance_18 : decode cX3_advance 18 = .ok (.bipush 6, 2) := by decide +kernel
theorem dX3_advance_20 : decode cX3_advance 20 = .ok (.if_icmp .ge 22, 3) := by decide +kernel
theorem dX3_advance_23 : decode cX3_advance 23 = .ok (.aload_n 0, 1) := by decide +kernel
theorem dX3_advance_24 : decode cX3_advance 24 = .ok (.getfield 32, 3) := by decide +kernel
theorem dX3_advance_27 : decode cX3_advance 27 = .ok (.iload_n 1, 1) := by decide +kernel
theorem dX3_advance_28 : decode cX3_advance 28 = .ok (.aaload, 1) := by decide +kernel
theorem dX3_advance_29 : decode cX3_advance 29 = .ok (.aload_n 0, 1) := by decide +kernel
theorem dX3_advance_30 : decode cX3_advance 30 = .ok (.getfield 96, 3) := by decide +kernel
theorem dX3_advance_33 : decode cX3_advance 33 = .ok (.invokevirtual 169, 3) := by decide +kernel
theorem dX3_advance_36 : decode cX3_advance 36 = .ok (.iinc 1 1, 3) := by decide +kernel
theorem dX3_advance_39 : decode cX3_advance 39 = .ok (.goto (-22), 3) := by decide +kernel
theorem dX3_advance_42 : decode cX3_advance 42 = .ok (.aload_n 0, 1) := by decide +kernel
theorem dX3_advance_43 : decode cX3_advance 43 = .ok (.dup, 1) := by decide +kernel
theorem dX3_advance_44 : decode cX3_advance 44 = .ok (.getfield 96, 3) := by decide +kernel
theorem dX3_advance_47 : decode cX3_advance 47 = .ok (.iconst 1, 1) := by decide +kernel
theorem dX3_advance_48 : decode cX3_advance 48 = .ok (.iadd, 1) := by decide +kernel
theorem dX3_advance_49 : decode cX3_advance 49 = .ok (.putfield 96, 3) := by decide +kernel
theorem dX3_advance_52 : decode cX3_advance 52 = .ok (.return_, 1) := by decide +kernel
theorem dX3_judgeHour_0 : decode cX3_judgeHour 0 = .ok (.iconst 0, 1) := by decide +kernel
theorem dX3_judgeHour_1 : decode cX3_judgeHour 1 = .ok (.istore_n 1, 1) := by decide +kernel
theorem dX3_judgeHour_2 : decode cX3_judgeHour 2 = .ok (.iconst 0, 1) := by decide +kernel
theorem dX3_judgeHour_3 : decode cX3_judgeHour 3 = .ok (.istore_n 2, 1) := by decide +kernel
theorem dX3_judgeHour_4 : decode cX3_judgeHour 4 = .ok (.iconst 0, 1) := by decide +kernel
theorem dX3_judgeHour_5 : decode cX3_judgeHour 5 = .ok (.istore_n 3, 1) := by decide +kernel
theorem dX3_judgeHour_6 : decode cX3_judgeHour 6 = .ok (.iload_n 3, 1) := by decide +kernel
theorem dX3_judgeHour_7 : decode cX3_judgeHour 7 = .ok (.aload_n 0, 1) := by decide +kernel
theorem dX3_judgeHour_8 : decode cX3_judgeHour 8 = .ok (.getfield 10, 3) := by decide +kernel
theorem dX3_judgeHour_11 : decode cX3_judgeHour 11 = .ok (.getfield 40, 3) := by decide +kernel
theorem dX3_judgeHour_14 : decode cX3_judgeHour 14 = .ok (.if_icmp .ge 69, 3) := by decide +kernel
theorem dX3_judgeHour_17 : decode cX3_judgeHour 17 = .ok (.aload_n 0, 1) := by decide +kernel
theorem dX3_judgeHour_18 : decode cX3_judgeHour 18 = .ok (.getfield 28, 3) := by decide +kernel
theorem dX3_judgeHour_21 : decode cX3_judgeHour 21 = .ok (.getfield 114, 3) := by decide +kernel
theorem dX3_judgeHour_24 : decode cX3_judgeHour 24 = .ok (.iload_n 3, 1) := by decide +kernel
theorem dX3_judgeHour_25 : decode cX3_judgeHour 25 = .ok (.iaload, 1) := by decide +kernel
theorem dX3_judgeHour_26 : decode cX3_judgeHour 26 = .ok (.ifCond .le 51, 3) := by decide +kernel
theorem dX3_judgeHour_29 : decode cX3_judgeHour 29 = .ok (.iload_n 1, 1) := by decide +kernel
theorem dX3_judgeHour_30 : decode cX3_judgeHour 30 = .ok (.iconst 1, 1) := by decide +kernel
theorem dX3_judgeHour_31 : decode cX3_judgeHour 31 = .ok (.iload_n 3, 1) := by decide +kernel
theorem dX3_judgeHour_32 : decode cX3_judgeHour 32 = .ok (.ishl, 1) := by decide +kernel
theorem dX3_judgeHour_33 : decode cX3_judgeHour 33 = .ok (.ior, 1) := by decide +kernel
theorem dX3_judgeHour_34 : decode cX3_judgeHour 34 = .ok (.istore_n 1, 1) := by decide +kernel
theorem dX3_judgeHour_35 : decode cX3_judgeHour 35 = .ok (.aload_n 0, 1) := by decide +kernel
theorem dX3_judgeHour_36 : decode cX3_judgeHour 36 = .ok (.getfield 10, 3) := by decide +kernel
theorem dX3_judgeHour_39 : decode cX3_judgeHour 39 = .ok (.iload_n 3, 1) := by decide +kernel
theorem dX3_judgeHour_40 : decode cX3_judgeHour 40 = .ok (.aload_n 0, 1) := by decide +kernel
theorem dX3_judgeHour_41 : decode cX3_judgeHour 41 = .ok (.getfield 96, 3) := by decide +kernel
theorem dX3_judgeHour_44 : decode cX3_judgeHour 44 = .ok (.invokevirtual 176, 3) := by decide +kernel
theorem dX3_judgeHour_47 : decode cX3_judgeHour 47 = .ok (.ifCond .eq 30, 3) := by decide +kernel
theorem dX3_judgeHour_50 : decode cX3_judgeHour 50 = .ok (.iload_n 2, 1) := by decide +kernel
theorem dX3_judgeHour_51 : decode cX3_judgeHour 51 = .ok (.iconst 1, 1) := by decide +kernel
theorem dX3_judgeHour_52 : decode cX3_judgeHour 52 = .ok (.iload_n 3, 1) := by decide +kernel
theorem dX3_judgeHour_53 : decode cX3_judgeHour 53 = .ok (.ishl, 1) := by decide +kernel
theorem dX3_judgeHour_54 : decode cX3_judgeHour 54 = .ok (.ior, 1) := by decide +kernel
theorem dX3_judgeHour_55 : decode cX3_judgeHour 55 = .ok (.istore_n 2, 1) := by decide +kernel
theorem dX3_judgeHour_56 : decode cX3_judgeHour 56 = .ok (.aload_n 0, 1) := by decide +kernel
theorem dX3_judgeHour_57 : decode cX3_judgeHour 57 = .ok (.getfield 19, 3) := by decide +kernel
theorem dX3_judgeHour_60 : decode cX3_judgeHour 60 = .ok (.aload_n 0, 1) := by decide +kernel
theorem dX3_judgeHour_61 : decode cX3_judgeHour 61 = .ok (.getfield 96, 3) := by decide +kernel
theorem dX3_judgeHour_64 : decode cX3_judgeHour 64 = .ok (.iload_n 3, 1) := by decide +kernel
theorem dX3_judgeHour_65 : decode cX3_judgeHour 65 = .ok (.aload_n 0, 1) := by decide +kernel
theorem dX3_judgeHour_66 : decode cX3_judgeHour 66 = .ok (.getfield 10, 3) := by decide +kernel
theorem dX3_judgeHour_69 : decode cX3_judgeHour 69 = .ok (.getfield 102, 3) := by decide +kernel
theorem dX3_judgeHour_72 : decode cX3_judgeHour 72 = .ok (.iload_n 3, 1) := by decide +kernel
theorem dX3_judgeHour_73 : decode cX3_judgeHour 73 = .ok (.iaload, 1) := by decide +kernel
theorem dX3_judgeHour_74 : decode cX3_judgeHour 74 = .ok (.invokevirtual 179, 3) := by decide +kernel
theorem dX3_judgeHour_77 : decode cX3_judgeHour 77 = .ok (.iinc 3 1, 3) := by decide +kernel
theorem dX3_judgeHour_80 : decode cX3_judgeHour 80 = .ok (.goto (-74), 3) := by decide +kernel
theorem dX3_judgeHour_83 : decode cX3_judgeHour 83 = .ok (.aload_n 0, 1) := by decide +kernel
theorem dX3_judgeHour_84 : decode cX3_judgeHour 84 = .ok (.getfield 28, 3) := by decide +kernel
theorem dX3_judgeHour_87 : decode cX3_judgeHour 87 = .ok (.aload_n 0, 1) := by decide +kernel
theorem dX3_judgeHour_88 : decode cX3_judgeHour 88 = .ok (.getfield 96, 3) := by decide +kernel
theorem dX3_judgeHour_91 : decode cX3_judgeHour 91 = .ok (.invokevirtual 183, 3) := by decide +kernel
theorem dX3_judgeHour_94 : decode cX3_judgeHour 94 = .ok (.ifCond .eq 24, 3) := by decide +kernel
theorem dX3_judgeHour_97 : decode cX3_judgeHour 97 = .ok (.aload_n 0, 1) := by decide +kernel
theorem dX3_judgeHour_98 : decode cX3_judgeHour 98 = .ok (.getfield 19, 3) := by decide +kernel
theorem dX3_judgeHour_101 : decode cX3_judgeHour 101 = .ok (.aload_n 0, 1) := by decide +kernel
theorem dX3_judgeHour_102 : decode cX3_judgeHour 102 = .ok (.getfield 96, 3) := by decide +kernel
theorem dX3_judgeHour_105 : decode cX3_judgeHour 105 = .ok (.iconst 2, 1) := by decide +kernel
theorem dX3_judgeHour_106 : decode cX3_judgeHour 106 = .ok (.iload_n 2, 1) := by decide +kernel
theorem dX3_judgeHour_107 : decode cX3_judgeHour 107 = .ok (.ifCond .eq 7, 3) := by decide +kernel
theorem dX3_judgeHour_110 : decode cX3_judgeHour 110 = .ok (.iload_n 2, 1) := by decide +kernel
theorem dX3_judgeHour_111 : decode cX3_judgeHour 111 = .ok (.goto 4, 3) := by decide +kernel
theorem dX3_judgeHour_114 : decode cX3_judgeHour 114 = .ok (.iload_n 1, 1) := by decide +kernel
theorem dX3_judgeHour_115 : decode cX3_judgeHour 115 = .ok (.invokevirtual 186, 3) := by decide +kernel
theorem dX3_judgeHour_118 : decode cX3_judgeHour 118 = .ok (.return_, 1) := by decide +kernel
theorem dX4_init_0 : decode cX4_init 0 = .ok (.aload_n 0, 1) := by decide +kernel
theorem dX4_init_1 : decode cX4_init 1 = .ok (.invokespecial 1, 3) := by decide +kernel
theorem dX4_init_4 : decode cX4_init 4 = .ok (.aload_n 0, 1) := by decide +kernel
theorem dX4_init_5 : decode cX4_init 5 = .ok (.bipush 100, 2) := by decide +kernel
theorem dX4_init_7 : decode cX4_init 7 = .ok (.putfield 7, 3) := by decide +kernel
theorem dX4_init_10 : decode cX4_init 10 = .ok (.aload_n 0, 1) := by decide +kernel
theorem dX4_init_11 : decode cX4_init 11 = .ok (.iconst 5, 1) := by decide +kernel
theorem dX4_init_12 : decode cX4_init 12 = .ok (.putfield 13, 3) := by decide +kernel
theorem dX4_init_15 : decode cX4_init 15 = .ok (.aload_n 0, 1) := by decide +kernel
theorem dX4_init_16 : decode cX4_init 16 = .ok (.bipush 6, 2) := by decide +kernel
theorem dX4_init_18 : decode cX4_init 18 = .ok (.newarray .int, 2) := by decide +kernel
theorem dX4_init_20 : decode cX4_init 20 = .ok (.putfield 16, 3) := by decide +kernel
theorem dX4_init_23 : decode cX4_init 23 = .ok (.aload_n 0, 1) := by decide +kernel
theorem dX4_init_24 : decode cX4_init 24 = .ok (.bipush 6, 2) := by decide +kernel
theorem dX4_init_26 : decode cX4_init 26 = .ok (.newarray .int, 2) := by decide +kernel
theorem dX4_init_28 : decode cX4_init 28 = .ok (.putfield 20, 3) := by decide +kernel
theorem dX4_init_31 : decode cX4_init 31 = .ok (.aload_n 0, 1) := by decide +kernel
theorem dX4_init_32 : decode cX4_init 32 = .ok (.bipush 6, 2) := by decide +kernel
theorem dX4_init_34 : decode cX4_init 34 = .ok (.newarray .int, 2) := by decide +kernel
theorem dX4_init_36 : decode cX4_init 36 = .ok (.putfield 23, 3) := by decide +kernel
theorem dX4_init_39 : decode cX4_init 39 = .ok (.aload_n 0, 1) := by decide +kernel
theorem dX4_init_40 : decode cX4_init 40 = .ok (.bipush 6, 2) := by decide +kernel
theorem dX4_init_42 : decode cX4_init 42 = .ok (.newarray .int, 2) := by decide +kernel
theorem dX4_init_44 : decode cX4_init 44 = .ok (.putfield 26, 3) := by decide +kernel
theorem dX4_init_47 : decode cX4_init 47 = .ok (.aload_n 0, 1) := by decide +kernel
theorem dX4_init_48 : decode cX4_init 48 = .ok (.bipush 24, 2) := by decide +kernel
theorem dX4_init_50 : decode cX4_init 50 = .ok (.newarray .int, 2) := by decide +kernel
theorem dX4_init_52 : decode cX4_init 52 = .ok (.putfield 29, 3) := by decide +kernel
theorem dX4_init_55 : decode cX4_init 55 = .ok (.aload_n 0, 1) := by decide +kernel
theorem dX4_init_56 : decode cX4_init 56 = .ok (.bipush 42, 2) := by decide +kernel
theorem dX4_init_58 : decode cX4_init 58 = .ok (.newarray .int, 2) := by decide +kernel
theorem dX4_init_60 : decode cX4_init 60 = .ok (.putfield 32, 3) := by decide +kernel
theorem dX4_init_63 : decode cX4_init 63 = .ok (.aload_n 0, 1) := by decide +kernel
theorem dX4_init_64 : decode cX4_init 64 = .ok (.bipush 42, 2) := by decide +kernel
theorem dX4_init_66 : decode cX4_init 66 = .ok (.newarray .int, 2) := by decide +kernel
theorem dX4_init_68 : decode cX4_init 68 = .ok (.putfield 35, 3) := by decide +kernel
theorem dX4_init_71 : decode cX4_init 71 = .ok (.aload_n 0, 1) := by decide +kernel
theorem dX4_init_72 : decode cX4_init 72 = .ok (.sipush 168, 3) := by decide +kernel
theorem dX4_init_75 : decode cX4_init 75 = .ok (.newarray .int, 2) := by decide +kernel
theorem dX4_init_77 : decode cX4_init 77 = .ok (.putfield 38, 3) := by decide +kernel
theorem dX4_init_80 : decode cX4_init 80 = .ok (.aload_n 0, 1) := by decide +kernel
theorem dX4_init_81 : decode cX4_init 81 = .ok (.sipush 168, 3) := by decide +kernel
theorem dX4_init_84 : decode cX4_init 84 = .ok (.newarray .int, 2) := by decide +kernel
theorem dX4_init_86 : decode cX4_init 86 = .ok (.putfield 41, 3) := by decide +kernel
theorem dX4_init_89 : decode cX4_init 89 = .ok (.aload_n 0, 1) := by decide +kernel
theorem dX4_init_90 : decode cX4_init 90 = .ok (.sipush 168, 3) := by decide +kernel
theorem dX4_init_93 : decode cX4_init 93 = .ok (.newarray .int, 2) := by decide +kernel
theorem dX4_init_95 : decode cX4_init 95 = .ok (.putfield 44, 3) := by decide +kernel
theorem dX4_init_98 : decode cX4_init 98 = .ok (.aload_n 0, 1) := by decide +kernel
theorem dX4_init_99 : decode cX4_init 99 = .ok (.sipush 168, 3) := by decide +kernel
theorem dX4_init_102 : decode cX4_init 102 = .ok (.newarray .int, 2) := by decide +kernel
theorem dX4_init_104 : decode cX4_init 104 = .ok (.putfield 47, 3) := by decide +kernel
theorem dX4_init_107 : decode cX4_init 107 = .ok (.aload_n 0, 1) := by decide +kernel
theorem dX4_init_108 : decode cX4_init 108 = .ok (.sipush 168, 3) := by decide +kernel
theorem dX4_init_111 : decode cX4_init 111 = .ok (.newarray .int, 2) := by decide +kernel
theorem dX4_init_113 : decode cX4_init 113 = .ok (.putfield 50, 3) := by decide +kernel
theorem dX4_init_116 : decode cX4_init 116 = .ok (.aload_n 0, 1) := by decide +kernel
theorem dX4_init_117 : decode cX4_init 117 = .ok (.bipush 7, 2) := by decide +kernel
theorem dX4_init_119 : decode cX4_init 119 = .ok (.newarray .int, 2) := by decide +kernel
theorem dX4_init_121 : decode cX4_init 121 = .ok (.putfield 53, 3) := by decide +kernel
theorem dX4_init_124 : decode cX4_init 124 = .ok (.aload_n 0, 1) := by decide +kernel
theorem dX4_init_125 : decode cX4_init 125 = .ok (.bipush 7, 2) := by decide +kernel
theorem dX4_init_127 : decode cX4_init 127 = .ok (.newarray .int, 2) := by decide +kernel
theorem dX4_init_129 : decode cX4_init 129 = .ok (.putfield 56, 3) := by decide +kernel
theorem dX4_init_132 : decode cX4_init 132 = .ok (.aload_n 0, 1) := by decide +kernel
theorem dX4_init_133 : decode cX4_init 133 = .ok (.bipush 7, 2) := by decide +kernel
theorem dX4_init_135 : decode cX4_init 135 = .ok (.newarray .int, 2) := by decide +kernel
theorem dX4_init_137 : decode cX4_init 137 = .ok (.putfield 59, 3) := by decide +kernel
theorem dX4_init_140 : decode cX4_init 140 = .ok (.aload_n 0, 1) := by decide +kernel
theorem dX4_init_141 : decode cX4_init 141 = .ok (.bipush 60, 2) := by decide +kernel
theorem dX4_init_143 : decode cX4_init 143 = .ok (.newarray .int, 2) := by decide +kernel
theorem dX4_init_145 : decode cX4_init 145 = .ok (.putfield 62, 3) := by decide +kernel
theorem dX4_init_148 : decode cX4_init 148 = .ok (.aload_n 0, 1) := by decide +kernel
theorem dX4_init_149 : decode cX4_init 149 = .ok (.bipush 60, 2) := by decide +kernel
theorem dX4_init_151 : decode cX4_init 151 = .ok (.newarray .int, 2) := by decide +kernel
theorem dX4_init_153 : decode cX4_init 153 = .ok (.putfield 65, 3) := by decide +kernel
theorem dX4_init_156 : decode cX4_init 156 = .ok (.aload_n 0, 1) := by decide +kernel
theorem dX4_init_157 : decode cX4_init 157 = .ok (.bipush 60, 2) := by decide +kernel
theorem dX4_init_159 : decode cX4_init 159 = .ok (.newarray .int, 2) := by decide +kernel
theorem dX4_init_161 : decode cX4_init 161 = .ok (.putfield 68, 3) := by decide +kernel
theorem dX4_init_164 : decode cX4_init 164 = .ok (.aload_n 0, 1) := by decide +kernel
theorem dX4_init_165 : decode cX4_init 165 = .ok (.iconst 4, 1) := by decide +kernel
theorem dX4_init_166 : decode cX4_init 166 = .ok (.newarray .int, 2) := by decide +kernel
theorem dX4_init_168 : decode cX4_init 168 = .ok (.putfield 71, 3) := by decide +kernel
theorem dX4_init_171 : decode cX4_init 171 = .ok (.return_, 1) := by decide +kernel
theorem dX4_in_0 : decode cX4_in 0 = .ok (.iload_n 0, 1) := by decide +kernel
theorem dX4_in_1 : decode cX4_in 1 = .ok (.iload_n 1, 1) := by decide +kernel
theorem dX4_in_2 : decode cX4_in 2 = .ok (.if_icmp .lt 12, 3) := by decide +kernel
theorem dX4_in_5 : decode cX4_in 5 = .ok (.iload_n 0, 1) := by decide +kernel
theorem dX4_in_6 : decode cX4_in 6 = .ok (.iload_n 2, 1) := by decide +kernel
theorem dX4_in_7 : decode cX4_in 7 = .ok (.if_icmp .gt 7, 3) := by decide +kernel
theorem dX4_in_10 : decode cX4_in 10 = .ok (.iconst 1, 1) := by decide +kernel
theorem dX4_in_11 : decode cX4_in 11 = .ok (.goto 4, 3) := by decide +kernel
theorem dX4_in_14 : decode cX4_in 14 = .ok (.iconst 0, 1) := by decide +kernel
theorem dX4_in_15 : decode cX4_in 15 = .ok (.ireturn, 1) := by decide +kernel
theorem dX4_isHatch_0 : decode cX4_isHatch 0 = .ok (.iload_n 1, 1) := by decide +kernel
theorem dX4_isHatch_1 : decode cX4_isHatch 1 = .ok (.iconst 0, 1) := by decide +kernel
theorem dX4_isHatch_2 : decode cX4_isHatch 2 = .ok (.aload_n 0, 1) := by decide +kernel
theorem dX4_isHatch_3 : decode cX4_isHatch 3 = .ok (.getfield 74, 3) := by decide +kernel
theorem dX4_isHatch_6 : decode cX4_isHatch 6 = .ok (.iconst 1, 1) := by decide +kernel
theorem dX4_isHatch_7 : decode cX4_isHatch 7 = .ok (.isub, 1) := by decide +kernel
theorem dX4_isHatch_8 : decode cX4_isHatch 8 = .ok (.invokestatic 77, 3) := by decide +kernel
theorem dX4_isHatch_11 : decode cX4_isHatch 11 = .ok (.ireturn, 1) := by decide +kernel
theorem dX4_isFull_0 : decode cX4_isFull 0 = .ok (.aload_n 0, 1) := by decide +kernel
theorem dX4_isFull_1 : decode cX4_isFull 1 = .ok (.getfield 81, 3) := by decide +kernel
theorem dX4_isFull_4 : decode cX4_isFull 4 = .ok (.bipush 90, 2) := by decide +kernel
theorem dX4_isFull_6 : decode cX4_isFull 6 = .ok (.if_icmp .ne 7, 3) := by decide +kernel
theorem dX4_isFull_9 : decode cX4_isFull 9 = .ok (.iconst 1, 1) := by decide +kernel
theorem dX4_isFull_10 : decode cX4_isFull 10 = .ok (.goto 4, 3) := by decide +kernel
theorem dX4_isFull_13 : decode cX4_isFull 13 = .ok (.iconst 0, 1) := by decide +kernel
theorem dX4_isFull_14 : decode cX4_isFull 14 = .ok (.ireturn, 1) := by decide +kernel
theorem dX4_hatch_0 : decode cX4_hatch 0 = .ok (.iload_n 1, 1) := by decide +kernel
theorem dX4_hatch_1 : decode cX4_hatch 1 = .ok (.iconst 0, 1) := by decide +kernel
theorem dX4_hatch_2 : decode cX4_hatch 2 = .ok (.iconst 3, 1) := by decide +kernel
theorem dX4_hatch_3 : decode cX4_hatch 3 = .ok (.invokestatic 77, 3) := by decide +kernel
theorem dX4_hatch_6 : decode cX4_hatch 6 = .ok (.ifCond .eq 23, 3) := by decide +kernel
theorem dX4_hatch_9 : decode cX4_hatch 9 = .ok (.iload_n 2, 1) := by decide +kernel
theorem dX4_hatch_10 : decode cX4_hatch 10 = .ok (.iconst 1, 1) := by decide +kernel
theorem dX4_hatch_11 : decode cX4_hatch 11 = .ok (.sipush 200, 3) := by decide +kernel
theorem dX4_hatch_14 : decode cX4_hatch 14 = .ok (.invokestatic 77, 3) := by decide +kernel
theorem dX4_hatch_17 : decode cX4_hatch 17 = .ok (.ifCond .eq 12, 3) := by decide +kernel
theorem dX4_hatch_20 : decode cX4_hatch 20 = .ok (.iload_n 3, 1) := by decide +kernel
theorem dX4_hatch_21 : decode cX4_hatch 21 = .ok (.iconst 1, 1) := by decide +kernel
theorem dX4_hatch_22 : decode cX4_hatch 22 = .ok (.iconst 4, 1) := by decide +kernel
theorem dX4_hatch_23 : decode cX4_hatch 23 = .ok (.invokestatic 77, 3) := by decide +kernel
theorem dX4_hatch_26 : decode cX4_hatch 26 = .ok (.ifCond .ne 5, 3) := by decide +kernel
theorem dX4_hatch_29 : decode cX4_hatch 29 = .ok (.iconst (-1), 1) := by decide +kernel
theorem dX4_hatch_30 : decode cX4_hatch 30 = .ok (.ireturn, 1) := by decide +kernel
theorem dX4_hatch_31 : decode cX4_hatch 31 = .ok (.aload_n 0, 1) := by decide +kernel
theorem dX4_hatch_32 : decode cX4_hatch 32 = .ok (.getfield 74, 3) := by decide +kernel
theorem dX4_hatch_35 : decode cX4_hatch 35 = .ok (.bipush 6, 2) := by decide +kernel
theorem dX4_hatch_37 : decode cX4_hatch 37 = .ok (.if_icmp .eq 10, 3) := by decide +kernel
theorem dX4_hatch_40 : decode cX4_hatch 40 = .ok (.aload_n 0, 1) := by decide +kernel
theorem dX4_hatch_41 : decode cX4_hatch 41 = .ok (.invokevirtual 84, 3) := by decide +kernel
theorem dX4_hatch_44 : decode cX4_hatch 44 = .ok (.ifCond .eq 6, 3) := by decide +kernel
theorem dX4_hatch_47 : decode cX4_hatch 47 = .ok (.bipush (-3), 2) := by decide +kernel
theorem dX4_hatch_49 : decode cX4_hatch 49 = .ok (.ireturn, 1) := by decide +kernel
theorem dX4_hatch_50 : decode cX4_hatch 50 = .ok (.aload_n 0, 1) := by decide +kernel
theorem dX4_hatch_51 : decode cX4_hatch 51 = .ok (.getfield 16, 3) := by decide +kernel
theorem dX4_hatch_54 : decode cX4_hatch 54 = .ok (.aload_n 0, 1) := by decide +kernel
theorem dX4_hatch_55 : decode cX4_hatch 55 = .ok (.getfield 74, 3) := by decide +kernel
theorem dX4_hatch_58 : decode cX4_hatch 58 = .ok (.iload_n 1, 1) := by decide +kernel
theorem dX4_hatch_59 : decode cX4_hatch 59 = .ok (.iastore, 1) := by decide +kernel
theorem dX4_hatch_60 : decode cX4_hatch 60 = .ok (.aload_n 0, 1) := by decide +kernel
theorem dX4_hatch_61 : decode cX4_hatch 61 = .ok (.getfield 20, 3) := by decide +kernel
theorem dX4_hatch_64 : decode cX4_hatch 64 = .ok (.aload_n 0, 1) := by decide +kernel
theorem dX4_hatch_65 : decode cX4_hatch 65 = .ok (.getfield 74, 3) := by decide +kernel
theorem dX4_hatch_68 : decode cX4_hatch 68 = .ok (.iload_n 2, 1) := by decide +kernel
theorem dX4_hatch_69 : decode cX4_hatch 69 = .ok (.iastore, 1) := by decide +kernel
theorem dX4_hatch_70 : decode cX4_hatch 70 = .ok (.aload_n 0, 1) := by decide +kernel
theorem dX4_hatch_71 : decode cX4_hatch 71 = .ok (.getfield 23, 3) := by decide +kernel
theorem dX4_hatch_74 : decode cX4_hatch 74 = .ok (.aload_n 0, 1) := by decide +kernel
theorem dX4_hatch_75 : decode cX4_hatch 75 = .ok (.getfield 74, 3) := by decide +kernel
theorem dX4_hatch_78 : decode cX4_hatch 78 = .ok (.iload_n 3, 1) := by decide +kernel
theorem dX4_hatch_79 : decode cX4_hatch 79 = .ok (.iastore, 1) := by decide +kernel
theorem dX4_hatch_80 : decode cX4_hatch 80 = .ok (.aload_n 0, 1) := by decide +kernel
theorem dX4_hatch_81 : decode cX4_hatch 81 = .ok (.dup, 1) := by decide +kernel
theorem dX4_hatch_82 : decode cX4_hatch 82 = .ok (.getfield 81, 3) := by decide +kernel
theorem dX4_hatch_85 : decode cX4_hatch 85 = .ok (.iconst 1, 1) := by decide +kernel
theorem dX4_hatch_86 : decode cX4_hatch 86 = .ok (.iadd, 1) := by decide +kernel
theorem dX4_hatch_87 : decode cX4_hatch 87 = .ok (.putfield 81, 3) := by decide +kernel
theorem dX4_hatch_90 : decode cX4_hatch 90 = .ok (.aload_n 0, 1) := by decide +kernel
theorem dX4_hatch_91 : decode cX4_hatch 91 = .ok (.dup, 1) := by decide +kernel
theorem dX4_hatch_92 : decode cX4_hatch 92 = .ok (.getfield 74, 3) := by decide +kernel
theorem dX4_hatch_95 : decode cX4_hatch 95 = .ok (.iconst 1, 1) := by decide +kernel
theorem dX4_hatch_96 : decode cX4_hatch 96 = .ok (.iadd, 1) := by decide +kernel
theorem dX4_hatch_97 : decode cX4_hatch 97 = .ok (.putfield 74, 3) := by decide +kernel
theorem dX4_hatch_100 : decode cX4_hatch 100 = .ok (.aload_n 0, 1) := by decide +kernel
theorem dX4_hatch_101 : decode cX4_hatch 101 = .ok (.getfield 74, 3) := by decide +kernel
theorem dX4_hatch_104 : decode cX4_hatch 104 = .ok (.iconst 1, 1) := by decide +kernel
theorem dX4_hatch_105 : decode cX4_hatch 105 = .ok (.isub, 1) := by decide +kernel
theorem dX4_hatch_106 : decode cX4_hatch 106 = .ok (.ireturn, 1) := by decide +kernel
theorem dX4_open_0 : decode cX4_open 0 = .ok (.aload_n 0, 1) := by decide +kernel
theorem dX4_open_1 : decode cX4_open 1 = .ok (.iload_n 1, 1) := by decide +kernel
theorem dX4_open_2 : decode cX4_open 2 = .ok (.invokevirtual 88, 3) := by decide +kernel
theorem dX4_open_5 : decode cX4_open 5 = .ok (.ifCond .eq 12, 3) := by decide +kernel
theorem dX4_open_8 : decode cX4_open 8 = .ok (.iload_n 2, 1) := by decide +kernel
theorem dX4_open_9 : decode cX4_open 9 = .ok (.iconst 0, 1) := by decide +kernel
theorem dX4_open_10 : decode cX4_open 10 = .ok (.iconst 4, 1) := by decide +kernel
theorem dX4_open_11 : decode cX4_open 11 = .ok (.invokestatic 77, 3) := by decide +kernel
theorem dX4_open_14 : decode cX4_open 14 = .ok (.ifCond .ne 5, 3) := by decide +kernel
theorem dX4_open_17 : decode cX4_open 17 = .ok (.iconst (-1), 1) := by decide +kernel
theorem dX4_open_18 : decode cX4_open 18 = .ok (.ireturn, 1) := by decide +kernel
theorem dX4_open_19 : decode cX4_open 19 = .ok (.aload_n 0, 1) := by decide +kernel
theorem dX4_open_20 : decode cX4_open 20 = .ok (.invokevirtual 84, 3) := by decide +kernel
theorem dX4_open_23 : decode cX4_open 23 = .ok (.ifCond .eq 6, 3) := by decide +kernel
theorem dX4_open_26 : decode cX4_open 26 = .ok (.bipush (-3), 2) := by decide +kernel
theorem dX4_open_28 : decode cX4_open 28 = .ok (.ireturn, 1) := by decide +kernel
theorem dX4_open_29 : decode cX4_open 29 = .ok (.aload_n 0, 1) := by decide +kernel
theorem dX4_open_30 : decode cX4_open 30 = .ok (.dup, 1) := by decide +kernel
theorem dX4_open_31 : decode cX4_open 31 = .ok (.getfield 81, 3) := by decide +kernel
theorem dX4_open_34 : decode cX4_open 34 = .ok (.iconst 1, 1) := by decide +kernel
theorem dX4_open_35 : decode cX4_open 35 = .ok (.iadd, 1) := by decide +kernel
theorem dX4_open_36 : decode cX4_open 36 = .ok (.putfield 81, 3) := by decide +kernel
theorem dX4_open_39 : decode cX4_open 39 = .ok (.aload_n 0, 1) := by decide +kernel
theorem dX4_open_40 : decode cX4_open 40 = .ok (.getfield 26, 3) := by decide +kernel
theorem dX4_open_43 : decode cX4_open 43 = .ok (.iload_n 1, 1) := by decide +kernel
theorem dX4_open_44 : decode cX4_open 44 = .ok (.iaload, 1) := by decide +kernel
theorem dX4_open_45 : decode cX4_open 45 = .ok (.istore_n 3, 1) := by decide +kernel
theorem dX4_open_46 : decode cX4_open 46 = .ok (.aload_n 0, 1) := by decide +kernel
theorem dX4_open_47 : decode cX4_open 47 = .ok (.getfield 26, 3) := by decide +kernel
theorem dX4_open_50 : decode cX4_open 50 = .ok (.iload_n 1, 1) := by decide +kernel
theorem dX4_open_51 : decode cX4_open 51 = .ok (.iload_n 2, 1) := by decide +kernel
theorem dX4_open_52 : decode cX4_open 52 = .ok (.iastore, 1) := by decide +kernel
theorem dX4_open_53 : decode cX4_open 53 = .ok (.iload_n 3, 1) := by decide +kernel
theorem dX4_open_54 : decode cX4_open 54 = .ok (.ireturn, 1) := by decide +kernel
theorem dX4_flow_0 : decode cX4_flow 0 = .ok (.iload_n 1, 1) := by decide +kernel
theorem dX4_flow_1 : decode cX4_flow 1 = .ok (.iconst 0, 1) := by decide +kernel
theorem dX4_flow_2 : decode cX4_flow 2 = .ok (.sipush 1000, 3) := by decide +kernel
theorem dX4_flow_5 : decode cX4_flow 5 = .ok (.invokestatic 77, 3) := by decide +kernel
theorem dX4_flow_8 : decode cX4_flow 8 = .ok (.ifCond .ne 5, 3) := by decide +kernel
theorem dX4_flow_11 : decode cX4_flow 11 = .ok (.iconst (-1), 1) := by decide +kernel
theorem dX4_flow_12 : decode cX4_flow 12 = .ok (.ireturn, 1) := by decide +kernel
theorem dX4_flow_13 : decode cX4_flow 13 = .ok (.aload_n 0, 1) := by decide +kernel
theorem dX4_flow_14 : decode cX4_flow 14 = .ok (.invokevirtual 84, 3) := by decide +kernel
theorem dX4_flow_17 : decode cX4_flow 17 = .ok (.ifCond .eq 6, 3) := by decide +kernel
end
section
theorem dX4_flow_20 : decode cX4_flow 20 = .ok (.bipush (-3), 2) := by decide +kernel
theorem dX4_flow_22 : decode cX4_flow 22 = .ok (.ireturn, 1) := by decide +kernel
theorem dX4_flow_23 : decode cX4_flow 23 = .ok (.aload_n 0, 1) := by decide +kernel
theorem dX4_flow_24 : decode cX4_flow 24 = .ok (.dup, 1) := by decide +kernel
theorem dX4_flow_25 : decode cX4_flow 25 = .ok (.getfield 81, 3) := by decide +kernel
theorem dX4_flow_28 : decode cX4_flow 28 = .ok (.iconst 1, 1) := by decide +kernel
theorem dX4_flow_29 : decode cX4_flow 29 = .ok (.iadd, 1) := by decide +kernel
theorem dX4_flow_30 : decode cX4_flow 30 = .ok (.putfield 81, 3) := by decide +kernel
theorem dX4_flow_33 : decode cX4_flow 33 = .ok (.aload_n 0, 1) := by decide +kernel
theorem dX4_flow_34 : decode cX4_flow 34 = .ok (.getfield 7, 3) := by decide +kernel
theorem dX4_flow_37 : decode cX4_flow 37 = .ok (.istore_n 2, 1) := by decide +kernel
theorem dX4_flow_38 : decode cX4_flow 38 = .ok (.aload_n 0, 1) := by decide +kernel
theorem dX4_flow_39 : decode cX4_flow 39 = .ok (.iload_n 1, 1) := by decide +kernel
theorem dX4_flow_40 : decode cX4_flow 40 = .ok (.putfield 7, 3) := by decide +kernel
theorem dX4_flow_43 : decode cX4_flow 43 = .ok (.iload_n 2, 1) := by decide +kernel
theorem dX4_flow_44 : decode cX4_flow 44 = .ok (.ireturn, 1) := by decide +kernel
theorem dX4_air_0 : decode cX4_air 0 = .ok (.iload_n 1, 1) := by decide +kernel
theorem dX4_air_1 : decode cX4_air 1 = .ok (.bipush (-20), 2) := by decide +kernel
theorem dX4_air_3 : decode cX4_air 3 = .ok (.bipush 30, 2) := by decide +kernel
theorem dX4_air_5 : decode cX4_air 5 = .ok (.invokestatic 77, 3) := by decide +kernel
theorem dX4_air_8 : decode cX4_air 8 = .ok (.ifCond .ne 6, 3) := by decide +kernel
theorem dX4_air_11 : decode cX4_air 11 = .ok (.bipush (-100), 2) := by decide +kernel
theorem dX4_air_13 : decode cX4_air 13 = .ok (.ireturn, 1) := by decide +kernel
theorem dX4_air_14 : decode cX4_air 14 = .ok (.aload_n 0, 1) := by decide +kernel
theorem dX4_air_15 : decode cX4_air 15 = .ok (.invokevirtual 84, 3) := by decide +kernel
theorem dX4_air_18 : decode cX4_air 18 = .ok (.ifCond .eq 6, 3) := by decide +kernel
theorem dX4_air_21 : decode cX4_air 21 = .ok (.bipush (-101), 2) := by decide +kernel
theorem dX4_air_23 : decode cX4_air 23 = .ok (.ireturn, 1) := by decide +kernel
theorem dX4_air_24 : decode cX4_air 24 = .ok (.aload_n 0, 1) := by decide +kernel
theorem dX4_air_25 : decode cX4_air 25 = .ok (.dup, 1) := by decide +kernel
theorem dX4_air_26 : decode cX4_air 26 = .ok (.getfield 81, 3) := by decide +kernel
theorem dX4_air_29 : decode cX4_air 29 = .ok (.iconst 1, 1) := by decide +kernel
theorem dX4_air_30 : decode cX4_air 30 = .ok (.iadd, 1) := by decide +kernel
theorem dX4_air_31 : decode cX4_air 31 = .ok (.putfield 81, 3) := by decide +kernel
theorem dX4_air_34 : decode cX4_air 34 = .ok (.aload_n 0, 1) := by decide +kernel
theorem dX4_air_35 : decode cX4_air 35 = .ok (.getfield 13, 3) := by decide +kernel
theorem dX4_air_38 : decode cX4_air 38 = .ok (.istore_n 2, 1) := by decide +kernel
theorem dX4_air_39 : decode cX4_air 39 = .ok (.aload_n 0, 1) := by decide +kernel
theorem dX4_air_40 : decode cX4_air 40 = .ok (.iload_n 1, 1) := by decide +kernel
theorem dX4_air_41 : decode cX4_air 41 = .ok (.putfield 13, 3) := by decide +kernel
theorem dX4_air_44 : decode cX4_air 44 = .ok (.iload_n 2, 1) := by decide +kernel
theorem dX4_air_45 : decode cX4_air 45 = .ok (.ireturn, 1) := by decide +kernel
theorem dX4_dig_0 : decode cX4_dig 0 = .ok (.aload_n 0, 1) := by decide +kernel
theorem dX4_dig_1 : decode cX4_dig 1 = .ok (.iload_n 1, 1) := by decide +kernel
theorem dX4_dig_2 : decode cX4_dig 2 = .ok (.invokevirtual 88, 3) := by decide +kernel
theorem dX4_dig_5 : decode cX4_dig 5 = .ok (.ifCond .ne 5, 3) := by decide +kernel
theorem dX4_dig_8 : decode cX4_dig 8 = .ok (.iconst (-1), 1) := by decide +kernel
theorem dX4_dig_9 : decode cX4_dig 9 = .ok (.ireturn, 1) := by decide +kernel
theorem dX4_dig_10 : decode cX4_dig 10 = .ok (.aload_n 0, 1) := by decide +kernel
theorem dX4_dig_11 : decode cX4_dig 11 = .ok (.invokevirtual 84, 3) := by decide +kernel
theorem dX4_dig_14 : decode cX4_dig 14 = .ok (.ifCond .eq 6, 3) := by decide +kernel
theorem dX4_dig_17 : decode cX4_dig 17 = .ok (.bipush (-3), 2) := by decide +kernel
theorem dX4_dig_19 : decode cX4_dig 19 = .ok (.ireturn, 1) := by decide +kernel
theorem dX4_dig_20 : decode cX4_dig 20 = .ok (.aload_n 0, 1) := by decide +kernel
theorem dX4_dig_21 : decode cX4_dig 21 = .ok (.dup, 1) := by decide +kernel
theorem dX4_dig_22 : decode cX4_dig 22 = .ok (.getfield 81, 3) := by decide +kernel
theorem dX4_dig_25 : decode cX4_dig 25 = .ok (.iconst 1, 1) := by decide +kernel
theorem dX4_dig_26 : decode cX4_dig 26 = .ok (.iadd, 1) := by decide +kernel
theorem dX4_dig_27 : decode cX4_dig 27 = .ok (.putfield 81, 3) := by decide +kernel
theorem dX4_dig_30 : decode cX4_dig 30 = .ok (.aload_n 0, 1) := by decide +kernel
theorem dX4_dig_31 : decode cX4_dig 31 = .ok (.getfield 32, 3) := by decide +kernel
theorem dX4_dig_34 : decode cX4_dig 34 = .ok (.iload_n 1, 1) := by decide +kernel
theorem dX4_dig_35 : decode cX4_dig 35 = .ok (.iaload, 1) := by decide +kernel
theorem dX4_dig_36 : decode cX4_dig 36 = .ok (.bipush 100, 2) := by decide +kernel
theorem dX4_dig_38 : decode cX4_dig 38 = .ok (.idiv, 1) := by decide +kernel
theorem dX4_dig_39 : decode cX4_dig 39 = .ok (.istore_n 2, 1) := by decide +kernel
theorem dX4_dig_40 : decode cX4_dig 40 = .ok (.iconst 0, 1) := by decide +kernel
theorem dX4_dig_41 : decode cX4_dig 41 = .ok (.istore_n 3, 1) := by decide +kernel
theorem dX4_dig_42 : decode cX4_dig 42 = .ok (.iload_n 3, 1) := by decide +kernel
theorem dX4_dig_43 : decode cX4_dig 43 = .ok (.bipush 7, 2) := by decide +kernel
theorem dX4_dig_45 : decode cX4_dig 45 = .ok (.if_icmp .ge 21, 3) := by decide +kernel
theorem dX4_dig_48 : decode cX4_dig 48 = .ok (.aload_n 0, 1) := by decide +kernel
theorem dX4_dig_49 : decode cX4_dig 49 = .ok (.getfield 32, 3) := by decide +kernel
theorem dX4_dig_52 : decode cX4_dig 52 = .ok (.bipush 6, 2) := by decide +kernel
theorem dX4_dig_54 : decode cX4_dig 54 = .ok (.iload_n 3, 1) := by decide +kernel
theorem dX4_dig_55 : decode cX4_dig 55 = .ok (.imul, 1) := by decide +kernel
theorem dX4_dig_56 : decode cX4_dig 56 = .ok (.iload_n 1, 1) := by decide +kernel
theorem dX4_dig_57 : decode cX4_dig 57 = .ok (.iadd, 1) := by decide +kernel
theorem dX4_dig_58 : decode cX4_dig 58 = .ok (.iconst 0, 1) := by decide +kernel
theorem dX4_dig_59 : decode cX4_dig 59 = .ok (.iastore, 1) := by decide +kernel
theorem dX4_dig_60 : decode cX4_dig 60 = .ok (.iinc 3 1, 3) := by decide +kernel
theorem dX4_dig_63 : decode cX4_dig 63 = .ok (.goto (-21), 3) := by decide +kernel
theorem dX4_dig_66 : decode cX4_dig 66 = .ok (.iload_n 2, 1) := by decide +kernel
theorem dX4_dig_67 : decode cX4_dig 67 = .ok (.ireturn, 1) := by decide +kernel
theorem dX4_isPane_0 : decode cX4_isPane 0 = .ok (.aload_n 0, 1) := by decide +kernel
theorem dX4_isPane_1 : decode cX4_isPane 1 = .ok (.iload_n 1, 1) := by decide +kernel
theorem dX4_isPane_2 : decode cX4_isPane 2 = .ok (.invokevirtual 88, 3) := by decide +kernel
theorem dX4_isPane_5 : decode cX4_isPane 5 = .ok (.ifCond .eq 23, 3) := by decide +kernel
theorem dX4_isPane_8 : decode cX4_isPane 8 = .ok (.iload_n 2, 1) := by decide +kernel
theorem dX4_isPane_9 : decode cX4_isPane 9 = .ok (.iconst 0, 1) := by decide +kernel
theorem dX4_isPane_10 : decode cX4_isPane 10 = .ok (.aload_n 0, 1) := by decide +kernel
theorem dX4_isPane_11 : decode cX4_isPane 11 = .ok (.getfield 23, 3) := by decide +kernel
theorem dX4_isPane_14 : decode cX4_isPane 14 = .ok (.iload_n 1, 1) := by decide +kernel
theorem dX4_isPane_15 : decode cX4_isPane 15 = .ok (.iaload, 1) := by decide +kernel
theorem dX4_isPane_16 : decode cX4_isPane 16 = .ok (.iconst 1, 1) := by decide +kernel
theorem dX4_isPane_17 : decode cX4_isPane 17 = .ok (.isub, 1) := by decide +kernel
theorem dX4_isPane_18 : decode cX4_isPane 18 = .ok (.invokestatic 77, 3) := by decide +kernel
theorem dX4_isPane_21 : decode cX4_isPane 21 = .ok (.ifCond .eq 7, 3) := by decide +kernel
theorem dX4_isPane_24 : decode cX4_isPane 24 = .ok (.iconst 1, 1) := by decide +kernel
theorem dX4_isPane_25 : decode cX4_isPane 25 = .ok (.goto 4, 3) := by decide +kernel
theorem dX4_isPane_28 : decode cX4_isPane 28 = .ok (.iconst 0, 1) := by decide +kernel
theorem dX4_isPane_29 : decode cX4_isPane 29 = .ok (.ireturn, 1) := by decide +kernel
theorem dX4_sheep_0 : decode cX4_sheep 0 = .ok (.aload_n 0, 1) := by decide +kernel
theorem dX4_sheep_1 : decode cX4_sheep 1 = .ok (.iload_n 1, 1) := by decide +kernel
theorem dX4_sheep_2 : decode cX4_sheep 2 = .ok (.iload_n 2, 1) := by decide +kernel
theorem dX4_sheep_3 : decode cX4_sheep 3 = .ok (.invokevirtual 92, 3) := by decide +kernel
theorem dX4_sheep_6 : decode cX4_sheep 6 = .ok (.ifCond .eq 13, 3) := by decide +kernel
theorem dX4_sheep_9 : decode cX4_sheep 9 = .ok (.iload_n 3, 1) := by decide +kernel
theorem dX4_sheep_10 : decode cX4_sheep 10 = .ok (.iconst 0, 1) := by decide +kernel
theorem dX4_sheep_11 : decode cX4_sheep 11 = .ok (.bipush 50, 2) := by decide +kernel
theorem dX4_sheep_13 : decode cX4_sheep 13 = .ok (.invokestatic 77, 3) := by decide +kernel
theorem dX4_sheep_16 : decode cX4_sheep 16 = .ok (.ifCond .ne 5, 3) := by decide +kernel
theorem dX4_sheep_19 : decode cX4_sheep 19 = .ok (.iconst (-1), 1) := by decide +kernel
theorem dX4_sheep_20 : decode cX4_sheep 20 = .ok (.ireturn, 1) := by decide +kernel
theorem dX4_sheep_21 : decode cX4_sheep 21 = .ok (.aload_n 0, 1) := by decide +kernel
theorem dX4_sheep_22 : decode cX4_sheep 22 = .ok (.invokevirtual 84, 3) := by decide +kernel
theorem dX4_sheep_25 : decode cX4_sheep 25 = .ok (.ifCond .eq 6, 3) := by decide +kernel
theorem dX4_sheep_28 : decode cX4_sheep 28 = .ok (.bipush (-3), 2) := by decide +kernel
theorem dX4_sheep_30 : decode cX4_sheep 30 = .ok (.ireturn, 1) := by decide +kernel
theorem dX4_sheep_31 : decode cX4_sheep 31 = .ok (.aload_n 0, 1) := by decide +kernel
theorem dX4_sheep_32 : decode cX4_sheep 32 = .ok (.dup, 1) := by decide +kernel
theorem dX4_sheep_33 : decode cX4_sheep 33 = .ok (.getfield 81, 3) := by decide +kernel
theorem dX4_sheep_36 : decode cX4_sheep 36 = .ok (.iconst 1, 1) := by decide +kernel
theorem dX4_sheep_37 : decode cX4_sheep 37 = .ok (.iadd, 1) := by decide +kernel
theorem dX4_sheep_38 : decode cX4_sheep 38 = .ok (.putfield 81, 3) := by decide +kernel
theorem dX4_sheep_41 : decode cX4_sheep 41 = .ok (.aload_n 0, 1) := by decide +kernel
theorem dX4_sheep_42 : decode cX4_sheep 42 = .ok (.getfield 29, 3) := by decide +kernel
theorem dX4_sheep_45 : decode cX4_sheep 45 = .ok (.iconst 4, 1) := by decide +kernel
theorem dX4_sheep_46 : decode cX4_sheep 46 = .ok (.iload_n 1, 1) := by decide +kernel
theorem dX4_sheep_47 : decode cX4_sheep 47 = .ok (.imul, 1) := by decide +kernel
theorem dX4_sheep_48 : decode cX4_sheep 48 = .ok (.iload_n 2, 1) := by decide +kernel
theorem dX4_sheep_49 : decode cX4_sheep 49 = .ok (.iadd, 1) := by decide +kernel
theorem dX4_sheep_50 : decode cX4_sheep 50 = .ok (.iaload, 1) := by decide +kernel
theorem dX4_sheep_51 : decode cX4_sheep 51 = .ok (.istore 4, 2) := by decide +kernel
theorem dX4_sheep_53 : decode cX4_sheep 53 = .ok (.aload_n 0, 1) := by decide +kernel
theorem dX4_sheep_54 : decode cX4_sheep 54 = .ok (.getfield 29, 3) := by decide +kernel
theorem dX4_sheep_57 : decode cX4_sheep 57 = .ok (.iconst 4, 1) := by decide +kernel
theorem dX4_sheep_58 : decode cX4_sheep 58 = .ok (.iload_n 1, 1) := by decide +kernel
theorem dX4_sheep_59 : decode cX4_sheep 59 = .ok (.imul, 1) := by decide +kernel
theorem dX4_sheep_60 : decode cX4_sheep 60 = .ok (.iload_n 2, 1) := by decide +kernel
theorem dX4_sheep_61 : decode cX4_sheep 61 = .ok (.iadd, 1) := by decide +kernel
theorem dX4_sheep_62 : decode cX4_sheep 62 = .ok (.iload_n 3, 1) := by decide +kernel
theorem dX4_sheep_63 : decode cX4_sheep 63 = .ok (.iastore, 1) := by decide +kernel
theorem dX4_sheep_64 : decode cX4_sheep 64 = .ok (.iload 4, 2) := by decide +kernel
theorem dX4_sheep_66 : decode cX4_sheep 66 = .ok (.ireturn, 1) := by decide +kernel
theorem dX4_right_0 : decode cX4_right 0 = .ok (.iload_n 1, 1) := by decide +kernel
theorem dX4_right_1 : decode cX4_right 1 = .ok (.iconst 0, 1) := by decide +kernel
theorem dX4_right_2 : decode cX4_right 2 = .ok (.sipush 1000, 3) := by decide +kernel
theorem dX4_right_5 : decode cX4_right 5 = .ok (.invokestatic 77, 3) := by decide +kernel
theorem dX4_right_8 : decode cX4_right 8 = .ok (.ifCond .eq 28, 3) := by decide +kernel
theorem dX4_right_11 : decode cX4_right 11 = .ok (.iload_n 2, 1) := by decide +kernel
theorem dX4_right_12 : decode cX4_right 12 = .ok (.iconst 0, 1) := by decide +kernel
theorem dX4_right_13 : decode cX4_right 13 = .ok (.bipush 24, 2) := by decide +kernel
theorem dX4_right_15 : decode cX4_right 15 = .ok (.invokestatic 77, 3) := by decide +kernel
theorem dX4_right_18 : decode cX4_right 18 = .ok (.ifCond .eq 18, 3) := by decide +kernel
theorem dX4_right_21 : decode cX4_right 21 = .ok (.iload_n 3, 1) := by decide +kernel
theorem dX4_right_22 : decode cX4_right 22 = .ok (.iconst 0, 1) := by decide +kernel
theorem dX4_right_23 : decode cX4_right 23 = .ok (.bipush 24, 2) := by decide +kernel
theorem dX4_right_25 : decode cX4_right 25 = .ok (.invokestatic 77, 3) := by decide +kernel
theorem dX4_right_28 : decode cX4_right 28 = .ok (.ifCond .eq 8, 3) := by decide +kernel
theorem dX4_right_31 : decode cX4_right 31 = .ok (.iload_n 2, 1) := by decide +kernel
theorem dX4_right_32 : decode cX4_right 32 = .ok (.iload_n 3, 1) := by decide +kernel
theorem dX4_right_33 : decode cX4_right 33 = .ok (.if_icmp .lt 5, 3) := by decide +kernel
theorem dX4_right_36 : decode cX4_right 36 = .ok (.iconst (-1), 1) := by decide +kernel
theorem dX4_right_37 : decode cX4_right 37 = .ok (.ireturn, 1) := by decide +kernel
theorem dX4_right_38 : decode cX4_right 38 = .ok (.aload_n 0, 1) := by decide +kernel
theorem dX4_right_39 : decode cX4_right 39 = .ok (.invokevirtual 84, 3) := by decide +kernel
theorem dX4_right_42 : decode cX4_right 42 = .ok (.ifCond .eq 6, 3) := by decide +kernel
theorem dX4_right_45 : decode cX4_right 45 = .ok (.bipush (-3), 2) := by decide +kernel
theorem dX4_right_47 : decode cX4_right 47 = .ok (.ireturn, 1) := by decide +kernel
theorem dX4_right_48 : decode cX4_right 48 = .ok (.aload_n 0, 1) := by decide +kernel
theorem dX4_right_49 : decode cX4_right 49 = .ok (.dup, 1) := by decide +kernel
theorem dX4_right_50 : decode cX4_right 50 = .ok (.getfield 81, 3) := by decide +kernel
theorem dX4_right_53 : decode cX4_right 53 = .ok (.iconst 1, 1) := by decide +kernel
theorem dX4_right_54 : decode cX4_right 54 = .ok (.iadd, 1) := by decide +kernel
theorem dX4_right_55 : decode cX4_right 55 = .ok (.putfield 81, 3) := by decide +kernel
theorem dX4_right_58 : decode cX4_right 58 = .ok (.aload_n 0, 1) := by decide +kernel
theorem dX4_right_59 : decode cX4_right 59 = .ok (.getfield 96, 3) := by decide +kernel
theorem dX4_right_62 : decode cX4_right 62 = .ok (.istore 4, 2) := by decide +kernel
theorem dX4_right_64 : decode cX4_right 64 = .ok (.aload_n 0, 1) := by decide +kernel
theorem dX4_right_65 : decode cX4_right 65 = .ok (.iload_n 1, 1) := by decide +kernel
theorem dX4_right_66 : decode cX4_right 66 = .ok (.putfield 96, 3) := by decide +kernel
theorem dX4_right_69 : decode cX4_right 69 = .ok (.aload_n 0, 1) := by decide +kernel
theorem dX4_right_70 : decode cX4_right 70 = .ok (.iload_n 2, 1) := by decide +kernel
theorem dX4_right_71 : decode cX4_right 71 = .ok (.putfield 99, 3) := by decide +kernel
theorem dX4_right_74 : decode cX4_right 74 = .ok (.aload_n 0, 1) := by decide +kernel
theorem dX4_right_75 : decode cX4_right 75 = .ok (.iload_n 3, 1) := by decide +kernel
theorem dX4_right_76 : decode cX4_right 76 = .ok (.putfield 102, 3) := by decide +kernel
theorem dX4_right_79 : decode cX4_right 79 = .ok (.iload 4, 2) := by decide +kernel
theorem dX4_right_81 : decode cX4_right 81 = .ok (.ireturn, 1) := by decide +kernel
theorem dX4_most_0 : decode cX4_most 0 = .ok (.aload_n 0, 1) := by decide +kernel
theorem dX4_most_1 : decode cX4_most 1 = .ok (.getfield 20, 3) := by decide +kernel
theorem dX4_most_4 : decode cX4_most 4 = .ok (.iload_n 2, 1) := by decide +kernel
theorem dX4_most_5 : decode cX4_most 5 = .ok (.iaload, 1) := by decide +kernel
theorem dX4_most_6 : decode cX4_most 6 = .ok (.aload_n 0, 1) := by decide +kernel
theorem dX4_most_7 : decode cX4_most 7 = .ok (.getfield 32, 3) := by decide +kernel
theorem dX4_most_10 : decode cX4_most 10 = .ok (.bipush 6, 2) := by decide +kernel
theorem dX4_most_12 : decode cX4_most 12 = .ok (.iload_n 1, 1) := by decide +kernel
theorem dX4_most_13 : decode cX4_most 13 = .ok (.imul, 1) := by decide +kernel
theorem dX4_most_14 : decode cX4_most 14 = .ok (.iload_n 2, 1) := by decide +kernel
theorem dX4_most_15 : decode cX4_most 15 = .ok (.iadd, 1) := by decide +kernel
theorem dX4_most_16 : decode cX4_most 16 = .ok (.iaload, 1) := by decide +kernel
theorem dX4_most_17 : decode cX4_most 17 = .ok (.bipush 100, 2) := by decide +kernel
theorem dX4_most_19 : decode cX4_most 19 = .ok (.idiv, 1) := by decide +kernel
theorem dX4_most_20 : decode cX4_most 20 = .ok (.bipush 10, 2) := by decide +kernel
theorem dX4_most_22 : decode cX4_most 22 = .ok (.idiv, 1) := by decide +kernel
theorem dX4_most_23 : decode cX4_most 23 = .ok (.isub, 1) := by decide +kernel
theorem dX4_most_24 : decode cX4_most 24 = .ok (.istore_n 3, 1) := by decide +kernel
theorem dX4_most_25 : decode cX4_most 25 = .ok (.iload_n 3, 1) := by decide +kernel
theorem dX4_most_26 : decode cX4_most 26 = .ok (.ifCond .ge 7, 3) := by decide +kernel
theorem dX4_most_29 : decode cX4_most 29 = .ok (.iconst 0, 1) := by decide +kernel
theorem dX4_most_30 : decode cX4_most 30 = .ok (.goto 4, 3) := by decide +kernel
theorem dX4_most_33 : decode cX4_most 33 = .ok (.iload_n 3, 1) := by decide +kernel
theorem dX4_most_34 : decode cX4_most 34 = .ok (.ireturn, 1) := by decide +kernel
theorem dX4_flows_0 : decode cX4_flows 0 = .ok (.aload_n 0, 1) := by decide +kernel
theorem dX4_flows_1 : decode cX4_flows 1 = .ok (.getfield 7, 3) := by decide +kernel
theorem dX4_flows_4 : decode cX4_flows 4 = .ok (.istore_n 2, 1) := by decide +kernel
theorem dX4_flows_5 : decode cX4_flows 5 = .ok (.iconst 0, 1) := by decide +kernel
theorem dX4_flows_6 : decode cX4_flows 6 = .ok (.istore_n 3, 1) := by decide +kernel
theorem dX4_flows_7 : decode cX4_flows 7 = .ok (.iload_n 3, 1) := by decide +kernel
theorem dX4_flows_8 : decode cX4_flows 8 = .ok (.aload_n 0, 1) := by decide +kernel
theorem dX4_flows_9 : decode cX4_flows 9 = .ok (.getfield 74, 3) := by decide +kernel
theorem dX4_flows_12 : decode cX4_flows 12 = .ok (.if_icmp .ge 220, 3) := by decide +kernel
theorem dX4_flows_15 : decode cX4_flows 15 = .ok (.iload_n 1, 1) := by decide +kernel
theorem dX4_flows_16 : decode cX4_flows 16 = .ok (.iload_n 3, 1) := by decide +kernel
theorem dX4_flows_17 : decode cX4_flows 17 = .ok (.iconst 1, 1) := by decide +kernel
theorem dX4_flows_18 : decode cX4_flows 18 = .ok (.iadd, 1) := by decide +kernel
theorem dX4_flows_19 : decode cX4_flows 19 = .ok (.if_icmp .ne 7, 3) := by decide +kernel
theorem dX4_flows_22 : decode cX4_flows 22 = .ok (.iconst 0, 1) := by decide +kernel
theorem dX4_flows_23 : decode cX4_flows 23 = .ok (.goto 9, 3) := by decide +kernel
theorem dX4_flows_26 : decode cX4_flows 26 = .ok (.aload_n 0, 1) := by decide +kernel
theorem dX4_flows_27 : decode cX4_flows 27 = .ok (.getfield 26, 3) := by decide +kernel
theorem dX4_flows_30 : decode cX4_flows 30 = .ok (.iload_n 3, 1) := by decide +kernel
theorem dX4_flows_31 : decode cX4_flows 31 = .ok (.iaload, 1) := by decide +kernel
theorem dX4_flows_32 : decode cX4_flows 32 = .ok (.istore 4, 2) := by decide +kernel
theorem dX4_flows_34 : decode cX4_flows 34 = .ok (.iload_n 2, 1) := by decide +kernel
theorem dX4_flows_35 : decode cX4_flows 35 = .ok (.iload 4, 2) := by decide +kernel
theorem dX4_flows_37 : decode cX4_flows 37 = .ok (.imul, 1) := by decide +kernel
theorem dX4_flows_38 : decode cX4_flows 38 = .ok (.iconst 4, 1) := by decide +kernel
theorem dX4_flows_39 : decode cX4_flows 39 = .ok (.idiv, 1) := by decide +kernel
theorem dX4_flows_40 : decode cX4_flows 40 = .ok (.istore 5, 2) := by decide +kernel
theorem dX4_flows_42 : decode cX4_flows 42 = .ok (.iload 5, 2) := by decide +kernel
theorem dX4_flows_44 : decode cX4_flows 44 = .ok (.aload_n 0, 1) := by decide +kernel
theorem dX4_flows_45 : decode cX4_flows 45 = .ok (.iload_n 1, 1) := by decide +kernel
theorem dX4_flows_46 : decode cX4_flows 46 = .ok (.iload_n 3, 1) := by decide +kernel
theorem dX4_flows_47 : decode cX4_flows 47 = .ok (.invokevirtual 105, 3) := by decide +kernel
theorem dX4_flows_50 : decode cX4_flows 50 = .ok (.if_icmp .le 12, 3) := by decide +kernel
theorem dX4_flows_53 : decode cX4_flows 53 = .ok (.aload_n 0, 1) := by decide +kernel
theorem dX4_flows_54 : decode cX4_flows 54 = .ok (.iload_n 1, 1) := by decide +kernel
theorem dX4_flows_55 : decode cX4_flows 55 = .ok (.iload_n 3, 1) := by decide +kernel
theorem dX4_flows_56 : decode cX4_flows 56 = .ok (.invokevirtual 105, 3) := by decide +kernel
theorem dX4_flows_59 : decode cX4_flows 59 = .ok (.goto 5, 3) := by decide +kernel
theorem dX4_flows_62 : decode cX4_flows 62 = .ok (.iload 5, 2) := by decide +kernel
theorem dX4_flows_64 : decode cX4_flows 64 = .ok (.istore 5, 2) := by decide +kernel
theorem dX4_flows_66 : decode cX4_flows 66 = .ok (.aload_n 0, 1) := by decide +kernel
theorem dX4_flows_67 : decode cX4_flows 67 = .ok (.getfield 35, 3) := by decide +kernel
theorem dX4_flows_70 : decode cX4_flows 70 = .ok (.bipush 6, 2) := by decide +kernel
theorem dX4_flows_72 : decode cX4_flows 72 = .ok (.iload_n 1, 1) := by decide +kernel
theorem dX4_flows_73 : decode cX4_flows 73 = .ok (.imul, 1) := by decide +kernel
theorem dX4_flows_74 : decode cX4_flows 74 = .ok (.iload_n 3, 1) := by decide +kernel
theorem dX4_flows_75 : decode cX4_flows 75 = .ok (.iadd, 1) := by decide +kernel
theorem dX4_flows_76 : decode cX4_flows 76 = .ok (.iload 5, 2) := by decide +kernel
theorem dX4_flows_78 : decode cX4_flows 78 = .ok (.iastore, 1) := by decide +kernel
theorem dX4_flows_79 : decode cX4_flows 79 = .ok (.aload_n 0, 1) := by decide +kernel
theorem dX4_flows_80 : decode cX4_flows 80 = .ok (.getfield 32, 3) := by decide +kernel
theorem dX4_flows_83 : decode cX4_flows 83 = .ok (.bipush 6, 2) := by decide +kernel
theorem dX4_flows_85 : decode cX4_flows 85 = .ok (.iload_n 1, 1) := by decide +kernel
theorem dX4_flows_86 : decode cX4_flows 86 = .ok (.imul, 1) := by decide +kernel
theorem dX4_flows_87 : decode cX4_flows 87 = .ok (.iload_n 3, 1) := by decide +kernel
theorem dX4_flows_88 : decode cX4_flows 88 = .ok (.iadd, 1) := by decide +kernel
theorem dX4_flows_89 : decode cX4_flows 89 = .ok (.dup2, 1) := by decide +kernel
theorem dX4_flows_90 : decode cX4_flows 90 = .ok (.iaload, 1) := by decide +kernel
theorem dX4_flows_91 : decode cX4_flows 91 = .ok (.iload 5, 2) := by decide +kernel
theorem dX4_flows_93 : decode cX4_flows 93 = .ok (.iadd, 1) := by decide +kernel
theorem dX4_flows_94 : decode cX4_flows 94 = .ok (.iastore, 1) := by decide +kernel
theorem dX4_flows_95 : decode cX4_flows 95 = .ok (.iload_n 2, 1) := by decide +kernel
theorem dX4_flows_96 : decode cX4_flows 96 = .ok (.iload 5, 2) := by decide +kernel
theorem dX4_flows_98 : decode cX4_flows 98 = .ok (.isub, 1) := by decide +kernel
theorem dX4_flows_99 : decode cX4_flows 99 = .ok (.istore_n 2, 1) := by decide +kernel
theorem dX4_flows_100 : decode cX4_flows 100 = .ok (.iconst 0, 1) := by decide +kernel
theorem dX4_flows_101 : decode cX4_flows 101 = .ok (.istore 6, 2) := by decide +kernel
theorem dX4_flows_103 : decode cX4_flows 103 = .ok (.iload 6, 2) := by decide +kernel
theorem dX4_flows_105 : decode cX4_flows 105 = .ok (.aload_n 0, 1) := by decide +kernel
theorem dX4_flows_106 : decode cX4_flows 106 = .ok (.getfield 23, 3) := by decide +kernel
theorem dX4_flows_109 : decode cX4_flows 109 = .ok (.iload_n 3, 1) := by decide +kernel
theorem dX4_flows_110 : decode cX4_flows 110 = .ok (.iaload, 1) := by decide +kernel
theorem dX4_flows_111 : decode cX4_flows 111 = .ok (.if_icmp .ge 115, 3) := by decide +kernel
theorem dX4_flows_114 : decode cX4_flows 114 = .ok (.iload 5, 2) := by decide +kernel
theorem dX4_flows_116 : decode cX4_flows 116 = .ok (.aload_n 0, 1) := by decide +kernel
theorem dX4_flows_117 : decode cX4_flows 117 = .ok (.getfield 23, 3) := by decide +kernel
theorem dX4_flows_120 : decode cX4_flows 120 = .ok (.iload_n 3, 1) := by decide +kernel
theorem dX4_flows_121 : decode cX4_flows 121 = .ok (.iaload, 1) := by decide +kernel
theorem dX4_flows_122 : decode cX4_flows 122 = .ok (.idiv, 1) := by decide +kernel
theorem dX4_flows_123 : decode cX4_flows 123 = .ok (.iload 6, 2) := by decide +kernel
theorem dX4_flows_125 : decode cX4_flows 125 = .ok (.iload 5, 2) := by decide +kernel
theorem dX4_flows_127 : decode cX4_flows 127 = .ok (.aload_n 0, 1) := by decide +kernel
theorem dX4_flows_128 : decode cX4_flows 128 = .ok (.getfield 23, 3) := by decide +kernel
theorem dX4_flows_131 : decode cX4_flows 131 = .ok (.iload_n 3, 1) := by decide +kernel
theorem dX4_flows_132 : decode cX4_flows 132 = .ok (.iaload, 1) := by decide +kernel
theorem dX4_flows_133 : decode cX4_flows 133 = .ok (.irem, 1) := by decide +kernel
theorem dX4_flows_134 : decode cX4_flows 134 = .ok (.if_icmp .ge 7, 3) := by decide +kernel
theorem dX4_flows_137 : decode cX4_flows 137 = .ok (.iconst 1, 1) := by decide +kernel
theorem dX4_flows_138 : decode cX4_flows 138 = .ok (.goto 4, 3) := by decide +kernel
theorem dX4_flows_141 : decode cX4_flows 141 = .ok (.iconst 0, 1) := by decide +kernel
theorem dX4_flows_142 : decode cX4_flows 142 = .ok (.iadd, 1) := by decide +kernel
theorem dX4_flows_143 : decode cX4_flows 143 = .ok (.istore 7, 2) := by decide +kernel
theorem dX4_flows_145 : decode cX4_flows 145 = .ok (.bipush 24, 2) := by decide +kernel
theorem dX4_flows_147 : decode cX4_flows 147 = .ok (.iload_n 1, 1) := by decide +kernel
theorem dX4_flows_148 : decode cX4_flows 148 = .ok (.imul, 1) := by decide +kernel
theorem dX4_flows_149 : decode cX4_flows 149 = .ok (.iconst 4, 1) := by decide +kernel
theorem dX4_flows_150 : decode cX4_flows 150 = .ok (.iload_n 3, 1) := by decide +kernel
theorem dX4_flows_151 : decode cX4_flows 151 = .ok (.imul, 1) := by decide +kernel
theorem dX4_flows_152 : decode cX4_flows 152 = .ok (.iadd, 1) := by decide +kernel
theorem dX4_flows_153 : decode cX4_flows 153 = .ok (.iload 6, 2) := by decide +kernel
theorem dX4_flows_155 : decode cX4_flows 155 = .ok (.iadd, 1) := by decide +kernel
theorem dX4_flows_156 : decode cX4_flows 156 = .ok (.istore 8, 2) := by decide +kernel
theorem dX4_flows_158 : decode cX4_flows 158 = .ok (.aload_n 0, 1) := by decide +kernel
theorem dX4_flows_159 : decode cX4_flows 159 = .ok (.getfield 41, 3) := by decide +kernel
theorem dX4_flows_162 : decode cX4_flows 162 = .ok (.iload 8, 2) := by decide +kernel
theorem dX4_flows_164 : decode cX4_flows 164 = .ok (.iload 7, 2) := by decide +kernel
theorem dX4_flows_166 : decode cX4_flows 166 = .ok (.iastore, 1) := by decide +kernel
theorem dX4_flows_167 : decode cX4_flows 167 = .ok (.iload 7, 2) := by decide +kernel
theorem dX4_flows_169 : decode cX4_flows 169 = .ok (.iconst 3, 1) := by decide +kernel
theorem dX4_flows_170 : decode cX4_flows 170 = .ok (.if_icmp .ge 8, 3) := by decide +kernel
theorem dX4_flows_173 : decode cX4_flows 173 = .ok (.iload 7, 2) := by decide +kernel
theorem dX4_flows_175 : decode cX4_flows 175 = .ok (.goto 4, 3) := by decide +kernel
theorem dX4_flows_178 : decode cX4_flows 178 = .ok (.iconst 3, 1) := by decide +kernel
theorem dX4_flows_179 : decode cX4_flows 179 = .ok (.istore 9, 2) := by decide +kernel
theorem dX4_flows_181 : decode cX4_flows 181 = .ok (.aload_n 0, 1) := by decide +kernel
theorem dX4_flows_182 : decode cX4_flows 182 = .ok (.getfield 47, 3) := by decide +kernel
theorem dX4_flows_185 : decode cX4_flows 185 = .ok (.iload 8, 2) := by decide +kernel
theorem dX4_flows_187 : decode cX4_flows 187 = .ok (.dup2, 1) := by decide +kernel
theorem dX4_flows_188 : decode cX4_flows 188 = .ok (.iaload, 1) := by decide +kernel
theorem dX4_flows_189 : decode cX4_flows 189 = .ok (.iload 9, 2) := by decide +kernel
theorem dX4_flows_191 : decode cX4_flows 191 = .ok (.iadd, 1) := by decide +kernel
theorem dX4_flows_192 : decode cX4_flows 192 = .ok (.iastore, 1) := by decide +kernel
theorem dX4_flows_193 : decode cX4_flows 193 = .ok (.iload_n 2, 1) := by decide +kernel
theorem dX4_flows_194 : decode cX4_flows 194 = .ok (.iload 7, 2) := by decide +kernel
theorem dX4_flows_196 : decode cX4_flows 196 = .ok (.iload 9, 2) := by decide +kernel
theorem dX4_flows_198 : decode cX4_flows 198 = .ok (.isub, 1) := by decide +kernel
theorem dX4_flows_199 : decode cX4_flows 199 = .ok (.iadd, 1) := by decide +kernel
theorem dX4_flows_200 : decode cX4_flows 200 = .ok (.istore_n 2, 1) := by decide +kernel
theorem dX4_flows_201 : decode cX4_flows 201 = .ok (.aload_n 0, 1) := by decide +kernel
theorem dX4_flows_202 : decode cX4_flows 202 = .ok (.iload 8, 2) := by decide +kernel
theorem dX4_flows_204 : decode cX4_flows 204 = .ok (.iload 7, 2) := by decide +kernel
theorem dX4_flows_206 : decode cX4_flows 206 = .ok (.aload_n 0, 1) := by decide +kernel
theorem dX4_flows_207 : decode cX4_flows 207 = .ok (.getfield 29, 3) := by decide +kernel
theorem dX4_flows_210 : decode cX4_flows 210 = .ok (.iconst 4, 1) := by decide +kernel
theorem dX4_flows_211 : decode cX4_flows 211 = .ok (.iload_n 3, 1) := by decide +kernel
theorem dX4_flows_212 : decode cX4_flows 212 = .ok (.imul, 1) := by decide +kernel
theorem dX4_flows_213 : decode cX4_flows 213 = .ok (.iload 6, 2) := by decide +kernel
theorem dX4_flows_215 : decode cX4_flows 215 = .ok (.iadd, 1) := by decide +kernel
theorem dX4_flows_216 : decode cX4_flows 216 = .ok (.iaload, 1) := by decide +kernel
theorem dX4_flows_217 : decode cX4_flows 217 = .ok (.invokevirtual 109, 3) := by decide +kernel
theorem dX4_flows_220 : decode cX4_flows 220 = .ok (.iinc 6 1, 3) := by decide +kernel
theorem dX4_flows_223 : decode cX4_flows 223 = .ok (.goto (-120), 3) := by decide +kernel
theorem dX4_flows_226 : decode cX4_flows 226 = .ok (.iinc 3 1, 3) := by decide +kernel
theorem dX4_flows_229 : decode cX4_flows 229 = .ok (.goto (-222), 3) := by decide +kernel
theorem dX4_flows_232 : decode cX4_flows 232 = .ok (.aload_n 0, 1) := by decide +kernel
theorem dX4_flows_233 : decode cX4_flows 233 = .ok (.getfield 53, 3) := by decide +kernel
theorem dX4_flows_236 : decode cX4_flows 236 = .ok (.iload_n 1, 1) := by decide +kernel
theorem dX4_flows_237 : decode cX4_flows 237 = .ok (.dup2, 1) := by decide +kernel
theorem dX4_flows_238 : decode cX4_flows 238 = .ok (.iaload, 1) := by decide +kernel
theorem dX4_flows_239 : decode cX4_flows 239 = .ok (.iload_n 2, 1) := by decide +kernel
theorem dX4_flows_240 : decode cX4_flows 240 = .ok (.iadd, 1) := by decide +kernel
theorem dX4_flows_241 : decode cX4_flows 241 = .ok (.iastore, 1) := by decide +kernel
theorem dX4_flows_242 : decode cX4_flows 242 = .ok (.aload_n 0, 1) := by decide +kernel
theorem dX4_flows_243 : decode cX4_flows 243 = .ok (.getfield 56, 3) := by decide +kernel
theorem dX4_flows_246 : decode cX4_flows 246 = .ok (.iload_n 1, 1) := by decide +kernel
theorem dX4_flows_247 : decode cX4_flows 247 = .ok (.iload_n 2, 1) := by decide +kernel
theorem dX4_flows_248 : decode cX4_flows 248 = .ok (.iastore, 1) := by decide +kernel
theorem dX4_flows_249 : decode cX4_flows 249 = .ok (.aload_n 0, 1) := by decide +kernel
theorem dX4_flows_250 : decode cX4_flows 250 = .ok (.getfield 113, 3) := by decide +kernel
theorem dX4_flows_253 : decode cX4_flows 253 = .ok (.bipush 24, 2) := by decide +kernel
theorem dX4_flows_255 : decode cX4_flows 255 = .ok (.irem, 1) := by decide +kernel
theorem dX4_flows_256 : decode cX4_flows 256 = .ok (.aload_n 0, 1) := by decide +kernel
theorem dX4_flows_257 : decode cX4_flows 257 = .ok (.getfield 99, 3) := by decide +kernel
theorem dX4_flows_260 : decode cX4_flows 260 = .ok (.if_icmp .lt 21, 3) := by decide +kernel
theorem dX4_flows_263 : decode cX4_flows 263 = .ok (.aload_n 0, 1) := by decide +kernel
theorem dX4_flows_264 : decode cX4_flows 264 = .ok (.getfield 113, 3) := by decide +kernel
theorem dX4_flows_267 : decode cX4_flows 267 = .ok (.bipush 24, 2) := by decide +kernel
theorem dX4_flows_269 : decode cX4_flows 269 = .ok (.irem, 1) := by decide +kernel
theorem dX4_flows_270 : decode cX4_flows 270 = .ok (.aload_n 0, 1) := by decide +kernel
theorem dX4_flows_271 : decode cX4_flows 271 = .ok (.getfield 102, 3) := by decide +kernel
theorem dX4_flows_274 : decode cX4_flows 274 = .ok (.if_icmp .ge 7, 3) := by decide +kernel
theorem dX4_flows_277 : decode cX4_flows 277 = .ok (.iconst 1, 1) := by decide +kernel
theorem dX4_flows_278 : decode cX4_flows 278 = .ok (.goto 4, 3) := by decide +kernel
theorem dX4_flows_281 : decode cX4_flows 281 = .ok (.iconst 0, 1) := by decide +kernel
theorem dX4_flows_282 : decode cX4_flows 282 = .ok (.istore_n 3, 1) := by decide +kernel
theorem dX4_flows_283 : decode cX4_flows 283 = .ok (.aload_n 0, 1) := by decide +kernel
theorem dX4_flows_284 : decode cX4_flows 284 = .ok (.getfield 7, 3) := by decide +kernel
theorem dX4_flows_287 : decode cX4_flows 287 = .ok (.sipush 400, 3) := by decide +kernel
theorem dX4_flows_290 : decode cX4_flows 290 = .ok (.if_icmp .gt 19, 3) := by decide +kernel
theorem dX4_flows_293 : decode cX4_flows 293 = .ok (.iload_n 3, 1) := by decide +kernel
theorem dX4_flows_294 : decode cX4_flows 294 = .ok (.ifCond .eq 15, 3) := by decide +kernel
theorem dX4_flows_297 : decode cX4_flows 297 = .ok (.iload_n 2, 1) := by decide +kernel
theorem dX4_flows_298 : decode cX4_flows 298 = .ok (.aload_n 0, 1) := by decide +kernel
theorem dX4_flows_299 : decode cX4_flows 299 = .ok (.getfield 96, 3) := by decide +kernel
theorem dX4_flows_302 : decode cX4_flows 302 = .ok (.if_icmp .ge 7, 3) := by decide +kernel
theorem dX4_flows_305 : decode cX4_flows 305 = .ok (.iconst 1, 1) := by decide +kernel
theorem dX4_flows_306 : decode cX4_flows 306 = .ok (.goto 4, 3) := by decide +kernel
theorem dX4_flows_309 : decode cX4_flows 309 = .ok (.iconst 0, 1) := by decide +kernel
theorem dX4_flows_310 : decode cX4_flows 310 = .ok (.istore 4, 2) := by decide +kernel
theorem dX4_flows_312 : decode cX4_flows 312 = .ok (.aload_n 0, 1) := by decide +kernel
theorem dX4_flows_313 : decode cX4_flows 313 = .ok (.getfield 59, 3) := by decide +kernel
theorem dX4_flows_316 : decode cX4_flows 316 = .ok (.iload_n 1, 1) := by decide +kernel
theorem dX4_flows_317 : decode cX4_flows 317 = .ok (.dup2, 1) := by decide +kernel
theorem dX4_flows_318 : decode cX4_flows 318 = .ok (.iaload, 1) := by decide +kernel
theorem dX4_flows_319 : decode cX4_flows 319 = .ok (.iload 4, 2) := by decide +kernel
theorem dX4_flows_321 : decode cX4_flows 321 = .ok (.ifCond .eq 7, 3) := by decide +kernel
theorem dX4_flows_324 : decode cX4_flows 324 = .ok (.iconst 1, 1) := by decide +kernel
theorem dX4_flows_325 : decode cX4_flows 325 = .ok (.goto 4, 3) := by decide +kernel
theorem dX4_flows_328 : decode cX4_flows 328 = .ok (.iconst 0, 1) := by decide +kernel
theorem dX4_flows_329 : decode cX4_flows 329 = .ok (.iadd, 1) := by decide +kernel
theorem dX4_flows_330 : decode cX4_flows 330 = .ok (.iastore, 1) := by decide +kernel
theorem dX4_flows_331 : decode cX4_flows 331 = .ok (.return_, 1) := by decide +kernel
theorem dX4_grows_0 : decode cX4_grows 0 = .ok (.iload_n 2, 1) := by decide +kernel
theorem dX4_grows_1 : decode cX4_grows 1 = .ok (.ifCond .le 7, 3) := by decide +kernel
theorem dX4_grows_4 : decode cX4_grows 4 = .ok (.iconst 1, 1) := by decide +kernel
theorem dX4_grows_5 : decode cX4_grows 5 = .ok (.goto 4, 3) := by decide +kernel
theorem dX4_grows_8 : decode cX4_grows 8 = .ok (.iconst 0, 1) := by decide +kernel
theorem dX4_grows_9 : decode cX4_grows 9 = .ok (.istore 4, 2) := by decide +kernel
theorem dX4_grows_11 : decode cX4_grows 11 = .ok (.aload_n 0, 1) := by decide +kernel
theorem dX4_grows_12 : decode cX4_grows 12 = .ok (.getfield 44, 3) := by decide +kernel
theorem dX4_grows_15 : decode cX4_grows 15 = .ok (.iload_n 1, 1) := by decide +kernel
theorem dX4_grows_16 : decode cX4_grows 16 = .ok (.dup2, 1) := by decide +kernel
theorem dX4_grows_17 : decode cX4_grows 17 = .ok (.iaload, 1) := by decide +kernel
theorem dX4_grows_18 : decode cX4_grows 18 = .ok (.iload 4, 2) := by decide +kernel
theorem dX4_grows_20 : decode cX4_grows 20 = .ok (.ifCond .eq 7, 3) := by decide +kernel
theorem dX4_grows_23 : decode cX4_grows 23 = .ok (.iconst 1, 1) := by decide +kernel
theorem dX4_grows_24 : decode cX4_grows 24 = .ok (.goto 4, 3) := by decide +kernel
theorem dX4_grows_27 : decode cX4_grows 27 = .ok (.iconst 0, 1) := by decide +kernel
theorem dX4_grows_28 : decode cX4_grows 28 = .ok (.iadd, 1) := by decide +kernel
theorem dX4_grows_29 : decode cX4_grows 29 = .ok (.iastore, 1) := by decide +kernel
theorem dX4_grows_30 : decode cX4_grows 30 = .ok (.iload 4, 2) := by decide +kernel
theorem dX4_grows_32 : decode cX4_grows 32 = .ok (.ifCond .eq 15, 3) := by decide +kernel
theorem dX4_grows_35 : decode cX4_grows 35 = .ok (.aload_n 0, 1) := by decide +kernel
theorem dX4_grows_36 : decode cX4_grows 36 = .ok (.getfield 13, 3) := by decide +kernel
theorem dX4_grows_39 : decode cX4_grows 39 = .ok (.iconst 4, 1) := by decide +kernel
theorem dX4_grows_40 : decode cX4_grows 40 = .ok (.if_icmp .ge 7, 3) := by decide +kernel
theorem dX4_grows_43 : decode cX4_grows 43 = .ok (.iconst 4, 1) := by decide +kernel
theorem dX4_grows_44 : decode cX4_grows 44 = .ok (.goto 7, 3) := by decide +kernel
theorem dX4_grows_47 : decode cX4_grows 47 = .ok (.aload_n 0, 1) := by decide +kernel
theorem dX4_grows_48 : decode cX4_grows 48 = .ok (.getfield 13, 3) := by decide +kernel
theorem dX4_grows_51 : decode cX4_grows 51 = .ok (.istore 5, 2) := by decide +kernel
theorem dX4_grows_53 : decode cX4_grows 53 = .ok (.iload 5, 2) := by decide +kernel
theorem dX4_grows_55 : decode cX4_grows 55 = .ok (.iconst 2, 1) := by decide +kernel
theorem dX4_grows_56 : decode cX4_grows 56 = .ok (.if_icmp .le 19, 3) := by decide +kernel
theorem dX4_grows_59 : decode cX4_grows 59 = .ok (.aload_n 0, 1) := by decide +kernel
theorem dX4_grows_60 : decode cX4_grows 60 = .ok (.getfield 38, 3) := by decide +kernel
theorem dX4_grows_63 : decode cX4_grows 63 = .ok (.iload_n 1, 1) := by decide +kernel
theorem dX4_grows_64 : decode cX4_grows 64 = .ok (.dup2, 1) := by decide +kernel
theorem dX4_grows_65 : decode cX4_grows 65 = .ok (.iaload, 1) := by decide +kernel
theorem dX4_grows_66 : decode cX4_grows 66 = .ok (.iload 5, 2) := by decide +kernel
theorem dX4_grows_68 : decode cX4_grows 68 = .ok (.iconst 2, 1) := by decide +kernel
theorem dX4_grows_69 : decode cX4_grows 69 = .ok (.isub, 1) := by decide +kernel
theorem dX4_grows_70 : decode cX4_grows 70 = .ok (.iadd, 1) := by decide +kernel
theorem dX4_grows_71 : decode cX4_grows 71 = .ok (.iastore, 1) := by decide +kernel
theorem dX4_grows_72 : decode cX4_grows 72 = .ok (.goto 25, 3) := by decide +kernel
theorem dX4_grows_75 : decode cX4_grows 75 = .ok (.iload 4, 2) := by decide +kernel
theorem dX4_grows_77 : decode cX4_grows 77 = .ok (.ifCond .ne 20, 3) := by decide +kernel
theorem dX4_grows_80 : decode cX4_grows 80 = .ok (.aload_n 0, 1) := by decide +kernel
theorem dX4_grows_81 : decode cX4_grows 81 = .ok (.getfield 13, 3) := by decide +kernel
theorem dX4_grows_84 : decode cX4_grows 84 = .ok (.ifCond .ge 13, 3) := by decide +kernel
theorem dX4_grows_87 : decode cX4_grows 87 = .ok (.aload_n 0, 1) := by decide +kernel
theorem dX4_grows_88 : decode cX4_grows 88 = .ok (.getfield 38, 3) := by decide +kernel
theorem dX4_grows_91 : decode cX4_grows 91 = .ok (.iload_n 1, 1) := by decide +kernel
theorem dX4_grows_92 : decode cX4_grows 92 = .ok (.dup2, 1) := by decide +kernel
theorem dX4_grows_93 : decode cX4_grows 93 = .ok (.iaload, 1) := by decide +kernel
theorem dX4_grows_94 : decode cX4_grows 94 = .ok (.iconst 1, 1) := by decide +kernel
theorem dX4_grows_95 : decode cX4_grows 95 = .ok (.isub, 1) := by decide +kernel
theorem dX4_grows_96 : decode cX4_grows 96 = .ok (.iastore, 1) := by decide +kernel
theorem dX4_grows_97 : decode cX4_grows 97 = .ok (.aload_n 0, 1) := by decide +kernel
theorem dX4_grows_98 : decode cX4_grows 98 = .ok (.getfield 38, 3) := by decide +kernel
theorem dX4_grows_101 : decode cX4_grows 101 = .ok (.iload_n 1, 1) := by decide +kernel
theorem dX4_grows_102 : decode cX4_grows 102 = .ok (.aload_n 0, 1) := by decide +kernel
theorem dX4_grows_103 : decode cX4_grows 103 = .ok (.getfield 38, 3) := by decide +kernel
theorem dX4_grows_106 : decode cX4_grows 106 = .ok (.iload_n 1, 1) := by decide +kernel
theorem dX4_grows_107 : decode cX4_grows 107 = .ok (.iaload, 1) := by decide +kernel
theorem dX4_grows_108 : decode cX4_grows 108 = .ok (.ifCond .ge 7, 3) := by decide +kernel
theorem dX4_grows_111 : decode cX4_grows 111 = .ok (.iconst 0, 1) := by decide +kernel
theorem dX4_grows_112 : decode cX4_grows 112 = .ok (.goto 27, 3) := by decide +kernel
theorem dX4_grows_115 : decode cX4_grows 115 = .ok (.aload_n 0, 1) := by decide +kernel
theorem dX4_grows_116 : decode cX4_grows 116 = .ok (.getfield 38, 3) := by decide +kernel
theorem dX4_grows_119 : decode cX4_grows 119 = .ok (.iload_n 1, 1) := by decide +kernel
theorem dX4_grows_120 : decode cX4_grows 120 = .ok (.iaload, 1) := by decide +kernel
theorem dX4_grows_121 : decode cX4_grows 121 = .ok (.sipush 5000, 3) := by decide +kernel
theorem dX4_grows_124 : decode cX4_grows 124 = .ok (.if_icmp .le 9, 3) := by decide +kernel
theorem dX4_grows_127 : decode cX4_grows 127 = .ok (.sipush 5000, 3) := by decide +kernel
theorem dX4_grows_130 : decode cX4_grows 130 = .ok (.goto 9, 3) := by decide +kernel
theorem dX4_grows_133 : decode cX4_grows 133 = .ok (.aload_n 0, 1) := by decide +kernel
theorem dX4_grows_134 : decode cX4_grows 134 = .ok (.getfield 38, 3) := by decide +kernel
theorem dX4_grows_137 : decode cX4_grows 137 = .ok (.iload_n 1, 1) := by decide +kernel
theorem dX4_grows_138 : decode cX4_grows 138 = .ok (.iaload, 1) := by decide +kernel
theorem dX4_grows_139 : decode cX4_grows 139 = .ok (.iastore, 1) := by decide +kernel
theorem dX4_grows_140 : decode cX4_grows 140 = .ok (.aload_n 0, 1) := by decide +kernel
theorem dX4_grows_141 : decode cX4_grows 141 = .ok (.getfield 113, 3) := by decide +kernel
theorem dX4_grows_144 : decode cX4_grows 144 = .ok (.bipush 24, 2) := by decide +kernel
theorem dX4_grows_146 : decode cX4_grows 146 = .ok (.irem, 1) := by decide +kernel
theorem dX4_grows_147 : decode cX4_grows 147 = .ok (.bipush 6, 2) := by decide +kernel
theorem dX4_grows_149 : decode cX4_grows 149 = .ok (.bipush 17, 2) := by decide +kernel
theorem dX4_grows_151 : decode cX4_grows 151 = .ok (.invokestatic 77, 3) := by decide +kernel
theorem dX4_grows_154 : decode cX4_grows 154 = .ok (.ifCond .eq 47, 3) := by decide +kernel
theorem dX4_grows_157 : decode cX4_grows 157 = .ok (.iload_n 3, 1) := by decide +kernel
theorem dX4_grows_158 : decode cX4_grows 158 = .ok (.aload_n 0, 1) := by decide +kernel
theorem dX4_grows_159 : decode cX4_grows 159 = .ok (.getfield 38, 3) := by decide +kernel
theorem dX4_grows_162 : decode cX4_grows 162 = .ok (.iload_n 1, 1) := by decide +kernel
theorem dX4_grows_163 : decode cX4_grows 163 = .ok (.iaload, 1) := by decide +kernel
theorem dX4_grows_164 : decode cX4_grows 164 = .ok (.if_icmp .ge 7, 3) := by decide +kernel
theorem dX4_grows_167 : decode cX4_grows 167 = .ok (.iload_n 3, 1) := by decide +kernel
theorem dX4_grows_168 : decode cX4_grows 168 = .ok (.goto 9, 3) := by decide +kernel
theorem dX4_grows_171 : decode cX4_grows 171 = .ok (.aload_n 0, 1) := by decide +kernel
theorem dX4_grows_172 : decode cX4_grows 172 = .ok (.getfield 38, 3) := by decide +kernel
theorem dX4_grows_175 : decode cX4_grows 175 = .ok (.iload_n 1, 1) := by decide +kernel
theorem dX4_grows_176 : decode cX4_grows 176 = .ok (.iaload, 1) := by decide +kernel
theorem dX4_grows_177 : decode cX4_grows 177 = .ok (.istore 6, 2) := by decide +kernel
theorem dX4_grows_179 : decode cX4_grows 179 = .ok (.aload_n 0, 1) := by decide +kernel
theorem dX4_grows_180 : decode cX4_grows 180 = .ok (.getfield 38, 3) := by decide +kernel
theorem dX4_grows_183 : decode cX4_grows 183 = .ok (.iload_n 1, 1) := by decide +kernel
theorem dX4_grows_184 : decode cX4_grows 184 = .ok (.dup2, 1) := by decide +kernel
end
section
theorem dX4_grows_185 : decode cX4_grows 185 = .ok (.iaload, 1) := by decide +kernel
theorem dX4_grows_186 : decode cX4_grows 186 = .ok (.iload 6, 2) := by decide +kernel
theorem dX4_grows_188 : decode cX4_grows 188 = .ok (.isub, 1) := by decide +kernel
theorem dX4_grows_189 : decode cX4_grows 189 = .ok (.iastore, 1) := by decide +kernel
theorem dX4_grows_190 : decode cX4_grows 190 = .ok (.aload_n 0, 1) := by decide +kernel
theorem dX4_grows_191 : decode cX4_grows 191 = .ok (.getfield 50, 3) := by decide +kernel
theorem dX4_grows_194 : decode cX4_grows 194 = .ok (.iload_n 1, 1) := by decide +kernel
theorem dX4_grows_195 : decode cX4_grows 195 = .ok (.dup2, 1) := by decide +kernel
theorem dX4_grows_196 : decode cX4_grows 196 = .ok (.iaload, 1) := by decide +kernel
theorem dX4_grows_197 : decode cX4_grows 197 = .ok (.iload 6, 2) := by decide +kernel
theorem dX4_grows_199 : decode cX4_grows 199 = .ok (.iadd, 1) := by decide +kernel
theorem dX4_grows_200 : decode cX4_grows 200 = .ok (.iastore, 1) := by decide +kernel
theorem dX4_grows_201 : decode cX4_grows 201 = .ok (.return_, 1) := by decide +kernel
theorem dX4_breaks_0 : decode cX4_breaks 0 = .ok (.aload_n 0, 1) := by decide +kernel
theorem dX4_breaks_1 : decode cX4_breaks 1 = .ok (.getfield 116, 3) := by decide +kernel
theorem dX4_breaks_4 : decode cX4_breaks 4 = .ok (.bipush 60, 2) := by decide +kernel
theorem dX4_breaks_6 : decode cX4_breaks 6 = .ok (.if_icmp .ge 36, 3) := by decide +kernel
theorem dX4_breaks_9 : decode cX4_breaks 9 = .ok (.aload_n 0, 1) := by decide +kernel
theorem dX4_breaks_10 : decode cX4_breaks 10 = .ok (.getfield 62, 3) := by decide +kernel
theorem dX4_breaks_13 : decode cX4_breaks 13 = .ok (.aload_n 0, 1) := by decide +kernel
theorem dX4_breaks_14 : decode cX4_breaks 14 = .ok (.getfield 116, 3) := by decide +kernel
theorem dX4_breaks_17 : decode cX4_breaks 17 = .ok (.aload_n 0, 1) := by decide +kernel
theorem dX4_breaks_18 : decode cX4_breaks 18 = .ok (.getfield 113, 3) := by decide +kernel
theorem dX4_breaks_21 : decode cX4_breaks 21 = .ok (.iastore, 1) := by decide +kernel
theorem dX4_breaks_22 : decode cX4_breaks 22 = .ok (.aload_n 0, 1) := by decide +kernel
theorem dX4_breaks_23 : decode cX4_breaks 23 = .ok (.getfield 65, 3) := by decide +kernel
theorem dX4_breaks_26 : decode cX4_breaks 26 = .ok (.aload_n 0, 1) := by decide +kernel
theorem dX4_breaks_27 : decode cX4_breaks 27 = .ok (.getfield 116, 3) := by decide +kernel
theorem dX4_breaks_30 : decode cX4_breaks 30 = .ok (.iload_n 1, 1) := by decide +kernel
theorem dX4_breaks_31 : decode cX4_breaks 31 = .ok (.iastore, 1) := by decide +kernel
theorem dX4_breaks_32 : decode cX4_breaks 32 = .ok (.aload_n 0, 1) := by decide +kernel
theorem dX4_breaks_33 : decode cX4_breaks 33 = .ok (.getfield 68, 3) := by decide +kernel
theorem dX4_breaks_36 : decode cX4_breaks 36 = .ok (.aload_n 0, 1) := by decide +kernel
theorem dX4_breaks_37 : decode cX4_breaks 37 = .ok (.getfield 116, 3) := by decide +kernel
theorem dX4_breaks_40 : decode cX4_breaks 40 = .ok (.iload_n 2, 1) := by decide +kernel
theorem dX4_breaks_41 : decode cX4_breaks 41 = .ok (.iastore, 1) := by decide +kernel
theorem dX4_breaks_42 : decode cX4_breaks 42 = .ok (.aload_n 0, 1) := by decide +kernel
theorem dX4_breaks_43 : decode cX4_breaks 43 = .ok (.dup, 1) := by decide +kernel
theorem dX4_breaks_44 : decode cX4_breaks 44 = .ok (.getfield 116, 3) := by decide +kernel
theorem dX4_breaks_47 : decode cX4_breaks 47 = .ok (.iconst 1, 1) := by decide +kernel
theorem dX4_breaks_48 : decode cX4_breaks 48 = .ok (.iadd, 1) := by decide +kernel
theorem dX4_breaks_49 : decode cX4_breaks 49 = .ok (.putfield 116, 3) := by decide +kernel
theorem dX4_breaks_52 : decode cX4_breaks 52 = .ok (.return_, 1) := by decide +kernel
theorem dX4_judges_0 : decode cX4_judges 0 = .ok (.aload_n 0, 1) := by decide +kernel
theorem dX4_judges_1 : decode cX4_judges 1 = .ok (.getfield 7, 3) := by decide +kernel
theorem dX4_judges_4 : decode cX4_judges 4 = .ok (.sipush 400, 3) := by decide +kernel
theorem dX4_judges_7 : decode cX4_judges 7 = .ok (.if_icmp .le 4, 3) := by decide +kernel
theorem dX4_judges_10 : decode cX4_judges 10 = .ok (.return_, 1) := by decide +kernel
theorem dX4_judges_11 : decode cX4_judges 11 = .ok (.iconst 0, 1) := by decide +kernel
theorem dX4_judges_12 : decode cX4_judges 12 = .ok (.istore_n 1, 1) := by decide +kernel
theorem dX4_judges_13 : decode cX4_judges 13 = .ok (.iconst 0, 1) := by decide +kernel
theorem dX4_judges_14 : decode cX4_judges 14 = .ok (.istore_n 2, 1) := by decide +kernel
theorem dX4_judges_15 : decode cX4_judges 15 = .ok (.iconst 0, 1) := by decide +kernel
theorem dX4_judges_16 : decode cX4_judges 16 = .ok (.istore_n 3, 1) := by decide +kernel
theorem dX4_judges_17 : decode cX4_judges 17 = .ok (.iload_n 3, 1) := by decide +kernel
theorem dX4_judges_18 : decode cX4_judges 18 = .ok (.aload_n 0, 1) := by decide +kernel
theorem dX4_judges_19 : decode cX4_judges 19 = .ok (.getfield 74, 3) := by decide +kernel
theorem dX4_judges_22 : decode cX4_judges 22 = .ok (.if_icmp .ge 97, 3) := by decide +kernel
theorem dX4_judges_25 : decode cX4_judges 25 = .ok (.aload_n 0, 1) := by decide +kernel
theorem dX4_judges_26 : decode cX4_judges 26 = .ok (.getfield 35, 3) := by decide +kernel
theorem dX4_judges_29 : decode cX4_judges 29 = .ok (.iload_n 3, 1) := by decide +kernel
theorem dX4_judges_30 : decode cX4_judges 30 = .ok (.iaload, 1) := by decide +kernel
theorem dX4_judges_31 : decode cX4_judges 31 = .ok (.ifCond .le 7, 3) := by decide +kernel
theorem dX4_judges_34 : decode cX4_judges 34 = .ok (.iconst 1, 1) := by decide +kernel
theorem dX4_judges_35 : decode cX4_judges 35 = .ok (.goto 4, 3) := by decide +kernel
theorem dX4_judges_38 : decode cX4_judges 38 = .ok (.iconst 0, 1) := by decide +kernel
theorem dX4_judges_39 : decode cX4_judges 39 = .ok (.istore 4, 2) := by decide +kernel
theorem dX4_judges_41 : decode cX4_judges 41 = .ok (.iload_n 2, 1) := by decide +kernel
theorem dX4_judges_42 : decode cX4_judges 42 = .ok (.iload 4, 2) := by decide +kernel
theorem dX4_judges_44 : decode cX4_judges 44 = .ok (.ifCond .eq 9, 3) := by decide +kernel
theorem dX4_judges_47 : decode cX4_judges 47 = .ok (.iconst 1, 1) := by decide +kernel
theorem dX4_judges_48 : decode cX4_judges 48 = .ok (.iload_n 3, 1) := by decide +kernel
theorem dX4_judges_49 : decode cX4_judges 49 = .ok (.ishl, 1) := by decide +kernel
theorem dX4_judges_50 : decode cX4_judges 50 = .ok (.goto 4, 3) := by decide +kernel
theorem dX4_judges_53 : decode cX4_judges 53 = .ok (.iconst 0, 1) := by decide +kernel
theorem dX4_judges_54 : decode cX4_judges 54 = .ok (.ior, 1) := by decide +kernel
theorem dX4_judges_55 : decode cX4_judges 55 = .ok (.istore_n 2, 1) := by decide +kernel
theorem dX4_judges_56 : decode cX4_judges 56 = .ok (.iload 4, 2) := by decide +kernel
theorem dX4_judges_58 : decode cX4_judges 58 = .ok (.ifCond .eq 55, 3) := by decide +kernel
theorem dX4_judges_61 : decode cX4_judges 61 = .ok (.aload_n 0, 1) := by decide +kernel
theorem dX4_judges_62 : decode cX4_judges 62 = .ok (.getfield 113, 3) := by decide +kernel
theorem dX4_judges_65 : decode cX4_judges 65 = .ok (.bipush 24, 2) := by decide +kernel
theorem dX4_judges_67 : decode cX4_judges 67 = .ok (.idiv, 1) := by decide +kernel
theorem dX4_judges_68 : decode cX4_judges 68 = .ok (.iconst 4, 1) := by decide +kernel
theorem dX4_judges_69 : decode cX4_judges 69 = .ok (.irem, 1) := by decide +kernel
theorem dX4_judges_70 : decode cX4_judges 70 = .ok (.aload_n 0, 1) := by decide +kernel
theorem dX4_judges_71 : decode cX4_judges 71 = .ok (.getfield 16, 3) := by decide +kernel
theorem dX4_judges_74 : decode cX4_judges 74 = .ok (.iload_n 3, 1) := by decide +kernel
theorem dX4_judges_75 : decode cX4_judges 75 = .ok (.iaload, 1) := by decide +kernel
theorem dX4_judges_76 : decode cX4_judges 76 = .ok (.if_icmp .eq 37, 3) := by decide +kernel
theorem dX4_judges_79 : decode cX4_judges 79 = .ok (.aload_n 0, 1) := by decide +kernel
theorem dX4_judges_80 : decode cX4_judges 80 = .ok (.getfield 13, 3) := by decide +kernel
theorem dX4_judges_83 : decode cX4_judges 83 = .ok (.ifCond .lt 30, 3) := by decide +kernel
theorem dX4_judges_86 : decode cX4_judges 86 = .ok (.iload_n 1, 1) := by decide +kernel
theorem dX4_judges_87 : decode cX4_judges 87 = .ok (.iconst 1, 1) := by decide +kernel
theorem dX4_judges_88 : decode cX4_judges 88 = .ok (.iload_n 3, 1) := by decide +kernel
theorem dX4_judges_89 : decode cX4_judges 89 = .ok (.ishl, 1) := by decide +kernel
theorem dX4_judges_90 : decode cX4_judges 90 = .ok (.ior, 1) := by decide +kernel
theorem dX4_judges_91 : decode cX4_judges 91 = .ok (.istore_n 1, 1) := by decide +kernel
theorem dX4_judges_92 : decode cX4_judges 92 = .ok (.aload_n 0, 1) := by decide +kernel
theorem dX4_judges_93 : decode cX4_judges 93 = .ok (.getfield 71, 3) := by decide +kernel
theorem dX4_judges_96 : decode cX4_judges 96 = .ok (.aload_n 0, 1) := by decide +kernel
theorem dX4_judges_97 : decode cX4_judges 97 = .ok (.getfield 16, 3) := by decide +kernel
theorem dX4_judges_100 : decode cX4_judges 100 = .ok (.iload_n 3, 1) := by decide +kernel
theorem dX4_judges_101 : decode cX4_judges 101 = .ok (.iaload, 1) := by decide +kernel
theorem dX4_judges_102 : decode cX4_judges 102 = .ok (.dup2, 1) := by decide +kernel
theorem dX4_judges_103 : decode cX4_judges 103 = .ok (.iaload, 1) := by decide +kernel
theorem dX4_judges_104 : decode cX4_judges 104 = .ok (.iconst 1, 1) := by decide +kernel
theorem dX4_judges_105 : decode cX4_judges 105 = .ok (.iadd, 1) := by decide +kernel
theorem dX4_judges_106 : decode cX4_judges 106 = .ok (.iastore, 1) := by decide +kernel
theorem dX4_judges_107 : decode cX4_judges 107 = .ok (.aload_n 0, 1) := by decide +kernel
theorem dX4_judges_108 : decode cX4_judges 108 = .ok (.iconst 1, 1) := by decide +kernel
theorem dX4_judges_109 : decode cX4_judges 109 = .ok (.iload_n 3, 1) := by decide +kernel
theorem dX4_judges_110 : decode cX4_judges 110 = .ok (.invokevirtual 119, 3) := by decide +kernel
theorem dX4_judges_113 : decode cX4_judges 113 = .ok (.iinc 3 1, 3) := by decide +kernel
theorem dX4_judges_116 : decode cX4_judges 116 = .ok (.goto (-99), 3) := by decide +kernel
theorem dX4_judges_119 : decode cX4_judges 119 = .ok (.aload_n 0, 1) := by decide +kernel
theorem dX4_judges_120 : decode cX4_judges 120 = .ok (.getfield 113, 3) := by decide +kernel
theorem dX4_judges_123 : decode cX4_judges 123 = .ok (.bipush 24, 2) := by decide +kernel
theorem dX4_judges_125 : decode cX4_judges 125 = .ok (.irem, 1) := by decide +kernel
theorem dX4_judges_126 : decode cX4_judges 126 = .ok (.aload_n 0, 1) := by decide +kernel
theorem dX4_judges_127 : decode cX4_judges 127 = .ok (.getfield 99, 3) := by decide +kernel
theorem dX4_judges_130 : decode cX4_judges 130 = .ok (.if_icmp .lt 44, 3) := by decide +kernel
theorem dX4_judges_133 : decode cX4_judges 133 = .ok (.aload_n 0, 1) := by decide +kernel
theorem dX4_judges_134 : decode cX4_judges 134 = .ok (.getfield 113, 3) := by decide +kernel
theorem dX4_judges_137 : decode cX4_judges 137 = .ok (.bipush 24, 2) := by decide +kernel
theorem dX4_judges_139 : decode cX4_judges 139 = .ok (.irem, 1) := by decide +kernel
theorem dX4_judges_140 : decode cX4_judges 140 = .ok (.aload_n 0, 1) := by decide +kernel
theorem dX4_judges_141 : decode cX4_judges 141 = .ok (.getfield 102, 3) := by decide +kernel
theorem dX4_judges_144 : decode cX4_judges 144 = .ok (.if_icmp .ge 30, 3) := by decide +kernel
theorem dX4_judges_147 : decode cX4_judges 147 = .ok (.aload_n 0, 1) := by decide +kernel
theorem dX4_judges_148 : decode cX4_judges 148 = .ok (.getfield 56, 3) := by decide +kernel
theorem dX4_judges_151 : decode cX4_judges 151 = .ok (.iconst 0, 1) := by decide +kernel
theorem dX4_judges_152 : decode cX4_judges 152 = .ok (.iaload, 1) := by decide +kernel
theorem dX4_judges_153 : decode cX4_judges 153 = .ok (.aload_n 0, 1) := by decide +kernel
theorem dX4_judges_154 : decode cX4_judges 154 = .ok (.getfield 96, 3) := by decide +kernel
theorem dX4_judges_157 : decode cX4_judges 157 = .ok (.if_icmp .ge 17, 3) := by decide +kernel
theorem dX4_judges_160 : decode cX4_judges 160 = .ok (.aload_n 0, 1) := by decide +kernel
theorem dX4_judges_161 : decode cX4_judges 161 = .ok (.iconst 2, 1) := by decide +kernel
theorem dX4_judges_162 : decode cX4_judges 162 = .ok (.iload_n 1, 1) := by decide +kernel
theorem dX4_judges_163 : decode cX4_judges 163 = .ok (.ifCond .le 7, 3) := by decide +kernel
theorem dX4_judges_166 : decode cX4_judges 166 = .ok (.iload_n 1, 1) := by decide +kernel
theorem dX4_judges_167 : decode cX4_judges 167 = .ok (.goto 4, 3) := by decide +kernel
theorem dX4_judges_170 : decode cX4_judges 170 = .ok (.iload_n 2, 1) := by decide +kernel
theorem dX4_judges_171 : decode cX4_judges 171 = .ok (.invokevirtual 119, 3) := by decide +kernel
theorem dX4_judges_174 : decode cX4_judges 174 = .ok (.return_, 1) := by decide +kernel
theorem dX4_hours_0 : decode cX4_hours 0 = .ok (.iload_n 1, 1) := by decide +kernel
theorem dX4_hours_1 : decode cX4_hours 1 = .ok (.iconst 1, 1) := by decide +kernel
theorem dX4_hours_2 : decode cX4_hours 2 = .ok (.sipush 200, 3) := by decide +kernel
theorem dX4_hours_5 : decode cX4_hours 5 = .ok (.invokestatic 77, 3) := by decide +kernel
theorem dX4_hours_8 : decode cX4_hours 8 = .ok (.ifCond .ne 5, 3) := by decide +kernel
theorem dX4_hours_11 : decode cX4_hours 11 = .ok (.iconst (-1), 1) := by decide +kernel
theorem dX4_hours_12 : decode cX4_hours 12 = .ok (.ireturn, 1) := by decide +kernel
theorem dX4_hours_13 : decode cX4_hours 13 = .ok (.aload_n 0, 1) := by decide +kernel
theorem dX4_hours_14 : decode cX4_hours 14 = .ok (.getfield 113, 3) := by decide +kernel
theorem dX4_hours_17 : decode cX4_hours 17 = .ok (.iload_n 1, 1) := by decide +kernel
theorem dX4_hours_18 : decode cX4_hours 18 = .ok (.iadd, 1) := by decide +kernel
theorem dX4_hours_19 : decode cX4_hours 19 = .ok (.sipush 2400, 3) := by decide +kernel
theorem dX4_hours_22 : decode cX4_hours 22 = .ok (.if_icmp .le 6, 3) := by decide +kernel
theorem dX4_hours_25 : decode cX4_hours 25 = .ok (.bipush (-3), 2) := by decide +kernel
theorem dX4_hours_27 : decode cX4_hours 27 = .ok (.ireturn, 1) := by decide +kernel
theorem dX4_hours_28 : decode cX4_hours 28 = .ok (.iconst 0, 1) := by decide +kernel
theorem dX4_hours_29 : decode cX4_hours 29 = .ok (.istore_n 2, 1) := by decide +kernel
theorem dX4_hours_30 : decode cX4_hours 30 = .ok (.iload_n 2, 1) := by decide +kernel
theorem dX4_hours_31 : decode cX4_hours 31 = .ok (.iload_n 1, 1) := by decide +kernel
theorem dX4_hours_32 : decode cX4_hours 32 = .ok (.if_icmp .ge 55, 3) := by decide +kernel
theorem dX4_hours_35 : decode cX4_hours 35 = .ok (.aload_n 0, 1) := by decide +kernel
theorem dX4_hours_36 : decode cX4_hours 36 = .ok (.dup, 1) := by decide +kernel
theorem dX4_hours_37 : decode cX4_hours 37 = .ok (.getfield 123, 3) := by decide +kernel
theorem dX4_hours_40 : decode cX4_hours 40 = .ok (.aload_n 0, 1) := by decide +kernel
theorem dX4_hours_41 : decode cX4_hours 41 = .ok (.getfield 7, 3) := by decide +kernel
theorem dX4_hours_44 : decode cX4_hours 44 = .ok (.iadd, 1) := by decide +kernel
theorem dX4_hours_45 : decode cX4_hours 45 = .ok (.putfield 123, 3) := by decide +kernel
theorem dX4_hours_48 : decode cX4_hours 48 = .ok (.iconst 0, 1) := by decide +kernel
theorem dX4_hours_49 : decode cX4_hours 49 = .ok (.istore_n 3, 1) := by decide +kernel
theorem dX4_hours_50 : decode cX4_hours 50 = .ok (.iload_n 3, 1) := by decide +kernel
theorem dX4_hours_51 : decode cX4_hours 51 = .ok (.bipush 7, 2) := by decide +kernel
theorem dX4_hours_53 : decode cX4_hours 53 = .ok (.if_icmp .ge 14, 3) := by decide +kernel
theorem dX4_hours_56 : decode cX4_hours 56 = .ok (.aload_n 0, 1) := by decide +kernel
theorem dX4_hours_57 : decode cX4_hours 57 = .ok (.iload_n 3, 1) := by decide +kernel
theorem dX4_hours_58 : decode cX4_hours 58 = .ok (.invokevirtual 126, 3) := by decide +kernel
theorem dX4_hours_61 : decode cX4_hours 61 = .ok (.iinc 3 1, 3) := by decide +kernel
theorem dX4_hours_64 : decode cX4_hours 64 = .ok (.goto (-14), 3) := by decide +kernel
theorem dX4_hours_67 : decode cX4_hours 67 = .ok (.aload_n 0, 1) := by decide +kernel
theorem dX4_hours_68 : decode cX4_hours 68 = .ok (.invokevirtual 130, 3) := by decide +kernel
theorem dX4_hours_71 : decode cX4_hours 71 = .ok (.aload_n 0, 1) := by decide +kernel
theorem dX4_hours_72 : decode cX4_hours 72 = .ok (.dup, 1) := by decide +kernel
theorem dX4_hours_73 : decode cX4_hours 73 = .ok (.getfield 113, 3) := by decide +kernel
theorem dX4_hours_76 : decode cX4_hours 76 = .ok (.iconst 1, 1) := by decide +kernel
theorem dX4_hours_77 : decode cX4_hours 77 = .ok (.iadd, 1) := by decide +kernel
theorem dX4_hours_78 : decode cX4_hours 78 = .ok (.putfield 113, 3) := by decide +kernel
theorem dX4_hours_81 : decode cX4_hours 81 = .ok (.iinc 2 1, 3) := by decide +kernel
theorem dX4_hours_84 : decode cX4_hours 84 = .ok (.goto (-54), 3) := by decide +kernel
theorem dX4_hours_87 : decode cX4_hours 87 = .ok (.aload_n 0, 1) := by decide +kernel
theorem dX4_hours_88 : decode cX4_hours 88 = .ok (.getfield 113, 3) := by decide +kernel
theorem dX4_hours_91 : decode cX4_hours 91 = .ok (.ireturn, 1) := by decide +kernel
theorem dX4_told_0 : decode cX4_told 0 = .ok (.aload_n 0, 1) := by decide +kernel
theorem dX4_told_1 : decode cX4_told 1 = .ok (.iload_n 1, 1) := by decide +kernel
theorem dX4_told_2 : decode cX4_told 2 = .ok (.invokevirtual 88, 3) := by decide +kernel
theorem dX4_told_5 : decode cX4_told 5 = .ok (.ifCond .eq 13, 3) := by decide +kernel
theorem dX4_told_8 : decode cX4_told 8 = .ok (.iload_n 2, 1) := by decide +kernel
theorem dX4_told_9 : decode cX4_told 9 = .ok (.iconst 0, 1) := by decide +kernel
theorem dX4_told_10 : decode cX4_told 10 = .ok (.bipush 7, 2) := by decide +kernel
theorem dX4_told_12 : decode cX4_told 12 = .ok (.invokestatic 77, 3) := by decide +kernel
theorem dX4_told_15 : decode cX4_told 15 = .ok (.ifCond .ne 5, 3) := by decide +kernel
theorem dX4_told_18 : decode cX4_told 18 = .ok (.iconst (-1), 1) := by decide +kernel
theorem dX4_told_19 : decode cX4_told 19 = .ok (.ireturn, 1) := by decide +kernel
theorem dX4_told_20 : decode cX4_told 20 = .ok (.iload_n 2, 1) := by decide +kernel
theorem dX4_told_21 : decode cX4_told 21 = .ok (.tableswitch 95 0 6 #[43, 50, 57, 64, 71, 81, 88], 43) := by decide +kernel
theorem dX4_told_64 : decode cX4_told 64 = .ok (.aload_n 0, 1) := by decide +kernel
theorem dX4_told_65 : decode cX4_told 65 = .ok (.getfield 16, 3) := by decide +kernel
theorem dX4_told_68 : decode cX4_told 68 = .ok (.iload_n 1, 1) := by decide +kernel
theorem dX4_told_69 : decode cX4_told 69 = .ok (.iaload, 1) := by decide +kernel
theorem dX4_told_70 : decode cX4_told 70 = .ok (.ireturn, 1) := by decide +kernel
theorem dX4_told_71 : decode cX4_told 71 = .ok (.aload_n 0, 1) := by decide +kernel
theorem dX4_told_72 : decode cX4_told 72 = .ok (.getfield 20, 3) := by decide +kernel
theorem dX4_told_75 : decode cX4_told 75 = .ok (.iload_n 1, 1) := by decide +kernel
theorem dX4_told_76 : decode cX4_told 76 = .ok (.iaload, 1) := by decide +kernel
theorem dX4_told_77 : decode cX4_told 77 = .ok (.ireturn, 1) := by decide +kernel
theorem dX4_told_78 : decode cX4_told 78 = .ok (.aload_n 0, 1) := by decide +kernel
theorem dX4_told_79 : decode cX4_told 79 = .ok (.getfield 23, 3) := by decide +kernel
theorem dX4_told_82 : decode cX4_told 82 = .ok (.iload_n 1, 1) := by decide +kernel
theorem dX4_told_83 : decode cX4_told 83 = .ok (.iaload, 1) := by decide +kernel
theorem dX4_told_84 : decode cX4_told 84 = .ok (.ireturn, 1) := by decide +kernel
theorem dX4_told_85 : decode cX4_told 85 = .ok (.aload_n 0, 1) := by decide +kernel
theorem dX4_told_86 : decode cX4_told 86 = .ok (.getfield 26, 3) := by decide +kernel
theorem dX4_told_89 : decode cX4_told 89 = .ok (.iload_n 1, 1) := by decide +kernel
theorem dX4_told_90 : decode cX4_told 90 = .ok (.iaload, 1) := by decide +kernel
theorem dX4_told_91 : decode cX4_told 91 = .ok (.ireturn, 1) := by decide +kernel
theorem dX4_told_92 : decode cX4_told 92 = .ok (.aload_n 0, 1) := by decide +kernel
theorem dX4_told_93 : decode cX4_told 93 = .ok (.getfield 32, 3) := by decide +kernel
theorem dX4_told_96 : decode cX4_told 96 = .ok (.iload_n 1, 1) := by decide +kernel
theorem dX4_told_97 : decode cX4_told 97 = .ok (.iaload, 1) := by decide +kernel
theorem dX4_told_98 : decode cX4_told 98 = .ok (.bipush 100, 2) := by decide +kernel
theorem dX4_told_100 : decode cX4_told 100 = .ok (.idiv, 1) := by decide +kernel
theorem dX4_told_101 : decode cX4_told 101 = .ok (.ireturn, 1) := by decide +kernel
theorem dX4_told_102 : decode cX4_told 102 = .ok (.aload_n 0, 1) := by decide +kernel
theorem dX4_told_103 : decode cX4_told 103 = .ok (.getfield 32, 3) := by decide +kernel
theorem dX4_told_106 : decode cX4_told 106 = .ok (.iload_n 1, 1) := by decide +kernel
theorem dX4_told_107 : decode cX4_told 107 = .ok (.iaload, 1) := by decide +kernel
theorem dX4_told_108 : decode cX4_told 108 = .ok (.ireturn, 1) := by decide +kernel
theorem dX4_told_109 : decode cX4_told 109 = .ok (.aload_n 0, 1) := by decide +kernel
theorem dX4_told_110 : decode cX4_told 110 = .ok (.iconst 0, 1) := by decide +kernel
theorem dX4_told_111 : decode cX4_told 111 = .ok (.iload_n 1, 1) := by decide +kernel
theorem dX4_told_112 : decode cX4_told 112 = .ok (.invokevirtual 105, 3) := by decide +kernel
theorem dX4_told_115 : decode cX4_told 115 = .ok (.ireturn, 1) := by decide +kernel
theorem dX4_told_116 : decode cX4_told 116 = .ok (.aload_n 0, 1) := by decide +kernel
theorem dX4_told_117 : decode cX4_told 117 = .ok (.getfield 35, 3) := by decide +kernel
theorem dX4_told_120 : decode cX4_told 120 = .ok (.iload_n 1, 1) := by decide +kernel
theorem dX4_told_121 : decode cX4_told 121 = .ok (.iaload, 1) := by decide +kernel
theorem dX4_told_122 : decode cX4_told 122 = .ok (.ireturn, 1) := by decide +kernel
theorem dX4_pane_0 : decode cX4_pane 0 = .ok (.aload_n 0, 1) := by decide +kernel
theorem dX4_pane_1 : decode cX4_pane 1 = .ok (.iload_n 1, 1) := by decide +kernel
theorem dX4_pane_2 : decode cX4_pane 2 = .ok (.iload_n 2, 1) := by decide +kernel
theorem dX4_pane_3 : decode cX4_pane 3 = .ok (.invokevirtual 92, 3) := by decide +kernel
theorem dX4_pane_6 : decode cX4_pane 6 = .ok (.ifCond .eq 12, 3) := by decide +kernel
theorem dX4_pane_9 : decode cX4_pane 9 = .ok (.iload_n 3, 1) := by decide +kernel
theorem dX4_pane_10 : decode cX4_pane 10 = .ok (.iconst 0, 1) := by decide +kernel
theorem dX4_pane_11 : decode cX4_pane 11 = .ok (.iconst 5, 1) := by decide +kernel
theorem dX4_pane_12 : decode cX4_pane 12 = .ok (.invokestatic 77, 3) := by decide +kernel
theorem dX4_pane_15 : decode cX4_pane 15 = .ok (.ifCond .ne 5, 3) := by decide +kernel
theorem dX4_pane_18 : decode cX4_pane 18 = .ok (.iconst (-1), 1) := by decide +kernel
theorem dX4_pane_19 : decode cX4_pane 19 = .ok (.ireturn, 1) := by decide +kernel
theorem dX4_pane_20 : decode cX4_pane 20 = .ok (.iconst 4, 1) := by decide +kernel
theorem dX4_pane_21 : decode cX4_pane 21 = .ok (.iload_n 1, 1) := by decide +kernel
theorem dX4_pane_22 : decode cX4_pane 22 = .ok (.imul, 1) := by decide +kernel
theorem dX4_pane_23 : decode cX4_pane 23 = .ok (.iload_n 2, 1) := by decide +kernel
theorem dX4_pane_24 : decode cX4_pane 24 = .ok (.iadd, 1) := by decide +kernel
theorem dX4_pane_25 : decode cX4_pane 25 = .ok (.istore 4, 2) := by decide +kernel
theorem dX4_pane_27 : decode cX4_pane 27 = .ok (.iload_n 3, 1) := by decide +kernel
theorem dX4_pane_28 : decode cX4_pane 28 = .ok (.tableswitch 76 0 4 #[36, 44, 52, 60, 68], 36) := by decide +kernel
theorem dX4_pane_64 : decode cX4_pane 64 = .ok (.aload_n 0, 1) := by decide +kernel
theorem dX4_pane_65 : decode cX4_pane 65 = .ok (.getfield 38, 3) := by decide +kernel
theorem dX4_pane_68 : decode cX4_pane 68 = .ok (.iload 4, 2) := by decide +kernel
theorem dX4_pane_70 : decode cX4_pane 70 = .ok (.iaload, 1) := by decide +kernel
theorem dX4_pane_71 : decode cX4_pane 71 = .ok (.ireturn, 1) := by decide +kernel
theorem dX4_pane_72 : decode cX4_pane 72 = .ok (.aload_n 0, 1) := by decide +kernel
theorem dX4_pane_73 : decode cX4_pane 73 = .ok (.getfield 41, 3) := by decide +kernel
theorem dX4_pane_76 : decode cX4_pane 76 = .ok (.iload 4, 2) := by decide +kernel
theorem dX4_pane_78 : decode cX4_pane 78 = .ok (.iaload, 1) := by decide +kernel
theorem dX4_pane_79 : decode cX4_pane 79 = .ok (.ireturn, 1) := by decide +kernel
theorem dX4_pane_80 : decode cX4_pane 80 = .ok (.aload_n 0, 1) := by decide +kernel
theorem dX4_pane_81 : decode cX4_pane 81 = .ok (.getfield 44, 3) := by decide +kernel
theorem dX4_pane_84 : decode cX4_pane 84 = .ok (.iload 4, 2) := by decide +kernel
theorem dX4_pane_86 : decode cX4_pane 86 = .ok (.iaload, 1) := by decide +kernel
theorem dX4_pane_87 : decode cX4_pane 87 = .ok (.ireturn, 1) := by decide +kernel
theorem dX4_pane_88 : decode cX4_pane 88 = .ok (.aload_n 0, 1) := by decide +kernel
theorem dX4_pane_89 : decode cX4_pane 89 = .ok (.getfield 47, 3) := by decide +kernel
theorem dX4_pane_92 : decode cX4_pane 92 = .ok (.iload 4, 2) := by decide +kernel
theorem dX4_pane_94 : decode cX4_pane 94 = .ok (.iaload, 1) := by decide +kernel
theorem dX4_pane_95 : decode cX4_pane 95 = .ok (.ireturn, 1) := by decide +kernel
theorem dX4_pane_96 : decode cX4_pane 96 = .ok (.aload_n 0, 1) := by decide +kernel
theorem dX4_pane_97 : decode cX4_pane 97 = .ok (.getfield 29, 3) := by decide +kernel
theorem dX4_pane_100 : decode cX4_pane 100 = .ok (.iload 4, 2) := by decide +kernel
theorem dX4_pane_102 : decode cX4_pane 102 = .ok (.iaload, 1) := by decide +kernel
theorem dX4_pane_103 : decode cX4_pane 103 = .ok (.ireturn, 1) := by decide +kernel
theorem dX4_pane_104 : decode cX4_pane 104 = .ok (.aload_n 0, 1) := by decide +kernel
theorem dX4_pane_105 : decode cX4_pane 105 = .ok (.getfield 50, 3) := by decide +kernel
theorem dX4_pane_108 : decode cX4_pane 108 = .ok (.iload 4, 2) := by decide +kernel
theorem dX4_pane_110 : decode cX4_pane 110 = .ok (.iaload, 1) := by decide +kernel
theorem dX4_pane_111 : decode cX4_pane 111 = .ok (.ireturn, 1) := by decide +kernel
theorem dX4_sum_0 : decode cX4_sum 0 = .ok (.iconst 0, 1) := by decide +kernel
theorem dX4_sum_1 : decode cX4_sum 1 = .ok (.istore_n 3, 1) := by decide +kernel
theorem dX4_sum_2 : decode cX4_sum 2 = .ok (.iconst 0, 1) := by decide +kernel
theorem dX4_sum_3 : decode cX4_sum 3 = .ok (.istore 4, 2) := by decide +kernel
theorem dX4_sum_5 : decode cX4_sum 5 = .ok (.iload 4, 2) := by decide +kernel
theorem dX4_sum_7 : decode cX4_sum 7 = .ok (.bipush 24, 2) := by decide +kernel
theorem dX4_sum_9 : decode cX4_sum 9 = .ok (.if_icmp .ge 21, 3) := by decide +kernel
theorem dX4_sum_12 : decode cX4_sum 12 = .ok (.iload_n 3, 1) := by decide +kernel
theorem dX4_sum_13 : decode cX4_sum 13 = .ok (.aload_n 1, 1) := by decide +kernel
theorem dX4_sum_14 : decode cX4_sum 14 = .ok (.bipush 24, 2) := by decide +kernel
theorem dX4_sum_16 : decode cX4_sum 16 = .ok (.iload_n 2, 1) := by decide +kernel
theorem dX4_sum_17 : decode cX4_sum 17 = .ok (.imul, 1) := by decide +kernel
theorem dX4_sum_18 : decode cX4_sum 18 = .ok (.iload 4, 2) := by decide +kernel
theorem dX4_sum_20 : decode cX4_sum 20 = .ok (.iadd, 1) := by decide +kernel
theorem dX4_sum_21 : decode cX4_sum 21 = .ok (.iaload, 1) := by decide +kernel
theorem dX4_sum_22 : decode cX4_sum 22 = .ok (.iadd, 1) := by decide +kernel
theorem dX4_sum_23 : decode cX4_sum 23 = .ok (.istore_n 3, 1) := by decide +kernel
theorem dX4_sum_24 : decode cX4_sum 24 = .ok (.iinc 4 1, 3) := by decide +kernel
theorem dX4_sum_27 : decode cX4_sum 27 = .ok (.goto (-22), 3) := by decide +kernel
theorem dX4_sum_30 : decode cX4_sum 30 = .ok (.iload_n 3, 1) := by decide +kernel
theorem dX4_sum_31 : decode cX4_sum 31 = .ok (.ireturn, 1) := by decide +kernel
theorem dX4_stream_0 : decode cX4_stream 0 = .ok (.iload_n 1, 1) := by decide +kernel
theorem dX4_stream_1 : decode cX4_stream 1 = .ok (.tableswitch 89 0 6 #[43, 48, 53, 58, 68, 75, 82], 43) := by decide +kernel
theorem dX4_stream_44 : decode cX4_stream 44 = .ok (.aload_n 0, 1) := by decide +kernel
theorem dX4_stream_45 : decode cX4_stream 45 = .ok (.getfield 7, 3) := by decide +kernel
theorem dX4_stream_48 : decode cX4_stream 48 = .ok (.ireturn, 1) := by decide +kernel
theorem dX4_stream_49 : decode cX4_stream 49 = .ok (.aload_n 0, 1) := by decide +kernel
theorem dX4_stream_50 : decode cX4_stream 50 = .ok (.getfield 13, 3) := by decide +kernel
theorem dX4_stream_53 : decode cX4_stream 53 = .ok (.ireturn, 1) := by decide +kernel
theorem dX4_stream_54 : decode cX4_stream 54 = .ok (.aload_n 0, 1) := by decide +kernel
theorem dX4_stream_55 : decode cX4_stream 55 = .ok (.getfield 123, 3) := by decide +kernel
theorem dX4_stream_58 : decode cX4_stream 58 = .ok (.ireturn, 1) := by decide +kernel
theorem dX4_stream_59 : decode cX4_stream 59 = .ok (.aload_n 0, 1) := by decide +kernel
theorem dX4_stream_60 : decode cX4_stream 60 = .ok (.aload_n 0, 1) := by decide +kernel
theorem dX4_stream_61 : decode cX4_stream 61 = .ok (.getfield 47, 3) := by decide +kernel
theorem dX4_stream_64 : decode cX4_stream 64 = .ok (.iconst 0, 1) := by decide +kernel
theorem dX4_stream_65 : decode cX4_stream 65 = .ok (.invokevirtual 133, 3) := by decide +kernel
theorem dX4_stream_68 : decode cX4_stream 68 = .ok (.ireturn, 1) := by decide +kernel
theorem dX4_stream_69 : decode cX4_stream 69 = .ok (.aload_n 0, 1) := by decide +kernel
theorem dX4_stream_70 : decode cX4_stream 70 = .ok (.getfield 53, 3) := by decide +kernel
theorem dX4_stream_73 : decode cX4_stream 73 = .ok (.iconst 0, 1) := by decide +kernel
theorem dX4_stream_74 : decode cX4_stream 74 = .ok (.iaload, 1) := by decide +kernel
theorem dX4_stream_75 : decode cX4_stream 75 = .ok (.ireturn, 1) := by decide +kernel
theorem dX4_stream_76 : decode cX4_stream 76 = .ok (.aload_n 0, 1) := by decide +kernel
theorem dX4_stream_77 : decode cX4_stream 77 = .ok (.getfield 56, 3) := by decide +kernel
theorem dX4_stream_80 : decode cX4_stream 80 = .ok (.iconst 0, 1) := by decide +kernel
theorem dX4_stream_81 : decode cX4_stream 81 = .ok (.iaload, 1) := by decide +kernel
theorem dX4_stream_82 : decode cX4_stream 82 = .ok (.ireturn, 1) := by decide +kernel
theorem dX4_stream_83 : decode cX4_stream 83 = .ok (.aload_n 0, 1) := by decide +kernel
theorem dX4_stream_84 : decode cX4_stream 84 = .ok (.getfield 59, 3) := by decide +kernel
theorem dX4_stream_87 : decode cX4_stream 87 = .ok (.iconst 0, 1) := by decide +kernel
theorem dX4_stream_88 : decode cX4_stream 88 = .ok (.iaload, 1) := by decide +kernel
theorem dX4_stream_89 : decode cX4_stream 89 = .ok (.ireturn, 1) := by decide +kernel
theorem dX4_stream_90 : decode cX4_stream 90 = .ok (.bipush (-100), 2) := by decide +kernel
theorem dX4_stream_92 : decode cX4_stream 92 = .ok (.ireturn, 1) := by decide +kernel
theorem dX4_broken_0 : decode cX4_broken 0 = .ok (.iload_n 1, 1) := by decide +kernel
theorem dX4_broken_1 : decode cX4_broken 1 = .ok (.iconst (-1), 1) := by decide +kernel
theorem dX4_broken_2 : decode cX4_broken 2 = .ok (.if_icmp .ne 12, 3) := by decide +kernel
theorem dX4_broken_5 : decode cX4_broken 5 = .ok (.iload_n 2, 1) := by decide +kernel
theorem dX4_broken_6 : decode cX4_broken 6 = .ok (.ifCond .ne 8, 3) := by decide +kernel
theorem dX4_broken_9 : decode cX4_broken 9 = .ok (.aload_n 0, 1) := by decide +kernel
theorem dX4_broken_10 : decode cX4_broken 10 = .ok (.getfield 116, 3) := by decide +kernel
theorem dX4_broken_13 : decode cX4_broken 13 = .ok (.ireturn, 1) := by decide +kernel
theorem dX4_broken_14 : decode cX4_broken 14 = .ok (.iload_n 1, 1) := by decide +kernel
theorem dX4_broken_15 : decode cX4_broken 15 = .ok (.ifCond .lt 12, 3) := by decide +kernel
theorem dX4_broken_18 : decode cX4_broken 18 = .ok (.iload_n 2, 1) := by decide +kernel
theorem dX4_broken_19 : decode cX4_broken 19 = .ok (.iconst 0, 1) := by decide +kernel
theorem dX4_broken_20 : decode cX4_broken 20 = .ok (.iconst 2, 1) := by decide +kernel
theorem dX4_broken_21 : decode cX4_broken 21 = .ok (.invokestatic 77, 3) := by decide +kernel
theorem dX4_broken_24 : decode cX4_broken 24 = .ok (.ifCond .ne 5, 3) := by decide +kernel
theorem dX4_broken_27 : decode cX4_broken 27 = .ok (.iconst (-1), 1) := by decide +kernel
theorem dX4_broken_28 : decode cX4_broken 28 = .ok (.ireturn, 1) := by decide +kernel
theorem dX4_broken_29 : decode cX4_broken 29 = .ok (.iload_n 1, 1) := by decide +kernel
theorem dX4_broken_30 : decode cX4_broken 30 = .ok (.aload_n 0, 1) := by decide +kernel
theorem dX4_broken_31 : decode cX4_broken 31 = .ok (.getfield 116, 3) := by decide +kernel
theorem dX4_broken_34 : decode cX4_broken 34 = .ok (.if_icmp .ge 9, 3) := by decide +kernel
theorem dX4_broken_37 : decode cX4_broken 37 = .ok (.iload_n 1, 1) := by decide +kernel
theorem dX4_broken_38 : decode cX4_broken 38 = .ok (.bipush 60, 2) := by decide +kernel
theorem dX4_broken_40 : decode cX4_broken 40 = .ok (.if_icmp .lt 6, 3) := by decide +kernel
theorem dX4_broken_43 : decode cX4_broken 43 = .ok (.bipush (-4), 2) := by decide +kernel
theorem dX4_broken_45 : decode cX4_broken 45 = .ok (.ireturn, 1) := by decide +kernel
theorem dX4_broken_46 : decode cX4_broken 46 = .ok (.iload_n 2, 1) := by decide +kernel
theorem dX4_broken_47 : decode cX4_broken 47 = .ok (.ifCond .ne 12, 3) := by decide +kernel
theorem dX4_broken_50 : decode cX4_broken 50 = .ok (.aload_n 0, 1) := by decide +kernel
theorem dX4_broken_51 : decode cX4_broken 51 = .ok (.getfield 62, 3) := by decide +kernel
theorem dX4_broken_54 : decode cX4_broken 54 = .ok (.iload_n 1, 1) := by decide +kernel
theorem dX4_broken_55 : decode cX4_broken 55 = .ok (.iaload, 1) := by decide +kernel
theorem dX4_broken_56 : decode cX4_broken 56 = .ok (.goto 23, 3) := by decide +kernel
theorem dX4_broken_59 : decode cX4_broken 59 = .ok (.iload_n 2, 1) := by decide +kernel
theorem dX4_broken_60 : decode cX4_broken 60 = .ok (.iconst 1, 1) := by decide +kernel
theorem dX4_broken_61 : decode cX4_broken 61 = .ok (.if_icmp .ne 12, 3) := by decide +kernel
theorem dX4_broken_64 : decode cX4_broken 64 = .ok (.aload_n 0, 1) := by decide +kernel
theorem dX4_broken_65 : decode cX4_broken 65 = .ok (.getfield 65, 3) := by decide +kernel
theorem dX4_broken_68 : decode cX4_broken 68 = .ok (.iload_n 1, 1) := by decide +kernel
theorem dX4_broken_69 : decode cX4_broken 69 = .ok (.iaload, 1) := by decide +kernel
theorem dX4_broken_70 : decode cX4_broken 70 = .ok (.goto 9, 3) := by decide +kernel
theorem dX4_broken_73 : decode cX4_broken 73 = .ok (.aload_n 0, 1) := by decide +kernel
theorem dX4_broken_74 : decode cX4_broken 74 = .ok (.getfield 68, 3) := by decide +kernel
theorem dX4_broken_77 : decode cX4_broken 77 = .ok (.iload_n 1, 1) := by decide +kernel
theorem dX4_broken_78 : decode cX4_broken 78 = .ok (.iaload, 1) := by decide +kernel
theorem dX4_broken_79 : decode cX4_broken 79 = .ok (.ireturn, 1) := by decide +kernel
theorem dX4_ofFarm_0 : decode cX4_ofFarm 0 = .ok (.iconst 0, 1) := by decide +kernel
theorem dX4_ofFarm_1 : decode cX4_ofFarm 1 = .ok (.istore 4, 2) := by decide +kernel
theorem dX4_ofFarm_3 : decode cX4_ofFarm 3 = .ok (.iconst 0, 1) := by decide +kernel
theorem dX4_ofFarm_4 : decode cX4_ofFarm 4 = .ok (.istore 5, 2) := by decide +kernel
theorem dX4_ofFarm_6 : decode cX4_ofFarm 6 = .ok (.iload 5, 2) := by decide +kernel
theorem dX4_ofFarm_8 : decode cX4_ofFarm 8 = .ok (.aload_n 0, 1) := by decide +kernel
theorem dX4_ofFarm_9 : decode cX4_ofFarm 9 = .ok (.getfield 74, 3) := by decide +kernel
theorem dX4_ofFarm_12 : decode cX4_ofFarm 12 = .ok (.if_icmp .ge 58, 3) := by decide +kernel
theorem dX4_ofFarm_15 : decode cX4_ofFarm 15 = .ok (.iconst 0, 1) := by decide +kernel
theorem dX4_ofFarm_16 : decode cX4_ofFarm 16 = .ok (.istore 6, 2) := by decide +kernel
theorem dX4_ofFarm_18 : decode cX4_ofFarm 18 = .ok (.iload 6, 2) := by decide +kernel
theorem dX4_ofFarm_20 : decode cX4_ofFarm 20 = .ok (.iconst 4, 1) := by decide +kernel
theorem dX4_ofFarm_21 : decode cX4_ofFarm 21 = .ok (.if_icmp .ge 43, 3) := by decide +kernel
theorem dX4_ofFarm_24 : decode cX4_ofFarm 24 = .ok (.iload 4, 2) := by decide +kernel
theorem dX4_ofFarm_26 : decode cX4_ofFarm 26 = .ok (.aload_n 0, 1) := by decide +kernel
theorem dX4_ofFarm_27 : decode cX4_ofFarm 27 = .ok (.getfield 16, 3) := by decide +kernel
theorem dX4_ofFarm_30 : decode cX4_ofFarm 30 = .ok (.iload 5, 2) := by decide +kernel
theorem dX4_ofFarm_32 : decode cX4_ofFarm 32 = .ok (.iaload, 1) := by decide +kernel
theorem dX4_ofFarm_33 : decode cX4_ofFarm 33 = .ok (.iload_n 3, 1) := by decide +kernel
theorem dX4_ofFarm_34 : decode cX4_ofFarm 34 = .ok (.if_icmp .ne 20, 3) := by decide +kernel
theorem dX4_ofFarm_37 : decode cX4_ofFarm 37 = .ok (.aload_n 1, 1) := by decide +kernel
theorem dX4_ofFarm_38 : decode cX4_ofFarm 38 = .ok (.bipush 24, 2) := by decide +kernel
theorem dX4_ofFarm_40 : decode cX4_ofFarm 40 = .ok (.iload_n 2, 1) := by decide +kernel
theorem dX4_ofFarm_41 : decode cX4_ofFarm 41 = .ok (.imul, 1) := by decide +kernel
theorem dX4_ofFarm_42 : decode cX4_ofFarm 42 = .ok (.iconst 4, 1) := by decide +kernel
theorem dX4_ofFarm_43 : decode cX4_ofFarm 43 = .ok (.iload 5, 2) := by decide +kernel
theorem dX4_ofFarm_45 : decode cX4_ofFarm 45 = .ok (.imul, 1) := by decide +kernel
theorem dX4_ofFarm_46 : decode cX4_ofFarm 46 = .ok (.iadd, 1) := by decide +kernel
theorem dX4_ofFarm_47 : decode cX4_ofFarm 47 = .ok (.iload 6, 2) := by decide +kernel
theorem dX4_ofFarm_49 : decode cX4_ofFarm 49 = .ok (.iadd, 1) := by decide +kernel
theorem dX4_ofFarm_50 : decode cX4_ofFarm 50 = .ok (.iaload, 1) := by decide +kernel
theorem dX4_ofFarm_51 : decode cX4_ofFarm 51 = .ok (.goto 4, 3) := by decide +kernel
theorem dX4_ofFarm_54 : decode cX4_ofFarm 54 = .ok (.iconst 0, 1) := by decide +kernel
theorem dX4_ofFarm_55 : decode cX4_ofFarm 55 = .ok (.iadd, 1) := by decide +kernel
theorem dX4_ofFarm_56 : decode cX4_ofFarm 56 = .ok (.istore 4, 2) := by decide +kernel
theorem dX4_ofFarm_58 : decode cX4_ofFarm 58 = .ok (.iinc 6 1, 3) := by decide +kernel
theorem dX4_ofFarm_61 : decode cX4_ofFarm 61 = .ok (.goto (-43), 3) := by decide +kernel
theorem dX4_ofFarm_64 : decode cX4_ofFarm 64 = .ok (.iinc 5 1, 3) := by decide +kernel
theorem dX4_ofFarm_67 : decode cX4_ofFarm 67 = .ok (.goto (-61), 3) := by decide +kernel
theorem dX4_ofFarm_70 : decode cX4_ofFarm 70 = .ok (.iload 4, 2) := by decide +kernel
theorem dX4_ofFarm_72 : decode cX4_ofFarm 72 = .ok (.ireturn, 1) := by decide +kernel
theorem dX4_farm_0 : decode cX4_farm 0 = .ok (.iload_n 1, 1) := by decide +kernel
theorem dX4_farm_1 : decode cX4_farm 1 = .ok (.iconst 0, 1) := by decide +kernel
theorem dX4_farm_2 : decode cX4_farm 2 = .ok (.iconst 3, 1) := by decide +kernel
theorem dX4_farm_3 : decode cX4_farm 3 = .ok (.invokestatic 77, 3) := by decide +kernel
theorem dX4_farm_6 : decode cX4_farm 6 = .ok (.ifCond .eq 12, 3) := by decide +kernel
theorem dX4_farm_9 : decode cX4_farm 9 = .ok (.iload_n 2, 1) := by decide +kernel
theorem dX4_farm_10 : decode cX4_farm 10 = .ok (.iconst 0, 1) := by decide +kernel
theorem dX4_farm_11 : decode cX4_farm 11 = .ok (.iconst 3, 1) := by decide +kernel
theorem dX4_farm_12 : decode cX4_farm 12 = .ok (.invokestatic 77, 3) := by decide +kernel
theorem dX4_farm_15 : decode cX4_farm 15 = .ok (.ifCond .ne 5, 3) := by decide +kernel
theorem dX4_farm_18 : decode cX4_farm 18 = .ok (.iconst (-1), 1) := by decide +kernel
theorem dX4_farm_19 : decode cX4_farm 19 = .ok (.ireturn, 1) := by decide +kernel
theorem dX4_farm_20 : decode cX4_farm 20 = .ok (.iload_n 2, 1) := by decide +kernel
theorem dX4_farm_21 : decode cX4_farm 21 = .ok (.ifCond .ne 16, 3) := by decide +kernel
theorem dX4_farm_24 : decode cX4_farm 24 = .ok (.aload_n 0, 1) := by decide +kernel
theorem dX4_farm_25 : decode cX4_farm 25 = .ok (.aload_n 0, 1) := by decide +kernel
theorem dX4_farm_26 : decode cX4_farm 26 = .ok (.getfield 38, 3) := by decide +kernel
theorem dX4_farm_29 : decode cX4_farm 29 = .ok (.iconst 0, 1) := by decide +kernel
theorem dX4_farm_30 : decode cX4_farm 30 = .ok (.iload_n 1, 1) := by decide +kernel
theorem dX4_farm_31 : decode cX4_farm 31 = .ok (.invokevirtual 137, 3) := by decide +kernel
theorem dX4_farm_34 : decode cX4_farm 34 = .ok (.goto 45, 3) := by decide +kernel
theorem dX4_farm_37 : decode cX4_farm 37 = .ok (.iload_n 2, 1) := by decide +kernel
theorem dX4_farm_38 : decode cX4_farm 38 = .ok (.iconst 1, 1) := by decide +kernel
theorem dX4_farm_39 : decode cX4_farm 39 = .ok (.if_icmp .ne 16, 3) := by decide +kernel
theorem dX4_farm_42 : decode cX4_farm 42 = .ok (.aload_n 0, 1) := by decide +kernel
theorem dX4_farm_43 : decode cX4_farm 43 = .ok (.aload_n 0, 1) := by decide +kernel
theorem dX4_farm_44 : decode cX4_farm 44 = .ok (.getfield 50, 3) := by decide +kernel
theorem dX4_farm_47 : decode cX4_farm 47 = .ok (.iconst 0, 1) := by decide +kernel
theorem dX4_farm_48 : decode cX4_farm 48 = .ok (.iload_n 1, 1) := by decide +kernel
theorem dX4_farm_49 : decode cX4_farm 49 = .ok (.invokevirtual 137, 3) := by decide +kernel
theorem dX4_farm_52 : decode cX4_farm 52 = .ok (.goto 27, 3) := by decide +kernel
theorem dX4_farm_55 : decode cX4_farm 55 = .ok (.iload_n 2, 1) := by decide +kernel
theorem dX4_farm_56 : decode cX4_farm 56 = .ok (.iconst 2, 1) := by decide +kernel
theorem dX4_farm_57 : decode cX4_farm 57 = .ok (.if_icmp .ne 16, 3) := by decide +kernel
theorem dX4_farm_60 : decode cX4_farm 60 = .ok (.aload_n 0, 1) := by decide +kernel
theorem dX4_farm_61 : decode cX4_farm 61 = .ok (.aload_n 0, 1) := by decide +kernel
theorem dX4_farm_62 : decode cX4_farm 62 = .ok (.getfield 44, 3) := by decide +kernel
theorem dX4_farm_65 : decode cX4_farm 65 = .ok (.iconst 0, 1) := by decide +kernel
theorem dX4_farm_66 : decode cX4_farm 66 = .ok (.iload_n 1, 1) := by decide +kernel
theorem dX4_farm_67 : decode cX4_farm 67 = .ok (.invokevirtual 137, 3) := by decide +kernel
theorem dX4_farm_70 : decode cX4_farm 70 = .ok (.goto 9, 3) := by decide +kernel
theorem dX4_farm_73 : decode cX4_farm 73 = .ok (.aload_n 0, 1) := by decide +kernel
theorem dX4_farm_74 : decode cX4_farm 74 = .ok (.getfield 71, 3) := by decide +kernel
theorem dX4_farm_77 : decode cX4_farm 77 = .ok (.iload_n 1, 1) := by decide +kernel
theorem dX4_farm_78 : decode cX4_farm 78 = .ok (.iaload, 1) := by decide +kernel
theorem dX4_farm_79 : decode cX4_farm 79 = .ok (.ireturn, 1) := by decide +kernel
theorem dX4_without_0 : decode cX4_without 0 = .ok (.aload_n 0, 1) := by decide +kernel
theorem dX4_without_1 : decode cX4_without 1 = .ok (.iload_n 1, 1) := by decide +kernel
theorem dX4_without_2 : decode cX4_without 2 = .ok (.invokevirtual 88, 3) := by decide +kernel
theorem dX4_without_5 : decode cX4_without 5 = .ok (.ifCond .eq 12, 3) := by decide +kernel
theorem dX4_without_8 : decode cX4_without 8 = .ok (.iload_n 2, 1) := by decide +kernel
theorem dX4_without_9 : decode cX4_without 9 = .ok (.iconst 0, 1) := by decide +kernel
theorem dX4_without_10 : decode cX4_without 10 = .ok (.iconst 5, 1) := by decide +kernel
theorem dX4_without_11 : decode cX4_without 11 = .ok (.invokestatic 77, 3) := by decide +kernel
theorem dX4_without_14 : decode cX4_without 14 = .ok (.ifCond .ne 5, 3) := by decide +kernel
theorem dX4_without_17 : decode cX4_without 17 = .ok (.iconst (-1), 1) := by decide +kernel
theorem dX4_without_18 : decode cX4_without 18 = .ok (.ireturn, 1) := by decide +kernel
theorem dX4_without_19 : decode cX4_without 19 = .ok (.iload_n 2, 1) := by decide +kernel
theorem dX4_without_20 : decode cX4_without 20 = .ok (.ifCond .ne 14, 3) := by decide +kernel
theorem dX4_without_23 : decode cX4_without 23 = .ok (.aload_n 0, 1) := by decide +kernel
theorem dX4_without_24 : decode cX4_without 24 = .ok (.getfield 53, 3) := by decide +kernel
theorem dX4_without_27 : decode cX4_without 27 = .ok (.iload_n 1, 1) := by decide +kernel
theorem dX4_without_28 : decode cX4_without 28 = .ok (.iconst 1, 1) := by decide +kernel
theorem dX4_without_29 : decode cX4_without 29 = .ok (.iadd, 1) := by decide +kernel
theorem dX4_without_30 : decode cX4_without 30 = .ok (.iaload, 1) := by decide +kernel
theorem dX4_without_31 : decode cX4_without 31 = .ok (.goto 33, 3) := by decide +kernel
theorem dX4_without_34 : decode cX4_without 34 = .ok (.iload_n 2, 1) := by decide +kernel
theorem dX4_without_35 : decode cX4_without 35 = .ok (.iconst 1, 1) := by decide +kernel
theorem dX4_without_36 : decode cX4_without 36 = .ok (.if_icmp .ne 14, 3) := by decide +kernel
theorem dX4_without_39 : decode cX4_without 39 = .ok (.aload_n 0, 1) := by decide +kernel
theorem dX4_without_40 : decode cX4_without 40 = .ok (.getfield 59, 3) := by decide +kernel
theorem dX4_without_43 : decode cX4_without 43 = .ok (.iload_n 1, 1) := by decide +kernel
theorem dX4_without_44 : decode cX4_without 44 = .ok (.iconst 1, 1) := by decide +kernel
theorem dX4_without_45 : decode cX4_without 45 = .ok (.iadd, 1) := by decide +kernel
theorem dX4_without_46 : decode cX4_without 46 = .ok (.iaload, 1) := by decide +kernel
theorem dX4_without_47 : decode cX4_without 47 = .ok (.goto 17, 3) := by decide +kernel
theorem dX4_without_50 : decode cX4_without 50 = .ok (.aload_n 0, 1) := by decide +kernel
end
section
theorem dX4_without_51 : decode cX4_without 51 = .ok (.aload_n 0, 1) := by decide +kernel
theorem dX4_without_52 : decode cX4_without 52 = .ok (.getfield 38, 3) := by decide +kernel
theorem dX4_without_55 : decode cX4_without 55 = .ok (.iload_n 1, 1) := by decide +kernel
theorem dX4_without_56 : decode cX4_without 56 = .ok (.iconst 1, 1) := by decide +kernel
theorem dX4_without_57 : decode cX4_without 57 = .ok (.iadd, 1) := by decide +kernel
theorem dX4_without_58 : decode cX4_without 58 = .ok (.iload_n 2, 1) := by decide +kernel
theorem dX4_without_59 : decode cX4_without 59 = .ok (.iconst 2, 1) := by decide +kernel
theorem dX4_without_60 : decode cX4_without 60 = .ok (.isub, 1) := by decide +kernel
theorem dX4_without_61 : decode cX4_without 61 = .ok (.invokevirtual 137, 3) := by decide +kernel
theorem dX4_without_64 : decode cX4_without 64 = .ok (.ireturn, 1) := by decide +kernel
theorem dX4_count_0 : decode cX4_count 0 = .ok (.iload_n 1, 1) := by decide +kernel
theorem dX4_count_1 : decode cX4_count 1 = .ok (.ifCond .ne 10, 3) := by decide +kernel
theorem dX4_count_4 : decode cX4_count 4 = .ok (.aload_n 0, 1) := by decide +kernel
theorem dX4_count_5 : decode cX4_count 5 = .ok (.getfield 74, 3) := by decide +kernel
theorem dX4_count_8 : decode cX4_count 8 = .ok (.goto 28, 3) := by decide +kernel
theorem dX4_count_11 : decode cX4_count 11 = .ok (.iload_n 1, 1) := by decide +kernel
theorem dX4_count_12 : decode cX4_count 12 = .ok (.iconst 1, 1) := by decide +kernel
theorem dX4_count_13 : decode cX4_count 13 = .ok (.if_icmp .ne 10, 3) := by decide +kernel
theorem dX4_count_16 : decode cX4_count 16 = .ok (.aload_n 0, 1) := by decide +kernel
theorem dX4_count_17 : decode cX4_count 17 = .ok (.getfield 113, 3) := by decide +kernel
theorem dX4_count_20 : decode cX4_count 20 = .ok (.goto 16, 3) := by decide +kernel
theorem dX4_count_23 : decode cX4_count 23 = .ok (.iload_n 1, 1) := by decide +kernel
theorem dX4_count_24 : decode cX4_count 24 = .ok (.iconst 2, 1) := by decide +kernel
theorem dX4_count_25 : decode cX4_count 25 = .ok (.if_icmp .ne 10, 3) := by decide +kernel
theorem dX4_count_28 : decode cX4_count 28 = .ok (.aload_n 0, 1) := by decide +kernel
theorem dX4_count_29 : decode cX4_count 29 = .ok (.getfield 81, 3) := by decide +kernel
theorem dX4_count_32 : decode cX4_count 32 = .ok (.goto 4, 3) := by decide +kernel
theorem dX4_count_35 : decode cX4_count 35 = .ok (.iconst (-1), 1) := by decide +kernel
theorem dX4_count_36 : decode cX4_count 36 = .ok (.ireturn, 1) := by decide +kernel
theorem dL_law_0 : decode cL_law 0 = .ok (.new 7, 3) := by decide +kernel
theorem dL_law_3 : decode cL_law 3 = .ok (.dup, 1) := by decide +kernel
theorem dL_law_4 : decode cL_law 4 = .ok (.invokespecial 9, 3) := by decide +kernel
theorem dL_law_7 : decode cL_law 7 = .ok (.astore_n 1, 1) := by decide +kernel
theorem dL_law_8 : decode cL_law 8 = .ok (.new 10, 3) := by decide +kernel
theorem dL_law_11 : decode cL_law 11 = .ok (.dup, 1) := by decide +kernel
theorem dL_law_12 : decode cL_law 12 = .ok (.invokespecial 12, 3) := by decide +kernel
theorem dL_law_15 : decode cL_law 15 = .ok (.astore_n 2, 1) := by decide +kernel
theorem dL_law_16 : decode cL_law 16 = .ok (.iconst 0, 1) := by decide +kernel
theorem dL_law_17 : decode cL_law 17 = .ok (.istore_n 3, 1) := by decide +kernel
theorem dL_law_18 : decode cL_law 18 = .ok (.iload_n 3, 1) := by decide +kernel
theorem dL_law_19 : decode cL_law 19 = .ok (.aload_n 0, 1) := by decide +kernel
theorem dL_law_20 : decode cL_law 20 = .ok (.arraylength, 1) := by decide +kernel
theorem dL_law_21 : decode cL_law 21 = .ok (.iconst 4, 1) := by decide +kernel
theorem dL_law_22 : decode cL_law 22 = .ok (.isub, 1) := by decide +kernel
theorem dL_law_23 : decode cL_law 23 = .ok (.if_icmp .gt 566, 3) := by decide +kernel
theorem dL_law_26 : decode cL_law 26 = .ok (.aload_n 0, 1) := by decide +kernel
theorem dL_law_27 : decode cL_law 27 = .ok (.iload_n 3, 1) := by decide +kernel
theorem dL_law_28 : decode cL_law 28 = .ok (.iaload, 1) := by decide +kernel
theorem dL_law_29 : decode cL_law 29 = .ok (.bipush 15, 2) := by decide +kernel
theorem dL_law_31 : decode cL_law 31 = .ok (.iand, 1) := by decide +kernel
theorem dL_law_32 : decode cL_law 32 = .ok (.tableswitch 551 0 14 #[76, 119, 152, 175, 198, 221, 264, 307, 330, 363, 406, 429, 462, 495, 528], 76) := by decide +kernel
theorem dL_law_108 : decode cL_law 108 = .ok (.aload_n 1, 1) := by decide +kernel
theorem dL_law_109 : decode cL_law 109 = .ok (.aload_n 0, 1) := by decide +kernel
theorem dL_law_110 : decode cL_law 110 = .ok (.iload_n 3, 1) := by decide +kernel
theorem dL_law_111 : decode cL_law 111 = .ok (.iconst 1, 1) := by decide +kernel
theorem dL_law_112 : decode cL_law 112 = .ok (.iadd, 1) := by decide +kernel
theorem dL_law_113 : decode cL_law 113 = .ok (.iaload, 1) := by decide +kernel
theorem dL_law_114 : decode cL_law 114 = .ok (.aload_n 0, 1) := by decide +kernel
theorem dL_law_115 : decode cL_law 115 = .ok (.iload_n 3, 1) := by decide +kernel
theorem dL_law_116 : decode cL_law 116 = .ok (.iconst 2, 1) := by decide +kernel
theorem dL_law_117 : decode cL_law 117 = .ok (.iadd, 1) := by decide +kernel
theorem dL_law_118 : decode cL_law 118 = .ok (.iaload, 1) := by decide +kernel
theorem dL_law_119 : decode cL_law 119 = .ok (.aload_n 0, 1) := by decide +kernel
theorem dL_law_120 : decode cL_law 120 = .ok (.iload_n 3, 1) := by decide +kernel
theorem dL_law_121 : decode cL_law 121 = .ok (.iconst 3, 1) := by decide +kernel
theorem dL_law_122 : decode cL_law 122 = .ok (.iadd, 1) := by decide +kernel
theorem dL_law_123 : decode cL_law 123 = .ok (.iaload, 1) := by decide +kernel
theorem dL_law_124 : decode cL_law 124 = .ok (.invokevirtual 13, 3) := by decide +kernel
theorem dL_law_127 : decode cL_law 127 = .ok (.aload_n 2, 1) := by decide +kernel
theorem dL_law_128 : decode cL_law 128 = .ok (.aload_n 0, 1) := by decide +kernel
theorem dL_law_129 : decode cL_law 129 = .ok (.iload_n 3, 1) := by decide +kernel
theorem dL_law_130 : decode cL_law 130 = .ok (.iconst 1, 1) := by decide +kernel
theorem dL_law_131 : decode cL_law 131 = .ok (.iadd, 1) := by decide +kernel
theorem dL_law_132 : decode cL_law 132 = .ok (.iaload, 1) := by decide +kernel
theorem dL_law_133 : decode cL_law 133 = .ok (.aload_n 0, 1) := by decide +kernel
theorem dL_law_134 : decode cL_law 134 = .ok (.iload_n 3, 1) := by decide +kernel
theorem dL_law_135 : decode cL_law 135 = .ok (.iconst 2, 1) := by decide +kernel
theorem dL_law_136 : decode cL_law 136 = .ok (.iadd, 1) := by decide +kernel
theorem dL_law_137 : decode cL_law 137 = .ok (.iaload, 1) := by decide +kernel
theorem dL_law_138 : decode cL_law 138 = .ok (.aload_n 0, 1) := by decide +kernel
theorem dL_law_139 : decode cL_law 139 = .ok (.iload_n 3, 1) := by decide +kernel
theorem dL_law_140 : decode cL_law 140 = .ok (.iconst 3, 1) := by decide +kernel
theorem dL_law_141 : decode cL_law 141 = .ok (.iadd, 1) := by decide +kernel
theorem dL_law_142 : decode cL_law 142 = .ok (.iaload, 1) := by decide +kernel
theorem dL_law_143 : decode cL_law 143 = .ok (.invokevirtual 17, 3) := by decide +kernel
theorem dL_law_146 : decode cL_law 146 = .ok (.if_icmp .eq 437, 3) := by decide +kernel
theorem dL_law_149 : decode cL_law 149 = .ok (.iconst 0, 1) := by decide +kernel
theorem dL_law_150 : decode cL_law 150 = .ok (.ireturn, 1) := by decide +kernel
theorem dL_law_151 : decode cL_law 151 = .ok (.aload_n 1, 1) := by decide +kernel
theorem dL_law_152 : decode cL_law 152 = .ok (.aload_n 0, 1) := by decide +kernel
theorem dL_law_153 : decode cL_law 153 = .ok (.iload_n 3, 1) := by decide +kernel
theorem dL_law_154 : decode cL_law 154 = .ok (.iconst 1, 1) := by decide +kernel
theorem dL_law_155 : decode cL_law 155 = .ok (.iadd, 1) := by decide +kernel
theorem dL_law_156 : decode cL_law 156 = .ok (.iaload, 1) := by decide +kernel
theorem dL_law_157 : decode cL_law 157 = .ok (.aload_n 0, 1) := by decide +kernel
theorem dL_law_158 : decode cL_law 158 = .ok (.iload_n 3, 1) := by decide +kernel
theorem dL_law_159 : decode cL_law 159 = .ok (.iconst 2, 1) := by decide +kernel
theorem dL_law_160 : decode cL_law 160 = .ok (.iadd, 1) := by decide +kernel
theorem dL_law_161 : decode cL_law 161 = .ok (.iaload, 1) := by decide +kernel
theorem dL_law_162 : decode cL_law 162 = .ok (.invokevirtual 18, 3) := by decide +kernel
theorem dL_law_165 : decode cL_law 165 = .ok (.aload_n 2, 1) := by decide +kernel
theorem dL_law_166 : decode cL_law 166 = .ok (.aload_n 0, 1) := by decide +kernel
theorem dL_law_167 : decode cL_law 167 = .ok (.iload_n 3, 1) := by decide +kernel
theorem dL_law_168 : decode cL_law 168 = .ok (.iconst 1, 1) := by decide +kernel
theorem dL_law_169 : decode cL_law 169 = .ok (.iadd, 1) := by decide +kernel
theorem dL_law_170 : decode cL_law 170 = .ok (.iaload, 1) := by decide +kernel
theorem dL_law_171 : decode cL_law 171 = .ok (.aload_n 0, 1) := by decide +kernel
theorem dL_law_172 : decode cL_law 172 = .ok (.iload_n 3, 1) := by decide +kernel
theorem dL_law_173 : decode cL_law 173 = .ok (.iconst 2, 1) := by decide +kernel
theorem dL_law_174 : decode cL_law 174 = .ok (.iadd, 1) := by decide +kernel
theorem dL_law_175 : decode cL_law 175 = .ok (.iaload, 1) := by decide +kernel
theorem dL_law_176 : decode cL_law 176 = .ok (.invokevirtual 22, 3) := by decide +kernel
theorem dL_law_179 : decode cL_law 179 = .ok (.if_icmp .eq 404, 3) := by decide +kernel
theorem dL_law_182 : decode cL_law 182 = .ok (.iconst 0, 1) := by decide +kernel
theorem dL_law_183 : decode cL_law 183 = .ok (.ireturn, 1) := by decide +kernel
theorem dL_law_184 : decode cL_law 184 = .ok (.aload_n 1, 1) := by decide +kernel
theorem dL_law_185 : decode cL_law 185 = .ok (.aload_n 0, 1) := by decide +kernel
theorem dL_law_186 : decode cL_law 186 = .ok (.iload_n 3, 1) := by decide +kernel
theorem dL_law_187 : decode cL_law 187 = .ok (.iconst 1, 1) := by decide +kernel
theorem dL_law_188 : decode cL_law 188 = .ok (.iadd, 1) := by decide +kernel
theorem dL_law_189 : decode cL_law 189 = .ok (.iaload, 1) := by decide +kernel
theorem dL_law_190 : decode cL_law 190 = .ok (.invokevirtual 23, 3) := by decide +kernel
theorem dL_law_193 : decode cL_law 193 = .ok (.aload_n 2, 1) := by decide +kernel
theorem dL_law_194 : decode cL_law 194 = .ok (.aload_n 0, 1) := by decide +kernel
theorem dL_law_195 : decode cL_law 195 = .ok (.iload_n 3, 1) := by decide +kernel
theorem dL_law_196 : decode cL_law 196 = .ok (.iconst 1, 1) := by decide +kernel
theorem dL_law_197 : decode cL_law 197 = .ok (.iadd, 1) := by decide +kernel
theorem dL_law_198 : decode cL_law 198 = .ok (.iaload, 1) := by decide +kernel
theorem dL_law_199 : decode cL_law 199 = .ok (.invokevirtual 27, 3) := by decide +kernel
theorem dL_law_202 : decode cL_law 202 = .ok (.if_icmp .eq 381, 3) := by decide +kernel
theorem dL_law_205 : decode cL_law 205 = .ok (.iconst 0, 1) := by decide +kernel
theorem dL_law_206 : decode cL_law 206 = .ok (.ireturn, 1) := by decide +kernel
theorem dL_law_207 : decode cL_law 207 = .ok (.aload_n 1, 1) := by decide +kernel
theorem dL_law_208 : decode cL_law 208 = .ok (.aload_n 0, 1) := by decide +kernel
theorem dL_law_209 : decode cL_law 209 = .ok (.iload_n 3, 1) := by decide +kernel
theorem dL_law_210 : decode cL_law 210 = .ok (.iconst 1, 1) := by decide +kernel
theorem dL_law_211 : decode cL_law 211 = .ok (.iadd, 1) := by decide +kernel
theorem dL_law_212 : decode cL_law 212 = .ok (.iaload, 1) := by decide +kernel
theorem dL_law_213 : decode cL_law 213 = .ok (.invokevirtual 28, 3) := by decide +kernel
theorem dL_law_216 : decode cL_law 216 = .ok (.aload_n 2, 1) := by decide +kernel
theorem dL_law_217 : decode cL_law 217 = .ok (.aload_n 0, 1) := by decide +kernel
theorem dL_law_218 : decode cL_law 218 = .ok (.iload_n 3, 1) := by decide +kernel
theorem dL_law_219 : decode cL_law 219 = .ok (.iconst 1, 1) := by decide +kernel
theorem dL_law_220 : decode cL_law 220 = .ok (.iadd, 1) := by decide +kernel
theorem dL_law_221 : decode cL_law 221 = .ok (.iaload, 1) := by decide +kernel
theorem dL_law_222 : decode cL_law 222 = .ok (.invokevirtual 31, 3) := by decide +kernel
theorem dL_law_225 : decode cL_law 225 = .ok (.if_icmp .eq 358, 3) := by decide +kernel
theorem dL_law_228 : decode cL_law 228 = .ok (.iconst 0, 1) := by decide +kernel
theorem dL_law_229 : decode cL_law 229 = .ok (.ireturn, 1) := by decide +kernel
theorem dL_law_230 : decode cL_law 230 = .ok (.aload_n 1, 1) := by decide +kernel
theorem dL_law_231 : decode cL_law 231 = .ok (.aload_n 0, 1) := by decide +kernel
theorem dL_law_232 : decode cL_law 232 = .ok (.iload_n 3, 1) := by decide +kernel
theorem dL_law_233 : decode cL_law 233 = .ok (.iconst 1, 1) := by decide +kernel
theorem dL_law_234 : decode cL_law 234 = .ok (.iadd, 1) := by decide +kernel
theorem dL_law_235 : decode cL_law 235 = .ok (.iaload, 1) := by decide +kernel
theorem dL_law_236 : decode cL_law 236 = .ok (.invokevirtual 32, 3) := by decide +kernel
theorem dL_law_239 : decode cL_law 239 = .ok (.aload_n 2, 1) := by decide +kernel
theorem dL_law_240 : decode cL_law 240 = .ok (.aload_n 0, 1) := by decide +kernel
theorem dL_law_241 : decode cL_law 241 = .ok (.iload_n 3, 1) := by decide +kernel
theorem dL_law_242 : decode cL_law 242 = .ok (.iconst 1, 1) := by decide +kernel
theorem dL_law_243 : decode cL_law 243 = .ok (.iadd, 1) := by decide +kernel
theorem dL_law_244 : decode cL_law 244 = .ok (.iaload, 1) := by decide +kernel
theorem dL_law_245 : decode cL_law 245 = .ok (.invokevirtual 35, 3) := by decide +kernel
theorem dL_law_248 : decode cL_law 248 = .ok (.if_icmp .eq 335, 3) := by decide +kernel
theorem dL_law_251 : decode cL_law 251 = .ok (.iconst 0, 1) := by decide +kernel
theorem dL_law_252 : decode cL_law 252 = .ok (.ireturn, 1) := by decide +kernel
theorem dL_law_253 : decode cL_law 253 = .ok (.aload_n 1, 1) := by decide +kernel
theorem dL_law_254 : decode cL_law 254 = .ok (.aload_n 0, 1) := by decide +kernel
theorem dL_law_255 : decode cL_law 255 = .ok (.iload_n 3, 1) := by decide +kernel
theorem dL_law_256 : decode cL_law 256 = .ok (.iconst 1, 1) := by decide +kernel
theorem dL_law_257 : decode cL_law 257 = .ok (.iadd, 1) := by decide +kernel
theorem dL_law_258 : decode cL_law 258 = .ok (.iaload, 1) := by decide +kernel
theorem dL_law_259 : decode cL_law 259 = .ok (.aload_n 0, 1) := by decide +kernel
theorem dL_law_260 : decode cL_law 260 = .ok (.iload_n 3, 1) := by decide +kernel
theorem dL_law_261 : decode cL_law 261 = .ok (.iconst 2, 1) := by decide +kernel
theorem dL_law_262 : decode cL_law 262 = .ok (.iadd, 1) := by decide +kernel
theorem dL_law_263 : decode cL_law 263 = .ok (.iaload, 1) := by decide +kernel
theorem dL_law_264 : decode cL_law 264 = .ok (.aload_n 0, 1) := by decide +kernel
theorem dL_law_265 : decode cL_law 265 = .ok (.iload_n 3, 1) := by decide +kernel
theorem dL_law_266 : decode cL_law 266 = .ok (.iconst 3, 1) := by decide +kernel
theorem dL_law_267 : decode cL_law 267 = .ok (.iadd, 1) := by decide +kernel
theorem dL_law_268 : decode cL_law 268 = .ok (.iaload, 1) := by decide +kernel
theorem dL_law_269 : decode cL_law 269 = .ok (.invokevirtual 36, 3) := by decide +kernel
theorem dL_law_272 : decode cL_law 272 = .ok (.aload_n 2, 1) := by decide +kernel
theorem dL_law_273 : decode cL_law 273 = .ok (.aload_n 0, 1) := by decide +kernel
theorem dL_law_274 : decode cL_law 274 = .ok (.iload_n 3, 1) := by decide +kernel
theorem dL_law_275 : decode cL_law 275 = .ok (.iconst 1, 1) := by decide +kernel
theorem dL_law_276 : decode cL_law 276 = .ok (.iadd, 1) := by decide +kernel
theorem dL_law_277 : decode cL_law 277 = .ok (.iaload, 1) := by decide +kernel
theorem dL_law_278 : decode cL_law 278 = .ok (.aload_n 0, 1) := by decide +kernel
theorem dL_law_279 : decode cL_law 279 = .ok (.iload_n 3, 1) := by decide +kernel
theorem dL_law_280 : decode cL_law 280 = .ok (.iconst 2, 1) := by decide +kernel
theorem dL_law_281 : decode cL_law 281 = .ok (.iadd, 1) := by decide +kernel
theorem dL_law_282 : decode cL_law 282 = .ok (.iaload, 1) := by decide +kernel
theorem dL_law_283 : decode cL_law 283 = .ok (.aload_n 0, 1) := by decide +kernel
theorem dL_law_284 : decode cL_law 284 = .ok (.iload_n 3, 1) := by decide +kernel
theorem dL_law_285 : decode cL_law 285 = .ok (.iconst 3, 1) := by decide +kernel
theorem dL_law_286 : decode cL_law 286 = .ok (.iadd, 1) := by decide +kernel
theorem dL_law_287 : decode cL_law 287 = .ok (.iaload, 1) := by decide +kernel
theorem dL_law_288 : decode cL_law 288 = .ok (.invokevirtual 39, 3) := by decide +kernel
theorem dL_law_291 : decode cL_law 291 = .ok (.if_icmp .eq 292, 3) := by decide +kernel
theorem dL_law_294 : decode cL_law 294 = .ok (.iconst 0, 1) := by decide +kernel
theorem dL_law_295 : decode cL_law 295 = .ok (.ireturn, 1) := by decide +kernel
theorem dL_law_296 : decode cL_law 296 = .ok (.aload_n 1, 1) := by decide +kernel
theorem dL_law_297 : decode cL_law 297 = .ok (.aload_n 0, 1) := by decide +kernel
theorem dL_law_298 : decode cL_law 298 = .ok (.iload_n 3, 1) := by decide +kernel
theorem dL_law_299 : decode cL_law 299 = .ok (.iconst 1, 1) := by decide +kernel
theorem dL_law_300 : decode cL_law 300 = .ok (.iadd, 1) := by decide +kernel
theorem dL_law_301 : decode cL_law 301 = .ok (.iaload, 1) := by decide +kernel
theorem dL_law_302 : decode cL_law 302 = .ok (.aload_n 0, 1) := by decide +kernel
theorem dL_law_303 : decode cL_law 303 = .ok (.iload_n 3, 1) := by decide +kernel
theorem dL_law_304 : decode cL_law 304 = .ok (.iconst 2, 1) := by decide +kernel
theorem dL_law_305 : decode cL_law 305 = .ok (.iadd, 1) := by decide +kernel
theorem dL_law_306 : decode cL_law 306 = .ok (.iaload, 1) := by decide +kernel
theorem dL_law_307 : decode cL_law 307 = .ok (.aload_n 0, 1) := by decide +kernel
theorem dL_law_308 : decode cL_law 308 = .ok (.iload_n 3, 1) := by decide +kernel
theorem dL_law_309 : decode cL_law 309 = .ok (.iconst 3, 1) := by decide +kernel
theorem dL_law_310 : decode cL_law 310 = .ok (.iadd, 1) := by decide +kernel
theorem dL_law_311 : decode cL_law 311 = .ok (.iaload, 1) := by decide +kernel
theorem dL_law_312 : decode cL_law 312 = .ok (.invokevirtual 40, 3) := by decide +kernel
theorem dL_law_315 : decode cL_law 315 = .ok (.aload_n 2, 1) := by decide +kernel
theorem dL_law_316 : decode cL_law 316 = .ok (.aload_n 0, 1) := by decide +kernel
theorem dL_law_317 : decode cL_law 317 = .ok (.iload_n 3, 1) := by decide +kernel
theorem dL_law_318 : decode cL_law 318 = .ok (.iconst 1, 1) := by decide +kernel
theorem dL_law_319 : decode cL_law 319 = .ok (.iadd, 1) := by decide +kernel
theorem dL_law_320 : decode cL_law 320 = .ok (.iaload, 1) := by decide +kernel
theorem dL_law_321 : decode cL_law 321 = .ok (.aload_n 0, 1) := by decide +kernel
theorem dL_law_322 : decode cL_law 322 = .ok (.iload_n 3, 1) := by decide +kernel
theorem dL_law_323 : decode cL_law 323 = .ok (.iconst 2, 1) := by decide +kernel
theorem dL_law_324 : decode cL_law 324 = .ok (.iadd, 1) := by decide +kernel
theorem dL_law_325 : decode cL_law 325 = .ok (.iaload, 1) := by decide +kernel
theorem dL_law_326 : decode cL_law 326 = .ok (.aload_n 0, 1) := by decide +kernel
theorem dL_law_327 : decode cL_law 327 = .ok (.iload_n 3, 1) := by decide +kernel
theorem dL_law_328 : decode cL_law 328 = .ok (.iconst 3, 1) := by decide +kernel
theorem dL_law_329 : decode cL_law 329 = .ok (.iadd, 1) := by decide +kernel
theorem dL_law_330 : decode cL_law 330 = .ok (.iaload, 1) := by decide +kernel
theorem dL_law_331 : decode cL_law 331 = .ok (.invokevirtual 43, 3) := by decide +kernel
theorem dL_law_334 : decode cL_law 334 = .ok (.if_icmp .eq 249, 3) := by decide +kernel
theorem dL_law_337 : decode cL_law 337 = .ok (.iconst 0, 1) := by decide +kernel
theorem dL_law_338 : decode cL_law 338 = .ok (.ireturn, 1) := by decide +kernel
theorem dL_law_339 : decode cL_law 339 = .ok (.aload_n 1, 1) := by decide +kernel
theorem dL_law_340 : decode cL_law 340 = .ok (.aload_n 0, 1) := by decide +kernel
theorem dL_law_341 : decode cL_law 341 = .ok (.iload_n 3, 1) := by decide +kernel
theorem dL_law_342 : decode cL_law 342 = .ok (.iconst 1, 1) := by decide +kernel
theorem dL_law_343 : decode cL_law 343 = .ok (.iadd, 1) := by decide +kernel
theorem dL_law_344 : decode cL_law 344 = .ok (.iaload, 1) := by decide +kernel
theorem dL_law_345 : decode cL_law 345 = .ok (.invokevirtual 44, 3) := by decide +kernel
theorem dL_law_348 : decode cL_law 348 = .ok (.aload_n 2, 1) := by decide +kernel
theorem dL_law_349 : decode cL_law 349 = .ok (.aload_n 0, 1) := by decide +kernel
theorem dL_law_350 : decode cL_law 350 = .ok (.iload_n 3, 1) := by decide +kernel
theorem dL_law_351 : decode cL_law 351 = .ok (.iconst 1, 1) := by decide +kernel
theorem dL_law_352 : decode cL_law 352 = .ok (.iadd, 1) := by decide +kernel
theorem dL_law_353 : decode cL_law 353 = .ok (.iaload, 1) := by decide +kernel
theorem dL_law_354 : decode cL_law 354 = .ok (.invokevirtual 47, 3) := by decide +kernel
theorem dL_law_357 : decode cL_law 357 = .ok (.if_icmp .eq 226, 3) := by decide +kernel
theorem dL_law_360 : decode cL_law 360 = .ok (.iconst 0, 1) := by decide +kernel
theorem dL_law_361 : decode cL_law 361 = .ok (.ireturn, 1) := by decide +kernel
theorem dL_law_362 : decode cL_law 362 = .ok (.aload_n 1, 1) := by decide +kernel
theorem dL_law_363 : decode cL_law 363 = .ok (.aload_n 0, 1) := by decide +kernel
theorem dL_law_364 : decode cL_law 364 = .ok (.iload_n 3, 1) := by decide +kernel
theorem dL_law_365 : decode cL_law 365 = .ok (.iconst 1, 1) := by decide +kernel
theorem dL_law_366 : decode cL_law 366 = .ok (.iadd, 1) := by decide +kernel
theorem dL_law_367 : decode cL_law 367 = .ok (.iaload, 1) := by decide +kernel
theorem dL_law_368 : decode cL_law 368 = .ok (.aload_n 0, 1) := by decide +kernel
theorem dL_law_369 : decode cL_law 369 = .ok (.iload_n 3, 1) := by decide +kernel
theorem dL_law_370 : decode cL_law 370 = .ok (.iconst 2, 1) := by decide +kernel
theorem dL_law_371 : decode cL_law 371 = .ok (.iadd, 1) := by decide +kernel
theorem dL_law_372 : decode cL_law 372 = .ok (.iaload, 1) := by decide +kernel
theorem dL_law_373 : decode cL_law 373 = .ok (.invokevirtual 48, 3) := by decide +kernel
theorem dL_law_376 : decode cL_law 376 = .ok (.aload_n 2, 1) := by decide +kernel
theorem dL_law_377 : decode cL_law 377 = .ok (.aload_n 0, 1) := by decide +kernel
theorem dL_law_378 : decode cL_law 378 = .ok (.iload_n 3, 1) := by decide +kernel
theorem dL_law_379 : decode cL_law 379 = .ok (.iconst 1, 1) := by decide +kernel
theorem dL_law_380 : decode cL_law 380 = .ok (.iadd, 1) := by decide +kernel
theorem dL_law_381 : decode cL_law 381 = .ok (.iaload, 1) := by decide +kernel
theorem dL_law_382 : decode cL_law 382 = .ok (.aload_n 0, 1) := by decide +kernel
theorem dL_law_383 : decode cL_law 383 = .ok (.iload_n 3, 1) := by decide +kernel
theorem dL_law_384 : decode cL_law 384 = .ok (.iconst 2, 1) := by decide +kernel
theorem dL_law_385 : decode cL_law 385 = .ok (.iadd, 1) := by decide +kernel
theorem dL_law_386 : decode cL_law 386 = .ok (.iaload, 1) := by decide +kernel
theorem dL_law_387 : decode cL_law 387 = .ok (.invokevirtual 51, 3) := by decide +kernel
theorem dL_law_390 : decode cL_law 390 = .ok (.if_icmp .eq 193, 3) := by decide +kernel
theorem dL_law_393 : decode cL_law 393 = .ok (.iconst 0, 1) := by decide +kernel
theorem dL_law_394 : decode cL_law 394 = .ok (.ireturn, 1) := by decide +kernel
theorem dL_law_395 : decode cL_law 395 = .ok (.aload_n 1, 1) := by decide +kernel
theorem dL_law_396 : decode cL_law 396 = .ok (.aload_n 0, 1) := by decide +kernel
theorem dL_law_397 : decode cL_law 397 = .ok (.iload_n 3, 1) := by decide +kernel
theorem dL_law_398 : decode cL_law 398 = .ok (.iconst 1, 1) := by decide +kernel
theorem dL_law_399 : decode cL_law 399 = .ok (.iadd, 1) := by decide +kernel
theorem dL_law_400 : decode cL_law 400 = .ok (.iaload, 1) := by decide +kernel
theorem dL_law_401 : decode cL_law 401 = .ok (.aload_n 0, 1) := by decide +kernel
theorem dL_law_402 : decode cL_law 402 = .ok (.iload_n 3, 1) := by decide +kernel
theorem dL_law_403 : decode cL_law 403 = .ok (.iconst 2, 1) := by decide +kernel
theorem dL_law_404 : decode cL_law 404 = .ok (.iadd, 1) := by decide +kernel
theorem dL_law_405 : decode cL_law 405 = .ok (.iaload, 1) := by decide +kernel
theorem dL_law_406 : decode cL_law 406 = .ok (.aload_n 0, 1) := by decide +kernel
theorem dL_law_407 : decode cL_law 407 = .ok (.iload_n 3, 1) := by decide +kernel
theorem dL_law_408 : decode cL_law 408 = .ok (.iconst 3, 1) := by decide +kernel
theorem dL_law_409 : decode cL_law 409 = .ok (.iadd, 1) := by decide +kernel
theorem dL_law_410 : decode cL_law 410 = .ok (.iaload, 1) := by decide +kernel
theorem dL_law_411 : decode cL_law 411 = .ok (.invokevirtual 52, 3) := by decide +kernel
theorem dL_law_414 : decode cL_law 414 = .ok (.aload_n 2, 1) := by decide +kernel
theorem dL_law_415 : decode cL_law 415 = .ok (.aload_n 0, 1) := by decide +kernel
theorem dL_law_416 : decode cL_law 416 = .ok (.iload_n 3, 1) := by decide +kernel
theorem dL_law_417 : decode cL_law 417 = .ok (.iconst 1, 1) := by decide +kernel
theorem dL_law_418 : decode cL_law 418 = .ok (.iadd, 1) := by decide +kernel
theorem dL_law_419 : decode cL_law 419 = .ok (.iaload, 1) := by decide +kernel
theorem dL_law_420 : decode cL_law 420 = .ok (.aload_n 0, 1) := by decide +kernel
theorem dL_law_421 : decode cL_law 421 = .ok (.iload_n 3, 1) := by decide +kernel
theorem dL_law_422 : decode cL_law 422 = .ok (.iconst 2, 1) := by decide +kernel
theorem dL_law_423 : decode cL_law 423 = .ok (.iadd, 1) := by decide +kernel
theorem dL_law_424 : decode cL_law 424 = .ok (.iaload, 1) := by decide +kernel
theorem dL_law_425 : decode cL_law 425 = .ok (.aload_n 0, 1) := by decide +kernel
theorem dL_law_426 : decode cL_law 426 = .ok (.iload_n 3, 1) := by decide +kernel
theorem dL_law_427 : decode cL_law 427 = .ok (.iconst 3, 1) := by decide +kernel
theorem dL_law_428 : decode cL_law 428 = .ok (.iadd, 1) := by decide +kernel
theorem dL_law_429 : decode cL_law 429 = .ok (.iaload, 1) := by decide +kernel
theorem dL_law_430 : decode cL_law 430 = .ok (.invokevirtual 55, 3) := by decide +kernel
theorem dL_law_433 : decode cL_law 433 = .ok (.if_icmp .eq 150, 3) := by decide +kernel
theorem dL_law_436 : decode cL_law 436 = .ok (.iconst 0, 1) := by decide +kernel
theorem dL_law_437 : decode cL_law 437 = .ok (.ireturn, 1) := by decide +kernel
theorem dL_law_438 : decode cL_law 438 = .ok (.aload_n 1, 1) := by decide +kernel
theorem dL_law_439 : decode cL_law 439 = .ok (.aload_n 0, 1) := by decide +kernel
theorem dL_law_440 : decode cL_law 440 = .ok (.iload_n 3, 1) := by decide +kernel
theorem dL_law_441 : decode cL_law 441 = .ok (.iconst 1, 1) := by decide +kernel
theorem dL_law_442 : decode cL_law 442 = .ok (.iadd, 1) := by decide +kernel
theorem dL_law_443 : decode cL_law 443 = .ok (.iaload, 1) := by decide +kernel
theorem dL_law_444 : decode cL_law 444 = .ok (.invokevirtual 56, 3) := by decide +kernel
theorem dL_law_447 : decode cL_law 447 = .ok (.aload_n 2, 1) := by decide +kernel
theorem dL_law_448 : decode cL_law 448 = .ok (.aload_n 0, 1) := by decide +kernel
theorem dL_law_449 : decode cL_law 449 = .ok (.iload_n 3, 1) := by decide +kernel
theorem dL_law_450 : decode cL_law 450 = .ok (.iconst 1, 1) := by decide +kernel
theorem dL_law_451 : decode cL_law 451 = .ok (.iadd, 1) := by decide +kernel
theorem dL_law_452 : decode cL_law 452 = .ok (.iaload, 1) := by decide +kernel
theorem dL_law_453 : decode cL_law 453 = .ok (.invokevirtual 59, 3) := by decide +kernel
theorem dL_law_456 : decode cL_law 456 = .ok (.if_icmp .eq 127, 3) := by decide +kernel
theorem dL_law_459 : decode cL_law 459 = .ok (.iconst 0, 1) := by decide +kernel
theorem dL_law_460 : decode cL_law 460 = .ok (.ireturn, 1) := by decide +kernel
theorem dL_law_461 : decode cL_law 461 = .ok (.aload_n 1, 1) := by decide +kernel
theorem dL_law_462 : decode cL_law 462 = .ok (.aload_n 0, 1) := by decide +kernel
theorem dL_law_463 : decode cL_law 463 = .ok (.iload_n 3, 1) := by decide +kernel
theorem dL_law_464 : decode cL_law 464 = .ok (.iconst 1, 1) := by decide +kernel
theorem dL_law_465 : decode cL_law 465 = .ok (.iadd, 1) := by decide +kernel
theorem dL_law_466 : decode cL_law 466 = .ok (.iaload, 1) := by decide +kernel
theorem dL_law_467 : decode cL_law 467 = .ok (.aload_n 0, 1) := by decide +kernel
theorem dL_law_468 : decode cL_law 468 = .ok (.iload_n 3, 1) := by decide +kernel
theorem dL_law_469 : decode cL_law 469 = .ok (.iconst 2, 1) := by decide +kernel
theorem dL_law_470 : decode cL_law 470 = .ok (.iadd, 1) := by decide +kernel
theorem dL_law_471 : decode cL_law 471 = .ok (.iaload, 1) := by decide +kernel
theorem dL_law_472 : decode cL_law 472 = .ok (.invokevirtual 60, 3) := by decide +kernel
theorem dL_law_475 : decode cL_law 475 = .ok (.aload_n 2, 1) := by decide +kernel
theorem dL_law_476 : decode cL_law 476 = .ok (.aload_n 0, 1) := by decide +kernel
theorem dL_law_477 : decode cL_law 477 = .ok (.iload_n 3, 1) := by decide +kernel
theorem dL_law_478 : decode cL_law 478 = .ok (.iconst 1, 1) := by decide +kernel
theorem dL_law_479 : decode cL_law 479 = .ok (.iadd, 1) := by decide +kernel
theorem dL_law_480 : decode cL_law 480 = .ok (.iaload, 1) := by decide +kernel
theorem dL_law_481 : decode cL_law 481 = .ok (.aload_n 0, 1) := by decide +kernel
theorem dL_law_482 : decode cL_law 482 = .ok (.iload_n 3, 1) := by decide +kernel
theorem dL_law_483 : decode cL_law 483 = .ok (.iconst 2, 1) := by decide +kernel
theorem dL_law_484 : decode cL_law 484 = .ok (.iadd, 1) := by decide +kernel
theorem dL_law_485 : decode cL_law 485 = .ok (.iaload, 1) := by decide +kernel
theorem dL_law_486 : decode cL_law 486 = .ok (.invokevirtual 63, 3) := by decide +kernel
theorem dL_law_489 : decode cL_law 489 = .ok (.if_icmp .eq 94, 3) := by decide +kernel
theorem dL_law_492 : decode cL_law 492 = .ok (.iconst 0, 1) := by decide +kernel
theorem dL_law_493 : decode cL_law 493 = .ok (.ireturn, 1) := by decide +kernel
theorem dL_law_494 : decode cL_law 494 = .ok (.aload_n 1, 1) := by decide +kernel
theorem dL_law_495 : decode cL_law 495 = .ok (.aload_n 0, 1) := by decide +kernel
theorem dL_law_496 : decode cL_law 496 = .ok (.iload_n 3, 1) := by decide +kernel
theorem dL_law_497 : decode cL_law 497 = .ok (.iconst 1, 1) := by decide +kernel
theorem dL_law_498 : decode cL_law 498 = .ok (.iadd, 1) := by decide +kernel
theorem dL_law_499 : decode cL_law 499 = .ok (.iaload, 1) := by decide +kernel
theorem dL_law_500 : decode cL_law 500 = .ok (.aload_n 0, 1) := by decide +kernel
theorem dL_law_501 : decode cL_law 501 = .ok (.iload_n 3, 1) := by decide +kernel
theorem dL_law_502 : decode cL_law 502 = .ok (.iconst 2, 1) := by decide +kernel
theorem dL_law_503 : decode cL_law 503 = .ok (.iadd, 1) := by decide +kernel
theorem dL_law_504 : decode cL_law 504 = .ok (.iaload, 1) := by decide +kernel
theorem dL_law_505 : decode cL_law 505 = .ok (.invokevirtual 64, 3) := by decide +kernel
theorem dL_law_508 : decode cL_law 508 = .ok (.aload_n 2, 1) := by decide +kernel
theorem dL_law_509 : decode cL_law 509 = .ok (.aload_n 0, 1) := by decide +kernel
theorem dL_law_510 : decode cL_law 510 = .ok (.iload_n 3, 1) := by decide +kernel
theorem dL_law_511 : decode cL_law 511 = .ok (.iconst 1, 1) := by decide +kernel
theorem dL_law_512 : decode cL_law 512 = .ok (.iadd, 1) := by decide +kernel
theorem dL_law_513 : decode cL_law 513 = .ok (.iaload, 1) := by decide +kernel
theorem dL_law_514 : decode cL_law 514 = .ok (.aload_n 0, 1) := by decide +kernel
theorem dL_law_515 : decode cL_law 515 = .ok (.iload_n 3, 1) := by decide +kernel
theorem dL_law_516 : decode cL_law 516 = .ok (.iconst 2, 1) := by decide +kernel
theorem dL_law_517 : decode cL_law 517 = .ok (.iadd, 1) := by decide +kernel
theorem dL_law_518 : decode cL_law 518 = .ok (.iaload, 1) := by decide +kernel
theorem dL_law_519 : decode cL_law 519 = .ok (.invokevirtual 67, 3) := by decide +kernel
theorem dL_law_522 : decode cL_law 522 = .ok (.if_icmp .eq 61, 3) := by decide +kernel
theorem dL_law_525 : decode cL_law 525 = .ok (.iconst 0, 1) := by decide +kernel
theorem dL_law_526 : decode cL_law 526 = .ok (.ireturn, 1) := by decide +kernel
theorem dL_law_527 : decode cL_law 527 = .ok (.aload_n 1, 1) := by decide +kernel
theorem dL_law_528 : decode cL_law 528 = .ok (.aload_n 0, 1) := by decide +kernel
theorem dL_law_529 : decode cL_law 529 = .ok (.iload_n 3, 1) := by decide +kernel
theorem dL_law_530 : decode cL_law 530 = .ok (.iconst 1, 1) := by decide +kernel
theorem dL_law_531 : decode cL_law 531 = .ok (.iadd, 1) := by decide +kernel
theorem dL_law_532 : decode cL_law 532 = .ok (.iaload, 1) := by decide +kernel
theorem dL_law_533 : decode cL_law 533 = .ok (.aload_n 0, 1) := by decide +kernel
theorem dL_law_534 : decode cL_law 534 = .ok (.iload_n 3, 1) := by decide +kernel
theorem dL_law_535 : decode cL_law 535 = .ok (.iconst 2, 1) := by decide +kernel
theorem dL_law_536 : decode cL_law 536 = .ok (.iadd, 1) := by decide +kernel
theorem dL_law_537 : decode cL_law 537 = .ok (.iaload, 1) := by decide +kernel
theorem dL_law_538 : decode cL_law 538 = .ok (.invokevirtual 68, 3) := by decide +kernel
theorem dL_law_541 : decode cL_law 541 = .ok (.aload_n 2, 1) := by decide +kernel
theorem dL_law_542 : decode cL_law 542 = .ok (.aload_n 0, 1) := by decide +kernel
theorem dL_law_543 : decode cL_law 543 = .ok (.iload_n 3, 1) := by decide +kernel
theorem dL_law_544 : decode cL_law 544 = .ok (.iconst 1, 1) := by decide +kernel
theorem dL_law_545 : decode cL_law 545 = .ok (.iadd, 1) := by decide +kernel
theorem dL_law_546 : decode cL_law 546 = .ok (.iaload, 1) := by decide +kernel
theorem dL_law_547 : decode cL_law 547 = .ok (.aload_n 0, 1) := by decide +kernel
theorem dL_law_548 : decode cL_law 548 = .ok (.iload_n 3, 1) := by decide +kernel
theorem dL_law_549 : decode cL_law 549 = .ok (.iconst 2, 1) := by decide +kernel
theorem dL_law_550 : decode cL_law 550 = .ok (.iadd, 1) := by decide +kernel
theorem dL_law_551 : decode cL_law 551 = .ok (.iaload, 1) := by decide +kernel
theorem dL_law_552 : decode cL_law 552 = .ok (.invokevirtual 71, 3) := by decide +kernel
theorem dL_law_555 : decode cL_law 555 = .ok (.if_icmp .eq 28, 3) := by decide +kernel
theorem dL_law_558 : decode cL_law 558 = .ok (.iconst 0, 1) := by decide +kernel
theorem dL_law_559 : decode cL_law 559 = .ok (.ireturn, 1) := by decide +kernel
theorem dL_law_560 : decode cL_law 560 = .ok (.aload_n 1, 1) := by decide +kernel
theorem dL_law_561 : decode cL_law 561 = .ok (.aload_n 0, 1) := by decide +kernel
theorem dL_law_562 : decode cL_law 562 = .ok (.iload_n 3, 1) := by decide +kernel
theorem dL_law_563 : decode cL_law 563 = .ok (.iconst 1, 1) := by decide +kernel
theorem dL_law_564 : decode cL_law 564 = .ok (.iadd, 1) := by decide +kernel
theorem dL_law_565 : decode cL_law 565 = .ok (.iaload, 1) := by decide +kernel
theorem dL_law_566 : decode cL_law 566 = .ok (.invokevirtual 72, 3) := by decide +kernel
theorem dL_law_569 : decode cL_law 569 = .ok (.aload_n 2, 1) := by decide +kernel
theorem dL_law_570 : decode cL_law 570 = .ok (.aload_n 0, 1) := by decide +kernel
theorem dL_law_571 : decode cL_law 571 = .ok (.iload_n 3, 1) := by decide +kernel
theorem dL_law_572 : decode cL_law 572 = .ok (.iconst 1, 1) := by decide +kernel
theorem dL_law_573 : decode cL_law 573 = .ok (.iadd, 1) := by decide +kernel
theorem dL_law_574 : decode cL_law 574 = .ok (.iaload, 1) := by decide +kernel
theorem dL_law_575 : decode cL_law 575 = .ok (.invokevirtual 75, 3) := by decide +kernel
theorem dL_law_578 : decode cL_law 578 = .ok (.if_icmp .eq 5, 3) := by decide +kernel
theorem dL_law_581 : decode cL_law 581 = .ok (.iconst 0, 1) := by decide +kernel
theorem dL_law_582 : decode cL_law 582 = .ok (.ireturn, 1) := by decide +kernel
theorem dL_law_583 : decode cL_law 583 = .ok (.iinc 3 4, 3) := by decide +kernel
theorem dL_law_586 : decode cL_law 586 = .ok (.goto (-568), 3) := by decide +kernel
theorem dL_law_589 : decode cL_law 589 = .ok (.iconst 1, 1) := by decide +kernel
theorem dL_law_590 : decode cL_law 590 = .ok (.ireturn, 1) := by decide +kernel
end
section
/-! ===== the pure words ===== -/
def s_max (x y : Int32) : Int32 := if x < y then y else x
def s_min (x y : Int32) : Int32 := if y < x then y else x
def s_in (n lo hi : Int32) : Int32 := if n < lo then 0 else if hi < n then 0 else 1
def s_ish (h hn : Int32) : Int32 := if h < 0 then 0 else if hn ≤ h then 0 else 1
def s_isp (h p hn pah : Int32) : Int32 := if s_ish h hn = 0 then 0 else if p < 0 then 0 else if pah ≤ p then 0 else 1
def s_law (fl : Int32) : Int32 := if fl ≤ 400 then 0 else 1
def s_mod (x y : Int32) : Int32 := x - x / y * y
def s_out (fa fl ai hour : Int32) : Int32 := if s_mod (hour / 24) 4 = fa then 0 else if ai < 0 then 0 else if s_law fl = 0 then 1 else 0
def s_ra (fl rn rf rt hour : Int32) : Int32 := if s_mod hour 24 < rf then 0 else if rt ≤ s_mod hour 24 then 0 else if s_law fl = 0 then rn else 0
def s_gz (hour : Int32) : Int32 := s_in (s_mod hour 24) 6 17
def s_short (am r : Int32) : Int32 := if r ≤ am then 0 else 1
def s_most (w c : Int32) : Int32 := s_max 0 (w - c / 100 / 10)
section VX
variable {p : Program} {l : Launch} {e : Env} {R : Room} {s : State} {m : MethodId} {args : Array Value} {below : List Frame} {meth : Method} {c : Code} {Q : State → Prop} {G : v_Cfg} {I : va_W → Heap → List Loc → Prop} {cc : ByteArray} {own : String} {nL : Nat} {ret : Option FieldType} {ws : va_W} {k n : Nat} {lv : List (Nat × Value)} {pc : Nat} {st : List Value}
theorem v_irm {x y : Int32} (hdg : decode cc pc = .ok (.irem, 1)) (hne : ¬ y = 0) (kk : V p l e R s m args below meth c Q G I cc own nL ret ws k n lv (pc + 1) (.int (s_mod x y) :: st)) : V p l e R s m args below meth c Q G I cc own nL ret ws k n lv pc (.int y :: .int x :: st) := v_irem hdg hne kk
theorem v_xmax {index : Nat} {x y : Int32} (h : v_LM own index Lib.Math.max.name Lib.Math.max.code) (hdg : decode cc pc = .ok (.invokestatic index, 3)) (hR : 1 ≤ R.frames ∧ (st.map fun v => v.category).sum + 13 ≤ R.locals ∧ k ≤ R.cells ∧ n ≤ R.slots) (kk : V p l e R s m args below meth c Q G I cc own nL ret ws k n lv (pc + 3) (.int (s_max x y) :: st)) : V p l e R s m args below meth c Q G I cc own nL ret ws k n lv pc (.int y :: .int x :: st) := v_mmax h hdg hR kk
theorem v_xmin {index : Nat} {x y : Int32} (h : v_LM own index Lib.Math.min.name Lib.Math.min.code) (hdg : decode cc pc = .ok (.invokestatic index, 3)) (hR : 1 ≤ R.frames ∧ (st.map fun v => v.category).sum + 13 ≤ R.locals ∧ k ≤ R.cells ∧ n ≤ R.slots) (kk : V p l e R s m args below meth c Q G I cc own nL ret ws k n lv (pc + 3) (.int (s_min x y) :: st)) : V p l e R s m args below meth c Q G I cc own nL ret ws k n lv pc (.int y :: .int x :: st) := v_mmin h hdg hR kk
end VX
theorem s_in_nar (a b c : Int32) : narrow .boolean (.int (s_in a b c)) = .int (s_in a b c) := by
  unfold s_in; split
  · rfl
  · split <;> rfl
theorem u_id (f : Nat → Int32) (k : Nat) : upd f k (f k) = f := by
  funext j; unfold upd; split
  · rename_i h; rw [h]
  · rfl
theorem v_w1 {α : Type} (f : α → va_W) {a b : α} (h : a = b) : f a = f b := by rw [h]
theorem v_w2 {α β : Type} (f : α → β → va_W) {a a' : α} {b b' : β} (h : a = a') (h2 : b = b') : f a b = f a' b' := by rw [h, h2]
theorem v_w3 {α β γ : Type} (f : α → β → γ → va_W) {a a' : α} {b b' : β} {c c' : γ} (h : a = a') (h2 : b = b') (h3 : c = c') : f a b c = f a' b' c' := by rw [h, h2, h3]
theorem v_w4 {α β γ δ : Type} (f : α → β → γ → δ → va_W) {a a' : α} {b b' : β} {c c' : γ} {d d' : δ} (h : a = a') (h2 : b = b') (h3 : c = c') (h4 : d = d') : f a b c d = f a' b' c' d' := by rw [h, h2, h3, h4]
theorem v_w5 {α β γ δ ε : Type} (f : α → β → γ → δ → ε → va_W) {a a' : α} {b b' : β} {c c' : γ} {d d' : δ} {e e' : ε} (h : a = a') (h2 : b = b') (h3 : c = c') (h4 : d = d') (h5 : e = e') : f a b c d e = f a' b' c' d' e' := by rw [h, h2, h3, h4, h5]
theorem s_ish_ix {h : Int32} {k : Nat} (hk : k ≤ 6) (hh : ¬ s_ish h (nI k) = 0) : h = nI h.toNatClampNeg ∧ h.toNatClampNeg < k := by
  unfold s_ish at hh
  split at hh
  · exact absurd rfl hh
  · rename_i h0
    split at hh
    · exact absurd rfl hh
    · rename_i h1
      obtain ⟨j, hj, rfl⟩ := nI_of h0
      rw [nI_clamp hj]
      refine ⟨rfl, ?_⟩
      rcases Nat.lt_or_ge j k with q | q
      · exact q
      · exact absurd (nI_le q hj) h1

set_option maxRecDepth 100000 in
set_option maxHeartbeats 4000000 in
theorem c_X3_isWithin (l : Launch) (G : v_Cfg) (n : Int32) (lo : Int32) (hi : Int32)  : RdI l G yX3_isWithin cX3_isWithin 3 (some .boolean) 0 [.int n, .int lo, .int hi] [] (s_in n lo hi) := by
  refine RdI.of (own := RX3) (by decide) rfl (Nat.le_of_ble_eq_true rfl) (fun p e s m below meth c => ?_)
  refine v_iload_n dX3_isWithin_0 rfl 0 rfl ?_
  refine v_iload_n dX3_isWithin_1 rfl 1 rfl ?_
  refine v_icmp_lt (tgt := 14) dX3_isWithin_2 (by decide) (fun h2 => ?_) (fun h2 => ?_)
  · skip
    refine v_iconst (v := 0) dX3_isWithin_14 (by decide) ?_
    exact v_zretR dX3_isWithin_15 (by simp only [s_in, if_pos h2]) rfl
  · skip
    refine v_iload_n dX3_isWithin_5 rfl 0 rfl ?_
    refine v_iload_n dX3_isWithin_6 rfl 2 rfl ?_
    refine v_icmp_gt (tgt := 14) dX3_isWithin_7 (by decide) (fun h7 => ?_) (fun h7 => ?_)
    · skip
      refine v_iconst (v := 0) dX3_isWithin_14 (by decide) ?_
      exact v_zretR dX3_isWithin_15 (by simp only [s_in, if_neg h2, if_pos h7]) rfl
    · skip
      refine v_iconst (v := 1) dX3_isWithin_10 (by decide) ?_
      refine v_goto (tgt := 15) dX3_isWithin_11 (by decide) ?_
      exact v_zretR dX3_isWithin_15 (by simp only [s_in, if_neg h2, if_neg h7]) rfl

set_option maxRecDepth 100000 in
set_option maxHeartbeats 4000000 in
theorem c_X3_placeOf (l : Launch) (G : v_Cfg) (h : Nat) (q : Nat)  : RdI l G yX3_placeOf cX3_placeOf 2 (some .int) 0 [.int (nI h), .int (nI q)] [] (nI (4 * h + q)) := by
  refine RdI.of (own := RX3) (by decide) rfl (Nat.le_of_ble_eq_true rfl) (fun p e s m below meth c => ?_)
  refine v_iload_n dX3_placeOf_0 rfl 0 rfl ?_
  refine v_iconst (v := 4) dX3_placeOf_1 (by decide) ?_
  refine v_imul dX3_placeOf_2 ?_
  refine v_iload_n dX3_placeOf_3 rfl 1 rfl ?_
  refine v_iadd dX3_placeOf_4 ?_
  exact v_iretR dX3_placeOf_5 (by rw [show (4 : Int32) = nI 4 from rfl, pk_mul, nI_add, Nat.mul_comm])

set_option maxRecDepth 100000 in
set_option maxHeartbeats 4000000 in
theorem c_X2_isHatch (l : Launch) (G : v_Cfg) (o0 : Nat) (oFa : Nat) (oWi : Nat) (oPa : Nat) (oQu : Nat) (oSh : Nat) (hk : Nat) (fl : Int32) (ai : Int32) (rn : Int32) (rf : Int32) (rt : Int32) (x : Int32)  : RdI l G yX2_isHatch cX2_isHatch 2 (some .boolean) 0 [.ref o0, .int x] [(o0, .inr (2, [.ref oFa, .ref oWi, .ref oPa, .ref oQu, .ref oSh, .int (nI hk), .int fl, .int ai, .int rn, .int rf, .int rt]))] (s_ish x (nI hk)) := by
  refine RdI.of (own := RX2) (by decide) rfl (Nat.le_of_ble_eq_true rfl) (fun p e s m below meth c => ?_)
  refine v_iload_n dX2_isHatch_0 rfl 1 rfl ?_
  refine v_if_lt (tgt := 16) dX2_isHatch_1 (by decide) (fun h1 => ?_) (fun h1 => ?_)
  · skip
    refine v_iconst (v := 0) dX2_isHatch_16 (by decide) ?_
    exact v_zretR dX2_isHatch_17 (by simp only [s_ish, if_pos h1]) rfl
  · skip
    refine v_iload_n dX2_isHatch_4 rfl 1 rfl ?_
    refine v_aload_n dX2_isHatch_5 rfl 0 rfl ?_
    refine v_get fX2_34 dX2_isHatch_6 0 rfl rfl ?_
    refine v_icmp_ge (tgt := 16) dX2_isHatch_9 (by decide) (fun h9 => ?_) (fun h9 => ?_)
    · skip
      refine v_iconst (v := 0) dX2_isHatch_16 (by decide) ?_
      exact v_zretR dX2_isHatch_17 (by simp only [s_ish, if_neg h1, if_pos h9]) rfl
    · skip
      refine v_iconst (v := 1) dX2_isHatch_12 (by decide) ?_
      refine v_goto (tgt := 17) dX2_isHatch_13 (by decide) ?_
      exact v_zretR dX2_isHatch_17 (by simp only [s_ish, if_neg h1, if_neg h9]) rfl

set_option maxRecDepth 100000 in
set_option maxHeartbeats 4000000 in
theorem c_X2_isPane (l : Launch) (G : v_Cfg) (o0 : Nat) (oFa : Nat) (oWi : Nat) (oPa : Nat) (oQu : Nat) (oSh : Nat) (hk : Nat) (fl : Int32) (ai : Int32) (rn : Int32) (rf : Int32) (rt : Int32) (pa : Nat → Int32) (x : Int32) (y : Int32) (hk6 : hk ≤ 6) : RdI l G yX2_isPane cX2_isPane 3 (some .boolean) 1 [.ref o0, .int x, .int y] [(o0, .inr (2, [.ref oFa, .ref oWi, .ref oPa, .ref oQu, .ref oSh, .int (nI hk), .int fl, .int ai, .int rn, .int rf, .int rt])), (oPa, .inl (G.2.1, 6, .inl pa))] (s_isp x y (nI hk) (pa x.toNatClampNeg)) := by
  refine RdI.of (own := RX2) (by decide) rfl (Nat.le_of_ble_eq_true rfl) (fun p e s m below meth c => ?_)
  refine v_aload_n dX2_isPane_0 rfl 0 rfl ?_
  refine v_iload_n dX2_isPane_1 rfl 1 rfl ?_
  refine v_vRd (As := [.int x]) (rest := []) (c_X2_isHatch l G o0 oFa oWi oPa oQu oSh hk fl ai rn rf rt x ) YX2_isHatch mX2_37 dX2_isPane_2 ciX2 0 rfl [0] rfl rfl rfl (Nat.le_of_ble_eq_true rfl) (by decide) (by decide) ?_
  refine v_if_eq (tgt := 26) dX2_isPane_5 (by decide) (fun h5 => ?_) (fun h5 => ?_)
  · skip
    refine v_iconst (v := 0) dX2_isPane_26 (by decide) ?_
    exact v_zretR dX2_isPane_27 (by simp only [s_isp, if_pos h5]) rfl
  · skip
    refine v_iload_n dX2_isPane_8 rfl 2 rfl ?_
    refine v_if_lt (tgt := 26) dX2_isPane_9 (by decide) (fun h9 => ?_) (fun h9 => ?_)
    · skip
      refine v_iconst (v := 0) dX2_isPane_26 (by decide) ?_
      exact v_zretR dX2_isPane_27 (by simp only [s_isp, if_neg h5, if_pos h9]) rfl
    · skip
      refine v_iload_n dX2_isPane_12 rfl 2 rfl ?_
      refine v_aload_n dX2_isPane_13 rfl 0 rfl ?_
      refine v_get fX2_18 dX2_isPane_14 0 rfl rfl ?_
      refine v_iload_n dX2_isPane_17 rfl 1 rfl ?_
      refine v_iald dX2_isPane_18 1 rfl x.toNatClampNeg ((s_ish_ix hk6 h5).1) (Nat.lt_of_lt_of_le (s_ish_ix hk6 h5).2 hk6) (by decide) ?_
      refine v_icmp_ge (tgt := 26) dX2_isPane_19 (by decide) (fun h19 => ?_) (fun h19 => ?_)
      · skip
        refine v_iconst (v := 0) dX2_isPane_26 (by decide) ?_
        exact v_zretR dX2_isPane_27 (by simp only [s_isp, if_neg h5, if_neg h9, if_pos h19]) rfl
      · skip
        refine v_iconst (v := 1) dX2_isPane_22 (by decide) ?_
        refine v_goto (tgt := 27) dX2_isPane_23 (by decide) ?_
        exact v_zretR dX2_isPane_27 (by simp only [s_isp, if_neg h5, if_neg h9, if_neg h19]) rfl

set_option maxRecDepth 100000 in
set_option maxHeartbeats 4000000 in
theorem c_X2_isLawless (l : Launch) (G : v_Cfg) (o0 : Nat) (oFa : Nat) (oWi : Nat) (oPa : Nat) (oQu : Nat) (oSh : Nat) (hk : Nat) (fl : Int32) (ai : Int32) (rn : Int32) (rf : Int32) (rt : Int32)  : RdI l G yX2_isLawless cX2_isLawless 1 (some .boolean) 0 [.ref o0] [(o0, .inr (2, [.ref oFa, .ref oWi, .ref oPa, .ref oQu, .ref oSh, .int (nI hk), .int fl, .int ai, .int rn, .int rf, .int rt]))] (s_law fl) := by
  refine RdI.of (own := RX2) (by decide) rfl (Nat.le_of_ble_eq_true rfl) (fun p e s m below meth c => ?_)
  refine v_aload_n dX2_isLawless_0 rfl 0 rfl ?_
  refine v_get fX2_27 dX2_isLawless_1 0 rfl rfl ?_
  refine v_sipush (v := 400) dX2_isLawless_4 (by decide) ?_
  refine v_icmp_le (tgt := 14) dX2_isLawless_7 (by decide) (fun h7 => ?_) (fun h7 => ?_)
  · skip
    refine v_iconst (v := 0) dX2_isLawless_14 (by decide) ?_
    exact v_zretR dX2_isLawless_15 (by simp only [s_law, if_pos h7]) rfl
  · skip
    refine v_iconst (v := 1) dX2_isLawless_10 (by decide) ?_
    refine v_goto (tgt := 15) dX2_isLawless_11 (by decide) ?_
    exact v_zretR dX2_isLawless_15 (by simp only [s_law, if_neg h7]) rfl

set_option maxRecDepth 100000 in
set_option maxHeartbeats 4000000 in
theorem c_X2_isOutOfTurn (l : Launch) (G : v_Cfg) (o0 : Nat) (oFa : Nat) (oWi : Nat) (oPa : Nat) (oQu : Nat) (oSh : Nat) (hk : Nat) (fl : Int32) (ai : Int32) (rn : Int32) (rf : Int32) (rt : Int32) (fa : Nat → Int32) (h : Nat) (x : Int32) (hh : h < 6) : RdI l G yX2_isOutOfTurn cX2_isOutOfTurn 4 (some .boolean) 1 [.ref o0, .int (nI h), .int x] [(o0, .inr (2, [.ref oFa, .ref oWi, .ref oPa, .ref oQu, .ref oSh, .int (nI hk), .int fl, .int ai, .int rn, .int rf, .int rt])), (oFa, .inl (G.2.1, 6, .inl fa))] (s_out (fa h) fl ai x) := by
  refine RdI.of (own := RX2) (by decide) rfl (Nat.le_of_ble_eq_true rfl) (fun p e s m below meth c => ?_)
  refine v_iload_n dX2_isOutOfTurn_0 rfl 2 rfl ?_
  refine v_bipush (v := 24) dX2_isOutOfTurn_1 (by decide) ?_
  refine v_idiv dX2_isOutOfTurn_3 (by decide) ?_
  refine v_iconst (v := 4) dX2_isOutOfTurn_4 (by decide) ?_
  refine v_irm dX2_isOutOfTurn_5 (by decide) ?_
  refine v_aload_n dX2_isOutOfTurn_6 rfl 0 rfl ?_
  refine v_get fX2_9 dX2_isOutOfTurn_7 0 rfl rfl ?_
  refine v_iload_n dX2_isOutOfTurn_10 rfl 1 rfl ?_
  refine v_iald dX2_isOutOfTurn_11 1 rfl h rfl (by omega) (by decide) ?_
  refine v_icmp_ne (tgt := 19) dX2_isOutOfTurn_12 (by decide) (fun h12 => ?_) (fun h12 => ?_)
  · skip
    refine v_iconst (v := 0) dX2_isOutOfTurn_19 (by decide) ?_
    refine v_istore_n (lv' := [(3, .int 0), (0, .ref o0), (1, .int (nI h)), (2, .int x)]) dX2_isOutOfTurn_20 rfl (by decide) rfl ?_
    refine v_iload_n dX2_isOutOfTurn_21 rfl 0 rfl ?_
    refine v_if_ne (tgt := 43) dX2_isOutOfTurn_22 (by decide) (fun h22 => absurd h22 (by decide)) (fun h22 => ?_)
    refine v_aload_n dX2_isOutOfTurn_25 rfl 1 rfl ?_
    refine v_get fX2_31 dX2_isOutOfTurn_26 0 rfl rfl ?_
    refine v_if_lt (tgt := 43) dX2_isOutOfTurn_29 (by decide) (fun h29 => ?_) (fun h29 => ?_)
    · skip
      refine v_iconst (v := 0) dX2_isOutOfTurn_43 (by decide) ?_
      exact v_zretR dX2_isOutOfTurn_44 (by simp only [s_out, if_neg h12, if_pos h29]) rfl
    · skip
      refine v_aload_n dX2_isOutOfTurn_32 rfl 1 rfl ?_
      refine v_vRd (As := []) (rest := []) (c_X2_isLawless l G o0 oFa oWi oPa oQu oSh hk fl ai rn rf rt ) YX2_isLawless mX2_41 dX2_isOutOfTurn_33 ciX2 0 rfl [0] rfl rfl rfl (Nat.le_of_ble_eq_true rfl) (by decide) (by decide) ?_
      refine v_if_ne (tgt := 43) dX2_isOutOfTurn_36 (by decide) (fun h36 => ?_) (fun h36 => ?_)
      · skip
        refine v_iconst (v := 0) dX2_isOutOfTurn_43 (by decide) ?_
        exact v_zretR dX2_isOutOfTurn_44 (by simp only [s_out, if_neg h12, if_neg h29, if_neg h36]) rfl
      · skip
        refine v_iconst (v := 1) dX2_isOutOfTurn_39 (by decide) ?_
        refine v_goto (tgt := 44) dX2_isOutOfTurn_40 (by decide) ?_
        exact v_zretR dX2_isOutOfTurn_44 (by simp only [s_out, if_neg h12, if_neg h29, if_pos h36]) rfl
  · skip
    refine v_iconst (v := 1) dX2_isOutOfTurn_15 (by decide) ?_
    refine v_goto (tgt := 20) dX2_isOutOfTurn_16 (by decide) ?_
    refine v_istore_n (lv' := [(3, .int 1), (0, .ref o0), (1, .int (nI h)), (2, .int x)]) dX2_isOutOfTurn_20 rfl (by decide) rfl ?_
    refine v_iload_n dX2_isOutOfTurn_21 rfl 0 rfl ?_
    refine v_if_ne (tgt := 43) dX2_isOutOfTurn_22 (by decide) (fun h22 => ?_) (fun h22 => absurd h22 (by decide))
    refine v_iconst (v := 0) dX2_isOutOfTurn_43 (by decide) ?_
    exact v_zretR dX2_isOutOfTurn_44 (by simp only [s_out, if_pos h12]) rfl

set_option maxRecDepth 100000 in
set_option maxHeartbeats 4000000 in
theorem c_X2_rightAt (l : Launch) (G : v_Cfg) (o0 : Nat) (oFa : Nat) (oWi : Nat) (oPa : Nat) (oQu : Nat) (oSh : Nat) (hk : Nat) (fl : Int32) (ai : Int32) (rn : Int32) (rf : Int32) (rt : Int32) (x : Int32)  : RdI l G yX2_rightAt cX2_rightAt 4 (some .int) 1 [.ref o0, .int x] [(o0, .inr (2, [.ref oFa, .ref oWi, .ref oPa, .ref oQu, .ref oSh, .int (nI hk), .int fl, .int ai, .int rn, .int rf, .int rt]))] (s_ra fl rn rf rt x) := by
  refine RdI.of (own := RX2) (by decide) rfl (Nat.le_of_ble_eq_true rfl) (fun p e s m below meth c => ?_)
  refine v_iload_n dX2_rightAt_0 rfl 1 rfl ?_
  refine v_bipush (v := 24) dX2_rightAt_1 (by decide) ?_
  refine v_irm dX2_rightAt_3 (by decide) ?_
  refine v_istore_n (lv' := [(2, .int (s_mod x 24)), (0, .ref o0), (1, .int x)]) dX2_rightAt_4 rfl (by decide) rfl ?_
  refine v_iload_n dX2_rightAt_5 rfl 0 rfl ?_
  refine v_aload_n dX2_rightAt_6 rfl 1 rfl ?_
  refine v_get fX2_45 dX2_rightAt_7 0 rfl rfl ?_
  refine v_icmp_lt (tgt := 32) dX2_rightAt_10 (by decide) (fun h10 => ?_) (fun h10 => ?_)
  · skip
    refine v_iconst (v := 0) dX2_rightAt_32 (by decide) ?_
    refine v_istore_n (lv' := [(3, .int 0), (2, .int (s_mod x 24)), (0, .ref o0), (1, .int x)]) dX2_rightAt_33 rfl (by decide) rfl ?_
    refine v_iload_n dX2_rightAt_34 rfl 0 rfl ?_
    refine v_if_eq (tgt := 45) dX2_rightAt_35 (by decide) (fun h35 => ?_) (fun h35 => absurd h35 (by decide))
    refine v_iconst (v := 0) dX2_rightAt_45 (by decide) ?_
    exact v_iretR dX2_rightAt_46 (by simp only [s_ra, if_pos h10])
  · skip
    refine v_iload_n dX2_rightAt_13 rfl 0 rfl ?_
    refine v_aload_n dX2_rightAt_14 rfl 1 rfl ?_
    refine v_get fX2_48 dX2_rightAt_15 0 rfl rfl ?_
    refine v_icmp_ge (tgt := 32) dX2_rightAt_18 (by decide) (fun h18 => ?_) (fun h18 => ?_)
    · skip
      refine v_iconst (v := 0) dX2_rightAt_32 (by decide) ?_
      refine v_istore_n (lv' := [(3, .int 0), (2, .int (s_mod x 24)), (0, .ref o0), (1, .int x)]) dX2_rightAt_33 rfl (by decide) rfl ?_
      refine v_iload_n dX2_rightAt_34 rfl 0 rfl ?_
      refine v_if_eq (tgt := 45) dX2_rightAt_35 (by decide) (fun h35 => ?_) (fun h35 => absurd h35 (by decide))
      refine v_iconst (v := 0) dX2_rightAt_45 (by decide) ?_
      exact v_iretR dX2_rightAt_46 (by simp only [s_ra, if_neg h10, if_pos h18])
    · skip
      refine v_aload_n dX2_rightAt_21 rfl 1 rfl ?_
      refine v_vRd (As := []) (rest := []) (c_X2_isLawless l G o0 oFa oWi oPa oQu oSh hk fl ai rn rf rt ) YX2_isLawless mX2_41 dX2_rightAt_22 ciX2 0 rfl [0] rfl rfl rfl (Nat.le_of_ble_eq_true rfl) (by decide) (by decide) ?_
      refine v_if_ne (tgt := 32) dX2_rightAt_25 (by decide) (fun h25 => ?_) (fun h25 => ?_)
      · skip
        refine v_iconst (v := 0) dX2_rightAt_32 (by decide) ?_
        refine v_istore_n (lv' := [(3, .int 0), (2, .int (s_mod x 24)), (0, .ref o0), (1, .int x)]) dX2_rightAt_33 rfl (by decide) rfl ?_
        refine v_iload_n dX2_rightAt_34 rfl 0 rfl ?_
        refine v_if_eq (tgt := 45) dX2_rightAt_35 (by decide) (fun h35 => ?_) (fun h35 => absurd h35 (by decide))
        refine v_iconst (v := 0) dX2_rightAt_45 (by decide) ?_
        exact v_iretR dX2_rightAt_46 (by simp only [s_ra, if_neg h10, if_neg h18, if_neg h25])
      · skip
        refine v_iconst (v := 1) dX2_rightAt_28 (by decide) ?_
        refine v_goto (tgt := 33) dX2_rightAt_29 (by decide) ?_
        refine v_istore_n (lv' := [(3, .int 1), (2, .int (s_mod x 24)), (0, .ref o0), (1, .int x)]) dX2_rightAt_33 rfl (by decide) rfl ?_
        refine v_iload_n dX2_rightAt_34 rfl 0 rfl ?_
        refine v_if_eq (tgt := 45) dX2_rightAt_35 (by decide) (fun h35 => absurd h35 (by decide)) (fun h35 => ?_)
        refine v_aload_n dX2_rightAt_38 rfl 2 rfl ?_
        refine v_get fX2_51 dX2_rightAt_39 0 rfl rfl ?_
        refine v_goto (tgt := 46) dX2_rightAt_42 (by decide) ?_
        exact v_iretR dX2_rightAt_46 (by simp only [s_ra, if_neg h10, if_neg h18, if_pos h25])

set_option maxRecDepth 100000 in
set_option maxHeartbeats 4000000 in
theorem c_X2_isGrazing (l : Launch) (G : v_Cfg) (o0 : Nat) (oFa : Nat) (oWi : Nat) (oPa : Nat) (oQu : Nat) (oSh : Nat) (hk : Nat) (fl : Int32) (ai : Int32) (rn : Int32) (rf : Int32) (rt : Int32) (x : Int32)  : RdI l G yX2_isGrazing cX2_isGrazing 2 (some .boolean) 1 [.ref o0, .int x] [(o0, .inr (2, [.ref oFa, .ref oWi, .ref oPa, .ref oQu, .ref oSh, .int (nI hk), .int fl, .int ai, .int rn, .int rf, .int rt]))] (s_gz x) := by
  refine RdI.of (own := RX2) (by decide) rfl (Nat.le_of_ble_eq_true rfl) (fun p e s m below meth c => ?_)
  refine v_iload_n dX2_isGrazing_0 rfl 1 rfl ?_
  refine v_bipush (v := 24) dX2_isGrazing_1 (by decide) ?_
  refine v_irm dX2_isGrazing_3 (by decide) ?_
  refine v_bipush (v := 6) dX2_isGrazing_4 (by decide) ?_
  refine v_bipush (v := 17) dX2_isGrazing_6 (by decide) ?_
  refine v_nRd (host := RX3) (As := [.int (s_mod x 24), .int 6, .int 17]) (rest := []) (c_X3_isWithin l G (s_mod x 24) 6 17 ) YX3_isWithin sisWithin (fun hL => hL.2.2) dX2_isGrazing_8 [] rfl rfl rfl (Nat.le_of_ble_eq_true rfl) (by decide) (by decide) ?_
  exact v_zretR dX2_isGrazing_11 rfl (s_in_nar _ _ _)

set_option maxRecDepth 100000 in
set_option maxHeartbeats 4000000 in
theorem c_X0_siltOf (l : Launch) (G : v_Cfg) (c0 : Nat) (o0 : Nat) (nv : Int32) (aCa : Nat) (aTk : Nat) (aGr : Nat) (aGo : Nat) (aWe : Nat) (aDr : Nat) (aEa : Nat) (br : Int32) (du : Int32) (mi : Int32) (am : Int32) (mb : Int32) (ca : Nat → Int32) (h : Nat) (hh : h < 6) : RdI l G yX0_siltOf cX0_siltOf 2 (some .int) 0 [.ref c0, .int (nI h)] [(c0, .inr (0, [.ref o0, .int nv, .ref aCa, .ref aTk, .ref aGr, .ref aGo, .ref aWe, .ref aDr, .ref aEa, .int br, .int du, .int mi, .int am, .int mb])), (aCa, .inl (G.2.1, 6, .inl ca))] (ca h / 100) := by
  refine RdI.of (own := RX0) (by decide) rfl (Nat.le_of_ble_eq_true rfl) (fun p e s m below meth c => ?_)
  refine v_aload_n dX0_siltOf_0 rfl 0 rfl ?_
  refine v_get fX0_9 dX0_siltOf_1 0 rfl rfl ?_
  refine v_iload_n dX0_siltOf_4 rfl 1 rfl ?_
  refine v_iald dX0_siltOf_5 1 rfl h rfl (by omega) (by decide) ?_
  refine v_bipush (v := 100) dX0_siltOf_6 (by decide) ?_
  refine v_idiv dX0_siltOf_8 (by decide) ?_
  exact v_iretR dX0_siltOf_9 rfl

set_option maxRecDepth 100000 in
set_option maxHeartbeats 4000000 in
theorem c_X0_mostOf (l : Launch) (G : v_Cfg) (c0 : Nat) (o0 : Nat) (nv : Int32) (aCa : Nat) (aTk : Nat) (aGr : Nat) (aGo : Nat) (aWe : Nat) (aDr : Nat) (aEa : Nat) (br : Int32) (du : Int32) (mi : Int32) (am : Int32) (mb : Int32) (oFa : Nat) (oWi : Nat) (oPa : Nat) (oQu : Nat) (oSh : Nat) (hk : Nat) (fl : Int32) (ai : Int32) (rn : Int32) (rf : Int32) (rt : Int32) (ca : Nat → Int32) (wi : Nat → Int32) (h : Nat) (hh : h < 6) : RdI l G yX0_mostOf cX0_mostOf 2 (some .int) 1 [.ref c0, .int (nI h)] [(c0, .inr (0, [.ref o0, .int nv, .ref aCa, .ref aTk, .ref aGr, .ref aGo, .ref aWe, .ref aDr, .ref aEa, .int br, .int du, .int mi, .int am, .int mb])), (aCa, .inl (G.2.1, 6, .inl ca)), (o0, .inr (2, [.ref oFa, .ref oWi, .ref oPa, .ref oQu, .ref oSh, .int (nI hk), .int fl, .int ai, .int rn, .int rf, .int rt])), (oWi, .inl (G.2.1, 6, .inl wi))] (s_most (wi h) (ca h)) := by
  refine RdI.of (own := RX0) (by decide) rfl (Nat.le_of_ble_eq_true rfl) (fun p e s m below meth c => ?_)
  refine v_iconst (v := 0) dX0_mostOf_0 (by decide) ?_
  refine v_aload_n dX0_mostOf_1 rfl 0 rfl ?_
  refine v_get fX0_33 dX0_mostOf_2 0 rfl rfl ?_
  refine v_get fX0_41 dX0_mostOf_5 2 rfl rfl ?_
  refine v_iload_n dX0_mostOf_8 rfl 1 rfl ?_
  refine v_iald dX0_mostOf_9 3 rfl h rfl (by omega) (by decide) ?_
  refine v_aload_n dX0_mostOf_10 rfl 0 rfl ?_
  refine v_iload_n dX0_mostOf_11 rfl 1 rfl ?_
  refine v_vRd (As := [.int (nI h)]) (rest := [.int (wi h), .int 0]) (c_X0_siltOf l G c0 o0 nv aCa aTk aGr aGo aWe aDr aEa br du mi am mb ca h (by omega)) YX0_siltOf mX0_46 dX0_mostOf_12 ciX0 0 rfl [0, 1] rfl rfl rfl (Nat.le_of_ble_eq_true rfl) (by decide) (by decide) ?_
  refine v_bipush (v := 10) dX0_mostOf_15 (by decide) ?_
  refine v_idiv dX0_mostOf_17 (by decide) ?_
  refine v_isub dX0_mostOf_18 ?_
  refine v_xmax mX0_50 dX0_mostOf_19 ⟨by decide, Nat.le_of_ble_eq_true rfl, by decide, by decide⟩ ?_
  exact v_iretR dX0_mostOf_22 rfl

set_option maxRecDepth 100000 in
set_option maxHeartbeats 4000000 in
theorem c_X0_isMillShort (l : Launch) (G : v_Cfg) (c0 : Nat) (o0 : Nat) (nv : Int32) (aCa : Nat) (aTk : Nat) (aGr : Nat) (aGo : Nat) (aWe : Nat) (aDr : Nat) (aEa : Nat) (br : Int32) (du : Int32) (mi : Int32) (am : Int32) (mb : Int32) (oFa : Nat) (oWi : Nat) (oPa : Nat) (oQu : Nat) (oSh : Nat) (hk : Nat) (fl : Int32) (ai : Int32) (rn : Int32) (rf : Int32) (rt : Int32) (x : Int32)  : RdI l G yX0_isMillShort cX0_isMillShort 2 (some .boolean) 2 [.ref c0, .int x] [(c0, .inr (0, [.ref o0, .int nv, .ref aCa, .ref aTk, .ref aGr, .ref aGo, .ref aWe, .ref aDr, .ref aEa, .int br, .int du, .int mi, .int am, .int mb])), (o0, .inr (2, [.ref oFa, .ref oWi, .ref oPa, .ref oQu, .ref oSh, .int (nI hk), .int fl, .int ai, .int rn, .int rf, .int rt]))] (s_short am (s_ra fl rn rf rt x)) := by
  refine RdI.of (own := RX0) (by decide) rfl (Nat.le_of_ble_eq_true rfl) (fun p e s m below meth c => ?_)
  refine v_aload_n dX0_isMillShort_0 rfl 0 rfl ?_
  refine v_get fX0_75 dX0_isMillShort_1 0 rfl rfl ?_
  refine v_aload_n dX0_isMillShort_4 rfl 0 rfl ?_
  refine v_get fX0_33 dX0_isMillShort_5 0 rfl rfl ?_
  refine v_iload_n dX0_isMillShort_8 rfl 1 rfl ?_
  refine v_vRd (As := [.int x]) (rest := [.int am]) (c_X2_rightAt l G o0 oFa oWi oPa oQu oSh hk fl ai rn rf rt x ) YX2_rightAt mX0_88 dX0_isMillShort_9 ciX2 1 rfl [1] rfl rfl rfl (Nat.le_of_ble_eq_true rfl) (by decide) (by decide) ?_
  refine v_icmp_ge (tgt := 19) dX0_isMillShort_12 (by decide) (fun h12 => ?_) (fun h12 => ?_)
  · skip
    refine v_iconst (v := 0) dX0_isMillShort_19 (by decide) ?_
    exact v_zretR dX0_isMillShort_20 (by simp only [s_short, if_pos h12]) rfl
  · skip
    refine v_iconst (v := 1) dX0_isMillShort_15 (by decide) ?_
    refine v_goto (tgt := 20) dX0_isMillShort_16 (by decide) ?_
    exact v_zretR dX0_isMillShort_20 (by simp only [s_short, if_neg h12]) rfl
end
section
/-! ===== the carrier, the panes, one hour of a course ===== -/
section VX2
variable {p : Program} {l : Launch} {e : Env} {R : Room} {s : State} {m : MethodId} {args : Array Value} {below : List Frame} {meth : Method} {c : Code} {Q : State → Prop} {G : v_Cfg} {I : va_W → Heap → List Loc → Prop} {cc : ByteArray} {own : String} {nL : Nat} {ret : Option FieldType} {ws : va_W} {k n : Nat} {lv lv' : List (Nat × Value)} {pc : Nat} {st : List Value}
theorem v_lveq (h : lv = lv') (kk : V p l e R s m args below meth c Q G I cc own nL ret ws k n lv' pc st) : V p l e R s m args below meth c Q G I cc own nL ret ws k n lv pc st := h ▸ kk
end VX2
theorem v_l1 {α : Type} (f : α → List (Nat × Value)) {a b : α} (h : a = b) : f a = f b := by rw [h]
theorem v_l2 {α β : Type} (f : α → β → List (Nat × Value)) {a a' : α} {b b' : β} (h : a = a') (h2 : b = b') : f a b = f a' b' := by rw [h, h2]
theorem v_l3 {α β γ : Type} (f : α → β → γ → List (Nat × Value)) {a a' : α} {b b' : β} {c c' : γ} (h : a = a') (h2 : b = b') (h3 : c = c') : f a b c = f a' b' c' := by rw [h, h2, h3]
def pN (pn : Nat → Nat) : Nat → Int32 := fun j => nI (pn j)
def s_q (nv h q : Int32) : Int32 := if h = nv then 0 else q
def s_take (nv h w q wi ca : Int32) : Int32 := s_min (w * s_q nv h q / 4) (s_most wi ca)
def s_warm (ai g : Int32) : Int32 := if g ≤ 0 then ai else s_max ai 4
def s_grow (ai g x : Int32) : Int32 := if s_warm ai g ≤ 2 then (if 0 ≤ s_warm ai g then x else s_max 0 (x - 1)) else s_min 5000 (x + s_warm ai g - 2)
def s_wet (g x : Int32) : Int32 := if g ≤ 0 then x else x + 1
def s_bite (gz sh x : Int32) : Int32 := if gz = 0 then 0 else s_min sh x
def s_own (t m q : Int32) : Int32 := if s_mod t m ≤ q then t / m else t / m + 1
def s_sips (t m : Int32) : Nat → Int32
  | 0 => 0
  | p + 1 => s_sips t m p + s_min (s_own t m (nI p)) 3
/-- f, but g from a on, n places -/
def s_rng (a n : Nat) (f g : Nat → Int32) : Nat → Int32 := fun j => if a ≤ j ∧ j < a + n then g j else f j
theorem s_rng_0 (a : Nat) (f g : Nat → Int32) : f = s_rng a 0 f g := by
  funext j; unfold s_rng; rw [if_neg (by omega)]
theorem s_rng_at (a n : Nat) (f g : Nat → Int32) : s_rng a n f g (a + n) = f (a + n) := by
  unfold s_rng; rw [if_neg (by omega)]
theorem s_rng_succ {a n : Nat} {f g : Nat → Int32} {x : Int32} (h : x = g (a + n)) : upd (s_rng a n f g) (a + n) x = s_rng a (n + 1) f g := by
  funext j
  unfold upd s_rng
  by_cases hj : j = a + n
  · rw [if_pos hj, if_pos (by omega), hj, h]
  · rw [if_neg hj]
    by_cases h2 : a ≤ j ∧ j < a + n
    · rw [if_pos h2, if_pos (by omega)]
    · rw [if_neg h2, if_neg (by omega)]
theorem upd_upd (f : Nat → Int32) (k : Nat) (x y : Int32) : upd (upd f k x) k y = upd f k y := by
  funext j; unfold upd; split <;> rfl
def s_gotF (h : Nat) (t m : Int32) : Nat → Int32 := fun j => s_own t m (nI (j - 4 * h))
def s_drF (h : Nat) (t m : Int32) (dr : Nat → Int32) : Nat → Int32 := fun j => dr j + s_min (s_own t m (nI (j - 4 * h))) 3
def s_weF (go we : Nat → Int32) : Nat → Int32 := fun j => s_wet (go j) (we j)
def s_grF (ai gz : Int32) (go sh gr : Nat → Int32) : Nat → Int32 := fun j => s_grow ai (go j) (gr j) - s_bite gz (sh j) (s_grow ai (go j) (gr j))
def s_eaF (ai gz : Int32) (go sh gr ea : Nat → Int32) : Nat → Int32 := fun j => ea j + s_bite gz (sh j) (s_grow ai (go j) (gr j))

set_option maxRecDepth 100000 in
set_option maxHeartbeats 4000000 in
theorem c_X0_takeIn (l : Launch) (G : v_Cfg) (c0 : Nat) (o0 : Nat) (nv : Int32) (aCa : Nat) (aTk : Nat) (aGr : Nat) (aGo : Nat) (aWe : Nat) (aDr : Nat) (aEa : Nat) (br : Int32) (du : Int32) (mi : Int32) (am : Int32) (mb : Int32) (oFa : Nat) (oWi : Nat) (oPa : Nat) (oQu : Nat) (oSh : Nat) (hk : Nat) (fl : Int32) (ai : Int32) (rn : Int32) (rf : Int32) (rt : Int32) (ca : Nat → Int32) (tk : Nat → Int32) (wi : Nat → Int32) (qu : Nat → Int32) (h : Nat) (w : Int32) (hh : h < 6) : MuV l G yX0_takeIn cX0_takeIn 4 none 2 [.ref c0, .int (nI h), .int w] [(c0, .inr (0, [.ref o0, .int nv, .ref aCa, .ref aTk, .ref aGr, .ref aGo, .ref aWe, .ref aDr, .ref aEa, .int br, .int du, .int mi, .int am, .int mb])), (aCa, .inl (G.2.1, 6, .inl ca)), (aTk, .inl (G.2.1, 6, .inl tk)), (o0, .inr (2, [.ref oFa, .ref oWi, .ref oPa, .ref oQu, .ref oSh, .int (nI hk), .int fl, .int ai, .int rn, .int rf, .int rt])), (oWi, .inl (G.2.1, 6, .inl wi)), (oQu, .inl (G.2.1, 6, .inl qu))] [(c0, .inr (0, [.ref o0, .int nv, .ref aCa, .ref aTk, .ref aGr, .ref aGo, .ref aWe, .ref aDr, .ref aEa, .int br, .int du, .int mi, .int am, .int mb])), (aCa, .inl (G.2.1, 6, .inl (upd ca h (ca h + s_take nv (nI h) w (qu h) (wi h) (ca h))))), (aTk, .inl (G.2.1, 6, .inl (upd tk h (s_take nv (nI h) w (qu h) (wi h) (ca h))))), (o0, .inr (2, [.ref oFa, .ref oWi, .ref oPa, .ref oQu, .ref oSh, .int (nI hk), .int fl, .int ai, .int rn, .int rf, .int rt])), (oWi, .inl (G.2.1, 6, .inl wi)), (oQu, .inl (G.2.1, 6, .inl qu))] := by
  refine MuV.of (own := RX0) (by decide) rfl (Nat.le_of_ble_eq_true rfl) (fun p e s m below meth c => ?_)
  refine v_iload_n dX0_takeIn_0 rfl 1 rfl ?_
  refine v_aload_n dX0_takeIn_1 rfl 0 rfl ?_
  refine v_get fX0_37 dX0_takeIn_2 0 rfl rfl ?_
  refine v_icmp_ne (tgt := 12) dX0_takeIn_5 (by decide) (fun h5 => ?_) (fun h5 => ?_)
  · skip
    refine v_aload_n dX0_takeIn_12 rfl 0 rfl ?_
    refine v_get fX0_33 dX0_takeIn_13 0 rfl rfl ?_
    refine v_get fX0_100 dX0_takeIn_16 3 rfl rfl ?_
    refine v_iload_n dX0_takeIn_19 rfl 1 rfl ?_
    refine v_iald dX0_takeIn_20 5 rfl h rfl (by omega) (by decide) ?_
    refine v_istore_n (lv' := [(3, .int (qu h)), (0, .ref c0), (1, .int (nI h)), (2, .int w)]) dX0_takeIn_21 rfl (by decide) rfl ?_
    refine v_aload_n dX0_takeIn_22 rfl 1 rfl ?_
    refine v_get fX0_15 dX0_takeIn_23 0 rfl rfl ?_
    refine v_iload_n dX0_takeIn_26 rfl 2 rfl ?_
    refine v_iload_n dX0_takeIn_27 rfl 3 rfl ?_
    refine v_iload_n dX0_takeIn_28 rfl 0 rfl ?_
    refine v_imul dX0_takeIn_29 ?_
    refine v_iconst (v := 4) dX0_takeIn_30 (by decide) ?_
    refine v_idiv dX0_takeIn_31 (by decide) ?_
    refine v_aload_n dX0_takeIn_32 rfl 1 rfl ?_
    refine v_iload_n dX0_takeIn_33 rfl 2 rfl ?_
    refine v_vRd (As := [.int (nI h)]) (rest := [.int ((w * (qu h)) / 4), .int (nI h), .ref aTk]) (c_X0_mostOf l G c0 o0 nv aCa aTk aGr aGo aWe aDr aEa br du mi am mb oFa oWi oPa oQu oSh hk fl ai rn rf rt ca wi h (by omega)) YX0_mostOf mX0_103 dX0_takeIn_34 ciX0 0 rfl [0, 1, 3, 4] rfl rfl rfl (Nat.le_of_ble_eq_true rfl) (by decide) (by decide) ?_
    refine v_xmin mX0_106 dX0_takeIn_37 ⟨by decide, Nat.le_of_ble_eq_true rfl, by decide, by decide⟩ ?_
    refine v_iast (ws' := [(c0, .inr (0, [.ref o0, .int nv, .ref aCa, .ref aTk, .ref aGr, .ref aGo, .ref aWe, .ref aDr, .ref aEa, .int br, .int du, .int mi, .int am, .int mb])), (aCa, .inl (G.2.1, 6, .inl ca)), (aTk, .inl (G.2.1, 6, .inl (upd tk h (s_min ((w * (qu h)) / 4) (s_most (wi h) (ca h)))))), (o0, .inr (2, [.ref oFa, .ref oWi, .ref oPa, .ref oQu, .ref oSh, .int (nI hk), .int fl, .int ai, .int rn, .int rf, .int rt])), (oWi, .inl (G.2.1, 6, .inl wi)), (oQu, .inl (G.2.1, 6, .inl qu))]) dX0_takeIn_40 2 rfl h rfl (by omega) (by decide) rfl ?_
    refine v_aload_n dX0_takeIn_41 rfl 1 rfl ?_
    refine v_get fX0_9 dX0_takeIn_42 0 rfl rfl ?_
    refine v_iload_n dX0_takeIn_45 rfl 2 rfl ?_
    refine v_dup2 dX0_takeIn_46 rfl rfl ?_
    refine v_iald dX0_takeIn_47 1 rfl h rfl (by omega) (by decide) ?_
    refine v_aload_n dX0_takeIn_48 rfl 1 rfl ?_
    refine v_get fX0_15 dX0_takeIn_49 0 rfl rfl ?_
    refine v_iload_n dX0_takeIn_52 rfl 2 rfl ?_
    refine v_iald dX0_takeIn_53 2 rfl h rfl (by omega) (by decide) ?_
    refine v_eqi (s_min ((w * (qu h)) / 4) (s_most (wi h) (ca h))) pk_us ?_
    refine v_iadd dX0_takeIn_54 ?_
    refine v_iast (ws' := [(c0, .inr (0, [.ref o0, .int nv, .ref aCa, .ref aTk, .ref aGr, .ref aGo, .ref aWe, .ref aDr, .ref aEa, .int br, .int du, .int mi, .int am, .int mb])), (aCa, .inl (G.2.1, 6, .inl (upd ca h ((ca h) + (s_min ((w * (qu h)) / 4) (s_most (wi h) (ca h))))))), (aTk, .inl (G.2.1, 6, .inl (upd tk h (s_min ((w * (qu h)) / 4) (s_most (wi h) (ca h)))))), (o0, .inr (2, [.ref oFa, .ref oWi, .ref oPa, .ref oQu, .ref oSh, .int (nI hk), .int fl, .int ai, .int rn, .int rf, .int rt])), (oWi, .inl (G.2.1, 6, .inl wi)), (oQu, .inl (G.2.1, 6, .inl qu))]) dX0_takeIn_55 1 rfl h rfl (by omega) (by decide) rfl ?_
    exact v_vretM dX0_takeIn_56 (v_w2 (fun (z0 : Nat → Int32) (z1 : Nat → Int32) => ([(c0, .inr (0, [.ref o0, .int nv, .ref aCa, .ref aTk, .ref aGr, .ref aGo, .ref aWe, .ref aDr, .ref aEa, .int br, .int du, .int mi, .int am, .int mb])), (aCa, .inl (G.2.1, 6, .inl z0)), (aTk, .inl (G.2.1, 6, .inl z1)), (o0, .inr (2, [.ref oFa, .ref oWi, .ref oPa, .ref oQu, .ref oSh, .int (nI hk), .int fl, .int ai, .int rn, .int rf, .int rt])), (oWi, .inl (G.2.1, 6, .inl wi)), (oQu, .inl (G.2.1, 6, .inl qu))] : va_W)) (by simp only [s_take, s_q, if_neg h5, u_id]) (by simp only [s_take, s_q, if_neg h5, u_id]))
  · skip
    refine v_iconst (v := 0) dX0_takeIn_8 (by decide) ?_
    refine v_goto (tgt := 21) dX0_takeIn_9 (by decide) ?_
    refine v_istore_n (lv' := [(3, .int 0), (0, .ref c0), (1, .int (nI h)), (2, .int w)]) dX0_takeIn_21 rfl (by decide) rfl ?_
    refine v_aload_n dX0_takeIn_22 rfl 1 rfl ?_
    refine v_get fX0_15 dX0_takeIn_23 0 rfl rfl ?_
    refine v_iload_n dX0_takeIn_26 rfl 2 rfl ?_
    refine v_iload_n dX0_takeIn_27 rfl 3 rfl ?_
    refine v_iload_n dX0_takeIn_28 rfl 0 rfl ?_
    refine v_imul dX0_takeIn_29 ?_
    refine v_iconst (v := 4) dX0_takeIn_30 (by decide) ?_
    refine v_idiv dX0_takeIn_31 (by decide) ?_
    refine v_aload_n dX0_takeIn_32 rfl 1 rfl ?_
    refine v_iload_n dX0_takeIn_33 rfl 2 rfl ?_
    refine v_vRd (As := [.int (nI h)]) (rest := [.int ((w * 0) / 4), .int (nI h), .ref aTk]) (c_X0_mostOf l G c0 o0 nv aCa aTk aGr aGo aWe aDr aEa br du mi am mb oFa oWi oPa oQu oSh hk fl ai rn rf rt ca wi h (by omega)) YX0_mostOf mX0_103 dX0_takeIn_34 ciX0 0 rfl [0, 1, 3, 4] rfl rfl rfl (Nat.le_of_ble_eq_true rfl) (by decide) (by decide) ?_
    refine v_xmin mX0_106 dX0_takeIn_37 ⟨by decide, Nat.le_of_ble_eq_true rfl, by decide, by decide⟩ ?_
    refine v_iast (ws' := [(c0, .inr (0, [.ref o0, .int nv, .ref aCa, .ref aTk, .ref aGr, .ref aGo, .ref aWe, .ref aDr, .ref aEa, .int br, .int du, .int mi, .int am, .int mb])), (aCa, .inl (G.2.1, 6, .inl ca)), (aTk, .inl (G.2.1, 6, .inl (upd tk h (s_min ((w * 0) / 4) (s_most (wi h) (ca h)))))), (o0, .inr (2, [.ref oFa, .ref oWi, .ref oPa, .ref oQu, .ref oSh, .int (nI hk), .int fl, .int ai, .int rn, .int rf, .int rt])), (oWi, .inl (G.2.1, 6, .inl wi)), (oQu, .inl (G.2.1, 6, .inl qu))]) dX0_takeIn_40 2 rfl h rfl (by omega) (by decide) rfl ?_
    refine v_aload_n dX0_takeIn_41 rfl 1 rfl ?_
    refine v_get fX0_9 dX0_takeIn_42 0 rfl rfl ?_
    refine v_iload_n dX0_takeIn_45 rfl 2 rfl ?_
    refine v_dup2 dX0_takeIn_46 rfl rfl ?_
    refine v_iald dX0_takeIn_47 1 rfl h rfl (by omega) (by decide) ?_
    refine v_aload_n dX0_takeIn_48 rfl 1 rfl ?_
    refine v_get fX0_15 dX0_takeIn_49 0 rfl rfl ?_
    refine v_iload_n dX0_takeIn_52 rfl 2 rfl ?_
    refine v_iald dX0_takeIn_53 2 rfl h rfl (by omega) (by decide) ?_
    refine v_eqi (s_min ((w * 0) / 4) (s_most (wi h) (ca h))) pk_us ?_
    refine v_iadd dX0_takeIn_54 ?_
    refine v_iast (ws' := [(c0, .inr (0, [.ref o0, .int nv, .ref aCa, .ref aTk, .ref aGr, .ref aGo, .ref aWe, .ref aDr, .ref aEa, .int br, .int du, .int mi, .int am, .int mb])), (aCa, .inl (G.2.1, 6, .inl (upd ca h ((ca h) + (s_min ((w * 0) / 4) (s_most (wi h) (ca h))))))), (aTk, .inl (G.2.1, 6, .inl (upd tk h (s_min ((w * 0) / 4) (s_most (wi h) (ca h)))))), (o0, .inr (2, [.ref oFa, .ref oWi, .ref oPa, .ref oQu, .ref oSh, .int (nI hk), .int fl, .int ai, .int rn, .int rf, .int rt])), (oWi, .inl (G.2.1, 6, .inl wi)), (oQu, .inl (G.2.1, 6, .inl qu))]) dX0_takeIn_55 1 rfl h rfl (by omega) (by decide) rfl ?_
    exact v_vretM dX0_takeIn_56 (v_w2 (fun (z0 : Nat → Int32) (z1 : Nat → Int32) => ([(c0, .inr (0, [.ref o0, .int nv, .ref aCa, .ref aTk, .ref aGr, .ref aGo, .ref aWe, .ref aDr, .ref aEa, .int br, .int du, .int mi, .int am, .int mb])), (aCa, .inl (G.2.1, 6, .inl z0)), (aTk, .inl (G.2.1, 6, .inl z1)), (o0, .inr (2, [.ref oFa, .ref oWi, .ref oPa, .ref oQu, .ref oSh, .int (nI hk), .int fl, .int ai, .int rn, .int rf, .int rt])), (oWi, .inl (G.2.1, 6, .inl wi)), (oQu, .inl (G.2.1, 6, .inl qu))] : va_W)) (by simp only [s_take, s_q, if_pos h5, u_id]) (by simp only [s_take, s_q, if_pos h5, u_id]))

set_option maxRecDepth 100000 in
set_option maxHeartbeats 4000000 in
theorem c_X0_growGrass (l : Launch) (G : v_Cfg) (c0 : Nat) (o0 : Nat) (nv : Int32) (aCa : Nat) (aTk : Nat) (aGr : Nat) (aGo : Nat) (aWe : Nat) (aDr : Nat) (aEa : Nat) (br : Int32) (du : Int32) (mi : Int32) (am : Int32) (mb : Int32) (oFa : Nat) (oWi : Nat) (oPa : Nat) (oQu : Nat) (oSh : Nat) (hk : Nat) (fl : Int32) (ai : Int32) (rn : Int32) (rf : Int32) (rt : Int32) (gr : Nat → Int32) (go : Nat → Int32) (we : Nat → Int32) (j : Nat) (hj : j < 24) : MuV l G yX0_growGrass cX0_growGrass 4 none 1 [.ref c0, .int (nI j)] [(c0, .inr (0, [.ref o0, .int nv, .ref aCa, .ref aTk, .ref aGr, .ref aGo, .ref aWe, .ref aDr, .ref aEa, .int br, .int du, .int mi, .int am, .int mb])), (aGr, .inl (G.2.1, 24, .inl gr)), (aGo, .inl (G.2.1, 24, .inl go)), (aWe, .inl (G.2.1, 24, .inl we)), (o0, .inr (2, [.ref oFa, .ref oWi, .ref oPa, .ref oQu, .ref oSh, .int (nI hk), .int fl, .int ai, .int rn, .int rf, .int rt]))] [(c0, .inr (0, [.ref o0, .int nv, .ref aCa, .ref aTk, .ref aGr, .ref aGo, .ref aWe, .ref aDr, .ref aEa, .int br, .int du, .int mi, .int am, .int mb])), (aGr, .inl (G.2.1, 24, .inl (upd gr j (s_grow ai (go j) (gr j))))), (aGo, .inl (G.2.1, 24, .inl go)), (aWe, .inl (G.2.1, 24, .inl (upd we j (s_wet (go j) (we j))))), (o0, .inr (2, [.ref oFa, .ref oWi, .ref oPa, .ref oQu, .ref oSh, .int (nI hk), .int fl, .int ai, .int rn, .int rf, .int rt]))] := by
  refine MuV.of (own := RX0) (by decide) rfl (Nat.le_of_ble_eq_true rfl) (fun p e s m below meth c => ?_)
  refine v_aload_n dX0_growGrass_0 rfl 0 rfl ?_
  refine v_get fX0_21 dX0_growGrass_1 0 rfl rfl ?_
  refine v_iload_n dX0_growGrass_4 rfl 1 rfl ?_
  refine v_iald dX0_growGrass_5 2 rfl j rfl (by omega) (by decide) ?_
  refine v_if_le (tgt := 13) dX0_growGrass_6 (by decide) (fun h6 => ?_) (fun h6 => ?_)
  · skip
    refine v_iconst (v := 0) dX0_growGrass_13 (by decide) ?_
    refine v_istore_n (lv' := [(2, .int 0), (0, .ref c0), (1, .int (nI j))]) dX0_growGrass_14 rfl (by decide) rfl ?_
    refine v_iload_n dX0_growGrass_15 rfl 0 rfl ?_
    refine v_if_eq (tgt := 29) dX0_growGrass_16 (by decide) (fun h16 => ?_) (fun h16 => absurd h16 (by decide))
    refine v_iload_n dX0_growGrass_29 rfl 0 rfl ?_
    refine v_if_eq (tgt := 47) dX0_growGrass_30 (by decide) (fun h30 => ?_) (fun h30 => absurd h30 (by decide))
    refine v_aload_n dX0_growGrass_47 rfl 1 rfl ?_
    refine v_get fX0_33 dX0_growGrass_48 0 rfl rfl ?_
    refine v_get fX0_122 dX0_growGrass_51 4 rfl rfl ?_
    refine v_eqi (s_warm ai (go j)) (by simp only [s_warm, if_pos h6]) ?_
    refine v_istore_n (lv' := [(3, .int (s_warm ai (go j))), (2, .int 0), (0, .ref c0), (1, .int (nI j))]) dX0_growGrass_54 rfl (by decide) rfl ?_
    refine v_iload_n dX0_growGrass_55 rfl 0 rfl ?_
    refine v_iconst (v := 2) dX0_growGrass_56 (by decide) ?_
    refine v_icmp_le (tgt := 85) dX0_growGrass_57 (by decide) (fun h57 => ?_) (fun h57 => ?_)
    · skip
      refine v_iload_n dX0_growGrass_85 rfl 0 rfl ?_
      refine v_if_ge (tgt := 107) dX0_growGrass_86 (by decide) (fun h86 => ?_) (fun h86 => ?_)
      · skip
        exact v_vretM dX0_growGrass_107 (v_w2 (fun (z0 : Nat → Int32) (z1 : Nat → Int32) => ([(c0, .inr (0, [.ref o0, .int nv, .ref aCa, .ref aTk, .ref aGr, .ref aGo, .ref aWe, .ref aDr, .ref aEa, .int br, .int du, .int mi, .int am, .int mb])), (aGr, .inl (G.2.1, 24, .inl z0)), (aGo, .inl (G.2.1, 24, .inl go)), (aWe, .inl (G.2.1, 24, .inl z1)), (o0, .inr (2, [.ref oFa, .ref oWi, .ref oPa, .ref oQu, .ref oSh, .int (nI hk), .int fl, .int ai, .int rn, .int rf, .int rt]))] : va_W)) (by simp only [s_grow, s_wet, if_pos h6, if_pos h57, if_pos h86, u_id]) (by simp only [s_grow, s_wet, if_pos h6, if_pos h57, if_pos h86, u_id]))
      · skip
        refine v_aload_n dX0_growGrass_89 rfl 2 rfl ?_
        refine v_get fX0_18 dX0_growGrass_90 0 rfl rfl ?_
        refine v_iload_n dX0_growGrass_93 rfl 3 rfl ?_
        refine v_iconst (v := 0) dX0_growGrass_94 (by decide) ?_
        refine v_aload_n dX0_growGrass_95 rfl 2 rfl ?_
        refine v_get fX0_18 dX0_growGrass_96 0 rfl rfl ?_
        refine v_iload_n dX0_growGrass_99 rfl 3 rfl ?_
        refine v_iald dX0_growGrass_100 1 rfl j rfl (by omega) (by decide) ?_
        refine v_iconst (v := 1) dX0_growGrass_101 (by decide) ?_
        refine v_isub dX0_growGrass_102 ?_
        refine v_xmax mX0_50 dX0_growGrass_103 ⟨by decide, Nat.le_of_ble_eq_true rfl, by decide, by decide⟩ ?_
        refine v_iast (ws' := [(c0, .inr (0, [.ref o0, .int nv, .ref aCa, .ref aTk, .ref aGr, .ref aGo, .ref aWe, .ref aDr, .ref aEa, .int br, .int du, .int mi, .int am, .int mb])), (aGr, .inl (G.2.1, 24, .inl (upd gr j (s_max 0 ((gr j) - 1))))), (aGo, .inl (G.2.1, 24, .inl go)), (aWe, .inl (G.2.1, 24, .inl we)), (o0, .inr (2, [.ref oFa, .ref oWi, .ref oPa, .ref oQu, .ref oSh, .int (nI hk), .int fl, .int ai, .int rn, .int rf, .int rt]))]) dX0_growGrass_106 1 rfl j rfl (by omega) (by decide) rfl ?_
        exact v_vretM dX0_growGrass_107 (v_w2 (fun (z0 : Nat → Int32) (z1 : Nat → Int32) => ([(c0, .inr (0, [.ref o0, .int nv, .ref aCa, .ref aTk, .ref aGr, .ref aGo, .ref aWe, .ref aDr, .ref aEa, .int br, .int du, .int mi, .int am, .int mb])), (aGr, .inl (G.2.1, 24, .inl z0)), (aGo, .inl (G.2.1, 24, .inl go)), (aWe, .inl (G.2.1, 24, .inl z1)), (o0, .inr (2, [.ref oFa, .ref oWi, .ref oPa, .ref oQu, .ref oSh, .int (nI hk), .int fl, .int ai, .int rn, .int rf, .int rt]))] : va_W)) (by simp only [s_grow, s_wet, if_pos h6, if_pos h57, if_neg h86, u_id]) (by simp only [s_grow, s_wet, if_pos h6, if_pos h57, if_neg h86, u_id]))
    · skip
      refine v_aload_n dX0_growGrass_60 rfl 2 rfl ?_
      refine v_get fX0_18 dX0_growGrass_61 0 rfl rfl ?_
      refine v_iload_n dX0_growGrass_64 rfl 3 rfl ?_
      refine v_sipush (v := 5000) dX0_growGrass_65 (by decide) ?_
      refine v_aload_n dX0_growGrass_68 rfl 2 rfl ?_
      refine v_get fX0_18 dX0_growGrass_69 0 rfl rfl ?_
      refine v_iload_n dX0_growGrass_72 rfl 3 rfl ?_
      refine v_iald dX0_growGrass_73 1 rfl j rfl (by omega) (by decide) ?_
      refine v_iload_n dX0_growGrass_74 rfl 0 rfl ?_
      refine v_iadd dX0_growGrass_75 ?_
      refine v_iconst (v := 2) dX0_growGrass_76 (by decide) ?_
      refine v_isub dX0_growGrass_77 ?_
      refine v_xmin mX0_106 dX0_growGrass_78 ⟨by decide, Nat.le_of_ble_eq_true rfl, by decide, by decide⟩ ?_
      refine v_iast (ws' := [(c0, .inr (0, [.ref o0, .int nv, .ref aCa, .ref aTk, .ref aGr, .ref aGo, .ref aWe, .ref aDr, .ref aEa, .int br, .int du, .int mi, .int am, .int mb])), (aGr, .inl (G.2.1, 24, .inl (upd gr j (s_min 5000 (((gr j) + (s_warm ai (go j))) - 2))))), (aGo, .inl (G.2.1, 24, .inl go)), (aWe, .inl (G.2.1, 24, .inl we)), (o0, .inr (2, [.ref oFa, .ref oWi, .ref oPa, .ref oQu, .ref oSh, .int (nI hk), .int fl, .int ai, .int rn, .int rf, .int rt]))]) dX0_growGrass_81 1 rfl j rfl (by omega) (by decide) rfl ?_
      refine v_goto (tgt := 107) dX0_growGrass_82 (by decide) ?_
      exact v_vretM dX0_growGrass_107 (v_w2 (fun (z0 : Nat → Int32) (z1 : Nat → Int32) => ([(c0, .inr (0, [.ref o0, .int nv, .ref aCa, .ref aTk, .ref aGr, .ref aGo, .ref aWe, .ref aDr, .ref aEa, .int br, .int du, .int mi, .int am, .int mb])), (aGr, .inl (G.2.1, 24, .inl z0)), (aGo, .inl (G.2.1, 24, .inl go)), (aWe, .inl (G.2.1, 24, .inl z1)), (o0, .inr (2, [.ref oFa, .ref oWi, .ref oPa, .ref oQu, .ref oSh, .int (nI hk), .int fl, .int ai, .int rn, .int rf, .int rt]))] : va_W)) (by simp only [s_grow, s_wet, if_pos h6, if_neg h57, u_id]) (by simp only [s_grow, s_wet, if_pos h6, if_neg h57, u_id]))
  · skip
    refine v_iconst (v := 1) dX0_growGrass_9 (by decide) ?_
    refine v_goto (tgt := 14) dX0_growGrass_10 (by decide) ?_
    refine v_istore_n (lv' := [(2, .int 1), (0, .ref c0), (1, .int (nI j))]) dX0_growGrass_14 rfl (by decide) rfl ?_
    refine v_iload_n dX0_growGrass_15 rfl 0 rfl ?_
    refine v_if_eq (tgt := 29) dX0_growGrass_16 (by decide) (fun h16 => absurd h16 (by decide)) (fun h16 => ?_)
    refine v_aload_n dX0_growGrass_19 rfl 1 rfl ?_
    refine v_get fX0_24 dX0_growGrass_20 0 rfl rfl ?_
    refine v_iload_n dX0_growGrass_23 rfl 2 rfl ?_
    refine v_dup2 dX0_growGrass_24 rfl rfl ?_
    refine v_iald dX0_growGrass_25 3 rfl j rfl (by omega) (by decide) ?_
    refine v_iconst (v := 1) dX0_growGrass_26 (by decide) ?_
    refine v_iadd dX0_growGrass_27 ?_
    refine v_iast (ws' := [(c0, .inr (0, [.ref o0, .int nv, .ref aCa, .ref aTk, .ref aGr, .ref aGo, .ref aWe, .ref aDr, .ref aEa, .int br, .int du, .int mi, .int am, .int mb])), (aGr, .inl (G.2.1, 24, .inl gr)), (aGo, .inl (G.2.1, 24, .inl go)), (aWe, .inl (G.2.1, 24, .inl (upd we j ((we j) + 1)))), (o0, .inr (2, [.ref oFa, .ref oWi, .ref oPa, .ref oQu, .ref oSh, .int (nI hk), .int fl, .int ai, .int rn, .int rf, .int rt]))]) dX0_growGrass_28 3 rfl j rfl (by omega) (by decide) rfl ?_
    refine v_iload_n dX0_growGrass_29 rfl 0 rfl ?_
    refine v_if_eq (tgt := 47) dX0_growGrass_30 (by decide) (fun h30 => absurd h30 (by decide)) (fun h30 => ?_)
    refine v_aload_n dX0_growGrass_33 rfl 1 rfl ?_
    refine v_get fX0_33 dX0_growGrass_34 0 rfl rfl ?_
    refine v_get fX0_122 dX0_growGrass_37 4 rfl rfl ?_
    refine v_iconst (v := 4) dX0_growGrass_40 (by decide) ?_
    refine v_xmax mX0_50 dX0_growGrass_41 ⟨by decide, Nat.le_of_ble_eq_true rfl, by decide, by decide⟩ ?_
    refine v_goto (tgt := 54) dX0_growGrass_44 (by decide) ?_
    refine v_eqi (s_warm ai (go j)) (by simp only [s_warm, if_neg h6]) ?_
    refine v_istore_n (lv' := [(3, .int (s_warm ai (go j))), (2, .int 1), (0, .ref c0), (1, .int (nI j))]) dX0_growGrass_54 rfl (by decide) rfl ?_
    refine v_iload_n dX0_growGrass_55 rfl 0 rfl ?_
    refine v_iconst (v := 2) dX0_growGrass_56 (by decide) ?_
    refine v_icmp_le (tgt := 85) dX0_growGrass_57 (by decide) (fun h57 => ?_) (fun h57 => ?_)
    · skip
      refine v_iload_n dX0_growGrass_85 rfl 0 rfl ?_
      refine v_if_ge (tgt := 107) dX0_growGrass_86 (by decide) (fun h86 => ?_) (fun h86 => ?_)
      · skip
        exact v_vretM dX0_growGrass_107 (v_w2 (fun (z0 : Nat → Int32) (z1 : Nat → Int32) => ([(c0, .inr (0, [.ref o0, .int nv, .ref aCa, .ref aTk, .ref aGr, .ref aGo, .ref aWe, .ref aDr, .ref aEa, .int br, .int du, .int mi, .int am, .int mb])), (aGr, .inl (G.2.1, 24, .inl z0)), (aGo, .inl (G.2.1, 24, .inl go)), (aWe, .inl (G.2.1, 24, .inl z1)), (o0, .inr (2, [.ref oFa, .ref oWi, .ref oPa, .ref oQu, .ref oSh, .int (nI hk), .int fl, .int ai, .int rn, .int rf, .int rt]))] : va_W)) (by simp only [s_grow, s_wet, if_neg h6, if_pos h57, if_pos h86, u_id]) (by simp only [s_grow, s_wet, if_neg h6, if_pos h57, if_pos h86, u_id]))
      · skip
        refine v_aload_n dX0_growGrass_89 rfl 2 rfl ?_
        refine v_get fX0_18 dX0_growGrass_90 0 rfl rfl ?_
        refine v_iload_n dX0_growGrass_93 rfl 3 rfl ?_
        refine v_iconst (v := 0) dX0_growGrass_94 (by decide) ?_
        refine v_aload_n dX0_growGrass_95 rfl 2 rfl ?_
        refine v_get fX0_18 dX0_growGrass_96 0 rfl rfl ?_
        refine v_iload_n dX0_growGrass_99 rfl 3 rfl ?_
        refine v_iald dX0_growGrass_100 1 rfl j rfl (by omega) (by decide) ?_
        refine v_iconst (v := 1) dX0_growGrass_101 (by decide) ?_
        refine v_isub dX0_growGrass_102 ?_
        refine v_xmax mX0_50 dX0_growGrass_103 ⟨by decide, Nat.le_of_ble_eq_true rfl, by decide, by decide⟩ ?_
        refine v_iast (ws' := [(c0, .inr (0, [.ref o0, .int nv, .ref aCa, .ref aTk, .ref aGr, .ref aGo, .ref aWe, .ref aDr, .ref aEa, .int br, .int du, .int mi, .int am, .int mb])), (aGr, .inl (G.2.1, 24, .inl (upd gr j (s_max 0 ((gr j) - 1))))), (aGo, .inl (G.2.1, 24, .inl go)), (aWe, .inl (G.2.1, 24, .inl (upd we j ((we j) + 1)))), (o0, .inr (2, [.ref oFa, .ref oWi, .ref oPa, .ref oQu, .ref oSh, .int (nI hk), .int fl, .int ai, .int rn, .int rf, .int rt]))]) dX0_growGrass_106 1 rfl j rfl (by omega) (by decide) rfl ?_
        exact v_vretM dX0_growGrass_107 (v_w2 (fun (z0 : Nat → Int32) (z1 : Nat → Int32) => ([(c0, .inr (0, [.ref o0, .int nv, .ref aCa, .ref aTk, .ref aGr, .ref aGo, .ref aWe, .ref aDr, .ref aEa, .int br, .int du, .int mi, .int am, .int mb])), (aGr, .inl (G.2.1, 24, .inl z0)), (aGo, .inl (G.2.1, 24, .inl go)), (aWe, .inl (G.2.1, 24, .inl z1)), (o0, .inr (2, [.ref oFa, .ref oWi, .ref oPa, .ref oQu, .ref oSh, .int (nI hk), .int fl, .int ai, .int rn, .int rf, .int rt]))] : va_W)) (by simp only [s_grow, s_wet, if_neg h6, if_pos h57, if_neg h86, u_id]) (by simp only [s_grow, s_wet, if_neg h6, if_pos h57, if_neg h86, u_id]))
    · skip
      refine v_aload_n dX0_growGrass_60 rfl 2 rfl ?_
      refine v_get fX0_18 dX0_growGrass_61 0 rfl rfl ?_
      refine v_iload_n dX0_growGrass_64 rfl 3 rfl ?_
      refine v_sipush (v := 5000) dX0_growGrass_65 (by decide) ?_
      refine v_aload_n dX0_growGrass_68 rfl 2 rfl ?_
      refine v_get fX0_18 dX0_growGrass_69 0 rfl rfl ?_
      refine v_iload_n dX0_growGrass_72 rfl 3 rfl ?_
      refine v_iald dX0_growGrass_73 1 rfl j rfl (by omega) (by decide) ?_
      refine v_iload_n dX0_growGrass_74 rfl 0 rfl ?_
      refine v_iadd dX0_growGrass_75 ?_
      refine v_iconst (v := 2) dX0_growGrass_76 (by decide) ?_
      refine v_isub dX0_growGrass_77 ?_
      refine v_xmin mX0_106 dX0_growGrass_78 ⟨by decide, Nat.le_of_ble_eq_true rfl, by decide, by decide⟩ ?_
      refine v_iast (ws' := [(c0, .inr (0, [.ref o0, .int nv, .ref aCa, .ref aTk, .ref aGr, .ref aGo, .ref aWe, .ref aDr, .ref aEa, .int br, .int du, .int mi, .int am, .int mb])), (aGr, .inl (G.2.1, 24, .inl (upd gr j (s_min 5000 (((gr j) + (s_warm ai (go j))) - 2))))), (aGo, .inl (G.2.1, 24, .inl go)), (aWe, .inl (G.2.1, 24, .inl (upd we j ((we j) + 1)))), (o0, .inr (2, [.ref oFa, .ref oWi, .ref oPa, .ref oQu, .ref oSh, .int (nI hk), .int fl, .int ai, .int rn, .int rf, .int rt]))]) dX0_growGrass_81 1 rfl j rfl (by omega) (by decide) rfl ?_
      refine v_goto (tgt := 107) dX0_growGrass_82 (by decide) ?_
      exact v_vretM dX0_growGrass_107 (v_w2 (fun (z0 : Nat → Int32) (z1 : Nat → Int32) => ([(c0, .inr (0, [.ref o0, .int nv, .ref aCa, .ref aTk, .ref aGr, .ref aGo, .ref aWe, .ref aDr, .ref aEa, .int br, .int du, .int mi, .int am, .int mb])), (aGr, .inl (G.2.1, 24, .inl z0)), (aGo, .inl (G.2.1, 24, .inl go)), (aWe, .inl (G.2.1, 24, .inl z1)), (o0, .inr (2, [.ref oFa, .ref oWi, .ref oPa, .ref oQu, .ref oSh, .int (nI hk), .int fl, .int ai, .int rn, .int rf, .int rt]))] : va_W)) (by simp only [s_grow, s_wet, if_neg h6, if_neg h57, u_id]) (by simp only [s_grow, s_wet, if_neg h6, if_neg h57, u_id]))

set_option maxRecDepth 100000 in
set_option maxHeartbeats 4000000 in
theorem c_X0_grazePane (l : Launch) (G : v_Cfg) (c0 : Nat) (o0 : Nat) (nv : Int32) (aCa : Nat) (aTk : Nat) (aGr : Nat) (aGo : Nat) (aWe : Nat) (aDr : Nat) (aEa : Nat) (br : Int32) (du : Int32) (mi : Int32) (am : Int32) (mb : Int32) (oFa : Nat) (oWi : Nat) (oPa : Nat) (oQu : Nat) (oSh : Nat) (hk : Nat) (fl : Int32) (ai : Int32) (rn : Int32) (rf : Int32) (rt : Int32) (gr : Nat → Int32) (ea : Nat → Int32) (sh : Nat → Int32) (j : Nat) (hj : j < 24) : MuV l G yX0_grazePane cX0_grazePane 3 none 1 [.ref c0, .int (nI j)] [(c0, .inr (0, [.ref o0, .int nv, .ref aCa, .ref aTk, .ref aGr, .ref aGo, .ref aWe, .ref aDr, .ref aEa, .int br, .int du, .int mi, .int am, .int mb])), (aGr, .inl (G.2.1, 24, .inl gr)), (aEa, .inl (G.2.1, 24, .inl ea)), (o0, .inr (2, [.ref oFa, .ref oWi, .ref oPa, .ref oQu, .ref oSh, .int (nI hk), .int fl, .int ai, .int rn, .int rf, .int rt])), (oSh, .inl (G.2.1, 24, .inl sh))] [(c0, .inr (0, [.ref o0, .int nv, .ref aCa, .ref aTk, .ref aGr, .ref aGo, .ref aWe, .ref aDr, .ref aEa, .int br, .int du, .int mi, .int am, .int mb])), (aGr, .inl (G.2.1, 24, .inl (upd gr j (gr j - s_min (sh j) (gr j))))), (aEa, .inl (G.2.1, 24, .inl (upd ea j (ea j + s_min (sh j) (gr j))))), (o0, .inr (2, [.ref oFa, .ref oWi, .ref oPa, .ref oQu, .ref oSh, .int (nI hk), .int fl, .int ai, .int rn, .int rf, .int rt])), (oSh, .inl (G.2.1, 24, .inl sh))] := by
  refine MuV.of (own := RX0) (by decide) rfl (Nat.le_of_ble_eq_true rfl) (fun p e s m below meth c => ?_)
  refine v_aload_n dX0_grazePane_0 rfl 0 rfl ?_
  refine v_get fX0_33 dX0_grazePane_1 0 rfl rfl ?_
  refine v_get fX0_125 dX0_grazePane_4 3 rfl rfl ?_
  refine v_iload_n dX0_grazePane_7 rfl 1 rfl ?_
  refine v_iald dX0_grazePane_8 4 rfl j rfl (by omega) (by decide) ?_
  refine v_aload_n dX0_grazePane_9 rfl 0 rfl ?_
  refine v_get fX0_18 dX0_grazePane_10 0 rfl rfl ?_
  refine v_iload_n dX0_grazePane_13 rfl 1 rfl ?_
  refine v_iald dX0_grazePane_14 1 rfl j rfl (by omega) (by decide) ?_
  refine v_xmin mX0_106 dX0_grazePane_15 ⟨by decide, Nat.le_of_ble_eq_true rfl, by decide, by decide⟩ ?_
  refine v_istore_n (lv' := [(2, .int (s_min (sh j) (gr j))), (0, .ref c0), (1, .int (nI j))]) dX0_grazePane_18 rfl (by decide) rfl ?_
  refine v_aload_n dX0_grazePane_19 rfl 1 rfl ?_
  refine v_get fX0_18 dX0_grazePane_20 0 rfl rfl ?_
  refine v_iload_n dX0_grazePane_23 rfl 2 rfl ?_
  refine v_dup2 dX0_grazePane_24 rfl rfl ?_
  refine v_iald dX0_grazePane_25 1 rfl j rfl (by omega) (by decide) ?_
  refine v_iload_n dX0_grazePane_26 rfl 0 rfl ?_
  refine v_isub dX0_grazePane_27 ?_
  refine v_iast (ws' := [(c0, .inr (0, [.ref o0, .int nv, .ref aCa, .ref aTk, .ref aGr, .ref aGo, .ref aWe, .ref aDr, .ref aEa, .int br, .int du, .int mi, .int am, .int mb])), (aGr, .inl (G.2.1, 24, .inl (upd gr j ((gr j) - (s_min (sh j) (gr j)))))), (aEa, .inl (G.2.1, 24, .inl ea)), (o0, .inr (2, [.ref oFa, .ref oWi, .ref oPa, .ref oQu, .ref oSh, .int (nI hk), .int fl, .int ai, .int rn, .int rf, .int rt])), (oSh, .inl (G.2.1, 24, .inl sh))]) dX0_grazePane_28 1 rfl j rfl (by omega) (by decide) rfl ?_
  refine v_aload_n dX0_grazePane_29 rfl 1 rfl ?_
  refine v_get fX0_30 dX0_grazePane_30 0 rfl rfl ?_
  refine v_iload_n dX0_grazePane_33 rfl 2 rfl ?_
  refine v_dup2 dX0_grazePane_34 rfl rfl ?_
  refine v_iald dX0_grazePane_35 2 rfl j rfl (by omega) (by decide) ?_
  refine v_iload_n dX0_grazePane_36 rfl 0 rfl ?_
  refine v_iadd dX0_grazePane_37 ?_
  refine v_iast (ws' := [(c0, .inr (0, [.ref o0, .int nv, .ref aCa, .ref aTk, .ref aGr, .ref aGo, .ref aWe, .ref aDr, .ref aEa, .int br, .int du, .int mi, .int am, .int mb])), (aGr, .inl (G.2.1, 24, .inl (upd gr j ((gr j) - (s_min (sh j) (gr j)))))), (aEa, .inl (G.2.1, 24, .inl (upd ea j ((ea j) + (s_min (sh j) (gr j)))))), (o0, .inr (2, [.ref oFa, .ref oWi, .ref oPa, .ref oQu, .ref oSh, .int (nI hk), .int fl, .int ai, .int rn, .int rf, .int rt])), (oSh, .inl (G.2.1, 24, .inl sh))]) dX0_grazePane_38 2 rfl j rfl (by omega) (by decide) rfl ?_
  exact v_vretM dX0_grazePane_39 rfl

set_option maxRecDepth 100000 in
set_option maxHeartbeats 4000000 in
theorem c_X0_soakPanes (l : Launch) (G : v_Cfg) (c0 : Nat) (o0 : Nat) (nv : Int32) (aCa : Nat) (aTk : Nat) (aGr : Nat) (aGo : Nat) (aWe : Nat) (aDr : Nat) (aEa : Nat) (br : Int32) (du : Int32) (mi : Int32) (am : Int32) (mb : Int32) (oFa : Nat) (oWi : Nat) (oPa : Nat) (oQu : Nat) (oSh : Nat) (hk : Nat) (fl : Int32) (ai : Int32) (rn : Int32) (rf : Int32) (rt : Int32) (tk : Nat → Int32) (go : Nat → Int32) (dr : Nat → Int32) (pn : Nat → Nat) (h : Nat) (hh : h < 6) (hn1 : 1 ≤ pn h) (hn4 : pn h ≤ 4) : MuI l G yX0_soakPanes cX0_soakPanes 9 (some .int) 1 [.ref c0, .int (nI h)] [(c0, .inr (0, [.ref o0, .int nv, .ref aCa, .ref aTk, .ref aGr, .ref aGo, .ref aWe, .ref aDr, .ref aEa, .int br, .int du, .int mi, .int am, .int mb])), (aTk, .inl (G.2.1, 6, .inl tk)), (aGo, .inl (G.2.1, 24, .inl go)), (aDr, .inl (G.2.1, 24, .inl dr)), (o0, .inr (2, [.ref oFa, .ref oWi, .ref oPa, .ref oQu, .ref oSh, .int (nI hk), .int fl, .int ai, .int rn, .int rf, .int rt])), (oPa, .inl (G.2.1, 6, .inl (pN pn)))] [(c0, .inr (0, [.ref o0, .int nv, .ref aCa, .ref aTk, .ref aGr, .ref aGo, .ref aWe, .ref aDr, .ref aEa, .int br, .int (du + s_sips (tk h) (nI (pn h)) (pn h)), .int mi, .int am, .int mb])), (aTk, .inl (G.2.1, 6, .inl tk)), (aGo, .inl (G.2.1, 24, .inl (s_rng (4 * h) (pn h) go (s_gotF h (tk h) (nI (pn h)))))), (aDr, .inl (G.2.1, 24, .inl (s_rng (4 * h) (pn h) dr (s_drF h (tk h) (nI (pn h)) dr)))), (o0, .inr (2, [.ref oFa, .ref oWi, .ref oPa, .ref oQu, .ref oSh, .int (nI hk), .int fl, .int ai, .int rn, .int rf, .int rt])), (oPa, .inl (G.2.1, 6, .inl (pN pn)))] (s_sips (tk h) (nI (pn h)) (pn h)) := by
  refine MuI.of (own := RX0) (by decide) rfl (Nat.le_of_ble_eq_true rfl) (fun p e s m below meth c => ?_)
  refine v_aload_n dX0_soakPanes_0 rfl 0 rfl ?_
  refine v_get fX0_33 dX0_soakPanes_1 0 rfl rfl ?_
  refine v_get fX0_94 dX0_soakPanes_4 4 rfl rfl ?_
  refine v_iload_n dX0_soakPanes_7 rfl 1 rfl ?_
  refine v_iald dX0_soakPanes_8 5 rfl h rfl (by omega) (by decide) ?_
  refine v_eqi (nI (pn h)) rfl ?_
  refine v_istore_n (lv' := [(2, .int (nI (pn h))), (0, .ref c0), (1, .int (nI h))]) dX0_soakPanes_9 rfl (by decide) rfl ?_
  refine v_iload_n dX0_soakPanes_10 rfl 0 rfl ?_
  refine v_iconst (v := 1) dX0_soakPanes_11 (by decide) ?_
  refine v_icmp_ge (tgt := 17) dX0_soakPanes_12 (by decide) (fun h12 => ?_) (fun h12 => absurd (nI_le hn1 (by omega)) h12)
  refine v_aload_n dX0_soakPanes_17 rfl 1 rfl ?_
  refine v_get fX0_15 dX0_soakPanes_18 0 rfl rfl ?_
  refine v_iload_n dX0_soakPanes_21 rfl 2 rfl ?_
  refine v_iald dX0_soakPanes_22 1 rfl h rfl (by omega) (by decide) ?_
  refine v_iload_n dX0_soakPanes_23 rfl 0 rfl ?_
  refine v_idiv dX0_soakPanes_24 (nI_ne0 (by omega) (by omega)) ?_
  refine v_istore_n (lv' := [(3, .int ((tk h) / (nI (pn h)))), (2, .int (nI (pn h))), (0, .ref c0), (1, .int (nI h))]) dX0_soakPanes_25 rfl (by decide) rfl ?_
  refine v_aload_n dX0_soakPanes_26 rfl 2 rfl ?_
  refine v_get fX0_15 dX0_soakPanes_27 0 rfl rfl ?_
  refine v_iload_n dX0_soakPanes_30 rfl 3 rfl ?_
  refine v_iald dX0_soakPanes_31 1 rfl h rfl (by omega) (by decide) ?_
  refine v_iload_n dX0_soakPanes_32 rfl 1 rfl ?_
  refine v_irm dX0_soakPanes_33 (nI_ne0 (by omega) (by omega)) ?_
  refine v_istore (lv' := [(4, .int (s_mod (tk h) (nI (pn h)))), (3, .int ((tk h) / (nI (pn h)))), (2, .int (nI (pn h))), (0, .ref c0), (1, .int (nI h))]) dX0_soakPanes_34 (by decide) rfl ?_
  refine v_iconst (v := 0) dX0_soakPanes_36 (by decide) ?_
  refine v_istore (lv' := [(5, .int 0), (4, .int (s_mod (tk h) (nI (pn h)))), (3, .int ((tk h) / (nI (pn h)))), (2, .int (nI (pn h))), (0, .ref c0), (1, .int (nI h))]) dX0_soakPanes_37 (by decide) rfl ?_
  refine v_iconst (v := 0) dX0_soakPanes_39 (by decide) ?_
  refine v_istore (lv' := [(6, .int 0), (5, .int 0), (4, .int (s_mod (tk h) (nI (pn h)))), (3, .int ((tk h) / (nI (pn h)))), (2, .int (nI (pn h))), (0, .ref c0), (1, .int (nI h))]) dX0_soakPanes_40 (by decide) rfl ?_
  have loop42 : ∀ (k42 i : Nat), i + k42 = pn h → V p l e (rmk 1) s m #[.ref c0, .int (nI h)] below meth c (MQ below (v_Qi G (s_sips (tk h) (nI (pn h)) (pn h)) [(c0, .inr (0, [.ref o0, .int nv, .ref aCa, .ref aTk, .ref aGr, .ref aGo, .ref aWe, .ref aDr, .ref aEa, .int br, .int du, .int mi, .int am, .int mb])), (aTk, .inl (G.2.1, 6, .inl tk)), (aGo, .inl (G.2.1, 24, .inl go)), (aDr, .inl (G.2.1, 24, .inl dr)), (o0, .inr (2, [.ref oFa, .ref oWi, .ref oPa, .ref oQu, .ref oSh, .int (nI hk), .int fl, .int ai, .int rn, .int rf, .int rt])), (oPa, .inl (G.2.1, 6, .inl (pN pn)))] [(c0, .inr (0, [.ref o0, .int nv, .ref aCa, .ref aTk, .ref aGr, .ref aGo, .ref aWe, .ref aDr, .ref aEa, .int br, .int (du + s_sips (tk h) (nI (pn h)) (pn h)), .int mi, .int am, .int mb])), (aTk, .inl (G.2.1, 6, .inl tk)), (aGo, .inl (G.2.1, 24, .inl (s_rng (4 * h) (pn h) go (s_gotF h (tk h) (nI (pn h)))))), (aDr, .inl (G.2.1, 24, .inl (s_rng (4 * h) (pn h) dr (s_drF h (tk h) (nI (pn h)) dr)))), (o0, .inr (2, [.ref oFa, .ref oWi, .ref oPa, .ref oQu, .ref oSh, .int (nI hk), .int fl, .int ai, .int rn, .int rf, .int rt])), (oPa, .inl (G.2.1, 6, .inl (pN pn)))]) #[.ref c0, .int (nI h)] s 0 0 (v_in [(c0, .inr (0, [.ref o0, .int nv, .ref aCa, .ref aTk, .ref aGr, .ref aGo, .ref aWe, .ref aDr, .ref aEa, .int br, .int du, .int mi, .int am, .int mb])), (aTk, .inl (G.2.1, 6, .inl tk)), (aGo, .inl (G.2.1, 24, .inl go)), (aDr, .inl (G.2.1, 24, .inl dr)), (o0, .inr (2, [.ref oFa, .ref oWi, .ref oPa, .ref oQu, .ref oSh, .int (nI hk), .int fl, .int ai, .int rn, .int rf, .int rt])), (oPa, .inl (G.2.1, 6, .inl (pN pn)))])) G (v_Iw (v_in [(c0, .inr (0, [.ref o0, .int nv, .ref aCa, .ref aTk, .ref aGr, .ref aGo, .ref aWe, .ref aDr, .ref aEa, .int br, .int du, .int mi, .int am, .int mb])), (aTk, .inl (G.2.1, 6, .inl tk)), (aGo, .inl (G.2.1, 24, .inl go)), (aDr, .inl (G.2.1, 24, .inl dr)), (o0, .inr (2, [.ref oFa, .ref oWi, .ref oPa, .ref oQu, .ref oSh, .int (nI hk), .int fl, .int ai, .int rn, .int rf, .int rt])), (oPa, .inl (G.2.1, 6, .inl (pN pn)))]) s) cX0_soakPanes RX0 9 (some .int) [(c0, .inr (0, [.ref o0, .int nv, .ref aCa, .ref aTk, .ref aGr, .ref aGo, .ref aWe, .ref aDr, .ref aEa, .int br, .int du, .int mi, .int am, .int mb])), (aTk, .inl (G.2.1, 6, .inl tk)), (aGo, .inl (G.2.1, 24, .inl (s_rng (4 * h) i go (s_gotF h (tk h) (nI (pn h)))))), (aDr, .inl (G.2.1, 24, .inl (s_rng (4 * h) i dr (s_drF h (tk h) (nI (pn h)) dr)))), (o0, .inr (2, [.ref oFa, .ref oWi, .ref oPa, .ref oQu, .ref oSh, .int (nI hk), .int fl, .int ai, .int rn, .int rf, .int rt])), (oPa, .inl (G.2.1, 6, .inl (pN pn)))] 0 0 [(6, .int (nI i)), (5, .int (s_sips (tk h) (nI (pn h)) i)), (4, .int (s_mod (tk h) (nI (pn h)))), (3, .int (tk h / nI (pn h))), (2, .int (nI (pn h))), (0, .ref c0), (1, .int (nI h))] 42 [] := by
    intro k42
    induction k42 with
    | zero =>
      intro i hi42
      have hi42 : i = pn h := by omega
      subst hi42
      refine v_iload dX0_soakPanes_42 0 rfl ?_
      refine v_iload_n dX0_soakPanes_44 rfl 4 rfl ?_
      refine v_icmp_ge (tgt := 115) dX0_soakPanes_45 (by decide) (fun h45 => ?_) (fun h45 => absurd (nI_le (by omega) (by omega)) h45)
      refine v_aload_n dX0_soakPanes_115 rfl 5 rfl ?_
      refine v_dup dX0_soakPanes_116 rfl ?_
      refine v_get fX0_109 dX0_soakPanes_117 0 rfl rfl ?_
      refine v_iload dX0_soakPanes_120 1 rfl ?_
      refine v_iadd dX0_soakPanes_122 ?_
      refine v_puti (ws' := [(c0, .inr (0, [.ref o0, .int nv, .ref aCa, .ref aTk, .ref aGr, .ref aGo, .ref aWe, .ref aDr, .ref aEa, .int br, .int (du + (s_sips (tk h) (nI (pn h)) (pn h))), .int mi, .int am, .int mb])), (aTk, .inl (G.2.1, 6, .inl tk)), (aGo, .inl (G.2.1, 24, .inl (s_rng (4 * h) (pn h) go (s_gotF h (tk h) (nI (pn h)))))), (aDr, .inl (G.2.1, 24, .inl (s_rng (4 * h) (pn h) dr (s_drF h (tk h) (nI (pn h)) dr)))), (o0, .inr (2, [.ref oFa, .ref oWi, .ref oPa, .ref oQu, .ref oSh, .int (nI hk), .int fl, .int ai, .int rn, .int rf, .int rt])), (oPa, .inl (G.2.1, 6, .inl (pN pn)))]) pX0_109 dX0_soakPanes_123 0 rfl (Nat.le_of_ble_eq_true rfl) rfl ?_
      refine v_iload dX0_soakPanes_126 1 rfl ?_
      exact v_iretM dX0_soakPanes_128 rfl rfl
    | succ k42 ih42 =>
      intro i hi42
      refine v_iload dX0_soakPanes_42 0 rfl ?_
      refine v_iload_n dX0_soakPanes_44 rfl 4 rfl ?_
      refine v_icmp_ge (tgt := 115) dX0_soakPanes_45 (by decide) (fun h45 => absurd h45 (nI_ge (by omega) (by omega))) (fun h45 => ?_)
      refine v_iload_n dX0_soakPanes_48 rfl 6 rfl ?_
      refine v_iload dX0_soakPanes_49 0 rfl ?_
      refine v_nRd (host := RX3) (As := [.int (nI h), .int (nI i)]) (rest := []) (c_X3_placeOf l G h i ) YX3_placeOf splaceOf (fun hL => hL.2.1) dX0_soakPanes_51 [] rfl rfl rfl (Nat.le_of_ble_eq_true rfl) (by decide) (by decide) ?_
      refine v_istore (lv' := [(7, .int (nI (4 * h + i))), (6, .int (nI i)), (5, .int (s_sips (tk h) (nI (pn h)) i)), (4, .int (s_mod (tk h) (nI (pn h)))), (3, .int (tk h / nI (pn h))), (2, .int (nI (pn h))), (0, .ref c0), (1, .int (nI h))]) dX0_soakPanes_54 (by decide) rfl ?_
      refine v_aload_n dX0_soakPanes_56 rfl 6 rfl ?_
      refine v_get fX0_21 dX0_soakPanes_57 0 rfl rfl ?_
      refine v_iload dX0_soakPanes_60 0 rfl ?_
      refine v_iload dX0_soakPanes_62 1 rfl ?_
      refine v_iload dX0_soakPanes_64 3 rfl ?_
      refine v_icmp_ge (tgt := 75) dX0_soakPanes_66 (by decide) (fun h66 => ?_) (fun h66 => ?_)
      · skip
        refine v_iload_n dX0_soakPanes_75 rfl 4 rfl ?_
        refine v_eqi (s_own (tk h) (nI (pn h)) (nI i)) (by simp only [s_own, if_pos h66]) ?_
        refine v_iast (ws' := [(c0, .inr (0, [.ref o0, .int nv, .ref aCa, .ref aTk, .ref aGr, .ref aGo, .ref aWe, .ref aDr, .ref aEa, .int br, .int du, .int mi, .int am, .int mb])), (aTk, .inl (G.2.1, 6, .inl tk)), (aGo, .inl (G.2.1, 24, .inl (upd (s_rng (4 * h) i go (s_gotF h (tk h) (nI (pn h)))) (4 * h + i) (s_own (tk h) (nI (pn h)) (nI i))))), (aDr, .inl (G.2.1, 24, .inl (s_rng (4 * h) i dr (s_drF h (tk h) (nI (pn h)) dr)))), (o0, .inr (2, [.ref oFa, .ref oWi, .ref oPa, .ref oQu, .ref oSh, .int (nI hk), .int fl, .int ai, .int rn, .int rf, .int rt])), (oPa, .inl (G.2.1, 6, .inl (pN pn)))]) dX0_soakPanes_76 2 rfl (4 * h + i) rfl (by omega) (by decide) rfl ?_
        refine v_aload_n dX0_soakPanes_77 rfl 6 rfl ?_
        refine v_get fX0_21 dX0_soakPanes_78 0 rfl rfl ?_
        refine v_iload dX0_soakPanes_81 0 rfl ?_
        refine v_iald dX0_soakPanes_83 2 rfl (4 * h + i) rfl (by omega) (by decide) ?_
        refine v_eqi (s_own (tk h) (nI (pn h)) (nI i)) pk_us ?_
        refine v_iconst (v := 3) dX0_soakPanes_84 (by decide) ?_
        refine v_xmin mX0_106 dX0_soakPanes_85 ⟨by decide, Nat.le_of_ble_eq_true rfl, by decide, by decide⟩ ?_
        refine v_istore (lv' := [(8, .int (s_min (s_own (tk h) (nI (pn h)) (nI i)) 3)), (7, .int (nI (4 * h + i))), (6, .int (nI i)), (5, .int (s_sips (tk h) (nI (pn h)) i)), (4, .int (s_mod (tk h) (nI (pn h)))), (3, .int (tk h / nI (pn h))), (2, .int (nI (pn h))), (0, .ref c0), (1, .int (nI h))]) dX0_soakPanes_88 (by decide) rfl ?_
        refine v_aload_n dX0_soakPanes_90 rfl 7 rfl ?_
        refine v_get fX0_27 dX0_soakPanes_91 0 rfl rfl ?_
        refine v_iload dX0_soakPanes_94 1 rfl ?_
        refine v_dup2 dX0_soakPanes_96 rfl rfl ?_
        refine v_iald dX0_soakPanes_97 3 rfl (4 * h + i) rfl (by omega) (by decide) ?_
        refine v_eqi (dr (4 * h + i)) (s_rng_at _ _ _ _) ?_
        refine v_iload dX0_soakPanes_98 0 rfl ?_
        refine v_iadd dX0_soakPanes_100 ?_
        refine v_iast (ws' := [(c0, .inr (0, [.ref o0, .int nv, .ref aCa, .ref aTk, .ref aGr, .ref aGo, .ref aWe, .ref aDr, .ref aEa, .int br, .int du, .int mi, .int am, .int mb])), (aTk, .inl (G.2.1, 6, .inl tk)), (aGo, .inl (G.2.1, 24, .inl (upd (s_rng (4 * h) i go (s_gotF h (tk h) (nI (pn h)))) (4 * h + i) (s_own (tk h) (nI (pn h)) (nI i))))), (aDr, .inl (G.2.1, 24, .inl (upd (s_rng (4 * h) i dr (s_drF h (tk h) (nI (pn h)) dr)) (4 * h + i) ((dr (4 * h + i)) + (s_min (s_own (tk h) (nI (pn h)) (nI i)) 3))))), (o0, .inr (2, [.ref oFa, .ref oWi, .ref oPa, .ref oQu, .ref oSh, .int (nI hk), .int fl, .int ai, .int rn, .int rf, .int rt])), (oPa, .inl (G.2.1, 6, .inl (pN pn)))]) dX0_soakPanes_101 3 rfl (4 * h + i) rfl (by omega) (by decide) rfl ?_
        refine v_iload dX0_soakPanes_102 3 rfl ?_
        refine v_iload dX0_soakPanes_104 0 rfl ?_
        refine v_iadd dX0_soakPanes_106 ?_
        refine v_istore (lv' := [(5, .int ((s_sips (tk h) (nI (pn h)) i) + (s_min (s_own (tk h) (nI (pn h)) (nI i)) 3))), (8, .int (s_min (s_own (tk h) (nI (pn h)) (nI i)) 3)), (7, .int (nI (4 * h + i))), (6, .int (nI i)), (4, .int (s_mod (tk h) (nI (pn h)))), (3, .int (tk h / nI (pn h))), (2, .int (nI (pn h))), (0, .ref c0), (1, .int (nI h))]) dX0_soakPanes_107 (by decide) rfl ?_
        refine v_iinc (v := nI i + 1) (q := 3) (lv' := [(6, .int (nI i + 1)), (5, .int ((s_sips (tk h) (nI (pn h)) i) + (s_min (s_own (tk h) (nI (pn h)) (nI i)) 3))), (8, .int (s_min (s_own (tk h) (nI (pn h)) (nI i)) 3)), (7, .int (nI (4 * h + i))), (4, .int (s_mod (tk h) (nI (pn h)))), (3, .int (tk h / nI (pn h))), (2, .int (nI (pn h))), (0, .ref c0), (1, .int (nI h))]) dX0_soakPanes_109 rfl rfl (by decide) rfl ?_
        refine v_goto (tgt := 42) dX0_soakPanes_112 (by decide) ?_
        refine v_world (ws' := [(c0, .inr (0, [.ref o0, .int nv, .ref aCa, .ref aTk, .ref aGr, .ref aGo, .ref aWe, .ref aDr, .ref aEa, .int br, .int du, .int mi, .int am, .int mb])), (aTk, .inl (G.2.1, 6, .inl tk)), (aGo, .inl (G.2.1, 24, .inl (s_rng (4 * h) (i + 1) go (s_gotF h (tk h) (nI (pn h)))))), (aDr, .inl (G.2.1, 24, .inl (s_rng (4 * h) (i + 1) dr (s_drF h (tk h) (nI (pn h)) dr)))), (o0, .inr (2, [.ref oFa, .ref oWi, .ref oPa, .ref oQu, .ref oSh, .int (nI hk), .int fl, .int ai, .int rn, .int rf, .int rt])), (oPa, .inl (G.2.1, 6, .inl (pN pn)))]) (v_w2 (fun (z0 : Nat → Int32) (z1 : Nat → Int32) => ([(c0, .inr (0, [.ref o0, .int nv, .ref aCa, .ref aTk, .ref aGr, .ref aGo, .ref aWe, .ref aDr, .ref aEa, .int br, .int du, .int mi, .int am, .int mb])), (aTk, .inl (G.2.1, 6, .inl tk)), (aGo, .inl (G.2.1, 24, .inl z0)), (aDr, .inl (G.2.1, 24, .inl z1)), (o0, .inr (2, [.ref oFa, .ref oWi, .ref oPa, .ref oQu, .ref oSh, .int (nI hk), .int fl, .int ai, .int rn, .int rf, .int rt])), (oPa, .inl (G.2.1, 6, .inl (pN pn)))] : va_W)) (s_rng_succ (by unfold s_gotF; rw [Nat.add_sub_cancel_left])) (s_rng_succ (by unfold s_drF; rw [Nat.add_sub_cancel_left]))) ?_
        refine v_locals (lv' := [(6, .int (nI i + 1)), (5, .int ((s_sips (tk h) (nI (pn h)) i) + (s_min (s_own (tk h) (nI (pn h)) (nI i)) 3))), (4, .int (s_mod (tk h) (nI (pn h)))), (3, .int (tk h / nI (pn h))), (2, .int (nI (pn h))), (0, .ref c0), (1, .int (nI h))]) [0, 1, 4, 5, 6, 7, 8] rfl ?_
        refine v_lveq (lv' := [(6, .int (nI (i + 1))), (5, .int (s_sips (tk h) (nI (pn h)) (i + 1))), (4, .int (s_mod (tk h) (nI (pn h)))), (3, .int (tk h / nI (pn h))), (2, .int (nI (pn h))), (0, .ref c0), (1, .int (nI h))]) (v_l2 (fun (z0 : Int32) (z1 : Int32) => ([(6, .int z0), (5, .int z1), (4, .int (s_mod (tk h) (nI (pn h)))), (3, .int (tk h / nI (pn h))), (2, .int (nI (pn h))), (0, .ref c0), (1, .int (nI h))] : List (Nat × Value))) (nI_1 i) rfl) ?_
        exact ih42 (i + 1) (by omega)
      · skip
        refine v_iload_n dX0_soakPanes_69 rfl 4 rfl ?_
        refine v_iconst (v := 1) dX0_soakPanes_70 (by decide) ?_
        refine v_iadd dX0_soakPanes_71 ?_
        refine v_goto (tgt := 76) dX0_soakPanes_72 (by decide) ?_
        refine v_eqi (s_own (tk h) (nI (pn h)) (nI i)) (by simp only [s_own, if_neg h66]) ?_
        refine v_iast (ws' := [(c0, .inr (0, [.ref o0, .int nv, .ref aCa, .ref aTk, .ref aGr, .ref aGo, .ref aWe, .ref aDr, .ref aEa, .int br, .int du, .int mi, .int am, .int mb])), (aTk, .inl (G.2.1, 6, .inl tk)), (aGo, .inl (G.2.1, 24, .inl (upd (s_rng (4 * h) i go (s_gotF h (tk h) (nI (pn h)))) (4 * h + i) (s_own (tk h) (nI (pn h)) (nI i))))), (aDr, .inl (G.2.1, 24, .inl (s_rng (4 * h) i dr (s_drF h (tk h) (nI (pn h)) dr)))), (o0, .inr (2, [.ref oFa, .ref oWi, .ref oPa, .ref oQu, .ref oSh, .int (nI hk), .int fl, .int ai, .int rn, .int rf, .int rt])), (oPa, .inl (G.2.1, 6, .inl (pN pn)))]) dX0_soakPanes_76 2 rfl (4 * h + i) rfl (by omega) (by decide) rfl ?_
        refine v_aload_n dX0_soakPanes_77 rfl 6 rfl ?_
        refine v_get fX0_21 dX0_soakPanes_78 0 rfl rfl ?_
        refine v_iload dX0_soakPanes_81 0 rfl ?_
        refine v_iald dX0_soakPanes_83 2 rfl (4 * h + i) rfl (by omega) (by decide) ?_
        refine v_eqi (s_own (tk h) (nI (pn h)) (nI i)) pk_us ?_
        refine v_iconst (v := 3) dX0_soakPanes_84 (by decide) ?_
        refine v_xmin mX0_106 dX0_soakPanes_85 ⟨by decide, Nat.le_of_ble_eq_true rfl, by decide, by decide⟩ ?_
        refine v_istore (lv' := [(8, .int (s_min (s_own (tk h) (nI (pn h)) (nI i)) 3)), (7, .int (nI (4 * h + i))), (6, .int (nI i)), (5, .int (s_sips (tk h) (nI (pn h)) i)), (4, .int (s_mod (tk h) (nI (pn h)))), (3, .int (tk h / nI (pn h))), (2, .int (nI (pn h))), (0, .ref c0), (1, .int (nI h))]) dX0_soakPanes_88 (by decide) rfl ?_
        refine v_aload_n dX0_soakPanes_90 rfl 7 rfl ?_
        refine v_get fX0_27 dX0_soakPanes_91 0 rfl rfl ?_
        refine v_iload dX0_soakPanes_94 1 rfl ?_
        refine v_dup2 dX0_soakPanes_96 rfl rfl ?_
        refine v_iald dX0_soakPanes_97 3 rfl (4 * h + i) rfl (by omega) (by decide) ?_
        refine v_eqi (dr (4 * h + i)) (s_rng_at _ _ _ _) ?_
        refine v_iload dX0_soakPanes_98 0 rfl ?_
        refine v_iadd dX0_soakPanes_100 ?_
        refine v_iast (ws' := [(c0, .inr (0, [.ref o0, .int nv, .ref aCa, .ref aTk, .ref aGr, .ref aGo, .ref aWe, .ref aDr, .ref aEa, .int br, .int du, .int mi, .int am, .int mb])), (aTk, .inl (G.2.1, 6, .inl tk)), (aGo, .inl (G.2.1, 24, .inl (upd (s_rng (4 * h) i go (s_gotF h (tk h) (nI (pn h)))) (4 * h + i) (s_own (tk h) (nI (pn h)) (nI i))))), (aDr, .inl (G.2.1, 24, .inl (upd (s_rng (4 * h) i dr (s_drF h (tk h) (nI (pn h)) dr)) (4 * h + i) ((dr (4 * h + i)) + (s_min (s_own (tk h) (nI (pn h)) (nI i)) 3))))), (o0, .inr (2, [.ref oFa, .ref oWi, .ref oPa, .ref oQu, .ref oSh, .int (nI hk), .int fl, .int ai, .int rn, .int rf, .int rt])), (oPa, .inl (G.2.1, 6, .inl (pN pn)))]) dX0_soakPanes_101 3 rfl (4 * h + i) rfl (by omega) (by decide) rfl ?_
        refine v_iload dX0_soakPanes_102 3 rfl ?_
        refine v_iload dX0_soakPanes_104 0 rfl ?_
        refine v_iadd dX0_soakPanes_106 ?_
        refine v_istore (lv' := [(5, .int ((s_sips (tk h) (nI (pn h)) i) + (s_min (s_own (tk h) (nI (pn h)) (nI i)) 3))), (8, .int (s_min (s_own (tk h) (nI (pn h)) (nI i)) 3)), (7, .int (nI (4 * h + i))), (6, .int (nI i)), (4, .int (s_mod (tk h) (nI (pn h)))), (3, .int (tk h / nI (pn h))), (2, .int (nI (pn h))), (0, .ref c0), (1, .int (nI h))]) dX0_soakPanes_107 (by decide) rfl ?_
        refine v_iinc (v := nI i + 1) (q := 3) (lv' := [(6, .int (nI i + 1)), (5, .int ((s_sips (tk h) (nI (pn h)) i) + (s_min (s_own (tk h) (nI (pn h)) (nI i)) 3))), (8, .int (s_min (s_own (tk h) (nI (pn h)) (nI i)) 3)), (7, .int (nI (4 * h + i))), (4, .int (s_mod (tk h) (nI (pn h)))), (3, .int (tk h / nI (pn h))), (2, .int (nI (pn h))), (0, .ref c0), (1, .int (nI h))]) dX0_soakPanes_109 rfl rfl (by decide) rfl ?_
        refine v_goto (tgt := 42) dX0_soakPanes_112 (by decide) ?_
        refine v_world (ws' := [(c0, .inr (0, [.ref o0, .int nv, .ref aCa, .ref aTk, .ref aGr, .ref aGo, .ref aWe, .ref aDr, .ref aEa, .int br, .int du, .int mi, .int am, .int mb])), (aTk, .inl (G.2.1, 6, .inl tk)), (aGo, .inl (G.2.1, 24, .inl (s_rng (4 * h) (i + 1) go (s_gotF h (tk h) (nI (pn h)))))), (aDr, .inl (G.2.1, 24, .inl (s_rng (4 * h) (i + 1) dr (s_drF h (tk h) (nI (pn h)) dr)))), (o0, .inr (2, [.ref oFa, .ref oWi, .ref oPa, .ref oQu, .ref oSh, .int (nI hk), .int fl, .int ai, .int rn, .int rf, .int rt])), (oPa, .inl (G.2.1, 6, .inl (pN pn)))]) (v_w2 (fun (z0 : Nat → Int32) (z1 : Nat → Int32) => ([(c0, .inr (0, [.ref o0, .int nv, .ref aCa, .ref aTk, .ref aGr, .ref aGo, .ref aWe, .ref aDr, .ref aEa, .int br, .int du, .int mi, .int am, .int mb])), (aTk, .inl (G.2.1, 6, .inl tk)), (aGo, .inl (G.2.1, 24, .inl z0)), (aDr, .inl (G.2.1, 24, .inl z1)), (o0, .inr (2, [.ref oFa, .ref oWi, .ref oPa, .ref oQu, .ref oSh, .int (nI hk), .int fl, .int ai, .int rn, .int rf, .int rt])), (oPa, .inl (G.2.1, 6, .inl (pN pn)))] : va_W)) (s_rng_succ (by unfold s_gotF; rw [Nat.add_sub_cancel_left])) (s_rng_succ (by unfold s_drF; rw [Nat.add_sub_cancel_left]))) ?_
        refine v_locals (lv' := [(6, .int (nI i + 1)), (5, .int ((s_sips (tk h) (nI (pn h)) i) + (s_min (s_own (tk h) (nI (pn h)) (nI i)) 3))), (4, .int (s_mod (tk h) (nI (pn h)))), (3, .int (tk h / nI (pn h))), (2, .int (nI (pn h))), (0, .ref c0), (1, .int (nI h))]) [0, 1, 4, 5, 6, 7, 8] rfl ?_
        refine v_lveq (lv' := [(6, .int (nI (i + 1))), (5, .int (s_sips (tk h) (nI (pn h)) (i + 1))), (4, .int (s_mod (tk h) (nI (pn h)))), (3, .int (tk h / nI (pn h))), (2, .int (nI (pn h))), (0, .ref c0), (1, .int (nI h))]) (v_l2 (fun (z0 : Int32) (z1 : Int32) => ([(6, .int z0), (5, .int z1), (4, .int (s_mod (tk h) (nI (pn h)))), (3, .int (tk h / nI (pn h))), (2, .int (nI (pn h))), (0, .ref c0), (1, .int (nI h))] : List (Nat × Value))) (nI_1 i) rfl) ?_
        exact ih42 (i + 1) (by omega)
  refine v_world (ws' := [(c0, .inr (0, [.ref o0, .int nv, .ref aCa, .ref aTk, .ref aGr, .ref aGo, .ref aWe, .ref aDr, .ref aEa, .int br, .int du, .int mi, .int am, .int mb])), (aTk, .inl (G.2.1, 6, .inl tk)), (aGo, .inl (G.2.1, 24, .inl (s_rng (4 * h) 0 go (s_gotF h (tk h) (nI (pn h)))))), (aDr, .inl (G.2.1, 24, .inl (s_rng (4 * h) 0 dr (s_drF h (tk h) (nI (pn h)) dr)))), (o0, .inr (2, [.ref oFa, .ref oWi, .ref oPa, .ref oQu, .ref oSh, .int (nI hk), .int fl, .int ai, .int rn, .int rf, .int rt])), (oPa, .inl (G.2.1, 6, .inl (pN pn)))]) (v_w2 (fun (z0 : Nat → Int32) (z1 : Nat → Int32) => ([(c0, .inr (0, [.ref o0, .int nv, .ref aCa, .ref aTk, .ref aGr, .ref aGo, .ref aWe, .ref aDr, .ref aEa, .int br, .int du, .int mi, .int am, .int mb])), (aTk, .inl (G.2.1, 6, .inl tk)), (aGo, .inl (G.2.1, 24, .inl z0)), (aDr, .inl (G.2.1, 24, .inl z1)), (o0, .inr (2, [.ref oFa, .ref oWi, .ref oPa, .ref oQu, .ref oSh, .int (nI hk), .int fl, .int ai, .int rn, .int rf, .int rt])), (oPa, .inl (G.2.1, 6, .inl (pN pn)))] : va_W)) (s_rng_0 _ _ _) (s_rng_0 _ _ _)) ?_
  refine v_lveq (lv' := [(6, .int (nI 0)), (5, .int (s_sips (tk h) (nI (pn h)) 0)), (4, .int (s_mod (tk h) (nI (pn h)))), (3, .int (tk h / nI (pn h))), (2, .int (nI (pn h))), (0, .ref c0), (1, .int (nI h))]) (v_l2 (fun (z0 : Int32) (z1 : Int32) => ([(6, .int z0), (5, .int z1), (4, .int (s_mod (tk h) (nI (pn h)))), (3, .int ((tk h) / (nI (pn h)))), (2, .int (nI (pn h))), (0, .ref c0), (1, .int (nI h))] : List (Nat × Value))) nI_0.symm rfl) ?_
  exact loop42 (pn h) 0 (by omega)

set_option maxRecDepth 100000 in
set_option maxHeartbeats 4000000 in
theorem c_X0_tendPanes (l : Launch) (G : v_Cfg) (c0 : Nat) (o0 : Nat) (nv : Int32) (aCa : Nat) (aTk : Nat) (aGr : Nat) (aGo : Nat) (aWe : Nat) (aDr : Nat) (aEa : Nat) (br : Int32) (du : Int32) (mi : Int32) (am : Int32) (mb : Int32) (oFa : Nat) (oWi : Nat) (oPa : Nat) (oQu : Nat) (oSh : Nat) (hk : Nat) (fl : Int32) (ai : Int32) (rn : Int32) (rf : Int32) (rt : Int32) (gr : Nat → Int32) (go : Nat → Int32) (we : Nat → Int32) (ea : Nat → Int32) (sh : Nat → Int32) (pn : Nat → Nat) (h : Nat) (x : Int32) (hh : h < 6) (hn4 : pn h ≤ 4) : MuV l G yX0_tendPanes cX0_tendPanes 6 none 2 [.ref c0, .int (nI h), .int x] [(c0, .inr (0, [.ref o0, .int nv, .ref aCa, .ref aTk, .ref aGr, .ref aGo, .ref aWe, .ref aDr, .ref aEa, .int br, .int du, .int mi, .int am, .int mb])), (aGr, .inl (G.2.1, 24, .inl gr)), (aGo, .inl (G.2.1, 24, .inl go)), (aWe, .inl (G.2.1, 24, .inl we)), (aEa, .inl (G.2.1, 24, .inl ea)), (o0, .inr (2, [.ref oFa, .ref oWi, .ref oPa, .ref oQu, .ref oSh, .int (nI hk), .int fl, .int ai, .int rn, .int rf, .int rt])), (oPa, .inl (G.2.1, 6, .inl (pN pn))), (oSh, .inl (G.2.1, 24, .inl sh))] [(c0, .inr (0, [.ref o0, .int nv, .ref aCa, .ref aTk, .ref aGr, .ref aGo, .ref aWe, .ref aDr, .ref aEa, .int br, .int du, .int mi, .int am, .int mb])), (aGr, .inl (G.2.1, 24, .inl (s_rng (4 * h) (pn h) gr (s_grF ai (s_gz x) go sh gr)))), (aGo, .inl (G.2.1, 24, .inl go)), (aWe, .inl (G.2.1, 24, .inl (s_rng (4 * h) (pn h) we (s_weF go we)))), (aEa, .inl (G.2.1, 24, .inl (s_rng (4 * h) (pn h) ea (s_eaF ai (s_gz x) go sh gr ea)))), (o0, .inr (2, [.ref oFa, .ref oWi, .ref oPa, .ref oQu, .ref oSh, .int (nI hk), .int fl, .int ai, .int rn, .int rf, .int rt])), (oPa, .inl (G.2.1, 6, .inl (pN pn))), (oSh, .inl (G.2.1, 24, .inl sh))] := by
  refine MuV.of (own := RX0) (by decide) rfl (Nat.le_of_ble_eq_true rfl) (fun p e s m below meth c => ?_)
  refine v_aload_n dX0_tendPanes_0 rfl 0 rfl ?_
  refine v_get fX0_33 dX0_tendPanes_1 0 rfl rfl ?_
  refine v_iload_n dX0_tendPanes_4 rfl 2 rfl ?_
  refine v_vRd (As := [.int x]) (rest := []) (c_X2_isGrazing l G o0 oFa oWi oPa oQu oSh hk fl ai rn rf rt x ) YX2_isGrazing mX0_112 dX0_tendPanes_5 ciX2 5 rfl [5] rfl rfl rfl (Nat.le_of_ble_eq_true rfl) (by decide) (by decide) ?_
  refine v_istore_n (lv' := [(3, .int (s_gz x)), (0, .ref c0), (1, .int (nI h)), (2, .int x)]) dX0_tendPanes_8 rfl (by decide) rfl ?_
  refine v_iconst (v := 0) dX0_tendPanes_9 (by decide) ?_
  refine v_istore (lv' := [(4, .int 0), (3, .int (s_gz x)), (0, .ref c0), (1, .int (nI h)), (2, .int x)]) dX0_tendPanes_10 (by decide) rfl ?_
  have loop12 : ∀ (k12 i : Nat), i + k12 = pn h → V p l e (rmk 2) s m #[.ref c0, .int (nI h), .int x] below meth c (MQ below (v_Qv G [(c0, .inr (0, [.ref o0, .int nv, .ref aCa, .ref aTk, .ref aGr, .ref aGo, .ref aWe, .ref aDr, .ref aEa, .int br, .int du, .int mi, .int am, .int mb])), (aGr, .inl (G.2.1, 24, .inl gr)), (aGo, .inl (G.2.1, 24, .inl go)), (aWe, .inl (G.2.1, 24, .inl we)), (aEa, .inl (G.2.1, 24, .inl ea)), (o0, .inr (2, [.ref oFa, .ref oWi, .ref oPa, .ref oQu, .ref oSh, .int (nI hk), .int fl, .int ai, .int rn, .int rf, .int rt])), (oPa, .inl (G.2.1, 6, .inl (pN pn))), (oSh, .inl (G.2.1, 24, .inl sh))] [(c0, .inr (0, [.ref o0, .int nv, .ref aCa, .ref aTk, .ref aGr, .ref aGo, .ref aWe, .ref aDr, .ref aEa, .int br, .int du, .int mi, .int am, .int mb])), (aGr, .inl (G.2.1, 24, .inl (s_rng (4 * h) (pn h) gr (s_grF ai (s_gz x) go sh gr)))), (aGo, .inl (G.2.1, 24, .inl go)), (aWe, .inl (G.2.1, 24, .inl (s_rng (4 * h) (pn h) we (s_weF go we)))), (aEa, .inl (G.2.1, 24, .inl (s_rng (4 * h) (pn h) ea (s_eaF ai (s_gz x) go sh gr ea)))), (o0, .inr (2, [.ref oFa, .ref oWi, .ref oPa, .ref oQu, .ref oSh, .int (nI hk), .int fl, .int ai, .int rn, .int rf, .int rt])), (oPa, .inl (G.2.1, 6, .inl (pN pn))), (oSh, .inl (G.2.1, 24, .inl sh))]) #[.ref c0, .int (nI h), .int x] s 0 0 (v_in [(c0, .inr (0, [.ref o0, .int nv, .ref aCa, .ref aTk, .ref aGr, .ref aGo, .ref aWe, .ref aDr, .ref aEa, .int br, .int du, .int mi, .int am, .int mb])), (aGr, .inl (G.2.1, 24, .inl gr)), (aGo, .inl (G.2.1, 24, .inl go)), (aWe, .inl (G.2.1, 24, .inl we)), (aEa, .inl (G.2.1, 24, .inl ea)), (o0, .inr (2, [.ref oFa, .ref oWi, .ref oPa, .ref oQu, .ref oSh, .int (nI hk), .int fl, .int ai, .int rn, .int rf, .int rt])), (oPa, .inl (G.2.1, 6, .inl (pN pn))), (oSh, .inl (G.2.1, 24, .inl sh))])) G (v_Iw (v_in [(c0, .inr (0, [.ref o0, .int nv, .ref aCa, .ref aTk, .ref aGr, .ref aGo, .ref aWe, .ref aDr, .ref aEa, .int br, .int du, .int mi, .int am, .int mb])), (aGr, .inl (G.2.1, 24, .inl gr)), (aGo, .inl (G.2.1, 24, .inl go)), (aWe, .inl (G.2.1, 24, .inl we)), (aEa, .inl (G.2.1, 24, .inl ea)), (o0, .inr (2, [.ref oFa, .ref oWi, .ref oPa, .ref oQu, .ref oSh, .int (nI hk), .int fl, .int ai, .int rn, .int rf, .int rt])), (oPa, .inl (G.2.1, 6, .inl (pN pn))), (oSh, .inl (G.2.1, 24, .inl sh))]) s) cX0_tendPanes RX0 6 none [(c0, .inr (0, [.ref o0, .int nv, .ref aCa, .ref aTk, .ref aGr, .ref aGo, .ref aWe, .ref aDr, .ref aEa, .int br, .int du, .int mi, .int am, .int mb])), (aGr, .inl (G.2.1, 24, .inl (s_rng (4 * h) i gr (s_grF ai (s_gz x) go sh gr)))), (aGo, .inl (G.2.1, 24, .inl go)), (aWe, .inl (G.2.1, 24, .inl (s_rng (4 * h) i we (s_weF go we)))), (aEa, .inl (G.2.1, 24, .inl (s_rng (4 * h) i ea (s_eaF ai (s_gz x) go sh gr ea)))), (o0, .inr (2, [.ref oFa, .ref oWi, .ref oPa, .ref oQu, .ref oSh, .int (nI hk), .int fl, .int ai, .int rn, .int rf, .int rt])), (oPa, .inl (G.2.1, 6, .inl (pN pn))), (oSh, .inl (G.2.1, 24, .inl sh))] 0 0 [(4, .int (nI i)), (3, .int (s_gz x)), (0, .ref c0), (1, .int (nI h)), (2, .int x)] 12 [] := by
    intro k12
    induction k12 with
    | zero =>
      intro i hi12
      have hi12 : i = pn h := by omega
      subst hi12
      refine v_iload dX0_tendPanes_12 0 rfl ?_
      refine v_aload_n dX0_tendPanes_14 rfl 2 rfl ?_
      refine v_get fX0_33 dX0_tendPanes_15 0 rfl rfl ?_
      refine v_get fX0_94 dX0_tendPanes_18 5 rfl rfl ?_
      refine v_iload_n dX0_tendPanes_21 rfl 3 rfl ?_
      refine v_iald dX0_tendPanes_22 6 rfl h rfl (by omega) (by decide) ?_
      refine v_eqi (nI (pn h)) rfl ?_
      refine v_icmp_ge (tgt := 56) dX0_tendPanes_23 (by decide) (fun h23 => ?_) (fun h23 => absurd (nI_le (by omega) (by omega)) h23)
      exact v_vretM dX0_tendPanes_56 rfl
    | succ k12 ih12 =>
      intro i hi12
      refine v_iload dX0_tendPanes_12 0 rfl ?_
      refine v_aload_n dX0_tendPanes_14 rfl 2 rfl ?_
      refine v_get fX0_33 dX0_tendPanes_15 0 rfl rfl ?_
      refine v_get fX0_94 dX0_tendPanes_18 5 rfl rfl ?_
      refine v_iload_n dX0_tendPanes_21 rfl 3 rfl ?_
      refine v_iald dX0_tendPanes_22 6 rfl h rfl (by omega) (by decide) ?_
      refine v_eqi (nI (pn h)) rfl ?_
      refine v_icmp_ge (tgt := 56) dX0_tendPanes_23 (by decide) (fun h23 => absurd h23 (nI_ge (by omega) (by omega))) (fun h23 => ?_)
      refine v_iload_n dX0_tendPanes_26 rfl 3 rfl ?_
      refine v_iload dX0_tendPanes_27 0 rfl ?_
      refine v_nRd (host := RX3) (As := [.int (nI h), .int (nI i)]) (rest := []) (c_X3_placeOf l G h i ) YX3_placeOf splaceOf (fun hL => hL.2.1) dX0_tendPanes_29 [] rfl rfl rfl (Nat.le_of_ble_eq_true rfl) (by decide) (by decide) ?_
      refine v_istore (lv' := [(5, .int (nI (4 * h + i))), (4, .int (nI i)), (3, .int (s_gz x)), (0, .ref c0), (1, .int (nI h)), (2, .int x)]) dX0_tendPanes_32 (by decide) rfl ?_
      refine v_aload_n dX0_tendPanes_34 rfl 3 rfl ?_
      refine v_iload dX0_tendPanes_35 0 rfl ?_
      refine v_vMv (ws' := [(c0, .inr (0, [.ref o0, .int nv, .ref aCa, .ref aTk, .ref aGr, .ref aGo, .ref aWe, .ref aDr, .ref aEa, .int br, .int du, .int mi, .int am, .int mb])), (aGr, .inl (G.2.1, 24, .inl (upd (s_rng (4 * h) i gr (s_grF ai (s_gz x) go sh gr)) (4 * h + i) (s_grow ai (go (4 * h + i)) ((s_rng (4 * h) i gr (s_grF ai (s_gz x) go sh gr)) (4 * h + i)))))), (aGo, .inl (G.2.1, 24, .inl go)), (aWe, .inl (G.2.1, 24, .inl (upd (s_rng (4 * h) i we (s_weF go we)) (4 * h + i) (s_wet (go (4 * h + i)) ((s_rng (4 * h) i we (s_weF go we)) (4 * h + i)))))), (aEa, .inl (G.2.1, 24, .inl (s_rng (4 * h) i ea (s_eaF ai (s_gz x) go sh gr ea)))), (o0, .inr (2, [.ref oFa, .ref oWi, .ref oPa, .ref oQu, .ref oSh, .int (nI hk), .int fl, .int ai, .int rn, .int rf, .int rt])), (oPa, .inl (G.2.1, 6, .inl (pN pn))), (oSh, .inl (G.2.1, 24, .inl sh))]) (As := [.int (nI (4 * h + i))]) (rest := []) (c_X0_growGrass l G c0 o0 nv aCa aTk aGr aGo aWe aDr aEa br du mi am mb oFa oWi oPa oQu oSh hk fl ai rn rf rt (s_rng (4 * h) i gr (s_grF ai (s_gz x) go sh gr)) go (s_rng (4 * h) i we (s_weF go we)) (4 * h + i) (by omega)) YX0_growGrass mX0_115 dX0_tendPanes_37 ciX0 0 rfl [0, 1, 2, 3, 5] (by decide) rfl rfl rfl rfl rfl rfl (Nat.le_of_ble_eq_true rfl) (by decide) (by decide) ?_
      refine v_iload_n dX0_tendPanes_40 rfl 2 rfl ?_
      refine v_if_eq (tgt := 50) dX0_tendPanes_41 (by decide) (fun h41 => ?_) (fun h41 => ?_)
      · skip
        refine v_iinc (v := nI i + 1) (q := 1) (lv' := [(4, .int (nI i + 1)), (5, .int (nI (4 * h + i))), (3, .int (s_gz x)), (0, .ref c0), (1, .int (nI h)), (2, .int x)]) dX0_tendPanes_50 rfl rfl (by decide) rfl ?_
        refine v_goto (tgt := 12) dX0_tendPanes_53 (by decide) ?_
        refine v_world (ws' := [(c0, .inr (0, [.ref o0, .int nv, .ref aCa, .ref aTk, .ref aGr, .ref aGo, .ref aWe, .ref aDr, .ref aEa, .int br, .int du, .int mi, .int am, .int mb])), (aGr, .inl (G.2.1, 24, .inl (s_rng (4 * h) (i + 1) gr (s_grF ai (s_gz x) go sh gr)))), (aGo, .inl (G.2.1, 24, .inl go)), (aWe, .inl (G.2.1, 24, .inl (s_rng (4 * h) (i + 1) we (s_weF go we)))), (aEa, .inl (G.2.1, 24, .inl (s_rng (4 * h) (i + 1) ea (s_eaF ai (s_gz x) go sh gr ea)))), (o0, .inr (2, [.ref oFa, .ref oWi, .ref oPa, .ref oQu, .ref oSh, .int (nI hk), .int fl, .int ai, .int rn, .int rf, .int rt])), (oPa, .inl (G.2.1, 6, .inl (pN pn))), (oSh, .inl (G.2.1, 24, .inl sh))]) (v_w3 (fun (z0 : Nat → Int32) (z1 : Nat → Int32) (z2 : Nat → Int32) => ([(c0, .inr (0, [.ref o0, .int nv, .ref aCa, .ref aTk, .ref aGr, .ref aGo, .ref aWe, .ref aDr, .ref aEa, .int br, .int du, .int mi, .int am, .int mb])), (aGr, .inl (G.2.1, 24, .inl z0)), (aGo, .inl (G.2.1, 24, .inl go)), (aWe, .inl (G.2.1, 24, .inl z1)), (aEa, .inl (G.2.1, 24, .inl z2)), (o0, .inr (2, [.ref oFa, .ref oWi, .ref oPa, .ref oQu, .ref oSh, .int (nI hk), .int fl, .int ai, .int rn, .int rf, .int rt])), (oPa, .inl (G.2.1, 6, .inl (pN pn))), (oSh, .inl (G.2.1, 24, .inl sh))] : va_W)) (by simp only [upd_upd, pk_us, s_rng_at]; exact s_rng_succ (by simp only [s_grF, s_bite, if_pos h41, Int32.sub_zero])) (s_rng_succ (by unfold s_weF; rw [s_rng_at])) (by rw [← s_rng_succ (x := s_rng (4 * h) i ea (s_eaF ai (s_gz x) go sh gr ea) (4 * h + i)) (by simp only [s_rng_at, s_eaF, s_bite, if_pos h41, Int32.add_zero]), u_id])) ?_
        refine v_locals (lv' := [(4, .int (nI i + 1)), (3, .int (s_gz x)), (0, .ref c0), (1, .int (nI h)), (2, .int x)]) [0, 2, 3, 4, 5] rfl ?_
        refine v_lveq (lv' := [(4, .int (nI (i + 1))), (3, .int (s_gz x)), (0, .ref c0), (1, .int (nI h)), (2, .int x)]) (v_l1 (fun (z0 : Int32) => ([(4, .int z0), (3, .int (s_gz x)), (0, .ref c0), (1, .int (nI h)), (2, .int x)] : List (Nat × Value))) (nI_1 i)) ?_
        exact ih12 (i + 1) (by omega)
      · skip
        refine v_aload_n dX0_tendPanes_44 rfl 3 rfl ?_
        refine v_iload dX0_tendPanes_45 0 rfl ?_
        refine v_vMv (ws' := [(c0, .inr (0, [.ref o0, .int nv, .ref aCa, .ref aTk, .ref aGr, .ref aGo, .ref aWe, .ref aDr, .ref aEa, .int br, .int du, .int mi, .int am, .int mb])), (aGr, .inl (G.2.1, 24, .inl (upd (upd (s_rng (4 * h) i gr (s_grF ai (s_gz x) go sh gr)) (4 * h + i) (s_grow ai (go (4 * h + i)) ((s_rng (4 * h) i gr (s_grF ai (s_gz x) go sh gr)) (4 * h + i)))) (4 * h + i) ((upd (s_rng (4 * h) i gr (s_grF ai (s_gz x) go sh gr)) (4 * h + i) (s_grow ai (go (4 * h + i)) ((s_rng (4 * h) i gr (s_grF ai (s_gz x) go sh gr)) (4 * h + i)))) (4 * h + i) - s_min (sh (4 * h + i)) ((upd (s_rng (4 * h) i gr (s_grF ai (s_gz x) go sh gr)) (4 * h + i) (s_grow ai (go (4 * h + i)) ((s_rng (4 * h) i gr (s_grF ai (s_gz x) go sh gr)) (4 * h + i)))) (4 * h + i)))))), (aGo, .inl (G.2.1, 24, .inl go)), (aWe, .inl (G.2.1, 24, .inl (upd (s_rng (4 * h) i we (s_weF go we)) (4 * h + i) (s_wet (go (4 * h + i)) ((s_rng (4 * h) i we (s_weF go we)) (4 * h + i)))))), (aEa, .inl (G.2.1, 24, .inl (upd (s_rng (4 * h) i ea (s_eaF ai (s_gz x) go sh gr ea)) (4 * h + i) ((s_rng (4 * h) i ea (s_eaF ai (s_gz x) go sh gr ea)) (4 * h + i) + s_min (sh (4 * h + i)) ((upd (s_rng (4 * h) i gr (s_grF ai (s_gz x) go sh gr)) (4 * h + i) (s_grow ai (go (4 * h + i)) ((s_rng (4 * h) i gr (s_grF ai (s_gz x) go sh gr)) (4 * h + i)))) (4 * h + i)))))), (o0, .inr (2, [.ref oFa, .ref oWi, .ref oPa, .ref oQu, .ref oSh, .int (nI hk), .int fl, .int ai, .int rn, .int rf, .int rt])), (oPa, .inl (G.2.1, 6, .inl (pN pn))), (oSh, .inl (G.2.1, 24, .inl sh))]) (As := [.int (nI (4 * h + i))]) (rest := []) (c_X0_grazePane l G c0 o0 nv aCa aTk aGr aGo aWe aDr aEa br du mi am mb oFa oWi oPa oQu oSh hk fl ai rn rf rt (upd (s_rng (4 * h) i gr (s_grF ai (s_gz x) go sh gr)) (4 * h + i) (s_grow ai (go (4 * h + i)) ((s_rng (4 * h) i gr (s_grF ai (s_gz x) go sh gr)) (4 * h + i)))) (s_rng (4 * h) i ea (s_eaF ai (s_gz x) go sh gr ea)) sh (4 * h + i) (by omega)) YX0_grazePane mX0_119 dX0_tendPanes_47 ciX0 0 rfl [0, 1, 4, 5, 7] (by decide) rfl rfl rfl rfl rfl rfl (Nat.le_of_ble_eq_true rfl) (by decide) (by decide) ?_
        refine v_iinc (v := nI i + 1) (q := 1) (lv' := [(4, .int (nI i + 1)), (5, .int (nI (4 * h + i))), (3, .int (s_gz x)), (0, .ref c0), (1, .int (nI h)), (2, .int x)]) dX0_tendPanes_50 rfl rfl (by decide) rfl ?_
        refine v_goto (tgt := 12) dX0_tendPanes_53 (by decide) ?_
        refine v_world (ws' := [(c0, .inr (0, [.ref o0, .int nv, .ref aCa, .ref aTk, .ref aGr, .ref aGo, .ref aWe, .ref aDr, .ref aEa, .int br, .int du, .int mi, .int am, .int mb])), (aGr, .inl (G.2.1, 24, .inl (s_rng (4 * h) (i + 1) gr (s_grF ai (s_gz x) go sh gr)))), (aGo, .inl (G.2.1, 24, .inl go)), (aWe, .inl (G.2.1, 24, .inl (s_rng (4 * h) (i + 1) we (s_weF go we)))), (aEa, .inl (G.2.1, 24, .inl (s_rng (4 * h) (i + 1) ea (s_eaF ai (s_gz x) go sh gr ea)))), (o0, .inr (2, [.ref oFa, .ref oWi, .ref oPa, .ref oQu, .ref oSh, .int (nI hk), .int fl, .int ai, .int rn, .int rf, .int rt])), (oPa, .inl (G.2.1, 6, .inl (pN pn))), (oSh, .inl (G.2.1, 24, .inl sh))]) (v_w3 (fun (z0 : Nat → Int32) (z1 : Nat → Int32) (z2 : Nat → Int32) => ([(c0, .inr (0, [.ref o0, .int nv, .ref aCa, .ref aTk, .ref aGr, .ref aGo, .ref aWe, .ref aDr, .ref aEa, .int br, .int du, .int mi, .int am, .int mb])), (aGr, .inl (G.2.1, 24, .inl z0)), (aGo, .inl (G.2.1, 24, .inl go)), (aWe, .inl (G.2.1, 24, .inl z1)), (aEa, .inl (G.2.1, 24, .inl z2)), (o0, .inr (2, [.ref oFa, .ref oWi, .ref oPa, .ref oQu, .ref oSh, .int (nI hk), .int fl, .int ai, .int rn, .int rf, .int rt])), (oPa, .inl (G.2.1, 6, .inl (pN pn))), (oSh, .inl (G.2.1, 24, .inl sh))] : va_W)) (by simp only [upd_upd, pk_us, s_rng_at]; exact s_rng_succ (by simp only [s_grF, s_bite, if_neg h41, Int32.sub_zero])) (s_rng_succ (by unfold s_weF; rw [s_rng_at])) (by simp only [upd_upd, pk_us, s_rng_at]; exact s_rng_succ (by simp only [s_eaF, s_bite, if_neg h41]))) ?_
        refine v_locals (lv' := [(4, .int (nI i + 1)), (3, .int (s_gz x)), (0, .ref c0), (1, .int (nI h)), (2, .int x)]) [0, 2, 3, 4, 5] rfl ?_
        refine v_lveq (lv' := [(4, .int (nI (i + 1))), (3, .int (s_gz x)), (0, .ref c0), (1, .int (nI h)), (2, .int x)]) (v_l1 (fun (z0 : Int32) => ([(4, .int z0), (3, .int (s_gz x)), (0, .ref c0), (1, .int (nI h)), (2, .int x)] : List (Nat × Value))) (nI_1 i)) ?_
        exact ih12 (i + 1) (by omega)
  refine v_world (ws' := [(c0, .inr (0, [.ref o0, .int nv, .ref aCa, .ref aTk, .ref aGr, .ref aGo, .ref aWe, .ref aDr, .ref aEa, .int br, .int du, .int mi, .int am, .int mb])), (aGr, .inl (G.2.1, 24, .inl (s_rng (4 * h) 0 gr (s_grF ai (s_gz x) go sh gr)))), (aGo, .inl (G.2.1, 24, .inl go)), (aWe, .inl (G.2.1, 24, .inl (s_rng (4 * h) 0 we (s_weF go we)))), (aEa, .inl (G.2.1, 24, .inl (s_rng (4 * h) 0 ea (s_eaF ai (s_gz x) go sh gr ea)))), (o0, .inr (2, [.ref oFa, .ref oWi, .ref oPa, .ref oQu, .ref oSh, .int (nI hk), .int fl, .int ai, .int rn, .int rf, .int rt])), (oPa, .inl (G.2.1, 6, .inl (pN pn))), (oSh, .inl (G.2.1, 24, .inl sh))]) (v_w3 (fun (z0 : Nat → Int32) (z1 : Nat → Int32) (z2 : Nat → Int32) => ([(c0, .inr (0, [.ref o0, .int nv, .ref aCa, .ref aTk, .ref aGr, .ref aGo, .ref aWe, .ref aDr, .ref aEa, .int br, .int du, .int mi, .int am, .int mb])), (aGr, .inl (G.2.1, 24, .inl z0)), (aGo, .inl (G.2.1, 24, .inl go)), (aWe, .inl (G.2.1, 24, .inl z1)), (aEa, .inl (G.2.1, 24, .inl z2)), (o0, .inr (2, [.ref oFa, .ref oWi, .ref oPa, .ref oQu, .ref oSh, .int (nI hk), .int fl, .int ai, .int rn, .int rf, .int rt])), (oPa, .inl (G.2.1, 6, .inl (pN pn))), (oSh, .inl (G.2.1, 24, .inl sh))] : va_W)) (s_rng_0 _ _ _) (s_rng_0 _ _ _) (s_rng_0 _ _ _)) ?_
  refine v_lveq (lv' := [(4, .int (nI 0)), (3, .int (s_gz x)), (0, .ref c0), (1, .int (nI h)), (2, .int x)]) (v_l1 (fun (z0 : Int32) => ([(4, .int z0), (3, .int (s_gz x)), (0, .ref c0), (1, .int (nI h)), (2, .int x)] : List (Nat × Value))) nI_0.symm) ?_
  exact loop12 (pn h) 0 (by omega)
end
section
/-! ===== one hour of a course; sums of a farm ===== -/
theorem v_w6 {T0 T1 T2 T3 T4 T5 : Type} (f : T0 → T1 → T2 → T3 → T4 → T5 → va_W) {a0 b0 : T0} {a1 b1 : T1} {a2 b2 : T2} {a3 b3 : T3} {a4 b4 : T4} {a5 b5 : T5} (h0 : a0 = b0) (h1 : a1 = b1) (h2 : a2 = b2) (h3 : a3 = b3) (h4 : a4 = b4) (h5 : a5 = b5) : f a0 a1 a2 a3 a4 a5 = f b0 b1 b2 b3 b4 b5 := by rw [h0, h1, h2, h3, h4, h5]
theorem v_w7 {T0 T1 T2 T3 T4 T5 T6 : Type} (f : T0 → T1 → T2 → T3 → T4 → T5 → T6 → va_W) {a0 b0 : T0} {a1 b1 : T1} {a2 b2 : T2} {a3 b3 : T3} {a4 b4 : T4} {a5 b5 : T5} {a6 b6 : T6} (h0 : a0 = b0) (h1 : a1 = b1) (h2 : a2 = b2) (h3 : a3 = b3) (h4 : a4 = b4) (h5 : a5 = b5) (h6 : a6 = b6) : f a0 a1 a2 a3 a4 a5 a6 = f b0 b1 b2 b3 b4 b5 b6 := by rw [h0, h1, h2, h3, h4, h5, h6]
theorem v_w8 {T0 T1 T2 T3 T4 T5 T6 T7 : Type} (f : T0 → T1 → T2 → T3 → T4 → T5 → T6 → T7 → va_W) {a0 b0 : T0} {a1 b1 : T1} {a2 b2 : T2} {a3 b3 : T3} {a4 b4 : T4} {a5 b5 : T5} {a6 b6 : T6} {a7 b7 : T7} (h0 : a0 = b0) (h1 : a1 = b1) (h2 : a2 = b2) (h3 : a3 = b3) (h4 : a4 = b4) (h5 : a5 = b5) (h6 : a6 = b6) (h7 : a7 = b7) : f a0 a1 a2 a3 a4 a5 a6 a7 = f b0 b1 b2 b3 b4 b5 b6 b7 := by rw [h0, h1, h2, h3, h4, h5, h6, h7]
theorem v_w9 {T0 T1 T2 T3 T4 T5 T6 T7 T8 : Type} (f : T0 → T1 → T2 → T3 → T4 → T5 → T6 → T7 → T8 → va_W) {a0 b0 : T0} {a1 b1 : T1} {a2 b2 : T2} {a3 b3 : T3} {a4 b4 : T4} {a5 b5 : T5} {a6 b6 : T6} {a7 b7 : T7} {a8 b8 : T8} (h0 : a0 = b0) (h1 : a1 = b1) (h2 : a2 = b2) (h3 : a3 = b3) (h4 : a4 = b4) (h5 : a5 = b5) (h6 : a6 = b6) (h7 : a7 = b7) (h8 : a8 = b8) : f a0 a1 a2 a3 a4 a5 a6 a7 a8 = f b0 b1 b2 b3 b4 b5 b6 b7 b8 := by rw [h0, h1, h2, h3, h4, h5, h6, h7, h8]
theorem v_w10 {T0 T1 T2 T3 T4 T5 T6 T7 T8 T9 : Type} (f : T0 → T1 → T2 → T3 → T4 → T5 → T6 → T7 → T8 → T9 → va_W) {a0 b0 : T0} {a1 b1 : T1} {a2 b2 : T2} {a3 b3 : T3} {a4 b4 : T4} {a5 b5 : T5} {a6 b6 : T6} {a7 b7 : T7} {a8 b8 : T8} {a9 b9 : T9} (h0 : a0 = b0) (h1 : a1 = b1) (h2 : a2 = b2) (h3 : a3 = b3) (h4 : a4 = b4) (h5 : a5 = b5) (h6 : a6 = b6) (h7 : a7 = b7) (h8 : a8 = b8) (h9 : a9 = b9) : f a0 a1 a2 a3 a4 a5 a6 a7 a8 a9 = f b0 b1 b2 b3 b4 b5 b6 b7 b8 b9 := by rw [h0, h1, h2, h3, h4, h5, h6, h7, h8, h9]
theorem v_w11 {T0 T1 T2 T3 T4 T5 T6 T7 T8 T9 T10 : Type} (f : T0 → T1 → T2 → T3 → T4 → T5 → T6 → T7 → T8 → T9 → T10 → va_W) {a0 b0 : T0} {a1 b1 : T1} {a2 b2 : T2} {a3 b3 : T3} {a4 b4 : T4} {a5 b5 : T5} {a6 b6 : T6} {a7 b7 : T7} {a8 b8 : T8} {a9 b9 : T9} {a10 b10 : T10} (h0 : a0 = b0) (h1 : a1 = b1) (h2 : a2 = b2) (h3 : a3 = b3) (h4 : a4 = b4) (h5 : a5 = b5) (h6 : a6 = b6) (h7 : a7 = b7) (h8 : a8 = b8) (h9 : a9 = b9) (h10 : a10 = b10) : f a0 a1 a2 a3 a4 a5 a6 a7 a8 a9 a10 = f b0 b1 b2 b3 b4 b5 b6 b7 b8 b9 b10 := by rw [h0, h1, h2, h3, h4, h5, h6, h7, h8, h9, h10]
theorem v_w12 {T0 T1 T2 T3 T4 T5 T6 T7 T8 T9 T10 T11 : Type} (f : T0 → T1 → T2 → T3 → T4 → T5 → T6 → T7 → T8 → T9 → T10 → T11 → va_W) {a0 b0 : T0} {a1 b1 : T1} {a2 b2 : T2} {a3 b3 : T3} {a4 b4 : T4} {a5 b5 : T5} {a6 b6 : T6} {a7 b7 : T7} {a8 b8 : T8} {a9 b9 : T9} {a10 b10 : T10} {a11 b11 : T11} (h0 : a0 = b0) (h1 : a1 = b1) (h2 : a2 = b2) (h3 : a3 = b3) (h4 : a4 = b4) (h5 : a5 = b5) (h6 : a6 = b6) (h7 : a7 = b7) (h8 : a8 = b8) (h9 : a9 = b9) (h10 : a10 = b10) (h11 : a11 = b11) : f a0 a1 a2 a3 a4 a5 a6 a7 a8 a9 a10 a11 = f b0 b1 b2 b3 b4 b5 b6 b7 b8 b9 b10 b11 := by rw [h0, h1, h2, h3, h4, h5, h6, h7, h8, h9, h10, h11]
theorem v_w13 {T0 T1 T2 T3 T4 T5 T6 T7 T8 T9 T10 T11 T12 : Type} (f : T0 → T1 → T2 → T3 → T4 → T5 → T6 → T7 → T8 → T9 → T10 → T11 → T12 → va_W) {a0 b0 : T0} {a1 b1 : T1} {a2 b2 : T2} {a3 b3 : T3} {a4 b4 : T4} {a5 b5 : T5} {a6 b6 : T6} {a7 b7 : T7} {a8 b8 : T8} {a9 b9 : T9} {a10 b10 : T10} {a11 b11 : T11} {a12 b12 : T12} (h0 : a0 = b0) (h1 : a1 = b1) (h2 : a2 = b2) (h3 : a3 = b3) (h4 : a4 = b4) (h5 : a5 = b5) (h6 : a6 = b6) (h7 : a7 = b7) (h8 : a8 = b8) (h9 : a9 = b9) (h10 : a10 = b10) (h11 : a11 = b11) (h12 : a12 = b12) : f a0 a1 a2 a3 a4 a5 a6 a7 a8 a9 a10 a11 a12 = f b0 b1 b2 b3 b4 b5 b6 b7 b8 b9 b10 b11 b12 := by rw [h0, h1, h2, h3, h4, h5, h6, h7, h8, h9, h10, h11, h12]
theorem v_w14 {T0 T1 T2 T3 T4 T5 T6 T7 T8 T9 T10 T11 T12 T13 : Type} (f : T0 → T1 → T2 → T3 → T4 → T5 → T6 → T7 → T8 → T9 → T10 → T11 → T12 → T13 → va_W) {a0 b0 : T0} {a1 b1 : T1} {a2 b2 : T2} {a3 b3 : T3} {a4 b4 : T4} {a5 b5 : T5} {a6 b6 : T6} {a7 b7 : T7} {a8 b8 : T8} {a9 b9 : T9} {a10 b10 : T10} {a11 b11 : T11} {a12 b12 : T12} {a13 b13 : T13} (h0 : a0 = b0) (h1 : a1 = b1) (h2 : a2 = b2) (h3 : a3 = b3) (h4 : a4 = b4) (h5 : a5 = b5) (h6 : a6 = b6) (h7 : a7 = b7) (h8 : a8 = b8) (h9 : a9 = b9) (h10 : a10 = b10) (h11 : a11 = b11) (h12 : a12 = b12) (h13 : a13 = b13) : f a0 a1 a2 a3 a4 a5 a6 a7 a8 a9 a10 a11 a12 a13 = f b0 b1 b2 b3 b4 b5 b6 b7 b8 b9 b10 b11 b12 b13 := by rw [h0, h1, h2, h3, h4, h5, h6, h7, h8, h9, h10, h11, h12, h13]
theorem v_w15 {T0 T1 T2 T3 T4 T5 T6 T7 T8 T9 T10 T11 T12 T13 T14 : Type} (f : T0 → T1 → T2 → T3 → T4 → T5 → T6 → T7 → T8 → T9 → T10 → T11 → T12 → T13 → T14 → va_W) {a0 b0 : T0} {a1 b1 : T1} {a2 b2 : T2} {a3 b3 : T3} {a4 b4 : T4} {a5 b5 : T5} {a6 b6 : T6} {a7 b7 : T7} {a8 b8 : T8} {a9 b9 : T9} {a10 b10 : T10} {a11 b11 : T11} {a12 b12 : T12} {a13 b13 : T13} {a14 b14 : T14} (h0 : a0 = b0) (h1 : a1 = b1) (h2 : a2 = b2) (h3 : a3 = b3) (h4 : a4 = b4) (h5 : a5 = b5) (h6 : a6 = b6) (h7 : a7 = b7) (h8 : a8 = b8) (h9 : a9 = b9) (h10 : a10 = b10) (h11 : a11 = b11) (h12 : a12 = b12) (h13 : a13 = b13) (h14 : a14 = b14) : f a0 a1 a2 a3 a4 a5 a6 a7 a8 a9 a10 a11 a12 a13 a14 = f b0 b1 b2 b3 b4 b5 b6 b7 b8 b9 b10 b11 b12 b13 b14 := by rw [h0, h1, h2, h3, h4, h5, h6, h7, h8, h9, h10, h11, h12, h13, h14]
theorem v_w16 {T0 T1 T2 T3 T4 T5 T6 T7 T8 T9 T10 T11 T12 T13 T14 T15 : Type} (f : T0 → T1 → T2 → T3 → T4 → T5 → T6 → T7 → T8 → T9 → T10 → T11 → T12 → T13 → T14 → T15 → va_W) {a0 b0 : T0} {a1 b1 : T1} {a2 b2 : T2} {a3 b3 : T3} {a4 b4 : T4} {a5 b5 : T5} {a6 b6 : T6} {a7 b7 : T7} {a8 b8 : T8} {a9 b9 : T9} {a10 b10 : T10} {a11 b11 : T11} {a12 b12 : T12} {a13 b13 : T13} {a14 b14 : T14} {a15 b15 : T15} (h0 : a0 = b0) (h1 : a1 = b1) (h2 : a2 = b2) (h3 : a3 = b3) (h4 : a4 = b4) (h5 : a5 = b5) (h6 : a6 = b6) (h7 : a7 = b7) (h8 : a8 = b8) (h9 : a9 = b9) (h10 : a10 = b10) (h11 : a11 = b11) (h12 : a12 = b12) (h13 : a13 = b13) (h14 : a14 = b14) (h15 : a15 = b15) : f a0 a1 a2 a3 a4 a5 a6 a7 a8 a9 a10 a11 a12 a13 a14 a15 = f b0 b1 b2 b3 b4 b5 b6 b7 b8 b9 b10 b11 b12 b13 b14 b15 := by rw [h0, h1, h2, h3, h4, h5, h6, h7, h8, h9, h10, h11, h12, h13, h14, h15]
abbrev PS : Type := (Nat → Int32) × (Nat → Int32) × (Nat → Int32) × (Nat → Int32) × (Nat → Int32) × (Nat → Int32) × (Nat → Int32) × Int32 × Int32
def P_ca (x : PS) : Nat → Int32 := x.1
def P_tk (x : PS) : Nat → Int32 := x.2.1
def P_gr (x : PS) : Nat → Int32 := x.2.2.1
def P_go (x : PS) : Nat → Int32 := x.2.2.2.1
def P_we (x : PS) : Nat → Int32 := x.2.2.2.2.1
def P_dr (x : PS) : Nat → Int32 := x.2.2.2.2.2.1
def P_ea (x : PS) : Nat → Int32 := x.2.2.2.2.2.2.1
def P_du (x : PS) : Int32 := x.2.2.2.2.2.2.2.1
def P_w (x : PS) : Int32 := x.2.2.2.2.2.2.2.2
/-- one hatch of one hour, t what it takes -/
def s_hatT (ai gz : Int32) (sh : Nat → Int32) (pn : Nat → Nat) (h : Nat) (x : PS) (t : Int32) : PS :=
  (upd (P_ca x) h (P_ca x h + t), upd (P_tk x) h t,
   s_rng (4 * h) (pn h) (P_gr x) (s_grF ai gz (s_rng (4 * h) (pn h) (P_go x) (s_gotF h t (nI (pn h)))) sh (P_gr x)),
   s_rng (4 * h) (pn h) (P_go x) (s_gotF h t (nI (pn h))),
   s_rng (4 * h) (pn h) (P_we x) (s_weF (s_rng (4 * h) (pn h) (P_go x) (s_gotF h t (nI (pn h)))) (P_we x)),
   s_rng (4 * h) (pn h) (P_dr x) (s_drF h t (nI (pn h)) (P_dr x)),
   s_rng (4 * h) (pn h) (P_ea x) (s_eaF ai gz (s_rng (4 * h) (pn h) (P_go x) (s_gotF h t (nI (pn h)))) sh (P_gr x) (P_ea x)),
   P_du x + s_sips t (nI (pn h)) (pn h), P_w x - s_sips t (nI (pn h)) (pn h))
def s_hat (nv ai gz : Int32) (wi qu sh : Nat → Int32) (pn : Nat → Nat) (h : Nat) (x : PS) : PS := s_hatT ai gz sh pn h x (s_take nv (nI h) (P_w x) (qu h) (wi h) (P_ca x h))
def s_run (nv ai gz : Int32) (wi qu sh : Nat → Int32) (pn : Nat → Nat) : Nat → PS → PS
  | 0, x => x
  | h + 1, x => s_hat nv ai gz wi qu sh pn h (s_run nv ai gz wi qu sh pn h x)
def s_mb (am ra mb : Int32) : Int32 := if s_short am ra = 0 then mb else mb + 1
def s_sumP (S : Int32) (f : Nat → Int32) (h : Nat) : Nat → Int32
  | 0 => S
  | p + 1 => s_sumP S f h p + f (4 * h + p)
def s_farmS (fa : Nat → Int32) (pn : Nat → Nat) (f : Nat → Int32) (x : Int32) : Nat → Int32
  | 0 => 0
  | h + 1 => if fa h = x then s_sumP (s_farmS fa pn f x h) f h (pn h) else s_farmS fa pn f x h

set_option maxRecDepth 100000 in
set_option maxHeartbeats 4000000 in
theorem c_X0_passHour (l : Launch) (G : v_Cfg) (c0 : Nat) (o0 : Nat) (nv : Int32) (aCa : Nat) (aTk : Nat) (aGr : Nat) (aGo : Nat) (aWe : Nat) (aDr : Nat) (aEa : Nat) (br : Int32) (du : Int32) (mi : Int32) (am : Int32) (mb : Int32) (oFa : Nat) (oWi : Nat) (oPa : Nat) (oQu : Nat) (oSh : Nat) (hk : Nat) (fl : Int32) (ai : Int32) (rn : Int32) (rf : Int32) (rt : Int32) (ca : Nat → Int32) (tk : Nat → Int32) (gr : Nat → Int32) (go : Nat → Int32) (we : Nat → Int32) (dr : Nat → Int32) (ea : Nat → Int32) (wi : Nat → Int32) (qu : Nat → Int32) (sh : Nat → Int32) (pn : Nat → Nat) (x : Int32) (hk6 : hk ≤ 6) (hpn : ∀ h, h < hk → 1 ≤ pn h ∧ pn h ≤ 4) : MuV l G yX0_passHour cX0_passHour 4 none 3 [.ref c0, .int x] [(c0, .inr (0, [.ref o0, .int nv, .ref aCa, .ref aTk, .ref aGr, .ref aGo, .ref aWe, .ref aDr, .ref aEa, .int br, .int du, .int mi, .int am, .int mb])), (aCa, .inl (G.2.1, 6, .inl ca)), (aTk, .inl (G.2.1, 6, .inl tk)), (aGr, .inl (G.2.1, 24, .inl gr)), (aGo, .inl (G.2.1, 24, .inl go)), (aWe, .inl (G.2.1, 24, .inl we)), (aDr, .inl (G.2.1, 24, .inl dr)), (aEa, .inl (G.2.1, 24, .inl ea)), (o0, .inr (2, [.ref oFa, .ref oWi, .ref oPa, .ref oQu, .ref oSh, .int (nI hk), .int fl, .int ai, .int rn, .int rf, .int rt])), (oWi, .inl (G.2.1, 6, .inl wi)), (oPa, .inl (G.2.1, 6, .inl (pN pn))), (oQu, .inl (G.2.1, 6, .inl qu)), (oSh, .inl (G.2.1, 24, .inl sh))] [(c0, .inr (0, [.ref o0, .int nv, .ref aCa, .ref aTk, .ref aGr, .ref aGo, .ref aWe, .ref aDr, .ref aEa, .int (br + fl), .int (P_du (s_run nv ai (s_gz x) wi qu sh pn hk (ca, tk, gr, go, we, dr, ea, du, fl))), .int (mi + (P_w (s_run nv ai (s_gz x) wi qu sh pn hk (ca, tk, gr, go, we, dr, ea, du, fl)))), .int ((P_w (s_run nv ai (s_gz x) wi qu sh pn hk (ca, tk, gr, go, we, dr, ea, du, fl)))), .int (s_mb (P_w (s_run nv ai (s_gz x) wi qu sh pn hk (ca, tk, gr, go, we, dr, ea, du, fl))) (s_ra fl rn rf rt x) mb)])), (aCa, .inl (G.2.1, 6, .inl (P_ca (s_run nv ai (s_gz x) wi qu sh pn hk (ca, tk, gr, go, we, dr, ea, du, fl))))), (aTk, .inl (G.2.1, 6, .inl (P_tk (s_run nv ai (s_gz x) wi qu sh pn hk (ca, tk, gr, go, we, dr, ea, du, fl))))), (aGr, .inl (G.2.1, 24, .inl (P_gr (s_run nv ai (s_gz x) wi qu sh pn hk (ca, tk, gr, go, we, dr, ea, du, fl))))), (aGo, .inl (G.2.1, 24, .inl (P_go (s_run nv ai (s_gz x) wi qu sh pn hk (ca, tk, gr, go, we, dr, ea, du, fl))))), (aWe, .inl (G.2.1, 24, .inl (P_we (s_run nv ai (s_gz x) wi qu sh pn hk (ca, tk, gr, go, we, dr, ea, du, fl))))), (aDr, .inl (G.2.1, 24, .inl (P_dr (s_run nv ai (s_gz x) wi qu sh pn hk (ca, tk, gr, go, we, dr, ea, du, fl))))), (aEa, .inl (G.2.1, 24, .inl (P_ea (s_run nv ai (s_gz x) wi qu sh pn hk (ca, tk, gr, go, we, dr, ea, du, fl))))), (o0, .inr (2, [.ref oFa, .ref oWi, .ref oPa, .ref oQu, .ref oSh, .int (nI hk), .int fl, .int ai, .int rn, .int rf, .int rt])), (oWi, .inl (G.2.1, 6, .inl wi)), (oPa, .inl (G.2.1, 6, .inl (pN pn))), (oQu, .inl (G.2.1, 6, .inl qu)), (oSh, .inl (G.2.1, 24, .inl sh))] := by
  refine MuV.of (own := RX0) (by decide) rfl (Nat.le_of_ble_eq_true rfl) (fun p e s m below meth c => ?_)
  refine v_aload_n dX0_passHour_0 rfl 0 rfl ?_
  refine v_get fX0_33 dX0_passHour_1 0 rfl rfl ?_
  refine v_get fX0_56 dX0_passHour_4 8 rfl rfl ?_
  refine v_istore_n (lv' := [(2, .int fl), (0, .ref c0), (1, .int x)]) dX0_passHour_7 rfl (by decide) rfl ?_
  refine v_aload_n dX0_passHour_8 rfl 1 rfl ?_
  refine v_dup dX0_passHour_9 rfl ?_
  refine v_get fX0_59 dX0_passHour_10 0 rfl rfl ?_
  refine v_iload_n dX0_passHour_13 rfl 0 rfl ?_
  refine v_iadd dX0_passHour_14 ?_
  refine v_puti (ws' := [(c0, .inr (0, [.ref o0, .int nv, .ref aCa, .ref aTk, .ref aGr, .ref aGo, .ref aWe, .ref aDr, .ref aEa, .int (br + fl), .int du, .int mi, .int am, .int mb])), (aCa, .inl (G.2.1, 6, .inl ca)), (aTk, .inl (G.2.1, 6, .inl tk)), (aGr, .inl (G.2.1, 24, .inl gr)), (aGo, .inl (G.2.1, 24, .inl go)), (aWe, .inl (G.2.1, 24, .inl we)), (aDr, .inl (G.2.1, 24, .inl dr)), (aEa, .inl (G.2.1, 24, .inl ea)), (o0, .inr (2, [.ref oFa, .ref oWi, .ref oPa, .ref oQu, .ref oSh, .int (nI hk), .int fl, .int ai, .int rn, .int rf, .int rt])), (oWi, .inl (G.2.1, 6, .inl wi)), (oPa, .inl (G.2.1, 6, .inl (pN pn))), (oQu, .inl (G.2.1, 6, .inl qu)), (oSh, .inl (G.2.1, 24, .inl sh))]) pX0_59 dX0_passHour_15 0 rfl (Nat.le_of_ble_eq_true rfl) rfl ?_
  refine v_iconst (v := 0) dX0_passHour_18 (by decide) ?_
  refine v_istore_n (lv' := [(3, .int 0), (2, .int fl), (0, .ref c0), (1, .int x)]) dX0_passHour_19 rfl (by decide) rfl ?_
  have loop20 : ∀ (k20 i : Nat), i + k20 = hk → V p l e (rmk 3) s m #[.ref c0, .int x] below meth c (MQ below (v_Qv G [(c0, .inr (0, [.ref o0, .int nv, .ref aCa, .ref aTk, .ref aGr, .ref aGo, .ref aWe, .ref aDr, .ref aEa, .int br, .int du, .int mi, .int am, .int mb])), (aCa, .inl (G.2.1, 6, .inl ca)), (aTk, .inl (G.2.1, 6, .inl tk)), (aGr, .inl (G.2.1, 24, .inl gr)), (aGo, .inl (G.2.1, 24, .inl go)), (aWe, .inl (G.2.1, 24, .inl we)), (aDr, .inl (G.2.1, 24, .inl dr)), (aEa, .inl (G.2.1, 24, .inl ea)), (o0, .inr (2, [.ref oFa, .ref oWi, .ref oPa, .ref oQu, .ref oSh, .int (nI hk), .int fl, .int ai, .int rn, .int rf, .int rt])), (oWi, .inl (G.2.1, 6, .inl wi)), (oPa, .inl (G.2.1, 6, .inl (pN pn))), (oQu, .inl (G.2.1, 6, .inl qu)), (oSh, .inl (G.2.1, 24, .inl sh))] [(c0, .inr (0, [.ref o0, .int nv, .ref aCa, .ref aTk, .ref aGr, .ref aGo, .ref aWe, .ref aDr, .ref aEa, .int (br + fl), .int (P_du (s_run nv ai (s_gz x) wi qu sh pn hk (ca, tk, gr, go, we, dr, ea, du, fl))), .int (mi + (P_w (s_run nv ai (s_gz x) wi qu sh pn hk (ca, tk, gr, go, we, dr, ea, du, fl)))), .int ((P_w (s_run nv ai (s_gz x) wi qu sh pn hk (ca, tk, gr, go, we, dr, ea, du, fl)))), .int (s_mb (P_w (s_run nv ai (s_gz x) wi qu sh pn hk (ca, tk, gr, go, we, dr, ea, du, fl))) (s_ra fl rn rf rt x) mb)])), (aCa, .inl (G.2.1, 6, .inl (P_ca (s_run nv ai (s_gz x) wi qu sh pn hk (ca, tk, gr, go, we, dr, ea, du, fl))))), (aTk, .inl (G.2.1, 6, .inl (P_tk (s_run nv ai (s_gz x) wi qu sh pn hk (ca, tk, gr, go, we, dr, ea, du, fl))))), (aGr, .inl (G.2.1, 24, .inl (P_gr (s_run nv ai (s_gz x) wi qu sh pn hk (ca, tk, gr, go, we, dr, ea, du, fl))))), (aGo, .inl (G.2.1, 24, .inl (P_go (s_run nv ai (s_gz x) wi qu sh pn hk (ca, tk, gr, go, we, dr, ea, du, fl))))), (aWe, .inl (G.2.1, 24, .inl (P_we (s_run nv ai (s_gz x) wi qu sh pn hk (ca, tk, gr, go, we, dr, ea, du, fl))))), (aDr, .inl (G.2.1, 24, .inl (P_dr (s_run nv ai (s_gz x) wi qu sh pn hk (ca, tk, gr, go, we, dr, ea, du, fl))))), (aEa, .inl (G.2.1, 24, .inl (P_ea (s_run nv ai (s_gz x) wi qu sh pn hk (ca, tk, gr, go, we, dr, ea, du, fl))))), (o0, .inr (2, [.ref oFa, .ref oWi, .ref oPa, .ref oQu, .ref oSh, .int (nI hk), .int fl, .int ai, .int rn, .int rf, .int rt])), (oWi, .inl (G.2.1, 6, .inl wi)), (oPa, .inl (G.2.1, 6, .inl (pN pn))), (oQu, .inl (G.2.1, 6, .inl qu)), (oSh, .inl (G.2.1, 24, .inl sh))]) #[.ref c0, .int x] s 0 0 (v_in [(c0, .inr (0, [.ref o0, .int nv, .ref aCa, .ref aTk, .ref aGr, .ref aGo, .ref aWe, .ref aDr, .ref aEa, .int br, .int du, .int mi, .int am, .int mb])), (aCa, .inl (G.2.1, 6, .inl ca)), (aTk, .inl (G.2.1, 6, .inl tk)), (aGr, .inl (G.2.1, 24, .inl gr)), (aGo, .inl (G.2.1, 24, .inl go)), (aWe, .inl (G.2.1, 24, .inl we)), (aDr, .inl (G.2.1, 24, .inl dr)), (aEa, .inl (G.2.1, 24, .inl ea)), (o0, .inr (2, [.ref oFa, .ref oWi, .ref oPa, .ref oQu, .ref oSh, .int (nI hk), .int fl, .int ai, .int rn, .int rf, .int rt])), (oWi, .inl (G.2.1, 6, .inl wi)), (oPa, .inl (G.2.1, 6, .inl (pN pn))), (oQu, .inl (G.2.1, 6, .inl qu)), (oSh, .inl (G.2.1, 24, .inl sh))])) G (v_Iw (v_in [(c0, .inr (0, [.ref o0, .int nv, .ref aCa, .ref aTk, .ref aGr, .ref aGo, .ref aWe, .ref aDr, .ref aEa, .int br, .int du, .int mi, .int am, .int mb])), (aCa, .inl (G.2.1, 6, .inl ca)), (aTk, .inl (G.2.1, 6, .inl tk)), (aGr, .inl (G.2.1, 24, .inl gr)), (aGo, .inl (G.2.1, 24, .inl go)), (aWe, .inl (G.2.1, 24, .inl we)), (aDr, .inl (G.2.1, 24, .inl dr)), (aEa, .inl (G.2.1, 24, .inl ea)), (o0, .inr (2, [.ref oFa, .ref oWi, .ref oPa, .ref oQu, .ref oSh, .int (nI hk), .int fl, .int ai, .int rn, .int rf, .int rt])), (oWi, .inl (G.2.1, 6, .inl wi)), (oPa, .inl (G.2.1, 6, .inl (pN pn))), (oQu, .inl (G.2.1, 6, .inl qu)), (oSh, .inl (G.2.1, 24, .inl sh))]) s) cX0_passHour RX0 4 none [(c0, .inr (0, [.ref o0, .int nv, .ref aCa, .ref aTk, .ref aGr, .ref aGo, .ref aWe, .ref aDr, .ref aEa, .int (br + fl), .int (P_du (s_run nv ai (s_gz x) wi qu sh pn i (ca, tk, gr, go, we, dr, ea, du, fl))), .int mi, .int am, .int mb])), (aCa, .inl (G.2.1, 6, .inl (P_ca (s_run nv ai (s_gz x) wi qu sh pn i (ca, tk, gr, go, we, dr, ea, du, fl))))), (aTk, .inl (G.2.1, 6, .inl (P_tk (s_run nv ai (s_gz x) wi qu sh pn i (ca, tk, gr, go, we, dr, ea, du, fl))))), (aGr, .inl (G.2.1, 24, .inl (P_gr (s_run nv ai (s_gz x) wi qu sh pn i (ca, tk, gr, go, we, dr, ea, du, fl))))), (aGo, .inl (G.2.1, 24, .inl (P_go (s_run nv ai (s_gz x) wi qu sh pn i (ca, tk, gr, go, we, dr, ea, du, fl))))), (aWe, .inl (G.2.1, 24, .inl (P_we (s_run nv ai (s_gz x) wi qu sh pn i (ca, tk, gr, go, we, dr, ea, du, fl))))), (aDr, .inl (G.2.1, 24, .inl (P_dr (s_run nv ai (s_gz x) wi qu sh pn i (ca, tk, gr, go, we, dr, ea, du, fl))))), (aEa, .inl (G.2.1, 24, .inl (P_ea (s_run nv ai (s_gz x) wi qu sh pn i (ca, tk, gr, go, we, dr, ea, du, fl))))), (o0, .inr (2, [.ref oFa, .ref oWi, .ref oPa, .ref oQu, .ref oSh, .int (nI hk), .int fl, .int ai, .int rn, .int rf, .int rt])), (oWi, .inl (G.2.1, 6, .inl wi)), (oPa, .inl (G.2.1, 6, .inl (pN pn))), (oQu, .inl (G.2.1, 6, .inl qu)), (oSh, .inl (G.2.1, 24, .inl sh))] 0 0 [(3, .int (nI i)), (2, .int (P_w (s_run nv ai (s_gz x) wi qu sh pn i (ca, tk, gr, go, we, dr, ea, du, fl)))), (0, .ref c0), (1, .int x)] 20 [] := by
    intro k20
    induction k20 with
    | zero =>
      intro i hi20
      have hi20 : i = hk := by omega
      rw [hi20]
      refine v_iload_n dX0_passHour_20 rfl 0 rfl ?_
      refine v_aload_n dX0_passHour_21 rfl 2 rfl ?_
      refine v_get fX0_33 dX0_passHour_22 0 rfl rfl ?_
      refine v_get fX0_62 dX0_passHour_25 8 rfl rfl ?_
      refine v_icmp_ge (tgt := 57) dX0_passHour_28 (by decide) (fun h28 => ?_) (fun h28 => absurd (nI_le (by omega) (by omega)) h28)
      refine v_aload_n dX0_passHour_57 rfl 2 rfl ?_
      refine v_iload_n dX0_passHour_58 rfl 1 rfl ?_
      refine v_puti (ws' := [(c0, .inr (0, [.ref o0, .int nv, .ref aCa, .ref aTk, .ref aGr, .ref aGo, .ref aWe, .ref aDr, .ref aEa, .int (br + fl), .int (P_du (s_run nv ai (s_gz x) wi qu sh pn hk (ca, tk, gr, go, we, dr, ea, du, fl))), .int mi, .int (P_w (s_run nv ai (s_gz x) wi qu sh pn hk (ca, tk, gr, go, we, dr, ea, du, fl))), .int mb])), (aCa, .inl (G.2.1, 6, .inl (P_ca (s_run nv ai (s_gz x) wi qu sh pn hk (ca, tk, gr, go, we, dr, ea, du, fl))))), (aTk, .inl (G.2.1, 6, .inl (P_tk (s_run nv ai (s_gz x) wi qu sh pn hk (ca, tk, gr, go, we, dr, ea, du, fl))))), (aGr, .inl (G.2.1, 24, .inl (P_gr (s_run nv ai (s_gz x) wi qu sh pn hk (ca, tk, gr, go, we, dr, ea, du, fl))))), (aGo, .inl (G.2.1, 24, .inl (P_go (s_run nv ai (s_gz x) wi qu sh pn hk (ca, tk, gr, go, we, dr, ea, du, fl))))), (aWe, .inl (G.2.1, 24, .inl (P_we (s_run nv ai (s_gz x) wi qu sh pn hk (ca, tk, gr, go, we, dr, ea, du, fl))))), (aDr, .inl (G.2.1, 24, .inl (P_dr (s_run nv ai (s_gz x) wi qu sh pn hk (ca, tk, gr, go, we, dr, ea, du, fl))))), (aEa, .inl (G.2.1, 24, .inl (P_ea (s_run nv ai (s_gz x) wi qu sh pn hk (ca, tk, gr, go, we, dr, ea, du, fl))))), (o0, .inr (2, [.ref oFa, .ref oWi, .ref oPa, .ref oQu, .ref oSh, .int (nI hk), .int fl, .int ai, .int rn, .int rf, .int rt])), (oWi, .inl (G.2.1, 6, .inl wi)), (oPa, .inl (G.2.1, 6, .inl (pN pn))), (oQu, .inl (G.2.1, 6, .inl qu)), (oSh, .inl (G.2.1, 24, .inl sh))]) pX0_75 dX0_passHour_59 0 rfl (Nat.le_of_ble_eq_true rfl) rfl ?_
      refine v_aload_n dX0_passHour_62 rfl 2 rfl ?_
      refine v_dup dX0_passHour_63 rfl ?_
      refine v_get fX0_78 dX0_passHour_64 0 rfl rfl ?_
      refine v_iload_n dX0_passHour_67 rfl 1 rfl ?_
      refine v_iadd dX0_passHour_68 ?_
      refine v_puti (ws' := [(c0, .inr (0, [.ref o0, .int nv, .ref aCa, .ref aTk, .ref aGr, .ref aGo, .ref aWe, .ref aDr, .ref aEa, .int (br + fl), .int (P_du (s_run nv ai (s_gz x) wi qu sh pn hk (ca, tk, gr, go, we, dr, ea, du, fl))), .int (mi + (P_w (s_run nv ai (s_gz x) wi qu sh pn hk (ca, tk, gr, go, we, dr, ea, du, fl)))), .int (P_w (s_run nv ai (s_gz x) wi qu sh pn hk (ca, tk, gr, go, we, dr, ea, du, fl))), .int mb])), (aCa, .inl (G.2.1, 6, .inl (P_ca (s_run nv ai (s_gz x) wi qu sh pn hk (ca, tk, gr, go, we, dr, ea, du, fl))))), (aTk, .inl (G.2.1, 6, .inl (P_tk (s_run nv ai (s_gz x) wi qu sh pn hk (ca, tk, gr, go, we, dr, ea, du, fl))))), (aGr, .inl (G.2.1, 24, .inl (P_gr (s_run nv ai (s_gz x) wi qu sh pn hk (ca, tk, gr, go, we, dr, ea, du, fl))))), (aGo, .inl (G.2.1, 24, .inl (P_go (s_run nv ai (s_gz x) wi qu sh pn hk (ca, tk, gr, go, we, dr, ea, du, fl))))), (aWe, .inl (G.2.1, 24, .inl (P_we (s_run nv ai (s_gz x) wi qu sh pn hk (ca, tk, gr, go, we, dr, ea, du, fl))))), (aDr, .inl (G.2.1, 24, .inl (P_dr (s_run nv ai (s_gz x) wi qu sh pn hk (ca, tk, gr, go, we, dr, ea, du, fl))))), (aEa, .inl (G.2.1, 24, .inl (P_ea (s_run nv ai (s_gz x) wi qu sh pn hk (ca, tk, gr, go, we, dr, ea, du, fl))))), (o0, .inr (2, [.ref oFa, .ref oWi, .ref oPa, .ref oQu, .ref oSh, .int (nI hk), .int fl, .int ai, .int rn, .int rf, .int rt])), (oWi, .inl (G.2.1, 6, .inl wi)), (oPa, .inl (G.2.1, 6, .inl (pN pn))), (oQu, .inl (G.2.1, 6, .inl qu)), (oSh, .inl (G.2.1, 24, .inl sh))]) pX0_78 dX0_passHour_69 0 rfl (Nat.le_of_ble_eq_true rfl) rfl ?_
      refine v_aload_n dX0_passHour_72 rfl 2 rfl ?_
      refine v_iload_n dX0_passHour_73 rfl 3 rfl ?_
      refine v_vRd (As := [.int x]) (rest := []) (c_X0_isMillShort l G c0 o0 nv aCa aTk aGr aGo aWe aDr aEa (br + fl) (P_du (s_run nv ai (s_gz x) wi qu sh pn hk (ca, tk, gr, go, we, dr, ea, du, fl))) (mi + (P_w (s_run nv ai (s_gz x) wi qu sh pn hk (ca, tk, gr, go, we, dr, ea, du, fl)))) (P_w (s_run nv ai (s_gz x) wi qu sh pn hk (ca, tk, gr, go, we, dr, ea, du, fl))) mb oFa oWi oPa oQu oSh hk fl ai rn rf rt x ) YX0_isMillShort mX0_81 dX0_passHour_74 ciX0 0 rfl [0, 8] rfl rfl rfl (Nat.le_of_ble_eq_true rfl) (by decide) (by decide) ?_
      refine v_if_eq (tgt := 90) dX0_passHour_77 (by decide) (fun h77 => ?_) (fun h77 => ?_)
      · skip
        exact v_vretM dX0_passHour_90 (v_w1 (fun (z0 : Int32) => ([(c0, .inr (0, [.ref o0, .int nv, .ref aCa, .ref aTk, .ref aGr, .ref aGo, .ref aWe, .ref aDr, .ref aEa, .int (br + fl), .int (P_du (s_run nv ai (s_gz x) wi qu sh pn hk (ca, tk, gr, go, we, dr, ea, du, fl))), .int (mi + (P_w (s_run nv ai (s_gz x) wi qu sh pn hk (ca, tk, gr, go, we, dr, ea, du, fl)))), .int (P_w (s_run nv ai (s_gz x) wi qu sh pn hk (ca, tk, gr, go, we, dr, ea, du, fl))), .int z0])), (aCa, .inl (G.2.1, 6, .inl (P_ca (s_run nv ai (s_gz x) wi qu sh pn hk (ca, tk, gr, go, we, dr, ea, du, fl))))), (aTk, .inl (G.2.1, 6, .inl (P_tk (s_run nv ai (s_gz x) wi qu sh pn hk (ca, tk, gr, go, we, dr, ea, du, fl))))), (aGr, .inl (G.2.1, 24, .inl (P_gr (s_run nv ai (s_gz x) wi qu sh pn hk (ca, tk, gr, go, we, dr, ea, du, fl))))), (aGo, .inl (G.2.1, 24, .inl (P_go (s_run nv ai (s_gz x) wi qu sh pn hk (ca, tk, gr, go, we, dr, ea, du, fl))))), (aWe, .inl (G.2.1, 24, .inl (P_we (s_run nv ai (s_gz x) wi qu sh pn hk (ca, tk, gr, go, we, dr, ea, du, fl))))), (aDr, .inl (G.2.1, 24, .inl (P_dr (s_run nv ai (s_gz x) wi qu sh pn hk (ca, tk, gr, go, we, dr, ea, du, fl))))), (aEa, .inl (G.2.1, 24, .inl (P_ea (s_run nv ai (s_gz x) wi qu sh pn hk (ca, tk, gr, go, we, dr, ea, du, fl))))), (o0, .inr (2, [.ref oFa, .ref oWi, .ref oPa, .ref oQu, .ref oSh, .int (nI hk), .int fl, .int ai, .int rn, .int rf, .int rt])), (oWi, .inl (G.2.1, 6, .inl wi)), (oPa, .inl (G.2.1, 6, .inl (pN pn))), (oQu, .inl (G.2.1, 6, .inl qu)), (oSh, .inl (G.2.1, 24, .inl sh))] : va_W)) (by simp only [s_mb, if_pos h77, u_id] <;> rfl))
      · skip
        refine v_aload_n dX0_passHour_80 rfl 2 rfl ?_
        refine v_dup dX0_passHour_81 rfl ?_
        refine v_get fX0_85 dX0_passHour_82 0 rfl rfl ?_
        refine v_iconst (v := 1) dX0_passHour_85 (by decide) ?_
        refine v_iadd dX0_passHour_86 ?_
        refine v_puti (ws' := [(c0, .inr (0, [.ref o0, .int nv, .ref aCa, .ref aTk, .ref aGr, .ref aGo, .ref aWe, .ref aDr, .ref aEa, .int (br + fl), .int (P_du (s_run nv ai (s_gz x) wi qu sh pn hk (ca, tk, gr, go, we, dr, ea, du, fl))), .int (mi + (P_w (s_run nv ai (s_gz x) wi qu sh pn hk (ca, tk, gr, go, we, dr, ea, du, fl)))), .int (P_w (s_run nv ai (s_gz x) wi qu sh pn hk (ca, tk, gr, go, we, dr, ea, du, fl))), .int (mb + 1)])), (aCa, .inl (G.2.1, 6, .inl (P_ca (s_run nv ai (s_gz x) wi qu sh pn hk (ca, tk, gr, go, we, dr, ea, du, fl))))), (aTk, .inl (G.2.1, 6, .inl (P_tk (s_run nv ai (s_gz x) wi qu sh pn hk (ca, tk, gr, go, we, dr, ea, du, fl))))), (aGr, .inl (G.2.1, 24, .inl (P_gr (s_run nv ai (s_gz x) wi qu sh pn hk (ca, tk, gr, go, we, dr, ea, du, fl))))), (aGo, .inl (G.2.1, 24, .inl (P_go (s_run nv ai (s_gz x) wi qu sh pn hk (ca, tk, gr, go, we, dr, ea, du, fl))))), (aWe, .inl (G.2.1, 24, .inl (P_we (s_run nv ai (s_gz x) wi qu sh pn hk (ca, tk, gr, go, we, dr, ea, du, fl))))), (aDr, .inl (G.2.1, 24, .inl (P_dr (s_run nv ai (s_gz x) wi qu sh pn hk (ca, tk, gr, go, we, dr, ea, du, fl))))), (aEa, .inl (G.2.1, 24, .inl (P_ea (s_run nv ai (s_gz x) wi qu sh pn hk (ca, tk, gr, go, we, dr, ea, du, fl))))), (o0, .inr (2, [.ref oFa, .ref oWi, .ref oPa, .ref oQu, .ref oSh, .int (nI hk), .int fl, .int ai, .int rn, .int rf, .int rt])), (oWi, .inl (G.2.1, 6, .inl wi)), (oPa, .inl (G.2.1, 6, .inl (pN pn))), (oQu, .inl (G.2.1, 6, .inl qu)), (oSh, .inl (G.2.1, 24, .inl sh))]) pX0_85 dX0_passHour_87 0 rfl (Nat.le_of_ble_eq_true rfl) rfl ?_
        exact v_vretM dX0_passHour_90 (v_w1 (fun (z0 : Int32) => ([(c0, .inr (0, [.ref o0, .int nv, .ref aCa, .ref aTk, .ref aGr, .ref aGo, .ref aWe, .ref aDr, .ref aEa, .int (br + fl), .int (P_du (s_run nv ai (s_gz x) wi qu sh pn hk (ca, tk, gr, go, we, dr, ea, du, fl))), .int (mi + (P_w (s_run nv ai (s_gz x) wi qu sh pn hk (ca, tk, gr, go, we, dr, ea, du, fl)))), .int (P_w (s_run nv ai (s_gz x) wi qu sh pn hk (ca, tk, gr, go, we, dr, ea, du, fl))), .int z0])), (aCa, .inl (G.2.1, 6, .inl (P_ca (s_run nv ai (s_gz x) wi qu sh pn hk (ca, tk, gr, go, we, dr, ea, du, fl))))), (aTk, .inl (G.2.1, 6, .inl (P_tk (s_run nv ai (s_gz x) wi qu sh pn hk (ca, tk, gr, go, we, dr, ea, du, fl))))), (aGr, .inl (G.2.1, 24, .inl (P_gr (s_run nv ai (s_gz x) wi qu sh pn hk (ca, tk, gr, go, we, dr, ea, du, fl))))), (aGo, .inl (G.2.1, 24, .inl (P_go (s_run nv ai (s_gz x) wi qu sh pn hk (ca, tk, gr, go, we, dr, ea, du, fl))))), (aWe, .inl (G.2.1, 24, .inl (P_we (s_run nv ai (s_gz x) wi qu sh pn hk (ca, tk, gr, go, we, dr, ea, du, fl))))), (aDr, .inl (G.2.1, 24, .inl (P_dr (s_run nv ai (s_gz x) wi qu sh pn hk (ca, tk, gr, go, we, dr, ea, du, fl))))), (aEa, .inl (G.2.1, 24, .inl (P_ea (s_run nv ai (s_gz x) wi qu sh pn hk (ca, tk, gr, go, we, dr, ea, du, fl))))), (o0, .inr (2, [.ref oFa, .ref oWi, .ref oPa, .ref oQu, .ref oSh, .int (nI hk), .int fl, .int ai, .int rn, .int rf, .int rt])), (oWi, .inl (G.2.1, 6, .inl wi)), (oPa, .inl (G.2.1, 6, .inl (pN pn))), (oQu, .inl (G.2.1, 6, .inl qu)), (oSh, .inl (G.2.1, 24, .inl sh))] : va_W)) (by simp only [s_mb, if_neg h77, u_id] <;> rfl))
    | succ k20 ih20 =>
      intro i hi20
      refine v_iload_n dX0_passHour_20 rfl 0 rfl ?_
      refine v_aload_n dX0_passHour_21 rfl 2 rfl ?_
      refine v_get fX0_33 dX0_passHour_22 0 rfl rfl ?_
      refine v_get fX0_62 dX0_passHour_25 8 rfl rfl ?_
      refine v_icmp_ge (tgt := 57) dX0_passHour_28 (by decide) (fun h28 => absurd h28 (nI_ge (by omega) (by omega))) (fun h28 => ?_)
      refine v_aload_n dX0_passHour_31 rfl 2 rfl ?_
      refine v_iload_n dX0_passHour_32 rfl 0 rfl ?_
      refine v_iload_n dX0_passHour_33 rfl 1 rfl ?_
      refine v_vMv (ws' := [(c0, .inr (0, [.ref o0, .int nv, .ref aCa, .ref aTk, .ref aGr, .ref aGo, .ref aWe, .ref aDr, .ref aEa, .int (br + fl), .int (P_du (s_run nv ai (s_gz x) wi qu sh pn i (ca, tk, gr, go, we, dr, ea, du, fl))), .int mi, .int am, .int mb])), (aCa, .inl (G.2.1, 6, .inl (upd (P_ca (s_run nv ai (s_gz x) wi qu sh pn i (ca, tk, gr, go, we, dr, ea, du, fl))) i ((P_ca (s_run nv ai (s_gz x) wi qu sh pn i (ca, tk, gr, go, we, dr, ea, du, fl))) i + s_take nv (nI i) (P_w (s_run nv ai (s_gz x) wi qu sh pn i (ca, tk, gr, go, we, dr, ea, du, fl))) (qu i) (wi i) ((P_ca (s_run nv ai (s_gz x) wi qu sh pn i (ca, tk, gr, go, we, dr, ea, du, fl))) i))))), (aTk, .inl (G.2.1, 6, .inl (upd (P_tk (s_run nv ai (s_gz x) wi qu sh pn i (ca, tk, gr, go, we, dr, ea, du, fl))) i (s_take nv (nI i) (P_w (s_run nv ai (s_gz x) wi qu sh pn i (ca, tk, gr, go, we, dr, ea, du, fl))) (qu i) (wi i) ((P_ca (s_run nv ai (s_gz x) wi qu sh pn i (ca, tk, gr, go, we, dr, ea, du, fl))) i))))), (aGr, .inl (G.2.1, 24, .inl (P_gr (s_run nv ai (s_gz x) wi qu sh pn i (ca, tk, gr, go, we, dr, ea, du, fl))))), (aGo, .inl (G.2.1, 24, .inl (P_go (s_run nv ai (s_gz x) wi qu sh pn i (ca, tk, gr, go, we, dr, ea, du, fl))))), (aWe, .inl (G.2.1, 24, .inl (P_we (s_run nv ai (s_gz x) wi qu sh pn i (ca, tk, gr, go, we, dr, ea, du, fl))))), (aDr, .inl (G.2.1, 24, .inl (P_dr (s_run nv ai (s_gz x) wi qu sh pn i (ca, tk, gr, go, we, dr, ea, du, fl))))), (aEa, .inl (G.2.1, 24, .inl (P_ea (s_run nv ai (s_gz x) wi qu sh pn i (ca, tk, gr, go, we, dr, ea, du, fl))))), (o0, .inr (2, [.ref oFa, .ref oWi, .ref oPa, .ref oQu, .ref oSh, .int (nI hk), .int fl, .int ai, .int rn, .int rf, .int rt])), (oWi, .inl (G.2.1, 6, .inl wi)), (oPa, .inl (G.2.1, 6, .inl (pN pn))), (oQu, .inl (G.2.1, 6, .inl qu)), (oSh, .inl (G.2.1, 24, .inl sh))]) (As := [.int (nI i), .int (P_w (s_run nv ai (s_gz x) wi qu sh pn i (ca, tk, gr, go, we, dr, ea, du, fl)))]) (rest := []) (c_X0_takeIn l G c0 o0 nv aCa aTk aGr aGo aWe aDr aEa (br + fl) (P_du (s_run nv ai (s_gz x) wi qu sh pn i (ca, tk, gr, go, we, dr, ea, du, fl))) mi am mb oFa oWi oPa oQu oSh hk fl ai rn rf rt (P_ca (s_run nv ai (s_gz x) wi qu sh pn i (ca, tk, gr, go, we, dr, ea, du, fl))) (P_tk (s_run nv ai (s_gz x) wi qu sh pn i (ca, tk, gr, go, we, dr, ea, du, fl))) wi qu i (P_w (s_run nv ai (s_gz x) wi qu sh pn i (ca, tk, gr, go, we, dr, ea, du, fl))) (by omega)) YX0_takeIn mX0_65 dX0_passHour_34 ciX0 0 rfl [0, 1, 2, 8, 9, 11] (by decide) rfl rfl rfl rfl rfl rfl (Nat.le_of_ble_eq_true rfl) (by decide) (by decide) ?_
      refine v_iload_n dX0_passHour_37 rfl 1 rfl ?_
      refine v_aload_n dX0_passHour_38 rfl 2 rfl ?_
      refine v_iload_n dX0_passHour_39 rfl 0 rfl ?_
      refine v_vMi (ws' := [(c0, .inr (0, [.ref o0, .int nv, .ref aCa, .ref aTk, .ref aGr, .ref aGo, .ref aWe, .ref aDr, .ref aEa, .int (br + fl), .int ((P_du (s_run nv ai (s_gz x) wi qu sh pn i (ca, tk, gr, go, we, dr, ea, du, fl))) + s_sips ((upd (P_tk (s_run nv ai (s_gz x) wi qu sh pn i (ca, tk, gr, go, we, dr, ea, du, fl))) i (s_take nv (nI i) (P_w (s_run nv ai (s_gz x) wi qu sh pn i (ca, tk, gr, go, we, dr, ea, du, fl))) (qu i) (wi i) ((P_ca (s_run nv ai (s_gz x) wi qu sh pn i (ca, tk, gr, go, we, dr, ea, du, fl))) i))) i) (nI (pn i)) (pn i)), .int mi, .int am, .int mb])), (aCa, .inl (G.2.1, 6, .inl (upd (P_ca (s_run nv ai (s_gz x) wi qu sh pn i (ca, tk, gr, go, we, dr, ea, du, fl))) i ((P_ca (s_run nv ai (s_gz x) wi qu sh pn i (ca, tk, gr, go, we, dr, ea, du, fl))) i + s_take nv (nI i) (P_w (s_run nv ai (s_gz x) wi qu sh pn i (ca, tk, gr, go, we, dr, ea, du, fl))) (qu i) (wi i) ((P_ca (s_run nv ai (s_gz x) wi qu sh pn i (ca, tk, gr, go, we, dr, ea, du, fl))) i))))), (aTk, .inl (G.2.1, 6, .inl (upd (P_tk (s_run nv ai (s_gz x) wi qu sh pn i (ca, tk, gr, go, we, dr, ea, du, fl))) i (s_take nv (nI i) (P_w (s_run nv ai (s_gz x) wi qu sh pn i (ca, tk, gr, go, we, dr, ea, du, fl))) (qu i) (wi i) ((P_ca (s_run nv ai (s_gz x) wi qu sh pn i (ca, tk, gr, go, we, dr, ea, du, fl))) i))))), (aGr, .inl (G.2.1, 24, .inl (P_gr (s_run nv ai (s_gz x) wi qu sh pn i (ca, tk, gr, go, we, dr, ea, du, fl))))), (aGo, .inl (G.2.1, 24, .inl (s_rng (4 * i) (pn i) (P_go (s_run nv ai (s_gz x) wi qu sh pn i (ca, tk, gr, go, we, dr, ea, du, fl))) (s_gotF i ((upd (P_tk (s_run nv ai (s_gz x) wi qu sh pn i (ca, tk, gr, go, we, dr, ea, du, fl))) i (s_take nv (nI i) (P_w (s_run nv ai (s_gz x) wi qu sh pn i (ca, tk, gr, go, we, dr, ea, du, fl))) (qu i) (wi i) ((P_ca (s_run nv ai (s_gz x) wi qu sh pn i (ca, tk, gr, go, we, dr, ea, du, fl))) i))) i) (nI (pn i)))))), (aWe, .inl (G.2.1, 24, .inl (P_we (s_run nv ai (s_gz x) wi qu sh pn i (ca, tk, gr, go, we, dr, ea, du, fl))))), (aDr, .inl (G.2.1, 24, .inl (s_rng (4 * i) (pn i) (P_dr (s_run nv ai (s_gz x) wi qu sh pn i (ca, tk, gr, go, we, dr, ea, du, fl))) (s_drF i ((upd (P_tk (s_run nv ai (s_gz x) wi qu sh pn i (ca, tk, gr, go, we, dr, ea, du, fl))) i (s_take nv (nI i) (P_w (s_run nv ai (s_gz x) wi qu sh pn i (ca, tk, gr, go, we, dr, ea, du, fl))) (qu i) (wi i) ((P_ca (s_run nv ai (s_gz x) wi qu sh pn i (ca, tk, gr, go, we, dr, ea, du, fl))) i))) i) (nI (pn i)) (P_dr (s_run nv ai (s_gz x) wi qu sh pn i (ca, tk, gr, go, we, dr, ea, du, fl))))))), (aEa, .inl (G.2.1, 24, .inl (P_ea (s_run nv ai (s_gz x) wi qu sh pn i (ca, tk, gr, go, we, dr, ea, du, fl))))), (o0, .inr (2, [.ref oFa, .ref oWi, .ref oPa, .ref oQu, .ref oSh, .int (nI hk), .int fl, .int ai, .int rn, .int rf, .int rt])), (oWi, .inl (G.2.1, 6, .inl wi)), (oPa, .inl (G.2.1, 6, .inl (pN pn))), (oQu, .inl (G.2.1, 6, .inl qu)), (oSh, .inl (G.2.1, 24, .inl sh))]) (As := [.int (nI i)]) (rest := [.int (P_w (s_run nv ai (s_gz x) wi qu sh pn i (ca, tk, gr, go, we, dr, ea, du, fl)))]) (c_X0_soakPanes l G c0 o0 nv aCa aTk aGr aGo aWe aDr aEa (br + fl) (P_du (s_run nv ai (s_gz x) wi qu sh pn i (ca, tk, gr, go, we, dr, ea, du, fl))) mi am mb oFa oWi oPa oQu oSh hk fl ai rn rf rt (upd (P_tk (s_run nv ai (s_gz x) wi qu sh pn i (ca, tk, gr, go, we, dr, ea, du, fl))) i (s_take nv (nI i) (P_w (s_run nv ai (s_gz x) wi qu sh pn i (ca, tk, gr, go, we, dr, ea, du, fl))) (qu i) (wi i) ((P_ca (s_run nv ai (s_gz x) wi qu sh pn i (ca, tk, gr, go, we, dr, ea, du, fl))) i))) (P_go (s_run nv ai (s_gz x) wi qu sh pn i (ca, tk, gr, go, we, dr, ea, du, fl))) (P_dr (s_run nv ai (s_gz x) wi qu sh pn i (ca, tk, gr, go, we, dr, ea, du, fl))) pn i (by omega) ((hpn i (by omega)).1) ((hpn i (by omega)).2)) YX0_soakPanes mX0_69 dX0_passHour_40 ciX0 0 rfl [0, 2, 4, 6, 8, 10] (by decide) rfl rfl rfl rfl rfl rfl (Nat.le_of_ble_eq_true rfl) (by decide) (by decide) ?_
      refine v_isub dX0_passHour_43 ?_
      refine v_istore_n (lv' := [(2, .int ((P_w (s_run nv ai (s_gz x) wi qu sh pn i (ca, tk, gr, go, we, dr, ea, du, fl))) - (s_sips ((upd (P_tk (s_run nv ai (s_gz x) wi qu sh pn i (ca, tk, gr, go, we, dr, ea, du, fl))) i (s_take nv (nI i) (P_w (s_run nv ai (s_gz x) wi qu sh pn i (ca, tk, gr, go, we, dr, ea, du, fl))) (qu i) (wi i) ((P_ca (s_run nv ai (s_gz x) wi qu sh pn i (ca, tk, gr, go, we, dr, ea, du, fl))) i))) i) (nI (pn i)) (pn i)))), (3, .int (nI i)), (0, .ref c0), (1, .int x)]) dX0_passHour_44 rfl (by decide) rfl ?_
      refine v_aload_n dX0_passHour_45 rfl 2 rfl ?_
      refine v_iload_n dX0_passHour_46 rfl 1 rfl ?_
      refine v_iload_n dX0_passHour_47 rfl 3 rfl ?_
      refine v_vMv (ws' := [(c0, .inr (0, [.ref o0, .int nv, .ref aCa, .ref aTk, .ref aGr, .ref aGo, .ref aWe, .ref aDr, .ref aEa, .int (br + fl), .int ((P_du (s_run nv ai (s_gz x) wi qu sh pn i (ca, tk, gr, go, we, dr, ea, du, fl))) + s_sips ((upd (P_tk (s_run nv ai (s_gz x) wi qu sh pn i (ca, tk, gr, go, we, dr, ea, du, fl))) i (s_take nv (nI i) (P_w (s_run nv ai (s_gz x) wi qu sh pn i (ca, tk, gr, go, we, dr, ea, du, fl))) (qu i) (wi i) ((P_ca (s_run nv ai (s_gz x) wi qu sh pn i (ca, tk, gr, go, we, dr, ea, du, fl))) i))) i) (nI (pn i)) (pn i)), .int mi, .int am, .int mb])), (aCa, .inl (G.2.1, 6, .inl (upd (P_ca (s_run nv ai (s_gz x) wi qu sh pn i (ca, tk, gr, go, we, dr, ea, du, fl))) i ((P_ca (s_run nv ai (s_gz x) wi qu sh pn i (ca, tk, gr, go, we, dr, ea, du, fl))) i + s_take nv (nI i) (P_w (s_run nv ai (s_gz x) wi qu sh pn i (ca, tk, gr, go, we, dr, ea, du, fl))) (qu i) (wi i) ((P_ca (s_run nv ai (s_gz x) wi qu sh pn i (ca, tk, gr, go, we, dr, ea, du, fl))) i))))), (aTk, .inl (G.2.1, 6, .inl (upd (P_tk (s_run nv ai (s_gz x) wi qu sh pn i (ca, tk, gr, go, we, dr, ea, du, fl))) i (s_take nv (nI i) (P_w (s_run nv ai (s_gz x) wi qu sh pn i (ca, tk, gr, go, we, dr, ea, du, fl))) (qu i) (wi i) ((P_ca (s_run nv ai (s_gz x) wi qu sh pn i (ca, tk, gr, go, we, dr, ea, du, fl))) i))))), (aGr, .inl (G.2.1, 24, .inl (s_rng (4 * i) (pn i) (P_gr (s_run nv ai (s_gz x) wi qu sh pn i (ca, tk, gr, go, we, dr, ea, du, fl))) (s_grF ai (s_gz x) (s_rng (4 * i) (pn i) (P_go (s_run nv ai (s_gz x) wi qu sh pn i (ca, tk, gr, go, we, dr, ea, du, fl))) (s_gotF i ((upd (P_tk (s_run nv ai (s_gz x) wi qu sh pn i (ca, tk, gr, go, we, dr, ea, du, fl))) i (s_take nv (nI i) (P_w (s_run nv ai (s_gz x) wi qu sh pn i (ca, tk, gr, go, we, dr, ea, du, fl))) (qu i) (wi i) ((P_ca (s_run nv ai (s_gz x) wi qu sh pn i (ca, tk, gr, go, we, dr, ea, du, fl))) i))) i) (nI (pn i)))) sh (P_gr (s_run nv ai (s_gz x) wi qu sh pn i (ca, tk, gr, go, we, dr, ea, du, fl))))))), (aGo, .inl (G.2.1, 24, .inl (s_rng (4 * i) (pn i) (P_go (s_run nv ai (s_gz x) wi qu sh pn i (ca, tk, gr, go, we, dr, ea, du, fl))) (s_gotF i ((upd (P_tk (s_run nv ai (s_gz x) wi qu sh pn i (ca, tk, gr, go, we, dr, ea, du, fl))) i (s_take nv (nI i) (P_w (s_run nv ai (s_gz x) wi qu sh pn i (ca, tk, gr, go, we, dr, ea, du, fl))) (qu i) (wi i) ((P_ca (s_run nv ai (s_gz x) wi qu sh pn i (ca, tk, gr, go, we, dr, ea, du, fl))) i))) i) (nI (pn i)))))), (aWe, .inl (G.2.1, 24, .inl (s_rng (4 * i) (pn i) (P_we (s_run nv ai (s_gz x) wi qu sh pn i (ca, tk, gr, go, we, dr, ea, du, fl))) (s_weF (s_rng (4 * i) (pn i) (P_go (s_run nv ai (s_gz x) wi qu sh pn i (ca, tk, gr, go, we, dr, ea, du, fl))) (s_gotF i ((upd (P_tk (s_run nv ai (s_gz x) wi qu sh pn i (ca, tk, gr, go, we, dr, ea, du, fl))) i (s_take nv (nI i) (P_w (s_run nv ai (s_gz x) wi qu sh pn i (ca, tk, gr, go, we, dr, ea, du, fl))) (qu i) (wi i) ((P_ca (s_run nv ai (s_gz x) wi qu sh pn i (ca, tk, gr, go, we, dr, ea, du, fl))) i))) i) (nI (pn i)))) (P_we (s_run nv ai (s_gz x) wi qu sh pn i (ca, tk, gr, go, we, dr, ea, du, fl))))))), (aDr, .inl (G.2.1, 24, .inl (s_rng (4 * i) (pn i) (P_dr (s_run nv ai (s_gz x) wi qu sh pn i (ca, tk, gr, go, we, dr, ea, du, fl))) (s_drF i ((upd (P_tk (s_run nv ai (s_gz x) wi qu sh pn i (ca, tk, gr, go, we, dr, ea, du, fl))) i (s_take nv (nI i) (P_w (s_run nv ai (s_gz x) wi qu sh pn i (ca, tk, gr, go, we, dr, ea, du, fl))) (qu i) (wi i) ((P_ca (s_run nv ai (s_gz x) wi qu sh pn i (ca, tk, gr, go, we, dr, ea, du, fl))) i))) i) (nI (pn i)) (P_dr (s_run nv ai (s_gz x) wi qu sh pn i (ca, tk, gr, go, we, dr, ea, du, fl))))))), (aEa, .inl (G.2.1, 24, .inl (s_rng (4 * i) (pn i) (P_ea (s_run nv ai (s_gz x) wi qu sh pn i (ca, tk, gr, go, we, dr, ea, du, fl))) (s_eaF ai (s_gz x) (s_rng (4 * i) (pn i) (P_go (s_run nv ai (s_gz x) wi qu sh pn i (ca, tk, gr, go, we, dr, ea, du, fl))) (s_gotF i ((upd (P_tk (s_run nv ai (s_gz x) wi qu sh pn i (ca, tk, gr, go, we, dr, ea, du, fl))) i (s_take nv (nI i) (P_w (s_run nv ai (s_gz x) wi qu sh pn i (ca, tk, gr, go, we, dr, ea, du, fl))) (qu i) (wi i) ((P_ca (s_run nv ai (s_gz x) wi qu sh pn i (ca, tk, gr, go, we, dr, ea, du, fl))) i))) i) (nI (pn i)))) sh (P_gr (s_run nv ai (s_gz x) wi qu sh pn i (ca, tk, gr, go, we, dr, ea, du, fl))) (P_ea (s_run nv ai (s_gz x) wi qu sh pn i (ca, tk, gr, go, we, dr, ea, du, fl))))))), (o0, .inr (2, [.ref oFa, .ref oWi, .ref oPa, .ref oQu, .ref oSh, .int (nI hk), .int fl, .int ai, .int rn, .int rf, .int rt])), (oWi, .inl (G.2.1, 6, .inl wi)), (oPa, .inl (G.2.1, 6, .inl (pN pn))), (oQu, .inl (G.2.1, 6, .inl qu)), (oSh, .inl (G.2.1, 24, .inl sh))]) (As := [.int (nI i), .int x]) (rest := []) (c_X0_tendPanes l G c0 o0 nv aCa aTk aGr aGo aWe aDr aEa (br + fl) ((P_du (s_run nv ai (s_gz x) wi qu sh pn i (ca, tk, gr, go, we, dr, ea, du, fl))) + s_sips ((upd (P_tk (s_run nv ai (s_gz x) wi qu sh pn i (ca, tk, gr, go, we, dr, ea, du, fl))) i (s_take nv (nI i) (P_w (s_run nv ai (s_gz x) wi qu sh pn i (ca, tk, gr, go, we, dr, ea, du, fl))) (qu i) (wi i) ((P_ca (s_run nv ai (s_gz x) wi qu sh pn i (ca, tk, gr, go, we, dr, ea, du, fl))) i))) i) (nI (pn i)) (pn i)) mi am mb oFa oWi oPa oQu oSh hk fl ai rn rf rt (P_gr (s_run nv ai (s_gz x) wi qu sh pn i (ca, tk, gr, go, we, dr, ea, du, fl))) (s_rng (4 * i) (pn i) (P_go (s_run nv ai (s_gz x) wi qu sh pn i (ca, tk, gr, go, we, dr, ea, du, fl))) (s_gotF i ((upd (P_tk (s_run nv ai (s_gz x) wi qu sh pn i (ca, tk, gr, go, we, dr, ea, du, fl))) i (s_take nv (nI i) (P_w (s_run nv ai (s_gz x) wi qu sh pn i (ca, tk, gr, go, we, dr, ea, du, fl))) (qu i) (wi i) ((P_ca (s_run nv ai (s_gz x) wi qu sh pn i (ca, tk, gr, go, we, dr, ea, du, fl))) i))) i) (nI (pn i)))) (P_we (s_run nv ai (s_gz x) wi qu sh pn i (ca, tk, gr, go, we, dr, ea, du, fl))) (P_ea (s_run nv ai (s_gz x) wi qu sh pn i (ca, tk, gr, go, we, dr, ea, du, fl))) sh pn i x (by omega) ((hpn i (by omega)).2)) YX0_tendPanes mX0_72 dX0_passHour_48 ciX0 0 rfl [0, 3, 4, 5, 7, 8, 10, 12] (by decide) rfl rfl rfl rfl rfl rfl (Nat.le_of_ble_eq_true rfl) (by decide) (by decide) ?_
      refine v_iinc (v := nI i + 1) (q := 1) (lv' := [(3, .int (nI i + 1)), (2, .int ((P_w (s_run nv ai (s_gz x) wi qu sh pn i (ca, tk, gr, go, we, dr, ea, du, fl))) - (s_sips ((upd (P_tk (s_run nv ai (s_gz x) wi qu sh pn i (ca, tk, gr, go, we, dr, ea, du, fl))) i (s_take nv (nI i) (P_w (s_run nv ai (s_gz x) wi qu sh pn i (ca, tk, gr, go, we, dr, ea, du, fl))) (qu i) (wi i) ((P_ca (s_run nv ai (s_gz x) wi qu sh pn i (ca, tk, gr, go, we, dr, ea, du, fl))) i))) i) (nI (pn i)) (pn i)))), (0, .ref c0), (1, .int x)]) dX0_passHour_51 rfl rfl (by decide) rfl ?_
      refine v_goto (tgt := 20) dX0_passHour_54 (by decide) ?_
      refine v_world (ws' := [(c0, .inr (0, [.ref o0, .int nv, .ref aCa, .ref aTk, .ref aGr, .ref aGo, .ref aWe, .ref aDr, .ref aEa, .int (br + fl), .int (P_du (s_run nv ai (s_gz x) wi qu sh pn (i + 1) (ca, tk, gr, go, we, dr, ea, du, fl))), .int mi, .int am, .int mb])), (aCa, .inl (G.2.1, 6, .inl (P_ca (s_run nv ai (s_gz x) wi qu sh pn (i + 1) (ca, tk, gr, go, we, dr, ea, du, fl))))), (aTk, .inl (G.2.1, 6, .inl (P_tk (s_run nv ai (s_gz x) wi qu sh pn (i + 1) (ca, tk, gr, go, we, dr, ea, du, fl))))), (aGr, .inl (G.2.1, 24, .inl (P_gr (s_run nv ai (s_gz x) wi qu sh pn (i + 1) (ca, tk, gr, go, we, dr, ea, du, fl))))), (aGo, .inl (G.2.1, 24, .inl (P_go (s_run nv ai (s_gz x) wi qu sh pn (i + 1) (ca, tk, gr, go, we, dr, ea, du, fl))))), (aWe, .inl (G.2.1, 24, .inl (P_we (s_run nv ai (s_gz x) wi qu sh pn (i + 1) (ca, tk, gr, go, we, dr, ea, du, fl))))), (aDr, .inl (G.2.1, 24, .inl (P_dr (s_run nv ai (s_gz x) wi qu sh pn (i + 1) (ca, tk, gr, go, we, dr, ea, du, fl))))), (aEa, .inl (G.2.1, 24, .inl (P_ea (s_run nv ai (s_gz x) wi qu sh pn (i + 1) (ca, tk, gr, go, we, dr, ea, du, fl))))), (o0, .inr (2, [.ref oFa, .ref oWi, .ref oPa, .ref oQu, .ref oSh, .int (nI hk), .int fl, .int ai, .int rn, .int rf, .int rt])), (oWi, .inl (G.2.1, 6, .inl wi)), (oPa, .inl (G.2.1, 6, .inl (pN pn))), (oQu, .inl (G.2.1, 6, .inl qu)), (oSh, .inl (G.2.1, 24, .inl sh))]) (v_w8 (fun (z0 : Int32) (z1 : Nat → Int32) (z2 : Nat → Int32) (z3 : Nat → Int32) (z4 : Nat → Int32) (z5 : Nat → Int32) (z6 : Nat → Int32) (z7 : Nat → Int32) => ([(c0, .inr (0, [.ref o0, .int nv, .ref aCa, .ref aTk, .ref aGr, .ref aGo, .ref aWe, .ref aDr, .ref aEa, .int (br + fl), .int z0, .int mi, .int am, .int mb])), (aCa, .inl (G.2.1, 6, .inl z1)), (aTk, .inl (G.2.1, 6, .inl z2)), (aGr, .inl (G.2.1, 24, .inl z3)), (aGo, .inl (G.2.1, 24, .inl z4)), (aWe, .inl (G.2.1, 24, .inl z5)), (aDr, .inl (G.2.1, 24, .inl z6)), (aEa, .inl (G.2.1, 24, .inl z7)), (o0, .inr (2, [.ref oFa, .ref oWi, .ref oPa, .ref oQu, .ref oSh, .int (nI hk), .int fl, .int ai, .int rn, .int rf, .int rt])), (oWi, .inl (G.2.1, 6, .inl wi)), (oPa, .inl (G.2.1, 6, .inl (pN pn))), (oQu, .inl (G.2.1, 6, .inl qu)), (oSh, .inl (G.2.1, 24, .inl sh))] : va_W)) (by first | (simp only [pk_us]; rfl) | rfl) (by first | (simp only [pk_us]; rfl) | rfl) (by first | (simp only [pk_us]; rfl) | rfl) (by first | (simp only [pk_us]; rfl) | rfl) (by first | (simp only [pk_us]; rfl) | rfl) (by first | (simp only [pk_us]; rfl) | rfl) (by first | (simp only [pk_us]; rfl) | rfl) (by first | (simp only [pk_us]; rfl) | rfl)) ?_
      refine v_lveq (lv' := [(3, .int (nI (i + 1))), (2, .int (P_w (s_run nv ai (s_gz x) wi qu sh pn (i + 1) (ca, tk, gr, go, we, dr, ea, du, fl)))), (0, .ref c0), (1, .int x)]) (v_l2 (fun (z0 : Int32) (z1 : Int32) => ([(3, .int z0), (2, .int z1), (0, .ref c0), (1, .int x)] : List (Nat × Value))) (nI_1 i) (by first | (simp only [pk_us]; rfl) | rfl)) ?_
      exact ih20 (i + 1) (by omega)
  refine v_world (ws' := [(c0, .inr (0, [.ref o0, .int nv, .ref aCa, .ref aTk, .ref aGr, .ref aGo, .ref aWe, .ref aDr, .ref aEa, .int (br + fl), .int (P_du (s_run nv ai (s_gz x) wi qu sh pn 0 (ca, tk, gr, go, we, dr, ea, du, fl))), .int mi, .int am, .int mb])), (aCa, .inl (G.2.1, 6, .inl (P_ca (s_run nv ai (s_gz x) wi qu sh pn 0 (ca, tk, gr, go, we, dr, ea, du, fl))))), (aTk, .inl (G.2.1, 6, .inl (P_tk (s_run nv ai (s_gz x) wi qu sh pn 0 (ca, tk, gr, go, we, dr, ea, du, fl))))), (aGr, .inl (G.2.1, 24, .inl (P_gr (s_run nv ai (s_gz x) wi qu sh pn 0 (ca, tk, gr, go, we, dr, ea, du, fl))))), (aGo, .inl (G.2.1, 24, .inl (P_go (s_run nv ai (s_gz x) wi qu sh pn 0 (ca, tk, gr, go, we, dr, ea, du, fl))))), (aWe, .inl (G.2.1, 24, .inl (P_we (s_run nv ai (s_gz x) wi qu sh pn 0 (ca, tk, gr, go, we, dr, ea, du, fl))))), (aDr, .inl (G.2.1, 24, .inl (P_dr (s_run nv ai (s_gz x) wi qu sh pn 0 (ca, tk, gr, go, we, dr, ea, du, fl))))), (aEa, .inl (G.2.1, 24, .inl (P_ea (s_run nv ai (s_gz x) wi qu sh pn 0 (ca, tk, gr, go, we, dr, ea, du, fl))))), (o0, .inr (2, [.ref oFa, .ref oWi, .ref oPa, .ref oQu, .ref oSh, .int (nI hk), .int fl, .int ai, .int rn, .int rf, .int rt])), (oWi, .inl (G.2.1, 6, .inl wi)), (oPa, .inl (G.2.1, 6, .inl (pN pn))), (oQu, .inl (G.2.1, 6, .inl qu)), (oSh, .inl (G.2.1, 24, .inl sh))]) rfl ?_
  refine v_lveq (lv' := [(3, .int (nI 0)), (2, .int (P_w (s_run nv ai (s_gz x) wi qu sh pn 0 (ca, tk, gr, go, we, dr, ea, du, fl)))), (0, .ref c0), (1, .int x)]) (v_l2 (fun (z0 : Int32) (z1 : Int32) => ([(3, .int z0), (2, .int z1), (0, .ref c0), (1, .int x)] : List (Nat × Value))) nI_0.symm rfl) ?_
  exact loop20 hk 0 (by omega)

set_option maxRecDepth 100000 in
set_option maxHeartbeats 4000000 in
theorem c_X0_sumOfFarm (l : Launch) (G : v_Cfg) (c0 : Nat) (o0 : Nat) (nv : Int32) (aCa : Nat) (aTk : Nat) (aGr : Nat) (aGo : Nat) (aWe : Nat) (aDr : Nat) (aEa : Nat) (br : Int32) (du : Int32) (mi : Int32) (am : Int32) (mb : Int32) (oFa : Nat) (oWi : Nat) (oPa : Nat) (oQu : Nat) (oSh : Nat) (hk : Nat) (fl : Int32) (ai : Int32) (rn : Int32) (rf : Int32) (rt : Int32) (f : Nat → Int32) (fa : Nat → Int32) (pn : Nat → Nat) (b : Nat) (x : Int32) (hk6 : hk ≤ 6) (hpn : ∀ h, h < hk → 1 ≤ pn h ∧ pn h ≤ 4) : RdI l G yX0_sumOfFarm cX0_sumOfFarm 6 (some .int) 1 [.ref c0, .ref b, .int x] [(c0, .inr (0, [.ref o0, .int nv, .ref aCa, .ref aTk, .ref aGr, .ref aGo, .ref aWe, .ref aDr, .ref aEa, .int br, .int du, .int mi, .int am, .int mb])), (b, .inl (G.2.1, 24, .inl f)), (o0, .inr (2, [.ref oFa, .ref oWi, .ref oPa, .ref oQu, .ref oSh, .int (nI hk), .int fl, .int ai, .int rn, .int rf, .int rt])), (oFa, .inl (G.2.1, 6, .inl fa)), (oPa, .inl (G.2.1, 6, .inl (pN pn)))] (s_farmS fa pn f x hk) := by
  refine RdI.of (own := RX0) (by decide) rfl (Nat.le_of_ble_eq_true rfl) (fun p e s m below meth c => ?_)
  refine v_iconst (v := 0) dX0_sumOfFarm_0 (by decide) ?_
  refine v_istore_n (lv' := [(3, .int 0), (0, .ref c0), (1, .ref b), (2, .int x)]) dX0_sumOfFarm_1 rfl (by decide) rfl ?_
  refine v_iconst (v := 0) dX0_sumOfFarm_2 (by decide) ?_
  refine v_istore (lv' := [(4, .int 0), (3, .int 0), (0, .ref c0), (1, .ref b), (2, .int x)]) dX0_sumOfFarm_3 (by decide) rfl ?_
  have loop5 : ∀ (k5 i : Nat), i + k5 = hk → V p l e (rmk 1) s m #[.ref c0, .ref b, .int x] below meth c (MQ below (vp_Si (fun vr => vr = (s_farmS fa pn f x hk))) #[.ref c0, .ref b, .int x] s 0 0 (fun _ => False)) G (v_Ir s) cX0_sumOfFarm RX0 6 (some .int) [(c0, .inr (0, [.ref o0, .int nv, .ref aCa, .ref aTk, .ref aGr, .ref aGo, .ref aWe, .ref aDr, .ref aEa, .int br, .int du, .int mi, .int am, .int mb])), (b, .inl (G.2.1, 24, .inl f)), (o0, .inr (2, [.ref oFa, .ref oWi, .ref oPa, .ref oQu, .ref oSh, .int (nI hk), .int fl, .int ai, .int rn, .int rf, .int rt])), (oFa, .inl (G.2.1, 6, .inl fa)), (oPa, .inl (G.2.1, 6, .inl (pN pn)))] 0 0 [(4, .int (nI i)), (3, .int (s_farmS fa pn f x i)), (0, .ref c0), (1, .ref b), (2, .int x)] 5 [] := by
    intro k5
    induction k5 with
    | zero =>
      intro i hi5
      have hi5 : i = hk := by omega
      rw [hi5]
      refine v_iload dX0_sumOfFarm_5 0 rfl ?_
      refine v_aload_n dX0_sumOfFarm_7 rfl 2 rfl ?_
      refine v_get fX0_33 dX0_sumOfFarm_8 0 rfl rfl ?_
      refine v_get fX0_62 dX0_sumOfFarm_11 2 rfl rfl ?_
      refine v_icmp_ge (tgt := 73) dX0_sumOfFarm_14 (by decide) (fun h14 => ?_) (fun h14 => absurd (nI_le (by omega) (by omega)) h14)
      refine v_iload_n dX0_sumOfFarm_73 rfl 1 rfl ?_
      exact v_iretR dX0_sumOfFarm_74 rfl
    | succ k5 ih5 =>
      intro i hi5
      refine v_iload dX0_sumOfFarm_5 0 rfl ?_
      refine v_aload_n dX0_sumOfFarm_7 rfl 2 rfl ?_
      refine v_get fX0_33 dX0_sumOfFarm_8 0 rfl rfl ?_
      refine v_get fX0_62 dX0_sumOfFarm_11 2 rfl rfl ?_
      refine v_icmp_ge (tgt := 73) dX0_sumOfFarm_14 (by decide) (fun h14 => absurd h14 (nI_ge (by omega) (by omega))) (fun h14 => ?_)
      refine v_aload_n dX0_sumOfFarm_17 rfl 2 rfl ?_
      refine v_get fX0_33 dX0_sumOfFarm_18 0 rfl rfl ?_
      refine v_get fX0_91 dX0_sumOfFarm_21 2 rfl rfl ?_
      refine v_iload dX0_sumOfFarm_24 0 rfl ?_
      refine v_iald dX0_sumOfFarm_26 3 rfl i rfl (by omega) (by decide) ?_
      refine v_iload_n dX0_sumOfFarm_27 rfl 4 rfl ?_
      refine v_icmp_ne (tgt := 67) dX0_sumOfFarm_28 (by decide) (fun h28 => ?_) (fun h28 => ?_)
      · skip
        refine v_iinc (v := nI i + 1) (q := 0) (lv' := [(4, .int (nI i + 1)), (3, .int (s_farmS fa pn f x i)), (0, .ref c0), (1, .ref b), (2, .int x)]) dX0_sumOfFarm_67 rfl rfl (by decide) rfl ?_
        refine v_goto (tgt := 5) dX0_sumOfFarm_70 (by decide) ?_
        refine v_lveq (lv' := [(4, .int (nI (i + 1))), (3, .int (s_farmS fa pn f x (i + 1))), (0, .ref c0), (1, .ref b), (2, .int x)]) (v_l2 (fun (z0 : Int32) (z1 : Int32) => ([(4, .int z0), (3, .int z1), (0, .ref c0), (1, .ref b), (2, .int x)] : List (Nat × Value))) (nI_1 i) (by simp only [s_farmS, if_neg h28])) ?_
        exact ih5 (i + 1) (by omega)
      · skip
        refine v_iconst (v := 0) dX0_sumOfFarm_31 (by decide) ?_
        refine v_istore (lv' := [(5, .int 0), (4, .int (nI i)), (3, .int (s_farmS fa pn f x i)), (0, .ref c0), (1, .ref b), (2, .int x)]) dX0_sumOfFarm_32 (by decide) rfl ?_
        have hp34 := hpn i (by omega)
        have loop34 : ∀ (k34 j : Nat), j + k34 = pn i → V p l e (rmk 1) s m #[.ref c0, .ref b, .int x] below meth c (MQ below (vp_Si (fun vr => vr = (s_farmS fa pn f x hk))) #[.ref c0, .ref b, .int x] s 0 0 (fun _ => False)) G (v_Ir s) cX0_sumOfFarm RX0 6 (some .int) [(c0, .inr (0, [.ref o0, .int nv, .ref aCa, .ref aTk, .ref aGr, .ref aGo, .ref aWe, .ref aDr, .ref aEa, .int br, .int du, .int mi, .int am, .int mb])), (b, .inl (G.2.1, 24, .inl f)), (o0, .inr (2, [.ref oFa, .ref oWi, .ref oPa, .ref oQu, .ref oSh, .int (nI hk), .int fl, .int ai, .int rn, .int rf, .int rt])), (oFa, .inl (G.2.1, 6, .inl fa)), (oPa, .inl (G.2.1, 6, .inl (pN pn)))] 0 0 [(5, .int (nI j)), (4, .int (nI i)), (3, .int (s_sumP (s_farmS fa pn f x i) f i j)), (0, .ref c0), (1, .ref b), (2, .int x)] 34 [] := by
          intro k34
          induction k34 with
          | zero =>
            intro j hi34
            have hi34 : j = pn i := by omega
            subst hi34
            refine v_iload dX0_sumOfFarm_34 0 rfl ?_
            refine v_aload_n dX0_sumOfFarm_36 rfl 3 rfl ?_
            refine v_get fX0_33 dX0_sumOfFarm_37 0 rfl rfl ?_
            refine v_get fX0_94 dX0_sumOfFarm_40 2 rfl rfl ?_
            refine v_iload dX0_sumOfFarm_43 1 rfl ?_
            refine v_iald dX0_sumOfFarm_45 4 rfl i rfl (by omega) (by decide) ?_
            refine v_eqi (nI (pn i)) rfl ?_
            refine v_icmp_ge (tgt := 67) dX0_sumOfFarm_46 (by decide) (fun h46 => ?_) (fun h46 => absurd (nI_le (by omega) (by omega)) h46)
            refine v_iinc (v := nI i + 1) (q := 1) (lv' := [(4, .int (nI i + 1)), (5, .int (nI (pn i))), (3, .int (s_sumP (s_farmS fa pn f x i) f i (pn i))), (0, .ref c0), (1, .ref b), (2, .int x)]) dX0_sumOfFarm_67 rfl rfl (by decide) rfl ?_
            refine v_goto (tgt := 5) dX0_sumOfFarm_70 (by decide) ?_
            refine v_locals (lv' := [(4, .int (nI i + 1)), (3, .int (s_sumP (s_farmS fa pn f x i) f i (pn i))), (0, .ref c0), (1, .ref b), (2, .int x)]) [0, 2, 3, 4, 5] rfl ?_
            refine v_lveq (lv' := [(4, .int (nI (i + 1))), (3, .int (s_farmS fa pn f x (i + 1))), (0, .ref c0), (1, .ref b), (2, .int x)]) (v_l2 (fun (z0 : Int32) (z1 : Int32) => ([(4, .int z0), (3, .int z1), (0, .ref c0), (1, .ref b), (2, .int x)] : List (Nat × Value))) (nI_1 i) (by simp only [s_farmS, if_pos h28])) ?_
            exact ih5 (i + 1) (by omega)
          | succ k34 ih34 =>
            intro j hi34
            refine v_iload dX0_sumOfFarm_34 0 rfl ?_
            refine v_aload_n dX0_sumOfFarm_36 rfl 3 rfl ?_
            refine v_get fX0_33 dX0_sumOfFarm_37 0 rfl rfl ?_
            refine v_get fX0_94 dX0_sumOfFarm_40 2 rfl rfl ?_
            refine v_iload dX0_sumOfFarm_43 1 rfl ?_
            refine v_iald dX0_sumOfFarm_45 4 rfl i rfl (by omega) (by decide) ?_
            refine v_eqi (nI (pn i)) rfl ?_
            refine v_icmp_ge (tgt := 67) dX0_sumOfFarm_46 (by decide) (fun h46 => absurd h46 (nI_ge (by omega) (by omega))) (fun h46 => ?_)
            refine v_iload_n dX0_sumOfFarm_49 rfl 2 rfl ?_
            refine v_aload_n dX0_sumOfFarm_50 rfl 4 rfl ?_
            refine v_iload dX0_sumOfFarm_51 1 rfl ?_
            refine v_iload dX0_sumOfFarm_53 0 rfl ?_
            refine v_nRd (host := RX3) (As := [.int (nI i), .int (nI j)]) (rest := [.ref b, .int (s_sumP (s_farmS fa pn f x i) f i j)]) (c_X3_placeOf l G i j ) YX3_placeOf splaceOf (fun hL => hL.2.1) dX0_sumOfFarm_55 [] rfl rfl rfl (Nat.le_of_ble_eq_true rfl) (by decide) (by decide) ?_
            refine v_iald dX0_sumOfFarm_58 1 rfl (4 * i + j) rfl (by omega) (by decide) ?_
            refine v_iadd dX0_sumOfFarm_59 ?_
            refine v_istore_n (lv' := [(3, .int ((s_sumP (s_farmS fa pn f x i) f i j) + (f (4 * i + j)))), (5, .int (nI j)), (4, .int (nI i)), (0, .ref c0), (1, .ref b), (2, .int x)]) dX0_sumOfFarm_60 rfl (by decide) rfl ?_
            refine v_iinc (v := nI j + 1) (q := 1) (lv' := [(5, .int (nI j + 1)), (3, .int ((s_sumP (s_farmS fa pn f x i) f i j) + (f (4 * i + j)))), (4, .int (nI i)), (0, .ref c0), (1, .ref b), (2, .int x)]) dX0_sumOfFarm_61 rfl rfl (by decide) rfl ?_
            refine v_goto (tgt := 34) dX0_sumOfFarm_64 (by decide) ?_
            refine v_locals (lv' := [(5, .int (nI j + 1)), (4, .int (nI i)), (3, .int ((s_sumP (s_farmS fa pn f x i) f i j) + (f (4 * i + j)))), (0, .ref c0), (1, .ref b), (2, .int x)]) [0, 2, 1, 3, 4, 5] rfl ?_
            refine v_lveq (lv' := [(5, .int (nI (j + 1))), (4, .int (nI i)), (3, .int (s_sumP (s_farmS fa pn f x i) f i (j + 1))), (0, .ref c0), (1, .ref b), (2, .int x)]) (v_l2 (fun (z0 : Int32) (z1 : Int32) => ([(5, .int z0), (4, .int (nI i)), (3, .int z1), (0, .ref c0), (1, .ref b), (2, .int x)] : List (Nat × Value))) (nI_1 j) rfl) ?_
            exact ih34 (j + 1) (by omega)
        refine v_lveq (lv' := [(5, .int (nI 0)), (4, .int (nI i)), (3, .int (s_sumP (s_farmS fa pn f x i) f i 0)), (0, .ref c0), (1, .ref b), (2, .int x)]) (v_l2 (fun (z0 : Int32) (z1 : Int32) => ([(5, .int z0), (4, .int (nI i)), (3, .int z1), (0, .ref c0), (1, .ref b), (2, .int x)] : List (Nat × Value))) nI_0.symm rfl) ?_
        exact loop34 (pn i) 0 (by omega)
  refine v_lveq (lv' := [(4, .int (nI 0)), (3, .int (s_farmS fa pn f x 0)), (0, .ref c0), (1, .ref b), (2, .int x)]) (v_l2 (fun (z0 : Int32) (z1 : Int32) => ([(4, .int z0), (3, .int z1), (0, .ref c0), (1, .ref b), (2, .int x)] : List (Nat × Value))) nI_0.symm rfl) ?_
  exact loop5 hk 0 (by omega)
end
section
/-! ===== the ledger, the judgement of an hour, the public calls that need no stream without a hatch ===== -/
section VX3
variable {p : Program} {l : Launch} {e : Env} {R : Room} {s : State} {m : MethodId} {args : Array Value} {below : List Frame} {meth : Method} {c : Code} {Q : State → Prop} {G : v_Cfg} {I : va_W → Heap → List Loc → Prop} {cc : ByteArray} {own : String} {nL : Nat} {ret : Option FieldType} {ws : va_W} {k n : Nat} {lv : List (Nat × Value)} {pc : Nat} {st st' : List Value}
theorem v_stk (h : st = st') (kk : V p l e R s m args below meth c Q G I cc own nL ret ws k n lv pc st') : V p l e R s m args below meth c Q G I cc own nL ret ws k n lv pc st := h ▸ kk
end VX3
theorem v_s1 {α : Type} (f : α → List Value) {a b : α} (h : a = b) : f a = f b := by rw [h]
theorem v_s2 {α β : Type} (f : α → β → List Value) {a a' : α} {b b' : β} (h : a = a') (h2 : b = b') : f a b = f a' b' := by rw [h, h2]
def updN (f : Nat → Nat) (k v : Nat) : Nat → Nat := fun j => if j = k then v else f j
theorem pN_upd (fn : Nat → Nat) (k v : Nat) : upd (pN fn) k (nI v) = pN (updN fn k v) := by
  funext j; unfold upd pN updN; split <;> rfl
def s_fu (de : Nat) : Int32 := if de < 90 then 0 else 1
def s_sel {α : Type} (a d : Int32) (x y z : α) : α := if a = 0 then x else if d = 0 then z else y
def s_sel2 {α : Type} (a b d : Int32) (x y z : α) : α := if a = 0 then x else if b = 0 then x else if d = 0 then z else y
def s_selR {α : Type} (a b c f t d : Int32) (x y z : α) : α := if a = 0 then x else if b = 0 then x else if c = 0 then x else if f < t then (if d = 0 then z else y) else x
def s_selH {α : Type} (a b c : Int32) (hk : Nat) (d : Int32) (x y z : α) : α := if a = 0 then x else if b = 0 then x else if c = 0 then x else if 6 ≤ hk then y else if d = 0 then z else y
def s_ent (bn : Nat) (f : Nat → Int32) (a : Int32) : Nat → Int32 := if bn < 60 then upd f bn a else f
theorem s_in_ix {x lo hi : Int32} {a b : Nat} (h : ¬ s_in x lo hi = 0) (hl : lo = nI a) (hh : hi = nI b) (hb : b < 2 ^ 31) (hab : a < 2 ^ 31) : x = nI x.toNatClampNeg ∧ a ≤ x.toNatClampNeg ∧ x.toNatClampNeg ≤ b := by
  unfold s_in at h
  split at h
  · exact absurd rfl h
  · rename_i h0
    split at h
    · exact absurd rfl h
    · rename_i h1
      subst hl; subst hh
      have e0 : (0 : Int32) = nI 0 := rfl
      have hx0 : ¬ x < 0 := fun q => h0 (by
        rw [Int32.lt_iff_toInt_lt] at q ⊢
        rw [nI_toInt hab]
        rw [Int32.toInt_zero] at q
        omega)
      obtain ⟨j, hj, rfl⟩ := nI_of hx0
      rw [nI_clamp hj]
      rw [nI_ltI hj hab] at h0
      rw [nI_ltI hb hj] at h1
      exact ⟨rfl, by omega, by omega⟩
theorem s_isp_ix {x y pah : Int32} {k n : Nat} (hk : k ≤ 6) (hn : n ≤ 4) (hp : pah = nI n) (h : ¬ s_isp x y (nI k) pah = 0) : (x = nI x.toNatClampNeg ∧ x.toNatClampNeg < k) ∧ y = nI y.toNatClampNeg ∧ y.toNatClampNeg < n := by
  unfold s_isp at h
  split at h
  · exact absurd rfl h
  · rename_i h0
    split at h
    · exact absurd rfl h
    · rename_i h1
      split at h
      · exact absurd rfl h
      · rename_i h2
        refine ⟨s_ish_ix hk h0, ?_⟩
        obtain ⟨j, hj, rfl⟩ := nI_of h1
        rw [nI_clamp hj]
        refine ⟨rfl, ?_⟩
        rcases Nat.lt_or_ge j n with q | q
        · exact q
        · exact absurd (by rw [hp]; exact nI_le q hj) h2
abbrev JS : Type := (Nat → Int32) × (Nat → Int32) × (Nat → Int32) × (Nat → Int32) × Nat × Int32 × Int32
def J_lh (x : JS) : Nat → Int32 := x.1
def J_ls (x : JS) : Nat → Int32 := x.2.1
def J_lw (x : JS) : Nat → Int32 := x.2.2.1
def J_lt (x : JS) : Nat → Int32 := x.2.2.2.1
def J_bn (x : JS) : Nat := x.2.2.2.2.1
def J_ta (x : JS) : Int32 := x.2.2.2.2.2.1
def J_br (x : JS) : Int32 := x.2.2.2.2.2.2
def s_jst (tk : Nat → Int32) (fn : Nat → Nat) (fl ai hr : Int32) (h : Nat) (J : JS) : JS :=
  if tk h ≤ 0 then J else if s_out (nI (fn h)) fl ai hr = 0 then (J_lh J, J_ls J, J_lw J, J_lt J, J_bn J, J_ta J ||| (1 <<< (nI h &&& 31)), J_br J)
  else (s_ent (J_bn J) (J_lh J) hr, s_ent (J_bn J) (J_ls J) 1, s_ent (J_bn J) (J_lw J) (nI h), upd (J_lt J) (fn h) (J_lt J (fn h) + 1), J_bn J + 1, J_ta J ||| (1 <<< (nI h &&& 31)), J_br J ||| (1 <<< (nI h &&& 31)))
def s_jrun (tk : Nat → Int32) (fn : Nat → Nat) (fl ai hr : Int32) : Nat → JS → JS
  | 0, J => J
  | h + 1, J => s_jst tk fn fl ai hr h (s_jrun tk fn fl ai hr h J)
theorem s_jrun_bn (tk : Nat → Int32) (fn : Nat → Nat) (fl ai hr : Int32) (h : Nat) (J : JS) : J_bn (s_jrun tk fn fl ai hr h J) ≤ J_bn J + h := by
  induction h with
  | zero => exact Nat.le_refl _
  | succ h ih =>
    show J_bn (s_jst tk fn fl ai hr h (s_jrun tk fn fl ai hr h J)) ≤ _
    unfold s_jst
    split
    · omega
    · split
      · show J_bn (s_jrun tk fn fl ai hr h J) ≤ _
        omega
      · show J_bn (s_jrun tk fn fl ai hr h J) + 1 ≤ _
        omega
def s_who (J : JS) : Int32 := if J_br J = 0 then J_ta J else J_br J
/-- the mill's right behind the turns: short 0 is 'not broken' -/
def s_mill (short hr : Int32) (J : JS) : JS := if short = 0 then J else (s_ent (J_bn J) (J_lh J) hr, s_ent (J_bn J) (J_ls J) 2, s_ent (J_bn J) (J_lw J) (s_who J), J_lt J, J_bn J + 1, J_ta J, J_br J)
def s_told (ish what fa wi pa qu ca mo tk : Int32) : Int32 := if ish = 0 then -1 else if what = 0 then fa else if what = 1 then wi else if what = 2 then pa else if what = 3 then qu else if what = 4 then ca / 100 else if what = 5 then ca else if what = 6 then mo else if what = 7 then tk else -1
def s_pane (isp what gr go we dr sh ea : Int32) : Int32 := if isp = 0 then -1 else if what = 0 then gr else if what = 1 then go else if what = 2 then we else if what = 3 then dr else if what = 4 then sh else if what = 5 then ea else -1
def s_strm (what fl ai br du mi am mb : Int32) : Int32 := if what = 0 then fl else if what = 1 then ai else if what = 2 then br else if what = 3 then du else if what = 4 then mi else if what = 5 then am else if what = 6 then mb else -100
def s_brk (i what inw al none a b c : Int32) (kn : Int32) : Int32 := if i = -1 then (if what = 0 then al else if i < 0 then -1 else if inw = 0 then -1 else if i < kn then (if what = 0 then a else if what = 1 then b else c) else none) else if i < 0 then -1 else if inw = 0 then -1 else if i < kn then (if what = 0 then a else if what = 1 then b else c) else none
def s_frm (inf what a b c d : Int32) : Int32 := if inf = 0 then -1 else if what = 0 then a else if what = 1 then b else if what = 2 then c else if what = 3 then d else -1
def s_cnt (what a b c : Int32) : Int32 := if what = 0 then a else if what = 1 then b else if what = 2 then c else -1

set_option maxRecDepth 100000 in
set_option maxHeartbeats 4000000 in
theorem c_X2_addHatch (l : Launch) (G : v_Cfg) (o0 : Nat) (oFa : Nat) (oWi : Nat) (oPa : Nat) (oQu : Nat) (oSh : Nat) (hk : Nat) (fl : Int32) (ai : Int32) (rn : Int32) (rf : Int32) (rt : Int32) (wi : Nat → Int32) (fn : Nat → Nat) (pn : Nat → Nat) (f : Nat) (w : Int32) (q : Nat) (hk5 : hk < 6) : MuI l G yX2_addHatch cX2_addHatch 5 (some .int) 0 [.ref o0, .int (nI f), .int w, .int (nI q)] [(o0, .inr (2, [.ref oFa, .ref oWi, .ref oPa, .ref oQu, .ref oSh, .int (nI hk), .int fl, .int ai, .int rn, .int rf, .int rt])), (oFa, .inl (G.2.1, 6, .inl (pN fn))), (oWi, .inl (G.2.1, 6, .inl wi)), (oPa, .inl (G.2.1, 6, .inl (pN pn)))] [(o0, .inr (2, [.ref oFa, .ref oWi, .ref oPa, .ref oQu, .ref oSh, .int (nI (hk + 1)), .int fl, .int ai, .int rn, .int rf, .int rt])), (oFa, .inl (G.2.1, 6, .inl (pN (updN fn hk f)))), (oWi, .inl (G.2.1, 6, .inl (upd wi hk w))), (oPa, .inl (G.2.1, 6, .inl (pN (updN pn hk q))))] (nI hk) := by
  refine MuI.of (own := RX2) (by decide) rfl (Nat.le_of_ble_eq_true rfl) (fun p e s m below meth c => ?_)
  refine v_aload_n dX2_addHatch_0 rfl 0 rfl ?_
  refine v_get fX2_34 dX2_addHatch_1 0 rfl rfl ?_
  refine v_istore (lv' := [(4, .int (nI hk)), (0, .ref o0), (1, .int (nI f)), (2, .int w), (3, .int (nI q))]) dX2_addHatch_4 (by decide) rfl ?_
  refine v_aload_n dX2_addHatch_6 rfl 1 rfl ?_
  refine v_get fX2_9 dX2_addHatch_7 0 rfl rfl ?_
  refine v_iload dX2_addHatch_10 0 rfl ?_
  refine v_iload_n dX2_addHatch_12 rfl 2 rfl ?_
  refine v_iast (ws' := [(o0, .inr (2, [.ref oFa, .ref oWi, .ref oPa, .ref oQu, .ref oSh, .int (nI hk), .int fl, .int ai, .int rn, .int rf, .int rt])), (oFa, .inl (G.2.1, 6, .inl (upd (pN fn) hk (nI f)))), (oWi, .inl (G.2.1, 6, .inl wi)), (oPa, .inl (G.2.1, 6, .inl (pN pn)))]) dX2_addHatch_13 1 rfl hk rfl (by omega) (by decide) rfl ?_
  refine v_aload_n dX2_addHatch_14 rfl 1 rfl ?_
  refine v_get fX2_15 dX2_addHatch_15 0 rfl rfl ?_
  refine v_iload dX2_addHatch_18 0 rfl ?_
  refine v_iload_n dX2_addHatch_20 rfl 3 rfl ?_
  refine v_iast (ws' := [(o0, .inr (2, [.ref oFa, .ref oWi, .ref oPa, .ref oQu, .ref oSh, .int (nI hk), .int fl, .int ai, .int rn, .int rf, .int rt])), (oFa, .inl (G.2.1, 6, .inl (upd (pN fn) hk (nI f)))), (oWi, .inl (G.2.1, 6, .inl (upd wi hk w))), (oPa, .inl (G.2.1, 6, .inl (pN pn)))]) dX2_addHatch_21 2 rfl hk rfl (by omega) (by decide) rfl ?_
  refine v_aload_n dX2_addHatch_22 rfl 1 rfl ?_
  refine v_get fX2_18 dX2_addHatch_23 0 rfl rfl ?_
  refine v_iload dX2_addHatch_26 0 rfl ?_
  refine v_iload_n dX2_addHatch_28 rfl 4 rfl ?_
  refine v_iast (ws' := [(o0, .inr (2, [.ref oFa, .ref oWi, .ref oPa, .ref oQu, .ref oSh, .int (nI hk), .int fl, .int ai, .int rn, .int rf, .int rt])), (oFa, .inl (G.2.1, 6, .inl (upd (pN fn) hk (nI f)))), (oWi, .inl (G.2.1, 6, .inl (upd wi hk w))), (oPa, .inl (G.2.1, 6, .inl (upd (pN pn) hk (nI q))))]) dX2_addHatch_29 3 rfl hk rfl (by omega) (by decide) rfl ?_
  refine v_aload_n dX2_addHatch_30 rfl 1 rfl ?_
  refine v_dup dX2_addHatch_31 rfl ?_
  refine v_get fX2_34 dX2_addHatch_32 0 rfl rfl ?_
  refine v_iconst (v := 1) dX2_addHatch_35 (by decide) ?_
  refine v_iadd dX2_addHatch_36 ?_
  refine v_eqi (nI (hk + 1)) (nI_1 hk) ?_
  refine v_puti (ws' := [(o0, .inr (2, [.ref oFa, .ref oWi, .ref oPa, .ref oQu, .ref oSh, .int (nI (hk + 1)), .int fl, .int ai, .int rn, .int rf, .int rt])), (oFa, .inl (G.2.1, 6, .inl (upd (pN fn) hk (nI f)))), (oWi, .inl (G.2.1, 6, .inl (upd wi hk w))), (oPa, .inl (G.2.1, 6, .inl (upd (pN pn) hk (nI q))))]) pX2_34 dX2_addHatch_37 0 rfl (Nat.le_of_ble_eq_true rfl) rfl ?_
  refine v_iload dX2_addHatch_40 0 rfl ?_
  exact v_iretM dX2_addHatch_42 rfl (v_w2 (fun (z0 : Nat → Int32) (z1 : Nat → Int32) => ([(o0, .inr (2, [.ref oFa, .ref oWi, .ref oPa, .ref oQu, .ref oSh, .int (nI (hk + 1)), .int fl, .int ai, .int rn, .int rf, .int rt])), (oFa, .inl (G.2.1, 6, .inl z0)), (oWi, .inl (G.2.1, 6, .inl (upd wi hk w))), (oPa, .inl (G.2.1, 6, .inl z1))] : va_W)) (pN_upd _ _ _) (pN_upd _ _ _))

set_option maxRecDepth 100000 in
set_option maxHeartbeats 4000000 in
theorem c_X1_enter (l : Launch) (G : v_Cfg) (g0 : Nat) (lH : Nat) (lS : Nat) (lW : Nat) (lT : Nat) (bn : Nat) (lh : Nat → Int32) (ls : Nat → Int32) (lw : Nat → Int32) (a : Int32) (b : Int32) (d : Int32) (hbn : bn < 1000000) : MuV l G yX1_enter cX1_enter 4 none 0 [.ref g0, .int a, .int b, .int d] [(g0, .inr (1, [.ref lH, .ref lS, .ref lW, .ref lT, .int (nI (min bn 60)), .int (nI bn)])), (lH, .inl (G.2.1, 60, .inl lh)), (lS, .inl (G.2.1, 60, .inl ls)), (lW, .inl (G.2.1, 60, .inl lw))] [(g0, .inr (1, [.ref lH, .ref lS, .ref lW, .ref lT, .int (nI (min (bn + 1) 60)), .int (nI (bn + 1))])), (lH, .inl (G.2.1, 60, .inl (s_ent bn lh a))), (lS, .inl (G.2.1, 60, .inl (s_ent bn ls b))), (lW, .inl (G.2.1, 60, .inl (s_ent bn lw d)))] := by
  refine MuV.of (own := RX1) (by decide) rfl (Nat.le_of_ble_eq_true rfl) (fun p e s m below meth c => ?_)
  refine v_aload_n dX1_enter_0 rfl 0 rfl ?_
  refine v_dup dX1_enter_1 rfl ?_
  refine v_get fX1_28 dX1_enter_2 0 rfl rfl ?_
  refine v_iconst (v := 1) dX1_enter_5 (by decide) ?_
  refine v_iadd dX1_enter_6 ?_
  refine v_eqi (nI (bn + 1)) (nI_1 bn) ?_
  refine v_puti (ws' := [(g0, .inr (1, [.ref lH, .ref lS, .ref lW, .ref lT, .int (nI (min bn 60)), .int (nI (bn + 1))])), (lH, .inl (G.2.1, 60, .inl lh)), (lS, .inl (G.2.1, 60, .inl ls)), (lW, .inl (G.2.1, 60, .inl lw))]) pX1_28 dX1_enter_7 0 rfl (Nat.le_of_ble_eq_true rfl) rfl ?_
  refine v_aload_n dX1_enter_10 rfl 0 rfl ?_
  refine v_get fX1_32 dX1_enter_11 0 rfl rfl ?_
  refine v_bipush (v := nI 60) dX1_enter_14 (by decide) ?_
  by_cases n16 : bn < 60
  · refine v_icmp_ge (tgt := 59) dX1_enter_16 (by decide) (fun h16 => absurd h16 (nI_ge (by omega) (by omega))) (fun h16 => ?_)
    refine v_aload_n dX1_enter_19 rfl 0 rfl ?_
    refine v_get fX1_9 dX1_enter_20 0 rfl rfl ?_
    refine v_aload_n dX1_enter_23 rfl 0 rfl ?_
    refine v_get fX1_32 dX1_enter_24 0 rfl rfl ?_
    refine v_iload_n dX1_enter_27 rfl 1 rfl ?_
    refine v_iast (ws' := [(g0, .inr (1, [.ref lH, .ref lS, .ref lW, .ref lT, .int (nI (min bn 60)), .int (nI (bn + 1))])), (lH, .inl (G.2.1, 60, .inl (upd lh bn a))), (lS, .inl (G.2.1, 60, .inl ls)), (lW, .inl (G.2.1, 60, .inl lw))]) dX1_enter_28 1 rfl bn (by rw [Nat.min_eq_left (by omega)]) (by omega) (by decide) rfl ?_
    refine v_aload_n dX1_enter_29 rfl 0 rfl ?_
    refine v_get fX1_15 dX1_enter_30 0 rfl rfl ?_
    refine v_aload_n dX1_enter_33 rfl 0 rfl ?_
    refine v_get fX1_32 dX1_enter_34 0 rfl rfl ?_
    refine v_iload_n dX1_enter_37 rfl 2 rfl ?_
    refine v_iast (ws' := [(g0, .inr (1, [.ref lH, .ref lS, .ref lW, .ref lT, .int (nI (min bn 60)), .int (nI (bn + 1))])), (lH, .inl (G.2.1, 60, .inl (upd lh bn a))), (lS, .inl (G.2.1, 60, .inl (upd ls bn b))), (lW, .inl (G.2.1, 60, .inl lw))]) dX1_enter_38 2 rfl bn (by rw [Nat.min_eq_left (by omega)]) (by omega) (by decide) rfl ?_
    refine v_aload_n dX1_enter_39 rfl 0 rfl ?_
    refine v_get fX1_18 dX1_enter_40 0 rfl rfl ?_
    refine v_aload_n dX1_enter_43 rfl 0 rfl ?_
    refine v_get fX1_32 dX1_enter_44 0 rfl rfl ?_
    refine v_iload_n dX1_enter_47 rfl 3 rfl ?_
    refine v_iast (ws' := [(g0, .inr (1, [.ref lH, .ref lS, .ref lW, .ref lT, .int (nI (min bn 60)), .int (nI (bn + 1))])), (lH, .inl (G.2.1, 60, .inl (upd lh bn a))), (lS, .inl (G.2.1, 60, .inl (upd ls bn b))), (lW, .inl (G.2.1, 60, .inl (upd lw bn d)))]) dX1_enter_48 3 rfl bn (by rw [Nat.min_eq_left (by omega)]) (by omega) (by decide) rfl ?_
    refine v_aload_n dX1_enter_49 rfl 0 rfl ?_
    refine v_dup dX1_enter_50 rfl ?_
    refine v_get fX1_32 dX1_enter_51 0 rfl rfl ?_
    refine v_iconst (v := 1) dX1_enter_54 (by decide) ?_
    refine v_iadd dX1_enter_55 ?_
    refine v_eqi (nI (min (bn + 1) 60)) (by rw [nI_1]; exact congrArg nI (by omega)) ?_
    refine v_puti (ws' := [(g0, .inr (1, [.ref lH, .ref lS, .ref lW, .ref lT, .int (nI (min (bn + 1) 60)), .int (nI (bn + 1))])), (lH, .inl (G.2.1, 60, .inl (upd lh bn a))), (lS, .inl (G.2.1, 60, .inl (upd ls bn b))), (lW, .inl (G.2.1, 60, .inl (upd lw bn d)))]) pX1_32 dX1_enter_56 0 rfl (Nat.le_of_ble_eq_true rfl) rfl ?_
    exact v_vretM dX1_enter_59 (v_w3 (fun (z0 : Nat → Int32) (z1 : Nat → Int32) (z2 : Nat → Int32) => ([(g0, .inr (1, [.ref lH, .ref lS, .ref lW, .ref lT, .int (nI (min (bn + 1) 60)), .int (nI (bn + 1))])), (lH, .inl (G.2.1, 60, .inl z0)), (lS, .inl (G.2.1, 60, .inl z1)), (lW, .inl (G.2.1, 60, .inl z2))] : va_W)) (by simp only [s_ent, if_pos n16, u_id] <;> rfl) (by simp only [s_ent, if_pos n16, u_id] <;> rfl) (by simp only [s_ent, if_pos n16, u_id] <;> rfl))
  · refine v_icmp_ge (tgt := 59) dX1_enter_16 (by decide) (fun h16 => ?_) (fun h16 => absurd (nI_le (by omega) (by omega)) h16)
    exact v_vretM dX1_enter_59 (v_w4 (fun (z0 : Int32) (z1 : Nat → Int32) (z2 : Nat → Int32) (z3 : Nat → Int32) => ([(g0, .inr (1, [.ref lH, .ref lS, .ref lW, .ref lT, .int z0, .int (nI (bn + 1))])), (lH, .inl (G.2.1, 60, .inl z1)), (lS, .inl (G.2.1, 60, .inl z2)), (lW, .inl (G.2.1, 60, .inl z3))] : va_W)) (congrArg nI (by omega)) (by simp only [s_ent, if_neg n16, u_id] <;> rfl) (by simp only [s_ent, if_neg n16, u_id] <;> rfl) (by simp only [s_ent, if_neg n16, u_id] <;> rfl))

set_option maxRecDepth 100000 in
set_option maxHeartbeats 4000000 in
theorem c_X1_enterTurn (l : Launch) (G : v_Cfg) (g0 : Nat) (lH : Nat) (lS : Nat) (lW : Nat) (lT : Nat) (bn : Nat) (lh : Nat → Int32) (ls : Nat → Int32) (lw : Nat → Int32) (lt : Nat → Int32) (a : Int32) (b : Int32) (f : Nat) (hbn : bn < 1000000) (hf4 : f < 4) : MuV l G yX1_enterTurn cX1_enterTurn 4 none 1 [.ref g0, .int a, .int b, .int (nI f)] [(g0, .inr (1, [.ref lH, .ref lS, .ref lW, .ref lT, .int (nI (min bn 60)), .int (nI bn)])), (lH, .inl (G.2.1, 60, .inl lh)), (lS, .inl (G.2.1, 60, .inl ls)), (lW, .inl (G.2.1, 60, .inl lw)), (lT, .inl (G.2.1, 4, .inl lt))] [(g0, .inr (1, [.ref lH, .ref lS, .ref lW, .ref lT, .int (nI (min (bn + 1) 60)), .int (nI (bn + 1))])), (lH, .inl (G.2.1, 60, .inl (s_ent bn lh a))), (lS, .inl (G.2.1, 60, .inl (s_ent bn ls 1))), (lW, .inl (G.2.1, 60, .inl (s_ent bn lw b))), (lT, .inl (G.2.1, 4, .inl (upd lt f (lt f + 1))))] := by
  refine MuV.of (own := RX1) (by decide) rfl (Nat.le_of_ble_eq_true rfl) (fun p e s m below meth c => ?_)
  refine v_aload_n dX1_enterTurn_0 rfl 0 rfl ?_
  refine v_get fX1_21 dX1_enterTurn_1 0 rfl rfl ?_
  refine v_iload_n dX1_enterTurn_4 rfl 3 rfl ?_
  refine v_dup2 dX1_enterTurn_5 rfl rfl ?_
  refine v_iald dX1_enterTurn_6 4 rfl f rfl (by omega) (by decide) ?_
  refine v_iconst (v := 1) dX1_enterTurn_7 (by decide) ?_
  refine v_iadd dX1_enterTurn_8 ?_
  refine v_iast (ws' := [(g0, .inr (1, [.ref lH, .ref lS, .ref lW, .ref lT, .int (nI (min bn 60)), .int (nI bn)])), (lH, .inl (G.2.1, 60, .inl lh)), (lS, .inl (G.2.1, 60, .inl ls)), (lW, .inl (G.2.1, 60, .inl lw)), (lT, .inl (G.2.1, 4, .inl (upd lt f ((lt f) + 1))))]) dX1_enterTurn_9 4 rfl f rfl (by omega) (by decide) rfl ?_
  refine v_aload_n dX1_enterTurn_10 rfl 0 rfl ?_
  refine v_iload_n dX1_enterTurn_11 rfl 1 rfl ?_
  refine v_iconst (v := 1) dX1_enterTurn_12 (by decide) ?_
  refine v_iload_n dX1_enterTurn_13 rfl 2 rfl ?_
  refine v_vMv (ws' := [(g0, .inr (1, [.ref lH, .ref lS, .ref lW, .ref lT, .int (nI (min (bn + 1) 60)), .int (nI (bn + 1))])), (lH, .inl (G.2.1, 60, .inl (s_ent bn lh a))), (lS, .inl (G.2.1, 60, .inl (s_ent bn ls 1))), (lW, .inl (G.2.1, 60, .inl (s_ent bn lw b))), (lT, .inl (G.2.1, 4, .inl (upd lt f ((lt f) + 1))))]) (As := [.int a, .int 1, .int b]) (rest := []) (c_X1_enter l G g0 lH lS lW lT bn lh ls lw a 1 b (by omega)) YX1_enter mX1_24 dX1_enterTurn_14 ciX1 0 rfl [0, 1, 2, 3] (by decide) rfl rfl rfl rfl rfl rfl (Nat.le_of_ble_eq_true rfl) (by decide) (by decide) ?_
  exact v_vretM dX1_enterTurn_17 rfl

set_option maxRecDepth 100000 in
set_option maxHeartbeats 4000000 in
theorem c_X3_hasAllDeeds (l : Launch) (G : v_Cfg) (x0 : Nat) (o0 : Nat) (g0 : Nat) (c0 : Nat) (sA : Nat) (ho : Nat) (de : Nat) (hde : de ≤ 90) : RdI l G yX3_hasAllDeeds cX3_hasAllDeeds 1 (some .boolean) 0 [.ref x0] [(x0, .inr (3, [.ref o0, .ref g0, .ref c0, .ref sA, .int (nI ho), .int (nI de)]))] (s_fu de) := by
  refine RdI.of (own := RX3) (by decide) rfl (Nat.le_of_ble_eq_true rfl) (fun p e s m below meth c => ?_)
  refine v_aload_n dX3_hasAllDeeds_0 rfl 0 rfl ?_
  refine v_get fX3_48 dX3_hasAllDeeds_1 0 rfl rfl ?_
  refine v_bipush (v := nI 90) dX3_hasAllDeeds_4 (by decide) ?_
  by_cases n6 : de < 90
  · refine v_icmp_lt (tgt := 13) dX3_hasAllDeeds_6 (by decide) (fun h6 => ?_) (fun h6 => absurd (nI_lt n6 (by omega)) h6)
    refine v_iconst (v := 0) dX3_hasAllDeeds_13 (by decide) ?_
    exact v_zretR dX3_hasAllDeeds_14 (by simp only [s_fu, if_pos n6] <;> rfl) rfl
  · refine v_icmp_lt (tgt := 13) dX3_hasAllDeeds_6 (by decide) (fun h6 => absurd h6 (nI_nlt (by omega) (by omega))) (fun h6 => ?_)
    refine v_iconst (v := 1) dX3_hasAllDeeds_9 (by decide) ?_
    refine v_goto (tgt := 14) dX3_hasAllDeeds_10 (by decide) ?_
    exact v_zretR dX3_hasAllDeeds_14 (by simp only [s_fu, if_neg n6] <;> rfl) rfl

set_option maxRecDepth 100000 in
set_option maxHeartbeats 4000000 in
theorem c_X3_flow (l : Launch) (G : v_Cfg) (x0 : Nat) (o0 : Nat) (g0 : Nat) (c0 : Nat) (sA : Nat) (ho : Nat) (de : Nat) (oFa : Nat) (oWi : Nat) (oPa : Nat) (oQu : Nat) (oSh : Nat) (hk : Nat) (fl : Int32) (ai : Int32) (rn : Int32) (rf : Int32) (rt : Int32) (x : Int32) (hde : de ≤ 90) : MuI l G yX3_flow cX3_flow 3 (some .int) 1 [.ref x0, .int x] [(x0, .inr (3, [.ref o0, .ref g0, .ref c0, .ref sA, .int (nI ho), .int (nI de)])), (o0, .inr (2, [.ref oFa, .ref oWi, .ref oPa, .ref oQu, .ref oSh, .int (nI hk), .int fl, .int ai, .int rn, .int rf, .int rt]))] [(x0, .inr (3, [.ref o0, .ref g0, .ref c0, .ref sA, .int (nI ho), .int (nI (s_sel (s_in x 0 1000) (s_fu de) de de (de + 1)))])), (o0, .inr (2, [.ref oFa, .ref oWi, .ref oPa, .ref oQu, .ref oSh, .int (nI hk), .int (s_sel (s_in x 0 1000) (s_fu de) fl fl x), .int ai, .int rn, .int rf, .int rt]))] (s_sel (s_in x 0 1000) (s_fu de) ((-1)) ((-3)) fl) := by
  refine MuI.of (own := RX3) (by decide) rfl (Nat.le_of_ble_eq_true rfl) (fun p e s m below meth c => ?_)
  refine v_iload_n dX3_flow_0 rfl 1 rfl ?_
  refine v_iconst (v := 0) dX3_flow_1 (by decide) ?_
  refine v_sipush (v := 1000) dX3_flow_2 (by decide) ?_
  refine v_sRd (As := [.int x, .int 0, .int 1000]) (rest := []) (c_X3_isWithin l G x 0 1000 ) YX3_isWithin mX3_36 dX3_flow_5 [] rfl rfl rfl (Nat.le_of_ble_eq_true rfl) (by decide) (by decide) ?_
  refine v_if_ne (tgt := 13) dX3_flow_8 (by decide) (fun h8 => ?_) (fun h8 => ?_)
  · skip
    refine v_aload_n dX3_flow_13 rfl 0 rfl ?_
    refine v_vRd (As := []) (rest := []) (c_X3_hasAllDeeds l G x0 o0 g0 c0 sA ho de (by omega)) YX3_hasAllDeeds mX3_44 dX3_flow_14 ciX3 0 rfl [0] rfl rfl rfl (Nat.le_of_ble_eq_true rfl) (by decide) (by decide) ?_
    refine v_if_eq (tgt := 23) dX3_flow_17 (by decide) (fun h17 => ?_) (fun h17 => ?_)
    · skip
      refine v_aload_n dX3_flow_23 rfl 0 rfl ?_
      refine v_dup dX3_flow_24 rfl ?_
      refine v_get fX3_48 dX3_flow_25 0 rfl rfl ?_
      refine v_iconst (v := 1) dX3_flow_28 (by decide) ?_
      refine v_iadd dX3_flow_29 ?_
      refine v_eqi (nI (de + 1)) (nI_1 de) ?_
      refine v_puti (ws' := [(x0, .inr (3, [.ref o0, .ref g0, .ref c0, .ref sA, .int (nI ho), .int (nI (de + 1))])), (o0, .inr (2, [.ref oFa, .ref oWi, .ref oPa, .ref oQu, .ref oSh, .int (nI hk), .int fl, .int ai, .int rn, .int rf, .int rt]))]) pX3_48 dX3_flow_30 0 rfl (Nat.le_of_ble_eq_true rfl) rfl ?_
      refine v_aload_n dX3_flow_33 rfl 0 rfl ?_
      refine v_get fX3_10 dX3_flow_34 0 rfl rfl ?_
      refine v_get fX3_63 dX3_flow_37 1 rfl rfl ?_
      refine v_istore_n (lv' := [(2, .int fl), (0, .ref x0), (1, .int x)]) dX3_flow_40 rfl (by decide) rfl ?_
      refine v_aload_n dX3_flow_41 rfl 1 rfl ?_
      refine v_get fX3_10 dX3_flow_42 0 rfl rfl ?_
      refine v_iload_n dX3_flow_45 rfl 2 rfl ?_
      refine v_puti (ws' := [(x0, .inr (3, [.ref o0, .ref g0, .ref c0, .ref sA, .int (nI ho), .int (nI (de + 1))])), (o0, .inr (2, [.ref oFa, .ref oWi, .ref oPa, .ref oQu, .ref oSh, .int (nI hk), .int x, .int ai, .int rn, .int rf, .int rt]))]) pX3_63 dX3_flow_46 1 rfl (Nat.le_of_ble_eq_true rfl) rfl ?_
      refine v_iload_n dX3_flow_49 rfl 0 rfl ?_
      exact v_iretM dX3_flow_50 (by simp only [s_sel, if_neg h8, if_pos h17] <;> rfl) (v_w2 (fun (z0 : Int32) (z1 : Int32) => ([(x0, .inr (3, [.ref o0, .ref g0, .ref c0, .ref sA, .int (nI ho), .int z0])), (o0, .inr (2, [.ref oFa, .ref oWi, .ref oPa, .ref oQu, .ref oSh, .int (nI hk), .int z1, .int ai, .int rn, .int rf, .int rt]))] : va_W)) (by simp only [s_sel, if_neg h8, if_pos h17, u_id] <;> rfl) (by simp only [s_sel, if_neg h8, if_pos h17, u_id] <;> rfl))
    · skip
      refine v_bipush (v := (-3)) dX3_flow_20 (by decide) ?_
      exact v_iretM dX3_flow_22 (by simp only [s_sel, if_neg h8, if_neg h17] <;> rfl) (v_w2 (fun (z0 : Int32) (z1 : Int32) => ([(x0, .inr (3, [.ref o0, .ref g0, .ref c0, .ref sA, .int (nI ho), .int z0])), (o0, .inr (2, [.ref oFa, .ref oWi, .ref oPa, .ref oQu, .ref oSh, .int (nI hk), .int z1, .int ai, .int rn, .int rf, .int rt]))] : va_W)) (by simp only [s_sel, if_neg h8, if_neg h17, u_id] <;> rfl) (by simp only [s_sel, if_neg h8, if_neg h17, u_id] <;> rfl))
  · skip
    refine v_iconst (v := (-1)) dX3_flow_11 (by decide) ?_
    exact v_iretM dX3_flow_12 (by simp only [s_sel, if_pos h8] <;> rfl) (v_w2 (fun (z0 : Int32) (z1 : Int32) => ([(x0, .inr (3, [.ref o0, .ref g0, .ref c0, .ref sA, .int (nI ho), .int z0])), (o0, .inr (2, [.ref oFa, .ref oWi, .ref oPa, .ref oQu, .ref oSh, .int (nI hk), .int z1, .int ai, .int rn, .int rf, .int rt]))] : va_W)) (by simp only [s_sel, if_pos h8, u_id] <;> rfl) (by simp only [s_sel, if_pos h8, u_id] <;> rfl))

set_option maxRecDepth 100000 in
set_option maxHeartbeats 4000000 in
theorem c_X3_air (l : Launch) (G : v_Cfg) (x0 : Nat) (o0 : Nat) (g0 : Nat) (c0 : Nat) (sA : Nat) (ho : Nat) (de : Nat) (oFa : Nat) (oWi : Nat) (oPa : Nat) (oQu : Nat) (oSh : Nat) (hk : Nat) (fl : Int32) (ai : Int32) (rn : Int32) (rf : Int32) (rt : Int32) (x : Int32) (hde : de ≤ 90) : MuI l G yX3_air cX3_air 3 (some .int) 1 [.ref x0, .int x] [(x0, .inr (3, [.ref o0, .ref g0, .ref c0, .ref sA, .int (nI ho), .int (nI de)])), (o0, .inr (2, [.ref oFa, .ref oWi, .ref oPa, .ref oQu, .ref oSh, .int (nI hk), .int fl, .int ai, .int rn, .int rf, .int rt]))] [(x0, .inr (3, [.ref o0, .ref g0, .ref c0, .ref sA, .int (nI ho), .int (nI (s_sel (s_in x (-20) 30) (s_fu de) de de (de + 1)))])), (o0, .inr (2, [.ref oFa, .ref oWi, .ref oPa, .ref oQu, .ref oSh, .int (nI hk), .int fl, .int (s_sel (s_in x (-20) 30) (s_fu de) ai ai x), .int rn, .int rf, .int rt]))] (s_sel (s_in x (-20) 30) (s_fu de) ((-100)) ((-101)) ai) := by
  refine MuI.of (own := RX3) (by decide) rfl (Nat.le_of_ble_eq_true rfl) (fun p e s m below meth c => ?_)
  refine v_iload_n dX3_air_0 rfl 1 rfl ?_
  refine v_bipush (v := (-20)) dX3_air_1 (by decide) ?_
  refine v_bipush (v := 30) dX3_air_3 (by decide) ?_
  refine v_sRd (As := [.int x, .int ((-20)), .int 30]) (rest := []) (c_X3_isWithin l G x (-20) 30 ) YX3_isWithin mX3_36 dX3_air_5 [] rfl rfl rfl (Nat.le_of_ble_eq_true rfl) (by decide) (by decide) ?_
  refine v_if_ne (tgt := 14) dX3_air_8 (by decide) (fun h8 => ?_) (fun h8 => ?_)
  · skip
    refine v_aload_n dX3_air_14 rfl 0 rfl ?_
    refine v_vRd (As := []) (rest := []) (c_X3_hasAllDeeds l G x0 o0 g0 c0 sA ho de (by omega)) YX3_hasAllDeeds mX3_44 dX3_air_15 ciX3 0 rfl [0] rfl rfl rfl (Nat.le_of_ble_eq_true rfl) (by decide) (by decide) ?_
    refine v_if_eq (tgt := 24) dX3_air_18 (by decide) (fun h18 => ?_) (fun h18 => ?_)
    · skip
      refine v_aload_n dX3_air_24 rfl 0 rfl ?_
      refine v_dup dX3_air_25 rfl ?_
      refine v_get fX3_48 dX3_air_26 0 rfl rfl ?_
      refine v_iconst (v := 1) dX3_air_29 (by decide) ?_
      refine v_iadd dX3_air_30 ?_
      refine v_eqi (nI (de + 1)) (nI_1 de) ?_
      refine v_puti (ws' := [(x0, .inr (3, [.ref o0, .ref g0, .ref c0, .ref sA, .int (nI ho), .int (nI (de + 1))])), (o0, .inr (2, [.ref oFa, .ref oWi, .ref oPa, .ref oQu, .ref oSh, .int (nI hk), .int fl, .int ai, .int rn, .int rf, .int rt]))]) pX3_48 dX3_air_31 0 rfl (Nat.le_of_ble_eq_true rfl) rfl ?_
      refine v_aload_n dX3_air_34 rfl 0 rfl ?_
      refine v_get fX3_10 dX3_air_35 0 rfl rfl ?_
      refine v_get fX3_66 dX3_air_38 1 rfl rfl ?_
      refine v_istore_n (lv' := [(2, .int ai), (0, .ref x0), (1, .int x)]) dX3_air_41 rfl (by decide) rfl ?_
      refine v_aload_n dX3_air_42 rfl 1 rfl ?_
      refine v_get fX3_10 dX3_air_43 0 rfl rfl ?_
      refine v_iload_n dX3_air_46 rfl 2 rfl ?_
      refine v_puti (ws' := [(x0, .inr (3, [.ref o0, .ref g0, .ref c0, .ref sA, .int (nI ho), .int (nI (de + 1))])), (o0, .inr (2, [.ref oFa, .ref oWi, .ref oPa, .ref oQu, .ref oSh, .int (nI hk), .int fl, .int x, .int rn, .int rf, .int rt]))]) pX3_66 dX3_air_47 1 rfl (Nat.le_of_ble_eq_true rfl) rfl ?_
      refine v_iload_n dX3_air_50 rfl 0 rfl ?_
      exact v_iretM dX3_air_51 (by simp only [s_sel, if_neg h8, if_pos h18] <;> rfl) (v_w2 (fun (z0 : Int32) (z1 : Int32) => ([(x0, .inr (3, [.ref o0, .ref g0, .ref c0, .ref sA, .int (nI ho), .int z0])), (o0, .inr (2, [.ref oFa, .ref oWi, .ref oPa, .ref oQu, .ref oSh, .int (nI hk), .int fl, .int z1, .int rn, .int rf, .int rt]))] : va_W)) (by simp only [s_sel, if_neg h8, if_pos h18, u_id] <;> rfl) (by simp only [s_sel, if_neg h8, if_pos h18, u_id] <;> rfl))
    · skip
      refine v_bipush (v := (-101)) dX3_air_21 (by decide) ?_
      exact v_iretM dX3_air_23 (by simp only [s_sel, if_neg h8, if_neg h18] <;> rfl) (v_w2 (fun (z0 : Int32) (z1 : Int32) => ([(x0, .inr (3, [.ref o0, .ref g0, .ref c0, .ref sA, .int (nI ho), .int z0])), (o0, .inr (2, [.ref oFa, .ref oWi, .ref oPa, .ref oQu, .ref oSh, .int (nI hk), .int fl, .int z1, .int rn, .int rf, .int rt]))] : va_W)) (by simp only [s_sel, if_neg h8, if_neg h18, u_id] <;> rfl) (by simp only [s_sel, if_neg h8, if_neg h18, u_id] <;> rfl))
  · skip
    refine v_bipush (v := (-100)) dX3_air_11 (by decide) ?_
    exact v_iretM dX3_air_13 (by simp only [s_sel, if_pos h8] <;> rfl) (v_w2 (fun (z0 : Int32) (z1 : Int32) => ([(x0, .inr (3, [.ref o0, .ref g0, .ref c0, .ref sA, .int (nI ho), .int z0])), (o0, .inr (2, [.ref oFa, .ref oWi, .ref oPa, .ref oQu, .ref oSh, .int (nI hk), .int fl, .int z1, .int rn, .int rf, .int rt]))] : va_W)) (by simp only [s_sel, if_pos h8, u_id] <;> rfl) (by simp only [s_sel, if_pos h8, u_id] <;> rfl))

set_option maxRecDepth 100000 in
set_option maxHeartbeats 4000000 in
theorem c_X3_open (l : Launch) (G : v_Cfg) (x0 : Nat) (o0 : Nat) (g0 : Nat) (c0 : Nat) (sA : Nat) (ho : Nat) (de : Nat) (oFa : Nat) (oWi : Nat) (oPa : Nat) (oQu : Nat) (oSh : Nat) (hk : Nat) (fl : Int32) (ai : Int32) (rn : Int32) (rf : Int32) (rt : Int32) (qu : Nat → Int32) (x : Int32) (y : Int32) (hde : de ≤ 90) (hk6 : hk ≤ 6) : MuI l G yX3_open cX3_open 4 (some .int) 1 [.ref x0, .int x, .int y] [(x0, .inr (3, [.ref o0, .ref g0, .ref c0, .ref sA, .int (nI ho), .int (nI de)])), (o0, .inr (2, [.ref oFa, .ref oWi, .ref oPa, .ref oQu, .ref oSh, .int (nI hk), .int fl, .int ai, .int rn, .int rf, .int rt])), (oQu, .inl (G.2.1, 6, .inl qu))] [(x0, .inr (3, [.ref o0, .ref g0, .ref c0, .ref sA, .int (nI ho), .int (nI (s_sel2 (s_ish x (nI hk)) (s_in y 0 4) (s_fu de) de de (de + 1)))])), (o0, .inr (2, [.ref oFa, .ref oWi, .ref oPa, .ref oQu, .ref oSh, .int (nI hk), .int fl, .int ai, .int rn, .int rf, .int rt])), (oQu, .inl (G.2.1, 6, .inl (s_sel2 (s_ish x (nI hk)) (s_in y 0 4) (s_fu de) qu qu (upd qu x.toNatClampNeg y))))] (s_sel2 (s_ish x (nI hk)) (s_in y 0 4) (s_fu de) ((-1)) ((-3)) (qu x.toNatClampNeg)) := by
  refine MuI.of (own := RX3) (by decide) rfl (Nat.le_of_ble_eq_true rfl) (fun p e s m below meth c => ?_)
  refine v_aload_n dX3_open_0 rfl 0 rfl ?_
  refine v_get fX3_10 dX3_open_1 0 rfl rfl ?_
  refine v_iload_n dX3_open_4 rfl 1 rfl ?_
  refine v_vRd (As := [.int x]) (rest := []) (c_X2_isHatch l G o0 oFa oWi oPa oQu oSh hk fl ai rn rf rt x ) YX2_isHatch mX3_55 dX3_open_5 ciX2 1 rfl [1] rfl rfl rfl (Nat.le_of_ble_eq_true rfl) (by decide) (by decide) ?_
  refine v_if_eq (tgt := 20) dX3_open_8 (by decide) (fun h8 => ?_) (fun h8 => ?_)
  · skip
    refine v_iconst (v := (-1)) dX3_open_20 (by decide) ?_
    exact v_iretM dX3_open_21 (by simp only [s_sel2, if_pos h8] <;> rfl) (v_w2 (fun (z0 : Int32) (z1 : Nat → Int32) => ([(x0, .inr (3, [.ref o0, .ref g0, .ref c0, .ref sA, .int (nI ho), .int z0])), (o0, .inr (2, [.ref oFa, .ref oWi, .ref oPa, .ref oQu, .ref oSh, .int (nI hk), .int fl, .int ai, .int rn, .int rf, .int rt])), (oQu, .inl (G.2.1, 6, .inl z1))] : va_W)) (by simp only [s_sel2, if_pos h8, u_id] <;> rfl) (by simp only [s_sel2, if_pos h8, u_id] <;> rfl))
  · skip
    refine v_iload_n dX3_open_11 rfl 2 rfl ?_
    refine v_iconst (v := 0) dX3_open_12 (by decide) ?_
    refine v_iconst (v := 4) dX3_open_13 (by decide) ?_
    refine v_sRd (As := [.int y, .int 0, .int 4]) (rest := []) (c_X3_isWithin l G y 0 4 ) YX3_isWithin mX3_36 dX3_open_14 [] rfl rfl rfl (Nat.le_of_ble_eq_true rfl) (by decide) (by decide) ?_
    refine v_if_ne (tgt := 22) dX3_open_17 (by decide) (fun h17 => ?_) (fun h17 => ?_)
    · skip
      refine v_aload_n dX3_open_22 rfl 0 rfl ?_
      refine v_vRd (As := []) (rest := []) (c_X3_hasAllDeeds l G x0 o0 g0 c0 sA ho de (by omega)) YX3_hasAllDeeds mX3_44 dX3_open_23 ciX3 0 rfl [0] rfl rfl rfl (Nat.le_of_ble_eq_true rfl) (by decide) (by decide) ?_
      refine v_if_eq (tgt := 32) dX3_open_26 (by decide) (fun h26 => ?_) (fun h26 => ?_)
      · skip
        refine v_aload_n dX3_open_32 rfl 0 rfl ?_
        refine v_dup dX3_open_33 rfl ?_
        refine v_get fX3_48 dX3_open_34 0 rfl rfl ?_
        refine v_iconst (v := 1) dX3_open_37 (by decide) ?_
        refine v_iadd dX3_open_38 ?_
        refine v_eqi (nI (de + 1)) (nI_1 de) ?_
        refine v_puti (ws' := [(x0, .inr (3, [.ref o0, .ref g0, .ref c0, .ref sA, .int (nI ho), .int (nI (de + 1))])), (o0, .inr (2, [.ref oFa, .ref oWi, .ref oPa, .ref oQu, .ref oSh, .int (nI hk), .int fl, .int ai, .int rn, .int rf, .int rt])), (oQu, .inl (G.2.1, 6, .inl qu))]) pX3_48 dX3_open_39 0 rfl (Nat.le_of_ble_eq_true rfl) rfl ?_
        refine v_aload_n dX3_open_42 rfl 0 rfl ?_
        refine v_get fX3_10 dX3_open_43 0 rfl rfl ?_
        refine v_get fX3_59 dX3_open_46 1 rfl rfl ?_
        refine v_iload_n dX3_open_49 rfl 1 rfl ?_
        refine v_iald dX3_open_50 2 rfl x.toNatClampNeg ((s_ish_ix hk6 h8).1) (Nat.lt_of_lt_of_le (s_ish_ix hk6 h8).2 hk6) (by decide) ?_
        refine v_istore_n (lv' := [(3, .int (qu x.toNatClampNeg)), (0, .ref x0), (1, .int x), (2, .int y)]) dX3_open_51 rfl (by decide) rfl ?_
        refine v_aload_n dX3_open_52 rfl 1 rfl ?_
        refine v_get fX3_10 dX3_open_53 0 rfl rfl ?_
        refine v_get fX3_59 dX3_open_56 1 rfl rfl ?_
        refine v_iload_n dX3_open_59 rfl 2 rfl ?_
        refine v_iload_n dX3_open_60 rfl 3 rfl ?_
        refine v_iast (ws' := [(x0, .inr (3, [.ref o0, .ref g0, .ref c0, .ref sA, .int (nI ho), .int (nI (de + 1))])), (o0, .inr (2, [.ref oFa, .ref oWi, .ref oPa, .ref oQu, .ref oSh, .int (nI hk), .int fl, .int ai, .int rn, .int rf, .int rt])), (oQu, .inl (G.2.1, 6, .inl (upd qu x.toNatClampNeg y)))]) dX3_open_61 2 rfl x.toNatClampNeg ((s_ish_ix hk6 h8).1) (Nat.lt_of_lt_of_le (s_ish_ix hk6 h8).2 hk6) (by decide) rfl ?_
        refine v_iload_n dX3_open_62 rfl 0 rfl ?_
        exact v_iretM dX3_open_63 (by simp only [s_sel2, if_neg h8, if_neg h17, if_pos h26] <;> rfl) (v_w2 (fun (z0 : Int32) (z1 : Nat → Int32) => ([(x0, .inr (3, [.ref o0, .ref g0, .ref c0, .ref sA, .int (nI ho), .int z0])), (o0, .inr (2, [.ref oFa, .ref oWi, .ref oPa, .ref oQu, .ref oSh, .int (nI hk), .int fl, .int ai, .int rn, .int rf, .int rt])), (oQu, .inl (G.2.1, 6, .inl z1))] : va_W)) (by simp only [s_sel2, if_neg h8, if_neg h17, if_pos h26, u_id] <;> rfl) (by simp only [s_sel2, if_neg h8, if_neg h17, if_pos h26, u_id] <;> rfl))
      · skip
        refine v_bipush (v := (-3)) dX3_open_29 (by decide) ?_
        exact v_iretM dX3_open_31 (by simp only [s_sel2, if_neg h8, if_neg h17, if_neg h26] <;> rfl) (v_w2 (fun (z0 : Int32) (z1 : Nat → Int32) => ([(x0, .inr (3, [.ref o0, .ref g0, .ref c0, .ref sA, .int (nI ho), .int z0])), (o0, .inr (2, [.ref oFa, .ref oWi, .ref oPa, .ref oQu, .ref oSh, .int (nI hk), .int fl, .int ai, .int rn, .int rf, .int rt])), (oQu, .inl (G.2.1, 6, .inl z1))] : va_W)) (by simp only [s_sel2, if_neg h8, if_neg h17, if_neg h26, u_id] <;> rfl) (by simp only [s_sel2, if_neg h8, if_neg h17, if_neg h26, u_id] <;> rfl))
    · skip
      refine v_iconst (v := (-1)) dX3_open_20 (by decide) ?_
      exact v_iretM dX3_open_21 (by simp only [s_sel2, if_neg h8, if_pos h17] <;> rfl) (v_w2 (fun (z0 : Int32) (z1 : Nat → Int32) => ([(x0, .inr (3, [.ref o0, .ref g0, .ref c0, .ref sA, .int (nI ho), .int z0])), (o0, .inr (2, [.ref oFa, .ref oWi, .ref oPa, .ref oQu, .ref oSh, .int (nI hk), .int fl, .int ai, .int rn, .int rf, .int rt])), (oQu, .inl (G.2.1, 6, .inl z1))] : va_W)) (by simp only [s_sel2, if_neg h8, if_pos h17, u_id] <;> rfl) (by simp only [s_sel2, if_neg h8, if_pos h17, u_id] <;> rfl))

set_option maxRecDepth 100000 in
set_option maxHeartbeats 4000000 in
theorem c_X3_sheep (l : Launch) (G : v_Cfg) (x0 : Nat) (o0 : Nat) (g0 : Nat) (c0 : Nat) (sA : Nat) (ho : Nat) (de : Nat) (oFa : Nat) (oWi : Nat) (oPa : Nat) (oQu : Nat) (oSh : Nat) (hk : Nat) (fl : Int32) (ai : Int32) (rn : Int32) (rf : Int32) (rt : Int32) (sh : Nat → Int32) (pn : Nat → Nat) (x : Int32) (y : Int32) (z : Int32) (hde : de ≤ 90) (hk6 : hk ≤ 6) (hpn4 : ∀ h, pn h ≤ 4) : MuI l G yX3_sheep cX3_sheep 6 (some .int) 2 [.ref x0, .int x, .int y, .int z] [(x0, .inr (3, [.ref o0, .ref g0, .ref c0, .ref sA, .int (nI ho), .int (nI de)])), (o0, .inr (2, [.ref oFa, .ref oWi, .ref oPa, .ref oQu, .ref oSh, .int (nI hk), .int fl, .int ai, .int rn, .int rf, .int rt])), (oPa, .inl (G.2.1, 6, .inl (pN pn))), (oSh, .inl (G.2.1, 24, .inl sh))] [(x0, .inr (3, [.ref o0, .ref g0, .ref c0, .ref sA, .int (nI ho), .int (nI (s_sel2 (s_isp x y (nI hk) (pN pn x.toNatClampNeg)) (s_in z 0 50) (s_fu de) de de (de + 1)))])), (o0, .inr (2, [.ref oFa, .ref oWi, .ref oPa, .ref oQu, .ref oSh, .int (nI hk), .int fl, .int ai, .int rn, .int rf, .int rt])), (oPa, .inl (G.2.1, 6, .inl (pN pn))), (oSh, .inl (G.2.1, 24, .inl (s_sel2 (s_isp x y (nI hk) (pN pn x.toNatClampNeg)) (s_in z 0 50) (s_fu de) sh sh (upd sh (4 * x.toNatClampNeg + y.toNatClampNeg) z))))] (s_sel2 (s_isp x y (nI hk) (pN pn x.toNatClampNeg)) (s_in z 0 50) (s_fu de) ((-1)) ((-3)) (sh (4 * x.toNatClampNeg + y.toNatClampNeg))) := by
  refine MuI.of (own := RX3) (by decide) rfl (Nat.le_of_ble_eq_true rfl) (fun p e s m below meth c => ?_)
  refine v_aload_n dX3_sheep_0 rfl 0 rfl ?_
  refine v_get fX3_10 dX3_sheep_1 0 rfl rfl ?_
  refine v_iload_n dX3_sheep_4 rfl 1 rfl ?_
  refine v_iload_n dX3_sheep_5 rfl 2 rfl ?_
  refine v_vRd (As := [.int x, .int y]) (rest := []) (c_X2_isPane l G o0 oFa oWi oPa oQu oSh hk fl ai rn rf rt (pN pn) x y (by omega)) YX2_isPane mX3_76 dX3_sheep_6 ciX2 1 rfl [1, 2] rfl rfl rfl (Nat.le_of_ble_eq_true rfl) (by decide) (by decide) ?_
  refine v_if_eq (tgt := 22) dX3_sheep_9 (by decide) (fun h9 => ?_) (fun h9 => ?_)
  · skip
    refine v_iconst (v := (-1)) dX3_sheep_22 (by decide) ?_
    exact v_iretM dX3_sheep_23 (by simp only [s_sel2, if_pos h9] <;> rfl) (v_w2 (fun (z0 : Int32) (z1 : Nat → Int32) => ([(x0, .inr (3, [.ref o0, .ref g0, .ref c0, .ref sA, .int (nI ho), .int z0])), (o0, .inr (2, [.ref oFa, .ref oWi, .ref oPa, .ref oQu, .ref oSh, .int (nI hk), .int fl, .int ai, .int rn, .int rf, .int rt])), (oPa, .inl (G.2.1, 6, .inl (pN pn))), (oSh, .inl (G.2.1, 24, .inl z1))] : va_W)) (by simp only [s_sel2, if_pos h9, u_id] <;> rfl) (by simp only [s_sel2, if_pos h9, u_id] <;> rfl))
  · skip
    refine v_iload_n dX3_sheep_12 rfl 3 rfl ?_
    refine v_iconst (v := 0) dX3_sheep_13 (by decide) ?_
    refine v_bipush (v := 50) dX3_sheep_14 (by decide) ?_
    refine v_sRd (As := [.int z, .int 0, .int 50]) (rest := []) (c_X3_isWithin l G z 0 50 ) YX3_isWithin mX3_36 dX3_sheep_16 [] rfl rfl rfl (Nat.le_of_ble_eq_true rfl) (by decide) (by decide) ?_
    refine v_if_ne (tgt := 24) dX3_sheep_19 (by decide) (fun h19 => ?_) (fun h19 => ?_)
    · skip
      refine v_aload_n dX3_sheep_24 rfl 0 rfl ?_
      refine v_vRd (As := []) (rest := []) (c_X3_hasAllDeeds l G x0 o0 g0 c0 sA ho de (by omega)) YX3_hasAllDeeds mX3_44 dX3_sheep_25 ciX3 0 rfl [0] rfl rfl rfl (Nat.le_of_ble_eq_true rfl) (by decide) (by decide) ?_
      refine v_if_eq (tgt := 34) dX3_sheep_28 (by decide) (fun h28 => ?_) (fun h28 => ?_)
      · skip
        refine v_aload_n dX3_sheep_34 rfl 0 rfl ?_
        refine v_dup dX3_sheep_35 rfl ?_
        refine v_get fX3_48 dX3_sheep_36 0 rfl rfl ?_
        refine v_iconst (v := 1) dX3_sheep_39 (by decide) ?_
        refine v_iadd dX3_sheep_40 ?_
        refine v_eqi (nI (de + 1)) (nI_1 de) ?_
        refine v_puti (ws' := [(x0, .inr (3, [.ref o0, .ref g0, .ref c0, .ref sA, .int (nI ho), .int (nI (de + 1))])), (o0, .inr (2, [.ref oFa, .ref oWi, .ref oPa, .ref oQu, .ref oSh, .int (nI hk), .int fl, .int ai, .int rn, .int rf, .int rt])), (oPa, .inl (G.2.1, 6, .inl (pN pn))), (oSh, .inl (G.2.1, 24, .inl sh))]) pX3_48 dX3_sheep_41 0 rfl (Nat.le_of_ble_eq_true rfl) rfl ?_
        refine v_iload_n dX3_sheep_44 rfl 1 rfl ?_
        refine v_iload_n dX3_sheep_45 rfl 2 rfl ?_
        have hix := s_isp_ix hk6 (hpn4 x.toNatClampNeg) rfl h9
        refine v_stk (st' := [.int (nI y.toNatClampNeg), .int (nI x.toNatClampNeg)]) (v_s2 (fun (z0 : Int32) (z1 : Int32) => ([.int z1, .int z0] : List Value)) hix.1.1 hix.2.1) ?_
        have hi4 := hpn4 x.toNatClampNeg
        refine v_sRd (As := [.int (nI x.toNatClampNeg), .int (nI y.toNatClampNeg)]) (rest := []) (c_X3_placeOf l G x.toNatClampNeg y.toNatClampNeg ) YX3_placeOf mX3_80 dX3_sheep_46 [] rfl rfl rfl (Nat.le_of_ble_eq_true rfl) (by decide) (by decide) ?_
        refine v_istore (lv' := [(4, .int (nI (4 * x.toNatClampNeg + y.toNatClampNeg))), (0, .ref x0), (1, .int x), (2, .int y), (3, .int z)]) dX3_sheep_49 (by decide) rfl ?_
        refine v_aload_n dX3_sheep_51 rfl 1 rfl ?_
        refine v_get fX3_10 dX3_sheep_52 0 rfl rfl ?_
        refine v_get fX3_84 dX3_sheep_55 1 rfl rfl ?_
        refine v_iload dX3_sheep_58 0 rfl ?_
        refine v_iald dX3_sheep_60 3 rfl (4 * x.toNatClampNeg + y.toNatClampNeg) rfl (by omega) (by decide) ?_
        refine v_istore (lv' := [(5, .int (sh (4 * x.toNatClampNeg + y.toNatClampNeg))), (4, .int (nI (4 * x.toNatClampNeg + y.toNatClampNeg))), (0, .ref x0), (1, .int x), (2, .int y), (3, .int z)]) dX3_sheep_61 (by decide) rfl ?_
        refine v_aload_n dX3_sheep_63 rfl 2 rfl ?_
        refine v_get fX3_10 dX3_sheep_64 0 rfl rfl ?_
        refine v_get fX3_84 dX3_sheep_67 1 rfl rfl ?_
        refine v_iload dX3_sheep_70 1 rfl ?_
        refine v_iload_n dX3_sheep_72 rfl 5 rfl ?_
        refine v_iast (ws' := [(x0, .inr (3, [.ref o0, .ref g0, .ref c0, .ref sA, .int (nI ho), .int (nI (de + 1))])), (o0, .inr (2, [.ref oFa, .ref oWi, .ref oPa, .ref oQu, .ref oSh, .int (nI hk), .int fl, .int ai, .int rn, .int rf, .int rt])), (oPa, .inl (G.2.1, 6, .inl (pN pn))), (oSh, .inl (G.2.1, 24, .inl (upd sh (4 * x.toNatClampNeg + y.toNatClampNeg) z)))]) dX3_sheep_73 3 rfl (4 * x.toNatClampNeg + y.toNatClampNeg) rfl (by omega) (by decide) rfl ?_
        refine v_iload dX3_sheep_74 0 rfl ?_
        exact v_iretM dX3_sheep_76 (by simp only [s_sel2, if_neg h9, if_neg h19, if_pos h28] <;> rfl) (v_w2 (fun (z0 : Int32) (z1 : Nat → Int32) => ([(x0, .inr (3, [.ref o0, .ref g0, .ref c0, .ref sA, .int (nI ho), .int z0])), (o0, .inr (2, [.ref oFa, .ref oWi, .ref oPa, .ref oQu, .ref oSh, .int (nI hk), .int fl, .int ai, .int rn, .int rf, .int rt])), (oPa, .inl (G.2.1, 6, .inl (pN pn))), (oSh, .inl (G.2.1, 24, .inl z1))] : va_W)) (by simp only [s_sel2, if_neg h9, if_neg h19, if_pos h28, u_id] <;> rfl) (by simp only [s_sel2, if_neg h9, if_neg h19, if_pos h28, u_id] <;> rfl))
      · skip
        refine v_bipush (v := (-3)) dX3_sheep_31 (by decide) ?_
        exact v_iretM dX3_sheep_33 (by simp only [s_sel2, if_neg h9, if_neg h19, if_neg h28] <;> rfl) (v_w2 (fun (z0 : Int32) (z1 : Nat → Int32) => ([(x0, .inr (3, [.ref o0, .ref g0, .ref c0, .ref sA, .int (nI ho), .int z0])), (o0, .inr (2, [.ref oFa, .ref oWi, .ref oPa, .ref oQu, .ref oSh, .int (nI hk), .int fl, .int ai, .int rn, .int rf, .int rt])), (oPa, .inl (G.2.1, 6, .inl (pN pn))), (oSh, .inl (G.2.1, 24, .inl z1))] : va_W)) (by simp only [s_sel2, if_neg h9, if_neg h19, if_neg h28, u_id] <;> rfl) (by simp only [s_sel2, if_neg h9, if_neg h19, if_neg h28, u_id] <;> rfl))
    · skip
      refine v_iconst (v := (-1)) dX3_sheep_22 (by decide) ?_
      exact v_iretM dX3_sheep_23 (by simp only [s_sel2, if_neg h9, if_pos h19] <;> rfl) (v_w2 (fun (z0 : Int32) (z1 : Nat → Int32) => ([(x0, .inr (3, [.ref o0, .ref g0, .ref c0, .ref sA, .int (nI ho), .int z0])), (o0, .inr (2, [.ref oFa, .ref oWi, .ref oPa, .ref oQu, .ref oSh, .int (nI hk), .int fl, .int ai, .int rn, .int rf, .int rt])), (oPa, .inl (G.2.1, 6, .inl (pN pn))), (oSh, .inl (G.2.1, 24, .inl z1))] : va_W)) (by simp only [s_sel2, if_neg h9, if_pos h19, u_id] <;> rfl) (by simp only [s_sel2, if_neg h9, if_pos h19, u_id] <;> rfl))

set_option maxRecDepth 100000 in
set_option maxHeartbeats 4000000 in
theorem c_X3_right (l : Launch) (G : v_Cfg) (x0 : Nat) (o0 : Nat) (g0 : Nat) (c0 : Nat) (sA : Nat) (ho : Nat) (de : Nat) (oFa : Nat) (oWi : Nat) (oPa : Nat) (oQu : Nat) (oSh : Nat) (hk : Nat) (fl : Int32) (ai : Int32) (rn : Int32) (rf : Int32) (rt : Int32) (x : Int32) (y : Int32) (z : Int32) (hde : de ≤ 90) : MuI l G yX3_right cX3_right 5 (some .int) 1 [.ref x0, .int x, .int y, .int z] [(x0, .inr (3, [.ref o0, .ref g0, .ref c0, .ref sA, .int (nI ho), .int (nI de)])), (o0, .inr (2, [.ref oFa, .ref oWi, .ref oPa, .ref oQu, .ref oSh, .int (nI hk), .int fl, .int ai, .int rn, .int rf, .int rt]))] [(x0, .inr (3, [.ref o0, .ref g0, .ref c0, .ref sA, .int (nI ho), .int (nI (s_selR (s_in x 0 1000) (s_in y 0 24) (s_in z 0 24) y z (s_fu de) de de (de + 1)))])), (o0, .inr (2, [.ref oFa, .ref oWi, .ref oPa, .ref oQu, .ref oSh, .int (nI hk), .int fl, .int ai, .int (s_selR (s_in x 0 1000) (s_in y 0 24) (s_in z 0 24) y z (s_fu de) rn rn x), .int (s_selR (s_in x 0 1000) (s_in y 0 24) (s_in z 0 24) y z (s_fu de) rf rf y), .int (s_selR (s_in x 0 1000) (s_in y 0 24) (s_in z 0 24) y z (s_fu de) rt rt z)]))] (s_selR (s_in x 0 1000) (s_in y 0 24) (s_in z 0 24) y z (s_fu de) ((-1)) ((-3)) rn) := by
  refine MuI.of (own := RX3) (by decide) rfl (Nat.le_of_ble_eq_true rfl) (fun p e s m below meth c => ?_)
  refine v_iload_n dX3_right_0 rfl 1 rfl ?_
  refine v_iconst (v := 0) dX3_right_1 (by decide) ?_
  refine v_sipush (v := 1000) dX3_right_2 (by decide) ?_
  refine v_sRd (As := [.int x, .int 0, .int 1000]) (rest := []) (c_X3_isWithin l G x 0 1000 ) YX3_isWithin mX3_36 dX3_right_5 [] rfl rfl rfl (Nat.le_of_ble_eq_true rfl) (by decide) (by decide) ?_
  refine v_if_eq (tgt := 36) dX3_right_8 (by decide) (fun h8 => ?_) (fun h8 => ?_)
  · skip
    refine v_iconst (v := (-1)) dX3_right_36 (by decide) ?_
    exact v_iretM dX3_right_37 (by simp only [s_selR, if_pos h8] <;> rfl) (v_w4 (fun (z0 : Int32) (z1 : Int32) (z2 : Int32) (z3 : Int32) => ([(x0, .inr (3, [.ref o0, .ref g0, .ref c0, .ref sA, .int (nI ho), .int z0])), (o0, .inr (2, [.ref oFa, .ref oWi, .ref oPa, .ref oQu, .ref oSh, .int (nI hk), .int fl, .int ai, .int z1, .int z2, .int z3]))] : va_W)) (by simp only [s_selR, if_pos h8, u_id] <;> rfl) (by simp only [s_selR, if_pos h8, u_id] <;> rfl) (by simp only [s_selR, if_pos h8, u_id] <;> rfl) (by simp only [s_selR, if_pos h8, u_id] <;> rfl))
  · skip
    refine v_iload_n dX3_right_11 rfl 2 rfl ?_
    refine v_iconst (v := 0) dX3_right_12 (by decide) ?_
    refine v_bipush (v := 24) dX3_right_13 (by decide) ?_
    refine v_sRd (As := [.int y, .int 0, .int 24]) (rest := []) (c_X3_isWithin l G y 0 24 ) YX3_isWithin mX3_36 dX3_right_15 [] rfl rfl rfl (Nat.le_of_ble_eq_true rfl) (by decide) (by decide) ?_
    refine v_if_eq (tgt := 36) dX3_right_18 (by decide) (fun h18 => ?_) (fun h18 => ?_)
    · skip
      refine v_iconst (v := (-1)) dX3_right_36 (by decide) ?_
      exact v_iretM dX3_right_37 (by simp only [s_selR, if_neg h8, if_pos h18] <;> rfl) (v_w4 (fun (z0 : Int32) (z1 : Int32) (z2 : Int32) (z3 : Int32) => ([(x0, .inr (3, [.ref o0, .ref g0, .ref c0, .ref sA, .int (nI ho), .int z0])), (o0, .inr (2, [.ref oFa, .ref oWi, .ref oPa, .ref oQu, .ref oSh, .int (nI hk), .int fl, .int ai, .int z1, .int z2, .int z3]))] : va_W)) (by simp only [s_selR, if_neg h8, if_pos h18, u_id] <;> rfl) (by simp only [s_selR, if_neg h8, if_pos h18, u_id] <;> rfl) (by simp only [s_selR, if_neg h8, if_pos h18, u_id] <;> rfl) (by simp only [s_selR, if_neg h8, if_pos h18, u_id] <;> rfl))
    · skip
      refine v_iload_n dX3_right_21 rfl 3 rfl ?_
      refine v_iconst (v := 0) dX3_right_22 (by decide) ?_
      refine v_bipush (v := 24) dX3_right_23 (by decide) ?_
      refine v_sRd (As := [.int z, .int 0, .int 24]) (rest := []) (c_X3_isWithin l G z 0 24 ) YX3_isWithin mX3_36 dX3_right_25 [] rfl rfl rfl (Nat.le_of_ble_eq_true rfl) (by decide) (by decide) ?_
      refine v_if_eq (tgt := 36) dX3_right_28 (by decide) (fun h28 => ?_) (fun h28 => ?_)
      · skip
        refine v_iconst (v := (-1)) dX3_right_36 (by decide) ?_
        exact v_iretM dX3_right_37 (by simp only [s_selR, if_neg h8, if_neg h18, if_pos h28] <;> rfl) (v_w4 (fun (z0 : Int32) (z1 : Int32) (z2 : Int32) (z3 : Int32) => ([(x0, .inr (3, [.ref o0, .ref g0, .ref c0, .ref sA, .int (nI ho), .int z0])), (o0, .inr (2, [.ref oFa, .ref oWi, .ref oPa, .ref oQu, .ref oSh, .int (nI hk), .int fl, .int ai, .int z1, .int z2, .int z3]))] : va_W)) (by simp only [s_selR, if_neg h8, if_neg h18, if_pos h28, u_id] <;> rfl) (by simp only [s_selR, if_neg h8, if_neg h18, if_pos h28, u_id] <;> rfl) (by simp only [s_selR, if_neg h8, if_neg h18, if_pos h28, u_id] <;> rfl) (by simp only [s_selR, if_neg h8, if_neg h18, if_pos h28, u_id] <;> rfl))
      · skip
        refine v_iload_n dX3_right_31 rfl 2 rfl ?_
        refine v_iload_n dX3_right_32 rfl 3 rfl ?_
        refine v_icmp_lt (tgt := 38) dX3_right_33 (by decide) (fun h33 => ?_) (fun h33 => ?_)
        · skip
          refine v_aload_n dX3_right_38 rfl 0 rfl ?_
          refine v_vRd (As := []) (rest := []) (c_X3_hasAllDeeds l G x0 o0 g0 c0 sA ho de (by omega)) YX3_hasAllDeeds mX3_44 dX3_right_39 ciX3 0 rfl [0] rfl rfl rfl (Nat.le_of_ble_eq_true rfl) (by decide) (by decide) ?_
          refine v_if_eq (tgt := 48) dX3_right_42 (by decide) (fun h42 => ?_) (fun h42 => ?_)
          · skip
            refine v_aload_n dX3_right_48 rfl 0 rfl ?_
            refine v_dup dX3_right_49 rfl ?_
            refine v_get fX3_48 dX3_right_50 0 rfl rfl ?_
            refine v_iconst (v := 1) dX3_right_53 (by decide) ?_
            refine v_iadd dX3_right_54 ?_
            refine v_eqi (nI (de + 1)) (nI_1 de) ?_
            refine v_puti (ws' := [(x0, .inr (3, [.ref o0, .ref g0, .ref c0, .ref sA, .int (nI ho), .int (nI (de + 1))])), (o0, .inr (2, [.ref oFa, .ref oWi, .ref oPa, .ref oQu, .ref oSh, .int (nI hk), .int fl, .int ai, .int rn, .int rf, .int rt]))]) pX3_48 dX3_right_55 0 rfl (Nat.le_of_ble_eq_true rfl) rfl ?_
            refine v_aload_n dX3_right_58 rfl 0 rfl ?_
            refine v_get fX3_10 dX3_right_59 0 rfl rfl ?_
            refine v_get fX3_87 dX3_right_62 1 rfl rfl ?_
            refine v_istore (lv' := [(4, .int rn), (0, .ref x0), (1, .int x), (2, .int y), (3, .int z)]) dX3_right_65 (by decide) rfl ?_
            refine v_aload_n dX3_right_67 rfl 1 rfl ?_
            refine v_get fX3_10 dX3_right_68 0 rfl rfl ?_
            refine v_iload_n dX3_right_71 rfl 2 rfl ?_
            refine v_puti (ws' := [(x0, .inr (3, [.ref o0, .ref g0, .ref c0, .ref sA, .int (nI ho), .int (nI (de + 1))])), (o0, .inr (2, [.ref oFa, .ref oWi, .ref oPa, .ref oQu, .ref oSh, .int (nI hk), .int fl, .int ai, .int x, .int rf, .int rt]))]) pX3_87 dX3_right_72 1 rfl (Nat.le_of_ble_eq_true rfl) rfl ?_
            refine v_aload_n dX3_right_75 rfl 1 rfl ?_
            refine v_get fX3_10 dX3_right_76 0 rfl rfl ?_
            refine v_iload_n dX3_right_79 rfl 3 rfl ?_
            refine v_puti (ws' := [(x0, .inr (3, [.ref o0, .ref g0, .ref c0, .ref sA, .int (nI ho), .int (nI (de + 1))])), (o0, .inr (2, [.ref oFa, .ref oWi, .ref oPa, .ref oQu, .ref oSh, .int (nI hk), .int fl, .int ai, .int x, .int y, .int rt]))]) pX3_90 dX3_right_80 1 rfl (Nat.le_of_ble_eq_true rfl) rfl ?_
            refine v_aload_n dX3_right_83 rfl 1 rfl ?_
            refine v_get fX3_10 dX3_right_84 0 rfl rfl ?_
            refine v_iload_n dX3_right_87 rfl 4 rfl ?_
            refine v_puti (ws' := [(x0, .inr (3, [.ref o0, .ref g0, .ref c0, .ref sA, .int (nI ho), .int (nI (de + 1))])), (o0, .inr (2, [.ref oFa, .ref oWi, .ref oPa, .ref oQu, .ref oSh, .int (nI hk), .int fl, .int ai, .int x, .int y, .int z]))]) pX3_93 dX3_right_88 1 rfl (Nat.le_of_ble_eq_true rfl) rfl ?_
            refine v_iload dX3_right_91 0 rfl ?_
            exact v_iretM dX3_right_93 (by simp only [s_selR, if_neg h8, if_neg h18, if_neg h28, if_pos h33, if_pos h42] <;> rfl) (v_w4 (fun (z0 : Int32) (z1 : Int32) (z2 : Int32) (z3 : Int32) => ([(x0, .inr (3, [.ref o0, .ref g0, .ref c0, .ref sA, .int (nI ho), .int z0])), (o0, .inr (2, [.ref oFa, .ref oWi, .ref oPa, .ref oQu, .ref oSh, .int (nI hk), .int fl, .int ai, .int z1, .int z2, .int z3]))] : va_W)) (by simp only [s_selR, if_neg h8, if_neg h18, if_neg h28, if_pos h33, if_pos h42, u_id] <;> rfl) (by simp only [s_selR, if_neg h8, if_neg h18, if_neg h28, if_pos h33, if_pos h42, u_id] <;> rfl) (by simp only [s_selR, if_neg h8, if_neg h18, if_neg h28, if_pos h33, if_pos h42, u_id] <;> rfl) (by simp only [s_selR, if_neg h8, if_neg h18, if_neg h28, if_pos h33, if_pos h42, u_id] <;> rfl))
          · skip
            refine v_bipush (v := (-3)) dX3_right_45 (by decide) ?_
            exact v_iretM dX3_right_47 (by simp only [s_selR, if_neg h8, if_neg h18, if_neg h28, if_pos h33, if_neg h42] <;> rfl) (v_w4 (fun (z0 : Int32) (z1 : Int32) (z2 : Int32) (z3 : Int32) => ([(x0, .inr (3, [.ref o0, .ref g0, .ref c0, .ref sA, .int (nI ho), .int z0])), (o0, .inr (2, [.ref oFa, .ref oWi, .ref oPa, .ref oQu, .ref oSh, .int (nI hk), .int fl, .int ai, .int z1, .int z2, .int z3]))] : va_W)) (by simp only [s_selR, if_neg h8, if_neg h18, if_neg h28, if_pos h33, if_neg h42, u_id] <;> rfl) (by simp only [s_selR, if_neg h8, if_neg h18, if_neg h28, if_pos h33, if_neg h42, u_id] <;> rfl) (by simp only [s_selR, if_neg h8, if_neg h18, if_neg h28, if_pos h33, if_neg h42, u_id] <;> rfl) (by simp only [s_selR, if_neg h8, if_neg h18, if_neg h28, if_pos h33, if_neg h42, u_id] <;> rfl))
        · skip
          refine v_iconst (v := (-1)) dX3_right_36 (by decide) ?_
          exact v_iretM dX3_right_37 (by simp only [s_selR, if_neg h8, if_neg h18, if_neg h28, if_neg h33] <;> rfl) (v_w4 (fun (z0 : Int32) (z1 : Int32) (z2 : Int32) (z3 : Int32) => ([(x0, .inr (3, [.ref o0, .ref g0, .ref c0, .ref sA, .int (nI ho), .int z0])), (o0, .inr (2, [.ref oFa, .ref oWi, .ref oPa, .ref oQu, .ref oSh, .int (nI hk), .int fl, .int ai, .int z1, .int z2, .int z3]))] : va_W)) (by simp only [s_selR, if_neg h8, if_neg h18, if_neg h28, if_neg h33, u_id] <;> rfl) (by simp only [s_selR, if_neg h8, if_neg h18, if_neg h28, if_neg h33, u_id] <;> rfl) (by simp only [s_selR, if_neg h8, if_neg h18, if_neg h28, if_neg h33, u_id] <;> rfl) (by simp only [s_selR, if_neg h8, if_neg h18, if_neg h28, if_neg h33, u_id] <;> rfl))

set_option maxRecDepth 100000 in
set_option maxHeartbeats 4000000 in
theorem c_X3_hatch (l : Launch) (G : v_Cfg) (x0 : Nat) (o0 : Nat) (g0 : Nat) (c0 : Nat) (sA : Nat) (ho : Nat) (de : Nat) (oFa : Nat) (oWi : Nat) (oPa : Nat) (oQu : Nat) (oSh : Nat) (hk : Nat) (fl : Int32) (ai : Int32) (rn : Int32) (rf : Int32) (rt : Int32) (wi : Nat → Int32) (fn : Nat → Nat) (pn : Nat → Nat) (x : Int32) (y : Int32) (z : Int32) (hde : de ≤ 90) (hk6 : hk ≤ 6) : MuI l G yX3_hatch cX3_hatch 4 (some .int) 1 [.ref x0, .int x, .int y, .int z] [(x0, .inr (3, [.ref o0, .ref g0, .ref c0, .ref sA, .int (nI ho), .int (nI de)])), (o0, .inr (2, [.ref oFa, .ref oWi, .ref oPa, .ref oQu, .ref oSh, .int (nI hk), .int fl, .int ai, .int rn, .int rf, .int rt])), (oFa, .inl (G.2.1, 6, .inl (pN fn))), (oWi, .inl (G.2.1, 6, .inl wi)), (oPa, .inl (G.2.1, 6, .inl (pN pn)))] [(x0, .inr (3, [.ref o0, .ref g0, .ref c0, .ref sA, .int (nI ho), .int (nI (s_selH (s_in x 0 3) (s_in y 1 200) (s_in z 1 4) hk (s_fu de) de de (de + 1)))])), (o0, .inr (2, [.ref oFa, .ref oWi, .ref oPa, .ref oQu, .ref oSh, .int (nI (s_selH (s_in x 0 3) (s_in y 1 200) (s_in z 1 4) hk (s_fu de) hk hk (hk + 1))), .int fl, .int ai, .int rn, .int rf, .int rt])), (oFa, .inl (G.2.1, 6, .inl (pN (s_selH (s_in x 0 3) (s_in y 1 200) (s_in z 1 4) hk (s_fu de) fn fn (updN fn hk x.toNatClampNeg))))), (oWi, .inl (G.2.1, 6, .inl (s_selH (s_in x 0 3) (s_in y 1 200) (s_in z 1 4) hk (s_fu de) wi wi (upd wi hk y)))), (oPa, .inl (G.2.1, 6, .inl (pN (s_selH (s_in x 0 3) (s_in y 1 200) (s_in z 1 4) hk (s_fu de) pn pn (updN pn hk z.toNatClampNeg)))))] (s_selH (s_in x 0 3) (s_in y 1 200) (s_in z 1 4) hk (s_fu de) ((-1)) ((-3)) (nI hk)) := by
  refine MuI.of (own := RX3) (by decide) rfl (Nat.le_of_ble_eq_true rfl) (fun p e s m below meth c => ?_)
  refine v_iload_n dX3_hatch_0 rfl 1 rfl ?_
  refine v_iconst (v := 0) dX3_hatch_1 (by decide) ?_
  refine v_iconst (v := 3) dX3_hatch_2 (by decide) ?_
  refine v_sRd (As := [.int x, .int 0, .int 3]) (rest := []) (c_X3_isWithin l G x 0 3 ) YX3_isWithin mX3_36 dX3_hatch_3 [] rfl rfl rfl (Nat.le_of_ble_eq_true rfl) (by decide) (by decide) ?_
  refine v_if_eq (tgt := 29) dX3_hatch_6 (by decide) (fun h6 => ?_) (fun h6 => ?_)
  · skip
    refine v_iconst (v := (-1)) dX3_hatch_29 (by decide) ?_
    exact v_iretM dX3_hatch_30 (by simp only [s_selH, if_pos h6] <;> rfl) (v_w5 (fun (z0 : Int32) (z1 : Int32) (z2 : Nat → Int32) (z3 : Nat → Int32) (z4 : Nat → Int32) => ([(x0, .inr (3, [.ref o0, .ref g0, .ref c0, .ref sA, .int (nI ho), .int z0])), (o0, .inr (2, [.ref oFa, .ref oWi, .ref oPa, .ref oQu, .ref oSh, .int z1, .int fl, .int ai, .int rn, .int rf, .int rt])), (oFa, .inl (G.2.1, 6, .inl z2)), (oWi, .inl (G.2.1, 6, .inl z3)), (oPa, .inl (G.2.1, 6, .inl z4))] : va_W)) (by simp only [s_selH, if_pos h6, u_id] <;> rfl) (by simp only [s_selH, if_pos h6, u_id] <;> rfl) (by simp only [s_selH, if_pos h6, u_id] <;> rfl) (by simp only [s_selH, if_pos h6, u_id] <;> rfl) (by simp only [s_selH, if_pos h6, u_id] <;> rfl))
  · skip
    refine v_iload_n dX3_hatch_9 rfl 2 rfl ?_
    refine v_iconst (v := 1) dX3_hatch_10 (by decide) ?_
    refine v_sipush (v := 200) dX3_hatch_11 (by decide) ?_
    refine v_sRd (As := [.int y, .int 1, .int 200]) (rest := []) (c_X3_isWithin l G y 1 200 ) YX3_isWithin mX3_36 dX3_hatch_14 [] rfl rfl rfl (Nat.le_of_ble_eq_true rfl) (by decide) (by decide) ?_
    refine v_if_eq (tgt := 29) dX3_hatch_17 (by decide) (fun h17 => ?_) (fun h17 => ?_)
    · skip
      refine v_iconst (v := (-1)) dX3_hatch_29 (by decide) ?_
      exact v_iretM dX3_hatch_30 (by simp only [s_selH, if_neg h6, if_pos h17] <;> rfl) (v_w5 (fun (z0 : Int32) (z1 : Int32) (z2 : Nat → Int32) (z3 : Nat → Int32) (z4 : Nat → Int32) => ([(x0, .inr (3, [.ref o0, .ref g0, .ref c0, .ref sA, .int (nI ho), .int z0])), (o0, .inr (2, [.ref oFa, .ref oWi, .ref oPa, .ref oQu, .ref oSh, .int z1, .int fl, .int ai, .int rn, .int rf, .int rt])), (oFa, .inl (G.2.1, 6, .inl z2)), (oWi, .inl (G.2.1, 6, .inl z3)), (oPa, .inl (G.2.1, 6, .inl z4))] : va_W)) (by simp only [s_selH, if_neg h6, if_pos h17, u_id] <;> rfl) (by simp only [s_selH, if_neg h6, if_pos h17, u_id] <;> rfl) (by simp only [s_selH, if_neg h6, if_pos h17, u_id] <;> rfl) (by simp only [s_selH, if_neg h6, if_pos h17, u_id] <;> rfl) (by simp only [s_selH, if_neg h6, if_pos h17, u_id] <;> rfl))
    · skip
      refine v_iload_n dX3_hatch_20 rfl 3 rfl ?_
      refine v_iconst (v := 1) dX3_hatch_21 (by decide) ?_
      refine v_iconst (v := 4) dX3_hatch_22 (by decide) ?_
      refine v_sRd (As := [.int z, .int 1, .int 4]) (rest := []) (c_X3_isWithin l G z 1 4 ) YX3_isWithin mX3_36 dX3_hatch_23 [] rfl rfl rfl (Nat.le_of_ble_eq_true rfl) (by decide) (by decide) ?_
      refine v_if_ne (tgt := 31) dX3_hatch_26 (by decide) (fun h26 => ?_) (fun h26 => ?_)
      · skip
        refine v_aload_n dX3_hatch_31 rfl 0 rfl ?_
        refine v_get fX3_10 dX3_hatch_32 0 rfl rfl ?_
        refine v_get fX3_40 dX3_hatch_35 1 rfl rfl ?_
        refine v_bipush (v := nI 6) dX3_hatch_38 (by decide) ?_
        by_cases n40 : 6 ≤ hk
        · refine v_icmp_ge (tgt := 50) dX3_hatch_40 (by decide) (fun h40 => ?_) (fun h40 => absurd (nI_le n40 (by omega)) h40)
          refine v_bipush (v := (-3)) dX3_hatch_50 (by decide) ?_
          exact v_iretM dX3_hatch_52 (by simp only [s_selH, if_neg h6, if_neg h17, if_neg h26, if_pos n40] <;> rfl) (v_w5 (fun (z0 : Int32) (z1 : Int32) (z2 : Nat → Int32) (z3 : Nat → Int32) (z4 : Nat → Int32) => ([(x0, .inr (3, [.ref o0, .ref g0, .ref c0, .ref sA, .int (nI ho), .int z0])), (o0, .inr (2, [.ref oFa, .ref oWi, .ref oPa, .ref oQu, .ref oSh, .int z1, .int fl, .int ai, .int rn, .int rf, .int rt])), (oFa, .inl (G.2.1, 6, .inl z2)), (oWi, .inl (G.2.1, 6, .inl z3)), (oPa, .inl (G.2.1, 6, .inl z4))] : va_W)) (by simp only [s_selH, if_neg h6, if_neg h17, if_neg h26, if_pos n40, u_id] <;> rfl) (by simp only [s_selH, if_neg h6, if_neg h17, if_neg h26, if_pos n40, u_id] <;> rfl) (by simp only [s_selH, if_neg h6, if_neg h17, if_neg h26, if_pos n40, u_id] <;> rfl) (by simp only [s_selH, if_neg h6, if_neg h17, if_neg h26, if_pos n40, u_id] <;> rfl) (by simp only [s_selH, if_neg h6, if_neg h17, if_neg h26, if_pos n40, u_id] <;> rfl))
        · refine v_icmp_ge (tgt := 50) dX3_hatch_40 (by decide) (fun h40 => absurd h40 (nI_ge (by omega) (by omega))) (fun h40 => ?_)
          refine v_aload_n dX3_hatch_43 rfl 0 rfl ?_
          refine v_vRd (As := []) (rest := []) (c_X3_hasAllDeeds l G x0 o0 g0 c0 sA ho de (by omega)) YX3_hasAllDeeds mX3_44 dX3_hatch_44 ciX3 0 rfl [0] rfl rfl rfl (Nat.le_of_ble_eq_true rfl) (by decide) (by decide) ?_
          refine v_if_eq (tgt := 53) dX3_hatch_47 (by decide) (fun h47 => ?_) (fun h47 => ?_)
          · skip
            refine v_aload_n dX3_hatch_53 rfl 0 rfl ?_
            refine v_dup dX3_hatch_54 rfl ?_
            refine v_get fX3_48 dX3_hatch_55 0 rfl rfl ?_
            refine v_iconst (v := 1) dX3_hatch_58 (by decide) ?_
            refine v_iadd dX3_hatch_59 ?_
            refine v_eqi (nI (de + 1)) (nI_1 de) ?_
            refine v_puti (ws' := [(x0, .inr (3, [.ref o0, .ref g0, .ref c0, .ref sA, .int (nI ho), .int (nI (de + 1))])), (o0, .inr (2, [.ref oFa, .ref oWi, .ref oPa, .ref oQu, .ref oSh, .int (nI hk), .int fl, .int ai, .int rn, .int rf, .int rt])), (oFa, .inl (G.2.1, 6, .inl (pN fn))), (oWi, .inl (G.2.1, 6, .inl wi)), (oPa, .inl (G.2.1, 6, .inl (pN pn)))]) pX3_48 dX3_hatch_60 0 rfl (Nat.le_of_ble_eq_true rfl) rfl ?_
            refine v_aload_n dX3_hatch_63 rfl 0 rfl ?_
            refine v_get fX3_10 dX3_hatch_64 0 rfl rfl ?_
            refine v_iload_n dX3_hatch_67 rfl 1 rfl ?_
            refine v_iload_n dX3_hatch_68 rfl 2 rfl ?_
            refine v_iload_n dX3_hatch_69 rfl 3 rfl ?_
            refine v_stk (st' := [.int (nI z.toNatClampNeg), .int y, .int (nI x.toNatClampNeg), .ref o0]) (v_s2 (fun (z0 : Int32) (z1 : Int32) => ([.int z1, .int y, .int z0, .ref o0] : List Value)) ((s_in_ix (a := 0) (b := 3) h6 rfl rfl (by decide) (by decide)).1) ((s_in_ix (a := 1) (b := 4) h26 rfl rfl (by decide) (by decide)).1)) ?_
            refine v_vMi (ws' := [(x0, .inr (3, [.ref o0, .ref g0, .ref c0, .ref sA, .int (nI ho), .int (nI (de + 1))])), (o0, .inr (2, [.ref oFa, .ref oWi, .ref oPa, .ref oQu, .ref oSh, .int (nI (hk + 1)), .int fl, .int ai, .int rn, .int rf, .int rt])), (oFa, .inl (G.2.1, 6, .inl (pN (updN fn hk x.toNatClampNeg)))), (oWi, .inl (G.2.1, 6, .inl (upd wi hk y))), (oPa, .inl (G.2.1, 6, .inl (pN (updN pn hk z.toNatClampNeg))))]) (As := [.int (nI x.toNatClampNeg), .int y, .int (nI z.toNatClampNeg)]) (rest := []) (c_X2_addHatch l G o0 oFa oWi oPa oQu oSh hk fl ai rn rf rt wi fn pn x.toNatClampNeg y z.toNatClampNeg (by omega)) YX2_addHatch mX3_51 dX3_hatch_70 ciX2 1 rfl [1, 2, 3, 4] (by decide) rfl rfl rfl rfl rfl rfl (Nat.le_of_ble_eq_true rfl) (by decide) (by decide) ?_
            exact v_iretM dX3_hatch_73 (by simp only [s_selH, if_neg h6, if_neg h17, if_neg h26, if_neg n40, if_pos h47] <;> rfl) (v_w5 (fun (z0 : Int32) (z1 : Int32) (z2 : Nat → Int32) (z3 : Nat → Int32) (z4 : Nat → Int32) => ([(x0, .inr (3, [.ref o0, .ref g0, .ref c0, .ref sA, .int (nI ho), .int z0])), (o0, .inr (2, [.ref oFa, .ref oWi, .ref oPa, .ref oQu, .ref oSh, .int z1, .int fl, .int ai, .int rn, .int rf, .int rt])), (oFa, .inl (G.2.1, 6, .inl z2)), (oWi, .inl (G.2.1, 6, .inl z3)), (oPa, .inl (G.2.1, 6, .inl z4))] : va_W)) (by simp only [s_selH, if_neg h6, if_neg h17, if_neg h26, if_neg n40, if_pos h47, u_id] <;> rfl) (by simp only [s_selH, if_neg h6, if_neg h17, if_neg h26, if_neg n40, if_pos h47, u_id] <;> rfl) (by simp only [s_selH, if_neg h6, if_neg h17, if_neg h26, if_neg n40, if_pos h47, u_id] <;> rfl) (by simp only [s_selH, if_neg h6, if_neg h17, if_neg h26, if_neg n40, if_pos h47, u_id] <;> rfl) (by simp only [s_selH, if_neg h6, if_neg h17, if_neg h26, if_neg n40, if_pos h47, u_id] <;> rfl))
          · skip
            refine v_bipush (v := (-3)) dX3_hatch_50 (by decide) ?_
            exact v_iretM dX3_hatch_52 (by simp only [s_selH, if_neg h6, if_neg h17, if_neg h26, if_neg n40, if_neg h47] <;> rfl) (v_w5 (fun (z0 : Int32) (z1 : Int32) (z2 : Nat → Int32) (z3 : Nat → Int32) (z4 : Nat → Int32) => ([(x0, .inr (3, [.ref o0, .ref g0, .ref c0, .ref sA, .int (nI ho), .int z0])), (o0, .inr (2, [.ref oFa, .ref oWi, .ref oPa, .ref oQu, .ref oSh, .int z1, .int fl, .int ai, .int rn, .int rf, .int rt])), (oFa, .inl (G.2.1, 6, .inl z2)), (oWi, .inl (G.2.1, 6, .inl z3)), (oPa, .inl (G.2.1, 6, .inl z4))] : va_W)) (by simp only [s_selH, if_neg h6, if_neg h17, if_neg h26, if_neg n40, if_neg h47, u_id] <;> rfl) (by simp only [s_selH, if_neg h6, if_neg h17, if_neg h26, if_neg n40, if_neg h47, u_id] <;> rfl) (by simp only [s_selH, if_neg h6, if_neg h17, if_neg h26, if_neg n40, if_neg h47, u_id] <;> rfl) (by simp only [s_selH, if_neg h6, if_neg h17, if_neg h26, if_neg n40, if_neg h47, u_id] <;> rfl) (by simp only [s_selH, if_neg h6, if_neg h17, if_neg h26, if_neg n40, if_neg h47, u_id] <;> rfl))
      · skip
        refine v_iconst (v := (-1)) dX3_hatch_29 (by decide) ?_
        exact v_iretM dX3_hatch_30 (by simp only [s_selH, if_neg h6, if_neg h17, if_pos h26] <;> rfl) (v_w5 (fun (z0 : Int32) (z1 : Int32) (z2 : Nat → Int32) (z3 : Nat → Int32) (z4 : Nat → Int32) => ([(x0, .inr (3, [.ref o0, .ref g0, .ref c0, .ref sA, .int (nI ho), .int z0])), (o0, .inr (2, [.ref oFa, .ref oWi, .ref oPa, .ref oQu, .ref oSh, .int z1, .int fl, .int ai, .int rn, .int rf, .int rt])), (oFa, .inl (G.2.1, 6, .inl z2)), (oWi, .inl (G.2.1, 6, .inl z3)), (oPa, .inl (G.2.1, 6, .inl z4))] : va_W)) (by simp only [s_selH, if_neg h6, if_neg h17, if_pos h26, u_id] <;> rfl) (by simp only [s_selH, if_neg h6, if_neg h17, if_pos h26, u_id] <;> rfl) (by simp only [s_selH, if_neg h6, if_neg h17, if_pos h26, u_id] <;> rfl) (by simp only [s_selH, if_neg h6, if_neg h17, if_pos h26, u_id] <;> rfl) (by simp only [s_selH, if_neg h6, if_neg h17, if_pos h26, u_id] <;> rfl))

set_option maxRecDepth 100000 in
set_option maxHeartbeats 4000000 in
theorem c_X3_told (l : Launch) (G : v_Cfg) (x0 : Nat) (o0 : Nat) (g0 : Nat) (c0 : Nat) (sA : Nat) (ho : Nat) (de : Nat) (oFa : Nat) (oWi : Nat) (oPa : Nat) (oQu : Nat) (oSh : Nat) (hk : Nat) (fl : Int32) (ai : Int32) (rn : Int32) (rf : Int32) (rt : Int32) (nv : Int32) (aCa : Nat) (aTk : Nat) (aGr : Nat) (aGo : Nat) (aWe : Nat) (aDr : Nat) (aEa : Nat) (br : Int32) (du : Int32) (mi : Int32) (am : Int32) (mb : Int32) (wi : Nat → Int32) (qu : Nat → Int32) (ca : Nat → Int32) (tk : Nat → Int32) (fn : Nat → Nat) (pn : Nat → Nat) (x : Int32) (y : Int32) (hk6 : hk ≤ 6) : RdI l G yX3_told cX3_told 3 (some .int) 2 [.ref x0, .int x, .int y] [(x0, .inr (3, [.ref o0, .ref g0, .ref c0, .ref sA, .int (nI ho), .int (nI de)])), (o0, .inr (2, [.ref oFa, .ref oWi, .ref oPa, .ref oQu, .ref oSh, .int (nI hk), .int fl, .int ai, .int rn, .int rf, .int rt])), (oFa, .inl (G.2.1, 6, .inl (pN fn))), (oWi, .inl (G.2.1, 6, .inl wi)), (oPa, .inl (G.2.1, 6, .inl (pN pn))), (oQu, .inl (G.2.1, 6, .inl qu)), (c0, .inr (0, [.ref o0, .int nv, .ref aCa, .ref aTk, .ref aGr, .ref aGo, .ref aWe, .ref aDr, .ref aEa, .int br, .int du, .int mi, .int am, .int mb])), (aCa, .inl (G.2.1, 6, .inl ca)), (aTk, .inl (G.2.1, 6, .inl tk))] (s_told (s_ish x (nI hk)) y (pN fn x.toNatClampNeg) (wi x.toNatClampNeg) (pN pn x.toNatClampNeg) (qu x.toNatClampNeg) (ca x.toNatClampNeg) (s_most (wi x.toNatClampNeg) (ca x.toNatClampNeg)) (tk x.toNatClampNeg)) := by
  refine RdI.of (own := RX3) (by decide) rfl (Nat.le_of_ble_eq_true rfl) (fun p e s m below meth c => ?_)
  refine v_aload_n dX3_told_0 rfl 0 rfl ?_
  refine v_get fX3_10 dX3_told_1 0 rfl rfl ?_
  refine v_iload_n dX3_told_4 rfl 1 rfl ?_
  refine v_vRd (As := [.int x]) (rest := []) (c_X2_isHatch l G o0 oFa oWi oPa oQu oSh hk fl ai rn rf rt x ) YX2_isHatch mX3_55 dX3_told_5 ciX2 1 rfl [1] rfl rfl rfl (Nat.le_of_ble_eq_true rfl) (by decide) (by decide) ?_
  refine v_if_ne (tgt := 13) dX3_told_8 (by decide) (fun h8 => ?_) (fun h8 => ?_)
  · skip
    refine v_iload_n dX3_told_13 rfl 2 rfl ?_
    by_cases w14_0 : y = 0
    · refine v_eqi 0 w14_0 ?_
      refine v_tableIn (off := 46) (tgt := 60) dX3_told_14 (by decide) (by decide) (by decide) (by decide) ?_
      refine v_aload_n dX3_told_60 rfl 0 rfl ?_
      refine v_get fX3_10 dX3_told_61 0 rfl rfl ?_
      refine v_get fX3_102 dX3_told_64 1 rfl rfl ?_
      refine v_iload_n dX3_told_67 rfl 1 rfl ?_
      refine v_iald dX3_told_68 2 rfl x.toNatClampNeg ((s_ish_ix hk6 h8).1) (Nat.lt_of_lt_of_le (s_ish_ix hk6 h8).2 hk6) (by decide) ?_
      exact v_iretR dX3_told_69 (by simp only [s_told, if_neg h8, if_pos w14_0] <;> rfl)
    by_cases w14_1 : y = 1
    · refine v_eqi 1 w14_1 ?_
      refine v_tableIn (off := 56) (tgt := 70) dX3_told_14 (by decide) (by decide) (by decide) (by decide) ?_
      refine v_aload_n dX3_told_70 rfl 0 rfl ?_
      refine v_get fX3_10 dX3_told_71 0 rfl rfl ?_
      refine v_get fX3_105 dX3_told_74 1 rfl rfl ?_
      refine v_iload_n dX3_told_77 rfl 1 rfl ?_
      refine v_iald dX3_told_78 3 rfl x.toNatClampNeg ((s_ish_ix hk6 h8).1) (Nat.lt_of_lt_of_le (s_ish_ix hk6 h8).2 hk6) (by decide) ?_
      exact v_iretR dX3_told_79 (by simp only [s_told, if_neg h8, if_neg w14_0, if_pos w14_1] <;> rfl)
    by_cases w14_2 : y = 2
    · refine v_eqi 2 w14_2 ?_
      refine v_tableIn (off := 66) (tgt := 80) dX3_told_14 (by decide) (by decide) (by decide) (by decide) ?_
      refine v_aload_n dX3_told_80 rfl 0 rfl ?_
      refine v_get fX3_10 dX3_told_81 0 rfl rfl ?_
      refine v_get fX3_108 dX3_told_84 1 rfl rfl ?_
      refine v_iload_n dX3_told_87 rfl 1 rfl ?_
      refine v_iald dX3_told_88 4 rfl x.toNatClampNeg ((s_ish_ix hk6 h8).1) (Nat.lt_of_lt_of_le (s_ish_ix hk6 h8).2 hk6) (by decide) ?_
      exact v_iretR dX3_told_89 (by simp only [s_told, if_neg h8, if_neg w14_0, if_neg w14_1, if_pos w14_2] <;> rfl)
    by_cases w14_3 : y = 3
    · refine v_eqi 3 w14_3 ?_
      refine v_tableIn (off := 76) (tgt := 90) dX3_told_14 (by decide) (by decide) (by decide) (by decide) ?_
      refine v_aload_n dX3_told_90 rfl 0 rfl ?_
      refine v_get fX3_10 dX3_told_91 0 rfl rfl ?_
      refine v_get fX3_59 dX3_told_94 1 rfl rfl ?_
      refine v_iload_n dX3_told_97 rfl 1 rfl ?_
      refine v_iald dX3_told_98 5 rfl x.toNatClampNeg ((s_ish_ix hk6 h8).1) (Nat.lt_of_lt_of_le (s_ish_ix hk6 h8).2 hk6) (by decide) ?_
      exact v_iretR dX3_told_99 (by simp only [s_told, if_neg h8, if_neg w14_0, if_neg w14_1, if_neg w14_2, if_pos w14_3] <;> rfl)
    by_cases w14_4 : y = 4
    · refine v_eqi 4 w14_4 ?_
      refine v_tableIn (off := 86) (tgt := 100) dX3_told_14 (by decide) (by decide) (by decide) (by decide) ?_
      refine v_aload_n dX3_told_100 rfl 0 rfl ?_
      refine v_get fX3_28 dX3_told_101 0 rfl rfl ?_
      refine v_iload_n dX3_told_104 rfl 1 rfl ?_
      refine v_stk (st' := [.int (nI x.toNatClampNeg), .ref c0]) (v_s1 (fun (z0 : Int32) => ([.int z0, .ref c0] : List Value)) ((s_ish_ix hk6 h8).1)) ?_
      refine v_vRd (As := [.int (nI x.toNatClampNeg)]) (rest := []) (c_X0_siltOf l G c0 o0 nv aCa aTk aGr aGo aWe aDr aEa br du mi am mb ca x.toNatClampNeg (Nat.lt_of_lt_of_le (s_ish_ix hk6 h8).2 hk6)) YX0_siltOf mX3_69 dX3_told_105 ciX0 6 rfl [6, 7] rfl rfl rfl (Nat.le_of_ble_eq_true rfl) (by decide) (by decide) ?_
      exact v_iretR dX3_told_108 (by simp only [s_told, if_neg h8, if_neg w14_0, if_neg w14_1, if_neg w14_2, if_neg w14_3, if_pos w14_4] <;> rfl)
    by_cases w14_5 : y = 5
    · refine v_eqi 5 w14_5 ?_
      refine v_tableIn (off := 95) (tgt := 109) dX3_told_14 (by decide) (by decide) (by decide) (by decide) ?_
      refine v_aload_n dX3_told_109 rfl 0 rfl ?_
      refine v_get fX3_28 dX3_told_110 0 rfl rfl ?_
      refine v_get fX3_73 dX3_told_113 6 rfl rfl ?_
      refine v_iload_n dX3_told_116 rfl 1 rfl ?_
      refine v_iald dX3_told_117 7 rfl x.toNatClampNeg ((s_ish_ix hk6 h8).1) (Nat.lt_of_lt_of_le (s_ish_ix hk6 h8).2 hk6) (by decide) ?_
      exact v_iretR dX3_told_118 (by simp only [s_told, if_neg h8, if_neg w14_0, if_neg w14_1, if_neg w14_2, if_neg w14_3, if_neg w14_4, if_pos w14_5] <;> rfl)
    by_cases w14_6 : y = 6
    · refine v_eqi 6 w14_6 ?_
      refine v_tableIn (off := 105) (tgt := 119) dX3_told_14 (by decide) (by decide) (by decide) (by decide) ?_
      refine v_aload_n dX3_told_119 rfl 0 rfl ?_
      refine v_get fX3_28 dX3_told_120 0 rfl rfl ?_
      refine v_iload_n dX3_told_123 rfl 1 rfl ?_
      refine v_stk (st' := [.int (nI x.toNatClampNeg), .ref c0]) (v_s1 (fun (z0 : Int32) => ([.int z0, .ref c0] : List Value)) ((s_ish_ix hk6 h8).1)) ?_
      refine v_vRd (As := [.int (nI x.toNatClampNeg)]) (rest := []) (c_X0_mostOf l G c0 o0 nv aCa aTk aGr aGo aWe aDr aEa br du mi am mb oFa oWi oPa oQu oSh hk fl ai rn rf rt ca wi x.toNatClampNeg (Nat.lt_of_lt_of_le (s_ish_ix hk6 h8).2 hk6)) YX0_mostOf mX3_111 dX3_told_124 ciX0 6 rfl [6, 7, 1, 3] rfl rfl rfl (Nat.le_of_ble_eq_true rfl) (by decide) (by decide) ?_
      exact v_iretR dX3_told_127 (by simp only [s_told, if_neg h8, if_neg w14_0, if_neg w14_1, if_neg w14_2, if_neg w14_3, if_neg w14_4, if_neg w14_5, if_pos w14_6] <;> rfl)
    by_cases w14_7 : y = 7
    · refine v_eqi 7 w14_7 ?_
      refine v_tableIn (off := 114) (tgt := 128) dX3_told_14 (by decide) (by decide) (by decide) (by decide) ?_
      refine v_aload_n dX3_told_128 rfl 0 rfl ?_
      refine v_get fX3_28 dX3_told_129 0 rfl rfl ?_
      refine v_get fX3_114 dX3_told_132 6 rfl rfl ?_
      refine v_iload_n dX3_told_135 rfl 1 rfl ?_
      refine v_iald dX3_told_136 8 rfl x.toNatClampNeg ((s_ish_ix hk6 h8).1) (Nat.lt_of_lt_of_le (s_ish_ix hk6 h8).2 hk6) (by decide) ?_
      exact v_iretR dX3_told_137 (by simp only [s_told, if_neg h8, if_neg w14_0, if_neg w14_1, if_neg w14_2, if_neg w14_3, if_neg w14_4, if_neg w14_5, if_neg w14_6, if_pos w14_7] <;> rfl)
    refine v_tableOut (tgt := 138) dX3_told_14 (by have q0 := lv_neT w14_0 (a := 0) (by decide); have q1 := lv_neT w14_1 (a := 1) (by decide); have q2 := lv_neT w14_2 (a := 2) (by decide); have q3 := lv_neT w14_3 (a := 3) (by decide); have q4 := lv_neT w14_4 (a := 4) (by decide); have q5 := lv_neT w14_5 (a := 5) (by decide); have q6 := lv_neT w14_6 (a := 6) (by decide); have q7 := lv_neT w14_7 (a := 7) (by decide); omega) (by decide) ?_
    refine v_iconst (v := (-1)) dX3_told_138 (by decide) ?_
    exact v_iretR dX3_told_139 (by simp only [s_told, if_neg h8, if_neg w14_0, if_neg w14_1, if_neg w14_2, if_neg w14_3, if_neg w14_4, if_neg w14_5, if_neg w14_6, if_neg w14_7] <;> rfl)
  · skip
    refine v_iconst (v := (-1)) dX3_told_11 (by decide) ?_
    exact v_iretR dX3_told_12 (by simp only [s_told, if_pos h8] <;> rfl)

set_option maxRecDepth 100000 in
set_option maxHeartbeats 4000000 in
theorem c_X3_pane (l : Launch) (G : v_Cfg) (x0 : Nat) (o0 : Nat) (g0 : Nat) (c0 : Nat) (sA : Nat) (ho : Nat) (de : Nat) (oFa : Nat) (oWi : Nat) (oPa : Nat) (oQu : Nat) (oSh : Nat) (hk : Nat) (fl : Int32) (ai : Int32) (rn : Int32) (rf : Int32) (rt : Int32) (nv : Int32) (aCa : Nat) (aTk : Nat) (aGr : Nat) (aGo : Nat) (aWe : Nat) (aDr : Nat) (aEa : Nat) (br : Int32) (du : Int32) (mi : Int32) (am : Int32) (mb : Int32) (sh : Nat → Int32) (gr : Nat → Int32) (go : Nat → Int32) (we : Nat → Int32) (dr : Nat → Int32) (ea : Nat → Int32) (pn : Nat → Nat) (x : Int32) (y : Int32) (z : Int32) (hk6 : hk ≤ 6) (hpn4 : ∀ h, pn h ≤ 4) : RdI l G yX3_pane cX3_pane 5 (some .int) 2 [.ref x0, .int x, .int y, .int z] [(x0, .inr (3, [.ref o0, .ref g0, .ref c0, .ref sA, .int (nI ho), .int (nI de)])), (o0, .inr (2, [.ref oFa, .ref oWi, .ref oPa, .ref oQu, .ref oSh, .int (nI hk), .int fl, .int ai, .int rn, .int rf, .int rt])), (oPa, .inl (G.2.1, 6, .inl (pN pn))), (oSh, .inl (G.2.1, 24, .inl sh)), (c0, .inr (0, [.ref o0, .int nv, .ref aCa, .ref aTk, .ref aGr, .ref aGo, .ref aWe, .ref aDr, .ref aEa, .int br, .int du, .int mi, .int am, .int mb])), (aGr, .inl (G.2.1, 24, .inl gr)), (aGo, .inl (G.2.1, 24, .inl go)), (aWe, .inl (G.2.1, 24, .inl we)), (aDr, .inl (G.2.1, 24, .inl dr)), (aEa, .inl (G.2.1, 24, .inl ea))] (s_pane (s_isp x y (nI hk) (pN pn x.toNatClampNeg)) z (gr (4 * x.toNatClampNeg + y.toNatClampNeg)) (go (4 * x.toNatClampNeg + y.toNatClampNeg)) (we (4 * x.toNatClampNeg + y.toNatClampNeg)) (dr (4 * x.toNatClampNeg + y.toNatClampNeg)) (sh (4 * x.toNatClampNeg + y.toNatClampNeg)) (ea (4 * x.toNatClampNeg + y.toNatClampNeg))) := by
  refine RdI.of (own := RX3) (by decide) rfl (Nat.le_of_ble_eq_true rfl) (fun p e s m below meth c => ?_)
  refine v_aload_n dX3_pane_0 rfl 0 rfl ?_
  refine v_get fX3_10 dX3_pane_1 0 rfl rfl ?_
  refine v_iload_n dX3_pane_4 rfl 1 rfl ?_
  refine v_iload_n dX3_pane_5 rfl 2 rfl ?_
  refine v_vRd (As := [.int x, .int y]) (rest := []) (c_X2_isPane l G o0 oFa oWi oPa oQu oSh hk fl ai rn rf rt (pN pn) x y (by omega)) YX2_isPane mX3_76 dX3_pane_6 ciX2 1 rfl [1, 2] rfl rfl rfl (Nat.le_of_ble_eq_true rfl) (by decide) (by decide) ?_
  refine v_if_ne (tgt := 14) dX3_pane_9 (by decide) (fun h9 => ?_) (fun h9 => ?_)
  · skip
    refine v_iload_n dX3_pane_14 rfl 1 rfl ?_
    refine v_iload_n dX3_pane_15 rfl 2 rfl ?_
    have hix := s_isp_ix hk6 (hpn4 x.toNatClampNeg) rfl h9
    refine v_stk (st' := [.int (nI y.toNatClampNeg), .int (nI x.toNatClampNeg)]) (v_s2 (fun (z0 : Int32) (z1 : Int32) => ([.int z1, .int z0] : List Value)) hix.1.1 hix.2.1) ?_
    have hi4 := hpn4 x.toNatClampNeg
    refine v_sRd (As := [.int (nI x.toNatClampNeg), .int (nI y.toNatClampNeg)]) (rest := []) (c_X3_placeOf l G x.toNatClampNeg y.toNatClampNeg ) YX3_placeOf mX3_80 dX3_pane_16 [] rfl rfl rfl (Nat.le_of_ble_eq_true rfl) (by decide) (by decide) ?_
    refine v_istore (lv' := [(4, .int (nI (4 * x.toNatClampNeg + y.toNatClampNeg))), (0, .ref x0), (1, .int x), (2, .int y), (3, .int z)]) dX3_pane_19 (by decide) rfl ?_
    refine v_iload_n dX3_pane_21 rfl 4 rfl ?_
    by_cases w22_0 : z = 0
    · refine v_eqi 0 w22_0 ?_
      refine v_tableIn (off := 38) (tgt := 60) dX3_pane_22 (by decide) (by decide) (by decide) (by decide) ?_
      refine v_aload_n dX3_pane_60 rfl 1 rfl ?_
      refine v_get fX3_28 dX3_pane_61 0 rfl rfl ?_
      refine v_get fX3_117 dX3_pane_64 4 rfl rfl ?_
      refine v_iload dX3_pane_67 0 rfl ?_
      refine v_iald dX3_pane_69 5 rfl (4 * x.toNatClampNeg + y.toNatClampNeg) rfl (by omega) (by decide) ?_
      exact v_iretR dX3_pane_70 (by simp only [s_pane, if_neg h9, if_pos w22_0] <;> rfl)
    by_cases w22_1 : z = 1
    · refine v_eqi 1 w22_1 ?_
      refine v_tableIn (off := 49) (tgt := 71) dX3_pane_22 (by decide) (by decide) (by decide) (by decide) ?_
      refine v_aload_n dX3_pane_71 rfl 1 rfl ?_
      refine v_get fX3_28 dX3_pane_72 0 rfl rfl ?_
      refine v_get fX3_120 dX3_pane_75 4 rfl rfl ?_
      refine v_iload dX3_pane_78 0 rfl ?_
      refine v_iald dX3_pane_80 6 rfl (4 * x.toNatClampNeg + y.toNatClampNeg) rfl (by omega) (by decide) ?_
      exact v_iretR dX3_pane_81 (by simp only [s_pane, if_neg h9, if_neg w22_0, if_pos w22_1] <;> rfl)
    by_cases w22_2 : z = 2
    · refine v_eqi 2 w22_2 ?_
      refine v_tableIn (off := 60) (tgt := 82) dX3_pane_22 (by decide) (by decide) (by decide) (by decide) ?_
      refine v_aload_n dX3_pane_82 rfl 1 rfl ?_
      refine v_get fX3_28 dX3_pane_83 0 rfl rfl ?_
      refine v_get fX3_123 dX3_pane_86 4 rfl rfl ?_
      refine v_iload dX3_pane_89 0 rfl ?_
      refine v_iald dX3_pane_91 7 rfl (4 * x.toNatClampNeg + y.toNatClampNeg) rfl (by omega) (by decide) ?_
      exact v_iretR dX3_pane_92 (by simp only [s_pane, if_neg h9, if_neg w22_0, if_neg w22_1, if_pos w22_2] <;> rfl)
    by_cases w22_3 : z = 3
    · refine v_eqi 3 w22_3 ?_
      refine v_tableIn (off := 71) (tgt := 93) dX3_pane_22 (by decide) (by decide) (by decide) (by decide) ?_
      refine v_aload_n dX3_pane_93 rfl 1 rfl ?_
      refine v_get fX3_28 dX3_pane_94 0 rfl rfl ?_
      refine v_get fX3_126 dX3_pane_97 4 rfl rfl ?_
      refine v_iload dX3_pane_100 0 rfl ?_
      refine v_iald dX3_pane_102 8 rfl (4 * x.toNatClampNeg + y.toNatClampNeg) rfl (by omega) (by decide) ?_
      exact v_iretR dX3_pane_103 (by simp only [s_pane, if_neg h9, if_neg w22_0, if_neg w22_1, if_neg w22_2, if_pos w22_3] <;> rfl)
    by_cases w22_4 : z = 4
    · refine v_eqi 4 w22_4 ?_
      refine v_tableIn (off := 82) (tgt := 104) dX3_pane_22 (by decide) (by decide) (by decide) (by decide) ?_
      refine v_aload_n dX3_pane_104 rfl 1 rfl ?_
      refine v_get fX3_10 dX3_pane_105 0 rfl rfl ?_
      refine v_get fX3_84 dX3_pane_108 1 rfl rfl ?_
      refine v_iload dX3_pane_111 0 rfl ?_
      refine v_iald dX3_pane_113 3 rfl (4 * x.toNatClampNeg + y.toNatClampNeg) rfl (by omega) (by decide) ?_
      exact v_iretR dX3_pane_114 (by simp only [s_pane, if_neg h9, if_neg w22_0, if_neg w22_1, if_neg w22_2, if_neg w22_3, if_pos w22_4] <;> rfl)
    by_cases w22_5 : z = 5
    · refine v_eqi 5 w22_5 ?_
      refine v_tableIn (off := 93) (tgt := 115) dX3_pane_22 (by decide) (by decide) (by decide) (by decide) ?_
      refine v_aload_n dX3_pane_115 rfl 1 rfl ?_
      refine v_get fX3_28 dX3_pane_116 0 rfl rfl ?_
      refine v_get fX3_129 dX3_pane_119 4 rfl rfl ?_
      refine v_iload dX3_pane_122 0 rfl ?_
      refine v_iald dX3_pane_124 9 rfl (4 * x.toNatClampNeg + y.toNatClampNeg) rfl (by omega) (by decide) ?_
      exact v_iretR dX3_pane_125 (by simp only [s_pane, if_neg h9, if_neg w22_0, if_neg w22_1, if_neg w22_2, if_neg w22_3, if_neg w22_4, if_pos w22_5] <;> rfl)
    refine v_tableOut (tgt := 126) dX3_pane_22 (by have q0 := lv_neT w22_0 (a := 0) (by decide); have q1 := lv_neT w22_1 (a := 1) (by decide); have q2 := lv_neT w22_2 (a := 2) (by decide); have q3 := lv_neT w22_3 (a := 3) (by decide); have q4 := lv_neT w22_4 (a := 4) (by decide); have q5 := lv_neT w22_5 (a := 5) (by decide); omega) (by decide) ?_
    refine v_iconst (v := (-1)) dX3_pane_126 (by decide) ?_
    exact v_iretR dX3_pane_127 (by simp only [s_pane, if_neg h9, if_neg w22_0, if_neg w22_1, if_neg w22_2, if_neg w22_3, if_neg w22_4, if_neg w22_5] <;> rfl)
  · skip
    refine v_iconst (v := (-1)) dX3_pane_12 (by decide) ?_
    exact v_iretR dX3_pane_13 (by simp only [s_pane, if_pos h9] <;> rfl)

set_option maxRecDepth 100000 in
set_option maxHeartbeats 4000000 in
theorem c_X3_stream (l : Launch) (G : v_Cfg) (x0 : Nat) (o0 : Nat) (g0 : Nat) (c0 : Nat) (sA : Nat) (ho : Nat) (de : Nat) (oFa : Nat) (oWi : Nat) (oPa : Nat) (oQu : Nat) (oSh : Nat) (hk : Nat) (fl : Int32) (ai : Int32) (rn : Int32) (rf : Int32) (rt : Int32) (nv : Int32) (aCa : Nat) (aTk : Nat) (aGr : Nat) (aGo : Nat) (aWe : Nat) (aDr : Nat) (aEa : Nat) (br : Int32) (du : Int32) (mi : Int32) (am : Int32) (mb : Int32) (x : Int32)  : RdI l G yX3_stream cX3_stream 2 (some .int) 0 [.ref x0, .int x] [(x0, .inr (3, [.ref o0, .ref g0, .ref c0, .ref sA, .int (nI ho), .int (nI de)])), (o0, .inr (2, [.ref oFa, .ref oWi, .ref oPa, .ref oQu, .ref oSh, .int (nI hk), .int fl, .int ai, .int rn, .int rf, .int rt])), (c0, .inr (0, [.ref o0, .int nv, .ref aCa, .ref aTk, .ref aGr, .ref aGo, .ref aWe, .ref aDr, .ref aEa, .int br, .int du, .int mi, .int am, .int mb]))] (s_strm x fl ai br du mi am mb) := by
  refine RdI.of (own := RX3) (by decide) rfl (Nat.le_of_ble_eq_true rfl) (fun p e s m below meth c => ?_)
  refine v_iload_n dX3_stream_0 rfl 1 rfl ?_
  by_cases w1_0 : x = 0
  · refine v_eqi 0 w1_0 ?_
    refine v_tableIn (off := 43) (tgt := 44) dX3_stream_1 (by decide) (by decide) (by decide) (by decide) ?_
    refine v_aload_n dX3_stream_44 rfl 0 rfl ?_
    refine v_get fX3_10 dX3_stream_45 0 rfl rfl ?_
    refine v_get fX3_63 dX3_stream_48 1 rfl rfl ?_
    exact v_iretR dX3_stream_51 (by simp only [s_strm, if_pos w1_0] <;> rfl)
  by_cases w1_1 : x = 1
  · refine v_eqi 1 w1_1 ?_
    refine v_tableIn (off := 51) (tgt := 52) dX3_stream_1 (by decide) (by decide) (by decide) (by decide) ?_
    refine v_aload_n dX3_stream_52 rfl 0 rfl ?_
    refine v_get fX3_10 dX3_stream_53 0 rfl rfl ?_
    refine v_get fX3_66 dX3_stream_56 1 rfl rfl ?_
    exact v_iretR dX3_stream_59 (by simp only [s_strm, if_neg w1_0, if_pos w1_1] <;> rfl)
  by_cases w1_2 : x = 2
  · refine v_eqi 2 w1_2 ?_
    refine v_tableIn (off := 59) (tgt := 60) dX3_stream_1 (by decide) (by decide) (by decide) (by decide) ?_
    refine v_aload_n dX3_stream_60 rfl 0 rfl ?_
    refine v_get fX3_28 dX3_stream_61 0 rfl rfl ?_
    refine v_get fX3_132 dX3_stream_64 2 rfl rfl ?_
    exact v_iretR dX3_stream_67 (by simp only [s_strm, if_neg w1_0, if_neg w1_1, if_pos w1_2] <;> rfl)
  by_cases w1_3 : x = 3
  · refine v_eqi 3 w1_3 ?_
    refine v_tableIn (off := 67) (tgt := 68) dX3_stream_1 (by decide) (by decide) (by decide) (by decide) ?_
    refine v_aload_n dX3_stream_68 rfl 0 rfl ?_
    refine v_get fX3_28 dX3_stream_69 0 rfl rfl ?_
    refine v_get fX3_135 dX3_stream_72 2 rfl rfl ?_
    exact v_iretR dX3_stream_75 (by simp only [s_strm, if_neg w1_0, if_neg w1_1, if_neg w1_2, if_pos w1_3] <;> rfl)
  by_cases w1_4 : x = 4
  · refine v_eqi 4 w1_4 ?_
    refine v_tableIn (off := 75) (tgt := 76) dX3_stream_1 (by decide) (by decide) (by decide) (by decide) ?_
    refine v_aload_n dX3_stream_76 rfl 0 rfl ?_
    refine v_get fX3_28 dX3_stream_77 0 rfl rfl ?_
    refine v_get fX3_138 dX3_stream_80 2 rfl rfl ?_
    exact v_iretR dX3_stream_83 (by simp only [s_strm, if_neg w1_0, if_neg w1_1, if_neg w1_2, if_neg w1_3, if_pos w1_4] <;> rfl)
  by_cases w1_5 : x = 5
  · refine v_eqi 5 w1_5 ?_
    refine v_tableIn (off := 83) (tgt := 84) dX3_stream_1 (by decide) (by decide) (by decide) (by decide) ?_
    refine v_aload_n dX3_stream_84 rfl 0 rfl ?_
    refine v_get fX3_28 dX3_stream_85 0 rfl rfl ?_
    refine v_get fX3_141 dX3_stream_88 2 rfl rfl ?_
    exact v_iretR dX3_stream_91 (by simp only [s_strm, if_neg w1_0, if_neg w1_1, if_neg w1_2, if_neg w1_3, if_neg w1_4, if_pos w1_5] <;> rfl)
  by_cases w1_6 : x = 6
  · refine v_eqi 6 w1_6 ?_
    refine v_tableIn (off := 91) (tgt := 92) dX3_stream_1 (by decide) (by decide) (by decide) (by decide) ?_
    refine v_aload_n dX3_stream_92 rfl 0 rfl ?_
    refine v_get fX3_28 dX3_stream_93 0 rfl rfl ?_
    refine v_get fX3_144 dX3_stream_96 2 rfl rfl ?_
    exact v_iretR dX3_stream_99 (by simp only [s_strm, if_neg w1_0, if_neg w1_1, if_neg w1_2, if_neg w1_3, if_neg w1_4, if_neg w1_5, if_pos w1_6] <;> rfl)
  refine v_tableOut (tgt := 100) dX3_stream_1 (by have q0 := lv_neT w1_0 (a := 0) (by decide); have q1 := lv_neT w1_1 (a := 1) (by decide); have q2 := lv_neT w1_2 (a := 2) (by decide); have q3 := lv_neT w1_3 (a := 3) (by decide); have q4 := lv_neT w1_4 (a := 4) (by decide); have q5 := lv_neT w1_5 (a := 5) (by decide); have q6 := lv_neT w1_6 (a := 6) (by decide); omega) (by decide) ?_
  refine v_bipush (v := (-100)) dX3_stream_100 (by decide) ?_
  exact v_iretR dX3_stream_102 (by simp only [s_strm, if_neg w1_0, if_neg w1_1, if_neg w1_2, if_neg w1_3, if_neg w1_4, if_neg w1_5, if_neg w1_6] <;> rfl)

theorem nI_of3 {x : Int32} {n : Nat} (h : ¬ x < 0) (h2 : x < nI (min n 60)) : x = nI x.toNatClampNeg ∧ x.toNatClampNeg < min n 60 := by
  obtain ⟨j, hj, rfl⟩ := nI_of h
  rw [nI_clamp hj]
  exact ⟨rfl, (nI_ltI hj (by omega)).mp h2⟩

set_option maxRecDepth 100000 in
set_option maxHeartbeats 4000000 in
theorem c_X3_broken (l : Launch) (G : v_Cfg) (x0 : Nat) (o0 : Nat) (g0 : Nat) (c0 : Nat) (sA : Nat) (ho : Nat) (de : Nat) (lH : Nat) (lS : Nat) (lW : Nat) (lT : Nat) (bn : Nat) (lh : Nat → Int32) (ls : Nat → Int32) (lw : Nat → Int32) (x : Int32) (y : Int32)  : RdI l G yX3_broken cX3_broken 3 (some .int) 1 [.ref x0, .int x, .int y] [(x0, .inr (3, [.ref o0, .ref g0, .ref c0, .ref sA, .int (nI ho), .int (nI de)])), (g0, .inr (1, [.ref lH, .ref lS, .ref lW, .ref lT, .int (nI (min bn 60)), .int (nI bn)])), (lH, .inl (G.2.1, 60, .inl lh)), (lS, .inl (G.2.1, 60, .inl ls)), (lW, .inl (G.2.1, 60, .inl lw))] (s_brk x y (s_in y 0 2) (nI bn) (-4) (lh x.toNatClampNeg) (ls x.toNatClampNeg) (lw x.toNatClampNeg) (nI (min bn 60))) := by
  refine RdI.of (own := RX3) (by decide) rfl (Nat.le_of_ble_eq_true rfl) (fun p e s m below meth c => ?_)
  refine v_iload_n dX3_broken_0 rfl 1 rfl ?_
  refine v_iconst (v := (-1)) dX3_broken_1 (by decide) ?_
  refine v_icmp_ne (tgt := 17) dX3_broken_2 (by decide) (fun h2 => ?_) (fun h2 => ?_)
  · skip
    refine v_iload_n dX3_broken_17 rfl 1 rfl ?_
    refine v_if_lt (tgt := 30) dX3_broken_18 (by decide) (fun h18 => ?_) (fun h18 => ?_)
    · skip
      refine v_iconst (v := (-1)) dX3_broken_30 (by decide) ?_
      exact v_iretR dX3_broken_31 (by simp only [s_brk, if_neg h2, if_pos h18] <;> rfl)
    · skip
      refine v_iload_n dX3_broken_21 rfl 2 rfl ?_
      refine v_iconst (v := 0) dX3_broken_22 (by decide) ?_
      refine v_iconst (v := 2) dX3_broken_23 (by decide) ?_
      refine v_sRd (As := [.int y, .int 0, .int 2]) (rest := []) (c_X3_isWithin l G y 0 2 ) YX3_isWithin mX3_36 dX3_broken_24 [] rfl rfl rfl (Nat.le_of_ble_eq_true rfl) (by decide) (by decide) ?_
      refine v_if_ne (tgt := 32) dX3_broken_27 (by decide) (fun h27 => ?_) (fun h27 => ?_)
      · skip
        refine v_iload_n dX3_broken_32 rfl 1 rfl ?_
        refine v_aload_n dX3_broken_33 rfl 0 rfl ?_
        refine v_get fX3_19 dX3_broken_34 0 rfl rfl ?_
        refine v_get fX3_150 dX3_broken_37 1 rfl rfl ?_
        refine v_icmp_lt (tgt := 46) dX3_broken_40 (by decide) (fun h40 => ?_) (fun h40 => ?_)
        · skip
          refine v_iload_n dX3_broken_46 rfl 2 rfl ?_
          by_cases w47_0 : y = 0
          · refine v_eqi 0 w47_0 ?_
            refine v_lookup (off := 25) (tgt := 72) dX3_broken_47 (by decide) (by decide) (by decide) ?_
            refine v_aload_n dX3_broken_72 rfl 0 rfl ?_
            refine v_get fX3_19 dX3_broken_73 0 rfl rfl ?_
            refine v_get fX3_153 dX3_broken_76 1 rfl rfl ?_
            refine v_iload_n dX3_broken_79 rfl 1 rfl ?_
            refine v_iald dX3_broken_80 2 rfl x.toNatClampNeg ((nI_of3 h18 h40).1) (Nat.lt_of_lt_of_le (nI_of3 h18 h40).2 (Nat.min_le_right _ _)) (by decide) ?_
            exact v_iretR dX3_broken_81 (by simp only [s_brk, if_neg h2, if_neg h18, if_neg h27, if_pos h40, if_pos w47_0] <;> rfl)
          by_cases w47_1 : y = 1
          · refine v_eqi 1 w47_1 ?_
            refine v_lookup (off := 35) (tgt := 82) dX3_broken_47 (by decide) (by decide) (by decide) ?_
            refine v_aload_n dX3_broken_82 rfl 0 rfl ?_
            refine v_get fX3_19 dX3_broken_83 0 rfl rfl ?_
            refine v_get fX3_156 dX3_broken_86 1 rfl rfl ?_
            refine v_iload_n dX3_broken_89 rfl 1 rfl ?_
            refine v_iald dX3_broken_90 3 rfl x.toNatClampNeg ((nI_of3 h18 h40).1) (Nat.lt_of_lt_of_le (nI_of3 h18 h40).2 (Nat.min_le_right _ _)) (by decide) ?_
            exact v_iretR dX3_broken_91 (by simp only [s_brk, if_neg h2, if_neg h18, if_neg h27, if_pos h40, if_neg w47_0, if_pos w47_1] <;> rfl)
          refine v_lookup (off := 45) (tgt := 92) dX3_broken_47 (by decide) (by have q0 := lv_neT w47_0 (a := 0) (by decide); have q1 := lv_neT w47_1 (a := 1) (by decide); simp only [Op.lookupswitch.offset_cons]; rw [if_neg (fun h => q0 h.symm), if_neg (fun h => q1 h.symm)]; rfl) (by decide) ?_
          refine v_aload_n dX3_broken_92 rfl 0 rfl ?_
          refine v_get fX3_19 dX3_broken_93 0 rfl rfl ?_
          refine v_get fX3_159 dX3_broken_96 1 rfl rfl ?_
          refine v_iload_n dX3_broken_99 rfl 1 rfl ?_
          refine v_iald dX3_broken_100 4 rfl x.toNatClampNeg ((nI_of3 h18 h40).1) (Nat.lt_of_lt_of_le (nI_of3 h18 h40).2 (Nat.min_le_right _ _)) (by decide) ?_
          exact v_iretR dX3_broken_101 (by simp only [s_brk, if_neg h2, if_neg h18, if_neg h27, if_pos h40, if_neg w47_0, if_neg w47_1] <;> rfl)
        · skip
          refine v_bipush (v := (-4)) dX3_broken_43 (by decide) ?_
          exact v_iretR dX3_broken_45 (by simp only [s_brk, if_neg h2, if_neg h18, if_neg h27, if_neg h40] <;> rfl)
      · skip
        refine v_iconst (v := (-1)) dX3_broken_30 (by decide) ?_
        exact v_iretR dX3_broken_31 (by simp only [s_brk, if_neg h2, if_neg h18, if_pos h27] <;> rfl)
  · skip
    refine v_iload_n dX3_broken_5 rfl 2 rfl ?_
    refine v_if_ne (tgt := 17) dX3_broken_6 (by decide) (fun h6 => ?_) (fun h6 => ?_)
    · skip
      refine v_iload_n dX3_broken_17 rfl 1 rfl ?_
      refine v_if_lt (tgt := 30) dX3_broken_18 (by decide) (fun h18 => ?_) (fun h18 => absurd (show x < 0 by rw [h2]; decide) h18)
      refine v_iconst (v := (-1)) dX3_broken_30 (by decide) ?_
      exact v_iretR dX3_broken_31 (by simp only [s_brk, if_pos h2, if_neg h6, if_pos h18] <;> rfl)
    · skip
      refine v_aload_n dX3_broken_9 rfl 0 rfl ?_
      refine v_get fX3_19 dX3_broken_10 0 rfl rfl ?_
      refine v_get fX3_147 dX3_broken_13 1 rfl rfl ?_
      exact v_iretR dX3_broken_16 (by simp only [s_brk, if_pos h2, if_pos h6] <;> rfl)

set_option maxRecDepth 100000 in
set_option maxHeartbeats 4000000 in
theorem c_X3_farm (l : Launch) (G : v_Cfg) (x0 : Nat) (o0 : Nat) (g0 : Nat) (c0 : Nat) (sA : Nat) (ho : Nat) (de : Nat) (oFa : Nat) (oWi : Nat) (oPa : Nat) (oQu : Nat) (oSh : Nat) (hk : Nat) (fl : Int32) (ai : Int32) (rn : Int32) (rf : Int32) (rt : Int32) (nv : Int32) (aCa : Nat) (aTk : Nat) (aGr : Nat) (aGo : Nat) (aWe : Nat) (aDr : Nat) (aEa : Nat) (br : Int32) (du : Int32) (mi : Int32) (am : Int32) (mb : Int32) (lH : Nat) (lS : Nat) (lW : Nat) (lT : Nat) (bn : Nat) (gr : Nat → Int32) (we : Nat → Int32) (ea : Nat → Int32) (lt : Nat → Int32) (fn : Nat → Nat) (pn : Nat → Nat) (x : Int32) (y : Int32) (hk6 : hk ≤ 6) (hpn : ∀ h, h < hk → 1 ≤ pn h ∧ pn h ≤ 4) : RdI l G yX3_farm cX3_farm 3 (some .int) 2 [.ref x0, .int x, .int y] [(x0, .inr (3, [.ref o0, .ref g0, .ref c0, .ref sA, .int (nI ho), .int (nI de)])), (o0, .inr (2, [.ref oFa, .ref oWi, .ref oPa, .ref oQu, .ref oSh, .int (nI hk), .int fl, .int ai, .int rn, .int rf, .int rt])), (oFa, .inl (G.2.1, 6, .inl (pN fn))), (oPa, .inl (G.2.1, 6, .inl (pN pn))), (c0, .inr (0, [.ref o0, .int nv, .ref aCa, .ref aTk, .ref aGr, .ref aGo, .ref aWe, .ref aDr, .ref aEa, .int br, .int du, .int mi, .int am, .int mb])), (aGr, .inl (G.2.1, 24, .inl gr)), (aWe, .inl (G.2.1, 24, .inl we)), (aEa, .inl (G.2.1, 24, .inl ea)), (g0, .inr (1, [.ref lH, .ref lS, .ref lW, .ref lT, .int (nI (min bn 60)), .int (nI bn)])), (lT, .inl (G.2.1, 4, .inl lt))] (s_frm (s_in x 0 3) y (s_farmS (pN fn) pn gr x hk) (s_farmS (pN fn) pn ea x hk) (s_farmS (pN fn) pn we x hk) (lt x.toNatClampNeg)) := by
  refine RdI.of (own := RX3) (by decide) rfl (Nat.le_of_ble_eq_true rfl) (fun p e s m below meth c => ?_)
  refine v_iload_n dX3_farm_0 rfl 1 rfl ?_
  refine v_iconst (v := 0) dX3_farm_1 (by decide) ?_
  refine v_iconst (v := 3) dX3_farm_2 (by decide) ?_
  refine v_sRd (As := [.int x, .int 0, .int 3]) (rest := []) (c_X3_isWithin l G x 0 3 ) YX3_isWithin mX3_36 dX3_farm_3 [] rfl rfl rfl (Nat.le_of_ble_eq_true rfl) (by decide) (by decide) ?_
  refine v_if_ne (tgt := 11) dX3_farm_6 (by decide) (fun h6 => ?_) (fun h6 => ?_)
  · skip
    refine v_iload_n dX3_farm_11 rfl 2 rfl ?_
    by_cases w12_0 : y = 0
    · refine v_eqi 0 w12_0 ?_
      refine v_tableIn (off := 32) (tgt := 44) dX3_farm_12 (by decide) (by decide) (by decide) (by decide) ?_
      refine v_aload_n dX3_farm_44 rfl 0 rfl ?_
      refine v_get fX3_28 dX3_farm_45 0 rfl rfl ?_
      refine v_aload_n dX3_farm_48 rfl 0 rfl ?_
      refine v_get fX3_28 dX3_farm_49 0 rfl rfl ?_
      refine v_get fX3_117 dX3_farm_52 4 rfl rfl ?_
      refine v_iload_n dX3_farm_55 rfl 1 rfl ?_
      refine v_vRd (As := [.ref aGr, .int x]) (rest := []) (c_X0_sumOfFarm l G c0 o0 nv aCa aTk aGr aGo aWe aDr aEa br du mi am mb oFa oWi oPa oQu oSh hk fl ai rn rf rt gr (pN fn) pn aGr x hk6 hpn) YX0_sumOfFarm mX3_162 dX3_farm_56 ciX0 4 rfl [4, 5, 1, 2, 3] rfl rfl rfl (Nat.le_of_ble_eq_true rfl) (by decide) (by decide) ?_
      exact v_iretR dX3_farm_59 (by simp only [s_frm, if_neg h6, if_pos w12_0] <;> rfl)
    by_cases w12_1 : y = 1
    · refine v_eqi 1 w12_1 ?_
      refine v_tableIn (off := 48) (tgt := 60) dX3_farm_12 (by decide) (by decide) (by decide) (by decide) ?_
      refine v_aload_n dX3_farm_60 rfl 0 rfl ?_
      refine v_get fX3_28 dX3_farm_61 0 rfl rfl ?_
      refine v_aload_n dX3_farm_64 rfl 0 rfl ?_
      refine v_get fX3_28 dX3_farm_65 0 rfl rfl ?_
      refine v_get fX3_129 dX3_farm_68 4 rfl rfl ?_
      refine v_iload_n dX3_farm_71 rfl 1 rfl ?_
      refine v_vRd (As := [.ref aEa, .int x]) (rest := []) (c_X0_sumOfFarm l G c0 o0 nv aCa aTk aGr aGo aWe aDr aEa br du mi am mb oFa oWi oPa oQu oSh hk fl ai rn rf rt ea (pN fn) pn aEa x hk6 hpn) YX0_sumOfFarm mX3_162 dX3_farm_72 ciX0 4 rfl [4, 7, 1, 2, 3] rfl rfl rfl (Nat.le_of_ble_eq_true rfl) (by decide) (by decide) ?_
      exact v_iretR dX3_farm_75 (by simp only [s_frm, if_neg h6, if_neg w12_0, if_pos w12_1] <;> rfl)
    by_cases w12_2 : y = 2
    · refine v_eqi 2 w12_2 ?_
      refine v_tableIn (off := 64) (tgt := 76) dX3_farm_12 (by decide) (by decide) (by decide) (by decide) ?_
      refine v_aload_n dX3_farm_76 rfl 0 rfl ?_
      refine v_get fX3_28 dX3_farm_77 0 rfl rfl ?_
      refine v_aload_n dX3_farm_80 rfl 0 rfl ?_
      refine v_get fX3_28 dX3_farm_81 0 rfl rfl ?_
      refine v_get fX3_123 dX3_farm_84 4 rfl rfl ?_
      refine v_iload_n dX3_farm_87 rfl 1 rfl ?_
      refine v_vRd (As := [.ref aWe, .int x]) (rest := []) (c_X0_sumOfFarm l G c0 o0 nv aCa aTk aGr aGo aWe aDr aEa br du mi am mb oFa oWi oPa oQu oSh hk fl ai rn rf rt we (pN fn) pn aWe x hk6 hpn) YX0_sumOfFarm mX3_162 dX3_farm_88 ciX0 4 rfl [4, 6, 1, 2, 3] rfl rfl rfl (Nat.le_of_ble_eq_true rfl) (by decide) (by decide) ?_
      exact v_iretR dX3_farm_91 (by simp only [s_frm, if_neg h6, if_neg w12_0, if_neg w12_1, if_pos w12_2] <;> rfl)
    by_cases w12_3 : y = 3
    · refine v_eqi 3 w12_3 ?_
      refine v_tableIn (off := 80) (tgt := 92) dX3_farm_12 (by decide) (by decide) (by decide) (by decide) ?_
      refine v_aload_n dX3_farm_92 rfl 0 rfl ?_
      refine v_get fX3_19 dX3_farm_93 0 rfl rfl ?_
      refine v_get fX3_166 dX3_farm_96 8 rfl rfl ?_
      refine v_iload_n dX3_farm_99 rfl 1 rfl ?_
      refine v_iald dX3_farm_100 9 rfl x.toNatClampNeg ((s_in_ix (a := 0) (b := 3) h6 rfl rfl (by decide) (by decide)).1) (Nat.lt_succ_of_le (s_in_ix (a := 0) (b := 3) h6 rfl rfl (by decide) (by decide)).2.2) (by decide) ?_
      exact v_iretR dX3_farm_101 (by simp only [s_frm, if_neg h6, if_neg w12_0, if_neg w12_1, if_neg w12_2, if_pos w12_3] <;> rfl)
    refine v_tableOut (tgt := 102) dX3_farm_12 (by have q0 := lv_neT w12_0 (a := 0) (by decide); have q1 := lv_neT w12_1 (a := 1) (by decide); have q2 := lv_neT w12_2 (a := 2) (by decide); have q3 := lv_neT w12_3 (a := 3) (by decide); omega) (by decide) ?_
    refine v_iconst (v := (-1)) dX3_farm_102 (by decide) ?_
    exact v_iretR dX3_farm_103 (by simp only [s_frm, if_neg h6, if_neg w12_0, if_neg w12_1, if_neg w12_2, if_neg w12_3] <;> rfl)
  · skip
    refine v_iconst (v := (-1)) dX3_farm_9 (by decide) ?_
    exact v_iretR dX3_farm_10 (by simp only [s_frm, if_pos h6] <;> rfl)

set_option maxRecDepth 100000 in
set_option maxHeartbeats 4000000 in
theorem c_X3_count (l : Launch) (G : v_Cfg) (x0 : Nat) (o0 : Nat) (g0 : Nat) (c0 : Nat) (sA : Nat) (ho : Nat) (de : Nat) (oFa : Nat) (oWi : Nat) (oPa : Nat) (oQu : Nat) (oSh : Nat) (hk : Nat) (fl : Int32) (ai : Int32) (rn : Int32) (rf : Int32) (rt : Int32) (x : Int32)  : RdI l G yX3_count cX3_count 2 (some .int) 0 [.ref x0, .int x] [(x0, .inr (3, [.ref o0, .ref g0, .ref c0, .ref sA, .int (nI ho), .int (nI de)])), (o0, .inr (2, [.ref oFa, .ref oWi, .ref oPa, .ref oQu, .ref oSh, .int (nI hk), .int fl, .int ai, .int rn, .int rf, .int rt]))] (s_cnt x (nI hk) (nI ho) (nI de)) := by
  refine RdI.of (own := RX3) (by decide) rfl (Nat.le_of_ble_eq_true rfl) (fun p e s m below meth c => ?_)
  refine v_iload_n dX3_count_0 rfl 1 rfl ?_
  by_cases w1_0 : x = 0
  · refine v_eqi 0 w1_0 ?_
    refine v_tableIn (off := 27) (tgt := 28) dX3_count_1 (by decide) (by decide) (by decide) (by decide) ?_
    refine v_aload_n dX3_count_28 rfl 0 rfl ?_
    refine v_get fX3_10 dX3_count_29 0 rfl rfl ?_
    refine v_get fX3_40 dX3_count_32 1 rfl rfl ?_
    exact v_iretR dX3_count_35 (by simp only [s_cnt, if_pos w1_0] <;> rfl)
  by_cases w1_1 : x = 1
  · refine v_eqi 1 w1_1 ?_
    refine v_tableIn (off := 35) (tgt := 36) dX3_count_1 (by decide) (by decide) (by decide) (by decide) ?_
    refine v_aload_n dX3_count_36 rfl 0 rfl ?_
    refine v_get fX3_96 dX3_count_37 0 rfl rfl ?_
    exact v_iretR dX3_count_40 (by simp only [s_cnt, if_neg w1_0, if_pos w1_1] <;> rfl)
  by_cases w1_2 : x = 2
  · refine v_eqi 2 w1_2 ?_
    refine v_tableIn (off := 40) (tgt := 41) dX3_count_1 (by decide) (by decide) (by decide) (by decide) ?_
    refine v_aload_n dX3_count_41 rfl 0 rfl ?_
    refine v_get fX3_48 dX3_count_42 0 rfl rfl ?_
    exact v_iretR dX3_count_45 (by simp only [s_cnt, if_neg w1_0, if_neg w1_1, if_pos w1_2] <;> rfl)
  refine v_tableOut (tgt := 46) dX3_count_1 (by have q0 := lv_neT w1_0 (a := 0) (by decide); have q1 := lv_neT w1_1 (a := 1) (by decide); have q2 := lv_neT w1_2 (a := 2) (by decide); omega) (by decide) ?_
  refine v_iconst (v := (-1)) dX3_count_46 (by decide) ?_
  exact v_iretR dX3_count_47 (by simp only [s_cnt, if_neg w1_0, if_neg w1_1, if_neg w1_2] <;> rfl)
end
section
/-! ===== the hours, the digging, the stream without a hatch ===== -/
abbrev CS : Type := (Nat → Int32) × (Nat → Int32) × (Nat → Int32) × (Nat → Int32) × (Nat → Int32) × (Nat → Int32) × (Nat → Int32) × Int32 × Int32 × Int32 × Int32 × Int32
def C_ca (x : CS) : Nat → Int32 := x.1
def C_tk (x : CS) : Nat → Int32 := x.2.1
def C_gr (x : CS) : Nat → Int32 := x.2.2.1
def C_go (x : CS) : Nat → Int32 := x.2.2.2.1
def C_we (x : CS) : Nat → Int32 := x.2.2.2.2.1
def C_dr (x : CS) : Nat → Int32 := x.2.2.2.2.2.1
def C_ea (x : CS) : Nat → Int32 := x.2.2.2.2.2.2.1
def C_br (x : CS) : Int32 := x.2.2.2.2.2.2.2.1
def C_du (x : CS) : Int32 := x.2.2.2.2.2.2.2.2.1
def C_mi (x : CS) : Int32 := x.2.2.2.2.2.2.2.2.2.1
def C_am (x : CS) : Int32 := x.2.2.2.2.2.2.2.2.2.2.1
def C_mb (x : CS) : Int32 := x.2.2.2.2.2.2.2.2.2.2.2
def nvF : Nat → Int32
  | 0 => -1
  | k + 1 => nI k
def s_pin (c : CS) (fl : Int32) : PS := (C_ca c, C_tk c, C_gr c, C_go c, C_we c, C_dr c, C_ea c, C_du c, fl)
def s_pout (c : CS) (fl ra : Int32) (r : PS) : CS := (P_ca r, P_tk r, P_gr r, P_go r, P_we r, P_dr r, P_ea r, C_br c + fl, P_du r, C_mi c + P_w r, P_w r, s_mb (P_w r) ra (C_mb c))
/-- an hour x of a course -/
def s_pass (nv x fl ai rn rf rt : Int32) (wi qu sh : Nat → Int32) (pn : Nat → Nat) (hk : Nat) (c : CS) : CS := s_pout c fl (s_ra fl rn rf rt x) (s_run nv ai (s_gz x) wi qu sh pn hk (s_pin c fl))
abbrev HS : Type := Nat × (Nat → Int32) × (Nat → Int32) × (Nat → Int32) × (Nat → Int32) × Nat × (Nat → CS)
def H_ho (x : HS) : Nat := x.1
def H_lh (x : HS) : Nat → Int32 := x.2.1
def H_ls (x : HS) : Nat → Int32 := x.2.2.1
def H_lw (x : HS) : Nat → Int32 := x.2.2.2.1
def H_lt (x : HS) : Nat → Int32 := x.2.2.2.2.1
def H_bn (x : HS) : Nat := x.2.2.2.2.2.1
def H_cs (x : HS) : Nat → CS := x.2.2.2.2.2.2
def s_judge (c : CS) (fn : Nat → Nat) (fl ai rn rf rt : Int32) (hk : Nat) (x : HS) : JS := s_mill (s_short (C_am c) (s_ra fl rn rf rt (nI (H_ho x)))) (nI (H_ho x)) (s_jrun (C_tk c) fn fl ai (nI (H_ho x)) hk (H_lh x, H_ls x, H_lw x, H_lt x, H_bn x, 0, 0))
def s_advC (fl ai rn rf rt : Int32) (wi qu sh : Nat → Int32) (pn : Nat → Nat) (hk : Nat) (x : HS) : Nat → CS := fun s => s_pass (nvF s) (nI (H_ho x)) fl ai rn rf rt wi qu sh pn hk (H_cs x s)
def s_advJ (J : JS) (ho : Nat) (cs : Nat → CS) : HS := (ho, J_lh J, J_ls J, J_lw J, J_lt J, J_bn J, cs)
def s_adv (fl ai rn rf rt : Int32) (wi qu sh : Nat → Int32) (fn pn : Nat → Nat) (hk : Nat) (x : HS) : HS := s_advJ (s_judge (s_advC fl ai rn rf rt wi qu sh pn hk x 0) fn fl ai rn rf rt hk x) (H_ho x + 1) (s_advC fl ai rn rf rt wi qu sh pn hk x)
def s_advs (fl ai rn rf rt : Int32) (wi qu sh : Nat → Int32) (fn pn : Nat → Nat) (hk : Nat) : Nat → HS → HS
  | 0, x => x
  | i + 1, x => s_adv fl ai rn rf rt wi qu sh fn pn hk (s_advs fl ai rn rf rt wi qu sh fn pn hk i x)
theorem s_mill_bn (a b : Int32) (J : JS) : J_bn (s_mill a b J) ≤ J_bn J + 1 := by
  unfold s_mill; split
  · omega
  · exact Nat.le_refl _
theorem s_adv_bn {fl ai rn rf rt : Int32} {wi qu sh : Nat → Int32} {fn pn : Nat → Nat} {hk : Nat} (x : HS) : H_bn (s_adv fl ai rn rf rt wi qu sh fn pn hk x) ≤ H_bn x + hk + 1 :=
  Nat.le_trans (s_mill_bn _ _ _) (Nat.succ_le_succ (s_jrun_bn _ _ _ _ _ _ _))
theorem s_advs_bn {fl ai rn rf rt : Int32} {wi qu sh : Nat → Int32} {fn pn : Nat → Nat} {hk : Nat} (h6 : hk ≤ 6) (i : Nat) (x : HS) : H_bn (s_advs fl ai rn rf rt wi qu sh fn pn hk i x) ≤ H_bn x + 7 * i := by
  induction i with
  | zero => exact Nat.le_refl _
  | succ i ih =>
    have := s_adv_bn (fl := fl) (ai := ai) (rn := rn) (rf := rf) (rt := rt) (wi := wi) (qu := qu) (sh := sh) (fn := fn) (pn := pn) (hk := hk) (s_advs fl ai rn rf rt wi qu sh fn pn hk i x)
    show H_bn (s_adv fl ai rn rf rt wi qu sh fn pn hk (s_advs fl ai rn rf rt wi qu sh fn pn hk i x)) ≤ _
    omega
theorem s_advs_ho {fl ai rn rf rt : Int32} {wi qu sh : Nat → Int32} {fn pn : Nat → Nat} {hk : Nat} (i : Nat) (x : HS) : H_ho (s_advs fl ai rn rf rt wi qu sh fn pn hk i x) = H_ho x + i := by
  induction i with
  | zero => rfl
  | succ i ih =>
    show H_ho (s_advs fl ai rn rf rt wi qu sh fn pn hk i x) + 1 = _
    omega
def s_dig (h : Nat) (cs : Nat → CS) : Nat → CS := fun s => (upd (C_ca (cs s)) h 0, C_tk (cs s), C_gr (cs s), C_go (cs s), C_we (cs s), C_dr (cs s), C_ea (cs s), C_br (cs s), C_du (cs s), C_mi (cs s), C_am (cs s), C_mb (cs s))
def s_wo (inw what mi mb a : Int32) : Int32 := if inw = 0 then -1 else if what = 0 then mi else if what = 1 then mb else a

set_option maxRecDepth 100000 in
set_option maxHeartbeats 4000000 in
theorem c_X3_judgeHour (l : Launch) (G : v_Cfg) (x0 : Nat) (o0 : Nat) (g0 : Nat) (c0 : Nat) (sA : Nat) (ho : Nat) (de : Nat) (oFa : Nat) (oWi : Nat) (oPa : Nat) (oQu : Nat) (oSh : Nat) (hk : Nat) (fl : Int32) (ai : Int32) (rn : Int32) (rf : Int32) (rt : Int32) (nv : Int32) (aCa : Nat) (aTk : Nat) (aGr : Nat) (aGo : Nat) (aWe : Nat) (aDr : Nat) (aEa : Nat) (br : Int32) (du : Int32) (mi : Int32) (am : Int32) (mb : Int32) (lH : Nat) (lS : Nat) (lW : Nat) (lT : Nat) (bn : Nat) (tk : Nat → Int32) (lh : Nat → Int32) (ls : Nat → Int32) (lw : Nat → Int32) (lt : Nat → Int32) (fn : Nat → Nat) (hk6 : hk ≤ 6) (hfn : ∀ h, h < hk → fn h < 4) (hbn : bn < 900000) : MuV l G yX3_judgeHour cX3_judgeHour 4 none 3 [.ref x0] [(x0, .inr (3, [.ref o0, .ref g0, .ref c0, .ref sA, .int (nI ho), .int (nI de)])), (o0, .inr (2, [.ref oFa, .ref oWi, .ref oPa, .ref oQu, .ref oSh, .int (nI hk), .int fl, .int ai, .int rn, .int rf, .int rt])), (oFa, .inl (G.2.1, 6, .inl (pN fn))), (c0, .inr (0, [.ref o0, .int nv, .ref aCa, .ref aTk, .ref aGr, .ref aGo, .ref aWe, .ref aDr, .ref aEa, .int br, .int du, .int mi, .int am, .int mb])), (aTk, .inl (G.2.1, 6, .inl tk)), (g0, .inr (1, [.ref lH, .ref lS, .ref lW, .ref lT, .int (nI (min bn 60)), .int (nI bn)])), (lH, .inl (G.2.1, 60, .inl lh)), (lS, .inl (G.2.1, 60, .inl ls)), (lW, .inl (G.2.1, 60, .inl lw)), (lT, .inl (G.2.1, 4, .inl lt))] [(x0, .inr (3, [.ref o0, .ref g0, .ref c0, .ref sA, .int (nI ho), .int (nI de)])), (o0, .inr (2, [.ref oFa, .ref oWi, .ref oPa, .ref oQu, .ref oSh, .int (nI hk), .int fl, .int ai, .int rn, .int rf, .int rt])), (oFa, .inl (G.2.1, 6, .inl (pN fn))), (c0, .inr (0, [.ref o0, .int nv, .ref aCa, .ref aTk, .ref aGr, .ref aGo, .ref aWe, .ref aDr, .ref aEa, .int br, .int du, .int mi, .int am, .int mb])), (aTk, .inl (G.2.1, 6, .inl tk)), (g0, .inr (1, [.ref lH, .ref lS, .ref lW, .ref lT, .int (nI (min (J_bn (s_mill (s_short am (s_ra fl rn rf rt (nI ho))) (nI ho) (s_jrun tk fn fl ai (nI ho) hk (lh, ls, lw, lt, bn, 0, 0)))) 60)), .int (nI (J_bn (s_mill (s_short am (s_ra fl rn rf rt (nI ho))) (nI ho) (s_jrun tk fn fl ai (nI ho) hk (lh, ls, lw, lt, bn, 0, 0)))))])), (lH, .inl (G.2.1, 60, .inl (J_lh (s_mill (s_short am (s_ra fl rn rf rt (nI ho))) (nI ho) (s_jrun tk fn fl ai (nI ho) hk (lh, ls, lw, lt, bn, 0, 0)))))), (lS, .inl (G.2.1, 60, .inl (J_ls (s_mill (s_short am (s_ra fl rn rf rt (nI ho))) (nI ho) (s_jrun tk fn fl ai (nI ho) hk (lh, ls, lw, lt, bn, 0, 0)))))), (lW, .inl (G.2.1, 60, .inl (J_lw (s_mill (s_short am (s_ra fl rn rf rt (nI ho))) (nI ho) (s_jrun tk fn fl ai (nI ho) hk (lh, ls, lw, lt, bn, 0, 0)))))), (lT, .inl (G.2.1, 4, .inl (J_lt (s_mill (s_short am (s_ra fl rn rf rt (nI ho))) (nI ho) (s_jrun tk fn fl ai (nI ho) hk (lh, ls, lw, lt, bn, 0, 0))))))] := by
  refine MuV.of (own := RX3) (by decide) rfl (Nat.le_of_ble_eq_true rfl) (fun p e s m below meth c => ?_)
  refine v_iconst (v := 0) dX3_judgeHour_0 (by decide) ?_
  refine v_istore_n (lv' := [(1, .int 0), (0, .ref x0)]) dX3_judgeHour_1 rfl (by decide) rfl ?_
  refine v_iconst (v := 0) dX3_judgeHour_2 (by decide) ?_
  refine v_istore_n (lv' := [(2, .int 0), (1, .int 0), (0, .ref x0)]) dX3_judgeHour_3 rfl (by decide) rfl ?_
  refine v_iconst (v := 0) dX3_judgeHour_4 (by decide) ?_
  refine v_istore_n (lv' := [(3, .int 0), (2, .int 0), (1, .int 0), (0, .ref x0)]) dX3_judgeHour_5 rfl (by decide) rfl ?_
  have hjb : ∀ i, J_bn (s_jrun tk fn fl ai (nI ho) i (lh, ls, lw, lt, bn, 0, 0)) ≤ bn + i := fun i => s_jrun_bn _ _ _ _ _ _ _
  have loop6 : ∀ (k6 i : Nat), i + k6 = hk → V p l e (rmk 3) s m #[.ref x0] below meth c (MQ below (v_Qv G [(x0, .inr (3, [.ref o0, .ref g0, .ref c0, .ref sA, .int (nI ho), .int (nI de)])), (o0, .inr (2, [.ref oFa, .ref oWi, .ref oPa, .ref oQu, .ref oSh, .int (nI hk), .int fl, .int ai, .int rn, .int rf, .int rt])), (oFa, .inl (G.2.1, 6, .inl (pN fn))), (c0, .inr (0, [.ref o0, .int nv, .ref aCa, .ref aTk, .ref aGr, .ref aGo, .ref aWe, .ref aDr, .ref aEa, .int br, .int du, .int mi, .int am, .int mb])), (aTk, .inl (G.2.1, 6, .inl tk)), (g0, .inr (1, [.ref lH, .ref lS, .ref lW, .ref lT, .int (nI (min bn 60)), .int (nI bn)])), (lH, .inl (G.2.1, 60, .inl lh)), (lS, .inl (G.2.1, 60, .inl ls)), (lW, .inl (G.2.1, 60, .inl lw)), (lT, .inl (G.2.1, 4, .inl lt))] [(x0, .inr (3, [.ref o0, .ref g0, .ref c0, .ref sA, .int (nI ho), .int (nI de)])), (o0, .inr (2, [.ref oFa, .ref oWi, .ref oPa, .ref oQu, .ref oSh, .int (nI hk), .int fl, .int ai, .int rn, .int rf, .int rt])), (oFa, .inl (G.2.1, 6, .inl (pN fn))), (c0, .inr (0, [.ref o0, .int nv, .ref aCa, .ref aTk, .ref aGr, .ref aGo, .ref aWe, .ref aDr, .ref aEa, .int br, .int du, .int mi, .int am, .int mb])), (aTk, .inl (G.2.1, 6, .inl tk)), (g0, .inr (1, [.ref lH, .ref lS, .ref lW, .ref lT, .int (nI (min (J_bn (s_mill (s_short am (s_ra fl rn rf rt (nI ho))) (nI ho) (s_jrun tk fn fl ai (nI ho) hk (lh, ls, lw, lt, bn, 0, 0)))) 60)), .int (nI (J_bn (s_mill (s_short am (s_ra fl rn rf rt (nI ho))) (nI ho) (s_jrun tk fn fl ai (nI ho) hk (lh, ls, lw, lt, bn, 0, 0)))))])), (lH, .inl (G.2.1, 60, .inl (J_lh (s_mill (s_short am (s_ra fl rn rf rt (nI ho))) (nI ho) (s_jrun tk fn fl ai (nI ho) hk (lh, ls, lw, lt, bn, 0, 0)))))), (lS, .inl (G.2.1, 60, .inl (J_ls (s_mill (s_short am (s_ra fl rn rf rt (nI ho))) (nI ho) (s_jrun tk fn fl ai (nI ho) hk (lh, ls, lw, lt, bn, 0, 0)))))), (lW, .inl (G.2.1, 60, .inl (J_lw (s_mill (s_short am (s_ra fl rn rf rt (nI ho))) (nI ho) (s_jrun tk fn fl ai (nI ho) hk (lh, ls, lw, lt, bn, 0, 0)))))), (lT, .inl (G.2.1, 4, .inl (J_lt (s_mill (s_short am (s_ra fl rn rf rt (nI ho))) (nI ho) (s_jrun tk fn fl ai (nI ho) hk (lh, ls, lw, lt, bn, 0, 0))))))]) #[.ref x0] s 0 0 (v_in [(x0, .inr (3, [.ref o0, .ref g0, .ref c0, .ref sA, .int (nI ho), .int (nI de)])), (o0, .inr (2, [.ref oFa, .ref oWi, .ref oPa, .ref oQu, .ref oSh, .int (nI hk), .int fl, .int ai, .int rn, .int rf, .int rt])), (oFa, .inl (G.2.1, 6, .inl (pN fn))), (c0, .inr (0, [.ref o0, .int nv, .ref aCa, .ref aTk, .ref aGr, .ref aGo, .ref aWe, .ref aDr, .ref aEa, .int br, .int du, .int mi, .int am, .int mb])), (aTk, .inl (G.2.1, 6, .inl tk)), (g0, .inr (1, [.ref lH, .ref lS, .ref lW, .ref lT, .int (nI (min bn 60)), .int (nI bn)])), (lH, .inl (G.2.1, 60, .inl lh)), (lS, .inl (G.2.1, 60, .inl ls)), (lW, .inl (G.2.1, 60, .inl lw)), (lT, .inl (G.2.1, 4, .inl lt))])) G (v_Iw (v_in [(x0, .inr (3, [.ref o0, .ref g0, .ref c0, .ref sA, .int (nI ho), .int (nI de)])), (o0, .inr (2, [.ref oFa, .ref oWi, .ref oPa, .ref oQu, .ref oSh, .int (nI hk), .int fl, .int ai, .int rn, .int rf, .int rt])), (oFa, .inl (G.2.1, 6, .inl (pN fn))), (c0, .inr (0, [.ref o0, .int nv, .ref aCa, .ref aTk, .ref aGr, .ref aGo, .ref aWe, .ref aDr, .ref aEa, .int br, .int du, .int mi, .int am, .int mb])), (aTk, .inl (G.2.1, 6, .inl tk)), (g0, .inr (1, [.ref lH, .ref lS, .ref lW, .ref lT, .int (nI (min bn 60)), .int (nI bn)])), (lH, .inl (G.2.1, 60, .inl lh)), (lS, .inl (G.2.1, 60, .inl ls)), (lW, .inl (G.2.1, 60, .inl lw)), (lT, .inl (G.2.1, 4, .inl lt))]) s) cX3_judgeHour RX3 4 none [(x0, .inr (3, [.ref o0, .ref g0, .ref c0, .ref sA, .int (nI ho), .int (nI de)])), (o0, .inr (2, [.ref oFa, .ref oWi, .ref oPa, .ref oQu, .ref oSh, .int (nI hk), .int fl, .int ai, .int rn, .int rf, .int rt])), (oFa, .inl (G.2.1, 6, .inl (pN fn))), (c0, .inr (0, [.ref o0, .int nv, .ref aCa, .ref aTk, .ref aGr, .ref aGo, .ref aWe, .ref aDr, .ref aEa, .int br, .int du, .int mi, .int am, .int mb])), (aTk, .inl (G.2.1, 6, .inl tk)), (g0, .inr (1, [.ref lH, .ref lS, .ref lW, .ref lT, .int (nI (min (J_bn (s_jrun tk fn fl ai (nI ho) i (lh, ls, lw, lt, bn, 0, 0))) 60)), .int (nI (J_bn (s_jrun tk fn fl ai (nI ho) i (lh, ls, lw, lt, bn, 0, 0))))])), (lH, .inl (G.2.1, 60, .inl (J_lh (s_jrun tk fn fl ai (nI ho) i (lh, ls, lw, lt, bn, 0, 0))))), (lS, .inl (G.2.1, 60, .inl (J_ls (s_jrun tk fn fl ai (nI ho) i (lh, ls, lw, lt, bn, 0, 0))))), (lW, .inl (G.2.1, 60, .inl (J_lw (s_jrun tk fn fl ai (nI ho) i (lh, ls, lw, lt, bn, 0, 0))))), (lT, .inl (G.2.1, 4, .inl (J_lt (s_jrun tk fn fl ai (nI ho) i (lh, ls, lw, lt, bn, 0, 0)))))] 0 0 [(3, .int (nI i)), (2, .int (J_br (s_jrun tk fn fl ai (nI ho) i (lh, ls, lw, lt, bn, 0, 0)))), (1, .int (J_ta (s_jrun tk fn fl ai (nI ho) i (lh, ls, lw, lt, bn, 0, 0)))), (0, .ref x0)] 6 [] := by
    intro k6
    induction k6 with
    | zero =>
      intro i hi6
      have hi6 : i = hk := by omega
      rw [hi6]
      refine v_iload_n dX3_judgeHour_6 rfl 0 rfl ?_
      refine v_aload_n dX3_judgeHour_7 rfl 3 rfl ?_
      refine v_get fX3_10 dX3_judgeHour_8 0 rfl rfl ?_
      refine v_get fX3_40 dX3_judgeHour_11 1 rfl rfl ?_
      refine v_icmp_ge (tgt := 83) dX3_judgeHour_14 (by decide) (fun h14 => ?_) (fun h14 => absurd (nI_le (by omega) (by omega)) h14)
      refine v_aload_n dX3_judgeHour_83 rfl 3 rfl ?_
      refine v_get fX3_28 dX3_judgeHour_84 0 rfl rfl ?_
      refine v_aload_n dX3_judgeHour_87 rfl 3 rfl ?_
      refine v_get fX3_96 dX3_judgeHour_88 0 rfl rfl ?_
      refine v_vRd (As := [.int (nI ho)]) (rest := []) (c_X0_isMillShort l G c0 o0 nv aCa aTk aGr aGo aWe aDr aEa br du mi am mb oFa oWi oPa oQu oSh hk fl ai rn rf rt (nI ho) ) YX0_isMillShort mX3_183 dX3_judgeHour_91 ciX0 3 rfl [3, 1] rfl rfl rfl (Nat.le_of_ble_eq_true rfl) (by decide) (by decide) ?_
      refine v_if_eq (tgt := 118) dX3_judgeHour_94 (by decide) (fun h94 => ?_) (fun h94 => ?_)
      · skip
        exact v_vretM dX3_judgeHour_118 (v_w6 (fun (z0 : Int32) (z1 : Int32) (z2 : Nat → Int32) (z3 : Nat → Int32) (z4 : Nat → Int32) (z5 : Nat → Int32) => ([(x0, .inr (3, [.ref o0, .ref g0, .ref c0, .ref sA, .int (nI ho), .int (nI de)])), (o0, .inr (2, [.ref oFa, .ref oWi, .ref oPa, .ref oQu, .ref oSh, .int (nI hk), .int fl, .int ai, .int rn, .int rf, .int rt])), (oFa, .inl (G.2.1, 6, .inl (pN fn))), (c0, .inr (0, [.ref o0, .int nv, .ref aCa, .ref aTk, .ref aGr, .ref aGo, .ref aWe, .ref aDr, .ref aEa, .int br, .int du, .int mi, .int am, .int mb])), (aTk, .inl (G.2.1, 6, .inl tk)), (g0, .inr (1, [.ref lH, .ref lS, .ref lW, .ref lT, .int z0, .int z1])), (lH, .inl (G.2.1, 60, .inl z2)), (lS, .inl (G.2.1, 60, .inl z3)), (lW, .inl (G.2.1, 60, .inl z4)), (lT, .inl (G.2.1, 4, .inl z5))] : va_W)) (by simp only [s_mill, if_pos h94, u_id] <;> rfl) (by simp only [s_mill, if_pos h94, u_id] <;> rfl) (by simp only [s_mill, if_pos h94, u_id] <;> rfl) (by simp only [s_mill, if_pos h94, u_id] <;> rfl) (by simp only [s_mill, if_pos h94, u_id] <;> rfl) (by simp only [s_mill, if_pos h94, u_id] <;> rfl))
      · skip
        refine v_aload_n dX3_judgeHour_97 rfl 3 rfl ?_
        refine v_get fX3_19 dX3_judgeHour_98 0 rfl rfl ?_
        refine v_aload_n dX3_judgeHour_101 rfl 3 rfl ?_
        refine v_get fX3_96 dX3_judgeHour_102 0 rfl rfl ?_
        refine v_iconst (v := 2) dX3_judgeHour_105 (by decide) ?_
        refine v_iload_n dX3_judgeHour_106 rfl 1 rfl ?_
        refine v_if_eq (tgt := 114) dX3_judgeHour_107 (by decide) (fun h107 => ?_) (fun h107 => ?_)
        · skip
          refine v_iload_n dX3_judgeHour_114 rfl 2 rfl ?_
          refine v_eqi (s_who (s_jrun tk fn fl ai (nI ho) hk (lh, ls, lw, lt, bn, 0, 0))) (by simp only [s_who, if_pos h107]) ?_
          refine v_vMv (ws' := [(x0, .inr (3, [.ref o0, .ref g0, .ref c0, .ref sA, .int (nI ho), .int (nI de)])), (o0, .inr (2, [.ref oFa, .ref oWi, .ref oPa, .ref oQu, .ref oSh, .int (nI hk), .int fl, .int ai, .int rn, .int rf, .int rt])), (oFa, .inl (G.2.1, 6, .inl (pN fn))), (c0, .inr (0, [.ref o0, .int nv, .ref aCa, .ref aTk, .ref aGr, .ref aGo, .ref aWe, .ref aDr, .ref aEa, .int br, .int du, .int mi, .int am, .int mb])), (aTk, .inl (G.2.1, 6, .inl tk)), (g0, .inr (1, [.ref lH, .ref lS, .ref lW, .ref lT, .int (nI (min ((J_bn (s_jrun tk fn fl ai (nI ho) hk (lh, ls, lw, lt, bn, 0, 0))) + 1) 60)), .int (nI ((J_bn (s_jrun tk fn fl ai (nI ho) hk (lh, ls, lw, lt, bn, 0, 0))) + 1))])), (lH, .inl (G.2.1, 60, .inl (s_ent (J_bn (s_jrun tk fn fl ai (nI ho) hk (lh, ls, lw, lt, bn, 0, 0))) (J_lh (s_jrun tk fn fl ai (nI ho) hk (lh, ls, lw, lt, bn, 0, 0))) (nI ho)))), (lS, .inl (G.2.1, 60, .inl (s_ent (J_bn (s_jrun tk fn fl ai (nI ho) hk (lh, ls, lw, lt, bn, 0, 0))) (J_ls (s_jrun tk fn fl ai (nI ho) hk (lh, ls, lw, lt, bn, 0, 0))) 2))), (lW, .inl (G.2.1, 60, .inl (s_ent (J_bn (s_jrun tk fn fl ai (nI ho) hk (lh, ls, lw, lt, bn, 0, 0))) (J_lw (s_jrun tk fn fl ai (nI ho) hk (lh, ls, lw, lt, bn, 0, 0))) (s_who (s_jrun tk fn fl ai (nI ho) hk (lh, ls, lw, lt, bn, 0, 0)))))), (lT, .inl (G.2.1, 4, .inl (J_lt (s_jrun tk fn fl ai (nI ho) hk (lh, ls, lw, lt, bn, 0, 0)))))]) (As := [.int (nI ho), .int 2, .int (s_who (s_jrun tk fn fl ai (nI ho) hk (lh, ls, lw, lt, bn, 0, 0)))]) (rest := []) (c_X1_enter l G g0 lH lS lW lT (J_bn (s_jrun tk fn fl ai (nI ho) hk (lh, ls, lw, lt, bn, 0, 0))) (J_lh (s_jrun tk fn fl ai (nI ho) hk (lh, ls, lw, lt, bn, 0, 0))) (J_ls (s_jrun tk fn fl ai (nI ho) hk (lh, ls, lw, lt, bn, 0, 0))) (J_lw (s_jrun tk fn fl ai (nI ho) hk (lh, ls, lw, lt, bn, 0, 0))) (nI ho) 2 (s_who (s_jrun tk fn fl ai (nI ho) hk (lh, ls, lw, lt, bn, 0, 0))) (by have := hjb hk; omega)) YX1_enter mX3_186 dX3_judgeHour_115 ciX1 5 rfl [5, 6, 7, 8] (by decide) rfl rfl rfl rfl rfl rfl (Nat.le_of_ble_eq_true rfl) (by decide) (by decide) ?_
          exact v_vretM dX3_judgeHour_118 (v_w6 (fun (z0 : Int32) (z1 : Int32) (z2 : Nat → Int32) (z3 : Nat → Int32) (z4 : Nat → Int32) (z5 : Nat → Int32) => ([(x0, .inr (3, [.ref o0, .ref g0, .ref c0, .ref sA, .int (nI ho), .int (nI de)])), (o0, .inr (2, [.ref oFa, .ref oWi, .ref oPa, .ref oQu, .ref oSh, .int (nI hk), .int fl, .int ai, .int rn, .int rf, .int rt])), (oFa, .inl (G.2.1, 6, .inl (pN fn))), (c0, .inr (0, [.ref o0, .int nv, .ref aCa, .ref aTk, .ref aGr, .ref aGo, .ref aWe, .ref aDr, .ref aEa, .int br, .int du, .int mi, .int am, .int mb])), (aTk, .inl (G.2.1, 6, .inl tk)), (g0, .inr (1, [.ref lH, .ref lS, .ref lW, .ref lT, .int z0, .int z1])), (lH, .inl (G.2.1, 60, .inl z2)), (lS, .inl (G.2.1, 60, .inl z3)), (lW, .inl (G.2.1, 60, .inl z4)), (lT, .inl (G.2.1, 4, .inl z5))] : va_W)) (by simp only [s_mill, if_neg h94, if_pos h107, u_id] <;> rfl) (by simp only [s_mill, if_neg h94, if_pos h107, u_id] <;> rfl) (by simp only [s_mill, if_neg h94, if_pos h107, u_id] <;> rfl) (by simp only [s_mill, if_neg h94, if_pos h107, u_id] <;> rfl) (by simp only [s_mill, if_neg h94, if_pos h107, u_id] <;> rfl) (by simp only [s_mill, if_neg h94, if_pos h107, u_id] <;> rfl))
        · skip
          refine v_iload_n dX3_judgeHour_110 rfl 1 rfl ?_
          refine v_goto (tgt := 115) dX3_judgeHour_111 (by decide) ?_
          refine v_eqi (s_who (s_jrun tk fn fl ai (nI ho) hk (lh, ls, lw, lt, bn, 0, 0))) (by simp only [s_who, if_neg h107]) ?_
          refine v_vMv (ws' := [(x0, .inr (3, [.ref o0, .ref g0, .ref c0, .ref sA, .int (nI ho), .int (nI de)])), (o0, .inr (2, [.ref oFa, .ref oWi, .ref oPa, .ref oQu, .ref oSh, .int (nI hk), .int fl, .int ai, .int rn, .int rf, .int rt])), (oFa, .inl (G.2.1, 6, .inl (pN fn))), (c0, .inr (0, [.ref o0, .int nv, .ref aCa, .ref aTk, .ref aGr, .ref aGo, .ref aWe, .ref aDr, .ref aEa, .int br, .int du, .int mi, .int am, .int mb])), (aTk, .inl (G.2.1, 6, .inl tk)), (g0, .inr (1, [.ref lH, .ref lS, .ref lW, .ref lT, .int (nI (min ((J_bn (s_jrun tk fn fl ai (nI ho) hk (lh, ls, lw, lt, bn, 0, 0))) + 1) 60)), .int (nI ((J_bn (s_jrun tk fn fl ai (nI ho) hk (lh, ls, lw, lt, bn, 0, 0))) + 1))])), (lH, .inl (G.2.1, 60, .inl (s_ent (J_bn (s_jrun tk fn fl ai (nI ho) hk (lh, ls, lw, lt, bn, 0, 0))) (J_lh (s_jrun tk fn fl ai (nI ho) hk (lh, ls, lw, lt, bn, 0, 0))) (nI ho)))), (lS, .inl (G.2.1, 60, .inl (s_ent (J_bn (s_jrun tk fn fl ai (nI ho) hk (lh, ls, lw, lt, bn, 0, 0))) (J_ls (s_jrun tk fn fl ai (nI ho) hk (lh, ls, lw, lt, bn, 0, 0))) 2))), (lW, .inl (G.2.1, 60, .inl (s_ent (J_bn (s_jrun tk fn fl ai (nI ho) hk (lh, ls, lw, lt, bn, 0, 0))) (J_lw (s_jrun tk fn fl ai (nI ho) hk (lh, ls, lw, lt, bn, 0, 0))) (s_who (s_jrun tk fn fl ai (nI ho) hk (lh, ls, lw, lt, bn, 0, 0)))))), (lT, .inl (G.2.1, 4, .inl (J_lt (s_jrun tk fn fl ai (nI ho) hk (lh, ls, lw, lt, bn, 0, 0)))))]) (As := [.int (nI ho), .int 2, .int (s_who (s_jrun tk fn fl ai (nI ho) hk (lh, ls, lw, lt, bn, 0, 0)))]) (rest := []) (c_X1_enter l G g0 lH lS lW lT (J_bn (s_jrun tk fn fl ai (nI ho) hk (lh, ls, lw, lt, bn, 0, 0))) (J_lh (s_jrun tk fn fl ai (nI ho) hk (lh, ls, lw, lt, bn, 0, 0))) (J_ls (s_jrun tk fn fl ai (nI ho) hk (lh, ls, lw, lt, bn, 0, 0))) (J_lw (s_jrun tk fn fl ai (nI ho) hk (lh, ls, lw, lt, bn, 0, 0))) (nI ho) 2 (s_who (s_jrun tk fn fl ai (nI ho) hk (lh, ls, lw, lt, bn, 0, 0))) (by have := hjb hk; omega)) YX1_enter mX3_186 dX3_judgeHour_115 ciX1 5 rfl [5, 6, 7, 8] (by decide) rfl rfl rfl rfl rfl rfl (Nat.le_of_ble_eq_true rfl) (by decide) (by decide) ?_
          exact v_vretM dX3_judgeHour_118 (v_w6 (fun (z0 : Int32) (z1 : Int32) (z2 : Nat → Int32) (z3 : Nat → Int32) (z4 : Nat → Int32) (z5 : Nat → Int32) => ([(x0, .inr (3, [.ref o0, .ref g0, .ref c0, .ref sA, .int (nI ho), .int (nI de)])), (o0, .inr (2, [.ref oFa, .ref oWi, .ref oPa, .ref oQu, .ref oSh, .int (nI hk), .int fl, .int ai, .int rn, .int rf, .int rt])), (oFa, .inl (G.2.1, 6, .inl (pN fn))), (c0, .inr (0, [.ref o0, .int nv, .ref aCa, .ref aTk, .ref aGr, .ref aGo, .ref aWe, .ref aDr, .ref aEa, .int br, .int du, .int mi, .int am, .int mb])), (aTk, .inl (G.2.1, 6, .inl tk)), (g0, .inr (1, [.ref lH, .ref lS, .ref lW, .ref lT, .int z0, .int z1])), (lH, .inl (G.2.1, 60, .inl z2)), (lS, .inl (G.2.1, 60, .inl z3)), (lW, .inl (G.2.1, 60, .inl z4)), (lT, .inl (G.2.1, 4, .inl z5))] : va_W)) (by simp only [s_mill, if_neg h94, if_neg h107, u_id] <;> rfl) (by simp only [s_mill, if_neg h94, if_neg h107, u_id] <;> rfl) (by simp only [s_mill, if_neg h94, if_neg h107, u_id] <;> rfl) (by simp only [s_mill, if_neg h94, if_neg h107, u_id] <;> rfl) (by simp only [s_mill, if_neg h94, if_neg h107, u_id] <;> rfl) (by simp only [s_mill, if_neg h94, if_neg h107, u_id] <;> rfl))
    | succ k6 ih6 =>
      intro i hi6
      refine v_iload_n dX3_judgeHour_6 rfl 0 rfl ?_
      refine v_aload_n dX3_judgeHour_7 rfl 3 rfl ?_
      refine v_get fX3_10 dX3_judgeHour_8 0 rfl rfl ?_
      refine v_get fX3_40 dX3_judgeHour_11 1 rfl rfl ?_
      refine v_icmp_ge (tgt := 83) dX3_judgeHour_14 (by decide) (fun h14 => absurd h14 (nI_ge (by omega) (by omega))) (fun h14 => ?_)
      refine v_aload_n dX3_judgeHour_17 rfl 3 rfl ?_
      refine v_get fX3_28 dX3_judgeHour_18 0 rfl rfl ?_
      refine v_get fX3_114 dX3_judgeHour_21 3 rfl rfl ?_
      refine v_iload_n dX3_judgeHour_24 rfl 0 rfl ?_
      refine v_iald dX3_judgeHour_25 4 rfl i rfl (by omega) (by decide) ?_
      refine v_if_le (tgt := 77) dX3_judgeHour_26 (by decide) (fun h26 => ?_) (fun h26 => ?_)
      · skip
        refine v_iinc (v := nI i + 1) (q := 0) (lv' := [(3, .int (nI i + 1)), (2, .int (J_br (s_jrun tk fn fl ai (nI ho) i (lh, ls, lw, lt, bn, 0, 0)))), (1, .int (J_ta (s_jrun tk fn fl ai (nI ho) i (lh, ls, lw, lt, bn, 0, 0)))), (0, .ref x0)]) dX3_judgeHour_77 rfl rfl (by decide) rfl ?_
        refine v_goto (tgt := 6) dX3_judgeHour_80 (by decide) ?_
        refine v_world (ws' := [(x0, .inr (3, [.ref o0, .ref g0, .ref c0, .ref sA, .int (nI ho), .int (nI de)])), (o0, .inr (2, [.ref oFa, .ref oWi, .ref oPa, .ref oQu, .ref oSh, .int (nI hk), .int fl, .int ai, .int rn, .int rf, .int rt])), (oFa, .inl (G.2.1, 6, .inl (pN fn))), (c0, .inr (0, [.ref o0, .int nv, .ref aCa, .ref aTk, .ref aGr, .ref aGo, .ref aWe, .ref aDr, .ref aEa, .int br, .int du, .int mi, .int am, .int mb])), (aTk, .inl (G.2.1, 6, .inl tk)), (g0, .inr (1, [.ref lH, .ref lS, .ref lW, .ref lT, .int (nI (min (J_bn (s_jrun tk fn fl ai (nI ho) (i + 1) (lh, ls, lw, lt, bn, 0, 0))) 60)), .int (nI (J_bn (s_jrun tk fn fl ai (nI ho) (i + 1) (lh, ls, lw, lt, bn, 0, 0))))])), (lH, .inl (G.2.1, 60, .inl (J_lh (s_jrun tk fn fl ai (nI ho) (i + 1) (lh, ls, lw, lt, bn, 0, 0))))), (lS, .inl (G.2.1, 60, .inl (J_ls (s_jrun tk fn fl ai (nI ho) (i + 1) (lh, ls, lw, lt, bn, 0, 0))))), (lW, .inl (G.2.1, 60, .inl (J_lw (s_jrun tk fn fl ai (nI ho) (i + 1) (lh, ls, lw, lt, bn, 0, 0))))), (lT, .inl (G.2.1, 4, .inl (J_lt (s_jrun tk fn fl ai (nI ho) (i + 1) (lh, ls, lw, lt, bn, 0, 0)))))]) (v_w6 (fun (z0 : Int32) (z1 : Int32) (z2 : Nat → Int32) (z3 : Nat → Int32) (z4 : Nat → Int32) (z5 : Nat → Int32) => ([(x0, .inr (3, [.ref o0, .ref g0, .ref c0, .ref sA, .int (nI ho), .int (nI de)])), (o0, .inr (2, [.ref oFa, .ref oWi, .ref oPa, .ref oQu, .ref oSh, .int (nI hk), .int fl, .int ai, .int rn, .int rf, .int rt])), (oFa, .inl (G.2.1, 6, .inl (pN fn))), (c0, .inr (0, [.ref o0, .int nv, .ref aCa, .ref aTk, .ref aGr, .ref aGo, .ref aWe, .ref aDr, .ref aEa, .int br, .int du, .int mi, .int am, .int mb])), (aTk, .inl (G.2.1, 6, .inl tk)), (g0, .inr (1, [.ref lH, .ref lS, .ref lW, .ref lT, .int z0, .int z1])), (lH, .inl (G.2.1, 60, .inl z2)), (lS, .inl (G.2.1, 60, .inl z3)), (lW, .inl (G.2.1, 60, .inl z4)), (lT, .inl (G.2.1, 4, .inl z5))] : va_W)) (by simp only [s_jrun, s_jst, if_pos h26] <;> rfl) (by simp only [s_jrun, s_jst, if_pos h26] <;> rfl) (by simp only [s_jrun, s_jst, if_pos h26] <;> rfl) (by simp only [s_jrun, s_jst, if_pos h26] <;> rfl) (by simp only [s_jrun, s_jst, if_pos h26] <;> rfl) (by simp only [s_jrun, s_jst, if_pos h26] <;> rfl)) ?_
        refine v_lveq (lv' := [(3, .int (nI (i + 1))), (2, .int (J_br (s_jrun tk fn fl ai (nI ho) (i + 1) (lh, ls, lw, lt, bn, 0, 0)))), (1, .int (J_ta (s_jrun tk fn fl ai (nI ho) (i + 1) (lh, ls, lw, lt, bn, 0, 0)))), (0, .ref x0)]) (v_l3 (fun (z0 : Int32) (z1 : Int32) (z2 : Int32) => ([(3, .int z0), (2, .int z1), (1, .int z2), (0, .ref x0)] : List (Nat × Value))) (nI_1 i) (by simp only [s_jrun, s_jst, if_pos h26] <;> rfl) (by simp only [s_jrun, s_jst, if_pos h26] <;> rfl)) ?_
        exact ih6 (i + 1) (by omega)
      · skip
        refine v_iload_n dX3_judgeHour_29 rfl 2 rfl ?_
        refine v_iconst (v := 1) dX3_judgeHour_30 (by decide) ?_
        refine v_iload_n dX3_judgeHour_31 rfl 0 rfl ?_
        refine v_ishl dX3_judgeHour_32 ?_
        refine v_ior dX3_judgeHour_33 ?_
        refine v_istore_n (lv' := [(1, .int ((J_ta (s_jrun tk fn fl ai (nI ho) i (lh, ls, lw, lt, bn, 0, 0))) ||| (1 <<< (nI i &&& 31)))), (3, .int (nI i)), (2, .int (J_br (s_jrun tk fn fl ai (nI ho) i (lh, ls, lw, lt, bn, 0, 0)))), (0, .ref x0)]) dX3_judgeHour_34 rfl (by decide) rfl ?_
        refine v_aload_n dX3_judgeHour_35 rfl 3 rfl ?_
        refine v_get fX3_10 dX3_judgeHour_36 0 rfl rfl ?_
        refine v_iload_n dX3_judgeHour_39 rfl 1 rfl ?_
        refine v_aload_n dX3_judgeHour_40 rfl 3 rfl ?_
        refine v_get fX3_96 dX3_judgeHour_41 0 rfl rfl ?_
        refine v_vRd (As := [.int (nI i), .int (nI ho)]) (rest := []) (c_X2_isOutOfTurn l G o0 oFa oWi oPa oQu oSh hk fl ai rn rf rt (pN fn) i (nI ho) (by omega)) YX2_isOutOfTurn mX3_176 dX3_judgeHour_44 ciX2 1 rfl [1, 2] rfl rfl rfl (Nat.le_of_ble_eq_true rfl) (by decide) (by decide) ?_
        refine v_eqi (s_out (nI (fn i)) fl ai (nI ho)) rfl ?_
        refine v_if_eq (tgt := 77) dX3_judgeHour_47 (by decide) (fun h47 => ?_) (fun h47 => ?_)
        · skip
          refine v_iinc (v := nI i + 1) (q := 1) (lv' := [(3, .int (nI i + 1)), (1, .int ((J_ta (s_jrun tk fn fl ai (nI ho) i (lh, ls, lw, lt, bn, 0, 0))) ||| (1 <<< (nI i &&& 31)))), (2, .int (J_br (s_jrun tk fn fl ai (nI ho) i (lh, ls, lw, lt, bn, 0, 0)))), (0, .ref x0)]) dX3_judgeHour_77 rfl rfl (by decide) rfl ?_
          refine v_goto (tgt := 6) dX3_judgeHour_80 (by decide) ?_
          refine v_world (ws' := [(x0, .inr (3, [.ref o0, .ref g0, .ref c0, .ref sA, .int (nI ho), .int (nI de)])), (o0, .inr (2, [.ref oFa, .ref oWi, .ref oPa, .ref oQu, .ref oSh, .int (nI hk), .int fl, .int ai, .int rn, .int rf, .int rt])), (oFa, .inl (G.2.1, 6, .inl (pN fn))), (c0, .inr (0, [.ref o0, .int nv, .ref aCa, .ref aTk, .ref aGr, .ref aGo, .ref aWe, .ref aDr, .ref aEa, .int br, .int du, .int mi, .int am, .int mb])), (aTk, .inl (G.2.1, 6, .inl tk)), (g0, .inr (1, [.ref lH, .ref lS, .ref lW, .ref lT, .int (nI (min (J_bn (s_jrun tk fn fl ai (nI ho) (i + 1) (lh, ls, lw, lt, bn, 0, 0))) 60)), .int (nI (J_bn (s_jrun tk fn fl ai (nI ho) (i + 1) (lh, ls, lw, lt, bn, 0, 0))))])), (lH, .inl (G.2.1, 60, .inl (J_lh (s_jrun tk fn fl ai (nI ho) (i + 1) (lh, ls, lw, lt, bn, 0, 0))))), (lS, .inl (G.2.1, 60, .inl (J_ls (s_jrun tk fn fl ai (nI ho) (i + 1) (lh, ls, lw, lt, bn, 0, 0))))), (lW, .inl (G.2.1, 60, .inl (J_lw (s_jrun tk fn fl ai (nI ho) (i + 1) (lh, ls, lw, lt, bn, 0, 0))))), (lT, .inl (G.2.1, 4, .inl (J_lt (s_jrun tk fn fl ai (nI ho) (i + 1) (lh, ls, lw, lt, bn, 0, 0)))))]) (v_w6 (fun (z0 : Int32) (z1 : Int32) (z2 : Nat → Int32) (z3 : Nat → Int32) (z4 : Nat → Int32) (z5 : Nat → Int32) => ([(x0, .inr (3, [.ref o0, .ref g0, .ref c0, .ref sA, .int (nI ho), .int (nI de)])), (o0, .inr (2, [.ref oFa, .ref oWi, .ref oPa, .ref oQu, .ref oSh, .int (nI hk), .int fl, .int ai, .int rn, .int rf, .int rt])), (oFa, .inl (G.2.1, 6, .inl (pN fn))), (c0, .inr (0, [.ref o0, .int nv, .ref aCa, .ref aTk, .ref aGr, .ref aGo, .ref aWe, .ref aDr, .ref aEa, .int br, .int du, .int mi, .int am, .int mb])), (aTk, .inl (G.2.1, 6, .inl tk)), (g0, .inr (1, [.ref lH, .ref lS, .ref lW, .ref lT, .int z0, .int z1])), (lH, .inl (G.2.1, 60, .inl z2)), (lS, .inl (G.2.1, 60, .inl z3)), (lW, .inl (G.2.1, 60, .inl z4)), (lT, .inl (G.2.1, 4, .inl z5))] : va_W)) (by simp only [s_jrun, s_jst, if_neg h26, if_pos h47] <;> rfl) (by simp only [s_jrun, s_jst, if_neg h26, if_pos h47] <;> rfl) (by simp only [s_jrun, s_jst, if_neg h26, if_pos h47] <;> rfl) (by simp only [s_jrun, s_jst, if_neg h26, if_pos h47] <;> rfl) (by simp only [s_jrun, s_jst, if_neg h26, if_pos h47] <;> rfl) (by simp only [s_jrun, s_jst, if_neg h26, if_pos h47] <;> rfl)) ?_
          refine v_locals (lv' := [(3, .int (nI i + 1)), (2, .int (J_br (s_jrun tk fn fl ai (nI ho) i (lh, ls, lw, lt, bn, 0, 0)))), (1, .int ((J_ta (s_jrun tk fn fl ai (nI ho) i (lh, ls, lw, lt, bn, 0, 0))) ||| (1 <<< (nI i &&& 31)))), (0, .ref x0)]) [0, 2, 1, 3] rfl ?_
          refine v_lveq (lv' := [(3, .int (nI (i + 1))), (2, .int (J_br (s_jrun tk fn fl ai (nI ho) (i + 1) (lh, ls, lw, lt, bn, 0, 0)))), (1, .int (J_ta (s_jrun tk fn fl ai (nI ho) (i + 1) (lh, ls, lw, lt, bn, 0, 0)))), (0, .ref x0)]) (v_l3 (fun (z0 : Int32) (z1 : Int32) (z2 : Int32) => ([(3, .int z0), (2, .int z1), (1, .int z2), (0, .ref x0)] : List (Nat × Value))) (nI_1 i) (by simp only [s_jrun, s_jst, if_neg h26, if_pos h47] <;> rfl) (by simp only [s_jrun, s_jst, if_neg h26, if_pos h47] <;> rfl)) ?_
          exact ih6 (i + 1) (by omega)
        · skip
          refine v_iload_n dX3_judgeHour_50 rfl 2 rfl ?_
          refine v_iconst (v := 1) dX3_judgeHour_51 (by decide) ?_
          refine v_iload_n dX3_judgeHour_52 rfl 1 rfl ?_
          refine v_ishl dX3_judgeHour_53 ?_
          refine v_ior dX3_judgeHour_54 ?_
          refine v_istore_n (lv' := [(2, .int ((J_br (s_jrun tk fn fl ai (nI ho) i (lh, ls, lw, lt, bn, 0, 0))) ||| (1 <<< (nI i &&& 31)))), (1, .int ((J_ta (s_jrun tk fn fl ai (nI ho) i (lh, ls, lw, lt, bn, 0, 0))) ||| (1 <<< (nI i &&& 31)))), (3, .int (nI i)), (0, .ref x0)]) dX3_judgeHour_55 rfl (by decide) rfl ?_
          refine v_aload_n dX3_judgeHour_56 rfl 3 rfl ?_
          refine v_get fX3_19 dX3_judgeHour_57 0 rfl rfl ?_
          refine v_aload_n dX3_judgeHour_60 rfl 3 rfl ?_
          refine v_get fX3_96 dX3_judgeHour_61 0 rfl rfl ?_
          refine v_iload_n dX3_judgeHour_64 rfl 2 rfl ?_
          refine v_aload_n dX3_judgeHour_65 rfl 3 rfl ?_
          refine v_get fX3_10 dX3_judgeHour_66 0 rfl rfl ?_
          refine v_get fX3_102 dX3_judgeHour_69 1 rfl rfl ?_
          refine v_iload_n dX3_judgeHour_72 rfl 2 rfl ?_
          refine v_iald dX3_judgeHour_73 2 rfl i rfl (by omega) (by decide) ?_
          refine v_eqi (nI (fn i)) rfl ?_
          refine v_vMv (ws' := [(x0, .inr (3, [.ref o0, .ref g0, .ref c0, .ref sA, .int (nI ho), .int (nI de)])), (o0, .inr (2, [.ref oFa, .ref oWi, .ref oPa, .ref oQu, .ref oSh, .int (nI hk), .int fl, .int ai, .int rn, .int rf, .int rt])), (oFa, .inl (G.2.1, 6, .inl (pN fn))), (c0, .inr (0, [.ref o0, .int nv, .ref aCa, .ref aTk, .ref aGr, .ref aGo, .ref aWe, .ref aDr, .ref aEa, .int br, .int du, .int mi, .int am, .int mb])), (aTk, .inl (G.2.1, 6, .inl tk)), (g0, .inr (1, [.ref lH, .ref lS, .ref lW, .ref lT, .int (nI (min ((J_bn (s_jrun tk fn fl ai (nI ho) i (lh, ls, lw, lt, bn, 0, 0))) + 1) 60)), .int (nI ((J_bn (s_jrun tk fn fl ai (nI ho) i (lh, ls, lw, lt, bn, 0, 0))) + 1))])), (lH, .inl (G.2.1, 60, .inl (s_ent (J_bn (s_jrun tk fn fl ai (nI ho) i (lh, ls, lw, lt, bn, 0, 0))) (J_lh (s_jrun tk fn fl ai (nI ho) i (lh, ls, lw, lt, bn, 0, 0))) (nI ho)))), (lS, .inl (G.2.1, 60, .inl (s_ent (J_bn (s_jrun tk fn fl ai (nI ho) i (lh, ls, lw, lt, bn, 0, 0))) (J_ls (s_jrun tk fn fl ai (nI ho) i (lh, ls, lw, lt, bn, 0, 0))) 1))), (lW, .inl (G.2.1, 60, .inl (s_ent (J_bn (s_jrun tk fn fl ai (nI ho) i (lh, ls, lw, lt, bn, 0, 0))) (J_lw (s_jrun tk fn fl ai (nI ho) i (lh, ls, lw, lt, bn, 0, 0))) (nI i)))), (lT, .inl (G.2.1, 4, .inl (upd (J_lt (s_jrun tk fn fl ai (nI ho) i (lh, ls, lw, lt, bn, 0, 0))) (fn i) ((J_lt (s_jrun tk fn fl ai (nI ho) i (lh, ls, lw, lt, bn, 0, 0))) (fn i) + 1))))]) (As := [.int (nI ho), .int (nI i), .int (nI (fn i))]) (rest := []) (c_X1_enterTurn l G g0 lH lS lW lT (J_bn (s_jrun tk fn fl ai (nI ho) i (lh, ls, lw, lt, bn, 0, 0))) (J_lh (s_jrun tk fn fl ai (nI ho) i (lh, ls, lw, lt, bn, 0, 0))) (J_ls (s_jrun tk fn fl ai (nI ho) i (lh, ls, lw, lt, bn, 0, 0))) (J_lw (s_jrun tk fn fl ai (nI ho) i (lh, ls, lw, lt, bn, 0, 0))) (J_lt (s_jrun tk fn fl ai (nI ho) i (lh, ls, lw, lt, bn, 0, 0))) (nI ho) (nI i) (fn i) (by have := hjb i; omega) (hfn i (by omega))) YX1_enterTurn mX3_179 dX3_judgeHour_74 ciX1 5 rfl [5, 6, 7, 8, 9] (by decide) rfl rfl rfl rfl rfl rfl (Nat.le_of_ble_eq_true rfl) (by decide) (by decide) ?_
          refine v_iinc (v := nI i + 1) (q := 2) (lv' := [(3, .int (nI i + 1)), (2, .int ((J_br (s_jrun tk fn fl ai (nI ho) i (lh, ls, lw, lt, bn, 0, 0))) ||| (1 <<< (nI i &&& 31)))), (1, .int ((J_ta (s_jrun tk fn fl ai (nI ho) i (lh, ls, lw, lt, bn, 0, 0))) ||| (1 <<< (nI i &&& 31)))), (0, .ref x0)]) dX3_judgeHour_77 rfl rfl (by decide) rfl ?_
          refine v_goto (tgt := 6) dX3_judgeHour_80 (by decide) ?_
          refine v_world (ws' := [(x0, .inr (3, [.ref o0, .ref g0, .ref c0, .ref sA, .int (nI ho), .int (nI de)])), (o0, .inr (2, [.ref oFa, .ref oWi, .ref oPa, .ref oQu, .ref oSh, .int (nI hk), .int fl, .int ai, .int rn, .int rf, .int rt])), (oFa, .inl (G.2.1, 6, .inl (pN fn))), (c0, .inr (0, [.ref o0, .int nv, .ref aCa, .ref aTk, .ref aGr, .ref aGo, .ref aWe, .ref aDr, .ref aEa, .int br, .int du, .int mi, .int am, .int mb])), (aTk, .inl (G.2.1, 6, .inl tk)), (g0, .inr (1, [.ref lH, .ref lS, .ref lW, .ref lT, .int (nI (min (J_bn (s_jrun tk fn fl ai (nI ho) (i + 1) (lh, ls, lw, lt, bn, 0, 0))) 60)), .int (nI (J_bn (s_jrun tk fn fl ai (nI ho) (i + 1) (lh, ls, lw, lt, bn, 0, 0))))])), (lH, .inl (G.2.1, 60, .inl (J_lh (s_jrun tk fn fl ai (nI ho) (i + 1) (lh, ls, lw, lt, bn, 0, 0))))), (lS, .inl (G.2.1, 60, .inl (J_ls (s_jrun tk fn fl ai (nI ho) (i + 1) (lh, ls, lw, lt, bn, 0, 0))))), (lW, .inl (G.2.1, 60, .inl (J_lw (s_jrun tk fn fl ai (nI ho) (i + 1) (lh, ls, lw, lt, bn, 0, 0))))), (lT, .inl (G.2.1, 4, .inl (J_lt (s_jrun tk fn fl ai (nI ho) (i + 1) (lh, ls, lw, lt, bn, 0, 0)))))]) (v_w6 (fun (z0 : Int32) (z1 : Int32) (z2 : Nat → Int32) (z3 : Nat → Int32) (z4 : Nat → Int32) (z5 : Nat → Int32) => ([(x0, .inr (3, [.ref o0, .ref g0, .ref c0, .ref sA, .int (nI ho), .int (nI de)])), (o0, .inr (2, [.ref oFa, .ref oWi, .ref oPa, .ref oQu, .ref oSh, .int (nI hk), .int fl, .int ai, .int rn, .int rf, .int rt])), (oFa, .inl (G.2.1, 6, .inl (pN fn))), (c0, .inr (0, [.ref o0, .int nv, .ref aCa, .ref aTk, .ref aGr, .ref aGo, .ref aWe, .ref aDr, .ref aEa, .int br, .int du, .int mi, .int am, .int mb])), (aTk, .inl (G.2.1, 6, .inl tk)), (g0, .inr (1, [.ref lH, .ref lS, .ref lW, .ref lT, .int z0, .int z1])), (lH, .inl (G.2.1, 60, .inl z2)), (lS, .inl (G.2.1, 60, .inl z3)), (lW, .inl (G.2.1, 60, .inl z4)), (lT, .inl (G.2.1, 4, .inl z5))] : va_W)) (by simp only [s_jrun, s_jst, if_neg h26, if_neg h47] <;> rfl) (by simp only [s_jrun, s_jst, if_neg h26, if_neg h47] <;> rfl) (by simp only [s_jrun, s_jst, if_neg h26, if_neg h47] <;> rfl) (by simp only [s_jrun, s_jst, if_neg h26, if_neg h47] <;> rfl) (by simp only [s_jrun, s_jst, if_neg h26, if_neg h47] <;> rfl) (by simp only [s_jrun, s_jst, if_neg h26, if_neg h47] <;> rfl)) ?_
          refine v_lveq (lv' := [(3, .int (nI (i + 1))), (2, .int (J_br (s_jrun tk fn fl ai (nI ho) (i + 1) (lh, ls, lw, lt, bn, 0, 0)))), (1, .int (J_ta (s_jrun tk fn fl ai (nI ho) (i + 1) (lh, ls, lw, lt, bn, 0, 0)))), (0, .ref x0)]) (v_l3 (fun (z0 : Int32) (z1 : Int32) (z2 : Int32) => ([(3, .int z0), (2, .int z1), (1, .int z2), (0, .ref x0)] : List (Nat × Value))) (nI_1 i) (by simp only [s_jrun, s_jst, if_neg h26, if_neg h47] <;> rfl) (by simp only [s_jrun, s_jst, if_neg h26, if_neg h47] <;> rfl)) ?_
          exact ih6 (i + 1) (by omega)
  refine v_world (ws' := [(x0, .inr (3, [.ref o0, .ref g0, .ref c0, .ref sA, .int (nI ho), .int (nI de)])), (o0, .inr (2, [.ref oFa, .ref oWi, .ref oPa, .ref oQu, .ref oSh, .int (nI hk), .int fl, .int ai, .int rn, .int rf, .int rt])), (oFa, .inl (G.2.1, 6, .inl (pN fn))), (c0, .inr (0, [.ref o0, .int nv, .ref aCa, .ref aTk, .ref aGr, .ref aGo, .ref aWe, .ref aDr, .ref aEa, .int br, .int du, .int mi, .int am, .int mb])), (aTk, .inl (G.2.1, 6, .inl tk)), (g0, .inr (1, [.ref lH, .ref lS, .ref lW, .ref lT, .int (nI (min (J_bn (s_jrun tk fn fl ai (nI ho) 0 (lh, ls, lw, lt, bn, 0, 0))) 60)), .int (nI (J_bn (s_jrun tk fn fl ai (nI ho) 0 (lh, ls, lw, lt, bn, 0, 0))))])), (lH, .inl (G.2.1, 60, .inl (J_lh (s_jrun tk fn fl ai (nI ho) 0 (lh, ls, lw, lt, bn, 0, 0))))), (lS, .inl (G.2.1, 60, .inl (J_ls (s_jrun tk fn fl ai (nI ho) 0 (lh, ls, lw, lt, bn, 0, 0))))), (lW, .inl (G.2.1, 60, .inl (J_lw (s_jrun tk fn fl ai (nI ho) 0 (lh, ls, lw, lt, bn, 0, 0))))), (lT, .inl (G.2.1, 4, .inl (J_lt (s_jrun tk fn fl ai (nI ho) 0 (lh, ls, lw, lt, bn, 0, 0)))))]) rfl ?_
  refine v_lveq (lv' := [(3, .int (nI 0)), (2, .int (J_br (s_jrun tk fn fl ai (nI ho) 0 (lh, ls, lw, lt, bn, 0, 0)))), (1, .int (J_ta (s_jrun tk fn fl ai (nI ho) 0 (lh, ls, lw, lt, bn, 0, 0)))), (0, .ref x0)]) (v_l3 (fun (z0 : Int32) (z1 : Int32) (z2 : Int32) => ([(3, .int z0), (2, .int z1), (1, .int z2), (0, .ref x0)] : List (Nat × Value))) nI_0.symm rfl rfl) ?_
  exact loop6 hk 0 (by omega)
end
section
set_option maxRecDepth 100000 in
set_option maxHeartbeats 4000000 in
theorem c_X3_advance (l : Launch) (G : v_Cfg) (x0 : Nat) (o0 : Nat) (g0 : Nat) (sA : Nat) (ho : Nat) (de : Nat) (oFa : Nat) (oWi : Nat) (oPa : Nat) (oQu : Nat) (oSh : Nat) (hk : Nat) (fl : Int32) (ai : Int32) (rn : Int32) (rf : Int32) (rt : Int32) (lH : Nat) (lS : Nat) (lW : Nat) (lT : Nat) (bn : Nat) (ad : Nat → Nat → Nat) (wi : Nat → Int32) (qu : Nat → Int32) (sh : Nat → Int32) (lh : Nat → Int32) (ls : Nat → Int32) (lw : Nat → Int32) (lt : Nat → Int32) (fn : Nat → Nat) (pn : Nat → Nat) (cs : Nat → CS) (hk6 : hk ≤ 6) (hpn : ∀ h, h < hk → 1 ≤ pn h ∧ pn h ≤ 4) (hfn : ∀ h, h < hk → fn h < 4) (hbn : bn < 900000) : MuV l G yX3_advance cX3_advance 2 none 4 [.ref x0] [(x0, .inr (3, [.ref o0, .ref g0, .ref (ad 0 0), .ref sA, .int (nI ho), .int (nI de)])), (o0, .inr (2, [.ref oFa, .ref oWi, .ref oPa, .ref oQu, .ref oSh, .int (nI hk), .int fl, .int ai, .int rn, .int rf, .int rt])), (oFa, .inl (G.2.1, 6, .inl (pN fn))), (oWi, .inl (G.2.1, 6, .inl wi)), (oPa, .inl (G.2.1, 6, .inl (pN pn))), (oQu, .inl (G.2.1, 6, .inl qu)), (oSh, .inl (G.2.1, 24, .inl sh)), (g0, .inr (1, [.ref lH, .ref lS, .ref lW, .ref lT, .int (nI (min bn 60)), .int (nI bn)])), (lH, .inl (G.2.1, 60, .inl lh)), (lS, .inl (G.2.1, 60, .inl ls)), (lW, .inl (G.2.1, 60, .inl lw)), (lT, .inl (G.2.1, 4, .inl lt)), (sA, .inl (G.2.2, 6, .inr (.inr (.inr (.inr (fun i => some (ad (i + 1) 0))))))), (ad 0 0, .inr (0, [.ref o0, .int (nvF 0), .ref (ad 0 1), .ref (ad 0 2), .ref (ad 0 3), .ref (ad 0 4), .ref (ad 0 5), .ref (ad 0 6), .ref (ad 0 7), .int (C_br (cs 0)), .int (C_du (cs 0)), .int (C_mi (cs 0)), .int (C_am (cs 0)), .int (C_mb (cs 0))])), (ad 0 1, .inl (G.2.1, 6, .inl (C_ca (cs 0)))), (ad 0 2, .inl (G.2.1, 6, .inl (C_tk (cs 0)))), (ad 0 3, .inl (G.2.1, 24, .inl (C_gr (cs 0)))), (ad 0 4, .inl (G.2.1, 24, .inl (C_go (cs 0)))), (ad 0 5, .inl (G.2.1, 24, .inl (C_we (cs 0)))), (ad 0 6, .inl (G.2.1, 24, .inl (C_dr (cs 0)))), (ad 0 7, .inl (G.2.1, 24, .inl (C_ea (cs 0)))), (ad 1 0, .inr (0, [.ref o0, .int (nvF 1), .ref (ad 1 1), .ref (ad 1 2), .ref (ad 1 3), .ref (ad 1 4), .ref (ad 1 5), .ref (ad 1 6), .ref (ad 1 7), .int (C_br (cs 1)), .int (C_du (cs 1)), .int (C_mi (cs 1)), .int (C_am (cs 1)), .int (C_mb (cs 1))])), (ad 1 1, .inl (G.2.1, 6, .inl (C_ca (cs 1)))), (ad 1 2, .inl (G.2.1, 6, .inl (C_tk (cs 1)))), (ad 1 3, .inl (G.2.1, 24, .inl (C_gr (cs 1)))), (ad 1 4, .inl (G.2.1, 24, .inl (C_go (cs 1)))), (ad 1 5, .inl (G.2.1, 24, .inl (C_we (cs 1)))), (ad 1 6, .inl (G.2.1, 24, .inl (C_dr (cs 1)))), (ad 1 7, .inl (G.2.1, 24, .inl (C_ea (cs 1)))), (ad 2 0, .inr (0, [.ref o0, .int (nvF 2), .ref (ad 2 1), .ref (ad 2 2), .ref (ad 2 3), .ref (ad 2 4), .ref (ad 2 5), .ref (ad 2 6), .ref (ad 2 7), .int (C_br (cs 2)), .int (C_du (cs 2)), .int (C_mi (cs 2)), .int (C_am (cs 2)), .int (C_mb (cs 2))])), (ad 2 1, .inl (G.2.1, 6, .inl (C_ca (cs 2)))), (ad 2 2, .inl (G.2.1, 6, .inl (C_tk (cs 2)))), (ad 2 3, .inl (G.2.1, 24, .inl (C_gr (cs 2)))), (ad 2 4, .inl (G.2.1, 24, .inl (C_go (cs 2)))), (ad 2 5, .inl (G.2.1, 24, .inl (C_we (cs 2)))), (ad 2 6, .inl (G.2.1, 24, .inl (C_dr (cs 2)))), (ad 2 7, .inl (G.2.1, 24, .inl (C_ea (cs 2)))), (ad 3 0, .inr (0, [.ref o0, .int (nvF 3), .ref (ad 3 1), .ref (ad 3 2), .ref (ad 3 3), .ref (ad 3 4), .ref (ad 3 5), .ref (ad 3 6), .ref (ad 3 7), .int (C_br (cs 3)), .int (C_du (cs 3)), .int (C_mi (cs 3)), .int (C_am (cs 3)), .int (C_mb (cs 3))])), (ad 3 1, .inl (G.2.1, 6, .inl (C_ca (cs 3)))), (ad 3 2, .inl (G.2.1, 6, .inl (C_tk (cs 3)))), (ad 3 3, .inl (G.2.1, 24, .inl (C_gr (cs 3)))), (ad 3 4, .inl (G.2.1, 24, .inl (C_go (cs 3)))), (ad 3 5, .inl (G.2.1, 24, .inl (C_we (cs 3)))), (ad 3 6, .inl (G.2.1, 24, .inl (C_dr (cs 3)))), (ad 3 7, .inl (G.2.1, 24, .inl (C_ea (cs 3)))), (ad 4 0, .inr (0, [.ref o0, .int (nvF 4), .ref (ad 4 1), .ref (ad 4 2), .ref (ad 4 3), .ref (ad 4 4), .ref (ad 4 5), .ref (ad 4 6), .ref (ad 4 7), .int (C_br (cs 4)), .int (C_du (cs 4)), .int (C_mi (cs 4)), .int (C_am (cs 4)), .int (C_mb (cs 4))])), (ad 4 1, .inl (G.2.1, 6, .inl (C_ca (cs 4)))), (ad 4 2, .inl (G.2.1, 6, .inl (C_tk (cs 4)))), (ad 4 3, .inl (G.2.1, 24, .inl (C_gr (cs 4)))), (ad 4 4, .inl (G.2.1, 24, .inl (C_go (cs 4)))), (ad 4 5, .inl (G.2.1, 24, .inl (C_we (cs 4)))), (ad 4 6, .inl (G.2.1, 24, .inl (C_dr (cs 4)))), (ad 4 7, .inl (G.2.1, 24, .inl (C_ea (cs 4)))), (ad 5 0, .inr (0, [.ref o0, .int (nvF 5), .ref (ad 5 1), .ref (ad 5 2), .ref (ad 5 3), .ref (ad 5 4), .ref (ad 5 5), .ref (ad 5 6), .ref (ad 5 7), .int (C_br (cs 5)), .int (C_du (cs 5)), .int (C_mi (cs 5)), .int (C_am (cs 5)), .int (C_mb (cs 5))])), (ad 5 1, .inl (G.2.1, 6, .inl (C_ca (cs 5)))), (ad 5 2, .inl (G.2.1, 6, .inl (C_tk (cs 5)))), (ad 5 3, .inl (G.2.1, 24, .inl (C_gr (cs 5)))), (ad 5 4, .inl (G.2.1, 24, .inl (C_go (cs 5)))), (ad 5 5, .inl (G.2.1, 24, .inl (C_we (cs 5)))), (ad 5 6, .inl (G.2.1, 24, .inl (C_dr (cs 5)))), (ad 5 7, .inl (G.2.1, 24, .inl (C_ea (cs 5)))), (ad 6 0, .inr (0, [.ref o0, .int (nvF 6), .ref (ad 6 1), .ref (ad 6 2), .ref (ad 6 3), .ref (ad 6 4), .ref (ad 6 5), .ref (ad 6 6), .ref (ad 6 7), .int (C_br (cs 6)), .int (C_du (cs 6)), .int (C_mi (cs 6)), .int (C_am (cs 6)), .int (C_mb (cs 6))])), (ad 6 1, .inl (G.2.1, 6, .inl (C_ca (cs 6)))), (ad 6 2, .inl (G.2.1, 6, .inl (C_tk (cs 6)))), (ad 6 3, .inl (G.2.1, 24, .inl (C_gr (cs 6)))), (ad 6 4, .inl (G.2.1, 24, .inl (C_go (cs 6)))), (ad 6 5, .inl (G.2.1, 24, .inl (C_we (cs 6)))), (ad 6 6, .inl (G.2.1, 24, .inl (C_dr (cs 6)))), (ad 6 7, .inl (G.2.1, 24, .inl (C_ea (cs 6))))] [(x0, .inr (3, [.ref o0, .ref g0, .ref (ad 0 0), .ref sA, .int (nI (H_ho (s_adv fl ai rn rf rt wi qu sh fn pn hk (ho, lh, ls, lw, lt, bn, cs)))), .int (nI de)])), (o0, .inr (2, [.ref oFa, .ref oWi, .ref oPa, .ref oQu, .ref oSh, .int (nI hk), .int fl, .int ai, .int rn, .int rf, .int rt])), (oFa, .inl (G.2.1, 6, .inl (pN fn))), (oWi, .inl (G.2.1, 6, .inl wi)), (oPa, .inl (G.2.1, 6, .inl (pN pn))), (oQu, .inl (G.2.1, 6, .inl qu)), (oSh, .inl (G.2.1, 24, .inl sh)), (g0, .inr (1, [.ref lH, .ref lS, .ref lW, .ref lT, .int (nI (min (H_bn (s_adv fl ai rn rf rt wi qu sh fn pn hk (ho, lh, ls, lw, lt, bn, cs))) 60)), .int (nI (H_bn (s_adv fl ai rn rf rt wi qu sh fn pn hk (ho, lh, ls, lw, lt, bn, cs))))])), (lH, .inl (G.2.1, 60, .inl (H_lh (s_adv fl ai rn rf rt wi qu sh fn pn hk (ho, lh, ls, lw, lt, bn, cs))))), (lS, .inl (G.2.1, 60, .inl (H_ls (s_adv fl ai rn rf rt wi qu sh fn pn hk (ho, lh, ls, lw, lt, bn, cs))))), (lW, .inl (G.2.1, 60, .inl (H_lw (s_adv fl ai rn rf rt wi qu sh fn pn hk (ho, lh, ls, lw, lt, bn, cs))))), (lT, .inl (G.2.1, 4, .inl (H_lt (s_adv fl ai rn rf rt wi qu sh fn pn hk (ho, lh, ls, lw, lt, bn, cs))))), (sA, .inl (G.2.2, 6, .inr (.inr (.inr (.inr (fun i => some (ad (i + 1) 0))))))), (ad 0 0, .inr (0, [.ref o0, .int (nvF 0), .ref (ad 0 1), .ref (ad 0 2), .ref (ad 0 3), .ref (ad 0 4), .ref (ad 0 5), .ref (ad 0 6), .ref (ad 0 7), .int (C_br (H_cs (s_adv fl ai rn rf rt wi qu sh fn pn hk (ho, lh, ls, lw, lt, bn, cs)) 0)), .int (C_du (H_cs (s_adv fl ai rn rf rt wi qu sh fn pn hk (ho, lh, ls, lw, lt, bn, cs)) 0)), .int (C_mi (H_cs (s_adv fl ai rn rf rt wi qu sh fn pn hk (ho, lh, ls, lw, lt, bn, cs)) 0)), .int (C_am (H_cs (s_adv fl ai rn rf rt wi qu sh fn pn hk (ho, lh, ls, lw, lt, bn, cs)) 0)), .int (C_mb (H_cs (s_adv fl ai rn rf rt wi qu sh fn pn hk (ho, lh, ls, lw, lt, bn, cs)) 0))])), (ad 0 1, .inl (G.2.1, 6, .inl (C_ca (H_cs (s_adv fl ai rn rf rt wi qu sh fn pn hk (ho, lh, ls, lw, lt, bn, cs)) 0)))), (ad 0 2, .inl (G.2.1, 6, .inl (C_tk (H_cs (s_adv fl ai rn rf rt wi qu sh fn pn hk (ho, lh, ls, lw, lt, bn, cs)) 0)))), (ad 0 3, .inl (G.2.1, 24, .inl (C_gr (H_cs (s_adv fl ai rn rf rt wi qu sh fn pn hk (ho, lh, ls, lw, lt, bn, cs)) 0)))), (ad 0 4, .inl (G.2.1, 24, .inl (C_go (H_cs (s_adv fl ai rn rf rt wi qu sh fn pn hk (ho, lh, ls, lw, lt, bn, cs)) 0)))), (ad 0 5, .inl (G.2.1, 24, .inl (C_we (H_cs (s_adv fl ai rn rf rt wi qu sh fn pn hk (ho, lh, ls, lw, lt, bn, cs)) 0)))), (ad 0 6, .inl (G.2.1, 24, .inl (C_dr (H_cs (s_adv fl ai rn rf rt wi qu sh fn pn hk (ho, lh, ls, lw, lt, bn, cs)) 0)))), (ad 0 7, .inl (G.2.1, 24, .inl (C_ea (H_cs (s_adv fl ai rn rf rt wi qu sh fn pn hk (ho, lh, ls, lw, lt, bn, cs)) 0)))), (ad 1 0, .inr (0, [.ref o0, .int (nvF 1), .ref (ad 1 1), .ref (ad 1 2), .ref (ad 1 3), .ref (ad 1 4), .ref (ad 1 5), .ref (ad 1 6), .ref (ad 1 7), .int (C_br (H_cs (s_adv fl ai rn rf rt wi qu sh fn pn hk (ho, lh, ls, lw, lt, bn, cs)) 1)), .int (C_du (H_cs (s_adv fl ai rn rf rt wi qu sh fn pn hk (ho, lh, ls, lw, lt, bn, cs)) 1)), .int (C_mi (H_cs (s_adv fl ai rn rf rt wi qu sh fn pn hk (ho, lh, ls, lw, lt, bn, cs)) 1)), .int (C_am (H_cs (s_adv fl ai rn rf rt wi qu sh fn pn hk (ho, lh, ls, lw, lt, bn, cs)) 1)), .int (C_mb (H_cs (s_adv fl ai rn rf rt wi qu sh fn pn hk (ho, lh, ls, lw, lt, bn, cs)) 1))])), (ad 1 1, .inl (G.2.1, 6, .inl (C_ca (H_cs (s_adv fl ai rn rf rt wi qu sh fn pn hk (ho, lh, ls, lw, lt, bn, cs)) 1)))), (ad 1 2, .inl (G.2.1, 6, .inl (C_tk (H_cs (s_adv fl ai rn rf rt wi qu sh fn pn hk (ho, lh, ls, lw, lt, bn, cs)) 1)))), (ad 1 3, .inl (G.2.1, 24, .inl (C_gr (H_cs (s_adv fl ai rn rf rt wi qu sh fn pn hk (ho, lh, ls, lw, lt, bn, cs)) 1)))), (ad 1 4, .inl (G.2.1, 24, .inl (C_go (H_cs (s_adv fl ai rn rf rt wi qu sh fn pn hk (ho, lh, ls, lw, lt, bn, cs)) 1)))), (ad 1 5, .inl (G.2.1, 24, .inl (C_we (H_cs (s_adv fl ai rn rf rt wi qu sh fn pn hk (ho, lh, ls, lw, lt, bn, cs)) 1)))), (ad 1 6, .inl (G.2.1, 24, .inl (C_dr (H_cs (s_adv fl ai rn rf rt wi qu sh fn pn hk (ho, lh, ls, lw, lt, bn, cs)) 1)))), (ad 1 7, .inl (G.2.1, 24, .inl (C_ea (H_cs (s_adv fl ai rn rf rt wi qu sh fn pn hk (ho, lh, ls, lw, lt, bn, cs)) 1)))), (ad 2 0, .inr (0, [.ref o0, .int (nvF 2), .ref (ad 2 1), .ref (ad 2 2), .ref (ad 2 3), .ref (ad 2 4), .ref (ad 2 5), .ref (ad 2 6), .ref (ad 2 7), .int (C_br (H_cs (s_adv fl ai rn rf rt wi qu sh fn pn hk (ho, lh, ls, lw, lt, bn, cs)) 2)), .int (C_du (H_cs (s_adv fl ai rn rf rt wi qu sh fn pn hk (ho, lh, ls, lw, lt, bn, cs)) 2)), .int (C_mi (H_cs (s_adv fl ai rn rf rt wi qu sh fn pn hk (ho, lh, ls, lw, lt, bn, cs)) 2)), .int (C_am (H_cs (s_adv fl ai rn rf rt wi qu sh fn pn hk (ho, lh, ls, lw, lt, bn, cs)) 2)), .int (C_mb (H_cs (s_adv fl ai rn rf rt wi qu sh fn pn hk (ho, lh, ls, lw, lt, bn, cs)) 2))])), (ad 2 1, .inl (G.2.1, 6, .inl (C_ca (H_cs (s_adv fl ai rn rf rt wi qu sh fn pn hk (ho, lh, ls, lw, lt, bn, cs)) 2)))), (ad 2 2, .inl (G.2.1, 6, .inl (C_tk (H_cs (s_adv fl ai rn rf rt wi qu sh fn pn hk (ho, lh, ls, lw, lt, bn, cs)) 2)))), (ad 2 3, .inl (G.2.1, 24, .inl (C_gr (H_cs (s_adv fl ai rn rf rt wi qu sh fn pn hk (ho, lh, ls, lw, lt, bn, cs)) 2)))), (ad 2 4, .inl (G.2.1, 24, .inl (C_go (H_cs (s_adv fl ai rn rf rt wi qu sh fn pn hk (ho, lh, ls, lw, lt, bn, cs)) 2)))), (ad 2 5, .inl (G.2.1, 24, .inl (C_we (H_cs (s_adv fl ai rn rf rt wi qu sh fn pn hk (ho, lh, ls, lw, lt, bn, cs)) 2)))), (ad 2 6, .inl (G.2.1, 24, .inl (C_dr (H_cs (s_adv fl ai rn rf rt wi qu sh fn pn hk (ho, lh, ls, lw, lt, bn, cs)) 2)))), (ad 2 7, .inl (G.2.1, 24, .inl (C_ea (H_cs (s_adv fl ai rn rf rt wi qu sh fn pn hk (ho, lh, ls, lw, lt, bn, cs)) 2)))), (ad 3 0, .inr (0, [.ref o0, .int (nvF 3), .ref (ad 3 1), .ref (ad 3 2), .ref (ad 3 3), .ref (ad 3 4), .ref (ad 3 5), .ref (ad 3 6), .ref (ad 3 7), .int (C_br (H_cs (s_adv fl ai rn rf rt wi qu sh fn pn hk (ho, lh, ls, lw, lt, bn, cs)) 3)), .int (C_du (H_cs (s_adv fl ai rn rf rt wi qu sh fn pn hk (ho, lh, ls, lw, lt, bn, cs)) 3)), .int (C_mi (H_cs (s_adv fl ai rn rf rt wi qu sh fn pn hk (ho, lh, ls, lw, lt, bn, cs)) 3)), .int (C_am (H_cs (s_adv fl ai rn rf rt wi qu sh fn pn hk (ho, lh, ls, lw, lt, bn, cs)) 3)), .int (C_mb (H_cs (s_adv fl ai rn rf rt wi qu sh fn pn hk (ho, lh, ls, lw, lt, bn, cs)) 3))])), (ad 3 1, .inl (G.2.1, 6, .inl (C_ca (H_cs (s_adv fl ai rn rf rt wi qu sh fn pn hk (ho, lh, ls, lw, lt, bn, cs)) 3)))), (ad 3 2, .inl (G.2.1, 6, .inl (C_tk (H_cs (s_adv fl ai rn rf rt wi qu sh fn pn hk (ho, lh, ls, lw, lt, bn, cs)) 3)))), (ad 3 3, .inl (G.2.1, 24, .inl (C_gr (H_cs (s_adv fl ai rn rf rt wi qu sh fn pn hk (ho, lh, ls, lw, lt, bn, cs)) 3)))), (ad 3 4, .inl (G.2.1, 24, .inl (C_go (H_cs (s_adv fl ai rn rf rt wi qu sh fn pn hk (ho, lh, ls, lw, lt, bn, cs)) 3)))), (ad 3 5, .inl (G.2.1, 24, .inl (C_we (H_cs (s_adv fl ai rn rf rt wi qu sh fn pn hk (ho, lh, ls, lw, lt, bn, cs)) 3)))), (ad 3 6, .inl (G.2.1, 24, .inl (C_dr (H_cs (s_adv fl ai rn rf rt wi qu sh fn pn hk (ho, lh, ls, lw, lt, bn, cs)) 3)))), (ad 3 7, .inl (G.2.1, 24, .inl (C_ea (H_cs (s_adv fl ai rn rf rt wi qu sh fn pn hk (ho, lh, ls, lw, lt, bn, cs)) 3)))), (ad 4 0, .inr (0, [.ref o0, .int (nvF 4), .ref (ad 4 1), .ref (ad 4 2), .ref (ad 4 3), .ref (ad 4 4), .ref (ad 4 5), .ref (ad 4 6), .ref (ad 4 7), .int (C_br (H_cs (s_adv fl ai rn rf rt wi qu sh fn pn hk (ho, lh, ls, lw, lt, bn, cs)) 4)), .int (C_du (H_cs (s_adv fl ai rn rf rt wi qu sh fn pn hk (ho, lh, ls, lw, lt, bn, cs)) 4)), .int (C_mi (H_cs (s_adv fl ai rn rf rt wi qu sh fn pn hk (ho, lh, ls, lw, lt, bn, cs)) 4)), .int (C_am (H_cs (s_adv fl ai rn rf rt wi qu sh fn pn hk (ho, lh, ls, lw, lt, bn, cs)) 4)), .int (C_mb (H_cs (s_adv fl ai rn rf rt wi qu sh fn pn hk (ho, lh, ls, lw, lt, bn, cs)) 4))])), (ad 4 1, .inl (G.2.1, 6, .inl (C_ca (H_cs (s_adv fl ai rn rf rt wi qu sh fn pn hk (ho, lh, ls, lw, lt, bn, cs)) 4)))), (ad 4 2, .inl (G.2.1, 6, .inl (C_tk (H_cs (s_adv fl ai rn rf rt wi qu sh fn pn hk (ho, lh, ls, lw, lt, bn, cs)) 4)))), (ad 4 3, .inl (G.2.1, 24, .inl (C_gr (H_cs (s_adv fl ai rn rf rt wi qu sh fn pn hk (ho, lh, ls, lw, lt, bn, cs)) 4)))), (ad 4 4, .inl (G.2.1, 24, .inl (C_go (H_cs (s_adv fl ai rn rf rt wi qu sh fn pn hk (ho, lh, ls, lw, lt, bn, cs)) 4)))), (ad 4 5, .inl (G.2.1, 24, .inl (C_we (H_cs (s_adv fl ai rn rf rt wi qu sh fn pn hk (ho, lh, ls, lw, lt, bn, cs)) 4)))), (ad 4 6, .inl (G.2.1, 24, .inl (C_dr (H_cs (s_adv fl ai rn rf rt wi qu sh fn pn hk (ho, lh, ls, lw, lt, bn, cs)) 4)))), (ad 4 7, .inl (G.2.1, 24, .inl (C_ea (H_cs (s_adv fl ai rn rf rt wi qu sh fn pn hk (ho, lh, ls, lw, lt, bn, cs)) 4)))), (ad 5 0, .inr (0, [.ref o0, .int (nvF 5), .ref (ad 5 1), .ref (ad 5 2), .ref (ad 5 3), .ref (ad 5 4), .ref (ad 5 5), .ref (ad 5 6), .ref (ad 5 7), .int (C_br (H_cs (s_adv fl ai rn rf rt wi qu sh fn pn hk (ho, lh, ls, lw, lt, bn, cs)) 5)), .int (C_du (H_cs (s_adv fl ai rn rf rt wi qu sh fn pn hk (ho, lh, ls, lw, lt, bn, cs)) 5)), .int (C_mi (H_cs (s_adv fl ai rn rf rt wi qu sh fn pn hk (ho, lh, ls, lw, lt, bn, cs)) 5)), .int (C_am (H_cs (s_adv fl ai rn rf rt wi qu sh fn pn hk (ho, lh, ls, lw, lt, bn, cs)) 5)), .int (C_mb (H_cs (s_adv fl ai rn rf rt wi qu sh fn pn hk (ho, lh, ls, lw, lt, bn, cs)) 5))])), (ad 5 1, .inl (G.2.1, 6, .inl (C_ca (H_cs (s_adv fl ai rn rf rt wi qu sh fn pn hk (ho, lh, ls, lw, lt, bn, cs)) 5)))), (ad 5 2, .inl (G.2.1, 6, .inl (C_tk (H_cs (s_adv fl ai rn rf rt wi qu sh fn pn hk (ho, lh, ls, lw, lt, bn, cs)) 5)))), (ad 5 3, .inl (G.2.1, 24, .inl (C_gr (H_cs (s_adv fl ai rn rf rt wi qu sh fn pn hk (ho, lh, ls, lw, lt, bn, cs)) 5)))), (ad 5 4, .inl (G.2.1, 24, .inl (C_go (H_cs (s_adv fl ai rn rf rt wi qu sh fn pn hk (ho, lh, ls, lw, lt, bn, cs)) 5)))), (ad 5 5, .inl (G.2.1, 24, .inl (C_we (H_cs (s_adv fl ai rn rf rt wi qu sh fn pn hk (ho, lh, ls, lw, lt, bn, cs)) 5)))), (ad 5 6, .inl (G.2.1, 24, .inl (C_dr (H_cs (s_adv fl ai rn rf rt wi qu sh fn pn hk (ho, lh, ls, lw, lt, bn, cs)) 5)))), (ad 5 7, .inl (G.2.1, 24, .inl (C_ea (H_cs (s_adv fl ai rn rf rt wi qu sh fn pn hk (ho, lh, ls, lw, lt, bn, cs)) 5)))), (ad 6 0, .inr (0, [.ref o0, .int (nvF 6), .ref (ad 6 1), .ref (ad 6 2), .ref (ad 6 3), .ref (ad 6 4), .ref (ad 6 5), .ref (ad 6 6), .ref (ad 6 7), .int (C_br (H_cs (s_adv fl ai rn rf rt wi qu sh fn pn hk (ho, lh, ls, lw, lt, bn, cs)) 6)), .int (C_du (H_cs (s_adv fl ai rn rf rt wi qu sh fn pn hk (ho, lh, ls, lw, lt, bn, cs)) 6)), .int (C_mi (H_cs (s_adv fl ai rn rf rt wi qu sh fn pn hk (ho, lh, ls, lw, lt, bn, cs)) 6)), .int (C_am (H_cs (s_adv fl ai rn rf rt wi qu sh fn pn hk (ho, lh, ls, lw, lt, bn, cs)) 6)), .int (C_mb (H_cs (s_adv fl ai rn rf rt wi qu sh fn pn hk (ho, lh, ls, lw, lt, bn, cs)) 6))])), (ad 6 1, .inl (G.2.1, 6, .inl (C_ca (H_cs (s_adv fl ai rn rf rt wi qu sh fn pn hk (ho, lh, ls, lw, lt, bn, cs)) 6)))), (ad 6 2, .inl (G.2.1, 6, .inl (C_tk (H_cs (s_adv fl ai rn rf rt wi qu sh fn pn hk (ho, lh, ls, lw, lt, bn, cs)) 6)))), (ad 6 3, .inl (G.2.1, 24, .inl (C_gr (H_cs (s_adv fl ai rn rf rt wi qu sh fn pn hk (ho, lh, ls, lw, lt, bn, cs)) 6)))), (ad 6 4, .inl (G.2.1, 24, .inl (C_go (H_cs (s_adv fl ai rn rf rt wi qu sh fn pn hk (ho, lh, ls, lw, lt, bn, cs)) 6)))), (ad 6 5, .inl (G.2.1, 24, .inl (C_we (H_cs (s_adv fl ai rn rf rt wi qu sh fn pn hk (ho, lh, ls, lw, lt, bn, cs)) 6)))), (ad 6 6, .inl (G.2.1, 24, .inl (C_dr (H_cs (s_adv fl ai rn rf rt wi qu sh fn pn hk (ho, lh, ls, lw, lt, bn, cs)) 6)))), (ad 6 7, .inl (G.2.1, 24, .inl (C_ea (H_cs (s_adv fl ai rn rf rt wi qu sh fn pn hk (ho, lh, ls, lw, lt, bn, cs)) 6))))] := by
  refine MuV.of (own := RX3) (by decide) rfl (Nat.le_of_ble_eq_true rfl) (fun p e s m below meth c => ?_)
  refine v_aload_n dX3_advance_0 rfl 0 rfl ?_
  refine v_get fX3_28 dX3_advance_1 0 rfl rfl ?_
  refine v_aload_n dX3_advance_4 rfl 0 rfl ?_
  refine v_get fX3_96 dX3_advance_5 0 rfl rfl ?_
  refine v_vMv (ws' := [(x0, .inr (3, [.ref o0, .ref g0, .ref (ad 0 0), .ref sA, .int (nI ho), .int (nI de)])), (o0, .inr (2, [.ref oFa, .ref oWi, .ref oPa, .ref oQu, .ref oSh, .int (nI hk), .int fl, .int ai, .int rn, .int rf, .int rt])), (oFa, .inl (G.2.1, 6, .inl (pN fn))), (oWi, .inl (G.2.1, 6, .inl wi)), (oPa, .inl (G.2.1, 6, .inl (pN pn))), (oQu, .inl (G.2.1, 6, .inl qu)), (oSh, .inl (G.2.1, 24, .inl sh)), (g0, .inr (1, [.ref lH, .ref lS, .ref lW, .ref lT, .int (nI (min bn 60)), .int (nI bn)])), (lH, .inl (G.2.1, 60, .inl lh)), (lS, .inl (G.2.1, 60, .inl ls)), (lW, .inl (G.2.1, 60, .inl lw)), (lT, .inl (G.2.1, 4, .inl lt)), (sA, .inl (G.2.2, 6, .inr (.inr (.inr (.inr (fun i => some (ad (i + 1) 0))))))), (ad 0 0, .inr (0, [.ref o0, .int (nvF 0), .ref (ad 0 1), .ref (ad 0 2), .ref (ad 0 3), .ref (ad 0 4), .ref (ad 0 5), .ref (ad 0 6), .ref (ad 0 7), .int ((C_br (cs 0)) + fl), .int (P_du (s_run (nvF 0) ai (s_gz (nI ho)) wi qu sh pn hk ((C_ca (cs 0)), (C_tk (cs 0)), (C_gr (cs 0)), (C_go (cs 0)), (C_we (cs 0)), (C_dr (cs 0)), (C_ea (cs 0)), (C_du (cs 0)), fl))), .int ((C_mi (cs 0)) + (P_w (s_run (nvF 0) ai (s_gz (nI ho)) wi qu sh pn hk ((C_ca (cs 0)), (C_tk (cs 0)), (C_gr (cs 0)), (C_go (cs 0)), (C_we (cs 0)), (C_dr (cs 0)), (C_ea (cs 0)), (C_du (cs 0)), fl)))), .int (P_w (s_run (nvF 0) ai (s_gz (nI ho)) wi qu sh pn hk ((C_ca (cs 0)), (C_tk (cs 0)), (C_gr (cs 0)), (C_go (cs 0)), (C_we (cs 0)), (C_dr (cs 0)), (C_ea (cs 0)), (C_du (cs 0)), fl))), .int (s_mb (P_w (s_run (nvF 0) ai (s_gz (nI ho)) wi qu sh pn hk ((C_ca (cs 0)), (C_tk (cs 0)), (C_gr (cs 0)), (C_go (cs 0)), (C_we (cs 0)), (C_dr (cs 0)), (C_ea (cs 0)), (C_du (cs 0)), fl))) (s_ra fl rn rf rt (nI ho)) (C_mb (cs 0)))])), (ad 0 1, .inl (G.2.1, 6, .inl (P_ca (s_run (nvF 0) ai (s_gz (nI ho)) wi qu sh pn hk ((C_ca (cs 0)), (C_tk (cs 0)), (C_gr (cs 0)), (C_go (cs 0)), (C_we (cs 0)), (C_dr (cs 0)), (C_ea (cs 0)), (C_du (cs 0)), fl))))), (ad 0 2, .inl (G.2.1, 6, .inl (P_tk (s_run (nvF 0) ai (s_gz (nI ho)) wi qu sh pn hk ((C_ca (cs 0)), (C_tk (cs 0)), (C_gr (cs 0)), (C_go (cs 0)), (C_we (cs 0)), (C_dr (cs 0)), (C_ea (cs 0)), (C_du (cs 0)), fl))))), (ad 0 3, .inl (G.2.1, 24, .inl (P_gr (s_run (nvF 0) ai (s_gz (nI ho)) wi qu sh pn hk ((C_ca (cs 0)), (C_tk (cs 0)), (C_gr (cs 0)), (C_go (cs 0)), (C_we (cs 0)), (C_dr (cs 0)), (C_ea (cs 0)), (C_du (cs 0)), fl))))), (ad 0 4, .inl (G.2.1, 24, .inl (P_go (s_run (nvF 0) ai (s_gz (nI ho)) wi qu sh pn hk ((C_ca (cs 0)), (C_tk (cs 0)), (C_gr (cs 0)), (C_go (cs 0)), (C_we (cs 0)), (C_dr (cs 0)), (C_ea (cs 0)), (C_du (cs 0)), fl))))), (ad 0 5, .inl (G.2.1, 24, .inl (P_we (s_run (nvF 0) ai (s_gz (nI ho)) wi qu sh pn hk ((C_ca (cs 0)), (C_tk (cs 0)), (C_gr (cs 0)), (C_go (cs 0)), (C_we (cs 0)), (C_dr (cs 0)), (C_ea (cs 0)), (C_du (cs 0)), fl))))), (ad 0 6, .inl (G.2.1, 24, .inl (P_dr (s_run (nvF 0) ai (s_gz (nI ho)) wi qu sh pn hk ((C_ca (cs 0)), (C_tk (cs 0)), (C_gr (cs 0)), (C_go (cs 0)), (C_we (cs 0)), (C_dr (cs 0)), (C_ea (cs 0)), (C_du (cs 0)), fl))))), (ad 0 7, .inl (G.2.1, 24, .inl (P_ea (s_run (nvF 0) ai (s_gz (nI ho)) wi qu sh pn hk ((C_ca (cs 0)), (C_tk (cs 0)), (C_gr (cs 0)), (C_go (cs 0)), (C_we (cs 0)), (C_dr (cs 0)), (C_ea (cs 0)), (C_du (cs 0)), fl))))), (ad 1 0, .inr (0, [.ref o0, .int (nvF 1), .ref (ad 1 1), .ref (ad 1 2), .ref (ad 1 3), .ref (ad 1 4), .ref (ad 1 5), .ref (ad 1 6), .ref (ad 1 7), .int (C_br (cs 1)), .int (C_du (cs 1)), .int (C_mi (cs 1)), .int (C_am (cs 1)), .int (C_mb (cs 1))])), (ad 1 1, .inl (G.2.1, 6, .inl (C_ca (cs 1)))), (ad 1 2, .inl (G.2.1, 6, .inl (C_tk (cs 1)))), (ad 1 3, .inl (G.2.1, 24, .inl (C_gr (cs 1)))), (ad 1 4, .inl (G.2.1, 24, .inl (C_go (cs 1)))), (ad 1 5, .inl (G.2.1, 24, .inl (C_we (cs 1)))), (ad 1 6, .inl (G.2.1, 24, .inl (C_dr (cs 1)))), (ad 1 7, .inl (G.2.1, 24, .inl (C_ea (cs 1)))), (ad 2 0, .inr (0, [.ref o0, .int (nvF 2), .ref (ad 2 1), .ref (ad 2 2), .ref (ad 2 3), .ref (ad 2 4), .ref (ad 2 5), .ref (ad 2 6), .ref (ad 2 7), .int (C_br (cs 2)), .int (C_du (cs 2)), .int (C_mi (cs 2)), .int (C_am (cs 2)), .int (C_mb (cs 2))])), (ad 2 1, .inl (G.2.1, 6, .inl (C_ca (cs 2)))), (ad 2 2, .inl (G.2.1, 6, .inl (C_tk (cs 2)))), (ad 2 3, .inl (G.2.1, 24, .inl (C_gr (cs 2)))), (ad 2 4, .inl (G.2.1, 24, .inl (C_go (cs 2)))), (ad 2 5, .inl (G.2.1, 24, .inl (C_we (cs 2)))), (ad 2 6, .inl (G.2.1, 24, .inl (C_dr (cs 2)))), (ad 2 7, .inl (G.2.1, 24, .inl (C_ea (cs 2)))), (ad 3 0, .inr (0, [.ref o0, .int (nvF 3), .ref (ad 3 1), .ref (ad 3 2), .ref (ad 3 3), .ref (ad 3 4), .ref (ad 3 5), .ref (ad 3 6), .ref (ad 3 7), .int (C_br (cs 3)), .int (C_du (cs 3)), .int (C_mi (cs 3)), .int (C_am (cs 3)), .int (C_mb (cs 3))])), (ad 3 1, .inl (G.2.1, 6, .inl (C_ca (cs 3)))), (ad 3 2, .inl (G.2.1, 6, .inl (C_tk (cs 3)))), (ad 3 3, .inl (G.2.1, 24, .inl (C_gr (cs 3)))), (ad 3 4, .inl (G.2.1, 24, .inl (C_go (cs 3)))), (ad 3 5, .inl (G.2.1, 24, .inl (C_we (cs 3)))), (ad 3 6, .inl (G.2.1, 24, .inl (C_dr (cs 3)))), (ad 3 7, .inl (G.2.1, 24, .inl (C_ea (cs 3)))), (ad 4 0, .inr (0, [.ref o0, .int (nvF 4), .ref (ad 4 1), .ref (ad 4 2), .ref (ad 4 3), .ref (ad 4 4), .ref (ad 4 5), .ref (ad 4 6), .ref (ad 4 7), .int (C_br (cs 4)), .int (C_du (cs 4)), .int (C_mi (cs 4)), .int (C_am (cs 4)), .int (C_mb (cs 4))])), (ad 4 1, .inl (G.2.1, 6, .inl (C_ca (cs 4)))), (ad 4 2, .inl (G.2.1, 6, .inl (C_tk (cs 4)))), (ad 4 3, .inl (G.2.1, 24, .inl (C_gr (cs 4)))), (ad 4 4, .inl (G.2.1, 24, .inl (C_go (cs 4)))), (ad 4 5, .inl (G.2.1, 24, .inl (C_we (cs 4)))), (ad 4 6, .inl (G.2.1, 24, .inl (C_dr (cs 4)))), (ad 4 7, .inl (G.2.1, 24, .inl (C_ea (cs 4)))), (ad 5 0, .inr (0, [.ref o0, .int (nvF 5), .ref (ad 5 1), .ref (ad 5 2), .ref (ad 5 3), .ref (ad 5 4), .ref (ad 5 5), .ref (ad 5 6), .ref (ad 5 7), .int (C_br (cs 5)), .int (C_du (cs 5)), .int (C_mi (cs 5)), .int (C_am (cs 5)), .int (C_mb (cs 5))])), (ad 5 1, .inl (G.2.1, 6, .inl (C_ca (cs 5)))), (ad 5 2, .inl (G.2.1, 6, .inl (C_tk (cs 5)))), (ad 5 3, .inl (G.2.1, 24, .inl (C_gr (cs 5)))), (ad 5 4, .inl (G.2.1, 24, .inl (C_go (cs 5)))), (ad 5 5, .inl (G.2.1, 24, .inl (C_we (cs 5)))), (ad 5 6, .inl (G.2.1, 24, .inl (C_dr (cs 5)))), (ad 5 7, .inl (G.2.1, 24, .inl (C_ea (cs 5)))), (ad 6 0, .inr (0, [.ref o0, .int (nvF 6), .ref (ad 6 1), .ref (ad 6 2), .ref (ad 6 3), .ref (ad 6 4), .ref (ad 6 5), .ref (ad 6 6), .ref (ad 6 7), .int (C_br (cs 6)), .int (C_du (cs 6)), .int (C_mi (cs 6)), .int (C_am (cs 6)), .int (C_mb (cs 6))])), (ad 6 1, .inl (G.2.1, 6, .inl (C_ca (cs 6)))), (ad 6 2, .inl (G.2.1, 6, .inl (C_tk (cs 6)))), (ad 6 3, .inl (G.2.1, 24, .inl (C_gr (cs 6)))), (ad 6 4, .inl (G.2.1, 24, .inl (C_go (cs 6)))), (ad 6 5, .inl (G.2.1, 24, .inl (C_we (cs 6)))), (ad 6 6, .inl (G.2.1, 24, .inl (C_dr (cs 6)))), (ad 6 7, .inl (G.2.1, 24, .inl (C_ea (cs 6))))]) (As := [.int (nI ho)]) (rest := []) (c_X0_passHour l G (ad 0 0) o0 (nvF 0) (ad 0 1) (ad 0 2) (ad 0 3) (ad 0 4) (ad 0 5) (ad 0 6) (ad 0 7) (C_br (cs 0)) (C_du (cs 0)) (C_mi (cs 0)) (C_am (cs 0)) (C_mb (cs 0)) oFa oWi oPa oQu oSh hk fl ai rn rf rt (C_ca (cs 0)) (C_tk (cs 0)) (C_gr (cs 0)) (C_go (cs 0)) (C_we (cs 0)) (C_dr (cs 0)) (C_ea (cs 0)) wi qu sh pn (nI ho) hk6 hpn) YX0_passHour mX3_169 dX3_advance_8 ciX0 13 rfl [13, 14, 15, 16, 17, 18, 19, 20, 1, 3, 4, 5, 6] (by decide) rfl rfl rfl rfl rfl rfl (Nat.le_of_ble_eq_true rfl) (by decide) (by decide) ?_
  refine v_aload_n dX3_advance_11 rfl 0 rfl ?_
  refine v_vMv (ws' := [(x0, .inr (3, [.ref o0, .ref g0, .ref (ad 0 0), .ref sA, .int (nI ho), .int (nI de)])), (o0, .inr (2, [.ref oFa, .ref oWi, .ref oPa, .ref oQu, .ref oSh, .int (nI hk), .int fl, .int ai, .int rn, .int rf, .int rt])), (oFa, .inl (G.2.1, 6, .inl (pN fn))), (oWi, .inl (G.2.1, 6, .inl wi)), (oPa, .inl (G.2.1, 6, .inl (pN pn))), (oQu, .inl (G.2.1, 6, .inl qu)), (oSh, .inl (G.2.1, 24, .inl sh)), (g0, .inr (1, [.ref lH, .ref lS, .ref lW, .ref lT, .int (nI (min (J_bn (s_mill (s_short (P_w (s_run (nvF 0) ai (s_gz (nI ho)) wi qu sh pn hk ((C_ca (cs 0)), (C_tk (cs 0)), (C_gr (cs 0)), (C_go (cs 0)), (C_we (cs 0)), (C_dr (cs 0)), (C_ea (cs 0)), (C_du (cs 0)), fl))) (s_ra fl rn rf rt (nI ho))) (nI ho) (s_jrun (P_tk (s_run (nvF 0) ai (s_gz (nI ho)) wi qu sh pn hk ((C_ca (cs 0)), (C_tk (cs 0)), (C_gr (cs 0)), (C_go (cs 0)), (C_we (cs 0)), (C_dr (cs 0)), (C_ea (cs 0)), (C_du (cs 0)), fl))) fn fl ai (nI ho) hk (lh, ls, lw, lt, bn, 0, 0)))) 60)), .int (nI (J_bn (s_mill (s_short (P_w (s_run (nvF 0) ai (s_gz (nI ho)) wi qu sh pn hk ((C_ca (cs 0)), (C_tk (cs 0)), (C_gr (cs 0)), (C_go (cs 0)), (C_we (cs 0)), (C_dr (cs 0)), (C_ea (cs 0)), (C_du (cs 0)), fl))) (s_ra fl rn rf rt (nI ho))) (nI ho) (s_jrun (P_tk (s_run (nvF 0) ai (s_gz (nI ho)) wi qu sh pn hk ((C_ca (cs 0)), (C_tk (cs 0)), (C_gr (cs 0)), (C_go (cs 0)), (C_we (cs 0)), (C_dr (cs 0)), (C_ea (cs 0)), (C_du (cs 0)), fl))) fn fl ai (nI ho) hk (lh, ls, lw, lt, bn, 0, 0)))))])), (lH, .inl (G.2.1, 60, .inl (J_lh (s_mill (s_short (P_w (s_run (nvF 0) ai (s_gz (nI ho)) wi qu sh pn hk ((C_ca (cs 0)), (C_tk (cs 0)), (C_gr (cs 0)), (C_go (cs 0)), (C_we (cs 0)), (C_dr (cs 0)), (C_ea (cs 0)), (C_du (cs 0)), fl))) (s_ra fl rn rf rt (nI ho))) (nI ho) (s_jrun (P_tk (s_run (nvF 0) ai (s_gz (nI ho)) wi qu sh pn hk ((C_ca (cs 0)), (C_tk (cs 0)), (C_gr (cs 0)), (C_go (cs 0)), (C_we (cs 0)), (C_dr (cs 0)), (C_ea (cs 0)), (C_du (cs 0)), fl))) fn fl ai (nI ho) hk (lh, ls, lw, lt, bn, 0, 0)))))), (lS, .inl (G.2.1, 60, .inl (J_ls (s_mill (s_short (P_w (s_run (nvF 0) ai (s_gz (nI ho)) wi qu sh pn hk ((C_ca (cs 0)), (C_tk (cs 0)), (C_gr (cs 0)), (C_go (cs 0)), (C_we (cs 0)), (C_dr (cs 0)), (C_ea (cs 0)), (C_du (cs 0)), fl))) (s_ra fl rn rf rt (nI ho))) (nI ho) (s_jrun (P_tk (s_run (nvF 0) ai (s_gz (nI ho)) wi qu sh pn hk ((C_ca (cs 0)), (C_tk (cs 0)), (C_gr (cs 0)), (C_go (cs 0)), (C_we (cs 0)), (C_dr (cs 0)), (C_ea (cs 0)), (C_du (cs 0)), fl))) fn fl ai (nI ho) hk (lh, ls, lw, lt, bn, 0, 0)))))), (lW, .inl (G.2.1, 60, .inl (J_lw (s_mill (s_short (P_w (s_run (nvF 0) ai (s_gz (nI ho)) wi qu sh pn hk ((C_ca (cs 0)), (C_tk (cs 0)), (C_gr (cs 0)), (C_go (cs 0)), (C_we (cs 0)), (C_dr (cs 0)), (C_ea (cs 0)), (C_du (cs 0)), fl))) (s_ra fl rn rf rt (nI ho))) (nI ho) (s_jrun (P_tk (s_run (nvF 0) ai (s_gz (nI ho)) wi qu sh pn hk ((C_ca (cs 0)), (C_tk (cs 0)), (C_gr (cs 0)), (C_go (cs 0)), (C_we (cs 0)), (C_dr (cs 0)), (C_ea (cs 0)), (C_du (cs 0)), fl))) fn fl ai (nI ho) hk (lh, ls, lw, lt, bn, 0, 0)))))), (lT, .inl (G.2.1, 4, .inl (J_lt (s_mill (s_short (P_w (s_run (nvF 0) ai (s_gz (nI ho)) wi qu sh pn hk ((C_ca (cs 0)), (C_tk (cs 0)), (C_gr (cs 0)), (C_go (cs 0)), (C_we (cs 0)), (C_dr (cs 0)), (C_ea (cs 0)), (C_du (cs 0)), fl))) (s_ra fl rn rf rt (nI ho))) (nI ho) (s_jrun (P_tk (s_run (nvF 0) ai (s_gz (nI ho)) wi qu sh pn hk ((C_ca (cs 0)), (C_tk (cs 0)), (C_gr (cs 0)), (C_go (cs 0)), (C_we (cs 0)), (C_dr (cs 0)), (C_ea (cs 0)), (C_du (cs 0)), fl))) fn fl ai (nI ho) hk (lh, ls, lw, lt, bn, 0, 0)))))), (sA, .inl (G.2.2, 6, .inr (.inr (.inr (.inr (fun i => some (ad (i + 1) 0))))))), (ad 0 0, .inr (0, [.ref o0, .int (nvF 0), .ref (ad 0 1), .ref (ad 0 2), .ref (ad 0 3), .ref (ad 0 4), .ref (ad 0 5), .ref (ad 0 6), .ref (ad 0 7), .int ((C_br (cs 0)) + fl), .int (P_du (s_run (nvF 0) ai (s_gz (nI ho)) wi qu sh pn hk ((C_ca (cs 0)), (C_tk (cs 0)), (C_gr (cs 0)), (C_go (cs 0)), (C_we (cs 0)), (C_dr (cs 0)), (C_ea (cs 0)), (C_du (cs 0)), fl))), .int ((C_mi (cs 0)) + (P_w (s_run (nvF 0) ai (s_gz (nI ho)) wi qu sh pn hk ((C_ca (cs 0)), (C_tk (cs 0)), (C_gr (cs 0)), (C_go (cs 0)), (C_we (cs 0)), (C_dr (cs 0)), (C_ea (cs 0)), (C_du (cs 0)), fl)))), .int (P_w (s_run (nvF 0) ai (s_gz (nI ho)) wi qu sh pn hk ((C_ca (cs 0)), (C_tk (cs 0)), (C_gr (cs 0)), (C_go (cs 0)), (C_we (cs 0)), (C_dr (cs 0)), (C_ea (cs 0)), (C_du (cs 0)), fl))), .int (s_mb (P_w (s_run (nvF 0) ai (s_gz (nI ho)) wi qu sh pn hk ((C_ca (cs 0)), (C_tk (cs 0)), (C_gr (cs 0)), (C_go (cs 0)), (C_we (cs 0)), (C_dr (cs 0)), (C_ea (cs 0)), (C_du (cs 0)), fl))) (s_ra fl rn rf rt (nI ho)) (C_mb (cs 0)))])), (ad 0 1, .inl (G.2.1, 6, .inl (P_ca (s_run (nvF 0) ai (s_gz (nI ho)) wi qu sh pn hk ((C_ca (cs 0)), (C_tk (cs 0)), (C_gr (cs 0)), (C_go (cs 0)), (C_we (cs 0)), (C_dr (cs 0)), (C_ea (cs 0)), (C_du (cs 0)), fl))))), (ad 0 2, .inl (G.2.1, 6, .inl (P_tk (s_run (nvF 0) ai (s_gz (nI ho)) wi qu sh pn hk ((C_ca (cs 0)), (C_tk (cs 0)), (C_gr (cs 0)), (C_go (cs 0)), (C_we (cs 0)), (C_dr (cs 0)), (C_ea (cs 0)), (C_du (cs 0)), fl))))), (ad 0 3, .inl (G.2.1, 24, .inl (P_gr (s_run (nvF 0) ai (s_gz (nI ho)) wi qu sh pn hk ((C_ca (cs 0)), (C_tk (cs 0)), (C_gr (cs 0)), (C_go (cs 0)), (C_we (cs 0)), (C_dr (cs 0)), (C_ea (cs 0)), (C_du (cs 0)), fl))))), (ad 0 4, .inl (G.2.1, 24, .inl (P_go (s_run (nvF 0) ai (s_gz (nI ho)) wi qu sh pn hk ((C_ca (cs 0)), (C_tk (cs 0)), (C_gr (cs 0)), (C_go (cs 0)), (C_we (cs 0)), (C_dr (cs 0)), (C_ea (cs 0)), (C_du (cs 0)), fl))))), (ad 0 5, .inl (G.2.1, 24, .inl (P_we (s_run (nvF 0) ai (s_gz (nI ho)) wi qu sh pn hk ((C_ca (cs 0)), (C_tk (cs 0)), (C_gr (cs 0)), (C_go (cs 0)), (C_we (cs 0)), (C_dr (cs 0)), (C_ea (cs 0)), (C_du (cs 0)), fl))))), (ad 0 6, .inl (G.2.1, 24, .inl (P_dr (s_run (nvF 0) ai (s_gz (nI ho)) wi qu sh pn hk ((C_ca (cs 0)), (C_tk (cs 0)), (C_gr (cs 0)), (C_go (cs 0)), (C_we (cs 0)), (C_dr (cs 0)), (C_ea (cs 0)), (C_du (cs 0)), fl))))), (ad 0 7, .inl (G.2.1, 24, .inl (P_ea (s_run (nvF 0) ai (s_gz (nI ho)) wi qu sh pn hk ((C_ca (cs 0)), (C_tk (cs 0)), (C_gr (cs 0)), (C_go (cs 0)), (C_we (cs 0)), (C_dr (cs 0)), (C_ea (cs 0)), (C_du (cs 0)), fl))))), (ad 1 0, .inr (0, [.ref o0, .int (nvF 1), .ref (ad 1 1), .ref (ad 1 2), .ref (ad 1 3), .ref (ad 1 4), .ref (ad 1 5), .ref (ad 1 6), .ref (ad 1 7), .int (C_br (cs 1)), .int (C_du (cs 1)), .int (C_mi (cs 1)), .int (C_am (cs 1)), .int (C_mb (cs 1))])), (ad 1 1, .inl (G.2.1, 6, .inl (C_ca (cs 1)))), (ad 1 2, .inl (G.2.1, 6, .inl (C_tk (cs 1)))), (ad 1 3, .inl (G.2.1, 24, .inl (C_gr (cs 1)))), (ad 1 4, .inl (G.2.1, 24, .inl (C_go (cs 1)))), (ad 1 5, .inl (G.2.1, 24, .inl (C_we (cs 1)))), (ad 1 6, .inl (G.2.1, 24, .inl (C_dr (cs 1)))), (ad 1 7, .inl (G.2.1, 24, .inl (C_ea (cs 1)))), (ad 2 0, .inr (0, [.ref o0, .int (nvF 2), .ref (ad 2 1), .ref (ad 2 2), .ref (ad 2 3), .ref (ad 2 4), .ref (ad 2 5), .ref (ad 2 6), .ref (ad 2 7), .int (C_br (cs 2)), .int (C_du (cs 2)), .int (C_mi (cs 2)), .int (C_am (cs 2)), .int (C_mb (cs 2))])), (ad 2 1, .inl (G.2.1, 6, .inl (C_ca (cs 2)))), (ad 2 2, .inl (G.2.1, 6, .inl (C_tk (cs 2)))), (ad 2 3, .inl (G.2.1, 24, .inl (C_gr (cs 2)))), (ad 2 4, .inl (G.2.1, 24, .inl (C_go (cs 2)))), (ad 2 5, .inl (G.2.1, 24, .inl (C_we (cs 2)))), (ad 2 6, .inl (G.2.1, 24, .inl (C_dr (cs 2)))), (ad 2 7, .inl (G.2.1, 24, .inl (C_ea (cs 2)))), (ad 3 0, .inr (0, [.ref o0, .int (nvF 3), .ref (ad 3 1), .ref (ad 3 2), .ref (ad 3 3), .ref (ad 3 4), .ref (ad 3 5), .ref (ad 3 6), .ref (ad 3 7), .int (C_br (cs 3)), .int (C_du (cs 3)), .int (C_mi (cs 3)), .int (C_am (cs 3)), .int (C_mb (cs 3))])), (ad 3 1, .inl (G.2.1, 6, .inl (C_ca (cs 3)))), (ad 3 2, .inl (G.2.1, 6, .inl (C_tk (cs 3)))), (ad 3 3, .inl (G.2.1, 24, .inl (C_gr (cs 3)))), (ad 3 4, .inl (G.2.1, 24, .inl (C_go (cs 3)))), (ad 3 5, .inl (G.2.1, 24, .inl (C_we (cs 3)))), (ad 3 6, .inl (G.2.1, 24, .inl (C_dr (cs 3)))), (ad 3 7, .inl (G.2.1, 24, .inl (C_ea (cs 3)))), (ad 4 0, .inr (0, [.ref o0, .int (nvF 4), .ref (ad 4 1), .ref (ad 4 2), .ref (ad 4 3), .ref (ad 4 4), .ref (ad 4 5), .ref (ad 4 6), .ref (ad 4 7), .int (C_br (cs 4)), .int (C_du (cs 4)), .int (C_mi (cs 4)), .int (C_am (cs 4)), .int (C_mb (cs 4))])), (ad 4 1, .inl (G.2.1, 6, .inl (C_ca (cs 4)))), (ad 4 2, .inl (G.2.1, 6, .inl (C_tk (cs 4)))), (ad 4 3, .inl (G.2.1, 24, .inl (C_gr (cs 4)))), (ad 4 4, .inl (G.2.1, 24, .inl (C_go (cs 4)))), (ad 4 5, .inl (G.2.1, 24, .inl (C_we (cs 4)))), (ad 4 6, .inl (G.2.1, 24, .inl (C_dr (cs 4)))), (ad 4 7, .inl (G.2.1, 24, .inl (C_ea (cs 4)))), (ad 5 0, .inr (0, [.ref o0, .int (nvF 5), .ref (ad 5 1), .ref (ad 5 2), .ref (ad 5 3), .ref (ad 5 4), .ref (ad 5 5), .ref (ad 5 6), .ref (ad 5 7), .int (C_br (cs 5)), .int (C_du (cs 5)), .int (C_mi (cs 5)), .int (C_am (cs 5)), .int (C_mb (cs 5))])), (ad 5 1, .inl (G.2.1, 6, .inl (C_ca (cs 5)))), (ad 5 2, .inl (G.2.1, 6, .inl (C_tk (cs 5)))), (ad 5 3, .inl (G.2.1, 24, .inl (C_gr (cs 5)))), (ad 5 4, .inl (G.2.1, 24, .inl (C_go (cs 5)))), (ad 5 5, .inl (G.2.1, 24, .inl (C_we (cs 5)))), (ad 5 6, .inl (G.2.1, 24, .inl (C_dr (cs 5)))), (ad 5 7, .inl (G.2.1, 24, .inl (C_ea (cs 5)))), (ad 6 0, .inr (0, [.ref o0, .int (nvF 6), .ref (ad 6 1), .ref (ad 6 2), .ref (ad 6 3), .ref (ad 6 4), .ref (ad 6 5), .ref (ad 6 6), .ref (ad 6 7), .int (C_br (cs 6)), .int (C_du (cs 6)), .int (C_mi (cs 6)), .int (C_am (cs 6)), .int (C_mb (cs 6))])), (ad 6 1, .inl (G.2.1, 6, .inl (C_ca (cs 6)))), (ad 6 2, .inl (G.2.1, 6, .inl (C_tk (cs 6)))), (ad 6 3, .inl (G.2.1, 24, .inl (C_gr (cs 6)))), (ad 6 4, .inl (G.2.1, 24, .inl (C_go (cs 6)))), (ad 6 5, .inl (G.2.1, 24, .inl (C_we (cs 6)))), (ad 6 6, .inl (G.2.1, 24, .inl (C_dr (cs 6)))), (ad 6 7, .inl (G.2.1, 24, .inl (C_ea (cs 6))))]) (As := []) (rest := []) (c_X3_judgeHour l G x0 o0 g0 (ad 0 0) sA ho de oFa oWi oPa oQu oSh hk fl ai rn rf rt (nvF 0) (ad 0 1) (ad 0 2) (ad 0 3) (ad 0 4) (ad 0 5) (ad 0 6) (ad 0 7) ((C_br (cs 0)) + fl) (P_du (s_run (nvF 0) ai (s_gz (nI ho)) wi qu sh pn hk ((C_ca (cs 0)), (C_tk (cs 0)), (C_gr (cs 0)), (C_go (cs 0)), (C_we (cs 0)), (C_dr (cs 0)), (C_ea (cs 0)), (C_du (cs 0)), fl))) ((C_mi (cs 0)) + (P_w (s_run (nvF 0) ai (s_gz (nI ho)) wi qu sh pn hk ((C_ca (cs 0)), (C_tk (cs 0)), (C_gr (cs 0)), (C_go (cs 0)), (C_we (cs 0)), (C_dr (cs 0)), (C_ea (cs 0)), (C_du (cs 0)), fl)))) (P_w (s_run (nvF 0) ai (s_gz (nI ho)) wi qu sh pn hk ((C_ca (cs 0)), (C_tk (cs 0)), (C_gr (cs 0)), (C_go (cs 0)), (C_we (cs 0)), (C_dr (cs 0)), (C_ea (cs 0)), (C_du (cs 0)), fl))) (s_mb (P_w (s_run (nvF 0) ai (s_gz (nI ho)) wi qu sh pn hk ((C_ca (cs 0)), (C_tk (cs 0)), (C_gr (cs 0)), (C_go (cs 0)), (C_we (cs 0)), (C_dr (cs 0)), (C_ea (cs 0)), (C_du (cs 0)), fl))) (s_ra fl rn rf rt (nI ho)) (C_mb (cs 0))) lH lS lW lT bn (P_tk (s_run (nvF 0) ai (s_gz (nI ho)) wi qu sh pn hk ((C_ca (cs 0)), (C_tk (cs 0)), (C_gr (cs 0)), (C_go (cs 0)), (C_we (cs 0)), (C_dr (cs 0)), (C_ea (cs 0)), (C_du (cs 0)), fl))) lh ls lw lt fn hk6 hfn hbn) YX3_judgeHour mX3_173 dX3_advance_12 ciX3 0 rfl [0, 1, 2, 13, 15, 7, 8, 9, 10, 11] (by decide) rfl rfl rfl rfl rfl rfl (Nat.le_of_ble_eq_true rfl) (by decide) (by decide) ?_
  refine v_iconst (v := 0) dX3_advance_15 (by decide) ?_
  refine v_istore_n (lv' := [(1, .int 0), (0, .ref x0)]) dX3_advance_16 rfl (by decide) rfl ?_
  refine v_iload_n dX3_advance_17 rfl 0 rfl ?_
  refine v_bipush (v := 6) dX3_advance_18 (by decide) ?_
  refine v_icmp_ge (tgt := 42) dX3_advance_20 (by decide) (fun h20 => absurd h20 (by decide)) (fun h20 => ?_)
  refine v_aload_n dX3_advance_23 rfl 1 rfl ?_
  refine v_get fX3_32 dX3_advance_24 0 rfl rfl ?_
  refine v_iload_n dX3_advance_27 rfl 0 rfl ?_
  refine v_aald dX3_advance_28 12 rfl 0 rfl (by decide) (by decide) rfl ?_
  refine v_aload_n dX3_advance_29 rfl 1 rfl ?_
  refine v_get fX3_96 dX3_advance_30 0 rfl rfl ?_
  refine v_vMv (ws' := [(x0, .inr (3, [.ref o0, .ref g0, .ref (ad 0 0), .ref sA, .int (nI ho), .int (nI de)])), (o0, .inr (2, [.ref oFa, .ref oWi, .ref oPa, .ref oQu, .ref oSh, .int (nI hk), .int fl, .int ai, .int rn, .int rf, .int rt])), (oFa, .inl (G.2.1, 6, .inl (pN fn))), (oWi, .inl (G.2.1, 6, .inl wi)), (oPa, .inl (G.2.1, 6, .inl (pN pn))), (oQu, .inl (G.2.1, 6, .inl qu)), (oSh, .inl (G.2.1, 24, .inl sh)), (g0, .inr (1, [.ref lH, .ref lS, .ref lW, .ref lT, .int (nI (min (J_bn (s_mill (s_short (P_w (s_run (nvF 0) ai (s_gz (nI ho)) wi qu sh pn hk ((C_ca (cs 0)), (C_tk (cs 0)), (C_gr (cs 0)), (C_go (cs 0)), (C_we (cs 0)), (C_dr (cs 0)), (C_ea (cs 0)), (C_du (cs 0)), fl))) (s_ra fl rn rf rt (nI ho))) (nI ho) (s_jrun (P_tk (s_run (nvF 0) ai (s_gz (nI ho)) wi qu sh pn hk ((C_ca (cs 0)), (C_tk (cs 0)), (C_gr (cs 0)), (C_go (cs 0)), (C_we (cs 0)), (C_dr (cs 0)), (C_ea (cs 0)), (C_du (cs 0)), fl))) fn fl ai (nI ho) hk (lh, ls, lw, lt, bn, 0, 0)))) 60)), .int (nI (J_bn (s_mill (s_short (P_w (s_run (nvF 0) ai (s_gz (nI ho)) wi qu sh pn hk ((C_ca (cs 0)), (C_tk (cs 0)), (C_gr (cs 0)), (C_go (cs 0)), (C_we (cs 0)), (C_dr (cs 0)), (C_ea (cs 0)), (C_du (cs 0)), fl))) (s_ra fl rn rf rt (nI ho))) (nI ho) (s_jrun (P_tk (s_run (nvF 0) ai (s_gz (nI ho)) wi qu sh pn hk ((C_ca (cs 0)), (C_tk (cs 0)), (C_gr (cs 0)), (C_go (cs 0)), (C_we (cs 0)), (C_dr (cs 0)), (C_ea (cs 0)), (C_du (cs 0)), fl))) fn fl ai (nI ho) hk (lh, ls, lw, lt, bn, 0, 0)))))])), (lH, .inl (G.2.1, 60, .inl (J_lh (s_mill (s_short (P_w (s_run (nvF 0) ai (s_gz (nI ho)) wi qu sh pn hk ((C_ca (cs 0)), (C_tk (cs 0)), (C_gr (cs 0)), (C_go (cs 0)), (C_we (cs 0)), (C_dr (cs 0)), (C_ea (cs 0)), (C_du (cs 0)), fl))) (s_ra fl rn rf rt (nI ho))) (nI ho) (s_jrun (P_tk (s_run (nvF 0) ai (s_gz (nI ho)) wi qu sh pn hk ((C_ca (cs 0)), (C_tk (cs 0)), (C_gr (cs 0)), (C_go (cs 0)), (C_we (cs 0)), (C_dr (cs 0)), (C_ea (cs 0)), (C_du (cs 0)), fl))) fn fl ai (nI ho) hk (lh, ls, lw, lt, bn, 0, 0)))))), (lS, .inl (G.2.1, 60, .inl (J_ls (s_mill (s_short (P_w (s_run (nvF 0) ai (s_gz (nI ho)) wi qu sh pn hk ((C_ca (cs 0)), (C_tk (cs 0)), (C_gr (cs 0)), (C_go (cs 0)), (C_we (cs 0)), (C_dr (cs 0)), (C_ea (cs 0)), (C_du (cs 0)), fl))) (s_ra fl rn rf rt (nI ho))) (nI ho) (s_jrun (P_tk (s_run (nvF 0) ai (s_gz (nI ho)) wi qu sh pn hk ((C_ca (cs 0)), (C_tk (cs 0)), (C_gr (cs 0)), (C_go (cs 0)), (C_we (cs 0)), (C_dr (cs 0)), (C_ea (cs 0)), (C_du (cs 0)), fl))) fn fl ai (nI ho) hk (lh, ls, lw, lt, bn, 0, 0)))))), (lW, .inl (G.2.1, 60, .inl (J_lw (s_mill (s_short (P_w (s_run (nvF 0) ai (s_gz (nI ho)) wi qu sh pn hk ((C_ca (cs 0)), (C_tk (cs 0)), (C_gr (cs 0)), (C_go (cs 0)), (C_we (cs 0)), (C_dr (cs 0)), (C_ea (cs 0)), (C_du (cs 0)), fl))) (s_ra fl rn rf rt (nI ho))) (nI ho) (s_jrun (P_tk (s_run (nvF 0) ai (s_gz (nI ho)) wi qu sh pn hk ((C_ca (cs 0)), (C_tk (cs 0)), (C_gr (cs 0)), (C_go (cs 0)), (C_we (cs 0)), (C_dr (cs 0)), (C_ea (cs 0)), (C_du (cs 0)), fl))) fn fl ai (nI ho) hk (lh, ls, lw, lt, bn, 0, 0)))))), (lT, .inl (G.2.1, 4, .inl (J_lt (s_mill (s_short (P_w (s_run (nvF 0) ai (s_gz (nI ho)) wi qu sh pn hk ((C_ca (cs 0)), (C_tk (cs 0)), (C_gr (cs 0)), (C_go (cs 0)), (C_we (cs 0)), (C_dr (cs 0)), (C_ea (cs 0)), (C_du (cs 0)), fl))) (s_ra fl rn rf rt (nI ho))) (nI ho) (s_jrun (P_tk (s_run (nvF 0) ai (s_gz (nI ho)) wi qu sh pn hk ((C_ca (cs 0)), (C_tk (cs 0)), (C_gr (cs 0)), (C_go (cs 0)), (C_we (cs 0)), (C_dr (cs 0)), (C_ea (cs 0)), (C_du (cs 0)), fl))) fn fl ai (nI ho) hk (lh, ls, lw, lt, bn, 0, 0)))))), (sA, .inl (G.2.2, 6, .inr (.inr (.inr (.inr (fun i => some (ad (i + 1) 0))))))), (ad 0 0, .inr (0, [.ref o0, .int (nvF 0), .ref (ad 0 1), .ref (ad 0 2), .ref (ad 0 3), .ref (ad 0 4), .ref (ad 0 5), .ref (ad 0 6), .ref (ad 0 7), .int ((C_br (cs 0)) + fl), .int (P_du (s_run (nvF 0) ai (s_gz (nI ho)) wi qu sh pn hk ((C_ca (cs 0)), (C_tk (cs 0)), (C_gr (cs 0)), (C_go (cs 0)), (C_we (cs 0)), (C_dr (cs 0)), (C_ea (cs 0)), (C_du (cs 0)), fl))), .int ((C_mi (cs 0)) + (P_w (s_run (nvF 0) ai (s_gz (nI ho)) wi qu sh pn hk ((C_ca (cs 0)), (C_tk (cs 0)), (C_gr (cs 0)), (C_go (cs 0)), (C_we (cs 0)), (C_dr (cs 0)), (C_ea (cs 0)), (C_du (cs 0)), fl)))), .int (P_w (s_run (nvF 0) ai (s_gz (nI ho)) wi qu sh pn hk ((C_ca (cs 0)), (C_tk (cs 0)), (C_gr (cs 0)), (C_go (cs 0)), (C_we (cs 0)), (C_dr (cs 0)), (C_ea (cs 0)), (C_du (cs 0)), fl))), .int (s_mb (P_w (s_run (nvF 0) ai (s_gz (nI ho)) wi qu sh pn hk ((C_ca (cs 0)), (C_tk (cs 0)), (C_gr (cs 0)), (C_go (cs 0)), (C_we (cs 0)), (C_dr (cs 0)), (C_ea (cs 0)), (C_du (cs 0)), fl))) (s_ra fl rn rf rt (nI ho)) (C_mb (cs 0)))])), (ad 0 1, .inl (G.2.1, 6, .inl (P_ca (s_run (nvF 0) ai (s_gz (nI ho)) wi qu sh pn hk ((C_ca (cs 0)), (C_tk (cs 0)), (C_gr (cs 0)), (C_go (cs 0)), (C_we (cs 0)), (C_dr (cs 0)), (C_ea (cs 0)), (C_du (cs 0)), fl))))), (ad 0 2, .inl (G.2.1, 6, .inl (P_tk (s_run (nvF 0) ai (s_gz (nI ho)) wi qu sh pn hk ((C_ca (cs 0)), (C_tk (cs 0)), (C_gr (cs 0)), (C_go (cs 0)), (C_we (cs 0)), (C_dr (cs 0)), (C_ea (cs 0)), (C_du (cs 0)), fl))))), (ad 0 3, .inl (G.2.1, 24, .inl (P_gr (s_run (nvF 0) ai (s_gz (nI ho)) wi qu sh pn hk ((C_ca (cs 0)), (C_tk (cs 0)), (C_gr (cs 0)), (C_go (cs 0)), (C_we (cs 0)), (C_dr (cs 0)), (C_ea (cs 0)), (C_du (cs 0)), fl))))), (ad 0 4, .inl (G.2.1, 24, .inl (P_go (s_run (nvF 0) ai (s_gz (nI ho)) wi qu sh pn hk ((C_ca (cs 0)), (C_tk (cs 0)), (C_gr (cs 0)), (C_go (cs 0)), (C_we (cs 0)), (C_dr (cs 0)), (C_ea (cs 0)), (C_du (cs 0)), fl))))), (ad 0 5, .inl (G.2.1, 24, .inl (P_we (s_run (nvF 0) ai (s_gz (nI ho)) wi qu sh pn hk ((C_ca (cs 0)), (C_tk (cs 0)), (C_gr (cs 0)), (C_go (cs 0)), (C_we (cs 0)), (C_dr (cs 0)), (C_ea (cs 0)), (C_du (cs 0)), fl))))), (ad 0 6, .inl (G.2.1, 24, .inl (P_dr (s_run (nvF 0) ai (s_gz (nI ho)) wi qu sh pn hk ((C_ca (cs 0)), (C_tk (cs 0)), (C_gr (cs 0)), (C_go (cs 0)), (C_we (cs 0)), (C_dr (cs 0)), (C_ea (cs 0)), (C_du (cs 0)), fl))))), (ad 0 7, .inl (G.2.1, 24, .inl (P_ea (s_run (nvF 0) ai (s_gz (nI ho)) wi qu sh pn hk ((C_ca (cs 0)), (C_tk (cs 0)), (C_gr (cs 0)), (C_go (cs 0)), (C_we (cs 0)), (C_dr (cs 0)), (C_ea (cs 0)), (C_du (cs 0)), fl))))), (ad 1 0, .inr (0, [.ref o0, .int (nvF 1), .ref (ad 1 1), .ref (ad 1 2), .ref (ad 1 3), .ref (ad 1 4), .ref (ad 1 5), .ref (ad 1 6), .ref (ad 1 7), .int ((C_br (cs 1)) + fl), .int (P_du (s_run (nvF 1) ai (s_gz (nI ho)) wi qu sh pn hk ((C_ca (cs 1)), (C_tk (cs 1)), (C_gr (cs 1)), (C_go (cs 1)), (C_we (cs 1)), (C_dr (cs 1)), (C_ea (cs 1)), (C_du (cs 1)), fl))), .int ((C_mi (cs 1)) + (P_w (s_run (nvF 1) ai (s_gz (nI ho)) wi qu sh pn hk ((C_ca (cs 1)), (C_tk (cs 1)), (C_gr (cs 1)), (C_go (cs 1)), (C_we (cs 1)), (C_dr (cs 1)), (C_ea (cs 1)), (C_du (cs 1)), fl)))), .int (P_w (s_run (nvF 1) ai (s_gz (nI ho)) wi qu sh pn hk ((C_ca (cs 1)), (C_tk (cs 1)), (C_gr (cs 1)), (C_go (cs 1)), (C_we (cs 1)), (C_dr (cs 1)), (C_ea (cs 1)), (C_du (cs 1)), fl))), .int (s_mb (P_w (s_run (nvF 1) ai (s_gz (nI ho)) wi qu sh pn hk ((C_ca (cs 1)), (C_tk (cs 1)), (C_gr (cs 1)), (C_go (cs 1)), (C_we (cs 1)), (C_dr (cs 1)), (C_ea (cs 1)), (C_du (cs 1)), fl))) (s_ra fl rn rf rt (nI ho)) (C_mb (cs 1)))])), (ad 1 1, .inl (G.2.1, 6, .inl (P_ca (s_run (nvF 1) ai (s_gz (nI ho)) wi qu sh pn hk ((C_ca (cs 1)), (C_tk (cs 1)), (C_gr (cs 1)), (C_go (cs 1)), (C_we (cs 1)), (C_dr (cs 1)), (C_ea (cs 1)), (C_du (cs 1)), fl))))), (ad 1 2, .inl (G.2.1, 6, .inl (P_tk (s_run (nvF 1) ai (s_gz (nI ho)) wi qu sh pn hk ((C_ca (cs 1)), (C_tk (cs 1)), (C_gr (cs 1)), (C_go (cs 1)), (C_we (cs 1)), (C_dr (cs 1)), (C_ea (cs 1)), (C_du (cs 1)), fl))))), (ad 1 3, .inl (G.2.1, 24, .inl (P_gr (s_run (nvF 1) ai (s_gz (nI ho)) wi qu sh pn hk ((C_ca (cs 1)), (C_tk (cs 1)), (C_gr (cs 1)), (C_go (cs 1)), (C_we (cs 1)), (C_dr (cs 1)), (C_ea (cs 1)), (C_du (cs 1)), fl))))), (ad 1 4, .inl (G.2.1, 24, .inl (P_go (s_run (nvF 1) ai (s_gz (nI ho)) wi qu sh pn hk ((C_ca (cs 1)), (C_tk (cs 1)), (C_gr (cs 1)), (C_go (cs 1)), (C_we (cs 1)), (C_dr (cs 1)), (C_ea (cs 1)), (C_du (cs 1)), fl))))), (ad 1 5, .inl (G.2.1, 24, .inl (P_we (s_run (nvF 1) ai (s_gz (nI ho)) wi qu sh pn hk ((C_ca (cs 1)), (C_tk (cs 1)), (C_gr (cs 1)), (C_go (cs 1)), (C_we (cs 1)), (C_dr (cs 1)), (C_ea (cs 1)), (C_du (cs 1)), fl))))), (ad 1 6, .inl (G.2.1, 24, .inl (P_dr (s_run (nvF 1) ai (s_gz (nI ho)) wi qu sh pn hk ((C_ca (cs 1)), (C_tk (cs 1)), (C_gr (cs 1)), (C_go (cs 1)), (C_we (cs 1)), (C_dr (cs 1)), (C_ea (cs 1)), (C_du (cs 1)), fl))))), (ad 1 7, .inl (G.2.1, 24, .inl (P_ea (s_run (nvF 1) ai (s_gz (nI ho)) wi qu sh pn hk ((C_ca (cs 1)), (C_tk (cs 1)), (C_gr (cs 1)), (C_go (cs 1)), (C_we (cs 1)), (C_dr (cs 1)), (C_ea (cs 1)), (C_du (cs 1)), fl))))), (ad 2 0, .inr (0, [.ref o0, .int (nvF 2), .ref (ad 2 1), .ref (ad 2 2), .ref (ad 2 3), .ref (ad 2 4), .ref (ad 2 5), .ref (ad 2 6), .ref (ad 2 7), .int (C_br (cs 2)), .int (C_du (cs 2)), .int (C_mi (cs 2)), .int (C_am (cs 2)), .int (C_mb (cs 2))])), (ad 2 1, .inl (G.2.1, 6, .inl (C_ca (cs 2)))), (ad 2 2, .inl (G.2.1, 6, .inl (C_tk (cs 2)))), (ad 2 3, .inl (G.2.1, 24, .inl (C_gr (cs 2)))), (ad 2 4, .inl (G.2.1, 24, .inl (C_go (cs 2)))), (ad 2 5, .inl (G.2.1, 24, .inl (C_we (cs 2)))), (ad 2 6, .inl (G.2.1, 24, .inl (C_dr (cs 2)))), (ad 2 7, .inl (G.2.1, 24, .inl (C_ea (cs 2)))), (ad 3 0, .inr (0, [.ref o0, .int (nvF 3), .ref (ad 3 1), .ref (ad 3 2), .ref (ad 3 3), .ref (ad 3 4), .ref (ad 3 5), .ref (ad 3 6), .ref (ad 3 7), .int (C_br (cs 3)), .int (C_du (cs 3)), .int (C_mi (cs 3)), .int (C_am (cs 3)), .int (C_mb (cs 3))])), (ad 3 1, .inl (G.2.1, 6, .inl (C_ca (cs 3)))), (ad 3 2, .inl (G.2.1, 6, .inl (C_tk (cs 3)))), (ad 3 3, .inl (G.2.1, 24, .inl (C_gr (cs 3)))), (ad 3 4, .inl (G.2.1, 24, .inl (C_go (cs 3)))), (ad 3 5, .inl (G.2.1, 24, .inl (C_we (cs 3)))), (ad 3 6, .inl (G.2.1, 24, .inl (C_dr (cs 3)))), (ad 3 7, .inl (G.2.1, 24, .inl (C_ea (cs 3)))), (ad 4 0, .inr (0, [.ref o0, .int (nvF 4), .ref (ad 4 1), .ref (ad 4 2), .ref (ad 4 3), .ref (ad 4 4), .ref (ad 4 5), .ref (ad 4 6), .ref (ad 4 7), .int (C_br (cs 4)), .int (C_du (cs 4)), .int (C_mi (cs 4)), .int (C_am (cs 4)), .int (C_mb (cs 4))])), (ad 4 1, .inl (G.2.1, 6, .inl (C_ca (cs 4)))), (ad 4 2, .inl (G.2.1, 6, .inl (C_tk (cs 4)))), (ad 4 3, .inl (G.2.1, 24, .inl (C_gr (cs 4)))), (ad 4 4, .inl (G.2.1, 24, .inl (C_go (cs 4)))), (ad 4 5, .inl (G.2.1, 24, .inl (C_we (cs 4)))), (ad 4 6, .inl (G.2.1, 24, .inl (C_dr (cs 4)))), (ad 4 7, .inl (G.2.1, 24, .inl (C_ea (cs 4)))), (ad 5 0, .inr (0, [.ref o0, .int (nvF 5), .ref (ad 5 1), .ref (ad 5 2), .ref (ad 5 3), .ref (ad 5 4), .ref (ad 5 5), .ref (ad 5 6), .ref (ad 5 7), .int (C_br (cs 5)), .int (C_du (cs 5)), .int (C_mi (cs 5)), .int (C_am (cs 5)), .int (C_mb (cs 5))])), (ad 5 1, .inl (G.2.1, 6, .inl (C_ca (cs 5)))), (ad 5 2, .inl (G.2.1, 6, .inl (C_tk (cs 5)))), (ad 5 3, .inl (G.2.1, 24, .inl (C_gr (cs 5)))), (ad 5 4, .inl (G.2.1, 24, .inl (C_go (cs 5)))), (ad 5 5, .inl (G.2.1, 24, .inl (C_we (cs 5)))), (ad 5 6, .inl (G.2.1, 24, .inl (C_dr (cs 5)))), (ad 5 7, .inl (G.2.1, 24, .inl (C_ea (cs 5)))), (ad 6 0, .inr (0, [.ref o0, .int (nvF 6), .ref (ad 6 1), .ref (ad 6 2), .ref (ad 6 3), .ref (ad 6 4), .ref (ad 6 5), .ref (ad 6 6), .ref (ad 6 7), .int (C_br (cs 6)), .int (C_du (cs 6)), .int (C_mi (cs 6)), .int (C_am (cs 6)), .int (C_mb (cs 6))])), (ad 6 1, .inl (G.2.1, 6, .inl (C_ca (cs 6)))), (ad 6 2, .inl (G.2.1, 6, .inl (C_tk (cs 6)))), (ad 6 3, .inl (G.2.1, 24, .inl (C_gr (cs 6)))), (ad 6 4, .inl (G.2.1, 24, .inl (C_go (cs 6)))), (ad 6 5, .inl (G.2.1, 24, .inl (C_we (cs 6)))), (ad 6 6, .inl (G.2.1, 24, .inl (C_dr (cs 6)))), (ad 6 7, .inl (G.2.1, 24, .inl (C_ea (cs 6))))]) (As := [.int (nI ho)]) (rest := []) (c_X0_passHour l G (ad 1 0) o0 (nvF 1) (ad 1 1) (ad 1 2) (ad 1 3) (ad 1 4) (ad 1 5) (ad 1 6) (ad 1 7) (C_br (cs 1)) (C_du (cs 1)) (C_mi (cs 1)) (C_am (cs 1)) (C_mb (cs 1)) oFa oWi oPa oQu oSh hk fl ai rn rf rt (C_ca (cs 1)) (C_tk (cs 1)) (C_gr (cs 1)) (C_go (cs 1)) (C_we (cs 1)) (C_dr (cs 1)) (C_ea (cs 1)) wi qu sh pn (nI ho) hk6 hpn) YX0_passHour mX3_169 dX3_advance_33 ciX0 21 rfl [21, 22, 23, 24, 25, 26, 27, 28, 1, 3, 4, 5, 6] (by decide) rfl rfl rfl rfl rfl rfl (Nat.le_of_ble_eq_true rfl) (by decide) (by decide) ?_
  refine v_iinc (v := 1) (q := 0) (lv' := [(1, .int 1), (0, .ref x0)]) dX3_advance_36 rfl (by decide) (by decide) rfl ?_
  refine v_goto (tgt := 17) dX3_advance_39 (by decide) ?_
  refine v_iload_n dX3_advance_17 rfl 0 rfl ?_
  refine v_bipush (v := 6) dX3_advance_18 (by decide) ?_
  refine v_icmp_ge (tgt := 42) dX3_advance_20 (by decide) (fun h20 => absurd h20 (by decide)) (fun h20 => ?_)
  refine v_aload_n dX3_advance_23 rfl 1 rfl ?_
  refine v_get fX3_32 dX3_advance_24 0 rfl rfl ?_
  refine v_iload_n dX3_advance_27 rfl 0 rfl ?_
  refine v_aald dX3_advance_28 12 rfl 1 rfl (by decide) (by decide) rfl ?_
  refine v_aload_n dX3_advance_29 rfl 1 rfl ?_
  refine v_get fX3_96 dX3_advance_30 0 rfl rfl ?_
  refine v_vMv (ws' := [(x0, .inr (3, [.ref o0, .ref g0, .ref (ad 0 0), .ref sA, .int (nI ho), .int (nI de)])), (o0, .inr (2, [.ref oFa, .ref oWi, .ref oPa, .ref oQu, .ref oSh, .int (nI hk), .int fl, .int ai, .int rn, .int rf, .int rt])), (oFa, .inl (G.2.1, 6, .inl (pN fn))), (oWi, .inl (G.2.1, 6, .inl wi)), (oPa, .inl (G.2.1, 6, .inl (pN pn))), (oQu, .inl (G.2.1, 6, .inl qu)), (oSh, .inl (G.2.1, 24, .inl sh)), (g0, .inr (1, [.ref lH, .ref lS, .ref lW, .ref lT, .int (nI (min (J_bn (s_mill (s_short (P_w (s_run (nvF 0) ai (s_gz (nI ho)) wi qu sh pn hk ((C_ca (cs 0)), (C_tk (cs 0)), (C_gr (cs 0)), (C_go (cs 0)), (C_we (cs 0)), (C_dr (cs 0)), (C_ea (cs 0)), (C_du (cs 0)), fl))) (s_ra fl rn rf rt (nI ho))) (nI ho) (s_jrun (P_tk (s_run (nvF 0) ai (s_gz (nI ho)) wi qu sh pn hk ((C_ca (cs 0)), (C_tk (cs 0)), (C_gr (cs 0)), (C_go (cs 0)), (C_we (cs 0)), (C_dr (cs 0)), (C_ea (cs 0)), (C_du (cs 0)), fl))) fn fl ai (nI ho) hk (lh, ls, lw, lt, bn, 0, 0)))) 60)), .int (nI (J_bn (s_mill (s_short (P_w (s_run (nvF 0) ai (s_gz (nI ho)) wi qu sh pn hk ((C_ca (cs 0)), (C_tk (cs 0)), (C_gr (cs 0)), (C_go (cs 0)), (C_we (cs 0)), (C_dr (cs 0)), (C_ea (cs 0)), (C_du (cs 0)), fl))) (s_ra fl rn rf rt (nI ho))) (nI ho) (s_jrun (P_tk (s_run (nvF 0) ai (s_gz (nI ho)) wi qu sh pn hk ((C_ca (cs 0)), (C_tk (cs 0)), (C_gr (cs 0)), (C_go (cs 0)), (C_we (cs 0)), (C_dr (cs 0)), (C_ea (cs 0)), (C_du (cs 0)), fl))) fn fl ai (nI ho) hk (lh, ls, lw, lt, bn, 0, 0)))))])), (lH, .inl (G.2.1, 60, .inl (J_lh (s_mill (s_short (P_w (s_run (nvF 0) ai (s_gz (nI ho)) wi qu sh pn hk ((C_ca (cs 0)), (C_tk (cs 0)), (C_gr (cs 0)), (C_go (cs 0)), (C_we (cs 0)), (C_dr (cs 0)), (C_ea (cs 0)), (C_du (cs 0)), fl))) (s_ra fl rn rf rt (nI ho))) (nI ho) (s_jrun (P_tk (s_run (nvF 0) ai (s_gz (nI ho)) wi qu sh pn hk ((C_ca (cs 0)), (C_tk (cs 0)), (C_gr (cs 0)), (C_go (cs 0)), (C_we (cs 0)), (C_dr (cs 0)), (C_ea (cs 0)), (C_du (cs 0)), fl))) fn fl ai (nI ho) hk (lh, ls, lw, lt, bn, 0, 0)))))), (lS, .inl (G.2.1, 60, .inl (J_ls (s_mill (s_short (P_w (s_run (nvF 0) ai (s_gz (nI ho)) wi qu sh pn hk ((C_ca (cs 0)), (C_tk (cs 0)), (C_gr (cs 0)), (C_go (cs 0)), (C_we (cs 0)), (C_dr (cs 0)), (C_ea (cs 0)), (C_du (cs 0)), fl))) (s_ra fl rn rf rt (nI ho))) (nI ho) (s_jrun (P_tk (s_run (nvF 0) ai (s_gz (nI ho)) wi qu sh pn hk ((C_ca (cs 0)), (C_tk (cs 0)), (C_gr (cs 0)), (C_go (cs 0)), (C_we (cs 0)), (C_dr (cs 0)), (C_ea (cs 0)), (C_du (cs 0)), fl))) fn fl ai (nI ho) hk (lh, ls, lw, lt, bn, 0, 0)))))), (lW, .inl (G.2.1, 60, .inl (J_lw (s_mill (s_short (P_w (s_run (nvF 0) ai (s_gz (nI ho)) wi qu sh pn hk ((C_ca (cs 0)), (C_tk (cs 0)), (C_gr (cs 0)), (C_go (cs 0)), (C_we (cs 0)), (C_dr (cs 0)), (C_ea (cs 0)), (C_du (cs 0)), fl))) (s_ra fl rn rf rt (nI ho))) (nI ho) (s_jrun (P_tk (s_run (nvF 0) ai (s_gz (nI ho)) wi qu sh pn hk ((C_ca (cs 0)), (C_tk (cs 0)), (C_gr (cs 0)), (C_go (cs 0)), (C_we (cs 0)), (C_dr (cs 0)), (C_ea (cs 0)), (C_du (cs 0)), fl))) fn fl ai (nI ho) hk (lh, ls, lw, lt, bn, 0, 0)))))), (lT, .inl (G.2.1, 4, .inl (J_lt (s_mill (s_short (P_w (s_run (nvF 0) ai (s_gz (nI ho)) wi qu sh pn hk ((C_ca (cs 0)), (C_tk (cs 0)), (C_gr (cs 0)), (C_go (cs 0)), (C_we (cs 0)), (C_dr (cs 0)), (C_ea (cs 0)), (C_du (cs 0)), fl))) (s_ra fl rn rf rt (nI ho))) (nI ho) (s_jrun (P_tk (s_run (nvF 0) ai (s_gz (nI ho)) wi qu sh pn hk ((C_ca (cs 0)), (C_tk (cs 0)), (C_gr (cs 0)), (C_go (cs 0)), (C_we (cs 0)), (C_dr (cs 0)), (C_ea (cs 0)), (C_du (cs 0)), fl))) fn fl ai (nI ho) hk (lh, ls, lw, lt, bn, 0, 0)))))), (sA, .inl (G.2.2, 6, .inr (.inr (.inr (.inr (fun i => some (ad (i + 1) 0))))))), (ad 0 0, .inr (0, [.ref o0, .int (nvF 0), .ref (ad 0 1), .ref (ad 0 2), .ref (ad 0 3), .ref (ad 0 4), .ref (ad 0 5), .ref (ad 0 6), .ref (ad 0 7), .int ((C_br (cs 0)) + fl), .int (P_du (s_run (nvF 0) ai (s_gz (nI ho)) wi qu sh pn hk ((C_ca (cs 0)), (C_tk (cs 0)), (C_gr (cs 0)), (C_go (cs 0)), (C_we (cs 0)), (C_dr (cs 0)), (C_ea (cs 0)), (C_du (cs 0)), fl))), .int ((C_mi (cs 0)) + (P_w (s_run (nvF 0) ai (s_gz (nI ho)) wi qu sh pn hk ((C_ca (cs 0)), (C_tk (cs 0)), (C_gr (cs 0)), (C_go (cs 0)), (C_we (cs 0)), (C_dr (cs 0)), (C_ea (cs 0)), (C_du (cs 0)), fl)))), .int (P_w (s_run (nvF 0) ai (s_gz (nI ho)) wi qu sh pn hk ((C_ca (cs 0)), (C_tk (cs 0)), (C_gr (cs 0)), (C_go (cs 0)), (C_we (cs 0)), (C_dr (cs 0)), (C_ea (cs 0)), (C_du (cs 0)), fl))), .int (s_mb (P_w (s_run (nvF 0) ai (s_gz (nI ho)) wi qu sh pn hk ((C_ca (cs 0)), (C_tk (cs 0)), (C_gr (cs 0)), (C_go (cs 0)), (C_we (cs 0)), (C_dr (cs 0)), (C_ea (cs 0)), (C_du (cs 0)), fl))) (s_ra fl rn rf rt (nI ho)) (C_mb (cs 0)))])), (ad 0 1, .inl (G.2.1, 6, .inl (P_ca (s_run (nvF 0) ai (s_gz (nI ho)) wi qu sh pn hk ((C_ca (cs 0)), (C_tk (cs 0)), (C_gr (cs 0)), (C_go (cs 0)), (C_we (cs 0)), (C_dr (cs 0)), (C_ea (cs 0)), (C_du (cs 0)), fl))))), (ad 0 2, .inl (G.2.1, 6, .inl (P_tk (s_run (nvF 0) ai (s_gz (nI ho)) wi qu sh pn hk ((C_ca (cs 0)), (C_tk (cs 0)), (C_gr (cs 0)), (C_go (cs 0)), (C_we (cs 0)), (C_dr (cs 0)), (C_ea (cs 0)), (C_du (cs 0)), fl))))), (ad 0 3, .inl (G.2.1, 24, .inl (P_gr (s_run (nvF 0) ai (s_gz (nI ho)) wi qu sh pn hk ((C_ca (cs 0)), (C_tk (cs 0)), (C_gr (cs 0)), (C_go (cs 0)), (C_we (cs 0)), (C_dr (cs 0)), (C_ea (cs 0)), (C_du (cs 0)), fl))))), (ad 0 4, .inl (G.2.1, 24, .inl (P_go (s_run (nvF 0) ai (s_gz (nI ho)) wi qu sh pn hk ((C_ca (cs 0)), (C_tk (cs 0)), (C_gr (cs 0)), (C_go (cs 0)), (C_we (cs 0)), (C_dr (cs 0)), (C_ea (cs 0)), (C_du (cs 0)), fl))))), (ad 0 5, .inl (G.2.1, 24, .inl (P_we (s_run (nvF 0) ai (s_gz (nI ho)) wi qu sh pn hk ((C_ca (cs 0)), (C_tk (cs 0)), (C_gr (cs 0)), (C_go (cs 0)), (C_we (cs 0)), (C_dr (cs 0)), (C_ea (cs 0)), (C_du (cs 0)), fl))))), (ad 0 6, .inl (G.2.1, 24, .inl (P_dr (s_run (nvF 0) ai (s_gz (nI ho)) wi qu sh pn hk ((C_ca (cs 0)), (C_tk (cs 0)), (C_gr (cs 0)), (C_go (cs 0)), (C_we (cs 0)), (C_dr (cs 0)), (C_ea (cs 0)), (C_du (cs 0)), fl))))), (ad 0 7, .inl (G.2.1, 24, .inl (P_ea (s_run (nvF 0) ai (s_gz (nI ho)) wi qu sh pn hk ((C_ca (cs 0)), (C_tk (cs 0)), (C_gr (cs 0)), (C_go (cs 0)), (C_we (cs 0)), (C_dr (cs 0)), (C_ea (cs 0)), (C_du (cs 0)), fl))))), (ad 1 0, .inr (0, [.ref o0, .int (nvF 1), .ref (ad 1 1), .ref (ad 1 2), .ref (ad 1 3), .ref (ad 1 4), .ref (ad 1 5), .ref (ad 1 6), .ref (ad 1 7), .int ((C_br (cs 1)) + fl), .int (P_du (s_run (nvF 1) ai (s_gz (nI ho)) wi qu sh pn hk ((C_ca (cs 1)), (C_tk (cs 1)), (C_gr (cs 1)), (C_go (cs 1)), (C_we (cs 1)), (C_dr (cs 1)), (C_ea (cs 1)), (C_du (cs 1)), fl))), .int ((C_mi (cs 1)) + (P_w (s_run (nvF 1) ai (s_gz (nI ho)) wi qu sh pn hk ((C_ca (cs 1)), (C_tk (cs 1)), (C_gr (cs 1)), (C_go (cs 1)), (C_we (cs 1)), (C_dr (cs 1)), (C_ea (cs 1)), (C_du (cs 1)), fl)))), .int (P_w (s_run (nvF 1) ai (s_gz (nI ho)) wi qu sh pn hk ((C_ca (cs 1)), (C_tk (cs 1)), (C_gr (cs 1)), (C_go (cs 1)), (C_we (cs 1)), (C_dr (cs 1)), (C_ea (cs 1)), (C_du (cs 1)), fl))), .int (s_mb (P_w (s_run (nvF 1) ai (s_gz (nI ho)) wi qu sh pn hk ((C_ca (cs 1)), (C_tk (cs 1)), (C_gr (cs 1)), (C_go (cs 1)), (C_we (cs 1)), (C_dr (cs 1)), (C_ea (cs 1)), (C_du (cs 1)), fl))) (s_ra fl rn rf rt (nI ho)) (C_mb (cs 1)))])), (ad 1 1, .inl (G.2.1, 6, .inl (P_ca (s_run (nvF 1) ai (s_gz (nI ho)) wi qu sh pn hk ((C_ca (cs 1)), (C_tk (cs 1)), (C_gr (cs 1)), (C_go (cs 1)), (C_we (cs 1)), (C_dr (cs 1)), (C_ea (cs 1)), (C_du (cs 1)), fl))))), (ad 1 2, .inl (G.2.1, 6, .inl (P_tk (s_run (nvF 1) ai (s_gz (nI ho)) wi qu sh pn hk ((C_ca (cs 1)), (C_tk (cs 1)), (C_gr (cs 1)), (C_go (cs 1)), (C_we (cs 1)), (C_dr (cs 1)), (C_ea (cs 1)), (C_du (cs 1)), fl))))), (ad 1 3, .inl (G.2.1, 24, .inl (P_gr (s_run (nvF 1) ai (s_gz (nI ho)) wi qu sh pn hk ((C_ca (cs 1)), (C_tk (cs 1)), (C_gr (cs 1)), (C_go (cs 1)), (C_we (cs 1)), (C_dr (cs 1)), (C_ea (cs 1)), (C_du (cs 1)), fl))))), (ad 1 4, .inl (G.2.1, 24, .inl (P_go (s_run (nvF 1) ai (s_gz (nI ho)) wi qu sh pn hk ((C_ca (cs 1)), (C_tk (cs 1)), (C_gr (cs 1)), (C_go (cs 1)), (C_we (cs 1)), (C_dr (cs 1)), (C_ea (cs 1)), (C_du (cs 1)), fl))))), (ad 1 5, .inl (G.2.1, 24, .inl (P_we (s_run (nvF 1) ai (s_gz (nI ho)) wi qu sh pn hk ((C_ca (cs 1)), (C_tk (cs 1)), (C_gr (cs 1)), (C_go (cs 1)), (C_we (cs 1)), (C_dr (cs 1)), (C_ea (cs 1)), (C_du (cs 1)), fl))))), (ad 1 6, .inl (G.2.1, 24, .inl (P_dr (s_run (nvF 1) ai (s_gz (nI ho)) wi qu sh pn hk ((C_ca (cs 1)), (C_tk (cs 1)), (C_gr (cs 1)), (C_go (cs 1)), (C_we (cs 1)), (C_dr (cs 1)), (C_ea (cs 1)), (C_du (cs 1)), fl))))), (ad 1 7, .inl (G.2.1, 24, .inl (P_ea (s_run (nvF 1) ai (s_gz (nI ho)) wi qu sh pn hk ((C_ca (cs 1)), (C_tk (cs 1)), (C_gr (cs 1)), (C_go (cs 1)), (C_we (cs 1)), (C_dr (cs 1)), (C_ea (cs 1)), (C_du (cs 1)), fl))))), (ad 2 0, .inr (0, [.ref o0, .int (nvF 2), .ref (ad 2 1), .ref (ad 2 2), .ref (ad 2 3), .ref (ad 2 4), .ref (ad 2 5), .ref (ad 2 6), .ref (ad 2 7), .int ((C_br (cs 2)) + fl), .int (P_du (s_run (nvF 2) ai (s_gz (nI ho)) wi qu sh pn hk ((C_ca (cs 2)), (C_tk (cs 2)), (C_gr (cs 2)), (C_go (cs 2)), (C_we (cs 2)), (C_dr (cs 2)), (C_ea (cs 2)), (C_du (cs 2)), fl))), .int ((C_mi (cs 2)) + (P_w (s_run (nvF 2) ai (s_gz (nI ho)) wi qu sh pn hk ((C_ca (cs 2)), (C_tk (cs 2)), (C_gr (cs 2)), (C_go (cs 2)), (C_we (cs 2)), (C_dr (cs 2)), (C_ea (cs 2)), (C_du (cs 2)), fl)))), .int (P_w (s_run (nvF 2) ai (s_gz (nI ho)) wi qu sh pn hk ((C_ca (cs 2)), (C_tk (cs 2)), (C_gr (cs 2)), (C_go (cs 2)), (C_we (cs 2)), (C_dr (cs 2)), (C_ea (cs 2)), (C_du (cs 2)), fl))), .int (s_mb (P_w (s_run (nvF 2) ai (s_gz (nI ho)) wi qu sh pn hk ((C_ca (cs 2)), (C_tk (cs 2)), (C_gr (cs 2)), (C_go (cs 2)), (C_we (cs 2)), (C_dr (cs 2)), (C_ea (cs 2)), (C_du (cs 2)), fl))) (s_ra fl rn rf rt (nI ho)) (C_mb (cs 2)))])), (ad 2 1, .inl (G.2.1, 6, .inl (P_ca (s_run (nvF 2) ai (s_gz (nI ho)) wi qu sh pn hk ((C_ca (cs 2)), (C_tk (cs 2)), (C_gr (cs 2)), (C_go (cs 2)), (C_we (cs 2)), (C_dr (cs 2)), (C_ea (cs 2)), (C_du (cs 2)), fl))))), (ad 2 2, .inl (G.2.1, 6, .inl (P_tk (s_run (nvF 2) ai (s_gz (nI ho)) wi qu sh pn hk ((C_ca (cs 2)), (C_tk (cs 2)), (C_gr (cs 2)), (C_go (cs 2)), (C_we (cs 2)), (C_dr (cs 2)), (C_ea (cs 2)), (C_du (cs 2)), fl))))), (ad 2 3, .inl (G.2.1, 24, .inl (P_gr (s_run (nvF 2) ai (s_gz (nI ho)) wi qu sh pn hk ((C_ca (cs 2)), (C_tk (cs 2)), (C_gr (cs 2)), (C_go (cs 2)), (C_we (cs 2)), (C_dr (cs 2)), (C_ea (cs 2)), (C_du (cs 2)), fl))))), (ad 2 4, .inl (G.2.1, 24, .inl (P_go (s_run (nvF 2) ai (s_gz (nI ho)) wi qu sh pn hk ((C_ca (cs 2)), (C_tk (cs 2)), (C_gr (cs 2)), (C_go (cs 2)), (C_we (cs 2)), (C_dr (cs 2)), (C_ea (cs 2)), (C_du (cs 2)), fl))))), (ad 2 5, .inl (G.2.1, 24, .inl (P_we (s_run (nvF 2) ai (s_gz (nI ho)) wi qu sh pn hk ((C_ca (cs 2)), (C_tk (cs 2)), (C_gr (cs 2)), (C_go (cs 2)), (C_we (cs 2)), (C_dr (cs 2)), (C_ea (cs 2)), (C_du (cs 2)), fl))))), (ad 2 6, .inl (G.2.1, 24, .inl (P_dr (s_run (nvF 2) ai (s_gz (nI ho)) wi qu sh pn hk ((C_ca (cs 2)), (C_tk (cs 2)), (C_gr (cs 2)), (C_go (cs 2)), (C_we (cs 2)), (C_dr (cs 2)), (C_ea (cs 2)), (C_du (cs 2)), fl))))), (ad 2 7, .inl (G.2.1, 24, .inl (P_ea (s_run (nvF 2) ai (s_gz (nI ho)) wi qu sh pn hk ((C_ca (cs 2)), (C_tk (cs 2)), (C_gr (cs 2)), (C_go (cs 2)), (C_we (cs 2)), (C_dr (cs 2)), (C_ea (cs 2)), (C_du (cs 2)), fl))))), (ad 3 0, .inr (0, [.ref o0, .int (nvF 3), .ref (ad 3 1), .ref (ad 3 2), .ref (ad 3 3), .ref (ad 3 4), .ref (ad 3 5), .ref (ad 3 6), .ref (ad 3 7), .int (C_br (cs 3)), .int (C_du (cs 3)), .int (C_mi (cs 3)), .int (C_am (cs 3)), .int (C_mb (cs 3))])), (ad 3 1, .inl (G.2.1, 6, .inl (C_ca (cs 3)))), (ad 3 2, .inl (G.2.1, 6, .inl (C_tk (cs 3)))), (ad 3 3, .inl (G.2.1, 24, .inl (C_gr (cs 3)))), (ad 3 4, .inl (G.2.1, 24, .inl (C_go (cs 3)))), (ad 3 5, .inl (G.2.1, 24, .inl (C_we (cs 3)))), (ad 3 6, .inl (G.2.1, 24, .inl (C_dr (cs 3)))), (ad 3 7, .inl (G.2.1, 24, .inl (C_ea (cs 3)))), (ad 4 0, .inr (0, [.ref o0, .int (nvF 4), .ref (ad 4 1), .ref (ad 4 2), .ref (ad 4 3), .ref (ad 4 4), .ref (ad 4 5), .ref (ad 4 6), .ref (ad 4 7), .int (C_br (cs 4)), .int (C_du (cs 4)), .int (C_mi (cs 4)), .int (C_am (cs 4)), .int (C_mb (cs 4))])), (ad 4 1, .inl (G.2.1, 6, .inl (C_ca (cs 4)))), (ad 4 2, .inl (G.2.1, 6, .inl (C_tk (cs 4)))), (ad 4 3, .inl (G.2.1, 24, .inl (C_gr (cs 4)))), (ad 4 4, .inl (G.2.1, 24, .inl (C_go (cs 4)))), (ad 4 5, .inl (G.2.1, 24, .inl (C_we (cs 4)))), (ad 4 6, .inl (G.2.1, 24, .inl (C_dr (cs 4)))), (ad 4 7, .inl (G.2.1, 24, .inl (C_ea (cs 4)))), (ad 5 0, .inr (0, [.ref o0, .int (nvF 5), .ref (ad 5 1), .ref (ad 5 2), .ref (ad 5 3), .ref (ad 5 4), .ref (ad 5 5), .ref (ad 5 6), .ref (ad 5 7), .int (C_br (cs 5)), .int (C_du (cs 5)), .int (C_mi (cs 5)), .int (C_am (cs 5)), .int (C_mb (cs 5))])), (ad 5 1, .inl (G.2.1, 6, .inl (C_ca (cs 5)))), (ad 5 2, .inl (G.2.1, 6, .inl (C_tk (cs 5)))), (ad 5 3, .inl (G.2.1, 24, .inl (C_gr (cs 5)))), (ad 5 4, .inl (G.2.1, 24, .inl (C_go (cs 5)))), (ad 5 5, .inl (G.2.1, 24, .inl (C_we (cs 5)))), (ad 5 6, .inl (G.2.1, 24, .inl (C_dr (cs 5)))), (ad 5 7, .inl (G.2.1, 24, .inl (C_ea (cs 5)))), (ad 6 0, .inr (0, [.ref o0, .int (nvF 6), .ref (ad 6 1), .ref (ad 6 2), .ref (ad 6 3), .ref (ad 6 4), .ref (ad 6 5), .ref (ad 6 6), .ref (ad 6 7), .int (C_br (cs 6)), .int (C_du (cs 6)), .int (C_mi (cs 6)), .int (C_am (cs 6)), .int (C_mb (cs 6))])), (ad 6 1, .inl (G.2.1, 6, .inl (C_ca (cs 6)))), (ad 6 2, .inl (G.2.1, 6, .inl (C_tk (cs 6)))), (ad 6 3, .inl (G.2.1, 24, .inl (C_gr (cs 6)))), (ad 6 4, .inl (G.2.1, 24, .inl (C_go (cs 6)))), (ad 6 5, .inl (G.2.1, 24, .inl (C_we (cs 6)))), (ad 6 6, .inl (G.2.1, 24, .inl (C_dr (cs 6)))), (ad 6 7, .inl (G.2.1, 24, .inl (C_ea (cs 6))))]) (As := [.int (nI ho)]) (rest := []) (c_X0_passHour l G (ad 2 0) o0 (nvF 2) (ad 2 1) (ad 2 2) (ad 2 3) (ad 2 4) (ad 2 5) (ad 2 6) (ad 2 7) (C_br (cs 2)) (C_du (cs 2)) (C_mi (cs 2)) (C_am (cs 2)) (C_mb (cs 2)) oFa oWi oPa oQu oSh hk fl ai rn rf rt (C_ca (cs 2)) (C_tk (cs 2)) (C_gr (cs 2)) (C_go (cs 2)) (C_we (cs 2)) (C_dr (cs 2)) (C_ea (cs 2)) wi qu sh pn (nI ho) hk6 hpn) YX0_passHour mX3_169 dX3_advance_33 ciX0 29 rfl [29, 30, 31, 32, 33, 34, 35, 36, 1, 3, 4, 5, 6] (by decide) rfl rfl rfl rfl rfl rfl (Nat.le_of_ble_eq_true rfl) (by decide) (by decide) ?_
  refine v_iinc (v := 2) (q := 0) (lv' := [(1, .int 2), (0, .ref x0)]) dX3_advance_36 rfl (by decide) (by decide) rfl ?_
  refine v_goto (tgt := 17) dX3_advance_39 (by decide) ?_
  refine v_iload_n dX3_advance_17 rfl 0 rfl ?_
  refine v_bipush (v := 6) dX3_advance_18 (by decide) ?_
  refine v_icmp_ge (tgt := 42) dX3_advance_20 (by decide) (fun h20 => absurd h20 (by decide)) (fun h20 => ?_)
  refine v_aload_n dX3_advance_23 rfl 1 rfl ?_
  refine v_get fX3_32 dX3_advance_24 0 rfl rfl ?_
  refine v_iload_n dX3_advance_27 rfl 0 rfl ?_
  refine v_aald dX3_advance_28 12 rfl 2 rfl (by decide) (by decide) rfl ?_
  refine v_aload_n dX3_advance_29 rfl 1 rfl ?_
  refine v_get fX3_96 dX3_advance_30 0 rfl rfl ?_
  refine v_vMv (ws' := [(x0, .inr (3, [.ref o0, .ref g0, .ref (ad 0 0), .ref sA, .int (nI ho), .int (nI de)])), (o0, .inr (2, [.ref oFa, .ref oWi, .ref oPa, .ref oQu, .ref oSh, .int (nI hk), .int fl, .int ai, .int rn, .int rf, .int rt])), (oFa, .inl (G.2.1, 6, .inl (pN fn))), (oWi, .inl (G.2.1, 6, .inl wi)), (oPa, .inl (G.2.1, 6, .inl (pN pn))), (oQu, .inl (G.2.1, 6, .inl qu)), (oSh, .inl (G.2.1, 24, .inl sh)), (g0, .inr (1, [.ref lH, .ref lS, .ref lW, .ref lT, .int (nI (min (J_bn (s_mill (s_short (P_w (s_run (nvF 0) ai (s_gz (nI ho)) wi qu sh pn hk ((C_ca (cs 0)), (C_tk (cs 0)), (C_gr (cs 0)), (C_go (cs 0)), (C_we (cs 0)), (C_dr (cs 0)), (C_ea (cs 0)), (C_du (cs 0)), fl))) (s_ra fl rn rf rt (nI ho))) (nI ho) (s_jrun (P_tk (s_run (nvF 0) ai (s_gz (nI ho)) wi qu sh pn hk ((C_ca (cs 0)), (C_tk (cs 0)), (C_gr (cs 0)), (C_go (cs 0)), (C_we (cs 0)), (C_dr (cs 0)), (C_ea (cs 0)), (C_du (cs 0)), fl))) fn fl ai (nI ho) hk (lh, ls, lw, lt, bn, 0, 0)))) 60)), .int (nI (J_bn (s_mill (s_short (P_w (s_run (nvF 0) ai (s_gz (nI ho)) wi qu sh pn hk ((C_ca (cs 0)), (C_tk (cs 0)), (C_gr (cs 0)), (C_go (cs 0)), (C_we (cs 0)), (C_dr (cs 0)), (C_ea (cs 0)), (C_du (cs 0)), fl))) (s_ra fl rn rf rt (nI ho))) (nI ho) (s_jrun (P_tk (s_run (nvF 0) ai (s_gz (nI ho)) wi qu sh pn hk ((C_ca (cs 0)), (C_tk (cs 0)), (C_gr (cs 0)), (C_go (cs 0)), (C_we (cs 0)), (C_dr (cs 0)), (C_ea (cs 0)), (C_du (cs 0)), fl))) fn fl ai (nI ho) hk (lh, ls, lw, lt, bn, 0, 0)))))])), (lH, .inl (G.2.1, 60, .inl (J_lh (s_mill (s_short (P_w (s_run (nvF 0) ai (s_gz (nI ho)) wi qu sh pn hk ((C_ca (cs 0)), (C_tk (cs 0)), (C_gr (cs 0)), (C_go (cs 0)), (C_we (cs 0)), (C_dr (cs 0)), (C_ea (cs 0)), (C_du (cs 0)), fl))) (s_ra fl rn rf rt (nI ho))) (nI ho) (s_jrun (P_tk (s_run (nvF 0) ai (s_gz (nI ho)) wi qu sh pn hk ((C_ca (cs 0)), (C_tk (cs 0)), (C_gr (cs 0)), (C_go (cs 0)), (C_we (cs 0)), (C_dr (cs 0)), (C_ea (cs 0)), (C_du (cs 0)), fl))) fn fl ai (nI ho) hk (lh, ls, lw, lt, bn, 0, 0)))))), (lS, .inl (G.2.1, 60, .inl (J_ls (s_mill (s_short (P_w (s_run (nvF 0) ai (s_gz (nI ho)) wi qu sh pn hk ((C_ca (cs 0)), (C_tk (cs 0)), (C_gr (cs 0)), (C_go (cs 0)), (C_we (cs 0)), (C_dr (cs 0)), (C_ea (cs 0)), (C_du (cs 0)), fl))) (s_ra fl rn rf rt (nI ho))) (nI ho) (s_jrun (P_tk (s_run (nvF 0) ai (s_gz (nI ho)) wi qu sh pn hk ((C_ca (cs 0)), (C_tk (cs 0)), (C_gr (cs 0)), (C_go (cs 0)), (C_we (cs 0)), (C_dr (cs 0)), (C_ea (cs 0)), (C_du (cs 0)), fl))) fn fl ai (nI ho) hk (lh, ls, lw, lt, bn, 0, 0)))))), (lW, .inl (G.2.1, 60, .inl (J_lw (s_mill (s_short (P_w (s_run (nvF 0) ai (s_gz (nI ho)) wi qu sh pn hk ((C_ca (cs 0)), (C_tk (cs 0)), (C_gr (cs 0)), (C_go (cs 0)), (C_we (cs 0)), (C_dr (cs 0)), (C_ea (cs 0)), (C_du (cs 0)), fl))) (s_ra fl rn rf rt (nI ho))) (nI ho) (s_jrun (P_tk (s_run (nvF 0) ai (s_gz (nI ho)) wi qu sh pn hk ((C_ca (cs 0)), (C_tk (cs 0)), (C_gr (cs 0)), (C_go (cs 0)), (C_we (cs 0)), (C_dr (cs 0)), (C_ea (cs 0)), (C_du (cs 0)), fl))) fn fl ai (nI ho) hk (lh, ls, lw, lt, bn, 0, 0)))))), (lT, .inl (G.2.1, 4, .inl (J_lt (s_mill (s_short (P_w (s_run (nvF 0) ai (s_gz (nI ho)) wi qu sh pn hk ((C_ca (cs 0)), (C_tk (cs 0)), (C_gr (cs 0)), (C_go (cs 0)), (C_we (cs 0)), (C_dr (cs 0)), (C_ea (cs 0)), (C_du (cs 0)), fl))) (s_ra fl rn rf rt (nI ho))) (nI ho) (s_jrun (P_tk (s_run (nvF 0) ai (s_gz (nI ho)) wi qu sh pn hk ((C_ca (cs 0)), (C_tk (cs 0)), (C_gr (cs 0)), (C_go (cs 0)), (C_we (cs 0)), (C_dr (cs 0)), (C_ea (cs 0)), (C_du (cs 0)), fl))) fn fl ai (nI ho) hk (lh, ls, lw, lt, bn, 0, 0)))))), (sA, .inl (G.2.2, 6, .inr (.inr (.inr (.inr (fun i => some (ad (i + 1) 0))))))), (ad 0 0, .inr (0, [.ref o0, .int (nvF 0), .ref (ad 0 1), .ref (ad 0 2), .ref (ad 0 3), .ref (ad 0 4), .ref (ad 0 5), .ref (ad 0 6), .ref (ad 0 7), .int ((C_br (cs 0)) + fl), .int (P_du (s_run (nvF 0) ai (s_gz (nI ho)) wi qu sh pn hk ((C_ca (cs 0)), (C_tk (cs 0)), (C_gr (cs 0)), (C_go (cs 0)), (C_we (cs 0)), (C_dr (cs 0)), (C_ea (cs 0)), (C_du (cs 0)), fl))), .int ((C_mi (cs 0)) + (P_w (s_run (nvF 0) ai (s_gz (nI ho)) wi qu sh pn hk ((C_ca (cs 0)), (C_tk (cs 0)), (C_gr (cs 0)), (C_go (cs 0)), (C_we (cs 0)), (C_dr (cs 0)), (C_ea (cs 0)), (C_du (cs 0)), fl)))), .int (P_w (s_run (nvF 0) ai (s_gz (nI ho)) wi qu sh pn hk ((C_ca (cs 0)), (C_tk (cs 0)), (C_gr (cs 0)), (C_go (cs 0)), (C_we (cs 0)), (C_dr (cs 0)), (C_ea (cs 0)), (C_du (cs 0)), fl))), .int (s_mb (P_w (s_run (nvF 0) ai (s_gz (nI ho)) wi qu sh pn hk ((C_ca (cs 0)), (C_tk (cs 0)), (C_gr (cs 0)), (C_go (cs 0)), (C_we (cs 0)), (C_dr (cs 0)), (C_ea (cs 0)), (C_du (cs 0)), fl))) (s_ra fl rn rf rt (nI ho)) (C_mb (cs 0)))])), (ad 0 1, .inl (G.2.1, 6, .inl (P_ca (s_run (nvF 0) ai (s_gz (nI ho)) wi qu sh pn hk ((C_ca (cs 0)), (C_tk (cs 0)), (C_gr (cs 0)), (C_go (cs 0)), (C_we (cs 0)), (C_dr (cs 0)), (C_ea (cs 0)), (C_du (cs 0)), fl))))), (ad 0 2, .inl (G.2.1, 6, .inl (P_tk (s_run (nvF 0) ai (s_gz (nI ho)) wi qu sh pn hk ((C_ca (cs 0)), (C_tk (cs 0)), (C_gr (cs 0)), (C_go (cs 0)), (C_we (cs 0)), (C_dr (cs 0)), (C_ea (cs 0)), (C_du (cs 0)), fl))))), (ad 0 3, .inl (G.2.1, 24, .inl (P_gr (s_run (nvF 0) ai (s_gz (nI ho)) wi qu sh pn hk ((C_ca (cs 0)), (C_tk (cs 0)), (C_gr (cs 0)), (C_go (cs 0)), (C_we (cs 0)), (C_dr (cs 0)), (C_ea (cs 0)), (C_du (cs 0)), fl))))), (ad 0 4, .inl (G.2.1, 24, .inl (P_go (s_run (nvF 0) ai (s_gz (nI ho)) wi qu sh pn hk ((C_ca (cs 0)), (C_tk (cs 0)), (C_gr (cs 0)), (C_go (cs 0)), (C_we (cs 0)), (C_dr (cs 0)), (C_ea (cs 0)), (C_du (cs 0)), fl))))), (ad 0 5, .inl (G.2.1, 24, .inl (P_we (s_run (nvF 0) ai (s_gz (nI ho)) wi qu sh pn hk ((C_ca (cs 0)), (C_tk (cs 0)), (C_gr (cs 0)), (C_go (cs 0)), (C_we (cs 0)), (C_dr (cs 0)), (C_ea (cs 0)), (C_du (cs 0)), fl))))), (ad 0 6, .inl (G.2.1, 24, .inl (P_dr (s_run (nvF 0) ai (s_gz (nI ho)) wi qu sh pn hk ((C_ca (cs 0)), (C_tk (cs 0)), (C_gr (cs 0)), (C_go (cs 0)), (C_we (cs 0)), (C_dr (cs 0)), (C_ea (cs 0)), (C_du (cs 0)), fl))))), (ad 0 7, .inl (G.2.1, 24, .inl (P_ea (s_run (nvF 0) ai (s_gz (nI ho)) wi qu sh pn hk ((C_ca (cs 0)), (C_tk (cs 0)), (C_gr (cs 0)), (C_go (cs 0)), (C_we (cs 0)), (C_dr (cs 0)), (C_ea (cs 0)), (C_du (cs 0)), fl))))), (ad 1 0, .inr (0, [.ref o0, .int (nvF 1), .ref (ad 1 1), .ref (ad 1 2), .ref (ad 1 3), .ref (ad 1 4), .ref (ad 1 5), .ref (ad 1 6), .ref (ad 1 7), .int ((C_br (cs 1)) + fl), .int (P_du (s_run (nvF 1) ai (s_gz (nI ho)) wi qu sh pn hk ((C_ca (cs 1)), (C_tk (cs 1)), (C_gr (cs 1)), (C_go (cs 1)), (C_we (cs 1)), (C_dr (cs 1)), (C_ea (cs 1)), (C_du (cs 1)), fl))), .int ((C_mi (cs 1)) + (P_w (s_run (nvF 1) ai (s_gz (nI ho)) wi qu sh pn hk ((C_ca (cs 1)), (C_tk (cs 1)), (C_gr (cs 1)), (C_go (cs 1)), (C_we (cs 1)), (C_dr (cs 1)), (C_ea (cs 1)), (C_du (cs 1)), fl)))), .int (P_w (s_run (nvF 1) ai (s_gz (nI ho)) wi qu sh pn hk ((C_ca (cs 1)), (C_tk (cs 1)), (C_gr (cs 1)), (C_go (cs 1)), (C_we (cs 1)), (C_dr (cs 1)), (C_ea (cs 1)), (C_du (cs 1)), fl))), .int (s_mb (P_w (s_run (nvF 1) ai (s_gz (nI ho)) wi qu sh pn hk ((C_ca (cs 1)), (C_tk (cs 1)), (C_gr (cs 1)), (C_go (cs 1)), (C_we (cs 1)), (C_dr (cs 1)), (C_ea (cs 1)), (C_du (cs 1)), fl))) (s_ra fl rn rf rt (nI ho)) (C_mb (cs 1)))])), (ad 1 1, .inl (G.2.1, 6, .inl (P_ca (s_run (nvF 1) ai (s_gz (nI ho)) wi qu sh pn hk ((C_ca (cs 1)), (C_tk (cs 1)), (C_gr (cs 1)), (C_go (cs 1)), (C_we (cs 1)), (C_dr (cs 1)), (C_ea (cs 1)), (C_du (cs 1)), fl))))), (ad 1 2, .inl (G.2.1, 6, .inl (P_tk (s_run (nvF 1) ai (s_gz (nI ho)) wi qu sh pn hk ((C_ca (cs 1)), (C_tk (cs 1)), (C_gr (cs 1)), (C_go (cs 1)), (C_we (cs 1)), (C_dr (cs 1)), (C_ea (cs 1)), (C_du (cs 1)), fl))))), (ad 1 3, .inl (G.2.1, 24, .inl (P_gr (s_run (nvF 1) ai (s_gz (nI ho)) wi qu sh pn hk ((C_ca (cs 1)), (C_tk (cs 1)), (C_gr (cs 1)), (C_go (cs 1)), (C_we (cs 1)), (C_dr (cs 1)), (C_ea (cs 1)), (C_du (cs 1)), fl))))), (ad 1 4, .inl (G.2.1, 24, .inl (P_go (s_run (nvF 1) ai (s_gz (nI ho)) wi qu sh pn hk ((C_ca (cs 1)), (C_tk (cs 1)), (C_gr (cs 1)), (C_go (cs 1)), (C_we (cs 1)), (C_dr (cs 1)), (C_ea (cs 1)), (C_du (cs 1)), fl))))), (ad 1 5, .inl (G.2.1, 24, .inl (P_we (s_run (nvF 1) ai (s_gz (nI ho)) wi qu sh pn hk ((C_ca (cs 1)), (C_tk (cs 1)), (C_gr (cs 1)), (C_go (cs 1)), (C_we (cs 1)), (C_dr (cs 1)), (C_ea (cs 1)), (C_du (cs 1)), fl))))), (ad 1 6, .inl (G.2.1, 24, .inl (P_dr (s_run (nvF 1) ai (s_gz (nI ho)) wi qu sh pn hk ((C_ca (cs 1)), (C_tk (cs 1)), (C_gr (cs 1)), (C_go (cs 1)), (C_we (cs 1)), (C_dr (cs 1)), (C_ea (cs 1)), (C_du (cs 1)), fl))))), (ad 1 7, .inl (G.2.1, 24, .inl (P_ea (s_run (nvF 1) ai (s_gz (nI ho)) wi qu sh pn hk ((C_ca (cs 1)), (C_tk (cs 1)), (C_gr (cs 1)), (C_go (cs 1)), (C_we (cs 1)), (C_dr (cs 1)), (C_ea (cs 1)), (C_du (cs 1)), fl))))), (ad 2 0, .inr (0, [.ref o0, .int (nvF 2), .ref (ad 2 1), .ref (ad 2 2), .ref (ad 2 3), .ref (ad 2 4), .ref (ad 2 5), .ref (ad 2 6), .ref (ad 2 7), .int ((C_br (cs 2)) + fl), .int (P_du (s_run (nvF 2) ai (s_gz (nI ho)) wi qu sh pn hk ((C_ca (cs 2)), (C_tk (cs 2)), (C_gr (cs 2)), (C_go (cs 2)), (C_we (cs 2)), (C_dr (cs 2)), (C_ea (cs 2)), (C_du (cs 2)), fl))), .int ((C_mi (cs 2)) + (P_w (s_run (nvF 2) ai (s_gz (nI ho)) wi qu sh pn hk ((C_ca (cs 2)), (C_tk (cs 2)), (C_gr (cs 2)), (C_go (cs 2)), (C_we (cs 2)), (C_dr (cs 2)), (C_ea (cs 2)), (C_du (cs 2)), fl)))), .int (P_w (s_run (nvF 2) ai (s_gz (nI ho)) wi qu sh pn hk ((C_ca (cs 2)), (C_tk (cs 2)), (C_gr (cs 2)), (C_go (cs 2)), (C_we (cs 2)), (C_dr (cs 2)), (C_ea (cs 2)), (C_du (cs 2)), fl))), .int (s_mb (P_w (s_run (nvF 2) ai (s_gz (nI ho)) wi qu sh pn hk ((C_ca (cs 2)), (C_tk (cs 2)), (C_gr (cs 2)), (C_go (cs 2)), (C_we (cs 2)), (C_dr (cs 2)), (C_ea (cs 2)), (C_du (cs 2)), fl))) (s_ra fl rn rf rt (nI ho)) (C_mb (cs 2)))])), (ad 2 1, .inl (G.2.1, 6, .inl (P_ca (s_run (nvF 2) ai (s_gz (nI ho)) wi qu sh pn hk ((C_ca (cs 2)), (C_tk (cs 2)), (C_gr (cs 2)), (C_go (cs 2)), (C_we (cs 2)), (C_dr (cs 2)), (C_ea (cs 2)), (C_du (cs 2)), fl))))), (ad 2 2, .inl (G.2.1, 6, .inl (P_tk (s_run (nvF 2) ai (s_gz (nI ho)) wi qu sh pn hk ((C_ca (cs 2)), (C_tk (cs 2)), (C_gr (cs 2)), (C_go (cs 2)), (C_we (cs 2)), (C_dr (cs 2)), (C_ea (cs 2)), (C_du (cs 2)), fl))))), (ad 2 3, .inl (G.2.1, 24, .inl (P_gr (s_run (nvF 2) ai (s_gz (nI ho)) wi qu sh pn hk ((C_ca (cs 2)), (C_tk (cs 2)), (C_gr (cs 2)), (C_go (cs 2)), (C_we (cs 2)), (C_dr (cs 2)), (C_ea (cs 2)), (C_du (cs 2)), fl))))), (ad 2 4, .inl (G.2.1, 24, .inl (P_go (s_run (nvF 2) ai (s_gz (nI ho)) wi qu sh pn hk ((C_ca (cs 2)), (C_tk (cs 2)), (C_gr (cs 2)), (C_go (cs 2)), (C_we (cs 2)), (C_dr (cs 2)), (C_ea (cs 2)), (C_du (cs 2)), fl))))), (ad 2 5, .inl (G.2.1, 24, .inl (P_we (s_run (nvF 2) ai (s_gz (nI ho)) wi qu sh pn hk ((C_ca (cs 2)), (C_tk (cs 2)), (C_gr (cs 2)), (C_go (cs 2)), (C_we (cs 2)), (C_dr (cs 2)), (C_ea (cs 2)), (C_du (cs 2)), fl))))), (ad 2 6, .inl (G.2.1, 24, .inl (P_dr (s_run (nvF 2) ai (s_gz (nI ho)) wi qu sh pn hk ((C_ca (cs 2)), (C_tk (cs 2)), (C_gr (cs 2)), (C_go (cs 2)), (C_we (cs 2)), (C_dr (cs 2)), (C_ea (cs 2)), (C_du (cs 2)), fl))))), (ad 2 7, .inl (G.2.1, 24, .inl (P_ea (s_run (nvF 2) ai (s_gz (nI ho)) wi qu sh pn hk ((C_ca (cs 2)), (C_tk (cs 2)), (C_gr (cs 2)), (C_go (cs 2)), (C_we (cs 2)), (C_dr (cs 2)), (C_ea (cs 2)), (C_du (cs 2)), fl))))), (ad 3 0, .inr (0, [.ref o0, .int (nvF 3), .ref (ad 3 1), .ref (ad 3 2), .ref (ad 3 3), .ref (ad 3 4), .ref (ad 3 5), .ref (ad 3 6), .ref (ad 3 7), .int ((C_br (cs 3)) + fl), .int (P_du (s_run (nvF 3) ai (s_gz (nI ho)) wi qu sh pn hk ((C_ca (cs 3)), (C_tk (cs 3)), (C_gr (cs 3)), (C_go (cs 3)), (C_we (cs 3)), (C_dr (cs 3)), (C_ea (cs 3)), (C_du (cs 3)), fl))), .int ((C_mi (cs 3)) + (P_w (s_run (nvF 3) ai (s_gz (nI ho)) wi qu sh pn hk ((C_ca (cs 3)), (C_tk (cs 3)), (C_gr (cs 3)), (C_go (cs 3)), (C_we (cs 3)), (C_dr (cs 3)), (C_ea (cs 3)), (C_du (cs 3)), fl)))), .int (P_w (s_run (nvF 3) ai (s_gz (nI ho)) wi qu sh pn hk ((C_ca (cs 3)), (C_tk (cs 3)), (C_gr (cs 3)), (C_go (cs 3)), (C_we (cs 3)), (C_dr (cs 3)), (C_ea (cs 3)), (C_du (cs 3)), fl))), .int (s_mb (P_w (s_run (nvF 3) ai (s_gz (nI ho)) wi qu sh pn hk ((C_ca (cs 3)), (C_tk (cs 3)), (C_gr (cs 3)), (C_go (cs 3)), (C_we (cs 3)), (C_dr (cs 3)), (C_ea (cs 3)), (C_du (cs 3)), fl))) (s_ra fl rn rf rt (nI ho)) (C_mb (cs 3)))])), (ad 3 1, .inl (G.2.1, 6, .inl (P_ca (s_run (nvF 3) ai (s_gz (nI ho)) wi qu sh pn hk ((C_ca (cs 3)), (C_tk (cs 3)), (C_gr (cs 3)), (C_go (cs 3)), (C_we (cs 3)), (C_dr (cs 3)), (C_ea (cs 3)), (C_du (cs 3)), fl))))), (ad 3 2, .inl (G.2.1, 6, .inl (P_tk (s_run (nvF 3) ai (s_gz (nI ho)) wi qu sh pn hk ((C_ca (cs 3)), (C_tk (cs 3)), (C_gr (cs 3)), (C_go (cs 3)), (C_we (cs 3)), (C_dr (cs 3)), (C_ea (cs 3)), (C_du (cs 3)), fl))))), (ad 3 3, .inl (G.2.1, 24, .inl (P_gr (s_run (nvF 3) ai (s_gz (nI ho)) wi qu sh pn hk ((C_ca (cs 3)), (C_tk (cs 3)), (C_gr (cs 3)), (C_go (cs 3)), (C_we (cs 3)), (C_dr (cs 3)), (C_ea (cs 3)), (C_du (cs 3)), fl))))), (ad 3 4, .inl (G.2.1, 24, .inl (P_go (s_run (nvF 3) ai (s_gz (nI ho)) wi qu sh pn hk ((C_ca (cs 3)), (C_tk (cs 3)), (C_gr (cs 3)), (C_go (cs 3)), (C_we (cs 3)), (C_dr (cs 3)), (C_ea (cs 3)), (C_du (cs 3)), fl))))), (ad 3 5, .inl (G.2.1, 24, .inl (P_we (s_run (nvF 3) ai (s_gz (nI ho)) wi qu sh pn hk ((C_ca (cs 3)), (C_tk (cs 3)), (C_gr (cs 3)), (C_go (cs 3)), (C_we (cs 3)), (C_dr (cs 3)), (C_ea (cs 3)), (C_du (cs 3)), fl))))), (ad 3 6, .inl (G.2.1, 24, .inl (P_dr (s_run (nvF 3) ai (s_gz (nI ho)) wi qu sh pn hk ((C_ca (cs 3)), (C_tk (cs 3)), (C_gr (cs 3)), (C_go (cs 3)), (C_we (cs 3)), (C_dr (cs 3)), (C_ea (cs 3)), (C_du (cs 3)), fl))))), (ad 3 7, .inl (G.2.1, 24, .inl (P_ea (s_run (nvF 3) ai (s_gz (nI ho)) wi qu sh pn hk ((C_ca (cs 3)), (C_tk (cs 3)), (C_gr (cs 3)), (C_go (cs 3)), (C_we (cs 3)), (C_dr (cs 3)), (C_ea (cs 3)), (C_du (cs 3)), fl))))), (ad 4 0, .inr (0, [.ref o0, .int (nvF 4), .ref (ad 4 1), .ref (ad 4 2), .ref (ad 4 3), .ref (ad 4 4), .ref (ad 4 5), .ref (ad 4 6), .ref (ad 4 7), .int (C_br (cs 4)), .int (C_du (cs 4)), .int (C_mi (cs 4)), .int (C_am (cs 4)), .int (C_mb (cs 4))])), (ad 4 1, .inl (G.2.1, 6, .inl (C_ca (cs 4)))), (ad 4 2, .inl (G.2.1, 6, .inl (C_tk (cs 4)))), (ad 4 3, .inl (G.2.1, 24, .inl (C_gr (cs 4)))), (ad 4 4, .inl (G.2.1, 24, .inl (C_go (cs 4)))), (ad 4 5, .inl (G.2.1, 24, .inl (C_we (cs 4)))), (ad 4 6, .inl (G.2.1, 24, .inl (C_dr (cs 4)))), (ad 4 7, .inl (G.2.1, 24, .inl (C_ea (cs 4)))), (ad 5 0, .inr (0, [.ref o0, .int (nvF 5), .ref (ad 5 1), .ref (ad 5 2), .ref (ad 5 3), .ref (ad 5 4), .ref (ad 5 5), .ref (ad 5 6), .ref (ad 5 7), .int (C_br (cs 5)), .int (C_du (cs 5)), .int (C_mi (cs 5)), .int (C_am (cs 5)), .int (C_mb (cs 5))])), (ad 5 1, .inl (G.2.1, 6, .inl (C_ca (cs 5)))), (ad 5 2, .inl (G.2.1, 6, .inl (C_tk (cs 5)))), (ad 5 3, .inl (G.2.1, 24, .inl (C_gr (cs 5)))), (ad 5 4, .inl (G.2.1, 24, .inl (C_go (cs 5)))), (ad 5 5, .inl (G.2.1, 24, .inl (C_we (cs 5)))), (ad 5 6, .inl (G.2.1, 24, .inl (C_dr (cs 5)))), (ad 5 7, .inl (G.2.1, 24, .inl (C_ea (cs 5)))), (ad 6 0, .inr (0, [.ref o0, .int (nvF 6), .ref (ad 6 1), .ref (ad 6 2), .ref (ad 6 3), .ref (ad 6 4), .ref (ad 6 5), .ref (ad 6 6), .ref (ad 6 7), .int (C_br (cs 6)), .int (C_du (cs 6)), .int (C_mi (cs 6)), .int (C_am (cs 6)), .int (C_mb (cs 6))])), (ad 6 1, .inl (G.2.1, 6, .inl (C_ca (cs 6)))), (ad 6 2, .inl (G.2.1, 6, .inl (C_tk (cs 6)))), (ad 6 3, .inl (G.2.1, 24, .inl (C_gr (cs 6)))), (ad 6 4, .inl (G.2.1, 24, .inl (C_go (cs 6)))), (ad 6 5, .inl (G.2.1, 24, .inl (C_we (cs 6)))), (ad 6 6, .inl (G.2.1, 24, .inl (C_dr (cs 6)))), (ad 6 7, .inl (G.2.1, 24, .inl (C_ea (cs 6))))]) (As := [.int (nI ho)]) (rest := []) (c_X0_passHour l G (ad 3 0) o0 (nvF 3) (ad 3 1) (ad 3 2) (ad 3 3) (ad 3 4) (ad 3 5) (ad 3 6) (ad 3 7) (C_br (cs 3)) (C_du (cs 3)) (C_mi (cs 3)) (C_am (cs 3)) (C_mb (cs 3)) oFa oWi oPa oQu oSh hk fl ai rn rf rt (C_ca (cs 3)) (C_tk (cs 3)) (C_gr (cs 3)) (C_go (cs 3)) (C_we (cs 3)) (C_dr (cs 3)) (C_ea (cs 3)) wi qu sh pn (nI ho) hk6 hpn) YX0_passHour mX3_169 dX3_advance_33 ciX0 37 rfl [37, 38, 39, 40, 41, 42, 43, 44, 1, 3, 4, 5, 6] (by decide) rfl rfl rfl rfl rfl rfl (Nat.le_of_ble_eq_true rfl) (by decide) (by decide) ?_
  refine v_iinc (v := 3) (q := 0) (lv' := [(1, .int 3), (0, .ref x0)]) dX3_advance_36 rfl (by decide) (by decide) rfl ?_
  refine v_goto (tgt := 17) dX3_advance_39 (by decide) ?_
  refine v_iload_n dX3_advance_17 rfl 0 rfl ?_
  refine v_bipush (v := 6) dX3_advance_18 (by decide) ?_
  refine v_icmp_ge (tgt := 42) dX3_advance_20 (by decide) (fun h20 => absurd h20 (by decide)) (fun h20 => ?_)
  refine v_aload_n dX3_advance_23 rfl 1 rfl ?_
  refine v_get fX3_32 dX3_advance_24 0 rfl rfl ?_
  refine v_iload_n dX3_advance_27 rfl 0 rfl ?_
  refine v_aald dX3_advance_28 12 rfl 3 rfl (by decide) (by decide) rfl ?_
  refine v_aload_n dX3_advance_29 rfl 1 rfl ?_
  refine v_get fX3_96 dX3_advance_30 0 rfl rfl ?_
  refine v_vMv (ws' := [(x0, .inr (3, [.ref o0, .ref g0, .ref (ad 0 0), .ref sA, .int (nI ho), .int (nI de)])), (o0, .inr (2, [.ref oFa, .ref oWi, .ref oPa, .ref oQu, .ref oSh, .int (nI hk), .int fl, .int ai, .int rn, .int rf, .int rt])), (oFa, .inl (G.2.1, 6, .inl (pN fn))), (oWi, .inl (G.2.1, 6, .inl wi)), (oPa, .inl (G.2.1, 6, .inl (pN pn))), (oQu, .inl (G.2.1, 6, .inl qu)), (oSh, .inl (G.2.1, 24, .inl sh)), (g0, .inr (1, [.ref lH, .ref lS, .ref lW, .ref lT, .int (nI (min (J_bn (s_mill (s_short (P_w (s_run (nvF 0) ai (s_gz (nI ho)) wi qu sh pn hk ((C_ca (cs 0)), (C_tk (cs 0)), (C_gr (cs 0)), (C_go (cs 0)), (C_we (cs 0)), (C_dr (cs 0)), (C_ea (cs 0)), (C_du (cs 0)), fl))) (s_ra fl rn rf rt (nI ho))) (nI ho) (s_jrun (P_tk (s_run (nvF 0) ai (s_gz (nI ho)) wi qu sh pn hk ((C_ca (cs 0)), (C_tk (cs 0)), (C_gr (cs 0)), (C_go (cs 0)), (C_we (cs 0)), (C_dr (cs 0)), (C_ea (cs 0)), (C_du (cs 0)), fl))) fn fl ai (nI ho) hk (lh, ls, lw, lt, bn, 0, 0)))) 60)), .int (nI (J_bn (s_mill (s_short (P_w (s_run (nvF 0) ai (s_gz (nI ho)) wi qu sh pn hk ((C_ca (cs 0)), (C_tk (cs 0)), (C_gr (cs 0)), (C_go (cs 0)), (C_we (cs 0)), (C_dr (cs 0)), (C_ea (cs 0)), (C_du (cs 0)), fl))) (s_ra fl rn rf rt (nI ho))) (nI ho) (s_jrun (P_tk (s_run (nvF 0) ai (s_gz (nI ho)) wi qu sh pn hk ((C_ca (cs 0)), (C_tk (cs 0)), (C_gr (cs 0)), (C_go (cs 0)), (C_we (cs 0)), (C_dr (cs 0)), (C_ea (cs 0)), (C_du (cs 0)), fl))) fn fl ai (nI ho) hk (lh, ls, lw, lt, bn, 0, 0)))))])), (lH, .inl (G.2.1, 60, .inl (J_lh (s_mill (s_short (P_w (s_run (nvF 0) ai (s_gz (nI ho)) wi qu sh pn hk ((C_ca (cs 0)), (C_tk (cs 0)), (C_gr (cs 0)), (C_go (cs 0)), (C_we (cs 0)), (C_dr (cs 0)), (C_ea (cs 0)), (C_du (cs 0)), fl))) (s_ra fl rn rf rt (nI ho))) (nI ho) (s_jrun (P_tk (s_run (nvF 0) ai (s_gz (nI ho)) wi qu sh pn hk ((C_ca (cs 0)), (C_tk (cs 0)), (C_gr (cs 0)), (C_go (cs 0)), (C_we (cs 0)), (C_dr (cs 0)), (C_ea (cs 0)), (C_du (cs 0)), fl))) fn fl ai (nI ho) hk (lh, ls, lw, lt, bn, 0, 0)))))), (lS, .inl (G.2.1, 60, .inl (J_ls (s_mill (s_short (P_w (s_run (nvF 0) ai (s_gz (nI ho)) wi qu sh pn hk ((C_ca (cs 0)), (C_tk (cs 0)), (C_gr (cs 0)), (C_go (cs 0)), (C_we (cs 0)), (C_dr (cs 0)), (C_ea (cs 0)), (C_du (cs 0)), fl))) (s_ra fl rn rf rt (nI ho))) (nI ho) (s_jrun (P_tk (s_run (nvF 0) ai (s_gz (nI ho)) wi qu sh pn hk ((C_ca (cs 0)), (C_tk (cs 0)), (C_gr (cs 0)), (C_go (cs 0)), (C_we (cs 0)), (C_dr (cs 0)), (C_ea (cs 0)), (C_du (cs 0)), fl))) fn fl ai (nI ho) hk (lh, ls, lw, lt, bn, 0, 0)))))), (lW, .inl (G.2.1, 60, .inl (J_lw (s_mill (s_short (P_w (s_run (nvF 0) ai (s_gz (nI ho)) wi qu sh pn hk ((C_ca (cs 0)), (C_tk (cs 0)), (C_gr (cs 0)), (C_go (cs 0)), (C_we (cs 0)), (C_dr (cs 0)), (C_ea (cs 0)), (C_du (cs 0)), fl))) (s_ra fl rn rf rt (nI ho))) (nI ho) (s_jrun (P_tk (s_run (nvF 0) ai (s_gz (nI ho)) wi qu sh pn hk ((C_ca (cs 0)), (C_tk (cs 0)), (C_gr (cs 0)), (C_go (cs 0)), (C_we (cs 0)), (C_dr (cs 0)), (C_ea (cs 0)), (C_du (cs 0)), fl))) fn fl ai (nI ho) hk (lh, ls, lw, lt, bn, 0, 0)))))), (lT, .inl (G.2.1, 4, .inl (J_lt (s_mill (s_short (P_w (s_run (nvF 0) ai (s_gz (nI ho)) wi qu sh pn hk ((C_ca (cs 0)), (C_tk (cs 0)), (C_gr (cs 0)), (C_go (cs 0)), (C_we (cs 0)), (C_dr (cs 0)), (C_ea (cs 0)), (C_du (cs 0)), fl))) (s_ra fl rn rf rt (nI ho))) (nI ho) (s_jrun (P_tk (s_run (nvF 0) ai (s_gz (nI ho)) wi qu sh pn hk ((C_ca (cs 0)), (C_tk (cs 0)), (C_gr (cs 0)), (C_go (cs 0)), (C_we (cs 0)), (C_dr (cs 0)), (C_ea (cs 0)), (C_du (cs 0)), fl))) fn fl ai (nI ho) hk (lh, ls, lw, lt, bn, 0, 0)))))), (sA, .inl (G.2.2, 6, .inr (.inr (.inr (.inr (fun i => some (ad (i + 1) 0))))))), (ad 0 0, .inr (0, [.ref o0, .int (nvF 0), .ref (ad 0 1), .ref (ad 0 2), .ref (ad 0 3), .ref (ad 0 4), .ref (ad 0 5), .ref (ad 0 6), .ref (ad 0 7), .int ((C_br (cs 0)) + fl), .int (P_du (s_run (nvF 0) ai (s_gz (nI ho)) wi qu sh pn hk ((C_ca (cs 0)), (C_tk (cs 0)), (C_gr (cs 0)), (C_go (cs 0)), (C_we (cs 0)), (C_dr (cs 0)), (C_ea (cs 0)), (C_du (cs 0)), fl))), .int ((C_mi (cs 0)) + (P_w (s_run (nvF 0) ai (s_gz (nI ho)) wi qu sh pn hk ((C_ca (cs 0)), (C_tk (cs 0)), (C_gr (cs 0)), (C_go (cs 0)), (C_we (cs 0)), (C_dr (cs 0)), (C_ea (cs 0)), (C_du (cs 0)), fl)))), .int (P_w (s_run (nvF 0) ai (s_gz (nI ho)) wi qu sh pn hk ((C_ca (cs 0)), (C_tk (cs 0)), (C_gr (cs 0)), (C_go (cs 0)), (C_we (cs 0)), (C_dr (cs 0)), (C_ea (cs 0)), (C_du (cs 0)), fl))), .int (s_mb (P_w (s_run (nvF 0) ai (s_gz (nI ho)) wi qu sh pn hk ((C_ca (cs 0)), (C_tk (cs 0)), (C_gr (cs 0)), (C_go (cs 0)), (C_we (cs 0)), (C_dr (cs 0)), (C_ea (cs 0)), (C_du (cs 0)), fl))) (s_ra fl rn rf rt (nI ho)) (C_mb (cs 0)))])), (ad 0 1, .inl (G.2.1, 6, .inl (P_ca (s_run (nvF 0) ai (s_gz (nI ho)) wi qu sh pn hk ((C_ca (cs 0)), (C_tk (cs 0)), (C_gr (cs 0)), (C_go (cs 0)), (C_we (cs 0)), (C_dr (cs 0)), (C_ea (cs 0)), (C_du (cs 0)), fl))))), (ad 0 2, .inl (G.2.1, 6, .inl (P_tk (s_run (nvF 0) ai (s_gz (nI ho)) wi qu sh pn hk ((C_ca (cs 0)), (C_tk (cs 0)), (C_gr (cs 0)), (C_go (cs 0)), (C_we (cs 0)), (C_dr (cs 0)), (C_ea (cs 0)), (C_du (cs 0)), fl))))), (ad 0 3, .inl (G.2.1, 24, .inl (P_gr (s_run (nvF 0) ai (s_gz (nI ho)) wi qu sh pn hk ((C_ca (cs 0)), (C_tk (cs 0)), (C_gr (cs 0)), (C_go (cs 0)), (C_we (cs 0)), (C_dr (cs 0)), (C_ea (cs 0)), (C_du (cs 0)), fl))))), (ad 0 4, .inl (G.2.1, 24, .inl (P_go (s_run (nvF 0) ai (s_gz (nI ho)) wi qu sh pn hk ((C_ca (cs 0)), (C_tk (cs 0)), (C_gr (cs 0)), (C_go (cs 0)), (C_we (cs 0)), (C_dr (cs 0)), (C_ea (cs 0)), (C_du (cs 0)), fl))))), (ad 0 5, .inl (G.2.1, 24, .inl (P_we (s_run (nvF 0) ai (s_gz (nI ho)) wi qu sh pn hk ((C_ca (cs 0)), (C_tk (cs 0)), (C_gr (cs 0)), (C_go (cs 0)), (C_we (cs 0)), (C_dr (cs 0)), (C_ea (cs 0)), (C_du (cs 0)), fl))))), (ad 0 6, .inl (G.2.1, 24, .inl (P_dr (s_run (nvF 0) ai (s_gz (nI ho)) wi qu sh pn hk ((C_ca (cs 0)), (C_tk (cs 0)), (C_gr (cs 0)), (C_go (cs 0)), (C_we (cs 0)), (C_dr (cs 0)), (C_ea (cs 0)), (C_du (cs 0)), fl))))), (ad 0 7, .inl (G.2.1, 24, .inl (P_ea (s_run (nvF 0) ai (s_gz (nI ho)) wi qu sh pn hk ((C_ca (cs 0)), (C_tk (cs 0)), (C_gr (cs 0)), (C_go (cs 0)), (C_we (cs 0)), (C_dr (cs 0)), (C_ea (cs 0)), (C_du (cs 0)), fl))))), (ad 1 0, .inr (0, [.ref o0, .int (nvF 1), .ref (ad 1 1), .ref (ad 1 2), .ref (ad 1 3), .ref (ad 1 4), .ref (ad 1 5), .ref (ad 1 6), .ref (ad 1 7), .int ((C_br (cs 1)) + fl), .int (P_du (s_run (nvF 1) ai (s_gz (nI ho)) wi qu sh pn hk ((C_ca (cs 1)), (C_tk (cs 1)), (C_gr (cs 1)), (C_go (cs 1)), (C_we (cs 1)), (C_dr (cs 1)), (C_ea (cs 1)), (C_du (cs 1)), fl))), .int ((C_mi (cs 1)) + (P_w (s_run (nvF 1) ai (s_gz (nI ho)) wi qu sh pn hk ((C_ca (cs 1)), (C_tk (cs 1)), (C_gr (cs 1)), (C_go (cs 1)), (C_we (cs 1)), (C_dr (cs 1)), (C_ea (cs 1)), (C_du (cs 1)), fl)))), .int (P_w (s_run (nvF 1) ai (s_gz (nI ho)) wi qu sh pn hk ((C_ca (cs 1)), (C_tk (cs 1)), (C_gr (cs 1)), (C_go (cs 1)), (C_we (cs 1)), (C_dr (cs 1)), (C_ea (cs 1)), (C_du (cs 1)), fl))), .int (s_mb (P_w (s_run (nvF 1) ai (s_gz (nI ho)) wi qu sh pn hk ((C_ca (cs 1)), (C_tk (cs 1)), (C_gr (cs 1)), (C_go (cs 1)), (C_we (cs 1)), (C_dr (cs 1)), (C_ea (cs 1)), (C_du (cs 1)), fl))) (s_ra fl rn rf rt (nI ho)) (C_mb (cs 1)))])), (ad 1 1, .inl (G.2.1, 6, .inl (P_ca (s_run (nvF 1) ai (s_gz (nI ho)) wi qu sh pn hk ((C_ca (cs 1)), (C_tk (cs 1)), (C_gr (cs 1)), (C_go (cs 1)), (C_we (cs 1)), (C_dr (cs 1)), (C_ea (cs 1)), (C_du (cs 1)), fl))))), (ad 1 2, .inl (G.2.1, 6, .inl (P_tk (s_run (nvF 1) ai (s_gz (nI ho)) wi qu sh pn hk ((C_ca (cs 1)), (C_tk (cs 1)), (C_gr (cs 1)), (C_go (cs 1)), (C_we (cs 1)), (C_dr (cs 1)), (C_ea (cs 1)), (C_du (cs 1)), fl))))), (ad 1 3, .inl (G.2.1, 24, .inl (P_gr (s_run (nvF 1) ai (s_gz (nI ho)) wi qu sh pn hk ((C_ca (cs 1)), (C_tk (cs 1)), (C_gr (cs 1)), (C_go (cs 1)), (C_we (cs 1)), (C_dr (cs 1)), (C_ea (cs 1)), (C_du (cs 1)), fl))))), (ad 1 4, .inl (G.2.1, 24, .inl (P_go (s_run (nvF 1) ai (s_gz (nI ho)) wi qu sh pn hk ((C_ca (cs 1)), (C_tk (cs 1)), (C_gr (cs 1)), (C_go (cs 1)), (C_we (cs 1)), (C_dr (cs 1)), (C_ea (cs 1)), (C_du (cs 1)), fl))))), (ad 1 5, .inl (G.2.1, 24, .inl (P_we (s_run (nvF 1) ai (s_gz (nI ho)) wi qu sh pn hk ((C_ca (cs 1)), (C_tk (cs 1)), (C_gr (cs 1)), (C_go (cs 1)), (C_we (cs 1)), (C_dr (cs 1)), (C_ea (cs 1)), (C_du (cs 1)), fl))))), (ad 1 6, .inl (G.2.1, 24, .inl (P_dr (s_run (nvF 1) ai (s_gz (nI ho)) wi qu sh pn hk ((C_ca (cs 1)), (C_tk (cs 1)), (C_gr (cs 1)), (C_go (cs 1)), (C_we (cs 1)), (C_dr (cs 1)), (C_ea (cs 1)), (C_du (cs 1)), fl))))), (ad 1 7, .inl (G.2.1, 24, .inl (P_ea (s_run (nvF 1) ai (s_gz (nI ho)) wi qu sh pn hk ((C_ca (cs 1)), (C_tk (cs 1)), (C_gr (cs 1)), (C_go (cs 1)), (C_we (cs 1)), (C_dr (cs 1)), (C_ea (cs 1)), (C_du (cs 1)), fl))))), (ad 2 0, .inr (0, [.ref o0, .int (nvF 2), .ref (ad 2 1), .ref (ad 2 2), .ref (ad 2 3), .ref (ad 2 4), .ref (ad 2 5), .ref (ad 2 6), .ref (ad 2 7), .int ((C_br (cs 2)) + fl), .int (P_du (s_run (nvF 2) ai (s_gz (nI ho)) wi qu sh pn hk ((C_ca (cs 2)), (C_tk (cs 2)), (C_gr (cs 2)), (C_go (cs 2)), (C_we (cs 2)), (C_dr (cs 2)), (C_ea (cs 2)), (C_du (cs 2)), fl))), .int ((C_mi (cs 2)) + (P_w (s_run (nvF 2) ai (s_gz (nI ho)) wi qu sh pn hk ((C_ca (cs 2)), (C_tk (cs 2)), (C_gr (cs 2)), (C_go (cs 2)), (C_we (cs 2)), (C_dr (cs 2)), (C_ea (cs 2)), (C_du (cs 2)), fl)))), .int (P_w (s_run (nvF 2) ai (s_gz (nI ho)) wi qu sh pn hk ((C_ca (cs 2)), (C_tk (cs 2)), (C_gr (cs 2)), (C_go (cs 2)), (C_we (cs 2)), (C_dr (cs 2)), (C_ea (cs 2)), (C_du (cs 2)), fl))), .int (s_mb (P_w (s_run (nvF 2) ai (s_gz (nI ho)) wi qu sh pn hk ((C_ca (cs 2)), (C_tk (cs 2)), (C_gr (cs 2)), (C_go (cs 2)), (C_we (cs 2)), (C_dr (cs 2)), (C_ea (cs 2)), (C_du (cs 2)), fl))) (s_ra fl rn rf rt (nI ho)) (C_mb (cs 2)))])), (ad 2 1, .inl (G.2.1, 6, .inl (P_ca (s_run (nvF 2) ai (s_gz (nI ho)) wi qu sh pn hk ((C_ca (cs 2)), (C_tk (cs 2)), (C_gr (cs 2)), (C_go (cs 2)), (C_we (cs 2)), (C_dr (cs 2)), (C_ea (cs 2)), (C_du (cs 2)), fl))))), (ad 2 2, .inl (G.2.1, 6, .inl (P_tk (s_run (nvF 2) ai (s_gz (nI ho)) wi qu sh pn hk ((C_ca (cs 2)), (C_tk (cs 2)), (C_gr (cs 2)), (C_go (cs 2)), (C_we (cs 2)), (C_dr (cs 2)), (C_ea (cs 2)), (C_du (cs 2)), fl))))), (ad 2 3, .inl (G.2.1, 24, .inl (P_gr (s_run (nvF 2) ai (s_gz (nI ho)) wi qu sh pn hk ((C_ca (cs 2)), (C_tk (cs 2)), (C_gr (cs 2)), (C_go (cs 2)), (C_we (cs 2)), (C_dr (cs 2)), (C_ea (cs 2)), (C_du (cs 2)), fl))))), (ad 2 4, .inl (G.2.1, 24, .inl (P_go (s_run (nvF 2) ai (s_gz (nI ho)) wi qu sh pn hk ((C_ca (cs 2)), (C_tk (cs 2)), (C_gr (cs 2)), (C_go (cs 2)), (C_we (cs 2)), (C_dr (cs 2)), (C_ea (cs 2)), (C_du (cs 2)), fl))))), (ad 2 5, .inl (G.2.1, 24, .inl (P_we (s_run (nvF 2) ai (s_gz (nI ho)) wi qu sh pn hk ((C_ca (cs 2)), (C_tk (cs 2)), (C_gr (cs 2)), (C_go (cs 2)), (C_we (cs 2)), (C_dr (cs 2)), (C_ea (cs 2)), (C_du (cs 2)), fl))))), (ad 2 6, .inl (G.2.1, 24, .inl (P_dr (s_run (nvF 2) ai (s_gz (nI ho)) wi qu sh pn hk ((C_ca (cs 2)), (C_tk (cs 2)), (C_gr (cs 2)), (C_go (cs 2)), (C_we (cs 2)), (C_dr (cs 2)), (C_ea (cs 2)), (C_du (cs 2)), fl))))), (ad 2 7, .inl (G.2.1, 24, .inl (P_ea (s_run (nvF 2) ai (s_gz (nI ho)) wi qu sh pn hk ((C_ca (cs 2)), (C_tk (cs 2)), (C_gr (cs 2)), (C_go (cs 2)), (C_we (cs 2)), (C_dr (cs 2)), (C_ea (cs 2)), (C_du (cs 2)), fl))))), (ad 3 0, .inr (0, [.ref o0, .int (nvF 3), .ref (ad 3 1), .ref (ad 3 2), .ref (ad 3 3), .ref (ad 3 4), .ref (ad 3 5), .ref (ad 3 6), .ref (ad 3 7), .int ((C_br (cs 3)) + fl), .int (P_du (s_run (nvF 3) ai (s_gz (nI ho)) wi qu sh pn hk ((C_ca (cs 3)), (C_tk (cs 3)), (C_gr (cs 3)), (C_go (cs 3)), (C_we (cs 3)), (C_dr (cs 3)), (C_ea (cs 3)), (C_du (cs 3)), fl))), .int ((C_mi (cs 3)) + (P_w (s_run (nvF 3) ai (s_gz (nI ho)) wi qu sh pn hk ((C_ca (cs 3)), (C_tk (cs 3)), (C_gr (cs 3)), (C_go (cs 3)), (C_we (cs 3)), (C_dr (cs 3)), (C_ea (cs 3)), (C_du (cs 3)), fl)))), .int (P_w (s_run (nvF 3) ai (s_gz (nI ho)) wi qu sh pn hk ((C_ca (cs 3)), (C_tk (cs 3)), (C_gr (cs 3)), (C_go (cs 3)), (C_we (cs 3)), (C_dr (cs 3)), (C_ea (cs 3)), (C_du (cs 3)), fl))), .int (s_mb (P_w (s_run (nvF 3) ai (s_gz (nI ho)) wi qu sh pn hk ((C_ca (cs 3)), (C_tk (cs 3)), (C_gr (cs 3)), (C_go (cs 3)), (C_we (cs 3)), (C_dr (cs 3)), (C_ea (cs 3)), (C_du (cs 3)), fl))) (s_ra fl rn rf rt (nI ho)) (C_mb (cs 3)))])), (ad 3 1, .inl (G.2.1, 6, .inl (P_ca (s_run (nvF 3) ai (s_gz (nI ho)) wi qu sh pn hk ((C_ca (cs 3)), (C_tk (cs 3)), (C_gr (cs 3)), (C_go (cs 3)), (C_we (cs 3)), (C_dr (cs 3)), (C_ea (cs 3)), (C_du (cs 3)), fl))))), (ad 3 2, .inl (G.2.1, 6, .inl (P_tk (s_run (nvF 3) ai (s_gz (nI ho)) wi qu sh pn hk ((C_ca (cs 3)), (C_tk (cs 3)), (C_gr (cs 3)), (C_go (cs 3)), (C_we (cs 3)), (C_dr (cs 3)), (C_ea (cs 3)), (C_du (cs 3)), fl))))), (ad 3 3, .inl (G.2.1, 24, .inl (P_gr (s_run (nvF 3) ai (s_gz (nI ho)) wi qu sh pn hk ((C_ca (cs 3)), (C_tk (cs 3)), (C_gr (cs 3)), (C_go (cs 3)), (C_we (cs 3)), (C_dr (cs 3)), (C_ea (cs 3)), (C_du (cs 3)), fl))))), (ad 3 4, .inl (G.2.1, 24, .inl (P_go (s_run (nvF 3) ai (s_gz (nI ho)) wi qu sh pn hk ((C_ca (cs 3)), (C_tk (cs 3)), (C_gr (cs 3)), (C_go (cs 3)), (C_we (cs 3)), (C_dr (cs 3)), (C_ea (cs 3)), (C_du (cs 3)), fl))))), (ad 3 5, .inl (G.2.1, 24, .inl (P_we (s_run (nvF 3) ai (s_gz (nI ho)) wi qu sh pn hk ((C_ca (cs 3)), (C_tk (cs 3)), (C_gr (cs 3)), (C_go (cs 3)), (C_we (cs 3)), (C_dr (cs 3)), (C_ea (cs 3)), (C_du (cs 3)), fl))))), (ad 3 6, .inl (G.2.1, 24, .inl (P_dr (s_run (nvF 3) ai (s_gz (nI ho)) wi qu sh pn hk ((C_ca (cs 3)), (C_tk (cs 3)), (C_gr (cs 3)), (C_go (cs 3)), (C_we (cs 3)), (C_dr (cs 3)), (C_ea (cs 3)), (C_du (cs 3)), fl))))), (ad 3 7, .inl (G.2.1, 24, .inl (P_ea (s_run (nvF 3) ai (s_gz (nI ho)) wi qu sh pn hk ((C_ca (cs 3)), (C_tk (cs 3)), (C_gr (cs 3)), (C_go (cs 3)), (C_we (cs 3)), (C_dr (cs 3)), (C_ea (cs 3)), (C_du (cs 3)), fl))))), (ad 4 0, .inr (0, [.ref o0, .int (nvF 4), .ref (ad 4 1), .ref (ad 4 2), .ref (ad 4 3), .ref (ad 4 4), .ref (ad 4 5), .ref (ad 4 6), .ref (ad 4 7), .int ((C_br (cs 4)) + fl), .int (P_du (s_run (nvF 4) ai (s_gz (nI ho)) wi qu sh pn hk ((C_ca (cs 4)), (C_tk (cs 4)), (C_gr (cs 4)), (C_go (cs 4)), (C_we (cs 4)), (C_dr (cs 4)), (C_ea (cs 4)), (C_du (cs 4)), fl))), .int ((C_mi (cs 4)) + (P_w (s_run (nvF 4) ai (s_gz (nI ho)) wi qu sh pn hk ((C_ca (cs 4)), (C_tk (cs 4)), (C_gr (cs 4)), (C_go (cs 4)), (C_we (cs 4)), (C_dr (cs 4)), (C_ea (cs 4)), (C_du (cs 4)), fl)))), .int (P_w (s_run (nvF 4) ai (s_gz (nI ho)) wi qu sh pn hk ((C_ca (cs 4)), (C_tk (cs 4)), (C_gr (cs 4)), (C_go (cs 4)), (C_we (cs 4)), (C_dr (cs 4)), (C_ea (cs 4)), (C_du (cs 4)), fl))), .int (s_mb (P_w (s_run (nvF 4) ai (s_gz (nI ho)) wi qu sh pn hk ((C_ca (cs 4)), (C_tk (cs 4)), (C_gr (cs 4)), (C_go (cs 4)), (C_we (cs 4)), (C_dr (cs 4)), (C_ea (cs 4)), (C_du (cs 4)), fl))) (s_ra fl rn rf rt (nI ho)) (C_mb (cs 4)))])), (ad 4 1, .inl (G.2.1, 6, .inl (P_ca (s_run (nvF 4) ai (s_gz (nI ho)) wi qu sh pn hk ((C_ca (cs 4)), (C_tk (cs 4)), (C_gr (cs 4)), (C_go (cs 4)), (C_we (cs 4)), (C_dr (cs 4)), (C_ea (cs 4)), (C_du (cs 4)), fl))))), (ad 4 2, .inl (G.2.1, 6, .inl (P_tk (s_run (nvF 4) ai (s_gz (nI ho)) wi qu sh pn hk ((C_ca (cs 4)), (C_tk (cs 4)), (C_gr (cs 4)), (C_go (cs 4)), (C_we (cs 4)), (C_dr (cs 4)), (C_ea (cs 4)), (C_du (cs 4)), fl))))), (ad 4 3, .inl (G.2.1, 24, .inl (P_gr (s_run (nvF 4) ai (s_gz (nI ho)) wi qu sh pn hk ((C_ca (cs 4)), (C_tk (cs 4)), (C_gr (cs 4)), (C_go (cs 4)), (C_we (cs 4)), (C_dr (cs 4)), (C_ea (cs 4)), (C_du (cs 4)), fl))))), (ad 4 4, .inl (G.2.1, 24, .inl (P_go (s_run (nvF 4) ai (s_gz (nI ho)) wi qu sh pn hk ((C_ca (cs 4)), (C_tk (cs 4)), (C_gr (cs 4)), (C_go (cs 4)), (C_we (cs 4)), (C_dr (cs 4)), (C_ea (cs 4)), (C_du (cs 4)), fl))))), (ad 4 5, .inl (G.2.1, 24, .inl (P_we (s_run (nvF 4) ai (s_gz (nI ho)) wi qu sh pn hk ((C_ca (cs 4)), (C_tk (cs 4)), (C_gr (cs 4)), (C_go (cs 4)), (C_we (cs 4)), (C_dr (cs 4)), (C_ea (cs 4)), (C_du (cs 4)), fl))))), (ad 4 6, .inl (G.2.1, 24, .inl (P_dr (s_run (nvF 4) ai (s_gz (nI ho)) wi qu sh pn hk ((C_ca (cs 4)), (C_tk (cs 4)), (C_gr (cs 4)), (C_go (cs 4)), (C_we (cs 4)), (C_dr (cs 4)), (C_ea (cs 4)), (C_du (cs 4)), fl))))), (ad 4 7, .inl (G.2.1, 24, .inl (P_ea (s_run (nvF 4) ai (s_gz (nI ho)) wi qu sh pn hk ((C_ca (cs 4)), (C_tk (cs 4)), (C_gr (cs 4)), (C_go (cs 4)), (C_we (cs 4)), (C_dr (cs 4)), (C_ea (cs 4)), (C_du (cs 4)), fl))))), (ad 5 0, .inr (0, [.ref o0, .int (nvF 5), .ref (ad 5 1), .ref (ad 5 2), .ref (ad 5 3), .ref (ad 5 4), .ref (ad 5 5), .ref (ad 5 6), .ref (ad 5 7), .int (C_br (cs 5)), .int (C_du (cs 5)), .int (C_mi (cs 5)), .int (C_am (cs 5)), .int (C_mb (cs 5))])), (ad 5 1, .inl (G.2.1, 6, .inl (C_ca (cs 5)))), (ad 5 2, .inl (G.2.1, 6, .inl (C_tk (cs 5)))), (ad 5 3, .inl (G.2.1, 24, .inl (C_gr (cs 5)))), (ad 5 4, .inl (G.2.1, 24, .inl (C_go (cs 5)))), (ad 5 5, .inl (G.2.1, 24, .inl (C_we (cs 5)))), (ad 5 6, .inl (G.2.1, 24, .inl (C_dr (cs 5)))), (ad 5 7, .inl (G.2.1, 24, .inl (C_ea (cs 5)))), (ad 6 0, .inr (0, [.ref o0, .int (nvF 6), .ref (ad 6 1), .ref (ad 6 2), .ref (ad 6 3), .ref (ad 6 4), .ref (ad 6 5), .ref (ad 6 6), .ref (ad 6 7), .int (C_br (cs 6)), .int (C_du (cs 6)), .int (C_mi (cs 6)), .int (C_am (cs 6)), .int (C_mb (cs 6))])), (ad 6 1, .inl (G.2.1, 6, .inl (C_ca (cs 6)))), (ad 6 2, .inl (G.2.1, 6, .inl (C_tk (cs 6)))), (ad 6 3, .inl (G.2.1, 24, .inl (C_gr (cs 6)))), (ad 6 4, .inl (G.2.1, 24, .inl (C_go (cs 6)))), (ad 6 5, .inl (G.2.1, 24, .inl (C_we (cs 6)))), (ad 6 6, .inl (G.2.1, 24, .inl (C_dr (cs 6)))), (ad 6 7, .inl (G.2.1, 24, .inl (C_ea (cs 6))))]) (As := [.int (nI ho)]) (rest := []) (c_X0_passHour l G (ad 4 0) o0 (nvF 4) (ad 4 1) (ad 4 2) (ad 4 3) (ad 4 4) (ad 4 5) (ad 4 6) (ad 4 7) (C_br (cs 4)) (C_du (cs 4)) (C_mi (cs 4)) (C_am (cs 4)) (C_mb (cs 4)) oFa oWi oPa oQu oSh hk fl ai rn rf rt (C_ca (cs 4)) (C_tk (cs 4)) (C_gr (cs 4)) (C_go (cs 4)) (C_we (cs 4)) (C_dr (cs 4)) (C_ea (cs 4)) wi qu sh pn (nI ho) hk6 hpn) YX0_passHour mX3_169 dX3_advance_33 ciX0 45 rfl [45, 46, 47, 48, 49, 50, 51, 52, 1, 3, 4, 5, 6] (by decide) rfl rfl rfl rfl rfl rfl (Nat.le_of_ble_eq_true rfl) (by decide) (by decide) ?_
  refine v_iinc (v := 4) (q := 0) (lv' := [(1, .int 4), (0, .ref x0)]) dX3_advance_36 rfl (by decide) (by decide) rfl ?_
  refine v_goto (tgt := 17) dX3_advance_39 (by decide) ?_
  refine v_iload_n dX3_advance_17 rfl 0 rfl ?_
  refine v_bipush (v := 6) dX3_advance_18 (by decide) ?_
  refine v_icmp_ge (tgt := 42) dX3_advance_20 (by decide) (fun h20 => absurd h20 (by decide)) (fun h20 => ?_)
  refine v_aload_n dX3_advance_23 rfl 1 rfl ?_
  refine v_get fX3_32 dX3_advance_24 0 rfl rfl ?_
  refine v_iload_n dX3_advance_27 rfl 0 rfl ?_
  refine v_aald dX3_advance_28 12 rfl 4 rfl (by decide) (by decide) rfl ?_
  refine v_aload_n dX3_advance_29 rfl 1 rfl ?_
  refine v_get fX3_96 dX3_advance_30 0 rfl rfl ?_
  refine v_vMv (ws' := [(x0, .inr (3, [.ref o0, .ref g0, .ref (ad 0 0), .ref sA, .int (nI ho), .int (nI de)])), (o0, .inr (2, [.ref oFa, .ref oWi, .ref oPa, .ref oQu, .ref oSh, .int (nI hk), .int fl, .int ai, .int rn, .int rf, .int rt])), (oFa, .inl (G.2.1, 6, .inl (pN fn))), (oWi, .inl (G.2.1, 6, .inl wi)), (oPa, .inl (G.2.1, 6, .inl (pN pn))), (oQu, .inl (G.2.1, 6, .inl qu)), (oSh, .inl (G.2.1, 24, .inl sh)), (g0, .inr (1, [.ref lH, .ref lS, .ref lW, .ref lT, .int (nI (min (J_bn (s_mill (s_short (P_w (s_run (nvF 0) ai (s_gz (nI ho)) wi qu sh pn hk ((C_ca (cs 0)), (C_tk (cs 0)), (C_gr (cs 0)), (C_go (cs 0)), (C_we (cs 0)), (C_dr (cs 0)), (C_ea (cs 0)), (C_du (cs 0)), fl))) (s_ra fl rn rf rt (nI ho))) (nI ho) (s_jrun (P_tk (s_run (nvF 0) ai (s_gz (nI ho)) wi qu sh pn hk ((C_ca (cs 0)), (C_tk (cs 0)), (C_gr (cs 0)), (C_go (cs 0)), (C_we (cs 0)), (C_dr (cs 0)), (C_ea (cs 0)), (C_du (cs 0)), fl))) fn fl ai (nI ho) hk (lh, ls, lw, lt, bn, 0, 0)))) 60)), .int (nI (J_bn (s_mill (s_short (P_w (s_run (nvF 0) ai (s_gz (nI ho)) wi qu sh pn hk ((C_ca (cs 0)), (C_tk (cs 0)), (C_gr (cs 0)), (C_go (cs 0)), (C_we (cs 0)), (C_dr (cs 0)), (C_ea (cs 0)), (C_du (cs 0)), fl))) (s_ra fl rn rf rt (nI ho))) (nI ho) (s_jrun (P_tk (s_run (nvF 0) ai (s_gz (nI ho)) wi qu sh pn hk ((C_ca (cs 0)), (C_tk (cs 0)), (C_gr (cs 0)), (C_go (cs 0)), (C_we (cs 0)), (C_dr (cs 0)), (C_ea (cs 0)), (C_du (cs 0)), fl))) fn fl ai (nI ho) hk (lh, ls, lw, lt, bn, 0, 0)))))])), (lH, .inl (G.2.1, 60, .inl (J_lh (s_mill (s_short (P_w (s_run (nvF 0) ai (s_gz (nI ho)) wi qu sh pn hk ((C_ca (cs 0)), (C_tk (cs 0)), (C_gr (cs 0)), (C_go (cs 0)), (C_we (cs 0)), (C_dr (cs 0)), (C_ea (cs 0)), (C_du (cs 0)), fl))) (s_ra fl rn rf rt (nI ho))) (nI ho) (s_jrun (P_tk (s_run (nvF 0) ai (s_gz (nI ho)) wi qu sh pn hk ((C_ca (cs 0)), (C_tk (cs 0)), (C_gr (cs 0)), (C_go (cs 0)), (C_we (cs 0)), (C_dr (cs 0)), (C_ea (cs 0)), (C_du (cs 0)), fl))) fn fl ai (nI ho) hk (lh, ls, lw, lt, bn, 0, 0)))))), (lS, .inl (G.2.1, 60, .inl (J_ls (s_mill (s_short (P_w (s_run (nvF 0) ai (s_gz (nI ho)) wi qu sh pn hk ((C_ca (cs 0)), (C_tk (cs 0)), (C_gr (cs 0)), (C_go (cs 0)), (C_we (cs 0)), (C_dr (cs 0)), (C_ea (cs 0)), (C_du (cs 0)), fl))) (s_ra fl rn rf rt (nI ho))) (nI ho) (s_jrun (P_tk (s_run (nvF 0) ai (s_gz (nI ho)) wi qu sh pn hk ((C_ca (cs 0)), (C_tk (cs 0)), (C_gr (cs 0)), (C_go (cs 0)), (C_we (cs 0)), (C_dr (cs 0)), (C_ea (cs 0)), (C_du (cs 0)), fl))) fn fl ai (nI ho) hk (lh, ls, lw, lt, bn, 0, 0)))))), (lW, .inl (G.2.1, 60, .inl (J_lw (s_mill (s_short (P_w (s_run (nvF 0) ai (s_gz (nI ho)) wi qu sh pn hk ((C_ca (cs 0)), (C_tk (cs 0)), (C_gr (cs 0)), (C_go (cs 0)), (C_we (cs 0)), (C_dr (cs 0)), (C_ea (cs 0)), (C_du (cs 0)), fl))) (s_ra fl rn rf rt (nI ho))) (nI ho) (s_jrun (P_tk (s_run (nvF 0) ai (s_gz (nI ho)) wi qu sh pn hk ((C_ca (cs 0)), (C_tk (cs 0)), (C_gr (cs 0)), (C_go (cs 0)), (C_we (cs 0)), (C_dr (cs 0)), (C_ea (cs 0)), (C_du (cs 0)), fl))) fn fl ai (nI ho) hk (lh, ls, lw, lt, bn, 0, 0)))))), (lT, .inl (G.2.1, 4, .inl (J_lt (s_mill (s_short (P_w (s_run (nvF 0) ai (s_gz (nI ho)) wi qu sh pn hk ((C_ca (cs 0)), (C_tk (cs 0)), (C_gr (cs 0)), (C_go (cs 0)), (C_we (cs 0)), (C_dr (cs 0)), (C_ea (cs 0)), (C_du (cs 0)), fl))) (s_ra fl rn rf rt (nI ho))) (nI ho) (s_jrun (P_tk (s_run (nvF 0) ai (s_gz (nI ho)) wi qu sh pn hk ((C_ca (cs 0)), (C_tk (cs 0)), (C_gr (cs 0)), (C_go (cs 0)), (C_we (cs 0)), (C_dr (cs 0)), (C_ea (cs 0)), (C_du (cs 0)), fl))) fn fl ai (nI ho) hk (lh, ls, lw, lt, bn, 0, 0)))))), (sA, .inl (G.2.2, 6, .inr (.inr (.inr (.inr (fun i => some (ad (i + 1) 0))))))), (ad 0 0, .inr (0, [.ref o0, .int (nvF 0), .ref (ad 0 1), .ref (ad 0 2), .ref (ad 0 3), .ref (ad 0 4), .ref (ad 0 5), .ref (ad 0 6), .ref (ad 0 7), .int ((C_br (cs 0)) + fl), .int (P_du (s_run (nvF 0) ai (s_gz (nI ho)) wi qu sh pn hk ((C_ca (cs 0)), (C_tk (cs 0)), (C_gr (cs 0)), (C_go (cs 0)), (C_we (cs 0)), (C_dr (cs 0)), (C_ea (cs 0)), (C_du (cs 0)), fl))), .int ((C_mi (cs 0)) + (P_w (s_run (nvF 0) ai (s_gz (nI ho)) wi qu sh pn hk ((C_ca (cs 0)), (C_tk (cs 0)), (C_gr (cs 0)), (C_go (cs 0)), (C_we (cs 0)), (C_dr (cs 0)), (C_ea (cs 0)), (C_du (cs 0)), fl)))), .int (P_w (s_run (nvF 0) ai (s_gz (nI ho)) wi qu sh pn hk ((C_ca (cs 0)), (C_tk (cs 0)), (C_gr (cs 0)), (C_go (cs 0)), (C_we (cs 0)), (C_dr (cs 0)), (C_ea (cs 0)), (C_du (cs 0)), fl))), .int (s_mb (P_w (s_run (nvF 0) ai (s_gz (nI ho)) wi qu sh pn hk ((C_ca (cs 0)), (C_tk (cs 0)), (C_gr (cs 0)), (C_go (cs 0)), (C_we (cs 0)), (C_dr (cs 0)), (C_ea (cs 0)), (C_du (cs 0)), fl))) (s_ra fl rn rf rt (nI ho)) (C_mb (cs 0)))])), (ad 0 1, .inl (G.2.1, 6, .inl (P_ca (s_run (nvF 0) ai (s_gz (nI ho)) wi qu sh pn hk ((C_ca (cs 0)), (C_tk (cs 0)), (C_gr (cs 0)), (C_go (cs 0)), (C_we (cs 0)), (C_dr (cs 0)), (C_ea (cs 0)), (C_du (cs 0)), fl))))), (ad 0 2, .inl (G.2.1, 6, .inl (P_tk (s_run (nvF 0) ai (s_gz (nI ho)) wi qu sh pn hk ((C_ca (cs 0)), (C_tk (cs 0)), (C_gr (cs 0)), (C_go (cs 0)), (C_we (cs 0)), (C_dr (cs 0)), (C_ea (cs 0)), (C_du (cs 0)), fl))))), (ad 0 3, .inl (G.2.1, 24, .inl (P_gr (s_run (nvF 0) ai (s_gz (nI ho)) wi qu sh pn hk ((C_ca (cs 0)), (C_tk (cs 0)), (C_gr (cs 0)), (C_go (cs 0)), (C_we (cs 0)), (C_dr (cs 0)), (C_ea (cs 0)), (C_du (cs 0)), fl))))), (ad 0 4, .inl (G.2.1, 24, .inl (P_go (s_run (nvF 0) ai (s_gz (nI ho)) wi qu sh pn hk ((C_ca (cs 0)), (C_tk (cs 0)), (C_gr (cs 0)), (C_go (cs 0)), (C_we (cs 0)), (C_dr (cs 0)), (C_ea (cs 0)), (C_du (cs 0)), fl))))), (ad 0 5, .inl (G.2.1, 24, .inl (P_we (s_run (nvF 0) ai (s_gz (nI ho)) wi qu sh pn hk ((C_ca (cs 0)), (C_tk (cs 0)), (C_gr (cs 0)), (C_go (cs 0)), (C_we (cs 0)), (C_dr (cs 0)), (C_ea (cs 0)), (C_du (cs 0)), fl))))), (ad 0 6, .inl (G.2.1, 24, .inl (P_dr (s_run (nvF 0) ai (s_gz (nI ho)) wi qu sh pn hk ((C_ca (cs 0)), (C_tk (cs 0)), (C_gr (cs 0)), (C_go (cs 0)), (C_we (cs 0)), (C_dr (cs 0)), (C_ea (cs 0)), (C_du (cs 0)), fl))))), (ad 0 7, .inl (G.2.1, 24, .inl (P_ea (s_run (nvF 0) ai (s_gz (nI ho)) wi qu sh pn hk ((C_ca (cs 0)), (C_tk (cs 0)), (C_gr (cs 0)), (C_go (cs 0)), (C_we (cs 0)), (C_dr (cs 0)), (C_ea (cs 0)), (C_du (cs 0)), fl))))), (ad 1 0, .inr (0, [.ref o0, .int (nvF 1), .ref (ad 1 1), .ref (ad 1 2), .ref (ad 1 3), .ref (ad 1 4), .ref (ad 1 5), .ref (ad 1 6), .ref (ad 1 7), .int ((C_br (cs 1)) + fl), .int (P_du (s_run (nvF 1) ai (s_gz (nI ho)) wi qu sh pn hk ((C_ca (cs 1)), (C_tk (cs 1)), (C_gr (cs 1)), (C_go (cs 1)), (C_we (cs 1)), (C_dr (cs 1)), (C_ea (cs 1)), (C_du (cs 1)), fl))), .int ((C_mi (cs 1)) + (P_w (s_run (nvF 1) ai (s_gz (nI ho)) wi qu sh pn hk ((C_ca (cs 1)), (C_tk (cs 1)), (C_gr (cs 1)), (C_go (cs 1)), (C_we (cs 1)), (C_dr (cs 1)), (C_ea (cs 1)), (C_du (cs 1)), fl)))), .int (P_w (s_run (nvF 1) ai (s_gz (nI ho)) wi qu sh pn hk ((C_ca (cs 1)), (C_tk (cs 1)), (C_gr (cs 1)), (C_go (cs 1)), (C_we (cs 1)), (C_dr (cs 1)), (C_ea (cs 1)), (C_du (cs 1)), fl))), .int (s_mb (P_w (s_run (nvF 1) ai (s_gz (nI ho)) wi qu sh pn hk ((C_ca (cs 1)), (C_tk (cs 1)), (C_gr (cs 1)), (C_go (cs 1)), (C_we (cs 1)), (C_dr (cs 1)), (C_ea (cs 1)), (C_du (cs 1)), fl))) (s_ra fl rn rf rt (nI ho)) (C_mb (cs 1)))])), (ad 1 1, .inl (G.2.1, 6, .inl (P_ca (s_run (nvF 1) ai (s_gz (nI ho)) wi qu sh pn hk ((C_ca (cs 1)), (C_tk (cs 1)), (C_gr (cs 1)), (C_go (cs 1)), (C_we (cs 1)), (C_dr (cs 1)), (C_ea (cs 1)), (C_du (cs 1)), fl))))), (ad 1 2, .inl (G.2.1, 6, .inl (P_tk (s_run (nvF 1) ai (s_gz (nI ho)) wi qu sh pn hk ((C_ca (cs 1)), (C_tk (cs 1)), (C_gr (cs 1)), (C_go (cs 1)), (C_we (cs 1)), (C_dr (cs 1)), (C_ea (cs 1)), (C_du (cs 1)), fl))))), (ad 1 3, .inl (G.2.1, 24, .inl (P_gr (s_run (nvF 1) ai (s_gz (nI ho)) wi qu sh pn hk ((C_ca (cs 1)), (C_tk (cs 1)), (C_gr (cs 1)), (C_go (cs 1)), (C_we (cs 1)), (C_dr (cs 1)), (C_ea (cs 1)), (C_du (cs 1)), fl))))), (ad 1 4, .inl (G.2.1, 24, .inl (P_go (s_run (nvF 1) ai (s_gz (nI ho)) wi qu sh pn hk ((C_ca (cs 1)), (C_tk (cs 1)), (C_gr (cs 1)), (C_go (cs 1)), (C_we (cs 1)), (C_dr (cs 1)), (C_ea (cs 1)), (C_du (cs 1)), fl))))), (ad 1 5, .inl (G.2.1, 24, .inl (P_we (s_run (nvF 1) ai (s_gz (nI ho)) wi qu sh pn hk ((C_ca (cs 1)), (C_tk (cs 1)), (C_gr (cs 1)), (C_go (cs 1)), (C_we (cs 1)), (C_dr (cs 1)), (C_ea (cs 1)), (C_du (cs 1)), fl))))), (ad 1 6, .inl (G.2.1, 24, .inl (P_dr (s_run (nvF 1) ai (s_gz (nI ho)) wi qu sh pn hk ((C_ca (cs 1)), (C_tk (cs 1)), (C_gr (cs 1)), (C_go (cs 1)), (C_we (cs 1)), (C_dr (cs 1)), (C_ea (cs 1)), (C_du (cs 1)), fl))))), (ad 1 7, .inl (G.2.1, 24, .inl (P_ea (s_run (nvF 1) ai (s_gz (nI ho)) wi qu sh pn hk ((C_ca (cs 1)), (C_tk (cs 1)), (C_gr (cs 1)), (C_go (cs 1)), (C_we (cs 1)), (C_dr (cs 1)), (C_ea (cs 1)), (C_du (cs 1)), fl))))), (ad 2 0, .inr (0, [.ref o0, .int (nvF 2), .ref (ad 2 1), .ref (ad 2 2), .ref (ad 2 3), .ref (ad 2 4), .ref (ad 2 5), .ref (ad 2 6), .ref (ad 2 7), .int ((C_br (cs 2)) + fl), .int (P_du (s_run (nvF 2) ai (s_gz (nI ho)) wi qu sh pn hk ((C_ca (cs 2)), (C_tk (cs 2)), (C_gr (cs 2)), (C_go (cs 2)), (C_we (cs 2)), (C_dr (cs 2)), (C_ea (cs 2)), (C_du (cs 2)), fl))), .int ((C_mi (cs 2)) + (P_w (s_run (nvF 2) ai (s_gz (nI ho)) wi qu sh pn hk ((C_ca (cs 2)), (C_tk (cs 2)), (C_gr (cs 2)), (C_go (cs 2)), (C_we (cs 2)), (C_dr (cs 2)), (C_ea (cs 2)), (C_du (cs 2)), fl)))), .int (P_w (s_run (nvF 2) ai (s_gz (nI ho)) wi qu sh pn hk ((C_ca (cs 2)), (C_tk (cs 2)), (C_gr (cs 2)), (C_go (cs 2)), (C_we (cs 2)), (C_dr (cs 2)), (C_ea (cs 2)), (C_du (cs 2)), fl))), .int (s_mb (P_w (s_run (nvF 2) ai (s_gz (nI ho)) wi qu sh pn hk ((C_ca (cs 2)), (C_tk (cs 2)), (C_gr (cs 2)), (C_go (cs 2)), (C_we (cs 2)), (C_dr (cs 2)), (C_ea (cs 2)), (C_du (cs 2)), fl))) (s_ra fl rn rf rt (nI ho)) (C_mb (cs 2)))])), (ad 2 1, .inl (G.2.1, 6, .inl (P_ca (s_run (nvF 2) ai (s_gz (nI ho)) wi qu sh pn hk ((C_ca (cs 2)), (C_tk (cs 2)), (C_gr (cs 2)), (C_go (cs 2)), (C_we (cs 2)), (C_dr (cs 2)), (C_ea (cs 2)), (C_du (cs 2)), fl))))), (ad 2 2, .inl (G.2.1, 6, .inl (P_tk (s_run (nvF 2) ai (s_gz (nI ho)) wi qu sh pn hk ((C_ca (cs 2)), (C_tk (cs 2)), (C_gr (cs 2)), (C_go (cs 2)), (C_we (cs 2)), (C_dr (cs 2)), (C_ea (cs 2)), (C_du (cs 2)), fl))))), (ad 2 3, .inl (G.2.1, 24, .inl (P_gr (s_run (nvF 2) ai (s_gz (nI ho)) wi qu sh pn hk ((C_ca (cs 2)), (C_tk (cs 2)), (C_gr (cs 2)), (C_go (cs 2)), (C_we (cs 2)), (C_dr (cs 2)), (C_ea (cs 2)), (C_du (cs 2)), fl))))), (ad 2 4, .inl (G.2.1, 24, .inl (P_go (s_run (nvF 2) ai (s_gz (nI ho)) wi qu sh pn hk ((C_ca (cs 2)), (C_tk (cs 2)), (C_gr (cs 2)), (C_go (cs 2)), (C_we (cs 2)), (C_dr (cs 2)), (C_ea (cs 2)), (C_du (cs 2)), fl))))), (ad 2 5, .inl (G.2.1, 24, .inl (P_we (s_run (nvF 2) ai (s_gz (nI ho)) wi qu sh pn hk ((C_ca (cs 2)), (C_tk (cs 2)), (C_gr (cs 2)), (C_go (cs 2)), (C_we (cs 2)), (C_dr (cs 2)), (C_ea (cs 2)), (C_du (cs 2)), fl))))), (ad 2 6, .inl (G.2.1, 24, .inl (P_dr (s_run (nvF 2) ai (s_gz (nI ho)) wi qu sh pn hk ((C_ca (cs 2)), (C_tk (cs 2)), (C_gr (cs 2)), (C_go (cs 2)), (C_we (cs 2)), (C_dr (cs 2)), (C_ea (cs 2)), (C_du (cs 2)), fl))))), (ad 2 7, .inl (G.2.1, 24, .inl (P_ea (s_run (nvF 2) ai (s_gz (nI ho)) wi qu sh pn hk ((C_ca (cs 2)), (C_tk (cs 2)), (C_gr (cs 2)), (C_go (cs 2)), (C_we (cs 2)), (C_dr (cs 2)), (C_ea (cs 2)), (C_du (cs 2)), fl))))), (ad 3 0, .inr (0, [.ref o0, .int (nvF 3), .ref (ad 3 1), .ref (ad 3 2), .ref (ad 3 3), .ref (ad 3 4), .ref (ad 3 5), .ref (ad 3 6), .ref (ad 3 7), .int ((C_br (cs 3)) + fl), .int (P_du (s_run (nvF 3) ai (s_gz (nI ho)) wi qu sh pn hk ((C_ca (cs 3)), (C_tk (cs 3)), (C_gr (cs 3)), (C_go (cs 3)), (C_we (cs 3)), (C_dr (cs 3)), (C_ea (cs 3)), (C_du (cs 3)), fl))), .int ((C_mi (cs 3)) + (P_w (s_run (nvF 3) ai (s_gz (nI ho)) wi qu sh pn hk ((C_ca (cs 3)), (C_tk (cs 3)), (C_gr (cs 3)), (C_go (cs 3)), (C_we (cs 3)), (C_dr (cs 3)), (C_ea (cs 3)), (C_du (cs 3)), fl)))), .int (P_w (s_run (nvF 3) ai (s_gz (nI ho)) wi qu sh pn hk ((C_ca (cs 3)), (C_tk (cs 3)), (C_gr (cs 3)), (C_go (cs 3)), (C_we (cs 3)), (C_dr (cs 3)), (C_ea (cs 3)), (C_du (cs 3)), fl))), .int (s_mb (P_w (s_run (nvF 3) ai (s_gz (nI ho)) wi qu sh pn hk ((C_ca (cs 3)), (C_tk (cs 3)), (C_gr (cs 3)), (C_go (cs 3)), (C_we (cs 3)), (C_dr (cs 3)), (C_ea (cs 3)), (C_du (cs 3)), fl))) (s_ra fl rn rf rt (nI ho)) (C_mb (cs 3)))])), (ad 3 1, .inl (G.2.1, 6, .inl (P_ca (s_run (nvF 3) ai (s_gz (nI ho)) wi qu sh pn hk ((C_ca (cs 3)), (C_tk (cs 3)), (C_gr (cs 3)), (C_go (cs 3)), (C_we (cs 3)), (C_dr (cs 3)), (C_ea (cs 3)), (C_du (cs 3)), fl))))), (ad 3 2, .inl (G.2.1, 6, .inl (P_tk (s_run (nvF 3) ai (s_gz (nI ho)) wi qu sh pn hk ((C_ca (cs 3)), (C_tk (cs 3)), (C_gr (cs 3)), (C_go (cs 3)), (C_we (cs 3)), (C_dr (cs 3)), (C_ea (cs 3)), (C_du (cs 3)), fl))))), (ad 3 3, .inl (G.2.1, 24, .inl (P_gr (s_run (nvF 3) ai (s_gz (nI ho)) wi qu sh pn hk ((C_ca (cs 3)), (C_tk (cs 3)), (C_gr (cs 3)), (C_go (cs 3)), (C_we (cs 3)), (C_dr (cs 3)), (C_ea (cs 3)), (C_du (cs 3)), fl))))), (ad 3 4, .inl (G.2.1, 24, .inl (P_go (s_run (nvF 3) ai (s_gz (nI ho)) wi qu sh pn hk ((C_ca (cs 3)), (C_tk (cs 3)), (C_gr (cs 3)), (C_go (cs 3)), (C_we (cs 3)), (C_dr (cs 3)), (C_ea (cs 3)), (C_du (cs 3)), fl))))), (ad 3 5, .inl (G.2.1, 24, .inl (P_we (s_run (nvF 3) ai (s_gz (nI ho)) wi qu sh pn hk ((C_ca (cs 3)), (C_tk (cs 3)), (C_gr (cs 3)), (C_go (cs 3)), (C_we (cs 3)), (C_dr (cs 3)), (C_ea (cs 3)), (C_du (cs 3)), fl))))), (ad 3 6, .inl (G.2.1, 24, .inl (P_dr (s_run (nvF 3) ai (s_gz (nI ho)) wi qu sh pn hk ((C_ca (cs 3)), (C_tk (cs 3)), (C_gr (cs 3)), (C_go (cs 3)), (C_we (cs 3)), (C_dr (cs 3)), (C_ea (cs 3)), (C_du (cs 3)), fl))))), (ad 3 7, .inl (G.2.1, 24, .inl (P_ea (s_run (nvF 3) ai (s_gz (nI ho)) wi qu sh pn hk ((C_ca (cs 3)), (C_tk (cs 3)), (C_gr (cs 3)), (C_go (cs 3)), (C_we (cs 3)), (C_dr (cs 3)), (C_ea (cs 3)), (C_du (cs 3)), fl))))), (ad 4 0, .inr (0, [.ref o0, .int (nvF 4), .ref (ad 4 1), .ref (ad 4 2), .ref (ad 4 3), .ref (ad 4 4), .ref (ad 4 5), .ref (ad 4 6), .ref (ad 4 7), .int ((C_br (cs 4)) + fl), .int (P_du (s_run (nvF 4) ai (s_gz (nI ho)) wi qu sh pn hk ((C_ca (cs 4)), (C_tk (cs 4)), (C_gr (cs 4)), (C_go (cs 4)), (C_we (cs 4)), (C_dr (cs 4)), (C_ea (cs 4)), (C_du (cs 4)), fl))), .int ((C_mi (cs 4)) + (P_w (s_run (nvF 4) ai (s_gz (nI ho)) wi qu sh pn hk ((C_ca (cs 4)), (C_tk (cs 4)), (C_gr (cs 4)), (C_go (cs 4)), (C_we (cs 4)), (C_dr (cs 4)), (C_ea (cs 4)), (C_du (cs 4)), fl)))), .int (P_w (s_run (nvF 4) ai (s_gz (nI ho)) wi qu sh pn hk ((C_ca (cs 4)), (C_tk (cs 4)), (C_gr (cs 4)), (C_go (cs 4)), (C_we (cs 4)), (C_dr (cs 4)), (C_ea (cs 4)), (C_du (cs 4)), fl))), .int (s_mb (P_w (s_run (nvF 4) ai (s_gz (nI ho)) wi qu sh pn hk ((C_ca (cs 4)), (C_tk (cs 4)), (C_gr (cs 4)), (C_go (cs 4)), (C_we (cs 4)), (C_dr (cs 4)), (C_ea (cs 4)), (C_du (cs 4)), fl))) (s_ra fl rn rf rt (nI ho)) (C_mb (cs 4)))])), (ad 4 1, .inl (G.2.1, 6, .inl (P_ca (s_run (nvF 4) ai (s_gz (nI ho)) wi qu sh pn hk ((C_ca (cs 4)), (C_tk (cs 4)), (C_gr (cs 4)), (C_go (cs 4)), (C_we (cs 4)), (C_dr (cs 4)), (C_ea (cs 4)), (C_du (cs 4)), fl))))), (ad 4 2, .inl (G.2.1, 6, .inl (P_tk (s_run (nvF 4) ai (s_gz (nI ho)) wi qu sh pn hk ((C_ca (cs 4)), (C_tk (cs 4)), (C_gr (cs 4)), (C_go (cs 4)), (C_we (cs 4)), (C_dr (cs 4)), (C_ea (cs 4)), (C_du (cs 4)), fl))))), (ad 4 3, .inl (G.2.1, 24, .inl (P_gr (s_run (nvF 4) ai (s_gz (nI ho)) wi qu sh pn hk ((C_ca (cs 4)), (C_tk (cs 4)), (C_gr (cs 4)), (C_go (cs 4)), (C_we (cs 4)), (C_dr (cs 4)), (C_ea (cs 4)), (C_du (cs 4)), fl))))), (ad 4 4, .inl (G.2.1, 24, .inl (P_go (s_run (nvF 4) ai (s_gz (nI ho)) wi qu sh pn hk ((C_ca (cs 4)), (C_tk (cs 4)), (C_gr (cs 4)), (C_go (cs 4)), (C_we (cs 4)), (C_dr (cs 4)), (C_ea (cs 4)), (C_du (cs 4)), fl))))), (ad 4 5, .inl (G.2.1, 24, .inl (P_we (s_run (nvF 4) ai (s_gz (nI ho)) wi qu sh pn hk ((C_ca (cs 4)), (C_tk (cs 4)), (C_gr (cs 4)), (C_go (cs 4)), (C_we (cs 4)), (C_dr (cs 4)), (C_ea (cs 4)), (C_du (cs 4)), fl))))), (ad 4 6, .inl (G.2.1, 24, .inl (P_dr (s_run (nvF 4) ai (s_gz (nI ho)) wi qu sh pn hk ((C_ca (cs 4)), (C_tk (cs 4)), (C_gr (cs 4)), (C_go (cs 4)), (C_we (cs 4)), (C_dr (cs 4)), (C_ea (cs 4)), (C_du (cs 4)), fl))))), (ad 4 7, .inl (G.2.1, 24, .inl (P_ea (s_run (nvF 4) ai (s_gz (nI ho)) wi qu sh pn hk ((C_ca (cs 4)), (C_tk (cs 4)), (C_gr (cs 4)), (C_go (cs 4)), (C_we (cs 4)), (C_dr (cs 4)), (C_ea (cs 4)), (C_du (cs 4)), fl))))), (ad 5 0, .inr (0, [.ref o0, .int (nvF 5), .ref (ad 5 1), .ref (ad 5 2), .ref (ad 5 3), .ref (ad 5 4), .ref (ad 5 5), .ref (ad 5 6), .ref (ad 5 7), .int ((C_br (cs 5)) + fl), .int (P_du (s_run (nvF 5) ai (s_gz (nI ho)) wi qu sh pn hk ((C_ca (cs 5)), (C_tk (cs 5)), (C_gr (cs 5)), (C_go (cs 5)), (C_we (cs 5)), (C_dr (cs 5)), (C_ea (cs 5)), (C_du (cs 5)), fl))), .int ((C_mi (cs 5)) + (P_w (s_run (nvF 5) ai (s_gz (nI ho)) wi qu sh pn hk ((C_ca (cs 5)), (C_tk (cs 5)), (C_gr (cs 5)), (C_go (cs 5)), (C_we (cs 5)), (C_dr (cs 5)), (C_ea (cs 5)), (C_du (cs 5)), fl)))), .int (P_w (s_run (nvF 5) ai (s_gz (nI ho)) wi qu sh pn hk ((C_ca (cs 5)), (C_tk (cs 5)), (C_gr (cs 5)), (C_go (cs 5)), (C_we (cs 5)), (C_dr (cs 5)), (C_ea (cs 5)), (C_du (cs 5)), fl))), .int (s_mb (P_w (s_run (nvF 5) ai (s_gz (nI ho)) wi qu sh pn hk ((C_ca (cs 5)), (C_tk (cs 5)), (C_gr (cs 5)), (C_go (cs 5)), (C_we (cs 5)), (C_dr (cs 5)), (C_ea (cs 5)), (C_du (cs 5)), fl))) (s_ra fl rn rf rt (nI ho)) (C_mb (cs 5)))])), (ad 5 1, .inl (G.2.1, 6, .inl (P_ca (s_run (nvF 5) ai (s_gz (nI ho)) wi qu sh pn hk ((C_ca (cs 5)), (C_tk (cs 5)), (C_gr (cs 5)), (C_go (cs 5)), (C_we (cs 5)), (C_dr (cs 5)), (C_ea (cs 5)), (C_du (cs 5)), fl))))), (ad 5 2, .inl (G.2.1, 6, .inl (P_tk (s_run (nvF 5) ai (s_gz (nI ho)) wi qu sh pn hk ((C_ca (cs 5)), (C_tk (cs 5)), (C_gr (cs 5)), (C_go (cs 5)), (C_we (cs 5)), (C_dr (cs 5)), (C_ea (cs 5)), (C_du (cs 5)), fl))))), (ad 5 3, .inl (G.2.1, 24, .inl (P_gr (s_run (nvF 5) ai (s_gz (nI ho)) wi qu sh pn hk ((C_ca (cs 5)), (C_tk (cs 5)), (C_gr (cs 5)), (C_go (cs 5)), (C_we (cs 5)), (C_dr (cs 5)), (C_ea (cs 5)), (C_du (cs 5)), fl))))), (ad 5 4, .inl (G.2.1, 24, .inl (P_go (s_run (nvF 5) ai (s_gz (nI ho)) wi qu sh pn hk ((C_ca (cs 5)), (C_tk (cs 5)), (C_gr (cs 5)), (C_go (cs 5)), (C_we (cs 5)), (C_dr (cs 5)), (C_ea (cs 5)), (C_du (cs 5)), fl))))), (ad 5 5, .inl (G.2.1, 24, .inl (P_we (s_run (nvF 5) ai (s_gz (nI ho)) wi qu sh pn hk ((C_ca (cs 5)), (C_tk (cs 5)), (C_gr (cs 5)), (C_go (cs 5)), (C_we (cs 5)), (C_dr (cs 5)), (C_ea (cs 5)), (C_du (cs 5)), fl))))), (ad 5 6, .inl (G.2.1, 24, .inl (P_dr (s_run (nvF 5) ai (s_gz (nI ho)) wi qu sh pn hk ((C_ca (cs 5)), (C_tk (cs 5)), (C_gr (cs 5)), (C_go (cs 5)), (C_we (cs 5)), (C_dr (cs 5)), (C_ea (cs 5)), (C_du (cs 5)), fl))))), (ad 5 7, .inl (G.2.1, 24, .inl (P_ea (s_run (nvF 5) ai (s_gz (nI ho)) wi qu sh pn hk ((C_ca (cs 5)), (C_tk (cs 5)), (C_gr (cs 5)), (C_go (cs 5)), (C_we (cs 5)), (C_dr (cs 5)), (C_ea (cs 5)), (C_du (cs 5)), fl))))), (ad 6 0, .inr (0, [.ref o0, .int (nvF 6), .ref (ad 6 1), .ref (ad 6 2), .ref (ad 6 3), .ref (ad 6 4), .ref (ad 6 5), .ref (ad 6 6), .ref (ad 6 7), .int (C_br (cs 6)), .int (C_du (cs 6)), .int (C_mi (cs 6)), .int (C_am (cs 6)), .int (C_mb (cs 6))])), (ad 6 1, .inl (G.2.1, 6, .inl (C_ca (cs 6)))), (ad 6 2, .inl (G.2.1, 6, .inl (C_tk (cs 6)))), (ad 6 3, .inl (G.2.1, 24, .inl (C_gr (cs 6)))), (ad 6 4, .inl (G.2.1, 24, .inl (C_go (cs 6)))), (ad 6 5, .inl (G.2.1, 24, .inl (C_we (cs 6)))), (ad 6 6, .inl (G.2.1, 24, .inl (C_dr (cs 6)))), (ad 6 7, .inl (G.2.1, 24, .inl (C_ea (cs 6))))]) (As := [.int (nI ho)]) (rest := []) (c_X0_passHour l G (ad 5 0) o0 (nvF 5) (ad 5 1) (ad 5 2) (ad 5 3) (ad 5 4) (ad 5 5) (ad 5 6) (ad 5 7) (C_br (cs 5)) (C_du (cs 5)) (C_mi (cs 5)) (C_am (cs 5)) (C_mb (cs 5)) oFa oWi oPa oQu oSh hk fl ai rn rf rt (C_ca (cs 5)) (C_tk (cs 5)) (C_gr (cs 5)) (C_go (cs 5)) (C_we (cs 5)) (C_dr (cs 5)) (C_ea (cs 5)) wi qu sh pn (nI ho) hk6 hpn) YX0_passHour mX3_169 dX3_advance_33 ciX0 53 rfl [53, 54, 55, 56, 57, 58, 59, 60, 1, 3, 4, 5, 6] (by decide) rfl rfl rfl rfl rfl rfl (Nat.le_of_ble_eq_true rfl) (by decide) (by decide) ?_
  refine v_iinc (v := 5) (q := 0) (lv' := [(1, .int 5), (0, .ref x0)]) dX3_advance_36 rfl (by decide) (by decide) rfl ?_
  refine v_goto (tgt := 17) dX3_advance_39 (by decide) ?_
  refine v_iload_n dX3_advance_17 rfl 0 rfl ?_
  refine v_bipush (v := 6) dX3_advance_18 (by decide) ?_
  refine v_icmp_ge (tgt := 42) dX3_advance_20 (by decide) (fun h20 => absurd h20 (by decide)) (fun h20 => ?_)
  refine v_aload_n dX3_advance_23 rfl 1 rfl ?_
  refine v_get fX3_32 dX3_advance_24 0 rfl rfl ?_
  refine v_iload_n dX3_advance_27 rfl 0 rfl ?_
  refine v_aald dX3_advance_28 12 rfl 5 rfl (by decide) (by decide) rfl ?_
  refine v_aload_n dX3_advance_29 rfl 1 rfl ?_
  refine v_get fX3_96 dX3_advance_30 0 rfl rfl ?_
  refine v_vMv (ws' := [(x0, .inr (3, [.ref o0, .ref g0, .ref (ad 0 0), .ref sA, .int (nI ho), .int (nI de)])), (o0, .inr (2, [.ref oFa, .ref oWi, .ref oPa, .ref oQu, .ref oSh, .int (nI hk), .int fl, .int ai, .int rn, .int rf, .int rt])), (oFa, .inl (G.2.1, 6, .inl (pN fn))), (oWi, .inl (G.2.1, 6, .inl wi)), (oPa, .inl (G.2.1, 6, .inl (pN pn))), (oQu, .inl (G.2.1, 6, .inl qu)), (oSh, .inl (G.2.1, 24, .inl sh)), (g0, .inr (1, [.ref lH, .ref lS, .ref lW, .ref lT, .int (nI (min (J_bn (s_mill (s_short (P_w (s_run (nvF 0) ai (s_gz (nI ho)) wi qu sh pn hk ((C_ca (cs 0)), (C_tk (cs 0)), (C_gr (cs 0)), (C_go (cs 0)), (C_we (cs 0)), (C_dr (cs 0)), (C_ea (cs 0)), (C_du (cs 0)), fl))) (s_ra fl rn rf rt (nI ho))) (nI ho) (s_jrun (P_tk (s_run (nvF 0) ai (s_gz (nI ho)) wi qu sh pn hk ((C_ca (cs 0)), (C_tk (cs 0)), (C_gr (cs 0)), (C_go (cs 0)), (C_we (cs 0)), (C_dr (cs 0)), (C_ea (cs 0)), (C_du (cs 0)), fl))) fn fl ai (nI ho) hk (lh, ls, lw, lt, bn, 0, 0)))) 60)), .int (nI (J_bn (s_mill (s_short (P_w (s_run (nvF 0) ai (s_gz (nI ho)) wi qu sh pn hk ((C_ca (cs 0)), (C_tk (cs 0)), (C_gr (cs 0)), (C_go (cs 0)), (C_we (cs 0)), (C_dr (cs 0)), (C_ea (cs 0)), (C_du (cs 0)), fl))) (s_ra fl rn rf rt (nI ho))) (nI ho) (s_jrun (P_tk (s_run (nvF 0) ai (s_gz (nI ho)) wi qu sh pn hk ((C_ca (cs 0)), (C_tk (cs 0)), (C_gr (cs 0)), (C_go (cs 0)), (C_we (cs 0)), (C_dr (cs 0)), (C_ea (cs 0)), (C_du (cs 0)), fl))) fn fl ai (nI ho) hk (lh, ls, lw, lt, bn, 0, 0)))))])), (lH, .inl (G.2.1, 60, .inl (J_lh (s_mill (s_short (P_w (s_run (nvF 0) ai (s_gz (nI ho)) wi qu sh pn hk ((C_ca (cs 0)), (C_tk (cs 0)), (C_gr (cs 0)), (C_go (cs 0)), (C_we (cs 0)), (C_dr (cs 0)), (C_ea (cs 0)), (C_du (cs 0)), fl))) (s_ra fl rn rf rt (nI ho))) (nI ho) (s_jrun (P_tk (s_run (nvF 0) ai (s_gz (nI ho)) wi qu sh pn hk ((C_ca (cs 0)), (C_tk (cs 0)), (C_gr (cs 0)), (C_go (cs 0)), (C_we (cs 0)), (C_dr (cs 0)), (C_ea (cs 0)), (C_du (cs 0)), fl))) fn fl ai (nI ho) hk (lh, ls, lw, lt, bn, 0, 0)))))), (lS, .inl (G.2.1, 60, .inl (J_ls (s_mill (s_short (P_w (s_run (nvF 0) ai (s_gz (nI ho)) wi qu sh pn hk ((C_ca (cs 0)), (C_tk (cs 0)), (C_gr (cs 0)), (C_go (cs 0)), (C_we (cs 0)), (C_dr (cs 0)), (C_ea (cs 0)), (C_du (cs 0)), fl))) (s_ra fl rn rf rt (nI ho))) (nI ho) (s_jrun (P_tk (s_run (nvF 0) ai (s_gz (nI ho)) wi qu sh pn hk ((C_ca (cs 0)), (C_tk (cs 0)), (C_gr (cs 0)), (C_go (cs 0)), (C_we (cs 0)), (C_dr (cs 0)), (C_ea (cs 0)), (C_du (cs 0)), fl))) fn fl ai (nI ho) hk (lh, ls, lw, lt, bn, 0, 0)))))), (lW, .inl (G.2.1, 60, .inl (J_lw (s_mill (s_short (P_w (s_run (nvF 0) ai (s_gz (nI ho)) wi qu sh pn hk ((C_ca (cs 0)), (C_tk (cs 0)), (C_gr (cs 0)), (C_go (cs 0)), (C_we (cs 0)), (C_dr (cs 0)), (C_ea (cs 0)), (C_du (cs 0)), fl))) (s_ra fl rn rf rt (nI ho))) (nI ho) (s_jrun (P_tk (s_run (nvF 0) ai (s_gz (nI ho)) wi qu sh pn hk ((C_ca (cs 0)), (C_tk (cs 0)), (C_gr (cs 0)), (C_go (cs 0)), (C_we (cs 0)), (C_dr (cs 0)), (C_ea (cs 0)), (C_du (cs 0)), fl))) fn fl ai (nI ho) hk (lh, ls, lw, lt, bn, 0, 0)))))), (lT, .inl (G.2.1, 4, .inl (J_lt (s_mill (s_short (P_w (s_run (nvF 0) ai (s_gz (nI ho)) wi qu sh pn hk ((C_ca (cs 0)), (C_tk (cs 0)), (C_gr (cs 0)), (C_go (cs 0)), (C_we (cs 0)), (C_dr (cs 0)), (C_ea (cs 0)), (C_du (cs 0)), fl))) (s_ra fl rn rf rt (nI ho))) (nI ho) (s_jrun (P_tk (s_run (nvF 0) ai (s_gz (nI ho)) wi qu sh pn hk ((C_ca (cs 0)), (C_tk (cs 0)), (C_gr (cs 0)), (C_go (cs 0)), (C_we (cs 0)), (C_dr (cs 0)), (C_ea (cs 0)), (C_du (cs 0)), fl))) fn fl ai (nI ho) hk (lh, ls, lw, lt, bn, 0, 0)))))), (sA, .inl (G.2.2, 6, .inr (.inr (.inr (.inr (fun i => some (ad (i + 1) 0))))))), (ad 0 0, .inr (0, [.ref o0, .int (nvF 0), .ref (ad 0 1), .ref (ad 0 2), .ref (ad 0 3), .ref (ad 0 4), .ref (ad 0 5), .ref (ad 0 6), .ref (ad 0 7), .int ((C_br (cs 0)) + fl), .int (P_du (s_run (nvF 0) ai (s_gz (nI ho)) wi qu sh pn hk ((C_ca (cs 0)), (C_tk (cs 0)), (C_gr (cs 0)), (C_go (cs 0)), (C_we (cs 0)), (C_dr (cs 0)), (C_ea (cs 0)), (C_du (cs 0)), fl))), .int ((C_mi (cs 0)) + (P_w (s_run (nvF 0) ai (s_gz (nI ho)) wi qu sh pn hk ((C_ca (cs 0)), (C_tk (cs 0)), (C_gr (cs 0)), (C_go (cs 0)), (C_we (cs 0)), (C_dr (cs 0)), (C_ea (cs 0)), (C_du (cs 0)), fl)))), .int (P_w (s_run (nvF 0) ai (s_gz (nI ho)) wi qu sh pn hk ((C_ca (cs 0)), (C_tk (cs 0)), (C_gr (cs 0)), (C_go (cs 0)), (C_we (cs 0)), (C_dr (cs 0)), (C_ea (cs 0)), (C_du (cs 0)), fl))), .int (s_mb (P_w (s_run (nvF 0) ai (s_gz (nI ho)) wi qu sh pn hk ((C_ca (cs 0)), (C_tk (cs 0)), (C_gr (cs 0)), (C_go (cs 0)), (C_we (cs 0)), (C_dr (cs 0)), (C_ea (cs 0)), (C_du (cs 0)), fl))) (s_ra fl rn rf rt (nI ho)) (C_mb (cs 0)))])), (ad 0 1, .inl (G.2.1, 6, .inl (P_ca (s_run (nvF 0) ai (s_gz (nI ho)) wi qu sh pn hk ((C_ca (cs 0)), (C_tk (cs 0)), (C_gr (cs 0)), (C_go (cs 0)), (C_we (cs 0)), (C_dr (cs 0)), (C_ea (cs 0)), (C_du (cs 0)), fl))))), (ad 0 2, .inl (G.2.1, 6, .inl (P_tk (s_run (nvF 0) ai (s_gz (nI ho)) wi qu sh pn hk ((C_ca (cs 0)), (C_tk (cs 0)), (C_gr (cs 0)), (C_go (cs 0)), (C_we (cs 0)), (C_dr (cs 0)), (C_ea (cs 0)), (C_du (cs 0)), fl))))), (ad 0 3, .inl (G.2.1, 24, .inl (P_gr (s_run (nvF 0) ai (s_gz (nI ho)) wi qu sh pn hk ((C_ca (cs 0)), (C_tk (cs 0)), (C_gr (cs 0)), (C_go (cs 0)), (C_we (cs 0)), (C_dr (cs 0)), (C_ea (cs 0)), (C_du (cs 0)), fl))))), (ad 0 4, .inl (G.2.1, 24, .inl (P_go (s_run (nvF 0) ai (s_gz (nI ho)) wi qu sh pn hk ((C_ca (cs 0)), (C_tk (cs 0)), (C_gr (cs 0)), (C_go (cs 0)), (C_we (cs 0)), (C_dr (cs 0)), (C_ea (cs 0)), (C_du (cs 0)), fl))))), (ad 0 5, .inl (G.2.1, 24, .inl (P_we (s_run (nvF 0) ai (s_gz (nI ho)) wi qu sh pn hk ((C_ca (cs 0)), (C_tk (cs 0)), (C_gr (cs 0)), (C_go (cs 0)), (C_we (cs 0)), (C_dr (cs 0)), (C_ea (cs 0)), (C_du (cs 0)), fl))))), (ad 0 6, .inl (G.2.1, 24, .inl (P_dr (s_run (nvF 0) ai (s_gz (nI ho)) wi qu sh pn hk ((C_ca (cs 0)), (C_tk (cs 0)), (C_gr (cs 0)), (C_go (cs 0)), (C_we (cs 0)), (C_dr (cs 0)), (C_ea (cs 0)), (C_du (cs 0)), fl))))), (ad 0 7, .inl (G.2.1, 24, .inl (P_ea (s_run (nvF 0) ai (s_gz (nI ho)) wi qu sh pn hk ((C_ca (cs 0)), (C_tk (cs 0)), (C_gr (cs 0)), (C_go (cs 0)), (C_we (cs 0)), (C_dr (cs 0)), (C_ea (cs 0)), (C_du (cs 0)), fl))))), (ad 1 0, .inr (0, [.ref o0, .int (nvF 1), .ref (ad 1 1), .ref (ad 1 2), .ref (ad 1 3), .ref (ad 1 4), .ref (ad 1 5), .ref (ad 1 6), .ref (ad 1 7), .int ((C_br (cs 1)) + fl), .int (P_du (s_run (nvF 1) ai (s_gz (nI ho)) wi qu sh pn hk ((C_ca (cs 1)), (C_tk (cs 1)), (C_gr (cs 1)), (C_go (cs 1)), (C_we (cs 1)), (C_dr (cs 1)), (C_ea (cs 1)), (C_du (cs 1)), fl))), .int ((C_mi (cs 1)) + (P_w (s_run (nvF 1) ai (s_gz (nI ho)) wi qu sh pn hk ((C_ca (cs 1)), (C_tk (cs 1)), (C_gr (cs 1)), (C_go (cs 1)), (C_we (cs 1)), (C_dr (cs 1)), (C_ea (cs 1)), (C_du (cs 1)), fl)))), .int (P_w (s_run (nvF 1) ai (s_gz (nI ho)) wi qu sh pn hk ((C_ca (cs 1)), (C_tk (cs 1)), (C_gr (cs 1)), (C_go (cs 1)), (C_we (cs 1)), (C_dr (cs 1)), (C_ea (cs 1)), (C_du (cs 1)), fl))), .int (s_mb (P_w (s_run (nvF 1) ai (s_gz (nI ho)) wi qu sh pn hk ((C_ca (cs 1)), (C_tk (cs 1)), (C_gr (cs 1)), (C_go (cs 1)), (C_we (cs 1)), (C_dr (cs 1)), (C_ea (cs 1)), (C_du (cs 1)), fl))) (s_ra fl rn rf rt (nI ho)) (C_mb (cs 1)))])), (ad 1 1, .inl (G.2.1, 6, .inl (P_ca (s_run (nvF 1) ai (s_gz (nI ho)) wi qu sh pn hk ((C_ca (cs 1)), (C_tk (cs 1)), (C_gr (cs 1)), (C_go (cs 1)), (C_we (cs 1)), (C_dr (cs 1)), (C_ea (cs 1)), (C_du (cs 1)), fl))))), (ad 1 2, .inl (G.2.1, 6, .inl (P_tk (s_run (nvF 1) ai (s_gz (nI ho)) wi qu sh pn hk ((C_ca (cs 1)), (C_tk (cs 1)), (C_gr (cs 1)), (C_go (cs 1)), (C_we (cs 1)), (C_dr (cs 1)), (C_ea (cs 1)), (C_du (cs 1)), fl))))), (ad 1 3, .inl (G.2.1, 24, .inl (P_gr (s_run (nvF 1) ai (s_gz (nI ho)) wi qu sh pn hk ((C_ca (cs 1)), (C_tk (cs 1)), (C_gr (cs 1)), (C_go (cs 1)), (C_we (cs 1)), (C_dr (cs 1)), (C_ea (cs 1)), (C_du (cs 1)), fl))))), (ad 1 4, .inl (G.2.1, 24, .inl (P_go (s_run (nvF 1) ai (s_gz (nI ho)) wi qu sh pn hk ((C_ca (cs 1)), (C_tk (cs 1)), (C_gr (cs 1)), (C_go (cs 1)), (C_we (cs 1)), (C_dr (cs 1)), (C_ea (cs 1)), (C_du (cs 1)), fl))))), (ad 1 5, .inl (G.2.1, 24, .inl (P_we (s_run (nvF 1) ai (s_gz (nI ho)) wi qu sh pn hk ((C_ca (cs 1)), (C_tk (cs 1)), (C_gr (cs 1)), (C_go (cs 1)), (C_we (cs 1)), (C_dr (cs 1)), (C_ea (cs 1)), (C_du (cs 1)), fl))))), (ad 1 6, .inl (G.2.1, 24, .inl (P_dr (s_run (nvF 1) ai (s_gz (nI ho)) wi qu sh pn hk ((C_ca (cs 1)), (C_tk (cs 1)), (C_gr (cs 1)), (C_go (cs 1)), (C_we (cs 1)), (C_dr (cs 1)), (C_ea (cs 1)), (C_du (cs 1)), fl))))), (ad 1 7, .inl (G.2.1, 24, .inl (P_ea (s_run (nvF 1) ai (s_gz (nI ho)) wi qu sh pn hk ((C_ca (cs 1)), (C_tk (cs 1)), (C_gr (cs 1)), (C_go (cs 1)), (C_we (cs 1)), (C_dr (cs 1)), (C_ea (cs 1)), (C_du (cs 1)), fl))))), (ad 2 0, .inr (0, [.ref o0, .int (nvF 2), .ref (ad 2 1), .ref (ad 2 2), .ref (ad 2 3), .ref (ad 2 4), .ref (ad 2 5), .ref (ad 2 6), .ref (ad 2 7), .int ((C_br (cs 2)) + fl), .int (P_du (s_run (nvF 2) ai (s_gz (nI ho)) wi qu sh pn hk ((C_ca (cs 2)), (C_tk (cs 2)), (C_gr (cs 2)), (C_go (cs 2)), (C_we (cs 2)), (C_dr (cs 2)), (C_ea (cs 2)), (C_du (cs 2)), fl))), .int ((C_mi (cs 2)) + (P_w (s_run (nvF 2) ai (s_gz (nI ho)) wi qu sh pn hk ((C_ca (cs 2)), (C_tk (cs 2)), (C_gr (cs 2)), (C_go (cs 2)), (C_we (cs 2)), (C_dr (cs 2)), (C_ea (cs 2)), (C_du (cs 2)), fl)))), .int (P_w (s_run (nvF 2) ai (s_gz (nI ho)) wi qu sh pn hk ((C_ca (cs 2)), (C_tk (cs 2)), (C_gr (cs 2)), (C_go (cs 2)), (C_we (cs 2)), (C_dr (cs 2)), (C_ea (cs 2)), (C_du (cs 2)), fl))), .int (s_mb (P_w (s_run (nvF 2) ai (s_gz (nI ho)) wi qu sh pn hk ((C_ca (cs 2)), (C_tk (cs 2)), (C_gr (cs 2)), (C_go (cs 2)), (C_we (cs 2)), (C_dr (cs 2)), (C_ea (cs 2)), (C_du (cs 2)), fl))) (s_ra fl rn rf rt (nI ho)) (C_mb (cs 2)))])), (ad 2 1, .inl (G.2.1, 6, .inl (P_ca (s_run (nvF 2) ai (s_gz (nI ho)) wi qu sh pn hk ((C_ca (cs 2)), (C_tk (cs 2)), (C_gr (cs 2)), (C_go (cs 2)), (C_we (cs 2)), (C_dr (cs 2)), (C_ea (cs 2)), (C_du (cs 2)), fl))))), (ad 2 2, .inl (G.2.1, 6, .inl (P_tk (s_run (nvF 2) ai (s_gz (nI ho)) wi qu sh pn hk ((C_ca (cs 2)), (C_tk (cs 2)), (C_gr (cs 2)), (C_go (cs 2)), (C_we (cs 2)), (C_dr (cs 2)), (C_ea (cs 2)), (C_du (cs 2)), fl))))), (ad 2 3, .inl (G.2.1, 24, .inl (P_gr (s_run (nvF 2) ai (s_gz (nI ho)) wi qu sh pn hk ((C_ca (cs 2)), (C_tk (cs 2)), (C_gr (cs 2)), (C_go (cs 2)), (C_we (cs 2)), (C_dr (cs 2)), (C_ea (cs 2)), (C_du (cs 2)), fl))))), (ad 2 4, .inl (G.2.1, 24, .inl (P_go (s_run (nvF 2) ai (s_gz (nI ho)) wi qu sh pn hk ((C_ca (cs 2)), (C_tk (cs 2)), (C_gr (cs 2)), (C_go (cs 2)), (C_we (cs 2)), (C_dr (cs 2)), (C_ea (cs 2)), (C_du (cs 2)), fl))))), (ad 2 5, .inl (G.2.1, 24, .inl (P_we (s_run (nvF 2) ai (s_gz (nI ho)) wi qu sh pn hk ((C_ca (cs 2)), (C_tk (cs 2)), (C_gr (cs 2)), (C_go (cs 2)), (C_we (cs 2)), (C_dr (cs 2)), (C_ea (cs 2)), (C_du (cs 2)), fl))))), (ad 2 6, .inl (G.2.1, 24, .inl (P_dr (s_run (nvF 2) ai (s_gz (nI ho)) wi qu sh pn hk ((C_ca (cs 2)), (C_tk (cs 2)), (C_gr (cs 2)), (C_go (cs 2)), (C_we (cs 2)), (C_dr (cs 2)), (C_ea (cs 2)), (C_du (cs 2)), fl))))), (ad 2 7, .inl (G.2.1, 24, .inl (P_ea (s_run (nvF 2) ai (s_gz (nI ho)) wi qu sh pn hk ((C_ca (cs 2)), (C_tk (cs 2)), (C_gr (cs 2)), (C_go (cs 2)), (C_we (cs 2)), (C_dr (cs 2)), (C_ea (cs 2)), (C_du (cs 2)), fl))))), (ad 3 0, .inr (0, [.ref o0, .int (nvF 3), .ref (ad 3 1), .ref (ad 3 2), .ref (ad 3 3), .ref (ad 3 4), .ref (ad 3 5), .ref (ad 3 6), .ref (ad 3 7), .int ((C_br (cs 3)) + fl), .int (P_du (s_run (nvF 3) ai (s_gz (nI ho)) wi qu sh pn hk ((C_ca (cs 3)), (C_tk (cs 3)), (C_gr (cs 3)), (C_go (cs 3)), (C_we (cs 3)), (C_dr (cs 3)), (C_ea (cs 3)), (C_du (cs 3)), fl))), .int ((C_mi (cs 3)) + (P_w (s_run (nvF 3) ai (s_gz (nI ho)) wi qu sh pn hk ((C_ca (cs 3)), (C_tk (cs 3)), (C_gr (cs 3)), (C_go (cs 3)), (C_we (cs 3)), (C_dr (cs 3)), (C_ea (cs 3)), (C_du (cs 3)), fl)))), .int (P_w (s_run (nvF 3) ai (s_gz (nI ho)) wi qu sh pn hk ((C_ca (cs 3)), (C_tk (cs 3)), (C_gr (cs 3)), (C_go (cs 3)), (C_we (cs 3)), (C_dr (cs 3)), (C_ea (cs 3)), (C_du (cs 3)), fl))), .int (s_mb (P_w (s_run (nvF 3) ai (s_gz (nI ho)) wi qu sh pn hk ((C_ca (cs 3)), (C_tk (cs 3)), (C_gr (cs 3)), (C_go (cs 3)), (C_we (cs 3)), (C_dr (cs 3)), (C_ea (cs 3)), (C_du (cs 3)), fl))) (s_ra fl rn rf rt (nI ho)) (C_mb (cs 3)))])), (ad 3 1, .inl (G.2.1, 6, .inl (P_ca (s_run (nvF 3) ai (s_gz (nI ho)) wi qu sh pn hk ((C_ca (cs 3)), (C_tk (cs 3)), (C_gr (cs 3)), (C_go (cs 3)), (C_we (cs 3)), (C_dr (cs 3)), (C_ea (cs 3)), (C_du (cs 3)), fl))))), (ad 3 2, .inl (G.2.1, 6, .inl (P_tk (s_run (nvF 3) ai (s_gz (nI ho)) wi qu sh pn hk ((C_ca (cs 3)), (C_tk (cs 3)), (C_gr (cs 3)), (C_go (cs 3)), (C_we (cs 3)), (C_dr (cs 3)), (C_ea (cs 3)), (C_du (cs 3)), fl))))), (ad 3 3, .inl (G.2.1, 24, .inl (P_gr (s_run (nvF 3) ai (s_gz (nI ho)) wi qu sh pn hk ((C_ca (cs 3)), (C_tk (cs 3)), (C_gr (cs 3)), (C_go (cs 3)), (C_we (cs 3)), (C_dr (cs 3)), (C_ea (cs 3)), (C_du (cs 3)), fl))))), (ad 3 4, .inl (G.2.1, 24, .inl (P_go (s_run (nvF 3) ai (s_gz (nI ho)) wi qu sh pn hk ((C_ca (cs 3)), (C_tk (cs 3)), (C_gr (cs 3)), (C_go (cs 3)), (C_we (cs 3)), (C_dr (cs 3)), (C_ea (cs 3)), (C_du (cs 3)), fl))))), (ad 3 5, .inl (G.2.1, 24, .inl (P_we (s_run (nvF 3) ai (s_gz (nI ho)) wi qu sh pn hk ((C_ca (cs 3)), (C_tk (cs 3)), (C_gr (cs 3)), (C_go (cs 3)), (C_we (cs 3)), (C_dr (cs 3)), (C_ea (cs 3)), (C_du (cs 3)), fl))))), (ad 3 6, .inl (G.2.1, 24, .inl (P_dr (s_run (nvF 3) ai (s_gz (nI ho)) wi qu sh pn hk ((C_ca (cs 3)), (C_tk (cs 3)), (C_gr (cs 3)), (C_go (cs 3)), (C_we (cs 3)), (C_dr (cs 3)), (C_ea (cs 3)), (C_du (cs 3)), fl))))), (ad 3 7, .inl (G.2.1, 24, .inl (P_ea (s_run (nvF 3) ai (s_gz (nI ho)) wi qu sh pn hk ((C_ca (cs 3)), (C_tk (cs 3)), (C_gr (cs 3)), (C_go (cs 3)), (C_we (cs 3)), (C_dr (cs 3)), (C_ea (cs 3)), (C_du (cs 3)), fl))))), (ad 4 0, .inr (0, [.ref o0, .int (nvF 4), .ref (ad 4 1), .ref (ad 4 2), .ref (ad 4 3), .ref (ad 4 4), .ref (ad 4 5), .ref (ad 4 6), .ref (ad 4 7), .int ((C_br (cs 4)) + fl), .int (P_du (s_run (nvF 4) ai (s_gz (nI ho)) wi qu sh pn hk ((C_ca (cs 4)), (C_tk (cs 4)), (C_gr (cs 4)), (C_go (cs 4)), (C_we (cs 4)), (C_dr (cs 4)), (C_ea (cs 4)), (C_du (cs 4)), fl))), .int ((C_mi (cs 4)) + (P_w (s_run (nvF 4) ai (s_gz (nI ho)) wi qu sh pn hk ((C_ca (cs 4)), (C_tk (cs 4)), (C_gr (cs 4)), (C_go (cs 4)), (C_we (cs 4)), (C_dr (cs 4)), (C_ea (cs 4)), (C_du (cs 4)), fl)))), .int (P_w (s_run (nvF 4) ai (s_gz (nI ho)) wi qu sh pn hk ((C_ca (cs 4)), (C_tk (cs 4)), (C_gr (cs 4)), (C_go (cs 4)), (C_we (cs 4)), (C_dr (cs 4)), (C_ea (cs 4)), (C_du (cs 4)), fl))), .int (s_mb (P_w (s_run (nvF 4) ai (s_gz (nI ho)) wi qu sh pn hk ((C_ca (cs 4)), (C_tk (cs 4)), (C_gr (cs 4)), (C_go (cs 4)), (C_we (cs 4)), (C_dr (cs 4)), (C_ea (cs 4)), (C_du (cs 4)), fl))) (s_ra fl rn rf rt (nI ho)) (C_mb (cs 4)))])), (ad 4 1, .inl (G.2.1, 6, .inl (P_ca (s_run (nvF 4) ai (s_gz (nI ho)) wi qu sh pn hk ((C_ca (cs 4)), (C_tk (cs 4)), (C_gr (cs 4)), (C_go (cs 4)), (C_we (cs 4)), (C_dr (cs 4)), (C_ea (cs 4)), (C_du (cs 4)), fl))))), (ad 4 2, .inl (G.2.1, 6, .inl (P_tk (s_run (nvF 4) ai (s_gz (nI ho)) wi qu sh pn hk ((C_ca (cs 4)), (C_tk (cs 4)), (C_gr (cs 4)), (C_go (cs 4)), (C_we (cs 4)), (C_dr (cs 4)), (C_ea (cs 4)), (C_du (cs 4)), fl))))), (ad 4 3, .inl (G.2.1, 24, .inl (P_gr (s_run (nvF 4) ai (s_gz (nI ho)) wi qu sh pn hk ((C_ca (cs 4)), (C_tk (cs 4)), (C_gr (cs 4)), (C_go (cs 4)), (C_we (cs 4)), (C_dr (cs 4)), (C_ea (cs 4)), (C_du (cs 4)), fl))))), (ad 4 4, .inl (G.2.1, 24, .inl (P_go (s_run (nvF 4) ai (s_gz (nI ho)) wi qu sh pn hk ((C_ca (cs 4)), (C_tk (cs 4)), (C_gr (cs 4)), (C_go (cs 4)), (C_we (cs 4)), (C_dr (cs 4)), (C_ea (cs 4)), (C_du (cs 4)), fl))))), (ad 4 5, .inl (G.2.1, 24, .inl (P_we (s_run (nvF 4) ai (s_gz (nI ho)) wi qu sh pn hk ((C_ca (cs 4)), (C_tk (cs 4)), (C_gr (cs 4)), (C_go (cs 4)), (C_we (cs 4)), (C_dr (cs 4)), (C_ea (cs 4)), (C_du (cs 4)), fl))))), (ad 4 6, .inl (G.2.1, 24, .inl (P_dr (s_run (nvF 4) ai (s_gz (nI ho)) wi qu sh pn hk ((C_ca (cs 4)), (C_tk (cs 4)), (C_gr (cs 4)), (C_go (cs 4)), (C_we (cs 4)), (C_dr (cs 4)), (C_ea (cs 4)), (C_du (cs 4)), fl))))), (ad 4 7, .inl (G.2.1, 24, .inl (P_ea (s_run (nvF 4) ai (s_gz (nI ho)) wi qu sh pn hk ((C_ca (cs 4)), (C_tk (cs 4)), (C_gr (cs 4)), (C_go (cs 4)), (C_we (cs 4)), (C_dr (cs 4)), (C_ea (cs 4)), (C_du (cs 4)), fl))))), (ad 5 0, .inr (0, [.ref o0, .int (nvF 5), .ref (ad 5 1), .ref (ad 5 2), .ref (ad 5 3), .ref (ad 5 4), .ref (ad 5 5), .ref (ad 5 6), .ref (ad 5 7), .int ((C_br (cs 5)) + fl), .int (P_du (s_run (nvF 5) ai (s_gz (nI ho)) wi qu sh pn hk ((C_ca (cs 5)), (C_tk (cs 5)), (C_gr (cs 5)), (C_go (cs 5)), (C_we (cs 5)), (C_dr (cs 5)), (C_ea (cs 5)), (C_du (cs 5)), fl))), .int ((C_mi (cs 5)) + (P_w (s_run (nvF 5) ai (s_gz (nI ho)) wi qu sh pn hk ((C_ca (cs 5)), (C_tk (cs 5)), (C_gr (cs 5)), (C_go (cs 5)), (C_we (cs 5)), (C_dr (cs 5)), (C_ea (cs 5)), (C_du (cs 5)), fl)))), .int (P_w (s_run (nvF 5) ai (s_gz (nI ho)) wi qu sh pn hk ((C_ca (cs 5)), (C_tk (cs 5)), (C_gr (cs 5)), (C_go (cs 5)), (C_we (cs 5)), (C_dr (cs 5)), (C_ea (cs 5)), (C_du (cs 5)), fl))), .int (s_mb (P_w (s_run (nvF 5) ai (s_gz (nI ho)) wi qu sh pn hk ((C_ca (cs 5)), (C_tk (cs 5)), (C_gr (cs 5)), (C_go (cs 5)), (C_we (cs 5)), (C_dr (cs 5)), (C_ea (cs 5)), (C_du (cs 5)), fl))) (s_ra fl rn rf rt (nI ho)) (C_mb (cs 5)))])), (ad 5 1, .inl (G.2.1, 6, .inl (P_ca (s_run (nvF 5) ai (s_gz (nI ho)) wi qu sh pn hk ((C_ca (cs 5)), (C_tk (cs 5)), (C_gr (cs 5)), (C_go (cs 5)), (C_we (cs 5)), (C_dr (cs 5)), (C_ea (cs 5)), (C_du (cs 5)), fl))))), (ad 5 2, .inl (G.2.1, 6, .inl (P_tk (s_run (nvF 5) ai (s_gz (nI ho)) wi qu sh pn hk ((C_ca (cs 5)), (C_tk (cs 5)), (C_gr (cs 5)), (C_go (cs 5)), (C_we (cs 5)), (C_dr (cs 5)), (C_ea (cs 5)), (C_du (cs 5)), fl))))), (ad 5 3, .inl (G.2.1, 24, .inl (P_gr (s_run (nvF 5) ai (s_gz (nI ho)) wi qu sh pn hk ((C_ca (cs 5)), (C_tk (cs 5)), (C_gr (cs 5)), (C_go (cs 5)), (C_we (cs 5)), (C_dr (cs 5)), (C_ea (cs 5)), (C_du (cs 5)), fl))))), (ad 5 4, .inl (G.2.1, 24, .inl (P_go (s_run (nvF 5) ai (s_gz (nI ho)) wi qu sh pn hk ((C_ca (cs 5)), (C_tk (cs 5)), (C_gr (cs 5)), (C_go (cs 5)), (C_we (cs 5)), (C_dr (cs 5)), (C_ea (cs 5)), (C_du (cs 5)), fl))))), (ad 5 5, .inl (G.2.1, 24, .inl (P_we (s_run (nvF 5) ai (s_gz (nI ho)) wi qu sh pn hk ((C_ca (cs 5)), (C_tk (cs 5)), (C_gr (cs 5)), (C_go (cs 5)), (C_we (cs 5)), (C_dr (cs 5)), (C_ea (cs 5)), (C_du (cs 5)), fl))))), (ad 5 6, .inl (G.2.1, 24, .inl (P_dr (s_run (nvF 5) ai (s_gz (nI ho)) wi qu sh pn hk ((C_ca (cs 5)), (C_tk (cs 5)), (C_gr (cs 5)), (C_go (cs 5)), (C_we (cs 5)), (C_dr (cs 5)), (C_ea (cs 5)), (C_du (cs 5)), fl))))), (ad 5 7, .inl (G.2.1, 24, .inl (P_ea (s_run (nvF 5) ai (s_gz (nI ho)) wi qu sh pn hk ((C_ca (cs 5)), (C_tk (cs 5)), (C_gr (cs 5)), (C_go (cs 5)), (C_we (cs 5)), (C_dr (cs 5)), (C_ea (cs 5)), (C_du (cs 5)), fl))))), (ad 6 0, .inr (0, [.ref o0, .int (nvF 6), .ref (ad 6 1), .ref (ad 6 2), .ref (ad 6 3), .ref (ad 6 4), .ref (ad 6 5), .ref (ad 6 6), .ref (ad 6 7), .int ((C_br (cs 6)) + fl), .int (P_du (s_run (nvF 6) ai (s_gz (nI ho)) wi qu sh pn hk ((C_ca (cs 6)), (C_tk (cs 6)), (C_gr (cs 6)), (C_go (cs 6)), (C_we (cs 6)), (C_dr (cs 6)), (C_ea (cs 6)), (C_du (cs 6)), fl))), .int ((C_mi (cs 6)) + (P_w (s_run (nvF 6) ai (s_gz (nI ho)) wi qu sh pn hk ((C_ca (cs 6)), (C_tk (cs 6)), (C_gr (cs 6)), (C_go (cs 6)), (C_we (cs 6)), (C_dr (cs 6)), (C_ea (cs 6)), (C_du (cs 6)), fl)))), .int (P_w (s_run (nvF 6) ai (s_gz (nI ho)) wi qu sh pn hk ((C_ca (cs 6)), (C_tk (cs 6)), (C_gr (cs 6)), (C_go (cs 6)), (C_we (cs 6)), (C_dr (cs 6)), (C_ea (cs 6)), (C_du (cs 6)), fl))), .int (s_mb (P_w (s_run (nvF 6) ai (s_gz (nI ho)) wi qu sh pn hk ((C_ca (cs 6)), (C_tk (cs 6)), (C_gr (cs 6)), (C_go (cs 6)), (C_we (cs 6)), (C_dr (cs 6)), (C_ea (cs 6)), (C_du (cs 6)), fl))) (s_ra fl rn rf rt (nI ho)) (C_mb (cs 6)))])), (ad 6 1, .inl (G.2.1, 6, .inl (P_ca (s_run (nvF 6) ai (s_gz (nI ho)) wi qu sh pn hk ((C_ca (cs 6)), (C_tk (cs 6)), (C_gr (cs 6)), (C_go (cs 6)), (C_we (cs 6)), (C_dr (cs 6)), (C_ea (cs 6)), (C_du (cs 6)), fl))))), (ad 6 2, .inl (G.2.1, 6, .inl (P_tk (s_run (nvF 6) ai (s_gz (nI ho)) wi qu sh pn hk ((C_ca (cs 6)), (C_tk (cs 6)), (C_gr (cs 6)), (C_go (cs 6)), (C_we (cs 6)), (C_dr (cs 6)), (C_ea (cs 6)), (C_du (cs 6)), fl))))), (ad 6 3, .inl (G.2.1, 24, .inl (P_gr (s_run (nvF 6) ai (s_gz (nI ho)) wi qu sh pn hk ((C_ca (cs 6)), (C_tk (cs 6)), (C_gr (cs 6)), (C_go (cs 6)), (C_we (cs 6)), (C_dr (cs 6)), (C_ea (cs 6)), (C_du (cs 6)), fl))))), (ad 6 4, .inl (G.2.1, 24, .inl (P_go (s_run (nvF 6) ai (s_gz (nI ho)) wi qu sh pn hk ((C_ca (cs 6)), (C_tk (cs 6)), (C_gr (cs 6)), (C_go (cs 6)), (C_we (cs 6)), (C_dr (cs 6)), (C_ea (cs 6)), (C_du (cs 6)), fl))))), (ad 6 5, .inl (G.2.1, 24, .inl (P_we (s_run (nvF 6) ai (s_gz (nI ho)) wi qu sh pn hk ((C_ca (cs 6)), (C_tk (cs 6)), (C_gr (cs 6)), (C_go (cs 6)), (C_we (cs 6)), (C_dr (cs 6)), (C_ea (cs 6)), (C_du (cs 6)), fl))))), (ad 6 6, .inl (G.2.1, 24, .inl (P_dr (s_run (nvF 6) ai (s_gz (nI ho)) wi qu sh pn hk ((C_ca (cs 6)), (C_tk (cs 6)), (C_gr (cs 6)), (C_go (cs 6)), (C_we (cs 6)), (C_dr (cs 6)), (C_ea (cs 6)), (C_du (cs 6)), fl))))), (ad 6 7, .inl (G.2.1, 24, .inl (P_ea (s_run (nvF 6) ai (s_gz (nI ho)) wi qu sh pn hk ((C_ca (cs 6)), (C_tk (cs 6)), (C_gr (cs 6)), (C_go (cs 6)), (C_we (cs 6)), (C_dr (cs 6)), (C_ea (cs 6)), (C_du (cs 6)), fl)))))]) (As := [.int (nI ho)]) (rest := []) (c_X0_passHour l G (ad 6 0) o0 (nvF 6) (ad 6 1) (ad 6 2) (ad 6 3) (ad 6 4) (ad 6 5) (ad 6 6) (ad 6 7) (C_br (cs 6)) (C_du (cs 6)) (C_mi (cs 6)) (C_am (cs 6)) (C_mb (cs 6)) oFa oWi oPa oQu oSh hk fl ai rn rf rt (C_ca (cs 6)) (C_tk (cs 6)) (C_gr (cs 6)) (C_go (cs 6)) (C_we (cs 6)) (C_dr (cs 6)) (C_ea (cs 6)) wi qu sh pn (nI ho) hk6 hpn) YX0_passHour mX3_169 dX3_advance_33 ciX0 61 rfl [61, 62, 63, 64, 65, 66, 67, 68, 1, 3, 4, 5, 6] (by decide) rfl rfl rfl rfl rfl rfl (Nat.le_of_ble_eq_true rfl) (by decide) (by decide) ?_
  refine v_iinc (v := 6) (q := 0) (lv' := [(1, .int 6), (0, .ref x0)]) dX3_advance_36 rfl (by decide) (by decide) rfl ?_
  refine v_goto (tgt := 17) dX3_advance_39 (by decide) ?_
  refine v_iload_n dX3_advance_17 rfl 0 rfl ?_
  refine v_bipush (v := 6) dX3_advance_18 (by decide) ?_
  refine v_icmp_ge (tgt := 42) dX3_advance_20 (by decide) (fun h20 => ?_) (fun h20 => absurd h20 (by decide))
  refine v_aload_n dX3_advance_42 rfl 1 rfl ?_
  refine v_dup dX3_advance_43 rfl ?_
  refine v_get fX3_96 dX3_advance_44 0 rfl rfl ?_
  refine v_iconst (v := 1) dX3_advance_47 (by decide) ?_
  refine v_iadd dX3_advance_48 ?_
  refine v_eqi (nI (ho + 1)) (nI_1 ho) ?_
  refine v_puti (ws' := [(x0, .inr (3, [.ref o0, .ref g0, .ref (ad 0 0), .ref sA, .int (nI (ho + 1)), .int (nI de)])), (o0, .inr (2, [.ref oFa, .ref oWi, .ref oPa, .ref oQu, .ref oSh, .int (nI hk), .int fl, .int ai, .int rn, .int rf, .int rt])), (oFa, .inl (G.2.1, 6, .inl (pN fn))), (oWi, .inl (G.2.1, 6, .inl wi)), (oPa, .inl (G.2.1, 6, .inl (pN pn))), (oQu, .inl (G.2.1, 6, .inl qu)), (oSh, .inl (G.2.1, 24, .inl sh)), (g0, .inr (1, [.ref lH, .ref lS, .ref lW, .ref lT, .int (nI (min (J_bn (s_mill (s_short (P_w (s_run (nvF 0) ai (s_gz (nI ho)) wi qu sh pn hk ((C_ca (cs 0)), (C_tk (cs 0)), (C_gr (cs 0)), (C_go (cs 0)), (C_we (cs 0)), (C_dr (cs 0)), (C_ea (cs 0)), (C_du (cs 0)), fl))) (s_ra fl rn rf rt (nI ho))) (nI ho) (s_jrun (P_tk (s_run (nvF 0) ai (s_gz (nI ho)) wi qu sh pn hk ((C_ca (cs 0)), (C_tk (cs 0)), (C_gr (cs 0)), (C_go (cs 0)), (C_we (cs 0)), (C_dr (cs 0)), (C_ea (cs 0)), (C_du (cs 0)), fl))) fn fl ai (nI ho) hk (lh, ls, lw, lt, bn, 0, 0)))) 60)), .int (nI (J_bn (s_mill (s_short (P_w (s_run (nvF 0) ai (s_gz (nI ho)) wi qu sh pn hk ((C_ca (cs 0)), (C_tk (cs 0)), (C_gr (cs 0)), (C_go (cs 0)), (C_we (cs 0)), (C_dr (cs 0)), (C_ea (cs 0)), (C_du (cs 0)), fl))) (s_ra fl rn rf rt (nI ho))) (nI ho) (s_jrun (P_tk (s_run (nvF 0) ai (s_gz (nI ho)) wi qu sh pn hk ((C_ca (cs 0)), (C_tk (cs 0)), (C_gr (cs 0)), (C_go (cs 0)), (C_we (cs 0)), (C_dr (cs 0)), (C_ea (cs 0)), (C_du (cs 0)), fl))) fn fl ai (nI ho) hk (lh, ls, lw, lt, bn, 0, 0)))))])), (lH, .inl (G.2.1, 60, .inl (J_lh (s_mill (s_short (P_w (s_run (nvF 0) ai (s_gz (nI ho)) wi qu sh pn hk ((C_ca (cs 0)), (C_tk (cs 0)), (C_gr (cs 0)), (C_go (cs 0)), (C_we (cs 0)), (C_dr (cs 0)), (C_ea (cs 0)), (C_du (cs 0)), fl))) (s_ra fl rn rf rt (nI ho))) (nI ho) (s_jrun (P_tk (s_run (nvF 0) ai (s_gz (nI ho)) wi qu sh pn hk ((C_ca (cs 0)), (C_tk (cs 0)), (C_gr (cs 0)), (C_go (cs 0)), (C_we (cs 0)), (C_dr (cs 0)), (C_ea (cs 0)), (C_du (cs 0)), fl))) fn fl ai (nI ho) hk (lh, ls, lw, lt, bn, 0, 0)))))), (lS, .inl (G.2.1, 60, .inl (J_ls (s_mill (s_short (P_w (s_run (nvF 0) ai (s_gz (nI ho)) wi qu sh pn hk ((C_ca (cs 0)), (C_tk (cs 0)), (C_gr (cs 0)), (C_go (cs 0)), (C_we (cs 0)), (C_dr (cs 0)), (C_ea (cs 0)), (C_du (cs 0)), fl))) (s_ra fl rn rf rt (nI ho))) (nI ho) (s_jrun (P_tk (s_run (nvF 0) ai (s_gz (nI ho)) wi qu sh pn hk ((C_ca (cs 0)), (C_tk (cs 0)), (C_gr (cs 0)), (C_go (cs 0)), (C_we (cs 0)), (C_dr (cs 0)), (C_ea (cs 0)), (C_du (cs 0)), fl))) fn fl ai (nI ho) hk (lh, ls, lw, lt, bn, 0, 0)))))), (lW, .inl (G.2.1, 60, .inl (J_lw (s_mill (s_short (P_w (s_run (nvF 0) ai (s_gz (nI ho)) wi qu sh pn hk ((C_ca (cs 0)), (C_tk (cs 0)), (C_gr (cs 0)), (C_go (cs 0)), (C_we (cs 0)), (C_dr (cs 0)), (C_ea (cs 0)), (C_du (cs 0)), fl))) (s_ra fl rn rf rt (nI ho))) (nI ho) (s_jrun (P_tk (s_run (nvF 0) ai (s_gz (nI ho)) wi qu sh pn hk ((C_ca (cs 0)), (C_tk (cs 0)), (C_gr (cs 0)), (C_go (cs 0)), (C_we (cs 0)), (C_dr (cs 0)), (C_ea (cs 0)), (C_du (cs 0)), fl))) fn fl ai (nI ho) hk (lh, ls, lw, lt, bn, 0, 0)))))), (lT, .inl (G.2.1, 4, .inl (J_lt (s_mill (s_short (P_w (s_run (nvF 0) ai (s_gz (nI ho)) wi qu sh pn hk ((C_ca (cs 0)), (C_tk (cs 0)), (C_gr (cs 0)), (C_go (cs 0)), (C_we (cs 0)), (C_dr (cs 0)), (C_ea (cs 0)), (C_du (cs 0)), fl))) (s_ra fl rn rf rt (nI ho))) (nI ho) (s_jrun (P_tk (s_run (nvF 0) ai (s_gz (nI ho)) wi qu sh pn hk ((C_ca (cs 0)), (C_tk (cs 0)), (C_gr (cs 0)), (C_go (cs 0)), (C_we (cs 0)), (C_dr (cs 0)), (C_ea (cs 0)), (C_du (cs 0)), fl))) fn fl ai (nI ho) hk (lh, ls, lw, lt, bn, 0, 0)))))), (sA, .inl (G.2.2, 6, .inr (.inr (.inr (.inr (fun i => some (ad (i + 1) 0))))))), (ad 0 0, .inr (0, [.ref o0, .int (nvF 0), .ref (ad 0 1), .ref (ad 0 2), .ref (ad 0 3), .ref (ad 0 4), .ref (ad 0 5), .ref (ad 0 6), .ref (ad 0 7), .int ((C_br (cs 0)) + fl), .int (P_du (s_run (nvF 0) ai (s_gz (nI ho)) wi qu sh pn hk ((C_ca (cs 0)), (C_tk (cs 0)), (C_gr (cs 0)), (C_go (cs 0)), (C_we (cs 0)), (C_dr (cs 0)), (C_ea (cs 0)), (C_du (cs 0)), fl))), .int ((C_mi (cs 0)) + (P_w (s_run (nvF 0) ai (s_gz (nI ho)) wi qu sh pn hk ((C_ca (cs 0)), (C_tk (cs 0)), (C_gr (cs 0)), (C_go (cs 0)), (C_we (cs 0)), (C_dr (cs 0)), (C_ea (cs 0)), (C_du (cs 0)), fl)))), .int (P_w (s_run (nvF 0) ai (s_gz (nI ho)) wi qu sh pn hk ((C_ca (cs 0)), (C_tk (cs 0)), (C_gr (cs 0)), (C_go (cs 0)), (C_we (cs 0)), (C_dr (cs 0)), (C_ea (cs 0)), (C_du (cs 0)), fl))), .int (s_mb (P_w (s_run (nvF 0) ai (s_gz (nI ho)) wi qu sh pn hk ((C_ca (cs 0)), (C_tk (cs 0)), (C_gr (cs 0)), (C_go (cs 0)), (C_we (cs 0)), (C_dr (cs 0)), (C_ea (cs 0)), (C_du (cs 0)), fl))) (s_ra fl rn rf rt (nI ho)) (C_mb (cs 0)))])), (ad 0 1, .inl (G.2.1, 6, .inl (P_ca (s_run (nvF 0) ai (s_gz (nI ho)) wi qu sh pn hk ((C_ca (cs 0)), (C_tk (cs 0)), (C_gr (cs 0)), (C_go (cs 0)), (C_we (cs 0)), (C_dr (cs 0)), (C_ea (cs 0)), (C_du (cs 0)), fl))))), (ad 0 2, .inl (G.2.1, 6, .inl (P_tk (s_run (nvF 0) ai (s_gz (nI ho)) wi qu sh pn hk ((C_ca (cs 0)), (C_tk (cs 0)), (C_gr (cs 0)), (C_go (cs 0)), (C_we (cs 0)), (C_dr (cs 0)), (C_ea (cs 0)), (C_du (cs 0)), fl))))), (ad 0 3, .inl (G.2.1, 24, .inl (P_gr (s_run (nvF 0) ai (s_gz (nI ho)) wi qu sh pn hk ((C_ca (cs 0)), (C_tk (cs 0)), (C_gr (cs 0)), (C_go (cs 0)), (C_we (cs 0)), (C_dr (cs 0)), (C_ea (cs 0)), (C_du (cs 0)), fl))))), (ad 0 4, .inl (G.2.1, 24, .inl (P_go (s_run (nvF 0) ai (s_gz (nI ho)) wi qu sh pn hk ((C_ca (cs 0)), (C_tk (cs 0)), (C_gr (cs 0)), (C_go (cs 0)), (C_we (cs 0)), (C_dr (cs 0)), (C_ea (cs 0)), (C_du (cs 0)), fl))))), (ad 0 5, .inl (G.2.1, 24, .inl (P_we (s_run (nvF 0) ai (s_gz (nI ho)) wi qu sh pn hk ((C_ca (cs 0)), (C_tk (cs 0)), (C_gr (cs 0)), (C_go (cs 0)), (C_we (cs 0)), (C_dr (cs 0)), (C_ea (cs 0)), (C_du (cs 0)), fl))))), (ad 0 6, .inl (G.2.1, 24, .inl (P_dr (s_run (nvF 0) ai (s_gz (nI ho)) wi qu sh pn hk ((C_ca (cs 0)), (C_tk (cs 0)), (C_gr (cs 0)), (C_go (cs 0)), (C_we (cs 0)), (C_dr (cs 0)), (C_ea (cs 0)), (C_du (cs 0)), fl))))), (ad 0 7, .inl (G.2.1, 24, .inl (P_ea (s_run (nvF 0) ai (s_gz (nI ho)) wi qu sh pn hk ((C_ca (cs 0)), (C_tk (cs 0)), (C_gr (cs 0)), (C_go (cs 0)), (C_we (cs 0)), (C_dr (cs 0)), (C_ea (cs 0)), (C_du (cs 0)), fl))))), (ad 1 0, .inr (0, [.ref o0, .int (nvF 1), .ref (ad 1 1), .ref (ad 1 2), .ref (ad 1 3), .ref (ad 1 4), .ref (ad 1 5), .ref (ad 1 6), .ref (ad 1 7), .int ((C_br (cs 1)) + fl), .int (P_du (s_run (nvF 1) ai (s_gz (nI ho)) wi qu sh pn hk ((C_ca (cs 1)), (C_tk (cs 1)), (C_gr (cs 1)), (C_go (cs 1)), (C_we (cs 1)), (C_dr (cs 1)), (C_ea (cs 1)), (C_du (cs 1)), fl))), .int ((C_mi (cs 1)) + (P_w (s_run (nvF 1) ai (s_gz (nI ho)) wi qu sh pn hk ((C_ca (cs 1)), (C_tk (cs 1)), (C_gr (cs 1)), (C_go (cs 1)), (C_we (cs 1)), (C_dr (cs 1)), (C_ea (cs 1)), (C_du (cs 1)), fl)))), .int (P_w (s_run (nvF 1) ai (s_gz (nI ho)) wi qu sh pn hk ((C_ca (cs 1)), (C_tk (cs 1)), (C_gr (cs 1)), (C_go (cs 1)), (C_we (cs 1)), (C_dr (cs 1)), (C_ea (cs 1)), (C_du (cs 1)), fl))), .int (s_mb (P_w (s_run (nvF 1) ai (s_gz (nI ho)) wi qu sh pn hk ((C_ca (cs 1)), (C_tk (cs 1)), (C_gr (cs 1)), (C_go (cs 1)), (C_we (cs 1)), (C_dr (cs 1)), (C_ea (cs 1)), (C_du (cs 1)), fl))) (s_ra fl rn rf rt (nI ho)) (C_mb (cs 1)))])), (ad 1 1, .inl (G.2.1, 6, .inl (P_ca (s_run (nvF 1) ai (s_gz (nI ho)) wi qu sh pn hk ((C_ca (cs 1)), (C_tk (cs 1)), (C_gr (cs 1)), (C_go (cs 1)), (C_we (cs 1)), (C_dr (cs 1)), (C_ea (cs 1)), (C_du (cs 1)), fl))))), (ad 1 2, .inl (G.2.1, 6, .inl (P_tk (s_run (nvF 1) ai (s_gz (nI ho)) wi qu sh pn hk ((C_ca (cs 1)), (C_tk (cs 1)), (C_gr (cs 1)), (C_go (cs 1)), (C_we (cs 1)), (C_dr (cs 1)), (C_ea (cs 1)), (C_du (cs 1)), fl))))), (ad 1 3, .inl (G.2.1, 24, .inl (P_gr (s_run (nvF 1) ai (s_gz (nI ho)) wi qu sh pn hk ((C_ca (cs 1)), (C_tk (cs 1)), (C_gr (cs 1)), (C_go (cs 1)), (C_we (cs 1)), (C_dr (cs 1)), (C_ea (cs 1)), (C_du (cs 1)), fl))))), (ad 1 4, .inl (G.2.1, 24, .inl (P_go (s_run (nvF 1) ai (s_gz (nI ho)) wi qu sh pn hk ((C_ca (cs 1)), (C_tk (cs 1)), (C_gr (cs 1)), (C_go (cs 1)), (C_we (cs 1)), (C_dr (cs 1)), (C_ea (cs 1)), (C_du (cs 1)), fl))))), (ad 1 5, .inl (G.2.1, 24, .inl (P_we (s_run (nvF 1) ai (s_gz (nI ho)) wi qu sh pn hk ((C_ca (cs 1)), (C_tk (cs 1)), (C_gr (cs 1)), (C_go (cs 1)), (C_we (cs 1)), (C_dr (cs 1)), (C_ea (cs 1)), (C_du (cs 1)), fl))))), (ad 1 6, .inl (G.2.1, 24, .inl (P_dr (s_run (nvF 1) ai (s_gz (nI ho)) wi qu sh pn hk ((C_ca (cs 1)), (C_tk (cs 1)), (C_gr (cs 1)), (C_go (cs 1)), (C_we (cs 1)), (C_dr (cs 1)), (C_ea (cs 1)), (C_du (cs 1)), fl))))), (ad 1 7, .inl (G.2.1, 24, .inl (P_ea (s_run (nvF 1) ai (s_gz (nI ho)) wi qu sh pn hk ((C_ca (cs 1)), (C_tk (cs 1)), (C_gr (cs 1)), (C_go (cs 1)), (C_we (cs 1)), (C_dr (cs 1)), (C_ea (cs 1)), (C_du (cs 1)), fl))))), (ad 2 0, .inr (0, [.ref o0, .int (nvF 2), .ref (ad 2 1), .ref (ad 2 2), .ref (ad 2 3), .ref (ad 2 4), .ref (ad 2 5), .ref (ad 2 6), .ref (ad 2 7), .int ((C_br (cs 2)) + fl), .int (P_du (s_run (nvF 2) ai (s_gz (nI ho)) wi qu sh pn hk ((C_ca (cs 2)), (C_tk (cs 2)), (C_gr (cs 2)), (C_go (cs 2)), (C_we (cs 2)), (C_dr (cs 2)), (C_ea (cs 2)), (C_du (cs 2)), fl))), .int ((C_mi (cs 2)) + (P_w (s_run (nvF 2) ai (s_gz (nI ho)) wi qu sh pn hk ((C_ca (cs 2)), (C_tk (cs 2)), (C_gr (cs 2)), (C_go (cs 2)), (C_we (cs 2)), (C_dr (cs 2)), (C_ea (cs 2)), (C_du (cs 2)), fl)))), .int (P_w (s_run (nvF 2) ai (s_gz (nI ho)) wi qu sh pn hk ((C_ca (cs 2)), (C_tk (cs 2)), (C_gr (cs 2)), (C_go (cs 2)), (C_we (cs 2)), (C_dr (cs 2)), (C_ea (cs 2)), (C_du (cs 2)), fl))), .int (s_mb (P_w (s_run (nvF 2) ai (s_gz (nI ho)) wi qu sh pn hk ((C_ca (cs 2)), (C_tk (cs 2)), (C_gr (cs 2)), (C_go (cs 2)), (C_we (cs 2)), (C_dr (cs 2)), (C_ea (cs 2)), (C_du (cs 2)), fl))) (s_ra fl rn rf rt (nI ho)) (C_mb (cs 2)))])), (ad 2 1, .inl (G.2.1, 6, .inl (P_ca (s_run (nvF 2) ai (s_gz (nI ho)) wi qu sh pn hk ((C_ca (cs 2)), (C_tk (cs 2)), (C_gr (cs 2)), (C_go (cs 2)), (C_we (cs 2)), (C_dr (cs 2)), (C_ea (cs 2)), (C_du (cs 2)), fl))))), (ad 2 2, .inl (G.2.1, 6, .inl (P_tk (s_run (nvF 2) ai (s_gz (nI ho)) wi qu sh pn hk ((C_ca (cs 2)), (C_tk (cs 2)), (C_gr (cs 2)), (C_go (cs 2)), (C_we (cs 2)), (C_dr (cs 2)), (C_ea (cs 2)), (C_du (cs 2)), fl))))), (ad 2 3, .inl (G.2.1, 24, .inl (P_gr (s_run (nvF 2) ai (s_gz (nI ho)) wi qu sh pn hk ((C_ca (cs 2)), (C_tk (cs 2)), (C_gr (cs 2)), (C_go (cs 2)), (C_we (cs 2)), (C_dr (cs 2)), (C_ea (cs 2)), (C_du (cs 2)), fl))))), (ad 2 4, .inl (G.2.1, 24, .inl (P_go (s_run (nvF 2) ai (s_gz (nI ho)) wi qu sh pn hk ((C_ca (cs 2)), (C_tk (cs 2)), (C_gr (cs 2)), (C_go (cs 2)), (C_we (cs 2)), (C_dr (cs 2)), (C_ea (cs 2)), (C_du (cs 2)), fl))))), (ad 2 5, .inl (G.2.1, 24, .inl (P_we (s_run (nvF 2) ai (s_gz (nI ho)) wi qu sh pn hk ((C_ca (cs 2)), (C_tk (cs 2)), (C_gr (cs 2)), (C_go (cs 2)), (C_we (cs 2)), (C_dr (cs 2)), (C_ea (cs 2)), (C_du (cs 2)), fl))))), (ad 2 6, .inl (G.2.1, 24, .inl (P_dr (s_run (nvF 2) ai (s_gz (nI ho)) wi qu sh pn hk ((C_ca (cs 2)), (C_tk (cs 2)), (C_gr (cs 2)), (C_go (cs 2)), (C_we (cs 2)), (C_dr (cs 2)), (C_ea (cs 2)), (C_du (cs 2)), fl))))), (ad 2 7, .inl (G.2.1, 24, .inl (P_ea (s_run (nvF 2) ai (s_gz (nI ho)) wi qu sh pn hk ((C_ca (cs 2)), (C_tk (cs 2)), (C_gr (cs 2)), (C_go (cs 2)), (C_we (cs 2)), (C_dr (cs 2)), (C_ea (cs 2)), (C_du (cs 2)), fl))))), (ad 3 0, .inr (0, [.ref o0, .int (nvF 3), .ref (ad 3 1), .ref (ad 3 2), .ref (ad 3 3), .ref (ad 3 4), .ref (ad 3 5), .ref (ad 3 6), .ref (ad 3 7), .int ((C_br (cs 3)) + fl), .int (P_du (s_run (nvF 3) ai (s_gz (nI ho)) wi qu sh pn hk ((C_ca (cs 3)), (C_tk (cs 3)), (C_gr (cs 3)), (C_go (cs 3)), (C_we (cs 3)), (C_dr (cs 3)), (C_ea (cs 3)), (C_du (cs 3)), fl))), .int ((C_mi (cs 3)) + (P_w (s_run (nvF 3) ai (s_gz (nI ho)) wi qu sh pn hk ((C_ca (cs 3)), (C_tk (cs 3)), (C_gr (cs 3)), (C_go (cs 3)), (C_we (cs 3)), (C_dr (cs 3)), (C_ea (cs 3)), (C_du (cs 3)), fl)))), .int (P_w (s_run (nvF 3) ai (s_gz (nI ho)) wi qu sh pn hk ((C_ca (cs 3)), (C_tk (cs 3)), (C_gr (cs 3)), (C_go (cs 3)), (C_we (cs 3)), (C_dr (cs 3)), (C_ea (cs 3)), (C_du (cs 3)), fl))), .int (s_mb (P_w (s_run (nvF 3) ai (s_gz (nI ho)) wi qu sh pn hk ((C_ca (cs 3)), (C_tk (cs 3)), (C_gr (cs 3)), (C_go (cs 3)), (C_we (cs 3)), (C_dr (cs 3)), (C_ea (cs 3)), (C_du (cs 3)), fl))) (s_ra fl rn rf rt (nI ho)) (C_mb (cs 3)))])), (ad 3 1, .inl (G.2.1, 6, .inl (P_ca (s_run (nvF 3) ai (s_gz (nI ho)) wi qu sh pn hk ((C_ca (cs 3)), (C_tk (cs 3)), (C_gr (cs 3)), (C_go (cs 3)), (C_we (cs 3)), (C_dr (cs 3)), (C_ea (cs 3)), (C_du (cs 3)), fl))))), (ad 3 2, .inl (G.2.1, 6, .inl (P_tk (s_run (nvF 3) ai (s_gz (nI ho)) wi qu sh pn hk ((C_ca (cs 3)), (C_tk (cs 3)), (C_gr (cs 3)), (C_go (cs 3)), (C_we (cs 3)), (C_dr (cs 3)), (C_ea (cs 3)), (C_du (cs 3)), fl))))), (ad 3 3, .inl (G.2.1, 24, .inl (P_gr (s_run (nvF 3) ai (s_gz (nI ho)) wi qu sh pn hk ((C_ca (cs 3)), (C_tk (cs 3)), (C_gr (cs 3)), (C_go (cs 3)), (C_we (cs 3)), (C_dr (cs 3)), (C_ea (cs 3)), (C_du (cs 3)), fl))))), (ad 3 4, .inl (G.2.1, 24, .inl (P_go (s_run (nvF 3) ai (s_gz (nI ho)) wi qu sh pn hk ((C_ca (cs 3)), (C_tk (cs 3)), (C_gr (cs 3)), (C_go (cs 3)), (C_we (cs 3)), (C_dr (cs 3)), (C_ea (cs 3)), (C_du (cs 3)), fl))))), (ad 3 5, .inl (G.2.1, 24, .inl (P_we (s_run (nvF 3) ai (s_gz (nI ho)) wi qu sh pn hk ((C_ca (cs 3)), (C_tk (cs 3)), (C_gr (cs 3)), (C_go (cs 3)), (C_we (cs 3)), (C_dr (cs 3)), (C_ea (cs 3)), (C_du (cs 3)), fl))))), (ad 3 6, .inl (G.2.1, 24, .inl (P_dr (s_run (nvF 3) ai (s_gz (nI ho)) wi qu sh pn hk ((C_ca (cs 3)), (C_tk (cs 3)), (C_gr (cs 3)), (C_go (cs 3)), (C_we (cs 3)), (C_dr (cs 3)), (C_ea (cs 3)), (C_du (cs 3)), fl))))), (ad 3 7, .inl (G.2.1, 24, .inl (P_ea (s_run (nvF 3) ai (s_gz (nI ho)) wi qu sh pn hk ((C_ca (cs 3)), (C_tk (cs 3)), (C_gr (cs 3)), (C_go (cs 3)), (C_we (cs 3)), (C_dr (cs 3)), (C_ea (cs 3)), (C_du (cs 3)), fl))))), (ad 4 0, .inr (0, [.ref o0, .int (nvF 4), .ref (ad 4 1), .ref (ad 4 2), .ref (ad 4 3), .ref (ad 4 4), .ref (ad 4 5), .ref (ad 4 6), .ref (ad 4 7), .int ((C_br (cs 4)) + fl), .int (P_du (s_run (nvF 4) ai (s_gz (nI ho)) wi qu sh pn hk ((C_ca (cs 4)), (C_tk (cs 4)), (C_gr (cs 4)), (C_go (cs 4)), (C_we (cs 4)), (C_dr (cs 4)), (C_ea (cs 4)), (C_du (cs 4)), fl))), .int ((C_mi (cs 4)) + (P_w (s_run (nvF 4) ai (s_gz (nI ho)) wi qu sh pn hk ((C_ca (cs 4)), (C_tk (cs 4)), (C_gr (cs 4)), (C_go (cs 4)), (C_we (cs 4)), (C_dr (cs 4)), (C_ea (cs 4)), (C_du (cs 4)), fl)))), .int (P_w (s_run (nvF 4) ai (s_gz (nI ho)) wi qu sh pn hk ((C_ca (cs 4)), (C_tk (cs 4)), (C_gr (cs 4)), (C_go (cs 4)), (C_we (cs 4)), (C_dr (cs 4)), (C_ea (cs 4)), (C_du (cs 4)), fl))), .int (s_mb (P_w (s_run (nvF 4) ai (s_gz (nI ho)) wi qu sh pn hk ((C_ca (cs 4)), (C_tk (cs 4)), (C_gr (cs 4)), (C_go (cs 4)), (C_we (cs 4)), (C_dr (cs 4)), (C_ea (cs 4)), (C_du (cs 4)), fl))) (s_ra fl rn rf rt (nI ho)) (C_mb (cs 4)))])), (ad 4 1, .inl (G.2.1, 6, .inl (P_ca (s_run (nvF 4) ai (s_gz (nI ho)) wi qu sh pn hk ((C_ca (cs 4)), (C_tk (cs 4)), (C_gr (cs 4)), (C_go (cs 4)), (C_we (cs 4)), (C_dr (cs 4)), (C_ea (cs 4)), (C_du (cs 4)), fl))))), (ad 4 2, .inl (G.2.1, 6, .inl (P_tk (s_run (nvF 4) ai (s_gz (nI ho)) wi qu sh pn hk ((C_ca (cs 4)), (C_tk (cs 4)), (C_gr (cs 4)), (C_go (cs 4)), (C_we (cs 4)), (C_dr (cs 4)), (C_ea (cs 4)), (C_du (cs 4)), fl))))), (ad 4 3, .inl (G.2.1, 24, .inl (P_gr (s_run (nvF 4) ai (s_gz (nI ho)) wi qu sh pn hk ((C_ca (cs 4)), (C_tk (cs 4)), (C_gr (cs 4)), (C_go (cs 4)), (C_we (cs 4)), (C_dr (cs 4)), (C_ea (cs 4)), (C_du (cs 4)), fl))))), (ad 4 4, .inl (G.2.1, 24, .inl (P_go (s_run (nvF 4) ai (s_gz (nI ho)) wi qu sh pn hk ((C_ca (cs 4)), (C_tk (cs 4)), (C_gr (cs 4)), (C_go (cs 4)), (C_we (cs 4)), (C_dr (cs 4)), (C_ea (cs 4)), (C_du (cs 4)), fl))))), (ad 4 5, .inl (G.2.1, 24, .inl (P_we (s_run (nvF 4) ai (s_gz (nI ho)) wi qu sh pn hk ((C_ca (cs 4)), (C_tk (cs 4)), (C_gr (cs 4)), (C_go (cs 4)), (C_we (cs 4)), (C_dr (cs 4)), (C_ea (cs 4)), (C_du (cs 4)), fl))))), (ad 4 6, .inl (G.2.1, 24, .inl (P_dr (s_run (nvF 4) ai (s_gz (nI ho)) wi qu sh pn hk ((C_ca (cs 4)), (C_tk (cs 4)), (C_gr (cs 4)), (C_go (cs 4)), (C_we (cs 4)), (C_dr (cs 4)), (C_ea (cs 4)), (C_du (cs 4)), fl))))), (ad 4 7, .inl (G.2.1, 24, .inl (P_ea (s_run (nvF 4) ai (s_gz (nI ho)) wi qu sh pn hk ((C_ca (cs 4)), (C_tk (cs 4)), (C_gr (cs 4)), (C_go (cs 4)), (C_we (cs 4)), (C_dr (cs 4)), (C_ea (cs 4)), (C_du (cs 4)), fl))))), (ad 5 0, .inr (0, [.ref o0, .int (nvF 5), .ref (ad 5 1), .ref (ad 5 2), .ref (ad 5 3), .ref (ad 5 4), .ref (ad 5 5), .ref (ad 5 6), .ref (ad 5 7), .int ((C_br (cs 5)) + fl), .int (P_du (s_run (nvF 5) ai (s_gz (nI ho)) wi qu sh pn hk ((C_ca (cs 5)), (C_tk (cs 5)), (C_gr (cs 5)), (C_go (cs 5)), (C_we (cs 5)), (C_dr (cs 5)), (C_ea (cs 5)), (C_du (cs 5)), fl))), .int ((C_mi (cs 5)) + (P_w (s_run (nvF 5) ai (s_gz (nI ho)) wi qu sh pn hk ((C_ca (cs 5)), (C_tk (cs 5)), (C_gr (cs 5)), (C_go (cs 5)), (C_we (cs 5)), (C_dr (cs 5)), (C_ea (cs 5)), (C_du (cs 5)), fl)))), .int (P_w (s_run (nvF 5) ai (s_gz (nI ho)) wi qu sh pn hk ((C_ca (cs 5)), (C_tk (cs 5)), (C_gr (cs 5)), (C_go (cs 5)), (C_we (cs 5)), (C_dr (cs 5)), (C_ea (cs 5)), (C_du (cs 5)), fl))), .int (s_mb (P_w (s_run (nvF 5) ai (s_gz (nI ho)) wi qu sh pn hk ((C_ca (cs 5)), (C_tk (cs 5)), (C_gr (cs 5)), (C_go (cs 5)), (C_we (cs 5)), (C_dr (cs 5)), (C_ea (cs 5)), (C_du (cs 5)), fl))) (s_ra fl rn rf rt (nI ho)) (C_mb (cs 5)))])), (ad 5 1, .inl (G.2.1, 6, .inl (P_ca (s_run (nvF 5) ai (s_gz (nI ho)) wi qu sh pn hk ((C_ca (cs 5)), (C_tk (cs 5)), (C_gr (cs 5)), (C_go (cs 5)), (C_we (cs 5)), (C_dr (cs 5)), (C_ea (cs 5)), (C_du (cs 5)), fl))))), (ad 5 2, .inl (G.2.1, 6, .inl (P_tk (s_run (nvF 5) ai (s_gz (nI ho)) wi qu sh pn hk ((C_ca (cs 5)), (C_tk (cs 5)), (C_gr (cs 5)), (C_go (cs 5)), (C_we (cs 5)), (C_dr (cs 5)), (C_ea (cs 5)), (C_du (cs 5)), fl))))), (ad 5 3, .inl (G.2.1, 24, .inl (P_gr (s_run (nvF 5) ai (s_gz (nI ho)) wi qu sh pn hk ((C_ca (cs 5)), (C_tk (cs 5)), (C_gr (cs 5)), (C_go (cs 5)), (C_we (cs 5)), (C_dr (cs 5)), (C_ea (cs 5)), (C_du (cs 5)), fl))))), (ad 5 4, .inl (G.2.1, 24, .inl (P_go (s_run (nvF 5) ai (s_gz (nI ho)) wi qu sh pn hk ((C_ca (cs 5)), (C_tk (cs 5)), (C_gr (cs 5)), (C_go (cs 5)), (C_we (cs 5)), (C_dr (cs 5)), (C_ea (cs 5)), (C_du (cs 5)), fl))))), (ad 5 5, .inl (G.2.1, 24, .inl (P_we (s_run (nvF 5) ai (s_gz (nI ho)) wi qu sh pn hk ((C_ca (cs 5)), (C_tk (cs 5)), (C_gr (cs 5)), (C_go (cs 5)), (C_we (cs 5)), (C_dr (cs 5)), (C_ea (cs 5)), (C_du (cs 5)), fl))))), (ad 5 6, .inl (G.2.1, 24, .inl (P_dr (s_run (nvF 5) ai (s_gz (nI ho)) wi qu sh pn hk ((C_ca (cs 5)), (C_tk (cs 5)), (C_gr (cs 5)), (C_go (cs 5)), (C_we (cs 5)), (C_dr (cs 5)), (C_ea (cs 5)), (C_du (cs 5)), fl))))), (ad 5 7, .inl (G.2.1, 24, .inl (P_ea (s_run (nvF 5) ai (s_gz (nI ho)) wi qu sh pn hk ((C_ca (cs 5)), (C_tk (cs 5)), (C_gr (cs 5)), (C_go (cs 5)), (C_we (cs 5)), (C_dr (cs 5)), (C_ea (cs 5)), (C_du (cs 5)), fl))))), (ad 6 0, .inr (0, [.ref o0, .int (nvF 6), .ref (ad 6 1), .ref (ad 6 2), .ref (ad 6 3), .ref (ad 6 4), .ref (ad 6 5), .ref (ad 6 6), .ref (ad 6 7), .int ((C_br (cs 6)) + fl), .int (P_du (s_run (nvF 6) ai (s_gz (nI ho)) wi qu sh pn hk ((C_ca (cs 6)), (C_tk (cs 6)), (C_gr (cs 6)), (C_go (cs 6)), (C_we (cs 6)), (C_dr (cs 6)), (C_ea (cs 6)), (C_du (cs 6)), fl))), .int ((C_mi (cs 6)) + (P_w (s_run (nvF 6) ai (s_gz (nI ho)) wi qu sh pn hk ((C_ca (cs 6)), (C_tk (cs 6)), (C_gr (cs 6)), (C_go (cs 6)), (C_we (cs 6)), (C_dr (cs 6)), (C_ea (cs 6)), (C_du (cs 6)), fl)))), .int (P_w (s_run (nvF 6) ai (s_gz (nI ho)) wi qu sh pn hk ((C_ca (cs 6)), (C_tk (cs 6)), (C_gr (cs 6)), (C_go (cs 6)), (C_we (cs 6)), (C_dr (cs 6)), (C_ea (cs 6)), (C_du (cs 6)), fl))), .int (s_mb (P_w (s_run (nvF 6) ai (s_gz (nI ho)) wi qu sh pn hk ((C_ca (cs 6)), (C_tk (cs 6)), (C_gr (cs 6)), (C_go (cs 6)), (C_we (cs 6)), (C_dr (cs 6)), (C_ea (cs 6)), (C_du (cs 6)), fl))) (s_ra fl rn rf rt (nI ho)) (C_mb (cs 6)))])), (ad 6 1, .inl (G.2.1, 6, .inl (P_ca (s_run (nvF 6) ai (s_gz (nI ho)) wi qu sh pn hk ((C_ca (cs 6)), (C_tk (cs 6)), (C_gr (cs 6)), (C_go (cs 6)), (C_we (cs 6)), (C_dr (cs 6)), (C_ea (cs 6)), (C_du (cs 6)), fl))))), (ad 6 2, .inl (G.2.1, 6, .inl (P_tk (s_run (nvF 6) ai (s_gz (nI ho)) wi qu sh pn hk ((C_ca (cs 6)), (C_tk (cs 6)), (C_gr (cs 6)), (C_go (cs 6)), (C_we (cs 6)), (C_dr (cs 6)), (C_ea (cs 6)), (C_du (cs 6)), fl))))), (ad 6 3, .inl (G.2.1, 24, .inl (P_gr (s_run (nvF 6) ai (s_gz (nI ho)) wi qu sh pn hk ((C_ca (cs 6)), (C_tk (cs 6)), (C_gr (cs 6)), (C_go (cs 6)), (C_we (cs 6)), (C_dr (cs 6)), (C_ea (cs 6)), (C_du (cs 6)), fl))))), (ad 6 4, .inl (G.2.1, 24, .inl (P_go (s_run (nvF 6) ai (s_gz (nI ho)) wi qu sh pn hk ((C_ca (cs 6)), (C_tk (cs 6)), (C_gr (cs 6)), (C_go (cs 6)), (C_we (cs 6)), (C_dr (cs 6)), (C_ea (cs 6)), (C_du (cs 6)), fl))))), (ad 6 5, .inl (G.2.1, 24, .inl (P_we (s_run (nvF 6) ai (s_gz (nI ho)) wi qu sh pn hk ((C_ca (cs 6)), (C_tk (cs 6)), (C_gr (cs 6)), (C_go (cs 6)), (C_we (cs 6)), (C_dr (cs 6)), (C_ea (cs 6)), (C_du (cs 6)), fl))))), (ad 6 6, .inl (G.2.1, 24, .inl (P_dr (s_run (nvF 6) ai (s_gz (nI ho)) wi qu sh pn hk ((C_ca (cs 6)), (C_tk (cs 6)), (C_gr (cs 6)), (C_go (cs 6)), (C_we (cs 6)), (C_dr (cs 6)), (C_ea (cs 6)), (C_du (cs 6)), fl))))), (ad 6 7, .inl (G.2.1, 24, .inl (P_ea (s_run (nvF 6) ai (s_gz (nI ho)) wi qu sh pn hk ((C_ca (cs 6)), (C_tk (cs 6)), (C_gr (cs 6)), (C_go (cs 6)), (C_we (cs 6)), (C_dr (cs 6)), (C_ea (cs 6)), (C_du (cs 6)), fl)))))]) pX3_96 dX3_advance_49 0 rfl (Nat.le_of_ble_eq_true rfl) rfl ?_
  exact v_vretM dX3_advance_52 rfl
end
section
section VCW
variable {p : Program} {l : Launch} {e : Env} {R : Room} {s : State} {m : MethodId} {args : Array Value} {below : List Frame} {meth : Method} {c : Code} {Q : State → Prop} {G : v_Cfg} {I : va_W → Heap → List Loc → Prop} {cc : ByteArray} {own : String} {nL : Nat} {ret : Option FieldType} {ws : va_W} {k n : Nat} {lv : List (Nat × Value)} {pc : Nat} {st : List Value} {y : MethodName} {ycc : ByteArray} {yn : Nat} {yret : Option FieldType} {d na index : Nat}
theorem v_inS {A : Nat → Prop} (hD : va_D A ws) : ∀ q, v_in ws q → A q := fun q ⟨k, e, hk⟩ => hD.2 k (q, e) hk
theorem v_vMiW {A : Nat → Prop} {b ci : Nat} {fs : List Value} {As rest : List Value} {w1 : va_W} {r : Int32} (hM : MuI l G y ycc yn yret d (.ref b :: As) ws w1 r) (hY : v_Y y ycc yn yret na) (hL : v_LV own index y) (hdg : decode cc pc = .ok (.invokevirtual index, 3)) (hci : v_ci ci y.cls) (q0 : Nat) (he : ws[q0]? = some (b, .inr (ci, fs))) (had : w1.map Prod.fst = ws.map Prod.fst) (hn : As.length = na) (hst : st = As.reverse ++ .ref b :: rest) (hW : (rest.map fun v => v.category).sum ≤ 8) (hR : (rmk d).frames + 1 ≤ R.frames ∧ 8 + (yn + 11) + (rmk d).locals ≤ R.locals) (hf : k ≤ R.cells ∧ n ≤ R.slots)
    (kk : V p l e R s m args below meth c Q G (v_Iw A s) cc own nL ret w1 k n lv (pc + 3) (.int r :: rest)) : V p l e R s m args below meth c Q G (v_Iw A s) cc own nL ret ws k n lv pc st := fun C H locs ls hP hI hl => by
  subst hst
  refine v_muiW (va_runV (As := As) (rest := rest) ⟨C.1, C.2.1, C.2.2.1, C.2.2.2.1, C.2.2.2.2.1⟩ hM (v_cw C.2.2.2.2.1 hY hL hR) ⟨v_blm _ _ _, v_rcv C.2.2.2.2.2.1 hP hci he, fun U hU hW => ⟨rfl, by rw [hU]; exact hP, hI.1.weaken (fun _ _ _ _ => trivial), xK.warm hW C.2.2.2.2.2.1⟩⟩ rfl hn hl.1 rfl (lv_room hW) hdg hf) (v_inS hI.1) hI.2 (fun H1 locs1 hP1 hk hS1 => ?_)
  exact kk C H1 locs1 ls hP1 ⟨hI.1.addr had, hS1⟩ hl
theorem v_vMvW {A : Nat → Prop} {b ci : Nat} {fs : List Value} {As rest : List Value} {w1 : va_W} (hM : MuV l G y ycc yn yret d (.ref b :: As) ws w1) (hY : v_Y y ycc yn yret na) (hL : v_LV own index y) (hdg : decode cc pc = .ok (.invokevirtual index, 3)) (hci : v_ci ci y.cls) (q0 : Nat) (he : ws[q0]? = some (b, .inr (ci, fs))) (had : w1.map Prod.fst = ws.map Prod.fst) (hn : As.length = na) (hst : st = As.reverse ++ .ref b :: rest) (hW : (rest.map fun v => v.category).sum ≤ 8) (hR : (rmk d).frames + 1 ≤ R.frames ∧ 8 + (yn + 11) + (rmk d).locals ≤ R.locals) (hf : k ≤ R.cells ∧ n ≤ R.slots)
    (kk : V p l e R s m args below meth c Q G (v_Iw A s) cc own nL ret w1 k n lv (pc + 3) rest) : V p l e R s m args below meth c Q G (v_Iw A s) cc own nL ret ws k n lv pc st := fun C H locs ls hP hI hl => by
  subst hst
  refine v_muvW (va_runV (As := As) (rest := rest) ⟨C.1, C.2.1, C.2.2.1, C.2.2.2.1, C.2.2.2.2.1⟩ hM (v_cw C.2.2.2.2.1 hY hL hR) ⟨v_blm _ _ _, v_rcv C.2.2.2.2.2.1 hP hci he, fun U hU hW => ⟨rfl, by rw [hU]; exact hP, hI.1.weaken (fun _ _ _ _ => trivial), xK.warm hW C.2.2.2.2.2.1⟩⟩ rfl hn hl.1 rfl (lv_room hW) hdg hf) (v_inS hI.1) hI.2 (fun H1 locs1 hP1 hk hS1 => ?_)
  exact kk C H1 locs1 ls hP1 ⟨hI.1.addr had, hS1⟩ hl
end VCW

def s_selO {α : Type} (a : Int32) (t : Nat) (x y z : α) : α := if a = 0 then x else if t ≤ 2400 then z else y

set_option maxRecDepth 100000 in
set_option maxHeartbeats 1000000 in
theorem c_X3_hours (l : Launch) (G : v_Cfg) (x0 : Nat) (o0 : Nat) (g0 : Nat) (sA : Nat) (ho : Nat) (de : Nat) (oFa : Nat) (oWi : Nat) (oPa : Nat) (oQu : Nat) (oSh : Nat) (hk : Nat) (fl : Int32) (ai : Int32) (rn : Int32) (rf : Int32) (rt : Int32) (lH : Nat) (lS : Nat) (lW : Nat) (lT : Nat) (bn : Nat) (ad : Nat → Nat → Nat) (wi : Nat → Int32) (qu : Nat → Int32) (sh : Nat → Int32) (lh : Nat → Int32) (ls : Nat → Int32) (lw : Nat → Int32) (lt : Nat → Int32) (fn : Nat → Nat) (pn : Nat → Nat) (cs : Nat → CS) (x : Int32) (hk6 : hk ≤ 6) (hpn : ∀ h, h < hk → 1 ≤ pn h ∧ pn h ≤ 4) (hfn : ∀ h, h < hk → fn h < 4) (hbn : bn < 800000) (hho : ho ≤ 2400) : MuI l G yX3_hours cX3_hours 3 (some .int) 5 [.ref x0, .int x] [(x0, .inr (3, [.ref o0, .ref g0, .ref (ad 0 0), .ref sA, .int (nI ho), .int (nI de)])), (o0, .inr (2, [.ref oFa, .ref oWi, .ref oPa, .ref oQu, .ref oSh, .int (nI hk), .int fl, .int ai, .int rn, .int rf, .int rt])), (oFa, .inl (G.2.1, 6, .inl (pN fn))), (oWi, .inl (G.2.1, 6, .inl wi)), (oPa, .inl (G.2.1, 6, .inl (pN pn))), (oQu, .inl (G.2.1, 6, .inl qu)), (oSh, .inl (G.2.1, 24, .inl sh)), (g0, .inr (1, [.ref lH, .ref lS, .ref lW, .ref lT, .int (nI (min bn 60)), .int (nI bn)])), (lH, .inl (G.2.1, 60, .inl lh)), (lS, .inl (G.2.1, 60, .inl ls)), (lW, .inl (G.2.1, 60, .inl lw)), (lT, .inl (G.2.1, 4, .inl lt)), (sA, .inl (G.2.2, 6, .inr (.inr (.inr (.inr (fun i => some (ad (i + 1) 0))))))), (ad 0 0, .inr (0, [.ref o0, .int (nvF 0), .ref (ad 0 1), .ref (ad 0 2), .ref (ad 0 3), .ref (ad 0 4), .ref (ad 0 5), .ref (ad 0 6), .ref (ad 0 7), .int (C_br (cs 0)), .int (C_du (cs 0)), .int (C_mi (cs 0)), .int (C_am (cs 0)), .int (C_mb (cs 0))])), (ad 0 1, .inl (G.2.1, 6, .inl (C_ca (cs 0)))), (ad 0 2, .inl (G.2.1, 6, .inl (C_tk (cs 0)))), (ad 0 3, .inl (G.2.1, 24, .inl (C_gr (cs 0)))), (ad 0 4, .inl (G.2.1, 24, .inl (C_go (cs 0)))), (ad 0 5, .inl (G.2.1, 24, .inl (C_we (cs 0)))), (ad 0 6, .inl (G.2.1, 24, .inl (C_dr (cs 0)))), (ad 0 7, .inl (G.2.1, 24, .inl (C_ea (cs 0)))), (ad 1 0, .inr (0, [.ref o0, .int (nvF 1), .ref (ad 1 1), .ref (ad 1 2), .ref (ad 1 3), .ref (ad 1 4), .ref (ad 1 5), .ref (ad 1 6), .ref (ad 1 7), .int (C_br (cs 1)), .int (C_du (cs 1)), .int (C_mi (cs 1)), .int (C_am (cs 1)), .int (C_mb (cs 1))])), (ad 1 1, .inl (G.2.1, 6, .inl (C_ca (cs 1)))), (ad 1 2, .inl (G.2.1, 6, .inl (C_tk (cs 1)))), (ad 1 3, .inl (G.2.1, 24, .inl (C_gr (cs 1)))), (ad 1 4, .inl (G.2.1, 24, .inl (C_go (cs 1)))), (ad 1 5, .inl (G.2.1, 24, .inl (C_we (cs 1)))), (ad 1 6, .inl (G.2.1, 24, .inl (C_dr (cs 1)))), (ad 1 7, .inl (G.2.1, 24, .inl (C_ea (cs 1)))), (ad 2 0, .inr (0, [.ref o0, .int (nvF 2), .ref (ad 2 1), .ref (ad 2 2), .ref (ad 2 3), .ref (ad 2 4), .ref (ad 2 5), .ref (ad 2 6), .ref (ad 2 7), .int (C_br (cs 2)), .int (C_du (cs 2)), .int (C_mi (cs 2)), .int (C_am (cs 2)), .int (C_mb (cs 2))])), (ad 2 1, .inl (G.2.1, 6, .inl (C_ca (cs 2)))), (ad 2 2, .inl (G.2.1, 6, .inl (C_tk (cs 2)))), (ad 2 3, .inl (G.2.1, 24, .inl (C_gr (cs 2)))), (ad 2 4, .inl (G.2.1, 24, .inl (C_go (cs 2)))), (ad 2 5, .inl (G.2.1, 24, .inl (C_we (cs 2)))), (ad 2 6, .inl (G.2.1, 24, .inl (C_dr (cs 2)))), (ad 2 7, .inl (G.2.1, 24, .inl (C_ea (cs 2)))), (ad 3 0, .inr (0, [.ref o0, .int (nvF 3), .ref (ad 3 1), .ref (ad 3 2), .ref (ad 3 3), .ref (ad 3 4), .ref (ad 3 5), .ref (ad 3 6), .ref (ad 3 7), .int (C_br (cs 3)), .int (C_du (cs 3)), .int (C_mi (cs 3)), .int (C_am (cs 3)), .int (C_mb (cs 3))])), (ad 3 1, .inl (G.2.1, 6, .inl (C_ca (cs 3)))), (ad 3 2, .inl (G.2.1, 6, .inl (C_tk (cs 3)))), (ad 3 3, .inl (G.2.1, 24, .inl (C_gr (cs 3)))), (ad 3 4, .inl (G.2.1, 24, .inl (C_go (cs 3)))), (ad 3 5, .inl (G.2.1, 24, .inl (C_we (cs 3)))), (ad 3 6, .inl (G.2.1, 24, .inl (C_dr (cs 3)))), (ad 3 7, .inl (G.2.1, 24, .inl (C_ea (cs 3)))), (ad 4 0, .inr (0, [.ref o0, .int (nvF 4), .ref (ad 4 1), .ref (ad 4 2), .ref (ad 4 3), .ref (ad 4 4), .ref (ad 4 5), .ref (ad 4 6), .ref (ad 4 7), .int (C_br (cs 4)), .int (C_du (cs 4)), .int (C_mi (cs 4)), .int (C_am (cs 4)), .int (C_mb (cs 4))])), (ad 4 1, .inl (G.2.1, 6, .inl (C_ca (cs 4)))), (ad 4 2, .inl (G.2.1, 6, .inl (C_tk (cs 4)))), (ad 4 3, .inl (G.2.1, 24, .inl (C_gr (cs 4)))), (ad 4 4, .inl (G.2.1, 24, .inl (C_go (cs 4)))), (ad 4 5, .inl (G.2.1, 24, .inl (C_we (cs 4)))), (ad 4 6, .inl (G.2.1, 24, .inl (C_dr (cs 4)))), (ad 4 7, .inl (G.2.1, 24, .inl (C_ea (cs 4)))), (ad 5 0, .inr (0, [.ref o0, .int (nvF 5), .ref (ad 5 1), .ref (ad 5 2), .ref (ad 5 3), .ref (ad 5 4), .ref (ad 5 5), .ref (ad 5 6), .ref (ad 5 7), .int (C_br (cs 5)), .int (C_du (cs 5)), .int (C_mi (cs 5)), .int (C_am (cs 5)), .int (C_mb (cs 5))])), (ad 5 1, .inl (G.2.1, 6, .inl (C_ca (cs 5)))), (ad 5 2, .inl (G.2.1, 6, .inl (C_tk (cs 5)))), (ad 5 3, .inl (G.2.1, 24, .inl (C_gr (cs 5)))), (ad 5 4, .inl (G.2.1, 24, .inl (C_go (cs 5)))), (ad 5 5, .inl (G.2.1, 24, .inl (C_we (cs 5)))), (ad 5 6, .inl (G.2.1, 24, .inl (C_dr (cs 5)))), (ad 5 7, .inl (G.2.1, 24, .inl (C_ea (cs 5)))), (ad 6 0, .inr (0, [.ref o0, .int (nvF 6), .ref (ad 6 1), .ref (ad 6 2), .ref (ad 6 3), .ref (ad 6 4), .ref (ad 6 5), .ref (ad 6 6), .ref (ad 6 7), .int (C_br (cs 6)), .int (C_du (cs 6)), .int (C_mi (cs 6)), .int (C_am (cs 6)), .int (C_mb (cs 6))])), (ad 6 1, .inl (G.2.1, 6, .inl (C_ca (cs 6)))), (ad 6 2, .inl (G.2.1, 6, .inl (C_tk (cs 6)))), (ad 6 3, .inl (G.2.1, 24, .inl (C_gr (cs 6)))), (ad 6 4, .inl (G.2.1, 24, .inl (C_go (cs 6)))), (ad 6 5, .inl (G.2.1, 24, .inl (C_we (cs 6)))), (ad 6 6, .inl (G.2.1, 24, .inl (C_dr (cs 6)))), (ad 6 7, .inl (G.2.1, 24, .inl (C_ea (cs 6))))] [(x0, .inr (3, [.ref o0, .ref g0, .ref (ad 0 0), .ref sA, .int (nI (H_ho (s_selO (s_in x 1 200) (ho + x.toNatClampNeg) ((ho, lh, ls, lw, lt, bn, cs)) ((ho, lh, ls, lw, lt, bn, cs)) ((s_advs fl ai rn rf rt wi qu sh fn pn hk x.toNatClampNeg (ho, lh, ls, lw, lt, bn, cs)))))), .int (nI de)])), (o0, .inr (2, [.ref oFa, .ref oWi, .ref oPa, .ref oQu, .ref oSh, .int (nI hk), .int fl, .int ai, .int rn, .int rf, .int rt])), (oFa, .inl (G.2.1, 6, .inl (pN fn))), (oWi, .inl (G.2.1, 6, .inl wi)), (oPa, .inl (G.2.1, 6, .inl (pN pn))), (oQu, .inl (G.2.1, 6, .inl qu)), (oSh, .inl (G.2.1, 24, .inl sh)), (g0, .inr (1, [.ref lH, .ref lS, .ref lW, .ref lT, .int (nI (min (H_bn (s_selO (s_in x 1 200) (ho + x.toNatClampNeg) ((ho, lh, ls, lw, lt, bn, cs)) ((ho, lh, ls, lw, lt, bn, cs)) ((s_advs fl ai rn rf rt wi qu sh fn pn hk x.toNatClampNeg (ho, lh, ls, lw, lt, bn, cs))))) 60)), .int (nI (H_bn (s_selO (s_in x 1 200) (ho + x.toNatClampNeg) ((ho, lh, ls, lw, lt, bn, cs)) ((ho, lh, ls, lw, lt, bn, cs)) ((s_advs fl ai rn rf rt wi qu sh fn pn hk x.toNatClampNeg (ho, lh, ls, lw, lt, bn, cs))))))])), (lH, .inl (G.2.1, 60, .inl (H_lh (s_selO (s_in x 1 200) (ho + x.toNatClampNeg) ((ho, lh, ls, lw, lt, bn, cs)) ((ho, lh, ls, lw, lt, bn, cs)) ((s_advs fl ai rn rf rt wi qu sh fn pn hk x.toNatClampNeg (ho, lh, ls, lw, lt, bn, cs))))))), (lS, .inl (G.2.1, 60, .inl (H_ls (s_selO (s_in x 1 200) (ho + x.toNatClampNeg) ((ho, lh, ls, lw, lt, bn, cs)) ((ho, lh, ls, lw, lt, bn, cs)) ((s_advs fl ai rn rf rt wi qu sh fn pn hk x.toNatClampNeg (ho, lh, ls, lw, lt, bn, cs))))))), (lW, .inl (G.2.1, 60, .inl (H_lw (s_selO (s_in x 1 200) (ho + x.toNatClampNeg) ((ho, lh, ls, lw, lt, bn, cs)) ((ho, lh, ls, lw, lt, bn, cs)) ((s_advs fl ai rn rf rt wi qu sh fn pn hk x.toNatClampNeg (ho, lh, ls, lw, lt, bn, cs))))))), (lT, .inl (G.2.1, 4, .inl (H_lt (s_selO (s_in x 1 200) (ho + x.toNatClampNeg) ((ho, lh, ls, lw, lt, bn, cs)) ((ho, lh, ls, lw, lt, bn, cs)) ((s_advs fl ai rn rf rt wi qu sh fn pn hk x.toNatClampNeg (ho, lh, ls, lw, lt, bn, cs))))))), (sA, .inl (G.2.2, 6, .inr (.inr (.inr (.inr (fun i => some (ad (i + 1) 0))))))), (ad 0 0, .inr (0, [.ref o0, .int (nvF 0), .ref (ad 0 1), .ref (ad 0 2), .ref (ad 0 3), .ref (ad 0 4), .ref (ad 0 5), .ref (ad 0 6), .ref (ad 0 7), .int (C_br (H_cs (s_selO (s_in x 1 200) (ho + x.toNatClampNeg) ((ho, lh, ls, lw, lt, bn, cs)) ((ho, lh, ls, lw, lt, bn, cs)) ((s_advs fl ai rn rf rt wi qu sh fn pn hk x.toNatClampNeg (ho, lh, ls, lw, lt, bn, cs)))) 0)), .int (C_du (H_cs (s_selO (s_in x 1 200) (ho + x.toNatClampNeg) ((ho, lh, ls, lw, lt, bn, cs)) ((ho, lh, ls, lw, lt, bn, cs)) ((s_advs fl ai rn rf rt wi qu sh fn pn hk x.toNatClampNeg (ho, lh, ls, lw, lt, bn, cs)))) 0)), .int (C_mi (H_cs (s_selO (s_in x 1 200) (ho + x.toNatClampNeg) ((ho, lh, ls, lw, lt, bn, cs)) ((ho, lh, ls, lw, lt, bn, cs)) ((s_advs fl ai rn rf rt wi qu sh fn pn hk x.toNatClampNeg (ho, lh, ls, lw, lt, bn, cs)))) 0)), .int (C_am (H_cs (s_selO (s_in x 1 200) (ho + x.toNatClampNeg) ((ho, lh, ls, lw, lt, bn, cs)) ((ho, lh, ls, lw, lt, bn, cs)) ((s_advs fl ai rn rf rt wi qu sh fn pn hk x.toNatClampNeg (ho, lh, ls, lw, lt, bn, cs)))) 0)), .int (C_mb (H_cs (s_selO (s_in x 1 200) (ho + x.toNatClampNeg) ((ho, lh, ls, lw, lt, bn, cs)) ((ho, lh, ls, lw, lt, bn, cs)) ((s_advs fl ai rn rf rt wi qu sh fn pn hk x.toNatClampNeg (ho, lh, ls, lw, lt, bn, cs)))) 0))])), (ad 0 1, .inl (G.2.1, 6, .inl (C_ca (H_cs (s_selO (s_in x 1 200) (ho + x.toNatClampNeg) ((ho, lh, ls, lw, lt, bn, cs)) ((ho, lh, ls, lw, lt, bn, cs)) ((s_advs fl ai rn rf rt wi qu sh fn pn hk x.toNatClampNeg (ho, lh, ls, lw, lt, bn, cs)))) 0)))), (ad 0 2, .inl (G.2.1, 6, .inl (C_tk (H_cs (s_selO (s_in x 1 200) (ho + x.toNatClampNeg) ((ho, lh, ls, lw, lt, bn, cs)) ((ho, lh, ls, lw, lt, bn, cs)) ((s_advs fl ai rn rf rt wi qu sh fn pn hk x.toNatClampNeg (ho, lh, ls, lw, lt, bn, cs)))) 0)))), (ad 0 3, .inl (G.2.1, 24, .inl (C_gr (H_cs (s_selO (s_in x 1 200) (ho + x.toNatClampNeg) ((ho, lh, ls, lw, lt, bn, cs)) ((ho, lh, ls, lw, lt, bn, cs)) ((s_advs fl ai rn rf rt wi qu sh fn pn hk x.toNatClampNeg (ho, lh, ls, lw, lt, bn, cs)))) 0)))), (ad 0 4, .inl (G.2.1, 24, .inl (C_go (H_cs (s_selO (s_in x 1 200) (ho + x.toNatClampNeg) ((ho, lh, ls, lw, lt, bn, cs)) ((ho, lh, ls, lw, lt, bn, cs)) ((s_advs fl ai rn rf rt wi qu sh fn pn hk x.toNatClampNeg (ho, lh, ls, lw, lt, bn, cs)))) 0)))), (ad 0 5, .inl (G.2.1, 24, .inl (C_we (H_cs (s_selO (s_in x 1 200) (ho + x.toNatClampNeg) ((ho, lh, ls, lw, lt, bn, cs)) ((ho, lh, ls, lw, lt, bn, cs)) ((s_advs fl ai rn rf rt wi qu sh fn pn hk x.toNatClampNeg (ho, lh, ls, lw, lt, bn, cs)))) 0)))), (ad 0 6, .inl (G.2.1, 24, .inl (C_dr (H_cs (s_selO (s_in x 1 200) (ho + x.toNatClampNeg) ((ho, lh, ls, lw, lt, bn, cs)) ((ho, lh, ls, lw, lt, bn, cs)) ((s_advs fl ai rn rf rt wi qu sh fn pn hk x.toNatClampNeg (ho, lh, ls, lw, lt, bn, cs)))) 0)))), (ad 0 7, .inl (G.2.1, 24, .inl (C_ea (H_cs (s_selO (s_in x 1 200) (ho + x.toNatClampNeg) ((ho, lh, ls, lw, lt, bn, cs)) ((ho, lh, ls, lw, lt, bn, cs)) ((s_advs fl ai rn rf rt wi qu sh fn pn hk x.toNatClampNeg (ho, lh, ls, lw, lt, bn, cs)))) 0)))), (ad 1 0, .inr (0, [.ref o0, .int (nvF 1), .ref (ad 1 1), .ref (ad 1 2), .ref (ad 1 3), .ref (ad 1 4), .ref (ad 1 5), .ref (ad 1 6), .ref (ad 1 7), .int (C_br (H_cs (s_selO (s_in x 1 200) (ho + x.toNatClampNeg) ((ho, lh, ls, lw, lt, bn, cs)) ((ho, lh, ls, lw, lt, bn, cs)) ((s_advs fl ai rn rf rt wi qu sh fn pn hk x.toNatClampNeg (ho, lh, ls, lw, lt, bn, cs)))) 1)), .int (C_du (H_cs (s_selO (s_in x 1 200) (ho + x.toNatClampNeg) ((ho, lh, ls, lw, lt, bn, cs)) ((ho, lh, ls, lw, lt, bn, cs)) ((s_advs fl ai rn rf rt wi qu sh fn pn hk x.toNatClampNeg (ho, lh, ls, lw, lt, bn, cs)))) 1)), .int (C_mi (H_cs (s_selO (s_in x 1 200) (ho + x.toNatClampNeg) ((ho, lh, ls, lw, lt, bn, cs)) ((ho, lh, ls, lw, lt, bn, cs)) ((s_advs fl ai rn rf rt wi qu sh fn pn hk x.toNatClampNeg (ho, lh, ls, lw, lt, bn, cs)))) 1)), .int (C_am (H_cs (s_selO (s_in x 1 200) (ho + x.toNatClampNeg) ((ho, lh, ls, lw, lt, bn, cs)) ((ho, lh, ls, lw, lt, bn, cs)) ((s_advs fl ai rn rf rt wi qu sh fn pn hk x.toNatClampNeg (ho, lh, ls, lw, lt, bn, cs)))) 1)), .int (C_mb (H_cs (s_selO (s_in x 1 200) (ho + x.toNatClampNeg) ((ho, lh, ls, lw, lt, bn, cs)) ((ho, lh, ls, lw, lt, bn, cs)) ((s_advs fl ai rn rf rt wi qu sh fn pn hk x.toNatClampNeg (ho, lh, ls, lw, lt, bn, cs)))) 1))])), (ad 1 1, .inl (G.2.1, 6, .inl (C_ca (H_cs (s_selO (s_in x 1 200) (ho + x.toNatClampNeg) ((ho, lh, ls, lw, lt, bn, cs)) ((ho, lh, ls, lw, lt, bn, cs)) ((s_advs fl ai rn rf rt wi qu sh fn pn hk x.toNatClampNeg (ho, lh, ls, lw, lt, bn, cs)))) 1)))), (ad 1 2, .inl (G.2.1, 6, .inl (C_tk (H_cs (s_selO (s_in x 1 200) (ho + x.toNatClampNeg) ((ho, lh, ls, lw, lt, bn, cs)) ((ho, lh, ls, lw, lt, bn, cs)) ((s_advs fl ai rn rf rt wi qu sh fn pn hk x.toNatClampNeg (ho, lh, ls, lw, lt, bn, cs)))) 1)))), (ad 1 3, .inl (G.2.1, 24, .inl (C_gr (H_cs (s_selO (s_in x 1 200) (ho + x.toNatClampNeg) ((ho, lh, ls, lw, lt, bn, cs)) ((ho, lh, ls, lw, lt, bn, cs)) ((s_advs fl ai rn rf rt wi qu sh fn pn hk x.toNatClampNeg (ho, lh, ls, lw, lt, bn, cs)))) 1)))), (ad 1 4, .inl (G.2.1, 24, .inl (C_go (H_cs (s_selO (s_in x 1 200) (ho + x.toNatClampNeg) ((ho, lh, ls, lw, lt, bn, cs)) ((ho, lh, ls, lw, lt, bn, cs)) ((s_advs fl ai rn rf rt wi qu sh fn pn hk x.toNatClampNeg (ho, lh, ls, lw, lt, bn, cs)))) 1)))), (ad 1 5, .inl (G.2.1, 24, .inl (C_we (H_cs (s_selO (s_in x 1 200) (ho + x.toNatClampNeg) ((ho, lh, ls, lw, lt, bn, cs)) ((ho, lh, ls, lw, lt, bn, cs)) ((s_advs fl ai rn rf rt wi qu sh fn pn hk x.toNatClampNeg (ho, lh, ls, lw, lt, bn, cs)))) 1)))), (ad 1 6, .inl (G.2.1, 24, .inl (C_dr (H_cs (s_selO (s_in x 1 200) (ho + x.toNatClampNeg) ((ho, lh, ls, lw, lt, bn, cs)) ((ho, lh, ls, lw, lt, bn, cs)) ((s_advs fl ai rn rf rt wi qu sh fn pn hk x.toNatClampNeg (ho, lh, ls, lw, lt, bn, cs)))) 1)))), (ad 1 7, .inl (G.2.1, 24, .inl (C_ea (H_cs (s_selO (s_in x 1 200) (ho + x.toNatClampNeg) ((ho, lh, ls, lw, lt, bn, cs)) ((ho, lh, ls, lw, lt, bn, cs)) ((s_advs fl ai rn rf rt wi qu sh fn pn hk x.toNatClampNeg (ho, lh, ls, lw, lt, bn, cs)))) 1)))), (ad 2 0, .inr (0, [.ref o0, .int (nvF 2), .ref (ad 2 1), .ref (ad 2 2), .ref (ad 2 3), .ref (ad 2 4), .ref (ad 2 5), .ref (ad 2 6), .ref (ad 2 7), .int (C_br (H_cs (s_selO (s_in x 1 200) (ho + x.toNatClampNeg) ((ho, lh, ls, lw, lt, bn, cs)) ((ho, lh, ls, lw, lt, bn, cs)) ((s_advs fl ai rn rf rt wi qu sh fn pn hk x.toNatClampNeg (ho, lh, ls, lw, lt, bn, cs)))) 2)), .int (C_du (H_cs (s_selO (s_in x 1 200) (ho + x.toNatClampNeg) ((ho, lh, ls, lw, lt, bn, cs)) ((ho, lh, ls, lw, lt, bn, cs)) ((s_advs fl ai rn rf rt wi qu sh fn pn hk x.toNatClampNeg (ho, lh, ls, lw, lt, bn, cs)))) 2)), .int (C_mi (H_cs (s_selO (s_in x 1 200) (ho + x.toNatClampNeg) ((ho, lh, ls, lw, lt, bn, cs)) ((ho, lh, ls, lw, lt, bn, cs)) ((s_advs fl ai rn rf rt wi qu sh fn pn hk x.toNatClampNeg (ho, lh, ls, lw, lt, bn, cs)))) 2)), .int (C_am (H_cs (s_selO (s_in x 1 200) (ho + x.toNatClampNeg) ((ho, lh, ls, lw, lt, bn, cs)) ((ho, lh, ls, lw, lt, bn, cs)) ((s_advs fl ai rn rf rt wi qu sh fn pn hk x.toNatClampNeg (ho, lh, ls, lw, lt, bn, cs)))) 2)), .int (C_mb (H_cs (s_selO (s_in x 1 200) (ho + x.toNatClampNeg) ((ho, lh, ls, lw, lt, bn, cs)) ((ho, lh, ls, lw, lt, bn, cs)) ((s_advs fl ai rn rf rt wi qu sh fn pn hk x.toNatClampNeg (ho, lh, ls, lw, lt, bn, cs)))) 2))])), (ad 2 1, .inl (G.2.1, 6, .inl (C_ca (H_cs (s_selO (s_in x 1 200) (ho + x.toNatClampNeg) ((ho, lh, ls, lw, lt, bn, cs)) ((ho, lh, ls, lw, lt, bn, cs)) ((s_advs fl ai rn rf rt wi qu sh fn pn hk x.toNatClampNeg (ho, lh, ls, lw, lt, bn, cs)))) 2)))), (ad 2 2, .inl (G.2.1, 6, .inl (C_tk (H_cs (s_selO (s_in x 1 200) (ho + x.toNatClampNeg) ((ho, lh, ls, lw, lt, bn, cs)) ((ho, lh, ls, lw, lt, bn, cs)) ((s_advs fl ai rn rf rt wi qu sh fn pn hk x.toNatClampNeg (ho, lh, ls, lw, lt, bn, cs)))) 2)))), (ad 2 3, .inl (G.2.1, 24, .inl (C_gr (H_cs (s_selO (s_in x 1 200) (ho + x.toNatClampNeg) ((ho, lh, ls, lw, lt, bn, cs)) ((ho, lh, ls, lw, lt, bn, cs)) ((s_advs fl ai rn rf rt wi qu sh fn pn hk x.toNatClampNeg (ho, lh, ls, lw, lt, bn, cs)))) 2)))), (ad 2 4, .inl (G.2.1, 24, .inl (C_go (H_cs (s_selO (s_in x 1 200) (ho + x.toNatClampNeg) ((ho, lh, ls, lw, lt, bn, cs)) ((ho, lh, ls, lw, lt, bn, cs)) ((s_advs fl ai rn rf rt wi qu sh fn pn hk x.toNatClampNeg (ho, lh, ls, lw, lt, bn, cs)))) 2)))), (ad 2 5, .inl (G.2.1, 24, .inl (C_we (H_cs (s_selO (s_in x 1 200) (ho + x.toNatClampNeg) ((ho, lh, ls, lw, lt, bn, cs)) ((ho, lh, ls, lw, lt, bn, cs)) ((s_advs fl ai rn rf rt wi qu sh fn pn hk x.toNatClampNeg (ho, lh, ls, lw, lt, bn, cs)))) 2)))), (ad 2 6, .inl (G.2.1, 24, .inl (C_dr (H_cs (s_selO (s_in x 1 200) (ho + x.toNatClampNeg) ((ho, lh, ls, lw, lt, bn, cs)) ((ho, lh, ls, lw, lt, bn, cs)) ((s_advs fl ai rn rf rt wi qu sh fn pn hk x.toNatClampNeg (ho, lh, ls, lw, lt, bn, cs)))) 2)))), (ad 2 7, .inl (G.2.1, 24, .inl (C_ea (H_cs (s_selO (s_in x 1 200) (ho + x.toNatClampNeg) ((ho, lh, ls, lw, lt, bn, cs)) ((ho, lh, ls, lw, lt, bn, cs)) ((s_advs fl ai rn rf rt wi qu sh fn pn hk x.toNatClampNeg (ho, lh, ls, lw, lt, bn, cs)))) 2)))), (ad 3 0, .inr (0, [.ref o0, .int (nvF 3), .ref (ad 3 1), .ref (ad 3 2), .ref (ad 3 3), .ref (ad 3 4), .ref (ad 3 5), .ref (ad 3 6), .ref (ad 3 7), .int (C_br (H_cs (s_selO (s_in x 1 200) (ho + x.toNatClampNeg) ((ho, lh, ls, lw, lt, bn, cs)) ((ho, lh, ls, lw, lt, bn, cs)) ((s_advs fl ai rn rf rt wi qu sh fn pn hk x.toNatClampNeg (ho, lh, ls, lw, lt, bn, cs)))) 3)), .int (C_du (H_cs (s_selO (s_in x 1 200) (ho + x.toNatClampNeg) ((ho, lh, ls, lw, lt, bn, cs)) ((ho, lh, ls, lw, lt, bn, cs)) ((s_advs fl ai rn rf rt wi qu sh fn pn hk x.toNatClampNeg (ho, lh, ls, lw, lt, bn, cs)))) 3)), .int (C_mi (H_cs (s_selO (s_in x 1 200) (ho + x.toNatClampNeg) ((ho, lh, ls, lw, lt, bn, cs)) ((ho, lh, ls, lw, lt, bn, cs)) ((s_advs fl ai rn rf rt wi qu sh fn pn hk x.toNatClampNeg (ho, lh, ls, lw, lt, bn, cs)))) 3)), .int (C_am (H_cs (s_selO (s_in x 1 200) (ho + x.toNatClampNeg) ((ho, lh, ls, lw, lt, bn, cs)) ((ho, lh, ls, lw, lt, bn, cs)) ((s_advs fl ai rn rf rt wi qu sh fn pn hk x.toNatClampNeg (ho, lh, ls, lw, lt, bn, cs)))) 3)), .int (C_mb (H_cs (s_selO (s_in x 1 200) (ho + x.toNatClampNeg) ((ho, lh, ls, lw, lt, bn, cs)) ((ho, lh, ls, lw, lt, bn, cs)) ((s_advs fl ai rn rf rt wi qu sh fn pn hk x.toNatClampNeg (ho, lh, ls, lw, lt, bn, cs)))) 3))])), (ad 3 1, .inl (G.2.1, 6, .inl (C_ca (H_cs (s_selO (s_in x 1 200) (ho + x.toNatClampNeg) ((ho, lh, ls, lw, lt, bn, cs)) ((ho, lh, ls, lw, lt, bn, cs)) ((s_advs fl ai rn rf rt wi qu sh fn pn hk x.toNatClampNeg (ho, lh, ls, lw, lt, bn, cs)))) 3)))), (ad 3 2, .inl (G.2.1, 6, .inl (C_tk (H_cs (s_selO (s_in x 1 200) (ho + x.toNatClampNeg) ((ho, lh, ls, lw, lt, bn, cs)) ((ho, lh, ls, lw, lt, bn, cs)) ((s_advs fl ai rn rf rt wi qu sh fn pn hk x.toNatClampNeg (ho, lh, ls, lw, lt, bn, cs)))) 3)))), (ad 3 3, .inl (G.2.1, 24, .inl (C_gr (H_cs (s_selO (s_in x 1 200) (ho + x.toNatClampNeg) ((ho, lh, ls, lw, lt, bn, cs)) ((ho, lh, ls, lw, lt, bn, cs)) ((s_advs fl ai rn rf rt wi qu sh fn pn hk x.toNatClampNeg (ho, lh, ls, lw, lt, bn, cs)))) 3)))), (ad 3 4, .inl (G.2.1, 24, .inl (C_go (H_cs (s_selO (s_in x 1 200) (ho + x.toNatClampNeg) ((ho, lh, ls, lw, lt, bn, cs)) ((ho, lh, ls, lw, lt, bn, cs)) ((s_advs fl ai rn rf rt wi qu sh fn pn hk x.toNatClampNeg (ho, lh, ls, lw, lt, bn, cs)))) 3)))), (ad 3 5, .inl (G.2.1, 24, .inl (C_we (H_cs (s_selO (s_in x 1 200) (ho + x.toNatClampNeg) ((ho, lh, ls, lw, lt, bn, cs)) ((ho, lh, ls, lw, lt, bn, cs)) ((s_advs fl ai rn rf rt wi qu sh fn pn hk x.toNatClampNeg (ho, lh, ls, lw, lt, bn, cs)))) 3)))), (ad 3 6, .inl (G.2.1, 24, .inl (C_dr (H_cs (s_selO (s_in x 1 200) (ho + x.toNatClampNeg) ((ho, lh, ls, lw, lt, bn, cs)) ((ho, lh, ls, lw, lt, bn, cs)) ((s_advs fl ai rn rf rt wi qu sh fn pn hk x.toNatClampNeg (ho, lh, ls, lw, lt, bn, cs)))) 3)))), (ad 3 7, .inl (G.2.1, 24, .inl (C_ea (H_cs (s_selO (s_in x 1 200) (ho + x.toNatClampNeg) ((ho, lh, ls, lw, lt, bn, cs)) ((ho, lh, ls, lw, lt, bn, cs)) ((s_advs fl ai rn rf rt wi qu sh fn pn hk x.toNatClampNeg (ho, lh, ls, lw, lt, bn, cs)))) 3)))), (ad 4 0, .inr (0, [.ref o0, .int (nvF 4), .ref (ad 4 1), .ref (ad 4 2), .ref (ad 4 3), .ref (ad 4 4), .ref (ad 4 5), .ref (ad 4 6), .ref (ad 4 7), .int (C_br (H_cs (s_selO (s_in x 1 200) (ho + x.toNatClampNeg) ((ho, lh, ls, lw, lt, bn, cs)) ((ho, lh, ls, lw, lt, bn, cs)) ((s_advs fl ai rn rf rt wi qu sh fn pn hk x.toNatClampNeg (ho, lh, ls, lw, lt, bn, cs)))) 4)), .int (C_du (H_cs (s_selO (s_in x 1 200) (ho + x.toNatClampNeg) ((ho, lh, ls, lw, lt, bn, cs)) ((ho, lh, ls, lw, lt, bn, cs)) ((s_advs fl ai rn rf rt wi qu sh fn pn hk x.toNatClampNeg (ho, lh, ls, lw, lt, bn, cs)))) 4)), .int (C_mi (H_cs (s_selO (s_in x 1 200) (ho + x.toNatClampNeg) ((ho, lh, ls, lw, lt, bn, cs)) ((ho, lh, ls, lw, lt, bn, cs)) ((s_advs fl ai rn rf rt wi qu sh fn pn hk x.toNatClampNeg (ho, lh, ls, lw, lt, bn, cs)))) 4)), .int (C_am (H_cs (s_selO (s_in x 1 200) (ho + x.toNatClampNeg) ((ho, lh, ls, lw, lt, bn, cs)) ((ho, lh, ls, lw, lt, bn, cs)) ((s_advs fl ai rn rf rt wi qu sh fn pn hk x.toNatClampNeg (ho, lh, ls, lw, lt, bn, cs)))) 4)), .int (C_mb (H_cs (s_selO (s_in x 1 200) (ho + x.toNatClampNeg) ((ho, lh, ls, lw, lt, bn, cs)) ((ho, lh, ls, lw, lt, bn, cs)) ((s_advs fl ai rn rf rt wi qu sh fn pn hk x.toNatClampNeg (ho, lh, ls, lw, lt, bn, cs)))) 4))])), (ad 4 1, .inl (G.2.1, 6, .inl (C_ca (H_cs (s_selO (s_in x 1 200) (ho + x.toNatClampNeg) ((ho, lh, ls, lw, lt, bn, cs)) ((ho, lh, ls, lw, lt, bn, cs)) ((s_advs fl ai rn rf rt wi qu sh fn pn hk x.toNatClampNeg (ho, lh, ls, lw, lt, bn, cs)))) 4)))), (ad 4 2, .inl (G.2.1, 6, .inl (C_tk (H_cs (s_selO (s_in x 1 200) (ho + x.toNatClampNeg) ((ho, lh, ls, lw, lt, bn, cs)) ((ho, lh, ls, lw, lt, bn, cs)) ((s_advs fl ai rn rf rt wi qu sh fn pn hk x.toNatClampNeg (ho, lh, ls, lw, lt, bn, cs)))) 4)))), (ad 4 3, .inl (G.2.1, 24, .inl (C_gr (H_cs (s_selO (s_in x 1 200) (ho + x.toNatClampNeg) ((ho, lh, ls, lw, lt, bn, cs)) ((ho, lh, ls, lw, lt, bn, cs)) ((s_advs fl ai rn rf rt wi qu sh fn pn hk x.toNatClampNeg (ho, lh, ls, lw, lt, bn, cs)))) 4)))), (ad 4 4, .inl (G.2.1, 24, .inl (C_go (H_cs (s_selO (s_in x 1 200) (ho + x.toNatClampNeg) ((ho, lh, ls, lw, lt, bn, cs)) ((ho, lh, ls, lw, lt, bn, cs)) ((s_advs fl ai rn rf rt wi qu sh fn pn hk x.toNatClampNeg (ho, lh, ls, lw, lt, bn, cs)))) 4)))), (ad 4 5, .inl (G.2.1, 24, .inl (C_we (H_cs (s_selO (s_in x 1 200) (ho + x.toNatClampNeg) ((ho, lh, ls, lw, lt, bn, cs)) ((ho, lh, ls, lw, lt, bn, cs)) ((s_advs fl ai rn rf rt wi qu sh fn pn hk x.toNatClampNeg (ho, lh, ls, lw, lt, bn, cs)))) 4)))), (ad 4 6, .inl (G.2.1, 24, .inl (C_dr (H_cs (s_selO (s_in x 1 200) (ho + x.toNatClampNeg) ((ho, lh, ls, lw, lt, bn, cs)) ((ho, lh, ls, lw, lt, bn, cs)) ((s_advs fl ai rn rf rt wi qu sh fn pn hk x.toNatClampNeg (ho, lh, ls, lw, lt, bn, cs)))) 4)))), (ad 4 7, .inl (G.2.1, 24, .inl (C_ea (H_cs (s_selO (s_in x 1 200) (ho + x.toNatClampNeg) ((ho, lh, ls, lw, lt, bn, cs)) ((ho, lh, ls, lw, lt, bn, cs)) ((s_advs fl ai rn rf rt wi qu sh fn pn hk x.toNatClampNeg (ho, lh, ls, lw, lt, bn, cs)))) 4)))), (ad 5 0, .inr (0, [.ref o0, .int (nvF 5), .ref (ad 5 1), .ref (ad 5 2), .ref (ad 5 3), .ref (ad 5 4), .ref (ad 5 5), .ref (ad 5 6), .ref (ad 5 7), .int (C_br (H_cs (s_selO (s_in x 1 200) (ho + x.toNatClampNeg) ((ho, lh, ls, lw, lt, bn, cs)) ((ho, lh, ls, lw, lt, bn, cs)) ((s_advs fl ai rn rf rt wi qu sh fn pn hk x.toNatClampNeg (ho, lh, ls, lw, lt, bn, cs)))) 5)), .int (C_du (H_cs (s_selO (s_in x 1 200) (ho + x.toNatClampNeg) ((ho, lh, ls, lw, lt, bn, cs)) ((ho, lh, ls, lw, lt, bn, cs)) ((s_advs fl ai rn rf rt wi qu sh fn pn hk x.toNatClampNeg (ho, lh, ls, lw, lt, bn, cs)))) 5)), .int (C_mi (H_cs (s_selO (s_in x 1 200) (ho + x.toNatClampNeg) ((ho, lh, ls, lw, lt, bn, cs)) ((ho, lh, ls, lw, lt, bn, cs)) ((s_advs fl ai rn rf rt wi qu sh fn pn hk x.toNatClampNeg (ho, lh, ls, lw, lt, bn, cs)))) 5)), .int (C_am (H_cs (s_selO (s_in x 1 200) (ho + x.toNatClampNeg) ((ho, lh, ls, lw, lt, bn, cs)) ((ho, lh, ls, lw, lt, bn, cs)) ((s_advs fl ai rn rf rt wi qu sh fn pn hk x.toNatClampNeg (ho, lh, ls, lw, lt, bn, cs)))) 5)), .int (C_mb (H_cs (s_selO (s_in x 1 200) (ho + x.toNatClampNeg) ((ho, lh, ls, lw, lt, bn, cs)) ((ho, lh, ls, lw, lt, bn, cs)) ((s_advs fl ai rn rf rt wi qu sh fn pn hk x.toNatClampNeg (ho, lh, ls, lw, lt, bn, cs)))) 5))])), (ad 5 1, .inl (G.2.1, 6, .inl (C_ca (H_cs (s_selO (s_in x 1 200) (ho + x.toNatClampNeg) ((ho, lh, ls, lw, lt, bn, cs)) ((ho, lh, ls, lw, lt, bn, cs)) ((s_advs fl ai rn rf rt wi qu sh fn pn hk x.toNatClampNeg (ho, lh, ls, lw, lt, bn, cs)))) 5)))), (ad 5 2, .inl (G.2.1, 6, .inl (C_tk (H_cs (s_selO (s_in x 1 200) (ho + x.toNatClampNeg) ((ho, lh, ls, lw, lt, bn, cs)) ((ho, lh, ls, lw, lt, bn, cs)) ((s_advs fl ai rn rf rt wi qu sh fn pn hk x.toNatClampNeg (ho, lh, ls, lw, lt, bn, cs)))) 5)))), (ad 5 3, .inl (G.2.1, 24, .inl (C_gr (H_cs (s_selO (s_in x 1 200) (ho + x.toNatClampNeg) ((ho, lh, ls, lw, lt, bn, cs)) ((ho, lh, ls, lw, lt, bn, cs)) ((s_advs fl ai rn rf rt wi qu sh fn pn hk x.toNatClampNeg (ho, lh, ls, lw, lt, bn, cs)))) 5)))), (ad 5 4, .inl (G.2.1, 24, .inl (C_go (H_cs (s_selO (s_in x 1 200) (ho + x.toNatClampNeg) ((ho, lh, ls, lw, lt, bn, cs)) ((ho, lh, ls, lw, lt, bn, cs)) ((s_advs fl ai rn rf rt wi qu sh fn pn hk x.toNatClampNeg (ho, lh, ls, lw, lt, bn, cs)))) 5)))), (ad 5 5, .inl (G.2.1, 24, .inl (C_we (H_cs (s_selO (s_in x 1 200) (ho + x.toNatClampNeg) ((ho, lh, ls, lw, lt, bn, cs)) ((ho, lh, ls, lw, lt, bn, cs)) ((s_advs fl ai rn rf rt wi qu sh fn pn hk x.toNatClampNeg (ho, lh, ls, lw, lt, bn, cs)))) 5)))), (ad 5 6, .inl (G.2.1, 24, .inl (C_dr (H_cs (s_selO (s_in x 1 200) (ho + x.toNatClampNeg) ((ho, lh, ls, lw, lt, bn, cs)) ((ho, lh, ls, lw, lt, bn, cs)) ((s_advs fl ai rn rf rt wi qu sh fn pn hk x.toNatClampNeg (ho, lh, ls, lw, lt, bn, cs)))) 5)))), (ad 5 7, .inl (G.2.1, 24, .inl (C_ea (H_cs (s_selO (s_in x 1 200) (ho + x.toNatClampNeg) ((ho, lh, ls, lw, lt, bn, cs)) ((ho, lh, ls, lw, lt, bn, cs)) ((s_advs fl ai rn rf rt wi qu sh fn pn hk x.toNatClampNeg (ho, lh, ls, lw, lt, bn, cs)))) 5)))), (ad 6 0, .inr (0, [.ref o0, .int (nvF 6), .ref (ad 6 1), .ref (ad 6 2), .ref (ad 6 3), .ref (ad 6 4), .ref (ad 6 5), .ref (ad 6 6), .ref (ad 6 7), .int (C_br (H_cs (s_selO (s_in x 1 200) (ho + x.toNatClampNeg) ((ho, lh, ls, lw, lt, bn, cs)) ((ho, lh, ls, lw, lt, bn, cs)) ((s_advs fl ai rn rf rt wi qu sh fn pn hk x.toNatClampNeg (ho, lh, ls, lw, lt, bn, cs)))) 6)), .int (C_du (H_cs (s_selO (s_in x 1 200) (ho + x.toNatClampNeg) ((ho, lh, ls, lw, lt, bn, cs)) ((ho, lh, ls, lw, lt, bn, cs)) ((s_advs fl ai rn rf rt wi qu sh fn pn hk x.toNatClampNeg (ho, lh, ls, lw, lt, bn, cs)))) 6)), .int (C_mi (H_cs (s_selO (s_in x 1 200) (ho + x.toNatClampNeg) ((ho, lh, ls, lw, lt, bn, cs)) ((ho, lh, ls, lw, lt, bn, cs)) ((s_advs fl ai rn rf rt wi qu sh fn pn hk x.toNatClampNeg (ho, lh, ls, lw, lt, bn, cs)))) 6)), .int (C_am (H_cs (s_selO (s_in x 1 200) (ho + x.toNatClampNeg) ((ho, lh, ls, lw, lt, bn, cs)) ((ho, lh, ls, lw, lt, bn, cs)) ((s_advs fl ai rn rf rt wi qu sh fn pn hk x.toNatClampNeg (ho, lh, ls, lw, lt, bn, cs)))) 6)), .int (C_mb (H_cs (s_selO (s_in x 1 200) (ho + x.toNatClampNeg) ((ho, lh, ls, lw, lt, bn, cs)) ((ho, lh, ls, lw, lt, bn, cs)) ((s_advs fl ai rn rf rt wi qu sh fn pn hk x.toNatClampNeg (ho, lh, ls, lw, lt, bn, cs)))) 6))])), (ad 6 1, .inl (G.2.1, 6, .inl (C_ca (H_cs (s_selO (s_in x 1 200) (ho + x.toNatClampNeg) ((ho, lh, ls, lw, lt, bn, cs)) ((ho, lh, ls, lw, lt, bn, cs)) ((s_advs fl ai rn rf rt wi qu sh fn pn hk x.toNatClampNeg (ho, lh, ls, lw, lt, bn, cs)))) 6)))), (ad 6 2, .inl (G.2.1, 6, .inl (C_tk (H_cs (s_selO (s_in x 1 200) (ho + x.toNatClampNeg) ((ho, lh, ls, lw, lt, bn, cs)) ((ho, lh, ls, lw, lt, bn, cs)) ((s_advs fl ai rn rf rt wi qu sh fn pn hk x.toNatClampNeg (ho, lh, ls, lw, lt, bn, cs)))) 6)))), (ad 6 3, .inl (G.2.1, 24, .inl (C_gr (H_cs (s_selO (s_in x 1 200) (ho + x.toNatClampNeg) ((ho, lh, ls, lw, lt, bn, cs)) ((ho, lh, ls, lw, lt, bn, cs)) ((s_advs fl ai rn rf rt wi qu sh fn pn hk x.toNatClampNeg (ho, lh, ls, lw, lt, bn, cs)))) 6)))), (ad 6 4, .inl (G.2.1, 24, .inl (C_go (H_cs (s_selO (s_in x 1 200) (ho + x.toNatClampNeg) ((ho, lh, ls, lw, lt, bn, cs)) ((ho, lh, ls, lw, lt, bn, cs)) ((s_advs fl ai rn rf rt wi qu sh fn pn hk x.toNatClampNeg (ho, lh, ls, lw, lt, bn, cs)))) 6)))), (ad 6 5, .inl (G.2.1, 24, .inl (C_we (H_cs (s_selO (s_in x 1 200) (ho + x.toNatClampNeg) ((ho, lh, ls, lw, lt, bn, cs)) ((ho, lh, ls, lw, lt, bn, cs)) ((s_advs fl ai rn rf rt wi qu sh fn pn hk x.toNatClampNeg (ho, lh, ls, lw, lt, bn, cs)))) 6)))), (ad 6 6, .inl (G.2.1, 24, .inl (C_dr (H_cs (s_selO (s_in x 1 200) (ho + x.toNatClampNeg) ((ho, lh, ls, lw, lt, bn, cs)) ((ho, lh, ls, lw, lt, bn, cs)) ((s_advs fl ai rn rf rt wi qu sh fn pn hk x.toNatClampNeg (ho, lh, ls, lw, lt, bn, cs)))) 6)))), (ad 6 7, .inl (G.2.1, 24, .inl (C_ea (H_cs (s_selO (s_in x 1 200) (ho + x.toNatClampNeg) ((ho, lh, ls, lw, lt, bn, cs)) ((ho, lh, ls, lw, lt, bn, cs)) ((s_advs fl ai rn rf rt wi qu sh fn pn hk x.toNatClampNeg (ho, lh, ls, lw, lt, bn, cs)))) 6))))] (s_selO (s_in x 1 200) (ho + x.toNatClampNeg) ((-1)) ((-3)) (nI (ho + x.toNatClampNeg))) := by
  refine MuI.of (own := RX3) (by decide) rfl (Nat.le_of_ble_eq_true rfl) (fun p e s m below meth c => ?_)
  refine v_iload_n dX3_hours_0 rfl 1 rfl ?_
  refine v_iconst (v := 1) dX3_hours_1 (by decide) ?_
  refine v_sipush (v := 200) dX3_hours_2 (by decide) ?_
  refine v_sRd (As := [.int x, .int 1, .int 200]) (rest := []) (c_X3_isWithin l G x 1 200 ) YX3_isWithin mX3_36 dX3_hours_5 [] rfl rfl rfl (Nat.le_of_ble_eq_true rfl) (by decide) (by decide) ?_
  refine v_if_ne (tgt := 13) dX3_hours_8 (by decide) (fun h8 => ?_) (fun h8 => ?_)
  · skip
    have hx := s_in_ix (a := 1) (b := 200) h8 rfl rfl (by decide) (by decide)
    refine v_aload_n dX3_hours_13 rfl 0 rfl ?_
    refine v_get fX3_96 dX3_hours_14 0 rfl rfl ?_
    refine v_iload_n dX3_hours_17 rfl 1 rfl ?_
    refine v_iadd dX3_hours_18 ?_
    refine v_eqi (nI (ho + x.toNatClampNeg)) ((congrArg (nI ho + ·) hx.1).trans (nI_add _ _)) ?_
    refine v_sipush (v := nI 2400) dX3_hours_19 (by decide) ?_
    by_cases n22 : ho + x.toNatClampNeg ≤ 2400
    · refine v_icmp_le (tgt := 28) dX3_hours_22 (by decide) (fun h22 => ?_) (fun h22 => absurd (nI_le n22 (by decide)) h22)
      refine v_iconst (v := 0) dX3_hours_28 (by decide) ?_
      refine v_istore_n (lv' := [(2, .int 0), (0, .ref x0), (1, .int x)]) dX3_hours_29 rfl (by decide) rfl ?_
      have hloop : ∀ (k i : Nat) (Y : HS), i + k = x.toNatClampNeg → Y = (s_advs fl ai rn rf rt wi qu sh fn pn hk i (ho, lh, ls, lw, lt, bn, cs)) → V p l e (rmk 5) s m #[.ref x0, .int x] below meth c (MQ below (v_Qi G (s_selO (s_in x 1 200) (ho + x.toNatClampNeg) ((-1)) ((-3)) (nI (ho + x.toNatClampNeg))) [(x0, .inr (3, [.ref o0, .ref g0, .ref (ad 0 0), .ref sA, .int (nI ho), .int (nI de)])), (o0, .inr (2, [.ref oFa, .ref oWi, .ref oPa, .ref oQu, .ref oSh, .int (nI hk), .int fl, .int ai, .int rn, .int rf, .int rt])), (oFa, .inl (G.2.1, 6, .inl (pN fn))), (oWi, .inl (G.2.1, 6, .inl wi)), (oPa, .inl (G.2.1, 6, .inl (pN pn))), (oQu, .inl (G.2.1, 6, .inl qu)), (oSh, .inl (G.2.1, 24, .inl sh)), (g0, .inr (1, [.ref lH, .ref lS, .ref lW, .ref lT, .int (nI (min bn 60)), .int (nI bn)])), (lH, .inl (G.2.1, 60, .inl lh)), (lS, .inl (G.2.1, 60, .inl ls)), (lW, .inl (G.2.1, 60, .inl lw)), (lT, .inl (G.2.1, 4, .inl lt)), (sA, .inl (G.2.2, 6, .inr (.inr (.inr (.inr (fun i => some (ad (i + 1) 0))))))), (ad 0 0, .inr (0, [.ref o0, .int (nvF 0), .ref (ad 0 1), .ref (ad 0 2), .ref (ad 0 3), .ref (ad 0 4), .ref (ad 0 5), .ref (ad 0 6), .ref (ad 0 7), .int (C_br (cs 0)), .int (C_du (cs 0)), .int (C_mi (cs 0)), .int (C_am (cs 0)), .int (C_mb (cs 0))])), (ad 0 1, .inl (G.2.1, 6, .inl (C_ca (cs 0)))), (ad 0 2, .inl (G.2.1, 6, .inl (C_tk (cs 0)))), (ad 0 3, .inl (G.2.1, 24, .inl (C_gr (cs 0)))), (ad 0 4, .inl (G.2.1, 24, .inl (C_go (cs 0)))), (ad 0 5, .inl (G.2.1, 24, .inl (C_we (cs 0)))), (ad 0 6, .inl (G.2.1, 24, .inl (C_dr (cs 0)))), (ad 0 7, .inl (G.2.1, 24, .inl (C_ea (cs 0)))), (ad 1 0, .inr (0, [.ref o0, .int (nvF 1), .ref (ad 1 1), .ref (ad 1 2), .ref (ad 1 3), .ref (ad 1 4), .ref (ad 1 5), .ref (ad 1 6), .ref (ad 1 7), .int (C_br (cs 1)), .int (C_du (cs 1)), .int (C_mi (cs 1)), .int (C_am (cs 1)), .int (C_mb (cs 1))])), (ad 1 1, .inl (G.2.1, 6, .inl (C_ca (cs 1)))), (ad 1 2, .inl (G.2.1, 6, .inl (C_tk (cs 1)))), (ad 1 3, .inl (G.2.1, 24, .inl (C_gr (cs 1)))), (ad 1 4, .inl (G.2.1, 24, .inl (C_go (cs 1)))), (ad 1 5, .inl (G.2.1, 24, .inl (C_we (cs 1)))), (ad 1 6, .inl (G.2.1, 24, .inl (C_dr (cs 1)))), (ad 1 7, .inl (G.2.1, 24, .inl (C_ea (cs 1)))), (ad 2 0, .inr (0, [.ref o0, .int (nvF 2), .ref (ad 2 1), .ref (ad 2 2), .ref (ad 2 3), .ref (ad 2 4), .ref (ad 2 5), .ref (ad 2 6), .ref (ad 2 7), .int (C_br (cs 2)), .int (C_du (cs 2)), .int (C_mi (cs 2)), .int (C_am (cs 2)), .int (C_mb (cs 2))])), (ad 2 1, .inl (G.2.1, 6, .inl (C_ca (cs 2)))), (ad 2 2, .inl (G.2.1, 6, .inl (C_tk (cs 2)))), (ad 2 3, .inl (G.2.1, 24, .inl (C_gr (cs 2)))), (ad 2 4, .inl (G.2.1, 24, .inl (C_go (cs 2)))), (ad 2 5, .inl (G.2.1, 24, .inl (C_we (cs 2)))), (ad 2 6, .inl (G.2.1, 24, .inl (C_dr (cs 2)))), (ad 2 7, .inl (G.2.1, 24, .inl (C_ea (cs 2)))), (ad 3 0, .inr (0, [.ref o0, .int (nvF 3), .ref (ad 3 1), .ref (ad 3 2), .ref (ad 3 3), .ref (ad 3 4), .ref (ad 3 5), .ref (ad 3 6), .ref (ad 3 7), .int (C_br (cs 3)), .int (C_du (cs 3)), .int (C_mi (cs 3)), .int (C_am (cs 3)), .int (C_mb (cs 3))])), (ad 3 1, .inl (G.2.1, 6, .inl (C_ca (cs 3)))), (ad 3 2, .inl (G.2.1, 6, .inl (C_tk (cs 3)))), (ad 3 3, .inl (G.2.1, 24, .inl (C_gr (cs 3)))), (ad 3 4, .inl (G.2.1, 24, .inl (C_go (cs 3)))), (ad 3 5, .inl (G.2.1, 24, .inl (C_we (cs 3)))), (ad 3 6, .inl (G.2.1, 24, .inl (C_dr (cs 3)))), (ad 3 7, .inl (G.2.1, 24, .inl (C_ea (cs 3)))), (ad 4 0, .inr (0, [.ref o0, .int (nvF 4), .ref (ad 4 1), .ref (ad 4 2), .ref (ad 4 3), .ref (ad 4 4), .ref (ad 4 5), .ref (ad 4 6), .ref (ad 4 7), .int (C_br (cs 4)), .int (C_du (cs 4)), .int (C_mi (cs 4)), .int (C_am (cs 4)), .int (C_mb (cs 4))])), (ad 4 1, .inl (G.2.1, 6, .inl (C_ca (cs 4)))), (ad 4 2, .inl (G.2.1, 6, .inl (C_tk (cs 4)))), (ad 4 3, .inl (G.2.1, 24, .inl (C_gr (cs 4)))), (ad 4 4, .inl (G.2.1, 24, .inl (C_go (cs 4)))), (ad 4 5, .inl (G.2.1, 24, .inl (C_we (cs 4)))), (ad 4 6, .inl (G.2.1, 24, .inl (C_dr (cs 4)))), (ad 4 7, .inl (G.2.1, 24, .inl (C_ea (cs 4)))), (ad 5 0, .inr (0, [.ref o0, .int (nvF 5), .ref (ad 5 1), .ref (ad 5 2), .ref (ad 5 3), .ref (ad 5 4), .ref (ad 5 5), .ref (ad 5 6), .ref (ad 5 7), .int (C_br (cs 5)), .int (C_du (cs 5)), .int (C_mi (cs 5)), .int (C_am (cs 5)), .int (C_mb (cs 5))])), (ad 5 1, .inl (G.2.1, 6, .inl (C_ca (cs 5)))), (ad 5 2, .inl (G.2.1, 6, .inl (C_tk (cs 5)))), (ad 5 3, .inl (G.2.1, 24, .inl (C_gr (cs 5)))), (ad 5 4, .inl (G.2.1, 24, .inl (C_go (cs 5)))), (ad 5 5, .inl (G.2.1, 24, .inl (C_we (cs 5)))), (ad 5 6, .inl (G.2.1, 24, .inl (C_dr (cs 5)))), (ad 5 7, .inl (G.2.1, 24, .inl (C_ea (cs 5)))), (ad 6 0, .inr (0, [.ref o0, .int (nvF 6), .ref (ad 6 1), .ref (ad 6 2), .ref (ad 6 3), .ref (ad 6 4), .ref (ad 6 5), .ref (ad 6 6), .ref (ad 6 7), .int (C_br (cs 6)), .int (C_du (cs 6)), .int (C_mi (cs 6)), .int (C_am (cs 6)), .int (C_mb (cs 6))])), (ad 6 1, .inl (G.2.1, 6, .inl (C_ca (cs 6)))), (ad 6 2, .inl (G.2.1, 6, .inl (C_tk (cs 6)))), (ad 6 3, .inl (G.2.1, 24, .inl (C_gr (cs 6)))), (ad 6 4, .inl (G.2.1, 24, .inl (C_go (cs 6)))), (ad 6 5, .inl (G.2.1, 24, .inl (C_we (cs 6)))), (ad 6 6, .inl (G.2.1, 24, .inl (C_dr (cs 6)))), (ad 6 7, .inl (G.2.1, 24, .inl (C_ea (cs 6))))] [(x0, .inr (3, [.ref o0, .ref g0, .ref (ad 0 0), .ref sA, .int (nI (H_ho (s_selO (s_in x 1 200) (ho + x.toNatClampNeg) ((ho, lh, ls, lw, lt, bn, cs)) ((ho, lh, ls, lw, lt, bn, cs)) ((s_advs fl ai rn rf rt wi qu sh fn pn hk x.toNatClampNeg (ho, lh, ls, lw, lt, bn, cs)))))), .int (nI de)])), (o0, .inr (2, [.ref oFa, .ref oWi, .ref oPa, .ref oQu, .ref oSh, .int (nI hk), .int fl, .int ai, .int rn, .int rf, .int rt])), (oFa, .inl (G.2.1, 6, .inl (pN fn))), (oWi, .inl (G.2.1, 6, .inl wi)), (oPa, .inl (G.2.1, 6, .inl (pN pn))), (oQu, .inl (G.2.1, 6, .inl qu)), (oSh, .inl (G.2.1, 24, .inl sh)), (g0, .inr (1, [.ref lH, .ref lS, .ref lW, .ref lT, .int (nI (min (H_bn (s_selO (s_in x 1 200) (ho + x.toNatClampNeg) ((ho, lh, ls, lw, lt, bn, cs)) ((ho, lh, ls, lw, lt, bn, cs)) ((s_advs fl ai rn rf rt wi qu sh fn pn hk x.toNatClampNeg (ho, lh, ls, lw, lt, bn, cs))))) 60)), .int (nI (H_bn (s_selO (s_in x 1 200) (ho + x.toNatClampNeg) ((ho, lh, ls, lw, lt, bn, cs)) ((ho, lh, ls, lw, lt, bn, cs)) ((s_advs fl ai rn rf rt wi qu sh fn pn hk x.toNatClampNeg (ho, lh, ls, lw, lt, bn, cs))))))])), (lH, .inl (G.2.1, 60, .inl (H_lh (s_selO (s_in x 1 200) (ho + x.toNatClampNeg) ((ho, lh, ls, lw, lt, bn, cs)) ((ho, lh, ls, lw, lt, bn, cs)) ((s_advs fl ai rn rf rt wi qu sh fn pn hk x.toNatClampNeg (ho, lh, ls, lw, lt, bn, cs))))))), (lS, .inl (G.2.1, 60, .inl (H_ls (s_selO (s_in x 1 200) (ho + x.toNatClampNeg) ((ho, lh, ls, lw, lt, bn, cs)) ((ho, lh, ls, lw, lt, bn, cs)) ((s_advs fl ai rn rf rt wi qu sh fn pn hk x.toNatClampNeg (ho, lh, ls, lw, lt, bn, cs))))))), (lW, .inl (G.2.1, 60, .inl (H_lw (s_selO (s_in x 1 200) (ho + x.toNatClampNeg) ((ho, lh, ls, lw, lt, bn, cs)) ((ho, lh, ls, lw, lt, bn, cs)) ((s_advs fl ai rn rf rt wi qu sh fn pn hk x.toNatClampNeg (ho, lh, ls, lw, lt, bn, cs))))))), (lT, .inl (G.2.1, 4, .inl (H_lt (s_selO (s_in x 1 200) (ho + x.toNatClampNeg) ((ho, lh, ls, lw, lt, bn, cs)) ((ho, lh, ls, lw, lt, bn, cs)) ((s_advs fl ai rn rf rt wi qu sh fn pn hk x.toNatClampNeg (ho, lh, ls, lw, lt, bn, cs))))))), (sA, .inl (G.2.2, 6, .inr (.inr (.inr (.inr (fun i => some (ad (i + 1) 0))))))), (ad 0 0, .inr (0, [.ref o0, .int (nvF 0), .ref (ad 0 1), .ref (ad 0 2), .ref (ad 0 3), .ref (ad 0 4), .ref (ad 0 5), .ref (ad 0 6), .ref (ad 0 7), .int (C_br (H_cs (s_selO (s_in x 1 200) (ho + x.toNatClampNeg) ((ho, lh, ls, lw, lt, bn, cs)) ((ho, lh, ls, lw, lt, bn, cs)) ((s_advs fl ai rn rf rt wi qu sh fn pn hk x.toNatClampNeg (ho, lh, ls, lw, lt, bn, cs)))) 0)), .int (C_du (H_cs (s_selO (s_in x 1 200) (ho + x.toNatClampNeg) ((ho, lh, ls, lw, lt, bn, cs)) ((ho, lh, ls, lw, lt, bn, cs)) ((s_advs fl ai rn rf rt wi qu sh fn pn hk x.toNatClampNeg (ho, lh, ls, lw, lt, bn, cs)))) 0)), .int (C_mi (H_cs (s_selO (s_in x 1 200) (ho + x.toNatClampNeg) ((ho, lh, ls, lw, lt, bn, cs)) ((ho, lh, ls, lw, lt, bn, cs)) ((s_advs fl ai rn rf rt wi qu sh fn pn hk x.toNatClampNeg (ho, lh, ls, lw, lt, bn, cs)))) 0)), .int (C_am (H_cs (s_selO (s_in x 1 200) (ho + x.toNatClampNeg) ((ho, lh, ls, lw, lt, bn, cs)) ((ho, lh, ls, lw, lt, bn, cs)) ((s_advs fl ai rn rf rt wi qu sh fn pn hk x.toNatClampNeg (ho, lh, ls, lw, lt, bn, cs)))) 0)), .int (C_mb (H_cs (s_selO (s_in x 1 200) (ho + x.toNatClampNeg) ((ho, lh, ls, lw, lt, bn, cs)) ((ho, lh, ls, lw, lt, bn, cs)) ((s_advs fl ai rn rf rt wi qu sh fn pn hk x.toNatClampNeg (ho, lh, ls, lw, lt, bn, cs)))) 0))])), (ad 0 1, .inl (G.2.1, 6, .inl (C_ca (H_cs (s_selO (s_in x 1 200) (ho + x.toNatClampNeg) ((ho, lh, ls, lw, lt, bn, cs)) ((ho, lh, ls, lw, lt, bn, cs)) ((s_advs fl ai rn rf rt wi qu sh fn pn hk x.toNatClampNeg (ho, lh, ls, lw, lt, bn, cs)))) 0)))), (ad 0 2, .inl (G.2.1, 6, .inl (C_tk (H_cs (s_selO (s_in x 1 200) (ho + x.toNatClampNeg) ((ho, lh, ls, lw, lt, bn, cs)) ((ho, lh, ls, lw, lt, bn, cs)) ((s_advs fl ai rn rf rt wi qu sh fn pn hk x.toNatClampNeg (ho, lh, ls, lw, lt, bn, cs)))) 0)))), (ad 0 3, .inl (G.2.1, 24, .inl (C_gr (H_cs (s_selO (s_in x 1 200) (ho + x.toNatClampNeg) ((ho, lh, ls, lw, lt, bn, cs)) ((ho, lh, ls, lw, lt, bn, cs)) ((s_advs fl ai rn rf rt wi qu sh fn pn hk x.toNatClampNeg (ho, lh, ls, lw, lt, bn, cs)))) 0)))), (ad 0 4, .inl (G.2.1, 24, .inl (C_go (H_cs (s_selO (s_in x 1 200) (ho + x.toNatClampNeg) ((ho, lh, ls, lw, lt, bn, cs)) ((ho, lh, ls, lw, lt, bn, cs)) ((s_advs fl ai rn rf rt wi qu sh fn pn hk x.toNatClampNeg (ho, lh, ls, lw, lt, bn, cs)))) 0)))), (ad 0 5, .inl (G.2.1, 24, .inl (C_we (H_cs (s_selO (s_in x 1 200) (ho + x.toNatClampNeg) ((ho, lh, ls, lw, lt, bn, cs)) ((ho, lh, ls, lw, lt, bn, cs)) ((s_advs fl ai rn rf rt wi qu sh fn pn hk x.toNatClampNeg (ho, lh, ls, lw, lt, bn, cs)))) 0)))), (ad 0 6, .inl (G.2.1, 24, .inl (C_dr (H_cs (s_selO (s_in x 1 200) (ho + x.toNatClampNeg) ((ho, lh, ls, lw, lt, bn, cs)) ((ho, lh, ls, lw, lt, bn, cs)) ((s_advs fl ai rn rf rt wi qu sh fn pn hk x.toNatClampNeg (ho, lh, ls, lw, lt, bn, cs)))) 0)))), (ad 0 7, .inl (G.2.1, 24, .inl (C_ea (H_cs (s_selO (s_in x 1 200) (ho + x.toNatClampNeg) ((ho, lh, ls, lw, lt, bn, cs)) ((ho, lh, ls, lw, lt, bn, cs)) ((s_advs fl ai rn rf rt wi qu sh fn pn hk x.toNatClampNeg (ho, lh, ls, lw, lt, bn, cs)))) 0)))), (ad 1 0, .inr (0, [.ref o0, .int (nvF 1), .ref (ad 1 1), .ref (ad 1 2), .ref (ad 1 3), .ref (ad 1 4), .ref (ad 1 5), .ref (ad 1 6), .ref (ad 1 7), .int (C_br (H_cs (s_selO (s_in x 1 200) (ho + x.toNatClampNeg) ((ho, lh, ls, lw, lt, bn, cs)) ((ho, lh, ls, lw, lt, bn, cs)) ((s_advs fl ai rn rf rt wi qu sh fn pn hk x.toNatClampNeg (ho, lh, ls, lw, lt, bn, cs)))) 1)), .int (C_du (H_cs (s_selO (s_in x 1 200) (ho + x.toNatClampNeg) ((ho, lh, ls, lw, lt, bn, cs)) ((ho, lh, ls, lw, lt, bn, cs)) ((s_advs fl ai rn rf rt wi qu sh fn pn hk x.toNatClampNeg (ho, lh, ls, lw, lt, bn, cs)))) 1)), .int (C_mi (H_cs (s_selO (s_in x 1 200) (ho + x.toNatClampNeg) ((ho, lh, ls, lw, lt, bn, cs)) ((ho, lh, ls, lw, lt, bn, cs)) ((s_advs fl ai rn rf rt wi qu sh fn pn hk x.toNatClampNeg (ho, lh, ls, lw, lt, bn, cs)))) 1)), .int (C_am (H_cs (s_selO (s_in x 1 200) (ho + x.toNatClampNeg) ((ho, lh, ls, lw, lt, bn, cs)) ((ho, lh, ls, lw, lt, bn, cs)) ((s_advs fl ai rn rf rt wi qu sh fn pn hk x.toNatClampNeg (ho, lh, ls, lw, lt, bn, cs)))) 1)), .int (C_mb (H_cs (s_selO (s_in x 1 200) (ho + x.toNatClampNeg) ((ho, lh, ls, lw, lt, bn, cs)) ((ho, lh, ls, lw, lt, bn, cs)) ((s_advs fl ai rn rf rt wi qu sh fn pn hk x.toNatClampNeg (ho, lh, ls, lw, lt, bn, cs)))) 1))])), (ad 1 1, .inl (G.2.1, 6, .inl (C_ca (H_cs (s_selO (s_in x 1 200) (ho + x.toNatClampNeg) ((ho, lh, ls, lw, lt, bn, cs)) ((ho, lh, ls, lw, lt, bn, cs)) ((s_advs fl ai rn rf rt wi qu sh fn pn hk x.toNatClampNeg (ho, lh, ls, lw, lt, bn, cs)))) 1)))), (ad 1 2, .inl (G.2.1, 6, .inl (C_tk (H_cs (s_selO (s_in x 1 200) (ho + x.toNatClampNeg) ((ho, lh, ls, lw, lt, bn, cs)) ((ho, lh, ls, lw, lt, bn, cs)) ((s_advs fl ai rn rf rt wi qu sh fn pn hk x.toNatClampNeg (ho, lh, ls, lw, lt, bn, cs)))) 1)))), (ad 1 3, .inl (G.2.1, 24, .inl (C_gr (H_cs (s_selO (s_in x 1 200) (ho + x.toNatClampNeg) ((ho, lh, ls, lw, lt, bn, cs)) ((ho, lh, ls, lw, lt, bn, cs)) ((s_advs fl ai rn rf rt wi qu sh fn pn hk x.toNatClampNeg (ho, lh, ls, lw, lt, bn, cs)))) 1)))), (ad 1 4, .inl (G.2.1, 24, .inl (C_go (H_cs (s_selO (s_in x 1 200) (ho + x.toNatClampNeg) ((ho, lh, ls, lw, lt, bn, cs)) ((ho, lh, ls, lw, lt, bn, cs)) ((s_advs fl ai rn rf rt wi qu sh fn pn hk x.toNatClampNeg (ho, lh, ls, lw, lt, bn, cs)))) 1)))), (ad 1 5, .inl (G.2.1, 24, .inl (C_we (H_cs (s_selO (s_in x 1 200) (ho + x.toNatClampNeg) ((ho, lh, ls, lw, lt, bn, cs)) ((ho, lh, ls, lw, lt, bn, cs)) ((s_advs fl ai rn rf rt wi qu sh fn pn hk x.toNatClampNeg (ho, lh, ls, lw, lt, bn, cs)))) 1)))), (ad 1 6, .inl (G.2.1, 24, .inl (C_dr (H_cs (s_selO (s_in x 1 200) (ho + x.toNatClampNeg) ((ho, lh, ls, lw, lt, bn, cs)) ((ho, lh, ls, lw, lt, bn, cs)) ((s_advs fl ai rn rf rt wi qu sh fn pn hk x.toNatClampNeg (ho, lh, ls, lw, lt, bn, cs)))) 1)))), (ad 1 7, .inl (G.2.1, 24, .inl (C_ea (H_cs (s_selO (s_in x 1 200) (ho + x.toNatClampNeg) ((ho, lh, ls, lw, lt, bn, cs)) ((ho, lh, ls, lw, lt, bn, cs)) ((s_advs fl ai rn rf rt wi qu sh fn pn hk x.toNatClampNeg (ho, lh, ls, lw, lt, bn, cs)))) 1)))), (ad 2 0, .inr (0, [.ref o0, .int (nvF 2), .ref (ad 2 1), .ref (ad 2 2), .ref (ad 2 3), .ref (ad 2 4), .ref (ad 2 5), .ref (ad 2 6), .ref (ad 2 7), .int (C_br (H_cs (s_selO (s_in x 1 200) (ho + x.toNatClampNeg) ((ho, lh, ls, lw, lt, bn, cs)) ((ho, lh, ls, lw, lt, bn, cs)) ((s_advs fl ai rn rf rt wi qu sh fn pn hk x.toNatClampNeg (ho, lh, ls, lw, lt, bn, cs)))) 2)), .int (C_du (H_cs (s_selO (s_in x 1 200) (ho + x.toNatClampNeg) ((ho, lh, ls, lw, lt, bn, cs)) ((ho, lh, ls, lw, lt, bn, cs)) ((s_advs fl ai rn rf rt wi qu sh fn pn hk x.toNatClampNeg (ho, lh, ls, lw, lt, bn, cs)))) 2)), .int (C_mi (H_cs (s_selO (s_in x 1 200) (ho + x.toNatClampNeg) ((ho, lh, ls, lw, lt, bn, cs)) ((ho, lh, ls, lw, lt, bn, cs)) ((s_advs fl ai rn rf rt wi qu sh fn pn hk x.toNatClampNeg (ho, lh, ls, lw, lt, bn, cs)))) 2)), .int (C_am (H_cs (s_selO (s_in x 1 200) (ho + x.toNatClampNeg) ((ho, lh, ls, lw, lt, bn, cs)) ((ho, lh, ls, lw, lt, bn, cs)) ((s_advs fl ai rn rf rt wi qu sh fn pn hk x.toNatClampNeg (ho, lh, ls, lw, lt, bn, cs)))) 2)), .int (C_mb (H_cs (s_selO (s_in x 1 200) (ho + x.toNatClampNeg) ((ho, lh, ls, lw, lt, bn, cs)) ((ho, lh, ls, lw, lt, bn, cs)) ((s_advs fl ai rn rf rt wi qu sh fn pn hk x.toNatClampNeg (ho, lh, ls, lw, lt, bn, cs)))) 2))])), (ad 2 1, .inl (G.2.1, 6, .inl (C_ca (H_cs (s_selO (s_in x 1 200) (ho + x.toNatClampNeg) ((ho, lh, ls, lw, lt, bn, cs)) ((ho, lh, ls, lw, lt, bn, cs)) ((s_advs fl ai rn rf rt wi qu sh fn pn hk x.toNatClampNeg (ho, lh, ls, lw, lt, bn, cs)))) 2)))), (ad 2 2, .inl (G.2.1, 6, .inl (C_tk (H_cs (s_selO (s_in x 1 200) (ho + x.toNatClampNeg) ((ho, lh, ls, lw, lt, bn, cs)) ((ho, lh, ls, lw, lt, bn, cs)) ((s_advs fl ai rn rf rt wi qu sh fn pn hk x.toNatClampNeg (ho, lh, ls, lw, lt, bn, cs)))) 2)))), (ad 2 3, .inl (G.2.1, 24, .inl (C_gr (H_cs (s_selO (s_in x 1 200) (ho + x.toNatClampNeg) ((ho, lh, ls, lw, lt, bn, cs)) ((ho, lh, ls, lw, lt, bn, cs)) ((s_advs fl ai rn rf rt wi qu sh fn pn hk x.toNatClampNeg (ho, lh, ls, lw, lt, bn, cs)))) 2)))), (ad 2 4, .inl (G.2.1, 24, .inl (C_go (H_cs (s_selO (s_in x 1 200) (ho + x.toNatClampNeg) ((ho, lh, ls, lw, lt, bn, cs)) ((ho, lh, ls, lw, lt, bn, cs)) ((s_advs fl ai rn rf rt wi qu sh fn pn hk x.toNatClampNeg (ho, lh, ls, lw, lt, bn, cs)))) 2)))), (ad 2 5, .inl (G.2.1, 24, .inl (C_we (H_cs (s_selO (s_in x 1 200) (ho + x.toNatClampNeg) ((ho, lh, ls, lw, lt, bn, cs)) ((ho, lh, ls, lw, lt, bn, cs)) ((s_advs fl ai rn rf rt wi qu sh fn pn hk x.toNatClampNeg (ho, lh, ls, lw, lt, bn, cs)))) 2)))), (ad 2 6, .inl (G.2.1, 24, .inl (C_dr (H_cs (s_selO (s_in x 1 200) (ho + x.toNatClampNeg) ((ho, lh, ls, lw, lt, bn, cs)) ((ho, lh, ls, lw, lt, bn, cs)) ((s_advs fl ai rn rf rt wi qu sh fn pn hk x.toNatClampNeg (ho, lh, ls, lw, lt, bn, cs)))) 2)))), (ad 2 7, .inl (G.2.1, 24, .inl (C_ea (H_cs (s_selO (s_in x 1 200) (ho + x.toNatClampNeg) ((ho, lh, ls, lw, lt, bn, cs)) ((ho, lh, ls, lw, lt, bn, cs)) ((s_advs fl ai rn rf rt wi qu sh fn pn hk x.toNatClampNeg (ho, lh, ls, lw, lt, bn, cs)))) 2)))), (ad 3 0, .inr (0, [.ref o0, .int (nvF 3), .ref (ad 3 1), .ref (ad 3 2), .ref (ad 3 3), .ref (ad 3 4), .ref (ad 3 5), .ref (ad 3 6), .ref (ad 3 7), .int (C_br (H_cs (s_selO (s_in x 1 200) (ho + x.toNatClampNeg) ((ho, lh, ls, lw, lt, bn, cs)) ((ho, lh, ls, lw, lt, bn, cs)) ((s_advs fl ai rn rf rt wi qu sh fn pn hk x.toNatClampNeg (ho, lh, ls, lw, lt, bn, cs)))) 3)), .int (C_du (H_cs (s_selO (s_in x 1 200) (ho + x.toNatClampNeg) ((ho, lh, ls, lw, lt, bn, cs)) ((ho, lh, ls, lw, lt, bn, cs)) ((s_advs fl ai rn rf rt wi qu sh fn pn hk x.toNatClampNeg (ho, lh, ls, lw, lt, bn, cs)))) 3)), .int (C_mi (H_cs (s_selO (s_in x 1 200) (ho + x.toNatClampNeg) ((ho, lh, ls, lw, lt, bn, cs)) ((ho, lh, ls, lw, lt, bn, cs)) ((s_advs fl ai rn rf rt wi qu sh fn pn hk x.toNatClampNeg (ho, lh, ls, lw, lt, bn, cs)))) 3)), .int (C_am (H_cs (s_selO (s_in x 1 200) (ho + x.toNatClampNeg) ((ho, lh, ls, lw, lt, bn, cs)) ((ho, lh, ls, lw, lt, bn, cs)) ((s_advs fl ai rn rf rt wi qu sh fn pn hk x.toNatClampNeg (ho, lh, ls, lw, lt, bn, cs)))) 3)), .int (C_mb (H_cs (s_selO (s_in x 1 200) (ho + x.toNatClampNeg) ((ho, lh, ls, lw, lt, bn, cs)) ((ho, lh, ls, lw, lt, bn, cs)) ((s_advs fl ai rn rf rt wi qu sh fn pn hk x.toNatClampNeg (ho, lh, ls, lw, lt, bn, cs)))) 3))])), (ad 3 1, .inl (G.2.1, 6, .inl (C_ca (H_cs (s_selO (s_in x 1 200) (ho + x.toNatClampNeg) ((ho, lh, ls, lw, lt, bn, cs)) ((ho, lh, ls, lw, lt, bn, cs)) ((s_advs fl ai rn rf rt wi qu sh fn pn hk x.toNatClampNeg (ho, lh, ls, lw, lt, bn, cs)))) 3)))), (ad 3 2, .inl (G.2.1, 6, .inl (C_tk (H_cs (s_selO (s_in x 1 200) (ho + x.toNatClampNeg) ((ho, lh, ls, lw, lt, bn, cs)) ((ho, lh, ls, lw, lt, bn, cs)) ((s_advs fl ai rn rf rt wi qu sh fn pn hk x.toNatClampNeg (ho, lh, ls, lw, lt, bn, cs)))) 3)))), (ad 3 3, .inl (G.2.1, 24, .inl (C_gr (H_cs (s_selO (s_in x 1 200) (ho + x.toNatClampNeg) ((ho, lh, ls, lw, lt, bn, cs)) ((ho, lh, ls, lw, lt, bn, cs)) ((s_advs fl ai rn rf rt wi qu sh fn pn hk x.toNatClampNeg (ho, lh, ls, lw, lt, bn, cs)))) 3)))), (ad 3 4, .inl (G.2.1, 24, .inl (C_go (H_cs (s_selO (s_in x 1 200) (ho + x.toNatClampNeg) ((ho, lh, ls, lw, lt, bn, cs)) ((ho, lh, ls, lw, lt, bn, cs)) ((s_advs fl ai rn rf rt wi qu sh fn pn hk x.toNatClampNeg (ho, lh, ls, lw, lt, bn, cs)))) 3)))), (ad 3 5, .inl (G.2.1, 24, .inl (C_we (H_cs (s_selO (s_in x 1 200) (ho + x.toNatClampNeg) ((ho, lh, ls, lw, lt, bn, cs)) ((ho, lh, ls, lw, lt, bn, cs)) ((s_advs fl ai rn rf rt wi qu sh fn pn hk x.toNatClampNeg (ho, lh, ls, lw, lt, bn, cs)))) 3)))), (ad 3 6, .inl (G.2.1, 24, .inl (C_dr (H_cs (s_selO (s_in x 1 200) (ho + x.toNatClampNeg) ((ho, lh, ls, lw, lt, bn, cs)) ((ho, lh, ls, lw, lt, bn, cs)) ((s_advs fl ai rn rf rt wi qu sh fn pn hk x.toNatClampNeg (ho, lh, ls, lw, lt, bn, cs)))) 3)))), (ad 3 7, .inl (G.2.1, 24, .inl (C_ea (H_cs (s_selO (s_in x 1 200) (ho + x.toNatClampNeg) ((ho, lh, ls, lw, lt, bn, cs)) ((ho, lh, ls, lw, lt, bn, cs)) ((s_advs fl ai rn rf rt wi qu sh fn pn hk x.toNatClampNeg (ho, lh, ls, lw, lt, bn, cs)))) 3)))), (ad 4 0, .inr (0, [.ref o0, .int (nvF 4), .ref (ad 4 1), .ref (ad 4 2), .ref (ad 4 3), .ref (ad 4 4), .ref (ad 4 5), .ref (ad 4 6), .ref (ad 4 7), .int (C_br (H_cs (s_selO (s_in x 1 200) (ho + x.toNatClampNeg) ((ho, lh, ls, lw, lt, bn, cs)) ((ho, lh, ls, lw, lt, bn, cs)) ((s_advs fl ai rn rf rt wi qu sh fn pn hk x.toNatClampNeg (ho, lh, ls, lw, lt, bn, cs)))) 4)), .int (C_du (H_cs (s_selO (s_in x 1 200) (ho + x.toNatClampNeg) ((ho, lh, ls, lw, lt, bn, cs)) ((ho, lh, ls, lw, lt, bn, cs)) ((s_advs fl ai rn rf rt wi qu sh fn pn hk x.toNatClampNeg (ho, lh, ls, lw, lt, bn, cs)))) 4)), .int (C_mi (H_cs (s_selO (s_in x 1 200) (ho + x.toNatClampNeg) ((ho, lh, ls, lw, lt, bn, cs)) ((ho, lh, ls, lw, lt, bn, cs)) ((s_advs fl ai rn rf rt wi qu sh fn pn hk x.toNatClampNeg (ho, lh, ls, lw, lt, bn, cs)))) 4)), .int (C_am (H_cs (s_selO (s_in x 1 200) (ho + x.toNatClampNeg) ((ho, lh, ls, lw, lt, bn, cs)) ((ho, lh, ls, lw, lt, bn, cs)) ((s_advs fl ai rn rf rt wi qu sh fn pn hk x.toNatClampNeg (ho, lh, ls, lw, lt, bn, cs)))) 4)), .int (C_mb (H_cs (s_selO (s_in x 1 200) (ho + x.toNatClampNeg) ((ho, lh, ls, lw, lt, bn, cs)) ((ho, lh, ls, lw, lt, bn, cs)) ((s_advs fl ai rn rf rt wi qu sh fn pn hk x.toNatClampNeg (ho, lh, ls, lw, lt, bn, cs)))) 4))])), (ad 4 1, .inl (G.2.1, 6, .inl (C_ca (H_cs (s_selO (s_in x 1 200) (ho + x.toNatClampNeg) ((ho, lh, ls, lw, lt, bn, cs)) ((ho, lh, ls, lw, lt, bn, cs)) ((s_advs fl ai rn rf rt wi qu sh fn pn hk x.toNatClampNeg (ho, lh, ls, lw, lt, bn, cs)))) 4)))), (ad 4 2, .inl (G.2.1, 6, .inl (C_tk (H_cs (s_selO (s_in x 1 200) (ho + x.toNatClampNeg) ((ho, lh, ls, lw, lt, bn, cs)) ((ho, lh, ls, lw, lt, bn, cs)) ((s_advs fl ai rn rf rt wi qu sh fn pn hk x.toNatClampNeg (ho, lh, ls, lw, lt, bn, cs)))) 4)))), (ad 4 3, .inl (G.2.1, 24, .inl (C_gr (H_cs (s_selO (s_in x 1 200) (ho + x.toNatClampNeg) ((ho, lh, ls, lw, lt, bn, cs)) ((ho, lh, ls, lw, lt, bn, cs)) ((s_advs fl ai rn rf rt wi qu sh fn pn hk x.toNatClampNeg (ho, lh, ls, lw, lt, bn, cs)))) 4)))), (ad 4 4, .inl (G.2.1, 24, .inl (C_go (H_cs (s_selO (s_in x 1 200) (ho + x.toNatClampNeg) ((ho, lh, ls, lw, lt, bn, cs)) ((ho, lh, ls, lw, lt, bn, cs)) ((s_advs fl ai rn rf rt wi qu sh fn pn hk x.toNatClampNeg (ho, lh, ls, lw, lt, bn, cs)))) 4)))), (ad 4 5, .inl (G.2.1, 24, .inl (C_we (H_cs (s_selO (s_in x 1 200) (ho + x.toNatClampNeg) ((ho, lh, ls, lw, lt, bn, cs)) ((ho, lh, ls, lw, lt, bn, cs)) ((s_advs fl ai rn rf rt wi qu sh fn pn hk x.toNatClampNeg (ho, lh, ls, lw, lt, bn, cs)))) 4)))), (ad 4 6, .inl (G.2.1, 24, .inl (C_dr (H_cs (s_selO (s_in x 1 200) (ho + x.toNatClampNeg) ((ho, lh, ls, lw, lt, bn, cs)) ((ho, lh, ls, lw, lt, bn, cs)) ((s_advs fl ai rn rf rt wi qu sh fn pn hk x.toNatClampNeg (ho, lh, ls, lw, lt, bn, cs)))) 4)))), (ad 4 7, .inl (G.2.1, 24, .inl (C_ea (H_cs (s_selO (s_in x 1 200) (ho + x.toNatClampNeg) ((ho, lh, ls, lw, lt, bn, cs)) ((ho, lh, ls, lw, lt, bn, cs)) ((s_advs fl ai rn rf rt wi qu sh fn pn hk x.toNatClampNeg (ho, lh, ls, lw, lt, bn, cs)))) 4)))), (ad 5 0, .inr (0, [.ref o0, .int (nvF 5), .ref (ad 5 1), .ref (ad 5 2), .ref (ad 5 3), .ref (ad 5 4), .ref (ad 5 5), .ref (ad 5 6), .ref (ad 5 7), .int (C_br (H_cs (s_selO (s_in x 1 200) (ho + x.toNatClampNeg) ((ho, lh, ls, lw, lt, bn, cs)) ((ho, lh, ls, lw, lt, bn, cs)) ((s_advs fl ai rn rf rt wi qu sh fn pn hk x.toNatClampNeg (ho, lh, ls, lw, lt, bn, cs)))) 5)), .int (C_du (H_cs (s_selO (s_in x 1 200) (ho + x.toNatClampNeg) ((ho, lh, ls, lw, lt, bn, cs)) ((ho, lh, ls, lw, lt, bn, cs)) ((s_advs fl ai rn rf rt wi qu sh fn pn hk x.toNatClampNeg (ho, lh, ls, lw, lt, bn, cs)))) 5)), .int (C_mi (H_cs (s_selO (s_in x 1 200) (ho + x.toNatClampNeg) ((ho, lh, ls, lw, lt, bn, cs)) ((ho, lh, ls, lw, lt, bn, cs)) ((s_advs fl ai rn rf rt wi qu sh fn pn hk x.toNatClampNeg (ho, lh, ls, lw, lt, bn, cs)))) 5)), .int (C_am (H_cs (s_selO (s_in x 1 200) (ho + x.toNatClampNeg) ((ho, lh, ls, lw, lt, bn, cs)) ((ho, lh, ls, lw, lt, bn, cs)) ((s_advs fl ai rn rf rt wi qu sh fn pn hk x.toNatClampNeg (ho, lh, ls, lw, lt, bn, cs)))) 5)), .int (C_mb (H_cs (s_selO (s_in x 1 200) (ho + x.toNatClampNeg) ((ho, lh, ls, lw, lt, bn, cs)) ((ho, lh, ls, lw, lt, bn, cs)) ((s_advs fl ai rn rf rt wi qu sh fn pn hk x.toNatClampNeg (ho, lh, ls, lw, lt, bn, cs)))) 5))])), (ad 5 1, .inl (G.2.1, 6, .inl (C_ca (H_cs (s_selO (s_in x 1 200) (ho + x.toNatClampNeg) ((ho, lh, ls, lw, lt, bn, cs)) ((ho, lh, ls, lw, lt, bn, cs)) ((s_advs fl ai rn rf rt wi qu sh fn pn hk x.toNatClampNeg (ho, lh, ls, lw, lt, bn, cs)))) 5)))), (ad 5 2, .inl (G.2.1, 6, .inl (C_tk (H_cs (s_selO (s_in x 1 200) (ho + x.toNatClampNeg) ((ho, lh, ls, lw, lt, bn, cs)) ((ho, lh, ls, lw, lt, bn, cs)) ((s_advs fl ai rn rf rt wi qu sh fn pn hk x.toNatClampNeg (ho, lh, ls, lw, lt, bn, cs)))) 5)))), (ad 5 3, .inl (G.2.1, 24, .inl (C_gr (H_cs (s_selO (s_in x 1 200) (ho + x.toNatClampNeg) ((ho, lh, ls, lw, lt, bn, cs)) ((ho, lh, ls, lw, lt, bn, cs)) ((s_advs fl ai rn rf rt wi qu sh fn pn hk x.toNatClampNeg (ho, lh, ls, lw, lt, bn, cs)))) 5)))), (ad 5 4, .inl (G.2.1, 24, .inl (C_go (H_cs (s_selO (s_in x 1 200) (ho + x.toNatClampNeg) ((ho, lh, ls, lw, lt, bn, cs)) ((ho, lh, ls, lw, lt, bn, cs)) ((s_advs fl ai rn rf rt wi qu sh fn pn hk x.toNatClampNeg (ho, lh, ls, lw, lt, bn, cs)))) 5)))), (ad 5 5, .inl (G.2.1, 24, .inl (C_we (H_cs (s_selO (s_in x 1 200) (ho + x.toNatClampNeg) ((ho, lh, ls, lw, lt, bn, cs)) ((ho, lh, ls, lw, lt, bn, cs)) ((s_advs fl ai rn rf rt wi qu sh fn pn hk x.toNatClampNeg (ho, lh, ls, lw, lt, bn, cs)))) 5)))), (ad 5 6, .inl (G.2.1, 24, .inl (C_dr (H_cs (s_selO (s_in x 1 200) (ho + x.toNatClampNeg) ((ho, lh, ls, lw, lt, bn, cs)) ((ho, lh, ls, lw, lt, bn, cs)) ((s_advs fl ai rn rf rt wi qu sh fn pn hk x.toNatClampNeg (ho, lh, ls, lw, lt, bn, cs)))) 5)))), (ad 5 7, .inl (G.2.1, 24, .inl (C_ea (H_cs (s_selO (s_in x 1 200) (ho + x.toNatClampNeg) ((ho, lh, ls, lw, lt, bn, cs)) ((ho, lh, ls, lw, lt, bn, cs)) ((s_advs fl ai rn rf rt wi qu sh fn pn hk x.toNatClampNeg (ho, lh, ls, lw, lt, bn, cs)))) 5)))), (ad 6 0, .inr (0, [.ref o0, .int (nvF 6), .ref (ad 6 1), .ref (ad 6 2), .ref (ad 6 3), .ref (ad 6 4), .ref (ad 6 5), .ref (ad 6 6), .ref (ad 6 7), .int (C_br (H_cs (s_selO (s_in x 1 200) (ho + x.toNatClampNeg) ((ho, lh, ls, lw, lt, bn, cs)) ((ho, lh, ls, lw, lt, bn, cs)) ((s_advs fl ai rn rf rt wi qu sh fn pn hk x.toNatClampNeg (ho, lh, ls, lw, lt, bn, cs)))) 6)), .int (C_du (H_cs (s_selO (s_in x 1 200) (ho + x.toNatClampNeg) ((ho, lh, ls, lw, lt, bn, cs)) ((ho, lh, ls, lw, lt, bn, cs)) ((s_advs fl ai rn rf rt wi qu sh fn pn hk x.toNatClampNeg (ho, lh, ls, lw, lt, bn, cs)))) 6)), .int (C_mi (H_cs (s_selO (s_in x 1 200) (ho + x.toNatClampNeg) ((ho, lh, ls, lw, lt, bn, cs)) ((ho, lh, ls, lw, lt, bn, cs)) ((s_advs fl ai rn rf rt wi qu sh fn pn hk x.toNatClampNeg (ho, lh, ls, lw, lt, bn, cs)))) 6)), .int (C_am (H_cs (s_selO (s_in x 1 200) (ho + x.toNatClampNeg) ((ho, lh, ls, lw, lt, bn, cs)) ((ho, lh, ls, lw, lt, bn, cs)) ((s_advs fl ai rn rf rt wi qu sh fn pn hk x.toNatClampNeg (ho, lh, ls, lw, lt, bn, cs)))) 6)), .int (C_mb (H_cs (s_selO (s_in x 1 200) (ho + x.toNatClampNeg) ((ho, lh, ls, lw, lt, bn, cs)) ((ho, lh, ls, lw, lt, bn, cs)) ((s_advs fl ai rn rf rt wi qu sh fn pn hk x.toNatClampNeg (ho, lh, ls, lw, lt, bn, cs)))) 6))])), (ad 6 1, .inl (G.2.1, 6, .inl (C_ca (H_cs (s_selO (s_in x 1 200) (ho + x.toNatClampNeg) ((ho, lh, ls, lw, lt, bn, cs)) ((ho, lh, ls, lw, lt, bn, cs)) ((s_advs fl ai rn rf rt wi qu sh fn pn hk x.toNatClampNeg (ho, lh, ls, lw, lt, bn, cs)))) 6)))), (ad 6 2, .inl (G.2.1, 6, .inl (C_tk (H_cs (s_selO (s_in x 1 200) (ho + x.toNatClampNeg) ((ho, lh, ls, lw, lt, bn, cs)) ((ho, lh, ls, lw, lt, bn, cs)) ((s_advs fl ai rn rf rt wi qu sh fn pn hk x.toNatClampNeg (ho, lh, ls, lw, lt, bn, cs)))) 6)))), (ad 6 3, .inl (G.2.1, 24, .inl (C_gr (H_cs (s_selO (s_in x 1 200) (ho + x.toNatClampNeg) ((ho, lh, ls, lw, lt, bn, cs)) ((ho, lh, ls, lw, lt, bn, cs)) ((s_advs fl ai rn rf rt wi qu sh fn pn hk x.toNatClampNeg (ho, lh, ls, lw, lt, bn, cs)))) 6)))), (ad 6 4, .inl (G.2.1, 24, .inl (C_go (H_cs (s_selO (s_in x 1 200) (ho + x.toNatClampNeg) ((ho, lh, ls, lw, lt, bn, cs)) ((ho, lh, ls, lw, lt, bn, cs)) ((s_advs fl ai rn rf rt wi qu sh fn pn hk x.toNatClampNeg (ho, lh, ls, lw, lt, bn, cs)))) 6)))), (ad 6 5, .inl (G.2.1, 24, .inl (C_we (H_cs (s_selO (s_in x 1 200) (ho + x.toNatClampNeg) ((ho, lh, ls, lw, lt, bn, cs)) ((ho, lh, ls, lw, lt, bn, cs)) ((s_advs fl ai rn rf rt wi qu sh fn pn hk x.toNatClampNeg (ho, lh, ls, lw, lt, bn, cs)))) 6)))), (ad 6 6, .inl (G.2.1, 24, .inl (C_dr (H_cs (s_selO (s_in x 1 200) (ho + x.toNatClampNeg) ((ho, lh, ls, lw, lt, bn, cs)) ((ho, lh, ls, lw, lt, bn, cs)) ((s_advs fl ai rn rf rt wi qu sh fn pn hk x.toNatClampNeg (ho, lh, ls, lw, lt, bn, cs)))) 6)))), (ad 6 7, .inl (G.2.1, 24, .inl (C_ea (H_cs (s_selO (s_in x 1 200) (ho + x.toNatClampNeg) ((ho, lh, ls, lw, lt, bn, cs)) ((ho, lh, ls, lw, lt, bn, cs)) ((s_advs fl ai rn rf rt wi qu sh fn pn hk x.toNatClampNeg (ho, lh, ls, lw, lt, bn, cs)))) 6))))]) #[.ref x0, .int x] s 0 0 (v_in [(x0, .inr (3, [.ref o0, .ref g0, .ref (ad 0 0), .ref sA, .int (nI ho), .int (nI de)])), (o0, .inr (2, [.ref oFa, .ref oWi, .ref oPa, .ref oQu, .ref oSh, .int (nI hk), .int fl, .int ai, .int rn, .int rf, .int rt])), (oFa, .inl (G.2.1, 6, .inl (pN fn))), (oWi, .inl (G.2.1, 6, .inl wi)), (oPa, .inl (G.2.1, 6, .inl (pN pn))), (oQu, .inl (G.2.1, 6, .inl qu)), (oSh, .inl (G.2.1, 24, .inl sh)), (g0, .inr (1, [.ref lH, .ref lS, .ref lW, .ref lT, .int (nI (min bn 60)), .int (nI bn)])), (lH, .inl (G.2.1, 60, .inl lh)), (lS, .inl (G.2.1, 60, .inl ls)), (lW, .inl (G.2.1, 60, .inl lw)), (lT, .inl (G.2.1, 4, .inl lt)), (sA, .inl (G.2.2, 6, .inr (.inr (.inr (.inr (fun i => some (ad (i + 1) 0))))))), (ad 0 0, .inr (0, [.ref o0, .int (nvF 0), .ref (ad 0 1), .ref (ad 0 2), .ref (ad 0 3), .ref (ad 0 4), .ref (ad 0 5), .ref (ad 0 6), .ref (ad 0 7), .int (C_br (cs 0)), .int (C_du (cs 0)), .int (C_mi (cs 0)), .int (C_am (cs 0)), .int (C_mb (cs 0))])), (ad 0 1, .inl (G.2.1, 6, .inl (C_ca (cs 0)))), (ad 0 2, .inl (G.2.1, 6, .inl (C_tk (cs 0)))), (ad 0 3, .inl (G.2.1, 24, .inl (C_gr (cs 0)))), (ad 0 4, .inl (G.2.1, 24, .inl (C_go (cs 0)))), (ad 0 5, .inl (G.2.1, 24, .inl (C_we (cs 0)))), (ad 0 6, .inl (G.2.1, 24, .inl (C_dr (cs 0)))), (ad 0 7, .inl (G.2.1, 24, .inl (C_ea (cs 0)))), (ad 1 0, .inr (0, [.ref o0, .int (nvF 1), .ref (ad 1 1), .ref (ad 1 2), .ref (ad 1 3), .ref (ad 1 4), .ref (ad 1 5), .ref (ad 1 6), .ref (ad 1 7), .int (C_br (cs 1)), .int (C_du (cs 1)), .int (C_mi (cs 1)), .int (C_am (cs 1)), .int (C_mb (cs 1))])), (ad 1 1, .inl (G.2.1, 6, .inl (C_ca (cs 1)))), (ad 1 2, .inl (G.2.1, 6, .inl (C_tk (cs 1)))), (ad 1 3, .inl (G.2.1, 24, .inl (C_gr (cs 1)))), (ad 1 4, .inl (G.2.1, 24, .inl (C_go (cs 1)))), (ad 1 5, .inl (G.2.1, 24, .inl (C_we (cs 1)))), (ad 1 6, .inl (G.2.1, 24, .inl (C_dr (cs 1)))), (ad 1 7, .inl (G.2.1, 24, .inl (C_ea (cs 1)))), (ad 2 0, .inr (0, [.ref o0, .int (nvF 2), .ref (ad 2 1), .ref (ad 2 2), .ref (ad 2 3), .ref (ad 2 4), .ref (ad 2 5), .ref (ad 2 6), .ref (ad 2 7), .int (C_br (cs 2)), .int (C_du (cs 2)), .int (C_mi (cs 2)), .int (C_am (cs 2)), .int (C_mb (cs 2))])), (ad 2 1, .inl (G.2.1, 6, .inl (C_ca (cs 2)))), (ad 2 2, .inl (G.2.1, 6, .inl (C_tk (cs 2)))), (ad 2 3, .inl (G.2.1, 24, .inl (C_gr (cs 2)))), (ad 2 4, .inl (G.2.1, 24, .inl (C_go (cs 2)))), (ad 2 5, .inl (G.2.1, 24, .inl (C_we (cs 2)))), (ad 2 6, .inl (G.2.1, 24, .inl (C_dr (cs 2)))), (ad 2 7, .inl (G.2.1, 24, .inl (C_ea (cs 2)))), (ad 3 0, .inr (0, [.ref o0, .int (nvF 3), .ref (ad 3 1), .ref (ad 3 2), .ref (ad 3 3), .ref (ad 3 4), .ref (ad 3 5), .ref (ad 3 6), .ref (ad 3 7), .int (C_br (cs 3)), .int (C_du (cs 3)), .int (C_mi (cs 3)), .int (C_am (cs 3)), .int (C_mb (cs 3))])), (ad 3 1, .inl (G.2.1, 6, .inl (C_ca (cs 3)))), (ad 3 2, .inl (G.2.1, 6, .inl (C_tk (cs 3)))), (ad 3 3, .inl (G.2.1, 24, .inl (C_gr (cs 3)))), (ad 3 4, .inl (G.2.1, 24, .inl (C_go (cs 3)))), (ad 3 5, .inl (G.2.1, 24, .inl (C_we (cs 3)))), (ad 3 6, .inl (G.2.1, 24, .inl (C_dr (cs 3)))), (ad 3 7, .inl (G.2.1, 24, .inl (C_ea (cs 3)))), (ad 4 0, .inr (0, [.ref o0, .int (nvF 4), .ref (ad 4 1), .ref (ad 4 2), .ref (ad 4 3), .ref (ad 4 4), .ref (ad 4 5), .ref (ad 4 6), .ref (ad 4 7), .int (C_br (cs 4)), .int (C_du (cs 4)), .int (C_mi (cs 4)), .int (C_am (cs 4)), .int (C_mb (cs 4))])), (ad 4 1, .inl (G.2.1, 6, .inl (C_ca (cs 4)))), (ad 4 2, .inl (G.2.1, 6, .inl (C_tk (cs 4)))), (ad 4 3, .inl (G.2.1, 24, .inl (C_gr (cs 4)))), (ad 4 4, .inl (G.2.1, 24, .inl (C_go (cs 4)))), (ad 4 5, .inl (G.2.1, 24, .inl (C_we (cs 4)))), (ad 4 6, .inl (G.2.1, 24, .inl (C_dr (cs 4)))), (ad 4 7, .inl (G.2.1, 24, .inl (C_ea (cs 4)))), (ad 5 0, .inr (0, [.ref o0, .int (nvF 5), .ref (ad 5 1), .ref (ad 5 2), .ref (ad 5 3), .ref (ad 5 4), .ref (ad 5 5), .ref (ad 5 6), .ref (ad 5 7), .int (C_br (cs 5)), .int (C_du (cs 5)), .int (C_mi (cs 5)), .int (C_am (cs 5)), .int (C_mb (cs 5))])), (ad 5 1, .inl (G.2.1, 6, .inl (C_ca (cs 5)))), (ad 5 2, .inl (G.2.1, 6, .inl (C_tk (cs 5)))), (ad 5 3, .inl (G.2.1, 24, .inl (C_gr (cs 5)))), (ad 5 4, .inl (G.2.1, 24, .inl (C_go (cs 5)))), (ad 5 5, .inl (G.2.1, 24, .inl (C_we (cs 5)))), (ad 5 6, .inl (G.2.1, 24, .inl (C_dr (cs 5)))), (ad 5 7, .inl (G.2.1, 24, .inl (C_ea (cs 5)))), (ad 6 0, .inr (0, [.ref o0, .int (nvF 6), .ref (ad 6 1), .ref (ad 6 2), .ref (ad 6 3), .ref (ad 6 4), .ref (ad 6 5), .ref (ad 6 6), .ref (ad 6 7), .int (C_br (cs 6)), .int (C_du (cs 6)), .int (C_mi (cs 6)), .int (C_am (cs 6)), .int (C_mb (cs 6))])), (ad 6 1, .inl (G.2.1, 6, .inl (C_ca (cs 6)))), (ad 6 2, .inl (G.2.1, 6, .inl (C_tk (cs 6)))), (ad 6 3, .inl (G.2.1, 24, .inl (C_gr (cs 6)))), (ad 6 4, .inl (G.2.1, 24, .inl (C_go (cs 6)))), (ad 6 5, .inl (G.2.1, 24, .inl (C_we (cs 6)))), (ad 6 6, .inl (G.2.1, 24, .inl (C_dr (cs 6)))), (ad 6 7, .inl (G.2.1, 24, .inl (C_ea (cs 6))))])) G (v_Iw (v_in [(x0, .inr (3, [.ref o0, .ref g0, .ref (ad 0 0), .ref sA, .int (nI ho), .int (nI de)])), (o0, .inr (2, [.ref oFa, .ref oWi, .ref oPa, .ref oQu, .ref oSh, .int (nI hk), .int fl, .int ai, .int rn, .int rf, .int rt])), (oFa, .inl (G.2.1, 6, .inl (pN fn))), (oWi, .inl (G.2.1, 6, .inl wi)), (oPa, .inl (G.2.1, 6, .inl (pN pn))), (oQu, .inl (G.2.1, 6, .inl qu)), (oSh, .inl (G.2.1, 24, .inl sh)), (g0, .inr (1, [.ref lH, .ref lS, .ref lW, .ref lT, .int (nI (min bn 60)), .int (nI bn)])), (lH, .inl (G.2.1, 60, .inl lh)), (lS, .inl (G.2.1, 60, .inl ls)), (lW, .inl (G.2.1, 60, .inl lw)), (lT, .inl (G.2.1, 4, .inl lt)), (sA, .inl (G.2.2, 6, .inr (.inr (.inr (.inr (fun i => some (ad (i + 1) 0))))))), (ad 0 0, .inr (0, [.ref o0, .int (nvF 0), .ref (ad 0 1), .ref (ad 0 2), .ref (ad 0 3), .ref (ad 0 4), .ref (ad 0 5), .ref (ad 0 6), .ref (ad 0 7), .int (C_br (cs 0)), .int (C_du (cs 0)), .int (C_mi (cs 0)), .int (C_am (cs 0)), .int (C_mb (cs 0))])), (ad 0 1, .inl (G.2.1, 6, .inl (C_ca (cs 0)))), (ad 0 2, .inl (G.2.1, 6, .inl (C_tk (cs 0)))), (ad 0 3, .inl (G.2.1, 24, .inl (C_gr (cs 0)))), (ad 0 4, .inl (G.2.1, 24, .inl (C_go (cs 0)))), (ad 0 5, .inl (G.2.1, 24, .inl (C_we (cs 0)))), (ad 0 6, .inl (G.2.1, 24, .inl (C_dr (cs 0)))), (ad 0 7, .inl (G.2.1, 24, .inl (C_ea (cs 0)))), (ad 1 0, .inr (0, [.ref o0, .int (nvF 1), .ref (ad 1 1), .ref (ad 1 2), .ref (ad 1 3), .ref (ad 1 4), .ref (ad 1 5), .ref (ad 1 6), .ref (ad 1 7), .int (C_br (cs 1)), .int (C_du (cs 1)), .int (C_mi (cs 1)), .int (C_am (cs 1)), .int (C_mb (cs 1))])), (ad 1 1, .inl (G.2.1, 6, .inl (C_ca (cs 1)))), (ad 1 2, .inl (G.2.1, 6, .inl (C_tk (cs 1)))), (ad 1 3, .inl (G.2.1, 24, .inl (C_gr (cs 1)))), (ad 1 4, .inl (G.2.1, 24, .inl (C_go (cs 1)))), (ad 1 5, .inl (G.2.1, 24, .inl (C_we (cs 1)))), (ad 1 6, .inl (G.2.1, 24, .inl (C_dr (cs 1)))), (ad 1 7, .inl (G.2.1, 24, .inl (C_ea (cs 1)))), (ad 2 0, .inr (0, [.ref o0, .int (nvF 2), .ref (ad 2 1), .ref (ad 2 2), .ref (ad 2 3), .ref (ad 2 4), .ref (ad 2 5), .ref (ad 2 6), .ref (ad 2 7), .int (C_br (cs 2)), .int (C_du (cs 2)), .int (C_mi (cs 2)), .int (C_am (cs 2)), .int (C_mb (cs 2))])), (ad 2 1, .inl (G.2.1, 6, .inl (C_ca (cs 2)))), (ad 2 2, .inl (G.2.1, 6, .inl (C_tk (cs 2)))), (ad 2 3, .inl (G.2.1, 24, .inl (C_gr (cs 2)))), (ad 2 4, .inl (G.2.1, 24, .inl (C_go (cs 2)))), (ad 2 5, .inl (G.2.1, 24, .inl (C_we (cs 2)))), (ad 2 6, .inl (G.2.1, 24, .inl (C_dr (cs 2)))), (ad 2 7, .inl (G.2.1, 24, .inl (C_ea (cs 2)))), (ad 3 0, .inr (0, [.ref o0, .int (nvF 3), .ref (ad 3 1), .ref (ad 3 2), .ref (ad 3 3), .ref (ad 3 4), .ref (ad 3 5), .ref (ad 3 6), .ref (ad 3 7), .int (C_br (cs 3)), .int (C_du (cs 3)), .int (C_mi (cs 3)), .int (C_am (cs 3)), .int (C_mb (cs 3))])), (ad 3 1, .inl (G.2.1, 6, .inl (C_ca (cs 3)))), (ad 3 2, .inl (G.2.1, 6, .inl (C_tk (cs 3)))), (ad 3 3, .inl (G.2.1, 24, .inl (C_gr (cs 3)))), (ad 3 4, .inl (G.2.1, 24, .inl (C_go (cs 3)))), (ad 3 5, .inl (G.2.1, 24, .inl (C_we (cs 3)))), (ad 3 6, .inl (G.2.1, 24, .inl (C_dr (cs 3)))), (ad 3 7, .inl (G.2.1, 24, .inl (C_ea (cs 3)))), (ad 4 0, .inr (0, [.ref o0, .int (nvF 4), .ref (ad 4 1), .ref (ad 4 2), .ref (ad 4 3), .ref (ad 4 4), .ref (ad 4 5), .ref (ad 4 6), .ref (ad 4 7), .int (C_br (cs 4)), .int (C_du (cs 4)), .int (C_mi (cs 4)), .int (C_am (cs 4)), .int (C_mb (cs 4))])), (ad 4 1, .inl (G.2.1, 6, .inl (C_ca (cs 4)))), (ad 4 2, .inl (G.2.1, 6, .inl (C_tk (cs 4)))), (ad 4 3, .inl (G.2.1, 24, .inl (C_gr (cs 4)))), (ad 4 4, .inl (G.2.1, 24, .inl (C_go (cs 4)))), (ad 4 5, .inl (G.2.1, 24, .inl (C_we (cs 4)))), (ad 4 6, .inl (G.2.1, 24, .inl (C_dr (cs 4)))), (ad 4 7, .inl (G.2.1, 24, .inl (C_ea (cs 4)))), (ad 5 0, .inr (0, [.ref o0, .int (nvF 5), .ref (ad 5 1), .ref (ad 5 2), .ref (ad 5 3), .ref (ad 5 4), .ref (ad 5 5), .ref (ad 5 6), .ref (ad 5 7), .int (C_br (cs 5)), .int (C_du (cs 5)), .int (C_mi (cs 5)), .int (C_am (cs 5)), .int (C_mb (cs 5))])), (ad 5 1, .inl (G.2.1, 6, .inl (C_ca (cs 5)))), (ad 5 2, .inl (G.2.1, 6, .inl (C_tk (cs 5)))), (ad 5 3, .inl (G.2.1, 24, .inl (C_gr (cs 5)))), (ad 5 4, .inl (G.2.1, 24, .inl (C_go (cs 5)))), (ad 5 5, .inl (G.2.1, 24, .inl (C_we (cs 5)))), (ad 5 6, .inl (G.2.1, 24, .inl (C_dr (cs 5)))), (ad 5 7, .inl (G.2.1, 24, .inl (C_ea (cs 5)))), (ad 6 0, .inr (0, [.ref o0, .int (nvF 6), .ref (ad 6 1), .ref (ad 6 2), .ref (ad 6 3), .ref (ad 6 4), .ref (ad 6 5), .ref (ad 6 6), .ref (ad 6 7), .int (C_br (cs 6)), .int (C_du (cs 6)), .int (C_mi (cs 6)), .int (C_am (cs 6)), .int (C_mb (cs 6))])), (ad 6 1, .inl (G.2.1, 6, .inl (C_ca (cs 6)))), (ad 6 2, .inl (G.2.1, 6, .inl (C_tk (cs 6)))), (ad 6 3, .inl (G.2.1, 24, .inl (C_gr (cs 6)))), (ad 6 4, .inl (G.2.1, 24, .inl (C_go (cs 6)))), (ad 6 5, .inl (G.2.1, 24, .inl (C_we (cs 6)))), (ad 6 6, .inl (G.2.1, 24, .inl (C_dr (cs 6)))), (ad 6 7, .inl (G.2.1, 24, .inl (C_ea (cs 6))))]) s) cX3_hours RX3 3 (some .int) [(x0, .inr (3, [.ref o0, .ref g0, .ref (ad 0 0), .ref sA, .int (nI (H_ho Y)), .int (nI de)])), (o0, .inr (2, [.ref oFa, .ref oWi, .ref oPa, .ref oQu, .ref oSh, .int (nI hk), .int fl, .int ai, .int rn, .int rf, .int rt])), (oFa, .inl (G.2.1, 6, .inl (pN fn))), (oWi, .inl (G.2.1, 6, .inl wi)), (oPa, .inl (G.2.1, 6, .inl (pN pn))), (oQu, .inl (G.2.1, 6, .inl qu)), (oSh, .inl (G.2.1, 24, .inl sh)), (g0, .inr (1, [.ref lH, .ref lS, .ref lW, .ref lT, .int (nI (min (H_bn Y) 60)), .int (nI (H_bn Y))])), (lH, .inl (G.2.1, 60, .inl (H_lh Y))), (lS, .inl (G.2.1, 60, .inl (H_ls Y))), (lW, .inl (G.2.1, 60, .inl (H_lw Y))), (lT, .inl (G.2.1, 4, .inl (H_lt Y))), (sA, .inl (G.2.2, 6, .inr (.inr (.inr (.inr (fun i => some (ad (i + 1) 0))))))), (ad 0 0, .inr (0, [.ref o0, .int (nvF 0), .ref (ad 0 1), .ref (ad 0 2), .ref (ad 0 3), .ref (ad 0 4), .ref (ad 0 5), .ref (ad 0 6), .ref (ad 0 7), .int (C_br (H_cs Y 0)), .int (C_du (H_cs Y 0)), .int (C_mi (H_cs Y 0)), .int (C_am (H_cs Y 0)), .int (C_mb (H_cs Y 0))])), (ad 0 1, .inl (G.2.1, 6, .inl (C_ca (H_cs Y 0)))), (ad 0 2, .inl (G.2.1, 6, .inl (C_tk (H_cs Y 0)))), (ad 0 3, .inl (G.2.1, 24, .inl (C_gr (H_cs Y 0)))), (ad 0 4, .inl (G.2.1, 24, .inl (C_go (H_cs Y 0)))), (ad 0 5, .inl (G.2.1, 24, .inl (C_we (H_cs Y 0)))), (ad 0 6, .inl (G.2.1, 24, .inl (C_dr (H_cs Y 0)))), (ad 0 7, .inl (G.2.1, 24, .inl (C_ea (H_cs Y 0)))), (ad 1 0, .inr (0, [.ref o0, .int (nvF 1), .ref (ad 1 1), .ref (ad 1 2), .ref (ad 1 3), .ref (ad 1 4), .ref (ad 1 5), .ref (ad 1 6), .ref (ad 1 7), .int (C_br (H_cs Y 1)), .int (C_du (H_cs Y 1)), .int (C_mi (H_cs Y 1)), .int (C_am (H_cs Y 1)), .int (C_mb (H_cs Y 1))])), (ad 1 1, .inl (G.2.1, 6, .inl (C_ca (H_cs Y 1)))), (ad 1 2, .inl (G.2.1, 6, .inl (C_tk (H_cs Y 1)))), (ad 1 3, .inl (G.2.1, 24, .inl (C_gr (H_cs Y 1)))), (ad 1 4, .inl (G.2.1, 24, .inl (C_go (H_cs Y 1)))), (ad 1 5, .inl (G.2.1, 24, .inl (C_we (H_cs Y 1)))), (ad 1 6, .inl (G.2.1, 24, .inl (C_dr (H_cs Y 1)))), (ad 1 7, .inl (G.2.1, 24, .inl (C_ea (H_cs Y 1)))), (ad 2 0, .inr (0, [.ref o0, .int (nvF 2), .ref (ad 2 1), .ref (ad 2 2), .ref (ad 2 3), .ref (ad 2 4), .ref (ad 2 5), .ref (ad 2 6), .ref (ad 2 7), .int (C_br (H_cs Y 2)), .int (C_du (H_cs Y 2)), .int (C_mi (H_cs Y 2)), .int (C_am (H_cs Y 2)), .int (C_mb (H_cs Y 2))])), (ad 2 1, .inl (G.2.1, 6, .inl (C_ca (H_cs Y 2)))), (ad 2 2, .inl (G.2.1, 6, .inl (C_tk (H_cs Y 2)))), (ad 2 3, .inl (G.2.1, 24, .inl (C_gr (H_cs Y 2)))), (ad 2 4, .inl (G.2.1, 24, .inl (C_go (H_cs Y 2)))), (ad 2 5, .inl (G.2.1, 24, .inl (C_we (H_cs Y 2)))), (ad 2 6, .inl (G.2.1, 24, .inl (C_dr (H_cs Y 2)))), (ad 2 7, .inl (G.2.1, 24, .inl (C_ea (H_cs Y 2)))), (ad 3 0, .inr (0, [.ref o0, .int (nvF 3), .ref (ad 3 1), .ref (ad 3 2), .ref (ad 3 3), .ref (ad 3 4), .ref (ad 3 5), .ref (ad 3 6), .ref (ad 3 7), .int (C_br (H_cs Y 3)), .int (C_du (H_cs Y 3)), .int (C_mi (H_cs Y 3)), .int (C_am (H_cs Y 3)), .int (C_mb (H_cs Y 3))])), (ad 3 1, .inl (G.2.1, 6, .inl (C_ca (H_cs Y 3)))), (ad 3 2, .inl (G.2.1, 6, .inl (C_tk (H_cs Y 3)))), (ad 3 3, .inl (G.2.1, 24, .inl (C_gr (H_cs Y 3)))), (ad 3 4, .inl (G.2.1, 24, .inl (C_go (H_cs Y 3)))), (ad 3 5, .inl (G.2.1, 24, .inl (C_we (H_cs Y 3)))), (ad 3 6, .inl (G.2.1, 24, .inl (C_dr (H_cs Y 3)))), (ad 3 7, .inl (G.2.1, 24, .inl (C_ea (H_cs Y 3)))), (ad 4 0, .inr (0, [.ref o0, .int (nvF 4), .ref (ad 4 1), .ref (ad 4 2), .ref (ad 4 3), .ref (ad 4 4), .ref (ad 4 5), .ref (ad 4 6), .ref (ad 4 7), .int (C_br (H_cs Y 4)), .int (C_du (H_cs Y 4)), .int (C_mi (H_cs Y 4)), .int (C_am (H_cs Y 4)), .int (C_mb (H_cs Y 4))])), (ad 4 1, .inl (G.2.1, 6, .inl (C_ca (H_cs Y 4)))), (ad 4 2, .inl (G.2.1, 6, .inl (C_tk (H_cs Y 4)))), (ad 4 3, .inl (G.2.1, 24, .inl (C_gr (H_cs Y 4)))), (ad 4 4, .inl (G.2.1, 24, .inl (C_go (H_cs Y 4)))), (ad 4 5, .inl (G.2.1, 24, .inl (C_we (H_cs Y 4)))), (ad 4 6, .inl (G.2.1, 24, .inl (C_dr (H_cs Y 4)))), (ad 4 7, .inl (G.2.1, 24, .inl (C_ea (H_cs Y 4)))), (ad 5 0, .inr (0, [.ref o0, .int (nvF 5), .ref (ad 5 1), .ref (ad 5 2), .ref (ad 5 3), .ref (ad 5 4), .ref (ad 5 5), .ref (ad 5 6), .ref (ad 5 7), .int (C_br (H_cs Y 5)), .int (C_du (H_cs Y 5)), .int (C_mi (H_cs Y 5)), .int (C_am (H_cs Y 5)), .int (C_mb (H_cs Y 5))])), (ad 5 1, .inl (G.2.1, 6, .inl (C_ca (H_cs Y 5)))), (ad 5 2, .inl (G.2.1, 6, .inl (C_tk (H_cs Y 5)))), (ad 5 3, .inl (G.2.1, 24, .inl (C_gr (H_cs Y 5)))), (ad 5 4, .inl (G.2.1, 24, .inl (C_go (H_cs Y 5)))), (ad 5 5, .inl (G.2.1, 24, .inl (C_we (H_cs Y 5)))), (ad 5 6, .inl (G.2.1, 24, .inl (C_dr (H_cs Y 5)))), (ad 5 7, .inl (G.2.1, 24, .inl (C_ea (H_cs Y 5)))), (ad 6 0, .inr (0, [.ref o0, .int (nvF 6), .ref (ad 6 1), .ref (ad 6 2), .ref (ad 6 3), .ref (ad 6 4), .ref (ad 6 5), .ref (ad 6 6), .ref (ad 6 7), .int (C_br (H_cs Y 6)), .int (C_du (H_cs Y 6)), .int (C_mi (H_cs Y 6)), .int (C_am (H_cs Y 6)), .int (C_mb (H_cs Y 6))])), (ad 6 1, .inl (G.2.1, 6, .inl (C_ca (H_cs Y 6)))), (ad 6 2, .inl (G.2.1, 6, .inl (C_tk (H_cs Y 6)))), (ad 6 3, .inl (G.2.1, 24, .inl (C_gr (H_cs Y 6)))), (ad 6 4, .inl (G.2.1, 24, .inl (C_go (H_cs Y 6)))), (ad 6 5, .inl (G.2.1, 24, .inl (C_we (H_cs Y 6)))), (ad 6 6, .inl (G.2.1, 24, .inl (C_dr (H_cs Y 6)))), (ad 6 7, .inl (G.2.1, 24, .inl (C_ea (H_cs Y 6))))] 0 0 [(2, .int (nI i)), (0, .ref x0), (1, .int (nI x.toNatClampNeg))] 30 [] := by
        intro k
        induction k with
        | zero =>
          intro i Y hi hY
          have hi : i = x.toNatClampNeg := by omega
          subst hi
          refine v_iload_n dX3_hours_30 rfl 0 rfl ?_
          refine v_iload_n dX3_hours_31 rfl 2 rfl ?_
          refine v_icmp_ge (tgt := 45) dX3_hours_32 (by decide) (fun h32 => ?_) (fun h32 => absurd (nI_le (by omega) (by omega)) h32)
          refine v_aload_n dX3_hours_45 rfl 1 rfl ?_
          refine v_get fX3_96 dX3_hours_46 0 rfl rfl ?_
          exact v_iretM dX3_hours_49 (by rw [hY, s_advs_ho]; simp only [s_selO, if_neg h8, if_pos n22] <;> rfl) (v_w1 (fun (Y : HS) => ([(x0, .inr (3, [.ref o0, .ref g0, .ref (ad 0 0), .ref sA, .int (nI (H_ho Y)), .int (nI de)])), (o0, .inr (2, [.ref oFa, .ref oWi, .ref oPa, .ref oQu, .ref oSh, .int (nI hk), .int fl, .int ai, .int rn, .int rf, .int rt])), (oFa, .inl (G.2.1, 6, .inl (pN fn))), (oWi, .inl (G.2.1, 6, .inl wi)), (oPa, .inl (G.2.1, 6, .inl (pN pn))), (oQu, .inl (G.2.1, 6, .inl qu)), (oSh, .inl (G.2.1, 24, .inl sh)), (g0, .inr (1, [.ref lH, .ref lS, .ref lW, .ref lT, .int (nI (min (H_bn Y) 60)), .int (nI (H_bn Y))])), (lH, .inl (G.2.1, 60, .inl (H_lh Y))), (lS, .inl (G.2.1, 60, .inl (H_ls Y))), (lW, .inl (G.2.1, 60, .inl (H_lw Y))), (lT, .inl (G.2.1, 4, .inl (H_lt Y))), (sA, .inl (G.2.2, 6, .inr (.inr (.inr (.inr (fun i => some (ad (i + 1) 0))))))), (ad 0 0, .inr (0, [.ref o0, .int (nvF 0), .ref (ad 0 1), .ref (ad 0 2), .ref (ad 0 3), .ref (ad 0 4), .ref (ad 0 5), .ref (ad 0 6), .ref (ad 0 7), .int (C_br (H_cs Y 0)), .int (C_du (H_cs Y 0)), .int (C_mi (H_cs Y 0)), .int (C_am (H_cs Y 0)), .int (C_mb (H_cs Y 0))])), (ad 0 1, .inl (G.2.1, 6, .inl (C_ca (H_cs Y 0)))), (ad 0 2, .inl (G.2.1, 6, .inl (C_tk (H_cs Y 0)))), (ad 0 3, .inl (G.2.1, 24, .inl (C_gr (H_cs Y 0)))), (ad 0 4, .inl (G.2.1, 24, .inl (C_go (H_cs Y 0)))), (ad 0 5, .inl (G.2.1, 24, .inl (C_we (H_cs Y 0)))), (ad 0 6, .inl (G.2.1, 24, .inl (C_dr (H_cs Y 0)))), (ad 0 7, .inl (G.2.1, 24, .inl (C_ea (H_cs Y 0)))), (ad 1 0, .inr (0, [.ref o0, .int (nvF 1), .ref (ad 1 1), .ref (ad 1 2), .ref (ad 1 3), .ref (ad 1 4), .ref (ad 1 5), .ref (ad 1 6), .ref (ad 1 7), .int (C_br (H_cs Y 1)), .int (C_du (H_cs Y 1)), .int (C_mi (H_cs Y 1)), .int (C_am (H_cs Y 1)), .int (C_mb (H_cs Y 1))])), (ad 1 1, .inl (G.2.1, 6, .inl (C_ca (H_cs Y 1)))), (ad 1 2, .inl (G.2.1, 6, .inl (C_tk (H_cs Y 1)))), (ad 1 3, .inl (G.2.1, 24, .inl (C_gr (H_cs Y 1)))), (ad 1 4, .inl (G.2.1, 24, .inl (C_go (H_cs Y 1)))), (ad 1 5, .inl (G.2.1, 24, .inl (C_we (H_cs Y 1)))), (ad 1 6, .inl (G.2.1, 24, .inl (C_dr (H_cs Y 1)))), (ad 1 7, .inl (G.2.1, 24, .inl (C_ea (H_cs Y 1)))), (ad 2 0, .inr (0, [.ref o0, .int (nvF 2), .ref (ad 2 1), .ref (ad 2 2), .ref (ad 2 3), .ref (ad 2 4), .ref (ad 2 5), .ref (ad 2 6), .ref (ad 2 7), .int (C_br (H_cs Y 2)), .int (C_du (H_cs Y 2)), .int (C_mi (H_cs Y 2)), .int (C_am (H_cs Y 2)), .int (C_mb (H_cs Y 2))])), (ad 2 1, .inl (G.2.1, 6, .inl (C_ca (H_cs Y 2)))), (ad 2 2, .inl (G.2.1, 6, .inl (C_tk (H_cs Y 2)))), (ad 2 3, .inl (G.2.1, 24, .inl (C_gr (H_cs Y 2)))), (ad 2 4, .inl (G.2.1, 24, .inl (C_go (H_cs Y 2)))), (ad 2 5, .inl (G.2.1, 24, .inl (C_we (H_cs Y 2)))), (ad 2 6, .inl (G.2.1, 24, .inl (C_dr (H_cs Y 2)))), (ad 2 7, .inl (G.2.1, 24, .inl (C_ea (H_cs Y 2)))), (ad 3 0, .inr (0, [.ref o0, .int (nvF 3), .ref (ad 3 1), .ref (ad 3 2), .ref (ad 3 3), .ref (ad 3 4), .ref (ad 3 5), .ref (ad 3 6), .ref (ad 3 7), .int (C_br (H_cs Y 3)), .int (C_du (H_cs Y 3)), .int (C_mi (H_cs Y 3)), .int (C_am (H_cs Y 3)), .int (C_mb (H_cs Y 3))])), (ad 3 1, .inl (G.2.1, 6, .inl (C_ca (H_cs Y 3)))), (ad 3 2, .inl (G.2.1, 6, .inl (C_tk (H_cs Y 3)))), (ad 3 3, .inl (G.2.1, 24, .inl (C_gr (H_cs Y 3)))), (ad 3 4, .inl (G.2.1, 24, .inl (C_go (H_cs Y 3)))), (ad 3 5, .inl (G.2.1, 24, .inl (C_we (H_cs Y 3)))), (ad 3 6, .inl (G.2.1, 24, .inl (C_dr (H_cs Y 3)))), (ad 3 7, .inl (G.2.1, 24, .inl (C_ea (H_cs Y 3)))), (ad 4 0, .inr (0, [.ref o0, .int (nvF 4), .ref (ad 4 1), .ref (ad 4 2), .ref (ad 4 3), .ref (ad 4 4), .ref (ad 4 5), .ref (ad 4 6), .ref (ad 4 7), .int (C_br (H_cs Y 4)), .int (C_du (H_cs Y 4)), .int (C_mi (H_cs Y 4)), .int (C_am (H_cs Y 4)), .int (C_mb (H_cs Y 4))])), (ad 4 1, .inl (G.2.1, 6, .inl (C_ca (H_cs Y 4)))), (ad 4 2, .inl (G.2.1, 6, .inl (C_tk (H_cs Y 4)))), (ad 4 3, .inl (G.2.1, 24, .inl (C_gr (H_cs Y 4)))), (ad 4 4, .inl (G.2.1, 24, .inl (C_go (H_cs Y 4)))), (ad 4 5, .inl (G.2.1, 24, .inl (C_we (H_cs Y 4)))), (ad 4 6, .inl (G.2.1, 24, .inl (C_dr (H_cs Y 4)))), (ad 4 7, .inl (G.2.1, 24, .inl (C_ea (H_cs Y 4)))), (ad 5 0, .inr (0, [.ref o0, .int (nvF 5), .ref (ad 5 1), .ref (ad 5 2), .ref (ad 5 3), .ref (ad 5 4), .ref (ad 5 5), .ref (ad 5 6), .ref (ad 5 7), .int (C_br (H_cs Y 5)), .int (C_du (H_cs Y 5)), .int (C_mi (H_cs Y 5)), .int (C_am (H_cs Y 5)), .int (C_mb (H_cs Y 5))])), (ad 5 1, .inl (G.2.1, 6, .inl (C_ca (H_cs Y 5)))), (ad 5 2, .inl (G.2.1, 6, .inl (C_tk (H_cs Y 5)))), (ad 5 3, .inl (G.2.1, 24, .inl (C_gr (H_cs Y 5)))), (ad 5 4, .inl (G.2.1, 24, .inl (C_go (H_cs Y 5)))), (ad 5 5, .inl (G.2.1, 24, .inl (C_we (H_cs Y 5)))), (ad 5 6, .inl (G.2.1, 24, .inl (C_dr (H_cs Y 5)))), (ad 5 7, .inl (G.2.1, 24, .inl (C_ea (H_cs Y 5)))), (ad 6 0, .inr (0, [.ref o0, .int (nvF 6), .ref (ad 6 1), .ref (ad 6 2), .ref (ad 6 3), .ref (ad 6 4), .ref (ad 6 5), .ref (ad 6 6), .ref (ad 6 7), .int (C_br (H_cs Y 6)), .int (C_du (H_cs Y 6)), .int (C_mi (H_cs Y 6)), .int (C_am (H_cs Y 6)), .int (C_mb (H_cs Y 6))])), (ad 6 1, .inl (G.2.1, 6, .inl (C_ca (H_cs Y 6)))), (ad 6 2, .inl (G.2.1, 6, .inl (C_tk (H_cs Y 6)))), (ad 6 3, .inl (G.2.1, 24, .inl (C_gr (H_cs Y 6)))), (ad 6 4, .inl (G.2.1, 24, .inl (C_go (H_cs Y 6)))), (ad 6 5, .inl (G.2.1, 24, .inl (C_we (H_cs Y 6)))), (ad 6 6, .inl (G.2.1, 24, .inl (C_dr (H_cs Y 6)))), (ad 6 7, .inl (G.2.1, 24, .inl (C_ea (H_cs Y 6))))] : va_W)) (hY.trans <| show (s_advs fl ai rn rf rt wi qu sh fn pn hk x.toNatClampNeg (ho, lh, ls, lw, lt, bn, cs)) = s_selO (s_in x 1 200) (ho + x.toNatClampNeg) ((ho, lh, ls, lw, lt, bn, cs)) ((ho, lh, ls, lw, lt, bn, cs)) ((s_advs fl ai rn rf rt wi qu sh fn pn hk x.toNatClampNeg (ho, lh, ls, lw, lt, bn, cs))) from by simp only [s_selO, if_neg h8, if_pos n22]))
        | succ k ih =>
          intro i Y hi hY
          have hbY : H_bn Y ≤ bn + 7 * i := by rw [hY]; exact s_advs_bn hk6 i _
          refine v_iload_n dX3_hours_30 rfl 0 rfl ?_
          refine v_iload_n dX3_hours_31 rfl 2 rfl ?_
          refine v_icmp_ge (tgt := 45) dX3_hours_32 (by decide) (fun h32 => absurd h32 (nI_ge (by omega) (by omega))) (fun h32 => ?_)
          refine v_aload_n dX3_hours_35 rfl 1 rfl ?_
          refine v_vMvW (w1 := [(x0, .inr (3, [.ref o0, .ref g0, .ref (ad 0 0), .ref sA, .int (nI (H_ho (s_adv fl ai rn rf rt wi qu sh fn pn hk ((H_ho Y), (H_lh Y), (H_ls Y), (H_lw Y), (H_lt Y), (H_bn Y), (H_cs Y))))), .int (nI de)])), (o0, .inr (2, [.ref oFa, .ref oWi, .ref oPa, .ref oQu, .ref oSh, .int (nI hk), .int fl, .int ai, .int rn, .int rf, .int rt])), (oFa, .inl (G.2.1, 6, .inl (pN fn))), (oWi, .inl (G.2.1, 6, .inl wi)), (oPa, .inl (G.2.1, 6, .inl (pN pn))), (oQu, .inl (G.2.1, 6, .inl qu)), (oSh, .inl (G.2.1, 24, .inl sh)), (g0, .inr (1, [.ref lH, .ref lS, .ref lW, .ref lT, .int (nI (min (H_bn (s_adv fl ai rn rf rt wi qu sh fn pn hk ((H_ho Y), (H_lh Y), (H_ls Y), (H_lw Y), (H_lt Y), (H_bn Y), (H_cs Y)))) 60)), .int (nI (H_bn (s_adv fl ai rn rf rt wi qu sh fn pn hk ((H_ho Y), (H_lh Y), (H_ls Y), (H_lw Y), (H_lt Y), (H_bn Y), (H_cs Y)))))])), (lH, .inl (G.2.1, 60, .inl (H_lh (s_adv fl ai rn rf rt wi qu sh fn pn hk ((H_ho Y), (H_lh Y), (H_ls Y), (H_lw Y), (H_lt Y), (H_bn Y), (H_cs Y)))))), (lS, .inl (G.2.1, 60, .inl (H_ls (s_adv fl ai rn rf rt wi qu sh fn pn hk ((H_ho Y), (H_lh Y), (H_ls Y), (H_lw Y), (H_lt Y), (H_bn Y), (H_cs Y)))))), (lW, .inl (G.2.1, 60, .inl (H_lw (s_adv fl ai rn rf rt wi qu sh fn pn hk ((H_ho Y), (H_lh Y), (H_ls Y), (H_lw Y), (H_lt Y), (H_bn Y), (H_cs Y)))))), (lT, .inl (G.2.1, 4, .inl (H_lt (s_adv fl ai rn rf rt wi qu sh fn pn hk ((H_ho Y), (H_lh Y), (H_ls Y), (H_lw Y), (H_lt Y), (H_bn Y), (H_cs Y)))))), (sA, .inl (G.2.2, 6, .inr (.inr (.inr (.inr (fun i => some (ad (i + 1) 0))))))), (ad 0 0, .inr (0, [.ref o0, .int (nvF 0), .ref (ad 0 1), .ref (ad 0 2), .ref (ad 0 3), .ref (ad 0 4), .ref (ad 0 5), .ref (ad 0 6), .ref (ad 0 7), .int (C_br (H_cs (s_adv fl ai rn rf rt wi qu sh fn pn hk ((H_ho Y), (H_lh Y), (H_ls Y), (H_lw Y), (H_lt Y), (H_bn Y), (H_cs Y))) 0)), .int (C_du (H_cs (s_adv fl ai rn rf rt wi qu sh fn pn hk ((H_ho Y), (H_lh Y), (H_ls Y), (H_lw Y), (H_lt Y), (H_bn Y), (H_cs Y))) 0)), .int (C_mi (H_cs (s_adv fl ai rn rf rt wi qu sh fn pn hk ((H_ho Y), (H_lh Y), (H_ls Y), (H_lw Y), (H_lt Y), (H_bn Y), (H_cs Y))) 0)), .int (C_am (H_cs (s_adv fl ai rn rf rt wi qu sh fn pn hk ((H_ho Y), (H_lh Y), (H_ls Y), (H_lw Y), (H_lt Y), (H_bn Y), (H_cs Y))) 0)), .int (C_mb (H_cs (s_adv fl ai rn rf rt wi qu sh fn pn hk ((H_ho Y), (H_lh Y), (H_ls Y), (H_lw Y), (H_lt Y), (H_bn Y), (H_cs Y))) 0))])), (ad 0 1, .inl (G.2.1, 6, .inl (C_ca (H_cs (s_adv fl ai rn rf rt wi qu sh fn pn hk ((H_ho Y), (H_lh Y), (H_ls Y), (H_lw Y), (H_lt Y), (H_bn Y), (H_cs Y))) 0)))), (ad 0 2, .inl (G.2.1, 6, .inl (C_tk (H_cs (s_adv fl ai rn rf rt wi qu sh fn pn hk ((H_ho Y), (H_lh Y), (H_ls Y), (H_lw Y), (H_lt Y), (H_bn Y), (H_cs Y))) 0)))), (ad 0 3, .inl (G.2.1, 24, .inl (C_gr (H_cs (s_adv fl ai rn rf rt wi qu sh fn pn hk ((H_ho Y), (H_lh Y), (H_ls Y), (H_lw Y), (H_lt Y), (H_bn Y), (H_cs Y))) 0)))), (ad 0 4, .inl (G.2.1, 24, .inl (C_go (H_cs (s_adv fl ai rn rf rt wi qu sh fn pn hk ((H_ho Y), (H_lh Y), (H_ls Y), (H_lw Y), (H_lt Y), (H_bn Y), (H_cs Y))) 0)))), (ad 0 5, .inl (G.2.1, 24, .inl (C_we (H_cs (s_adv fl ai rn rf rt wi qu sh fn pn hk ((H_ho Y), (H_lh Y), (H_ls Y), (H_lw Y), (H_lt Y), (H_bn Y), (H_cs Y))) 0)))), (ad 0 6, .inl (G.2.1, 24, .inl (C_dr (H_cs (s_adv fl ai rn rf rt wi qu sh fn pn hk ((H_ho Y), (H_lh Y), (H_ls Y), (H_lw Y), (H_lt Y), (H_bn Y), (H_cs Y))) 0)))), (ad 0 7, .inl (G.2.1, 24, .inl (C_ea (H_cs (s_adv fl ai rn rf rt wi qu sh fn pn hk ((H_ho Y), (H_lh Y), (H_ls Y), (H_lw Y), (H_lt Y), (H_bn Y), (H_cs Y))) 0)))), (ad 1 0, .inr (0, [.ref o0, .int (nvF 1), .ref (ad 1 1), .ref (ad 1 2), .ref (ad 1 3), .ref (ad 1 4), .ref (ad 1 5), .ref (ad 1 6), .ref (ad 1 7), .int (C_br (H_cs (s_adv fl ai rn rf rt wi qu sh fn pn hk ((H_ho Y), (H_lh Y), (H_ls Y), (H_lw Y), (H_lt Y), (H_bn Y), (H_cs Y))) 1)), .int (C_du (H_cs (s_adv fl ai rn rf rt wi qu sh fn pn hk ((H_ho Y), (H_lh Y), (H_ls Y), (H_lw Y), (H_lt Y), (H_bn Y), (H_cs Y))) 1)), .int (C_mi (H_cs (s_adv fl ai rn rf rt wi qu sh fn pn hk ((H_ho Y), (H_lh Y), (H_ls Y), (H_lw Y), (H_lt Y), (H_bn Y), (H_cs Y))) 1)), .int (C_am (H_cs (s_adv fl ai rn rf rt wi qu sh fn pn hk ((H_ho Y), (H_lh Y), (H_ls Y), (H_lw Y), (H_lt Y), (H_bn Y), (H_cs Y))) 1)), .int (C_mb (H_cs (s_adv fl ai rn rf rt wi qu sh fn pn hk ((H_ho Y), (H_lh Y), (H_ls Y), (H_lw Y), (H_lt Y), (H_bn Y), (H_cs Y))) 1))])), (ad 1 1, .inl (G.2.1, 6, .inl (C_ca (H_cs (s_adv fl ai rn rf rt wi qu sh fn pn hk ((H_ho Y), (H_lh Y), (H_ls Y), (H_lw Y), (H_lt Y), (H_bn Y), (H_cs Y))) 1)))), (ad 1 2, .inl (G.2.1, 6, .inl (C_tk (H_cs (s_adv fl ai rn rf rt wi qu sh fn pn hk ((H_ho Y), (H_lh Y), (H_ls Y), (H_lw Y), (H_lt Y), (H_bn Y), (H_cs Y))) 1)))), (ad 1 3, .inl (G.2.1, 24, .inl (C_gr (H_cs (s_adv fl ai rn rf rt wi qu sh fn pn hk ((H_ho Y), (H_lh Y), (H_ls Y), (H_lw Y), (H_lt Y), (H_bn Y), (H_cs Y))) 1)))), (ad 1 4, .inl (G.2.1, 24, .inl (C_go (H_cs (s_adv fl ai rn rf rt wi qu sh fn pn hk ((H_ho Y), (H_lh Y), (H_ls Y), (H_lw Y), (H_lt Y), (H_bn Y), (H_cs Y))) 1)))), (ad 1 5, .inl (G.2.1, 24, .inl (C_we (H_cs (s_adv fl ai rn rf rt wi qu sh fn pn hk ((H_ho Y), (H_lh Y), (H_ls Y), (H_lw Y), (H_lt Y), (H_bn Y), (H_cs Y))) 1)))), (ad 1 6, .inl (G.2.1, 24, .inl (C_dr (H_cs (s_adv fl ai rn rf rt wi qu sh fn pn hk ((H_ho Y), (H_lh Y), (H_ls Y), (H_lw Y), (H_lt Y), (H_bn Y), (H_cs Y))) 1)))), (ad 1 7, .inl (G.2.1, 24, .inl (C_ea (H_cs (s_adv fl ai rn rf rt wi qu sh fn pn hk ((H_ho Y), (H_lh Y), (H_ls Y), (H_lw Y), (H_lt Y), (H_bn Y), (H_cs Y))) 1)))), (ad 2 0, .inr (0, [.ref o0, .int (nvF 2), .ref (ad 2 1), .ref (ad 2 2), .ref (ad 2 3), .ref (ad 2 4), .ref (ad 2 5), .ref (ad 2 6), .ref (ad 2 7), .int (C_br (H_cs (s_adv fl ai rn rf rt wi qu sh fn pn hk ((H_ho Y), (H_lh Y), (H_ls Y), (H_lw Y), (H_lt Y), (H_bn Y), (H_cs Y))) 2)), .int (C_du (H_cs (s_adv fl ai rn rf rt wi qu sh fn pn hk ((H_ho Y), (H_lh Y), (H_ls Y), (H_lw Y), (H_lt Y), (H_bn Y), (H_cs Y))) 2)), .int (C_mi (H_cs (s_adv fl ai rn rf rt wi qu sh fn pn hk ((H_ho Y), (H_lh Y), (H_ls Y), (H_lw Y), (H_lt Y), (H_bn Y), (H_cs Y))) 2)), .int (C_am (H_cs (s_adv fl ai rn rf rt wi qu sh fn pn hk ((H_ho Y), (H_lh Y), (H_ls Y), (H_lw Y), (H_lt Y), (H_bn Y), (H_cs Y))) 2)), .int (C_mb (H_cs (s_adv fl ai rn rf rt wi qu sh fn pn hk ((H_ho Y), (H_lh Y), (H_ls Y), (H_lw Y), (H_lt Y), (H_bn Y), (H_cs Y))) 2))])), (ad 2 1, .inl (G.2.1, 6, .inl (C_ca (H_cs (s_adv fl ai rn rf rt wi qu sh fn pn hk ((H_ho Y), (H_lh Y), (H_ls Y), (H_lw Y), (H_lt Y), (H_bn Y), (H_cs Y))) 2)))), (ad 2 2, .inl (G.2.1, 6, .inl (C_tk (H_cs (s_adv fl ai rn rf rt wi qu sh fn pn hk ((H_ho Y), (H_lh Y), (H_ls Y), (H_lw Y), (H_lt Y), (H_bn Y), (H_cs Y))) 2)))), (ad 2 3, .inl (G.2.1, 24, .inl (C_gr (H_cs (s_adv fl ai rn rf rt wi qu sh fn pn hk ((H_ho Y), (H_lh Y), (H_ls Y), (H_lw Y), (H_lt Y), (H_bn Y), (H_cs Y))) 2)))), (ad 2 4, .inl (G.2.1, 24, .inl (C_go (H_cs (s_adv fl ai rn rf rt wi qu sh fn pn hk ((H_ho Y), (H_lh Y), (H_ls Y), (H_lw Y), (H_lt Y), (H_bn Y), (H_cs Y))) 2)))), (ad 2 5, .inl (G.2.1, 24, .inl (C_we (H_cs (s_adv fl ai rn rf rt wi qu sh fn pn hk ((H_ho Y), (H_lh Y), (H_ls Y), (H_lw Y), (H_lt Y), (H_bn Y), (H_cs Y))) 2)))), (ad 2 6, .inl (G.2.1, 24, .inl (C_dr (H_cs (s_adv fl ai rn rf rt wi qu sh fn pn hk ((H_ho Y), (H_lh Y), (H_ls Y), (H_lw Y), (H_lt Y), (H_bn Y), (H_cs Y))) 2)))), (ad 2 7, .inl (G.2.1, 24, .inl (C_ea (H_cs (s_adv fl ai rn rf rt wi qu sh fn pn hk ((H_ho Y), (H_lh Y), (H_ls Y), (H_lw Y), (H_lt Y), (H_bn Y), (H_cs Y))) 2)))), (ad 3 0, .inr (0, [.ref o0, .int (nvF 3), .ref (ad 3 1), .ref (ad 3 2), .ref (ad 3 3), .ref (ad 3 4), .ref (ad 3 5), .ref (ad 3 6), .ref (ad 3 7), .int (C_br (H_cs (s_adv fl ai rn rf rt wi qu sh fn pn hk ((H_ho Y), (H_lh Y), (H_ls Y), (H_lw Y), (H_lt Y), (H_bn Y), (H_cs Y))) 3)), .int (C_du (H_cs (s_adv fl ai rn rf rt wi qu sh fn pn hk ((H_ho Y), (H_lh Y), (H_ls Y), (H_lw Y), (H_lt Y), (H_bn Y), (H_cs Y))) 3)), .int (C_mi (H_cs (s_adv fl ai rn rf rt wi qu sh fn pn hk ((H_ho Y), (H_lh Y), (H_ls Y), (H_lw Y), (H_lt Y), (H_bn Y), (H_cs Y))) 3)), .int (C_am (H_cs (s_adv fl ai rn rf rt wi qu sh fn pn hk ((H_ho Y), (H_lh Y), (H_ls Y), (H_lw Y), (H_lt Y), (H_bn Y), (H_cs Y))) 3)), .int (C_mb (H_cs (s_adv fl ai rn rf rt wi qu sh fn pn hk ((H_ho Y), (H_lh Y), (H_ls Y), (H_lw Y), (H_lt Y), (H_bn Y), (H_cs Y))) 3))])), (ad 3 1, .inl (G.2.1, 6, .inl (C_ca (H_cs (s_adv fl ai rn rf rt wi qu sh fn pn hk ((H_ho Y), (H_lh Y), (H_ls Y), (H_lw Y), (H_lt Y), (H_bn Y), (H_cs Y))) 3)))), (ad 3 2, .inl (G.2.1, 6, .inl (C_tk (H_cs (s_adv fl ai rn rf rt wi qu sh fn pn hk ((H_ho Y), (H_lh Y), (H_ls Y), (H_lw Y), (H_lt Y), (H_bn Y), (H_cs Y))) 3)))), (ad 3 3, .inl (G.2.1, 24, .inl (C_gr (H_cs (s_adv fl ai rn rf rt wi qu sh fn pn hk ((H_ho Y), (H_lh Y), (H_ls Y), (H_lw Y), (H_lt Y), (H_bn Y), (H_cs Y))) 3)))), (ad 3 4, .inl (G.2.1, 24, .inl (C_go (H_cs (s_adv fl ai rn rf rt wi qu sh fn pn hk ((H_ho Y), (H_lh Y), (H_ls Y), (H_lw Y), (H_lt Y), (H_bn Y), (H_cs Y))) 3)))), (ad 3 5, .inl (G.2.1, 24, .inl (C_we (H_cs (s_adv fl ai rn rf rt wi qu sh fn pn hk ((H_ho Y), (H_lh Y), (H_ls Y), (H_lw Y), (H_lt Y), (H_bn Y), (H_cs Y))) 3)))), (ad 3 6, .inl (G.2.1, 24, .inl (C_dr (H_cs (s_adv fl ai rn rf rt wi qu sh fn pn hk ((H_ho Y), (H_lh Y), (H_ls Y), (H_lw Y), (H_lt Y), (H_bn Y), (H_cs Y))) 3)))), (ad 3 7, .inl (G.2.1, 24, .inl (C_ea (H_cs (s_adv fl ai rn rf rt wi qu sh fn pn hk ((H_ho Y), (H_lh Y), (H_ls Y), (H_lw Y), (H_lt Y), (H_bn Y), (H_cs Y))) 3)))), (ad 4 0, .inr (0, [.ref o0, .int (nvF 4), .ref (ad 4 1), .ref (ad 4 2), .ref (ad 4 3), .ref (ad 4 4), .ref (ad 4 5), .ref (ad 4 6), .ref (ad 4 7), .int (C_br (H_cs (s_adv fl ai rn rf rt wi qu sh fn pn hk ((H_ho Y), (H_lh Y), (H_ls Y), (H_lw Y), (H_lt Y), (H_bn Y), (H_cs Y))) 4)), .int (C_du (H_cs (s_adv fl ai rn rf rt wi qu sh fn pn hk ((H_ho Y), (H_lh Y), (H_ls Y), (H_lw Y), (H_lt Y), (H_bn Y), (H_cs Y))) 4)), .int (C_mi (H_cs (s_adv fl ai rn rf rt wi qu sh fn pn hk ((H_ho Y), (H_lh Y), (H_ls Y), (H_lw Y), (H_lt Y), (H_bn Y), (H_cs Y))) 4)), .int (C_am (H_cs (s_adv fl ai rn rf rt wi qu sh fn pn hk ((H_ho Y), (H_lh Y), (H_ls Y), (H_lw Y), (H_lt Y), (H_bn Y), (H_cs Y))) 4)), .int (C_mb (H_cs (s_adv fl ai rn rf rt wi qu sh fn pn hk ((H_ho Y), (H_lh Y), (H_ls Y), (H_lw Y), (H_lt Y), (H_bn Y), (H_cs Y))) 4))])), (ad 4 1, .inl (G.2.1, 6, .inl (C_ca (H_cs (s_adv fl ai rn rf rt wi qu sh fn pn hk ((H_ho Y), (H_lh Y), (H_ls Y), (H_lw Y), (H_lt Y), (H_bn Y), (H_cs Y))) 4)))), (ad 4 2, .inl (G.2.1, 6, .inl (C_tk (H_cs (s_adv fl ai rn rf rt wi qu sh fn pn hk ((H_ho Y), (H_lh Y), (H_ls Y), (H_lw Y), (H_lt Y), (H_bn Y), (H_cs Y))) 4)))), (ad 4 3, .inl (G.2.1, 24, .inl (C_gr (H_cs (s_adv fl ai rn rf rt wi qu sh fn pn hk ((H_ho Y), (H_lh Y), (H_ls Y), (H_lw Y), (H_lt Y), (H_bn Y), (H_cs Y))) 4)))), (ad 4 4, .inl (G.2.1, 24, .inl (C_go (H_cs (s_adv fl ai rn rf rt wi qu sh fn pn hk ((H_ho Y), (H_lh Y), (H_ls Y), (H_lw Y), (H_lt Y), (H_bn Y), (H_cs Y))) 4)))), (ad 4 5, .inl (G.2.1, 24, .inl (C_we (H_cs (s_adv fl ai rn rf rt wi qu sh fn pn hk ((H_ho Y), (H_lh Y), (H_ls Y), (H_lw Y), (H_lt Y), (H_bn Y), (H_cs Y))) 4)))), (ad 4 6, .inl (G.2.1, 24, .inl (C_dr (H_cs (s_adv fl ai rn rf rt wi qu sh fn pn hk ((H_ho Y), (H_lh Y), (H_ls Y), (H_lw Y), (H_lt Y), (H_bn Y), (H_cs Y))) 4)))), (ad 4 7, .inl (G.2.1, 24, .inl (C_ea (H_cs (s_adv fl ai rn rf rt wi qu sh fn pn hk ((H_ho Y), (H_lh Y), (H_ls Y), (H_lw Y), (H_lt Y), (H_bn Y), (H_cs Y))) 4)))), (ad 5 0, .inr (0, [.ref o0, .int (nvF 5), .ref (ad 5 1), .ref (ad 5 2), .ref (ad 5 3), .ref (ad 5 4), .ref (ad 5 5), .ref (ad 5 6), .ref (ad 5 7), .int (C_br (H_cs (s_adv fl ai rn rf rt wi qu sh fn pn hk ((H_ho Y), (H_lh Y), (H_ls Y), (H_lw Y), (H_lt Y), (H_bn Y), (H_cs Y))) 5)), .int (C_du (H_cs (s_adv fl ai rn rf rt wi qu sh fn pn hk ((H_ho Y), (H_lh Y), (H_ls Y), (H_lw Y), (H_lt Y), (H_bn Y), (H_cs Y))) 5)), .int (C_mi (H_cs (s_adv fl ai rn rf rt wi qu sh fn pn hk ((H_ho Y), (H_lh Y), (H_ls Y), (H_lw Y), (H_lt Y), (H_bn Y), (H_cs Y))) 5)), .int (C_am (H_cs (s_adv fl ai rn rf rt wi qu sh fn pn hk ((H_ho Y), (H_lh Y), (H_ls Y), (H_lw Y), (H_lt Y), (H_bn Y), (H_cs Y))) 5)), .int (C_mb (H_cs (s_adv fl ai rn rf rt wi qu sh fn pn hk ((H_ho Y), (H_lh Y), (H_ls Y), (H_lw Y), (H_lt Y), (H_bn Y), (H_cs Y))) 5))])), (ad 5 1, .inl (G.2.1, 6, .inl (C_ca (H_cs (s_adv fl ai rn rf rt wi qu sh fn pn hk ((H_ho Y), (H_lh Y), (H_ls Y), (H_lw Y), (H_lt Y), (H_bn Y), (H_cs Y))) 5)))), (ad 5 2, .inl (G.2.1, 6, .inl (C_tk (H_cs (s_adv fl ai rn rf rt wi qu sh fn pn hk ((H_ho Y), (H_lh Y), (H_ls Y), (H_lw Y), (H_lt Y), (H_bn Y), (H_cs Y))) 5)))), (ad 5 3, .inl (G.2.1, 24, .inl (C_gr (H_cs (s_adv fl ai rn rf rt wi qu sh fn pn hk ((H_ho Y), (H_lh Y), (H_ls Y), (H_lw Y), (H_lt Y), (H_bn Y), (H_cs Y))) 5)))), (ad 5 4, .inl (G.2.1, 24, .inl (C_go (H_cs (s_adv fl ai rn rf rt wi qu sh fn pn hk ((H_ho Y), (H_lh Y), (H_ls Y), (H_lw Y), (H_lt Y), (H_bn Y), (H_cs Y))) 5)))), (ad 5 5, .inl (G.2.1, 24, .inl (C_we (H_cs (s_adv fl ai rn rf rt wi qu sh fn pn hk ((H_ho Y), (H_lh Y), (H_ls Y), (H_lw Y), (H_lt Y), (H_bn Y), (H_cs Y))) 5)))), (ad 5 6, .inl (G.2.1, 24, .inl (C_dr (H_cs (s_adv fl ai rn rf rt wi qu sh fn pn hk ((H_ho Y), (H_lh Y), (H_ls Y), (H_lw Y), (H_lt Y), (H_bn Y), (H_cs Y))) 5)))), (ad 5 7, .inl (G.2.1, 24, .inl (C_ea (H_cs (s_adv fl ai rn rf rt wi qu sh fn pn hk ((H_ho Y), (H_lh Y), (H_ls Y), (H_lw Y), (H_lt Y), (H_bn Y), (H_cs Y))) 5)))), (ad 6 0, .inr (0, [.ref o0, .int (nvF 6), .ref (ad 6 1), .ref (ad 6 2), .ref (ad 6 3), .ref (ad 6 4), .ref (ad 6 5), .ref (ad 6 6), .ref (ad 6 7), .int (C_br (H_cs (s_adv fl ai rn rf rt wi qu sh fn pn hk ((H_ho Y), (H_lh Y), (H_ls Y), (H_lw Y), (H_lt Y), (H_bn Y), (H_cs Y))) 6)), .int (C_du (H_cs (s_adv fl ai rn rf rt wi qu sh fn pn hk ((H_ho Y), (H_lh Y), (H_ls Y), (H_lw Y), (H_lt Y), (H_bn Y), (H_cs Y))) 6)), .int (C_mi (H_cs (s_adv fl ai rn rf rt wi qu sh fn pn hk ((H_ho Y), (H_lh Y), (H_ls Y), (H_lw Y), (H_lt Y), (H_bn Y), (H_cs Y))) 6)), .int (C_am (H_cs (s_adv fl ai rn rf rt wi qu sh fn pn hk ((H_ho Y), (H_lh Y), (H_ls Y), (H_lw Y), (H_lt Y), (H_bn Y), (H_cs Y))) 6)), .int (C_mb (H_cs (s_adv fl ai rn rf rt wi qu sh fn pn hk ((H_ho Y), (H_lh Y), (H_ls Y), (H_lw Y), (H_lt Y), (H_bn Y), (H_cs Y))) 6))])), (ad 6 1, .inl (G.2.1, 6, .inl (C_ca (H_cs (s_adv fl ai rn rf rt wi qu sh fn pn hk ((H_ho Y), (H_lh Y), (H_ls Y), (H_lw Y), (H_lt Y), (H_bn Y), (H_cs Y))) 6)))), (ad 6 2, .inl (G.2.1, 6, .inl (C_tk (H_cs (s_adv fl ai rn rf rt wi qu sh fn pn hk ((H_ho Y), (H_lh Y), (H_ls Y), (H_lw Y), (H_lt Y), (H_bn Y), (H_cs Y))) 6)))), (ad 6 3, .inl (G.2.1, 24, .inl (C_gr (H_cs (s_adv fl ai rn rf rt wi qu sh fn pn hk ((H_ho Y), (H_lh Y), (H_ls Y), (H_lw Y), (H_lt Y), (H_bn Y), (H_cs Y))) 6)))), (ad 6 4, .inl (G.2.1, 24, .inl (C_go (H_cs (s_adv fl ai rn rf rt wi qu sh fn pn hk ((H_ho Y), (H_lh Y), (H_ls Y), (H_lw Y), (H_lt Y), (H_bn Y), (H_cs Y))) 6)))), (ad 6 5, .inl (G.2.1, 24, .inl (C_we (H_cs (s_adv fl ai rn rf rt wi qu sh fn pn hk ((H_ho Y), (H_lh Y), (H_ls Y), (H_lw Y), (H_lt Y), (H_bn Y), (H_cs Y))) 6)))), (ad 6 6, .inl (G.2.1, 24, .inl (C_dr (H_cs (s_adv fl ai rn rf rt wi qu sh fn pn hk ((H_ho Y), (H_lh Y), (H_ls Y), (H_lw Y), (H_lt Y), (H_bn Y), (H_cs Y))) 6)))), (ad 6 7, .inl (G.2.1, 24, .inl (C_ea (H_cs (s_adv fl ai rn rf rt wi qu sh fn pn hk ((H_ho Y), (H_lh Y), (H_ls Y), (H_lw Y), (H_lt Y), (H_bn Y), (H_cs Y))) 6))))]) (As := []) (rest := []) (c_X3_advance l G x0 o0 g0 sA (H_ho Y) de oFa oWi oPa oQu oSh hk fl ai rn rf rt lH lS lW lT (H_bn Y) ad wi qu sh (H_lh Y) (H_ls Y) (H_lw Y) (H_lt Y) fn pn (H_cs Y) hk6 hpn hfn (by omega)) YX3_advance mX3_99 dX3_hours_36 ciX3 0 rfl rfl rfl rfl (Nat.le_of_ble_eq_true rfl) (by decide) (by decide) ?_
          refine v_iinc (v := nI i + 1) (q := 0) (lv' := [(2, .int (nI i + 1)), (0, .ref x0), (1, .int (nI x.toNatClampNeg))]) dX3_hours_39 rfl rfl (by decide) rfl ?_
          refine v_goto (tgt := 30) dX3_hours_42 (by decide) ?_
          refine v_lveq (lv' := [(2, .int (nI (i + 1))), (0, .ref x0), (1, .int (nI x.toNatClampNeg))]) (v_l1 (fun (z0 : Int32) => ([(2, .int z0), (0, .ref x0), (1, .int (nI x.toNatClampNeg))] : List (Nat × Value))) (nI_1 i)) ?_
          exact ih (i + 1) _ (by omega) (by rw [hY]; rfl)
      refine v_lveq (lv' := [(2, .int (nI 0)), (0, .ref x0), (1, .int (nI x.toNatClampNeg))]) (v_l2 (fun (z0 : Int32) (z1 : Int32) => ([(2, .int z0), (0, .ref x0), (1, .int z1)] : List (Nat × Value))) nI_0.symm hx.1) ?_
      exact hloop x.toNatClampNeg 0 (ho, lh, ls, lw, lt, bn, cs) (by omega) rfl
    · refine v_icmp_le (tgt := 28) dX3_hours_22 (by decide) (fun h22 => absurd h22 (nI_ge (by omega) (by omega))) (fun h22 => ?_)
      refine v_bipush (v := (-3)) dX3_hours_25 (by decide) ?_
      refine v_world (ws' := [(x0, .inr (3, [.ref o0, .ref g0, .ref (ad 0 0), .ref sA, .int (nI (H_ho (ho, lh, ls, lw, lt, bn, cs))), .int (nI de)])), (o0, .inr (2, [.ref oFa, .ref oWi, .ref oPa, .ref oQu, .ref oSh, .int (nI hk), .int fl, .int ai, .int rn, .int rf, .int rt])), (oFa, .inl (G.2.1, 6, .inl (pN fn))), (oWi, .inl (G.2.1, 6, .inl wi)), (oPa, .inl (G.2.1, 6, .inl (pN pn))), (oQu, .inl (G.2.1, 6, .inl qu)), (oSh, .inl (G.2.1, 24, .inl sh)), (g0, .inr (1, [.ref lH, .ref lS, .ref lW, .ref lT, .int (nI (min (H_bn (ho, lh, ls, lw, lt, bn, cs)) 60)), .int (nI (H_bn (ho, lh, ls, lw, lt, bn, cs)))])), (lH, .inl (G.2.1, 60, .inl (H_lh (ho, lh, ls, lw, lt, bn, cs)))), (lS, .inl (G.2.1, 60, .inl (H_ls (ho, lh, ls, lw, lt, bn, cs)))), (lW, .inl (G.2.1, 60, .inl (H_lw (ho, lh, ls, lw, lt, bn, cs)))), (lT, .inl (G.2.1, 4, .inl (H_lt (ho, lh, ls, lw, lt, bn, cs)))), (sA, .inl (G.2.2, 6, .inr (.inr (.inr (.inr (fun i => some (ad (i + 1) 0))))))), (ad 0 0, .inr (0, [.ref o0, .int (nvF 0), .ref (ad 0 1), .ref (ad 0 2), .ref (ad 0 3), .ref (ad 0 4), .ref (ad 0 5), .ref (ad 0 6), .ref (ad 0 7), .int (C_br (H_cs (ho, lh, ls, lw, lt, bn, cs) 0)), .int (C_du (H_cs (ho, lh, ls, lw, lt, bn, cs) 0)), .int (C_mi (H_cs (ho, lh, ls, lw, lt, bn, cs) 0)), .int (C_am (H_cs (ho, lh, ls, lw, lt, bn, cs) 0)), .int (C_mb (H_cs (ho, lh, ls, lw, lt, bn, cs) 0))])), (ad 0 1, .inl (G.2.1, 6, .inl (C_ca (H_cs (ho, lh, ls, lw, lt, bn, cs) 0)))), (ad 0 2, .inl (G.2.1, 6, .inl (C_tk (H_cs (ho, lh, ls, lw, lt, bn, cs) 0)))), (ad 0 3, .inl (G.2.1, 24, .inl (C_gr (H_cs (ho, lh, ls, lw, lt, bn, cs) 0)))), (ad 0 4, .inl (G.2.1, 24, .inl (C_go (H_cs (ho, lh, ls, lw, lt, bn, cs) 0)))), (ad 0 5, .inl (G.2.1, 24, .inl (C_we (H_cs (ho, lh, ls, lw, lt, bn, cs) 0)))), (ad 0 6, .inl (G.2.1, 24, .inl (C_dr (H_cs (ho, lh, ls, lw, lt, bn, cs) 0)))), (ad 0 7, .inl (G.2.1, 24, .inl (C_ea (H_cs (ho, lh, ls, lw, lt, bn, cs) 0)))), (ad 1 0, .inr (0, [.ref o0, .int (nvF 1), .ref (ad 1 1), .ref (ad 1 2), .ref (ad 1 3), .ref (ad 1 4), .ref (ad 1 5), .ref (ad 1 6), .ref (ad 1 7), .int (C_br (H_cs (ho, lh, ls, lw, lt, bn, cs) 1)), .int (C_du (H_cs (ho, lh, ls, lw, lt, bn, cs) 1)), .int (C_mi (H_cs (ho, lh, ls, lw, lt, bn, cs) 1)), .int (C_am (H_cs (ho, lh, ls, lw, lt, bn, cs) 1)), .int (C_mb (H_cs (ho, lh, ls, lw, lt, bn, cs) 1))])), (ad 1 1, .inl (G.2.1, 6, .inl (C_ca (H_cs (ho, lh, ls, lw, lt, bn, cs) 1)))), (ad 1 2, .inl (G.2.1, 6, .inl (C_tk (H_cs (ho, lh, ls, lw, lt, bn, cs) 1)))), (ad 1 3, .inl (G.2.1, 24, .inl (C_gr (H_cs (ho, lh, ls, lw, lt, bn, cs) 1)))), (ad 1 4, .inl (G.2.1, 24, .inl (C_go (H_cs (ho, lh, ls, lw, lt, bn, cs) 1)))), (ad 1 5, .inl (G.2.1, 24, .inl (C_we (H_cs (ho, lh, ls, lw, lt, bn, cs) 1)))), (ad 1 6, .inl (G.2.1, 24, .inl (C_dr (H_cs (ho, lh, ls, lw, lt, bn, cs) 1)))), (ad 1 7, .inl (G.2.1, 24, .inl (C_ea (H_cs (ho, lh, ls, lw, lt, bn, cs) 1)))), (ad 2 0, .inr (0, [.ref o0, .int (nvF 2), .ref (ad 2 1), .ref (ad 2 2), .ref (ad 2 3), .ref (ad 2 4), .ref (ad 2 5), .ref (ad 2 6), .ref (ad 2 7), .int (C_br (H_cs (ho, lh, ls, lw, lt, bn, cs) 2)), .int (C_du (H_cs (ho, lh, ls, lw, lt, bn, cs) 2)), .int (C_mi (H_cs (ho, lh, ls, lw, lt, bn, cs) 2)), .int (C_am (H_cs (ho, lh, ls, lw, lt, bn, cs) 2)), .int (C_mb (H_cs (ho, lh, ls, lw, lt, bn, cs) 2))])), (ad 2 1, .inl (G.2.1, 6, .inl (C_ca (H_cs (ho, lh, ls, lw, lt, bn, cs) 2)))), (ad 2 2, .inl (G.2.1, 6, .inl (C_tk (H_cs (ho, lh, ls, lw, lt, bn, cs) 2)))), (ad 2 3, .inl (G.2.1, 24, .inl (C_gr (H_cs (ho, lh, ls, lw, lt, bn, cs) 2)))), (ad 2 4, .inl (G.2.1, 24, .inl (C_go (H_cs (ho, lh, ls, lw, lt, bn, cs) 2)))), (ad 2 5, .inl (G.2.1, 24, .inl (C_we (H_cs (ho, lh, ls, lw, lt, bn, cs) 2)))), (ad 2 6, .inl (G.2.1, 24, .inl (C_dr (H_cs (ho, lh, ls, lw, lt, bn, cs) 2)))), (ad 2 7, .inl (G.2.1, 24, .inl (C_ea (H_cs (ho, lh, ls, lw, lt, bn, cs) 2)))), (ad 3 0, .inr (0, [.ref o0, .int (nvF 3), .ref (ad 3 1), .ref (ad 3 2), .ref (ad 3 3), .ref (ad 3 4), .ref (ad 3 5), .ref (ad 3 6), .ref (ad 3 7), .int (C_br (H_cs (ho, lh, ls, lw, lt, bn, cs) 3)), .int (C_du (H_cs (ho, lh, ls, lw, lt, bn, cs) 3)), .int (C_mi (H_cs (ho, lh, ls, lw, lt, bn, cs) 3)), .int (C_am (H_cs (ho, lh, ls, lw, lt, bn, cs) 3)), .int (C_mb (H_cs (ho, lh, ls, lw, lt, bn, cs) 3))])), (ad 3 1, .inl (G.2.1, 6, .inl (C_ca (H_cs (ho, lh, ls, lw, lt, bn, cs) 3)))), (ad 3 2, .inl (G.2.1, 6, .inl (C_tk (H_cs (ho, lh, ls, lw, lt, bn, cs) 3)))), (ad 3 3, .inl (G.2.1, 24, .inl (C_gr (H_cs (ho, lh, ls, lw, lt, bn, cs) 3)))), (ad 3 4, .inl (G.2.1, 24, .inl (C_go (H_cs (ho, lh, ls, lw, lt, bn, cs) 3)))), (ad 3 5, .inl (G.2.1, 24, .inl (C_we (H_cs (ho, lh, ls, lw, lt, bn, cs) 3)))), (ad 3 6, .inl (G.2.1, 24, .inl (C_dr (H_cs (ho, lh, ls, lw, lt, bn, cs) 3)))), (ad 3 7, .inl (G.2.1, 24, .inl (C_ea (H_cs (ho, lh, ls, lw, lt, bn, cs) 3)))), (ad 4 0, .inr (0, [.ref o0, .int (nvF 4), .ref (ad 4 1), .ref (ad 4 2), .ref (ad 4 3), .ref (ad 4 4), .ref (ad 4 5), .ref (ad 4 6), .ref (ad 4 7), .int (C_br (H_cs (ho, lh, ls, lw, lt, bn, cs) 4)), .int (C_du (H_cs (ho, lh, ls, lw, lt, bn, cs) 4)), .int (C_mi (H_cs (ho, lh, ls, lw, lt, bn, cs) 4)), .int (C_am (H_cs (ho, lh, ls, lw, lt, bn, cs) 4)), .int (C_mb (H_cs (ho, lh, ls, lw, lt, bn, cs) 4))])), (ad 4 1, .inl (G.2.1, 6, .inl (C_ca (H_cs (ho, lh, ls, lw, lt, bn, cs) 4)))), (ad 4 2, .inl (G.2.1, 6, .inl (C_tk (H_cs (ho, lh, ls, lw, lt, bn, cs) 4)))), (ad 4 3, .inl (G.2.1, 24, .inl (C_gr (H_cs (ho, lh, ls, lw, lt, bn, cs) 4)))), (ad 4 4, .inl (G.2.1, 24, .inl (C_go (H_cs (ho, lh, ls, lw, lt, bn, cs) 4)))), (ad 4 5, .inl (G.2.1, 24, .inl (C_we (H_cs (ho, lh, ls, lw, lt, bn, cs) 4)))), (ad 4 6, .inl (G.2.1, 24, .inl (C_dr (H_cs (ho, lh, ls, lw, lt, bn, cs) 4)))), (ad 4 7, .inl (G.2.1, 24, .inl (C_ea (H_cs (ho, lh, ls, lw, lt, bn, cs) 4)))), (ad 5 0, .inr (0, [.ref o0, .int (nvF 5), .ref (ad 5 1), .ref (ad 5 2), .ref (ad 5 3), .ref (ad 5 4), .ref (ad 5 5), .ref (ad 5 6), .ref (ad 5 7), .int (C_br (H_cs (ho, lh, ls, lw, lt, bn, cs) 5)), .int (C_du (H_cs (ho, lh, ls, lw, lt, bn, cs) 5)), .int (C_mi (H_cs (ho, lh, ls, lw, lt, bn, cs) 5)), .int (C_am (H_cs (ho, lh, ls, lw, lt, bn, cs) 5)), .int (C_mb (H_cs (ho, lh, ls, lw, lt, bn, cs) 5))])), (ad 5 1, .inl (G.2.1, 6, .inl (C_ca (H_cs (ho, lh, ls, lw, lt, bn, cs) 5)))), (ad 5 2, .inl (G.2.1, 6, .inl (C_tk (H_cs (ho, lh, ls, lw, lt, bn, cs) 5)))), (ad 5 3, .inl (G.2.1, 24, .inl (C_gr (H_cs (ho, lh, ls, lw, lt, bn, cs) 5)))), (ad 5 4, .inl (G.2.1, 24, .inl (C_go (H_cs (ho, lh, ls, lw, lt, bn, cs) 5)))), (ad 5 5, .inl (G.2.1, 24, .inl (C_we (H_cs (ho, lh, ls, lw, lt, bn, cs) 5)))), (ad 5 6, .inl (G.2.1, 24, .inl (C_dr (H_cs (ho, lh, ls, lw, lt, bn, cs) 5)))), (ad 5 7, .inl (G.2.1, 24, .inl (C_ea (H_cs (ho, lh, ls, lw, lt, bn, cs) 5)))), (ad 6 0, .inr (0, [.ref o0, .int (nvF 6), .ref (ad 6 1), .ref (ad 6 2), .ref (ad 6 3), .ref (ad 6 4), .ref (ad 6 5), .ref (ad 6 6), .ref (ad 6 7), .int (C_br (H_cs (ho, lh, ls, lw, lt, bn, cs) 6)), .int (C_du (H_cs (ho, lh, ls, lw, lt, bn, cs) 6)), .int (C_mi (H_cs (ho, lh, ls, lw, lt, bn, cs) 6)), .int (C_am (H_cs (ho, lh, ls, lw, lt, bn, cs) 6)), .int (C_mb (H_cs (ho, lh, ls, lw, lt, bn, cs) 6))])), (ad 6 1, .inl (G.2.1, 6, .inl (C_ca (H_cs (ho, lh, ls, lw, lt, bn, cs) 6)))), (ad 6 2, .inl (G.2.1, 6, .inl (C_tk (H_cs (ho, lh, ls, lw, lt, bn, cs) 6)))), (ad 6 3, .inl (G.2.1, 24, .inl (C_gr (H_cs (ho, lh, ls, lw, lt, bn, cs) 6)))), (ad 6 4, .inl (G.2.1, 24, .inl (C_go (H_cs (ho, lh, ls, lw, lt, bn, cs) 6)))), (ad 6 5, .inl (G.2.1, 24, .inl (C_we (H_cs (ho, lh, ls, lw, lt, bn, cs) 6)))), (ad 6 6, .inl (G.2.1, 24, .inl (C_dr (H_cs (ho, lh, ls, lw, lt, bn, cs) 6)))), (ad 6 7, .inl (G.2.1, 24, .inl (C_ea (H_cs (ho, lh, ls, lw, lt, bn, cs) 6))))]) rfl ?_
      exact v_iretM dX3_hours_27 (by simp only [s_selO, if_neg h8, if_neg n22] <;> rfl) (v_w1 (fun (Y : HS) => ([(x0, .inr (3, [.ref o0, .ref g0, .ref (ad 0 0), .ref sA, .int (nI (H_ho Y)), .int (nI de)])), (o0, .inr (2, [.ref oFa, .ref oWi, .ref oPa, .ref oQu, .ref oSh, .int (nI hk), .int fl, .int ai, .int rn, .int rf, .int rt])), (oFa, .inl (G.2.1, 6, .inl (pN fn))), (oWi, .inl (G.2.1, 6, .inl wi)), (oPa, .inl (G.2.1, 6, .inl (pN pn))), (oQu, .inl (G.2.1, 6, .inl qu)), (oSh, .inl (G.2.1, 24, .inl sh)), (g0, .inr (1, [.ref lH, .ref lS, .ref lW, .ref lT, .int (nI (min (H_bn Y) 60)), .int (nI (H_bn Y))])), (lH, .inl (G.2.1, 60, .inl (H_lh Y))), (lS, .inl (G.2.1, 60, .inl (H_ls Y))), (lW, .inl (G.2.1, 60, .inl (H_lw Y))), (lT, .inl (G.2.1, 4, .inl (H_lt Y))), (sA, .inl (G.2.2, 6, .inr (.inr (.inr (.inr (fun i => some (ad (i + 1) 0))))))), (ad 0 0, .inr (0, [.ref o0, .int (nvF 0), .ref (ad 0 1), .ref (ad 0 2), .ref (ad 0 3), .ref (ad 0 4), .ref (ad 0 5), .ref (ad 0 6), .ref (ad 0 7), .int (C_br (H_cs Y 0)), .int (C_du (H_cs Y 0)), .int (C_mi (H_cs Y 0)), .int (C_am (H_cs Y 0)), .int (C_mb (H_cs Y 0))])), (ad 0 1, .inl (G.2.1, 6, .inl (C_ca (H_cs Y 0)))), (ad 0 2, .inl (G.2.1, 6, .inl (C_tk (H_cs Y 0)))), (ad 0 3, .inl (G.2.1, 24, .inl (C_gr (H_cs Y 0)))), (ad 0 4, .inl (G.2.1, 24, .inl (C_go (H_cs Y 0)))), (ad 0 5, .inl (G.2.1, 24, .inl (C_we (H_cs Y 0)))), (ad 0 6, .inl (G.2.1, 24, .inl (C_dr (H_cs Y 0)))), (ad 0 7, .inl (G.2.1, 24, .inl (C_ea (H_cs Y 0)))), (ad 1 0, .inr (0, [.ref o0, .int (nvF 1), .ref (ad 1 1), .ref (ad 1 2), .ref (ad 1 3), .ref (ad 1 4), .ref (ad 1 5), .ref (ad 1 6), .ref (ad 1 7), .int (C_br (H_cs Y 1)), .int (C_du (H_cs Y 1)), .int (C_mi (H_cs Y 1)), .int (C_am (H_cs Y 1)), .int (C_mb (H_cs Y 1))])), (ad 1 1, .inl (G.2.1, 6, .inl (C_ca (H_cs Y 1)))), (ad 1 2, .inl (G.2.1, 6, .inl (C_tk (H_cs Y 1)))), (ad 1 3, .inl (G.2.1, 24, .inl (C_gr (H_cs Y 1)))), (ad 1 4, .inl (G.2.1, 24, .inl (C_go (H_cs Y 1)))), (ad 1 5, .inl (G.2.1, 24, .inl (C_we (H_cs Y 1)))), (ad 1 6, .inl (G.2.1, 24, .inl (C_dr (H_cs Y 1)))), (ad 1 7, .inl (G.2.1, 24, .inl (C_ea (H_cs Y 1)))), (ad 2 0, .inr (0, [.ref o0, .int (nvF 2), .ref (ad 2 1), .ref (ad 2 2), .ref (ad 2 3), .ref (ad 2 4), .ref (ad 2 5), .ref (ad 2 6), .ref (ad 2 7), .int (C_br (H_cs Y 2)), .int (C_du (H_cs Y 2)), .int (C_mi (H_cs Y 2)), .int (C_am (H_cs Y 2)), .int (C_mb (H_cs Y 2))])), (ad 2 1, .inl (G.2.1, 6, .inl (C_ca (H_cs Y 2)))), (ad 2 2, .inl (G.2.1, 6, .inl (C_tk (H_cs Y 2)))), (ad 2 3, .inl (G.2.1, 24, .inl (C_gr (H_cs Y 2)))), (ad 2 4, .inl (G.2.1, 24, .inl (C_go (H_cs Y 2)))), (ad 2 5, .inl (G.2.1, 24, .inl (C_we (H_cs Y 2)))), (ad 2 6, .inl (G.2.1, 24, .inl (C_dr (H_cs Y 2)))), (ad 2 7, .inl (G.2.1, 24, .inl (C_ea (H_cs Y 2)))), (ad 3 0, .inr (0, [.ref o0, .int (nvF 3), .ref (ad 3 1), .ref (ad 3 2), .ref (ad 3 3), .ref (ad 3 4), .ref (ad 3 5), .ref (ad 3 6), .ref (ad 3 7), .int (C_br (H_cs Y 3)), .int (C_du (H_cs Y 3)), .int (C_mi (H_cs Y 3)), .int (C_am (H_cs Y 3)), .int (C_mb (H_cs Y 3))])), (ad 3 1, .inl (G.2.1, 6, .inl (C_ca (H_cs Y 3)))), (ad 3 2, .inl (G.2.1, 6, .inl (C_tk (H_cs Y 3)))), (ad 3 3, .inl (G.2.1, 24, .inl (C_gr (H_cs Y 3)))), (ad 3 4, .inl (G.2.1, 24, .inl (C_go (H_cs Y 3)))), (ad 3 5, .inl (G.2.1, 24, .inl (C_we (H_cs Y 3)))), (ad 3 6, .inl (G.2.1, 24, .inl (C_dr (H_cs Y 3)))), (ad 3 7, .inl (G.2.1, 24, .inl (C_ea (H_cs Y 3)))), (ad 4 0, .inr (0, [.ref o0, .int (nvF 4), .ref (ad 4 1), .ref (ad 4 2), .ref (ad 4 3), .ref (ad 4 4), .ref (ad 4 5), .ref (ad 4 6), .ref (ad 4 7), .int (C_br (H_cs Y 4)), .int (C_du (H_cs Y 4)), .int (C_mi (H_cs Y 4)), .int (C_am (H_cs Y 4)), .int (C_mb (H_cs Y 4))])), (ad 4 1, .inl (G.2.1, 6, .inl (C_ca (H_cs Y 4)))), (ad 4 2, .inl (G.2.1, 6, .inl (C_tk (H_cs Y 4)))), (ad 4 3, .inl (G.2.1, 24, .inl (C_gr (H_cs Y 4)))), (ad 4 4, .inl (G.2.1, 24, .inl (C_go (H_cs Y 4)))), (ad 4 5, .inl (G.2.1, 24, .inl (C_we (H_cs Y 4)))), (ad 4 6, .inl (G.2.1, 24, .inl (C_dr (H_cs Y 4)))), (ad 4 7, .inl (G.2.1, 24, .inl (C_ea (H_cs Y 4)))), (ad 5 0, .inr (0, [.ref o0, .int (nvF 5), .ref (ad 5 1), .ref (ad 5 2), .ref (ad 5 3), .ref (ad 5 4), .ref (ad 5 5), .ref (ad 5 6), .ref (ad 5 7), .int (C_br (H_cs Y 5)), .int (C_du (H_cs Y 5)), .int (C_mi (H_cs Y 5)), .int (C_am (H_cs Y 5)), .int (C_mb (H_cs Y 5))])), (ad 5 1, .inl (G.2.1, 6, .inl (C_ca (H_cs Y 5)))), (ad 5 2, .inl (G.2.1, 6, .inl (C_tk (H_cs Y 5)))), (ad 5 3, .inl (G.2.1, 24, .inl (C_gr (H_cs Y 5)))), (ad 5 4, .inl (G.2.1, 24, .inl (C_go (H_cs Y 5)))), (ad 5 5, .inl (G.2.1, 24, .inl (C_we (H_cs Y 5)))), (ad 5 6, .inl (G.2.1, 24, .inl (C_dr (H_cs Y 5)))), (ad 5 7, .inl (G.2.1, 24, .inl (C_ea (H_cs Y 5)))), (ad 6 0, .inr (0, [.ref o0, .int (nvF 6), .ref (ad 6 1), .ref (ad 6 2), .ref (ad 6 3), .ref (ad 6 4), .ref (ad 6 5), .ref (ad 6 6), .ref (ad 6 7), .int (C_br (H_cs Y 6)), .int (C_du (H_cs Y 6)), .int (C_mi (H_cs Y 6)), .int (C_am (H_cs Y 6)), .int (C_mb (H_cs Y 6))])), (ad 6 1, .inl (G.2.1, 6, .inl (C_ca (H_cs Y 6)))), (ad 6 2, .inl (G.2.1, 6, .inl (C_tk (H_cs Y 6)))), (ad 6 3, .inl (G.2.1, 24, .inl (C_gr (H_cs Y 6)))), (ad 6 4, .inl (G.2.1, 24, .inl (C_go (H_cs Y 6)))), (ad 6 5, .inl (G.2.1, 24, .inl (C_we (H_cs Y 6)))), (ad 6 6, .inl (G.2.1, 24, .inl (C_dr (H_cs Y 6)))), (ad 6 7, .inl (G.2.1, 24, .inl (C_ea (H_cs Y 6))))] : va_W)) (show (ho, lh, ls, lw, lt, bn, cs) = s_selO (s_in x 1 200) (ho + x.toNatClampNeg) ((ho, lh, ls, lw, lt, bn, cs)) ((ho, lh, ls, lw, lt, bn, cs)) ((s_advs fl ai rn rf rt wi qu sh fn pn hk x.toNatClampNeg (ho, lh, ls, lw, lt, bn, cs))) from by simp only [s_selO, if_neg h8, if_neg n22]))
  · skip
    refine v_iconst (v := (-1)) dX3_hours_11 (by decide) ?_
    refine v_world (ws' := [(x0, .inr (3, [.ref o0, .ref g0, .ref (ad 0 0), .ref sA, .int (nI (H_ho (ho, lh, ls, lw, lt, bn, cs))), .int (nI de)])), (o0, .inr (2, [.ref oFa, .ref oWi, .ref oPa, .ref oQu, .ref oSh, .int (nI hk), .int fl, .int ai, .int rn, .int rf, .int rt])), (oFa, .inl (G.2.1, 6, .inl (pN fn))), (oWi, .inl (G.2.1, 6, .inl wi)), (oPa, .inl (G.2.1, 6, .inl (pN pn))), (oQu, .inl (G.2.1, 6, .inl qu)), (oSh, .inl (G.2.1, 24, .inl sh)), (g0, .inr (1, [.ref lH, .ref lS, .ref lW, .ref lT, .int (nI (min (H_bn (ho, lh, ls, lw, lt, bn, cs)) 60)), .int (nI (H_bn (ho, lh, ls, lw, lt, bn, cs)))])), (lH, .inl (G.2.1, 60, .inl (H_lh (ho, lh, ls, lw, lt, bn, cs)))), (lS, .inl (G.2.1, 60, .inl (H_ls (ho, lh, ls, lw, lt, bn, cs)))), (lW, .inl (G.2.1, 60, .inl (H_lw (ho, lh, ls, lw, lt, bn, cs)))), (lT, .inl (G.2.1, 4, .inl (H_lt (ho, lh, ls, lw, lt, bn, cs)))), (sA, .inl (G.2.2, 6, .inr (.inr (.inr (.inr (fun i => some (ad (i + 1) 0))))))), (ad 0 0, .inr (0, [.ref o0, .int (nvF 0), .ref (ad 0 1), .ref (ad 0 2), .ref (ad 0 3), .ref (ad 0 4), .ref (ad 0 5), .ref (ad 0 6), .ref (ad 0 7), .int (C_br (H_cs (ho, lh, ls, lw, lt, bn, cs) 0)), .int (C_du (H_cs (ho, lh, ls, lw, lt, bn, cs) 0)), .int (C_mi (H_cs (ho, lh, ls, lw, lt, bn, cs) 0)), .int (C_am (H_cs (ho, lh, ls, lw, lt, bn, cs) 0)), .int (C_mb (H_cs (ho, lh, ls, lw, lt, bn, cs) 0))])), (ad 0 1, .inl (G.2.1, 6, .inl (C_ca (H_cs (ho, lh, ls, lw, lt, bn, cs) 0)))), (ad 0 2, .inl (G.2.1, 6, .inl (C_tk (H_cs (ho, lh, ls, lw, lt, bn, cs) 0)))), (ad 0 3, .inl (G.2.1, 24, .inl (C_gr (H_cs (ho, lh, ls, lw, lt, bn, cs) 0)))), (ad 0 4, .inl (G.2.1, 24, .inl (C_go (H_cs (ho, lh, ls, lw, lt, bn, cs) 0)))), (ad 0 5, .inl (G.2.1, 24, .inl (C_we (H_cs (ho, lh, ls, lw, lt, bn, cs) 0)))), (ad 0 6, .inl (G.2.1, 24, .inl (C_dr (H_cs (ho, lh, ls, lw, lt, bn, cs) 0)))), (ad 0 7, .inl (G.2.1, 24, .inl (C_ea (H_cs (ho, lh, ls, lw, lt, bn, cs) 0)))), (ad 1 0, .inr (0, [.ref o0, .int (nvF 1), .ref (ad 1 1), .ref (ad 1 2), .ref (ad 1 3), .ref (ad 1 4), .ref (ad 1 5), .ref (ad 1 6), .ref (ad 1 7), .int (C_br (H_cs (ho, lh, ls, lw, lt, bn, cs) 1)), .int (C_du (H_cs (ho, lh, ls, lw, lt, bn, cs) 1)), .int (C_mi (H_cs (ho, lh, ls, lw, lt, bn, cs) 1)), .int (C_am (H_cs (ho, lh, ls, lw, lt, bn, cs) 1)), .int (C_mb (H_cs (ho, lh, ls, lw, lt, bn, cs) 1))])), (ad 1 1, .inl (G.2.1, 6, .inl (C_ca (H_cs (ho, lh, ls, lw, lt, bn, cs) 1)))), (ad 1 2, .inl (G.2.1, 6, .inl (C_tk (H_cs (ho, lh, ls, lw, lt, bn, cs) 1)))), (ad 1 3, .inl (G.2.1, 24, .inl (C_gr (H_cs (ho, lh, ls, lw, lt, bn, cs) 1)))), (ad 1 4, .inl (G.2.1, 24, .inl (C_go (H_cs (ho, lh, ls, lw, lt, bn, cs) 1)))), (ad 1 5, .inl (G.2.1, 24, .inl (C_we (H_cs (ho, lh, ls, lw, lt, bn, cs) 1)))), (ad 1 6, .inl (G.2.1, 24, .inl (C_dr (H_cs (ho, lh, ls, lw, lt, bn, cs) 1)))), (ad 1 7, .inl (G.2.1, 24, .inl (C_ea (H_cs (ho, lh, ls, lw, lt, bn, cs) 1)))), (ad 2 0, .inr (0, [.ref o0, .int (nvF 2), .ref (ad 2 1), .ref (ad 2 2), .ref (ad 2 3), .ref (ad 2 4), .ref (ad 2 5), .ref (ad 2 6), .ref (ad 2 7), .int (C_br (H_cs (ho, lh, ls, lw, lt, bn, cs) 2)), .int (C_du (H_cs (ho, lh, ls, lw, lt, bn, cs) 2)), .int (C_mi (H_cs (ho, lh, ls, lw, lt, bn, cs) 2)), .int (C_am (H_cs (ho, lh, ls, lw, lt, bn, cs) 2)), .int (C_mb (H_cs (ho, lh, ls, lw, lt, bn, cs) 2))])), (ad 2 1, .inl (G.2.1, 6, .inl (C_ca (H_cs (ho, lh, ls, lw, lt, bn, cs) 2)))), (ad 2 2, .inl (G.2.1, 6, .inl (C_tk (H_cs (ho, lh, ls, lw, lt, bn, cs) 2)))), (ad 2 3, .inl (G.2.1, 24, .inl (C_gr (H_cs (ho, lh, ls, lw, lt, bn, cs) 2)))), (ad 2 4, .inl (G.2.1, 24, .inl (C_go (H_cs (ho, lh, ls, lw, lt, bn, cs) 2)))), (ad 2 5, .inl (G.2.1, 24, .inl (C_we (H_cs (ho, lh, ls, lw, lt, bn, cs) 2)))), (ad 2 6, .inl (G.2.1, 24, .inl (C_dr (H_cs (ho, lh, ls, lw, lt, bn, cs) 2)))), (ad 2 7, .inl (G.2.1, 24, .inl (C_ea (H_cs (ho, lh, ls, lw, lt, bn, cs) 2)))), (ad 3 0, .inr (0, [.ref o0, .int (nvF 3), .ref (ad 3 1), .ref (ad 3 2), .ref (ad 3 3), .ref (ad 3 4), .ref (ad 3 5), .ref (ad 3 6), .ref (ad 3 7), .int (C_br (H_cs (ho, lh, ls, lw, lt, bn, cs) 3)), .int (C_du (H_cs (ho, lh, ls, lw, lt, bn, cs) 3)), .int (C_mi (H_cs (ho, lh, ls, lw, lt, bn, cs) 3)), .int (C_am (H_cs (ho, lh, ls, lw, lt, bn, cs) 3)), .int (C_mb (H_cs (ho, lh, ls, lw, lt, bn, cs) 3))])), (ad 3 1, .inl (G.2.1, 6, .inl (C_ca (H_cs (ho, lh, ls, lw, lt, bn, cs) 3)))), (ad 3 2, .inl (G.2.1, 6, .inl (C_tk (H_cs (ho, lh, ls, lw, lt, bn, cs) 3)))), (ad 3 3, .inl (G.2.1, 24, .inl (C_gr (H_cs (ho, lh, ls, lw, lt, bn, cs) 3)))), (ad 3 4, .inl (G.2.1, 24, .inl (C_go (H_cs (ho, lh, ls, lw, lt, bn, cs) 3)))), (ad 3 5, .inl (G.2.1, 24, .inl (C_we (H_cs (ho, lh, ls, lw, lt, bn, cs) 3)))), (ad 3 6, .inl (G.2.1, 24, .inl (C_dr (H_cs (ho, lh, ls, lw, lt, bn, cs) 3)))), (ad 3 7, .inl (G.2.1, 24, .inl (C_ea (H_cs (ho, lh, ls, lw, lt, bn, cs) 3)))), (ad 4 0, .inr (0, [.ref o0, .int (nvF 4), .ref (ad 4 1), .ref (ad 4 2), .ref (ad 4 3), .ref (ad 4 4), .ref (ad 4 5), .ref (ad 4 6), .ref (ad 4 7), .int (C_br (H_cs (ho, lh, ls, lw, lt, bn, cs) 4)), .int (C_du (H_cs (ho, lh, ls, lw, lt, bn, cs) 4)), .int (C_mi (H_cs (ho, lh, ls, lw, lt, bn, cs) 4)), .int (C_am (H_cs (ho, lh, ls, lw, lt, bn, cs) 4)), .int (C_mb (H_cs (ho, lh, ls, lw, lt, bn, cs) 4))])), (ad 4 1, .inl (G.2.1, 6, .inl (C_ca (H_cs (ho, lh, ls, lw, lt, bn, cs) 4)))), (ad 4 2, .inl (G.2.1, 6, .inl (C_tk (H_cs (ho, lh, ls, lw, lt, bn, cs) 4)))), (ad 4 3, .inl (G.2.1, 24, .inl (C_gr (H_cs (ho, lh, ls, lw, lt, bn, cs) 4)))), (ad 4 4, .inl (G.2.1, 24, .inl (C_go (H_cs (ho, lh, ls, lw, lt, bn, cs) 4)))), (ad 4 5, .inl (G.2.1, 24, .inl (C_we (H_cs (ho, lh, ls, lw, lt, bn, cs) 4)))), (ad 4 6, .inl (G.2.1, 24, .inl (C_dr (H_cs (ho, lh, ls, lw, lt, bn, cs) 4)))), (ad 4 7, .inl (G.2.1, 24, .inl (C_ea (H_cs (ho, lh, ls, lw, lt, bn, cs) 4)))), (ad 5 0, .inr (0, [.ref o0, .int (nvF 5), .ref (ad 5 1), .ref (ad 5 2), .ref (ad 5 3), .ref (ad 5 4), .ref (ad 5 5), .ref (ad 5 6), .ref (ad 5 7), .int (C_br (H_cs (ho, lh, ls, lw, lt, bn, cs) 5)), .int (C_du (H_cs (ho, lh, ls, lw, lt, bn, cs) 5)), .int (C_mi (H_cs (ho, lh, ls, lw, lt, bn, cs) 5)), .int (C_am (H_cs (ho, lh, ls, lw, lt, bn, cs) 5)), .int (C_mb (H_cs (ho, lh, ls, lw, lt, bn, cs) 5))])), (ad 5 1, .inl (G.2.1, 6, .inl (C_ca (H_cs (ho, lh, ls, lw, lt, bn, cs) 5)))), (ad 5 2, .inl (G.2.1, 6, .inl (C_tk (H_cs (ho, lh, ls, lw, lt, bn, cs) 5)))), (ad 5 3, .inl (G.2.1, 24, .inl (C_gr (H_cs (ho, lh, ls, lw, lt, bn, cs) 5)))), (ad 5 4, .inl (G.2.1, 24, .inl (C_go (H_cs (ho, lh, ls, lw, lt, bn, cs) 5)))), (ad 5 5, .inl (G.2.1, 24, .inl (C_we (H_cs (ho, lh, ls, lw, lt, bn, cs) 5)))), (ad 5 6, .inl (G.2.1, 24, .inl (C_dr (H_cs (ho, lh, ls, lw, lt, bn, cs) 5)))), (ad 5 7, .inl (G.2.1, 24, .inl (C_ea (H_cs (ho, lh, ls, lw, lt, bn, cs) 5)))), (ad 6 0, .inr (0, [.ref o0, .int (nvF 6), .ref (ad 6 1), .ref (ad 6 2), .ref (ad 6 3), .ref (ad 6 4), .ref (ad 6 5), .ref (ad 6 6), .ref (ad 6 7), .int (C_br (H_cs (ho, lh, ls, lw, lt, bn, cs) 6)), .int (C_du (H_cs (ho, lh, ls, lw, lt, bn, cs) 6)), .int (C_mi (H_cs (ho, lh, ls, lw, lt, bn, cs) 6)), .int (C_am (H_cs (ho, lh, ls, lw, lt, bn, cs) 6)), .int (C_mb (H_cs (ho, lh, ls, lw, lt, bn, cs) 6))])), (ad 6 1, .inl (G.2.1, 6, .inl (C_ca (H_cs (ho, lh, ls, lw, lt, bn, cs) 6)))), (ad 6 2, .inl (G.2.1, 6, .inl (C_tk (H_cs (ho, lh, ls, lw, lt, bn, cs) 6)))), (ad 6 3, .inl (G.2.1, 24, .inl (C_gr (H_cs (ho, lh, ls, lw, lt, bn, cs) 6)))), (ad 6 4, .inl (G.2.1, 24, .inl (C_go (H_cs (ho, lh, ls, lw, lt, bn, cs) 6)))), (ad 6 5, .inl (G.2.1, 24, .inl (C_we (H_cs (ho, lh, ls, lw, lt, bn, cs) 6)))), (ad 6 6, .inl (G.2.1, 24, .inl (C_dr (H_cs (ho, lh, ls, lw, lt, bn, cs) 6)))), (ad 6 7, .inl (G.2.1, 24, .inl (C_ea (H_cs (ho, lh, ls, lw, lt, bn, cs) 6))))]) rfl ?_
    exact v_iretM dX3_hours_12 (by simp only [s_selO, if_pos h8] <;> rfl) (v_w1 (fun (Y : HS) => ([(x0, .inr (3, [.ref o0, .ref g0, .ref (ad 0 0), .ref sA, .int (nI (H_ho Y)), .int (nI de)])), (o0, .inr (2, [.ref oFa, .ref oWi, .ref oPa, .ref oQu, .ref oSh, .int (nI hk), .int fl, .int ai, .int rn, .int rf, .int rt])), (oFa, .inl (G.2.1, 6, .inl (pN fn))), (oWi, .inl (G.2.1, 6, .inl wi)), (oPa, .inl (G.2.1, 6, .inl (pN pn))), (oQu, .inl (G.2.1, 6, .inl qu)), (oSh, .inl (G.2.1, 24, .inl sh)), (g0, .inr (1, [.ref lH, .ref lS, .ref lW, .ref lT, .int (nI (min (H_bn Y) 60)), .int (nI (H_bn Y))])), (lH, .inl (G.2.1, 60, .inl (H_lh Y))), (lS, .inl (G.2.1, 60, .inl (H_ls Y))), (lW, .inl (G.2.1, 60, .inl (H_lw Y))), (lT, .inl (G.2.1, 4, .inl (H_lt Y))), (sA, .inl (G.2.2, 6, .inr (.inr (.inr (.inr (fun i => some (ad (i + 1) 0))))))), (ad 0 0, .inr (0, [.ref o0, .int (nvF 0), .ref (ad 0 1), .ref (ad 0 2), .ref (ad 0 3), .ref (ad 0 4), .ref (ad 0 5), .ref (ad 0 6), .ref (ad 0 7), .int (C_br (H_cs Y 0)), .int (C_du (H_cs Y 0)), .int (C_mi (H_cs Y 0)), .int (C_am (H_cs Y 0)), .int (C_mb (H_cs Y 0))])), (ad 0 1, .inl (G.2.1, 6, .inl (C_ca (H_cs Y 0)))), (ad 0 2, .inl (G.2.1, 6, .inl (C_tk (H_cs Y 0)))), (ad 0 3, .inl (G.2.1, 24, .inl (C_gr (H_cs Y 0)))), (ad 0 4, .inl (G.2.1, 24, .inl (C_go (H_cs Y 0)))), (ad 0 5, .inl (G.2.1, 24, .inl (C_we (H_cs Y 0)))), (ad 0 6, .inl (G.2.1, 24, .inl (C_dr (H_cs Y 0)))), (ad 0 7, .inl (G.2.1, 24, .inl (C_ea (H_cs Y 0)))), (ad 1 0, .inr (0, [.ref o0, .int (nvF 1), .ref (ad 1 1), .ref (ad 1 2), .ref (ad 1 3), .ref (ad 1 4), .ref (ad 1 5), .ref (ad 1 6), .ref (ad 1 7), .int (C_br (H_cs Y 1)), .int (C_du (H_cs Y 1)), .int (C_mi (H_cs Y 1)), .int (C_am (H_cs Y 1)), .int (C_mb (H_cs Y 1))])), (ad 1 1, .inl (G.2.1, 6, .inl (C_ca (H_cs Y 1)))), (ad 1 2, .inl (G.2.1, 6, .inl (C_tk (H_cs Y 1)))), (ad 1 3, .inl (G.2.1, 24, .inl (C_gr (H_cs Y 1)))), (ad 1 4, .inl (G.2.1, 24, .inl (C_go (H_cs Y 1)))), (ad 1 5, .inl (G.2.1, 24, .inl (C_we (H_cs Y 1)))), (ad 1 6, .inl (G.2.1, 24, .inl (C_dr (H_cs Y 1)))), (ad 1 7, .inl (G.2.1, 24, .inl (C_ea (H_cs Y 1)))), (ad 2 0, .inr (0, [.ref o0, .int (nvF 2), .ref (ad 2 1), .ref (ad 2 2), .ref (ad 2 3), .ref (ad 2 4), .ref (ad 2 5), .ref (ad 2 6), .ref (ad 2 7), .int (C_br (H_cs Y 2)), .int (C_du (H_cs Y 2)), .int (C_mi (H_cs Y 2)), .int (C_am (H_cs Y 2)), .int (C_mb (H_cs Y 2))])), (ad 2 1, .inl (G.2.1, 6, .inl (C_ca (H_cs Y 2)))), (ad 2 2, .inl (G.2.1, 6, .inl (C_tk (H_cs Y 2)))), (ad 2 3, .inl (G.2.1, 24, .inl (C_gr (H_cs Y 2)))), (ad 2 4, .inl (G.2.1, 24, .inl (C_go (H_cs Y 2)))), (ad 2 5, .inl (G.2.1, 24, .inl (C_we (H_cs Y 2)))), (ad 2 6, .inl (G.2.1, 24, .inl (C_dr (H_cs Y 2)))), (ad 2 7, .inl (G.2.1, 24, .inl (C_ea (H_cs Y 2)))), (ad 3 0, .inr (0, [.ref o0, .int (nvF 3), .ref (ad 3 1), .ref (ad 3 2), .ref (ad 3 3), .ref (ad 3 4), .ref (ad 3 5), .ref (ad 3 6), .ref (ad 3 7), .int (C_br (H_cs Y 3)), .int (C_du (H_cs Y 3)), .int (C_mi (H_cs Y 3)), .int (C_am (H_cs Y 3)), .int (C_mb (H_cs Y 3))])), (ad 3 1, .inl (G.2.1, 6, .inl (C_ca (H_cs Y 3)))), (ad 3 2, .inl (G.2.1, 6, .inl (C_tk (H_cs Y 3)))), (ad 3 3, .inl (G.2.1, 24, .inl (C_gr (H_cs Y 3)))), (ad 3 4, .inl (G.2.1, 24, .inl (C_go (H_cs Y 3)))), (ad 3 5, .inl (G.2.1, 24, .inl (C_we (H_cs Y 3)))), (ad 3 6, .inl (G.2.1, 24, .inl (C_dr (H_cs Y 3)))), (ad 3 7, .inl (G.2.1, 24, .inl (C_ea (H_cs Y 3)))), (ad 4 0, .inr (0, [.ref o0, .int (nvF 4), .ref (ad 4 1), .ref (ad 4 2), .ref (ad 4 3), .ref (ad 4 4), .ref (ad 4 5), .ref (ad 4 6), .ref (ad 4 7), .int (C_br (H_cs Y 4)), .int (C_du (H_cs Y 4)), .int (C_mi (H_cs Y 4)), .int (C_am (H_cs Y 4)), .int (C_mb (H_cs Y 4))])), (ad 4 1, .inl (G.2.1, 6, .inl (C_ca (H_cs Y 4)))), (ad 4 2, .inl (G.2.1, 6, .inl (C_tk (H_cs Y 4)))), (ad 4 3, .inl (G.2.1, 24, .inl (C_gr (H_cs Y 4)))), (ad 4 4, .inl (G.2.1, 24, .inl (C_go (H_cs Y 4)))), (ad 4 5, .inl (G.2.1, 24, .inl (C_we (H_cs Y 4)))), (ad 4 6, .inl (G.2.1, 24, .inl (C_dr (H_cs Y 4)))), (ad 4 7, .inl (G.2.1, 24, .inl (C_ea (H_cs Y 4)))), (ad 5 0, .inr (0, [.ref o0, .int (nvF 5), .ref (ad 5 1), .ref (ad 5 2), .ref (ad 5 3), .ref (ad 5 4), .ref (ad 5 5), .ref (ad 5 6), .ref (ad 5 7), .int (C_br (H_cs Y 5)), .int (C_du (H_cs Y 5)), .int (C_mi (H_cs Y 5)), .int (C_am (H_cs Y 5)), .int (C_mb (H_cs Y 5))])), (ad 5 1, .inl (G.2.1, 6, .inl (C_ca (H_cs Y 5)))), (ad 5 2, .inl (G.2.1, 6, .inl (C_tk (H_cs Y 5)))), (ad 5 3, .inl (G.2.1, 24, .inl (C_gr (H_cs Y 5)))), (ad 5 4, .inl (G.2.1, 24, .inl (C_go (H_cs Y 5)))), (ad 5 5, .inl (G.2.1, 24, .inl (C_we (H_cs Y 5)))), (ad 5 6, .inl (G.2.1, 24, .inl (C_dr (H_cs Y 5)))), (ad 5 7, .inl (G.2.1, 24, .inl (C_ea (H_cs Y 5)))), (ad 6 0, .inr (0, [.ref o0, .int (nvF 6), .ref (ad 6 1), .ref (ad 6 2), .ref (ad 6 3), .ref (ad 6 4), .ref (ad 6 5), .ref (ad 6 6), .ref (ad 6 7), .int (C_br (H_cs Y 6)), .int (C_du (H_cs Y 6)), .int (C_mi (H_cs Y 6)), .int (C_am (H_cs Y 6)), .int (C_mb (H_cs Y 6))])), (ad 6 1, .inl (G.2.1, 6, .inl (C_ca (H_cs Y 6)))), (ad 6 2, .inl (G.2.1, 6, .inl (C_tk (H_cs Y 6)))), (ad 6 3, .inl (G.2.1, 24, .inl (C_gr (H_cs Y 6)))), (ad 6 4, .inl (G.2.1, 24, .inl (C_go (H_cs Y 6)))), (ad 6 5, .inl (G.2.1, 24, .inl (C_we (H_cs Y 6)))), (ad 6 6, .inl (G.2.1, 24, .inl (C_dr (H_cs Y 6)))), (ad 6 7, .inl (G.2.1, 24, .inl (C_ea (H_cs Y 6))))] : va_W)) (show (ho, lh, ls, lw, lt, bn, cs) = s_selO (s_in x 1 200) (ho + x.toNatClampNeg) ((ho, lh, ls, lw, lt, bn, cs)) ((ho, lh, ls, lw, lt, bn, cs)) ((s_advs fl ai rn rf rt wi qu sh fn pn hk x.toNatClampNeg (ho, lh, ls, lw, lt, bn, cs))) from by simp only [s_selO, if_pos h8]))
end
