section
-- ===== PART A: goes FIRST, ahead of the names: the tables' words, and 'selects' of the private methods out of them =====
/-- a private method of a class that the tables say can be made, by its rows of tables_1 -/
def lw_okq (q : MethodName × Nat) : Prop := (q.1.cls ≠ "java/lang/invoke/MethodHandle" ∧ q.1.cls ≠ "java/lang/invoke/VarHandle") ∧ Cond.instantiable q.1.cls q.2 ∈ tables_1 ∧ Cond.privateMethod q.1 ∈ tables_1 ∧ Cond.instanceMethod q.1 ∈ tables_1
theorem lw_p0 : lw_okq (⟨"WaterMeadows", "hasAllDeeds", "()Z"⟩, 6) := ⟨⟨by decide +kernel, by decide +kernel⟩, List.mem_of_getElem? (i := 8) (by decide +kernel), List.mem_of_getElem? (i := 195) (by decide +kernel), List.mem_of_getElem? (i := 196) (by decide +kernel)⟩
theorem lw_p1 : lw_okq (⟨"WaterMeadows", "advance", "()V"⟩, 6) := ⟨⟨by decide +kernel, by decide +kernel⟩, List.mem_of_getElem? (i := 8) (by decide +kernel), List.mem_of_getElem? (i := 247) (by decide +kernel), List.mem_of_getElem? (i := 248) (by decide +kernel)⟩
theorem lw_p2 : lw_okq (⟨"WaterMeadows$Course", "takeIn", "(II)V"⟩, 14) := ⟨⟨by decide +kernel, by decide +kernel⟩, List.mem_of_getElem? (i := 107) (by decide +kernel), List.mem_of_getElem? (i := 255) (by decide +kernel), List.mem_of_getElem? (i := 256) (by decide +kernel)⟩
theorem lw_p3 : lw_okq (⟨"WaterMeadows$Course", "soakPanes", "(I)I"⟩, 14) := ⟨⟨by decide +kernel, by decide +kernel⟩, List.mem_of_getElem? (i := 107) (by decide +kernel), List.mem_of_getElem? (i := 270) (by decide +kernel), List.mem_of_getElem? (i := 271) (by decide +kernel)⟩
theorem lw_p4 : lw_okq (⟨"WaterMeadows$Course", "tendPanes", "(II)V"⟩, 14) := ⟨⟨by decide +kernel, by decide +kernel⟩, List.mem_of_getElem? (i := 107) (by decide +kernel), List.mem_of_getElem? (i := 275) (by decide +kernel), List.mem_of_getElem? (i := 276) (by decide +kernel)⟩
theorem lw_p5 : lw_okq (⟨"WaterMeadows$Course", "growGrass", "(I)V"⟩, 14) := ⟨⟨by decide +kernel, by decide +kernel⟩, List.mem_of_getElem? (i := 107) (by decide +kernel), List.mem_of_getElem? (i := 284) (by decide +kernel), List.mem_of_getElem? (i := 285) (by decide +kernel)⟩
theorem lw_p6 : lw_okq (⟨"WaterMeadows$Course", "grazePane", "(I)V"⟩, 14) := ⟨⟨by decide +kernel, by decide +kernel⟩, List.mem_of_getElem? (i := 107) (by decide +kernel), List.mem_of_getElem? (i := 288) (by decide +kernel), List.mem_of_getElem? (i := 289) (by decide +kernel)⟩
theorem lw_p7 : lw_okq (⟨"WaterMeadows", "judgeHour", "()V"⟩, 6) := ⟨⟨by decide +kernel, by decide +kernel⟩, List.mem_of_getElem? (i := 8) (by decide +kernel), List.mem_of_getElem? (i := 304) (by decide +kernel), List.mem_of_getElem? (i := 305) (by decide +kernel)⟩
theorem lw_p8 : lw_okq (⟨"WaterMeadowsModel", "isFull", "()Z"⟩, 29) := ⟨⟨by decide +kernel, by decide +kernel⟩, List.mem_of_getElem? (i := 355) (by decide +kernel), List.mem_of_getElem? (i := 456) (by decide +kernel), List.mem_of_getElem? (i := 457) (by decide +kernel)⟩
theorem lw_p9 : lw_okq (⟨"WaterMeadowsModel", "isHatch", "(I)Z"⟩, 29) := ⟨⟨by decide +kernel, by decide +kernel⟩, List.mem_of_getElem? (i := 355) (by decide +kernel), List.mem_of_getElem? (i := 464) (by decide +kernel), List.mem_of_getElem? (i := 465) (by decide +kernel)⟩
theorem lw_p10 : lw_okq (⟨"WaterMeadowsModel", "isPane", "(II)Z"⟩, 29) := ⟨⟨by decide +kernel, by decide +kernel⟩, List.mem_of_getElem? (i := 355) (by decide +kernel), List.mem_of_getElem? (i := 484) (by decide +kernel), List.mem_of_getElem? (i := 485) (by decide +kernel)⟩
theorem lw_p11 : lw_okq (⟨"WaterMeadowsModel", "flows", "(I)V"⟩, 29) := ⟨⟨by decide +kernel, by decide +kernel⟩, List.mem_of_getElem? (i := 355) (by decide +kernel), List.mem_of_getElem? (i := 496) (by decide +kernel), List.mem_of_getElem? (i := 497) (by decide +kernel)⟩
theorem lw_p12 : lw_okq (⟨"WaterMeadowsModel", "most", "(II)I"⟩, 29) := ⟨⟨by decide +kernel, by decide +kernel⟩, List.mem_of_getElem? (i := 355) (by decide +kernel), List.mem_of_getElem? (i := 500) (by decide +kernel), List.mem_of_getElem? (i := 501) (by decide +kernel)⟩
theorem lw_p13 : lw_okq (⟨"WaterMeadowsModel", "grows", "(III)V"⟩, 29) := ⟨⟨by decide +kernel, by decide +kernel⟩, List.mem_of_getElem? (i := 355) (by decide +kernel), List.mem_of_getElem? (i := 504) (by decide +kernel), List.mem_of_getElem? (i := 505) (by decide +kernel)⟩
theorem lw_p14 : lw_okq (⟨"WaterMeadowsModel", "judges", "()V"⟩, 29) := ⟨⟨by decide +kernel, by decide +kernel⟩, List.mem_of_getElem? (i := 355) (by decide +kernel), List.mem_of_getElem? (i := 508) (by decide +kernel), List.mem_of_getElem? (i := 509) (by decide +kernel)⟩
theorem lw_p15 : lw_okq (⟨"WaterMeadowsModel", "breaks", "(II)V"⟩, 29) := ⟨⟨by decide +kernel, by decide +kernel⟩, List.mem_of_getElem? (i := 355) (by decide +kernel), List.mem_of_getElem? (i := 512) (by decide +kernel), List.mem_of_getElem? (i := 513) (by decide +kernel)⟩
def lw_privs_1 : List (MethodName × Nat) := [(⟨"WaterMeadows", "hasAllDeeds", "()Z"⟩, 6), (⟨"WaterMeadows", "advance", "()V"⟩, 6), (⟨"WaterMeadows$Course", "takeIn", "(II)V"⟩, 14), (⟨"WaterMeadows$Course", "soakPanes", "(I)I"⟩, 14), (⟨"WaterMeadows$Course", "tendPanes", "(II)V"⟩, 14), (⟨"WaterMeadows$Course", "growGrass", "(I)V"⟩, 14), (⟨"WaterMeadows$Course", "grazePane", "(I)V"⟩, 14), (⟨"WaterMeadows", "judgeHour", "()V"⟩, 6), (⟨"WaterMeadowsModel", "isFull", "()Z"⟩, 29), (⟨"WaterMeadowsModel", "isHatch", "(I)Z"⟩, 29), (⟨"WaterMeadowsModel", "isPane", "(II)Z"⟩, 29), (⟨"WaterMeadowsModel", "flows", "(I)V"⟩, 29), (⟨"WaterMeadowsModel", "most", "(II)I"⟩, 29), (⟨"WaterMeadowsModel", "grows", "(III)V"⟩, 29), (⟨"WaterMeadowsModel", "judges", "()V"⟩, 29), (⟨"WaterMeadowsModel", "breaks", "(II)V"⟩, 29)]
theorem lw_r1 : ∀ q ∈ lw_privs_1, lw_okq q := List.forall_mem_cons.mpr ⟨lw_p0, List.forall_mem_cons.mpr ⟨lw_p1, List.forall_mem_cons.mpr ⟨lw_p2, List.forall_mem_cons.mpr ⟨lw_p3, List.forall_mem_cons.mpr ⟨lw_p4, List.forall_mem_cons.mpr ⟨lw_p5, List.forall_mem_cons.mpr ⟨lw_p6, List.forall_mem_cons.mpr ⟨lw_p7, List.forall_mem_cons.mpr ⟨lw_p8, List.forall_mem_cons.mpr ⟨lw_p9, List.forall_mem_cons.mpr ⟨lw_p10, List.forall_mem_cons.mpr ⟨lw_p11, List.forall_mem_cons.mpr ⟨lw_p12, List.forall_mem_cons.mpr ⟨lw_p13, List.forall_mem_cons.mpr ⟨lw_p14, List.forall_mem_cons.mpr ⟨lw_p15, fun _ h => absurd h List.not_mem_nil⟩⟩⟩⟩⟩⟩⟩⟩⟩⟩⟩⟩⟩⟩⟩⟩
theorem lw_p16 : lw_okq (⟨"WaterMeadowsModel", "sum", "([II)I"⟩, 29) := ⟨⟨by decide +kernel, by decide +kernel⟩, List.mem_of_getElem? (i := 355) (by decide +kernel), List.mem_of_getElem? (i := 528) (by decide +kernel), List.mem_of_getElem? (i := 529) (by decide +kernel)⟩
theorem lw_p17 : lw_okq (⟨"WaterMeadowsModel", "ofFarm", "([III)I"⟩, 29) := ⟨⟨by decide +kernel, by decide +kernel⟩, List.mem_of_getElem? (i := 355) (by decide +kernel), List.mem_of_getElem? (i := 540) (by decide +kernel), List.mem_of_getElem? (i := 541) (by decide +kernel)⟩
def lw_privs_2 : List (MethodName × Nat) := [(⟨"WaterMeadowsModel", "sum", "([II)I"⟩, 29), (⟨"WaterMeadowsModel", "ofFarm", "([III)I"⟩, 29)]
theorem lw_r2 : ∀ q ∈ lw_privs_2, lw_okq q := List.forall_mem_cons.mpr ⟨lw_p16, List.forall_mem_cons.mpr ⟨lw_p17, fun _ h => absurd h List.not_mem_nil⟩⟩
def lw_privs : List (MethodName × Nat) := lw_privs_1 ++ (lw_privs_2)
def lw_tbl : List Cond := k2_sels lw_privs ++ tables_1
theorem lw_privs_ok : ∀ q ∈ lw_privs, lw_okq q := by
  show ∀ q ∈ lw_privs_1 ++ (lw_privs_2), lw_okq q
  exact List.forall_mem_append.mpr ⟨lw_r1, lw_r2⟩
-- ===== end of PART A; then your names; then what follows =====
end
section
/-! ===== BEGIN words of one list among another's, by their places ===== -/
theorem goodIn_r {big : List Cond} (ws : List Cond) (ps : List Nat) (hp : ws = ps.filterMap (fun i => big[i]?)) (h : ws.all goodWord = true) : GoodIn big ws := by
  intro w hw
  have h1 := List.all_eq_true.mp h w hw
  rw [hp] at hw
  obtain ⟨i, -, hi⟩ := List.mem_filterMap.mp hw
  have hm : w ∈ big := by first | exact List.mem_of_getElem? hi | exact List.getElem?_mem hi
  exact ⟨hm, good_of_word h1⟩
theorem goodIn_app {big a b : List Cond} (ha : GoodIn big a) (hb : GoodIn big b) : GoodIn big (a ++ b) := fun w h => (List.mem_append.mp h).elim (ha w) (hb w)
theorem goodIn_ca {big a b : List Cond} {c : Cond} (ha : GoodIn big (c :: a)) (hb : GoodIn big b) : GoodIn big (c :: (a ++ b)) := fun w h => (List.mem_cons.mp h).elim (fun e => ha w (List.mem_cons.mpr (Or.inl e))) (fun h => (List.mem_append.mp h).elim (fun h => ha w (List.mem_cons.mpr (Or.inr h))) (hb w))
theorem goodIn_sub {big ws : List Cond} (hm : ∀ w ∈ ws, w ∈ big) (h : ws.all goodWord = true) : GoodIn big ws := fun w hw => ⟨hm w hw, good_of_word (List.all_eq_true.mp h w hw)⟩
/-! ===== END ===== -/

/-! ===== BEGIN printed: names, fields, word lists, decode rows ===== -/
def RX0 : String := "WaterMeadows$Course"
def TX0 : u_T := fun k => match k with
  | 0 => ("WaterMeadows$Course", "orders", "LWaterMeadows$Orders;", true)
  | 1 => ("WaterMeadows$Course", "neverOpen", "I", true)
  | 2 => ("WaterMeadows$Course", "carried", "[I", true)
  | 3 => ("WaterMeadows$Course", "took", "[I", true)
  | 4 => ("WaterMeadows$Course", "grass", "[I", true)
  | 5 => ("WaterMeadows$Course", "got", "[I", true)
  | 6 => ("WaterMeadows$Course", "wetHours", "[I", true)
  | 7 => ("WaterMeadows$Course", "drank", "[I", true)
  | 8 => ("WaterMeadows$Course", "eaten", "[I", true)
  | 9 => ("WaterMeadows$Course", "brought", "I", false)
  | 10 => ("WaterMeadows$Course", "drunk", "I", false)
  | 11 => ("WaterMeadows$Course", "milled", "I", false)
  | 12 => ("WaterMeadows$Course", "atMill", "I", false)
  | _ => ("WaterMeadows$Course", "millBroken", "I", false)
def tyX0 : Nat → FieldType := fun k => match k with
  | 0 => .object "WaterMeadows$Orders"
  | 1 => .int
  | 2 => .array .int
  | 3 => .array .int
  | 4 => .array .int
  | 5 => .array .int
  | 6 => .array .int
  | 7 => .array .int
  | 8 => .array .int
  | 9 => .int
  | 10 => .int
  | 11 => .int
  | 12 => .int
  | _ => .int
abbrev wsX00 : List Cond := u_ws RX0 TX0 14
theorem nmX0 : ∀ a, a < 14 → ∀ b, b < 14 → a ≠ b → (TX0 a).2.1 ≠ (TX0 b).2.1 := by decide +kernel
theorem tyX0_ok : ∀ k, k < 14 → parseFieldDescriptor (TX0 k).2.2.1 = some (tyX0 k) := by decide +kernel
abbrev cX0_init : ByteArray := prog_2_method_1_code
def yX0_init : MethodName := ⟨RX0, "<init>", "(LWaterMeadows$Orders;I)V"⟩
abbrev cX0_siltOf : ByteArray := prog_2_method_2_code
def yX0_siltOf : MethodName := ⟨RX0, "siltOf", "(I)I"⟩
abbrev cX0_mostOf : ByteArray := prog_2_method_3_code
def yX0_mostOf : MethodName := ⟨RX0, "mostOf", "(I)I"⟩
abbrev cX0_passHour : ByteArray := prog_2_method_4_code
def yX0_passHour : MethodName := ⟨RX0, "passHour", "(I)V"⟩
abbrev cX0_isMillShort : ByteArray := prog_2_method_5_code
def yX0_isMillShort : MethodName := ⟨RX0, "isMillShort", "(I)Z"⟩
abbrev cX0_sumOfFarm : ByteArray := prog_2_method_6_code
def yX0_sumOfFarm : MethodName := ⟨RX0, "sumOfFarm", "([II)I"⟩
abbrev cX0_takeIn : ByteArray := prog_2_method_7_code
def yX0_takeIn : MethodName := ⟨RX0, "takeIn", "(II)V"⟩
abbrev cX0_soakPanes : ByteArray := prog_2_method_8_code
def yX0_soakPanes : MethodName := ⟨RX0, "soakPanes", "(I)I"⟩
abbrev cX0_tendPanes : ByteArray := prog_2_method_9_code
def yX0_tendPanes : MethodName := ⟨RX0, "tendPanes", "(II)V"⟩
abbrev cX0_growGrass : ByteArray := prog_2_method_10_code
def yX0_growGrass : MethodName := ⟨RX0, "growGrass", "(I)V"⟩
abbrev cX0_grazePane : ByteArray := prog_2_method_11_code
def yX0_grazePane : MethodName := ⟨RX0, "grazePane", "(I)V"⟩
def RX1 : String := "WaterMeadows$Ledger"
def TX1 : u_T := fun k => match k with
  | 0 => ("WaterMeadows$Ledger", "hourOf", "[I", true)
  | 1 => ("WaterMeadows$Ledger", "sortOf", "[I", true)
  | 2 => ("WaterMeadows$Ledger", "whoOf", "[I", true)
  | 3 => ("WaterMeadows$Ledger", "turnsOf", "[I", true)
  | 4 => ("WaterMeadows$Ledger", "kept", "I", false)
  | _ => ("WaterMeadows$Ledger", "all", "I", false)
def tyX1 : Nat → FieldType := fun k => match k with
  | 0 => .array .int
  | 1 => .array .int
  | 2 => .array .int
  | 3 => .array .int
  | 4 => .int
  | _ => .int
abbrev wsX10 : List Cond := u_ws RX1 TX1 6
theorem nmX1 : ∀ a, a < 6 → ∀ b, b < 6 → a ≠ b → (TX1 a).2.1 ≠ (TX1 b).2.1 := by decide +kernel
theorem tyX1_ok : ∀ k, k < 6 → parseFieldDescriptor (TX1 k).2.2.1 = some (tyX1 k) := by decide +kernel
abbrev cX1_init : ByteArray := prog_3_method_1_code
def yX1_init : MethodName := ⟨RX1, "<init>", "()V"⟩
abbrev cX1_enterTurn : ByteArray := prog_3_method_2_code
def yX1_enterTurn : MethodName := ⟨RX1, "enterTurn", "(III)V"⟩
abbrev cX1_enter : ByteArray := prog_3_method_3_code
def yX1_enter : MethodName := ⟨RX1, "enter", "(III)V"⟩
def RX2 : String := "WaterMeadows$Orders"
def TX2 : u_T := fun k => match k with
  | 0 => ("WaterMeadows$Orders", "farmOf", "[I", true)
  | 1 => ("WaterMeadows$Orders", "widthOf", "[I", true)
  | 2 => ("WaterMeadows$Orders", "panesOf", "[I", true)
  | 3 => ("WaterMeadows$Orders", "quartersOf", "[I", true)
  | 4 => ("WaterMeadows$Orders", "sheepOn", "[I", true)
  | 5 => ("WaterMeadows$Orders", "hatches", "I", false)
  | 6 => ("WaterMeadows$Orders", "flowNow", "I", false)
  | 7 => ("WaterMeadows$Orders", "airNow", "I", false)
  | 8 => ("WaterMeadows$Orders", "rightNow", "I", false)
  | 9 => ("WaterMeadows$Orders", "rightFrom", "I", false)
  | _ => ("WaterMeadows$Orders", "rightAheadOf", "I", false)
def tyX2 : Nat → FieldType := fun k => match k with
  | 0 => .array .int
  | 1 => .array .int
  | 2 => .array .int
  | 3 => .array .int
  | 4 => .array .int
  | 5 => .int
  | 6 => .int
  | 7 => .int
  | 8 => .int
  | 9 => .int
  | _ => .int
abbrev wsX20 : List Cond := u_ws RX2 TX2 11
theorem nmX2 : ∀ a, a < 11 → ∀ b, b < 11 → a ≠ b → (TX2 a).2.1 ≠ (TX2 b).2.1 := by decide +kernel
theorem tyX2_ok : ∀ k, k < 11 → parseFieldDescriptor (TX2 k).2.2.1 = some (tyX2 k) := by decide +kernel
abbrev cX2_init : ByteArray := prog_4_method_1_code
def yX2_init : MethodName := ⟨RX2, "<init>", "()V"⟩
abbrev cX2_isHatch : ByteArray := prog_4_method_2_code
def yX2_isHatch : MethodName := ⟨RX2, "isHatch", "(I)Z"⟩
abbrev cX2_isPane : ByteArray := prog_4_method_3_code
def yX2_isPane : MethodName := ⟨RX2, "isPane", "(II)Z"⟩
abbrev cX2_addHatch : ByteArray := prog_4_method_4_code
def yX2_addHatch : MethodName := ⟨RX2, "addHatch", "(III)I"⟩
abbrev cX2_isLawless : ByteArray := prog_4_method_5_code
def yX2_isLawless : MethodName := ⟨RX2, "isLawless", "()Z"⟩
abbrev cX2_isOutOfTurn : ByteArray := prog_4_method_6_code
def yX2_isOutOfTurn : MethodName := ⟨RX2, "isOutOfTurn", "(II)Z"⟩
abbrev cX2_rightAt : ByteArray := prog_4_method_7_code
def yX2_rightAt : MethodName := ⟨RX2, "rightAt", "(I)I"⟩
abbrev cX2_isGrazing : ByteArray := prog_4_method_8_code
def yX2_isGrazing : MethodName := ⟨RX2, "isGrazing", "(I)Z"⟩
def RX3 : String := "WaterMeadows"
def TX3 : u_T := fun k => match k with
  | 0 => ("WaterMeadows", "orders", "LWaterMeadows$Orders;", true)
  | 1 => ("WaterMeadows", "ledger", "LWaterMeadows$Ledger;", true)
  | 2 => ("WaterMeadows", "real", "LWaterMeadows$Course;", true)
  | 3 => ("WaterMeadows", "shut", "[LWaterMeadows$Course;", true)
  | 4 => ("WaterMeadows", "hourNow", "I", false)
  | _ => ("WaterMeadows", "deeds", "I", false)
def tyX3 : Nat → FieldType := fun k => match k with
  | 0 => .object "WaterMeadows$Orders"
  | 1 => .object "WaterMeadows$Ledger"
  | 2 => .object "WaterMeadows$Course"
  | 3 => .array (.object "WaterMeadows$Course")
  | 4 => .int
  | _ => .int
abbrev wsX30 : List Cond := u_ws RX3 TX3 6
theorem nmX3 : ∀ a, a < 6 → ∀ b, b < 6 → a ≠ b → (TX3 a).2.1 ≠ (TX3 b).2.1 := by decide +kernel
theorem tyX3_ok : ∀ k, k < 6 → parseFieldDescriptor (TX3 k).2.2.1 = some (tyX3 k) := by decide +kernel
abbrev cX3_init : ByteArray := prog_1_method_1_code
def yX3_init : MethodName := ⟨RX3, "<init>", "()V"⟩
abbrev cX3_hatch : ByteArray := prog_1_method_2_code
def yX3_hatch : MethodName := ⟨RX3, "hatch", "(III)I"⟩
abbrev cX3_open : ByteArray := prog_1_method_3_code
def yX3_open : MethodName := ⟨RX3, "open", "(II)I"⟩
abbrev cX3_flow : ByteArray := prog_1_method_4_code
def yX3_flow : MethodName := ⟨RX3, "flow", "(I)I"⟩
abbrev cX3_air : ByteArray := prog_1_method_5_code
def yX3_air : MethodName := ⟨RX3, "air", "(I)I"⟩
abbrev cX3_dig : ByteArray := prog_1_method_6_code
def yX3_dig : MethodName := ⟨RX3, "dig", "(I)I"⟩
abbrev cX3_sheep : ByteArray := prog_1_method_7_code
def yX3_sheep : MethodName := ⟨RX3, "sheep", "(III)I"⟩
abbrev cX3_right : ByteArray := prog_1_method_8_code
def yX3_right : MethodName := ⟨RX3, "right", "(III)I"⟩
abbrev cX3_hours : ByteArray := prog_1_method_9_code
def yX3_hours : MethodName := ⟨RX3, "hours", "(I)I"⟩
abbrev cX3_told : ByteArray := prog_1_method_10_code
def yX3_told : MethodName := ⟨RX3, "told", "(II)I"⟩
abbrev cX3_pane : ByteArray := prog_1_method_11_code
def yX3_pane : MethodName := ⟨RX3, "pane", "(III)I"⟩
abbrev cX3_stream : ByteArray := prog_1_method_12_code
def yX3_stream : MethodName := ⟨RX3, "stream", "(I)I"⟩
abbrev cX3_broken : ByteArray := prog_1_method_13_code
def yX3_broken : MethodName := ⟨RX3, "broken", "(II)I"⟩
abbrev cX3_farm : ByteArray := prog_1_method_14_code
def yX3_farm : MethodName := ⟨RX3, "farm", "(II)I"⟩
abbrev cX3_without : ByteArray := prog_1_method_15_code
def yX3_without : MethodName := ⟨RX3, "without", "(II)I"⟩
abbrev cX3_count : ByteArray := prog_1_method_16_code
def yX3_count : MethodName := ⟨RX3, "count", "(I)I"⟩
abbrev cX3_isWithin : ByteArray := prog_1_method_17_code
def yX3_isWithin : MethodName := ⟨RX3, "isWithin", "(III)Z"⟩
abbrev cX3_placeOf : ByteArray := prog_1_method_18_code
def yX3_placeOf : MethodName := ⟨RX3, "placeOf", "(II)I"⟩
abbrev cX3_hasAllDeeds : ByteArray := prog_1_method_19_code
def yX3_hasAllDeeds : MethodName := ⟨RX3, "hasAllDeeds", "()Z"⟩
abbrev cX3_advance : ByteArray := prog_1_method_20_code
def yX3_advance : MethodName := ⟨RX3, "advance", "()V"⟩
abbrev cX3_judgeHour : ByteArray := prog_1_method_21_code
def yX3_judgeHour : MethodName := ⟨RX3, "judgeHour", "()V"⟩
def RX4 : String := "WaterMeadowsModel"
def TX4 : u_T := fun k => match k with
  | 0 => ("WaterMeadowsModel", "hatches", "I", false)
  | 1 => ("WaterMeadowsModel", "hour", "I", false)
  | 2 => ("WaterMeadowsModel", "deeds", "I", false)
  | 3 => ("WaterMeadowsModel", "flow", "I", false)
  | 4 => ("WaterMeadowsModel", "air", "I", false)
  | 5 => ("WaterMeadowsModel", "right", "I", false)
  | 6 => ("WaterMeadowsModel", "from", "I", false)
  | 7 => ("WaterMeadowsModel", "to", "I", false)
  | 8 => ("WaterMeadowsModel", "farm", "[I", true)
  | 9 => ("WaterMeadowsModel", "width", "[I", true)
  | 10 => ("WaterMeadowsModel", "panes", "[I", true)
  | 11 => ("WaterMeadowsModel", "open", "[I", true)
  | 12 => ("WaterMeadowsModel", "sheep", "[I", true)
  | 13 => ("WaterMeadowsModel", "carried", "[I", true)
  | 14 => ("WaterMeadowsModel", "took", "[I", true)
  | 15 => ("WaterMeadowsModel", "grass", "[I", true)
  | 16 => ("WaterMeadowsModel", "got", "[I", true)
  | 17 => ("WaterMeadowsModel", "wet", "[I", true)
  | 18 => ("WaterMeadowsModel", "drunk", "[I", true)
  | 19 => ("WaterMeadowsModel", "eaten", "[I", true)
  | 20 => ("WaterMeadowsModel", "mill", "[I", true)
  | 21 => ("WaterMeadowsModel", "millLast", "[I", true)
  | 22 => ("WaterMeadowsModel", "millBroken", "[I", true)
  | 23 => ("WaterMeadowsModel", "brought", "I", false)
  | 24 => ("WaterMeadowsModel", "broken", "I", false)
  | 25 => ("WaterMeadowsModel", "brokenHour", "[I", true)
  | 26 => ("WaterMeadowsModel", "brokenSort", "[I", true)
  | 27 => ("WaterMeadowsModel", "brokenWho", "[I", true)
  | _ => ("WaterMeadowsModel", "turnsBroken", "[I", true)
def tyX4 : Nat → FieldType := fun k => match k with
  | 0 => .int
  | 1 => .int
  | 2 => .int
  | 3 => .int
  | 4 => .int
  | 5 => .int
  | 6 => .int
  | 7 => .int
  | 8 => .array .int
  | 9 => .array .int
  | 10 => .array .int
  | 11 => .array .int
  | 12 => .array .int
  | 13 => .array .int
  | 14 => .array .int
  | 15 => .array .int
  | 16 => .array .int
  | 17 => .array .int
  | 18 => .array .int
  | 19 => .array .int
  | 20 => .array .int
  | 21 => .array .int
  | 22 => .array .int
  | 23 => .int
  | 24 => .int
  | 25 => .array .int
  | 26 => .array .int
  | 27 => .array .int
  | _ => .array .int
abbrev wsX40 : List Cond := u_ws RX4 TX4 29
theorem nmX4 : ∀ a, a < 29 → ∀ b, b < 29 → a ≠ b → (TX4 a).2.1 ≠ (TX4 b).2.1 := by decide +kernel
theorem tyX4_ok : ∀ k, k < 29 → parseFieldDescriptor (TX4 k).2.2.1 = some (tyX4 k) := by decide +kernel
abbrev cX4_init : ByteArray := prog_6_method_1_code
def yX4_init : MethodName := ⟨RX4, "<init>", "()V"⟩
abbrev cX4_in : ByteArray := prog_6_method_2_code
def yX4_in : MethodName := ⟨RX4, "in", "(III)Z"⟩
abbrev cX4_isHatch : ByteArray := prog_6_method_3_code
def yX4_isHatch : MethodName := ⟨RX4, "isHatch", "(I)Z"⟩
abbrev cX4_isFull : ByteArray := prog_6_method_4_code
def yX4_isFull : MethodName := ⟨RX4, "isFull", "()Z"⟩
abbrev cX4_hatch : ByteArray := prog_6_method_5_code
def yX4_hatch : MethodName := ⟨RX4, "hatch", "(III)I"⟩
abbrev cX4_open : ByteArray := prog_6_method_6_code
def yX4_open : MethodName := ⟨RX4, "open", "(II)I"⟩
abbrev cX4_flow : ByteArray := prog_6_method_7_code
def yX4_flow : MethodName := ⟨RX4, "flow", "(I)I"⟩
abbrev cX4_air : ByteArray := prog_6_method_8_code
def yX4_air : MethodName := ⟨RX4, "air", "(I)I"⟩
abbrev cX4_dig : ByteArray := prog_6_method_9_code
def yX4_dig : MethodName := ⟨RX4, "dig", "(I)I"⟩
abbrev cX4_isPane : ByteArray := prog_6_method_10_code
def yX4_isPane : MethodName := ⟨RX4, "isPane", "(II)Z"⟩
abbrev cX4_sheep : ByteArray := prog_6_method_11_code
def yX4_sheep : MethodName := ⟨RX4, "sheep", "(III)I"⟩
abbrev cX4_right : ByteArray := prog_6_method_12_code
def yX4_right : MethodName := ⟨RX4, "right", "(III)I"⟩
abbrev cX4_most : ByteArray := prog_6_method_13_code
def yX4_most : MethodName := ⟨RX4, "most", "(II)I"⟩
abbrev cX4_flows : ByteArray := prog_6_method_14_code
def yX4_flows : MethodName := ⟨RX4, "flows", "(I)V"⟩
abbrev cX4_grows : ByteArray := prog_6_method_15_code
def yX4_grows : MethodName := ⟨RX4, "grows", "(III)V"⟩
abbrev cX4_breaks : ByteArray := prog_6_method_16_code
def yX4_breaks : MethodName := ⟨RX4, "breaks", "(II)V"⟩
abbrev cX4_judges : ByteArray := prog_6_method_17_code
def yX4_judges : MethodName := ⟨RX4, "judges", "()V"⟩
abbrev cX4_hours : ByteArray := prog_6_method_18_code
def yX4_hours : MethodName := ⟨RX4, "hours", "(I)I"⟩
abbrev cX4_told : ByteArray := prog_6_method_19_code
def yX4_told : MethodName := ⟨RX4, "told", "(II)I"⟩
abbrev cX4_pane : ByteArray := prog_6_method_20_code
def yX4_pane : MethodName := ⟨RX4, "pane", "(III)I"⟩
abbrev cX4_sum : ByteArray := prog_6_method_21_code
def yX4_sum : MethodName := ⟨RX4, "sum", "([II)I"⟩
abbrev cX4_stream : ByteArray := prog_6_method_22_code
def yX4_stream : MethodName := ⟨RX4, "stream", "(I)I"⟩
abbrev cX4_broken : ByteArray := prog_6_method_23_code
def yX4_broken : MethodName := ⟨RX4, "broken", "(II)I"⟩
abbrev cX4_ofFarm : ByteArray := prog_6_method_24_code
def yX4_ofFarm : MethodName := ⟨RX4, "ofFarm", "([III)I"⟩
abbrev cX4_farm : ByteArray := prog_6_method_25_code
def yX4_farm : MethodName := ⟨RX4, "farm", "(II)I"⟩
abbrev cX4_without : ByteArray := prog_6_method_26_code
def yX4_without : MethodName := ⟨RX4, "without", "(II)I"⟩
abbrev cX4_count : ByteArray := prog_6_method_27_code
def yX4_count : MethodName := ⟨RX4, "count", "(I)I"⟩
def RJ9 : String := "java/lang/Math"
def TJ9 : u_T := fun k => match k with
  | _ => ("", "", "", false)
def tyJ9 : Nat → FieldType := fun k => match k with
  | _ => .int
abbrev wsJ90 : List Cond := u_ws RJ9 TJ9 0
theorem nmJ9 : ∀ a, a < 0 → ∀ b, b < 0 → a ≠ b → (TJ9 a).2.1 ≠ (TJ9 b).2.1 := by decide +kernel
theorem tyJ9_ok : ∀ k, k < 0 → parseFieldDescriptor (TJ9 k).2.2.1 = some (tyJ9 k) := by decide +kernel
abbrev cJ9_max_7cf53 : ByteArray := prog_7_method_65_code
def yJ9_max_7cf53 : MethodName := ⟨RJ9, "max", "(II)I"⟩
abbrev cJ9_min_7cf53 : ByteArray := prog_7_method_69_code
def yJ9_min_7cf53 : MethodName := ⟨RJ9, "min", "(II)I"⟩
def RL : String := "WaterMeadowsLaw"
abbrev cL_law : ByteArray := code
def yL_law : MethodName := ⟨RL, "law", "([I)Z"⟩
abbrev vwCl : List vw_C := [(RX0, TX0, 14), (RX1, TX1, 6), (RX2, TX2, 11), (RX3, TX3, 6), (RX4, TX4, 29)]
end
section
/-! ===== the walk's own judgement: V, world, locals, pc and stack in the goal; contracts RdI (reads), MuI, MuV (writes in place) ===== -/
abbrev v_Cfg : Type := va_G × ClassId × ClassId
abbrev v_tys (G : v_Cfg) : List (ClassId × FieldType) := [(G.2.1, .int), (G.2.2, .object RX0)]
def v_n97 : Cond := .methodLinkNest RX0 97 yX3_placeOf RX3
def v_n54 : Cond := .methodLinkNest RX2 54 yX3_isWithin RX3
def xK (G : v_Cfg) (U : State) : Prop := va_K G.1 vwCl (v_tys G) U ∧ va_Nw v_n97 U ∧ va_Nw v_n54 U
theorem xK.warm {G : v_Cfg} {s U : State} (hW : s.WarmedH U.vm) (h : xK G s) : xK G U := ⟨va_K.moved hW.alike h.1, va_Nw.warmM hW h.2.1, va_Nw.warmM hW h.2.2⟩
theorem xK.same {G : v_Cfg} {s U : State} (e : s.vm = U.vm) (h : xK G s) : xK G U := ⟨va_K.moved (by rw [e]; exact Vm.Alike.refl _) h.1, va_Nw.same rfl e h.2.1, va_Nw.same rfl e h.2.2⟩
/-- the tables' words that stay true under every call -/
def tbG : List Cond := lw_tbl.filter goodWord
theorem tb_in {w : Cond} (h : w ∈ lw_tbl) (g : goodWord w = true) : w ∈ tbG := List.mem_filter.mpr ⟨h, g⟩
theorem tb_0 {w : Cond} {i : Nat} (h : (k2_sels lw_privs)[i]? = some w) (g : goodWord w = true) : w ∈ tbG := tb_in (List.mem_append_left _ (List.mem_of_getElem? h)) g
theorem tb_1 {w : Cond} {i : Nat} (h : tables_1_1[i]? = some w) (g : goodWord w = true) : w ∈ tbG := tb_in (List.mem_append_right _ (List.mem_append_left _ (List.mem_of_getElem? h))) g
theorem tb_2 {w : Cond} {i : Nat} (h : tables_1_2[i]? = some w) (g : goodWord w = true) : w ∈ tbG := tb_in (List.mem_append_right _ (List.mem_append_right _ (List.mem_append_left _ (List.mem_of_getElem? h)))) g
theorem tb_3 {w : Cond} {i : Nat} (h : tables_1_3[i]? = some w) (g : goodWord w = true) : w ∈ tbG := tb_in (List.mem_append_right _ (List.mem_append_right _ (List.mem_append_right _ (List.mem_of_getElem? h)))) g
theorem v_goodIn {y : MethodName} {cc : ByteArray} {n : Nat} {ret : Option FieldType} (h : Cond.code y cc n ret ∈ tbG) : GoodIn tbG (Cond.code y cc n ret :: tbG) := fun w hw => by
  have hm : w ∈ tbG := (List.mem_cons.mp hw).elim (fun e => e ▸ h) id
  exact ⟨hm, good_of_word (List.mem_filter.mp hm).2⟩
abbrev v_ws (y : MethodName) (cc : ByteArray) (n : Nat) (ret : Option FieldType) : List Cond := Cond.code y cc n ret :: tbG
def rmk (d : Nat) : Room := { frames := d, cells := 0, slots := 0, locals := 32 * d }
/-- the addresses of a world -/
def v_in (w : va_W) : Nat → Prop := fun q => ∃ (k : Nat) (e : va_E), w[k]? = some (q, e)
def v_Pr (G : v_Cfg) (av : List Value) (w : va_W) : Array Value → State → Prop := va_Pc av (fun U => va_P G.1 vwCl w U.heap ∧ xK G U)
def v_Pm (G : v_Cfg) (av : List Value) (w : va_W) : Array Value → State → Prop := va_Pc av (fun U => va_P G.1 vwCl w U.heap ∧ va_D (fun _ => True) w ∧ xK G U)
def v_Qi (G : v_Cfg) (r : Int32) (w w1 : va_W) : Array Value → State → Outcome → State → Prop := fun _ st o t => o = .returned (some (.int r)) ∧ va_P G.1 vwCl w1 t.heap ∧ va_F (v_in w) st t
def v_Qv (G : v_Cfg) (w w1 : va_W) : Array Value → State → Outcome → State → Prop := fun _ st o t => o = .returned none ∧ va_P G.1 vwCl w1 t.heap ∧ va_F (v_in w) st t
/-- a method that reads the cells w, and answers r -/
def RdI (l : Launch) (G : v_Cfg) (y : MethodName) (cc : ByteArray) (n : Nat) (ret : Option FieldType) (d : Nat) (av : List Value) (w : va_W) (r : Int32) : Prop := Met l y (v_ws y cc n ret) (rmk d) (v_Pr G av w) (vp_Si (fun x => x = r)) 0 0 (fun _ => False)
/-- a method that turns the cells w into w1 (the same addresses), and answers r -/
def MuI (l : Launch) (G : v_Cfg) (y : MethodName) (cc : ByteArray) (n : Nat) (ret : Option FieldType) (d : Nat) (av : List Value) (w w1 : va_W) (r : Int32) : Prop := Met l y (v_ws y cc n ret) (rmk d) (v_Pm G av w) (v_Qi G r w w1) 0 0 (v_in w)
def MuV (l : Launch) (G : v_Cfg) (y : MethodName) (cc : ByteArray) (n : Nat) (ret : Option FieldType) (d : Nat) (av : List Value) (w w1 : va_W) : Prop := Met l y (v_ws y cc n ret) (rmk d) (v_Pm G av w) (v_Qv G w w1) 0 0 (v_in w)
/-- what a walk keeps beside its world: a reader has changed nothing; a writer only its own cells -/
def v_Ir (s : State) (_ : va_W) (H : Heap) (locs : List Loc) : Prop := H = s.heap ∧ locs = []
def v_Iw (A : Nat → Prop) (s : State) (ws : va_W) (H : Heap) (locs : List Loc) : Prop := va_D A ws ∧ va_S A s.heap H locs
def V_ctx (p : Program) (s : State) (m : MethodId) (args : Array Value) (meth : Method) (c : Code) (G : v_Cfg) (cc : ByteArray) (own : String) (nL : Nat) (ret : Option FieldType) : Prop :=
  p.tables.exec = Jvm.exec ∧ c.code = cc ∧ c.maxLocals = nL ∧ s.vm.findClass own = some m.cls ∧ (∀ w ∈ tbG, w.before args s = true) ∧ xK G s ∧ meth.locks = false ∧ meth.sig.returnType = ret
def V (p : Program) (l : Launch) (e : Env) (R : Room) (s : State) (m : MethodId) (args : Array Value) (below : List Frame) (meth : Method) (c : Code) (Q : State → Prop) (G : v_Cfg) (I : va_W → Heap → List Loc → Prop) (cc : ByteArray) (own : String) (nL : Nat) (ret : Option FieldType) (ws : va_W) (k n : Nat) (lv : List (Nat × Value)) (pc : Nat) (st : List Value) : Prop :=
  V_ctx p s m args meth c G cc own nL ret → ∀ (H : Heap) (locs : List Loc) (ls : Array Slot), va_P G.1 vwCl ws H → I ws H locs → lv_has ls nL lv → W p l e R s m args below meth c H locs k n Q (F0 m pc ls st)
/-- what the tables say of a field: by the class that names it and its number there -/
def v_FL (own : String) (index ci k : Nat) : Prop := ∃ (C : String) (T : u_T) (N : Nat) (ty : Nat → FieldType), vwCl[ci]? = some (C, T, N) ∧ (∀ w ∈ u_ws C T N, w ∈ tbG) ∧ (∀ k, k < N → parseFieldDescriptor (T k).2.2.1 = some (ty k)) ∧ (∀ a, a < N → ∀ b, b < N → a ≠ b → (T a).2.1 ≠ (T b).2.1) ∧ k < N ∧ Cond.fieldLink own index (T k).1 (T k).2.1 (T k).2.2.1 ∈ tbG
def v_FP (own : String) (index ci k : Nat) : Prop := ∃ (C : String) (T : u_T) (N : Nat) (ty : Nat → FieldType), vwCl[ci]? = some (C, T, N) ∧ (∀ w ∈ u_ws C T N, w ∈ tbG) ∧ (∀ k, k < N → parseFieldDescriptor (T k).2.2.1 = some (ty k)) ∧ (∀ a, a < N → ∀ b, b < N → a ≠ b → (T a).2.1 ≠ (T b).2.1) ∧ k < N ∧ Cond.fieldLink own index (T k).1 (T k).2.1 (T k).2.2.1 ∈ tbG ∧ (T k).2.2.2 = false ∧ parseFieldDescriptor (T k).2.2.1 = some .int
def v_Y (y : MethodName) (cc : ByteArray) (n : Nat) (ret : Option FieldType) (na : Nat) : Prop := Cond.code y cc n ret ∈ tbG ∧ Cond.initialized y.cls ∈ tbG ∧ y.cls ≠ "java/lang/invoke/MethodHandle" ∧ y.cls ≠ "java/lang/invoke/VarHandle" ∧ (parseMethodDescriptor y.desc).map (fun d => d.parameters.length) = some na
def v_LV (own : String) (index : Nat) (y : MethodName) : Prop := Cond.methodLink own index y ∈ tbG ∧ Cond.instanceMethod y ∈ tbG ∧ Cond.selects y.cls y y ∈ tbG
def v_LS (own : String) (index : Nat) (y : MethodName) : Prop := Cond.methodLink own index y ∈ tbG ∧ Cond.static y ∈ tbG
/-- cells of the callee put back at their places -/
def v_put (ws : va_W) : List Nat → va_W → va_W
  | i :: is, c :: cs => v_put (ws.set i c) is cs
  | _, _ => ws
theorem v_put_src : ∀ (isC : List Nat) (w1 ws : va_W), isC.length = w1.length → ∀ (k : Nat) (q : Nat × va_E), (v_put ws isC w1)[k]? = some q → (∃ j : Nat, w1[j]? = some q) ∨ (ws[k]? = some q ∧ k ∉ isC)
  | [], [], ws, _, k, q, h => Or.inr ⟨h, List.not_mem_nil⟩
  | [], _ :: _, _, e, _, _, _ => by cases e
  | _ :: _, [], _, e, _, _, _ => by cases e
  | i :: is, c :: cs, ws, e, k, q, h => by
    rcases v_put_src is cs (ws.set i c) (Nat.succ.inj e) k q h with ⟨j, hj⟩ | ⟨h1, h2⟩
    · exact Or.inl ⟨j + 1, hj⟩
    · by_cases hki : k = i
      · subst hki
        rw [List.getElem?_set] at h1
        simp only [↓reduceIte] at h1
        split at h1
        · exact Or.inl ⟨0, h1⟩
        · cases h1
      · rw [List.getElem?_set_ne (fun q => hki q.symm)] at h1
        refine Or.inr ⟨h1, fun hm => ?_⟩
        rcases List.mem_cons.mp hm with h3 | h3
        · exact hki h3
        · exact h2 h3
theorem va_D.addr {A : Nat → Prop} {ws ws' : va_W} (h : va_D A ws) (e : ws'.map Prod.fst = ws.map Prod.fst) : va_D A ws' := by
  have key : ∀ (i : Nat) (x : Nat × va_E), ws'[i]? = some x → ∃ y, ws[i]? = some y ∧ y.1 = x.1 := by
    intro i x hx
    have h1 : (ws'.map Prod.fst)[i]? = some x.1 := by rw [List.getElem?_map, hx]; rfl
    rw [e, List.getElem?_map] at h1
    cases hy : ws[i]? with
    | none => rw [hy] at h1; cases h1
    | some y => rw [hy] at h1; exact ⟨y, rfl, Option.some.inj h1⟩
  refine ⟨fun i j x y hx hy hxy => ?_, fun k x hx => ?_⟩
  · obtain ⟨x', h1, h2⟩ := key i x hx
    obtain ⟨y', h3, h4⟩ := key j y hy
    exact h.1 i j x' y' h1 h3 (by rw [h2, h4]; exact hxy)
  · obtain ⟨x', h1, h2⟩ := key k x hx
    rw [← h2]; exact h.2 k x' h1
/-- what is behind a call: each cell is the callee's, or one that the callee did not have -/
theorem v_mixed {A : Nat → Prop} {D : va_G} {cl : List vw_C} {ws wc w1 ws' : va_W} {H H1 : Heap} (hP : va_P D cl ws H) (hD : va_D A ws) (isC : List Nat) (hC : isC.map (fun i => ws[i]?) = wc.map some) (hP1 : va_P D cl w1 H1) (hk : ∀ q : Nat, q < H.size → ¬ v_in wc q → H1[q]? = H[q]?)
    (hsrc : ∀ (k : Nat) (q : Nat × va_E), ws'[k]? = some q → (∃ j : Nat, w1[j]? = some q) ∨ (ws[k]? = some q ∧ k ∉ isC)) : va_P D cl ws' H1 := by
  intro k q hq
  rcases hsrc k q hq with ⟨j, hj⟩ | ⟨h1, h2⟩
  · exact hP1 j q hj
  · refine (hP k q h1).kept (hk q.1 (hP k q h1).lt ?_)
    rintro ⟨k2, e2, h⟩
    have h3 : (isC.map (fun i => ws[i]?))[k2]? = some (some (q.1, e2)) := by rw [hC, List.getElem?_map, h]; rfl
    rw [List.getElem?_map] at h3
    cases hi : isC[k2]? with
    | none => rw [hi] at h3; cases h3
    | some i =>
      rw [hi] at h3
      have hij := hD.1 k i q (q.1, e2) h1 (Option.some.inj h3) rfl
      subst hij
      exact h2 (List.mem_of_getElem? hi)
section VR
variable {p : Program} {l : Launch} {e : Env} {R : Room} {s : State} {m : MethodId} {args : Array Value} {below : List Frame} {meth : Method} {c : Code} {Q : State → Prop} {G : v_Cfg} {I : va_W → Heap → List Loc → Prop} {cc : ByteArray} {own : String} {nL : Nat} {ret : Option FieldType} {ws : va_W} {k n : Nat} {lv : List (Nat × Value)} {pc : Nat} {st : List Value}
theorem v_iconst {n0 : Int} {v : Int32} (hdg : decode cc pc = .ok (.iconst n0, 1)) (hv : Int32.ofInt n0 = v) (kk : V p l e R s m args below meth c Q G I cc own nL ret ws k n lv (pc + 1) (.int v :: st)) : V p l e R s m args below meth c Q G I cc own nL ret ws k n lv pc st := fun C H locs ls hP hI hl => lv_iconst C.1 C.2.1 hdg hv (kk C H locs ls hP hI hl)
theorem v_bipush {n0 : Int} {v : Int32} (hdg : decode cc pc = .ok (.bipush n0, 2)) (hv : (Int8.ofInt n0).toInt32 = v) (kk : V p l e R s m args below meth c Q G I cc own nL ret ws k n lv (pc + 2) (.int v :: st)) : V p l e R s m args below meth c Q G I cc own nL ret ws k n lv pc st := fun C H locs ls hP hI hl => lv_bipush C.1 C.2.1 hdg hv (kk C H locs ls hP hI hl)
theorem v_sipush {n0 : Int} {v : Int32} (hdg : decode cc pc = .ok (.sipush n0, 3)) (hv : (Int16.ofInt n0).toInt32 = v) (kk : V p l e R s m args below meth c Q G I cc own nL ret ws k n lv (pc + 3) (.int v :: st)) : V p l e R s m args below meth c Q G I cc own nL ret ws k n lv pc st := fun C H locs ls hP hI hl => lv_sipush C.1 C.2.1 hdg hv (kk C H locs ls hP hI hl)
theorem v_iload_n {j : Fin 4} {i : Nat} {x : Int32} (hdg : decode cc pc = .ok (.iload_n j, 1)) (hi : (j : Nat) = i) (q : Nat) (hq : lv[q]? = some (i, .int x)) (kk : V p l e R s m args below meth c Q G I cc own nL ret ws k n lv (pc + 1) (.int x :: st)) : V p l e R s m args below meth c Q G I cc own nL ret ws k n lv pc st := fun C H locs ls hP hI hl => lv_iload_n C.1 C.2.1 hdg hi (lv_at hl q hq) (kk C H locs ls hP hI hl)
theorem v_iload {i : Nat} {x : Int32} (hdg : decode cc pc = .ok (.iload i, 2)) (q : Nat) (hq : lv[q]? = some (i, .int x)) (kk : V p l e R s m args below meth c Q G I cc own nL ret ws k n lv (pc + 2) (.int x :: st)) : V p l e R s m args below meth c Q G I cc own nL ret ws k n lv pc st := fun C H locs ls hP hI hl => lv_iload C.1 C.2.1 hdg (lv_at hl q hq) (kk C H locs ls hP hI hl)
theorem v_aload_n {j : Fin 4} {i x : Nat} (hdg : decode cc pc = .ok (.aload_n j, 1)) (hi : (j : Nat) = i) (q : Nat) (hq : lv[q]? = some (i, .ref x)) (kk : V p l e R s m args below meth c Q G I cc own nL ret ws k n lv (pc + 1) (.ref x :: st)) : V p l e R s m args below meth c Q G I cc own nL ret ws k n lv pc st := fun C H locs ls hP hI hl => lv_aload_n C.1 C.2.1 hdg hi (lv_at hl q hq) (kk C H locs ls hP hI hl)
theorem v_aload {i x : Nat} (hdg : decode cc pc = .ok (.aload i, 2)) (q : Nat) (hq : lv[q]? = some (i, .ref x)) (kk : V p l e R s m args below meth c Q G I cc own nL ret ws k n lv (pc + 2) (.ref x :: st)) : V p l e R s m args below meth c Q G I cc own nL ret ws k n lv pc st := fun C H locs ls hP hI hl => lv_aload C.1 C.2.1 hdg (lv_at hl q hq) (kk C H locs ls hP hI hl)
theorem v_istore_n {j : Fin 4} {i : Nat} {x : Int32} {lv' : List (Nat × Value)} (hdg : decode cc pc = .ok (.istore_n j, 1)) (hi : (j : Nat) = i) (hn : i < nL) (hq : (i, Value.int x) :: lv.filter (fun q => !(q.1 == i) && !(q.1 + 1 == i && q.2.category == 2)) = lv') (kk : V p l e R s m args below meth c Q G I cc own nL ret ws k n lv' (pc + 1) st) : V p l e R s m args below meth c Q G I cc own nL ret ws k n lv pc (.int x :: st) := fun C H locs ls hP hI hl => lv_istore_n C.1 C.2.1 hdg hi hl hn hq (fun ls' hl' => kk C H locs ls' hP hI hl')
theorem v_istore {i : Nat} {x : Int32} {lv' : List (Nat × Value)} (hdg : decode cc pc = .ok (.istore i, 2)) (hn : i < nL) (hq : (i, Value.int x) :: lv.filter (fun q => !(q.1 == i) && !(q.1 + 1 == i && q.2.category == 2)) = lv') (kk : V p l e R s m args below meth c Q G I cc own nL ret ws k n lv' (pc + 2) st) : V p l e R s m args below meth c Q G I cc own nL ret ws k n lv pc (.int x :: st) := fun C H locs ls hP hI hl => lv_istore C.1 C.2.1 hdg hl hn hq (fun ls' hl' => kk C H locs ls' hP hI hl')
theorem v_astore_n {j : Fin 4} {i : Nat} {x : Nat} {lv' : List (Nat × Value)} (hdg : decode cc pc = .ok (.astore_n j, 1)) (hi : (j : Nat) = i) (hn : i < nL) (hq : (i, Value.ref x) :: lv.filter (fun q => !(q.1 == i) && !(q.1 + 1 == i && q.2.category == 2)) = lv') (kk : V p l e R s m args below meth c Q G I cc own nL ret ws k n lv' (pc + 1) st) : V p l e R s m args below meth c Q G I cc own nL ret ws k n lv pc (.ref x :: st) := fun C H locs ls hP hI hl => lv_astore_n C.1 C.2.1 hdg hi hl hn hq (fun ls' hl' => kk C H locs ls' hP hI hl')
theorem v_astore {i : Nat} {x : Nat} {lv' : List (Nat × Value)} (hdg : decode cc pc = .ok (.astore i, 2)) (hn : i < nL) (hq : (i, Value.ref x) :: lv.filter (fun q => !(q.1 == i) && !(q.1 + 1 == i && q.2.category == 2)) = lv') (kk : V p l e R s m args below meth c Q G I cc own nL ret ws k n lv' (pc + 2) st) : V p l e R s m args below meth c Q G I cc own nL ret ws k n lv pc (.ref x :: st) := fun C H locs ls hP hI hl => lv_astore C.1 C.2.1 hdg hl hn hq (fun ls' hl' => kk C H locs ls' hP hI hl')
theorem v_iinc {i q : Nat} {n0 : Int} {x v : Int32} {lv' : List (Nat × Value)} (hdg : decode cc pc = .ok (.iinc i n0, 3)) (hk : lv[q]? = some (i, .int x)) (hv : x + Int32.ofInt n0 = v) (hn : i < nL) (hq : (i, Value.int v) :: lv.filter (fun q => !(q.1 == i) && !(q.1 + 1 == i && q.2.category == 2)) = lv') (kk : V p l e R s m args below meth c Q G I cc own nL ret ws k n lv' (pc + 3) st) : V p l e R s m args below meth c Q G I cc own nL ret ws k n lv pc st := fun C H locs ls hP hI hl => lv_iinc C.1 C.2.1 hdg hl hk hv hn hq (fun ls' hl' => kk C H locs ls' hP hI hl')
theorem v_iadd {x y : Int32} (hdg : decode cc pc = .ok (.iadd, 1)) (kk : V p l e R s m args below meth c Q G I cc own nL ret ws k n lv (pc + 1) (.int (x + y) :: st)) : V p l e R s m args below meth c Q G I cc own nL ret ws k n lv pc (.int y :: .int x :: st) := fun C H locs ls hP hI hl => lv_iadd C.1 C.2.1 hdg (kk C H locs ls hP hI hl)
theorem v_isub {x y : Int32} (hdg : decode cc pc = .ok (.isub, 1)) (kk : V p l e R s m args below meth c Q G I cc own nL ret ws k n lv (pc + 1) (.int (x - y) :: st)) : V p l e R s m args below meth c Q G I cc own nL ret ws k n lv pc (.int y :: .int x :: st) := fun C H locs ls hP hI hl => lv_isub C.1 C.2.1 hdg (kk C H locs ls hP hI hl)
theorem v_imul {x y : Int32} (hdg : decode cc pc = .ok (.imul, 1)) (kk : V p l e R s m args below meth c Q G I cc own nL ret ws k n lv (pc + 1) (.int (x * y) :: st)) : V p l e R s m args below meth c Q G I cc own nL ret ws k n lv pc (.int y :: .int x :: st) := fun C H locs ls hP hI hl => lv_imul C.1 C.2.1 hdg (kk C H locs ls hP hI hl)
theorem v_iand {x y : Int32} (hdg : decode cc pc = .ok (.iand, 1)) (kk : V p l e R s m args below meth c Q G I cc own nL ret ws k n lv (pc + 1) (.int (x &&& y) :: st)) : V p l e R s m args below meth c Q G I cc own nL ret ws k n lv pc (.int y :: .int x :: st) := fun C H locs ls hP hI hl => lv_iand C.1 C.2.1 hdg (kk C H locs ls hP hI hl)
theorem v_ior {x y : Int32} (hdg : decode cc pc = .ok (.ior, 1)) (kk : V p l e R s m args below meth c Q G I cc own nL ret ws k n lv (pc + 1) (.int (x ||| y) :: st)) : V p l e R s m args below meth c Q G I cc own nL ret ws k n lv pc (.int y :: .int x :: st) := fun C H locs ls hP hI hl => lv_ior C.1 C.2.1 hdg (kk C H locs ls hP hI hl)
theorem v_idiv {x y : Int32} (hdg : decode cc pc = .ok (.idiv, 1)) (hne : ¬ y = 0) (kk : V p l e R s m args below meth c Q G I cc own nL ret ws k n lv (pc + 1) (.int (x / y) :: st)) : V p l e R s m args below meth c Q G I cc own nL ret ws k n lv pc (.int y :: .int x :: st) := fun C H locs ls hP hI hl => lv_idiv C.1 C.2.1 hdg hne (kk C H locs ls hP hI hl)
theorem v_irem {x y : Int32} (hdg : decode cc pc = .ok (.irem, 1)) (hne : ¬ y = 0) (kk : V p l e R s m args below meth c Q G I cc own nL ret ws k n lv (pc + 1) (.int (x - x / y * y) :: st)) : V p l e R s m args below meth c Q G I cc own nL ret ws k n lv pc (.int y :: .int x :: st) := fun C H locs ls hP hI hl => lv_irem C.1 C.2.1 hdg hne (kk C H locs ls hP hI hl)
theorem v_dup {va : Value} (hdg : decode cc pc = .ok (.dup, 1)) (hva : va.category = 1) (kk : V p l e R s m args below meth c Q G I cc own nL ret ws k n lv (pc + 1) (va :: va :: st)) : V p l e R s m args below meth c Q G I cc own nL ret ws k n lv pc (va :: st) := fun C H locs ls hP hI hl => lv_dup C.1 C.2.1 hdg hva (kk C H locs ls hP hI hl)
theorem v_pop {va : Value} (hdg : decode cc pc = .ok (.pop, 1)) (hva : va.category = 1) (kk : V p l e R s m args below meth c Q G I cc own nL ret ws k n lv (pc + 1) st) : V p l e R s m args below meth c Q G I cc own nL ret ws k n lv pc (va :: st) := fun C H locs ls hP hI hl => lv_pop C.1 C.2.1 hdg hva (kk C H locs ls hP hI hl)
theorem v_dup2 {va vb : Value} (hdg : decode cc pc = .ok (.dup2, 1)) (hva : va.category = 1) (hvb : vb.category = 1) (kk : V p l e R s m args below meth c Q G I cc own nL ret ws k n lv (pc + 1) (va :: vb :: va :: vb :: st)) : V p l e R s m args below meth c Q G I cc own nL ret ws k n lv pc (va :: vb :: st) := fun C H locs ls hP hI hl => lv_dup2_11 C.1 C.2.1 hdg hva hvb (kk C H locs ls hP hI hl)
theorem v_dup_x1 {va vb : Value} (hdg : decode cc pc = .ok (.dup_x1, 1)) (hva : va.category = 1) (hvb : vb.category = 1) (kk : V p l e R s m args below meth c Q G I cc own nL ret ws k n lv (pc + 1) (va :: vb :: va :: st)) : V p l e R s m args below meth c Q G I cc own nL ret ws k n lv pc (va :: vb :: st) := fun C H locs ls hP hI hl => lv_dup_x1 C.1 C.2.1 hdg hva hvb (kk C H locs ls hP hI hl)
theorem v_ishl {x y : Int32} (hdg : decode cc pc = .ok (.ishl, 1)) (kk : V p l e R s m args below meth c Q G I cc own nL ret ws k n lv (pc + 1) (.int (x <<< (y &&& 31)) :: st)) : V p l e R s m args below meth c Q G I cc own nL ret ws k n lv pc (.int y :: .int x :: st) := fun C H locs ls hP hI hl => lv_ishl C.1 C.2.1 hdg (kk C H locs ls hP hI hl)
theorem v_if_eq {x : Int32} {off : Int} {tgt : Nat} (hdg : decode cc pc = .ok (.ifCond .eq off, 3)) (ht : (pc : Int) + off = (tgt : Int)) (kt : x = 0 → V p l e R s m args below meth c Q G I cc own nL ret ws k n lv tgt st) (kf : ¬ x = 0 → V p l e R s m args below meth c Q G I cc own nL ret ws k n lv (pc + 3) st) : V p l e R s m args below meth c Q G I cc own nL ret ws k n lv pc (.int x :: st) := fun C H locs ls hP hI hl => lv_if_eq C.1 C.2.1 hdg ht (fun h => kt h C H locs ls hP hI hl) (fun h => kf h C H locs ls hP hI hl)
theorem v_icmp_eq {x y : Int32} {off : Int} {tgt : Nat} (hdg : decode cc pc = .ok (.if_icmp .eq off, 3)) (ht : (pc : Int) + off = (tgt : Int)) (kt : x = y → V p l e R s m args below meth c Q G I cc own nL ret ws k n lv tgt st) (kf : ¬ x = y → V p l e R s m args below meth c Q G I cc own nL ret ws k n lv (pc + 3) st) : V p l e R s m args below meth c Q G I cc own nL ret ws k n lv pc (.int y :: .int x :: st) := fun C H locs ls hP hI hl => lv_icmp_eq C.1 C.2.1 hdg ht (fun h => kt h C H locs ls hP hI hl) (fun h => kf h C H locs ls hP hI hl)
theorem v_if_ne {x : Int32} {off : Int} {tgt : Nat} (hdg : decode cc pc = .ok (.ifCond .ne off, 3)) (ht : (pc : Int) + off = (tgt : Int)) (kt : ¬ x = 0 → V p l e R s m args below meth c Q G I cc own nL ret ws k n lv tgt st) (kf : x = 0 → V p l e R s m args below meth c Q G I cc own nL ret ws k n lv (pc + 3) st) : V p l e R s m args below meth c Q G I cc own nL ret ws k n lv pc (.int x :: st) := fun C H locs ls hP hI hl => lv_if_ne C.1 C.2.1 hdg ht (fun h => kt h C H locs ls hP hI hl) (fun h => kf h C H locs ls hP hI hl)
theorem v_icmp_ne {x y : Int32} {off : Int} {tgt : Nat} (hdg : decode cc pc = .ok (.if_icmp .ne off, 3)) (ht : (pc : Int) + off = (tgt : Int)) (kt : ¬ x = y → V p l e R s m args below meth c Q G I cc own nL ret ws k n lv tgt st) (kf : x = y → V p l e R s m args below meth c Q G I cc own nL ret ws k n lv (pc + 3) st) : V p l e R s m args below meth c Q G I cc own nL ret ws k n lv pc (.int y :: .int x :: st) := fun C H locs ls hP hI hl => lv_icmp_ne C.1 C.2.1 hdg ht (fun h => kt h C H locs ls hP hI hl) (fun h => kf h C H locs ls hP hI hl)
theorem v_if_lt {x : Int32} {off : Int} {tgt : Nat} (hdg : decode cc pc = .ok (.ifCond .lt off, 3)) (ht : (pc : Int) + off = (tgt : Int)) (kt : x < 0 → V p l e R s m args below meth c Q G I cc own nL ret ws k n lv tgt st) (kf : ¬ x < 0 → V p l e R s m args below meth c Q G I cc own nL ret ws k n lv (pc + 3) st) : V p l e R s m args below meth c Q G I cc own nL ret ws k n lv pc (.int x :: st) := fun C H locs ls hP hI hl => lv_if_lt C.1 C.2.1 hdg ht (fun h => kt h C H locs ls hP hI hl) (fun h => kf h C H locs ls hP hI hl)
theorem v_icmp_lt {x y : Int32} {off : Int} {tgt : Nat} (hdg : decode cc pc = .ok (.if_icmp .lt off, 3)) (ht : (pc : Int) + off = (tgt : Int)) (kt : x < y → V p l e R s m args below meth c Q G I cc own nL ret ws k n lv tgt st) (kf : ¬ x < y → V p l e R s m args below meth c Q G I cc own nL ret ws k n lv (pc + 3) st) : V p l e R s m args below meth c Q G I cc own nL ret ws k n lv pc (.int y :: .int x :: st) := fun C H locs ls hP hI hl => lv_icmp_lt C.1 C.2.1 hdg ht (fun h => kt h C H locs ls hP hI hl) (fun h => kf h C H locs ls hP hI hl)
theorem v_if_ge {x : Int32} {off : Int} {tgt : Nat} (hdg : decode cc pc = .ok (.ifCond .ge off, 3)) (ht : (pc : Int) + off = (tgt : Int)) (kt : 0 ≤ x → V p l e R s m args below meth c Q G I cc own nL ret ws k n lv tgt st) (kf : ¬ 0 ≤ x → V p l e R s m args below meth c Q G I cc own nL ret ws k n lv (pc + 3) st) : V p l e R s m args below meth c Q G I cc own nL ret ws k n lv pc (.int x :: st) := fun C H locs ls hP hI hl => lv_if_ge C.1 C.2.1 hdg ht (fun h => kt h C H locs ls hP hI hl) (fun h => kf h C H locs ls hP hI hl)
theorem v_icmp_ge {x y : Int32} {off : Int} {tgt : Nat} (hdg : decode cc pc = .ok (.if_icmp .ge off, 3)) (ht : (pc : Int) + off = (tgt : Int)) (kt : y ≤ x → V p l e R s m args below meth c Q G I cc own nL ret ws k n lv tgt st) (kf : ¬ y ≤ x → V p l e R s m args below meth c Q G I cc own nL ret ws k n lv (pc + 3) st) : V p l e R s m args below meth c Q G I cc own nL ret ws k n lv pc (.int y :: .int x :: st) := fun C H locs ls hP hI hl => lv_icmp_ge C.1 C.2.1 hdg ht (fun h => kt h C H locs ls hP hI hl) (fun h => kf h C H locs ls hP hI hl)
theorem v_if_gt {x : Int32} {off : Int} {tgt : Nat} (hdg : decode cc pc = .ok (.ifCond .gt off, 3)) (ht : (pc : Int) + off = (tgt : Int)) (kt : 0 < x → V p l e R s m args below meth c Q G I cc own nL ret ws k n lv tgt st) (kf : ¬ 0 < x → V p l e R s m args below meth c Q G I cc own nL ret ws k n lv (pc + 3) st) : V p l e R s m args below meth c Q G I cc own nL ret ws k n lv pc (.int x :: st) := fun C H locs ls hP hI hl => lv_if_gt C.1 C.2.1 hdg ht (fun h => kt h C H locs ls hP hI hl) (fun h => kf h C H locs ls hP hI hl)
theorem v_icmp_gt {x y : Int32} {off : Int} {tgt : Nat} (hdg : decode cc pc = .ok (.if_icmp .gt off, 3)) (ht : (pc : Int) + off = (tgt : Int)) (kt : y < x → V p l e R s m args below meth c Q G I cc own nL ret ws k n lv tgt st) (kf : ¬ y < x → V p l e R s m args below meth c Q G I cc own nL ret ws k n lv (pc + 3) st) : V p l e R s m args below meth c Q G I cc own nL ret ws k n lv pc (.int y :: .int x :: st) := fun C H locs ls hP hI hl => lv_icmp_gt C.1 C.2.1 hdg ht (fun h => kt h C H locs ls hP hI hl) (fun h => kf h C H locs ls hP hI hl)
theorem v_if_le {x : Int32} {off : Int} {tgt : Nat} (hdg : decode cc pc = .ok (.ifCond .le off, 3)) (ht : (pc : Int) + off = (tgt : Int)) (kt : x ≤ 0 → V p l e R s m args below meth c Q G I cc own nL ret ws k n lv tgt st) (kf : ¬ x ≤ 0 → V p l e R s m args below meth c Q G I cc own nL ret ws k n lv (pc + 3) st) : V p l e R s m args below meth c Q G I cc own nL ret ws k n lv pc (.int x :: st) := fun C H locs ls hP hI hl => lv_if_le C.1 C.2.1 hdg ht (fun h => kt h C H locs ls hP hI hl) (fun h => kf h C H locs ls hP hI hl)
theorem v_icmp_le {x y : Int32} {off : Int} {tgt : Nat} (hdg : decode cc pc = .ok (.if_icmp .le off, 3)) (ht : (pc : Int) + off = (tgt : Int)) (kt : x ≤ y → V p l e R s m args below meth c Q G I cc own nL ret ws k n lv tgt st) (kf : ¬ x ≤ y → V p l e R s m args below meth c Q G I cc own nL ret ws k n lv (pc + 3) st) : V p l e R s m args below meth c Q G I cc own nL ret ws k n lv pc (.int y :: .int x :: st) := fun C H locs ls hP hI hl => lv_icmp_le C.1 C.2.1 hdg ht (fun h => kt h C H locs ls hP hI hl) (fun h => kf h C H locs ls hP hI hl)
theorem v_goto {off : Int} {tgt : Nat} (hdg : decode cc pc = .ok (.goto off, 3)) (ht : (pc : Int) + off = (tgt : Int)) (kk : V p l e R s m args below meth c Q G I cc own nL ret ws k n lv tgt st) : V p l e R s m args below meth c Q G I cc own nL ret ws k n lv pc st := fun C H locs ls hP hI hl => lv_goto C.1 C.2.1 hdg ht (kk C H locs ls hP hI hl)
theorem v_tableOut {dflt lo hi : Int} {offs : Array Int} {len : Nat} {x : Int32} {tgt : Nat} (hdg : decode cc pc = .ok (.tableswitch dflt lo hi offs, len)) (h : x.toInt < lo ∨ hi < x.toInt) (ht : (pc : Int) + dflt = (tgt : Int)) (kk : V p l e R s m args below meth c Q G I cc own nL ret ws k n lv tgt st) : V p l e R s m args below meth c Q G I cc own nL ret ws k n lv pc (.int x :: st) := fun C H locs ls hP hI hl => lv_tableOut C.1 C.2.1 hdg h ht (kk C H locs ls hP hI hl)
theorem v_tableIn {dflt lo hi : Int} {offs : Array Int} {len : Nat} {x : Int32} {off : Int} {tgt : Nat} (hdg : decode cc pc = .ok (.tableswitch dflt lo hi offs, len)) (h1 : ¬ x.toInt < lo) (h2 : ¬ hi < x.toInt) (ho : offs[(x.toInt - lo).toNat]? = some off) (ht : (pc : Int) + off = (tgt : Int)) (kk : V p l e R s m args below meth c Q G I cc own nL ret ws k n lv tgt st) : V p l e R s m args below meth c Q G I cc own nL ret ws k n lv pc (.int x :: st) := fun C H locs ls hP hI hl => lv_tableIn C.1 C.2.1 hdg h1 h2 ho ht (kk C H locs ls hP hI hl)
theorem v_lookup {dflt : Int} {ps : Array (Int × Int)} {len : Nat} {x : Int32} {off : Int} {tgt : Nat} (hdg : decode cc pc = .ok (.lookupswitch dflt ps, len)) (hp : (ps.toList.zip (ps.toList.drop 1)).all (fun (a, next) => a.1 < next.1) = true) (ho : Op.lookupswitch.offset ps.toList dflt x.toInt = off) (ht : (pc : Int) + off = (tgt : Int)) (kk : V p l e R s m args below meth c Q G I cc own nL ret ws k n lv tgt st) : V p l e R s m args below meth c Q G I cc own nL ret ws k n lv pc (.int x :: st) := fun C H locs ls hP hI hl => lv_lookup C.1 C.2.1 hdg hp ho ht (kk C H locs ls hP hI hl)
theorem v_topi {x : Int32} (kk : ∀ y : Int32, y = x → V p l e R s m args below meth c Q G I cc own nL ret ws k n lv pc (.int y :: st)) : V p l e R s m args below meth c Q G I cc own nL ret ws k n lv pc (.int x :: st) := kk x rfl
theorem v_eqi {x : Int32} (y : Int32) (h : x = y) (kk : V p l e R s m args below meth c Q G I cc own nL ret ws k n lv pc (.int y :: st)) : V p l e R s m args below meth c Q G I cc own nL ret ws k n lv pc (.int x :: st) := h ▸ kk
theorem v_world {ws' : va_W} (h : ws = ws') (kk : V p l e R s m args below meth c Q G I cc own nL ret ws' k n lv pc st) : V p l e R s m args below meth c Q G I cc own nL ret ws k n lv pc st := h ▸ kk
theorem v_locals {lv' : List (Nat × Value)} (ks : List Nat) (h : lv_pick lv ks = lv') (kk : V p l e R s m args below meth c Q G I cc own nL ret ws k n lv' pc st) : V p l e R s m args below meth c Q G I cc own nL ret ws k n lv pc st := fun C H locs ls hP hI hl => kk C H locs ls hP hI (lv_sub hl ks h)
theorem v_get {a index ci k0 : Nat} {fs : List Value} {v : Value} (h : v_FL own index ci k0) (hdg : decode cc pc = .ok (.getfield index, 3)) (q0 : Nat) (he : ws[q0]? = some (a, .inr (ci, fs))) (hv : fs[k0]? = some v) (kk : V p l e R s m args below meth c Q G I cc own nL ret ws k n lv (pc + 3) (v :: st)) : V p l e R s m args below meth c Q G I cc own nL ret ws k n lv pc (.ref a :: st) := fun C H locs ls hP hI hl => by
  obtain ⟨Cn, T, N, ty, h1, h2, -, -, h5, h6⟩ := h
  exact va_get C.1 C.2.1 C.2.2.2.2.1 h2 C.2.2.2.1 C.2.2.2.2.2.1.1 hP q0 he h1 k0 h5 (C.2.2.2.2.1 _ h6) (fun _ h9 => h9) hv hdg (kk C H locs ls hP hI hl)
theorem v_puti {A : Nat → Prop} {a index ci k0 : Nat} {fs : List Value} {x : Int32} {ws' : va_W} (h : v_FP own index ci k0) (hdg : decode cc pc = .ok (.putfield index, 3)) (q0 : Nat) (he : ws[q0]? = some (a, .inr (ci, fs))) (hl0 : k0 < fs.length) (hw : ws.set q0 (a, .inr (ci, fs.set k0 (.int x))) = ws')
    (kk : V p l e R s m args below meth c Q G (v_Iw A s) cc own nL ret ws' k n lv (pc + 3) st) : V p l e R s m args below meth c Q G (v_Iw A s) cc own nL ret ws k n lv pc (.int x :: .ref a :: st) := fun C H locs ls hP hI hl => by
  obtain ⟨Cn, T, N, ty, h1, h2, h3, h4, h5, h6, h7, h8⟩ := h
  subst hw
  exact va_put C.1 C.2.1 C.2.2.2.2.1 h2 ty h3 h4 C.2.2.2.1 C.2.2.2.2.2.1.1 hP hI.1 hI.2 q0 he h1 k0 h5 (C.2.2.2.2.1 _ h6) (fun _ h9 => h9) h7 h8 rfl rfl hl0 hdg (fun H1 locs1 hP1 hD1 hS1 => kk C H1 locs1 ls hP1 ⟨hD1, hS1⟩ hl)
theorem v_iald {a N : Nat} {f : Nat → Int32} {i : Int32} (hdg : decode cc pc = .ok (.iaload, 1)) (q0 : Nat) (he : ws[q0]? = some (a, .inl (G.2.1, N, .inl f))) (j : Nat) (hi : i = nI j) (hj : j < N) (hN : N < 2 ^ 31) (kk : V p l e R s m args below meth c Q G I cc own nL ret ws k n lv (pc + 1) (.int (f j) :: st)) : V p l e R s m args below meth c Q G I cc own nL ret ws k n lv pc (.int i :: .ref a :: st) := fun C H locs ls hP hI hl => by
  subst hi
  refine va_iald C.1 C.2.1 C.2.2.2.2.2.1.1 hP q0 0 he rfl (vp_in_nI hj hN) hdg ?_
  rw [nI_clamp (Nat.lt_trans hj hN)]
  exact kk C H locs ls hP hI hl
theorem v_iast {A : Nat → Prop} {a N : Nat} {f : Nat → Int32} {i x : Int32} {ws' : va_W} (hdg : decode cc pc = .ok (.iastore, 1)) (q0 : Nat) (he : ws[q0]? = some (a, .inl (G.2.1, N, .inl f))) (j : Nat) (hi : i = nI j) (hj : j < N) (hN : N < 2 ^ 31) (hw : ws.set q0 (a, .inl (G.2.1, N, .inl (upd f j x))) = ws')
    (kk : V p l e R s m args below meth c Q G (v_Iw A s) cc own nL ret ws' k n lv (pc + 1) st) : V p l e R s m args below meth c Q G (v_Iw A s) cc own nL ret ws k n lv pc (.int x :: .int i :: .ref a :: st) := fun C H locs ls hP hI hl => by
  subst hi
  subst hw
  refine va_iast C.1 C.2.1 C.2.2.2.2.2.1.1 hP hI.1 hI.2 q0 0 he rfl (vp_in_nI hj hN) hdg (fun H1 locs1 hP1 hD1 hS1 => ?_)
  rw [nI_clamp (Nat.lt_trans hj hN)] at hP1 hD1
  exact kk C H1 locs1 ls hP1 ⟨hD1, hS1⟩ hl
theorem v_aald {a N x : Nat} {f : Nat → Option Nat} {i : Int32} (hdg : decode cc pc = .ok (.aaload, 1)) (q0 : Nat) (he : ws[q0]? = some (a, .inl (G.2.2, N, .inr (.inr (.inr (.inr f)))))) (j : Nat) (hi : i = nI j) (hj : j < N) (hN : N < 2 ^ 31) (hf : f j = some x) (kk : V p l e R s m args below meth c Q G I cc own nL ret ws k n lv (pc + 1) (.ref x :: st)) : V p l e R s m args below meth c Q G I cc own nL ret ws k n lv pc (.int i :: .ref a :: st) := fun C H locs ls hP hI hl => by
  subst hi
  refine va_aldq C.1 C.2.1 C.2.2.2.2.2.1.1 hP q0 1 he rfl (vp_in_nI hj hN) hdg ?_
  rw [nI_clamp (Nat.lt_trans hj hN), hf]
  exact kk C H locs ls hP hI hl
/-- Math.max and Math.min of the JDK, by the kit's own rows -/
def v_LM (own : String) (index : Nat) (y : MethodName) (cd : ByteArray) : Prop := Cond.methodLink own index y ∈ tbG ∧ Cond.static y ∈ tbG ∧ Cond.initialized "java/lang/Math" ∈ tbG ∧ Cond.code y cd 2 (some .int) ∈ tbG
theorem v_mmax {index : Nat} {x y : Int32} (h : v_LM own index Lib.Math.max.name Lib.Math.max.code) (hdg : decode cc pc = .ok (.invokestatic index, 3)) (hR : 1 ≤ R.frames ∧ (st.map fun v => v.category).sum + 13 ≤ R.locals ∧ k ≤ R.cells ∧ n ≤ R.slots) (kk : V p l e R s m args below meth c Q G I cc own nL ret ws k n lv (pc + 3) (.int (if x < y then y else x) :: st)) : V p l e R s m args below meth c Q G I cc own nL ret ws k n lv pc (.int y :: .int x :: st) := fun C H locs ls hP hI hl =>
  va_mmax C.1 C.2.1 (C.2.2.1.trans hl.1.symm) C.2.2.2.1 (C.2.2.2.2.1 _ h.1) (C.2.2.2.2.1 _ h.2.1) (C.2.2.2.2.1 _ h.2.2.1) (C.2.2.2.2.1 _ h.2.2.2) hR.1 hR.2.1 hR.2.2.1 hR.2.2.2 hdg (kk C H locs ls hP hI hl)
theorem v_mmin {index : Nat} {x y : Int32} (h : v_LM own index Lib.Math.min.name Lib.Math.min.code) (hdg : decode cc pc = .ok (.invokestatic index, 3)) (hR : 1 ≤ R.frames ∧ (st.map fun v => v.category).sum + 13 ≤ R.locals ∧ k ≤ R.cells ∧ n ≤ R.slots) (kk : V p l e R s m args below meth c Q G I cc own nL ret ws k n lv (pc + 3) (.int (if y < x then y else x) :: st)) : V p l e R s m args below meth c Q G I cc own nL ret ws k n lv pc (.int y :: .int x :: st) := fun C H locs ls hP hI hl =>
  va_mmin C.1 C.2.1 (C.2.2.1.trans hl.1.symm) C.2.2.2.1 (C.2.2.2.2.1 _ h.1) (C.2.2.2.2.1 _ h.2.1) (C.2.2.2.2.1 _ h.2.2.1) (C.2.2.2.2.1 _ h.2.2.2) hR.1 hR.2.1 hR.2.2.1 hR.2.2.2 hdg (kk C H locs ls hP hI hl)
/-! ends -/
theorem v_iretR {r v : Int32} (hdg : decode cc pc = .ok (.ireturn, 1)) (hr : v = r) : V p l e R s m args below meth c (MQ below (vp_Si (fun x => x = r)) args s k n (fun _ => False)) G (v_Ir s) cc own nL (some .int) ws k n lv pc [.int v] := fun C H locs ls hP hI hl =>
  W.iret (hlocks := C.2.2.2.2.2.2.1) C.1 C.2.1 C.2.2.2.2.2.2.2 (fun t ht _ => ⟨v, rfl, hr, ht.trans hI.1⟩) (fun q hq => by rw [hI.2] at hq; cases hq) hdg
theorem v_zretR {r v : Int32} (hdg : decode cc pc = .ok (.ireturn, 1)) (hr : v = r) (hn : narrow .boolean (.int v) = .int v) : V p l e R s m args below meth c (MQ below (vp_Si (fun x => x = r)) args s k n (fun _ => False)) G (v_Ir s) cc own nL (some .boolean) ws k n lv pc [.int v] := fun C H locs ls hP hI hl =>
  W.zret (hlocks := C.2.2.2.2.2.2.1) C.1 C.2.1 C.2.2.2.2.2.2.2 hn (fun t ht _ => ⟨v, rfl, hr, ht.trans hI.1⟩) (fun q hq => by rw [hI.2] at hq; cases hq) hdg
theorem v_iretM {r v : Int32} {w w1 : va_W} (hdg : decode cc pc = .ok (.ireturn, 1)) (hr : v = r) (hw : ws = w1) : V p l e R s m args below meth c (MQ below (v_Qi G r w w1) args s k n (v_in w)) G (v_Iw (v_in w) s) cc own nL (some .int) ws k n lv pc [.int v] := fun C H locs ls hP hI hl =>
  W.iret (hlocks := C.2.2.2.2.2.2.1) C.1 C.2.1 C.2.2.2.2.2.2.2 (fun t ht _ => ⟨by rw [hr], by rw [ht, ← hw]; exact hP, hI.2.F ht⟩) hI.2.2.2 hdg
theorem v_vretM {w w1 : va_W} (hdg : decode cc pc = .ok (.return_, 1)) (hw : ws = w1) : V p l e R s m args below meth c (MQ below (v_Qv G w w1) args s k n (v_in w)) G (v_Iw (v_in w) s) cc own nL none ws k n lv pc [] := fun C H locs ls hP hI hl =>
  W.vret (hlocks := C.2.2.2.2.2.2.1) C.1 C.2.1 C.2.2.2.2.2.2.2 (fun t ht _ => ⟨rfl, by rw [ht, ← hw]; exact hP, hI.2.F ht⟩) hI.2.2.2 hdg
end VR
/-! entries -/
theorem RdI.of {l : Launch} {G : v_Cfg} {y : MethodName} {cc : ByteArray} {nL : Nat} {ret : Option FieldType} {d : Nat} {av : List Value} {w : va_W} {r : Int32} {own : String} (hy : plainName y.cls = true) (ho : y.cls = own) (hn : (lg_sl av).length ≤ nL)
    (body : ∀ (p : Program) (e : Env) (s : State) (m : MethodId) (below : List Frame) (meth : Method) (c : Code), V p l e (rmk d) s m av.toArray below meth c (MQ below (vp_Si (fun x => x = r)) av.toArray s 0 0 (fun _ => False)) G (v_Ir s) cc own nL ret w 0 0 (lv_args 0 av) 0 []) : RdI l G y cc nL ret d av w r := by
  subst ho
  refine Met.ofW (cc := cc) (maxL := nL) (ret := ret) hy rfl ?_
  intro p e s m args below meth c s₁ B hml hv
  obtain ⟨rfl, hP, hK⟩ := hv
  have hts := atoms_spec (ws := v_ws y cc nL ret) B.pre
  rw [lg_entry_eq]
  exact body p e s m below meth c ⟨B.exec, B.bytes, hml, findClass_of_methodNamed B.named, fun w hw => hts w (List.mem_cons_of_mem _ hw), hK, B.notSynchronized, B.returns⟩ _ _ _ hP ⟨rfl, rfl⟩ (lv_entry av hn)
theorem v_selfD {w : va_W} (h : va_D (fun _ => True) w) : va_D (v_in w) w := ⟨h.1, fun k q hk => ⟨k, q.2, hk⟩⟩
theorem MuI.of {l : Launch} {G : v_Cfg} {y : MethodName} {cc : ByteArray} {nL : Nat} {ret : Option FieldType} {d : Nat} {av : List Value} {w w1 : va_W} {r : Int32} {own : String} (hy : plainName y.cls = true) (ho : y.cls = own) (hn : (lg_sl av).length ≤ nL)
    (body : ∀ (p : Program) (e : Env) (s : State) (m : MethodId) (below : List Frame) (meth : Method) (c : Code), V p l e (rmk d) s m av.toArray below meth c (MQ below (v_Qi G r w w1) av.toArray s 0 0 (v_in w)) G (v_Iw (v_in w) s) cc own nL ret w 0 0 (lv_args 0 av) 0 []) : MuI l G y cc nL ret d av w w1 r := by
  subst ho
  refine Met.ofW (cc := cc) (maxL := nL) (ret := ret) hy rfl ?_
  intro p e s m args below meth c s₁ B hml hv
  obtain ⟨rfl, hP, hD, hK⟩ := hv
  have hts := atoms_spec (ws := v_ws y cc nL ret) B.pre
  rw [lg_entry_eq]
  exact body p e s m below meth c ⟨B.exec, B.bytes, hml, findClass_of_methodNamed B.named, fun w hw => hts w (List.mem_cons_of_mem _ hw), hK, B.notSynchronized, B.returns⟩ _ _ _ hP ⟨v_selfD hD, va_S.rf⟩ (lv_entry av hn)
theorem MuV.of {l : Launch} {G : v_Cfg} {y : MethodName} {cc : ByteArray} {nL : Nat} {ret : Option FieldType} {d : Nat} {av : List Value} {w w1 : va_W} {own : String} (hy : plainName y.cls = true) (ho : y.cls = own) (hn : (lg_sl av).length ≤ nL)
    (body : ∀ (p : Program) (e : Env) (s : State) (m : MethodId) (below : List Frame) (meth : Method) (c : Code), V p l e (rmk d) s m av.toArray below meth c (MQ below (v_Qv G w w1) av.toArray s 0 0 (v_in w)) G (v_Iw (v_in w) s) cc own nL ret w 0 0 (lv_args 0 av) 0 []) : MuV l G y cc nL ret d av w w1 := by
  subst ho
  refine Met.ofW (cc := cc) (maxL := nL) (ret := ret) hy rfl ?_
  intro p e s m args below meth c s₁ B hml hv
  obtain ⟨rfl, hP, hD, hK⟩ := hv
  have hts := atoms_spec (ws := v_ws y cc nL ret) B.pre
  rw [lg_entry_eq]
  exact body p e s m below meth c ⟨B.exec, B.bytes, hml, findClass_of_methodNamed B.named, fun w hw => hts w (List.mem_cons_of_mem _ hw), hK, B.notSynchronized, B.returns⟩ _ _ _ hP ⟨v_selfD hD, va_S.rf⟩ (lv_entry av hn)
/-! calls -/
section VC
variable {p : Program} {l : Launch} {e : Env} {R : Room} {s : State} {m : MethodId} {args : Array Value} {below : List Frame} {meth : Method} {c : Code} {Q : State → Prop} {G : v_Cfg} {I : va_W → Heap → List Loc → Prop} {cc : ByteArray} {own : String} {nL : Nat} {ret : Option FieldType} {ws : va_W} {k n : Nat} {lv : List (Nat × Value)} {pc : Nat} {st : List Value}
theorem v_rdW {H : Heap} {locs : List Loc} {ls : Array Slot} {a : Array Value} {rest st0 : List Value} {r : Int32} (hr : va_Run p l e R s m args below meth c H locs k n 0 0 (F0 m pc ls st0) rest (vp_Si (fun x => x = r) a) (fun _ => False)) (kk : W p l e R s m args below meth c H locs k n Q (F0 m (pc + 3) ls (.int r :: rest))) : W p l e R s m args below meth c H locs k n Q (F0 m pc ls st0) := by
  intro T hT X
  obtain ⟨v, st₀, t, T', L, h0, X', hL, e1, e2, ⟨r', hv, hp, hh⟩, st⟩ := hr T hT X
  cases hv
  subst hp
  obtain ⟨t2, a1, b1⟩ := kk T' (by rw [e1, hh, h0]) (Stand.forget X' (fun q h => (hL q h).elim))
  exact ⟨t2, st t2 a1, b1⟩
theorem v_aft {H : Heap} {locs L : List Loc} {t : State} {T' : State} {A : Nat → Prop} {w : va_W} (e1 : T'.heap = t.heap) (hS : va_S A s.heap H locs) (hin : ∀ q, v_in w q → A q) (hz : H.size ≤ t.heap.size) (hk : ∀ q : Nat, q < H.size → ¬ v_in w q → t.heap[q]? = H[q]?) (hL : ∀ q ∈ L, v_in w q.base) : va_S A s.heap T'.heap (locs ++ L) :=
  ⟨Nat.le_trans hS.1 (by rw [e1]; exact hz), fun q h1 h2 => by rw [e1, hk q (Nat.lt_of_lt_of_le h1 hS.1) (fun z => h2 (hin q z))]; exact hS.2.1 q h1 h2, fun q hq => (List.mem_append.mp hq).elim (hS.2.2 q) (fun h => hin _ (hL q h))⟩
theorem v_muiW {H : Heap} {locs : List Loc} {ls : Array Slot} {a : Array Value} {rest st0 : List Value} {r : Int32} {A : Nat → Prop} {w w1 : va_W} (hr : va_Run p l e R s m args below meth c H locs k n 0 0 (F0 m pc ls st0) rest (v_Qi G r w w1 a) (v_in w)) (hin : ∀ q, v_in w q → A q) (hS : va_S A s.heap H locs)
    (kk : ∀ (H1 : Heap) (locs1 : List Loc), va_P G.1 vwCl w1 H1 → (∀ q : Nat, q < H.size → ¬ v_in w q → H1[q]? = H[q]?) → va_S A s.heap H1 locs1 → W p l e R s m args below meth c H1 locs1 k n Q (F0 m (pc + 3) ls (.int r :: rest))) : W p l e R s m args below meth c H locs k n Q (F0 m pc ls st0) := by
  intro T hT X
  obtain ⟨v, st₀, t, T', L, h0, X', hL, e1, e2, ⟨ho, hp, hz, hk⟩, st⟩ := hr T hT X
  cases ho
  rw [h0] at hz hk
  obtain ⟨t2, a1, b1⟩ := kk T'.heap (locs ++ L) (by rw [e1]; exact hp) (fun q h1 h2 => by rw [e1]; exact hk q h1 h2) (v_aft e1 hS hin hz hk hL) T' rfl X'
  exact ⟨t2, st t2 a1, b1⟩
theorem v_muvW {H : Heap} {locs : List Loc} {ls : Array Slot} {a : Array Value} {rest st0 : List Value} {A : Nat → Prop} {w w1 : va_W} (hr : va_Run p l e R s m args below meth c H locs k n 0 0 (F0 m pc ls st0) rest (v_Qv G w w1 a) (v_in w)) (hin : ∀ q, v_in w q → A q) (hS : va_S A s.heap H locs)
    (kk : ∀ (H1 : Heap) (locs1 : List Loc), va_P G.1 vwCl w1 H1 → (∀ q : Nat, q < H.size → ¬ v_in w q → H1[q]? = H[q]?) → va_S A s.heap H1 locs1 → W p l e R s m args below meth c H1 locs1 k n Q (F0 m (pc + 3) ls rest)) : W p l e R s m args below meth c H locs k n Q (F0 m pc ls st0) := by
  intro T hT X
  obtain ⟨v, st₀, t, T', L, h0, X', hL, e1, e2, ⟨ho, hp, hz, hk⟩, st⟩ := hr T hT X
  cases ho
  rw [h0] at hz hk
  obtain ⟨t2, a1, b1⟩ := kk T'.heap (locs ++ L) (by rw [e1]; exact hp) (fun q h1 h2 => by rw [e1]; exact hk q h1 h2) (v_aft e1 hS hin hz hk hL) T' rfl X'
  exact ⟨t2, st t2 a1, b1⟩
theorem v_part {D : va_G} {cl : List vw_C} {H : Heap} {wc : va_W} (hP : va_P D cl ws H) (isC : List Nat) (hC : isC.map (fun i => ws[i]?) = wc.map some) : va_P D cl wc H := fun k q hk => by
  obtain ⟨i, -, hi⟩ := va_in_of isC hC hk
  exact hP i q hi
theorem v_inA {A : Nat → Prop} {wc : va_W} (hD : va_D A ws) (isC : List Nat) (hC : isC.map (fun i => ws[i]?) = wc.map some) : ∀ q, v_in wc q → A q := fun q ⟨k, e, hk⟩ => by
  obtain ⟨i, -, hi⟩ := va_in_of isC hC hk
  exact hD.2 i (q, e) hi
theorem v_blr (G : v_Cfg) (av : List Value) (w : va_W) : FrameBlind (v_Pr G av w) := fun _ _ _ _ q => ⟨q.1, q.2.1, xK.same rfl q.2.2⟩
theorem v_blm (G : v_Cfg) (av : List Value) (w : va_W) : FrameBlind (v_Pm G av w) := fun _ _ _ _ q => ⟨q.1, q.2.1, q.2.2.1, xK.same rfl q.2.2.2⟩
variable {y : MethodName} {ycc : ByteArray} {yn : Nat} {yret : Option FieldType} {d na index : Nat}
theorem v_cw (hts : ∀ w ∈ tbG, w.before args s = true) (hY : v_Y y ycc yn yret na) (hL : v_LV own index y) (hR : (rmk d).frames + 1 ≤ R.frames ∧ 8 + (yn + 11) + (rmk d).locals ≤ R.locals) : CallW R s args own y.cls index y ycc yn yret (v_ws y ycc yn yret) (rmk d) 0 0 na :=
  ⟨callB_of na hts (v_goodIn hY.1) rfl rfl rfl (hts _ hY.2.1) (hts _ hL.1) ⟨hY.2.2.1, hY.2.2.2.1, hY.2.2.2.2⟩ hR, hts _ hL.2.1, hts _ hL.2.2⟩
theorem v_cs (hts : ∀ w ∈ tbG, w.before args s = true) (hY : v_Y y ycc yn yret na) (hL : v_LS own index y) (hR : (rmk d).frames + 1 ≤ R.frames ∧ 8 + (yn + 11) + (rmk d).locals ≤ R.locals) : CallB R s args own index y ycc yn yret (v_ws y ycc yn yret) (rmk d) 0 0 na ∧ (Cond.static y).before args s = true :=
  ⟨callB_of na hts (v_goodIn hY.1) rfl rfl rfl (hts _ hY.2.1) (hts _ hL.1) ⟨hY.2.2.1, hY.2.2.2.1, hY.2.2.2.2⟩ hR, hts _ hL.2⟩
def v_ci (ci : Nat) (C : String) : Prop := ∃ q : vw_C, vwCl[ci]? = some q ∧ q.1 = C
theorem v_rcv {H : Heap} {b q0 ci : Nat} {fs : List Value} {C : String} (hK : xK G s) (hP : va_P G.1 vwCl ws H) (hci : v_ci ci C) (he : ws[q0]? = some (b, .inr (ci, fs))) : ∃ cellB : Cell, H[b]? = some cellB ∧ cellB.vm.isStatics = false ∧ s.vm.findClass C = some cellB.cls := by
  obtain ⟨q, h1, rfl⟩ := hci
  exact va_recv hK.1 hP h1 he
theorem v_vRd {b ci : Nat} {fs : List Value} {As rest : List Value} {wc : va_W} {r : Int32} (hM : RdI l G y ycc yn yret d (.ref b :: As) wc r) (hY : v_Y y ycc yn yret na) (hL : v_LV own index y) (hdg : decode cc pc = .ok (.invokevirtual index, 3)) (hci : v_ci ci y.cls) (q0 : Nat) (he : ws[q0]? = some (b, .inr (ci, fs))) (isC : List Nat) (hC : isC.map (fun i => ws[i]?) = wc.map some) (hn : As.length = na) (hst : st = As.reverse ++ .ref b :: rest) (hW : (rest.map fun v => v.category).sum ≤ 8) (hR : (rmk d).frames + 1 ≤ R.frames ∧ 8 + (yn + 11) + (rmk d).locals ≤ R.locals) (hf : k ≤ R.cells ∧ n ≤ R.slots)
    (kk : V p l e R s m args below meth c Q G I cc own nL ret ws k n lv (pc + 3) (.int r :: rest)) : V p l e R s m args below meth c Q G I cc own nL ret ws k n lv pc st := fun C H locs ls hP hI hl => by
  subst hst
  exact v_rdW (va_runV (As := As) (rest := rest) ⟨C.1, C.2.1, C.2.2.1, C.2.2.2.1, C.2.2.2.2.1⟩ hM (v_cw C.2.2.2.2.1 hY hL hR) ⟨v_blr _ _ _, v_rcv C.2.2.2.2.2.1 hP hci he, fun U hU hW => ⟨rfl, by rw [hU]; exact v_part hP isC hC, xK.warm hW C.2.2.2.2.2.1⟩⟩ rfl hn hl.1 rfl (lv_room hW) hdg hf) (kk C H locs ls hP hI hl)
theorem v_sRd {As rest : List Value} {wc : va_W} {r : Int32} (hM : RdI l G y ycc yn yret d As wc r) (hY : v_Y y ycc yn yret na) (hL : v_LS own index y) (hdg : decode cc pc = .ok (.invokestatic index, 3)) (isC : List Nat) (hC : isC.map (fun i => ws[i]?) = wc.map some) (hn : As.length = na) (hst : st = As.reverse ++ rest) (hW : (rest.map fun v => v.category).sum ≤ 8) (hR : (rmk d).frames + 1 ≤ R.frames ∧ 8 + (yn + 11) + (rmk d).locals ≤ R.locals) (hf : k ≤ R.cells ∧ n ≤ R.slots)
    (kk : V p l e R s m args below meth c Q G I cc own nL ret ws k n lv (pc + 3) (.int r :: rest)) : V p l e R s m args below meth c Q G I cc own nL ret ws k n lv pc st := fun C H locs ls hP hI hl => by
  subst hst
  exact v_rdW (va_runS (As := As) (rest := rest) ⟨C.1, C.2.1, C.2.2.1, C.2.2.2.1, C.2.2.2.2.1⟩ hM (v_cs C.2.2.2.2.1 hY hL hR) ⟨v_blr _ _ _, fun U hU hW => ⟨rfl, by rw [hU]; exact v_part hP isC hC, xK.warm hW C.2.2.2.2.2.1⟩⟩ rfl hn hl.1 rfl (lv_room hW) hdg hf) (kk C H locs ls hP hI hl)
/-- a private static method of the nest's host, called from a class inside -/
theorem v_nRd {As rest : List Value} {wc : va_W} {r : Int32} {host : String} (hM : RdI l G y ycc yn yret d As wc r) (hY : v_Y y ycc yn yret na) (hS : Cond.static y ∈ tbG) (hL : xK G s → va_Nw (.methodLinkNest own index y host) s) (hdg : decode cc pc = .ok (.invokestatic index, 3)) (isC : List Nat) (hC : isC.map (fun i => ws[i]?) = wc.map some) (hn : As.length = na) (hst : st = As.reverse ++ rest) (hW : (rest.map fun v => v.category).sum ≤ 8) (hR : (rmk d).frames + 1 ≤ R.frames ∧ 8 + (yn + 11) + (rmk d).locals ≤ R.locals) (hf : k ≤ R.cells ∧ n ≤ R.slots)
    (kk : V p l e R s m args below meth c Q G I cc own nL ret ws k n lv (pc + 3) (.int r :: rest)) : V p l e R s m args below meth c Q G I cc own nL ret ws k n lv pc st := fun C H locs ls hP hI hl => by
  subst hst
  exact v_rdW (va_runSN (As := As) (rest := rest) ⟨C.1, C.2.1, C.2.2.1, C.2.2.2.1, C.2.2.2.2.1⟩ hM ⟨va_cnB na C.2.2.2.2.1 (v_goodIn hY.1) rfl rfl rfl (hL C.2.2.2.2.2.1) (C.2.2.2.2.1 _ hY.2.1) ⟨hY.2.2.1, hY.2.2.2.1, hY.2.2.2.2⟩ hR, C.2.2.2.2.1 _ hS, trivial⟩ ⟨v_blr _ _ _, fun U hU hW => ⟨rfl, by rw [hU]; exact v_part hP isC hC, xK.warm hW C.2.2.2.2.2.1⟩⟩ rfl hn hl.1 rfl (lv_room hW) hdg hf) (kk C H locs ls hP hI hl)
theorem v_vMi {A : Nat → Prop} {b ci : Nat} {fs : List Value} {As rest : List Value} {wc w1 ws' : va_W} {r : Int32} (hM : MuI l G y ycc yn yret d (.ref b :: As) wc w1 r) (hY : v_Y y ycc yn yret na) (hL : v_LV own index y) (hdg : decode cc pc = .ok (.invokevirtual index, 3)) (hci : v_ci ci y.cls) (q0 : Nat) (he : ws[q0]? = some (b, .inr (ci, fs))) (isC : List Nat) (hnd : va_nd isC = true) (hC : isC.map (fun i => ws[i]?) = wc.map some) (hln : isC.length = w1.length) (hws : v_put ws isC w1 = ws') (had : ws'.map Prod.fst = ws.map Prod.fst) (hn : As.length = na) (hst : st = As.reverse ++ .ref b :: rest) (hW : (rest.map fun v => v.category).sum ≤ 8) (hR : (rmk d).frames + 1 ≤ R.frames ∧ 8 + (yn + 11) + (rmk d).locals ≤ R.locals) (hf : k ≤ R.cells ∧ n ≤ R.slots)
    (kk : V p l e R s m args below meth c Q G (v_Iw A s) cc own nL ret ws' k n lv (pc + 3) (.int r :: rest)) : V p l e R s m args below meth c Q G (v_Iw A s) cc own nL ret ws k n lv pc st := fun C H locs ls hP hI hl => by
  subst hst
  subst hws
  refine v_muiW (va_runV (As := As) (rest := rest) ⟨C.1, C.2.1, C.2.2.1, C.2.2.2.1, C.2.2.2.2.1⟩ hM (v_cw C.2.2.2.2.1 hY hL hR) ⟨v_blm _ _ _, v_rcv C.2.2.2.2.2.1 hP hci he, fun U hU hW => ⟨rfl, by rw [hU]; exact v_part hP isC hC, (hI.1.sub isC hnd hC).weaken (fun _ _ _ _ => trivial), xK.warm hW C.2.2.2.2.2.1⟩⟩ rfl hn hl.1 rfl (lv_room hW) hdg hf) (v_inA hI.1 isC hC) hI.2 (fun H1 locs1 hP1 hk hS1 => ?_)
  exact kk C H1 locs1 ls (v_mixed hP hI.1 isC hC hP1 hk (v_put_src isC w1 ws hln)) ⟨hI.1.addr had, hS1⟩ hl
theorem v_vMv {A : Nat → Prop} {b ci : Nat} {fs : List Value} {As rest : List Value} {wc w1 ws' : va_W} (hM : MuV l G y ycc yn yret d (.ref b :: As) wc w1) (hY : v_Y y ycc yn yret na) (hL : v_LV own index y) (hdg : decode cc pc = .ok (.invokevirtual index, 3)) (hci : v_ci ci y.cls) (q0 : Nat) (he : ws[q0]? = some (b, .inr (ci, fs))) (isC : List Nat) (hnd : va_nd isC = true) (hC : isC.map (fun i => ws[i]?) = wc.map some) (hln : isC.length = w1.length) (hws : v_put ws isC w1 = ws') (had : ws'.map Prod.fst = ws.map Prod.fst) (hn : As.length = na) (hst : st = As.reverse ++ .ref b :: rest) (hW : (rest.map fun v => v.category).sum ≤ 8) (hR : (rmk d).frames + 1 ≤ R.frames ∧ 8 + (yn + 11) + (rmk d).locals ≤ R.locals) (hf : k ≤ R.cells ∧ n ≤ R.slots)
    (kk : V p l e R s m args below meth c Q G (v_Iw A s) cc own nL ret ws' k n lv (pc + 3) rest) : V p l e R s m args below meth c Q G (v_Iw A s) cc own nL ret ws k n lv pc st := fun C H locs ls hP hI hl => by
  subst hst
  subst hws
  refine v_muvW (va_runV (As := As) (rest := rest) ⟨C.1, C.2.1, C.2.2.1, C.2.2.2.1, C.2.2.2.2.1⟩ hM (v_cw C.2.2.2.2.1 hY hL hR) ⟨v_blm _ _ _, v_rcv C.2.2.2.2.2.1 hP hci he, fun U hU hW => ⟨rfl, by rw [hU]; exact v_part hP isC hC, (hI.1.sub isC hnd hC).weaken (fun _ _ _ _ => trivial), xK.warm hW C.2.2.2.2.2.1⟩⟩ rfl hn hl.1 rfl (lv_room hW) hdg hf) (v_inA hI.1 isC hC) hI.2 (fun H1 locs1 hP1 hk hS1 => ?_)
  exact kk C H1 locs1 ls (v_mixed hP hI.1 isC hC hP1 hk (v_put_src isC w1 ws hln)) ⟨hI.1.addr had, hS1⟩ hl
end VC
end
section
/-! ===== what the tables say: fields, methods, calls: by their places in tables_1 ===== -/
theorem inX0 : ∀ w ∈ u_ws RX0 TX0 14, w ∈ tbG := fun w h => by
  obtain ⟨k, hk, rfl⟩ := List.mem_map.mp h
  have hk2 := List.mem_range.mp hk
  match k, hk2 with
  | 0, _ => exact tb_1 (i := 138) (by decide +kernel) rfl
  | 1, _ => exact tb_1 (i := 140) (by decide +kernel) rfl
  | 2, _ => exact tb_1 (i := 142) (by decide +kernel) rfl
  | 3, _ => exact tb_1 (i := 144) (by decide +kernel) rfl
  | 4, _ => exact tb_1 (i := 146) (by decide +kernel) rfl
  | 5, _ => exact tb_1 (i := 148) (by decide +kernel) rfl
  | 6, _ => exact tb_1 (i := 150) (by decide +kernel) rfl
  | 7, _ => exact tb_1 (i := 152) (by decide +kernel) rfl
  | 8, _ => exact tb_1 (i := 154) (by decide +kernel) rfl
  | 9, _ => exact tb_1 (i := 156) (by decide +kernel) rfl
  | 10, _ => exact tb_1 (i := 158) (by decide +kernel) rfl
  | 11, _ => exact tb_1 (i := 160) (by decide +kernel) rfl
  | 12, _ => exact tb_1 (i := 162) (by decide +kernel) rfl
  | 13, _ => exact tb_1 (i := 164) (by decide +kernel) rfl
  | k + 14, h => exact absurd h (by omega)
theorem inX1 : ∀ w ∈ u_ws RX1 TX1 6, w ∈ tbG := fun w h => by
  obtain ⟨k, hk, rfl⟩ := List.mem_map.mp h
  have hk2 := List.mem_range.mp hk
  match k, hk2 with
  | 0, _ => exact tb_1 (i := 93) (by decide +kernel) rfl
  | 1, _ => exact tb_1 (i := 95) (by decide +kernel) rfl
  | 2, _ => exact tb_1 (i := 97) (by decide +kernel) rfl
  | 3, _ => exact tb_1 (i := 99) (by decide +kernel) rfl
  | 4, _ => exact tb_1 (i := 101) (by decide +kernel) rfl
  | 5, _ => exact tb_1 (i := 103) (by decide +kernel) rfl
  | k + 6, h => exact absurd h (by omega)
theorem inX2 : ∀ w ∈ u_ws RX2 TX2 11, w ∈ tbG := fun w h => by
  obtain ⟨k, hk, rfl⟩ := List.mem_map.mp h
  have hk2 := List.mem_range.mp hk
  match k, hk2 with
  | 0, _ => exact tb_1 (i := 51) (by decide +kernel) rfl
  | 1, _ => exact tb_1 (i := 53) (by decide +kernel) rfl
  | 2, _ => exact tb_1 (i := 55) (by decide +kernel) rfl
  | 3, _ => exact tb_1 (i := 57) (by decide +kernel) rfl
  | 4, _ => exact tb_1 (i := 59) (by decide +kernel) rfl
  | 5, _ => exact tb_1 (i := 61) (by decide +kernel) rfl
  | 6, _ => exact tb_1 (i := 63) (by decide +kernel) rfl
  | 7, _ => exact tb_1 (i := 65) (by decide +kernel) rfl
  | 8, _ => exact tb_1 (i := 67) (by decide +kernel) rfl
  | 9, _ => exact tb_1 (i := 69) (by decide +kernel) rfl
  | 10, _ => exact tb_1 (i := 71) (by decide +kernel) rfl
  | k + 11, h => exact absurd h (by omega)
theorem inX3 : ∀ w ∈ u_ws RX3 TX3 6, w ∈ tbG := fun w h => by
  obtain ⟨k, hk, rfl⟩ := List.mem_map.mp h
  have hk2 := List.mem_range.mp hk
  match k, hk2 with
  | 0, _ => exact tb_1 (i := 174) (by decide +kernel) rfl
  | 1, _ => exact tb_1 (i := 176) (by decide +kernel) rfl
  | 2, _ => exact tb_1 (i := 178) (by decide +kernel) rfl
  | 3, _ => exact tb_1 (i := 180) (by decide +kernel) rfl
  | 4, _ => exact tb_1 (i := 182) (by decide +kernel) rfl
  | 5, _ => exact tb_1 (i := 184) (by decide +kernel) rfl
  | k + 6, h => exact absurd h (by omega)
theorem inX4 : ∀ w ∈ u_ws RX4 TX4 29, w ∈ tbG := fun w h => by
  obtain ⟨k, hk, rfl⟩ := List.mem_map.mp h
  have hk2 := List.mem_range.mp hk
  match k, hk2 with
  | 0, _ => exact tb_2 (i := 149) (by decide +kernel) rfl
  | 1, _ => exact tb_2 (i := 151) (by decide +kernel) rfl
  | 2, _ => exact tb_2 (i := 153) (by decide +kernel) rfl
  | 3, _ => exact tb_2 (i := 155) (by decide +kernel) rfl
  | 4, _ => exact tb_2 (i := 157) (by decide +kernel) rfl
  | 5, _ => exact tb_2 (i := 159) (by decide +kernel) rfl
  | 6, _ => exact tb_2 (i := 161) (by decide +kernel) rfl
  | 7, _ => exact tb_2 (i := 163) (by decide +kernel) rfl
  | 8, _ => exact tb_2 (i := 165) (by decide +kernel) rfl
  | 9, _ => exact tb_2 (i := 167) (by decide +kernel) rfl
  | 10, _ => exact tb_2 (i := 169) (by decide +kernel) rfl
  | 11, _ => exact tb_2 (i := 171) (by decide +kernel) rfl
  | 12, _ => exact tb_2 (i := 173) (by decide +kernel) rfl
  | 13, _ => exact tb_2 (i := 175) (by decide +kernel) rfl
  | 14, _ => exact tb_2 (i := 177) (by decide +kernel) rfl
  | 15, _ => exact tb_2 (i := 179) (by decide +kernel) rfl
  | 16, _ => exact tb_2 (i := 181) (by decide +kernel) rfl
  | 17, _ => exact tb_2 (i := 183) (by decide +kernel) rfl
  | 18, _ => exact tb_2 (i := 185) (by decide +kernel) rfl
  | 19, _ => exact tb_2 (i := 187) (by decide +kernel) rfl
  | 20, _ => exact tb_2 (i := 189) (by decide +kernel) rfl
  | 21, _ => exact tb_2 (i := 191) (by decide +kernel) rfl
  | 22, _ => exact tb_2 (i := 193) (by decide +kernel) rfl
  | 23, _ => exact tb_2 (i := 195) (by decide +kernel) rfl
  | 24, _ => exact tb_2 (i := 197) (by decide +kernel) rfl
  | 25, _ => exact tb_2 (i := 199) (by decide +kernel) rfl
  | 26, _ => exact tb_2 (i := 201) (by decide +kernel) rfl
  | 27, _ => exact tb_2 (i := 203) (by decide +kernel) rfl
  | 28, _ => exact tb_2 (i := 205) (by decide +kernel) rfl
  | k + 29, h => exact absurd h (by omega)
theorem fX2_9 : v_FL RX2 9 2 0 := ⟨RX2, TX2, 11, tyX2, rfl, inX2, tyX2_ok, nmX2, by decide, tb_1 (i := 21) (by decide +kernel) rfl⟩
theorem fX0_91 : v_FL RX0 91 2 0 := ⟨RX2, TX2, 11, tyX2, rfl, inX2, tyX2_ok, nmX2, by decide, tb_1 (i := 22) (by decide +kernel) rfl⟩
theorem fX3_102 : v_FL RX3 102 2 0 := ⟨RX2, TX2, 11, tyX2, rfl, inX2, tyX2_ok, nmX2, by decide, tb_1 (i := 23) (by decide +kernel) rfl⟩
theorem fX2_15 : v_FL RX2 15 2 1 := ⟨RX2, TX2, 11, tyX2, rfl, inX2, tyX2_ok, nmX2, by decide, tb_1 (i := 24) (by decide +kernel) rfl⟩
theorem fX0_41 : v_FL RX0 41 2 1 := ⟨RX2, TX2, 11, tyX2, rfl, inX2, tyX2_ok, nmX2, by decide, tb_1 (i := 25) (by decide +kernel) rfl⟩
theorem fX3_105 : v_FL RX3 105 2 1 := ⟨RX2, TX2, 11, tyX2, rfl, inX2, tyX2_ok, nmX2, by decide, tb_1 (i := 26) (by decide +kernel) rfl⟩
theorem fX2_18 : v_FL RX2 18 2 2 := ⟨RX2, TX2, 11, tyX2, rfl, inX2, tyX2_ok, nmX2, by decide, tb_1 (i := 27) (by decide +kernel) rfl⟩
theorem fX0_94 : v_FL RX0 94 2 2 := ⟨RX2, TX2, 11, tyX2, rfl, inX2, tyX2_ok, nmX2, by decide, tb_1 (i := 28) (by decide +kernel) rfl⟩
theorem fX3_108 : v_FL RX3 108 2 2 := ⟨RX2, TX2, 11, tyX2, rfl, inX2, tyX2_ok, nmX2, by decide, tb_1 (i := 29) (by decide +kernel) rfl⟩
theorem fX2_21 : v_FL RX2 21 2 3 := ⟨RX2, TX2, 11, tyX2, rfl, inX2, tyX2_ok, nmX2, by decide, tb_1 (i := 30) (by decide +kernel) rfl⟩
theorem fX3_59 : v_FL RX3 59 2 3 := ⟨RX2, TX2, 11, tyX2, rfl, inX2, tyX2_ok, nmX2, by decide, tb_1 (i := 31) (by decide +kernel) rfl⟩
theorem fX0_100 : v_FL RX0 100 2 3 := ⟨RX2, TX2, 11, tyX2, rfl, inX2, tyX2_ok, nmX2, by decide, tb_1 (i := 32) (by decide +kernel) rfl⟩
theorem fX2_24 : v_FL RX2 24 2 4 := ⟨RX2, TX2, 11, tyX2, rfl, inX2, tyX2_ok, nmX2, by decide, tb_1 (i := 33) (by decide +kernel) rfl⟩
theorem fX3_84 : v_FL RX3 84 2 4 := ⟨RX2, TX2, 11, tyX2, rfl, inX2, tyX2_ok, nmX2, by decide, tb_1 (i := 34) (by decide +kernel) rfl⟩
theorem fX0_125 : v_FL RX0 125 2 4 := ⟨RX2, TX2, 11, tyX2, rfl, inX2, tyX2_ok, nmX2, by decide, tb_1 (i := 35) (by decide +kernel) rfl⟩
theorem fX2_34 : v_FL RX2 34 2 5 := ⟨RX2, TX2, 11, tyX2, rfl, inX2, tyX2_ok, nmX2, by decide, tb_1 (i := 36) (by decide +kernel) rfl⟩
theorem pX2_34 : v_FP RX2 34 2 5 := ⟨RX2, TX2, 11, tyX2, rfl, inX2, tyX2_ok, nmX2, by decide, tb_1 (i := 36) (by decide +kernel) rfl, rfl, by decide +kernel⟩
theorem fX3_40 : v_FL RX3 40 2 5 := ⟨RX2, TX2, 11, tyX2, rfl, inX2, tyX2_ok, nmX2, by decide, tb_1 (i := 37) (by decide +kernel) rfl⟩
theorem pX3_40 : v_FP RX3 40 2 5 := ⟨RX2, TX2, 11, tyX2, rfl, inX2, tyX2_ok, nmX2, by decide, tb_1 (i := 37) (by decide +kernel) rfl, rfl, by decide +kernel⟩
theorem fX0_62 : v_FL RX0 62 2 5 := ⟨RX2, TX2, 11, tyX2, rfl, inX2, tyX2_ok, nmX2, by decide, tb_1 (i := 38) (by decide +kernel) rfl⟩
theorem pX0_62 : v_FP RX0 62 2 5 := ⟨RX2, TX2, 11, tyX2, rfl, inX2, tyX2_ok, nmX2, by decide, tb_1 (i := 38) (by decide +kernel) rfl, rfl, by decide +kernel⟩
theorem fX2_27 : v_FL RX2 27 2 6 := ⟨RX2, TX2, 11, tyX2, rfl, inX2, tyX2_ok, nmX2, by decide, tb_1 (i := 39) (by decide +kernel) rfl⟩
theorem pX2_27 : v_FP RX2 27 2 6 := ⟨RX2, TX2, 11, tyX2, rfl, inX2, tyX2_ok, nmX2, by decide, tb_1 (i := 39) (by decide +kernel) rfl, rfl, by decide +kernel⟩
theorem fX0_56 : v_FL RX0 56 2 6 := ⟨RX2, TX2, 11, tyX2, rfl, inX2, tyX2_ok, nmX2, by decide, tb_1 (i := 40) (by decide +kernel) rfl⟩
theorem pX0_56 : v_FP RX0 56 2 6 := ⟨RX2, TX2, 11, tyX2, rfl, inX2, tyX2_ok, nmX2, by decide, tb_1 (i := 40) (by decide +kernel) rfl, rfl, by decide +kernel⟩
theorem fX3_63 : v_FL RX3 63 2 6 := ⟨RX2, TX2, 11, tyX2, rfl, inX2, tyX2_ok, nmX2, by decide, tb_1 (i := 41) (by decide +kernel) rfl⟩
theorem pX3_63 : v_FP RX3 63 2 6 := ⟨RX2, TX2, 11, tyX2, rfl, inX2, tyX2_ok, nmX2, by decide, tb_1 (i := 41) (by decide +kernel) rfl, rfl, by decide +kernel⟩
theorem fX2_31 : v_FL RX2 31 2 7 := ⟨RX2, TX2, 11, tyX2, rfl, inX2, tyX2_ok, nmX2, by decide, tb_1 (i := 42) (by decide +kernel) rfl⟩
theorem pX2_31 : v_FP RX2 31 2 7 := ⟨RX2, TX2, 11, tyX2, rfl, inX2, tyX2_ok, nmX2, by decide, tb_1 (i := 42) (by decide +kernel) rfl, rfl, by decide +kernel⟩
theorem fX3_66 : v_FL RX3 66 2 7 := ⟨RX2, TX2, 11, tyX2, rfl, inX2, tyX2_ok, nmX2, by decide, tb_1 (i := 43) (by decide +kernel) rfl⟩
theorem pX3_66 : v_FP RX3 66 2 7 := ⟨RX2, TX2, 11, tyX2, rfl, inX2, tyX2_ok, nmX2, by decide, tb_1 (i := 43) (by decide +kernel) rfl, rfl, by decide +kernel⟩
theorem fX0_122 : v_FL RX0 122 2 7 := ⟨RX2, TX2, 11, tyX2, rfl, inX2, tyX2_ok, nmX2, by decide, tb_1 (i := 44) (by decide +kernel) rfl⟩
theorem pX0_122 : v_FP RX0 122 2 7 := ⟨RX2, TX2, 11, tyX2, rfl, inX2, tyX2_ok, nmX2, by decide, tb_1 (i := 44) (by decide +kernel) rfl, rfl, by decide +kernel⟩
theorem fX2_51 : v_FL RX2 51 2 8 := ⟨RX2, TX2, 11, tyX2, rfl, inX2, tyX2_ok, nmX2, by decide, tb_1 (i := 45) (by decide +kernel) rfl⟩
theorem pX2_51 : v_FP RX2 51 2 8 := ⟨RX2, TX2, 11, tyX2, rfl, inX2, tyX2_ok, nmX2, by decide, tb_1 (i := 45) (by decide +kernel) rfl, rfl, by decide +kernel⟩
theorem fX3_87 : v_FL RX3 87 2 8 := ⟨RX2, TX2, 11, tyX2, rfl, inX2, tyX2_ok, nmX2, by decide, tb_1 (i := 46) (by decide +kernel) rfl⟩
theorem pX3_87 : v_FP RX3 87 2 8 := ⟨RX2, TX2, 11, tyX2, rfl, inX2, tyX2_ok, nmX2, by decide, tb_1 (i := 46) (by decide +kernel) rfl, rfl, by decide +kernel⟩
theorem fX2_45 : v_FL RX2 45 2 9 := ⟨RX2, TX2, 11, tyX2, rfl, inX2, tyX2_ok, nmX2, by decide, tb_1 (i := 47) (by decide +kernel) rfl⟩
theorem pX2_45 : v_FP RX2 45 2 9 := ⟨RX2, TX2, 11, tyX2, rfl, inX2, tyX2_ok, nmX2, by decide, tb_1 (i := 47) (by decide +kernel) rfl, rfl, by decide +kernel⟩
theorem fX3_90 : v_FL RX3 90 2 9 := ⟨RX2, TX2, 11, tyX2, rfl, inX2, tyX2_ok, nmX2, by decide, tb_1 (i := 48) (by decide +kernel) rfl⟩
theorem pX3_90 : v_FP RX3 90 2 9 := ⟨RX2, TX2, 11, tyX2, rfl, inX2, tyX2_ok, nmX2, by decide, tb_1 (i := 48) (by decide +kernel) rfl, rfl, by decide +kernel⟩
theorem fX2_48 : v_FL RX2 48 2 10 := ⟨RX2, TX2, 11, tyX2, rfl, inX2, tyX2_ok, nmX2, by decide, tb_1 (i := 49) (by decide +kernel) rfl⟩
theorem pX2_48 : v_FP RX2 48 2 10 := ⟨RX2, TX2, 11, tyX2, rfl, inX2, tyX2_ok, nmX2, by decide, tb_1 (i := 49) (by decide +kernel) rfl, rfl, by decide +kernel⟩
theorem fX3_93 : v_FL RX3 93 2 10 := ⟨RX2, TX2, 11, tyX2, rfl, inX2, tyX2_ok, nmX2, by decide, tb_1 (i := 50) (by decide +kernel) rfl⟩
theorem pX3_93 : v_FP RX3 93 2 10 := ⟨RX2, TX2, 11, tyX2, rfl, inX2, tyX2_ok, nmX2, by decide, tb_1 (i := 50) (by decide +kernel) rfl, rfl, by decide +kernel⟩
theorem fX1_9 : v_FL RX1 9 1 0 := ⟨RX1, TX1, 6, tyX1, rfl, inX1, tyX1_ok, nmX1, by decide, tb_1 (i := 81) (by decide +kernel) rfl⟩
theorem fX3_153 : v_FL RX3 153 1 0 := ⟨RX1, TX1, 6, tyX1, rfl, inX1, tyX1_ok, nmX1, by decide, tb_1 (i := 82) (by decide +kernel) rfl⟩
theorem fX1_15 : v_FL RX1 15 1 1 := ⟨RX1, TX1, 6, tyX1, rfl, inX1, tyX1_ok, nmX1, by decide, tb_1 (i := 83) (by decide +kernel) rfl⟩
theorem fX3_156 : v_FL RX3 156 1 1 := ⟨RX1, TX1, 6, tyX1, rfl, inX1, tyX1_ok, nmX1, by decide, tb_1 (i := 84) (by decide +kernel) rfl⟩
theorem fX1_18 : v_FL RX1 18 1 2 := ⟨RX1, TX1, 6, tyX1, rfl, inX1, tyX1_ok, nmX1, by decide, tb_1 (i := 85) (by decide +kernel) rfl⟩
theorem fX3_159 : v_FL RX3 159 1 2 := ⟨RX1, TX1, 6, tyX1, rfl, inX1, tyX1_ok, nmX1, by decide, tb_1 (i := 86) (by decide +kernel) rfl⟩
theorem fX1_21 : v_FL RX1 21 1 3 := ⟨RX1, TX1, 6, tyX1, rfl, inX1, tyX1_ok, nmX1, by decide, tb_1 (i := 87) (by decide +kernel) rfl⟩
theorem fX3_166 : v_FL RX3 166 1 3 := ⟨RX1, TX1, 6, tyX1, rfl, inX1, tyX1_ok, nmX1, by decide, tb_1 (i := 88) (by decide +kernel) rfl⟩
theorem fX1_32 : v_FL RX1 32 1 4 := ⟨RX1, TX1, 6, tyX1, rfl, inX1, tyX1_ok, nmX1, by decide, tb_1 (i := 89) (by decide +kernel) rfl⟩
theorem pX1_32 : v_FP RX1 32 1 4 := ⟨RX1, TX1, 6, tyX1, rfl, inX1, tyX1_ok, nmX1, by decide, tb_1 (i := 89) (by decide +kernel) rfl, rfl, by decide +kernel⟩
theorem fX3_150 : v_FL RX3 150 1 4 := ⟨RX1, TX1, 6, tyX1, rfl, inX1, tyX1_ok, nmX1, by decide, tb_1 (i := 90) (by decide +kernel) rfl⟩
theorem pX3_150 : v_FP RX3 150 1 4 := ⟨RX1, TX1, 6, tyX1, rfl, inX1, tyX1_ok, nmX1, by decide, tb_1 (i := 90) (by decide +kernel) rfl, rfl, by decide +kernel⟩
theorem fX1_28 : v_FL RX1 28 1 5 := ⟨RX1, TX1, 6, tyX1, rfl, inX1, tyX1_ok, nmX1, by decide, tb_1 (i := 91) (by decide +kernel) rfl⟩
theorem pX1_28 : v_FP RX1 28 1 5 := ⟨RX1, TX1, 6, tyX1, rfl, inX1, tyX1_ok, nmX1, by decide, tb_1 (i := 91) (by decide +kernel) rfl, rfl, by decide +kernel⟩
theorem fX3_147 : v_FL RX3 147 1 5 := ⟨RX1, TX1, 6, tyX1, rfl, inX1, tyX1_ok, nmX1, by decide, tb_1 (i := 92) (by decide +kernel) rfl⟩
theorem pX3_147 : v_FP RX3 147 1 5 := ⟨RX1, TX1, 6, tyX1, rfl, inX1, tyX1_ok, nmX1, by decide, tb_1 (i := 92) (by decide +kernel) rfl, rfl, by decide +kernel⟩
theorem fX0_33 : v_FL RX0 33 0 0 := ⟨RX0, TX0, 14, tyX0, rfl, inX0, tyX0_ok, nmX0, by decide, tb_1 (i := 112) (by decide +kernel) rfl⟩
theorem fX0_37 : v_FL RX0 37 0 1 := ⟨RX0, TX0, 14, tyX0, rfl, inX0, tyX0_ok, nmX0, by decide, tb_1 (i := 113) (by decide +kernel) rfl⟩
theorem fX0_9 : v_FL RX0 9 0 2 := ⟨RX0, TX0, 14, tyX0, rfl, inX0, tyX0_ok, nmX0, by decide, tb_1 (i := 114) (by decide +kernel) rfl⟩
theorem fX3_73 : v_FL RX3 73 0 2 := ⟨RX0, TX0, 14, tyX0, rfl, inX0, tyX0_ok, nmX0, by decide, tb_1 (i := 115) (by decide +kernel) rfl⟩
theorem fX0_15 : v_FL RX0 15 0 3 := ⟨RX0, TX0, 14, tyX0, rfl, inX0, tyX0_ok, nmX0, by decide, tb_1 (i := 116) (by decide +kernel) rfl⟩
theorem fX3_114 : v_FL RX3 114 0 3 := ⟨RX0, TX0, 14, tyX0, rfl, inX0, tyX0_ok, nmX0, by decide, tb_1 (i := 117) (by decide +kernel) rfl⟩
theorem fX0_18 : v_FL RX0 18 0 4 := ⟨RX0, TX0, 14, tyX0, rfl, inX0, tyX0_ok, nmX0, by decide, tb_1 (i := 118) (by decide +kernel) rfl⟩
theorem fX3_117 : v_FL RX3 117 0 4 := ⟨RX0, TX0, 14, tyX0, rfl, inX0, tyX0_ok, nmX0, by decide, tb_1 (i := 119) (by decide +kernel) rfl⟩
theorem fX0_21 : v_FL RX0 21 0 5 := ⟨RX0, TX0, 14, tyX0, rfl, inX0, tyX0_ok, nmX0, by decide, tb_1 (i := 120) (by decide +kernel) rfl⟩
theorem fX3_120 : v_FL RX3 120 0 5 := ⟨RX0, TX0, 14, tyX0, rfl, inX0, tyX0_ok, nmX0, by decide, tb_1 (i := 121) (by decide +kernel) rfl⟩
theorem fX0_24 : v_FL RX0 24 0 6 := ⟨RX0, TX0, 14, tyX0, rfl, inX0, tyX0_ok, nmX0, by decide, tb_1 (i := 122) (by decide +kernel) rfl⟩
theorem fX3_123 : v_FL RX3 123 0 6 := ⟨RX0, TX0, 14, tyX0, rfl, inX0, tyX0_ok, nmX0, by decide, tb_1 (i := 123) (by decide +kernel) rfl⟩
theorem fX0_27 : v_FL RX0 27 0 7 := ⟨RX0, TX0, 14, tyX0, rfl, inX0, tyX0_ok, nmX0, by decide, tb_1 (i := 124) (by decide +kernel) rfl⟩
theorem fX3_126 : v_FL RX3 126 0 7 := ⟨RX0, TX0, 14, tyX0, rfl, inX0, tyX0_ok, nmX0, by decide, tb_1 (i := 125) (by decide +kernel) rfl⟩
theorem fX0_30 : v_FL RX0 30 0 8 := ⟨RX0, TX0, 14, tyX0, rfl, inX0, tyX0_ok, nmX0, by decide, tb_1 (i := 126) (by decide +kernel) rfl⟩
theorem fX3_129 : v_FL RX3 129 0 8 := ⟨RX0, TX0, 14, tyX0, rfl, inX0, tyX0_ok, nmX0, by decide, tb_1 (i := 127) (by decide +kernel) rfl⟩
theorem fX0_59 : v_FL RX0 59 0 9 := ⟨RX0, TX0, 14, tyX0, rfl, inX0, tyX0_ok, nmX0, by decide, tb_1 (i := 128) (by decide +kernel) rfl⟩
theorem pX0_59 : v_FP RX0 59 0 9 := ⟨RX0, TX0, 14, tyX0, rfl, inX0, tyX0_ok, nmX0, by decide, tb_1 (i := 128) (by decide +kernel) rfl, rfl, by decide +kernel⟩
theorem fX3_132 : v_FL RX3 132 0 9 := ⟨RX0, TX0, 14, tyX0, rfl, inX0, tyX0_ok, nmX0, by decide, tb_1 (i := 129) (by decide +kernel) rfl⟩
theorem pX3_132 : v_FP RX3 132 0 9 := ⟨RX0, TX0, 14, tyX0, rfl, inX0, tyX0_ok, nmX0, by decide, tb_1 (i := 129) (by decide +kernel) rfl, rfl, by decide +kernel⟩
theorem fX0_109 : v_FL RX0 109 0 10 := ⟨RX0, TX0, 14, tyX0, rfl, inX0, tyX0_ok, nmX0, by decide, tb_1 (i := 130) (by decide +kernel) rfl⟩
theorem pX0_109 : v_FP RX0 109 0 10 := ⟨RX0, TX0, 14, tyX0, rfl, inX0, tyX0_ok, nmX0, by decide, tb_1 (i := 130) (by decide +kernel) rfl, rfl, by decide +kernel⟩
theorem fX3_135 : v_FL RX3 135 0 10 := ⟨RX0, TX0, 14, tyX0, rfl, inX0, tyX0_ok, nmX0, by decide, tb_1 (i := 131) (by decide +kernel) rfl⟩
theorem pX3_135 : v_FP RX3 135 0 10 := ⟨RX0, TX0, 14, tyX0, rfl, inX0, tyX0_ok, nmX0, by decide, tb_1 (i := 131) (by decide +kernel) rfl, rfl, by decide +kernel⟩
theorem fX0_78 : v_FL RX0 78 0 11 := ⟨RX0, TX0, 14, tyX0, rfl, inX0, tyX0_ok, nmX0, by decide, tb_1 (i := 132) (by decide +kernel) rfl⟩
theorem pX0_78 : v_FP RX0 78 0 11 := ⟨RX0, TX0, 14, tyX0, rfl, inX0, tyX0_ok, nmX0, by decide, tb_1 (i := 132) (by decide +kernel) rfl, rfl, by decide +kernel⟩
theorem fX3_138 : v_FL RX3 138 0 11 := ⟨RX0, TX0, 14, tyX0, rfl, inX0, tyX0_ok, nmX0, by decide, tb_1 (i := 133) (by decide +kernel) rfl⟩
theorem pX3_138 : v_FP RX3 138 0 11 := ⟨RX0, TX0, 14, tyX0, rfl, inX0, tyX0_ok, nmX0, by decide, tb_1 (i := 133) (by decide +kernel) rfl, rfl, by decide +kernel⟩
theorem fX0_75 : v_FL RX0 75 0 12 := ⟨RX0, TX0, 14, tyX0, rfl, inX0, tyX0_ok, nmX0, by decide, tb_1 (i := 134) (by decide +kernel) rfl⟩
theorem pX0_75 : v_FP RX0 75 0 12 := ⟨RX0, TX0, 14, tyX0, rfl, inX0, tyX0_ok, nmX0, by decide, tb_1 (i := 134) (by decide +kernel) rfl, rfl, by decide +kernel⟩
theorem fX3_141 : v_FL RX3 141 0 12 := ⟨RX0, TX0, 14, tyX0, rfl, inX0, tyX0_ok, nmX0, by decide, tb_1 (i := 135) (by decide +kernel) rfl⟩
theorem pX3_141 : v_FP RX3 141 0 12 := ⟨RX0, TX0, 14, tyX0, rfl, inX0, tyX0_ok, nmX0, by decide, tb_1 (i := 135) (by decide +kernel) rfl, rfl, by decide +kernel⟩
theorem fX0_85 : v_FL RX0 85 0 13 := ⟨RX0, TX0, 14, tyX0, rfl, inX0, tyX0_ok, nmX0, by decide, tb_1 (i := 136) (by decide +kernel) rfl⟩
theorem pX0_85 : v_FP RX0 85 0 13 := ⟨RX0, TX0, 14, tyX0, rfl, inX0, tyX0_ok, nmX0, by decide, tb_1 (i := 136) (by decide +kernel) rfl, rfl, by decide +kernel⟩
theorem fX3_144 : v_FL RX3 144 0 13 := ⟨RX0, TX0, 14, tyX0, rfl, inX0, tyX0_ok, nmX0, by decide, tb_1 (i := 137) (by decide +kernel) rfl⟩
theorem pX3_144 : v_FP RX3 144 0 13 := ⟨RX0, TX0, 14, tyX0, rfl, inX0, tyX0_ok, nmX0, by decide, tb_1 (i := 137) (by decide +kernel) rfl, rfl, by decide +kernel⟩
theorem fX3_10 : v_FL RX3 10 3 0 := ⟨RX3, TX3, 6, tyX3, rfl, inX3, tyX3_ok, nmX3, by decide, tb_1 (i := 168) (by decide +kernel) rfl⟩
theorem fX3_19 : v_FL RX3 19 3 1 := ⟨RX3, TX3, 6, tyX3, rfl, inX3, tyX3_ok, nmX3, by decide, tb_1 (i := 169) (by decide +kernel) rfl⟩
theorem fX3_28 : v_FL RX3 28 3 2 := ⟨RX3, TX3, 6, tyX3, rfl, inX3, tyX3_ok, nmX3, by decide, tb_1 (i := 170) (by decide +kernel) rfl⟩
theorem fX3_32 : v_FL RX3 32 3 3 := ⟨RX3, TX3, 6, tyX3, rfl, inX3, tyX3_ok, nmX3, by decide, tb_1 (i := 171) (by decide +kernel) rfl⟩
theorem fX3_96 : v_FL RX3 96 3 4 := ⟨RX3, TX3, 6, tyX3, rfl, inX3, tyX3_ok, nmX3, by decide, tb_1 (i := 172) (by decide +kernel) rfl⟩
theorem pX3_96 : v_FP RX3 96 3 4 := ⟨RX3, TX3, 6, tyX3, rfl, inX3, tyX3_ok, nmX3, by decide, tb_1 (i := 172) (by decide +kernel) rfl, rfl, by decide +kernel⟩
theorem fX3_48 : v_FL RX3 48 3 5 := ⟨RX3, TX3, 6, tyX3, rfl, inX3, tyX3_ok, nmX3, by decide, tb_1 (i := 173) (by decide +kernel) rfl⟩
theorem pX3_48 : v_FP RX3 48 3 5 := ⟨RX3, TX3, 6, tyX3, rfl, inX3, tyX3_ok, nmX3, by decide, tb_1 (i := 173) (by decide +kernel) rfl, rfl, by decide +kernel⟩
theorem fX4_74 : v_FL RX4 74 4 0 := ⟨RX4, TX4, 29, tyX4, rfl, inX4, tyX4_ok, nmX4, by decide, tb_2 (i := 120) (by decide +kernel) rfl⟩
theorem pX4_74 : v_FP RX4 74 4 0 := ⟨RX4, TX4, 29, tyX4, rfl, inX4, tyX4_ok, nmX4, by decide, tb_2 (i := 120) (by decide +kernel) rfl, rfl, by decide +kernel⟩
theorem fX4_113 : v_FL RX4 113 4 1 := ⟨RX4, TX4, 29, tyX4, rfl, inX4, tyX4_ok, nmX4, by decide, tb_2 (i := 121) (by decide +kernel) rfl⟩
theorem pX4_113 : v_FP RX4 113 4 1 := ⟨RX4, TX4, 29, tyX4, rfl, inX4, tyX4_ok, nmX4, by decide, tb_2 (i := 121) (by decide +kernel) rfl, rfl, by decide +kernel⟩
theorem fX4_81 : v_FL RX4 81 4 2 := ⟨RX4, TX4, 29, tyX4, rfl, inX4, tyX4_ok, nmX4, by decide, tb_2 (i := 122) (by decide +kernel) rfl⟩
theorem pX4_81 : v_FP RX4 81 4 2 := ⟨RX4, TX4, 29, tyX4, rfl, inX4, tyX4_ok, nmX4, by decide, tb_2 (i := 122) (by decide +kernel) rfl, rfl, by decide +kernel⟩
theorem fX4_7 : v_FL RX4 7 4 3 := ⟨RX4, TX4, 29, tyX4, rfl, inX4, tyX4_ok, nmX4, by decide, tb_2 (i := 123) (by decide +kernel) rfl⟩
theorem pX4_7 : v_FP RX4 7 4 3 := ⟨RX4, TX4, 29, tyX4, rfl, inX4, tyX4_ok, nmX4, by decide, tb_2 (i := 123) (by decide +kernel) rfl, rfl, by decide +kernel⟩
theorem fX4_13 : v_FL RX4 13 4 4 := ⟨RX4, TX4, 29, tyX4, rfl, inX4, tyX4_ok, nmX4, by decide, tb_2 (i := 124) (by decide +kernel) rfl⟩
theorem pX4_13 : v_FP RX4 13 4 4 := ⟨RX4, TX4, 29, tyX4, rfl, inX4, tyX4_ok, nmX4, by decide, tb_2 (i := 124) (by decide +kernel) rfl, rfl, by decide +kernel⟩
theorem fX4_96 : v_FL RX4 96 4 5 := ⟨RX4, TX4, 29, tyX4, rfl, inX4, tyX4_ok, nmX4, by decide, tb_2 (i := 125) (by decide +kernel) rfl⟩
theorem pX4_96 : v_FP RX4 96 4 5 := ⟨RX4, TX4, 29, tyX4, rfl, inX4, tyX4_ok, nmX4, by decide, tb_2 (i := 125) (by decide +kernel) rfl, rfl, by decide +kernel⟩
theorem fX4_99 : v_FL RX4 99 4 6 := ⟨RX4, TX4, 29, tyX4, rfl, inX4, tyX4_ok, nmX4, by decide, tb_2 (i := 126) (by decide +kernel) rfl⟩
theorem pX4_99 : v_FP RX4 99 4 6 := ⟨RX4, TX4, 29, tyX4, rfl, inX4, tyX4_ok, nmX4, by decide, tb_2 (i := 126) (by decide +kernel) rfl, rfl, by decide +kernel⟩
theorem fX4_102 : v_FL RX4 102 4 7 := ⟨RX4, TX4, 29, tyX4, rfl, inX4, tyX4_ok, nmX4, by decide, tb_2 (i := 127) (by decide +kernel) rfl⟩
theorem pX4_102 : v_FP RX4 102 4 7 := ⟨RX4, TX4, 29, tyX4, rfl, inX4, tyX4_ok, nmX4, by decide, tb_2 (i := 127) (by decide +kernel) rfl, rfl, by decide +kernel⟩
theorem fX4_16 : v_FL RX4 16 4 8 := ⟨RX4, TX4, 29, tyX4, rfl, inX4, tyX4_ok, nmX4, by decide, tb_2 (i := 128) (by decide +kernel) rfl⟩
theorem fX4_20 : v_FL RX4 20 4 9 := ⟨RX4, TX4, 29, tyX4, rfl, inX4, tyX4_ok, nmX4, by decide, tb_2 (i := 129) (by decide +kernel) rfl⟩
theorem fX4_23 : v_FL RX4 23 4 10 := ⟨RX4, TX4, 29, tyX4, rfl, inX4, tyX4_ok, nmX4, by decide, tb_2 (i := 130) (by decide +kernel) rfl⟩
theorem fX4_26 : v_FL RX4 26 4 11 := ⟨RX4, TX4, 29, tyX4, rfl, inX4, tyX4_ok, nmX4, by decide, tb_2 (i := 131) (by decide +kernel) rfl⟩
theorem fX4_29 : v_FL RX4 29 4 12 := ⟨RX4, TX4, 29, tyX4, rfl, inX4, tyX4_ok, nmX4, by decide, tb_2 (i := 132) (by decide +kernel) rfl⟩
theorem fX4_32 : v_FL RX4 32 4 13 := ⟨RX4, TX4, 29, tyX4, rfl, inX4, tyX4_ok, nmX4, by decide, tb_2 (i := 133) (by decide +kernel) rfl⟩
theorem fX4_35 : v_FL RX4 35 4 14 := ⟨RX4, TX4, 29, tyX4, rfl, inX4, tyX4_ok, nmX4, by decide, tb_2 (i := 134) (by decide +kernel) rfl⟩
theorem fX4_38 : v_FL RX4 38 4 15 := ⟨RX4, TX4, 29, tyX4, rfl, inX4, tyX4_ok, nmX4, by decide, tb_2 (i := 135) (by decide +kernel) rfl⟩
theorem fX4_41 : v_FL RX4 41 4 16 := ⟨RX4, TX4, 29, tyX4, rfl, inX4, tyX4_ok, nmX4, by decide, tb_2 (i := 136) (by decide +kernel) rfl⟩
theorem fX4_44 : v_FL RX4 44 4 17 := ⟨RX4, TX4, 29, tyX4, rfl, inX4, tyX4_ok, nmX4, by decide, tb_2 (i := 137) (by decide +kernel) rfl⟩
theorem fX4_47 : v_FL RX4 47 4 18 := ⟨RX4, TX4, 29, tyX4, rfl, inX4, tyX4_ok, nmX4, by decide, tb_2 (i := 138) (by decide +kernel) rfl⟩
theorem fX4_50 : v_FL RX4 50 4 19 := ⟨RX4, TX4, 29, tyX4, rfl, inX4, tyX4_ok, nmX4, by decide, tb_2 (i := 139) (by decide +kernel) rfl⟩
theorem fX4_53 : v_FL RX4 53 4 20 := ⟨RX4, TX4, 29, tyX4, rfl, inX4, tyX4_ok, nmX4, by decide, tb_2 (i := 140) (by decide +kernel) rfl⟩
theorem fX4_56 : v_FL RX4 56 4 21 := ⟨RX4, TX4, 29, tyX4, rfl, inX4, tyX4_ok, nmX4, by decide, tb_2 (i := 141) (by decide +kernel) rfl⟩
theorem fX4_59 : v_FL RX4 59 4 22 := ⟨RX4, TX4, 29, tyX4, rfl, inX4, tyX4_ok, nmX4, by decide, tb_2 (i := 142) (by decide +kernel) rfl⟩
theorem fX4_123 : v_FL RX4 123 4 23 := ⟨RX4, TX4, 29, tyX4, rfl, inX4, tyX4_ok, nmX4, by decide, tb_2 (i := 143) (by decide +kernel) rfl⟩
theorem pX4_123 : v_FP RX4 123 4 23 := ⟨RX4, TX4, 29, tyX4, rfl, inX4, tyX4_ok, nmX4, by decide, tb_2 (i := 143) (by decide +kernel) rfl, rfl, by decide +kernel⟩
theorem fX4_116 : v_FL RX4 116 4 24 := ⟨RX4, TX4, 29, tyX4, rfl, inX4, tyX4_ok, nmX4, by decide, tb_2 (i := 144) (by decide +kernel) rfl⟩
theorem pX4_116 : v_FP RX4 116 4 24 := ⟨RX4, TX4, 29, tyX4, rfl, inX4, tyX4_ok, nmX4, by decide, tb_2 (i := 144) (by decide +kernel) rfl, rfl, by decide +kernel⟩
theorem fX4_62 : v_FL RX4 62 4 25 := ⟨RX4, TX4, 29, tyX4, rfl, inX4, tyX4_ok, nmX4, by decide, tb_2 (i := 145) (by decide +kernel) rfl⟩
theorem fX4_65 : v_FL RX4 65 4 26 := ⟨RX4, TX4, 29, tyX4, rfl, inX4, tyX4_ok, nmX4, by decide, tb_2 (i := 146) (by decide +kernel) rfl⟩
theorem fX4_68 : v_FL RX4 68 4 27 := ⟨RX4, TX4, 29, tyX4, rfl, inX4, tyX4_ok, nmX4, by decide, tb_2 (i := 147) (by decide +kernel) rfl⟩
theorem fX4_71 : v_FL RX4 71 4 28 := ⟨RX4, TX4, 29, tyX4, rfl, inX4, tyX4_ok, nmX4, by decide, tb_2 (i := 148) (by decide +kernel) rfl⟩
theorem YX3_init : v_Y yX3_init cX3_init 2 none 0 := ⟨tb_1 (i := 11) (by decide +kernel) rfl, tb_1 (i := 1) (by decide +kernel) rfl, by decide +kernel, by decide +kernel, by decide +kernel⟩
theorem YX2_init : v_Y yX2_init cX2_init 1 none 0 := ⟨tb_1 (i := 19) (by decide +kernel) rfl, tb_1 (i := 2) (by decide +kernel) rfl, by decide +kernel, by decide +kernel, by decide +kernel⟩
theorem YX1_init : v_Y yX1_init cX1_init 1 none 0 := ⟨tb_1 (i := 79) (by decide +kernel) rfl, tb_1 (i := 3) (by decide +kernel) rfl, by decide +kernel, by decide +kernel, by decide +kernel⟩
theorem YX0_init : v_Y yX0_init cX0_init 3 none 2 := ⟨tb_1 (i := 110) (by decide +kernel) rfl, tb_1 (i := 4) (by decide +kernel) rfl, by decide +kernel, by decide +kernel, by decide +kernel⟩
theorem YX3_hatch : v_Y yX3_hatch cX3_hatch 4 (some .int) 3 := ⟨tb_1 (i := 190) (by decide +kernel) rfl, tb_1 (i := 1) (by decide +kernel) rfl, by decide +kernel, by decide +kernel, by decide +kernel⟩
theorem YX3_isWithin : v_Y yX3_isWithin cX3_isWithin 3 (some .boolean) 3 := ⟨tb_1 (i := 193) (by decide +kernel) rfl, tb_1 (i := 1) (by decide +kernel) rfl, by decide +kernel, by decide +kernel, by decide +kernel⟩
theorem YX3_hasAllDeeds : v_Y yX3_hasAllDeeds cX3_hasAllDeeds 1 (some .boolean) 0 := ⟨tb_1 (i := 197) (by decide +kernel) rfl, tb_1 (i := 1) (by decide +kernel) rfl, by decide +kernel, by decide +kernel, by decide +kernel⟩
theorem YX2_addHatch : v_Y yX2_addHatch cX2_addHatch 5 (some .int) 3 := ⟨tb_1 (i := 201) (by decide +kernel) rfl, tb_1 (i := 2) (by decide +kernel) rfl, by decide +kernel, by decide +kernel, by decide +kernel⟩
theorem YX3_open : v_Y yX3_open cX3_open 4 (some .int) 2 := ⟨tb_1 (i := 205) (by decide +kernel) rfl, tb_1 (i := 1) (by decide +kernel) rfl, by decide +kernel, by decide +kernel, by decide +kernel⟩
theorem YX2_isHatch : v_Y yX2_isHatch cX2_isHatch 2 (some .boolean) 1 := ⟨tb_1 (i := 209) (by decide +kernel) rfl, tb_1 (i := 2) (by decide +kernel) rfl, by decide +kernel, by decide +kernel, by decide +kernel⟩
theorem YX3_flow : v_Y yX3_flow cX3_flow 3 (some .int) 1 := ⟨tb_1 (i := 213) (by decide +kernel) rfl, tb_1 (i := 1) (by decide +kernel) rfl, by decide +kernel, by decide +kernel, by decide +kernel⟩
theorem YX3_air : v_Y yX3_air cX3_air 3 (some .int) 1 := ⟨tb_1 (i := 217) (by decide +kernel) rfl, tb_1 (i := 1) (by decide +kernel) rfl, by decide +kernel, by decide +kernel, by decide +kernel⟩
theorem YX3_dig : v_Y yX3_dig cX3_dig 4 (some .int) 1 := ⟨tb_1 (i := 221) (by decide +kernel) rfl, tb_1 (i := 1) (by decide +kernel) rfl, by decide +kernel, by decide +kernel, by decide +kernel⟩
theorem YX0_siltOf : v_Y yX0_siltOf cX0_siltOf 2 (some .int) 1 := ⟨tb_1 (i := 225) (by decide +kernel) rfl, tb_1 (i := 4) (by decide +kernel) rfl, by decide +kernel, by decide +kernel, by decide +kernel⟩
theorem YX3_sheep : v_Y yX3_sheep cX3_sheep 6 (some .int) 3 := ⟨tb_1 (i := 229) (by decide +kernel) rfl, tb_1 (i := 1) (by decide +kernel) rfl, by decide +kernel, by decide +kernel, by decide +kernel⟩
theorem YX2_isPane : v_Y yX2_isPane cX2_isPane 3 (some .boolean) 2 := ⟨tb_1 (i := 233) (by decide +kernel) rfl, tb_1 (i := 2) (by decide +kernel) rfl, by decide +kernel, by decide +kernel, by decide +kernel⟩
theorem YX3_placeOf : v_Y yX3_placeOf cX3_placeOf 2 (some .int) 2 := ⟨tb_1 (i := 237) (by decide +kernel) rfl, tb_1 (i := 1) (by decide +kernel) rfl, by decide +kernel, by decide +kernel, by decide +kernel⟩
theorem YX3_right : v_Y yX3_right cX3_right 5 (some .int) 3 := ⟨tb_2 (i := 1) (by decide +kernel) rfl, tb_1 (i := 1) (by decide +kernel) rfl, by decide +kernel, by decide +kernel, by decide +kernel⟩
theorem YX3_hours : v_Y yX3_hours cX3_hours 3 (some .int) 1 := ⟨tb_2 (i := 5) (by decide +kernel) rfl, tb_1 (i := 1) (by decide +kernel) rfl, by decide +kernel, by decide +kernel, by decide +kernel⟩
theorem YX3_advance : v_Y yX3_advance cX3_advance 2 none 0 := ⟨tb_2 (i := 9) (by decide +kernel) rfl, tb_1 (i := 1) (by decide +kernel) rfl, by decide +kernel, by decide +kernel, by decide +kernel⟩
theorem YX0_passHour : v_Y yX0_passHour cX0_passHour 4 none 1 := ⟨tb_2 (i := 13) (by decide +kernel) rfl, tb_1 (i := 4) (by decide +kernel) rfl, by decide +kernel, by decide +kernel, by decide +kernel⟩
theorem YX0_takeIn : v_Y yX0_takeIn cX0_takeIn 4 none 2 := ⟨tb_2 (i := 17) (by decide +kernel) rfl, tb_1 (i := 4) (by decide +kernel) rfl, by decide +kernel, by decide +kernel, by decide +kernel⟩
theorem YX0_mostOf : v_Y yX0_mostOf cX0_mostOf 2 (some .int) 1 := ⟨tb_2 (i := 21) (by decide +kernel) rfl, tb_1 (i := 4) (by decide +kernel) rfl, by decide +kernel, by decide +kernel, by decide +kernel⟩
theorem YX0_soakPanes : v_Y yX0_soakPanes cX0_soakPanes 9 (some .int) 1 := ⟨tb_2 (i := 32) (by decide +kernel) rfl, tb_1 (i := 4) (by decide +kernel) rfl, by decide +kernel, by decide +kernel, by decide +kernel⟩
theorem YX0_tendPanes : v_Y yX0_tendPanes cX0_tendPanes 6 none 2 := ⟨tb_2 (i := 37) (by decide +kernel) rfl, tb_1 (i := 4) (by decide +kernel) rfl, by decide +kernel, by decide +kernel, by decide +kernel⟩
theorem YX2_isGrazing : v_Y yX2_isGrazing cX2_isGrazing 2 (some .boolean) 1 := ⟨tb_2 (i := 41) (by decide +kernel) rfl, tb_1 (i := 2) (by decide +kernel) rfl, by decide +kernel, by decide +kernel, by decide +kernel⟩
theorem YX0_growGrass : v_Y yX0_growGrass cX0_growGrass 4 none 1 := ⟨tb_2 (i := 46) (by decide +kernel) rfl, tb_1 (i := 4) (by decide +kernel) rfl, by decide +kernel, by decide +kernel, by decide +kernel⟩
theorem YX0_grazePane : v_Y yX0_grazePane cX0_grazePane 3 none 1 := ⟨tb_2 (i := 50) (by decide +kernel) rfl, tb_1 (i := 4) (by decide +kernel) rfl, by decide +kernel, by decide +kernel, by decide +kernel⟩
theorem YX0_isMillShort : v_Y yX0_isMillShort cX0_isMillShort 2 (some .boolean) 1 := ⟨tb_2 (i := 54) (by decide +kernel) rfl, tb_1 (i := 4) (by decide +kernel) rfl, by decide +kernel, by decide +kernel, by decide +kernel⟩
theorem YX2_rightAt : v_Y yX2_rightAt cX2_rightAt 4 (some .int) 1 := ⟨tb_2 (i := 58) (by decide +kernel) rfl, tb_1 (i := 2) (by decide +kernel) rfl, by decide +kernel, by decide +kernel, by decide +kernel⟩
theorem YX2_isLawless : v_Y yX2_isLawless cX2_isLawless 1 (some .boolean) 0 := ⟨tb_2 (i := 62) (by decide +kernel) rfl, tb_1 (i := 2) (by decide +kernel) rfl, by decide +kernel, by decide +kernel, by decide +kernel⟩
theorem YX3_judgeHour : v_Y yX3_judgeHour cX3_judgeHour 4 none 0 := ⟨tb_2 (i := 66) (by decide +kernel) rfl, tb_1 (i := 1) (by decide +kernel) rfl, by decide +kernel, by decide +kernel, by decide +kernel⟩
theorem YX2_isOutOfTurn : v_Y yX2_isOutOfTurn cX2_isOutOfTurn 4 (some .boolean) 2 := ⟨tb_2 (i := 70) (by decide +kernel) rfl, tb_1 (i := 2) (by decide +kernel) rfl, by decide +kernel, by decide +kernel, by decide +kernel⟩
theorem YX1_enterTurn : v_Y yX1_enterTurn cX1_enterTurn 4 none 3 := ⟨tb_2 (i := 74) (by decide +kernel) rfl, tb_1 (i := 3) (by decide +kernel) rfl, by decide +kernel, by decide +kernel, by decide +kernel⟩
theorem YX1_enter : v_Y yX1_enter cX1_enter 4 none 3 := ⟨tb_2 (i := 78) (by decide +kernel) rfl, tb_1 (i := 3) (by decide +kernel) rfl, by decide +kernel, by decide +kernel, by decide +kernel⟩
theorem YX3_told : v_Y yX3_told cX3_told 3 (some .int) 2 := ⟨tb_2 (i := 84) (by decide +kernel) rfl, tb_1 (i := 1) (by decide +kernel) rfl, by decide +kernel, by decide +kernel, by decide +kernel⟩
theorem YX3_pane : v_Y yX3_pane cX3_pane 5 (some .int) 3 := ⟨tb_2 (i := 89) (by decide +kernel) rfl, tb_1 (i := 1) (by decide +kernel) rfl, by decide +kernel, by decide +kernel, by decide +kernel⟩
theorem YX3_stream : v_Y yX3_stream cX3_stream 2 (some .int) 1 := ⟨tb_2 (i := 93) (by decide +kernel) rfl, tb_1 (i := 1) (by decide +kernel) rfl, by decide +kernel, by decide +kernel, by decide +kernel⟩
theorem YX3_broken : v_Y yX3_broken cX3_broken 3 (some .int) 2 := ⟨tb_2 (i := 97) (by decide +kernel) rfl, tb_1 (i := 1) (by decide +kernel) rfl, by decide +kernel, by decide +kernel, by decide +kernel⟩
theorem YX3_farm : v_Y yX3_farm cX3_farm 3 (some .int) 2 := ⟨tb_2 (i := 101) (by decide +kernel) rfl, tb_1 (i := 1) (by decide +kernel) rfl, by decide +kernel, by decide +kernel, by decide +kernel⟩
theorem YX0_sumOfFarm : v_Y yX0_sumOfFarm cX0_sumOfFarm 6 (some .int) 2 := ⟨tb_2 (i := 105) (by decide +kernel) rfl, tb_1 (i := 4) (by decide +kernel) rfl, by decide +kernel, by decide +kernel, by decide +kernel⟩
theorem YX3_without : v_Y yX3_without cX3_without 4 (some .int) 2 := ⟨tb_2 (i := 109) (by decide +kernel) rfl, tb_1 (i := 1) (by decide +kernel) rfl, by decide +kernel, by decide +kernel, by decide +kernel⟩
theorem YX3_count : v_Y yX3_count cX3_count 2 (some .int) 1 := ⟨tb_2 (i := 113) (by decide +kernel) rfl, tb_1 (i := 1) (by decide +kernel) rfl, by decide +kernel, by decide +kernel, by decide +kernel⟩
theorem YX4_init : v_Y yX4_init cX4_init 1 none 0 := ⟨tb_2 (i := 118) (by decide +kernel) rfl, tb_1 (i := 5) (by decide +kernel) rfl, by decide +kernel, by decide +kernel, by decide +kernel⟩
theorem YX4_hatch : v_Y yX4_hatch cX4_hatch 4 (some .int) 3 := ⟨tb_2 (i := 211) (by decide +kernel) rfl, tb_1 (i := 5) (by decide +kernel) rfl, by decide +kernel, by decide +kernel, by decide +kernel⟩
theorem YX4_in : v_Y yX4_in cX4_in 3 (some .boolean) 3 := ⟨tb_2 (i := 214) (by decide +kernel) rfl, tb_1 (i := 5) (by decide +kernel) rfl, by decide +kernel, by decide +kernel, by decide +kernel⟩
theorem YX4_isFull : v_Y yX4_isFull cX4_isFull 1 (some .boolean) 0 := ⟨tb_2 (i := 218) (by decide +kernel) rfl, tb_1 (i := 5) (by decide +kernel) rfl, by decide +kernel, by decide +kernel, by decide +kernel⟩
theorem YX4_open : v_Y yX4_open cX4_open 4 (some .int) 2 := ⟨tb_2 (i := 222) (by decide +kernel) rfl, tb_1 (i := 5) (by decide +kernel) rfl, by decide +kernel, by decide +kernel, by decide +kernel⟩
theorem YX4_isHatch : v_Y yX4_isHatch cX4_isHatch 2 (some .boolean) 1 := ⟨tb_2 (i := 226) (by decide +kernel) rfl, tb_1 (i := 5) (by decide +kernel) rfl, by decide +kernel, by decide +kernel, by decide +kernel⟩
theorem YX4_flow : v_Y yX4_flow cX4_flow 3 (some .int) 1 := ⟨tb_2 (i := 230) (by decide +kernel) rfl, tb_1 (i := 5) (by decide +kernel) rfl, by decide +kernel, by decide +kernel, by decide +kernel⟩
theorem YX4_air : v_Y yX4_air cX4_air 3 (some .int) 1 := ⟨tb_2 (i := 234) (by decide +kernel) rfl, tb_1 (i := 5) (by decide +kernel) rfl, by decide +kernel, by decide +kernel, by decide +kernel⟩
theorem YX4_dig : v_Y yX4_dig cX4_dig 4 (some .int) 1 := ⟨tb_2 (i := 238) (by decide +kernel) rfl, tb_1 (i := 5) (by decide +kernel) rfl, by decide +kernel, by decide +kernel, by decide +kernel⟩
theorem YX4_sheep : v_Y yX4_sheep cX4_sheep 5 (some .int) 3 := ⟨tb_3 (i := 2) (by decide +kernel) rfl, tb_1 (i := 5) (by decide +kernel) rfl, by decide +kernel, by decide +kernel, by decide +kernel⟩
theorem YX4_isPane : v_Y yX4_isPane cX4_isPane 3 (some .boolean) 2 := ⟨tb_3 (i := 6) (by decide +kernel) rfl, tb_1 (i := 5) (by decide +kernel) rfl, by decide +kernel, by decide +kernel, by decide +kernel⟩
theorem YX4_right : v_Y yX4_right cX4_right 5 (some .int) 3 := ⟨tb_3 (i := 10) (by decide +kernel) rfl, tb_1 (i := 5) (by decide +kernel) rfl, by decide +kernel, by decide +kernel, by decide +kernel⟩
theorem YX4_hours : v_Y yX4_hours cX4_hours 4 (some .int) 1 := ⟨tb_3 (i := 14) (by decide +kernel) rfl, tb_1 (i := 5) (by decide +kernel) rfl, by decide +kernel, by decide +kernel, by decide +kernel⟩
theorem YX4_flows : v_Y yX4_flows cX4_flows 10 none 1 := ⟨tb_3 (i := 18) (by decide +kernel) rfl, tb_1 (i := 5) (by decide +kernel) rfl, by decide +kernel, by decide +kernel, by decide +kernel⟩
theorem YX4_most : v_Y yX4_most cX4_most 4 (some .int) 2 := ⟨tb_3 (i := 22) (by decide +kernel) rfl, tb_1 (i := 5) (by decide +kernel) rfl, by decide +kernel, by decide +kernel, by decide +kernel⟩
theorem YX4_grows : v_Y yX4_grows cX4_grows 7 none 3 := ⟨tb_3 (i := 26) (by decide +kernel) rfl, tb_1 (i := 5) (by decide +kernel) rfl, by decide +kernel, by decide +kernel, by decide +kernel⟩
theorem YX4_judges : v_Y yX4_judges cX4_judges 5 none 0 := ⟨tb_3 (i := 30) (by decide +kernel) rfl, tb_1 (i := 5) (by decide +kernel) rfl, by decide +kernel, by decide +kernel, by decide +kernel⟩
theorem YX4_breaks : v_Y yX4_breaks cX4_breaks 3 none 2 := ⟨tb_3 (i := 34) (by decide +kernel) rfl, tb_1 (i := 5) (by decide +kernel) rfl, by decide +kernel, by decide +kernel, by decide +kernel⟩
theorem YX4_told : v_Y yX4_told cX4_told 3 (some .int) 2 := ⟨tb_3 (i := 38) (by decide +kernel) rfl, tb_1 (i := 5) (by decide +kernel) rfl, by decide +kernel, by decide +kernel, by decide +kernel⟩
theorem YX4_pane : v_Y yX4_pane cX4_pane 5 (some .int) 3 := ⟨tb_3 (i := 42) (by decide +kernel) rfl, tb_1 (i := 5) (by decide +kernel) rfl, by decide +kernel, by decide +kernel, by decide +kernel⟩
theorem YX4_stream : v_Y yX4_stream cX4_stream 2 (some .int) 1 := ⟨tb_3 (i := 46) (by decide +kernel) rfl, tb_1 (i := 5) (by decide +kernel) rfl, by decide +kernel, by decide +kernel, by decide +kernel⟩
theorem YX4_sum : v_Y yX4_sum cX4_sum 5 (some .int) 2 := ⟨tb_3 (i := 50) (by decide +kernel) rfl, tb_1 (i := 5) (by decide +kernel) rfl, by decide +kernel, by decide +kernel, by decide +kernel⟩
theorem YX4_broken : v_Y yX4_broken cX4_broken 3 (some .int) 2 := ⟨tb_3 (i := 54) (by decide +kernel) rfl, tb_1 (i := 5) (by decide +kernel) rfl, by decide +kernel, by decide +kernel, by decide +kernel⟩
theorem YX4_farm : v_Y yX4_farm cX4_farm 3 (some .int) 2 := ⟨tb_3 (i := 58) (by decide +kernel) rfl, tb_1 (i := 5) (by decide +kernel) rfl, by decide +kernel, by decide +kernel, by decide +kernel⟩
theorem YX4_ofFarm : v_Y yX4_ofFarm cX4_ofFarm 7 (some .int) 3 := ⟨tb_3 (i := 62) (by decide +kernel) rfl, tb_1 (i := 5) (by decide +kernel) rfl, by decide +kernel, by decide +kernel, by decide +kernel⟩
theorem YX4_without : v_Y yX4_without cX4_without 3 (some .int) 2 := ⟨tb_3 (i := 66) (by decide +kernel) rfl, tb_1 (i := 5) (by decide +kernel) rfl, by decide +kernel, by decide +kernel, by decide +kernel⟩
theorem YX4_count : v_Y yX4_count cX4_count 2 (some .int) 1 := ⟨tb_3 (i := 70) (by decide +kernel) rfl, tb_1 (i := 5) (by decide +kernel) rfl, by decide +kernel, by decide +kernel, by decide +kernel⟩
theorem mL_13 : v_LV RL 13 yX3_hatch := ⟨tb_1 (i := 187) (by decide +kernel) rfl, tb_1 (i := 188) (by decide +kernel) rfl, tb_1 (i := 189) (by decide +kernel) rfl⟩
theorem mX3_36 : v_LS RX3 36 yX3_isWithin := ⟨tb_1 (i := 191) (by decide +kernel) rfl, tb_1 (i := 192) (by decide +kernel) rfl⟩
theorem mX3_44 : v_LV RX3 44 yX3_hasAllDeeds := ⟨tb_1 (i := 194) (by decide +kernel) rfl, tb_1 (i := 196) (by decide +kernel) rfl, tb_0 (i := 0) (by decide +kernel) rfl⟩
theorem mX3_51 : v_LV RX3 51 yX2_addHatch := ⟨tb_1 (i := 198) (by decide +kernel) rfl, tb_1 (i := 199) (by decide +kernel) rfl, tb_1 (i := 200) (by decide +kernel) rfl⟩
theorem mL_18 : v_LV RL 18 yX3_open := ⟨tb_1 (i := 202) (by decide +kernel) rfl, tb_1 (i := 203) (by decide +kernel) rfl, tb_1 (i := 204) (by decide +kernel) rfl⟩
theorem mX3_55 : v_LV RX3 55 yX2_isHatch := ⟨tb_1 (i := 206) (by decide +kernel) rfl, tb_1 (i := 207) (by decide +kernel) rfl, tb_1 (i := 208) (by decide +kernel) rfl⟩
theorem mL_23 : v_LV RL 23 yX3_flow := ⟨tb_1 (i := 210) (by decide +kernel) rfl, tb_1 (i := 211) (by decide +kernel) rfl, tb_1 (i := 212) (by decide +kernel) rfl⟩
theorem mL_28 : v_LV RL 28 yX3_air := ⟨tb_1 (i := 214) (by decide +kernel) rfl, tb_1 (i := 215) (by decide +kernel) rfl, tb_1 (i := 216) (by decide +kernel) rfl⟩
theorem mL_32 : v_LV RL 32 yX3_dig := ⟨tb_1 (i := 218) (by decide +kernel) rfl, tb_1 (i := 219) (by decide +kernel) rfl, tb_1 (i := 220) (by decide +kernel) rfl⟩
theorem mX3_69 : v_LV RX3 69 yX0_siltOf := ⟨tb_1 (i := 222) (by decide +kernel) rfl, tb_1 (i := 223) (by decide +kernel) rfl, tb_1 (i := 224) (by decide +kernel) rfl⟩
theorem mL_36 : v_LV RL 36 yX3_sheep := ⟨tb_1 (i := 226) (by decide +kernel) rfl, tb_1 (i := 227) (by decide +kernel) rfl, tb_1 (i := 228) (by decide +kernel) rfl⟩
theorem mX3_76 : v_LV RX3 76 yX2_isPane := ⟨tb_1 (i := 230) (by decide +kernel) rfl, tb_1 (i := 231) (by decide +kernel) rfl, tb_1 (i := 232) (by decide +kernel) rfl⟩
theorem mX2_37 : v_LV RX2 37 yX2_isHatch := ⟨tb_1 (i := 234) (by decide +kernel) rfl, tb_1 (i := 207) (by decide +kernel) rfl, tb_1 (i := 208) (by decide +kernel) rfl⟩
theorem mX3_80 : v_LS RX3 80 yX3_placeOf := ⟨tb_1 (i := 235) (by decide +kernel) rfl, tb_1 (i := 236) (by decide +kernel) rfl⟩
theorem mL_40 : v_LV RL 40 yX3_right := ⟨tb_1 (i := 238) (by decide +kernel) rfl, tb_1 (i := 239) (by decide +kernel) rfl, tb_2 (i := 0) (by decide +kernel) rfl⟩
theorem mL_44 : v_LV RL 44 yX3_hours := ⟨tb_2 (i := 2) (by decide +kernel) rfl, tb_2 (i := 3) (by decide +kernel) rfl, tb_2 (i := 4) (by decide +kernel) rfl⟩
theorem mX3_99 : v_LV RX3 99 yX3_advance := ⟨tb_2 (i := 6) (by decide +kernel) rfl, tb_2 (i := 8) (by decide +kernel) rfl, tb_0 (i := 1) (by decide +kernel) rfl⟩
theorem mX3_169 : v_LV RX3 169 yX0_passHour := ⟨tb_2 (i := 10) (by decide +kernel) rfl, tb_2 (i := 11) (by decide +kernel) rfl, tb_2 (i := 12) (by decide +kernel) rfl⟩
theorem mX0_65 : v_LV RX0 65 yX0_takeIn := ⟨tb_2 (i := 14) (by decide +kernel) rfl, tb_2 (i := 16) (by decide +kernel) rfl, tb_0 (i := 2) (by decide +kernel) rfl⟩
theorem mX0_103 : v_LV RX0 103 yX0_mostOf := ⟨tb_2 (i := 18) (by decide +kernel) rfl, tb_2 (i := 19) (by decide +kernel) rfl, tb_2 (i := 20) (by decide +kernel) rfl⟩
theorem mX0_46 : v_LV RX0 46 yX0_siltOf := ⟨tb_2 (i := 22) (by decide +kernel) rfl, tb_1 (i := 223) (by decide +kernel) rfl, tb_1 (i := 224) (by decide +kernel) rfl⟩
theorem mX0_50 : v_LM RX0 50 Lib.Math.max.name Lib.Math.max.code := ⟨tb_2 (i := 23) (by decide +kernel) rfl, tb_2 (i := 24) (by decide +kernel) rfl, tb_1 (i := 6) (by decide +kernel) rfl, tb_2 (i := 25) (by decide +kernel) rfl⟩
theorem mX0_106 : v_LM RX0 106 Lib.Math.min.name Lib.Math.min.code := ⟨tb_2 (i := 26) (by decide +kernel) rfl, tb_2 (i := 27) (by decide +kernel) rfl, tb_1 (i := 6) (by decide +kernel) rfl, tb_2 (i := 28) (by decide +kernel) rfl⟩
theorem mX0_69 : v_LV RX0 69 yX0_soakPanes := ⟨tb_2 (i := 29) (by decide +kernel) rfl, tb_2 (i := 31) (by decide +kernel) rfl, tb_0 (i := 3) (by decide +kernel) rfl⟩
theorem mX0_72 : v_LV RX0 72 yX0_tendPanes := ⟨tb_2 (i := 34) (by decide +kernel) rfl, tb_2 (i := 36) (by decide +kernel) rfl, tb_0 (i := 4) (by decide +kernel) rfl⟩
theorem mX0_112 : v_LV RX0 112 yX2_isGrazing := ⟨tb_2 (i := 38) (by decide +kernel) rfl, tb_2 (i := 39) (by decide +kernel) rfl, tb_2 (i := 40) (by decide +kernel) rfl⟩
theorem mX0_115 : v_LV RX0 115 yX0_growGrass := ⟨tb_2 (i := 43) (by decide +kernel) rfl, tb_2 (i := 45) (by decide +kernel) rfl, tb_0 (i := 5) (by decide +kernel) rfl⟩
theorem mX0_119 : v_LV RX0 119 yX0_grazePane := ⟨tb_2 (i := 47) (by decide +kernel) rfl, tb_2 (i := 49) (by decide +kernel) rfl, tb_0 (i := 6) (by decide +kernel) rfl⟩
theorem mX0_81 : v_LV RX0 81 yX0_isMillShort := ⟨tb_2 (i := 51) (by decide +kernel) rfl, tb_2 (i := 52) (by decide +kernel) rfl, tb_2 (i := 53) (by decide +kernel) rfl⟩
theorem mX0_88 : v_LV RX0 88 yX2_rightAt := ⟨tb_2 (i := 55) (by decide +kernel) rfl, tb_2 (i := 56) (by decide +kernel) rfl, tb_2 (i := 57) (by decide +kernel) rfl⟩
theorem mX2_41 : v_LV RX2 41 yX2_isLawless := ⟨tb_2 (i := 59) (by decide +kernel) rfl, tb_2 (i := 60) (by decide +kernel) rfl, tb_2 (i := 61) (by decide +kernel) rfl⟩
theorem mX3_173 : v_LV RX3 173 yX3_judgeHour := ⟨tb_2 (i := 63) (by decide +kernel) rfl, tb_2 (i := 65) (by decide +kernel) rfl, tb_0 (i := 7) (by decide +kernel) rfl⟩
theorem mX3_176 : v_LV RX3 176 yX2_isOutOfTurn := ⟨tb_2 (i := 67) (by decide +kernel) rfl, tb_2 (i := 68) (by decide +kernel) rfl, tb_2 (i := 69) (by decide +kernel) rfl⟩
theorem mX3_179 : v_LV RX3 179 yX1_enterTurn := ⟨tb_2 (i := 71) (by decide +kernel) rfl, tb_2 (i := 72) (by decide +kernel) rfl, tb_2 (i := 73) (by decide +kernel) rfl⟩
theorem mX1_24 : v_LV RX1 24 yX1_enter := ⟨tb_2 (i := 75) (by decide +kernel) rfl, tb_2 (i := 76) (by decide +kernel) rfl, tb_2 (i := 77) (by decide +kernel) rfl⟩
theorem mX3_183 : v_LV RX3 183 yX0_isMillShort := ⟨tb_2 (i := 79) (by decide +kernel) rfl, tb_2 (i := 52) (by decide +kernel) rfl, tb_2 (i := 53) (by decide +kernel) rfl⟩
theorem mX3_186 : v_LV RX3 186 yX1_enter := ⟨tb_2 (i := 80) (by decide +kernel) rfl, tb_2 (i := 76) (by decide +kernel) rfl, tb_2 (i := 77) (by decide +kernel) rfl⟩
theorem mL_48 : v_LV RL 48 yX3_told := ⟨tb_2 (i := 81) (by decide +kernel) rfl, tb_2 (i := 82) (by decide +kernel) rfl, tb_2 (i := 83) (by decide +kernel) rfl⟩
theorem mX3_111 : v_LV RX3 111 yX0_mostOf := ⟨tb_2 (i := 85) (by decide +kernel) rfl, tb_2 (i := 19) (by decide +kernel) rfl, tb_2 (i := 20) (by decide +kernel) rfl⟩
theorem mL_52 : v_LV RL 52 yX3_pane := ⟨tb_2 (i := 86) (by decide +kernel) rfl, tb_2 (i := 87) (by decide +kernel) rfl, tb_2 (i := 88) (by decide +kernel) rfl⟩
theorem mL_56 : v_LV RL 56 yX3_stream := ⟨tb_2 (i := 90) (by decide +kernel) rfl, tb_2 (i := 91) (by decide +kernel) rfl, tb_2 (i := 92) (by decide +kernel) rfl⟩
theorem mL_60 : v_LV RL 60 yX3_broken := ⟨tb_2 (i := 94) (by decide +kernel) rfl, tb_2 (i := 95) (by decide +kernel) rfl, tb_2 (i := 96) (by decide +kernel) rfl⟩
theorem mL_64 : v_LV RL 64 yX3_farm := ⟨tb_2 (i := 98) (by decide +kernel) rfl, tb_2 (i := 99) (by decide +kernel) rfl, tb_2 (i := 100) (by decide +kernel) rfl⟩
theorem mX3_162 : v_LV RX3 162 yX0_sumOfFarm := ⟨tb_2 (i := 102) (by decide +kernel) rfl, tb_2 (i := 103) (by decide +kernel) rfl, tb_2 (i := 104) (by decide +kernel) rfl⟩
theorem mL_68 : v_LV RL 68 yX3_without := ⟨tb_2 (i := 106) (by decide +kernel) rfl, tb_2 (i := 107) (by decide +kernel) rfl, tb_2 (i := 108) (by decide +kernel) rfl⟩
theorem mL_72 : v_LV RL 72 yX3_count := ⟨tb_2 (i := 110) (by decide +kernel) rfl, tb_2 (i := 111) (by decide +kernel) rfl, tb_2 (i := 112) (by decide +kernel) rfl⟩
theorem mL_17 : v_LV RL 17 yX4_hatch := ⟨tb_2 (i := 208) (by decide +kernel) rfl, tb_2 (i := 209) (by decide +kernel) rfl, tb_2 (i := 210) (by decide +kernel) rfl⟩
theorem mX4_77 : v_LS RX4 77 yX4_in := ⟨tb_2 (i := 212) (by decide +kernel) rfl, tb_2 (i := 213) (by decide +kernel) rfl⟩
theorem mX4_84 : v_LV RX4 84 yX4_isFull := ⟨tb_2 (i := 215) (by decide +kernel) rfl, tb_2 (i := 217) (by decide +kernel) rfl, tb_0 (i := 8) (by decide +kernel) rfl⟩
theorem mL_22 : v_LV RL 22 yX4_open := ⟨tb_2 (i := 219) (by decide +kernel) rfl, tb_2 (i := 220) (by decide +kernel) rfl, tb_2 (i := 221) (by decide +kernel) rfl⟩
theorem mX4_88 : v_LV RX4 88 yX4_isHatch := ⟨tb_2 (i := 223) (by decide +kernel) rfl, tb_2 (i := 225) (by decide +kernel) rfl, tb_0 (i := 9) (by decide +kernel) rfl⟩
theorem mL_27 : v_LV RL 27 yX4_flow := ⟨tb_2 (i := 227) (by decide +kernel) rfl, tb_2 (i := 228) (by decide +kernel) rfl, tb_2 (i := 229) (by decide +kernel) rfl⟩
theorem mL_31 : v_LV RL 31 yX4_air := ⟨tb_2 (i := 231) (by decide +kernel) rfl, tb_2 (i := 232) (by decide +kernel) rfl, tb_2 (i := 233) (by decide +kernel) rfl⟩
theorem mL_35 : v_LV RL 35 yX4_dig := ⟨tb_2 (i := 235) (by decide +kernel) rfl, tb_2 (i := 236) (by decide +kernel) rfl, tb_2 (i := 237) (by decide +kernel) rfl⟩
theorem mL_39 : v_LV RL 39 yX4_sheep := ⟨tb_2 (i := 239) (by decide +kernel) rfl, tb_3 (i := 0) (by decide +kernel) rfl, tb_3 (i := 1) (by decide +kernel) rfl⟩
theorem mX4_92 : v_LV RX4 92 yX4_isPane := ⟨tb_3 (i := 3) (by decide +kernel) rfl, tb_3 (i := 5) (by decide +kernel) rfl, tb_0 (i := 10) (by decide +kernel) rfl⟩
theorem mL_43 : v_LV RL 43 yX4_right := ⟨tb_3 (i := 7) (by decide +kernel) rfl, tb_3 (i := 8) (by decide +kernel) rfl, tb_3 (i := 9) (by decide +kernel) rfl⟩
theorem mL_47 : v_LV RL 47 yX4_hours := ⟨tb_3 (i := 11) (by decide +kernel) rfl, tb_3 (i := 12) (by decide +kernel) rfl, tb_3 (i := 13) (by decide +kernel) rfl⟩
theorem mX4_126 : v_LV RX4 126 yX4_flows := ⟨tb_3 (i := 15) (by decide +kernel) rfl, tb_3 (i := 17) (by decide +kernel) rfl, tb_0 (i := 11) (by decide +kernel) rfl⟩
theorem mX4_105 : v_LV RX4 105 yX4_most := ⟨tb_3 (i := 19) (by decide +kernel) rfl, tb_3 (i := 21) (by decide +kernel) rfl, tb_0 (i := 12) (by decide +kernel) rfl⟩
theorem mX4_109 : v_LV RX4 109 yX4_grows := ⟨tb_3 (i := 23) (by decide +kernel) rfl, tb_3 (i := 25) (by decide +kernel) rfl, tb_0 (i := 13) (by decide +kernel) rfl⟩
theorem mX4_130 : v_LV RX4 130 yX4_judges := ⟨tb_3 (i := 27) (by decide +kernel) rfl, tb_3 (i := 29) (by decide +kernel) rfl, tb_0 (i := 14) (by decide +kernel) rfl⟩
theorem mX4_119 : v_LV RX4 119 yX4_breaks := ⟨tb_3 (i := 31) (by decide +kernel) rfl, tb_3 (i := 33) (by decide +kernel) rfl, tb_0 (i := 15) (by decide +kernel) rfl⟩
theorem mL_51 : v_LV RL 51 yX4_told := ⟨tb_3 (i := 35) (by decide +kernel) rfl, tb_3 (i := 36) (by decide +kernel) rfl, tb_3 (i := 37) (by decide +kernel) rfl⟩
theorem mL_55 : v_LV RL 55 yX4_pane := ⟨tb_3 (i := 39) (by decide +kernel) rfl, tb_3 (i := 40) (by decide +kernel) rfl, tb_3 (i := 41) (by decide +kernel) rfl⟩
theorem mL_59 : v_LV RL 59 yX4_stream := ⟨tb_3 (i := 43) (by decide +kernel) rfl, tb_3 (i := 44) (by decide +kernel) rfl, tb_3 (i := 45) (by decide +kernel) rfl⟩
theorem mX4_133 : v_LV RX4 133 yX4_sum := ⟨tb_3 (i := 47) (by decide +kernel) rfl, tb_3 (i := 49) (by decide +kernel) rfl, tb_0 (i := 16) (by decide +kernel) rfl⟩
theorem mL_63 : v_LV RL 63 yX4_broken := ⟨tb_3 (i := 51) (by decide +kernel) rfl, tb_3 (i := 52) (by decide +kernel) rfl, tb_3 (i := 53) (by decide +kernel) rfl⟩
theorem mL_67 : v_LV RL 67 yX4_farm := ⟨tb_3 (i := 55) (by decide +kernel) rfl, tb_3 (i := 56) (by decide +kernel) rfl, tb_3 (i := 57) (by decide +kernel) rfl⟩
theorem mX4_137 : v_LV RX4 137 yX4_ofFarm := ⟨tb_3 (i := 59) (by decide +kernel) rfl, tb_3 (i := 61) (by decide +kernel) rfl, tb_0 (i := 17) (by decide +kernel) rfl⟩
theorem mL_71 : v_LV RL 71 yX4_without := ⟨tb_3 (i := 63) (by decide +kernel) rfl, tb_3 (i := 64) (by decide +kernel) rfl, tb_3 (i := 65) (by decide +kernel) rfl⟩
theorem mL_75 : v_LV RL 75 yX4_count := ⟨tb_3 (i := 67) (by decide +kernel) rfl, tb_3 (i := 68) (by decide +kernel) rfl, tb_3 (i := 69) (by decide +kernel) rfl⟩
theorem splaceOf : Cond.static yX3_placeOf ∈ tbG := tb_1 (i := 236) (by decide +kernel) rfl
theorem sisWithin : Cond.static yX3_isWithin ∈ tbG := tb_1 (i := 192) (by decide +kernel) rfl
theorem ciX0 : v_ci 0 RX0 := ⟨_, rfl, rfl⟩
theorem ciX1 : v_ci 1 RX1 := ⟨_, rfl, rfl⟩
theorem ciX2 : v_ci 2 RX2 := ⟨_, rfl, rfl⟩
theorem ciX3 : v_ci 3 RX3 := ⟨_, rfl, rfl⟩
theorem ciX4 : v_ci 4 RX4 := ⟨_, rfl, rfl⟩
end
