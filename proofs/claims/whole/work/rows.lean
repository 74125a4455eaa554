section
-- ===== PART A: goes FIRST, ahead of the names: the tables' words, and 'selects' of the private methods out of them =====
/-- a private method of a class that the tables say can be made, by its rows of tables_1 -/
def lw_okq (q : MethodName × Nat) : Prop := (q.1.cls ≠ "java/lang/invoke/MethodHandle" ∧ q.1.cls ≠ "java/lang/invoke/VarHandle") ∧ Cond.instantiable q.1.cls q.2 ∈ tables_1 ∧ Cond.privateMethod q.1 ∈ tables_1 ∧ Cond.instanceMethod q.1 ∈ tables_1
theorem lw_p0 : lw_okq (⟨"UnitLog$Packer", "makePieces", "()V"⟩, 3) := ⟨⟨by decide +kernel, by decide +kernel⟩, List.mem_of_getElem? (i := 40) (by decide +kernel), List.mem_of_getElem? (i := 164) (by decide +kernel), List.mem_of_getElem? (i := 165) (by decide +kernel)⟩
theorem lw_p1 : lw_okq (⟨"UnitLog$Packer", "longestMatch", "(I)I"⟩, 3) := ⟨⟨by decide +kernel, by decide +kernel⟩, List.mem_of_getElem? (i := 40) (by decide +kernel), List.mem_of_getElem? (i := 168) (by decide +kernel), List.mem_of_getElem? (i := 169) (by decide +kernel)⟩
theorem lw_p2 : lw_okq (⟨"UnitLog$Packer", "sameBytes", "(II)I"⟩, 3) := ⟨⟨by decide +kernel, by decide +kernel⟩, List.mem_of_getElem? (i := 40) (by decide +kernel), List.mem_of_getElem? (i := 172) (by decide +kernel), List.mem_of_getElem? (i := 173) (by decide +kernel)⟩
theorem lw_p3 : lw_okq (⟨"UnitLog$Packer", "endPiece", "(III)V"⟩, 3) := ⟨⟨by decide +kernel, by decide +kernel⟩, List.mem_of_getElem? (i := 40) (by decide +kernel), List.mem_of_getElem? (i := 176) (by decide +kernel), List.mem_of_getElem? (i := 177) (by decide +kernel)⟩
theorem lw_p4 : lw_okq (⟨"UnitLog", "mayAppend", "(I)Z"⟩, 11) := ⟨⟨by decide +kernel, by decide +kernel⟩, List.mem_of_getElem? (i := 11) (by decide +kernel), List.mem_of_getElem? (i := 187) (by decide +kernel), List.mem_of_getElem? (i := 188) (by decide +kernel)⟩
theorem lw_p5 : lw_okq (⟨"UnitLog", "freeSegments", "()I"⟩, 11) := ⟨⟨by decide +kernel, by decide +kernel⟩, List.mem_of_getElem? (i := 11) (by decide +kernel), List.mem_of_getElem? (i := 191) (by decide +kernel), List.mem_of_getElem? (i := 192) (by decide +kernel)⟩
theorem lw_p6 : lw_okq (⟨"UnitLog", "append", "(IIZJJ)Z"⟩, 11) := ⟨⟨by decide +kernel, by decide +kernel⟩, List.mem_of_getElem? (i := 11) (by decide +kernel), List.mem_of_getElem? (i := 195) (by decide +kernel), List.mem_of_getElem? (i := 196) (by decide +kernel)⟩
theorem lw_p7 : lw_okq (⟨"UnitLog", "openNext", "()Z"⟩, 11) := ⟨⟨by decide +kernel, by decide +kernel⟩, List.mem_of_getElem? (i := 11) (by decide +kernel), List.mem_of_getElem? (i := 199) (by decide +kernel), List.mem_of_getElem? (i := 200) (by decide +kernel)⟩
theorem lw_p8 : lw_okq (⟨"UnitLog", "lowestFree", "()I"⟩, 11) := ⟨⟨by decide +kernel, by decide +kernel⟩, List.mem_of_getElem? (i := 11) (by decide +kernel), List.mem_of_getElem? (i := 203) (by decide +kernel), List.mem_of_getElem? (i := 204) (by decide +kernel)⟩
theorem lw_p9 : lw_okq (⟨"UnitLog", "saveUnits", "()Z"⟩, 11) := ⟨⟨by decide +kernel, by decide +kernel⟩, List.mem_of_getElem? (i := 11) (by decide +kernel), List.mem_of_getElem? (i := 207) (by decide +kernel), List.mem_of_getElem? (i := 208) (by decide +kernel)⟩
theorem lw_p10 : lw_okq (⟨"UnitLog", "goDown", "()I"⟩, 11) := ⟨⟨by decide +kernel, by decide +kernel⟩, List.mem_of_getElem? (i := 11) (by decide +kernel), List.mem_of_getElem? (i := 215) (by decide +kernel), List.mem_of_getElem? (i := 216) (by decide +kernel)⟩
theorem lw_p11 : lw_okq (⟨"UnitLog", "makeCheckpoint", "()Z"⟩, 11) := ⟨⟨by decide +kernel, by decide +kernel⟩, List.mem_of_getElem? (i := 11) (by decide +kernel), List.mem_of_getElem? (i := 247) (by decide +kernel), List.mem_of_getElem? (i := 248) (by decide +kernel)⟩
theorem lw_p12 : lw_okq (⟨"UnitLog", "closedWithFewestLive", "()I"⟩, 11) := ⟨⟨by decide +kernel, by decide +kernel⟩, List.mem_of_getElem? (i := 11) (by decide +kernel), List.mem_of_getElem? (i := 256) (by decide +kernel), List.mem_of_getElem? (i := 257) (by decide +kernel)⟩
theorem lw_p13 : lw_okq (⟨"UnitLog", "liveUnits", "(I)I"⟩, 11) := ⟨⟨by decide +kernel, by decide +kernel⟩, List.mem_of_getElem? (i := 11) (by decide +kernel), List.mem_of_getElem? (i := 260) (by decide +kernel), List.mem_of_getElem? (i := 261) (by decide +kernel)⟩
theorem lw_p14 : lw_okq (⟨"UnitLog", "isLive", "(I)Z"⟩, 11) := ⟨⟨by decide +kernel, by decide +kernel⟩, List.mem_of_getElem? (i := 11) (by decide +kernel), List.mem_of_getElem? (i := 264) (by decide +kernel), List.mem_of_getElem? (i := 265) (by decide +kernel)⟩
theorem lw_p15 : lw_okq (⟨"UnitLog", "liveRecordsHaveRoom", "(I)Z"⟩, 11) := ⟨⟨by decide +kernel, by decide +kernel⟩, List.mem_of_getElem? (i := 11) (by decide +kernel), List.mem_of_getElem? (i := 268) (by decide +kernel), List.mem_of_getElem? (i := 269) (by decide +kernel)⟩
def lw_privs_1 : List (MethodName × Nat) := [(⟨"UnitLog$Packer", "makePieces", "()V"⟩, 3), (⟨"UnitLog$Packer", "longestMatch", "(I)I"⟩, 3), (⟨"UnitLog$Packer", "sameBytes", "(II)I"⟩, 3), (⟨"UnitLog$Packer", "endPiece", "(III)V"⟩, 3), (⟨"UnitLog", "mayAppend", "(I)Z"⟩, 11), (⟨"UnitLog", "freeSegments", "()I"⟩, 11), (⟨"UnitLog", "append", "(IIZJJ)Z"⟩, 11), (⟨"UnitLog", "openNext", "()Z"⟩, 11), (⟨"UnitLog", "lowestFree", "()I"⟩, 11), (⟨"UnitLog", "saveUnits", "()Z"⟩, 11), (⟨"UnitLog", "goDown", "()I"⟩, 11), (⟨"UnitLog", "makeCheckpoint", "()Z"⟩, 11), (⟨"UnitLog", "closedWithFewestLive", "()I"⟩, 11), (⟨"UnitLog", "liveUnits", "(I)I"⟩, 11), (⟨"UnitLog", "isLive", "(I)Z"⟩, 11), (⟨"UnitLog", "liveRecordsHaveRoom", "(I)Z"⟩, 11)]
theorem lw_r1 : ∀ q ∈ lw_privs_1, lw_okq q := List.forall_mem_cons.mpr ⟨lw_p0, List.forall_mem_cons.mpr ⟨lw_p1, List.forall_mem_cons.mpr ⟨lw_p2, List.forall_mem_cons.mpr ⟨lw_p3, List.forall_mem_cons.mpr ⟨lw_p4, List.forall_mem_cons.mpr ⟨lw_p5, List.forall_mem_cons.mpr ⟨lw_p6, List.forall_mem_cons.mpr ⟨lw_p7, List.forall_mem_cons.mpr ⟨lw_p8, List.forall_mem_cons.mpr ⟨lw_p9, List.forall_mem_cons.mpr ⟨lw_p10, List.forall_mem_cons.mpr ⟨lw_p11, List.forall_mem_cons.mpr ⟨lw_p12, List.forall_mem_cons.mpr ⟨lw_p13, List.forall_mem_cons.mpr ⟨lw_p14, List.forall_mem_cons.mpr ⟨lw_p15, fun _ h => absurd h List.not_mem_nil⟩⟩⟩⟩⟩⟩⟩⟩⟩⟩⟩⟩⟩⟩⟩⟩
theorem lw_p16 : lw_okq (⟨"UnitLog", "appendLiveRecords", "(I)I"⟩, 11) := ⟨⟨by decide +kernel, by decide +kernel⟩, List.mem_of_getElem? (i := 11) (by decide +kernel), List.mem_of_getElem? (i := 272) (by decide +kernel), List.mem_of_getElem? (i := 273) (by decide +kernel)⟩
theorem lw_p17 : lw_okq (⟨"UnitLog", "returnToCheckpoint", "()V"⟩, 11) := ⟨⟨by decide +kernel, by decide +kernel⟩, List.mem_of_getElem? (i := 11) (by decide +kernel), List.mem_of_getElem? (i := 292) (by decide +kernel), List.mem_of_getElem? (i := 293) (by decide +kernel)⟩
theorem lw_p18 : lw_okq (⟨"UnitLog", "rollForward", "()I"⟩, 11) := ⟨⟨by decide +kernel, by decide +kernel⟩, List.mem_of_getElem? (i := 11) (by decide +kernel), List.mem_of_getElem? (i := 296) (by decide +kernel), List.mem_of_getElem? (i := 297) (by decide +kernel)⟩
theorem lw_p19 : lw_okq (⟨"UnitLog", "sortSegments", "()V"⟩, 11) := ⟨⟨by decide +kernel, by decide +kernel⟩, List.mem_of_getElem? (i := 11) (by decide +kernel), List.mem_of_getElem? (i := 304) (by decide +kernel), List.mem_of_getElem? (i := 305) (by decide +kernel)⟩
theorem lw_p20 : lw_okq (⟨"UnitLog", "isSegment", "(I)Z"⟩, 11) := ⟨⟨by decide +kernel, by decide +kernel⟩, List.mem_of_getElem? (i := 11) (by decide +kernel), List.mem_of_getElem? (i := 312) (by decide +kernel), List.mem_of_getElem? (i := 313) (by decide +kernel)⟩
theorem lw_p21 : lw_okq (⟨"UnitLogModel", "pack", "(JJ)V"⟩, 27) := ⟨⟨by decide +kernel, by decide +kernel⟩, List.mem_of_getElem? (i := 327) (by decide +kernel), List.mem_of_getElem? (i := 422) (by decide +kernel), List.mem_of_getElem? (i := 423) (by decide +kernel)⟩
theorem lw_p22 : lw_okq (⟨"UnitLogModel", "alike", "(II)I"⟩, 27) := ⟨⟨by decide +kernel, by decide +kernel⟩, List.mem_of_getElem? (i := 327) (by decide +kernel), List.mem_of_getElem? (i := 427) (by decide +kernel), List.mem_of_getElem? (i := 428) (by decide +kernel)⟩
theorem lw_p23 : lw_okq (⟨"UnitLogModel", "noRoom", "(I)Z"⟩, 27) := ⟨⟨by decide +kernel, by decide +kernel⟩, List.mem_of_getElem? (i := 327) (by decide +kernel), List.mem_of_getElem? (i := 431) (by decide +kernel), List.mem_of_getElem? (i := 432) (by decide +kernel)⟩
theorem lw_p24 : lw_okq (⟨"UnitLogModel", "free", "()I"⟩, 27) := ⟨⟨by decide +kernel, by decide +kernel⟩, List.mem_of_getElem? (i := 327) (by decide +kernel), List.mem_of_getElem? (i := 435) (by decide +kernel), List.mem_of_getElem? (i := 436) (by decide +kernel)⟩
theorem lw_p25 : lw_okq (⟨"UnitLogModel", "append", "(IZIJJ)Z"⟩, 27) := ⟨⟨by decide +kernel, by decide +kernel⟩, List.mem_of_getElem? (i := 327) (by decide +kernel), List.mem_of_getElem? (i := 439) (by decide +kernel), List.mem_of_getElem? (i := 440) (by decide +kernel)⟩
theorem lw_p26 : lw_okq (⟨"UnitLogModel", "save", "()I"⟩, 27) := ⟨⟨by decide +kernel, by decide +kernel⟩, List.mem_of_getElem? (i := 327) (by decide +kernel), List.mem_of_getElem? (i := 443) (by decide +kernel), List.mem_of_getElem? (i := 444) (by decide +kernel)⟩
theorem lw_p27 : lw_okq (⟨"UnitLogModel", "writeUnit", "()Z"⟩, 27) := ⟨⟨by decide +kernel, by decide +kernel⟩, List.mem_of_getElem? (i := 327) (by decide +kernel), List.mem_of_getElem? (i := 447) (by decide +kernel), List.mem_of_getElem? (i := 448) (by decide +kernel)⟩
theorem lw_p28 : lw_okq (⟨"UnitLogModel", "lowestFree", "()I"⟩, 27) := ⟨⟨by decide +kernel, by decide +kernel⟩, List.mem_of_getElem? (i := 327) (by decide +kernel), List.mem_of_getElem? (i := 451) (by decide +kernel), List.mem_of_getElem? (i := 452) (by decide +kernel)⟩
theorem lw_p29 : lw_okq (⟨"UnitLogModel", "refusal", "(I)I"⟩, 27) := ⟨⟨by decide +kernel, by decide +kernel⟩, List.mem_of_getElem? (i := 327) (by decide +kernel), List.mem_of_getElem? (i := 467) (by decide +kernel), List.mem_of_getElem? (i := 468) (by decide +kernel)⟩
theorem lw_p30 : lw_okq (⟨"UnitLogModel", "check", "()Z"⟩, 27) := ⟨⟨by decide +kernel, by decide +kernel⟩, List.mem_of_getElem? (i := 327) (by decide +kernel), List.mem_of_getElem? (i := 483) (by decide +kernel), List.mem_of_getElem? (i := 484) (by decide +kernel)⟩
theorem lw_p31 : lw_okq (⟨"UnitLogModel", "victim", "()I"⟩, 27) := ⟨⟨by decide +kernel, by decide +kernel⟩, List.mem_of_getElem? (i := 327) (by decide +kernel), List.mem_of_getElem? (i := 491) (by decide +kernel), List.mem_of_getElem? (i := 492) (by decide +kernel)⟩
def lw_privs_2 : List (MethodName × Nat) := [(⟨"UnitLog", "appendLiveRecords", "(I)I"⟩, 11), (⟨"UnitLog", "returnToCheckpoint", "()V"⟩, 11), (⟨"UnitLog", "rollForward", "()I"⟩, 11), (⟨"UnitLog", "sortSegments", "()V"⟩, 11), (⟨"UnitLog", "isSegment", "(I)Z"⟩, 11), (⟨"UnitLogModel", "pack", "(JJ)V"⟩, 27), (⟨"UnitLogModel", "alike", "(II)I"⟩, 27), (⟨"UnitLogModel", "noRoom", "(I)Z"⟩, 27), (⟨"UnitLogModel", "free", "()I"⟩, 27), (⟨"UnitLogModel", "append", "(IZIJJ)Z"⟩, 27), (⟨"UnitLogModel", "save", "()I"⟩, 27), (⟨"UnitLogModel", "writeUnit", "()Z"⟩, 27), (⟨"UnitLogModel", "lowestFree", "()I"⟩, 27), (⟨"UnitLogModel", "refusal", "(I)I"⟩, 27), (⟨"UnitLogModel", "check", "()Z"⟩, 27), (⟨"UnitLogModel", "victim", "()I"⟩, 27)]
theorem lw_r2 : ∀ q ∈ lw_privs_2, lw_okq q := List.forall_mem_cons.mpr ⟨lw_p16, List.forall_mem_cons.mpr ⟨lw_p17, List.forall_mem_cons.mpr ⟨lw_p18, List.forall_mem_cons.mpr ⟨lw_p19, List.forall_mem_cons.mpr ⟨lw_p20, List.forall_mem_cons.mpr ⟨lw_p21, List.forall_mem_cons.mpr ⟨lw_p22, List.forall_mem_cons.mpr ⟨lw_p23, List.forall_mem_cons.mpr ⟨lw_p24, List.forall_mem_cons.mpr ⟨lw_p25, List.forall_mem_cons.mpr ⟨lw_p26, List.forall_mem_cons.mpr ⟨lw_p27, List.forall_mem_cons.mpr ⟨lw_p28, List.forall_mem_cons.mpr ⟨lw_p29, List.forall_mem_cons.mpr ⟨lw_p30, List.forall_mem_cons.mpr ⟨lw_p31, fun _ h => absurd h List.not_mem_nil⟩⟩⟩⟩⟩⟩⟩⟩⟩⟩⟩⟩⟩⟩⟩⟩
theorem lw_p32 : lw_okq (⟨"UnitLogModel", "liveUnits", "(I)I"⟩, 27) := ⟨⟨by decide +kernel, by decide +kernel⟩, List.mem_of_getElem? (i := 327) (by decide +kernel), List.mem_of_getElem? (i := 495) (by decide +kernel), List.mem_of_getElem? (i := 496) (by decide +kernel)⟩
theorem lw_p33 : lw_okq (⟨"UnitLogModel", "fits", "(I)Z"⟩, 27) := ⟨⟨by decide +kernel, by decide +kernel⟩, List.mem_of_getElem? (i := 327) (by decide +kernel), List.mem_of_getElem? (i := 499) (by decide +kernel), List.mem_of_getElem? (i := 500) (by decide +kernel)⟩
theorem lw_p34 : lw_okq (⟨"UnitLogModel", "isLatest", "(I)Z"⟩, 27) := ⟨⟨by decide +kernel, by decide +kernel⟩, List.mem_of_getElem? (i := 327) (by decide +kernel), List.mem_of_getElem? (i := 503) (by decide +kernel), List.mem_of_getElem? (i := 504) (by decide +kernel)⟩
theorem lw_p35 : lw_okq (⟨"UnitLogModel", "find", "(I)I"⟩, 27) := ⟨⟨by decide +kernel, by decide +kernel⟩, List.mem_of_getElem? (i := 327) (by decide +kernel), List.mem_of_getElem? (i := 523) (by decide +kernel), List.mem_of_getElem? (i := 524) (by decide +kernel)⟩
def lw_privs_3 : List (MethodName × Nat) := [(⟨"UnitLogModel", "liveUnits", "(I)I"⟩, 27), (⟨"UnitLogModel", "fits", "(I)Z"⟩, 27), (⟨"UnitLogModel", "isLatest", "(I)Z"⟩, 27), (⟨"UnitLogModel", "find", "(I)I"⟩, 27)]
theorem lw_r3 : ∀ q ∈ lw_privs_3, lw_okq q := List.forall_mem_cons.mpr ⟨lw_p32, List.forall_mem_cons.mpr ⟨lw_p33, List.forall_mem_cons.mpr ⟨lw_p34, List.forall_mem_cons.mpr ⟨lw_p35, fun _ h => absurd h List.not_mem_nil⟩⟩⟩⟩
def lw_privs : List (MethodName × Nat) := lw_privs_1 ++ (lw_privs_2 ++ (lw_privs_3))
def lw_tbl : List Cond := k2_sels lw_privs ++ tables_1
theorem lw_privs_ok : ∀ q ∈ lw_privs, lw_okq q := by
  show ∀ q ∈ lw_privs_1 ++ (lw_privs_2 ++ (lw_privs_3)), lw_okq q
  exact List.forall_mem_append.mpr ⟨lw_r1, List.forall_mem_append.mpr ⟨lw_r2, lw_r3⟩⟩
end
section
def R_U : String := "UnitLog"
def R_D : String := "UnitLog$Disk"
def R_P : String := "UnitLog$Packer"
def R_R : String := "UnitLog$Records"
def R_M : String := "UnitLogModel"
def R_L : String := "UnitLogLaw"
def R_C : String := "UnitLog$Checkpoint"
def R_O : String := "java/lang/Object"
def R_JM : String := "java/lang/Math"
def R_JS : String := "java/lang/System"
def R_JA : String := "java/util/Arrays"
def F_U : u_T := fun k => match k with
  | 0 => ("UnitLog", "disk", "LUnitLog$Disk;", true)
  | 1 => ("UnitLog", "packer", "LUnitLog$Packer;", true)
  | 2 => ("UnitLog", "records", "LUnitLog$Records;", true)
  | 3 => ("UnitLog", "counting", "LUnitLog$Checkpoint;", true)
  | 4 => ("UnitLog", "states", "[I", true)
  | 5 => ("UnitLog", "places", "[I", true)
  | 6 => ("UnitLog", "open", "I", false)
  | 7 => ("UnitLog", "fill", "I", false)
  | 8 => ("UnitLog", "saved", "I", false)
  | 9 => ("UnitLog", "serial", "I", false)
  | _ => ("UnitLog", "down", "Z", false)
def t_U : Nat → FieldType := fun k => match k with
  | 0 => .object "UnitLog$Disk"
  | 1 => .object "UnitLog$Packer"
  | 2 => .object "UnitLog$Records"
  | 3 => .object "UnitLog$Checkpoint"
  | 4 => .array .int
  | 5 => .array .int
  | 6 => .int
  | 7 => .int
  | 8 => .int
  | 9 => .int
  | _ => .boolean
theorem n_U : ∀ a, a < 11 → ∀ b, b < 11 → a ≠ b → (F_U a).2.1 ≠ (F_U b).2.1 := by decide +kernel
theorem t_U_ok : ∀ k, k < 11 → parseFieldDescriptor (F_U k).2.2.1 = some (t_U k) := by decide +kernel
def F_D : u_T := fun k => match k with
  | 0 => ("UnitLog$Disk", "armed", "I", false)
  | _ => ("UnitLog$Disk", "written", "I", false)
def t_D : Nat → FieldType := fun k => match k with
  | 0 => .int
  | _ => .int
theorem n_D : ∀ a, a < 2 → ∀ b, b < 2 → a ≠ b → (F_D a).2.1 ≠ (F_D b).2.1 := by decide +kernel
theorem t_D_ok : ∀ k, k < 2 → parseFieldDescriptor (F_D k).2.2.1 = some (t_D k) := by decide +kernel
def F_P : u_T := fun k => match k with
  | 0 => ("UnitLog$Packer", "bytes", "[I", true)
  | 1 => ("UnitLog$Packer", "form", "[I", true)
  | _ => ("UnitLog$Packer", "size", "I", false)
def t_P : Nat → FieldType := fun k => match k with
  | 0 => .array .int
  | 1 => .array .int
  | _ => .int
theorem n_P : ∀ a, a < 3 → ∀ b, b < 3 → a ≠ b → (F_P a).2.1 ≠ (F_P b).2.1 := by decide +kernel
theorem t_P_ok : ∀ k, k < 3 → parseFieldDescriptor (F_P k).2.2.1 = some (t_P k) := by decide +kernel
def F_R : u_T := fun k => match k with
  | 0 => ("UnitLog$Records", "serials", "[I", true)
  | 1 => ("UnitLog$Records", "blocks", "[I", true)
  | 2 => ("UnitLog$Records", "units", "[I", true)
  | 3 => ("UnitLog$Records", "stores", "[Z", true)
  | 4 => ("UnitLog$Records", "highs", "[J", true)
  | _ => ("UnitLog$Records", "lows", "[J", true)
def t_R : Nat → FieldType := fun k => match k with
  | 0 => .array .int
  | 1 => .array .int
  | 2 => .array .int
  | 3 => .array .boolean
  | 4 => .array .long
  | _ => .array .long
theorem n_R : ∀ a, a < 6 → ∀ b, b < 6 → a ≠ b → (F_R a).2.1 ≠ (F_R b).2.1 := by decide +kernel
theorem t_R_ok : ∀ k, k < 6 → parseFieldDescriptor (F_R k).2.2.1 = some (t_R k) := by decide +kernel
def F_C : u_T := fun k => match k with
  | 0 => ("UnitLog$Checkpoint", "places", "[I", true)
  | 1 => ("UnitLog$Checkpoint", "number", "I", false)
  | 2 => ("UnitLog$Checkpoint", "serial", "I", false)
  | 3 => ("UnitLog$Checkpoint", "open", "I", false)
  | _ => ("UnitLog$Checkpoint", "fill", "I", false)
def t_C : Nat → FieldType := fun k => match k with
  | 0 => .array .int
  | 1 => .int
  | 2 => .int
  | 3 => .int
  | _ => .int
theorem n_C : ∀ a, a < 5 → ∀ b, b < 5 → a ≠ b → (F_C a).2.1 ≠ (F_C b).2.1 := by decide +kernel
theorem t_C_ok : ∀ k, k < 5 → parseFieldDescriptor (F_C k).2.2.1 = some (t_C k) := by decide +kernel
def F_M : u_T := fun k => match k with
  | 0 => ("UnitLogModel", "segments", "I", true)
  | 1 => ("UnitLogModel", "state", "[I", true)
  | 2 => ("UnitLogModel", "filled", "[I", true)
  | 3 => ("UnitLogModel", "saved", "[I", true)
  | 4 => ("UnitLogModel", "open", "I", false)
  | 5 => ("UnitLogModel", "count", "[I", true)
  | 6 => ("UnitLogModel", "block", "[I", true)
  | 7 => ("UnitLogModel", "store", "[Z", true)
  | 8 => ("UnitLogModel", "unit", "[I", true)
  | 9 => ("UnitLogModel", "size", "[I", true)
  | 10 => ("UnitLogModel", "serial", "[I", true)
  | 11 => ("UnitLogModel", "high", "[J", true)
  | 12 => ("UnitLogModel", "low", "[J", true)
  | 13 => ("UnitLogModel", "at", "[I", true)
  | 14 => ("UnitLogModel", "last", "I", false)
  | 15 => ("UnitLogModel", "keptAt", "[I", true)
  | 16 => ("UnitLogModel", "keptLast", "I", false)
  | 17 => ("UnitLogModel", "keptOpen", "I", false)
  | 18 => ("UnitLogModel", "keptFill", "I", false)
  | 19 => ("UnitLogModel", "number", "I", false)
  | 20 => ("UnitLogModel", "down", "Z", false)
  | 21 => ("UnitLogModel", "armed", "Z", false)
  | 22 => ("UnitLogModel", "left", "I", false)
  | 23 => ("UnitLogModel", "written", "I", false)
  | 24 => ("UnitLogModel", "bytes", "[I", true)
  | 25 => ("UnitLogModel", "form", "[I", true)
  | _ => ("UnitLogModel", "formSize", "I", false)
def t_M : Nat → FieldType := fun k => match k with
  | 0 => .int
  | 1 => .array .int
  | 2 => .array .int
  | 3 => .array .int
  | 4 => .int
  | 5 => .array .int
  | 6 => .array .int
  | 7 => .array .boolean
  | 8 => .array .int
  | 9 => .array .int
  | 10 => .array .int
  | 11 => .array .long
  | 12 => .array .long
  | 13 => .array .int
  | 14 => .int
  | 15 => .array .int
  | 16 => .int
  | 17 => .int
  | 18 => .int
  | 19 => .int
  | 20 => .boolean
  | 21 => .boolean
  | 22 => .int
  | 23 => .int
  | 24 => .array .int
  | 25 => .array .int
  | _ => .int
theorem n_M : ∀ a, a < 27 → ∀ b, b < 27 → a ≠ b → (F_M a).2.1 ≠ (F_M b).2.1 := by decide +kernel
theorem t_M_ok : ∀ k, k < 27 → parseFieldDescriptor (F_M k).2.2.1 = some (t_M k) := by decide +kernel
def lwG : List Cond := lw_tbl.filter goodWord
abbrev classes : List vw_C := [(R_U, F_U, 11), (R_D, F_D, 2), (R_P, F_P, 3), (R_R, F_R, 6), (R_C, F_C, 5), (R_M, F_M, 27)]
abbrev b_U_init : ByteArray := prog_1_method_1_code
def y_U_init : MethodName := ⟨R_U, "<init>", "(I)V"⟩
abbrev w_U_init : List Cond := .code y_U_init b_U_init 3 none :: lwG
abbrev b_D_init : ByteArray := prog_3_method_1_code
def y_D_init : MethodName := ⟨R_D, "<init>", "()V"⟩
abbrev w_D_init : List Cond := .code y_D_init b_D_init 1 none :: lwG
abbrev b_P_init : ByteArray := prog_4_method_1_code
def y_P_init : MethodName := ⟨R_P, "<init>", "()V"⟩
abbrev w_P_init : List Cond := .code y_P_init b_P_init 1 none :: lwG
abbrev b_R_init : ByteArray := prog_5_method_1_code
def y_R_init : MethodName := ⟨R_R, "<init>", "(I)V"⟩
abbrev w_R_init : List Cond := .code y_R_init b_R_init 2 none :: lwG
abbrev b_C_init : ByteArray := prog_2_method_1_code
def y_C_init : MethodName := ⟨R_C, "<init>", "()V"⟩
abbrev w_C_init : List Cond := .code y_C_init b_C_init 1 none :: lwG
abbrev b_JA_fill : ByteArray := prog_10_method_103_code
def y_JA_fill : MethodName := ⟨R_JA, "fill", "([II)V"⟩
abbrev w_JA_fill : List Cond := .code y_JA_fill b_JA_fill 4 none :: lwG
abbrev b_U_write : ByteArray := prog_1_method_2_code
def y_U_write : MethodName := ⟨R_U, "write", "(IJJ)I"⟩
abbrev w_U_write : List Cond := .code y_U_write b_U_write 7 (some .int) :: lwG
abbrev b_U_isBlock : ByteArray := prog_1_method_17_code
def y_U_isBlock : MethodName := ⟨R_U, "isBlock", "(I)Z"⟩
abbrev w_U_isBlock : List Cond := .code y_U_isBlock b_U_isBlock 1 (some .boolean) :: lwG
abbrev b_P_pack : ByteArray := prog_4_method_2_code
def y_P_pack : MethodName := ⟨R_P, "pack", "(JJ)V"⟩
abbrev w_P_pack : List Cond := .code y_P_pack b_P_pack 6 none :: lwG
abbrev b_P_makePieces : ByteArray := prog_4_method_4_code
def y_P_makePieces : MethodName := ⟨R_P, "makePieces", "()V"⟩
abbrev w_P_makePieces : List Cond := .code y_P_makePieces b_P_makePieces 5 none :: lwG
abbrev b_P_longestMatch : ByteArray := prog_4_method_6_code
def y_P_longestMatch : MethodName := ⟨R_P, "longestMatch", "(I)I"⟩
abbrev w_P_longestMatch : List Cond := .code y_P_longestMatch b_P_longestMatch 6 (some .int) :: lwG
abbrev b_P_sameBytes : ByteArray := prog_4_method_7_code
def y_P_sameBytes : MethodName := ⟨R_P, "sameBytes", "(II)I"⟩
abbrev w_P_sameBytes : List Cond := .code y_P_sameBytes b_P_sameBytes 4 (some .int) :: lwG
abbrev b_P_endPiece : ByteArray := prog_4_method_5_code
def y_P_endPiece : MethodName := ⟨R_P, "endPiece", "(III)V"⟩
abbrev w_P_endPiece : List Cond := .code y_P_endPiece b_P_endPiece 5 none :: lwG
abbrev b_P_storeUnits : ByteArray := prog_4_method_3_code
def y_P_storeUnits : MethodName := ⟨R_P, "storeUnits", "()I"⟩
abbrev w_P_storeUnits : List Cond := .code y_P_storeUnits b_P_storeUnits 1 (some .int) :: lwG
abbrev b_U_mayAppend : ByteArray := prog_1_method_19_code
def y_U_mayAppend : MethodName := ⟨R_U, "mayAppend", "(I)Z"⟩
abbrev w_U_mayAppend : List Cond := .code y_U_mayAppend b_U_mayAppend 2 (some .boolean) :: lwG
abbrev b_U_freeSegments : ByteArray := prog_1_method_20_code
def y_U_freeSegments : MethodName := ⟨R_U, "freeSegments", "()I"⟩
abbrev w_U_freeSegments : List Cond := .code y_U_freeSegments b_U_freeSegments 3 (some .int) :: lwG
abbrev b_U_append : ByteArray := prog_1_method_22_code
def y_U_append : MethodName := ⟨R_U, "append", "(IIZJJ)Z"⟩
abbrev w_U_append : List Cond := .code y_U_append b_U_append 9 (some .boolean) :: lwG
abbrev b_U_openNext : ByteArray := prog_1_method_23_code
def y_U_openNext : MethodName := ⟨R_U, "openNext", "()Z"⟩
abbrev w_U_openNext : List Cond := .code y_U_openNext b_U_openNext 2 (some .boolean) :: lwG
abbrev b_U_lowestFree : ByteArray := prog_1_method_21_code
def y_U_lowestFree : MethodName := ⟨R_U, "lowestFree", "()I"⟩
abbrev w_U_lowestFree : List Cond := .code y_U_lowestFree b_U_lowestFree 2 (some .int) :: lwG
abbrev b_U_saveUnits : ByteArray := prog_1_method_24_code
def y_U_saveUnits : MethodName := ⟨R_U, "saveUnits", "()Z"⟩
abbrev w_U_saveUnits : List Cond := .code y_U_saveUnits b_U_saveUnits 2 (some .boolean) :: lwG
abbrev b_D_writeUnit : ByteArray := prog_3_method_2_code
def y_D_writeUnit : MethodName := ⟨R_D, "writeUnit", "()Z"⟩
abbrev w_D_writeUnit : List Cond := .code y_D_writeUnit b_D_writeUnit 1 (some .boolean) :: lwG
abbrev b_U_goDown : ByteArray := prog_1_method_26_code
def y_U_goDown : MethodName := ⟨R_U, "goDown", "()I"⟩
abbrev w_U_goDown : List Cond := .code y_U_goDown b_U_goDown 1 (some .int) :: lwG
abbrev b_R_forgetUnsaved : ByteArray := prog_5_method_3_code
def y_R_forgetUnsaved : MethodName := ⟨R_R, "forgetUnsaved", "(II)V"⟩
abbrev w_R_forgetUnsaved : List Cond := .code y_R_forgetUnsaved b_R_forgetUnsaved 5 none :: lwG
abbrev b_U_trim : ByteArray := prog_1_method_3_code
def y_U_trim : MethodName := ⟨R_U, "trim", "(I)I"⟩
abbrev w_U_trim : List Cond := .code y_U_trim b_U_trim 2 (some .int) :: lwG
abbrev b_U_read : ByteArray := prog_1_method_4_code
def y_U_read : MethodName := ⟨R_U, "read", "(II)J"⟩
abbrev w_U_read : List Cond := .code y_U_read b_U_read 3 (some .long) :: lwG
abbrev b_U_packed : ByteArray := prog_1_method_5_code
def y_U_packed : MethodName := ⟨R_U, "packed", "(II)I"⟩
abbrev w_U_packed : List Cond := .code y_U_packed b_U_packed 4 (some .int) :: lwG
abbrev b_U_place : ByteArray := prog_1_method_6_code
def y_U_place : MethodName := ⟨R_U, "place", "(I)I"⟩
abbrev w_U_place : List Cond := .code y_U_place b_U_place 2 (some .int) :: lwG
abbrev b_U_flush : ByteArray := prog_1_method_7_code
def y_U_flush : MethodName := ⟨R_U, "flush", "()I"⟩
abbrev w_U_flush : List Cond := .code y_U_flush b_U_flush 2 (some .int) :: lwG
abbrev b_U_checkpoint : ByteArray := prog_1_method_8_code
def y_U_checkpoint : MethodName := ⟨R_U, "checkpoint", "()I"⟩
abbrev w_U_checkpoint : List Cond := .code y_U_checkpoint b_U_checkpoint 1 (some .int) :: lwG
abbrev b_U_makeCheckpoint : ByteArray := prog_1_method_25_code
def y_U_makeCheckpoint : MethodName := ⟨R_U, "makeCheckpoint", "()Z"⟩
abbrev w_U_makeCheckpoint : List Cond := .code y_U_makeCheckpoint b_U_makeCheckpoint 2 (some .boolean) :: lwG
abbrev b_U_clean : ByteArray := prog_1_method_9_code
def y_U_clean : MethodName := ⟨R_U, "clean", "()I"⟩
abbrev w_U_clean : List Cond := .code y_U_clean b_U_clean 3 (some .int) :: lwG
abbrev b_U_closedWithFewestLive : ByteArray := prog_1_method_32_code
def y_U_closedWithFewestLive : MethodName := ⟨R_U, "closedWithFewestLive", "()I"⟩
abbrev w_U_closedWithFewestLive : List Cond := .code y_U_closedWithFewestLive b_U_closedWithFewestLive 4 (some .int) :: lwG
abbrev b_U_liveUnits : ByteArray := prog_1_method_31_code
def y_U_liveUnits : MethodName := ⟨R_U, "liveUnits", "(I)I"⟩
abbrev w_U_liveUnits : List Cond := .code y_U_liveUnits b_U_liveUnits 5 (some .int) :: lwG
abbrev b_U_isLive : ByteArray := prog_1_method_30_code
def y_U_isLive : MethodName := ⟨R_U, "isLive", "(I)Z"⟩
abbrev w_U_isLive : List Cond := .code y_U_isLive b_U_isLive 2 (some .boolean) :: lwG
abbrev b_U_liveRecordsHaveRoom : ByteArray := prog_1_method_33_code
def y_U_liveRecordsHaveRoom : MethodName := ⟨R_U, "liveRecordsHaveRoom", "(I)Z"⟩
abbrev w_U_liveRecordsHaveRoom : List Cond := .code y_U_liveRecordsHaveRoom b_U_liveRecordsHaveRoom 6 (some .boolean) :: lwG
abbrev b_U_appendLiveRecords : ByteArray := prog_1_method_34_code
def y_U_appendLiveRecords : MethodName := ⟨R_U, "appendLiveRecords", "(I)I"⟩
abbrev w_U_appendLiveRecords : List Cond := .code y_U_appendLiveRecords b_U_appendLiveRecords 5 (some .int) :: lwG
abbrev b_U_arm : ByteArray := prog_1_method_10_code
def y_U_arm : MethodName := ⟨R_U, "arm", "(I)Z"⟩
abbrev w_U_arm : List Cond := .code y_U_arm b_U_arm 2 (some .boolean) :: lwG
abbrev b_U_disarm : ByteArray := prog_1_method_11_code
def y_U_disarm : MethodName := ⟨R_U, "disarm", "()Z"⟩
abbrev w_U_disarm : List Cond := .code y_U_disarm b_U_disarm 1 (some .boolean) :: lwG
abbrev b_U_crash : ByteArray := prog_1_method_12_code
def y_U_crash : MethodName := ⟨R_U, "crash", "()Z"⟩
abbrev w_U_crash : List Cond := .code y_U_crash b_U_crash 1 (some .boolean) :: lwG
abbrev b_U_recover : ByteArray := prog_1_method_13_code
def y_U_recover : MethodName := ⟨R_U, "recover", "()I"⟩
abbrev w_U_recover : List Cond := .code y_U_recover b_U_recover 2 (some .int) :: lwG
abbrev b_U_returnToCheckpoint : ByteArray := prog_1_method_27_code
def y_U_returnToCheckpoint : MethodName := ⟨R_U, "returnToCheckpoint", "()V"⟩
abbrev w_U_returnToCheckpoint : List Cond := .code y_U_returnToCheckpoint b_U_returnToCheckpoint 1 none :: lwG
abbrev b_U_rollForward : ByteArray := prog_1_method_28_code
def y_U_rollForward : MethodName := ⟨R_U, "rollForward", "()I"⟩
abbrev w_U_rollForward : List Cond := .code y_U_rollForward b_U_rollForward 4 (some .int) :: lwG
abbrev b_R_find : ByteArray := prog_5_method_2_code
def y_R_find : MethodName := ⟨R_R, "find", "(I)I"⟩
abbrev w_R_find : List Cond := .code y_R_find b_R_find 3 (some .int) :: lwG
abbrev b_U_sortSegments : ByteArray := prog_1_method_29_code
def y_U_sortSegments : MethodName := ⟨R_U, "sortSegments", "()V"⟩
abbrev w_U_sortSegments : List Cond := .code y_U_sortSegments b_U_sortSegments 2 none :: lwG
abbrev b_U_live : ByteArray := prog_1_method_14_code
def y_U_live : MethodName := ⟨R_U, "live", "(I)I"⟩
abbrev w_U_live : List Cond := .code y_U_live b_U_live 2 (some .int) :: lwG
abbrev b_U_isSegment : ByteArray := prog_1_method_18_code
def y_U_isSegment : MethodName := ⟨R_U, "isSegment", "(I)Z"⟩
abbrev w_U_isSegment : List Cond := .code y_U_isSegment b_U_isSegment 2 (some .boolean) :: lwG
abbrev b_U_segment : ByteArray := prog_1_method_15_code
def y_U_segment : MethodName := ⟨R_U, "segment", "(I)I"⟩
abbrev w_U_segment : List Cond := .code y_U_segment b_U_segment 2 (some .int) :: lwG
abbrev b_U_look : ByteArray := prog_1_method_16_code
def y_U_look : MethodName := ⟨R_U, "look", "(I)I"⟩
abbrev w_U_look : List Cond := .code y_U_look b_U_look 2 (some .int) :: lwG
abbrev b_L_cell : ByteArray := method_2_code
def y_L_cell : MethodName := ⟨R_L, "cell", "([II)I"⟩
abbrev w_L_cell : List Cond := .code y_L_cell b_L_cell 2 (some .int) :: lwG
abbrev b_M_init : ByteArray := prog_7_method_1_code
def y_M_init : MethodName := ⟨R_M, "<init>", "(I)V"⟩
abbrev w_M_init : List Cond := .code y_M_init b_M_init 3 none :: lwG
abbrev b_M_write : ByteArray := prog_7_method_12_code
def y_M_write : MethodName := ⟨R_M, "write", "(IJJ)I"⟩
abbrev w_M_write : List Cond := .code y_M_write b_M_write 7 (some .int) :: lwG
abbrev b_M_isBlock : ByteArray := prog_7_method_10_code
def y_M_isBlock : MethodName := ⟨R_M, "isBlock", "(I)Z"⟩
abbrev w_M_isBlock : List Cond := .code y_M_isBlock b_M_isBlock 1 (some .boolean) :: lwG
abbrev b_M_pack : ByteArray := prog_7_method_3_code
def y_M_pack : MethodName := ⟨R_M, "pack", "(JJ)V"⟩
abbrev w_M_pack : List Cond := .code y_M_pack b_M_pack 12 none :: lwG
abbrev b_M_alike : ByteArray := prog_7_method_2_code
def y_M_alike : MethodName := ⟨R_M, "alike", "(II)I"⟩
abbrev w_M_alike : List Cond := .code y_M_alike b_M_alike 4 (some .int) :: lwG
abbrev b_M_noRoom : ByteArray := prog_7_method_11_code
def y_M_noRoom : MethodName := ⟨R_M, "noRoom", "(I)Z"⟩
abbrev w_M_noRoom : List Cond := .code y_M_noRoom b_M_noRoom 2 (some .boolean) :: lwG
abbrev b_M_free : ByteArray := prog_7_method_7_code
def y_M_free : MethodName := ⟨R_M, "free", "()I"⟩
abbrev w_M_free : List Cond := .code y_M_free b_M_free 3 (some .int) :: lwG
abbrev b_M_append : ByteArray := prog_7_method_9_code
def y_M_append : MethodName := ⟨R_M, "append", "(IZIJJ)Z"⟩
abbrev w_M_append : List Cond := .code y_M_append b_M_append 9 (some .boolean) :: lwG
abbrev b_M_save : ByteArray := prog_7_method_5_code
def y_M_save : MethodName := ⟨R_M, "save", "()I"⟩
abbrev w_M_save : List Cond := .code y_M_save b_M_save 2 (some .int) :: lwG
abbrev b_M_writeUnit : ByteArray := prog_7_method_4_code
def y_M_writeUnit : MethodName := ⟨R_M, "writeUnit", "()Z"⟩
abbrev w_M_writeUnit : List Cond := .code y_M_writeUnit b_M_writeUnit 1 (some .boolean) :: lwG
abbrev b_M_lowestFree : ByteArray := prog_7_method_8_code
def y_M_lowestFree : MethodName := ⟨R_M, "lowestFree", "()I"⟩
abbrev w_M_lowestFree : List Cond := .code y_M_lowestFree b_M_lowestFree 2 (some .int) :: lwG
abbrev b_M_trim : ByteArray := prog_7_method_13_code
def y_M_trim : MethodName := ⟨R_M, "trim", "(I)I"⟩
abbrev w_M_trim : List Cond := .code y_M_trim b_M_trim 2 (some .int) :: lwG
abbrev b_M_read : ByteArray := prog_7_method_14_code
def y_M_read : MethodName := ⟨R_M, "read", "(II)J"⟩
abbrev w_M_read : List Cond := .code y_M_read b_M_read 4 (some .long) :: lwG
abbrev b_M_packed : ByteArray := prog_7_method_16_code
def y_M_packed : MethodName := ⟨R_M, "packed", "(II)I"⟩
abbrev w_M_packed : List Cond := .code y_M_packed b_M_packed 4 (some .int) :: lwG
abbrev b_M_refusal : ByteArray := prog_7_method_15_code
def y_M_refusal : MethodName := ⟨R_M, "refusal", "(I)I"⟩
abbrev w_M_refusal : List Cond := .code y_M_refusal b_M_refusal 2 (some .int) :: lwG
abbrev b_M_place : ByteArray := prog_7_method_17_code
def y_M_place : MethodName := ⟨R_M, "place", "(I)I"⟩
abbrev w_M_place : List Cond := .code y_M_place b_M_place 3 (some .int) :: lwG
abbrev b_M_flush : ByteArray := prog_7_method_18_code
def y_M_flush : MethodName := ⟨R_M, "flush", "()I"⟩
abbrev w_M_flush : List Cond := .code y_M_flush b_M_flush 1 (some .int) :: lwG
abbrev b_M_checkpoint : ByteArray := prog_7_method_19_code
def y_M_checkpoint : MethodName := ⟨R_M, "checkpoint", "()I"⟩
abbrev w_M_checkpoint : List Cond := .code y_M_checkpoint b_M_checkpoint 1 (some .int) :: lwG
abbrev b_M_check : ByteArray := prog_7_method_6_code
def y_M_check : MethodName := ⟨R_M, "check", "()Z"⟩
abbrev w_M_check : List Cond := .code y_M_check b_M_check 2 (some .boolean) :: lwG
abbrev b_M_clean : ByteArray := prog_7_method_24_code
def y_M_clean : MethodName := ⟨R_M, "clean", "()I"⟩
abbrev w_M_clean : List Cond := .code y_M_clean b_M_clean 4 (some .int) :: lwG
abbrev b_M_victim : ByteArray := prog_7_method_21_code
def y_M_victim : MethodName := ⟨R_M, "victim", "()I"⟩
abbrev w_M_victim : List Cond := .code y_M_victim b_M_victim 3 (some .int) :: lwG
abbrev b_M_liveUnits : ByteArray := prog_7_method_20_code
def y_M_liveUnits : MethodName := ⟨R_M, "liveUnits", "(I)I"⟩
abbrev w_M_liveUnits : List Cond := .code y_M_liveUnits b_M_liveUnits 4 (some .int) :: lwG
abbrev b_M_fits : ByteArray := prog_7_method_23_code
def y_M_fits : MethodName := ⟨R_M, "fits", "(I)Z"⟩
abbrev w_M_fits : List Cond := .code y_M_fits b_M_fits 5 (some .boolean) :: lwG
abbrev b_M_isLatest : ByteArray := prog_7_method_22_code
def y_M_isLatest : MethodName := ⟨R_M, "isLatest", "(I)Z"⟩
abbrev w_M_isLatest : List Cond := .code y_M_isLatest b_M_isLatest 2 (some .boolean) :: lwG
abbrev b_M_arm : ByteArray := prog_7_method_25_code
def y_M_arm : MethodName := ⟨R_M, "arm", "(I)Z"⟩
abbrev w_M_arm : List Cond := .code y_M_arm b_M_arm 2 (some .boolean) :: lwG
abbrev b_M_disarm : ByteArray := prog_7_method_26_code
def y_M_disarm : MethodName := ⟨R_M, "disarm", "()Z"⟩
abbrev w_M_disarm : List Cond := .code y_M_disarm b_M_disarm 1 (some .boolean) :: lwG
abbrev b_M_crash : ByteArray := prog_7_method_27_code
def y_M_crash : MethodName := ⟨R_M, "crash", "()Z"⟩
abbrev w_M_crash : List Cond := .code y_M_crash b_M_crash 1 (some .boolean) :: lwG
abbrev b_M_recover : ByteArray := prog_7_method_29_code
def y_M_recover : MethodName := ⟨R_M, "recover", "()I"⟩
abbrev w_M_recover : List Cond := .code y_M_recover b_M_recover 5 (some .int) :: lwG
abbrev b_M_find : ByteArray := prog_7_method_28_code
def y_M_find : MethodName := ⟨R_M, "find", "(I)I"⟩
abbrev w_M_find : List Cond := .code y_M_find b_M_find 4 (some .int) :: lwG
abbrev b_M_live : ByteArray := prog_7_method_30_code
def y_M_live : MethodName := ⟨R_M, "live", "(I)I"⟩
abbrev w_M_live : List Cond := .code y_M_live b_M_live 2 (some .int) :: lwG
abbrev b_M_segment : ByteArray := prog_7_method_31_code
def y_M_segment : MethodName := ⟨R_M, "segment", "(I)I"⟩
abbrev w_M_segment : List Cond := .code y_M_segment b_M_segment 2 (some .int) :: lwG
abbrev b_M_look : ByteArray := prog_7_method_32_code
def y_M_look : MethodName := ⟨R_M, "look", "(I)I"⟩
abbrev w_M_look : List Cond := .code y_M_look b_M_look 2 (some .int) :: lwG
def nsW : List Cond := [.methodLinkNest R_U 20 y_D_init "UnitLog", .fieldLinkNest R_U 126 "UnitLog$Disk" "armed" "I" "UnitLog", .fieldLinkNest R_U 147 "UnitLog$Disk" "written" "I" "UnitLog", .methodLinkNest R_U 27 y_P_init "UnitLog", .fieldLinkNest R_U 98 "UnitLog$Packer" "form" "[I" "UnitLog", .fieldLinkNest R_U 94 "UnitLog$Packer" "size" "I" "UnitLog", .fieldLinkNest R_U 159 "UnitLog$Records" "serials" "[I" "UnitLog", .fieldLinkNest R_U 162 "UnitLog$Records" "blocks" "[I" "UnitLog", .fieldLinkNest R_U 165 "UnitLog$Records" "units" "[I" "UnitLog", .fieldLinkNest R_U 168 "UnitLog$Records" "stores" "[Z" "UnitLog", .fieldLinkNest R_U 87 "UnitLog$Records" "highs" "[J" "UnitLog", .fieldLinkNest R_U 91 "UnitLog$Records" "lows" "[J" "UnitLog", .fieldLinkNest R_U 181 "UnitLog$Checkpoint" "places" "[I" "UnitLog", .fieldLinkNest R_U 113 "UnitLog$Checkpoint" "number" "I" "UnitLog", .fieldLinkNest R_U 178 "UnitLog$Checkpoint" "serial" "I" "UnitLog", .fieldLinkNest R_U 179 "UnitLog$Checkpoint" "open" "I" "UnitLog", .fieldLinkNest R_U 180 "UnitLog$Checkpoint" "fill" "I" "UnitLog"]
end
section
set_option maxRecDepth 100000 in
theorem lwG_r {w : Cond} (h : w ∈ tables_1) (g : goodWord w = true) : w ∈ lwG := List.mem_filter.mpr ⟨List.mem_append_right _ h, g⟩
set_option maxRecDepth 100000 in
theorem lwG_l {w : Cond} (h : w ∈ k2_sels lw_privs) (g : goodWord w = true) : w ∈ lwG := List.mem_filter.mpr ⟨List.mem_append_left _ h, g⟩
set_option maxRecDepth 100000 in
theorem lwG_up {w : Cond} (h : w ∈ lwG) : w ∈ lw_tbl := (List.mem_filter.mp h).1
def Ns (U : State) : Prop := ∀ w ∈ nsW, va_Nw w U
def nsk : Cond → Bool
  | .fieldLinkNest .. => true
  | .methodLinkNest .. => true
  | _ => false
set_option maxRecDepth 100000 in
theorem nsk_all : nsW.all nsk = true := by decide +kernel
theorem Ns.warm {s U : State} (hW : s.WarmedH U.vm) (h : Ns s) : Ns U := by
  intro w hw
  have h1 := List.all_eq_true.mp nsk_all w hw
  have h2 := h w hw
  cases w <;> first | exact va_Nw.warmF hW h2 | exact va_Nw.warmM hW h2 | (simp [nsk] at h1)
theorem Ns.same {u U : State} (hv : u.vm = U.vm) (h : Ns u) : Ns U := by
  intro w hw
  have h1 := List.all_eq_true.mp nsk_all w hw
  have h2 := h w hw
  cases w <;> first | exact va_Nw.same rfl hv h2 | (simp [nsk] at h1)
set_option maxRecDepth 100000 in
theorem nsW_in : ∀ w ∈ nsW, w ∈ lw_tbl := by decide +kernel
set_option maxRecDepth 100000 in
theorem kn_L : Cond.initialized R_L ∈ lwG := lwG_r (List.mem_of_getElem? (i := 0) rfl) rfl
set_option maxRecDepth 100000 in
theorem kn_U : Cond.initialized R_U ∈ lwG := lwG_r (List.mem_of_getElem? (i := 1) rfl) rfl
set_option maxRecDepth 100000 in
theorem kn_JM : Cond.initialized R_JM ∈ lwG := lwG_r (List.mem_of_getElem? (i := 2) rfl) rfl
set_option maxRecDepth 100000 in
theorem kn_D : Cond.initialized R_D ∈ lwG := lwG_r (List.mem_of_getElem? (i := 3) rfl) rfl
set_option maxRecDepth 100000 in
theorem kn_P : Cond.initialized R_P ∈ lwG := lwG_r (List.mem_of_getElem? (i := 4) rfl) rfl
set_option maxRecDepth 100000 in
theorem kn_R : Cond.initialized R_R ∈ lwG := lwG_r (List.mem_of_getElem? (i := 5) rfl) rfl
set_option maxRecDepth 100000 in
theorem kn_C : Cond.initialized R_C ∈ lwG := lwG_r (List.mem_of_getElem? (i := 6) rfl) rfl
set_option maxRecDepth 100000 in
theorem kn_JA : Cond.initialized R_JA ∈ lwG := lwG_r (List.mem_of_getElem? (i := 7) rfl) rfl
set_option maxRecDepth 100000 in
theorem kn_M : Cond.initialized R_M ∈ lwG := lwG_r (List.mem_of_getElem? (i := 8) rfl) rfl
set_option maxRecDepth 100000 in
theorem kn_JS : Cond.initialized R_JS ∈ lwG := lwG_r (List.mem_of_getElem? (i := 9) rfl) rfl
set_option maxRecDepth 100000 in
theorem kk_L_7 : Cond.classLink R_L 7 R_U ∈ lwG := lwG_r (List.mem_of_getElem? (i := 10) rfl) rfl
set_option maxRecDepth 100000 in
theorem kt_U : Cond.instantiable R_U 11 ∈ lwG := lwG_r (List.mem_of_getElem? (i := 11) rfl) rfl
set_option maxRecDepth 100000 in
theorem kl_L_15 : Cond.methodLink R_L 15 y_U_init ∈ lwG := lwG_r (List.mem_of_getElem? (i := 12) rfl) rfl
set_option maxRecDepth 100000 in
theorem ki_U_init : Cond.instanceMethod y_U_init ∈ lwG := lwG_r (List.mem_of_getElem? (i := 13) rfl) rfl
set_option maxRecDepth 100000 in
theorem kc_U_init : Cond.code y_U_init b_U_init 3 none ∈ lwG := lwG_r (List.mem_of_getElem? (i := 14) rfl) rfl
set_option maxRecDepth 100000 in
theorem kl_U_1 : Cond.methodLink R_U 1 objectInit ∈ lwG := lwG_r (List.mem_of_getElem? (i := 15) rfl) rfl
set_option maxRecDepth 100000 in
theorem ki_O_init : Cond.instanceMethod objectInit ∈ lwG := lwG_r (List.mem_of_getElem? (i := 16) rfl) rfl
set_option maxRecDepth 100000 in
theorem kl_U_9 : Cond.methodLink R_U 9 Lib.Math.min.name ∈ lwG := lwG_r (List.mem_of_getElem? (i := 18) rfl) rfl
set_option maxRecDepth 100000 in
theorem ks_JM_min : Cond.static Lib.Math.min.name ∈ lwG := lwG_r (List.mem_of_getElem? (i := 19) rfl) rfl
set_option maxRecDepth 100000 in
theorem kl_U_15 : Cond.methodLink R_U 15 Lib.Math.max.name ∈ lwG := lwG_r (List.mem_of_getElem? (i := 21) rfl) rfl
set_option maxRecDepth 100000 in
theorem ks_JM_max : Cond.static Lib.Math.max.name ∈ lwG := lwG_r (List.mem_of_getElem? (i := 22) rfl) rfl
set_option maxRecDepth 100000 in
theorem kk_U_18 : Cond.classLink R_U 18 R_D ∈ lwG := lwG_r (List.mem_of_getElem? (i := 24) rfl) rfl
set_option maxRecDepth 100000 in
theorem kt_D : Cond.instantiable R_D 2 ∈ lwG := lwG_r (List.mem_of_getElem? (i := 25) rfl) rfl
set_option maxRecDepth 100000 in
theorem kl_U_20 : Cond.methodLinkNest R_U 20 y_D_init "UnitLog" ∈ nsW := List.mem_of_getElem? (i := 0) rfl
set_option maxRecDepth 100000 in
theorem ki_D_init : Cond.instanceMethod y_D_init ∈ lwG := lwG_r (List.mem_of_getElem? (i := 27) rfl) rfl
set_option maxRecDepth 100000 in
theorem kc_D_init : Cond.code y_D_init b_D_init 1 none ∈ lwG := lwG_r (List.mem_of_getElem? (i := 28) rfl) rfl
set_option maxRecDepth 100000 in
theorem kl_D_3 : Cond.methodLink R_D 3 objectInit ∈ lwG := lwG_r (List.mem_of_getElem? (i := 29) rfl) rfl
set_option maxRecDepth 100000 in
theorem kf_D_9 : Cond.fieldLink R_D 9 "UnitLog$Disk" "armed" "I" ∈ lwG := lwG_r (List.mem_of_getElem? (i := 30) rfl) rfl
set_option maxRecDepth 100000 in
theorem kf_U_126 : Cond.fieldLinkNest R_U 126 "UnitLog$Disk" "armed" "I" "UnitLog" ∈ nsW := List.mem_of_getElem? (i := 1) rfl
set_option maxRecDepth 100000 in
theorem kf_D_15 : Cond.fieldLink R_D 15 "UnitLog$Disk" "written" "I" ∈ lwG := lwG_r (List.mem_of_getElem? (i := 32) rfl) rfl
set_option maxRecDepth 100000 in
theorem kf_U_147 : Cond.fieldLinkNest R_U 147 "UnitLog$Disk" "written" "I" "UnitLog" ∈ nsW := List.mem_of_getElem? (i := 2) rfl
set_option maxRecDepth 100000 in
theorem kk_U_25 : Cond.classLink R_U 25 R_P ∈ lwG := lwG_r (List.mem_of_getElem? (i := 39) rfl) rfl
set_option maxRecDepth 100000 in
theorem kt_P : Cond.instantiable R_P 3 ∈ lwG := lwG_r (List.mem_of_getElem? (i := 40) rfl) rfl
set_option maxRecDepth 100000 in
theorem kl_U_27 : Cond.methodLinkNest R_U 27 y_P_init "UnitLog" ∈ nsW := List.mem_of_getElem? (i := 3) rfl
set_option maxRecDepth 100000 in
theorem ki_P_init : Cond.instanceMethod y_P_init ∈ lwG := lwG_r (List.mem_of_getElem? (i := 42) rfl) rfl
set_option maxRecDepth 100000 in
theorem kc_P_init : Cond.code y_P_init b_P_init 1 none ∈ lwG := lwG_r (List.mem_of_getElem? (i := 43) rfl) rfl
set_option maxRecDepth 100000 in
theorem kl_P_5 : Cond.methodLink R_P 5 objectInit ∈ lwG := lwG_r (List.mem_of_getElem? (i := 44) rfl) rfl
set_option maxRecDepth 100000 in
theorem kf_P_11 : Cond.fieldLink R_P 11 "UnitLog$Packer" "bytes" "[I" ∈ lwG := lwG_r (List.mem_of_getElem? (i := 45) rfl) rfl
set_option maxRecDepth 100000 in
theorem kf_P_15 : Cond.fieldLink R_P 15 "UnitLog$Packer" "form" "[I" ∈ lwG := lwG_r (List.mem_of_getElem? (i := 46) rfl) rfl
set_option maxRecDepth 100000 in
theorem kf_U_98 : Cond.fieldLinkNest R_U 98 "UnitLog$Packer" "form" "[I" "UnitLog" ∈ nsW := List.mem_of_getElem? (i := 4) rfl
set_option maxRecDepth 100000 in
theorem kf_P_21 : Cond.fieldLink R_P 21 "UnitLog$Packer" "size" "I" ∈ lwG := lwG_r (List.mem_of_getElem? (i := 48) rfl) rfl
set_option maxRecDepth 100000 in
theorem kf_U_94 : Cond.fieldLinkNest R_U 94 "UnitLog$Packer" "size" "I" "UnitLog" ∈ nsW := List.mem_of_getElem? (i := 5) rfl
set_option maxRecDepth 100000 in
theorem kv_int : Cond.arrayClass .int ∈ lwG := lwG_r (List.mem_of_getElem? (i := 57) rfl) rfl
set_option maxRecDepth 100000 in
theorem kk_U_32 : Cond.classLink R_U 32 R_R ∈ lwG := lwG_r (List.mem_of_getElem? (i := 58) rfl) rfl
set_option maxRecDepth 100000 in
theorem kt_R : Cond.instantiable R_R 6 ∈ lwG := lwG_r (List.mem_of_getElem? (i := 59) rfl) rfl
set_option maxRecDepth 100000 in
theorem kl_U_34 : Cond.methodLink R_U 34 y_R_init ∈ lwG := lwG_r (List.mem_of_getElem? (i := 60) rfl) rfl
set_option maxRecDepth 100000 in
theorem ki_R_init : Cond.instanceMethod y_R_init ∈ lwG := lwG_r (List.mem_of_getElem? (i := 61) rfl) rfl
set_option maxRecDepth 100000 in
theorem kc_R_init : Cond.code y_R_init b_R_init 2 none ∈ lwG := lwG_r (List.mem_of_getElem? (i := 62) rfl) rfl
set_option maxRecDepth 100000 in
theorem kl_R_3 : Cond.methodLink R_R 3 objectInit ∈ lwG := lwG_r (List.mem_of_getElem? (i := 63) rfl) rfl
set_option maxRecDepth 100000 in
theorem kf_R_9 : Cond.fieldLink R_R 9 "UnitLog$Records" "serials" "[I" ∈ lwG := lwG_r (List.mem_of_getElem? (i := 64) rfl) rfl
set_option maxRecDepth 100000 in
theorem kf_U_159 : Cond.fieldLinkNest R_U 159 "UnitLog$Records" "serials" "[I" "UnitLog" ∈ nsW := List.mem_of_getElem? (i := 6) rfl
set_option maxRecDepth 100000 in
theorem kf_R_15 : Cond.fieldLink R_R 15 "UnitLog$Records" "blocks" "[I" ∈ lwG := lwG_r (List.mem_of_getElem? (i := 66) rfl) rfl
set_option maxRecDepth 100000 in
theorem kf_U_162 : Cond.fieldLinkNest R_U 162 "UnitLog$Records" "blocks" "[I" "UnitLog" ∈ nsW := List.mem_of_getElem? (i := 7) rfl
set_option maxRecDepth 100000 in
theorem kf_R_18 : Cond.fieldLink R_R 18 "UnitLog$Records" "units" "[I" ∈ lwG := lwG_r (List.mem_of_getElem? (i := 68) rfl) rfl
set_option maxRecDepth 100000 in
theorem kf_U_165 : Cond.fieldLinkNest R_U 165 "UnitLog$Records" "units" "[I" "UnitLog" ∈ nsW := List.mem_of_getElem? (i := 8) rfl
set_option maxRecDepth 100000 in
theorem kf_R_21 : Cond.fieldLink R_R 21 "UnitLog$Records" "stores" "[Z" ∈ lwG := lwG_r (List.mem_of_getElem? (i := 70) rfl) rfl
set_option maxRecDepth 100000 in
theorem kf_U_168 : Cond.fieldLinkNest R_U 168 "UnitLog$Records" "stores" "[Z" "UnitLog" ∈ nsW := List.mem_of_getElem? (i := 9) rfl
set_option maxRecDepth 100000 in
theorem kf_R_25 : Cond.fieldLink R_R 25 "UnitLog$Records" "highs" "[J" ∈ lwG := lwG_r (List.mem_of_getElem? (i := 72) rfl) rfl
set_option maxRecDepth 100000 in
theorem kf_U_87 : Cond.fieldLinkNest R_U 87 "UnitLog$Records" "highs" "[J" "UnitLog" ∈ nsW := List.mem_of_getElem? (i := 10) rfl
set_option maxRecDepth 100000 in
theorem kf_R_29 : Cond.fieldLink R_R 29 "UnitLog$Records" "lows" "[J" ∈ lwG := lwG_r (List.mem_of_getElem? (i := 74) rfl) rfl
set_option maxRecDepth 100000 in
theorem kf_U_91 : Cond.fieldLinkNest R_U 91 "UnitLog$Records" "lows" "[J" "UnitLog" ∈ nsW := List.mem_of_getElem? (i := 11) rfl
set_option maxRecDepth 100000 in
theorem kv_boolean : Cond.arrayClass .boolean ∈ lwG := lwG_r (List.mem_of_getElem? (i := 89) rfl) rfl
set_option maxRecDepth 100000 in
theorem kv_long : Cond.arrayClass .long ∈ lwG := lwG_r (List.mem_of_getElem? (i := 90) rfl) rfl
set_option maxRecDepth 100000 in
theorem kk_U_41 : Cond.classLink R_U 41 R_C ∈ lwG := lwG_r (List.mem_of_getElem? (i := 91) rfl) rfl
set_option maxRecDepth 100000 in
theorem kt_C : Cond.instantiable R_C 5 ∈ lwG := lwG_r (List.mem_of_getElem? (i := 92) rfl) rfl
set_option maxRecDepth 100000 in
theorem kl_U_43 : Cond.methodLink R_U 43 y_C_init ∈ lwG := lwG_r (List.mem_of_getElem? (i := 93) rfl) rfl
set_option maxRecDepth 100000 in
theorem ki_C_init : Cond.instanceMethod y_C_init ∈ lwG := lwG_r (List.mem_of_getElem? (i := 94) rfl) rfl
set_option maxRecDepth 100000 in
theorem kc_C_init : Cond.code y_C_init b_C_init 1 none ∈ lwG := lwG_r (List.mem_of_getElem? (i := 95) rfl) rfl
set_option maxRecDepth 100000 in
theorem kl_C_3 : Cond.methodLink R_C 3 objectInit ∈ lwG := lwG_r (List.mem_of_getElem? (i := 96) rfl) rfl
set_option maxRecDepth 100000 in
theorem kl_C_15 : Cond.methodLink R_C 15 y_JA_fill ∈ lwG := lwG_r (List.mem_of_getElem? (i := 97) rfl) rfl
set_option maxRecDepth 100000 in
theorem ks_JA_fill : Cond.static y_JA_fill ∈ lwG := lwG_r (List.mem_of_getElem? (i := 98) rfl) rfl
set_option maxRecDepth 100000 in
theorem kc_JA_fill : Cond.code y_JA_fill b_JA_fill 4 none ∈ lwG := lwG_r (List.mem_of_getElem? (i := 99) rfl) rfl
set_option maxRecDepth 100000 in
theorem kf_C_9 : Cond.fieldLink R_C 9 "UnitLog$Checkpoint" "places" "[I" ∈ lwG := lwG_r (List.mem_of_getElem? (i := 100) rfl) rfl
set_option maxRecDepth 100000 in
theorem kf_U_181 : Cond.fieldLinkNest R_U 181 "UnitLog$Checkpoint" "places" "[I" "UnitLog" ∈ nsW := List.mem_of_getElem? (i := 12) rfl
set_option maxRecDepth 100000 in
theorem kf_U_113 : Cond.fieldLinkNest R_U 113 "UnitLog$Checkpoint" "number" "I" "UnitLog" ∈ nsW := List.mem_of_getElem? (i := 13) rfl
set_option maxRecDepth 100000 in
theorem kf_U_178 : Cond.fieldLinkNest R_U 178 "UnitLog$Checkpoint" "serial" "I" "UnitLog" ∈ nsW := List.mem_of_getElem? (i := 14) rfl
set_option maxRecDepth 100000 in
theorem kf_U_179 : Cond.fieldLinkNest R_U 179 "UnitLog$Checkpoint" "open" "I" "UnitLog" ∈ nsW := List.mem_of_getElem? (i := 15) rfl
set_option maxRecDepth 100000 in
theorem kf_U_180 : Cond.fieldLinkNest R_U 180 "UnitLog$Checkpoint" "fill" "I" "UnitLog" ∈ nsW := List.mem_of_getElem? (i := 16) rfl
set_option maxRecDepth 100000 in
theorem kl_U_55 : Cond.methodLink R_U 55 y_JA_fill ∈ lwG := lwG_r (List.mem_of_getElem? (i := 117) rfl) rfl
set_option maxRecDepth 100000 in
theorem kf_U_21 : Cond.fieldLink R_U 21 "UnitLog" "disk" "LUnitLog$Disk;" ∈ lwG := lwG_r (List.mem_of_getElem? (i := 118) rfl) rfl
set_option maxRecDepth 100000 in
theorem kf_U_28 : Cond.fieldLink R_U 28 "UnitLog" "packer" "LUnitLog$Packer;" ∈ lwG := lwG_r (List.mem_of_getElem? (i := 119) rfl) rfl
set_option maxRecDepth 100000 in
theorem kf_U_37 : Cond.fieldLink R_U 37 "UnitLog" "records" "LUnitLog$Records;" ∈ lwG := lwG_r (List.mem_of_getElem? (i := 120) rfl) rfl
set_option maxRecDepth 100000 in
theorem kf_U_44 : Cond.fieldLink R_U 44 "UnitLog" "counting" "LUnitLog$Checkpoint;" ∈ lwG := lwG_r (List.mem_of_getElem? (i := 121) rfl) rfl
set_option maxRecDepth 100000 in
theorem kf_U_48 : Cond.fieldLink R_U 48 "UnitLog" "states" "[I" ∈ lwG := lwG_r (List.mem_of_getElem? (i := 122) rfl) rfl
set_option maxRecDepth 100000 in
theorem kf_U_52 : Cond.fieldLink R_U 52 "UnitLog" "places" "[I" ∈ lwG := lwG_r (List.mem_of_getElem? (i := 123) rfl) rfl
set_option maxRecDepth 100000 in
theorem kf_U_156 : Cond.fieldLink R_U 156 "UnitLog" "open" "I" ∈ lwG := lwG_r (List.mem_of_getElem? (i := 124) rfl) rfl
set_option maxRecDepth 100000 in
theorem kf_U_101 : Cond.fieldLink R_U 101 "UnitLog" "fill" "I" ∈ lwG := lwG_r (List.mem_of_getElem? (i := 125) rfl) rfl
set_option maxRecDepth 100000 in
theorem kf_U_103 : Cond.fieldLink R_U 103 "UnitLog" "saved" "I" ∈ lwG := lwG_r (List.mem_of_getElem? (i := 126) rfl) rfl
set_option maxRecDepth 100000 in
theorem kf_U_144 : Cond.fieldLink R_U 144 "UnitLog" "serial" "I" ∈ lwG := lwG_r (List.mem_of_getElem? (i := 127) rfl) rfl
set_option maxRecDepth 100000 in
theorem kf_U_61 : Cond.fieldLink R_U 61 "UnitLog" "down" "Z" ∈ lwG := lwG_r (List.mem_of_getElem? (i := 128) rfl) rfl
set_option maxRecDepth 100000 in
theorem kl_L_23 : Cond.methodLink R_L 23 y_U_write ∈ lwG := lwG_r (List.mem_of_getElem? (i := 152) rfl) rfl
set_option maxRecDepth 100000 in
theorem ki_U_write : Cond.instanceMethod y_U_write ∈ lwG := lwG_r (List.mem_of_getElem? (i := 153) rfl) rfl
set_option maxRecDepth 100000 in
theorem ke_U_write : Cond.selects R_U y_U_write y_U_write ∈ lwG := lwG_r (List.mem_of_getElem? (i := 154) rfl) rfl
set_option maxRecDepth 100000 in
theorem kc_U_write : Cond.code y_U_write b_U_write 7 (some .int) ∈ lwG := lwG_r (List.mem_of_getElem? (i := 155) rfl) rfl
set_option maxRecDepth 100000 in
theorem kl_U_65 : Cond.methodLink R_U 65 y_U_isBlock ∈ lwG := lwG_r (List.mem_of_getElem? (i := 156) rfl) rfl
set_option maxRecDepth 100000 in
theorem ks_U_isBlock : Cond.static y_U_isBlock ∈ lwG := lwG_r (List.mem_of_getElem? (i := 157) rfl) rfl
set_option maxRecDepth 100000 in
theorem kc_U_isBlock : Cond.code y_U_isBlock b_U_isBlock 1 (some .boolean) ∈ lwG := lwG_r (List.mem_of_getElem? (i := 158) rfl) rfl
set_option maxRecDepth 100000 in
theorem kl_U_69 : Cond.methodLink R_U 69 y_P_pack ∈ lwG := lwG_r (List.mem_of_getElem? (i := 159) rfl) rfl
set_option maxRecDepth 100000 in
theorem ki_P_pack : Cond.instanceMethod y_P_pack ∈ lwG := lwG_r (List.mem_of_getElem? (i := 160) rfl) rfl
set_option maxRecDepth 100000 in
theorem ke_P_pack : Cond.selects R_P y_P_pack y_P_pack ∈ lwG := lwG_r (List.mem_of_getElem? (i := 161) rfl) rfl
set_option maxRecDepth 100000 in
theorem kc_P_pack : Cond.code y_P_pack b_P_pack 6 none ∈ lwG := lwG_r (List.mem_of_getElem? (i := 162) rfl) rfl
set_option maxRecDepth 100000 in
theorem kl_P_18 : Cond.methodLink R_P 18 y_P_makePieces ∈ lwG := lwG_r (List.mem_of_getElem? (i := 163) rfl) rfl
set_option maxRecDepth 100000 in
theorem ki_P_makePieces : Cond.instanceMethod y_P_makePieces ∈ lwG := lwG_r (List.mem_of_getElem? (i := 165) rfl) rfl
set_option maxRecDepth 100000 in
theorem kc_P_makePieces : Cond.code y_P_makePieces b_P_makePieces 5 none ∈ lwG := lwG_r (List.mem_of_getElem? (i := 166) rfl) rfl
set_option maxRecDepth 100000 in
theorem kl_P_31 : Cond.methodLink R_P 31 y_P_longestMatch ∈ lwG := lwG_r (List.mem_of_getElem? (i := 167) rfl) rfl
set_option maxRecDepth 100000 in
theorem ki_P_longestMatch : Cond.instanceMethod y_P_longestMatch ∈ lwG := lwG_r (List.mem_of_getElem? (i := 169) rfl) rfl
set_option maxRecDepth 100000 in
theorem kc_P_longestMatch : Cond.code y_P_longestMatch b_P_longestMatch 6 (some .int) ∈ lwG := lwG_r (List.mem_of_getElem? (i := 170) rfl) rfl
set_option maxRecDepth 100000 in
theorem kl_P_35 : Cond.methodLink R_P 35 y_P_sameBytes ∈ lwG := lwG_r (List.mem_of_getElem? (i := 171) rfl) rfl
set_option maxRecDepth 100000 in
theorem ki_P_sameBytes : Cond.instanceMethod y_P_sameBytes ∈ lwG := lwG_r (List.mem_of_getElem? (i := 173) rfl) rfl
set_option maxRecDepth 100000 in
theorem kc_P_sameBytes : Cond.code y_P_sameBytes b_P_sameBytes 4 (some .int) ∈ lwG := lwG_r (List.mem_of_getElem? (i := 174) rfl) rfl
set_option maxRecDepth 100000 in
theorem kl_P_39 : Cond.methodLink R_P 39 y_P_endPiece ∈ lwG := lwG_r (List.mem_of_getElem? (i := 175) rfl) rfl
set_option maxRecDepth 100000 in
theorem ki_P_endPiece : Cond.instanceMethod y_P_endPiece ∈ lwG := lwG_r (List.mem_of_getElem? (i := 177) rfl) rfl
set_option maxRecDepth 100000 in
theorem kc_P_endPiece : Cond.code y_P_endPiece b_P_endPiece 5 none ∈ lwG := lwG_r (List.mem_of_getElem? (i := 178) rfl) rfl
set_option maxRecDepth 100000 in
theorem kl_P_25 : Cond.methodLink R_P 25 arraycopyName ∈ lwG := lwG_r (List.mem_of_getElem? (i := 179) rfl) rfl
set_option maxRecDepth 100000 in
theorem ks_JS_arraycopy : Cond.static arraycopyName ∈ lwG := lwG_r (List.mem_of_getElem? (i := 180) rfl) rfl
set_option maxRecDepth 100000 in
theorem ka_JS_arraycopy : Cond.native arraycopyName ∈ lwG := lwG_r (List.mem_of_getElem? (i := 181) rfl) rfl
set_option maxRecDepth 100000 in
theorem kl_U_73 : Cond.methodLink R_U 73 y_P_storeUnits ∈ lwG := lwG_r (List.mem_of_getElem? (i := 182) rfl) rfl
set_option maxRecDepth 100000 in
theorem ki_P_storeUnits : Cond.instanceMethod y_P_storeUnits ∈ lwG := lwG_r (List.mem_of_getElem? (i := 183) rfl) rfl
set_option maxRecDepth 100000 in
theorem ke_P_storeUnits : Cond.selects R_P y_P_storeUnits y_P_storeUnits ∈ lwG := lwG_r (List.mem_of_getElem? (i := 184) rfl) rfl
set_option maxRecDepth 100000 in
theorem kc_P_storeUnits : Cond.code y_P_storeUnits b_P_storeUnits 1 (some .int) ∈ lwG := lwG_r (List.mem_of_getElem? (i := 185) rfl) rfl
set_option maxRecDepth 100000 in
theorem kl_U_77 : Cond.methodLink R_U 77 y_U_mayAppend ∈ lwG := lwG_r (List.mem_of_getElem? (i := 186) rfl) rfl
set_option maxRecDepth 100000 in
theorem ki_U_mayAppend : Cond.instanceMethod y_U_mayAppend ∈ lwG := lwG_r (List.mem_of_getElem? (i := 188) rfl) rfl
set_option maxRecDepth 100000 in
theorem kc_U_mayAppend : Cond.code y_U_mayAppend b_U_mayAppend 2 (some .boolean) ∈ lwG := lwG_r (List.mem_of_getElem? (i := 189) rfl) rfl
set_option maxRecDepth 100000 in
theorem kl_U_150 : Cond.methodLink R_U 150 y_U_freeSegments ∈ lwG := lwG_r (List.mem_of_getElem? (i := 190) rfl) rfl
set_option maxRecDepth 100000 in
theorem ki_U_freeSegments : Cond.instanceMethod y_U_freeSegments ∈ lwG := lwG_r (List.mem_of_getElem? (i := 192) rfl) rfl
set_option maxRecDepth 100000 in
theorem kc_U_freeSegments : Cond.code y_U_freeSegments b_U_freeSegments 3 (some .int) ∈ lwG := lwG_r (List.mem_of_getElem? (i := 193) rfl) rfl
set_option maxRecDepth 100000 in
theorem kl_U_80 : Cond.methodLink R_U 80 y_U_append ∈ lwG := lwG_r (List.mem_of_getElem? (i := 194) rfl) rfl
set_option maxRecDepth 100000 in
theorem ki_U_append : Cond.instanceMethod y_U_append ∈ lwG := lwG_r (List.mem_of_getElem? (i := 196) rfl) rfl
set_option maxRecDepth 100000 in
theorem kc_U_append : Cond.code y_U_append b_U_append 9 (some .boolean) ∈ lwG := lwG_r (List.mem_of_getElem? (i := 197) rfl) rfl
set_option maxRecDepth 100000 in
theorem kl_U_153 : Cond.methodLink R_U 153 y_U_openNext ∈ lwG := lwG_r (List.mem_of_getElem? (i := 198) rfl) rfl
set_option maxRecDepth 100000 in
theorem ki_U_openNext : Cond.instanceMethod y_U_openNext ∈ lwG := lwG_r (List.mem_of_getElem? (i := 200) rfl) rfl
set_option maxRecDepth 100000 in
theorem kc_U_openNext : Cond.code y_U_openNext b_U_openNext 2 (some .boolean) ∈ lwG := lwG_r (List.mem_of_getElem? (i := 201) rfl) rfl
set_option maxRecDepth 100000 in
theorem kl_U_172 : Cond.methodLink R_U 172 y_U_lowestFree ∈ lwG := lwG_r (List.mem_of_getElem? (i := 202) rfl) rfl
set_option maxRecDepth 100000 in
theorem ki_U_lowestFree : Cond.instanceMethod y_U_lowestFree ∈ lwG := lwG_r (List.mem_of_getElem? (i := 204) rfl) rfl
set_option maxRecDepth 100000 in
theorem kc_U_lowestFree : Cond.code y_U_lowestFree b_U_lowestFree 2 (some .int) ∈ lwG := lwG_r (List.mem_of_getElem? (i := 205) rfl) rfl
set_option maxRecDepth 100000 in
theorem kl_U_106 : Cond.methodLink R_U 106 y_U_saveUnits ∈ lwG := lwG_r (List.mem_of_getElem? (i := 206) rfl) rfl
set_option maxRecDepth 100000 in
theorem ki_U_saveUnits : Cond.instanceMethod y_U_saveUnits ∈ lwG := lwG_r (List.mem_of_getElem? (i := 208) rfl) rfl
set_option maxRecDepth 100000 in
theorem kc_U_saveUnits : Cond.code y_U_saveUnits b_U_saveUnits 2 (some .boolean) ∈ lwG := lwG_r (List.mem_of_getElem? (i := 209) rfl) rfl
set_option maxRecDepth 100000 in
theorem kl_U_175 : Cond.methodLink R_U 175 y_D_writeUnit ∈ lwG := lwG_r (List.mem_of_getElem? (i := 210) rfl) rfl
set_option maxRecDepth 100000 in
theorem ki_D_writeUnit : Cond.instanceMethod y_D_writeUnit ∈ lwG := lwG_r (List.mem_of_getElem? (i := 211) rfl) rfl
set_option maxRecDepth 100000 in
theorem ke_D_writeUnit : Cond.selects R_D y_D_writeUnit y_D_writeUnit ∈ lwG := lwG_r (List.mem_of_getElem? (i := 212) rfl) rfl
set_option maxRecDepth 100000 in
theorem kc_D_writeUnit : Cond.code y_D_writeUnit b_D_writeUnit 1 (some .boolean) ∈ lwG := lwG_r (List.mem_of_getElem? (i := 213) rfl) rfl
set_option maxRecDepth 100000 in
theorem kl_U_84 : Cond.methodLink R_U 84 y_U_goDown ∈ lwG := lwG_r (List.mem_of_getElem? (i := 214) rfl) rfl
set_option maxRecDepth 100000 in
theorem ki_U_goDown : Cond.instanceMethod y_U_goDown ∈ lwG := lwG_r (List.mem_of_getElem? (i := 216) rfl) rfl
set_option maxRecDepth 100000 in
theorem kc_U_goDown : Cond.code y_U_goDown b_U_goDown 1 (some .int) ∈ lwG := lwG_r (List.mem_of_getElem? (i := 217) rfl) rfl
set_option maxRecDepth 100000 in
theorem kl_U_188 : Cond.methodLink R_U 188 y_R_forgetUnsaved ∈ lwG := lwG_r (List.mem_of_getElem? (i := 218) rfl) rfl
set_option maxRecDepth 100000 in
theorem ki_R_forgetUnsaved : Cond.instanceMethod y_R_forgetUnsaved ∈ lwG := lwG_r (List.mem_of_getElem? (i := 219) rfl) rfl
set_option maxRecDepth 100000 in
theorem ke_R_forgetUnsaved : Cond.selects R_R y_R_forgetUnsaved y_R_forgetUnsaved ∈ lwG := lwG_r (List.mem_of_getElem? (i := 220) rfl) rfl
set_option maxRecDepth 100000 in
theorem kc_R_forgetUnsaved : Cond.code y_R_forgetUnsaved b_R_forgetUnsaved 5 none ∈ lwG := lwG_r (List.mem_of_getElem? (i := 221) rfl) rfl
set_option maxRecDepth 100000 in
theorem kl_L_28 : Cond.methodLink R_L 28 y_U_trim ∈ lwG := lwG_r (List.mem_of_getElem? (i := 222) rfl) rfl
set_option maxRecDepth 100000 in
theorem ki_U_trim : Cond.instanceMethod y_U_trim ∈ lwG := lwG_r (List.mem_of_getElem? (i := 223) rfl) rfl
set_option maxRecDepth 100000 in
theorem ke_U_trim : Cond.selects R_U y_U_trim y_U_trim ∈ lwG := lwG_r (List.mem_of_getElem? (i := 224) rfl) rfl
set_option maxRecDepth 100000 in
theorem kc_U_trim : Cond.code y_U_trim b_U_trim 2 (some .int) ∈ lwG := lwG_r (List.mem_of_getElem? (i := 225) rfl) rfl
set_option maxRecDepth 100000 in
theorem kl_L_33 : Cond.methodLink R_L 33 y_U_read ∈ lwG := lwG_r (List.mem_of_getElem? (i := 226) rfl) rfl
set_option maxRecDepth 100000 in
theorem ki_U_read : Cond.instanceMethod y_U_read ∈ lwG := lwG_r (List.mem_of_getElem? (i := 227) rfl) rfl
set_option maxRecDepth 100000 in
theorem ke_U_read : Cond.selects R_U y_U_read y_U_read ∈ lwG := lwG_r (List.mem_of_getElem? (i := 228) rfl) rfl
set_option maxRecDepth 100000 in
theorem kc_U_read : Cond.code y_U_read b_U_read 3 (some .long) ∈ lwG := lwG_r (List.mem_of_getElem? (i := 229) rfl) rfl
set_option maxRecDepth 100000 in
theorem kl_L_38 : Cond.methodLink R_L 38 y_U_packed ∈ lwG := lwG_r (List.mem_of_getElem? (i := 230) rfl) rfl
set_option maxRecDepth 100000 in
theorem ki_U_packed : Cond.instanceMethod y_U_packed ∈ lwG := lwG_r (List.mem_of_getElem? (i := 231) rfl) rfl
set_option maxRecDepth 100000 in
theorem ke_U_packed : Cond.selects R_U y_U_packed y_U_packed ∈ lwG := lwG_r (List.mem_of_getElem? (i := 232) rfl) rfl
set_option maxRecDepth 100000 in
theorem kc_U_packed : Cond.code y_U_packed b_U_packed 4 (some .int) ∈ lwG := lwG_r (List.mem_of_getElem? (i := 233) rfl) rfl
set_option maxRecDepth 100000 in
theorem kl_L_43 : Cond.methodLink R_L 43 y_U_place ∈ lwG := lwG_r (List.mem_of_getElem? (i := 234) rfl) rfl
set_option maxRecDepth 100000 in
theorem ki_U_place : Cond.instanceMethod y_U_place ∈ lwG := lwG_r (List.mem_of_getElem? (i := 235) rfl) rfl
set_option maxRecDepth 100000 in
theorem ke_U_place : Cond.selects R_U y_U_place y_U_place ∈ lwG := lwG_r (List.mem_of_getElem? (i := 236) rfl) rfl
set_option maxRecDepth 100000 in
theorem kc_U_place : Cond.code y_U_place b_U_place 2 (some .int) ∈ lwG := lwG_r (List.mem_of_getElem? (i := 237) rfl) rfl
set_option maxRecDepth 100000 in
theorem kl_L_47 : Cond.methodLink R_L 47 y_U_flush ∈ lwG := lwG_r (List.mem_of_getElem? (i := 238) rfl) rfl
set_option maxRecDepth 100000 in
theorem ki_U_flush : Cond.instanceMethod y_U_flush ∈ lwG := lwG_r (List.mem_of_getElem? (i := 239) rfl) rfl
set_option maxRecDepth 100000 in
theorem ke_U_flush : Cond.selects R_U y_U_flush y_U_flush ∈ lwG := lwG_r (List.mem_of_getElem? (i := 240) rfl) rfl
set_option maxRecDepth 100000 in
theorem kc_U_flush : Cond.code y_U_flush b_U_flush 2 (some .int) ∈ lwG := lwG_r (List.mem_of_getElem? (i := 241) rfl) rfl
set_option maxRecDepth 100000 in
theorem kl_L_52 : Cond.methodLink R_L 52 y_U_checkpoint ∈ lwG := lwG_r (List.mem_of_getElem? (i := 242) rfl) rfl
set_option maxRecDepth 100000 in
theorem ki_U_checkpoint : Cond.instanceMethod y_U_checkpoint ∈ lwG := lwG_r (List.mem_of_getElem? (i := 243) rfl) rfl
set_option maxRecDepth 100000 in
theorem ke_U_checkpoint : Cond.selects R_U y_U_checkpoint y_U_checkpoint ∈ lwG := lwG_r (List.mem_of_getElem? (i := 244) rfl) rfl
set_option maxRecDepth 100000 in
theorem kc_U_checkpoint : Cond.code y_U_checkpoint b_U_checkpoint 1 (some .int) ∈ lwG := lwG_r (List.mem_of_getElem? (i := 245) rfl) rfl
set_option maxRecDepth 100000 in
theorem kl_U_110 : Cond.methodLink R_U 110 y_U_makeCheckpoint ∈ lwG := lwG_r (List.mem_of_getElem? (i := 246) rfl) rfl
set_option maxRecDepth 100000 in
theorem ki_U_makeCheckpoint : Cond.instanceMethod y_U_makeCheckpoint ∈ lwG := lwG_r (List.mem_of_getElem? (i := 248) rfl) rfl
set_option maxRecDepth 100000 in
theorem kc_U_makeCheckpoint : Cond.code y_U_makeCheckpoint b_U_makeCheckpoint 2 (some .boolean) ∈ lwG := lwG_r (List.mem_of_getElem? (i := 249) rfl) rfl
set_option maxRecDepth 100000 in
theorem kl_U_182 : Cond.methodLink R_U 182 arraycopyName ∈ lwG := lwG_r (List.mem_of_getElem? (i := 250) rfl) rfl
set_option maxRecDepth 100000 in
theorem kl_L_56 : Cond.methodLink R_L 56 y_U_clean ∈ lwG := lwG_r (List.mem_of_getElem? (i := 251) rfl) rfl
set_option maxRecDepth 100000 in
theorem ki_U_clean : Cond.instanceMethod y_U_clean ∈ lwG := lwG_r (List.mem_of_getElem? (i := 252) rfl) rfl
set_option maxRecDepth 100000 in
theorem ke_U_clean : Cond.selects R_U y_U_clean y_U_clean ∈ lwG := lwG_r (List.mem_of_getElem? (i := 253) rfl) rfl
set_option maxRecDepth 100000 in
theorem kc_U_clean : Cond.code y_U_clean b_U_clean 3 (some .int) ∈ lwG := lwG_r (List.mem_of_getElem? (i := 254) rfl) rfl
set_option maxRecDepth 100000 in
theorem kl_U_116 : Cond.methodLink R_U 116 y_U_closedWithFewestLive ∈ lwG := lwG_r (List.mem_of_getElem? (i := 255) rfl) rfl
set_option maxRecDepth 100000 in
theorem ki_U_closedWithFewestLive : Cond.instanceMethod y_U_closedWithFewestLive ∈ lwG := lwG_r (List.mem_of_getElem? (i := 257) rfl) rfl
set_option maxRecDepth 100000 in
theorem kc_U_closedWithFewestLive : Cond.code y_U_closedWithFewestLive b_U_closedWithFewestLive 4 (some .int) ∈ lwG := lwG_r (List.mem_of_getElem? (i := 258) rfl) rfl
set_option maxRecDepth 100000 in
theorem kl_U_141 : Cond.methodLink R_U 141 y_U_liveUnits ∈ lwG := lwG_r (List.mem_of_getElem? (i := 259) rfl) rfl
set_option maxRecDepth 100000 in
theorem ki_U_liveUnits : Cond.instanceMethod y_U_liveUnits ∈ lwG := lwG_r (List.mem_of_getElem? (i := 261) rfl) rfl
set_option maxRecDepth 100000 in
theorem kc_U_liveUnits : Cond.code y_U_liveUnits b_U_liveUnits 5 (some .int) ∈ lwG := lwG_r (List.mem_of_getElem? (i := 262) rfl) rfl
set_option maxRecDepth 100000 in
theorem kl_U_195 : Cond.methodLink R_U 195 y_U_isLive ∈ lwG := lwG_r (List.mem_of_getElem? (i := 263) rfl) rfl
set_option maxRecDepth 100000 in
theorem ki_U_isLive : Cond.instanceMethod y_U_isLive ∈ lwG := lwG_r (List.mem_of_getElem? (i := 265) rfl) rfl
set_option maxRecDepth 100000 in
theorem kc_U_isLive : Cond.code y_U_isLive b_U_isLive 2 (some .boolean) ∈ lwG := lwG_r (List.mem_of_getElem? (i := 266) rfl) rfl
set_option maxRecDepth 100000 in
theorem kl_U_119 : Cond.methodLink R_U 119 y_U_liveRecordsHaveRoom ∈ lwG := lwG_r (List.mem_of_getElem? (i := 267) rfl) rfl
set_option maxRecDepth 100000 in
theorem ki_U_liveRecordsHaveRoom : Cond.instanceMethod y_U_liveRecordsHaveRoom ∈ lwG := lwG_r (List.mem_of_getElem? (i := 269) rfl) rfl
set_option maxRecDepth 100000 in
theorem kc_U_liveRecordsHaveRoom : Cond.code y_U_liveRecordsHaveRoom b_U_liveRecordsHaveRoom 6 (some .boolean) ∈ lwG := lwG_r (List.mem_of_getElem? (i := 270) rfl) rfl
set_option maxRecDepth 100000 in
theorem kl_U_122 : Cond.methodLink R_U 122 y_U_appendLiveRecords ∈ lwG := lwG_r (List.mem_of_getElem? (i := 271) rfl) rfl
set_option maxRecDepth 100000 in
theorem ki_U_appendLiveRecords : Cond.instanceMethod y_U_appendLiveRecords ∈ lwG := lwG_r (List.mem_of_getElem? (i := 273) rfl) rfl
set_option maxRecDepth 100000 in
theorem kc_U_appendLiveRecords : Cond.code y_U_appendLiveRecords b_U_appendLiveRecords 5 (some .int) ∈ lwG := lwG_r (List.mem_of_getElem? (i := 274) rfl) rfl
set_option maxRecDepth 100000 in
theorem kl_L_60 : Cond.methodLink R_L 60 y_U_arm ∈ lwG := lwG_r (List.mem_of_getElem? (i := 275) rfl) rfl
set_option maxRecDepth 100000 in
theorem ki_U_arm : Cond.instanceMethod y_U_arm ∈ lwG := lwG_r (List.mem_of_getElem? (i := 276) rfl) rfl
set_option maxRecDepth 100000 in
theorem ke_U_arm : Cond.selects R_U y_U_arm y_U_arm ∈ lwG := lwG_r (List.mem_of_getElem? (i := 277) rfl) rfl
set_option maxRecDepth 100000 in
theorem kc_U_arm : Cond.code y_U_arm b_U_arm 2 (some .boolean) ∈ lwG := lwG_r (List.mem_of_getElem? (i := 278) rfl) rfl
set_option maxRecDepth 100000 in
theorem kl_L_65 : Cond.methodLink R_L 65 y_U_disarm ∈ lwG := lwG_r (List.mem_of_getElem? (i := 279) rfl) rfl
set_option maxRecDepth 100000 in
theorem ki_U_disarm : Cond.instanceMethod y_U_disarm ∈ lwG := lwG_r (List.mem_of_getElem? (i := 280) rfl) rfl
set_option maxRecDepth 100000 in
theorem ke_U_disarm : Cond.selects R_U y_U_disarm y_U_disarm ∈ lwG := lwG_r (List.mem_of_getElem? (i := 281) rfl) rfl
set_option maxRecDepth 100000 in
theorem kc_U_disarm : Cond.code y_U_disarm b_U_disarm 1 (some .boolean) ∈ lwG := lwG_r (List.mem_of_getElem? (i := 282) rfl) rfl
set_option maxRecDepth 100000 in
theorem kl_L_70 : Cond.methodLink R_L 70 y_U_crash ∈ lwG := lwG_r (List.mem_of_getElem? (i := 283) rfl) rfl
set_option maxRecDepth 100000 in
theorem ki_U_crash : Cond.instanceMethod y_U_crash ∈ lwG := lwG_r (List.mem_of_getElem? (i := 284) rfl) rfl
set_option maxRecDepth 100000 in
theorem ke_U_crash : Cond.selects R_U y_U_crash y_U_crash ∈ lwG := lwG_r (List.mem_of_getElem? (i := 285) rfl) rfl
set_option maxRecDepth 100000 in
theorem kc_U_crash : Cond.code y_U_crash b_U_crash 1 (some .boolean) ∈ lwG := lwG_r (List.mem_of_getElem? (i := 286) rfl) rfl
set_option maxRecDepth 100000 in
theorem kl_L_74 : Cond.methodLink R_L 74 y_U_recover ∈ lwG := lwG_r (List.mem_of_getElem? (i := 287) rfl) rfl
set_option maxRecDepth 100000 in
theorem ki_U_recover : Cond.instanceMethod y_U_recover ∈ lwG := lwG_r (List.mem_of_getElem? (i := 288) rfl) rfl
set_option maxRecDepth 100000 in
theorem ke_U_recover : Cond.selects R_U y_U_recover y_U_recover ∈ lwG := lwG_r (List.mem_of_getElem? (i := 289) rfl) rfl
set_option maxRecDepth 100000 in
theorem kc_U_recover : Cond.code y_U_recover b_U_recover 2 (some .int) ∈ lwG := lwG_r (List.mem_of_getElem? (i := 290) rfl) rfl
set_option maxRecDepth 100000 in
theorem kl_U_129 : Cond.methodLink R_U 129 y_U_returnToCheckpoint ∈ lwG := lwG_r (List.mem_of_getElem? (i := 291) rfl) rfl
set_option maxRecDepth 100000 in
theorem ki_U_returnToCheckpoint : Cond.instanceMethod y_U_returnToCheckpoint ∈ lwG := lwG_r (List.mem_of_getElem? (i := 293) rfl) rfl
set_option maxRecDepth 100000 in
theorem kc_U_returnToCheckpoint : Cond.code y_U_returnToCheckpoint b_U_returnToCheckpoint 1 none ∈ lwG := lwG_r (List.mem_of_getElem? (i := 294) rfl) rfl
set_option maxRecDepth 100000 in
theorem kl_U_132 : Cond.methodLink R_U 132 y_U_rollForward ∈ lwG := lwG_r (List.mem_of_getElem? (i := 295) rfl) rfl
set_option maxRecDepth 100000 in
theorem ki_U_rollForward : Cond.instanceMethod y_U_rollForward ∈ lwG := lwG_r (List.mem_of_getElem? (i := 297) rfl) rfl
set_option maxRecDepth 100000 in
theorem kc_U_rollForward : Cond.code y_U_rollForward b_U_rollForward 4 (some .int) ∈ lwG := lwG_r (List.mem_of_getElem? (i := 298) rfl) rfl
set_option maxRecDepth 100000 in
theorem kl_U_192 : Cond.methodLink R_U 192 y_R_find ∈ lwG := lwG_r (List.mem_of_getElem? (i := 299) rfl) rfl
set_option maxRecDepth 100000 in
theorem ki_R_find : Cond.instanceMethod y_R_find ∈ lwG := lwG_r (List.mem_of_getElem? (i := 300) rfl) rfl
set_option maxRecDepth 100000 in
theorem ke_R_find : Cond.selects R_R y_R_find y_R_find ∈ lwG := lwG_r (List.mem_of_getElem? (i := 301) rfl) rfl
set_option maxRecDepth 100000 in
theorem kc_R_find : Cond.code y_R_find b_R_find 3 (some .int) ∈ lwG := lwG_r (List.mem_of_getElem? (i := 302) rfl) rfl
set_option maxRecDepth 100000 in
theorem kl_U_135 : Cond.methodLink R_U 135 y_U_sortSegments ∈ lwG := lwG_r (List.mem_of_getElem? (i := 303) rfl) rfl
set_option maxRecDepth 100000 in
theorem ki_U_sortSegments : Cond.instanceMethod y_U_sortSegments ∈ lwG := lwG_r (List.mem_of_getElem? (i := 305) rfl) rfl
set_option maxRecDepth 100000 in
theorem kc_U_sortSegments : Cond.code y_U_sortSegments b_U_sortSegments 2 none ∈ lwG := lwG_r (List.mem_of_getElem? (i := 306) rfl) rfl
set_option maxRecDepth 100000 in
theorem kl_L_78 : Cond.methodLink R_L 78 y_U_live ∈ lwG := lwG_r (List.mem_of_getElem? (i := 307) rfl) rfl
set_option maxRecDepth 100000 in
theorem ki_U_live : Cond.instanceMethod y_U_live ∈ lwG := lwG_r (List.mem_of_getElem? (i := 308) rfl) rfl
set_option maxRecDepth 100000 in
theorem ke_U_live : Cond.selects R_U y_U_live y_U_live ∈ lwG := lwG_r (List.mem_of_getElem? (i := 309) rfl) rfl
set_option maxRecDepth 100000 in
theorem kc_U_live : Cond.code y_U_live b_U_live 2 (some .int) ∈ lwG := lwG_r (List.mem_of_getElem? (i := 310) rfl) rfl
set_option maxRecDepth 100000 in
theorem kl_U_138 : Cond.methodLink R_U 138 y_U_isSegment ∈ lwG := lwG_r (List.mem_of_getElem? (i := 311) rfl) rfl
set_option maxRecDepth 100000 in
theorem ki_U_isSegment : Cond.instanceMethod y_U_isSegment ∈ lwG := lwG_r (List.mem_of_getElem? (i := 313) rfl) rfl
set_option maxRecDepth 100000 in
theorem kc_U_isSegment : Cond.code y_U_isSegment b_U_isSegment 2 (some .boolean) ∈ lwG := lwG_r (List.mem_of_getElem? (i := 314) rfl) rfl
set_option maxRecDepth 100000 in
theorem kl_L_82 : Cond.methodLink R_L 82 y_U_segment ∈ lwG := lwG_r (List.mem_of_getElem? (i := 315) rfl) rfl
set_option maxRecDepth 100000 in
theorem ki_U_segment : Cond.instanceMethod y_U_segment ∈ lwG := lwG_r (List.mem_of_getElem? (i := 316) rfl) rfl
set_option maxRecDepth 100000 in
theorem ke_U_segment : Cond.selects R_U y_U_segment y_U_segment ∈ lwG := lwG_r (List.mem_of_getElem? (i := 317) rfl) rfl
set_option maxRecDepth 100000 in
theorem kc_U_segment : Cond.code y_U_segment b_U_segment 2 (some .int) ∈ lwG := lwG_r (List.mem_of_getElem? (i := 318) rfl) rfl
set_option maxRecDepth 100000 in
theorem kl_L_86 : Cond.methodLink R_L 86 y_U_look ∈ lwG := lwG_r (List.mem_of_getElem? (i := 319) rfl) rfl
set_option maxRecDepth 100000 in
theorem ki_U_look : Cond.instanceMethod y_U_look ∈ lwG := lwG_r (List.mem_of_getElem? (i := 320) rfl) rfl
set_option maxRecDepth 100000 in
theorem ke_U_look : Cond.selects R_U y_U_look y_U_look ∈ lwG := lwG_r (List.mem_of_getElem? (i := 321) rfl) rfl
set_option maxRecDepth 100000 in
theorem kc_U_look : Cond.code y_U_look b_U_look 2 (some .int) ∈ lwG := lwG_r (List.mem_of_getElem? (i := 322) rfl) rfl
set_option maxRecDepth 100000 in
theorem kl_L_9 : Cond.methodLink R_L 9 y_L_cell ∈ lwG := lwG_r (List.mem_of_getElem? (i := 323) rfl) rfl
set_option maxRecDepth 100000 in
theorem ks_L_cell : Cond.static y_L_cell ∈ lwG := lwG_r (List.mem_of_getElem? (i := 324) rfl) rfl
set_option maxRecDepth 100000 in
theorem kc_L_cell : Cond.code y_L_cell b_L_cell 2 (some .int) ∈ lwG := lwG_r (List.mem_of_getElem? (i := 325) rfl) rfl
set_option maxRecDepth 100000 in
theorem kk_L_18 : Cond.classLink R_L 18 R_M ∈ lwG := lwG_r (List.mem_of_getElem? (i := 326) rfl) rfl
set_option maxRecDepth 100000 in
theorem kt_M : Cond.instantiable R_M 27 ∈ lwG := lwG_r (List.mem_of_getElem? (i := 327) rfl) rfl
set_option maxRecDepth 100000 in
theorem kl_L_20 : Cond.methodLink R_L 20 y_M_init ∈ lwG := lwG_r (List.mem_of_getElem? (i := 328) rfl) rfl
set_option maxRecDepth 100000 in
theorem ki_M_init : Cond.instanceMethod y_M_init ∈ lwG := lwG_r (List.mem_of_getElem? (i := 329) rfl) rfl
set_option maxRecDepth 100000 in
theorem kc_M_init : Cond.code y_M_init b_M_init 3 none ∈ lwG := lwG_r (List.mem_of_getElem? (i := 330) rfl) rfl
set_option maxRecDepth 100000 in
theorem kl_M_1 : Cond.methodLink R_M 1 objectInit ∈ lwG := lwG_r (List.mem_of_getElem? (i := 331) rfl) rfl
set_option maxRecDepth 100000 in
theorem kf_M_57 : Cond.fieldLink R_M 57 "UnitLogModel" "segments" "I" ∈ lwG := lwG_r (List.mem_of_getElem? (i := 332) rfl) rfl
set_option maxRecDepth 100000 in
theorem kf_M_7 : Cond.fieldLink R_M 7 "UnitLogModel" "state" "[I" ∈ lwG := lwG_r (List.mem_of_getElem? (i := 333) rfl) rfl
set_option maxRecDepth 100000 in
theorem kf_M_13 : Cond.fieldLink R_M 13 "UnitLogModel" "filled" "[I" ∈ lwG := lwG_r (List.mem_of_getElem? (i := 334) rfl) rfl
set_option maxRecDepth 100000 in
theorem kf_M_16 : Cond.fieldLink R_M 16 "UnitLogModel" "saved" "[I" ∈ lwG := lwG_r (List.mem_of_getElem? (i := 335) rfl) rfl
set_option maxRecDepth 100000 in
theorem kf_M_83 : Cond.fieldLink R_M 83 "UnitLogModel" "open" "I" ∈ lwG := lwG_r (List.mem_of_getElem? (i := 336) rfl) rfl
set_option maxRecDepth 100000 in
theorem kf_M_19 : Cond.fieldLink R_M 19 "UnitLogModel" "count" "[I" ∈ lwG := lwG_r (List.mem_of_getElem? (i := 337) rfl) rfl
set_option maxRecDepth 100000 in
theorem kf_M_22 : Cond.fieldLink R_M 22 "UnitLogModel" "block" "[I" ∈ lwG := lwG_r (List.mem_of_getElem? (i := 338) rfl) rfl
set_option maxRecDepth 100000 in
theorem kf_M_25 : Cond.fieldLink R_M 25 "UnitLogModel" "store" "[Z" ∈ lwG := lwG_r (List.mem_of_getElem? (i := 339) rfl) rfl
set_option maxRecDepth 100000 in
theorem kf_M_29 : Cond.fieldLink R_M 29 "UnitLogModel" "unit" "[I" ∈ lwG := lwG_r (List.mem_of_getElem? (i := 340) rfl) rfl
set_option maxRecDepth 100000 in
theorem kf_M_32 : Cond.fieldLink R_M 32 "UnitLogModel" "size" "[I" ∈ lwG := lwG_r (List.mem_of_getElem? (i := 341) rfl) rfl
set_option maxRecDepth 100000 in
theorem kf_M_35 : Cond.fieldLink R_M 35 "UnitLogModel" "serial" "[I" ∈ lwG := lwG_r (List.mem_of_getElem? (i := 342) rfl) rfl
set_option maxRecDepth 100000 in
theorem kf_M_38 : Cond.fieldLink R_M 38 "UnitLogModel" "high" "[J" ∈ lwG := lwG_r (List.mem_of_getElem? (i := 343) rfl) rfl
set_option maxRecDepth 100000 in
theorem kf_M_42 : Cond.fieldLink R_M 42 "UnitLogModel" "low" "[J" ∈ lwG := lwG_r (List.mem_of_getElem? (i := 344) rfl) rfl
set_option maxRecDepth 100000 in
theorem kf_M_45 : Cond.fieldLink R_M 45 "UnitLogModel" "at" "[I" ∈ lwG := lwG_r (List.mem_of_getElem? (i := 345) rfl) rfl
set_option maxRecDepth 100000 in
theorem kf_M_97 : Cond.fieldLink R_M 97 "UnitLogModel" "last" "I" ∈ lwG := lwG_r (List.mem_of_getElem? (i := 346) rfl) rfl
set_option maxRecDepth 100000 in
theorem kf_M_48 : Cond.fieldLink R_M 48 "UnitLogModel" "keptAt" "[I" ∈ lwG := lwG_r (List.mem_of_getElem? (i := 347) rfl) rfl
set_option maxRecDepth 100000 in
theorem kf_M_100 : Cond.fieldLink R_M 100 "UnitLogModel" "keptLast" "I" ∈ lwG := lwG_r (List.mem_of_getElem? (i := 348) rfl) rfl
set_option maxRecDepth 100000 in
theorem kf_M_103 : Cond.fieldLink R_M 103 "UnitLogModel" "keptOpen" "I" ∈ lwG := lwG_r (List.mem_of_getElem? (i := 349) rfl) rfl
set_option maxRecDepth 100000 in
theorem kf_M_106 : Cond.fieldLink R_M 106 "UnitLogModel" "keptFill" "I" ∈ lwG := lwG_r (List.mem_of_getElem? (i := 350) rfl) rfl
set_option maxRecDepth 100000 in
theorem kf_M_94 : Cond.fieldLink R_M 94 "UnitLogModel" "number" "I" ∈ lwG := lwG_r (List.mem_of_getElem? (i := 351) rfl) rfl
set_option maxRecDepth 100000 in
theorem kf_M_77 : Cond.fieldLink R_M 77 "UnitLogModel" "down" "Z" ∈ lwG := lwG_r (List.mem_of_getElem? (i := 352) rfl) rfl
set_option maxRecDepth 100000 in
theorem kf_M_70 : Cond.fieldLink R_M 70 "UnitLogModel" "armed" "Z" ∈ lwG := lwG_r (List.mem_of_getElem? (i := 353) rfl) rfl
set_option maxRecDepth 100000 in
theorem kf_M_74 : Cond.fieldLink R_M 74 "UnitLogModel" "left" "I" ∈ lwG := lwG_r (List.mem_of_getElem? (i := 354) rfl) rfl
set_option maxRecDepth 100000 in
theorem kf_M_80 : Cond.fieldLink R_M 80 "UnitLogModel" "written" "I" ∈ lwG := lwG_r (List.mem_of_getElem? (i := 355) rfl) rfl
set_option maxRecDepth 100000 in
theorem kf_M_51 : Cond.fieldLink R_M 51 "UnitLogModel" "bytes" "[I" ∈ lwG := lwG_r (List.mem_of_getElem? (i := 356) rfl) rfl
set_option maxRecDepth 100000 in
theorem kf_M_54 : Cond.fieldLink R_M 54 "UnitLogModel" "form" "[I" ∈ lwG := lwG_r (List.mem_of_getElem? (i := 357) rfl) rfl
set_option maxRecDepth 100000 in
theorem kf_M_67 : Cond.fieldLink R_M 67 "UnitLogModel" "formSize" "I" ∈ lwG := lwG_r (List.mem_of_getElem? (i := 358) rfl) rfl
set_option maxRecDepth 100000 in
theorem kl_L_27 : Cond.methodLink R_L 27 y_M_write ∈ lwG := lwG_r (List.mem_of_getElem? (i := 414) rfl) rfl
set_option maxRecDepth 100000 in
theorem ki_M_write : Cond.instanceMethod y_M_write ∈ lwG := lwG_r (List.mem_of_getElem? (i := 415) rfl) rfl
set_option maxRecDepth 100000 in
theorem ke_M_write : Cond.selects R_M y_M_write y_M_write ∈ lwG := lwG_r (List.mem_of_getElem? (i := 416) rfl) rfl
set_option maxRecDepth 100000 in
theorem kc_M_write : Cond.code y_M_write b_M_write 7 (some .int) ∈ lwG := lwG_r (List.mem_of_getElem? (i := 417) rfl) rfl
set_option maxRecDepth 100000 in
theorem kl_M_115 : Cond.methodLink R_M 115 y_M_isBlock ∈ lwG := lwG_r (List.mem_of_getElem? (i := 418) rfl) rfl
set_option maxRecDepth 100000 in
theorem ks_M_isBlock : Cond.static y_M_isBlock ∈ lwG := lwG_r (List.mem_of_getElem? (i := 419) rfl) rfl
set_option maxRecDepth 100000 in
theorem kc_M_isBlock : Cond.code y_M_isBlock b_M_isBlock 1 (some .boolean) ∈ lwG := lwG_r (List.mem_of_getElem? (i := 420) rfl) rfl
set_option maxRecDepth 100000 in
theorem kl_M_119 : Cond.methodLink R_M 119 y_M_pack ∈ lwG := lwG_r (List.mem_of_getElem? (i := 421) rfl) rfl
set_option maxRecDepth 100000 in
theorem ki_M_pack : Cond.instanceMethod y_M_pack ∈ lwG := lwG_r (List.mem_of_getElem? (i := 423) rfl) rfl
set_option maxRecDepth 100000 in
theorem kc_M_pack : Cond.code y_M_pack b_M_pack 12 none ∈ lwG := lwG_r (List.mem_of_getElem? (i := 424) rfl) rfl
set_option maxRecDepth 100000 in
theorem kj_M_61 : Cond.constantLong R_M 61 (255 : Int64) ∈ lwG := lwG_r (List.mem_of_getElem? (i := 425) rfl) rfl
set_option maxRecDepth 100000 in
theorem kl_M_63 : Cond.methodLink R_M 63 y_M_alike ∈ lwG := lwG_r (List.mem_of_getElem? (i := 426) rfl) rfl
set_option maxRecDepth 100000 in
theorem ki_M_alike : Cond.instanceMethod y_M_alike ∈ lwG := lwG_r (List.mem_of_getElem? (i := 428) rfl) rfl
set_option maxRecDepth 100000 in
theorem kc_M_alike : Cond.code y_M_alike b_M_alike 4 (some .int) ∈ lwG := lwG_r (List.mem_of_getElem? (i := 429) rfl) rfl
set_option maxRecDepth 100000 in
theorem kl_M_123 : Cond.methodLink R_M 123 y_M_noRoom ∈ lwG := lwG_r (List.mem_of_getElem? (i := 430) rfl) rfl
set_option maxRecDepth 100000 in
theorem ki_M_noRoom : Cond.instanceMethod y_M_noRoom ∈ lwG := lwG_r (List.mem_of_getElem? (i := 432) rfl) rfl
set_option maxRecDepth 100000 in
theorem kc_M_noRoom : Cond.code y_M_noRoom b_M_noRoom 2 (some .boolean) ∈ lwG := lwG_r (List.mem_of_getElem? (i := 433) rfl) rfl
set_option maxRecDepth 100000 in
theorem kl_M_112 : Cond.methodLink R_M 112 y_M_free ∈ lwG := lwG_r (List.mem_of_getElem? (i := 434) rfl) rfl
set_option maxRecDepth 100000 in
theorem ki_M_free : Cond.instanceMethod y_M_free ∈ lwG := lwG_r (List.mem_of_getElem? (i := 436) rfl) rfl
set_option maxRecDepth 100000 in
theorem kc_M_free : Cond.code y_M_free b_M_free 3 (some .int) ∈ lwG := lwG_r (List.mem_of_getElem? (i := 437) rfl) rfl
set_option maxRecDepth 100000 in
theorem kl_M_126 : Cond.methodLink R_M 126 y_M_append ∈ lwG := lwG_r (List.mem_of_getElem? (i := 438) rfl) rfl
set_option maxRecDepth 100000 in
theorem ki_M_append : Cond.instanceMethod y_M_append ∈ lwG := lwG_r (List.mem_of_getElem? (i := 440) rfl) rfl
set_option maxRecDepth 100000 in
theorem kc_M_append : Cond.code y_M_append b_M_append 9 (some .boolean) ∈ lwG := lwG_r (List.mem_of_getElem? (i := 441) rfl) rfl
set_option maxRecDepth 100000 in
theorem kl_M_90 : Cond.methodLink R_M 90 y_M_save ∈ lwG := lwG_r (List.mem_of_getElem? (i := 442) rfl) rfl
set_option maxRecDepth 100000 in
theorem ki_M_save : Cond.instanceMethod y_M_save ∈ lwG := lwG_r (List.mem_of_getElem? (i := 444) rfl) rfl
set_option maxRecDepth 100000 in
theorem kc_M_save : Cond.code y_M_save b_M_save 2 (some .int) ∈ lwG := lwG_r (List.mem_of_getElem? (i := 445) rfl) rfl
set_option maxRecDepth 100000 in
theorem kl_M_86 : Cond.methodLink R_M 86 y_M_writeUnit ∈ lwG := lwG_r (List.mem_of_getElem? (i := 446) rfl) rfl
set_option maxRecDepth 100000 in
theorem ki_M_writeUnit : Cond.instanceMethod y_M_writeUnit ∈ lwG := lwG_r (List.mem_of_getElem? (i := 448) rfl) rfl
set_option maxRecDepth 100000 in
theorem kc_M_writeUnit : Cond.code y_M_writeUnit b_M_writeUnit 1 (some .boolean) ∈ lwG := lwG_r (List.mem_of_getElem? (i := 449) rfl) rfl
set_option maxRecDepth 100000 in
theorem kl_M_109 : Cond.methodLink R_M 109 y_M_lowestFree ∈ lwG := lwG_r (List.mem_of_getElem? (i := 450) rfl) rfl
set_option maxRecDepth 100000 in
theorem ki_M_lowestFree : Cond.instanceMethod y_M_lowestFree ∈ lwG := lwG_r (List.mem_of_getElem? (i := 452) rfl) rfl
set_option maxRecDepth 100000 in
theorem kc_M_lowestFree : Cond.code y_M_lowestFree b_M_lowestFree 2 (some .int) ∈ lwG := lwG_r (List.mem_of_getElem? (i := 453) rfl) rfl
set_option maxRecDepth 100000 in
theorem kl_L_32 : Cond.methodLink R_L 32 y_M_trim ∈ lwG := lwG_r (List.mem_of_getElem? (i := 454) rfl) rfl
set_option maxRecDepth 100000 in
theorem ki_M_trim : Cond.instanceMethod y_M_trim ∈ lwG := lwG_r (List.mem_of_getElem? (i := 455) rfl) rfl
set_option maxRecDepth 100000 in
theorem ke_M_trim : Cond.selects R_M y_M_trim y_M_trim ∈ lwG := lwG_r (List.mem_of_getElem? (i := 456) rfl) rfl
set_option maxRecDepth 100000 in
theorem kc_M_trim : Cond.code y_M_trim b_M_trim 2 (some .int) ∈ lwG := lwG_r (List.mem_of_getElem? (i := 457) rfl) rfl
set_option maxRecDepth 100000 in
theorem kl_L_37 : Cond.methodLink R_L 37 y_M_read ∈ lwG := lwG_r (List.mem_of_getElem? (i := 458) rfl) rfl
set_option maxRecDepth 100000 in
theorem ki_M_read : Cond.instanceMethod y_M_read ∈ lwG := lwG_r (List.mem_of_getElem? (i := 459) rfl) rfl
set_option maxRecDepth 100000 in
theorem ke_M_read : Cond.selects R_M y_M_read y_M_read ∈ lwG := lwG_r (List.mem_of_getElem? (i := 460) rfl) rfl
set_option maxRecDepth 100000 in
theorem kc_M_read : Cond.code y_M_read b_M_read 4 (some .long) ∈ lwG := lwG_r (List.mem_of_getElem? (i := 461) rfl) rfl
set_option maxRecDepth 100000 in
theorem kl_L_42 : Cond.methodLink R_L 42 y_M_packed ∈ lwG := lwG_r (List.mem_of_getElem? (i := 462) rfl) rfl
set_option maxRecDepth 100000 in
theorem ki_M_packed : Cond.instanceMethod y_M_packed ∈ lwG := lwG_r (List.mem_of_getElem? (i := 463) rfl) rfl
set_option maxRecDepth 100000 in
theorem ke_M_packed : Cond.selects R_M y_M_packed y_M_packed ∈ lwG := lwG_r (List.mem_of_getElem? (i := 464) rfl) rfl
set_option maxRecDepth 100000 in
theorem kc_M_packed : Cond.code y_M_packed b_M_packed 4 (some .int) ∈ lwG := lwG_r (List.mem_of_getElem? (i := 465) rfl) rfl
set_option maxRecDepth 100000 in
theorem kl_M_130 : Cond.methodLink R_M 130 y_M_refusal ∈ lwG := lwG_r (List.mem_of_getElem? (i := 466) rfl) rfl
set_option maxRecDepth 100000 in
theorem ki_M_refusal : Cond.instanceMethod y_M_refusal ∈ lwG := lwG_r (List.mem_of_getElem? (i := 468) rfl) rfl
set_option maxRecDepth 100000 in
theorem kc_M_refusal : Cond.code y_M_refusal b_M_refusal 2 (some .int) ∈ lwG := lwG_r (List.mem_of_getElem? (i := 469) rfl) rfl
set_option maxRecDepth 100000 in
theorem kl_L_46 : Cond.methodLink R_L 46 y_M_place ∈ lwG := lwG_r (List.mem_of_getElem? (i := 470) rfl) rfl
set_option maxRecDepth 100000 in
theorem ki_M_place : Cond.instanceMethod y_M_place ∈ lwG := lwG_r (List.mem_of_getElem? (i := 471) rfl) rfl
set_option maxRecDepth 100000 in
theorem ke_M_place : Cond.selects R_M y_M_place y_M_place ∈ lwG := lwG_r (List.mem_of_getElem? (i := 472) rfl) rfl
set_option maxRecDepth 100000 in
theorem kc_M_place : Cond.code y_M_place b_M_place 3 (some .int) ∈ lwG := lwG_r (List.mem_of_getElem? (i := 473) rfl) rfl
set_option maxRecDepth 100000 in
theorem kl_L_51 : Cond.methodLink R_L 51 y_M_flush ∈ lwG := lwG_r (List.mem_of_getElem? (i := 474) rfl) rfl
set_option maxRecDepth 100000 in
theorem ki_M_flush : Cond.instanceMethod y_M_flush ∈ lwG := lwG_r (List.mem_of_getElem? (i := 475) rfl) rfl
set_option maxRecDepth 100000 in
theorem ke_M_flush : Cond.selects R_M y_M_flush y_M_flush ∈ lwG := lwG_r (List.mem_of_getElem? (i := 476) rfl) rfl
set_option maxRecDepth 100000 in
theorem kc_M_flush : Cond.code y_M_flush b_M_flush 1 (some .int) ∈ lwG := lwG_r (List.mem_of_getElem? (i := 477) rfl) rfl
set_option maxRecDepth 100000 in
theorem kl_L_55 : Cond.methodLink R_L 55 y_M_checkpoint ∈ lwG := lwG_r (List.mem_of_getElem? (i := 478) rfl) rfl
set_option maxRecDepth 100000 in
theorem ki_M_checkpoint : Cond.instanceMethod y_M_checkpoint ∈ lwG := lwG_r (List.mem_of_getElem? (i := 479) rfl) rfl
set_option maxRecDepth 100000 in
theorem ke_M_checkpoint : Cond.selects R_M y_M_checkpoint y_M_checkpoint ∈ lwG := lwG_r (List.mem_of_getElem? (i := 480) rfl) rfl
set_option maxRecDepth 100000 in
theorem kc_M_checkpoint : Cond.code y_M_checkpoint b_M_checkpoint 1 (some .int) ∈ lwG := lwG_r (List.mem_of_getElem? (i := 481) rfl) rfl
set_option maxRecDepth 100000 in
theorem kl_M_134 : Cond.methodLink R_M 134 y_M_check ∈ lwG := lwG_r (List.mem_of_getElem? (i := 482) rfl) rfl
set_option maxRecDepth 100000 in
theorem ki_M_check : Cond.instanceMethod y_M_check ∈ lwG := lwG_r (List.mem_of_getElem? (i := 484) rfl) rfl
set_option maxRecDepth 100000 in
theorem kc_M_check : Cond.code y_M_check b_M_check 2 (some .boolean) ∈ lwG := lwG_r (List.mem_of_getElem? (i := 485) rfl) rfl
set_option maxRecDepth 100000 in
theorem kl_L_59 : Cond.methodLink R_L 59 y_M_clean ∈ lwG := lwG_r (List.mem_of_getElem? (i := 486) rfl) rfl
set_option maxRecDepth 100000 in
theorem ki_M_clean : Cond.instanceMethod y_M_clean ∈ lwG := lwG_r (List.mem_of_getElem? (i := 487) rfl) rfl
set_option maxRecDepth 100000 in
theorem ke_M_clean : Cond.selects R_M y_M_clean y_M_clean ∈ lwG := lwG_r (List.mem_of_getElem? (i := 488) rfl) rfl
set_option maxRecDepth 100000 in
theorem kc_M_clean : Cond.code y_M_clean b_M_clean 4 (some .int) ∈ lwG := lwG_r (List.mem_of_getElem? (i := 489) rfl) rfl
set_option maxRecDepth 100000 in
theorem kl_M_143 : Cond.methodLink R_M 143 y_M_victim ∈ lwG := lwG_r (List.mem_of_getElem? (i := 490) rfl) rfl
set_option maxRecDepth 100000 in
theorem ki_M_victim : Cond.instanceMethod y_M_victim ∈ lwG := lwG_r (List.mem_of_getElem? (i := 492) rfl) rfl
set_option maxRecDepth 100000 in
theorem kc_M_victim : Cond.code y_M_victim b_M_victim 3 (some .int) ∈ lwG := lwG_r (List.mem_of_getElem? (i := 493) rfl) rfl
set_option maxRecDepth 100000 in
theorem kl_M_137 : Cond.methodLink R_M 137 y_M_liveUnits ∈ lwG := lwG_r (List.mem_of_getElem? (i := 494) rfl) rfl
set_option maxRecDepth 100000 in
theorem ki_M_liveUnits : Cond.instanceMethod y_M_liveUnits ∈ lwG := lwG_r (List.mem_of_getElem? (i := 496) rfl) rfl
set_option maxRecDepth 100000 in
theorem kc_M_liveUnits : Cond.code y_M_liveUnits b_M_liveUnits 4 (some .int) ∈ lwG := lwG_r (List.mem_of_getElem? (i := 497) rfl) rfl
set_option maxRecDepth 100000 in
theorem kl_M_146 : Cond.methodLink R_M 146 y_M_fits ∈ lwG := lwG_r (List.mem_of_getElem? (i := 498) rfl) rfl
set_option maxRecDepth 100000 in
theorem ki_M_fits : Cond.instanceMethod y_M_fits ∈ lwG := lwG_r (List.mem_of_getElem? (i := 500) rfl) rfl
set_option maxRecDepth 100000 in
theorem kc_M_fits : Cond.code y_M_fits b_M_fits 5 (some .boolean) ∈ lwG := lwG_r (List.mem_of_getElem? (i := 501) rfl) rfl
set_option maxRecDepth 100000 in
theorem kl_M_140 : Cond.methodLink R_M 140 y_M_isLatest ∈ lwG := lwG_r (List.mem_of_getElem? (i := 502) rfl) rfl
set_option maxRecDepth 100000 in
theorem ki_M_isLatest : Cond.instanceMethod y_M_isLatest ∈ lwG := lwG_r (List.mem_of_getElem? (i := 504) rfl) rfl
set_option maxRecDepth 100000 in
theorem kc_M_isLatest : Cond.code y_M_isLatest b_M_isLatest 2 (some .boolean) ∈ lwG := lwG_r (List.mem_of_getElem? (i := 505) rfl) rfl
set_option maxRecDepth 100000 in
theorem kl_L_64 : Cond.methodLink R_L 64 y_M_arm ∈ lwG := lwG_r (List.mem_of_getElem? (i := 506) rfl) rfl
set_option maxRecDepth 100000 in
theorem ki_M_arm : Cond.instanceMethod y_M_arm ∈ lwG := lwG_r (List.mem_of_getElem? (i := 507) rfl) rfl
set_option maxRecDepth 100000 in
theorem ke_M_arm : Cond.selects R_M y_M_arm y_M_arm ∈ lwG := lwG_r (List.mem_of_getElem? (i := 508) rfl) rfl
set_option maxRecDepth 100000 in
theorem kc_M_arm : Cond.code y_M_arm b_M_arm 2 (some .boolean) ∈ lwG := lwG_r (List.mem_of_getElem? (i := 509) rfl) rfl
set_option maxRecDepth 100000 in
theorem kl_L_69 : Cond.methodLink R_L 69 y_M_disarm ∈ lwG := lwG_r (List.mem_of_getElem? (i := 510) rfl) rfl
set_option maxRecDepth 100000 in
theorem ki_M_disarm : Cond.instanceMethod y_M_disarm ∈ lwG := lwG_r (List.mem_of_getElem? (i := 511) rfl) rfl
set_option maxRecDepth 100000 in
theorem ke_M_disarm : Cond.selects R_M y_M_disarm y_M_disarm ∈ lwG := lwG_r (List.mem_of_getElem? (i := 512) rfl) rfl
set_option maxRecDepth 100000 in
theorem kc_M_disarm : Cond.code y_M_disarm b_M_disarm 1 (some .boolean) ∈ lwG := lwG_r (List.mem_of_getElem? (i := 513) rfl) rfl
set_option maxRecDepth 100000 in
theorem kl_L_73 : Cond.methodLink R_L 73 y_M_crash ∈ lwG := lwG_r (List.mem_of_getElem? (i := 514) rfl) rfl
set_option maxRecDepth 100000 in
theorem ki_M_crash : Cond.instanceMethod y_M_crash ∈ lwG := lwG_r (List.mem_of_getElem? (i := 515) rfl) rfl
set_option maxRecDepth 100000 in
theorem ke_M_crash : Cond.selects R_M y_M_crash y_M_crash ∈ lwG := lwG_r (List.mem_of_getElem? (i := 516) rfl) rfl
set_option maxRecDepth 100000 in
theorem kc_M_crash : Cond.code y_M_crash b_M_crash 1 (some .boolean) ∈ lwG := lwG_r (List.mem_of_getElem? (i := 517) rfl) rfl
set_option maxRecDepth 100000 in
theorem kl_L_77 : Cond.methodLink R_L 77 y_M_recover ∈ lwG := lwG_r (List.mem_of_getElem? (i := 518) rfl) rfl
set_option maxRecDepth 100000 in
theorem ki_M_recover : Cond.instanceMethod y_M_recover ∈ lwG := lwG_r (List.mem_of_getElem? (i := 519) rfl) rfl
set_option maxRecDepth 100000 in
theorem ke_M_recover : Cond.selects R_M y_M_recover y_M_recover ∈ lwG := lwG_r (List.mem_of_getElem? (i := 520) rfl) rfl
set_option maxRecDepth 100000 in
theorem kc_M_recover : Cond.code y_M_recover b_M_recover 5 (some .int) ∈ lwG := lwG_r (List.mem_of_getElem? (i := 521) rfl) rfl
set_option maxRecDepth 100000 in
theorem kl_M_149 : Cond.methodLink R_M 149 y_M_find ∈ lwG := lwG_r (List.mem_of_getElem? (i := 522) rfl) rfl
set_option maxRecDepth 100000 in
theorem ki_M_find : Cond.instanceMethod y_M_find ∈ lwG := lwG_r (List.mem_of_getElem? (i := 524) rfl) rfl
set_option maxRecDepth 100000 in
theorem kc_M_find : Cond.code y_M_find b_M_find 4 (some .int) ∈ lwG := lwG_r (List.mem_of_getElem? (i := 525) rfl) rfl
set_option maxRecDepth 100000 in
theorem kl_L_81 : Cond.methodLink R_L 81 y_M_live ∈ lwG := lwG_r (List.mem_of_getElem? (i := 526) rfl) rfl
set_option maxRecDepth 100000 in
theorem ki_M_live : Cond.instanceMethod y_M_live ∈ lwG := lwG_r (List.mem_of_getElem? (i := 527) rfl) rfl
set_option maxRecDepth 100000 in
theorem ke_M_live : Cond.selects R_M y_M_live y_M_live ∈ lwG := lwG_r (List.mem_of_getElem? (i := 528) rfl) rfl
set_option maxRecDepth 100000 in
theorem kc_M_live : Cond.code y_M_live b_M_live 2 (some .int) ∈ lwG := lwG_r (List.mem_of_getElem? (i := 529) rfl) rfl
set_option maxRecDepth 100000 in
theorem kl_L_85 : Cond.methodLink R_L 85 y_M_segment ∈ lwG := lwG_r (List.mem_of_getElem? (i := 530) rfl) rfl
set_option maxRecDepth 100000 in
theorem ki_M_segment : Cond.instanceMethod y_M_segment ∈ lwG := lwG_r (List.mem_of_getElem? (i := 531) rfl) rfl
set_option maxRecDepth 100000 in
theorem ke_M_segment : Cond.selects R_M y_M_segment y_M_segment ∈ lwG := lwG_r (List.mem_of_getElem? (i := 532) rfl) rfl
set_option maxRecDepth 100000 in
theorem kc_M_segment : Cond.code y_M_segment b_M_segment 2 (some .int) ∈ lwG := lwG_r (List.mem_of_getElem? (i := 533) rfl) rfl
set_option maxRecDepth 100000 in
theorem kl_L_89 : Cond.methodLink R_L 89 y_M_look ∈ lwG := lwG_r (List.mem_of_getElem? (i := 534) rfl) rfl
set_option maxRecDepth 100000 in
theorem ki_M_look : Cond.instanceMethod y_M_look ∈ lwG := lwG_r (List.mem_of_getElem? (i := 535) rfl) rfl
set_option maxRecDepth 100000 in
theorem ke_M_look : Cond.selects R_M y_M_look y_M_look ∈ lwG := lwG_r (List.mem_of_getElem? (i := 536) rfl) rfl
set_option maxRecDepth 100000 in
theorem kc_M_look : Cond.code y_M_look b_M_look 2 (some .int) ∈ lwG := lwG_r (List.mem_of_getElem? (i := 537) rfl) rfl
set_option maxRecDepth 100000 in
theorem kj_L_21 : Cond.constantLong R_L 21 (4294967295 : Int64) ∈ lwG := lwG_r (List.mem_of_getElem? (i := 538) rfl) rfl
set_option maxRecDepth 100000 in
theorem ke_P_makePieces : Cond.selects R_P y_P_makePieces y_P_makePieces ∈ lwG := lwG_l (List.mem_of_getElem? (i := 0) rfl) rfl
set_option maxRecDepth 100000 in
theorem ke_P_longestMatch : Cond.selects R_P y_P_longestMatch y_P_longestMatch ∈ lwG := lwG_l (List.mem_of_getElem? (i := 1) rfl) rfl
set_option maxRecDepth 100000 in
theorem ke_P_sameBytes : Cond.selects R_P y_P_sameBytes y_P_sameBytes ∈ lwG := lwG_l (List.mem_of_getElem? (i := 2) rfl) rfl
set_option maxRecDepth 100000 in
theorem ke_P_endPiece : Cond.selects R_P y_P_endPiece y_P_endPiece ∈ lwG := lwG_l (List.mem_of_getElem? (i := 3) rfl) rfl
set_option maxRecDepth 100000 in
theorem ke_U_mayAppend : Cond.selects R_U y_U_mayAppend y_U_mayAppend ∈ lwG := lwG_l (List.mem_of_getElem? (i := 4) rfl) rfl
set_option maxRecDepth 100000 in
theorem ke_U_freeSegments : Cond.selects R_U y_U_freeSegments y_U_freeSegments ∈ lwG := lwG_l (List.mem_of_getElem? (i := 5) rfl) rfl
set_option maxRecDepth 100000 in
theorem ke_U_append : Cond.selects R_U y_U_append y_U_append ∈ lwG := lwG_l (List.mem_of_getElem? (i := 6) rfl) rfl
set_option maxRecDepth 100000 in
theorem ke_U_openNext : Cond.selects R_U y_U_openNext y_U_openNext ∈ lwG := lwG_l (List.mem_of_getElem? (i := 7) rfl) rfl
set_option maxRecDepth 100000 in
theorem ke_U_lowestFree : Cond.selects R_U y_U_lowestFree y_U_lowestFree ∈ lwG := lwG_l (List.mem_of_getElem? (i := 8) rfl) rfl
set_option maxRecDepth 100000 in
theorem ke_U_saveUnits : Cond.selects R_U y_U_saveUnits y_U_saveUnits ∈ lwG := lwG_l (List.mem_of_getElem? (i := 9) rfl) rfl
set_option maxRecDepth 100000 in
theorem ke_U_goDown : Cond.selects R_U y_U_goDown y_U_goDown ∈ lwG := lwG_l (List.mem_of_getElem? (i := 10) rfl) rfl
set_option maxRecDepth 100000 in
theorem ke_U_makeCheckpoint : Cond.selects R_U y_U_makeCheckpoint y_U_makeCheckpoint ∈ lwG := lwG_l (List.mem_of_getElem? (i := 11) rfl) rfl
set_option maxRecDepth 100000 in
theorem ke_U_closedWithFewestLive : Cond.selects R_U y_U_closedWithFewestLive y_U_closedWithFewestLive ∈ lwG := lwG_l (List.mem_of_getElem? (i := 12) rfl) rfl
set_option maxRecDepth 100000 in
theorem ke_U_liveUnits : Cond.selects R_U y_U_liveUnits y_U_liveUnits ∈ lwG := lwG_l (List.mem_of_getElem? (i := 13) rfl) rfl
set_option maxRecDepth 100000 in
theorem ke_U_isLive : Cond.selects R_U y_U_isLive y_U_isLive ∈ lwG := lwG_l (List.mem_of_getElem? (i := 14) rfl) rfl
set_option maxRecDepth 100000 in
theorem ke_U_liveRecordsHaveRoom : Cond.selects R_U y_U_liveRecordsHaveRoom y_U_liveRecordsHaveRoom ∈ lwG := lwG_l (List.mem_of_getElem? (i := 15) rfl) rfl
set_option maxRecDepth 100000 in
theorem ke_U_appendLiveRecords : Cond.selects R_U y_U_appendLiveRecords y_U_appendLiveRecords ∈ lwG := lwG_l (List.mem_of_getElem? (i := 16) rfl) rfl
set_option maxRecDepth 100000 in
theorem ke_U_returnToCheckpoint : Cond.selects R_U y_U_returnToCheckpoint y_U_returnToCheckpoint ∈ lwG := lwG_l (List.mem_of_getElem? (i := 17) rfl) rfl
set_option maxRecDepth 100000 in
theorem ke_U_rollForward : Cond.selects R_U y_U_rollForward y_U_rollForward ∈ lwG := lwG_l (List.mem_of_getElem? (i := 18) rfl) rfl
set_option maxRecDepth 100000 in
theorem ke_U_sortSegments : Cond.selects R_U y_U_sortSegments y_U_sortSegments ∈ lwG := lwG_l (List.mem_of_getElem? (i := 19) rfl) rfl
set_option maxRecDepth 100000 in
theorem ke_U_isSegment : Cond.selects R_U y_U_isSegment y_U_isSegment ∈ lwG := lwG_l (List.mem_of_getElem? (i := 20) rfl) rfl
set_option maxRecDepth 100000 in
theorem ke_M_pack : Cond.selects R_M y_M_pack y_M_pack ∈ lwG := lwG_l (List.mem_of_getElem? (i := 21) rfl) rfl
set_option maxRecDepth 100000 in
theorem ke_M_alike : Cond.selects R_M y_M_alike y_M_alike ∈ lwG := lwG_l (List.mem_of_getElem? (i := 22) rfl) rfl
set_option maxRecDepth 100000 in
theorem ke_M_noRoom : Cond.selects R_M y_M_noRoom y_M_noRoom ∈ lwG := lwG_l (List.mem_of_getElem? (i := 23) rfl) rfl
set_option maxRecDepth 100000 in
theorem ke_M_free : Cond.selects R_M y_M_free y_M_free ∈ lwG := lwG_l (List.mem_of_getElem? (i := 24) rfl) rfl
set_option maxRecDepth 100000 in
theorem ke_M_append : Cond.selects R_M y_M_append y_M_append ∈ lwG := lwG_l (List.mem_of_getElem? (i := 25) rfl) rfl
set_option maxRecDepth 100000 in
theorem ke_M_save : Cond.selects R_M y_M_save y_M_save ∈ lwG := lwG_l (List.mem_of_getElem? (i := 26) rfl) rfl
set_option maxRecDepth 100000 in
theorem ke_M_writeUnit : Cond.selects R_M y_M_writeUnit y_M_writeUnit ∈ lwG := lwG_l (List.mem_of_getElem? (i := 27) rfl) rfl
set_option maxRecDepth 100000 in
theorem ke_M_lowestFree : Cond.selects R_M y_M_lowestFree y_M_lowestFree ∈ lwG := lwG_l (List.mem_of_getElem? (i := 28) rfl) rfl
set_option maxRecDepth 100000 in
theorem ke_M_refusal : Cond.selects R_M y_M_refusal y_M_refusal ∈ lwG := lwG_l (List.mem_of_getElem? (i := 29) rfl) rfl
set_option maxRecDepth 100000 in
theorem ke_M_check : Cond.selects R_M y_M_check y_M_check ∈ lwG := lwG_l (List.mem_of_getElem? (i := 30) rfl) rfl
set_option maxRecDepth 100000 in
theorem ke_M_victim : Cond.selects R_M y_M_victim y_M_victim ∈ lwG := lwG_l (List.mem_of_getElem? (i := 31) rfl) rfl
set_option maxRecDepth 100000 in
theorem ke_M_liveUnits : Cond.selects R_M y_M_liveUnits y_M_liveUnits ∈ lwG := lwG_l (List.mem_of_getElem? (i := 32) rfl) rfl
set_option maxRecDepth 100000 in
theorem ke_M_fits : Cond.selects R_M y_M_fits y_M_fits ∈ lwG := lwG_l (List.mem_of_getElem? (i := 33) rfl) rfl
set_option maxRecDepth 100000 in
theorem ke_M_isLatest : Cond.selects R_M y_M_isLatest y_M_isLatest ∈ lwG := lwG_l (List.mem_of_getElem? (i := 34) rfl) rfl
set_option maxRecDepth 100000 in
theorem ke_M_find : Cond.selects R_M y_M_find y_M_find ∈ lwG := lwG_l (List.mem_of_getElem? (i := 35) rfl) rfl
set_option maxRecDepth 100000 in
theorem i_U : ∀ w ∈ u_ws R_U F_U 11, w ∈ lwG := by decide +kernel
set_option maxRecDepth 100000 in
theorem i_D : ∀ w ∈ u_ws R_D F_D 2, w ∈ lwG := by decide +kernel
set_option maxRecDepth 100000 in
theorem i_P : ∀ w ∈ u_ws R_P F_P 3, w ∈ lwG := by decide +kernel
set_option maxRecDepth 100000 in
theorem i_R : ∀ w ∈ u_ws R_R F_R 6, w ∈ lwG := by decide +kernel
set_option maxRecDepth 100000 in
theorem i_C : ∀ w ∈ u_ws R_C F_C 5, w ∈ lwG := by decide +kernel
set_option maxRecDepth 100000 in
theorem i_M : ∀ w ∈ u_ws R_M F_M 27, w ∈ lwG := by decide +kernel
set_option maxRecDepth 100000 in
theorem goodT : ∀ w ∈ lwG, (w.onTables && w.keeps) = true ∨ ∃ ty, w = .arrayClass ty := fun w h => good_of_word (List.mem_filter.mp h).2
theorem gV {own C : String} {idx L : Nat} {y : MethodName} {b : ByteArray} {r : Option FieldType} (h1 : Cond.methodLink own idx y ∈ lwG) (h2 : Cond.instanceMethod y ∈ lwG) (h3 : Cond.selects C y y ∈ lwG) (h4 : Cond.initialized C ∈ lwG) (h5 : Cond.code y b L r ∈ lwG) : GoodIn lwG (wsV own idx C y (Cond.code y b L r :: lwG)) := by
  intro w hw
  have hm : w ∈ lwG := by
    unfold wsV at hw
    rcases List.mem_append.mp hw with h | h
    · simp only [List.mem_cons, List.not_mem_nil, or_false] at h
      rcases h with rfl | rfl | rfl | rfl <;> assumption
    · rcases List.mem_cons.mp h with rfl | h
      · exact h5
      · exact h
  exact ⟨hm, goodT w hm⟩
theorem gS {own : String} {idx L : Nat} {y : MethodName} {b : ByteArray} {r : Option FieldType} (h1 : Cond.methodLink own idx y ∈ lwG) (h2 : Cond.static y ∈ lwG) (h4 : Cond.initialized own ∈ lwG) (h5 : Cond.code y b L r ∈ lwG) : GoodIn lwG (wsS own idx y (Cond.code y b L r :: lwG)) := by
  intro w hw
  have hm : w ∈ lwG := by
    unfold wsS at hw
    rcases List.mem_append.mp hw with h | h
    · simp only [List.mem_cons, List.not_mem_nil, or_false] at h
      rcases h with rfl | rfl | rfl <;> assumption
    · rcases List.mem_cons.mp h with rfl | h
      · exact h5
      · exact h
  exact ⟨hm, goodT w hm⟩
theorem gI {L : Nat} {y : MethodName} {b : ByteArray} {r : Option FieldType} (h5 : Cond.code y b L r ∈ lwG) : GoodIn lwG (Cond.code y b L r :: lwG) := by
  intro w hw
  have hm : w ∈ lwG := by
    rcases List.mem_cons.mp hw with rfl | h
    · exact h5
    · exact h
  exact ⟨hm, goodT w hm⟩
end
section
theorem d_U_isBlock_0 : decode b_U_isBlock 0 = .ok (.iload_n 0, 1) := by decide +kernel
theorem d_U_isBlock_1 : decode b_U_isBlock 1 = .ok (.ifCond .lt 13, 3) := by decide +kernel
theorem d_U_isBlock_4 : decode b_U_isBlock 4 = .ok (.iload_n 0, 1) := by decide +kernel
theorem d_U_isBlock_5 : decode b_U_isBlock 5 = .ok (.bipush 16, 2) := by decide +kernel
theorem d_U_isBlock_7 : decode b_U_isBlock 7 = .ok (.if_icmp .ge 7, 3) := by decide +kernel
theorem d_U_isBlock_10 : decode b_U_isBlock 10 = .ok (.iconst 1, 1) := by decide +kernel
theorem d_U_isBlock_11 : decode b_U_isBlock 11 = .ok (.goto 4, 3) := by decide +kernel
theorem d_U_isBlock_14 : decode b_U_isBlock 14 = .ok (.iconst 0, 1) := by decide +kernel
theorem d_U_isBlock_15 : decode b_U_isBlock 15 = .ok (.ireturn, 1) := by decide +kernel
theorem d_U_freeSegments_0 : decode b_U_freeSegments 0 = .ok (.iconst 0, 1) := by decide +kernel
theorem d_U_freeSegments_1 : decode b_U_freeSegments 1 = .ok (.istore_n 1, 1) := by decide +kernel
theorem d_U_freeSegments_2 : decode b_U_freeSegments 2 = .ok (.iconst 0, 1) := by decide +kernel
theorem d_U_freeSegments_3 : decode b_U_freeSegments 3 = .ok (.istore_n 2, 1) := by decide +kernel
theorem d_U_freeSegments_4 : decode b_U_freeSegments 4 = .ok (.iload_n 2, 1) := by decide +kernel
theorem d_U_freeSegments_5 : decode b_U_freeSegments 5 = .ok (.aload_n 0, 1) := by decide +kernel
theorem d_U_freeSegments_6 : decode b_U_freeSegments 6 = .ok (.getfield 48, 3) := by decide +kernel
theorem d_U_freeSegments_9 : decode b_U_freeSegments 9 = .ok (.arraylength, 1) := by decide +kernel
theorem d_U_freeSegments_10 : decode b_U_freeSegments 10 = .ok (.if_icmp .ge 21, 3) := by decide +kernel
theorem d_U_freeSegments_13 : decode b_U_freeSegments 13 = .ok (.aload_n 0, 1) := by decide +kernel
theorem d_U_freeSegments_14 : decode b_U_freeSegments 14 = .ok (.getfield 48, 3) := by decide +kernel
theorem d_U_freeSegments_17 : decode b_U_freeSegments 17 = .ok (.iload_n 2, 1) := by decide +kernel
theorem d_U_freeSegments_18 : decode b_U_freeSegments 18 = .ok (.iaload, 1) := by decide +kernel
theorem d_U_freeSegments_19 : decode b_U_freeSegments 19 = .ok (.ifCond .ne 6, 3) := by decide +kernel
theorem d_U_freeSegments_22 : decode b_U_freeSegments 22 = .ok (.iinc 1 1, 3) := by decide +kernel
theorem d_U_freeSegments_25 : decode b_U_freeSegments 25 = .ok (.iinc 2 1, 3) := by decide +kernel
theorem d_U_freeSegments_28 : decode b_U_freeSegments 28 = .ok (.goto (-24), 3) := by decide +kernel
theorem d_U_freeSegments_31 : decode b_U_freeSegments 31 = .ok (.iload_n 1, 1) := by decide +kernel
theorem d_U_freeSegments_32 : decode b_U_freeSegments 32 = .ok (.ireturn, 1) := by decide +kernel
theorem d_D_writeUnit_0 : decode b_D_writeUnit 0 = .ok (.aload_n 0, 1) := by decide +kernel
theorem d_D_writeUnit_1 : decode b_D_writeUnit 1 = .ok (.getfield 9, 3) := by decide +kernel
theorem d_D_writeUnit_4 : decode b_D_writeUnit 4 = .ok (.ifCond .ne 5, 3) := by decide +kernel
theorem d_D_writeUnit_7 : decode b_D_writeUnit 7 = .ok (.iconst 0, 1) := by decide +kernel
theorem d_D_writeUnit_8 : decode b_D_writeUnit 8 = .ok (.ireturn, 1) := by decide +kernel
theorem d_D_writeUnit_9 : decode b_D_writeUnit 9 = .ok (.aload_n 0, 1) := by decide +kernel
theorem d_D_writeUnit_10 : decode b_D_writeUnit 10 = .ok (.getfield 9, 3) := by decide +kernel
theorem d_D_writeUnit_13 : decode b_D_writeUnit 13 = .ok (.ifCond .le 13, 3) := by decide +kernel
theorem d_D_writeUnit_16 : decode b_D_writeUnit 16 = .ok (.aload_n 0, 1) := by decide +kernel
theorem d_D_writeUnit_17 : decode b_D_writeUnit 17 = .ok (.dup, 1) := by decide +kernel
theorem d_D_writeUnit_18 : decode b_D_writeUnit 18 = .ok (.getfield 9, 3) := by decide +kernel
theorem d_D_writeUnit_21 : decode b_D_writeUnit 21 = .ok (.iconst 1, 1) := by decide +kernel
theorem d_D_writeUnit_22 : decode b_D_writeUnit 22 = .ok (.isub, 1) := by decide +kernel
theorem d_D_writeUnit_23 : decode b_D_writeUnit 23 = .ok (.putfield 9, 3) := by decide +kernel
theorem d_D_writeUnit_26 : decode b_D_writeUnit 26 = .ok (.aload_n 0, 1) := by decide +kernel
theorem d_D_writeUnit_27 : decode b_D_writeUnit 27 = .ok (.dup, 1) := by decide +kernel
theorem d_D_writeUnit_28 : decode b_D_writeUnit 28 = .ok (.getfield 15, 3) := by decide +kernel
theorem d_D_writeUnit_31 : decode b_D_writeUnit 31 = .ok (.iconst 1, 1) := by decide +kernel
theorem d_D_writeUnit_32 : decode b_D_writeUnit 32 = .ok (.iadd, 1) := by decide +kernel
theorem d_D_writeUnit_33 : decode b_D_writeUnit 33 = .ok (.putfield 15, 3) := by decide +kernel
theorem d_D_writeUnit_36 : decode b_D_writeUnit 36 = .ok (.iconst 1, 1) := by decide +kernel
theorem d_D_writeUnit_37 : decode b_D_writeUnit 37 = .ok (.ireturn, 1) := by decide +kernel
theorem d_U_saveUnits_0 : decode b_U_saveUnits 0 = .ok (.aload_n 0, 1) := by decide +kernel
theorem d_U_saveUnits_1 : decode b_U_saveUnits 1 = .ok (.getfield 103, 3) := by decide +kernel
theorem d_U_saveUnits_4 : decode b_U_saveUnits 4 = .ok (.istore_n 1, 1) := by decide +kernel
theorem d_U_saveUnits_5 : decode b_U_saveUnits 5 = .ok (.iload_n 1, 1) := by decide +kernel
theorem d_U_saveUnits_6 : decode b_U_saveUnits 6 = .ok (.aload_n 0, 1) := by decide +kernel
theorem d_U_saveUnits_7 : decode b_U_saveUnits 7 = .ok (.getfield 101, 3) := by decide +kernel
theorem d_U_saveUnits_10 : decode b_U_saveUnits 10 = .ok (.if_icmp .ge 28, 3) := by decide +kernel
theorem d_U_saveUnits_13 : decode b_U_saveUnits 13 = .ok (.aload_n 0, 1) := by decide +kernel
theorem d_U_saveUnits_14 : decode b_U_saveUnits 14 = .ok (.getfield 21, 3) := by decide +kernel
theorem d_U_saveUnits_17 : decode b_U_saveUnits 17 = .ok (.invokevirtual 175, 3) := by decide +kernel
theorem d_U_saveUnits_20 : decode b_U_saveUnits 20 = .ok (.ifCond .ne 5, 3) := by decide +kernel
theorem d_U_saveUnits_23 : decode b_U_saveUnits 23 = .ok (.iconst 0, 1) := by decide +kernel
theorem d_U_saveUnits_24 : decode b_U_saveUnits 24 = .ok (.ireturn, 1) := by decide +kernel
theorem d_U_saveUnits_25 : decode b_U_saveUnits 25 = .ok (.aload_n 0, 1) := by decide +kernel
theorem d_U_saveUnits_26 : decode b_U_saveUnits 26 = .ok (.iload_n 1, 1) := by decide +kernel
theorem d_U_saveUnits_27 : decode b_U_saveUnits 27 = .ok (.iconst 1, 1) := by decide +kernel
theorem d_U_saveUnits_28 : decode b_U_saveUnits 28 = .ok (.iadd, 1) := by decide +kernel
theorem d_U_saveUnits_29 : decode b_U_saveUnits 29 = .ok (.putfield 103, 3) := by decide +kernel
theorem d_U_saveUnits_32 : decode b_U_saveUnits 32 = .ok (.iinc 1 1, 3) := by decide +kernel
theorem d_U_saveUnits_35 : decode b_U_saveUnits 35 = .ok (.goto (-30), 3) := by decide +kernel
theorem d_U_saveUnits_38 : decode b_U_saveUnits 38 = .ok (.iconst 1, 1) := by decide +kernel
theorem d_U_saveUnits_39 : decode b_U_saveUnits 39 = .ok (.ireturn, 1) := by decide +kernel
end
section
/-! the words of the pure functions: a place in an array, or none -/
def ck {α : Type} (i : Int32) (n : Nat) (k : Option α) : Option α := if i < 0 ∨ n ≤ i.toNatClampNeg then none else k
theorem ck_in {α : Type} {i : Int32} {n : Nat} {k : Option α} {r : α} (h : ck i n k = some r) : vp_in i n ∧ k = some r := by
  unfold ck at h
  by_cases hc : i < 0 ∨ n ≤ i.toNatClampNeg
  · rw [if_pos hc] at h; cases h
  · rw [if_neg hc] at h; exact ⟨hc, h⟩
theorem ck_ok {α : Type} {i : Int32} {n : Nat} {k : Option α} (h : vp_in i n) : ck i n k = k := by
  unfold ck
  exact if_neg h
theorem ck_t {c : Prop} {d : Decidable c} {α : Type} {a b : Option α} {r : α} (hc : c) (h : (if c then a else b) = some r) : a = some r := by
  rw [if_pos hc] at h; exact h
theorem ck_f {c : Prop} {d : Decidable c} {α : Type} {a b : Option α} {r : α} (hc : ¬ c) (h : (if c then a else b) = some r) : b = some r := by
  rw [if_neg hc] at h; exact h
theorem ck_bind {α β : Type} {o : Option α} {f : α → Option β} {r : β} (h : o.bind f = some r) : ∃ z, o = some z ∧ f z = some r := by
  cases o with
  | none => cases h
  | some z => exact ⟨z, rfl, h⟩

def U_isBlock (x0 : Int32) : Option (Int32) := if x0 < (0 : Int32) then (some (0 : Int32)) else (if (16 : Int32) ≤ x0 then (some (0 : Int32)) else (some (1 : Int32)))
def U_isSegment (n : Nat) (x1 : Int32) : Option (Int32) := if x1 < (0 : Int32) then (some (0 : Int32)) else (if (nI n) ≤ x1 then (some (0 : Int32)) else (some (1 : Int32)))
def U_freeSegments_L4 (n : Nat) (uSts : Nat → Int32) (K : Int32 → Int32 → Option (Int32)) : Nat → Int32 → Int32 → Option (Int32)
  | 0, _, _ => none
  | fuel + 1, x1, x2 => if (nI n) ≤ x2 then (K x1 x2) else (ck x2 n (if (uSts x2.toNatClampNeg) = (0 : Int32) then (U_freeSegments_L4 n uSts K fuel (x1 + (1 : Int32)) (x2 + (1 : Int32))) else (U_freeSegments_L4 n uSts K fuel x1 (x2 + (1 : Int32)))))
def U_freeSegments (n : Nat) (uSts : Nat → Int32) : Option (Int32) := U_freeSegments_L4 n uSts (fun x1_k4 x2_k4 => some x1_k4) 300 (0 : Int32) (0 : Int32)
def U_lowestFree_L2 (n : Nat) (uSts : Nat → Int32) (K : Int32 → Option (Int32)) : Nat → Int32 → Option (Int32)
  | 0, _ => none
  | fuel + 1, x1 => if (nI n) ≤ x1 then (K x1) else (ck x1 n (if (uSts x1.toNatClampNeg) = (0 : Int32) then (some x1) else (U_lowestFree_L2 n uSts K fuel (x1 + (1 : Int32)))))
def U_lowestFree (n : Nat) (uSts : Nat → Int32) : Option (Int32) := U_lowestFree_L2 n uSts (fun x1_k2 => some (-1 : Int32)) 300 (0 : Int32)
def U_mayAppend (n : Nat) (uFill : Int32) (uSts : Nat → Int32) (x1 : Int32) : Option (Int32) := if x1 ≤ ((16 : Int32) - uFill) then (some (1 : Int32)) else ((U_freeSegments n uSts).bind (fun z1 => if z1 ≤ (1 : Int32) then (some (0 : Int32)) else (some (1 : Int32))))
def D_writeUnit (uArmed : Int32) (uWritten : Int32) : Option (Int32 × Int32 × Int32) := if uArmed = (0 : Int32) then (some ((0 : Int32), uArmed, uWritten)) else (if uArmed ≤ (0 : Int32) then (some ((1 : Int32), uArmed, (uWritten + (1 : Int32)))) else (some ((1 : Int32), (uArmed - (1 : Int32)), (uWritten + (1 : Int32)))))
def U_saveUnits_L5 (uFill : Int32) (K : Int32 → Int32 → Int32 → Int32 → Option (Int32 × Int32 × Int32 × Int32)) : Nat → Int32 → Int32 → Int32 → Int32 → Option (Int32 × Int32 × Int32 × Int32)
  | 0, _, _, _, _ => none
  | fuel + 1, uSaved, uArmed, uWritten, x1 => if uFill ≤ x1 then (K uSaved uArmed uWritten x1) else ((D_writeUnit uArmed uWritten).bind (fun z1 => if z1.1 = (0 : Int32) then (some ((0 : Int32), uSaved, z1.2.1, z1.2.2)) else (U_saveUnits_L5 uFill K fuel (x1 + (1 : Int32)) z1.2.1 z1.2.2 (x1 + (1 : Int32)))))
def U_saveUnits (uFill : Int32) (uSaved : Int32) (uArmed : Int32) (uWritten : Int32) : Option (Int32 × Int32 × Int32 × Int32) := U_saveUnits_L5 uFill (fun uSaved_k5 uArmed_k5 uWritten_k5 x1_k5 => some ((1 : Int32), uSaved_k5, uArmed_k5, uWritten_k5)) 300 uSaved uArmed uWritten uSaved
def U_makeCheckpoint_L11 (uSaved : Int32) (cNumber : Int32) (cSerial : Int32) (cOpen : Int32) (cFill : Int32) (cPlcs : Nat → Int32) (K : Int32 → Int32 → Int32 → Option (Int32 × Int32 × Int32 × Int32 × Int32 × Int32 × Int32 × Int32 × (Nat → Int32))) : Nat → Int32 → Int32 → Int32 → Option (Int32 × Int32 × Int32 × Int32 × Int32 × Int32 × Int32 × Int32 × (Nat → Int32))
  | 0, _, _, _ => none
  | fuel + 1, uArmed, uWritten, x1 => if (20 : Int32) ≤ x1 then (K uArmed uWritten x1) else ((D_writeUnit uArmed uWritten).bind (fun z2 => if z2.1 = (0 : Int32) then (some ((0 : Int32), uSaved, z2.2.1, z2.2.2, cNumber, cSerial, cOpen, cFill, cPlcs)) else (U_makeCheckpoint_L11 uSaved cNumber cSerial cOpen cFill cPlcs K fuel z2.2.1 z2.2.2 (x1 + (1 : Int32)))))
def U_makeCheckpoint (uOpen : Int32) (uFill : Int32) (uSaved : Int32) (uSerial : Int32) (uArmed : Int32) (uWritten : Int32) (cNumber : Int32) (cSerial : Int32) (cOpen : Int32) (cFill : Int32) (cPlcs : Nat → Int32) (uPlcs : Nat → Int32) : Option (Int32 × Int32 × Int32 × Int32 × Int32 × Int32 × Int32 × Int32 × (Nat → Int32)) := (U_saveUnits uFill uSaved uArmed uWritten).bind (fun z1 => if z1.1 = (0 : Int32) then (some ((0 : Int32), z1.2.1, z1.2.2.1, z1.2.2.2, cNumber, cSerial, cOpen, cFill, cPlcs)) else (U_makeCheckpoint_L11 z1.2.1 cNumber cSerial cOpen cFill cPlcs (fun uArmed_k11 uWritten_k11 x1_k11 => some ((1 : Int32), z1.2.1, uArmed_k11, uWritten_k11, (cNumber + (1 : Int32)), uSerial, uOpen, uFill, (va_cpy uPlcs cPlcs (0 : Int32).toNatClampNeg (0 : Int32).toNatClampNeg (16 : Int32).toNatClampNeg))) 300 z1.2.2.1 z1.2.2.2 (0 : Int32)))
def U_openNext (n : Nat) (uOpen : Int32) (uFill : Int32) (uSaved : Int32) (uArmed : Int32) (uWritten : Int32) (uSts : Nat → Int32) : Option (Int32 × Int32 × Int32 × Int32 × Int32 × Int32 × (Nat → Int32)) := (U_lowestFree n uSts).bind (fun z1 => if z1 = (-1 : Int32) then (some ((0 : Int32), uOpen, uFill, uSaved, uArmed, uWritten, uSts)) else ((U_saveUnits uFill uSaved uArmed uWritten).bind (fun z2 => if z2.1 = (0 : Int32) then (some ((0 : Int32), uOpen, uFill, z2.2.1, z2.2.2.1, z2.2.2.2, uSts)) else (ck uOpen n (ck z1 n (some ((1 : Int32), z1, (0 : Int32), (0 : Int32), z2.2.2.1, z2.2.2.2, (upd (upd uSts uOpen.toNatClampNeg (2 : Int32)) z1.toNatClampNeg (1 : Int32)))))))))
def U_append_J20 (N : Nat) (uOpen : Int32) (uFill : Int32) (uSaved : Int32) (uSerial : Int32) (uArmed : Int32) (uWritten : Int32) (uSers : Nat → Int32) (uBlks : Nat → Int32) (uUnts : Nat → Int32) (uStos : Nat → Int32) (uHis : Nat → Int64) (uLos : Nat → Int64) (uSts : Nat → Int32) (uPlcs : Nat → Int32) (x1 : Int32) (x2 : Int32) (x3 : Int32) (x4 : Int64) (x6 : Int64) : Option (Int32 × Int32 × Int32 × Int32 × Int32 × Int32 × Int32 × (Nat → Int32) × (Nat → Int32) × (Nat → Int32) × (Nat → Int32) × (Nat → Int64) × (Nat → Int64) × (Nat → Int32) × (Nat → Int32)) := ck ((uOpen * (16 : Int32)) + uFill) N (ck ((uOpen * (16 : Int32)) + uFill) N (ck ((uOpen * (16 : Int32)) + uFill) N (ck ((uOpen * (16 : Int32)) + uFill) N (ck ((uOpen * (16 : Int32)) + uFill) N (ck ((uOpen * (16 : Int32)) + uFill) N (if x3 = (0 : Int32) then (ck x1 16 (some ((1 : Int32), uOpen, (uFill + x2), uSaved, (uSerial + (1 : Int32)), uArmed, uWritten, (upd uSers ((uOpen * (16 : Int32)) + uFill).toNatClampNeg (uSerial + (1 : Int32))), (upd uBlks ((uOpen * (16 : Int32)) + uFill).toNatClampNeg x1), (upd uUnts ((uOpen * (16 : Int32)) + uFill).toNatClampNeg x2), (upd uStos ((uOpen * (16 : Int32)) + uFill).toNatClampNeg (vp_nar .boolean x3)), (vp_updL uHis ((uOpen * (16 : Int32)) + uFill).toNatClampNeg x4), (vp_updL uLos ((uOpen * (16 : Int32)) + uFill).toNatClampNeg x6), uSts, (upd uPlcs x1.toNatClampNeg (-1 : Int32))))) else (ck x1 16 (some ((1 : Int32), uOpen, (uFill + x2), uSaved, (uSerial + (1 : Int32)), uArmed, uWritten, (upd uSers ((uOpen * (16 : Int32)) + uFill).toNatClampNeg (uSerial + (1 : Int32))), (upd uBlks ((uOpen * (16 : Int32)) + uFill).toNatClampNeg x1), (upd uUnts ((uOpen * (16 : Int32)) + uFill).toNatClampNeg x2), (upd uStos ((uOpen * (16 : Int32)) + uFill).toNatClampNeg (vp_nar .boolean x3)), (vp_updL uHis ((uOpen * (16 : Int32)) + uFill).toNatClampNeg x4), (vp_updL uLos ((uOpen * (16 : Int32)) + uFill).toNatClampNeg x6), uSts, (upd uPlcs x1.toNatClampNeg ((uOpen * (16 : Int32)) + uFill)))))))))))
def U_append (n : Nat) (N : Nat) (uOpen : Int32) (uFill : Int32) (uSaved : Int32) (uSerial : Int32) (uArmed : Int32) (uWritten : Int32) (uSers : Nat → Int32) (uBlks : Nat → Int32) (uUnts : Nat → Int32) (uStos : Nat → Int32) (uHis : Nat → Int64) (uLos : Nat → Int64) (uSts : Nat → Int32) (uPlcs : Nat → Int32) (x1 : Int32) (x2 : Int32) (x3 : Int32) (x4 : Int64) (x6 : Int64) : Option (Int32 × Int32 × Int32 × Int32 × Int32 × Int32 × Int32 × (Nat → Int32) × (Nat → Int32) × (Nat → Int32) × (Nat → Int32) × (Nat → Int64) × (Nat → Int64) × (Nat → Int32) × (Nat → Int32)) := if x2 ≤ ((16 : Int32) - uFill) then (U_append_J20 N uOpen uFill uSaved uSerial uArmed uWritten uSers uBlks uUnts uStos uHis uLos uSts uPlcs x1 x2 x3 x4 x6) else ((U_openNext n uOpen uFill uSaved uArmed uWritten uSts).bind (fun z1 => if z1.1 = (0 : Int32) then (some ((0 : Int32), z1.2.1, z1.2.2.1, z1.2.2.2.1, uSerial, z1.2.2.2.2.1, z1.2.2.2.2.2.1, uSers, uBlks, uUnts, uStos, uHis, uLos, z1.2.2.2.2.2.2, uPlcs)) else (U_append_J20 N z1.2.1 z1.2.2.1 z1.2.2.2.1 uSerial z1.2.2.2.2.1 z1.2.2.2.2.2.1 uSers uBlks uUnts uStos uHis uLos z1.2.2.2.2.2.2 uPlcs x1 x2 x3 x4 x6)))
def R_find_L2 (N : Nat) (uSers : Nat → Int32) (x1 : Int32) (K : Int32 → Option (Int32)) : Nat → Int32 → Option (Int32)
  | 0, _ => none
  | fuel + 1, x2 => if (nI N) ≤ x2 then (K x2) else (ck x2 N (if (uSers x2.toNatClampNeg) = x1 then (some x2) else (R_find_L2 N uSers x1 K fuel (x2 + (1 : Int32)))))
def R_find (N : Nat) (uSers : Nat → Int32) (x1 : Int32) : Option (Int32) := R_find_L2 N uSers x1 (fun x2_k2 => some (-1 : Int32)) 300 (0 : Int32)
def R_forgetUnsaved_L8 (N : Nat) (uUnts : Nat → Int32) (x2 : Int32) (x3 : Int32) (K : (Nat → Int32) → Int32 → Option (Nat → Int32)) : Nat → (Nat → Int32) → Int32 → Option (Nat → Int32)
  | 0, _, _ => none
  | fuel + 1, uSers, x4 => if (16 : Int32) ≤ x4 then (K uSers x4) else (ck (x3 + x4) N (if (x4 + (uUnts (x3 + x4).toNatClampNeg)) ≤ x2 then (R_forgetUnsaved_L8 N uUnts x2 x3 K fuel uSers (x4 + (1 : Int32))) else (ck (x3 + x4) N (R_forgetUnsaved_L8 N uUnts x2 x3 K fuel (upd uSers (x3 + x4).toNatClampNeg (0 : Int32)) (x4 + (1 : Int32))))))
def R_forgetUnsaved (N : Nat) (uSers : Nat → Int32) (uUnts : Nat → Int32) (x1 : Int32) (x2 : Int32) : Option (Nat → Int32) := R_forgetUnsaved_L8 N uUnts x2 (x1 * (16 : Int32)) (fun uSers_k8 x4_k8 => some (uSers_k8)) 300 uSers (0 : Int32)
def U_goDown (N : Nat) (uOpen : Int32) (uSaved : Int32) (uDown : Int32) (uSers : Nat → Int32) (uUnts : Nat → Int32) : Option (Int32 × Int32 × (Nat → Int32)) := (R_forgetUnsaved N uSers uUnts uOpen uSaved).bind (fun z1 => some ((-4 : Int32), (1 : Int32), z1))
def U_returnToCheckpoint (uOpen : Int32) (uFill : Int32) (uSerial : Int32) (cSerial : Int32) (cOpen : Int32) (cFill : Int32) (cPlcs : Nat → Int32) (uPlcs : Nat → Int32) : Option (Int32 × Int32 × Int32 × (Nat → Int32)) := some (cOpen, cFill, cSerial, (va_cpy cPlcs uPlcs (0 : Int32).toNatClampNeg (0 : Int32).toNatClampNeg (16 : Int32).toNatClampNeg))
def U_rollForward_L4 (N : Nat) (uSers : Nat → Int32) (uBlks : Nat → Int32) (uUnts : Nat → Int32) (uStos : Nat → Int32) (K : Int32 → Int32 → Int32 → (Nat → Int32) → Int32 → Int32 → Option (Int32 × Int32 × Int32 × Int32 × (Nat → Int32))) : Nat → Int32 → Int32 → Int32 → (Nat → Int32) → Int32 → Int32 → Option (Int32 × Int32 × Int32 × Int32 × (Nat → Int32))
  | 0, _, _, _, _, _, _ => none
  | fuel + 1, uOpen, uFill, uSerial, uPlcs, x1, x2 => if (nI N) ≤ x2 then (K uOpen uFill uSerial uPlcs x1 x2) else ((R_find N uSers (uSerial + (1 : Int32))).bind (fun z1 => if z1 = (-1 : Int32) then (K uOpen uFill uSerial uPlcs x1 x2) else (ck z1 N (ck z1 N (if (uStos z1.toNatClampNeg) = (0 : Int32) then (ck (uBlks z1.toNatClampNeg) 16 (ck z1 N (U_rollForward_L4 N uSers uBlks uUnts uStos K fuel (z1 / (16 : Int32)) ((z1 - z1 / (16 : Int32) * (16 : Int32)) + (uUnts z1.toNatClampNeg)) (uSerial + (1 : Int32)) (upd uPlcs (uBlks z1.toNatClampNeg).toNatClampNeg (-1 : Int32)) (x1 + (1 : Int32)) (x2 + (1 : Int32))))) else (ck (uBlks z1.toNatClampNeg) 16 (ck z1 N (U_rollForward_L4 N uSers uBlks uUnts uStos K fuel (z1 / (16 : Int32)) ((z1 - z1 / (16 : Int32) * (16 : Int32)) + (uUnts z1.toNatClampNeg)) (uSerial + (1 : Int32)) (upd uPlcs (uBlks z1.toNatClampNeg).toNatClampNeg z1) (x1 + (1 : Int32)) (x2 + (1 : Int32))))))))))
def U_rollForward (N : Nat) (uOpen : Int32) (uFill : Int32) (uSerial : Int32) (uSers : Nat → Int32) (uBlks : Nat → Int32) (uUnts : Nat → Int32) (uStos : Nat → Int32) (uPlcs : Nat → Int32) : Option (Int32 × Int32 × Int32 × Int32 × (Nat → Int32)) := U_rollForward_L4 N uSers uBlks uUnts uStos (fun uOpen_k4 uFill_k4 uSerial_k4 uPlcs_k4 x1_k4 x2_k4 => some (x1_k4, uOpen_k4, uFill_k4, uSerial_k4, uPlcs_k4)) 300 uOpen uFill uSerial uPlcs (0 : Int32) (0 : Int32)
def U_isLive (N : Nat) (uBlks : Nat → Int32) (uPlcs : Nat → Int32) (x1 : Int32) : Option (Int32) := ck x1 N (ck (uBlks x1.toNatClampNeg) 16 (if (uPlcs (uBlks x1.toNatClampNeg).toNatClampNeg) = x1 then (some (1 : Int32)) else (some (0 : Int32))))
def U_liveUnits_L10 (N : Nat) (uBlks : Nat → Int32) (uUnts : Nat → Int32) (uPlcs : Nat → Int32) (x2 : Int32) (K : Int32 → Int32 → Option (Int32)) : Nat → Int32 → Int32 → Option (Int32)
  | 0, _, _ => none
  | fuel + 1, x3, x4 => if (x2 + (16 : Int32)) ≤ x4 then (K x3 x4) else ((U_isLive N uBlks uPlcs x4).bind (fun z1 => if z1 = (0 : Int32) then (U_liveUnits_L10 N uBlks uUnts uPlcs x2 K fuel x3 (x4 + (1 : Int32))) else (ck x4 N (U_liveUnits_L10 N uBlks uUnts uPlcs x2 K fuel (x3 + (uUnts x4.toNatClampNeg)) (x4 + (1 : Int32))))))
def U_liveUnits (N : Nat) (uBlks : Nat → Int32) (uUnts : Nat → Int32) (uPlcs : Nat → Int32) (x1 : Int32) : Option (Int32) := U_liveUnits_L10 N uBlks uUnts uPlcs (x1 * (16 : Int32)) (fun x3_k10 x4_k10 => some x3_k10) 300 (0 : Int32) (x1 * (16 : Int32))
def U_sortSegments_L2 (n : Nat) (N : Nat) (uBlks : Nat → Int32) (uUnts : Nat → Int32) (uPlcs : Nat → Int32) (K : (Nat → Int32) → Int32 → Option (Nat → Int32)) : Nat → (Nat → Int32) → Int32 → Option (Nat → Int32)
  | 0, _, _ => none
  | fuel + 1, uSts, x1 => if (nI n) ≤ x1 then (K uSts x1) else ((U_liveUnits N uBlks uUnts uPlcs x1).bind (fun z1 => if z1 ≤ (0 : Int32) then (ck x1 n (U_sortSegments_L2 n N uBlks uUnts uPlcs K fuel (upd uSts x1.toNatClampNeg (0 : Int32)) (x1 + (1 : Int32)))) else (ck x1 n (U_sortSegments_L2 n N uBlks uUnts uPlcs K fuel (upd uSts x1.toNatClampNeg (2 : Int32)) (x1 + (1 : Int32))))))
def U_sortSegments (n : Nat) (N : Nat) (uOpen : Int32) (uBlks : Nat → Int32) (uUnts : Nat → Int32) (uSts : Nat → Int32) (uPlcs : Nat → Int32) : Option (Nat → Int32) := U_sortSegments_L2 n N uBlks uUnts uPlcs (fun uSts_k2 x1_k2 => ck uOpen n (some ((upd uSts_k2 uOpen.toNatClampNeg (1 : Int32))))) 300 uSts (0 : Int32)
def U_closedWithFewestLive_L7 (n : Nat) (N : Nat) (uBlks : Nat → Int32) (uUnts : Nat → Int32) (uSts : Nat → Int32) (uPlcs : Nat → Int32) (K : Int32 → Int32 → Int32 → Option (Int32)) : Nat → Int32 → Int32 → Int32 → Option (Int32)
  | 0, _, _, _ => none
  | fuel + 1, x1, x2, x3 => if (nI n) ≤ x3 then (K x1 x2 x3) else (ck x3 n (if (uSts x3.toNatClampNeg) = (2 : Int32) then ((U_liveUnits N uBlks uUnts uPlcs x3).bind (fun z1 => if x2 ≤ z1 then (U_closedWithFewestLive_L7 n N uBlks uUnts uSts uPlcs K fuel x1 x2 (x3 + (1 : Int32))) else ((U_liveUnits N uBlks uUnts uPlcs x3).bind (fun z2 => U_closedWithFewestLive_L7 n N uBlks uUnts uSts uPlcs K fuel x3 z2 (x3 + (1 : Int32)))))) else (U_closedWithFewestLive_L7 n N uBlks uUnts uSts uPlcs K fuel x1 x2 (x3 + (1 : Int32)))))
def U_closedWithFewestLive (n : Nat) (N : Nat) (uBlks : Nat → Int32) (uUnts : Nat → Int32) (uSts : Nat → Int32) (uPlcs : Nat → Int32) : Option (Int32) := U_closedWithFewestLive_L7 n N uBlks uUnts uSts uPlcs (fun x1_k7 x2_k7 x3_k7 => some x1_k7) 300 (-1 : Int32) (17 : Int32) (0 : Int32)
def U_liveRecordsHaveRoom_L19 (N : Nat) (uBlks : Nat → Int32) (uUnts : Nat → Int32) (uPlcs : Nat → Int32) (x2 : Int32) (K : Int32 → Int32 → Int32 → Option (Int32)) : Nat → Int32 → Int32 → Int32 → Option (Int32)
  | 0, _, _, _ => none
  | fuel + 1, x3, x4, x5 => if (x2 + (16 : Int32)) ≤ x5 then (K x3 x4 x5) else ((U_isLive N uBlks uPlcs x5).bind (fun z2 => if z2 = (0 : Int32) then (U_liveRecordsHaveRoom_L19 N uBlks uUnts uPlcs x2 K fuel x3 x4 (x5 + (1 : Int32))) else (ck x5 N (if (uUnts x5.toNatClampNeg) ≤ ((16 : Int32) - x4) then (ck x5 N (U_liveRecordsHaveRoom_L19 N uBlks uUnts uPlcs x2 K fuel x3 (x4 + (uUnts x5.toNatClampNeg)) (x5 + (1 : Int32)))) else (ck x5 N (U_liveRecordsHaveRoom_L19 N uBlks uUnts uPlcs x2 K fuel (x3 + (-1 : Int32)) ((0 : Int32) + (uUnts x5.toNatClampNeg)) (x5 + (1 : Int32))))))))
def U_liveRecordsHaveRoom (n : Nat) (N : Nat) (uFill : Int32) (uBlks : Nat → Int32) (uUnts : Nat → Int32) (uSts : Nat → Int32) (uPlcs : Nat → Int32) (x1 : Int32) : Option (Int32) := (U_freeSegments n uSts).bind (fun z1 => U_liveRecordsHaveRoom_L19 N uBlks uUnts uPlcs (x1 * (16 : Int32)) (fun x3_k19 x4_k19 x5_k19 => if x3_k19 < (0 : Int32) then (some (0 : Int32)) else (some (1 : Int32))) 300 z1 uFill (x1 * (16 : Int32)))
def U_appendLiveRecords_L10 (n : Nat) (N : Nat)  (x2 : Int32) (K : Int32 → Int32 → Int32 → Int32 → Int32 → Int32 → (Nat → Int32) → (Nat → Int32) → (Nat → Int32) → (Nat → Int32) → (Nat → Int64) → (Nat → Int64) → (Nat → Int32) → (Nat → Int32) → Int32 → Int32 → Option (Int32 × Int32 × Int32 × Int32 × Int32 × Int32 × Int32 × (Nat → Int32) × (Nat → Int32) × (Nat → Int32) × (Nat → Int32) × (Nat → Int64) × (Nat → Int64) × (Nat → Int32) × (Nat → Int32))) : Nat → Int32 → Int32 → Int32 → Int32 → Int32 → Int32 → (Nat → Int32) → (Nat → Int32) → (Nat → Int32) → (Nat → Int32) → (Nat → Int64) → (Nat → Int64) → (Nat → Int32) → (Nat → Int32) → Int32 → Int32 → Option (Int32 × Int32 × Int32 × Int32 × Int32 × Int32 × Int32 × (Nat → Int32) × (Nat → Int32) × (Nat → Int32) × (Nat → Int32) × (Nat → Int64) × (Nat → Int64) × (Nat → Int32) × (Nat → Int32))
  | 0, _, _, _, _, _, _, _, _, _, _, _, _, _, _, _, _ => none
  | fuel + 1, uOpen, uFill, uSaved, uSerial, uArmed, uWritten, uSers, uBlks, uUnts, uStos, uHis, uLos, uSts, uPlcs, x3, x4 => if (x2 + (16 : Int32)) ≤ x4 then (K uOpen uFill uSaved uSerial uArmed uWritten uSers uBlks uUnts uStos uHis uLos uSts uPlcs x3 x4) else ((U_isLive N uBlks uPlcs x4).bind (fun z1 => if z1 = (0 : Int32) then (U_appendLiveRecords_L10 n N x2 K fuel uOpen uFill uSaved uSerial uArmed uWritten uSers uBlks uUnts uStos uHis uLos uSts uPlcs x3 (x4 + (1 : Int32))) else (ck x4 N (ck x4 N (ck x4 N (ck x4 N ((U_append n N uOpen uFill uSaved uSerial uArmed uWritten uSers uBlks uUnts uStos uHis uLos uSts uPlcs (uBlks x4.toNatClampNeg) (uUnts x4.toNatClampNeg) (1 : Int32) (uHis x4.toNatClampNeg) (uLos x4.toNatClampNeg)).bind (fun z2 => if z2.1 = (0 : Int32) then (some ((-4 : Int32), z2.2.1, z2.2.2.1, z2.2.2.2.1, z2.2.2.2.2.1, z2.2.2.2.2.2.1, z2.2.2.2.2.2.2.1, z2.2.2.2.2.2.2.2.1, z2.2.2.2.2.2.2.2.2.1, z2.2.2.2.2.2.2.2.2.2.1, z2.2.2.2.2.2.2.2.2.2.2.1, z2.2.2.2.2.2.2.2.2.2.2.2.1, z2.2.2.2.2.2.2.2.2.2.2.2.2.1, z2.2.2.2.2.2.2.2.2.2.2.2.2.2.1, z2.2.2.2.2.2.2.2.2.2.2.2.2.2.2)) else (U_appendLiveRecords_L10 n N x2 K fuel z2.2.1 z2.2.2.1 z2.2.2.2.1 z2.2.2.2.2.1 z2.2.2.2.2.2.1 z2.2.2.2.2.2.2.1 z2.2.2.2.2.2.2.2.1 z2.2.2.2.2.2.2.2.2.1 z2.2.2.2.2.2.2.2.2.2.1 z2.2.2.2.2.2.2.2.2.2.2.1 z2.2.2.2.2.2.2.2.2.2.2.2.1 z2.2.2.2.2.2.2.2.2.2.2.2.2.1 z2.2.2.2.2.2.2.2.2.2.2.2.2.2.1 z2.2.2.2.2.2.2.2.2.2.2.2.2.2.2 (x3 + (1 : Int32)) (x4 + (1 : Int32)))))))))))
def U_appendLiveRecords (n : Nat) (N : Nat) (uOpen : Int32) (uFill : Int32) (uSaved : Int32) (uSerial : Int32) (uArmed : Int32) (uWritten : Int32) (uSers : Nat → Int32) (uBlks : Nat → Int32) (uUnts : Nat → Int32) (uStos : Nat → Int32) (uHis : Nat → Int64) (uLos : Nat → Int64) (uSts : Nat → Int32) (uPlcs : Nat → Int32) (x1 : Int32) : Option (Int32 × Int32 × Int32 × Int32 × Int32 × Int32 × Int32 × (Nat → Int32) × (Nat → Int32) × (Nat → Int32) × (Nat → Int32) × (Nat → Int64) × (Nat → Int64) × (Nat → Int32) × (Nat → Int32)) := U_appendLiveRecords_L10 n N (x1 * (16 : Int32)) (fun uOpen_k10 uFill_k10 uSaved_k10 uSerial_k10 uArmed_k10 uWritten_k10 uSers_k10 uBlks_k10 uUnts_k10 uStos_k10 uHis_k10 uLos_k10 uSts_k10 uPlcs_k10 x3_k10 x4_k10 => some (x3_k10, uOpen_k10, uFill_k10, uSaved_k10, uSerial_k10, uArmed_k10, uWritten_k10, uSers_k10, uBlks_k10, uUnts_k10, uStos_k10, uHis_k10, uLos_k10, uSts_k10, uPlcs_k10)) 300 uOpen uFill uSaved uSerial uArmed uWritten uSers uBlks uUnts uStos uHis uLos uSts uPlcs (0 : Int32) (x1 * (16 : Int32))
def P_sameBytes_L2 (uBytes : Nat → Int32) (x1 : Int32) (x2 : Int32) (K : Int32 → Option (Int32)) : Nat → Int32 → Option (Int32)
  | 0, _ => none
  | fuel + 1, x3 => if (16 : Int32) ≤ (x2 + x3) then (K x3) else (ck (x1 + x3) 16 (ck (x2 + x3) 16 (if (uBytes (x1 + x3).toNatClampNeg) = (uBytes (x2 + x3).toNatClampNeg) then (P_sameBytes_L2 uBytes x1 x2 K fuel (x3 + (1 : Int32))) else (K x3))))
def P_sameBytes (uBytes : Nat → Int32) (x1 : Int32) (x2 : Int32) : Option (Int32) := P_sameBytes_L2 uBytes x1 x2 (fun x3_k2 => some x3_k2) 300 (0 : Int32)
def P_longestMatch_L9 (uBytes : Nat → Int32) (x1 : Int32) (K : Int32 → Int32 → Int32 → Option (Int32)) : Nat → Int32 → Int32 → Int32 → Option (Int32)
  | 0, _, _, _ => none
  | fuel + 1, x2, x3, x4 => if x4 < (0 : Int32) then (K x2 x3 x4) else ((P_sameBytes uBytes x4 x1).bind (fun z1 => if z1 ≤ x3 then (P_longestMatch_L9 uBytes x1 K fuel x2 x3 (x4 + (-1 : Int32))) else (P_longestMatch_L9 uBytes x1 K fuel x4 z1 (x4 + (-1 : Int32)))))
def P_longestMatch (uBytes : Nat → Int32) (x1 : Int32) : Option (Int32) := P_longestMatch_L9 uBytes x1 (fun x2_k9 x3_k9 x4_k9 => some x2_k9) 300 (-1 : Int32) (2 : Int32) (x1 - (1 : Int32))
def P_endPiece_L27 (uBytes : Nat → Int32) (x2 : Int32) (K : Int32 → (Nat → Int32) → Int32 → Option (Int32 × (Nat → Int32))) : Nat → Int32 → (Nat → Int32) → Int32 → Option (Int32 × (Nat → Int32))
  | 0, _, _, _ => none
  | fuel + 1, uSize, uForm, x4 => if x2 ≤ x4 then (K uSize uForm x4) else (ck x4 16 (ck uSize 18 (P_endPiece_L27 uBytes x2 K fuel (uSize + (1 : Int32)) (upd uForm uSize.toNatClampNeg (uBytes x4.toNatClampNeg)) (x4 + (1 : Int32)))))
def P_endPiece (uSize : Int32) (uBytes : Nat → Int32) (uForm : Nat → Int32) (x1 : Int32) (x2 : Int32) (x3 : Int32) : Option (Int32 × (Nat → Int32)) := ck uSize 18 (P_endPiece_L27 uBytes x2 (fun uSize_k27 uForm_k27 x4_k27 => some (uSize_k27, uForm_k27)) 300 (uSize + (1 : Int32)) (upd uForm uSize.toNatClampNeg (((16 : Int32) * (x2 - x1)) + x3)) x1)
def P_makePieces_L9 (uBytes : Nat → Int32) (K : Int32 → (Nat → Int32) → Int32 → Int32 → Option (Int32 × (Nat → Int32))) : Nat → Int32 → (Nat → Int32) → Int32 → Int32 → Option (Int32 × (Nat → Int32))
  | 0, _, _, _, _ => none
  | fuel + 1, uSize, uForm, x1, x2 => if (16 : Int32) ≤ x2 then (K uSize uForm x1 x2) else ((P_longestMatch uBytes x2).bind (fun z1 => if z1 = (-1 : Int32) then (if ((x2 + (1 : Int32)) - x1) = (15 : Int32) then ((P_endPiece uSize uBytes uForm x1 (x2 + (1 : Int32)) (0 : Int32)).bind (fun z2 => P_makePieces_L9 uBytes K fuel z2.1 z2.2 (x2 + (1 : Int32)) (x2 + (1 : Int32)))) else (P_makePieces_L9 uBytes K fuel uSize uForm x1 (x2 + (1 : Int32)))) else ((P_sameBytes uBytes z1 x2).bind (fun z3 => (P_endPiece uSize uBytes uForm x1 x2 (z3 - (2 : Int32))).bind (fun z4 => ck z4.1 18 (P_makePieces_L9 uBytes K fuel (z4.1 + (1 : Int32)) (upd z4.2 z4.1.toNatClampNeg (x2 - z1)) (x2 + z3) (x2 + z3)))))))
def P_makePieces (uSize : Int32) (uBytes : Nat → Int32) (uForm : Nat → Int32) : Option (Int32 × (Nat → Int32)) := P_makePieces_L9 uBytes (fun uSize_k9 uForm_k9 x1_k9 x2_k9 => if (16 : Int32) ≤ x1_k9 then (some (uSize_k9, uForm_k9)) else ((P_endPiece uSize_k9 uBytes uForm_k9 x1_k9 (16 : Int32) (0 : Int32)).bind (fun z5 => some (z5.1, z5.2)))) 300 (0 : Int32) uForm (0 : Int32) (0 : Int32)
def P_storeUnits (uSize : Int32) : Option (Int32) := some ((2 : Int32) + ((uSize + (3 : Int32)) / (4 : Int32)))
def P_pack_L3 (x1 : Int64) (x3 : Int64) (K : (Nat → Int32) → Int32 → Option (Int32 × (Nat → Int32) × (Nat → Int32))) : Nat → (Nat → Int32) → Int32 → Option (Int32 × (Nat → Int32) × (Nat → Int32))
  | 0, _, _ => none
  | fuel + 1, uBytes, x5 => if (8 : Int32) ≤ x5 then (K uBytes x5) else (ck x5 16 (ck ((8 : Int32) + x5) 16 (P_pack_L3 x1 x3 K fuel (upd (upd uBytes x5.toNatClampNeg ((((x1.toUInt64 >>> (((56 : Int32) - ((8 : Int32) * x5)).toInt64.toUInt64 &&& Int64.toUInt64 63)).toInt64).toInt32) &&& (255 : Int32))) ((8 : Int32) + x5).toNatClampNeg ((((x3.toUInt64 >>> (((56 : Int32) - ((8 : Int32) * x5)).toInt64.toUInt64 &&& Int64.toUInt64 63)).toInt64).toInt32) &&& (255 : Int32))) (x5 + (1 : Int32)))))
def P_pack (uSize : Int32) (uBytes : Nat → Int32) (uForm : Nat → Int32) (x1 : Int64) (x3 : Int64) : Option (Int32 × (Nat → Int32) × (Nat → Int32)) := P_pack_L3 x1 x3 (fun uBytes_k3 x5_k3 => (P_makePieces uSize uBytes_k3 uForm).bind (fun z1 => if z1.1 < (16 : Int32) then (some (z1.1, uBytes_k3, z1.2)) else (some ((16 : Int32), uBytes_k3, (va_cpy uBytes_k3 z1.2 (0 : Int32).toNatClampNeg (0 : Int32).toNatClampNeg (16 : Int32).toNatClampNeg))))) 300 uBytes (0 : Int32)
def U_write (n : Nat) (N : Nat) (uOpen : Int32) (uFill : Int32) (uSaved : Int32) (uSerial : Int32) (uDown : Int32) (uArmed : Int32) (uWritten : Int32) (uSize : Int32) (uBytes : Nat → Int32) (uForm : Nat → Int32) (uSers : Nat → Int32) (uBlks : Nat → Int32) (uUnts : Nat → Int32) (uStos : Nat → Int32) (uHis : Nat → Int64) (uLos : Nat → Int64) (uSts : Nat → Int32) (uPlcs : Nat → Int32) (x1 : Int32) (x2 : Int64) (x4 : Int64) : Option (Int32 × Int32 × Int32 × Int32 × Int32 × Int32 × Int32 × Int32 × Int32 × (Nat → Int32) × (Nat → Int32) × (Nat → Int32) × (Nat → Int32) × (Nat → Int32) × (Nat → Int32) × (Nat → Int64) × (Nat → Int64) × (Nat → Int32) × (Nat → Int32)) := if uDown = (0 : Int32) then ((U_isBlock x1).bind (fun z1 => if z1 = (0 : Int32) then (some ((-1 : Int32), uOpen, uFill, uSaved, uSerial, uDown, uArmed, uWritten, uSize, uBytes, uForm, uSers, uBlks, uUnts, uStos, uHis, uLos, uSts, uPlcs)) else ((P_pack uSize uBytes uForm x2 x4).bind (fun z2 => (P_storeUnits z2.1).bind (fun z3 => (U_mayAppend n uFill uSts z3).bind (fun z4 => if z4 = (0 : Int32) then (some ((-3 : Int32), uOpen, uFill, uSaved, uSerial, uDown, uArmed, uWritten, z2.1, z2.2.1, z2.2.2, uSers, uBlks, uUnts, uStos, uHis, uLos, uSts, uPlcs)) else ((U_append n N uOpen uFill uSaved uSerial uArmed uWritten uSers uBlks uUnts uStos uHis uLos uSts uPlcs x1 z3 (1 : Int32) x2 x4).bind (fun z5 => if z5.1 = (0 : Int32) then ((U_goDown N z5.2.1 z5.2.2.2.1 uDown z5.2.2.2.2.2.2.2.1 z5.2.2.2.2.2.2.2.2.2.1).bind (fun z6 => some (z6.1, z5.2.1, z5.2.2.1, z5.2.2.2.1, z5.2.2.2.2.1, z6.2.1, z5.2.2.2.2.2.1, z5.2.2.2.2.2.2.1, z2.1, z2.2.1, z2.2.2, z6.2.2, z5.2.2.2.2.2.2.2.2.1, z5.2.2.2.2.2.2.2.2.2.1, z5.2.2.2.2.2.2.2.2.2.2.1, z5.2.2.2.2.2.2.2.2.2.2.2.1, z5.2.2.2.2.2.2.2.2.2.2.2.2.1, z5.2.2.2.2.2.2.2.2.2.2.2.2.2.1, z5.2.2.2.2.2.2.2.2.2.2.2.2.2.2))) else (some (z3, z5.2.1, z5.2.2.1, z5.2.2.2.1, z5.2.2.2.2.1, uDown, z5.2.2.2.2.2.1, z5.2.2.2.2.2.2.1, z2.1, z2.2.1, z2.2.2, z5.2.2.2.2.2.2.2.1, z5.2.2.2.2.2.2.2.2.1, z5.2.2.2.2.2.2.2.2.2.1, z5.2.2.2.2.2.2.2.2.2.2.1, z5.2.2.2.2.2.2.2.2.2.2.2.1, z5.2.2.2.2.2.2.2.2.2.2.2.2.1, z5.2.2.2.2.2.2.2.2.2.2.2.2.2.1, z5.2.2.2.2.2.2.2.2.2.2.2.2.2.2)))))))))) else (some ((-4 : Int32), uOpen, uFill, uSaved, uSerial, uDown, uArmed, uWritten, uSize, uBytes, uForm, uSers, uBlks, uUnts, uStos, uHis, uLos, uSts, uPlcs))
def U_trim (n : Nat) (N : Nat) (uOpen : Int32) (uFill : Int32) (uSaved : Int32) (uSerial : Int32) (uDown : Int32) (uArmed : Int32) (uWritten : Int32) (uSers : Nat → Int32) (uBlks : Nat → Int32) (uUnts : Nat → Int32) (uStos : Nat → Int32) (uHis : Nat → Int64) (uLos : Nat → Int64) (uSts : Nat → Int32) (uPlcs : Nat → Int32) (x1 : Int32) : Option (Int32 × Int32 × Int32 × Int32 × Int32 × Int32 × Int32 × Int32 × (Nat → Int32) × (Nat → Int32) × (Nat → Int32) × (Nat → Int32) × (Nat → Int64) × (Nat → Int64) × (Nat → Int32) × (Nat → Int32)) := if uDown = (0 : Int32) then ((U_isBlock x1).bind (fun z1 => if z1 = (0 : Int32) then (some ((-1 : Int32), uOpen, uFill, uSaved, uSerial, uDown, uArmed, uWritten, uSers, uBlks, uUnts, uStos, uHis, uLos, uSts, uPlcs)) else (ck x1 16 (if (uPlcs x1.toNatClampNeg) = (-1 : Int32) then (some ((-2 : Int32), uOpen, uFill, uSaved, uSerial, uDown, uArmed, uWritten, uSers, uBlks, uUnts, uStos, uHis, uLos, uSts, uPlcs)) else ((U_mayAppend n uFill uSts (2 : Int32)).bind (fun z2 => if z2 = (0 : Int32) then (some ((-3 : Int32), uOpen, uFill, uSaved, uSerial, uDown, uArmed, uWritten, uSers, uBlks, uUnts, uStos, uHis, uLos, uSts, uPlcs)) else ((U_append n N uOpen uFill uSaved uSerial uArmed uWritten uSers uBlks uUnts uStos uHis uLos uSts uPlcs x1 (2 : Int32) (0 : Int32) (0 : Int64) (0 : Int64)).bind (fun z3 => if z3.1 = (0 : Int32) then ((U_goDown N z3.2.1 z3.2.2.2.1 uDown z3.2.2.2.2.2.2.2.1 z3.2.2.2.2.2.2.2.2.2.1).bind (fun z4 => some (z4.1, z3.2.1, z3.2.2.1, z3.2.2.2.1, z3.2.2.2.2.1, z4.2.1, z3.2.2.2.2.2.1, z3.2.2.2.2.2.2.1, z4.2.2, z3.2.2.2.2.2.2.2.2.1, z3.2.2.2.2.2.2.2.2.2.1, z3.2.2.2.2.2.2.2.2.2.2.1, z3.2.2.2.2.2.2.2.2.2.2.2.1, z3.2.2.2.2.2.2.2.2.2.2.2.2.1, z3.2.2.2.2.2.2.2.2.2.2.2.2.2.1, z3.2.2.2.2.2.2.2.2.2.2.2.2.2.2))) else (some ((2 : Int32), z3.2.1, z3.2.2.1, z3.2.2.2.1, z3.2.2.2.2.1, uDown, z3.2.2.2.2.2.1, z3.2.2.2.2.2.2.1, z3.2.2.2.2.2.2.2.1, z3.2.2.2.2.2.2.2.2.1, z3.2.2.2.2.2.2.2.2.2.1, z3.2.2.2.2.2.2.2.2.2.2.1, z3.2.2.2.2.2.2.2.2.2.2.2.1, z3.2.2.2.2.2.2.2.2.2.2.2.2.1, z3.2.2.2.2.2.2.2.2.2.2.2.2.2.1, z3.2.2.2.2.2.2.2.2.2.2.2.2.2.2)))))))))) else (some ((-4 : Int32), uOpen, uFill, uSaved, uSerial, uDown, uArmed, uWritten, uSers, uBlks, uUnts, uStos, uHis, uLos, uSts, uPlcs))
def U_read (N : Nat) (uDown : Int32) (uHis : Nat → Int64) (uLos : Nat → Int64) (uPlcs : Nat → Int32) (x1 : Int32) (x2 : Int32) : Option (Int64) := if uDown = (0 : Int32) then ((U_isBlock x1).bind (fun z1 => if z1 = (0 : Int32) then (some (0 : Int64)) else (ck x1 16 (if (uPlcs x1.toNatClampNeg) = (-1 : Int32) then (some (0 : Int64)) else (if x2 = (0 : Int32) then (ck x1 16 (ck (uPlcs x1.toNatClampNeg) N (some (uHis (uPlcs x1.toNatClampNeg).toNatClampNeg)))) else (if x2 = (1 : Int32) then (ck x1 16 (ck (uPlcs x1.toNatClampNeg) N (some (uLos (uPlcs x1.toNatClampNeg).toNatClampNeg)))) else (some (0 : Int64)))))))) else (some (0 : Int64))
def U_packed (N : Nat) (uDown : Int32) (uSize : Int32) (uBytes : Nat → Int32) (uForm : Nat → Int32) (uHis : Nat → Int64) (uLos : Nat → Int64) (uPlcs : Nat → Int32) (x1 : Int32) (x2 : Int32) : Option (Int32 × Int32 × (Nat → Int32) × (Nat → Int32)) := if uDown = (0 : Int32) then ((U_isBlock x1).bind (fun z1 => if z1 = (0 : Int32) then (some ((-1 : Int32), uSize, uBytes, uForm)) else (ck x1 16 (if (uPlcs x1.toNatClampNeg) = (-1 : Int32) then (some ((-2 : Int32), uSize, uBytes, uForm)) else (ck (uPlcs x1.toNatClampNeg) N (ck (uPlcs x1.toNatClampNeg) N ((P_pack uSize uBytes uForm (uHis (uPlcs x1.toNatClampNeg).toNatClampNeg) (uLos (uPlcs x1.toNatClampNeg).toNatClampNeg)).bind (fun z2 => if x2 = (-1 : Int32) then (some (z2.1, z2.1, z2.2.1, z2.2.2)) else (if x2 < (0 : Int32) then (some ((-1 : Int32), z2.1, z2.2.1, z2.2.2)) else (if z2.1 ≤ x2 then (some ((-1 : Int32), z2.1, z2.2.1, z2.2.2)) else (ck x2 18 (some ((z2.2.2 x2.toNatClampNeg), z2.1, z2.2.1, z2.2.2))))))))))))) else (some ((-4 : Int32), uSize, uBytes, uForm))
def U_place (uDown : Int32) (uPlcs : Nat → Int32) (x1 : Int32) : Option (Int32) := if uDown = (0 : Int32) then ((U_isBlock x1).bind (fun z1 => if z1 = (0 : Int32) then (some (-1 : Int32)) else (ck x1 16 (if (uPlcs x1.toNatClampNeg) = (-1 : Int32) then (some (-2 : Int32)) else (ck x1 16 (some (uPlcs x1.toNatClampNeg))))))) else (some (-4 : Int32))
def U_flush (N : Nat) (uOpen : Int32) (uFill : Int32) (uSaved : Int32) (uDown : Int32) (uArmed : Int32) (uWritten : Int32) (uSers : Nat → Int32) (uUnts : Nat → Int32) : Option (Int32 × Int32 × Int32 × Int32 × Int32 × (Nat → Int32)) := if uDown = (0 : Int32) then ((U_saveUnits uFill uSaved uArmed uWritten).bind (fun z1 => if z1.1 = (0 : Int32) then ((U_goDown N uOpen z1.2.1 uDown uSers uUnts).bind (fun z2 => some (z2.1, z1.2.1, z2.2.1, z1.2.2.1, z1.2.2.2, z2.2.2))) else (some ((uFill - uSaved), z1.2.1, uDown, z1.2.2.1, z1.2.2.2, uSers)))) else (some ((-4 : Int32), uSaved, uDown, uArmed, uWritten, uSers))
def U_checkpoint (N : Nat) (uOpen : Int32) (uFill : Int32) (uSaved : Int32) (uSerial : Int32) (uDown : Int32) (uArmed : Int32) (uWritten : Int32) (uSers : Nat → Int32) (uUnts : Nat → Int32) (cNumber : Int32) (cSerial : Int32) (cOpen : Int32) (cFill : Int32) (cPlcs : Nat → Int32) (uPlcs : Nat → Int32) : Option (Int32 × Int32 × Int32 × Int32 × Int32 × (Nat → Int32) × Int32 × Int32 × Int32 × Int32 × (Nat → Int32)) := if uDown = (0 : Int32) then ((U_makeCheckpoint uOpen uFill uSaved uSerial uArmed uWritten cNumber cSerial cOpen cFill cPlcs uPlcs).bind (fun z1 => if z1.1 = (0 : Int32) then ((U_goDown N uOpen z1.2.1 uDown uSers uUnts).bind (fun z2 => some (z2.1, z1.2.1, z2.2.1, z1.2.2.1, z1.2.2.2.1, z2.2.2, z1.2.2.2.2.1, z1.2.2.2.2.2.1, z1.2.2.2.2.2.2.1, z1.2.2.2.2.2.2.2.1, z1.2.2.2.2.2.2.2.2))) else (some (z1.2.2.2.2.1, z1.2.1, uDown, z1.2.2.1, z1.2.2.2.1, uSers, z1.2.2.2.2.1, z1.2.2.2.2.2.1, z1.2.2.2.2.2.2.1, z1.2.2.2.2.2.2.2.1, z1.2.2.2.2.2.2.2.2)))) else (some ((-4 : Int32), uSaved, uDown, uArmed, uWritten, uSers, cNumber, cSerial, cOpen, cFill, cPlcs))
def U_clean (n : Nat) (N : Nat) (uOpen : Int32) (uFill : Int32) (uSaved : Int32) (uSerial : Int32) (uDown : Int32) (uArmed : Int32) (uWritten : Int32) (uSers : Nat → Int32) (uBlks : Nat → Int32) (uUnts : Nat → Int32) (uStos : Nat → Int32) (uHis : Nat → Int64) (uLos : Nat → Int64) (cNumber : Int32) (cSerial : Int32) (cOpen : Int32) (cFill : Int32) (cPlcs : Nat → Int32) (uSts : Nat → Int32) (uPlcs : Nat → Int32) : Option (Int32 × Int32 × Int32 × Int32 × Int32 × Int32 × Int32 × Int32 × (Nat → Int32) × (Nat → Int32) × (Nat → Int32) × (Nat → Int32) × (Nat → Int64) × (Nat → Int64) × Int32 × Int32 × Int32 × Int32 × (Nat → Int32) × (Nat → Int32) × (Nat → Int32)) := if uDown = (0 : Int32) then ((U_closedWithFewestLive n N uBlks uUnts uSts uPlcs).bind (fun z1 => if z1 = (-1 : Int32) then (some ((-2 : Int32), uOpen, uFill, uSaved, uSerial, uDown, uArmed, uWritten, uSers, uBlks, uUnts, uStos, uHis, uLos, cNumber, cSerial, cOpen, cFill, cPlcs, uSts, uPlcs)) else ((U_liveRecordsHaveRoom n N uFill uBlks uUnts uSts uPlcs z1).bind (fun z2 => if z2 = (0 : Int32) then (some ((-3 : Int32), uOpen, uFill, uSaved, uSerial, uDown, uArmed, uWritten, uSers, uBlks, uUnts, uStos, uHis, uLos, cNumber, cSerial, cOpen, cFill, cPlcs, uSts, uPlcs)) else ((U_makeCheckpoint uOpen uFill uSaved uSerial uArmed uWritten cNumber cSerial cOpen cFill cPlcs uPlcs).bind (fun z3 => if z3.1 = (0 : Int32) then ((U_goDown N uOpen z3.2.1 uDown uSers uUnts).bind (fun z8 => some (z8.1, uOpen, uFill, z3.2.1, uSerial, z8.2.1, z3.2.2.1, z3.2.2.2.1, z8.2.2, uBlks, uUnts, uStos, uHis, uLos, z3.2.2.2.2.1, z3.2.2.2.2.2.1, z3.2.2.2.2.2.2.1, z3.2.2.2.2.2.2.2.1, z3.2.2.2.2.2.2.2.2, uSts, uPlcs))) else ((U_appendLiveRecords n N uOpen uFill z3.2.1 uSerial z3.2.2.1 z3.2.2.2.1 uSers uBlks uUnts uStos uHis uLos uSts uPlcs z1).bind (fun z4 => if z4.1 = (-4 : Int32) then ((U_goDown N z4.2.1 z4.2.2.2.1 uDown z4.2.2.2.2.2.2.2.1 z4.2.2.2.2.2.2.2.2.2.1).bind (fun z5 => some (z5.1, z4.2.1, z4.2.2.1, z4.2.2.2.1, z4.2.2.2.2.1, z5.2.1, z4.2.2.2.2.2.1, z4.2.2.2.2.2.2.1, z5.2.2, z4.2.2.2.2.2.2.2.2.1, z4.2.2.2.2.2.2.2.2.2.1, z4.2.2.2.2.2.2.2.2.2.2.1, z4.2.2.2.2.2.2.2.2.2.2.2.1, z4.2.2.2.2.2.2.2.2.2.2.2.2.1, z3.2.2.2.2.1, z3.2.2.2.2.2.1, z3.2.2.2.2.2.2.1, z3.2.2.2.2.2.2.2.1, z3.2.2.2.2.2.2.2.2, z4.2.2.2.2.2.2.2.2.2.2.2.2.2.1, z4.2.2.2.2.2.2.2.2.2.2.2.2.2.2))) else ((U_makeCheckpoint z4.2.1 z4.2.2.1 z4.2.2.2.1 z4.2.2.2.2.1 z4.2.2.2.2.2.1 z4.2.2.2.2.2.2.1 z3.2.2.2.2.1 z3.2.2.2.2.2.1 z3.2.2.2.2.2.2.1 z3.2.2.2.2.2.2.2.1 z3.2.2.2.2.2.2.2.2 z4.2.2.2.2.2.2.2.2.2.2.2.2.2.2).bind (fun z6 => if z6.1 = (0 : Int32) then ((U_goDown N z4.2.1 z6.2.1 uDown z4.2.2.2.2.2.2.2.1 z4.2.2.2.2.2.2.2.2.2.1).bind (fun z7 => some (z7.1, z4.2.1, z4.2.2.1, z6.2.1, z4.2.2.2.2.1, z7.2.1, z6.2.2.1, z6.2.2.2.1, z7.2.2, z4.2.2.2.2.2.2.2.2.1, z4.2.2.2.2.2.2.2.2.2.1, z4.2.2.2.2.2.2.2.2.2.2.1, z4.2.2.2.2.2.2.2.2.2.2.2.1, z4.2.2.2.2.2.2.2.2.2.2.2.2.1, z6.2.2.2.2.1, z6.2.2.2.2.2.1, z6.2.2.2.2.2.2.1, z6.2.2.2.2.2.2.2.1, z6.2.2.2.2.2.2.2.2, z4.2.2.2.2.2.2.2.2.2.2.2.2.2.1, z4.2.2.2.2.2.2.2.2.2.2.2.2.2.2))) else (ck z1 n (some (z4.1, z4.2.1, z4.2.2.1, z6.2.1, z4.2.2.2.2.1, uDown, z6.2.2.1, z6.2.2.2.1, z4.2.2.2.2.2.2.2.1, z4.2.2.2.2.2.2.2.2.1, z4.2.2.2.2.2.2.2.2.2.1, z4.2.2.2.2.2.2.2.2.2.2.1, z4.2.2.2.2.2.2.2.2.2.2.2.1, z4.2.2.2.2.2.2.2.2.2.2.2.2.1, z6.2.2.2.2.1, z6.2.2.2.2.2.1, z6.2.2.2.2.2.2.1, z6.2.2.2.2.2.2.2.1, z6.2.2.2.2.2.2.2.2, (upd z4.2.2.2.2.2.2.2.2.2.2.2.2.2.1 z1.toNatClampNeg (0 : Int32)), z4.2.2.2.2.2.2.2.2.2.2.2.2.2.2))))))))))))) else (some ((-4 : Int32), uOpen, uFill, uSaved, uSerial, uDown, uArmed, uWritten, uSers, uBlks, uUnts, uStos, uHis, uLos, cNumber, cSerial, cOpen, cFill, cPlcs, uSts, uPlcs))
def U_arm (uDown : Int32) (uArmed : Int32) (x1 : Int32) : Option (Int32 × Int32) := if uDown = (0 : Int32) then (if x1 < (0 : Int32) then (some ((0 : Int32), uArmed)) else (if x1 ≤ (10000 : Int32) then (some ((1 : Int32), x1)) else (some ((0 : Int32), uArmed)))) else (some ((0 : Int32), uArmed))
def U_disarm (uDown : Int32) (uArmed : Int32) : Option (Int32 × Int32) := if uDown = (0 : Int32) then (if uArmed = (-1 : Int32) then (some ((0 : Int32), uArmed)) else (some ((1 : Int32), (-1 : Int32)))) else (some ((0 : Int32), uArmed))
def U_crash (N : Nat) (uOpen : Int32) (uSaved : Int32) (uDown : Int32) (uSers : Nat → Int32) (uUnts : Nat → Int32) : Option (Int32 × Int32 × (Nat → Int32)) := if uDown = (0 : Int32) then ((U_goDown N uOpen uSaved uDown uSers uUnts).bind (fun z1 => some ((1 : Int32), z1.2.1, z1.2.2))) else (some ((0 : Int32), uDown, uSers))
def U_recover (n : Nat) (N : Nat) (uOpen : Int32) (uFill : Int32) (uSaved : Int32) (uSerial : Int32) (uDown : Int32) (uArmed : Int32) (uWritten : Int32) (uSers : Nat → Int32) (uBlks : Nat → Int32) (uUnts : Nat → Int32) (uStos : Nat → Int32) (cNumber : Int32) (cSerial : Int32) (cOpen : Int32) (cFill : Int32) (cPlcs : Nat → Int32) (uSts : Nat → Int32) (uPlcs : Nat → Int32) : Option (Int32 × Int32 × Int32 × Int32 × Int32 × Int32 × Int32 × Int32 × (Nat → Int32) × Int32 × Int32 × Int32 × Int32 × (Nat → Int32) × (Nat → Int32) × (Nat → Int32)) := if uDown = (0 : Int32) then (some ((-1 : Int32), uOpen, uFill, uSaved, uSerial, uDown, uArmed, uWritten, uSers, cNumber, cSerial, cOpen, cFill, cPlcs, uSts, uPlcs)) else ((U_returnToCheckpoint uOpen uFill uSerial cSerial cOpen cFill cPlcs uPlcs).bind (fun z1 => (U_rollForward N z1.1 z1.2.1 z1.2.2.1 uSers uBlks uUnts uStos z1.2.2.2).bind (fun z2 => (U_sortSegments n N z2.2.1 uBlks uUnts uSts z2.2.2.2.2).bind (fun z3 => (U_makeCheckpoint z2.2.1 z2.2.2.1 z2.2.2.1 z2.2.2.2.1 (-1 : Int32) uWritten cNumber cSerial cOpen cFill cPlcs z2.2.2.2.2).bind (fun z4 => if z4.1 = (0 : Int32) then ((U_goDown N z2.2.1 z4.2.1 (0 : Int32) uSers uUnts).bind (fun z5 => some (z5.1, z2.2.1, z2.2.2.1, z4.2.1, z2.2.2.2.1, z5.2.1, z4.2.2.1, z4.2.2.2.1, z5.2.2, z4.2.2.2.2.1, z4.2.2.2.2.2.1, z4.2.2.2.2.2.2.1, z4.2.2.2.2.2.2.2.1, z4.2.2.2.2.2.2.2.2, z3, z2.2.2.2.2))) else (some (z2.1, z2.2.1, z2.2.2.1, z4.2.1, z2.2.2.2.1, (0 : Int32), z4.2.2.1, z4.2.2.2.1, uSers, z4.2.2.2.2.1, z4.2.2.2.2.2.1, z4.2.2.2.2.2.2.1, z4.2.2.2.2.2.2.2.1, z4.2.2.2.2.2.2.2.2, z3, z2.2.2.2.2)))))))
def U_live (n : Nat) (N : Nat) (uDown : Int32) (uBlks : Nat → Int32) (uUnts : Nat → Int32) (uPlcs : Nat → Int32) (x1 : Int32) : Option (Int32) := if uDown = (0 : Int32) then ((U_isSegment n x1).bind (fun z1 => if z1 = (0 : Int32) then (some (-1 : Int32)) else ((U_liveUnits N uBlks uUnts uPlcs x1).bind (fun z2 => some z2)))) else (some (-4 : Int32))
def U_segment (n : Nat) (uDown : Int32) (uSts : Nat → Int32) (x1 : Int32) : Option (Int32) := if uDown = (0 : Int32) then ((U_isSegment n x1).bind (fun z1 => if z1 = (0 : Int32) then (some (-1 : Int32)) else (ck x1 n (some (uSts x1.toNatClampNeg))))) else (some (-4 : Int32))
def U_look (uFill : Int32) (uSaved : Int32) (uSerial : Int32) (uDown : Int32) (uArmed : Int32) (uWritten : Int32) (cNumber : Int32) (x1 : Int32) : Option (Int32) := if x1 = (0 : Int32) then (if uDown = (0 : Int32) then (some uFill) else (some (-4 : Int32))) else (if x1 = (1 : Int32) then (if uDown = (0 : Int32) then (some uSaved) else (some (-4 : Int32))) else (if x1 = (2 : Int32) then (if uDown = (0 : Int32) then (some uSerial) else (some (-4 : Int32))) else (if x1 = (3 : Int32) then (if uDown = (0 : Int32) then (some cNumber) else (some (-4 : Int32))) else (if x1 = (4 : Int32) then (some uWritten) else (if x1 = (5 : Int32) then (some uArmed) else (if x1 = (6 : Int32) then (if uDown = (0 : Int32) then (some (0 : Int32)) else (some (1 : Int32))) else (some (-1 : Int32))))))))
def M_alike_L2 (mByt : Nat → Int32) (x1 : Int32) (x2 : Int32) (K : Int32 → Option (Int32)) : Nat → Int32 → Option (Int32)
  | 0, _ => none
  | fuel + 1, x3 => if (16 : Int32) ≤ (x2 + x3) then (K x3) else (ck (x1 + x3) 16 (ck (x2 + x3) 16 (if (mByt (x1 + x3).toNatClampNeg) = (mByt (x2 + x3).toNatClampNeg) then (M_alike_L2 mByt x1 x2 K fuel (x3 + (1 : Int32))) else (K x3))))
def M_alike (mByt : Nat → Int32) (x1 : Int32) (x2 : Int32) : Option (Int32) := M_alike_L2 mByt x1 x2 (fun x3_k2 => some x3_k2) 300 (0 : Int32)
def M_pack_L3 (x1 : Int64) (x3 : Int64) (K : (Nat → Int32) → Int32 → Option (Int32 × (Nat → Int32) × (Nat → Int32))) : Nat → (Nat → Int32) → Int32 → Option (Int32 × (Nat → Int32) × (Nat → Int32))
  | 0, _, _ => none
  | fuel + 1, mByt, x5 => if (8 : Int32) ≤ x5 then (K mByt x5) else (ck x5 16 (ck ((8 : Int32) + x5) 16 (M_pack_L3 x1 x3 K fuel (upd (upd mByt x5.toNatClampNeg (((x1 >>> (((56 : Int32) - ((8 : Int32) * x5)).toInt64 &&& 63)) &&& (255 : Int64)).toInt32)) ((8 : Int32) + x5).toNatClampNeg (((x3 >>> (((56 : Int32) - ((8 : Int32) * x5)).toInt64 &&& 63)) &&& (255 : Int64)).toInt32)) (x5 + (1 : Int32)))))
def M_pack_L88 (mByt : Nat → Int32) (x7 : Int32) (K : Int32 → Int32 → Int32 → Option (Int32 × (Nat → Int32) × (Nat → Int32))) : Nat → Int32 → Int32 → Int32 → Option (Int32 × (Nat → Int32) × (Nat → Int32))
  | 0, _, _, _ => none
  | fuel + 1, x8, x9, x10 => if x7 ≤ x10 then (K x8 x9 x10) else ((M_alike mByt x10 x7).bind (fun z1 => if z1 < x8 then (M_pack_L88 mByt x7 K fuel x8 x9 (x10 + (1 : Int32))) else (M_pack_L88 mByt x7 K fuel z1 x10 (x10 + (1 : Int32)))))
def M_pack_L72 (mByt : Nat → Int32) (K : (Nat → Int32) → Int32 → Int32 → Int32 → Option (Int32 × (Nat → Int32) × (Nat → Int32))) : Nat → (Nat → Int32) → Int32 → Int32 → Int32 → Option (Int32 × (Nat → Int32) × (Nat → Int32))
  | 0, _, _, _, _ => none
  | fuel + 1, mFrm, x5, x6, x7 => if (16 : Int32) ≤ x7 then (K mFrm x5 x6 x7) else (M_pack_L88 mByt x7 (fun x8_k88 x9_k88 x10_k88 => if (3 : Int32) ≤ x8_k88 then (ck x6 24 (if (3 : Int32) ≤ x8_k88 then (if (3 : Int32) ≤ x8_k88 then (ck x5 24 (M_pack_L72 mByt K fuel (upd (upd mFrm x6.toNatClampNeg (x7 - x9_k88)) x5.toNatClampNeg (((16 : Int32) * ((x6 - x5) - (1 : Int32))) + (x8_k88 - (2 : Int32)))) (x6 + (1 : Int32)) ((x6 + (1 : Int32)) + (1 : Int32)) (x7 + x8_k88))) else (ck x5 24 (M_pack_L72 mByt K fuel (upd (upd mFrm x6.toNatClampNeg (x7 - x9_k88)) x5.toNatClampNeg (((16 : Int32) * ((x6 - x5) - (1 : Int32))) + (0 : Int32))) (x6 + (1 : Int32)) ((x6 + (1 : Int32)) + (1 : Int32)) (x7 + x8_k88)))) else (if ((x6 - x5) - (1 : Int32)) = (15 : Int32) then (if (3 : Int32) ≤ x8_k88 then (ck x5 24 (M_pack_L72 mByt K fuel (upd (upd mFrm x6.toNatClampNeg (x7 - x9_k88)) x5.toNatClampNeg (((16 : Int32) * ((x6 - x5) - (1 : Int32))) + (x8_k88 - (2 : Int32)))) (x6 + (1 : Int32)) ((x6 + (1 : Int32)) + (1 : Int32)) (x7 + x8_k88))) else (ck x5 24 (M_pack_L72 mByt K fuel (upd (upd mFrm x6.toNatClampNeg (x7 - x9_k88)) x5.toNatClampNeg (((16 : Int32) * ((x6 - x5) - (1 : Int32))) + (0 : Int32))) (x6 + (1 : Int32)) ((x6 + (1 : Int32)) + (1 : Int32)) (x7 + x8_k88)))) else (M_pack_L72 mByt K fuel (upd mFrm x6.toNatClampNeg (x7 - x9_k88)) x5 (x6 + (1 : Int32)) (x7 + x8_k88))))) else (ck x7 16 (ck x6 24 (if (3 : Int32) ≤ x8_k88 then (if (3 : Int32) ≤ x8_k88 then (ck x5 24 (M_pack_L72 mByt K fuel (upd (upd mFrm x6.toNatClampNeg (mByt x7.toNatClampNeg)) x5.toNatClampNeg (((16 : Int32) * (((x6 - x5) - (1 : Int32)) + (1 : Int32))) + (x8_k88 - (2 : Int32)))) (x6 + (1 : Int32)) ((x6 + (1 : Int32)) + (1 : Int32)) (x7 + (1 : Int32)))) else (ck x5 24 (M_pack_L72 mByt K fuel (upd (upd mFrm x6.toNatClampNeg (mByt x7.toNatClampNeg)) x5.toNatClampNeg (((16 : Int32) * (((x6 - x5) - (1 : Int32)) + (1 : Int32))) + (0 : Int32))) (x6 + (1 : Int32)) ((x6 + (1 : Int32)) + (1 : Int32)) (x7 + (1 : Int32))))) else (if (((x6 - x5) - (1 : Int32)) + (1 : Int32)) = (15 : Int32) then (if (3 : Int32) ≤ x8_k88 then (ck x5 24 (M_pack_L72 mByt K fuel (upd (upd mFrm x6.toNatClampNeg (mByt x7.toNatClampNeg)) x5.toNatClampNeg (((16 : Int32) * (((x6 - x5) - (1 : Int32)) + (1 : Int32))) + (x8_k88 - (2 : Int32)))) (x6 + (1 : Int32)) ((x6 + (1 : Int32)) + (1 : Int32)) (x7 + (1 : Int32)))) else (ck x5 24 (M_pack_L72 mByt K fuel (upd (upd mFrm x6.toNatClampNeg (mByt x7.toNatClampNeg)) x5.toNatClampNeg (((16 : Int32) * (((x6 - x5) - (1 : Int32)) + (1 : Int32))) + (0 : Int32))) (x6 + (1 : Int32)) ((x6 + (1 : Int32)) + (1 : Int32)) (x7 + (1 : Int32))))) else (M_pack_L72 mByt K fuel (upd mFrm x6.toNatClampNeg (mByt x7.toNatClampNeg)) x5 (x6 + (1 : Int32)) (x7 + (1 : Int32)))))))) 300 (0 : Int32) (0 : Int32) (0 : Int32))
def M_pack_L295 (mByt : Nat → Int32) (K : (Nat → Int32) → Int32 → Option (Int32 × (Nat → Int32) × (Nat → Int32))) : Nat → (Nat → Int32) → Int32 → Option (Int32 × (Nat → Int32) × (Nat → Int32))
  | 0, _, _ => none
  | fuel + 1, mFrm, x8 => if (16 : Int32) ≤ x8 then (K mFrm x8) else (ck x8 16 (ck x8 24 (M_pack_L295 mByt K fuel (upd mFrm x8.toNatClampNeg (mByt x8.toNatClampNeg)) (x8 + (1 : Int32)))))
def M_pack (mFSize : Int32) (mByt : Nat → Int32) (mFrm : Nat → Int32) (x1 : Int64) (x3 : Int64) : Option (Int32 × (Nat → Int32) × (Nat → Int32)) := M_pack_L3 x1 x3 (fun mByt_k3 x5_k3 => M_pack_L72 mByt_k3 (fun mFrm_k72 x5_k72 x6_k72 x7_k72 => ck x5_k72 24 (if (x6_k72 - x5_k72) ≤ (1 : Int32) then (if (16 : Int32) ≤ x5_k72 then (M_pack_L295 mByt_k3 (fun mFrm_k295 x8_k295 => some ((16 : Int32), mByt_k3, mFrm_k295)) 300 (upd mFrm_k72 x5_k72.toNatClampNeg ((16 : Int32) * ((x6_k72 - x5_k72) - (1 : Int32)))) (0 : Int32)) else (some (x5_k72, mByt_k3, (upd mFrm_k72 x5_k72.toNatClampNeg ((16 : Int32) * ((x6_k72 - x5_k72) - (1 : Int32))))))) else (if (16 : Int32) ≤ x6_k72 then (M_pack_L295 mByt_k3 (fun mFrm_k295 x8_k295 => some ((16 : Int32), mByt_k3, mFrm_k295)) 300 (upd mFrm_k72 x5_k72.toNatClampNeg ((16 : Int32) * ((x6_k72 - x5_k72) - (1 : Int32)))) (0 : Int32)) else (some (x6_k72, mByt_k3, (upd mFrm_k72 x5_k72.toNatClampNeg ((16 : Int32) * ((x6_k72 - x5_k72) - (1 : Int32))))))))) 300 mFrm (0 : Int32) (1 : Int32) (0 : Int32)) 300 mByt (0 : Int32)
def M_writeUnit (mDown : Int32) (mArmed : Int32) (mLeft : Int32) (mWritten : Int32) : Option (Int32 × Int32 × Int32 × Int32) := if mArmed = (0 : Int32) then (if mArmed = (0 : Int32) then (some ((1 : Int32), mDown, mLeft, (mWritten + (1 : Int32)))) else (some ((1 : Int32), mDown, (mLeft - (1 : Int32)), (mWritten + (1 : Int32))))) else (if mLeft = (0 : Int32) then (some ((0 : Int32), (1 : Int32), mLeft, mWritten)) else (if mArmed = (0 : Int32) then (some ((1 : Int32), mDown, mLeft, (mWritten + (1 : Int32)))) else (some ((1 : Int32), mDown, (mLeft - (1 : Int32)), (mWritten + (1 : Int32))))))
def M_save_L2 (mOpen : Int32) (mArmed : Int32) (mFil : Nat → Int32) (K : Int32 → Int32 → Int32 → (Nat → Int32) → Int32 → Option (Int32 × Int32 × Int32 × Int32 × (Nat → Int32))) : Nat → Int32 → Int32 → Int32 → (Nat → Int32) → Int32 → Option (Int32 × Int32 × Int32 × Int32 × (Nat → Int32))
  | 0, _, _, _, _, _ => none
  | fuel + 1, mDown, mLeft, mWritten, mSav, x1 => ck mOpen 8 (ck mOpen 8 (if (mFil mOpen.toNatClampNeg) ≤ (mSav mOpen.toNatClampNeg) then (K mDown mLeft mWritten mSav x1) else ((M_writeUnit mDown mArmed mLeft mWritten).bind (fun z1 => if z1.1 = (0 : Int32) then (some ((-4 : Int32), z1.2.1, z1.2.2.1, z1.2.2.2, mSav)) else (ck mOpen 8 (ck mOpen 8 (M_save_L2 mOpen mArmed mFil K fuel z1.2.1 z1.2.2.1 z1.2.2.2 (upd mSav mOpen.toNatClampNeg ((mSav mOpen.toNatClampNeg) + (1 : Int32))) (x1 + (1 : Int32)))))))))
def M_save (mOpen : Int32) (mDown : Int32) (mArmed : Int32) (mLeft : Int32) (mWritten : Int32) (mFil : Nat → Int32) (mSav : Nat → Int32) : Option (Int32 × Int32 × Int32 × Int32 × (Nat → Int32)) := M_save_L2 mOpen mArmed mFil (fun mDown_k2 mLeft_k2 mWritten_k2 mSav_k2 x1_k2 => some (x1_k2, mDown_k2, mLeft_k2, mWritten_k2, mSav_k2)) 300 mDown mLeft mWritten mSav (0 : Int32)
def M_check_L11 (mKLast : Int32) (mKOpen : Int32) (mKFill : Int32) (mNumber : Int32) (mArmed : Int32) (mSav : Nat → Int32) (mKAt : Nat → Int32) (K : Int32 → Int32 → Int32 → Int32 → Option (Int32 × Int32 × Int32 × Int32 × Int32 × Int32 × Int32 × Int32 × (Nat → Int32) × (Nat → Int32))) : Nat → Int32 → Int32 → Int32 → Int32 → Option (Int32 × Int32 × Int32 × Int32 × Int32 × Int32 × Int32 × Int32 × (Nat → Int32) × (Nat → Int32))
  | 0, _, _, _, _ => none
  | fuel + 1, mDown, mLeft, mWritten, x1 => if (20 : Int32) ≤ x1 then (K mDown mLeft mWritten x1) else ((M_writeUnit mDown mArmed mLeft mWritten).bind (fun z2 => if z2.1 = (0 : Int32) then (some ((0 : Int32), mKLast, mKOpen, mKFill, mNumber, z2.2.1, z2.2.2.1, z2.2.2.2, mSav, mKAt)) else (M_check_L11 mKLast mKOpen mKFill mNumber mArmed mSav mKAt K fuel z2.2.1 z2.2.2.1 z2.2.2.2 (x1 + (1 : Int32)))))
def M_check_L44 (mAt : Nat → Int32) (K : (Nat → Int32) → Int32 → Option (Int32 × Int32 × Int32 × Int32 × Int32 × Int32 × Int32 × Int32 × (Nat → Int32) × (Nat → Int32))) : Nat → (Nat → Int32) → Int32 → Option (Int32 × Int32 × Int32 × Int32 × Int32 × Int32 × Int32 × Int32 × (Nat → Int32) × (Nat → Int32))
  | 0, _, _ => none
  | fuel + 1, mKAt, x1 => if (16 : Int32) ≤ x1 then (K mKAt x1) else (ck x1 16 (ck x1 16 (M_check_L44 mAt K fuel (upd mKAt x1.toNatClampNeg (mAt x1.toNatClampNeg)) (x1 + (1 : Int32)))))
def M_check (mOpen : Int32) (mLast : Int32) (mKLast : Int32) (mKOpen : Int32) (mKFill : Int32) (mNumber : Int32) (mDown : Int32) (mArmed : Int32) (mLeft : Int32) (mWritten : Int32) (mFil : Nat → Int32) (mSav : Nat → Int32) (mAt : Nat → Int32) (mKAt : Nat → Int32) : Option (Int32 × Int32 × Int32 × Int32 × Int32 × Int32 × Int32 × Int32 × (Nat → Int32) × (Nat → Int32)) := (M_save mOpen mDown mArmed mLeft mWritten mFil mSav).bind (fun z1 => if (0 : Int32) ≤ z1.1 then (M_check_L11 mKLast mKOpen mKFill mNumber mArmed z1.2.2.2.2 mKAt (fun mDown_k11 mLeft_k11 mWritten_k11 x1_k11 => M_check_L44 mAt (fun mKAt_k44 x1_k44 => ck mOpen 8 (some ((1 : Int32), mLast, mOpen, (mFil mOpen.toNatClampNeg), (mNumber + (1 : Int32)), mDown_k11, mLeft_k11, mWritten_k11, z1.2.2.2.2, mKAt_k44))) 300 mKAt (0 : Int32)) 300 z1.2.1 z1.2.2.1 z1.2.2.2.1 (0 : Int32)) else (some ((0 : Int32), mKLast, mKOpen, mKFill, mNumber, z1.2.1, z1.2.2.1, z1.2.2.2.1, z1.2.2.2.2, mKAt)))
def M_free_L4 (mSegs : Int32) (mSt : Nat → Int32) (K : Int32 → Int32 → Option (Int32)) : Nat → Int32 → Int32 → Option (Int32)
  | 0, _, _ => none
  | fuel + 1, x1, x2 => if mSegs ≤ x2 then (K x1 x2) else (ck x2 8 (if (mSt x2.toNatClampNeg) = (0 : Int32) then (M_free_L4 mSegs mSt K fuel (x1 + (1 : Int32)) (x2 + (1 : Int32))) else (M_free_L4 mSegs mSt K fuel x1 (x2 + (1 : Int32)))))
def M_free (mSegs : Int32) (mSt : Nat → Int32) : Option (Int32) := M_free_L4 mSegs mSt (fun x1_k4 x2_k4 => some x1_k4) 300 (0 : Int32) (0 : Int32)
def M_lowestFree_L2 (mSegs : Int32) (mSt : Nat → Int32) (K : Int32 → Option (Int32)) : Nat → Int32 → Option (Int32)
  | 0, _ => none
  | fuel + 1, x1 => if (mSegs - (1 : Int32)) ≤ x1 then (K x1) else (ck x1 8 (if (mSt x1.toNatClampNeg) = (0 : Int32) then (K x1) else (M_lowestFree_L2 mSegs mSt K fuel (x1 + (1 : Int32)))))
def M_lowestFree (mSegs : Int32) (mSt : Nat → Int32) : Option (Int32) := M_lowestFree_L2 mSegs mSt (fun x1_k2 => some x1_k2) 300 (0 : Int32)
def M_append_J83 (mOpen : Int32) (mLast : Int32) (mDown : Int32) (mLeft : Int32) (mWritten : Int32) (mSt : Nat → Int32) (mFil : Nat → Int32) (mSav : Nat → Int32) (mCnt : Nat → Int32) (mBlk : Nat → Int32) (mSto : Nat → Int32) (mUnt : Nat → Int32) (mSiz : Nat → Int32) (mSer : Nat → Int32) (mHi : Nat → Int64) (mLo : Nat → Int64) (mAt : Nat → Int32) (x1 : Int32) (x2 : Int32) (x3 : Int32) (x4 : Int64) (x6 : Int64) : Option (Int32 × Int32 × Int32 × Int32 × Int32 × Int32 × (Nat → Int32) × (Nat → Int32) × (Nat → Int32) × (Nat → Int32) × (Nat → Int32) × (Nat → Int32) × (Nat → Int32) × (Nat → Int32) × (Nat → Int32) × (Nat → Int64) × (Nat → Int64) × (Nat → Int32)) := ck mOpen 8 (ck (((8 : Int32) * mOpen) + (mCnt mOpen.toNatClampNeg)) 64 (ck (((8 : Int32) * mOpen) + (mCnt mOpen.toNatClampNeg)) 64 (ck mOpen 8 (ck (((8 : Int32) * mOpen) + (mCnt mOpen.toNatClampNeg)) 64 (ck (((8 : Int32) * mOpen) + (mCnt mOpen.toNatClampNeg)) 64 (ck (((8 : Int32) * mOpen) + (mCnt mOpen.toNatClampNeg)) 64 (ck (((8 : Int32) * mOpen) + (mCnt mOpen.toNatClampNeg)) 64 (ck (((8 : Int32) * mOpen) + (mCnt mOpen.toNatClampNeg)) 64 (ck mOpen 8 (ck mOpen 8 (ck mOpen 8 (ck mOpen 8 (if x2 = (0 : Int32) then (ck x1 16 (some ((1 : Int32), mOpen, (mLast + (1 : Int32)), mDown, mLeft, mWritten, mSt, (upd mFil mOpen.toNatClampNeg ((mFil mOpen.toNatClampNeg) + x3)), mSav, (upd mCnt mOpen.toNatClampNeg ((mCnt mOpen.toNatClampNeg) + (1 : Int32))), (upd mBlk (((8 : Int32) * mOpen) + (mCnt mOpen.toNatClampNeg)).toNatClampNeg x1), (upd mSto (((8 : Int32) * mOpen) + (mCnt mOpen.toNatClampNeg)).toNatClampNeg (vp_nar .boolean x2)), (upd mUnt (((8 : Int32) * mOpen) + (mCnt mOpen.toNatClampNeg)).toNatClampNeg (mFil mOpen.toNatClampNeg)), (upd mSiz (((8 : Int32) * mOpen) + (mCnt mOpen.toNatClampNeg)).toNatClampNeg x3), (upd mSer (((8 : Int32) * mOpen) + (mCnt mOpen.toNatClampNeg)).toNatClampNeg (mLast + (1 : Int32))), (vp_updL mHi (((8 : Int32) * mOpen) + (mCnt mOpen.toNatClampNeg)).toNatClampNeg x4), (vp_updL mLo (((8 : Int32) * mOpen) + (mCnt mOpen.toNatClampNeg)).toNatClampNeg x6), (upd mAt x1.toNatClampNeg (-1 : Int32))))) else (ck x1 16 (some ((1 : Int32), mOpen, (mLast + (1 : Int32)), mDown, mLeft, mWritten, mSt, (upd mFil mOpen.toNatClampNeg ((mFil mOpen.toNatClampNeg) + x3)), mSav, (upd mCnt mOpen.toNatClampNeg ((mCnt mOpen.toNatClampNeg) + (1 : Int32))), (upd mBlk (((8 : Int32) * mOpen) + (mCnt mOpen.toNatClampNeg)).toNatClampNeg x1), (upd mSto (((8 : Int32) * mOpen) + (mCnt mOpen.toNatClampNeg)).toNatClampNeg (vp_nar .boolean x2)), (upd mUnt (((8 : Int32) * mOpen) + (mCnt mOpen.toNatClampNeg)).toNatClampNeg (mFil mOpen.toNatClampNeg)), (upd mSiz (((8 : Int32) * mOpen) + (mCnt mOpen.toNatClampNeg)).toNatClampNeg x3), (upd mSer (((8 : Int32) * mOpen) + (mCnt mOpen.toNatClampNeg)).toNatClampNeg (mLast + (1 : Int32))), (vp_updL mHi (((8 : Int32) * mOpen) + (mCnt mOpen.toNatClampNeg)).toNatClampNeg x4), (vp_updL mLo (((8 : Int32) * mOpen) + (mCnt mOpen.toNatClampNeg)).toNatClampNeg x6), (upd mAt x1.toNatClampNeg (((8 : Int32) * mOpen) + (mCnt mOpen.toNatClampNeg)))))))))))))))))))
def M_append (mSegs : Int32) (mOpen : Int32) (mLast : Int32) (mDown : Int32) (mArmed : Int32) (mLeft : Int32) (mWritten : Int32) (mSt : Nat → Int32) (mFil : Nat → Int32) (mSav : Nat → Int32) (mCnt : Nat → Int32) (mBlk : Nat → Int32) (mSto : Nat → Int32) (mUnt : Nat → Int32) (mSiz : Nat → Int32) (mSer : Nat → Int32) (mHi : Nat → Int64) (mLo : Nat → Int64) (mAt : Nat → Int32) (x1 : Int32) (x2 : Int32) (x3 : Int32) (x4 : Int64) (x6 : Int64) : Option (Int32 × Int32 × Int32 × Int32 × Int32 × Int32 × (Nat → Int32) × (Nat → Int32) × (Nat → Int32) × (Nat → Int32) × (Nat → Int32) × (Nat → Int32) × (Nat → Int32) × (Nat → Int32) × (Nat → Int32) × (Nat → Int64) × (Nat → Int64) × (Nat → Int32)) := ck mOpen 8 (if x3 ≤ ((16 : Int32) - (mFil mOpen.toNatClampNeg)) then (M_append_J83 mOpen mLast mDown mLeft mWritten mSt mFil mSav mCnt mBlk mSto mUnt mSiz mSer mHi mLo mAt x1 x2 x3 x4 x6) else ((M_save mOpen mDown mArmed mLeft mWritten mFil mSav).bind (fun z1 => if (0 : Int32) ≤ z1.1 then (ck mOpen 8 ((M_lowestFree mSegs (upd mSt mOpen.toNatClampNeg (2 : Int32))).bind (fun z2 => ck z2 8 (ck z2 8 (ck z2 8 (ck z2 8 (M_append_J83 z2 mLast z1.2.1 z1.2.2.1 z1.2.2.2.1 (upd (upd mSt mOpen.toNatClampNeg (2 : Int32)) z2.toNatClampNeg (1 : Int32)) (upd mFil z2.toNatClampNeg (0 : Int32)) (upd z1.2.2.2.2 z2.toNatClampNeg (0 : Int32)) (upd mCnt z2.toNatClampNeg (0 : Int32)) mBlk mSto mUnt mSiz mSer mHi mLo mAt x1 x2 x3 x4 x6))))))) else (some ((0 : Int32), mOpen, mLast, z1.2.1, z1.2.2.1, z1.2.2.2.1, mSt, mFil, z1.2.2.2.2, mCnt, mBlk, mSto, mUnt, mSiz, mSer, mHi, mLo, mAt)))))
def M_isBlock (x0 : Int32) : Option (Int32) := if x0 < (0 : Int32) then (some (0 : Int32)) else (if (16 : Int32) ≤ x0 then (some (0 : Int32)) else (some (1 : Int32)))
def M_noRoom (mSegs : Int32) (mOpen : Int32) (mSt : Nat → Int32) (mFil : Nat → Int32) (x1 : Int32) : Option (Int32) := ck mOpen 8 (if x1 ≤ ((16 : Int32) - (mFil mOpen.toNatClampNeg)) then (some (0 : Int32)) else ((M_free mSegs mSt).bind (fun z1 => if (2 : Int32) ≤ z1 then (some (0 : Int32)) else (some (1 : Int32)))))
def M_write (mSegs : Int32) (mOpen : Int32) (mLast : Int32) (mDown : Int32) (mArmed : Int32) (mLeft : Int32) (mWritten : Int32) (mFSize : Int32) (mSt : Nat → Int32) (mFil : Nat → Int32) (mSav : Nat → Int32) (mCnt : Nat → Int32) (mBlk : Nat → Int32) (mSto : Nat → Int32) (mUnt : Nat → Int32) (mSiz : Nat → Int32) (mSer : Nat → Int32) (mHi : Nat → Int64) (mLo : Nat → Int64) (mAt : Nat → Int32) (mByt : Nat → Int32) (mFrm : Nat → Int32) (x1 : Int32) (x2 : Int64) (x4 : Int64) : Option (Int32 × Int32 × Int32 × Int32 × Int32 × Int32 × Int32 × (Nat → Int32) × (Nat → Int32) × (Nat → Int32) × (Nat → Int32) × (Nat → Int32) × (Nat → Int32) × (Nat → Int32) × (Nat → Int32) × (Nat → Int32) × (Nat → Int64) × (Nat → Int64) × (Nat → Int32) × (Nat → Int32) × (Nat → Int32)) := if mDown = (0 : Int32) then ((M_isBlock x1).bind (fun z1 => if z1 = (0 : Int32) then (some ((-1 : Int32), mOpen, mLast, mDown, mLeft, mWritten, mFSize, mSt, mFil, mSav, mCnt, mBlk, mSto, mUnt, mSiz, mSer, mHi, mLo, mAt, mByt, mFrm)) else ((M_pack mFSize mByt mFrm x2 x4).bind (fun z2 => (M_noRoom mSegs mOpen mSt mFil ((2 : Int32) + ((z2.1 + (3 : Int32)) / (4 : Int32)))).bind (fun z3 => if z3 = (0 : Int32) then ((M_append mSegs mOpen mLast mDown mArmed mLeft mWritten mSt mFil mSav mCnt mBlk mSto mUnt mSiz mSer mHi mLo mAt x1 (1 : Int32) ((2 : Int32) + ((z2.1 + (3 : Int32)) / (4 : Int32))) x2 x4).bind (fun z4 => if z4.1 = (0 : Int32) then (some ((-4 : Int32), z4.2.1, z4.2.2.1, z4.2.2.2.1, z4.2.2.2.2.1, z4.2.2.2.2.2.1, z2.1, z4.2.2.2.2.2.2.1, z4.2.2.2.2.2.2.2.1, z4.2.2.2.2.2.2.2.2.1, z4.2.2.2.2.2.2.2.2.2.1, z4.2.2.2.2.2.2.2.2.2.2.1, z4.2.2.2.2.2.2.2.2.2.2.2.1, z4.2.2.2.2.2.2.2.2.2.2.2.2.1, z4.2.2.2.2.2.2.2.2.2.2.2.2.2.1, z4.2.2.2.2.2.2.2.2.2.2.2.2.2.2.1, z4.2.2.2.2.2.2.2.2.2.2.2.2.2.2.2.1, z4.2.2.2.2.2.2.2.2.2.2.2.2.2.2.2.2.1, z4.2.2.2.2.2.2.2.2.2.2.2.2.2.2.2.2.2, z2.2.1, z2.2.2)) else (some (((2 : Int32) + ((z2.1 + (3 : Int32)) / (4 : Int32))), z4.2.1, z4.2.2.1, z4.2.2.2.1, z4.2.2.2.2.1, z4.2.2.2.2.2.1, z2.1, z4.2.2.2.2.2.2.1, z4.2.2.2.2.2.2.2.1, z4.2.2.2.2.2.2.2.2.1, z4.2.2.2.2.2.2.2.2.2.1, z4.2.2.2.2.2.2.2.2.2.2.1, z4.2.2.2.2.2.2.2.2.2.2.2.1, z4.2.2.2.2.2.2.2.2.2.2.2.2.1, z4.2.2.2.2.2.2.2.2.2.2.2.2.2.1, z4.2.2.2.2.2.2.2.2.2.2.2.2.2.2.1, z4.2.2.2.2.2.2.2.2.2.2.2.2.2.2.2.1, z4.2.2.2.2.2.2.2.2.2.2.2.2.2.2.2.2.1, z4.2.2.2.2.2.2.2.2.2.2.2.2.2.2.2.2.2, z2.2.1, z2.2.2)))) else (some ((-3 : Int32), mOpen, mLast, mDown, mLeft, mWritten, z2.1, mSt, mFil, mSav, mCnt, mBlk, mSto, mUnt, mSiz, mSer, mHi, mLo, mAt, z2.2.1, z2.2.2))))))) else (some ((-4 : Int32), mOpen, mLast, mDown, mLeft, mWritten, mFSize, mSt, mFil, mSav, mCnt, mBlk, mSto, mUnt, mSiz, mSer, mHi, mLo, mAt, mByt, mFrm))
def M_trim (mSegs : Int32) (mOpen : Int32) (mLast : Int32) (mDown : Int32) (mArmed : Int32) (mLeft : Int32) (mWritten : Int32) (mSt : Nat → Int32) (mFil : Nat → Int32) (mSav : Nat → Int32) (mCnt : Nat → Int32) (mBlk : Nat → Int32) (mSto : Nat → Int32) (mUnt : Nat → Int32) (mSiz : Nat → Int32) (mSer : Nat → Int32) (mHi : Nat → Int64) (mLo : Nat → Int64) (mAt : Nat → Int32) (x1 : Int32) : Option (Int32 × Int32 × Int32 × Int32 × Int32 × Int32 × (Nat → Int32) × (Nat → Int32) × (Nat → Int32) × (Nat → Int32) × (Nat → Int32) × (Nat → Int32) × (Nat → Int32) × (Nat → Int32) × (Nat → Int32) × (Nat → Int64) × (Nat → Int64) × (Nat → Int32)) := if mDown = (0 : Int32) then ((M_isBlock x1).bind (fun z1 => if z1 = (0 : Int32) then (some ((-1 : Int32), mOpen, mLast, mDown, mLeft, mWritten, mSt, mFil, mSav, mCnt, mBlk, mSto, mUnt, mSiz, mSer, mHi, mLo, mAt)) else (ck x1 16 (if (0 : Int32) ≤ (mAt x1.toNatClampNeg) then ((M_noRoom mSegs mOpen mSt mFil (2 : Int32)).bind (fun z2 => if z2 = (0 : Int32) then ((M_append mSegs mOpen mLast mDown mArmed mLeft mWritten mSt mFil mSav mCnt mBlk mSto mUnt mSiz mSer mHi mLo mAt x1 (0 : Int32) (2 : Int32) (0 : Int64) (0 : Int64)).bind (fun z3 => if z3.1 = (0 : Int32) then (some ((-4 : Int32), z3.2.1, z3.2.2.1, z3.2.2.2.1, z3.2.2.2.2.1, z3.2.2.2.2.2.1, z3.2.2.2.2.2.2.1, z3.2.2.2.2.2.2.2.1, z3.2.2.2.2.2.2.2.2.1, z3.2.2.2.2.2.2.2.2.2.1, z3.2.2.2.2.2.2.2.2.2.2.1, z3.2.2.2.2.2.2.2.2.2.2.2.1, z3.2.2.2.2.2.2.2.2.2.2.2.2.1, z3.2.2.2.2.2.2.2.2.2.2.2.2.2.1, z3.2.2.2.2.2.2.2.2.2.2.2.2.2.2.1, z3.2.2.2.2.2.2.2.2.2.2.2.2.2.2.2.1, z3.2.2.2.2.2.2.2.2.2.2.2.2.2.2.2.2.1, z3.2.2.2.2.2.2.2.2.2.2.2.2.2.2.2.2.2)) else (some ((2 : Int32), z3.2.1, z3.2.2.1, z3.2.2.2.1, z3.2.2.2.2.1, z3.2.2.2.2.2.1, z3.2.2.2.2.2.2.1, z3.2.2.2.2.2.2.2.1, z3.2.2.2.2.2.2.2.2.1, z3.2.2.2.2.2.2.2.2.2.1, z3.2.2.2.2.2.2.2.2.2.2.1, z3.2.2.2.2.2.2.2.2.2.2.2.1, z3.2.2.2.2.2.2.2.2.2.2.2.2.1, z3.2.2.2.2.2.2.2.2.2.2.2.2.2.1, z3.2.2.2.2.2.2.2.2.2.2.2.2.2.2.1, z3.2.2.2.2.2.2.2.2.2.2.2.2.2.2.2.1, z3.2.2.2.2.2.2.2.2.2.2.2.2.2.2.2.2.1, z3.2.2.2.2.2.2.2.2.2.2.2.2.2.2.2.2.2)))) else (some ((-3 : Int32), mOpen, mLast, mDown, mLeft, mWritten, mSt, mFil, mSav, mCnt, mBlk, mSto, mUnt, mSiz, mSer, mHi, mLo, mAt)))) else (some ((-2 : Int32), mOpen, mLast, mDown, mLeft, mWritten, mSt, mFil, mSav, mCnt, mBlk, mSto, mUnt, mSiz, mSer, mHi, mLo, mAt)))))) else (some ((-4 : Int32), mOpen, mLast, mDown, mLeft, mWritten, mSt, mFil, mSav, mCnt, mBlk, mSto, mUnt, mSiz, mSer, mHi, mLo, mAt))
def M_read (mDown : Int32) (mHi : Nat → Int64) (mLo : Nat → Int64) (mAt : Nat → Int32) (x1 : Int32) (x2 : Int32) : Option (Int64) := if mDown = (0 : Int32) then ((M_isBlock x1).bind (fun z1 => if z1 = (0 : Int32) then (some (0 : Int64)) else (if x2 < (0 : Int32) then (some (0 : Int64)) else (if x2 ≤ (1 : Int32) then (ck x1 16 (if (0 : Int32) ≤ (mAt x1.toNatClampNeg) then (if x2 = (0 : Int32) then (ck (mAt x1.toNatClampNeg) 64 (some (mHi (mAt x1.toNatClampNeg).toNatClampNeg))) else (ck (mAt x1.toNatClampNeg) 64 (some (mLo (mAt x1.toNatClampNeg).toNatClampNeg)))) else (some (0 : Int64)))) else (some (0 : Int64)))))) else (some (0 : Int64))
def M_refusal (mDown : Int32) (mAt : Nat → Int32) (x1 : Int32) : Option (Int32) := if mDown = (0 : Int32) then ((M_isBlock x1).bind (fun z1 => if z1 = (0 : Int32) then (some (-1 : Int32)) else (ck x1 16 (if (0 : Int32) ≤ (mAt x1.toNatClampNeg) then (some (0 : Int32)) else (some (-2 : Int32)))))) else (some (-4 : Int32))
def M_packed (mDown : Int32) (mFSize : Int32) (mHi : Nat → Int64) (mLo : Nat → Int64) (mAt : Nat → Int32) (mByt : Nat → Int32) (mFrm : Nat → Int32) (x1 : Int32) (x2 : Int32) : Option (Int32 × Int32 × (Nat → Int32) × (Nat → Int32)) := (M_refusal mDown mAt x1).bind (fun z1 => if z1 = (0 : Int32) then (ck x1 16 (ck (mAt x1.toNatClampNeg) 64 (ck x1 16 (ck (mAt x1.toNatClampNeg) 64 ((M_pack mFSize mByt mFrm (mHi (mAt x1.toNatClampNeg).toNatClampNeg) (mLo (mAt x1.toNatClampNeg).toNatClampNeg)).bind (fun z2 => if x2 < (-1 : Int32) then (some ((-1 : Int32), z2.1, z2.2.1, z2.2.2)) else (if x2 < z2.1 then (if (0 : Int32) ≤ x2 then (ck x2 24 (some ((z2.2.2 x2.toNatClampNeg), z2.1, z2.2.1, z2.2.2))) else (some (z2.1, z2.1, z2.2.1, z2.2.2))) else (some ((-1 : Int32), z2.1, z2.2.1, z2.2.2))))))))) else (some (z1, mFSize, mByt, mFrm)))
def M_place (mDown : Int32) (mUnt : Nat → Int32) (mAt : Nat → Int32) (x1 : Int32) : Option (Int32) := (M_refusal mDown mAt x1).bind (fun z1 => if z1 = (0 : Int32) then (ck x1 16 (ck x1 16 (ck (mAt x1.toNatClampNeg) 64 (some (((16 : Int32) * ((mAt x1.toNatClampNeg) / (8 : Int32))) + (mUnt (mAt x1.toNatClampNeg).toNatClampNeg)))))) else (some z1))
def M_flush (mOpen : Int32) (mDown : Int32) (mArmed : Int32) (mLeft : Int32) (mWritten : Int32) (mFil : Nat → Int32) (mSav : Nat → Int32) : Option (Int32 × Int32 × Int32 × Int32 × (Nat → Int32)) := if mDown = (0 : Int32) then ((M_save mOpen mDown mArmed mLeft mWritten mFil mSav).bind (fun z1 => some (z1.1, z1.2.1, z1.2.2.1, z1.2.2.2.1, z1.2.2.2.2))) else (some ((-4 : Int32), mDown, mLeft, mWritten, mSav))
def M_checkpoint (mOpen : Int32) (mLast : Int32) (mKLast : Int32) (mKOpen : Int32) (mKFill : Int32) (mNumber : Int32) (mDown : Int32) (mArmed : Int32) (mLeft : Int32) (mWritten : Int32) (mFil : Nat → Int32) (mSav : Nat → Int32) (mAt : Nat → Int32) (mKAt : Nat → Int32) : Option (Int32 × Int32 × Int32 × Int32 × Int32 × Int32 × Int32 × Int32 × (Nat → Int32) × (Nat → Int32)) := if mDown = (0 : Int32) then ((M_check mOpen mLast mKLast mKOpen mKFill mNumber mDown mArmed mLeft mWritten mFil mSav mAt mKAt).bind (fun z1 => if z1.1 = (0 : Int32) then (some ((-4 : Int32), z1.2.1, z1.2.2.1, z1.2.2.2.1, z1.2.2.2.2.1, z1.2.2.2.2.2.1, z1.2.2.2.2.2.2.1, z1.2.2.2.2.2.2.2.1, z1.2.2.2.2.2.2.2.2.1, z1.2.2.2.2.2.2.2.2.2)) else (some (z1.2.2.2.2.1, z1.2.1, z1.2.2.1, z1.2.2.2.1, z1.2.2.2.2.1, z1.2.2.2.2.2.1, z1.2.2.2.2.2.2.1, z1.2.2.2.2.2.2.2.1, z1.2.2.2.2.2.2.2.2.1, z1.2.2.2.2.2.2.2.2.2)))) else (some ((-4 : Int32), mKLast, mKOpen, mKFill, mNumber, mDown, mLeft, mWritten, mSav, mKAt))
def M_liveUnits_L4 (mSiz : Nat → Int32) (mAt : Nat → Int32) (x1 : Int32) (K : Int32 → Int32 → Option (Int32)) : Nat → Int32 → Int32 → Option (Int32)
  | 0, _, _ => none
  | fuel + 1, x2, x3 => if (16 : Int32) ≤ x3 then (K x2 x3) else (ck x3 16 (if (mAt x3.toNatClampNeg) < (0 : Int32) then (M_liveUnits_L4 mSiz mAt x1 K fuel x2 (x3 + (1 : Int32))) else (ck x3 16 (if ((mAt x3.toNatClampNeg) / (8 : Int32)) = x1 then (ck x3 16 (ck (mAt x3.toNatClampNeg) 64 (M_liveUnits_L4 mSiz mAt x1 K fuel (x2 + (mSiz (mAt x3.toNatClampNeg).toNatClampNeg)) (x3 + (1 : Int32))))) else (M_liveUnits_L4 mSiz mAt x1 K fuel x2 (x3 + (1 : Int32)))))))
def M_liveUnits (mSiz : Nat → Int32) (mAt : Nat → Int32) (x1 : Int32) : Option (Int32) := M_liveUnits_L4 mSiz mAt x1 (fun x2_k4 x3_k4 => some x2_k4) 300 (0 : Int32) (0 : Int32)
def M_victim_L4 (mSegs : Int32) (mSt : Nat → Int32) (mSiz : Nat → Int32) (mAt : Nat → Int32) (K : Int32 → Int32 → Option (Int32)) : Nat → Int32 → Int32 → Option (Int32)
  | 0, _, _ => none
  | fuel + 1, x1, x2 => if mSegs ≤ x2 then (K x1 x2) else (ck x2 8 (if (mSt x2.toNatClampNeg) = (2 : Int32) then (if x1 < (0 : Int32) then (M_victim_L4 mSegs mSt mSiz mAt K fuel x2 (x2 + (1 : Int32))) else ((M_liveUnits mSiz mAt x2).bind (fun z1 => (M_liveUnits mSiz mAt x1).bind (fun z2 => if z2 ≤ z1 then (M_victim_L4 mSegs mSt mSiz mAt K fuel x1 (x2 + (1 : Int32))) else (M_victim_L4 mSegs mSt mSiz mAt K fuel x2 (x2 + (1 : Int32))))))) else (M_victim_L4 mSegs mSt mSiz mAt K fuel x1 (x2 + (1 : Int32)))))
def M_victim (mSegs : Int32) (mSt : Nat → Int32) (mSiz : Nat → Int32) (mAt : Nat → Int32) : Option (Int32) := M_victim_L4 mSegs mSt mSiz mAt (fun x1_k4 x2_k4 => some x1_k4) 300 (-1 : Int32) (0 : Int32)
def M_isLatest (mBlk : Nat → Int32) (mSto : Nat → Int32) (mAt : Nat → Int32) (x1 : Int32) : Option (Int32) := ck x1 64 (if (mSto x1.toNatClampNeg) = (0 : Int32) then (some (0 : Int32)) else (ck x1 64 (ck (mBlk x1.toNatClampNeg) 16 (if (mAt (mBlk x1.toNatClampNeg).toNatClampNeg) = x1 then (some (1 : Int32)) else (some (0 : Int32))))))
def M_fits_L24 (mCnt : Nat → Int32) (mBlk : Nat → Int32) (mSto : Nat → Int32) (mSiz : Nat → Int32) (mAt : Nat → Int32) (x1 : Int32) (K : Int32 → Int32 → Int32 → Option (Int32)) : Nat → Int32 → Int32 → Int32 → Option (Int32)
  | 0, _, _, _ => none
  | fuel + 1, x2, x3, x4 => ck x1 8 (if (((8 : Int32) * x1) + (mCnt x1.toNatClampNeg)) ≤ x4 then (K x2 x3 x4) else ((M_isLatest mBlk mSto mAt x4).bind (fun z2 => if z2 = (0 : Int32) then (M_fits_L24 mCnt mBlk mSto mSiz mAt x1 K fuel x2 x3 (x4 + (1 : Int32))) else (ck x4 64 (if (mSiz x4.toNatClampNeg) ≤ x2 then (ck x4 64 (M_fits_L24 mCnt mBlk mSto mSiz mAt x1 K fuel (x2 - (mSiz x4.toNatClampNeg)) x3 (x4 + (1 : Int32)))) else (ck x4 64 (M_fits_L24 mCnt mBlk mSto mSiz mAt x1 K fuel ((16 : Int32) - (mSiz x4.toNatClampNeg)) (x3 + (-1 : Int32)) (x4 + (1 : Int32)))))))))
def M_fits (mSegs : Int32) (mOpen : Int32) (mSt : Nat → Int32) (mFil : Nat → Int32) (mCnt : Nat → Int32) (mBlk : Nat → Int32) (mSto : Nat → Int32) (mSiz : Nat → Int32) (mAt : Nat → Int32) (x1 : Int32) : Option (Int32) := ck mOpen 8 ((M_free mSegs mSt).bind (fun z1 => M_fits_L24 mCnt mBlk mSto mSiz mAt x1 (fun x2_k24 x3_k24 x4_k24 => if x3_k24 < (0 : Int32) then (some (0 : Int32)) else (some (1 : Int32))) 300 ((16 : Int32) - (mFil mOpen.toNatClampNeg)) z1 ((8 : Int32) * x1)))
def M_clean_L50 (mSegs : Int32) (mKLast : Int32) (mKOpen : Int32) (mKFill : Int32) (mNumber : Int32) (mArmed : Int32) (mKAt : Nat → Int32) (x1 : Int32) (K : Int32 → Int32 → Int32 → Int32 → Int32 → (Nat → Int32) → (Nat → Int32) → (Nat → Int32) → (Nat → Int32) → (Nat → Int32) → (Nat → Int32) → (Nat → Int32) → (Nat → Int32) → (Nat → Int32) → (Nat → Int64) → (Nat → Int64) → (Nat → Int32) → Int32 → Int32 → Option (Int32 × Int32 × Int32 × Int32 × Int32 × Int32 × Int32 × Int32 × Int32 × Int32 × (Nat → Int32) × (Nat → Int32) × (Nat → Int32) × (Nat → Int32) × (Nat → Int32) × (Nat → Int32) × (Nat → Int32) × (Nat → Int32) × (Nat → Int32) × (Nat → Int64) × (Nat → Int64) × (Nat → Int32) × (Nat → Int32))) : Nat → Int32 → Int32 → Int32 → Int32 → Int32 → (Nat → Int32) → (Nat → Int32) → (Nat → Int32) → (Nat → Int32) → (Nat → Int32) → (Nat → Int32) → (Nat → Int32) → (Nat → Int32) → (Nat → Int32) → (Nat → Int64) → (Nat → Int64) → (Nat → Int32) → Int32 → Int32 → Option (Int32 × Int32 × Int32 × Int32 × Int32 × Int32 × Int32 × Int32 × Int32 × Int32 × (Nat → Int32) × (Nat → Int32) × (Nat → Int32) × (Nat → Int32) × (Nat → Int32) × (Nat → Int32) × (Nat → Int32) × (Nat → Int32) × (Nat → Int32) × (Nat → Int64) × (Nat → Int64) × (Nat → Int32) × (Nat → Int32))
  | 0, _, _, _, _, _, _, _, _, _, _, _, _, _, _, _, _, _, _, _ => none
  | fuel + 1, mOpen, mLast, mDown, mLeft, mWritten, mSt, mFil, mSav, mCnt, mBlk, mSto, mUnt, mSiz, mSer, mHi, mLo, mAt, x2, x3 => ck x1 8 (if (((8 : Int32) * x1) + (mCnt x1.toNatClampNeg)) ≤ x3 then (K mOpen mLast mDown mLeft mWritten mSt mFil mSav mCnt mBlk mSto mUnt mSiz mSer mHi mLo mAt x2 x3) else ((M_isLatest mBlk mSto mAt x3).bind (fun z4 => if z4 = (0 : Int32) then (M_clean_L50 mSegs mKLast mKOpen mKFill mNumber mArmed mKAt x1 K fuel mOpen mLast mDown mLeft mWritten mSt mFil mSav mCnt mBlk mSto mUnt mSiz mSer mHi mLo mAt x2 (x3 + (1 : Int32))) else (ck x3 64 (ck x3 64 (ck x3 64 (ck x3 64 ((M_append mSegs mOpen mLast mDown mArmed mLeft mWritten mSt mFil mSav mCnt mBlk mSto mUnt mSiz mSer mHi mLo mAt (mBlk x3.toNatClampNeg) (1 : Int32) (mSiz x3.toNatClampNeg) (mHi x3.toNatClampNeg) (mLo x3.toNatClampNeg)).bind (fun z5 => if z5.1 = (0 : Int32) then (some ((-4 : Int32), z5.2.1, z5.2.2.1, mKLast, mKOpen, mKFill, mNumber, z5.2.2.2.1, z5.2.2.2.2.1, z5.2.2.2.2.2.1, z5.2.2.2.2.2.2.1, z5.2.2.2.2.2.2.2.1, z5.2.2.2.2.2.2.2.2.1, z5.2.2.2.2.2.2.2.2.2.1, z5.2.2.2.2.2.2.2.2.2.2.1, z5.2.2.2.2.2.2.2.2.2.2.2.1, z5.2.2.2.2.2.2.2.2.2.2.2.2.1, z5.2.2.2.2.2.2.2.2.2.2.2.2.2.1, z5.2.2.2.2.2.2.2.2.2.2.2.2.2.2.1, z5.2.2.2.2.2.2.2.2.2.2.2.2.2.2.2.1, z5.2.2.2.2.2.2.2.2.2.2.2.2.2.2.2.2.1, z5.2.2.2.2.2.2.2.2.2.2.2.2.2.2.2.2.2, mKAt)) else (M_clean_L50 mSegs mKLast mKOpen mKFill mNumber mArmed mKAt x1 K fuel z5.2.1 z5.2.2.1 z5.2.2.2.1 z5.2.2.2.2.1 z5.2.2.2.2.2.1 z5.2.2.2.2.2.2.1 z5.2.2.2.2.2.2.2.1 z5.2.2.2.2.2.2.2.2.1 z5.2.2.2.2.2.2.2.2.2.1 z5.2.2.2.2.2.2.2.2.2.2.1 z5.2.2.2.2.2.2.2.2.2.2.2.1 z5.2.2.2.2.2.2.2.2.2.2.2.2.1 z5.2.2.2.2.2.2.2.2.2.2.2.2.2.1 z5.2.2.2.2.2.2.2.2.2.2.2.2.2.2.1 z5.2.2.2.2.2.2.2.2.2.2.2.2.2.2.2.1 z5.2.2.2.2.2.2.2.2.2.2.2.2.2.2.2.2.1 z5.2.2.2.2.2.2.2.2.2.2.2.2.2.2.2.2.2 (x2 + (1 : Int32)) (x3 + (1 : Int32))))))))))))
def M_clean (mSegs : Int32) (mOpen : Int32) (mLast : Int32) (mKLast : Int32) (mKOpen : Int32) (mKFill : Int32) (mNumber : Int32) (mDown : Int32) (mArmed : Int32) (mLeft : Int32) (mWritten : Int32) (mSt : Nat → Int32) (mFil : Nat → Int32) (mSav : Nat → Int32) (mCnt : Nat → Int32) (mBlk : Nat → Int32) (mSto : Nat → Int32) (mUnt : Nat → Int32) (mSiz : Nat → Int32) (mSer : Nat → Int32) (mHi : Nat → Int64) (mLo : Nat → Int64) (mAt : Nat → Int32) (mKAt : Nat → Int32) : Option (Int32 × Int32 × Int32 × Int32 × Int32 × Int32 × Int32 × Int32 × Int32 × Int32 × (Nat → Int32) × (Nat → Int32) × (Nat → Int32) × (Nat → Int32) × (Nat → Int32) × (Nat → Int32) × (Nat → Int32) × (Nat → Int32) × (Nat → Int32) × (Nat → Int64) × (Nat → Int64) × (Nat → Int32) × (Nat → Int32)) := if mDown = (0 : Int32) then ((M_victim mSegs mSt mSiz mAt).bind (fun z1 => if (0 : Int32) ≤ z1 then ((M_fits mSegs mOpen mSt mFil mCnt mBlk mSto mSiz mAt z1).bind (fun z2 => if z2 = (0 : Int32) then (some ((-3 : Int32), mOpen, mLast, mKLast, mKOpen, mKFill, mNumber, mDown, mLeft, mWritten, mSt, mFil, mSav, mCnt, mBlk, mSto, mUnt, mSiz, mSer, mHi, mLo, mAt, mKAt)) else ((M_check mOpen mLast mKLast mKOpen mKFill mNumber mDown mArmed mLeft mWritten mFil mSav mAt mKAt).bind (fun z3 => if z3.1 = (0 : Int32) then (some ((-4 : Int32), mOpen, mLast, z3.2.1, z3.2.2.1, z3.2.2.2.1, z3.2.2.2.2.1, z3.2.2.2.2.2.1, z3.2.2.2.2.2.2.1, z3.2.2.2.2.2.2.2.1, mSt, mFil, z3.2.2.2.2.2.2.2.2.1, mCnt, mBlk, mSto, mUnt, mSiz, mSer, mHi, mLo, mAt, z3.2.2.2.2.2.2.2.2.2)) else (M_clean_L50 mSegs z3.2.1 z3.2.2.1 z3.2.2.2.1 z3.2.2.2.2.1 mArmed z3.2.2.2.2.2.2.2.2.2 z1 (fun mOpen_k50 mLast_k50 mDown_k50 mLeft_k50 mWritten_k50 mSt_k50 mFil_k50 mSav_k50 mCnt_k50 mBlk_k50 mSto_k50 mUnt_k50 mSiz_k50 mSer_k50 mHi_k50 mLo_k50 mAt_k50 x2_k50 x3_k50 => (M_check mOpen_k50 mLast_k50 z3.2.1 z3.2.2.1 z3.2.2.2.1 z3.2.2.2.2.1 mDown_k50 mArmed mLeft_k50 mWritten_k50 mFil_k50 mSav_k50 mAt_k50 z3.2.2.2.2.2.2.2.2.2).bind (fun z6 => if z6.1 = (0 : Int32) then (some ((-4 : Int32), mOpen_k50, mLast_k50, z6.2.1, z6.2.2.1, z6.2.2.2.1, z6.2.2.2.2.1, z6.2.2.2.2.2.1, z6.2.2.2.2.2.2.1, z6.2.2.2.2.2.2.2.1, mSt_k50, mFil_k50, z6.2.2.2.2.2.2.2.2.1, mCnt_k50, mBlk_k50, mSto_k50, mUnt_k50, mSiz_k50, mSer_k50, mHi_k50, mLo_k50, mAt_k50, z6.2.2.2.2.2.2.2.2.2)) else (ck z1 8 (some (x2_k50, mOpen_k50, mLast_k50, z6.2.1, z6.2.2.1, z6.2.2.2.1, z6.2.2.2.2.1, z6.2.2.2.2.2.1, z6.2.2.2.2.2.2.1, z6.2.2.2.2.2.2.2.1, (upd mSt_k50 z1.toNatClampNeg (0 : Int32)), mFil_k50, z6.2.2.2.2.2.2.2.2.1, mCnt_k50, mBlk_k50, mSto_k50, mUnt_k50, mSiz_k50, mSer_k50, mHi_k50, mLo_k50, mAt_k50, z6.2.2.2.2.2.2.2.2.2))))) 300 mOpen mLast z3.2.2.2.2.2.1 z3.2.2.2.2.2.2.1 z3.2.2.2.2.2.2.2.1 mSt mFil z3.2.2.2.2.2.2.2.2.1 mCnt mBlk mSto mUnt mSiz mSer mHi mLo mAt (0 : Int32) ((8 : Int32) * z1)))))) else (some ((-2 : Int32), mOpen, mLast, mKLast, mKOpen, mKFill, mNumber, mDown, mLeft, mWritten, mSt, mFil, mSav, mCnt, mBlk, mSto, mUnt, mSiz, mSer, mHi, mLo, mAt, mKAt)))) else (some ((-4 : Int32), mOpen, mLast, mKLast, mKOpen, mKFill, mNumber, mDown, mLeft, mWritten, mSt, mFil, mSav, mCnt, mBlk, mSto, mUnt, mSiz, mSer, mHi, mLo, mAt, mKAt))
def M_arm (mDown : Int32) (mArmed : Int32) (mLeft : Int32) (x1 : Int32) : Option (Int32 × Int32 × Int32) := if mDown = (0 : Int32) then (if x1 < (0 : Int32) then (some ((0 : Int32), mArmed, mLeft)) else (if x1 ≤ (10000 : Int32) then (some ((1 : Int32), (1 : Int32), x1)) else (some ((0 : Int32), mArmed, mLeft)))) else (some ((0 : Int32), mArmed, mLeft))
def M_disarm (mDown : Int32) (mArmed : Int32) : Option (Int32 × Int32) := if mDown = (0 : Int32) then (if mArmed = (0 : Int32) then (some ((0 : Int32), mArmed)) else (some ((1 : Int32), (0 : Int32)))) else (some ((0 : Int32), mArmed))
def M_crash (mDown : Int32) : Option (Int32 × Int32) := if mDown = (0 : Int32) then (some ((1 : Int32), (1 : Int32))) else (some ((0 : Int32), mDown))
def M_find_L15 (mSav : Nat → Int32) (mCnt : Nat → Int32) (mUnt : Nat → Int32) (mSiz : Nat → Int32) (mSer : Nat → Int32) (x1 : Int32) (x2 : Int32) (K : Int32 → Option (Int32)) : Nat → Int32 → Option (Int32)
  | 0, _ => none
  | fuel + 1, x3 => ck x2 8 (if (((8 : Int32) * x2) + (mCnt x2.toNatClampNeg)) ≤ x3 then (K x3) else (ck x3 64 (if (mSer x3.toNatClampNeg) = x1 then (ck x3 64 (ck x3 64 (ck x2 8 (if (mSav x2.toNatClampNeg) < ((mUnt x3.toNatClampNeg) + (mSiz x3.toNatClampNeg)) then (M_find_L15 mSav mCnt mUnt mSiz mSer x1 x2 K fuel (x3 + (1 : Int32))) else (some x3))))) else (M_find_L15 mSav mCnt mUnt mSiz mSer x1 x2 K fuel (x3 + (1 : Int32))))))
def M_find_L2 (mSegs : Int32) (mSav : Nat → Int32) (mCnt : Nat → Int32) (mUnt : Nat → Int32) (mSiz : Nat → Int32) (mSer : Nat → Int32) (x1 : Int32) (K : Int32 → Option (Int32)) : Nat → Int32 → Option (Int32)
  | 0, _ => none
  | fuel + 1, x2 => if mSegs ≤ x2 then (K x2) else (M_find_L15 mSav mCnt mUnt mSiz mSer x1 x2 (fun x3_k15 => M_find_L2 mSegs mSav mCnt mUnt mSiz mSer x1 K fuel (x2 + (1 : Int32))) 300 ((8 : Int32) * x2))
def M_find (mSegs : Int32) (mSav : Nat → Int32) (mCnt : Nat → Int32) (mUnt : Nat → Int32) (mSiz : Nat → Int32) (mSer : Nat → Int32) (x1 : Int32) : Option (Int32) := M_find_L2 mSegs mSav mCnt mUnt mSiz mSer x1 (fun x2_k2 => some (-1 : Int32)) 300 (0 : Int32)
def M_recover_L21 (mKAt : Nat → Int32) (K : (Nat → Int32) → Int32 → Option (Int32 × Int32 × Int32 × Int32 × Int32 × Int32 × Int32 × Int32 × Int32 × Int32 × Int32 × (Nat → Int32) × (Nat → Int32) × (Nat → Int32) × (Nat → Int32) × (Nat → Int32) × (Nat → Int32))) : Nat → (Nat → Int32) → Int32 → Option (Int32 × Int32 × Int32 × Int32 × Int32 × Int32 × Int32 × Int32 × Int32 × Int32 × Int32 × (Nat → Int32) × (Nat → Int32) × (Nat → Int32) × (Nat → Int32) × (Nat → Int32) × (Nat → Int32))
  | 0, _, _ => none
  | fuel + 1, mAt, x1 => if (16 : Int32) ≤ x1 then (K mAt x1) else (ck x1 16 (ck x1 16 (M_recover_L21 mKAt K fuel (upd mAt x1.toNatClampNeg (mKAt x1.toNatClampNeg)) (x1 + (1 : Int32)))))
def M_recover_L79 (mSegs : Int32) (mSav : Nat → Int32) (mCnt : Nat → Int32) (mBlk : Nat → Int32) (mSto : Nat → Int32) (mUnt : Nat → Int32) (mSiz : Nat → Int32) (mSer : Nat → Int32) (K : Int32 → Int32 → (Nat → Int32) → Int32 → Int32 → Int32 → Option (Int32 × Int32 × Int32 × Int32 × Int32 × Int32 × Int32 × Int32 × Int32 × Int32 × Int32 × (Nat → Int32) × (Nat → Int32) × (Nat → Int32) × (Nat → Int32) × (Nat → Int32) × (Nat → Int32))) : Nat → Int32 → Int32 → (Nat → Int32) → Int32 → Int32 → Int32 → Option (Int32 × Int32 × Int32 × Int32 × Int32 × Int32 × Int32 × Int32 × Int32 × Int32 × Int32 × (Nat → Int32) × (Nat → Int32) × (Nat → Int32) × (Nat → Int32) × (Nat → Int32) × (Nat → Int32))
  | 0, _, _, _, _, _, _ => none
  | fuel + 1, mOpen, mLast, mAt, x1, x2, x3 => if x3 < (0 : Int32) then (K mOpen mLast mAt x1 x2 x3) else (ck x3 64 (ck x3 64 (if (mSto x3.toNatClampNeg) = (0 : Int32) then (ck (mBlk x3.toNatClampNeg) 16 (ck x3 64 (ck x3 64 ((M_find mSegs mSav mCnt mUnt mSiz mSer ((mLast + (1 : Int32)) + (1 : Int32))).bind (fun z2 => M_recover_L79 mSegs mSav mCnt mBlk mSto mUnt mSiz mSer K fuel (x3 / (8 : Int32)) (mLast + (1 : Int32)) (upd mAt (mBlk x3.toNatClampNeg).toNatClampNeg (-1 : Int32)) ((mUnt x3.toNatClampNeg) + (mSiz x3.toNatClampNeg)) (x2 + (1 : Int32)) z2))))) else (ck (mBlk x3.toNatClampNeg) 16 (ck x3 64 (ck x3 64 ((M_find mSegs mSav mCnt mUnt mSiz mSer ((mLast + (1 : Int32)) + (1 : Int32))).bind (fun z3 => M_recover_L79 mSegs mSav mCnt mBlk mSto mUnt mSiz mSer K fuel (x3 / (8 : Int32)) (mLast + (1 : Int32)) (upd mAt (mBlk x3.toNatClampNeg).toNatClampNeg x3) ((mUnt x3.toNatClampNeg) + (mSiz x3.toNatClampNeg)) (x2 + (1 : Int32)) z3))))))))
def M_recover_L169 (mLast : Int32) (mSer : Nat → Int32) (x4 : Int32) (K : (Nat → Int32) → Option (Int32 × Int32 × Int32 × Int32 × Int32 × Int32 × Int32 × Int32 × Int32 × Int32 × Int32 × (Nat → Int32) × (Nat → Int32) × (Nat → Int32) × (Nat → Int32) × (Nat → Int32) × (Nat → Int32))) : Nat → (Nat → Int32) → Option (Int32 × Int32 × Int32 × Int32 × Int32 × Int32 × Int32 × Int32 × Int32 × Int32 × Int32 × (Nat → Int32) × (Nat → Int32) × (Nat → Int32) × (Nat → Int32) × (Nat → Int32) × (Nat → Int32))
  | 0, _ => none
  | fuel + 1, mCnt => ck x4 8 (if (mCnt x4.toNatClampNeg) ≤ (0 : Int32) then (K mCnt) else (ck x4 8 (ck ((((8 : Int32) * x4) + (mCnt x4.toNatClampNeg)) - (1 : Int32)) 64 (if (mSer ((((8 : Int32) * x4) + (mCnt x4.toNatClampNeg)) - (1 : Int32)).toNatClampNeg) ≤ mLast then (K mCnt) else (ck x4 8 (ck x4 8 (M_recover_L169 mLast mSer x4 K fuel (upd mCnt x4.toNatClampNeg ((mCnt x4.toNatClampNeg) - (1 : Int32))))))))))
def M_recover_L160 (mSegs : Int32) (mOpen : Int32) (mLast : Int32) (mSiz : Nat → Int32) (mSer : Nat → Int32) (mAt : Nat → Int32) (K : (Nat → Int32) → (Nat → Int32) → Int32 → Option (Int32 × Int32 × Int32 × Int32 × Int32 × Int32 × Int32 × Int32 × Int32 × Int32 × Int32 × (Nat → Int32) × (Nat → Int32) × (Nat → Int32) × (Nat → Int32) × (Nat → Int32) × (Nat → Int32))) : Nat → (Nat → Int32) → (Nat → Int32) → Int32 → Option (Int32 × Int32 × Int32 × Int32 × Int32 × Int32 × Int32 × Int32 × Int32 × Int32 × Int32 × (Nat → Int32) × (Nat → Int32) × (Nat → Int32) × (Nat → Int32) × (Nat → Int32) × (Nat → Int32))
  | 0, _, _, _ => none
  | fuel + 1, mSt, mCnt, x4 => if mSegs ≤ x4 then (K mSt mCnt x4) else (M_recover_L169 mLast mSer x4 (fun mCnt_k169 => if x4 = mOpen then (ck x4 8 (M_recover_L160 mSegs mOpen mLast mSiz mSer mAt K fuel (upd mSt x4.toNatClampNeg (1 : Int32)) mCnt_k169 (x4 + (1 : Int32)))) else ((M_liveUnits mSiz mAt x4).bind (fun z4 => if z4 ≤ (0 : Int32) then (ck x4 8 (M_recover_L160 mSegs mOpen mLast mSiz mSer mAt K fuel (upd mSt x4.toNatClampNeg (0 : Int32)) mCnt_k169 (x4 + (1 : Int32)))) else (ck x4 8 (M_recover_L160 mSegs mOpen mLast mSiz mSer mAt K fuel (upd mSt x4.toNatClampNeg (2 : Int32)) mCnt_k169 (x4 + (1 : Int32))))))) 300 mCnt)
def M_recover (mSegs : Int32) (mOpen : Int32) (mLast : Int32) (mKLast : Int32) (mKOpen : Int32) (mKFill : Int32) (mNumber : Int32) (mDown : Int32) (mArmed : Int32) (mLeft : Int32) (mWritten : Int32) (mSt : Nat → Int32) (mFil : Nat → Int32) (mSav : Nat → Int32) (mCnt : Nat → Int32) (mBlk : Nat → Int32) (mSto : Nat → Int32) (mUnt : Nat → Int32) (mSiz : Nat → Int32) (mSer : Nat → Int32) (mAt : Nat → Int32) (mKAt : Nat → Int32) : Option (Int32 × Int32 × Int32 × Int32 × Int32 × Int32 × Int32 × Int32 × Int32 × Int32 × Int32 × (Nat → Int32) × (Nat → Int32) × (Nat → Int32) × (Nat → Int32) × (Nat → Int32) × (Nat → Int32)) := if mDown = (0 : Int32) then (some ((-1 : Int32), mOpen, mLast, mKLast, mKOpen, mKFill, mNumber, mDown, mArmed, mLeft, mWritten, mSt, mFil, mSav, mCnt, mAt, mKAt)) else (M_recover_L21 mKAt (fun mAt_k21 x1_k21 => (M_find mSegs mSav mCnt mUnt mSiz mSer (mKLast + (1 : Int32))).bind (fun z1 => M_recover_L79 mSegs mSav mCnt mBlk mSto mUnt mSiz mSer (fun mOpen_k79 mLast_k79 mAt_k79 x1_k79 x2_k79 x3_k79 => M_recover_L160 mSegs mOpen_k79 mLast_k79 mSiz mSer mAt_k79 (fun mSt_k160 mCnt_k160 x4_k160 => ck mOpen_k79 8 (ck mOpen_k79 8 ((M_check mOpen_k79 mLast_k79 mKLast mKOpen mKFill mNumber (0 : Int32) (0 : Int32) mLeft mWritten (upd mFil mOpen_k79.toNatClampNeg x1_k79) (upd mSav mOpen_k79.toNatClampNeg x1_k79) mAt_k79 mKAt).bind (fun z5 => if z5.1 = (0 : Int32) then (some ((-4 : Int32), mOpen_k79, mLast_k79, z5.2.1, z5.2.2.1, z5.2.2.2.1, z5.2.2.2.2.1, z5.2.2.2.2.2.1, (0 : Int32), z5.2.2.2.2.2.2.1, z5.2.2.2.2.2.2.2.1, mSt_k160, (upd mFil mOpen_k79.toNatClampNeg x1_k79), z5.2.2.2.2.2.2.2.2.1, mCnt_k160, mAt_k79, z5.2.2.2.2.2.2.2.2.2)) else (some (x2_k79, mOpen_k79, mLast_k79, z5.2.1, z5.2.2.1, z5.2.2.2.1, z5.2.2.2.2.1, z5.2.2.2.2.2.1, (0 : Int32), z5.2.2.2.2.2.2.1, z5.2.2.2.2.2.2.2.1, mSt_k160, (upd mFil mOpen_k79.toNatClampNeg x1_k79), z5.2.2.2.2.2.2.2.2.1, mCnt_k160, mAt_k79, z5.2.2.2.2.2.2.2.2.2)))))) 300 mSt mCnt (0 : Int32)) 300 mKOpen mKLast mAt_k21 mKFill (0 : Int32) z1)) 300 mAt (0 : Int32))
def M_live (mSegs : Int32) (mDown : Int32) (mSiz : Nat → Int32) (mAt : Nat → Int32) (x1 : Int32) : Option (Int32) := if mDown = (0 : Int32) then (if x1 < (0 : Int32) then (some (-1 : Int32)) else (if x1 < mSegs then ((M_liveUnits mSiz mAt x1).bind (fun z1 => some z1)) else (some (-1 : Int32)))) else (some (-4 : Int32))
def M_segment (mSegs : Int32) (mDown : Int32) (mSt : Nat → Int32) (x1 : Int32) : Option (Int32) := if mDown = (0 : Int32) then (if x1 < (0 : Int32) then (some (-1 : Int32)) else (if x1 < mSegs then (ck x1 8 (some (mSt x1.toNatClampNeg))) else (some (-1 : Int32)))) else (some (-4 : Int32))
def M_look (mOpen : Int32) (mLast : Int32) (mNumber : Int32) (mDown : Int32) (mArmed : Int32) (mLeft : Int32) (mWritten : Int32) (mFil : Nat → Int32) (mSav : Nat → Int32) (x1 : Int32) : Option (Int32) := if x1 < (0 : Int32) then (some (-1 : Int32)) else (if x1 ≤ (6 : Int32) then (if (4 : Int32) ≤ x1 then (if x1 = (0 : Int32) then (ck mOpen 8 (some (mFil mOpen.toNatClampNeg))) else (if x1 = (1 : Int32) then (ck mOpen 8 (some (mSav mOpen.toNatClampNeg))) else (if x1 = (2 : Int32) then (some mLast) else (if x1 = (3 : Int32) then (some mNumber) else (if x1 = (4 : Int32) then (some mWritten) else (if x1 = (5 : Int32) then (if mArmed = (0 : Int32) then (some (-1 : Int32)) else (some mLeft)) else (if mDown = (0 : Int32) then (some (0 : Int32)) else (some (1 : Int32))))))))) else (if mDown = (0 : Int32) then (if x1 = (0 : Int32) then (ck mOpen 8 (some (mFil mOpen.toNatClampNeg))) else (if x1 = (1 : Int32) then (ck mOpen 8 (some (mSav mOpen.toNatClampNeg))) else (if x1 = (2 : Int32) then (some mLast) else (if x1 = (3 : Int32) then (some mNumber) else (if x1 = (4 : Int32) then (some mWritten) else (if x1 = (5 : Int32) then (if mArmed = (0 : Int32) then (some (-1 : Int32)) else (some mLeft)) else (if mDown = (0 : Int32) then (some (0 : Int32)) else (some (1 : Int32))))))))) else (some (-4 : Int32)))) else (some (-1 : Int32)))
end
section
set_option maxHeartbeats 4000000 in
set_option maxRecDepth 100000 in
theorem c_U_isBlock (l : Launch) (dC : Nat → ClassId) (dI : Nat → Nat → Nat) (cI cZ cJ : ClassId) (sz n N : Nat)  (x0 : Int32) (res : Int32) (hM : U_isBlock x0 = some res) : Met l y_U_isBlock w_U_isBlock ({ frames := 0, cells := 0, slots := 0, locals := 0 }) (va_Pc [.int x0] (fun U => U.heap.size = sz ∧ va_P (dC, dI) classes [] U.heap ∧ va_K (dC, dI) classes [(cI, .int), (cZ, .boolean), (cJ, .long)] U ∧ va_D (fun _ => True) [] ∧ Ns U)) (va_Qi (fun (r : Int32) (z : Unit) => res = r) (fun (z : Unit) (t : State) => va_P (dC, dI) classes [] t.heap ∧ va_K (dC, dI) classes [(cI, .int), (cZ, .boolean), (cJ, .long)] t ∧ va_D (va_A [] sz) []) (va_A [] sz)) 0 0 (va_A [] sz) := by
  refine Met.ofW (cc := b_U_isBlock) (maxL := 1) (ret := (some .boolean)) (by decide) rfl ?_
  intro p e s m args below meth c s₁ B hml hv
  obtain ⟨rfl, hsz, hP, hK, hD0, hN⟩ := hv
  have hx := B.exec
  have hb := B.bytes
  have hr := B.returns
  have hts := atoms_spec (ws := w_U_isBlock) B.pre
  have htT : ∀ w ∈ lwG, w.before _ s = true := fun w h => hts w (List.mem_cons_of_mem _ h)
  have hown : s.vm.findClass R_U = some m.cls := findClass_of_methodNamed B.named
  have hlocks := B.notSynchronized
  subst hsz
  have hD := hD0.self (sz := s.heap.size)
  generalize hAe : va_A [] s.heap.size = A at hD ⊢
  have hA : ∀ q : Nat, s.heap.size ≤ q → A q := fun q h => by rw [← hAe]; exact Or.inr h
  have hS : va_S A s.heap s.heap [] := va_S.rf
  have hP : va_P (dC, dI) classes [] s.heap := hP
  have hl := lv_entry ([.int x0]) (n := 1) (Nat.le_of_ble_eq_true rfl)
  rw [lg_entry_eq]
  generalize (lg_sl ([.int x0]) ++ List.replicate (1 - (lg_sl ([.int x0])).length) Slot.unset).toArray = ls at hl ⊢
  have hl : lv_has ls 1 [(0, .int x0)] := hl
  have h := hM
  rw [U_isBlock] at h
  refine lv_iload_n hx hb d_U_isBlock_0 rfl (lv_at hl 0 rfl) ?_
  refine lv_if_lt (tgt := 14) hx hb d_U_isBlock_1 (by decide) (fun hc => ?_) (fun hc => ?_)
  · have h := ck_t hc h
    refine lv_iconst (v := (0 : Int32)) hx hb d_U_isBlock_14 (by decide) ?_
    exact W.zret (v := (0 : Int32)) hx hb hr rfl (fun t ht hW => ⟨⟨(0 : Int32), (), rfl, (Option.some.inj h).symm, by rw [ht]; exact hP, va_K.moved hW.alike hK, hD⟩, hS.F ht⟩) hS.2.2 d_U_isBlock_15
  · have h := ck_f hc h
    refine lv_iload_n hx hb d_U_isBlock_4 rfl (lv_at hl 0 rfl) ?_
    refine lv_bipush (v := (16 : Int32)) hx hb d_U_isBlock_5 (by decide) ?_
    refine lv_icmp_ge (tgt := 14) hx hb d_U_isBlock_7 (by decide) (fun hc => ?_) (fun hc => ?_)
    · have h := ck_t hc h
      refine lv_iconst (v := (0 : Int32)) hx hb d_U_isBlock_14 (by decide) ?_
      exact W.zret (v := (0 : Int32)) hx hb hr rfl (fun t ht hW => ⟨⟨(0 : Int32), (), rfl, (Option.some.inj h).symm, by rw [ht]; exact hP, va_K.moved hW.alike hK, hD⟩, hS.F ht⟩) hS.2.2 d_U_isBlock_15
    · have h := ck_f hc h
      refine lv_iconst (v := (1 : Int32)) hx hb d_U_isBlock_10 (by decide) ?_
      refine lv_goto (tgt := 15) hx hb d_U_isBlock_11 (by decide) ?_
      exact W.zret (v := (1 : Int32)) hx hb hr rfl (fun t ht hW => ⟨⟨(1 : Int32), (), rfl, (Option.some.inj h).symm, by rw [ht]; exact hP, va_K.moved hW.alike hK, hD⟩, hS.F ht⟩) hS.2.2 d_U_isBlock_15
set_option maxHeartbeats 4000000 in
set_option maxRecDepth 100000 in
theorem c_U_freeSegments (l : Launch) (dC : Nat → ClassId) (dI : Nat → Nat → Nat) (cI cZ cJ : ClassId) (a_u a_d a_p a_pb a_pf a_r a_rs a_rb a_ru a_rz a_rh a_rl a_c a_cp a_st a_pl : Nat) (sz n N : Nat) (uOpen : Int32) (uFill : Int32) (uSaved : Int32) (uSerial : Int32) (uDown : Int32) (uSts : Nat → Int32)  (res : Int32) (hM : U_freeSegments n uSts = some res) : Met l y_U_freeSegments w_U_freeSegments ({ frames := 0, cells := 0, slots := 0, locals := 0 }) (va_Pc [.ref a_u] (fun U => U.heap.size = sz ∧ va_P (dC, dI) classes [(a_u, .inr (0, [.ref a_d, .ref a_p, .ref a_r, .ref a_c, .ref a_st, .ref a_pl, .int uOpen, .int uFill, .int uSaved, .int uSerial, .int uDown])), (a_st, .inl (cI, n, .inl uSts))] U.heap ∧ va_K (dC, dI) classes [(cI, .int), (cZ, .boolean), (cJ, .long)] U ∧ va_D (fun _ => True) [(a_u, .inr (0, [.ref a_d, .ref a_p, .ref a_r, .ref a_c, .ref a_st, .ref a_pl, .int uOpen, .int uFill, .int uSaved, .int uSerial, .int uDown])), (a_st, .inl (cI, n, .inl uSts))] ∧ Ns U)) (va_Qi (fun (r : Int32) (z : Unit) => res = r) (fun (z : Unit) (t : State) => va_P (dC, dI) classes [(a_u, .inr (0, [.ref a_d, .ref a_p, .ref a_r, .ref a_c, .ref a_st, .ref a_pl, .int uOpen, .int uFill, .int uSaved, .int uSerial, .int uDown])), (a_st, .inl (cI, n, .inl uSts))] t.heap ∧ va_K (dC, dI) classes [(cI, .int), (cZ, .boolean), (cJ, .long)] t ∧ va_D (va_A [(a_u, .inr (0, [.ref a_d, .ref a_p, .ref a_r, .ref a_c, .ref a_st, .ref a_pl, .int uOpen, .int uFill, .int uSaved, .int uSerial, .int uDown])), (a_st, .inl (cI, n, .inl uSts))] sz) [(a_u, .inr (0, [.ref a_d, .ref a_p, .ref a_r, .ref a_c, .ref a_st, .ref a_pl, .int uOpen, .int uFill, .int uSaved, .int uSerial, .int uDown])), (a_st, .inl (cI, n, .inl uSts))]) (va_A [(a_u, .inr (0, [.ref a_d, .ref a_p, .ref a_r, .ref a_c, .ref a_st, .ref a_pl, .int uOpen, .int uFill, .int uSaved, .int uSerial, .int uDown])), (a_st, .inl (cI, n, .inl uSts))] sz)) 0 0 (va_A [(a_u, .inr (0, [.ref a_d, .ref a_p, .ref a_r, .ref a_c, .ref a_st, .ref a_pl, .int uOpen, .int uFill, .int uSaved, .int uSerial, .int uDown])), (a_st, .inl (cI, n, .inl uSts))] sz) := by
  refine Met.ofW (cc := b_U_freeSegments) (maxL := 3) (ret := (some .int)) (by decide) rfl ?_
  intro p e s m args below meth c s₁ B hml hv
  obtain ⟨rfl, hsz, hP, hK, hD0, hN⟩ := hv
  have hx := B.exec
  have hb := B.bytes
  have hr := B.returns
  have hts := atoms_spec (ws := w_U_freeSegments) B.pre
  have htT : ∀ w ∈ lwG, w.before _ s = true := fun w h => hts w (List.mem_cons_of_mem _ h)
  have hown : s.vm.findClass R_U = some m.cls := findClass_of_methodNamed B.named
  have hlocks := B.notSynchronized
  subst hsz
  have hD := hD0.self (sz := s.heap.size)
  generalize hAe : va_A [(a_u, .inr (0, [.ref a_d, .ref a_p, .ref a_r, .ref a_c, .ref a_st, .ref a_pl, .int uOpen, .int uFill, .int uSaved, .int uSerial, .int uDown])), (a_st, .inl (cI, n, .inl uSts))] s.heap.size = A at hD ⊢
  have hA : ∀ q : Nat, s.heap.size ≤ q → A q := fun q h => by rw [← hAe]; exact Or.inr h
  have hS : va_S A s.heap s.heap [] := va_S.rf
  have hP : va_P (dC, dI) classes [(a_u, .inr (0, [.ref a_d, .ref a_p, .ref a_r, .ref a_c, .ref a_st, .ref a_pl, .int uOpen, .int uFill, .int uSaved, .int uSerial, .int uDown])), (a_st, .inl (cI, n, .inl uSts))] s.heap := hP
  have hl := lv_entry ([.ref a_u]) (n := 3) (Nat.le_of_ble_eq_true rfl)
  rw [lg_entry_eq]
  generalize (lg_sl ([.ref a_u]) ++ List.replicate (3 - (lg_sl ([.ref a_u])).length) Slot.unset).toArray = ls at hl ⊢
  have hl : lv_has ls 3 [(0, .ref a_u)] := hl
  have h := hM
  rw [U_freeSegments] at h
  refine lv_iconst (v := (0 : Int32)) hx hb d_U_freeSegments_0 (by decide) ?_
  refine lv_istore_n hx hb d_U_freeSegments_1 rfl hl (by decide) rfl (fun ls hl => ?_)
  have hl : lv_has ls 3 [(1, .int (0 : Int32)), (0, .ref a_u)] := hl
  refine lv_iconst (v := (0 : Int32)) hx hb d_U_freeSegments_2 (by decide) ?_
  refine lv_istore_n hx hb d_U_freeSegments_3 rfl hl (by decide) rfl (fun ls hl => ?_)
  have hl : lv_has ls 3 [(2, .int (0 : Int32)), (1, .int (0 : Int32)), (0, .ref a_u)] := hl
  have L4 : ∀ (K4 : Int32 → Int32 → Option (Int32)) (fuel : Nat) (x1_w4 : Int32) (x2_w4 : Int32) (ls : Array Slot) (H : Heap) (locs : List Loc), lv_has ls 3 [(0, .ref a_u), (1, .int x1_w4), (2, .int x2_w4)] → va_P (dC, dI) classes [(a_u, .inr (0, [.ref a_d, .ref a_p, .ref a_r, .ref a_c, .ref a_st, .ref a_pl, .int uOpen, .int uFill, .int uSaved, .int uSerial, .int uDown])), (a_st, .inl (cI, n, .inl uSts))] H → va_D A [(a_u, .inr (0, [.ref a_d, .ref a_p, .ref a_r, .ref a_c, .ref a_st, .ref a_pl, .int uOpen, .int uFill, .int uSaved, .int uSerial, .int uDown])), (a_st, .inl (cI, n, .inl uSts))] → va_S A s.heap H locs → U_freeSegments_L4 n uSts K4 fuel x1_w4 x2_w4 = some res → (∀ (x1_w4 : Int32) (x2_w4 : Int32) (ls : Array Slot) (H : Heap) (locs : List Loc), lv_has ls 3 [(0, .ref a_u), (1, .int x1_w4), (2, .int x2_w4)] → va_P (dC, dI) classes [(a_u, .inr (0, [.ref a_d, .ref a_p, .ref a_r, .ref a_c, .ref a_st, .ref a_pl, .int uOpen, .int uFill, .int uSaved, .int uSerial, .int uDown])), (a_st, .inl (cI, n, .inl uSts))] H → va_D A [(a_u, .inr (0, [.ref a_d, .ref a_p, .ref a_r, .ref a_c, .ref a_st, .ref a_pl, .int uOpen, .int uFill, .int uSaved, .int uSerial, .int uDown])), (a_st, .inl (cI, n, .inl uSts))] → va_S A s.heap H locs → K4 x1_w4 x2_w4 = some res → W p l e (headSpec w_U_freeSegments ({ frames := 0, cells := 0, slots := 0, locals := 0 })).room s m ([.ref a_u] : List Value).toArray below meth c H locs 0 0 (MQ below (va_Qi (fun (r : Int32) (z : Unit) => res = r) (fun (z : Unit) (t : State) => va_P (dC, dI) classes [(a_u, .inr (0, [.ref a_d, .ref a_p, .ref a_r, .ref a_c, .ref a_st, .ref a_pl, .int uOpen, .int uFill, .int uSaved, .int uSerial, .int uDown])), (a_st, .inl (cI, n, .inl uSts))] t.heap ∧ va_K (dC, dI) classes [(cI, .int), (cZ, .boolean), (cJ, .long)] t ∧ va_D A [(a_u, .inr (0, [.ref a_d, .ref a_p, .ref a_r, .ref a_c, .ref a_st, .ref a_pl, .int uOpen, .int uFill, .int uSaved, .int uSerial, .int uDown])), (a_st, .inl (cI, n, .inl uSts))]) A) ([.ref a_u] : List Value).toArray s 0 0 A) (F0 m 31 ls [])) → W p l e (headSpec w_U_freeSegments ({ frames := 0, cells := 0, slots := 0, locals := 0 })).room s m ([.ref a_u] : List Value).toArray below meth c H locs 0 0 (MQ below (va_Qi (fun (r : Int32) (z : Unit) => res = r) (fun (z : Unit) (t : State) => va_P (dC, dI) classes [(a_u, .inr (0, [.ref a_d, .ref a_p, .ref a_r, .ref a_c, .ref a_st, .ref a_pl, .int uOpen, .int uFill, .int uSaved, .int uSerial, .int uDown])), (a_st, .inl (cI, n, .inl uSts))] t.heap ∧ va_K (dC, dI) classes [(cI, .int), (cZ, .boolean), (cJ, .long)] t ∧ va_D A [(a_u, .inr (0, [.ref a_d, .ref a_p, .ref a_r, .ref a_c, .ref a_st, .ref a_pl, .int uOpen, .int uFill, .int uSaved, .int uSerial, .int uDown])), (a_st, .inl (cI, n, .inl uSts))]) A) ([.ref a_u] : List Value).toArray s 0 0 A) (F0 m 4 ls []) := by
    intro K4 fuel
    induction fuel with
    | zero => intro x1_w4 x2_w4 ls H locs hl hP hD hS h hk4; exact absurd (show (none : Option (Int32)) = some res from h) (by intro q; cases q)
    | succ fuel ih4 =>
      intro x1_w4 x2_w4 ls H locs hl hP hD hS h hk4
      rw [U_freeSegments_L4] at h
      refine lv_iload_n hx hb d_U_freeSegments_4 rfl (lv_at hl 2 rfl) ?_
      refine lv_aload_n hx hb d_U_freeSegments_5 rfl (lv_at hl 0 rfl) ?_
      refine va_get (D := (dC, dI)) (ci := 0) (v := .ref a_st) (C := R_U) (T := F_U) (N := 11) hx hb htT i_U hown hK hP 0 rfl rfl 4 (by decide) (htT _ kf_U_48) (fun _ h9 => h9) rfl d_U_freeSegments_6 ?_
      refine va_alen (v := (nI n)) hx hb hK hP 1 0 rfl rfl rfl d_U_freeSegments_9 ?_
      refine lv_icmp_ge (tgt := 31) hx hb d_U_freeSegments_10 (by decide) (fun hc => ?_) (fun hc => ?_)
      · have h := ck_t hc h
        have hl : lv_has ls 3 [(0, .ref a_u), (1, .int x1_w4), (2, .int x2_w4)] := lv_sub hl [0, 1, 2] rfl
        exact hk4 _ _ _ _ _ hl hP hD hS h
      · have h := ck_f hc h
        refine lv_aload_n hx hb d_U_freeSegments_13 rfl (lv_at hl 0 rfl) ?_
        refine va_get (D := (dC, dI)) (ci := 0) (v := .ref a_st) (C := R_U) (T := F_U) (N := 11) hx hb htT i_U hown hK hP 0 rfl rfl 4 (by decide) (htT _ kf_U_48) (fun _ h9 => h9) rfl d_U_freeSegments_14 ?_
        refine lv_iload_n hx hb d_U_freeSegments_17 rfl (lv_at hl 2 rfl) ?_
        obtain ⟨hin, h⟩ := ck_in h
        refine va_iald hx hb hK hP 1 0 rfl rfl hin d_U_freeSegments_18 ?_
        refine lv_if_ne (tgt := 25) hx hb d_U_freeSegments_19 (by decide) (fun hc => ?_) (fun hc => ?_)
        · have h := ck_f hc h
          refine lv_iinc (k := 2) (v := (x2_w4 + (1 : Int32))) hx hb d_U_freeSegments_25 hl rfl (congrArg (fun y => x2_w4 + y) (by decide)) (by decide) rfl (fun ls hl => ?_)
          have hl : lv_has ls 3 [(2, .int (x2_w4 + (1 : Int32))), (0, .ref a_u), (1, .int x1_w4)] := hl
          refine lv_goto (tgt := 4) hx hb d_U_freeSegments_28 (by decide) ?_
          have hl : lv_has ls 3 [(0, .ref a_u), (1, .int x1_w4), (2, .int (x2_w4 + (1 : Int32)))] := lv_sub hl [1, 2, 0] rfl
          exact ih4 _ _ _ _ _ hl hP hD hS h hk4
        · have h := ck_t hc h
          refine lv_iinc (k := 1) (v := (x1_w4 + (1 : Int32))) hx hb d_U_freeSegments_22 hl rfl (congrArg (fun y => x1_w4 + y) (by decide)) (by decide) rfl (fun ls hl => ?_)
          have hl : lv_has ls 3 [(1, .int (x1_w4 + (1 : Int32))), (0, .ref a_u), (2, .int x2_w4)] := hl
          refine lv_iinc (k := 2) (v := (x2_w4 + (1 : Int32))) hx hb d_U_freeSegments_25 hl rfl (congrArg (fun y => x2_w4 + y) (by decide)) (by decide) rfl (fun ls hl => ?_)
          have hl : lv_has ls 3 [(2, .int (x2_w4 + (1 : Int32))), (1, .int (x1_w4 + (1 : Int32))), (0, .ref a_u)] := hl
          refine lv_goto (tgt := 4) hx hb d_U_freeSegments_28 (by decide) ?_
          have hl : lv_has ls 3 [(0, .ref a_u), (1, .int (x1_w4 + (1 : Int32))), (2, .int (x2_w4 + (1 : Int32)))] := lv_sub hl [2, 1, 0] rfl
          exact ih4 _ _ _ _ _ hl hP hD hS h hk4
  have hl : lv_has ls 3 [(0, .ref a_u), (1, .int (0 : Int32)), (2, .int (0 : Int32))] := lv_sub hl [2, 1, 0] rfl
  refine L4 _ _ _ _ _ _ _ hl hP hD hS h ?_
  intro x1_k4 x2_k4 ls H locs hl hP hD hS h
  refine lv_iload_n hx hb d_U_freeSegments_31 rfl (lv_at hl 1 rfl) ?_
  exact W.iret (v := x1_k4) hx hb hr (fun t ht hW => ⟨⟨x1_k4, (), rfl, (Option.some.inj h).symm, by rw [ht]; exact hP, va_K.moved hW.alike hK, hD⟩, hS.F ht⟩) hS.2.2 d_U_freeSegments_32
set_option maxHeartbeats 4000000 in
set_option maxRecDepth 100000 in
theorem c_D_writeUnit (l : Launch) (dC : Nat → ClassId) (dI : Nat → Nat → Nat) (cI cZ cJ : ClassId) (a_u a_d a_p a_pb a_pf a_r a_rs a_rb a_ru a_rz a_rh a_rl a_c a_cp a_st a_pl : Nat) (sz n N : Nat) (uArmed : Int32) (uWritten : Int32)  (res : Int32 × Int32 × Int32) (hM : D_writeUnit uArmed uWritten = some res) : Met l y_D_writeUnit w_D_writeUnit ({ frames := 0, cells := 0, slots := 0, locals := 0 }) (va_Pc [.ref a_d] (fun U => U.heap.size = sz ∧ va_P (dC, dI) classes [(a_d, .inr (1, [.int uArmed, .int uWritten]))] U.heap ∧ va_K (dC, dI) classes [(cI, .int), (cZ, .boolean), (cJ, .long)] U ∧ va_D (fun _ => True) [(a_d, .inr (1, [.int uArmed, .int uWritten]))] ∧ Ns U)) (va_Qi (fun (r : Int32) (z : Int32 × Int32) => res = (r, z)) (fun (z : Int32 × Int32) (t : State) => va_P (dC, dI) classes [(a_d, .inr (1, [.int z.1, .int z.2]))] t.heap ∧ va_K (dC, dI) classes [(cI, .int), (cZ, .boolean), (cJ, .long)] t ∧ va_D (va_A [(a_d, .inr (1, [.int uArmed, .int uWritten]))] sz) [(a_d, .inr (1, [.int z.1, .int z.2]))]) (va_A [(a_d, .inr (1, [.int uArmed, .int uWritten]))] sz)) 0 0 (va_A [(a_d, .inr (1, [.int uArmed, .int uWritten]))] sz) := by
  refine Met.ofW (cc := b_D_writeUnit) (maxL := 1) (ret := (some .boolean)) (by decide) rfl ?_
  intro p e s m args below meth c s₁ B hml hv
  obtain ⟨rfl, hsz, hP, hK, hD0, hN⟩ := hv
  have hx := B.exec
  have hb := B.bytes
  have hr := B.returns
  have hts := atoms_spec (ws := w_D_writeUnit) B.pre
  have htT : ∀ w ∈ lwG, w.before _ s = true := fun w h => hts w (List.mem_cons_of_mem _ h)
  have hown : s.vm.findClass R_D = some m.cls := findClass_of_methodNamed B.named
  have hlocks := B.notSynchronized
  subst hsz
  have hD := hD0.self (sz := s.heap.size)
  generalize hAe : va_A [(a_d, .inr (1, [.int uArmed, .int uWritten]))] s.heap.size = A at hD ⊢
  have hA : ∀ q : Nat, s.heap.size ≤ q → A q := fun q h => by rw [← hAe]; exact Or.inr h
  have hS : va_S A s.heap s.heap [] := va_S.rf
  have hP : va_P (dC, dI) classes [(a_d, .inr (1, [.int uArmed, .int uWritten]))] s.heap := hP
  have hl := lv_entry ([.ref a_d]) (n := 1) (Nat.le_of_ble_eq_true rfl)
  rw [lg_entry_eq]
  generalize (lg_sl ([.ref a_d]) ++ List.replicate (1 - (lg_sl ([.ref a_d])).length) Slot.unset).toArray = ls at hl ⊢
  have hl : lv_has ls 1 [(0, .ref a_d)] := hl
  have h := hM
  rw [D_writeUnit] at h
  refine lv_aload_n hx hb d_D_writeUnit_0 rfl (lv_at hl 0 rfl) ?_
  refine va_get (D := (dC, dI)) (ci := 1) (v := .int uArmed) (C := R_D) (T := F_D) (N := 2) hx hb htT i_D hown hK hP 0 rfl rfl 0 (by decide) (htT _ kf_D_9) (fun _ h9 => h9) rfl d_D_writeUnit_1 ?_
  refine lv_if_ne (tgt := 9) hx hb d_D_writeUnit_4 (by decide) (fun hc => ?_) (fun hc => ?_)
  · have h := ck_f hc h
    refine lv_aload_n hx hb d_D_writeUnit_9 rfl (lv_at hl 0 rfl) ?_
    refine va_get (D := (dC, dI)) (ci := 1) (v := .int uArmed) (C := R_D) (T := F_D) (N := 2) hx hb htT i_D hown hK hP 0 rfl rfl 0 (by decide) (htT _ kf_D_9) (fun _ h9 => h9) rfl d_D_writeUnit_10 ?_
    refine lv_if_le (tgt := 26) hx hb d_D_writeUnit_13 (by decide) (fun hc => ?_) (fun hc => ?_)
    · have h := ck_t hc h
      refine lv_aload_n hx hb d_D_writeUnit_26 rfl (lv_at hl 0 rfl) ?_
      refine lv_dup hx hb d_D_writeUnit_27 rfl ?_
      refine va_get (D := (dC, dI)) (ci := 1) (v := .int uWritten) (C := R_D) (T := F_D) (N := 2) hx hb htT i_D hown hK hP 0 rfl rfl 1 (by decide) (htT _ kf_D_15) (fun _ h9 => h9) rfl d_D_writeUnit_28 ?_
      refine lv_iconst (v := (1 : Int32)) hx hb d_D_writeUnit_31 (by decide) ?_
      refine lv_iadd hx hb d_D_writeUnit_32 ?_
      refine va_put (D := (dC, dI)) (ci := 1) (v := .int (uWritten + (1 : Int32))) (ty := .int) (C := R_D) (T := F_D) (N := 2) hx hb htT i_D t_D t_D_ok n_D hown hK hP hD hS 0 rfl rfl 1 (by decide) (htT _ kf_D_15) (fun _ h9 => h9) rfl (by decide +kernel) rfl rfl (Nat.le_of_ble_eq_true rfl) d_D_writeUnit_33 (fun H locs hP hD hS => ?_)
      have hP : va_P (dC, dI) classes [(a_d, .inr (1, [.int uArmed, .int (uWritten + (1 : Int32))]))] H := hP
      have hD : va_D A [(a_d, .inr (1, [.int uArmed, .int (uWritten + (1 : Int32))]))] := hD
      refine lv_iconst (v := (1 : Int32)) hx hb d_D_writeUnit_36 (by decide) ?_
      exact W.zret (v := (1 : Int32)) hx hb hr rfl (fun t ht hW => ⟨⟨(1 : Int32), (uArmed, (uWritten + (1 : Int32))), rfl, (Option.some.inj h).symm, by rw [ht]; exact hP, va_K.moved hW.alike hK, hD⟩, hS.F ht⟩) hS.2.2 d_D_writeUnit_37
    · have h := ck_f hc h
      refine lv_aload_n hx hb d_D_writeUnit_16 rfl (lv_at hl 0 rfl) ?_
      refine lv_dup hx hb d_D_writeUnit_17 rfl ?_
      refine va_get (D := (dC, dI)) (ci := 1) (v := .int uArmed) (C := R_D) (T := F_D) (N := 2) hx hb htT i_D hown hK hP 0 rfl rfl 0 (by decide) (htT _ kf_D_9) (fun _ h9 => h9) rfl d_D_writeUnit_18 ?_
      refine lv_iconst (v := (1 : Int32)) hx hb d_D_writeUnit_21 (by decide) ?_
      refine lv_isub hx hb d_D_writeUnit_22 ?_
      refine va_put (D := (dC, dI)) (ci := 1) (v := .int (uArmed - (1 : Int32))) (ty := .int) (C := R_D) (T := F_D) (N := 2) hx hb htT i_D t_D t_D_ok n_D hown hK hP hD hS 0 rfl rfl 0 (by decide) (htT _ kf_D_9) (fun _ h9 => h9) rfl (by decide +kernel) rfl rfl (Nat.le_of_ble_eq_true rfl) d_D_writeUnit_23 (fun H locs hP hD hS => ?_)
      have hP : va_P (dC, dI) classes [(a_d, .inr (1, [.int (uArmed - (1 : Int32)), .int uWritten]))] H := hP
      have hD : va_D A [(a_d, .inr (1, [.int (uArmed - (1 : Int32)), .int uWritten]))] := hD
      refine lv_aload_n hx hb d_D_writeUnit_26 rfl (lv_at hl 0 rfl) ?_
      refine lv_dup hx hb d_D_writeUnit_27 rfl ?_
      refine va_get (D := (dC, dI)) (ci := 1) (v := .int uWritten) (C := R_D) (T := F_D) (N := 2) hx hb htT i_D hown hK hP 0 rfl rfl 1 (by decide) (htT _ kf_D_15) (fun _ h9 => h9) rfl d_D_writeUnit_28 ?_
      refine lv_iconst (v := (1 : Int32)) hx hb d_D_writeUnit_31 (by decide) ?_
      refine lv_iadd hx hb d_D_writeUnit_32 ?_
      refine va_put (D := (dC, dI)) (ci := 1) (v := .int (uWritten + (1 : Int32))) (ty := .int) (C := R_D) (T := F_D) (N := 2) hx hb htT i_D t_D t_D_ok n_D hown hK hP hD hS 0 rfl rfl 1 (by decide) (htT _ kf_D_15) (fun _ h9 => h9) rfl (by decide +kernel) rfl rfl (Nat.le_of_ble_eq_true rfl) d_D_writeUnit_33 (fun H locs hP hD hS => ?_)
      have hP : va_P (dC, dI) classes [(a_d, .inr (1, [.int (uArmed - (1 : Int32)), .int (uWritten + (1 : Int32))]))] H := hP
      have hD : va_D A [(a_d, .inr (1, [.int (uArmed - (1 : Int32)), .int (uWritten + (1 : Int32))]))] := hD
      refine lv_iconst (v := (1 : Int32)) hx hb d_D_writeUnit_36 (by decide) ?_
      exact W.zret (v := (1 : Int32)) hx hb hr rfl (fun t ht hW => ⟨⟨(1 : Int32), ((uArmed - (1 : Int32)), (uWritten + (1 : Int32))), rfl, (Option.some.inj h).symm, by rw [ht]; exact hP, va_K.moved hW.alike hK, hD⟩, hS.F ht⟩) hS.2.2 d_D_writeUnit_37
  · have h := ck_t hc h
    refine lv_iconst (v := (0 : Int32)) hx hb d_D_writeUnit_7 (by decide) ?_
    exact W.zret (v := (0 : Int32)) hx hb hr rfl (fun t ht hW => ⟨⟨(0 : Int32), (uArmed, uWritten), rfl, (Option.some.inj h).symm, by rw [ht]; exact hP, va_K.moved hW.alike hK, hD⟩, hS.F ht⟩) hS.2.2 d_D_writeUnit_8
set_option maxHeartbeats 4000000 in
set_option maxRecDepth 100000 in
theorem c_U_saveUnits (l : Launch) (dC : Nat → ClassId) (dI : Nat → Nat → Nat) (cI cZ cJ : ClassId) (a_u a_d a_p a_pb a_pf a_r a_rs a_rb a_ru a_rz a_rh a_rl a_c a_cp a_st a_pl : Nat) (sz n N : Nat) (uOpen : Int32) (uFill : Int32) (uSaved : Int32) (uSerial : Int32) (uDown : Int32) (uArmed : Int32) (uWritten : Int32)  (res : Int32 × Int32 × Int32 × Int32) (hM : U_saveUnits uFill uSaved uArmed uWritten = some res) : Met l y_U_saveUnits w_U_saveUnits ({ frames := 1, cells := 0, slots := 0, locals := 20 }) (va_Pc [.ref a_u] (fun U => U.heap.size = sz ∧ va_P (dC, dI) classes [(a_u, .inr (0, [.ref a_d, .ref a_p, .ref a_r, .ref a_c, .ref a_st, .ref a_pl, .int uOpen, .int uFill, .int uSaved, .int uSerial, .int uDown])), (a_d, .inr (1, [.int uArmed, .int uWritten]))] U.heap ∧ va_K (dC, dI) classes [(cI, .int), (cZ, .boolean), (cJ, .long)] U ∧ va_D (fun _ => True) [(a_u, .inr (0, [.ref a_d, .ref a_p, .ref a_r, .ref a_c, .ref a_st, .ref a_pl, .int uOpen, .int uFill, .int uSaved, .int uSerial, .int uDown])), (a_d, .inr (1, [.int uArmed, .int uWritten]))] ∧ Ns U)) (va_Qi (fun (r : Int32) (z : Int32 × Int32 × Int32) => res = (r, z)) (fun (z : Int32 × Int32 × Int32) (t : State) => va_P (dC, dI) classes [(a_u, .inr (0, [.ref a_d, .ref a_p, .ref a_r, .ref a_c, .ref a_st, .ref a_pl, .int uOpen, .int uFill, .int z.1, .int uSerial, .int uDown])), (a_d, .inr (1, [.int z.2.1, .int z.2.2]))] t.heap ∧ va_K (dC, dI) classes [(cI, .int), (cZ, .boolean), (cJ, .long)] t ∧ va_D (va_A [(a_u, .inr (0, [.ref a_d, .ref a_p, .ref a_r, .ref a_c, .ref a_st, .ref a_pl, .int uOpen, .int uFill, .int uSaved, .int uSerial, .int uDown])), (a_d, .inr (1, [.int uArmed, .int uWritten]))] sz) [(a_u, .inr (0, [.ref a_d, .ref a_p, .ref a_r, .ref a_c, .ref a_st, .ref a_pl, .int uOpen, .int uFill, .int z.1, .int uSerial, .int uDown])), (a_d, .inr (1, [.int z.2.1, .int z.2.2]))]) (va_A [(a_u, .inr (0, [.ref a_d, .ref a_p, .ref a_r, .ref a_c, .ref a_st, .ref a_pl, .int uOpen, .int uFill, .int uSaved, .int uSerial, .int uDown])), (a_d, .inr (1, [.int uArmed, .int uWritten]))] sz)) 0 0 (va_A [(a_u, .inr (0, [.ref a_d, .ref a_p, .ref a_r, .ref a_c, .ref a_st, .ref a_pl, .int uOpen, .int uFill, .int uSaved, .int uSerial, .int uDown])), (a_d, .inr (1, [.int uArmed, .int uWritten]))] sz) := by
  refine Met.ofW (cc := b_U_saveUnits) (maxL := 2) (ret := (some .boolean)) (by decide) rfl ?_
  intro p e s m args below meth c s₁ B hml hv
  obtain ⟨rfl, hsz, hP, hK, hD0, hN⟩ := hv
  have hx := B.exec
  have hb := B.bytes
  have hr := B.returns
  have hts := atoms_spec (ws := w_U_saveUnits) B.pre
  have htT : ∀ w ∈ lwG, w.before _ s = true := fun w h => hts w (List.mem_cons_of_mem _ h)
  have hown : s.vm.findClass R_U = some m.cls := findClass_of_methodNamed B.named
  have hlocks := B.notSynchronized
  subst hsz
  have hD := hD0.self (sz := s.heap.size)
  generalize hAe : va_A [(a_u, .inr (0, [.ref a_d, .ref a_p, .ref a_r, .ref a_c, .ref a_st, .ref a_pl, .int uOpen, .int uFill, .int uSaved, .int uSerial, .int uDown])), (a_d, .inr (1, [.int uArmed, .int uWritten]))] s.heap.size = A at hD ⊢
  have hA : ∀ q : Nat, s.heap.size ≤ q → A q := fun q h => by rw [← hAe]; exact Or.inr h
  have hS : va_S A s.heap s.heap [] := va_S.rf
  have hP : va_P (dC, dI) classes [(a_u, .inr (0, [.ref a_d, .ref a_p, .ref a_r, .ref a_c, .ref a_st, .ref a_pl, .int uOpen, .int uFill, .int uSaved, .int uSerial, .int uDown])), (a_d, .inr (1, [.int uArmed, .int uWritten]))] s.heap := hP
  have hl := lv_entry ([.ref a_u]) (n := 2) (Nat.le_of_ble_eq_true rfl)
  rw [lg_entry_eq]
  generalize (lg_sl ([.ref a_u]) ++ List.replicate (2 - (lg_sl ([.ref a_u])).length) Slot.unset).toArray = ls at hl ⊢
  have hl : lv_has ls 2 [(0, .ref a_u)] := hl
  have h := hM
  rw [U_saveUnits] at h
  refine lv_aload_n hx hb d_U_saveUnits_0 rfl (lv_at hl 0 rfl) ?_
  refine va_get (D := (dC, dI)) (ci := 0) (v := .int uSaved) (C := R_U) (T := F_U) (N := 11) hx hb htT i_U hown hK hP 0 rfl rfl 8 (by decide) (htT _ kf_U_103) (fun _ h9 => h9) rfl d_U_saveUnits_1 ?_
  refine lv_istore_n hx hb d_U_saveUnits_4 rfl hl (by decide) rfl (fun ls hl => ?_)
  have hl : lv_has ls 2 [(1, .int uSaved), (0, .ref a_u)] := hl
  have L5 : ∀ (K5 : Int32 → Int32 → Int32 → Int32 → Option (Int32 × Int32 × Int32 × Int32)) (fuel : Nat) (uSaved_w5 : Int32) (uArmed_w5 : Int32) (uWritten_w5 : Int32) (x1_w5 : Int32) (ls : Array Slot) (H : Heap) (locs : List Loc), lv_has ls 2 [(0, .ref a_u), (1, .int x1_w5)] → va_P (dC, dI) classes [(a_u, .inr (0, [.ref a_d, .ref a_p, .ref a_r, .ref a_c, .ref a_st, .ref a_pl, .int uOpen, .int uFill, .int uSaved_w5, .int uSerial, .int uDown])), (a_d, .inr (1, [.int uArmed_w5, .int uWritten_w5]))] H → va_D A [(a_u, .inr (0, [.ref a_d, .ref a_p, .ref a_r, .ref a_c, .ref a_st, .ref a_pl, .int uOpen, .int uFill, .int uSaved_w5, .int uSerial, .int uDown])), (a_d, .inr (1, [.int uArmed_w5, .int uWritten_w5]))] → va_S A s.heap H locs → U_saveUnits_L5 uFill K5 fuel uSaved_w5 uArmed_w5 uWritten_w5 x1_w5 = some res → (∀ (uSaved_w5 : Int32) (uArmed_w5 : Int32) (uWritten_w5 : Int32) (x1_w5 : Int32) (ls : Array Slot) (H : Heap) (locs : List Loc), lv_has ls 2 [(0, .ref a_u), (1, .int x1_w5)] → va_P (dC, dI) classes [(a_u, .inr (0, [.ref a_d, .ref a_p, .ref a_r, .ref a_c, .ref a_st, .ref a_pl, .int uOpen, .int uFill, .int uSaved_w5, .int uSerial, .int uDown])), (a_d, .inr (1, [.int uArmed_w5, .int uWritten_w5]))] H → va_D A [(a_u, .inr (0, [.ref a_d, .ref a_p, .ref a_r, .ref a_c, .ref a_st, .ref a_pl, .int uOpen, .int uFill, .int uSaved_w5, .int uSerial, .int uDown])), (a_d, .inr (1, [.int uArmed_w5, .int uWritten_w5]))] → va_S A s.heap H locs → K5 uSaved_w5 uArmed_w5 uWritten_w5 x1_w5 = some res → W p l e (headSpec w_U_saveUnits ({ frames := 1, cells := 0, slots := 0, locals := 20 })).room s m ([.ref a_u] : List Value).toArray below meth c H locs 0 0 (MQ below (va_Qi (fun (r : Int32) (z : Int32 × Int32 × Int32) => res = (r, z)) (fun (z : Int32 × Int32 × Int32) (t : State) => va_P (dC, dI) classes [(a_u, .inr (0, [.ref a_d, .ref a_p, .ref a_r, .ref a_c, .ref a_st, .ref a_pl, .int uOpen, .int uFill, .int z.1, .int uSerial, .int uDown])), (a_d, .inr (1, [.int z.2.1, .int z.2.2]))] t.heap ∧ va_K (dC, dI) classes [(cI, .int), (cZ, .boolean), (cJ, .long)] t ∧ va_D A [(a_u, .inr (0, [.ref a_d, .ref a_p, .ref a_r, .ref a_c, .ref a_st, .ref a_pl, .int uOpen, .int uFill, .int z.1, .int uSerial, .int uDown])), (a_d, .inr (1, [.int z.2.1, .int z.2.2]))]) A) ([.ref a_u] : List Value).toArray s 0 0 A) (F0 m 38 ls [])) → W p l e (headSpec w_U_saveUnits ({ frames := 1, cells := 0, slots := 0, locals := 20 })).room s m ([.ref a_u] : List Value).toArray below meth c H locs 0 0 (MQ below (va_Qi (fun (r : Int32) (z : Int32 × Int32 × Int32) => res = (r, z)) (fun (z : Int32 × Int32 × Int32) (t : State) => va_P (dC, dI) classes [(a_u, .inr (0, [.ref a_d, .ref a_p, .ref a_r, .ref a_c, .ref a_st, .ref a_pl, .int uOpen, .int uFill, .int z.1, .int uSerial, .int uDown])), (a_d, .inr (1, [.int z.2.1, .int z.2.2]))] t.heap ∧ va_K (dC, dI) classes [(cI, .int), (cZ, .boolean), (cJ, .long)] t ∧ va_D A [(a_u, .inr (0, [.ref a_d, .ref a_p, .ref a_r, .ref a_c, .ref a_st, .ref a_pl, .int uOpen, .int uFill, .int z.1, .int uSerial, .int uDown])), (a_d, .inr (1, [.int z.2.1, .int z.2.2]))]) A) ([.ref a_u] : List Value).toArray s 0 0 A) (F0 m 5 ls []) := by
    intro K5 fuel
    induction fuel with
    | zero => intro uSaved_w5 uArmed_w5 uWritten_w5 x1_w5 ls H locs hl hP hD hS h hk5; exact absurd (show (none : Option (Int32 × Int32 × Int32 × Int32)) = some res from h) (by intro q; cases q)
    | succ fuel ih5 =>
      intro uSaved_w5 uArmed_w5 uWritten_w5 x1_w5 ls H locs hl hP hD hS h hk5
      rw [U_saveUnits_L5] at h
      refine lv_iload_n hx hb d_U_saveUnits_5 rfl (lv_at hl 1 rfl) ?_
      refine lv_aload_n hx hb d_U_saveUnits_6 rfl (lv_at hl 0 rfl) ?_
      refine va_get (D := (dC, dI)) (ci := 0) (v := .int uFill) (C := R_U) (T := F_U) (N := 11) hx hb htT i_U hown hK hP 0 rfl rfl 7 (by decide) (htT _ kf_U_101) (fun _ h9 => h9) rfl d_U_saveUnits_7 ?_
      refine lv_icmp_ge (tgt := 38) hx hb d_U_saveUnits_10 (by decide) (fun hc => ?_) (fun hc => ?_)
      · have h := ck_t hc h
        have hl : lv_has ls 2 [(0, .ref a_u), (1, .int x1_w5)] := lv_sub hl [0, 1] rfl
        exact hk5 _ _ _ _ _ _ _ hl hP hD hS h
      · have h := ck_f hc h
        refine lv_aload_n hx hb d_U_saveUnits_13 rfl (lv_at hl 0 rfl) ?_
        refine va_get (D := (dC, dI)) (ci := 0) (v := .ref a_d) (C := R_U) (T := F_U) (N := 11) hx hb htT i_U hown hK hP 0 rfl rfl 0 (by decide) (htT _ kf_U_21) (fun _ h9 => h9) rfl d_U_saveUnits_14 ?_
        obtain ⟨z1, hz, h⟩ := ck_bind h
        have hPc := hP.sub (ws' := [(a_d, .inr (1, [.int uArmed_w5, .int uWritten_w5]))]) [1] rfl
        have hDc := hD.sub (ws' := [(a_d, .inr (1, [.int uArmed_w5, .int uWritten_w5]))]) [1] (by decide) rfl
        have hFc := va_free (wc := [(a_d, .inr (1, [.int uArmed_w5, .int uWritten_w5]))]) hD hS hA [1] rfl
        refine va_calli (va_runV (As := []) (rest := []) ⟨hx, hb, hml, hown, htT⟩ (c_D_writeUnit l dC dI cI cZ cJ a_u a_d a_p a_pb a_pf a_r a_rs a_rb a_ru a_rz a_rh a_rl a_c a_cp a_st a_pl H.size n N uArmed_w5 uWritten_w5  z1 hz) (cwV 0 htT (gV kl_U_175 ki_D_writeUnit ke_D_writeUnit kn_D kc_D_writeUnit) rfl rfl rfl (by decide +kernel) ⟨Nat.le_of_ble_eq_true rfl, Nat.le_of_ble_eq_true rfl⟩) ⟨fun a U g mk q => by obtain ⟨q0, q1, qP, qK, qD, qN⟩ := q; exact ⟨q0, q1, qP, va_K.moved (u := U) (U := U.calling g mk a) (Vm.Alike.refl U.vm) qK, qD, Ns.same (u := U) rfl qN⟩, va_recv (q0 := 1) (q := (R_D, F_D, 2)) hK hP (ci := 1) rfl rfl, fun U hU hW => ⟨rfl, by rw [hU], by rw [hU]; exact hPc, va_K.moved hW.alike hK, hDc.weaken (fun _ _ _ _ => trivial), Ns.warm hW hN⟩⟩ rfl rfl hl.1 rfl (lv_room (Nat.le_of_ble_eq_true rfl)) d_U_saveUnits_17 ⟨(Nat.zero_le _), (Nat.zero_le _)⟩) hS (fun q _ h => hFc q h) hFc (fun r u t H locs ht hvm hw hB hz1 hk1 hS => ?_)
        have e1 := congrArg Prod.fst hw
        have e2 := congrArg Prod.snd hw
        dsimp only at e1 e2
        subst e1
        subst e2
        obtain ⟨hP1, hK1, hD1⟩ := hB
        rw [ht] at hP1
        obtain ⟨hP, hD⟩ := va_join (wr := [(a_u, .inr (0, [.ref a_d, .ref a_p, .ref a_r, .ref a_c, .ref a_st, .ref a_pl, .int uOpen, .int uFill, .int uSaved_w5, .int uSerial, .int uDown]))]) (w1 := [(a_d, .inr (1, [.int z1.2.1, .int z1.2.2]))]) hP hD [1] [0] rfl rfl (by decide) (by decide) hk1 hFc hP1 hD1
        have hP : va_P (dC, dI) classes [(a_u, .inr (0, [.ref a_d, .ref a_p, .ref a_r, .ref a_c, .ref a_st, .ref a_pl, .int uOpen, .int uFill, .int uSaved_w5, .int uSerial, .int uDown])), (a_d, .inr (1, [.int z1.2.1, .int z1.2.2]))] H := hP
        have hD : va_D A [(a_u, .inr (0, [.ref a_d, .ref a_p, .ref a_r, .ref a_c, .ref a_st, .ref a_pl, .int uOpen, .int uFill, .int uSaved_w5, .int uSerial, .int uDown])), (a_d, .inr (1, [.int z1.2.1, .int z1.2.2]))] := hD
        refine lv_if_ne (tgt := 25) hx hb d_U_saveUnits_20 (by decide) (fun hc => ?_) (fun hc => ?_)
        · have h := ck_f hc h
          refine lv_aload_n hx hb d_U_saveUnits_25 rfl (lv_at hl 0 rfl) ?_
          refine lv_iload_n hx hb d_U_saveUnits_26 rfl (lv_at hl 1 rfl) ?_
          refine lv_iconst (v := (1 : Int32)) hx hb d_U_saveUnits_27 (by decide) ?_
          refine lv_iadd hx hb d_U_saveUnits_28 ?_
          refine va_put (D := (dC, dI)) (ci := 0) (v := .int (x1_w5 + (1 : Int32))) (ty := .int) (C := R_U) (T := F_U) (N := 11) hx hb htT i_U t_U t_U_ok n_U hown hK hP hD hS 0 rfl rfl 8 (by decide) (htT _ kf_U_103) (fun _ h9 => h9) rfl (by decide +kernel) rfl rfl (Nat.le_of_ble_eq_true rfl) d_U_saveUnits_29 (fun H locs hP hD hS => ?_)
          have hP : va_P (dC, dI) classes [(a_u, .inr (0, [.ref a_d, .ref a_p, .ref a_r, .ref a_c, .ref a_st, .ref a_pl, .int uOpen, .int uFill, .int (x1_w5 + (1 : Int32)), .int uSerial, .int uDown])), (a_d, .inr (1, [.int z1.2.1, .int z1.2.2]))] H := hP
          have hD : va_D A [(a_u, .inr (0, [.ref a_d, .ref a_p, .ref a_r, .ref a_c, .ref a_st, .ref a_pl, .int uOpen, .int uFill, .int (x1_w5 + (1 : Int32)), .int uSerial, .int uDown])), (a_d, .inr (1, [.int z1.2.1, .int z1.2.2]))] := hD
          refine lv_iinc (k := 1) (v := (x1_w5 + (1 : Int32))) hx hb d_U_saveUnits_32 hl rfl (congrArg (fun y => x1_w5 + y) (by decide)) (by decide) rfl (fun ls hl => ?_)
          have hl : lv_has ls 2 [(1, .int (x1_w5 + (1 : Int32))), (0, .ref a_u)] := hl
          refine lv_goto (tgt := 5) hx hb d_U_saveUnits_35 (by decide) ?_
          have hl : lv_has ls 2 [(0, .ref a_u), (1, .int (x1_w5 + (1 : Int32)))] := lv_sub hl [1, 0] rfl
          exact ih5 _ _ _ _ _ _ _ hl hP hD hS h hk5
        · have h := ck_t hc h
          refine lv_iconst (v := (0 : Int32)) hx hb d_U_saveUnits_23 (by decide) ?_
          exact W.zret (v := (0 : Int32)) hx hb hr rfl (fun t ht hW => ⟨⟨(0 : Int32), (uSaved_w5, z1.2.1, z1.2.2), rfl, (Option.some.inj h).symm, by rw [ht]; exact hP, va_K.moved hW.alike hK, hD⟩, hS.F ht⟩) hS.2.2 d_U_saveUnits_24
  have hl : lv_has ls 2 [(0, .ref a_u), (1, .int uSaved)] := lv_sub hl [1, 0] rfl
  refine L5 _ _ _ _ _ _ _ _ _ hl hP hD hS h ?_
  intro uSaved_k5 uArmed_k5 uWritten_k5 x1_k5 ls H locs hl hP hD hS h
  refine lv_iconst (v := (1 : Int32)) hx hb d_U_saveUnits_38 (by decide) ?_
  exact W.zret (v := (1 : Int32)) hx hb hr rfl (fun t ht hW => ⟨⟨(1 : Int32), (uSaved_k5, uArmed_k5, uWritten_k5), rfl, (Option.some.inj h).symm, by rw [ht]; exact hP, va_K.moved hW.alike hK, hD⟩, hS.F ht⟩) hS.2.2 d_U_saveUnits_39
end
