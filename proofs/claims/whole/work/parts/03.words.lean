set_option maxRecDepth 100000 in
theorem lwG_r {w : Cond} (h : w ∈ tables_1) (g : goodWord w = true) : w ∈ lwG := List.mem_filter.mpr ⟨List.mem_append_right _ h, g⟩
set_option maxRecDepth 100000 in
theorem lwG_l {w : Cond} (h : w ∈ k2_sels lw_privs) (g : goodWord w = true) : w ∈ lwG := List.mem_filter.mpr ⟨List.mem_append_left _ h, g⟩
set_option maxRecDepth 100000 in
theorem lwG_up {w : Cond} (h : w ∈ lwG) : w ∈ lw_tbl := (List.mem_filter.mp h).1
def Ns (U : State) : Prop := ∀ w ∈ nsW, va_Nw w U
def nsk : Cond → Bool
  | .fieldLinkNest .. => true
  | .methodLinkNest .. => true
  | _ => false
set_option maxRecDepth 100000 in
theorem nsk_all : nsW.all nsk = true := by decide +kernel
theorem Ns.warm {s U : State} (hW : s.WarmedH U.vm) (h : Ns s) : Ns U := by
  intro w hw
  have h1 := List.all_eq_true.mp nsk_all w hw
  have h2 := h w hw
  cases w <;> first | exact va_Nw.warmF hW h2 | exact va_Nw.warmM hW h2 | (simp [nsk] at h1)
theorem Ns.same {u U : State} (hv : u.vm = U.vm) (h : Ns u) : Ns U := by
  intro w hw
  have h1 := List.all_eq_true.mp nsk_all w hw
  have h2 := h w hw
  cases w <;> first | exact va_Nw.same rfl hv h2 | (simp [nsk] at h1)
set_option maxRecDepth 100000 in
theorem nsW_in : ∀ w ∈ nsW, w ∈ lw_tbl := by decide +kernel
set_option maxRecDepth 100000 in
theorem kn_L : Cond.initialized R_L ∈ lwG := lwG_r (List.mem_of_getElem? (i := 0) rfl) rfl
set_option maxRecDepth 100000 in
theorem kn_U : Cond.initialized R_U ∈ lwG := lwG_r (List.mem_of_getElem? (i := 1) rfl) rfl
set_option maxRecDepth 100000 in
theorem kn_JM : Cond.initialized R_JM ∈ lwG := lwG_r (List.mem_of_getElem? (i := 2) rfl) rfl
set_option maxRecDepth 100000 in
theorem kn_D : Cond.initialized R_D ∈ lwG := lwG_r (List.mem_of_getElem? (i := 3) rfl) rfl
set_option maxRecDepth 100000 in
theorem kn_P : Cond.initialized R_P ∈ lwG := lwG_r (List.mem_of_getElem? (i := 4) rfl) rfl
set_option maxRecDepth 100000 in
theorem kn_R : Cond.initialized R_R ∈ lwG := lwG_r (List.mem_of_getElem? (i := 5) rfl) rfl
set_option maxRecDepth 100000 in
theorem kn_C : Cond.initialized R_C ∈ lwG := lwG_r (List.mem_of_getElem? (i := 6) rfl) rfl
set_option maxRecDepth 100000 in
theorem kn_JA : Cond.initialized R_JA ∈ lwG := lwG_r (List.mem_of_getElem? (i := 7) rfl) rfl
set_option maxRecDepth 100000 in
theorem kn_M : Cond.initialized R_M ∈ lwG := lwG_r (List.mem_of_getElem? (i := 8) rfl) rfl
set_option maxRecDepth 100000 in
theorem kn_JS : Cond.initialized R_JS ∈ lwG := lwG_r (List.mem_of_getElem? (i := 9) rfl) rfl
set_option maxRecDepth 100000 in
theorem kk_L_7 : Cond.classLink R_L 7 R_U ∈ lwG := lwG_r (List.mem_of_getElem? (i := 10) rfl) rfl
set_option maxRecDepth 100000 in
theorem kt_U : Cond.instantiable R_U 11 ∈ lwG := lwG_r (List.mem_of_getElem? (i := 11) rfl) rfl
set_option maxRecDepth 100000 in
theorem kl_L_15 : Cond.methodLink R_L 15 y_U_init ∈ lwG := lwG_r (List.mem_of_getElem? (i := 12) rfl) rfl
set_option maxRecDepth 100000 in
theorem ki_U_init : Cond.instanceMethod y_U_init ∈ lwG := lwG_r (List.mem_of_getElem? (i := 13) rfl) rfl
set_option maxRecDepth 100000 in
theorem kc_U_init : Cond.code y_U_init b_U_init 3 none ∈ lwG := lwG_r (List.mem_of_getElem? (i := 14) rfl) rfl
set_option maxRecDepth 100000 in
theorem kl_U_1 : Cond.methodLink R_U 1 objectInit ∈ lwG := lwG_r (List.mem_of_getElem? (i := 15) rfl) rfl
set_option maxRecDepth 100000 in
theorem ki_O_init : Cond.instanceMethod objectInit ∈ lwG := lwG_r (List.mem_of_getElem? (i := 16) rfl) rfl
set_option maxRecDepth 100000 in
theorem kl_U_9 : Cond.methodLink R_U 9 Lib.Math.min.name ∈ lwG := lwG_r (List.mem_of_getElem? (i := 18) rfl) rfl
set_option maxRecDepth 100000 in
theorem ks_JM_min : Cond.static Lib.Math.min.name ∈ lwG := lwG_r (List.mem_of_getElem? (i := 19) rfl) rfl
set_option maxRecDepth 100000 in
theorem kl_U_15 : Cond.methodLink R_U 15 Lib.Math.max.name ∈ lwG := lwG_r (List.mem_of_getElem? (i := 21) rfl) rfl
set_option maxRecDepth 100000 in
theorem ks_JM_max : Cond.static Lib.Math.max.name ∈ lwG := lwG_r (List.mem_of_getElem? (i := 22) rfl) rfl
set_option maxRecDepth 100000 in
theorem kk_U_18 : Cond.classLink R_U 18 R_D ∈ lwG := lwG_r (List.mem_of_getElem? (i := 24) rfl) rfl
set_option maxRecDepth 100000 in
theorem kt_D : Cond.instantiable R_D 2 ∈ lwG := lwG_r (List.mem_of_getElem? (i := 25) rfl) rfl
set_option maxRecDepth 100000 in
theorem kl_U_20 : Cond.methodLinkNest R_U 20 y_D_init "UnitLog" ∈ nsW := List.mem_of_getElem? (i := 0) rfl
set_option maxRecDepth 100000 in
theorem ki_D_init : Cond.instanceMethod y_D_init ∈ lwG := lwG_r (List.mem_of_getElem? (i := 27) rfl) rfl
set_option maxRecDepth 100000 in
theorem kc_D_init : Cond.code y_D_init b_D_init 1 none ∈ lwG := lwG_r (List.mem_of_getElem? (i := 28) rfl) rfl
set_option maxRecDepth 100000 in
theorem kl_D_3 : Cond.methodLink R_D 3 objectInit ∈ lwG := lwG_r (List.mem_of_getElem? (i := 29) rfl) rfl
set_option maxRecDepth 100000 in
theorem kf_D_9 : Cond.fieldLink R_D 9 "UnitLog$Disk" "armed" "I" ∈ lwG := lwG_r (List.mem_of_getElem? (i := 30) rfl) rfl
set_option maxRecDepth 100000 in
theorem kf_U_126 : Cond.fieldLinkNest R_U 126 "UnitLog$Disk" "armed" "I" "UnitLog" ∈ nsW := List.mem_of_getElem? (i := 1) rfl
set_option maxRecDepth 100000 in
theorem kf_D_15 : Cond.fieldLink R_D 15 "UnitLog$Disk" "written" "I" ∈ lwG := lwG_r (List.mem_of_getElem? (i := 32) rfl) rfl
set_option maxRecDepth 100000 in
theorem kf_U_147 : Cond.fieldLinkNest R_U 147 "UnitLog$Disk" "written" "I" "UnitLog" ∈ nsW := List.mem_of_getElem? (i := 2) rfl
set_option maxRecDepth 100000 in
theorem kk_U_25 : Cond.classLink R_U 25 R_P ∈ lwG := lwG_r (List.mem_of_getElem? (i := 39) rfl) rfl
set_option maxRecDepth 100000 in
theorem kt_P : Cond.instantiable R_P 3 ∈ lwG := lwG_r (List.mem_of_getElem? (i := 40) rfl) rfl
set_option maxRecDepth 100000 in
theorem kl_U_27 : Cond.methodLinkNest R_U 27 y_P_init "UnitLog" ∈ nsW := List.mem_of_getElem? (i := 3) rfl
set_option maxRecDepth 100000 in
theorem ki_P_init : Cond.instanceMethod y_P_init ∈ lwG := lwG_r (List.mem_of_getElem? (i := 42) rfl) rfl
set_option maxRecDepth 100000 in
theorem kc_P_init : Cond.code y_P_init b_P_init 1 none ∈ lwG := lwG_r (List.mem_of_getElem? (i := 43) rfl) rfl
set_option maxRecDepth 100000 in
theorem kl_P_5 : Cond.methodLink R_P 5 objectInit ∈ lwG := lwG_r (List.mem_of_getElem? (i := 44) rfl) rfl
set_option maxRecDepth 100000 in
theorem kf_P_11 : Cond.fieldLink R_P 11 "UnitLog$Packer" "bytes" "[I" ∈ lwG := lwG_r (List.mem_of_getElem? (i := 45) rfl) rfl
set_option maxRecDepth 100000 in
theorem kf_P_15 : Cond.fieldLink R_P 15 "UnitLog$Packer" "form" "[I" ∈ lwG := lwG_r (List.mem_of_getElem? (i := 46) rfl) rfl
set_option maxRecDepth 100000 in
theorem kf_U_98 : Cond.fieldLinkNest R_U 98 "UnitLog$Packer" "form" "[I" "UnitLog" ∈ nsW := List.mem_of_getElem? (i := 4) rfl
set_option maxRecDepth 100000 in
theorem kf_P_21 : Cond.fieldLink R_P 21 "UnitLog$Packer" "size" "I" ∈ lwG := lwG_r (List.mem_of_getElem? (i := 48) rfl) rfl
set_option maxRecDepth 100000 in
theorem kf_U_94 : Cond.fieldLinkNest R_U 94 "UnitLog$Packer" "size" "I" "UnitLog" ∈ nsW := List.mem_of_getElem? (i := 5) rfl
set_option maxRecDepth 100000 in
theorem kv_int : Cond.arrayClass .int ∈ lwG := lwG_r (List.mem_of_getElem? (i := 57) rfl) rfl
set_option maxRecDepth 100000 in
theorem kk_U_32 : Cond.classLink R_U 32 R_R ∈ lwG := lwG_r (List.mem_of_getElem? (i := 58) rfl) rfl
set_option maxRecDepth 100000 in
theorem kt_R : Cond.instantiable R_R 6 ∈ lwG := lwG_r (List.mem_of_getElem? (i := 59) rfl) rfl
set_option maxRecDepth 100000 in
theorem kl_U_34 : Cond.methodLink R_U 34 y_R_init ∈ lwG := lwG_r (List.mem_of_getElem? (i := 60) rfl) rfl
set_option maxRecDepth 100000 in
theorem ki_R_init : Cond.instanceMethod y_R_init ∈ lwG := lwG_r (List.mem_of_getElem? (i := 61) rfl) rfl
set_option maxRecDepth 100000 in
theorem kc_R_init : Cond.code y_R_init b_R_init 2 none ∈ lwG := lwG_r (List.mem_of_getElem? (i := 62) rfl) rfl
set_option maxRecDepth 100000 in
theorem kl_R_3 : Cond.methodLink R_R 3 objectInit ∈ lwG := lwG_r (List.mem_of_getElem? (i := 63) rfl) rfl
set_option maxRecDepth 100000 in
theorem kf_R_9 : Cond.fieldLink R_R 9 "UnitLog$Records" "serials" "[I" ∈ lwG := lwG_r (List.mem_of_getElem? (i := 64) rfl) rfl
set_option maxRecDepth 100000 in
theorem kf_U_159 : Cond.fieldLinkNest R_U 159 "UnitLog$Records" "serials" "[I" "UnitLog" ∈ nsW := List.mem_of_getElem? (i := 6) rfl
set_option maxRecDepth 100000 in
theorem kf_R_15 : Cond.fieldLink R_R 15 "UnitLog$Records" "blocks" "[I" ∈ lwG := lwG_r (List.mem_of_getElem? (i := 66) rfl) rfl
set_option maxRecDepth 100000 in
theorem kf_U_162 : Cond.fieldLinkNest R_U 162 "UnitLog$Records" "blocks" "[I" "UnitLog" ∈ nsW := List.mem_of_getElem? (i := 7) rfl
set_option maxRecDepth 100000 in
theorem kf_R_18 : Cond.fieldLink R_R 18 "UnitLog$Records" "units" "[I" ∈ lwG := lwG_r (List.mem_of_getElem? (i := 68) rfl) rfl
set_option maxRecDepth 100000 in
theorem kf_U_165 : Cond.fieldLinkNest R_U 165 "UnitLog$Records" "units" "[I" "UnitLog" ∈ nsW := List.mem_of_getElem? (i := 8) rfl
set_option maxRecDepth 100000 in
theorem kf_R_21 : Cond.fieldLink R_R 21 "UnitLog$Records" "stores" "[Z" ∈ lwG := lwG_r (List.mem_of_getElem? (i := 70) rfl) rfl
set_option maxRecDepth 100000 in
theorem kf_U_168 : Cond.fieldLinkNest R_U 168 "UnitLog$Records" "stores" "[Z" "UnitLog" ∈ nsW := List.mem_of_getElem? (i := 9) rfl
set_option maxRecDepth 100000 in
theorem kf_R_25 : Cond.fieldLink R_R 25 "UnitLog$Records" "highs" "[J" ∈ lwG := lwG_r (List.mem_of_getElem? (i := 72) rfl) rfl
set_option maxRecDepth 100000 in
theorem kf_U_87 : Cond.fieldLinkNest R_U 87 "UnitLog$Records" "highs" "[J" "UnitLog" ∈ nsW := List.mem_of_getElem? (i := 10) rfl
set_option maxRecDepth 100000 in
theorem kf_R_29 : Cond.fieldLink R_R 29 "UnitLog$Records" "lows" "[J" ∈ lwG := lwG_r (List.mem_of_getElem? (i := 74) rfl) rfl
set_option maxRecDepth 100000 in
theorem kf_U_91 : Cond.fieldLinkNest R_U 91 "UnitLog$Records" "lows" "[J" "UnitLog" ∈ nsW := List.mem_of_getElem? (i := 11) rfl
set_option maxRecDepth 100000 in
theorem kv_boolean : Cond.arrayClass .boolean ∈ lwG := lwG_r (List.mem_of_getElem? (i := 89) rfl) rfl
set_option maxRecDepth 100000 in
theorem kv_long : Cond.arrayClass .long ∈ lwG := lwG_r (List.mem_of_getElem? (i := 90) rfl) rfl
set_option maxRecDepth 100000 in
theorem kk_U_41 : Cond.classLink R_U 41 R_C ∈ lwG := lwG_r (List.mem_of_getElem? (i := 91) rfl) rfl
set_option maxRecDepth 100000 in
theorem kt_C : Cond.instantiable R_C 5 ∈ lwG := lwG_r (List.mem_of_getElem? (i := 92) rfl) rfl
set_option maxRecDepth 100000 in
theorem kl_U_43 : Cond.methodLink R_U 43 y_C_init ∈ lwG := lwG_r (List.mem_of_getElem? (i := 93) rfl) rfl
set_option maxRecDepth 100000 in
theorem ki_C_init : Cond.instanceMethod y_C_init ∈ lwG := lwG_r (List.mem_of_getElem? (i := 94) rfl) rfl
set_option maxRecDepth 100000 in
theorem kc_C_init : Cond.code y_C_init b_C_init 1 none ∈ lwG := lwG_r (List.mem_of_getElem? (i := 95) rfl) rfl
set_option maxRecDepth 100000 in
theorem kl_C_3 : Cond.methodLink R_C 3 objectInit ∈ lwG := lwG_r (List.mem_of_getElem? (i := 96) rfl) rfl
set_option maxRecDepth 100000 in
theorem kl_C_15 : Cond.methodLink R_C 15 y_JA_fill ∈ lwG := lwG_r (List.mem_of_getElem? (i := 97) rfl) rfl
set_option maxRecDepth 100000 in
theorem ks_JA_fill : Cond.static y_JA_fill ∈ lwG := lwG_r (List.mem_of_getElem? (i := 98) rfl) rfl
set_option maxRecDepth 100000 in
theorem kc_JA_fill : Cond.code y_JA_fill b_JA_fill 4 none ∈ lwG := lwG_r (List.mem_of_getElem? (i := 99) rfl) rfl
set_option maxRecDepth 100000 in
theorem kf_C_9 : Cond.fieldLink R_C 9 "UnitLog$Checkpoint" "places" "[I" ∈ lwG := lwG_r (List.mem_of_getElem? (i := 100) rfl) rfl
set_option maxRecDepth 100000 in
theorem kf_U_181 : Cond.fieldLinkNest R_U 181 "UnitLog$Checkpoint" "places" "[I" "UnitLog" ∈ nsW := List.mem_of_getElem? (i := 12) rfl
set_option maxRecDepth 100000 in
theorem kf_U_113 : Cond.fieldLinkNest R_U 113 "UnitLog$Checkpoint" "number" "I" "UnitLog" ∈ nsW := List.mem_of_getElem? (i := 13) rfl
set_option maxRecDepth 100000 in
theorem kf_U_178 : Cond.fieldLinkNest R_U 178 "UnitLog$Checkpoint" "serial" "I" "UnitLog" ∈ nsW := List.mem_of_getElem? (i := 14) rfl
set_option maxRecDepth 100000 in
theorem kf_U_179 : Cond.fieldLinkNest R_U 179 "UnitLog$Checkpoint" "open" "I" "UnitLog" ∈ nsW := List.mem_of_getElem? (i := 15) rfl
set_option maxRecDepth 100000 in
theorem kf_U_180 : Cond.fieldLinkNest R_U 180 "UnitLog$Checkpoint" "fill" "I" "UnitLog" ∈ nsW := List.mem_of_getElem? (i := 16) rfl
set_option maxRecDepth 100000 in
theorem kl_U_55 : Cond.methodLink R_U 55 y_JA_fill ∈ lwG := lwG_r (List.mem_of_getElem? (i := 117) rfl) rfl
set_option maxRecDepth 100000 in
theorem kf_U_21 : Cond.fieldLink R_U 21 "UnitLog" "disk" "LUnitLog$Disk;" ∈ lwG := lwG_r (List.mem_of_getElem? (i := 118) rfl) rfl
set_option maxRecDepth 100000 in
theorem kf_U_28 : Cond.fieldLink R_U 28 "UnitLog" "packer" "LUnitLog$Packer;" ∈ lwG := lwG_r (List.mem_of_getElem? (i := 119) rfl) rfl
set_option maxRecDepth 100000 in
theorem kf_U_37 : Cond.fieldLink R_U 37 "UnitLog" "records" "LUnitLog$Records;" ∈ lwG := lwG_r (List.mem_of_getElem? (i := 120) rfl) rfl
set_option maxRecDepth 100000 in
theorem kf_U_44 : Cond.fieldLink R_U 44 "UnitLog" "counting" "LUnitLog$Checkpoint;" ∈ lwG := lwG_r (List.mem_of_getElem? (i := 121) rfl) rfl
set_option maxRecDepth 100000 in
theorem kf_U_48 : Cond.fieldLink R_U 48 "UnitLog" "states" "[I" ∈ lwG := lwG_r (List.mem_of_getElem? (i := 122) rfl) rfl
set_option maxRecDepth 100000 in
theorem kf_U_52 : Cond.fieldLink R_U 52 "UnitLog" "places" "[I" ∈ lwG := lwG_r (List.mem_of_getElem? (i := 123) rfl) rfl
set_option maxRecDepth 100000 in
theorem kf_U_156 : Cond.fieldLink R_U 156 "UnitLog" "open" "I" ∈ lwG := lwG_r (List.mem_of_getElem? (i := 124) rfl) rfl
set_option maxRecDepth 100000 in
theorem kf_U_101 : Cond.fieldLink R_U 101 "UnitLog" "fill" "I" ∈ lwG := lwG_r (List.mem_of_getElem? (i := 125) rfl) rfl
set_option maxRecDepth 100000 in
theorem kf_U_103 : Cond.fieldLink R_U 103 "UnitLog" "saved" "I" ∈ lwG := lwG_r (List.mem_of_getElem? (i := 126) rfl) rfl
set_option maxRecDepth 100000 in
theorem kf_U_144 : Cond.fieldLink R_U 144 "UnitLog" "serial" "I" ∈ lwG := lwG_r (List.mem_of_getElem? (i := 127) rfl) rfl
set_option maxRecDepth 100000 in
theorem kf_U_61 : Cond.fieldLink R_U 61 "UnitLog" "down" "Z" ∈ lwG := lwG_r (List.mem_of_getElem? (i := 128) rfl) rfl
set_option maxRecDepth 100000 in
theorem kl_L_23 : Cond.methodLink R_L 23 y_U_write ∈ lwG := lwG_r (List.mem_of_getElem? (i := 152) rfl) rfl
set_option maxRecDepth 100000 in
theorem ki_U_write : Cond.instanceMethod y_U_write ∈ lwG := lwG_r (List.mem_of_getElem? (i := 153) rfl) rfl
set_option maxRecDepth 100000 in
theorem ke_U_write : Cond.selects R_U y_U_write y_U_write ∈ lwG := lwG_r (List.mem_of_getElem? (i := 154) rfl) rfl
set_option maxRecDepth 100000 in
theorem kc_U_write : Cond.code y_U_write b_U_write 7 (some .int) ∈ lwG := lwG_r (List.mem_of_getElem? (i := 155) rfl) rfl
set_option maxRecDepth 100000 in
theorem kl_U_65 : Cond.methodLink R_U 65 y_U_isBlock ∈ lwG := lwG_r (List.mem_of_getElem? (i := 156) rfl) rfl
set_option maxRecDepth 100000 in
theorem ks_U_isBlock : Cond.static y_U_isBlock ∈ lwG := lwG_r (List.mem_of_getElem? (i := 157) rfl) rfl
set_option maxRecDepth 100000 in
theorem kc_U_isBlock : Cond.code y_U_isBlock b_U_isBlock 1 (some .boolean) ∈ lwG := lwG_r (List.mem_of_getElem? (i := 158) rfl) rfl
set_option maxRecDepth 100000 in
theorem kl_U_69 : Cond.methodLink R_U 69 y_P_pack ∈ lwG := lwG_r (List.mem_of_getElem? (i := 159) rfl) rfl
set_option maxRecDepth 100000 in
theorem ki_P_pack : Cond.instanceMethod y_P_pack ∈ lwG := lwG_r (List.mem_of_getElem? (i := 160) rfl) rfl
set_option maxRecDepth 100000 in
theorem ke_P_pack : Cond.selects R_P y_P_pack y_P_pack ∈ lwG := lwG_r (List.mem_of_getElem? (i := 161) rfl) rfl
set_option maxRecDepth 100000 in
theorem kc_P_pack : Cond.code y_P_pack b_P_pack 6 none ∈ lwG := lwG_r (List.mem_of_getElem? (i := 162) rfl) rfl
set_option maxRecDepth 100000 in
theorem kl_P_18 : Cond.methodLink R_P 18 y_P_makePieces ∈ lwG := lwG_r (List.mem_of_getElem? (i := 163) rfl) rfl
set_option maxRecDepth 100000 in
theorem ki_P_makePieces : Cond.instanceMethod y_P_makePieces ∈ lwG := lwG_r (List.mem_of_getElem? (i := 165) rfl) rfl
set_option maxRecDepth 100000 in
theorem kc_P_makePieces : Cond.code y_P_makePieces b_P_makePieces 5 none ∈ lwG := lwG_r (List.mem_of_getElem? (i := 166) rfl) rfl
set_option maxRecDepth 100000 in
theorem kl_P_31 : Cond.methodLink R_P 31 y_P_longestMatch ∈ lwG := lwG_r (List.mem_of_getElem? (i := 167) rfl) rfl
set_option maxRecDepth 100000 in
theorem ki_P_longestMatch : Cond.instanceMethod y_P_longestMatch ∈ lwG := lwG_r (List.mem_of_getElem? (i := 169) rfl) rfl
set_option maxRecDepth 100000 in
theorem kc_P_longestMatch : Cond.code y_P_longestMatch b_P_longestMatch 6 (some .int) ∈ lwG := lwG_r (List.mem_of_getElem? (i := 170) rfl) rfl
set_option maxRecDepth 100000 in
theorem kl_P_35 : Cond.methodLink R_P 35 y_P_sameBytes ∈ lwG := lwG_r (List.mem_of_getElem? (i := 171) rfl) rfl
set_option maxRecDepth 100000 in
theorem ki_P_sameBytes : Cond.instanceMethod y_P_sameBytes ∈ lwG := lwG_r (List.mem_of_getElem? (i := 173) rfl) rfl
set_option maxRecDepth 100000 in
theorem kc_P_sameBytes : Cond.code y_P_sameBytes b_P_sameBytes 4 (some .int) ∈ lwG := lwG_r (List.mem_of_getElem? (i := 174) rfl) rfl
set_option maxRecDepth 100000 in
theorem kl_P_39 : Cond.methodLink R_P 39 y_P_endPiece ∈ lwG := lwG_r (List.mem_of_getElem? (i := 175) rfl) rfl
set_option maxRecDepth 100000 in
theorem ki_P_endPiece : Cond.instanceMethod y_P_endPiece ∈ lwG := lwG_r (List.mem_of_getElem? (i := 177) rfl) rfl
set_option maxRecDepth 100000 in
theorem kc_P_endPiece : Cond.code y_P_endPiece b_P_endPiece 5 none ∈ lwG := lwG_r (List.mem_of_getElem? (i := 178) rfl) rfl
set_option maxRecDepth 100000 in
theorem kl_P_25 : Cond.methodLink R_P 25 arraycopyName ∈ lwG := lwG_r (List.mem_of_getElem? (i := 179) rfl) rfl
set_option maxRecDepth 100000 in
theorem ks_JS_arraycopy : Cond.static arraycopyName ∈ lwG := lwG_r (List.mem_of_getElem? (i := 180) rfl) rfl
set_option maxRecDepth 100000 in
theorem ka_JS_arraycopy : Cond.native arraycopyName ∈ lwG := lwG_r (List.mem_of_getElem? (i := 181) rfl) rfl
set_option maxRecDepth 100000 in
theorem kl_U_73 : Cond.methodLink R_U 73 y_P_storeUnits ∈ lwG := lwG_r (List.mem_of_getElem? (i := 182) rfl) rfl
set_option maxRecDepth 100000 in
theorem ki_P_storeUnits : Cond.instanceMethod y_P_storeUnits ∈ lwG := lwG_r (List.mem_of_getElem? (i := 183) rfl) rfl
set_option maxRecDepth 100000 in
theorem ke_P_storeUnits : Cond.selects R_P y_P_storeUnits y_P_storeUnits ∈ lwG := lwG_r (List.mem_of_getElem? (i := 184) rfl) rfl
set_option maxRecDepth 100000 in
theorem kc_P_storeUnits : Cond.code y_P_storeUnits b_P_storeUnits 1 (some .int) ∈ lwG := lwG_r (List.mem_of_getElem? (i := 185) rfl) rfl
set_option maxRecDepth 100000 in
theorem kl_U_77 : Cond.methodLink R_U 77 y_U_mayAppend ∈ lwG := lwG_r (List.mem_of_getElem? (i := 186) rfl) rfl
set_option maxRecDepth 100000 in
theorem ki_U_mayAppend : Cond.instanceMethod y_U_mayAppend ∈ lwG := lwG_r (List.mem_of_getElem? (i := 188) rfl) rfl
set_option maxRecDepth 100000 in
theorem kc_U_mayAppend : Cond.code y_U_mayAppend b_U_mayAppend 2 (some .boolean) ∈ lwG := lwG_r (List.mem_of_getElem? (i := 189) rfl) rfl
set_option maxRecDepth 100000 in
theorem kl_U_150 : Cond.methodLink R_U 150 y_U_freeSegments ∈ lwG := lwG_r (List.mem_of_getElem? (i := 190) rfl) rfl
set_option maxRecDepth 100000 in
theorem ki_U_freeSegments : Cond.instanceMethod y_U_freeSegments ∈ lwG := lwG_r (List.mem_of_getElem? (i := 192) rfl) rfl
set_option maxRecDepth 100000 in
theorem kc_U_freeSegments : Cond.code y_U_freeSegments b_U_freeSegments 3 (some .int) ∈ lwG := lwG_r (List.mem_of_getElem? (i := 193) rfl) rfl
set_option maxRecDepth 100000 in
theorem kl_U_80 : Cond.methodLink R_U 80 y_U_append ∈ lwG := lwG_r (List.mem_of_getElem? (i := 194) rfl) rfl
set_option maxRecDepth 100000 in
theorem ki_U_append : Cond.instanceMethod y_U_append ∈ lwG := lwG_r (List.mem_of_getElem? (i := 196) rfl) rfl
set_option maxRecDepth 100000 in
theorem kc_U_append : Cond.code y_U_append b_U_append 9 (some .boolean) ∈ lwG := lwG_r (List.mem_of_getElem? (i := 197) rfl) rfl
set_option maxRecDepth 100000 in
theorem kl_U_153 : Cond.methodLink R_U 153 y_U_openNext ∈ lwG := lwG_r (List.mem_of_getElem? (i := 198) rfl) rfl
set_option maxRecDepth 100000 in
theorem ki_U_openNext : Cond.instanceMethod y_U_openNext ∈ lwG := lwG_r (List.mem_of_getElem? (i := 200) rfl) rfl
set_option maxRecDepth 100000 in
theorem kc_U_openNext : Cond.code y_U_openNext b_U_openNext 2 (some .boolean) ∈ lwG := lwG_r (List.mem_of_getElem? (i := 201) rfl) rfl
set_option maxRecDepth 100000 in
theorem kl_U_172 : Cond.methodLink R_U 172 y_U_lowestFree ∈ lwG := lwG_r (List.mem_of_getElem? (i := 202) rfl) rfl
set_option maxRecDepth 100000 in
theorem ki_U_lowestFree : Cond.instanceMethod y_U_lowestFree ∈ lwG := lwG_r (List.mem_of_getElem? (i := 204) rfl) rfl
set_option maxRecDepth 100000 in
theorem kc_U_lowestFree : Cond.code y_U_lowestFree b_U_lowestFree 2 (some .int) ∈ lwG := lwG_r (List.mem_of_getElem? (i := 205) rfl) rfl
set_option maxRecDepth 100000 in
theorem kl_U_106 : Cond.methodLink R_U 106 y_U_saveUnits ∈ lwG := lwG_r (List.mem_of_getElem? (i := 206) rfl) rfl
set_option maxRecDepth 100000 in
theorem ki_U_saveUnits : Cond.instanceMethod y_U_saveUnits ∈ lwG := lwG_r (List.mem_of_getElem? (i := 208) rfl) rfl
set_option maxRecDepth 100000 in
theorem kc_U_saveUnits : Cond.code y_U_saveUnits b_U_saveUnits 2 (some .boolean) ∈ lwG := lwG_r (List.mem_of_getElem? (i := 209) rfl) rfl
set_option maxRecDepth 100000 in
theorem kl_U_175 : Cond.methodLink R_U 175 y_D_writeUnit ∈ lwG := lwG_r (List.mem_of_getElem? (i := 210) rfl) rfl
set_option maxRecDepth 100000 in
theorem ki_D_writeUnit : Cond.instanceMethod y_D_writeUnit ∈ lwG := lwG_r (List.mem_of_getElem? (i := 211) rfl) rfl
set_option maxRecDepth 100000 in
theorem ke_D_writeUnit : Cond.selects R_D y_D_writeUnit y_D_writeUnit ∈ lwG := lwG_r (List.mem_of_getElem? (i := 212) rfl) rfl
set_option maxRecDepth 100000 in
theorem kc_D_writeUnit : Cond.code y_D_writeUnit b_D_writeUnit 1 (some .boolean) ∈ lwG := lwG_r (List.mem_of_getElem? (i := 213) rfl) rfl
set_option maxRecDepth 100000 in
theorem kl_U_84 : Cond.methodLink R_U 84 y_U_goDown ∈ lwG := lwG_r (List.mem_of_getElem? (i := 214) rfl) rfl
set_option maxRecDepth 100000 in
theorem ki_U_goDown : Cond.instanceMethod y_U_goDown ∈ lwG := lwG_r (List.mem_of_getElem? (i := 216) rfl) rfl
set_option maxRecDepth 100000 in
theorem kc_U_goDown : Cond.code y_U_goDown b_U_goDown 1 (some .int) ∈ lwG := lwG_r (List.mem_of_getElem? (i := 217) rfl) rfl
set_option maxRecDepth 100000 in
theorem kl_U_188 : Cond.methodLink R_U 188 y_R_forgetUnsaved ∈ lwG := lwG_r (List.mem_of_getElem? (i := 218) rfl) rfl
set_option maxRecDepth 100000 in
theorem ki_R_forgetUnsaved : Cond.instanceMethod y_R_forgetUnsaved ∈ lwG := lwG_r (List.mem_of_getElem? (i := 219) rfl) rfl
set_option maxRecDepth 100000 in
theorem ke_R_forgetUnsaved : Cond.selects R_R y_R_forgetUnsaved y_R_forgetUnsaved ∈ lwG := lwG_r (List.mem_of_getElem? (i := 220) rfl) rfl
set_option maxRecDepth 100000 in
theorem kc_R_forgetUnsaved : Cond.code y_R_forgetUnsaved b_R_forgetUnsaved 5 none ∈ lwG := lwG_r (List.mem_of_getElem? (i := 221) rfl) rfl
set_option maxRecDepth 100000 in
theorem kl_L_28 : Cond.methodLink R_L 28 y_U_trim ∈ lwG := lwG_r (List.mem_of_getElem? (i := 222) rfl) rfl
set_option maxRecDepth 100000 in
theorem ki_U_trim : Cond.instanceMethod y_U_trim ∈ lwG := lwG_r (List.mem_of_getElem? (i := 223) rfl) rfl
set_option maxRecDepth 100000 in
theorem ke_U_trim : Cond.selects R_U y_U_trim y_U_trim ∈ lwG := lwG_r (List.mem_of_getElem? (i := 224) rfl) rfl
set_option maxRecDepth 100000 in
theorem kc_U_trim : Cond.code y_U_trim b_U_trim 2 (some .int) ∈ lwG := lwG_r (List.mem_of_getElem? (i := 225) rfl) rfl
set_option maxRecDepth 100000 in
theorem kl_L_33 : Cond.methodLink R_L 33 y_U_read ∈ lwG := lwG_r (List.mem_of_getElem? (i := 226) rfl) rfl
set_option maxRecDepth 100000 in
theorem ki_U_read : Cond.instanceMethod y_U_read ∈ lwG := lwG_r (List.mem_of_getElem? (i := 227) rfl) rfl
set_option maxRecDepth 100000 in
theorem ke_U_read : Cond.selects R_U y_U_read y_U_read ∈ lwG := lwG_r (List.mem_of_getElem? (i := 228) rfl) rfl
set_option maxRecDepth 100000 in
theorem kc_U_read : Cond.code y_U_read b_U_read 3 (some .long) ∈ lwG := lwG_r (List.mem_of_getElem? (i := 229) rfl) rfl
set_option maxRecDepth 100000 in
theorem kl_L_38 : Cond.methodLink R_L 38 y_U_packed ∈ lwG := lwG_r (List.mem_of_getElem? (i := 230) rfl) rfl
set_option maxRecDepth 100000 in
theorem ki_U_packed : Cond.instanceMethod y_U_packed ∈ lwG := lwG_r (List.mem_of_getElem? (i := 231) rfl) rfl
set_option maxRecDepth 100000 in
theorem ke_U_packed : Cond.selects R_U y_U_packed y_U_packed ∈ lwG := lwG_r (List.mem_of_getElem? (i := 232) rfl) rfl
set_option maxRecDepth 100000 in
theorem kc_U_packed : Cond.code y_U_packed b_U_packed 4 (some .int) ∈ lwG := lwG_r (List.mem_of_getElem? (i := 233) rfl) rfl
set_option maxRecDepth 100000 in
theorem kl_L_43 : Cond.methodLink R_L 43 y_U_place ∈ lwG := lwG_r (List.mem_of_getElem? (i := 234) rfl) rfl
set_option maxRecDepth 100000 in
theorem ki_U_place : Cond.instanceMethod y_U_place ∈ lwG := lwG_r (List.mem_of_getElem? (i := 235) rfl) rfl
set_option maxRecDepth 100000 in
theorem ke_U_place : Cond.selects R_U y_U_place y_U_place ∈ lwG := lwG_r (List.mem_of_getElem? (i := 236) rfl) rfl
set_option maxRecDepth 100000 in
theorem kc_U_place : Cond.code y_U_place b_U_place 2 (some .int) ∈ lwG := lwG_r (List.mem_of_getElem? (i := 237) rfl) rfl
set_option maxRecDepth 100000 in
theorem kl_L_47 : Cond.methodLink R_L 47 y_U_flush ∈ lwG := lwG_r (List.mem_of_getElem? (i := 238) rfl) rfl
set_option maxRecDepth 100000 in
theorem ki_U_flush : Cond.instanceMethod y_U_flush ∈ lwG := lwG_r (List.mem_of_getElem? (i := 239) rfl) rfl
set_option maxRecDepth 100000 in
theorem ke_U_flush : Cond.selects R_U y_U_flush y_U_flush ∈ lwG := lwG_r (List.mem_of_getElem? (i := 240) rfl) rfl
set_option maxRecDepth 100000 in
theorem kc_U_flush : Cond.code y_U_flush b_U_flush 2 (some .int) ∈ lwG := lwG_r (List.mem_of_getElem? (i := 241) rfl) rfl
set_option maxRecDepth 100000 in
theorem kl_L_52 : Cond.methodLink R_L 52 y_U_checkpoint ∈ lwG := lwG_r (List.mem_of_getElem? (i := 242) rfl) rfl
set_option maxRecDepth 100000 in
theorem ki_U_checkpoint : Cond.instanceMethod y_U_checkpoint ∈ lwG := lwG_r (List.mem_of_getElem? (i := 243) rfl) rfl
set_option maxRecDepth 100000 in
theorem ke_U_checkpoint : Cond.selects R_U y_U_checkpoint y_U_checkpoint ∈ lwG := lwG_r (List.mem_of_getElem? (i := 244) rfl) rfl
set_option maxRecDepth 100000 in
theorem kc_U_checkpoint : Cond.code y_U_checkpoint b_U_checkpoint 1 (some .int) ∈ lwG := lwG_r (List.mem_of_getElem? (i := 245) rfl) rfl
set_option maxRecDepth 100000 in
theorem kl_U_110 : Cond.methodLink R_U 110 y_U_makeCheckpoint ∈ lwG := lwG_r (List.mem_of_getElem? (i := 246) rfl) rfl
set_option maxRecDepth 100000 in
theorem ki_U_makeCheckpoint : Cond.instanceMethod y_U_makeCheckpoint ∈ lwG := lwG_r (List.mem_of_getElem? (i := 248) rfl) rfl
set_option maxRecDepth 100000 in
theorem kc_U_makeCheckpoint : Cond.code y_U_makeCheckpoint b_U_makeCheckpoint 2 (some .boolean) ∈ lwG := lwG_r (List.mem_of_getElem? (i := 249) rfl) rfl
set_option maxRecDepth 100000 in
theorem kl_U_182 : Cond.methodLink R_U 182 arraycopyName ∈ lwG := lwG_r (List.mem_of_getElem? (i := 250) rfl) rfl
set_option maxRecDepth 100000 in
theorem kl_L_56 : Cond.methodLink R_L 56 y_U_clean ∈ lwG := lwG_r (List.mem_of_getElem? (i := 251) rfl) rfl
set_option maxRecDepth 100000 in
theorem ki_U_clean : Cond.instanceMethod y_U_clean ∈ lwG := lwG_r (List.mem_of_getElem? (i := 252) rfl) rfl
set_option maxRecDepth 100000 in
theorem ke_U_clean : Cond.selects R_U y_U_clean y_U_clean ∈ lwG := lwG_r (List.mem_of_getElem? (i := 253) rfl) rfl
set_option maxRecDepth 100000 in
theorem kc_U_clean : Cond.code y_U_clean b_U_clean 3 (some .int) ∈ lwG := lwG_r (List.mem_of_getElem? (i := 254) rfl) rfl
set_option maxRecDepth 100000 in
theorem kl_U_116 : Cond.methodLink R_U 116 y_U_closedWithFewestLive ∈ lwG := lwG_r (List.mem_of_getElem? (i := 255) rfl) rfl
set_option maxRecDepth 100000 in
theorem ki_U_closedWithFewestLive : Cond.instanceMethod y_U_closedWithFewestLive ∈ lwG := lwG_r (List.mem_of_getElem? (i := 257) rfl) rfl
set_option maxRecDepth 100000 in
theorem kc_U_closedWithFewestLive : Cond.code y_U_closedWithFewestLive b_U_closedWithFewestLive 4 (some .int) ∈ lwG := lwG_r (List.mem_of_getElem? (i := 258) rfl) rfl
set_option maxRecDepth 100000 in
theorem kl_U_141 : Cond.methodLink R_U 141 y_U_liveUnits ∈ lwG := lwG_r (List.mem_of_getElem? (i := 259) rfl) rfl
set_option maxRecDepth 100000 in
theorem ki_U_liveUnits : Cond.instanceMethod y_U_liveUnits ∈ lwG := lwG_r (List.mem_of_getElem? (i := 261) rfl) rfl
set_option maxRecDepth 100000 in
theorem kc_U_liveUnits : Cond.code y_U_liveUnits b_U_liveUnits 5 (some .int) ∈ lwG := lwG_r (List.mem_of_getElem? (i := 262) rfl) rfl
set_option maxRecDepth 100000 in
theorem kl_U_195 : Cond.methodLink R_U 195 y_U_isLive ∈ lwG := lwG_r (List.mem_of_getElem? (i := 263) rfl) rfl
set_option maxRecDepth 100000 in
theorem ki_U_isLive : Cond.instanceMethod y_U_isLive ∈ lwG := lwG_r (List.mem_of_getElem? (i := 265) rfl) rfl
set_option maxRecDepth 100000 in
theorem kc_U_isLive : Cond.code y_U_isLive b_U_isLive 2 (some .boolean) ∈ lwG := lwG_r (List.mem_of_getElem? (i := 266) rfl) rfl
set_option maxRecDepth 100000 in
theorem kl_U_119 : Cond.methodLink R_U 119 y_U_liveRecordsHaveRoom ∈ lwG := lwG_r (List.mem_of_getElem? (i := 267) rfl) rfl
set_option maxRecDepth 100000 in
theorem ki_U_liveRecordsHaveRoom : Cond.instanceMethod y_U_liveRecordsHaveRoom ∈ lwG := lwG_r (List.mem_of_getElem? (i := 269) rfl) rfl
set_option maxRecDepth 100000 in
theorem kc_U_liveRecordsHaveRoom : Cond.code y_U_liveRecordsHaveRoom b_U_liveRecordsHaveRoom 6 (some .boolean) ∈ lwG := lwG_r (List.mem_of_getElem? (i := 270) rfl) rfl
set_option maxRecDepth 100000 in
theorem kl_U_122 : Cond.methodLink R_U 122 y_U_appendLiveRecords ∈ lwG := lwG_r (List.mem_of_getElem? (i := 271) rfl) rfl
set_option maxRecDepth 100000 in
theorem ki_U_appendLiveRecords : Cond.instanceMethod y_U_appendLiveRecords ∈ lwG := lwG_r (List.mem_of_getElem? (i := 273) rfl) rfl
set_option maxRecDepth 100000 in
theorem kc_U_appendLiveRecords : Cond.code y_U_appendLiveRecords b_U_appendLiveRecords 5 (some .int) ∈ lwG := lwG_r (List.mem_of_getElem? (i := 274) rfl) rfl
set_option maxRecDepth 100000 in
theorem kl_L_60 : Cond.methodLink R_L 60 y_U_arm ∈ lwG := lwG_r (List.mem_of_getElem? (i := 275) rfl) rfl
set_option maxRecDepth 100000 in
theorem ki_U_arm : Cond.instanceMethod y_U_arm ∈ lwG := lwG_r (List.mem_of_getElem? (i := 276) rfl) rfl
set_option maxRecDepth 100000 in
theorem ke_U_arm : Cond.selects R_U y_U_arm y_U_arm ∈ lwG := lwG_r (List.mem_of_getElem? (i := 277) rfl) rfl
set_option maxRecDepth 100000 in
theorem kc_U_arm : Cond.code y_U_arm b_U_arm 2 (some .boolean) ∈ lwG := lwG_r (List.mem_of_getElem? (i := 278) rfl) rfl
set_option maxRecDepth 100000 in
theorem kl_L_65 : Cond.methodLink R_L 65 y_U_disarm ∈ lwG := lwG_r (List.mem_of_getElem? (i := 279) rfl) rfl
set_option maxRecDepth 100000 in
theorem ki_U_disarm : Cond.instanceMethod y_U_disarm ∈ lwG := lwG_r (List.mem_of_getElem? (i := 280) rfl) rfl
set_option maxRecDepth 100000 in
theorem ke_U_disarm : Cond.selects R_U y_U_disarm y_U_disarm ∈ lwG := lwG_r (List.mem_of_getElem? (i := 281) rfl) rfl
set_option maxRecDepth 100000 in
theorem kc_U_disarm : Cond.code y_U_disarm b_U_disarm 1 (some .boolean) ∈ lwG := lwG_r (List.mem_of_getElem? (i := 282) rfl) rfl
set_option maxRecDepth 100000 in
theorem kl_L_70 : Cond.methodLink R_L 70 y_U_crash ∈ lwG := lwG_r (List.mem_of_getElem? (i := 283) rfl) rfl
set_option maxRecDepth 100000 in
theorem ki_U_crash : Cond.instanceMethod y_U_crash ∈ lwG := lwG_r (List.mem_of_getElem? (i := 284) rfl) rfl
set_option maxRecDepth 100000 in
theorem ke_U_crash : Cond.selects R_U y_U_crash y_U_crash ∈ lwG := lwG_r (List.mem_of_getElem? (i := 285) rfl) rfl
set_option maxRecDepth 100000 in
theorem kc_U_crash : Cond.code y_U_crash b_U_crash 1 (some .boolean) ∈ lwG := lwG_r (List.mem_of_getElem? (i := 286) rfl) rfl
set_option maxRecDepth 100000 in
theorem kl_L_74 : Cond.methodLink R_L 74 y_U_recover ∈ lwG := lwG_r (List.mem_of_getElem? (i := 287) rfl) rfl
set_option maxRecDepth 100000 in
theorem ki_U_recover : Cond.instanceMethod y_U_recover ∈ lwG := lwG_r (List.mem_of_getElem? (i := 288) rfl) rfl
set_option maxRecDepth 100000 in
theorem ke_U_recover : Cond.selects R_U y_U_recover y_U_recover ∈ lwG := lwG_r (List.mem_of_getElem? (i := 289) rfl) rfl
set_option maxRecDepth 100000 in
theorem kc_U_recover : Cond.code y_U_recover b_U_recover 2 (some .int) ∈ lwG := lwG_r (List.mem_of_getElem? (i := 290) rfl) rfl
set_option maxRecDepth 100000 in
theorem kl_U_129 : Cond.methodLink R_U 129 y_U_returnToCheckpoint ∈ lwG := lwG_r (List.mem_of_getElem? (i := 291) rfl) rfl
set_option maxRecDepth 100000 in
theorem ki_U_returnToCheckpoint : Cond.instanceMethod y_U_returnToCheckpoint ∈ lwG := lwG_r (List.mem_of_getElem? (i := 293) rfl) rfl
set_option maxRecDepth 100000 in
theorem kc_U_returnToCheckpoint : Cond.code y_U_returnToCheckpoint b_U_returnToCheckpoint 1 none ∈ lwG := lwG_r (List.mem_of_getElem? (i := 294) rfl) rfl
set_option maxRecDepth 100000 in
theorem kl_U_132 : Cond.methodLink R_U 132 y_U_rollForward ∈ lwG := lwG_r (List.mem_of_getElem? (i := 295) rfl) rfl
set_option maxRecDepth 100000 in
theorem ki_U_rollForward : Cond.instanceMethod y_U_rollForward ∈ lwG := lwG_r (List.mem_of_getElem? (i := 297) rfl) rfl
set_option maxRecDepth 100000 in
theorem kc_U_rollForward : Cond.code y_U_rollForward b_U_rollForward 4 (some .int) ∈ lwG := lwG_r (List.mem_of_getElem? (i := 298) rfl) rfl
set_option maxRecDepth 100000 in
theorem kl_U_192 : Cond.methodLink R_U 192 y_R_find ∈ lwG := lwG_r (List.mem_of_getElem? (i := 299) rfl) rfl
set_option maxRecDepth 100000 in
theorem ki_R_find : Cond.instanceMethod y_R_find ∈ lwG := lwG_r (List.mem_of_getElem? (i := 300) rfl) rfl
set_option maxRecDepth 100000 in
theorem ke_R_find : Cond.selects R_R y_R_find y_R_find ∈ lwG := lwG_r (List.mem_of_getElem? (i := 301) rfl) rfl
set_option maxRecDepth 100000 in
theorem kc_R_find : Cond.code y_R_find b_R_find 3 (some .int) ∈ lwG := lwG_r (List.mem_of_getElem? (i := 302) rfl) rfl
set_option maxRecDepth 100000 in
theorem kl_U_135 : Cond.methodLink R_U 135 y_U_sortSegments ∈ lwG := lwG_r (List.mem_of_getElem? (i := 303) rfl) rfl
set_option maxRecDepth 100000 in
theorem ki_U_sortSegments : Cond.instanceMethod y_U_sortSegments ∈ lwG := lwG_r (List.mem_of_getElem? (i := 305) rfl) rfl
set_option maxRecDepth 100000 in
theorem kc_U_sortSegments : Cond.code y_U_sortSegments b_U_sortSegments 2 none ∈ lwG := lwG_r (List.mem_of_getElem? (i := 306) rfl) rfl
set_option maxRecDepth 100000 in
theorem kl_L_78 : Cond.methodLink R_L 78 y_U_live ∈ lwG := lwG_r (List.mem_of_getElem? (i := 307) rfl) rfl
set_option maxRecDepth 100000 in
theorem ki_U_live : Cond.instanceMethod y_U_live ∈ lwG := lwG_r (List.mem_of_getElem? (i := 308) rfl) rfl
set_option maxRecDepth 100000 in
theorem ke_U_live : Cond.selects R_U y_U_live y_U_live ∈ lwG := lwG_r (List.mem_of_getElem? (i := 309) rfl) rfl
set_option maxRecDepth 100000 in
theorem kc_U_live : Cond.code y_U_live b_U_live 2 (some .int) ∈ lwG := lwG_r (List.mem_of_getElem? (i := 310) rfl) rfl
set_option maxRecDepth 100000 in
theorem kl_U_138 : Cond.methodLink R_U 138 y_U_isSegment ∈ lwG := lwG_r (List.mem_of_getElem? (i := 311) rfl) rfl
set_option maxRecDepth 100000 in
theorem ki_U_isSegment : Cond.instanceMethod y_U_isSegment ∈ lwG := lwG_r (List.mem_of_getElem? (i := 313) rfl) rfl
set_option maxRecDepth 100000 in
theorem kc_U_isSegment : Cond.code y_U_isSegment b_U_isSegment 2 (some .boolean) ∈ lwG := lwG_r (List.mem_of_getElem? (i := 314) rfl) rfl
set_option maxRecDepth 100000 in
theorem kl_L_82 : Cond.methodLink R_L 82 y_U_segment ∈ lwG := lwG_r (List.mem_of_getElem? (i := 315) rfl) rfl
set_option maxRecDepth 100000 in
theorem ki_U_segment : Cond.instanceMethod y_U_segment ∈ lwG := lwG_r (List.mem_of_getElem? (i := 316) rfl) rfl
set_option maxRecDepth 100000 in
theorem ke_U_segment : Cond.selects R_U y_U_segment y_U_segment ∈ lwG := lwG_r (List.mem_of_getElem? (i := 317) rfl) rfl
set_option maxRecDepth 100000 in
theorem kc_U_segment : Cond.code y_U_segment b_U_segment 2 (some .int) ∈ lwG := lwG_r (List.mem_of_getElem? (i := 318) rfl) rfl
set_option maxRecDepth 100000 in
theorem kl_L_86 : Cond.methodLink R_L 86 y_U_look ∈ lwG := lwG_r (List.mem_of_getElem? (i := 319) rfl) rfl
set_option maxRecDepth 100000 in
theorem ki_U_look : Cond.instanceMethod y_U_look ∈ lwG := lwG_r (List.mem_of_getElem? (i := 320) rfl) rfl
set_option maxRecDepth 100000 in
theorem ke_U_look : Cond.selects R_U y_U_look y_U_look ∈ lwG := lwG_r (List.mem_of_getElem? (i := 321) rfl) rfl
set_option maxRecDepth 100000 in
theorem kc_U_look : Cond.code y_U_look b_U_look 2 (some .int) ∈ lwG := lwG_r (List.mem_of_getElem? (i := 322) rfl) rfl
set_option maxRecDepth 100000 in
theorem kl_L_9 : Cond.methodLink R_L 9 y_L_cell ∈ lwG := lwG_r (List.mem_of_getElem? (i := 323) rfl) rfl
set_option maxRecDepth 100000 in
theorem ks_L_cell : Cond.static y_L_cell ∈ lwG := lwG_r (List.mem_of_getElem? (i := 324) rfl) rfl
set_option maxRecDepth 100000 in
theorem kc_L_cell : Cond.code y_L_cell b_L_cell 2 (some .int) ∈ lwG := lwG_r (List.mem_of_getElem? (i := 325) rfl) rfl
set_option maxRecDepth 100000 in
theorem kk_L_18 : Cond.classLink R_L 18 R_M ∈ lwG := lwG_r (List.mem_of_getElem? (i := 326) rfl) rfl
set_option maxRecDepth 100000 in
theorem kt_M : Cond.instantiable R_M 27 ∈ lwG := lwG_r (List.mem_of_getElem? (i := 327) rfl) rfl
set_option maxRecDepth 100000 in
theorem kl_L_20 : Cond.methodLink R_L 20 y_M_init ∈ lwG := lwG_r (List.mem_of_getElem? (i := 328) rfl) rfl
set_option maxRecDepth 100000 in
theorem ki_M_init : Cond.instanceMethod y_M_init ∈ lwG := lwG_r (List.mem_of_getElem? (i := 329) rfl) rfl
set_option maxRecDepth 100000 in
theorem kc_M_init : Cond.code y_M_init b_M_init 3 none ∈ lwG := lwG_r (List.mem_of_getElem? (i := 330) rfl) rfl
set_option maxRecDepth 100000 in
theorem kl_M_1 : Cond.methodLink R_M 1 objectInit ∈ lwG := lwG_r (List.mem_of_getElem? (i := 331) rfl) rfl
set_option maxRecDepth 100000 in
theorem kf_M_57 : Cond.fieldLink R_M 57 "UnitLogModel" "segments" "I" ∈ lwG := lwG_r (List.mem_of_getElem? (i := 332) rfl) rfl
set_option maxRecDepth 100000 in
theorem kf_M_7 : Cond.fieldLink R_M 7 "UnitLogModel" "state" "[I" ∈ lwG := lwG_r (List.mem_of_getElem? (i := 333) rfl) rfl
set_option maxRecDepth 100000 in
theorem kf_M_13 : Cond.fieldLink R_M 13 "UnitLogModel" "filled" "[I" ∈ lwG := lwG_r (List.mem_of_getElem? (i := 334) rfl) rfl
set_option maxRecDepth 100000 in
theorem kf_M_16 : Cond.fieldLink R_M 16 "UnitLogModel" "saved" "[I" ∈ lwG := lwG_r (List.mem_of_getElem? (i := 335) rfl) rfl
set_option maxRecDepth 100000 in
theorem kf_M_83 : Cond.fieldLink R_M 83 "UnitLogModel" "open" "I" ∈ lwG := lwG_r (List.mem_of_getElem? (i := 336) rfl) rfl
set_option maxRecDepth 100000 in
theorem kf_M_19 : Cond.fieldLink R_M 19 "UnitLogModel" "count" "[I" ∈ lwG := lwG_r (List.mem_of_getElem? (i := 337) rfl) rfl
set_option maxRecDepth 100000 in
theorem kf_M_22 : Cond.fieldLink R_M 22 "UnitLogModel" "block" "[I" ∈ lwG := lwG_r (List.mem_of_getElem? (i := 338) rfl) rfl
set_option maxRecDepth 100000 in
theorem kf_M_25 : Cond.fieldLink R_M 25 "UnitLogModel" "store" "[Z" ∈ lwG := lwG_r (List.mem_of_getElem? (i := 339) rfl) rfl
set_option maxRecDepth 100000 in
theorem kf_M_29 : Cond.fieldLink R_M 29 "UnitLogModel" "unit" "[I" ∈ lwG := lwG_r (List.mem_of_getElem? (i := 340) rfl) rfl
set_option maxRecDepth 100000 in
theorem kf_M_32 : Cond.fieldLink R_M 32 "UnitLogModel" "size" "[I" ∈ lwG := lwG_r (List.mem_of_getElem? (i := 341) rfl) rfl
set_option maxRecDepth 100000 in
theorem kf_M_35 : Cond.fieldLink R_M 35 "UnitLogModel" "serial" "[I" ∈ lwG := lwG_r (List.mem_of_getElem? (i := 342) rfl) rfl
set_option maxRecDepth 100000 in
theorem kf_M_38 : Cond.fieldLink R_M 38 "UnitLogModel" "high" "[J" ∈ lwG := lwG_r (List.mem_of_getElem? (i := 343) rfl) rfl
set_option maxRecDepth 100000 in
theorem kf_M_42 : Cond.fieldLink R_M 42 "UnitLogModel" "low" "[J" ∈ lwG := lwG_r (List.mem_of_getElem? (i := 344) rfl) rfl
set_option maxRecDepth 100000 in
theorem kf_M_45 : Cond.fieldLink R_M 45 "UnitLogModel" "at" "[I" ∈ lwG := lwG_r (List.mem_of_getElem? (i := 345) rfl) rfl
set_option maxRecDepth 100000 in
theorem kf_M_97 : Cond.fieldLink R_M 97 "UnitLogModel" "last" "I" ∈ lwG := lwG_r (List.mem_of_getElem? (i := 346) rfl) rfl
set_option maxRecDepth 100000 in
theorem kf_M_48 : Cond.fieldLink R_M 48 "UnitLogModel" "keptAt" "[I" ∈ lwG := lwG_r (List.mem_of_getElem? (i := 347) rfl) rfl
set_option maxRecDepth 100000 in
theorem kf_M_100 : Cond.fieldLink R_M 100 "UnitLogModel" "keptLast" "I" ∈ lwG := lwG_r (List.mem_of_getElem? (i := 348) rfl) rfl
set_option maxRecDepth 100000 in
theorem kf_M_103 : Cond.fieldLink R_M 103 "UnitLogModel" "keptOpen" "I" ∈ lwG := lwG_r (List.mem_of_getElem? (i := 349) rfl) rfl
set_option maxRecDepth 100000 in
theorem kf_M_106 : Cond.fieldLink R_M 106 "UnitLogModel" "keptFill" "I" ∈ lwG := lwG_r (List.mem_of_getElem? (i := 350) rfl) rfl
set_option maxRecDepth 100000 in
theorem kf_M_94 : Cond.fieldLink R_M 94 "UnitLogModel" "number" "I" ∈ lwG := lwG_r (List.mem_of_getElem? (i := 351) rfl) rfl
set_option maxRecDepth 100000 in
theorem kf_M_77 : Cond.fieldLink R_M 77 "UnitLogModel" "down" "Z" ∈ lwG := lwG_r (List.mem_of_getElem? (i := 352) rfl) rfl
set_option maxRecDepth 100000 in
theorem kf_M_70 : Cond.fieldLink R_M 70 "UnitLogModel" "armed" "Z" ∈ lwG := lwG_r (List.mem_of_getElem? (i := 353) rfl) rfl
set_option maxRecDepth 100000 in
theorem kf_M_74 : Cond.fieldLink R_M 74 "UnitLogModel" "left" "I" ∈ lwG := lwG_r (List.mem_of_getElem? (i := 354) rfl) rfl
set_option maxRecDepth 100000 in
theorem kf_M_80 : Cond.fieldLink R_M 80 "UnitLogModel" "written" "I" ∈ lwG := lwG_r (List.mem_of_getElem? (i := 355) rfl) rfl
set_option maxRecDepth 100000 in
theorem kf_M_51 : Cond.fieldLink R_M 51 "UnitLogModel" "bytes" "[I" ∈ lwG := lwG_r (List.mem_of_getElem? (i := 356) rfl) rfl
set_option maxRecDepth 100000 in
theorem kf_M_54 : Cond.fieldLink R_M 54 "UnitLogModel" "form" "[I" ∈ lwG := lwG_r (List.mem_of_getElem? (i := 357) rfl) rfl
set_option maxRecDepth 100000 in
theorem kf_M_67 : Cond.fieldLink R_M 67 "UnitLogModel" "formSize" "I" ∈ lwG := lwG_r (List.mem_of_getElem? (i := 358) rfl) rfl
set_option maxRecDepth 100000 in
theorem kl_L_27 : Cond.methodLink R_L 27 y_M_write ∈ lwG := lwG_r (List.mem_of_getElem? (i := 414) rfl) rfl
set_option maxRecDepth 100000 in
theorem ki_M_write : Cond.instanceMethod y_M_write ∈ lwG := lwG_r (List.mem_of_getElem? (i := 415) rfl) rfl
set_option maxRecDepth 100000 in
theorem ke_M_write : Cond.selects R_M y_M_write y_M_write ∈ lwG := lwG_r (List.mem_of_getElem? (i := 416) rfl) rfl
set_option maxRecDepth 100000 in
theorem kc_M_write : Cond.code y_M_write b_M_write 7 (some .int) ∈ lwG := lwG_r (List.mem_of_getElem? (i := 417) rfl) rfl
set_option maxRecDepth 100000 in
theorem kl_M_115 : Cond.methodLink R_M 115 y_M_isBlock ∈ lwG := lwG_r (List.mem_of_getElem? (i := 418) rfl) rfl
set_option maxRecDepth 100000 in
theorem ks_M_isBlock : Cond.static y_M_isBlock ∈ lwG := lwG_r (List.mem_of_getElem? (i := 419) rfl) rfl
set_option maxRecDepth 100000 in
theorem kc_M_isBlock : Cond.code y_M_isBlock b_M_isBlock 1 (some .boolean) ∈ lwG := lwG_r (List.mem_of_getElem? (i := 420) rfl) rfl
set_option maxRecDepth 100000 in
theorem kl_M_119 : Cond.methodLink R_M 119 y_M_pack ∈ lwG := lwG_r (List.mem_of_getElem? (i := 421) rfl) rfl
set_option maxRecDepth 100000 in
theorem ki_M_pack : Cond.instanceMethod y_M_pack ∈ lwG := lwG_r (List.mem_of_getElem? (i := 423) rfl) rfl
set_option maxRecDepth 100000 in
theorem kc_M_pack : Cond.code y_M_pack b_M_pack 12 none ∈ lwG := lwG_r (List.mem_of_getElem? (i := 424) rfl) rfl
set_option maxRecDepth 100000 in
theorem kj_M_61 : Cond.constantLong R_M 61 (255 : Int64) ∈ lwG := lwG_r (List.mem_of_getElem? (i := 425) rfl) rfl
set_option maxRecDepth 100000 in
theorem kl_M_63 : Cond.methodLink R_M 63 y_M_alike ∈ lwG := lwG_r (List.mem_of_getElem? (i := 426) rfl) rfl
set_option maxRecDepth 100000 in
theorem ki_M_alike : Cond.instanceMethod y_M_alike ∈ lwG := lwG_r (List.mem_of_getElem? (i := 428) rfl) rfl
set_option maxRecDepth 100000 in
theorem kc_M_alike : Cond.code y_M_alike b_M_alike 4 (some .int) ∈ lwG := lwG_r (List.mem_of_getElem? (i := 429) rfl) rfl
set_option maxRecDepth 100000 in
theorem kl_M_123 : Cond.methodLink R_M 123 y_M_noRoom ∈ lwG := lwG_r (List.mem_of_getElem? (i := 430) rfl) rfl
set_option maxRecDepth 100000 in
theorem ki_M_noRoom : Cond.instanceMethod y_M_noRoom ∈ lwG := lwG_r (List.mem_of_getElem? (i := 432) rfl) rfl
set_option maxRecDepth 100000 in
theorem kc_M_noRoom : Cond.code y_M_noRoom b_M_noRoom 2 (some .boolean) ∈ lwG := lwG_r (List.mem_of_getElem? (i := 433) rfl) rfl
set_option maxRecDepth 100000 in
theorem kl_M_112 : Cond.methodLink R_M 112 y_M_free ∈ lwG := lwG_r (List.mem_of_getElem? (i := 434) rfl) rfl
set_option maxRecDepth 100000 in
theorem ki_M_free : Cond.instanceMethod y_M_free ∈ lwG := lwG_r (List.mem_of_getElem? (i := 436) rfl) rfl
set_option maxRecDepth 100000 in
theorem kc_M_free : Cond.code y_M_free b_M_free 3 (some .int) ∈ lwG := lwG_r (List.mem_of_getElem? (i := 437) rfl) rfl
set_option maxRecDepth 100000 in
theorem kl_M_126 : Cond.methodLink R_M 126 y_M_append ∈ lwG := lwG_r (List.mem_of_getElem? (i := 438) rfl) rfl
set_option maxRecDepth 100000 in
theorem ki_M_append : Cond.instanceMethod y_M_append ∈ lwG := lwG_r (List.mem_of_getElem? (i := 440) rfl) rfl
set_option maxRecDepth 100000 in
theorem kc_M_append : Cond.code y_M_append b_M_append 9 (some .boolean) ∈ lwG := lwG_r (List.mem_of_getElem? (i := 441) rfl) rfl
set_option maxRecDepth 100000 in
theorem kl_M_90 : Cond.methodLink R_M 90 y_M_save ∈ lwG := lwG_r (List.mem_of_getElem? (i := 442) rfl) rfl
set_option maxRecDepth 100000 in
theorem ki_M_save : Cond.instanceMethod y_M_save ∈ lwG := lwG_r (List.mem_of_getElem? (i := 444) rfl) rfl
set_option maxRecDepth 100000 in
theorem kc_M_save : Cond.code y_M_save b_M_save 2 (some .int) ∈ lwG := lwG_r (List.mem_of_getElem? (i := 445) rfl) rfl
set_option maxRecDepth 100000 in
theorem kl_M_86 : Cond.methodLink R_M 86 y_M_writeUnit ∈ lwG := lwG_r (List.mem_of_getElem? (i := 446) rfl) rfl
set_option maxRecDepth 100000 in
theorem ki_M_writeUnit : Cond.instanceMethod y_M_writeUnit ∈ lwG := lwG_r (List.mem_of_getElem? (i := 448) rfl) rfl
set_option maxRecDepth 100000 in
theorem kc_M_writeUnit : Cond.code y_M_writeUnit b_M_writeUnit 1 (some .boolean) ∈ lwG := lwG_r (List.mem_of_getElem? (i := 449) rfl) rfl
set_option maxRecDepth 100000 in
theorem kl_M_109 : Cond.methodLink R_M 109 y_M_lowestFree ∈ lwG := lwG_r (List.mem_of_getElem? (i := 450) rfl) rfl
set_option maxRecDepth 100000 in
theorem ki_M_lowestFree : Cond.instanceMethod y_M_lowestFree ∈ lwG := lwG_r (List.mem_of_getElem? (i := 452) rfl) rfl
set_option maxRecDepth 100000 in
theorem kc_M_lowestFree : Cond.code y_M_lowestFree b_M_lowestFree 2 (some .int) ∈ lwG := lwG_r (List.mem_of_getElem? (i := 453) rfl) rfl
set_option maxRecDepth 100000 in
theorem kl_L_32 : Cond.methodLink R_L 32 y_M_trim ∈ lwG := lwG_r (List.mem_of_getElem? (i := 454) rfl) rfl
set_option maxRecDepth 100000 in
theorem ki_M_trim : Cond.instanceMethod y_M_trim ∈ lwG := lwG_r (List.mem_of_getElem? (i := 455) rfl) rfl
set_option maxRecDepth 100000 in
theorem ke_M_trim : Cond.selects R_M y_M_trim y_M_trim ∈ lwG := lwG_r (List.mem_of_getElem? (i := 456) rfl) rfl
set_option maxRecDepth 100000 in
theorem kc_M_trim : Cond.code y_M_trim b_M_trim 2 (some .int) ∈ lwG := lwG_r (List.mem_of_getElem? (i := 457) rfl) rfl
set_option maxRecDepth 100000 in
theorem kl_L_37 : Cond.methodLink R_L 37 y_M_read ∈ lwG := lwG_r (List.mem_of_getElem? (i := 458) rfl) rfl
set_option maxRecDepth 100000 in
theorem ki_M_read : Cond.instanceMethod y_M_read ∈ lwG := lwG_r (List.mem_of_getElem? (i := 459) rfl) rfl
set_option maxRecDepth 100000 in
theorem ke_M_read : Cond.selects R_M y_M_read y_M_read ∈ lwG := lwG_r (List.mem_of_getElem? (i := 460) rfl) rfl
set_option maxRecDepth 100000 in
theorem kc_M_read : Cond.code y_M_read b_M_read 4 (some .long) ∈ lwG := lwG_r (List.mem_of_getElem? (i := 461) rfl) rfl
set_option maxRecDepth 100000 in
theorem kl_L_42 : Cond.methodLink R_L 42 y_M_packed ∈ lwG := lwG_r (List.mem_of_getElem? (i := 462) rfl) rfl
set_option maxRecDepth 100000 in
theorem ki_M_packed : Cond.instanceMethod y_M_packed ∈ lwG := lwG_r (List.mem_of_getElem? (i := 463) rfl) rfl
set_option maxRecDepth 100000 in
theorem ke_M_packed : Cond.selects R_M y_M_packed y_M_packed ∈ lwG := lwG_r (List.mem_of_getElem? (i := 464) rfl) rfl
set_option maxRecDepth 100000 in
theorem kc_M_packed : Cond.code y_M_packed b_M_packed 4 (some .int) ∈ lwG := lwG_r (List.mem_of_getElem? (i := 465) rfl) rfl
set_option maxRecDepth 100000 in
theorem kl_M_130 : Cond.methodLink R_M 130 y_M_refusal ∈ lwG := lwG_r (List.mem_of_getElem? (i := 466) rfl) rfl
set_option maxRecDepth 100000 in
theorem ki_M_refusal : Cond.instanceMethod y_M_refusal ∈ lwG := lwG_r (List.mem_of_getElem? (i := 468) rfl) rfl
set_option maxRecDepth 100000 in
theorem kc_M_refusal : Cond.code y_M_refusal b_M_refusal 2 (some .int) ∈ lwG := lwG_r (List.mem_of_getElem? (i := 469) rfl) rfl
set_option maxRecDepth 100000 in
theorem kl_L_46 : Cond.methodLink R_L 46 y_M_place ∈ lwG := lwG_r (List.mem_of_getElem? (i := 470) rfl) rfl
set_option maxRecDepth 100000 in
theorem ki_M_place : Cond.instanceMethod y_M_place ∈ lwG := lwG_r (List.mem_of_getElem? (i := 471) rfl) rfl
set_option maxRecDepth 100000 in
theorem ke_M_place : Cond.selects R_M y_M_place y_M_place ∈ lwG := lwG_r (List.mem_of_getElem? (i := 472) rfl) rfl
set_option maxRecDepth 100000 in
theorem kc_M_place : Cond.code y_M_place b_M_place 3 (some .int) ∈ lwG := lwG_r (List.mem_of_getElem? (i := 473) rfl) rfl
set_option maxRecDepth 100000 in
theorem kl_L_51 : Cond.methodLink R_L 51 y_M_flush ∈ lwG := lwG_r (List.mem_of_getElem? (i := 474) rfl) rfl
set_option maxRecDepth 100000 in
theorem ki_M_flush : Cond.instanceMethod y_M_flush ∈ lwG := lwG_r (List.mem_of_getElem? (i := 475) rfl) rfl
set_option maxRecDepth 100000 in
theorem ke_M_flush : Cond.selects R_M y_M_flush y_M_flush ∈ lwG := lwG_r (List.mem_of_getElem? (i := 476) rfl) rfl
set_option maxRecDepth 100000 in
theorem kc_M_flush : Cond.code y_M_flush b_M_flush 1 (some .int) ∈ lwG := lwG_r (List.mem_of_getElem? (i := 477) rfl) rfl
set_option maxRecDepth 100000 in
theorem kl_L_55 : Cond.methodLink R_L 55 y_M_checkpoint ∈ lwG := lwG_r (List.mem_of_getElem? (i := 478) rfl) rfl
set_option maxRecDepth 100000 in
theorem ki_M_checkpoint : Cond.instanceMethod y_M_checkpoint ∈ lwG := lwG_r (List.mem_of_getElem? (i := 479) rfl) rfl
set_option maxRecDepth 100000 in
theorem ke_M_checkpoint : Cond.selects R_M y_M_checkpoint y_M_checkpoint ∈ lwG := lwG_r (List.mem_of_getElem? (i := 480) rfl) rfl
set_option maxRecDepth 100000 in
theorem kc_M_checkpoint : Cond.code y_M_checkpoint b_M_checkpoint 1 (some .int) ∈ lwG := lwG_r (List.mem_of_getElem? (i := 481) rfl) rfl
set_option maxRecDepth 100000 in
theorem kl_M_134 : Cond.methodLink R_M 134 y_M_check ∈ lwG := lwG_r (List.mem_of_getElem? (i := 482) rfl) rfl
set_option maxRecDepth 100000 in
theorem ki_M_check : Cond.instanceMethod y_M_check ∈ lwG := lwG_r (List.mem_of_getElem? (i := 484) rfl) rfl
set_option maxRecDepth 100000 in
theorem kc_M_check : Cond.code y_M_check b_M_check 2 (some .boolean) ∈ lwG := lwG_r (List.mem_of_getElem? (i := 485) rfl) rfl
set_option maxRecDepth 100000 in
theorem kl_L_59 : Cond.methodLink R_L 59 y_M_clean ∈ lwG := lwG_r (List.mem_of_getElem? (i := 486) rfl) rfl
set_option maxRecDepth 100000 in
theorem ki_M_clean : Cond.instanceMethod y_M_clean ∈ lwG := lwG_r (List.mem_of_getElem? (i := 487) rfl) rfl
set_option maxRecDepth 100000 in
theorem ke_M_clean : Cond.selects R_M y_M_clean y_M_clean ∈ lwG := lwG_r (List.mem_of_getElem? (i := 488) rfl) rfl
set_option maxRecDepth 100000 in
theorem kc_M_clean : Cond.code y_M_clean b_M_clean 4 (some .int) ∈ lwG := lwG_r (List.mem_of_getElem? (i := 489) rfl) rfl
set_option maxRecDepth 100000 in
theorem kl_M_143 : Cond.methodLink R_M 143 y_M_victim ∈ lwG := lwG_r (List.mem_of_getElem? (i := 490) rfl) rfl
set_option maxRecDepth 100000 in
theorem ki_M_victim : Cond.instanceMethod y_M_victim ∈ lwG := lwG_r (List.mem_of_getElem? (i := 492) rfl) rfl
set_option maxRecDepth 100000 in
theorem kc_M_victim : Cond.code y_M_victim b_M_victim 3 (some .int) ∈ lwG := lwG_r (List.mem_of_getElem? (i := 493) rfl) rfl
set_option maxRecDepth 100000 in
theorem kl_M_137 : Cond.methodLink R_M 137 y_M_liveUnits ∈ lwG := lwG_r (List.mem_of_getElem? (i := 494) rfl) rfl
set_option maxRecDepth 100000 in
theorem ki_M_liveUnits : Cond.instanceMethod y_M_liveUnits ∈ lwG := lwG_r (List.mem_of_getElem? (i := 496) rfl) rfl
set_option maxRecDepth 100000 in
theorem kc_M_liveUnits : Cond.code y_M_liveUnits b_M_liveUnits 4 (some .int) ∈ lwG := lwG_r (List.mem_of_getElem? (i := 497) rfl) rfl
set_option maxRecDepth 100000 in
theorem kl_M_146 : Cond.methodLink R_M 146 y_M_fits ∈ lwG := lwG_r (List.mem_of_getElem? (i := 498) rfl) rfl
set_option maxRecDepth 100000 in
theorem ki_M_fits : Cond.instanceMethod y_M_fits ∈ lwG := lwG_r (List.mem_of_getElem? (i := 500) rfl) rfl
set_option maxRecDepth 100000 in
theorem kc_M_fits : Cond.code y_M_fits b_M_fits 5 (some .boolean) ∈ lwG := lwG_r (List.mem_of_getElem? (i := 501) rfl) rfl
set_option maxRecDepth 100000 in
theorem kl_M_140 : Cond.methodLink R_M 140 y_M_isLatest ∈ lwG := lwG_r (List.mem_of_getElem? (i := 502) rfl) rfl
set_option maxRecDepth 100000 in
theorem ki_M_isLatest : Cond.instanceMethod y_M_isLatest ∈ lwG := lwG_r (List.mem_of_getElem? (i := 504) rfl) rfl
set_option maxRecDepth 100000 in
theorem kc_M_isLatest : Cond.code y_M_isLatest b_M_isLatest 2 (some .boolean) ∈ lwG := lwG_r (List.mem_of_getElem? (i := 505) rfl) rfl
set_option maxRecDepth 100000 in
theorem kl_L_64 : Cond.methodLink R_L 64 y_M_arm ∈ lwG := lwG_r (List.mem_of_getElem? (i := 506) rfl) rfl
set_option maxRecDepth 100000 in
theorem ki_M_arm : Cond.instanceMethod y_M_arm ∈ lwG := lwG_r (List.mem_of_getElem? (i := 507) rfl) rfl
set_option maxRecDepth 100000 in
theorem ke_M_arm : Cond.selects R_M y_M_arm y_M_arm ∈ lwG := lwG_r (List.mem_of_getElem? (i := 508) rfl) rfl
set_option maxRecDepth 100000 in
theorem kc_M_arm : Cond.code y_M_arm b_M_arm 2 (some .boolean) ∈ lwG := lwG_r (List.mem_of_getElem? (i := 509) rfl) rfl
set_option maxRecDepth 100000 in
theorem kl_L_69 : Cond.methodLink R_L 69 y_M_disarm ∈ lwG := lwG_r (List.mem_of_getElem? (i := 510) rfl) rfl
set_option maxRecDepth 100000 in
theorem ki_M_disarm : Cond.instanceMethod y_M_disarm ∈ lwG := lwG_r (List.mem_of_getElem? (i := 511) rfl) rfl
set_option maxRecDepth 100000 in
theorem ke_M_disarm : Cond.selects R_M y_M_disarm y_M_disarm ∈ lwG := lwG_r (List.mem_of_getElem? (i := 512) rfl) rfl
set_option maxRecDepth 100000 in
theorem kc_M_disarm : Cond.code y_M_disarm b_M_disarm 1 (some .boolean) ∈ lwG := lwG_r (List.mem_of_getElem? (i := 513) rfl) rfl
set_option maxRecDepth 100000 in
theorem kl_L_73 : Cond.methodLink R_L 73 y_M_crash ∈ lwG := lwG_r (List.mem_of_getElem? (i := 514) rfl) rfl
set_option maxRecDepth 100000 in
theorem ki_M_crash : Cond.instanceMethod y_M_crash ∈ lwG := lwG_r (List.mem_of_getElem? (i := 515) rfl) rfl
set_option maxRecDepth 100000 in
theorem ke_M_crash : Cond.selects R_M y_M_crash y_M_crash ∈ lwG := lwG_r (List.mem_of_getElem? (i := 516) rfl) rfl
set_option maxRecDepth 100000 in
theorem kc_M_crash : Cond.code y_M_crash b_M_crash 1 (some .boolean) ∈ lwG := lwG_r (List.mem_of_getElem? (i := 517) rfl) rfl
set_option maxRecDepth 100000 in
theorem kl_L_77 : Cond.methodLink R_L 77 y_M_recover ∈ lwG := lwG_r (List.mem_of_getElem? (i := 518) rfl) rfl
set_option maxRecDepth 100000 in
theorem ki_M_recover : Cond.instanceMethod y_M_recover ∈ lwG := lwG_r (List.mem_of_getElem? (i := 519) rfl) rfl
set_option maxRecDepth 100000 in
theorem ke_M_recover : Cond.selects R_M y_M_recover y_M_recover ∈ lwG := lwG_r (List.mem_of_getElem? (i := 520) rfl) rfl
set_option maxRecDepth 100000 in
theorem kc_M_recover : Cond.code y_M_recover b_M_recover 5 (some .int) ∈ lwG := lwG_r (List.mem_of_getElem? (i := 521) rfl) rfl
set_option maxRecDepth 100000 in
theorem kl_M_149 : Cond.methodLink R_M 149 y_M_find ∈ lwG := lwG_r (List.mem_of_getElem? (i := 522) rfl) rfl
set_option maxRecDepth 100000 in
theorem ki_M_find : Cond.instanceMethod y_M_find ∈ lwG := lwG_r (List.mem_of_getElem? (i := 524) rfl) rfl
set_option maxRecDepth 100000 in
theorem kc_M_find : Cond.code y_M_find b_M_find 4 (some .int) ∈ lwG := lwG_r (List.mem_of_getElem? (i := 525) rfl) rfl
set_option maxRecDepth 100000 in
theorem kl_L_81 : Cond.methodLink R_L 81 y_M_live ∈ lwG := lwG_r (List.mem_of_getElem? (i := 526) rfl) rfl
set_option maxRecDepth 100000 in
theorem ki_M_live : Cond.instanceMethod y_M_live ∈ lwG := lwG_r (List.mem_of_getElem? (i := 527) rfl) rfl
set_option maxRecDepth 100000 in
theorem ke_M_live : Cond.selects R_M y_M_live y_M_live ∈ lwG := lwG_r (List.mem_of_getElem? (i := 528) rfl) rfl
set_option maxRecDepth 100000 in
theorem kc_M_live : Cond.code y_M_live b_M_live 2 (some .int) ∈ lwG := lwG_r (List.mem_of_getElem? (i := 529) rfl) rfl
set_option maxRecDepth 100000 in
theorem kl_L_85 : Cond.methodLink R_L 85 y_M_segment ∈ lwG := lwG_r (List.mem_of_getElem? (i := 530) rfl) rfl
set_option maxRecDepth 100000 in
theorem ki_M_segment : Cond.instanceMethod y_M_segment ∈ lwG := lwG_r (List.mem_of_getElem? (i := 531) rfl) rfl
set_option maxRecDepth 100000 in
theorem ke_M_segment : Cond.selects R_M y_M_segment y_M_segment ∈ lwG := lwG_r (List.mem_of_getElem? (i := 532) rfl) rfl
set_option maxRecDepth 100000 in
theorem kc_M_segment : Cond.code y_M_segment b_M_segment 2 (some .int) ∈ lwG := lwG_r (List.mem_of_getElem? (i := 533) rfl) rfl
set_option maxRecDepth 100000 in
theorem kl_L_89 : Cond.methodLink R_L 89 y_M_look ∈ lwG := lwG_r (List.mem_of_getElem? (i := 534) rfl) rfl
set_option maxRecDepth 100000 in
theorem ki_M_look : Cond.instanceMethod y_M_look ∈ lwG := lwG_r (List.mem_of_getElem? (i := 535) rfl) rfl
set_option maxRecDepth 100000 in
theorem ke_M_look : Cond.selects R_M y_M_look y_M_look ∈ lwG := lwG_r (List.mem_of_getElem? (i := 536) rfl) rfl
set_option maxRecDepth 100000 in
theorem kc_M_look : Cond.code y_M_look b_M_look 2 (some .int) ∈ lwG := lwG_r (List.mem_of_getElem? (i := 537) rfl) rfl
set_option maxRecDepth 100000 in
theorem kj_L_21 : Cond.constantLong R_L 21 (4294967295 : Int64) ∈ lwG := lwG_r (List.mem_of_getElem? (i := 538) rfl) rfl
set_option maxRecDepth 100000 in
theorem ke_P_makePieces : Cond.selects R_P y_P_makePieces y_P_makePieces ∈ lwG := lwG_l (List.mem_of_getElem? (i := 0) rfl) rfl
set_option maxRecDepth 100000 in
theorem ke_P_longestMatch : Cond.selects R_P y_P_longestMatch y_P_longestMatch ∈ lwG := lwG_l (List.mem_of_getElem? (i := 1) rfl) rfl
set_option maxRecDepth 100000 in
theorem ke_P_sameBytes : Cond.selects R_P y_P_sameBytes y_P_sameBytes ∈ lwG := lwG_l (List.mem_of_getElem? (i := 2) rfl) rfl
set_option maxRecDepth 100000 in
theorem ke_P_endPiece : Cond.selects R_P y_P_endPiece y_P_endPiece ∈ lwG := lwG_l (List.mem_of_getElem? (i := 3) rfl) rfl
set_option maxRecDepth 100000 in
theorem ke_U_mayAppend : Cond.selects R_U y_U_mayAppend y_U_mayAppend ∈ lwG := lwG_l (List.mem_of_getElem? (i := 4) rfl) rfl
set_option maxRecDepth 100000 in
theorem ke_U_freeSegments : Cond.selects R_U y_U_freeSegments y_U_freeSegments ∈ lwG := lwG_l (List.mem_of_getElem? (i := 5) rfl) rfl
set_option maxRecDepth 100000 in
theorem ke_U_append : Cond.selects R_U y_U_append y_U_append ∈ lwG := lwG_l (List.mem_of_getElem? (i := 6) rfl) rfl
set_option maxRecDepth 100000 in
theorem ke_U_openNext : Cond.selects R_U y_U_openNext y_U_openNext ∈ lwG := lwG_l (List.mem_of_getElem? (i := 7) rfl) rfl
set_option maxRecDepth 100000 in
theorem ke_U_lowestFree : Cond.selects R_U y_U_lowestFree y_U_lowestFree ∈ lwG := lwG_l (List.mem_of_getElem? (i := 8) rfl) rfl
set_option maxRecDepth 100000 in
theorem ke_U_saveUnits : Cond.selects R_U y_U_saveUnits y_U_saveUnits ∈ lwG := lwG_l (List.mem_of_getElem? (i := 9) rfl) rfl
set_option maxRecDepth 100000 in
theorem ke_U_goDown : Cond.selects R_U y_U_goDown y_U_goDown ∈ lwG := lwG_l (List.mem_of_getElem? (i := 10) rfl) rfl
set_option maxRecDepth 100000 in
theorem ke_U_makeCheckpoint : Cond.selects R_U y_U_makeCheckpoint y_U_makeCheckpoint ∈ lwG := lwG_l (List.mem_of_getElem? (i := 11) rfl) rfl
set_option maxRecDepth 100000 in
theorem ke_U_closedWithFewestLive : Cond.selects R_U y_U_closedWithFewestLive y_U_closedWithFewestLive ∈ lwG := lwG_l (List.mem_of_getElem? (i := 12) rfl) rfl
set_option maxRecDepth 100000 in
theorem ke_U_liveUnits : Cond.selects R_U y_U_liveUnits y_U_liveUnits ∈ lwG := lwG_l (List.mem_of_getElem? (i := 13) rfl) rfl
set_option maxRecDepth 100000 in
theorem ke_U_isLive : Cond.selects R_U y_U_isLive y_U_isLive ∈ lwG := lwG_l (List.mem_of_getElem? (i := 14) rfl) rfl
set_option maxRecDepth 100000 in
theorem ke_U_liveRecordsHaveRoom : Cond.selects R_U y_U_liveRecordsHaveRoom y_U_liveRecordsHaveRoom ∈ lwG := lwG_l (List.mem_of_getElem? (i := 15) rfl) rfl
set_option maxRecDepth 100000 in
theorem ke_U_appendLiveRecords : Cond.selects R_U y_U_appendLiveRecords y_U_appendLiveRecords ∈ lwG := lwG_l (List.mem_of_getElem? (i := 16) rfl) rfl
set_option maxRecDepth 100000 in
theorem ke_U_returnToCheckpoint : Cond.selects R_U y_U_returnToCheckpoint y_U_returnToCheckpoint ∈ lwG := lwG_l (List.mem_of_getElem? (i := 17) rfl) rfl
set_option maxRecDepth 100000 in
theorem ke_U_rollForward : Cond.selects R_U y_U_rollForward y_U_rollForward ∈ lwG := lwG_l (List.mem_of_getElem? (i := 18) rfl) rfl
set_option maxRecDepth 100000 in
theorem ke_U_sortSegments : Cond.selects R_U y_U_sortSegments y_U_sortSegments ∈ lwG := lwG_l (List.mem_of_getElem? (i := 19) rfl) rfl
set_option maxRecDepth 100000 in
theorem ke_U_isSegment : Cond.selects R_U y_U_isSegment y_U_isSegment ∈ lwG := lwG_l (List.mem_of_getElem? (i := 20) rfl) rfl
set_option maxRecDepth 100000 in
theorem ke_M_pack : Cond.selects R_M y_M_pack y_M_pack ∈ lwG := lwG_l (List.mem_of_getElem? (i := 21) rfl) rfl
set_option maxRecDepth 100000 in
theorem ke_M_alike : Cond.selects R_M y_M_alike y_M_alike ∈ lwG := lwG_l (List.mem_of_getElem? (i := 22) rfl) rfl
set_option maxRecDepth 100000 in
theorem ke_M_noRoom : Cond.selects R_M y_M_noRoom y_M_noRoom ∈ lwG := lwG_l (List.mem_of_getElem? (i := 23) rfl) rfl
set_option maxRecDepth 100000 in
theorem ke_M_free : Cond.selects R_M y_M_free y_M_free ∈ lwG := lwG_l (List.mem_of_getElem? (i := 24) rfl) rfl
set_option maxRecDepth 100000 in
theorem ke_M_append : Cond.selects R_M y_M_append y_M_append ∈ lwG := lwG_l (List.mem_of_getElem? (i := 25) rfl) rfl
set_option maxRecDepth 100000 in
theorem ke_M_save : Cond.selects R_M y_M_save y_M_save ∈ lwG := lwG_l (List.mem_of_getElem? (i := 26) rfl) rfl
set_option maxRecDepth 100000 in
theorem ke_M_writeUnit : Cond.selects R_M y_M_writeUnit y_M_writeUnit ∈ lwG := lwG_l (List.mem_of_getElem? (i := 27) rfl) rfl
set_option maxRecDepth 100000 in
theorem ke_M_lowestFree : Cond.selects R_M y_M_lowestFree y_M_lowestFree ∈ lwG := lwG_l (List.mem_of_getElem? (i := 28) rfl) rfl
set_option maxRecDepth 100000 in
theorem ke_M_refusal : Cond.selects R_M y_M_refusal y_M_refusal ∈ lwG := lwG_l (List.mem_of_getElem? (i := 29) rfl) rfl
set_option maxRecDepth 100000 in
theorem ke_M_check : Cond.selects R_M y_M_check y_M_check ∈ lwG := lwG_l (List.mem_of_getElem? (i := 30) rfl) rfl
set_option maxRecDepth 100000 in
theorem ke_M_victim : Cond.selects R_M y_M_victim y_M_victim ∈ lwG := lwG_l (List.mem_of_getElem? (i := 31) rfl) rfl
set_option maxRecDepth 100000 in
theorem ke_M_liveUnits : Cond.selects R_M y_M_liveUnits y_M_liveUnits ∈ lwG := lwG_l (List.mem_of_getElem? (i := 32) rfl) rfl
set_option maxRecDepth 100000 in
theorem ke_M_fits : Cond.selects R_M y_M_fits y_M_fits ∈ lwG := lwG_l (List.mem_of_getElem? (i := 33) rfl) rfl
set_option maxRecDepth 100000 in
theorem ke_M_isLatest : Cond.selects R_M y_M_isLatest y_M_isLatest ∈ lwG := lwG_l (List.mem_of_getElem? (i := 34) rfl) rfl
set_option maxRecDepth 100000 in
theorem ke_M_find : Cond.selects R_M y_M_find y_M_find ∈ lwG := lwG_l (List.mem_of_getElem? (i := 35) rfl) rfl
set_option maxRecDepth 100000 in
theorem i_U : ∀ w ∈ u_ws R_U F_U 11, w ∈ lwG := by decide +kernel
set_option maxRecDepth 100000 in
theorem i_D : ∀ w ∈ u_ws R_D F_D 2, w ∈ lwG := by decide +kernel
set_option maxRecDepth 100000 in
theorem i_P : ∀ w ∈ u_ws R_P F_P 3, w ∈ lwG := by decide +kernel
set_option maxRecDepth 100000 in
theorem i_R : ∀ w ∈ u_ws R_R F_R 6, w ∈ lwG := by decide +kernel
set_option maxRecDepth 100000 in
theorem i_C : ∀ w ∈ u_ws R_C F_C 5, w ∈ lwG := by decide +kernel
set_option maxRecDepth 100000 in
theorem i_M : ∀ w ∈ u_ws R_M F_M 27, w ∈ lwG := by decide +kernel
set_option maxRecDepth 100000 in
theorem goodT : ∀ w ∈ lwG, (w.onTables && w.keeps) = true ∨ ∃ ty, w = .arrayClass ty := fun w h => good_of_word (List.mem_filter.mp h).2
theorem gV {own C : String} {idx L : Nat} {y : MethodName} {b : ByteArray} {r : Option FieldType} (h1 : Cond.methodLink own idx y ∈ lwG) (h2 : Cond.instanceMethod y ∈ lwG) (h3 : Cond.selects C y y ∈ lwG) (h4 : Cond.initialized C ∈ lwG) (h5 : Cond.code y b L r ∈ lwG) : GoodIn lwG (wsV own idx C y (Cond.code y b L r :: lwG)) := by
  intro w hw
  have hm : w ∈ lwG := by
    unfold wsV at hw
    rcases List.mem_append.mp hw with h | h
    · simp only [List.mem_cons, List.not_mem_nil, or_false] at h
      rcases h with rfl | rfl | rfl | rfl <;> assumption
    · rcases List.mem_cons.mp h with rfl | h
      · exact h5
      · exact h
  exact ⟨hm, goodT w hm⟩
theorem gS {own : String} {idx L : Nat} {y : MethodName} {b : ByteArray} {r : Option FieldType} (h1 : Cond.methodLink own idx y ∈ lwG) (h2 : Cond.static y ∈ lwG) (h4 : Cond.initialized own ∈ lwG) (h5 : Cond.code y b L r ∈ lwG) : GoodIn lwG (wsS own idx y (Cond.code y b L r :: lwG)) := by
  intro w hw
  have hm : w ∈ lwG := by
    unfold wsS at hw
    rcases List.mem_append.mp hw with h | h
    · simp only [List.mem_cons, List.not_mem_nil, or_false] at h
      rcases h with rfl | rfl | rfl <;> assumption
    · rcases List.mem_cons.mp h with rfl | h
      · exact h5
      · exact h
  exact ⟨hm, goodT w hm⟩
theorem gI {L : Nat} {y : MethodName} {b : ByteArray} {r : Option FieldType} (h5 : Cond.code y b L r ∈ lwG) : GoodIn lwG (Cond.code y b L r :: lwG) := by
  intro w hw
  have hm : w ∈ lwG := by
    rcases List.mem_cons.mp hw with rfl | h
    · exact h5
    · exact h
  exact ⟨hm, goodT w hm⟩
