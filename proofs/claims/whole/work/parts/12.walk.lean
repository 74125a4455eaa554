set_option maxHeartbeats 4000000 in
set_option maxRecDepth 100000 in
theorem c_U_appendLiveRecords (l : Launch) (dC : Nat → ClassId) (dI : Nat → Nat → Nat) (cI cZ cJ : ClassId) (a_u a_d a_p a_pb a_pf a_r a_rs a_rb a_ru a_rz a_rh a_rl a_c a_cp a_st a_pl : Nat) (sz n N : Nat) (uOpen : Int32) (uFill : Int32) (uSaved : Int32) (uSerial : Int32) (uDown : Int32) (uArmed : Int32) (uWritten : Int32) (uSers : Nat → Int32) (uBlks : Nat → Int32) (uUnts : Nat → Int32) (uStos : Nat → Int32) (uHis : Nat → Int64) (uLos : Nat → Int64) (uSts : Nat → Int32) (uPlcs : Nat → Int32) (x1 : Int32) (res : Int32 × Int32 × Int32 × Int32 × Int32 × Int32 × Int32 × (Nat → Int32) × (Nat → Int32) × (Nat → Int32) × (Nat → Int32) × (Nat → Int64) × (Nat → Int64) × (Nat → Int32) × (Nat → Int32)) (hM : U_appendLiveRecords n N uOpen uFill uSaved uSerial uArmed uWritten uSers uBlks uUnts uStos uHis uLos uSts uPlcs x1 = some res) : Met l y_U_appendLiveRecords w_U_appendLiveRecords ({ frames := 4, cells := 0, slots := 0, locals := 90 }) (va_Pc [.ref a_u, .int x1] (fun U => U.heap.size = sz ∧ va_P (dC, dI) classes [(a_u, .inr (0, [.ref a_d, .ref a_p, .ref a_r, .ref a_c, .ref a_st, .ref a_pl, .int uOpen, .int uFill, .int uSaved, .int uSerial, .int uDown])), (a_d, .inr (1, [.int uArmed, .int uWritten])), (a_r, .inr (3, [.ref a_rs, .ref a_rb, .ref a_ru, .ref a_rz, .ref a_rh, .ref a_rl])), (a_rs, .inl (cI, N, .inl uSers)), (a_rb, .inl (cI, N, .inl uBlks)), (a_ru, .inl (cI, N, .inl uUnts)), (a_rz, .inl (cZ, N, .inl uStos)), (a_rh, .inl (cJ, N, .inr (.inl uHis))), (a_rl, .inl (cJ, N, .inr (.inl uLos))), (a_st, .inl (cI, n, .inl uSts)), (a_pl, .inl (cI, 16, .inl uPlcs))] U.heap ∧ va_K (dC, dI) classes [(cI, .int), (cZ, .boolean), (cJ, .long)] U ∧ va_D (fun _ => True) [(a_u, .inr (0, [.ref a_d, .ref a_p, .ref a_r, .ref a_c, .ref a_st, .ref a_pl, .int uOpen, .int uFill, .int uSaved, .int uSerial, .int uDown])), (a_d, .inr (1, [.int uArmed, .int uWritten])), (a_r, .inr (3, [.ref a_rs, .ref a_rb, .ref a_ru, .ref a_rz, .ref a_rh, .ref a_rl])), (a_rs, .inl (cI, N, .inl uSers)), (a_rb, .inl (cI, N, .inl uBlks)), (a_ru, .inl (cI, N, .inl uUnts)), (a_rz, .inl (cZ, N, .inl uStos)), (a_rh, .inl (cJ, N, .inr (.inl uHis))), (a_rl, .inl (cJ, N, .inr (.inl uLos))), (a_st, .inl (cI, n, .inl uSts)), (a_pl, .inl (cI, 16, .inl uPlcs))] ∧ Ns U)) (va_Qi (fun (r : Int32) (z : Int32 × Int32 × Int32 × Int32 × Int32 × Int32 × (Nat → Int32) × (Nat → Int32) × (Nat → Int32) × (Nat → Int32) × (Nat → Int64) × (Nat → Int64) × (Nat → Int32) × (Nat → Int32)) => res = (r, z)) (fun (z : Int32 × Int32 × Int32 × Int32 × Int32 × Int32 × (Nat → Int32) × (Nat → Int32) × (Nat → Int32) × (Nat → Int32) × (Nat → Int64) × (Nat → Int64) × (Nat → Int32) × (Nat → Int32)) (t : State) => va_P (dC, dI) classes [(a_u, .inr (0, [.ref a_d, .ref a_p, .ref a_r, .ref a_c, .ref a_st, .ref a_pl, .int z.1, .int z.2.1, .int z.2.2.1, .int z.2.2.2.1, .int uDown])), (a_d, .inr (1, [.int z.2.2.2.2.1, .int z.2.2.2.2.2.1])), (a_r, .inr (3, [.ref a_rs, .ref a_rb, .ref a_ru, .ref a_rz, .ref a_rh, .ref a_rl])), (a_rs, .inl (cI, N, .inl z.2.2.2.2.2.2.1)), (a_rb, .inl (cI, N, .inl z.2.2.2.2.2.2.2.1)), (a_ru, .inl (cI, N, .inl z.2.2.2.2.2.2.2.2.1)), (a_rz, .inl (cZ, N, .inl z.2.2.2.2.2.2.2.2.2.1)), (a_rh, .inl (cJ, N, .inr (.inl z.2.2.2.2.2.2.2.2.2.2.1))), (a_rl, .inl (cJ, N, .inr (.inl z.2.2.2.2.2.2.2.2.2.2.2.1))), (a_st, .inl (cI, n, .inl z.2.2.2.2.2.2.2.2.2.2.2.2.1)), (a_pl, .inl (cI, 16, .inl z.2.2.2.2.2.2.2.2.2.2.2.2.2))] t.heap ∧ va_K (dC, dI) classes [(cI, .int), (cZ, .boolean), (cJ, .long)] t ∧ va_D (va_A [(a_u, .inr (0, [.ref a_d, .ref a_p, .ref a_r, .ref a_c, .ref a_st, .ref a_pl, .int uOpen, .int uFill, .int uSaved, .int uSerial, .int uDown])), (a_d, .inr (1, [.int uArmed, .int uWritten])), (a_r, .inr (3, [.ref a_rs, .ref a_rb, .ref a_ru, .ref a_rz, .ref a_rh, .ref a_rl])), (a_rs, .inl (cI, N, .inl uSers)), (a_rb, .inl (cI, N, .inl uBlks)), (a_ru, .inl (cI, N, .inl uUnts)), (a_rz, .inl (cZ, N, .inl uStos)), (a_rh, .inl (cJ, N, .inr (.inl uHis))), (a_rl, .inl (cJ, N, .inr (.inl uLos))), (a_st, .inl (cI, n, .inl uSts)), (a_pl, .inl (cI, 16, .inl uPlcs))] sz) [(a_u, .inr (0, [.ref a_d, .ref a_p, .ref a_r, .ref a_c, .ref a_st, .ref a_pl, .int z.1, .int z.2.1, .int z.2.2.1, .int z.2.2.2.1, .int uDown])), (a_d, .inr (1, [.int z.2.2.2.2.1, .int z.2.2.2.2.2.1])), (a_r, .inr (3, [.ref a_rs, .ref a_rb, .ref a_ru, .ref a_rz, .ref a_rh, .ref a_rl])), (a_rs, .inl (cI, N, .inl z.2.2.2.2.2.2.1)), (a_rb, .inl (cI, N, .inl z.2.2.2.2.2.2.2.1)), (a_ru, .inl (cI, N, .inl z.2.2.2.2.2.2.2.2.1)), (a_rz, .inl (cZ, N, .inl z.2.2.2.2.2.2.2.2.2.1)), (a_rh, .inl (cJ, N, .inr (.inl z.2.2.2.2.2.2.2.2.2.2.1))), (a_rl, .inl (cJ, N, .inr (.inl z.2.2.2.2.2.2.2.2.2.2.2.1))), (a_st, .inl (cI, n, .inl z.2.2.2.2.2.2.2.2.2.2.2.2.1)), (a_pl, .inl (cI, 16, .inl z.2.2.2.2.2.2.2.2.2.2.2.2.2))]) (va_A [(a_u, .inr (0, [.ref a_d, .ref a_p, .ref a_r, .ref a_c, .ref a_st, .ref a_pl, .int uOpen, .int uFill, .int uSaved, .int uSerial, .int uDown])), (a_d, .inr (1, [.int uArmed, .int uWritten])), (a_r, .inr (3, [.ref a_rs, .ref a_rb, .ref a_ru, .ref a_rz, .ref a_rh, .ref a_rl])), (a_rs, .inl (cI, N, .inl uSers)), (a_rb, .inl (cI, N, .inl uBlks)), (a_ru, .inl (cI, N, .inl uUnts)), (a_rz, .inl (cZ, N, .inl uStos)), (a_rh, .inl (cJ, N, .inr (.inl uHis))), (a_rl, .inl (cJ, N, .inr (.inl uLos))), (a_st, .inl (cI, n, .inl uSts)), (a_pl, .inl (cI, 16, .inl uPlcs))] sz)) 0 0 (va_A [(a_u, .inr (0, [.ref a_d, .ref a_p, .ref a_r, .ref a_c, .ref a_st, .ref a_pl, .int uOpen, .int uFill, .int uSaved, .int uSerial, .int uDown])), (a_d, .inr (1, [.int uArmed, .int uWritten])), (a_r, .inr (3, [.ref a_rs, .ref a_rb, .ref a_ru, .ref a_rz, .ref a_rh, .ref a_rl])), (a_rs, .inl (cI, N, .inl uSers)), (a_rb, .inl (cI, N, .inl uBlks)), (a_ru, .inl (cI, N, .inl uUnts)), (a_rz, .inl (cZ, N, .inl uStos)), (a_rh, .inl (cJ, N, .inr (.inl uHis))), (a_rl, .inl (cJ, N, .inr (.inl uLos))), (a_st, .inl (cI, n, .inl uSts)), (a_pl, .inl (cI, 16, .inl uPlcs))] sz) := by
  refine Met.ofW (cc := b_U_appendLiveRecords) (maxL := 5) (ret := (some .int)) (by decide) rfl ?_
  intro p e s m args below meth c s₁ B hml hv
  obtain ⟨rfl, hsz, hP, hK, hD0, hN⟩ := hv
  have hx := B.exec
  have hb := B.bytes
  have hr := B.returns
  have hts := atoms_spec (ws := w_U_appendLiveRecords) B.pre
  have htT : ∀ w ∈ lwG, w.before _ s = true := fun w h => hts w (List.mem_cons_of_mem _ h)
  have hown : s.vm.findClass R_U = some m.cls := findClass_of_methodNamed B.named
  have hlocks := B.notSynchronized
  subst hsz
  have hD := hD0.self (sz := s.heap.size)
  generalize hAe : va_A [(a_u, .inr (0, [.ref a_d, .ref a_p, .ref a_r, .ref a_c, .ref a_st, .ref a_pl, .int uOpen, .int uFill, .int uSaved, .int uSerial, .int uDown])), (a_d, .inr (1, [.int uArmed, .int uWritten])), (a_r, .inr (3, [.ref a_rs, .ref a_rb, .ref a_ru, .ref a_rz, .ref a_rh, .ref a_rl])), (a_rs, .inl (cI, N, .inl uSers)), (a_rb, .inl (cI, N, .inl uBlks)), (a_ru, .inl (cI, N, .inl uUnts)), (a_rz, .inl (cZ, N, .inl uStos)), (a_rh, .inl (cJ, N, .inr (.inl uHis))), (a_rl, .inl (cJ, N, .inr (.inl uLos))), (a_st, .inl (cI, n, .inl uSts)), (a_pl, .inl (cI, 16, .inl uPlcs))] s.heap.size = A at hD ⊢
  have hA : ∀ q : Nat, s.heap.size ≤ q → A q := fun q h => by rw [← hAe]; exact Or.inr h
  have hS : va_S A s.heap s.heap [] := va_S.rf
  have hP : va_P (dC, dI) classes [(a_u, .inr (0, [.ref a_d, .ref a_p, .ref a_r, .ref a_c, .ref a_st, .ref a_pl, .int uOpen, .int uFill, .int uSaved, .int uSerial, .int uDown])), (a_d, .inr (1, [.int uArmed, .int uWritten])), (a_r, .inr (3, [.ref a_rs, .ref a_rb, .ref a_ru, .ref a_rz, .ref a_rh, .ref a_rl])), (a_rs, .inl (cI, N, .inl uSers)), (a_rb, .inl (cI, N, .inl uBlks)), (a_ru, .inl (cI, N, .inl uUnts)), (a_rz, .inl (cZ, N, .inl uStos)), (a_rh, .inl (cJ, N, .inr (.inl uHis))), (a_rl, .inl (cJ, N, .inr (.inl uLos))), (a_st, .inl (cI, n, .inl uSts)), (a_pl, .inl (cI, 16, .inl uPlcs))] s.heap := hP
  have hl := lv_entry ([.ref a_u, .int x1]) (n := 5) (Nat.le_of_ble_eq_true rfl)
  rw [lg_entry_eq]
  generalize (lg_sl ([.ref a_u, .int x1]) ++ List.replicate (5 - (lg_sl ([.ref a_u, .int x1])).length) Slot.unset).toArray = ls at hl ⊢
  have hl : lv_has ls 5 [(0, .ref a_u), (1, .int x1)] := hl
  have h := hM
  rw [U_appendLiveRecords] at h
  refine lv_iload_n hx hb d_U_appendLiveRecords_0 rfl (lv_at hl 1 rfl) ?_
  refine lv_bipush (v := (16 : Int32)) hx hb d_U_appendLiveRecords_1 (by decide) ?_
  refine lv_imul hx hb d_U_appendLiveRecords_3 ?_
  refine lv_istore_n hx hb d_U_appendLiveRecords_4 rfl hl (by decide) rfl (fun ls hl => ?_)
  have hl : lv_has ls 5 [(2, .int (x1 * (16 : Int32))), (0, .ref a_u), (1, .int x1)] := hl
  refine lv_iconst (v := (0 : Int32)) hx hb d_U_appendLiveRecords_5 (by decide) ?_
  refine lv_istore_n hx hb d_U_appendLiveRecords_6 rfl hl (by decide) rfl (fun ls hl => ?_)
  have hl : lv_has ls 5 [(3, .int (0 : Int32)), (2, .int (x1 * (16 : Int32))), (0, .ref a_u), (1, .int x1)] := hl
  refine lv_iload_n hx hb d_U_appendLiveRecords_7 rfl (lv_at hl 1 rfl) ?_
  refine lv_istore hx hb d_U_appendLiveRecords_8 hl (by decide) rfl (fun ls hl => ?_)
  have hl : lv_has ls 5 [(4, .int (x1 * (16 : Int32))), (3, .int (0 : Int32)), (2, .int (x1 * (16 : Int32))), (0, .ref a_u), (1, .int x1)] := hl
  have L10 : ∀ (K10 : Int32 → Int32 → Int32 → Int32 → Int32 → Int32 → (Nat → Int32) → (Nat → Int32) → (Nat → Int32) → (Nat → Int32) → (Nat → Int64) → (Nat → Int64) → (Nat → Int32) → (Nat → Int32) → Int32 → Int32 → Option (Int32 × Int32 × Int32 × Int32 × Int32 × Int32 × Int32 × (Nat → Int32) × (Nat → Int32) × (Nat → Int32) × (Nat → Int32) × (Nat → Int64) × (Nat → Int64) × (Nat → Int32) × (Nat → Int32))) (fuel : Nat) (uOpen_w10 : Int32) (uFill_w10 : Int32) (uSaved_w10 : Int32) (uSerial_w10 : Int32) (uArmed_w10 : Int32) (uWritten_w10 : Int32) (uSers_w10 : Nat → Int32) (uBlks_w10 : Nat → Int32) (uUnts_w10 : Nat → Int32) (uStos_w10 : Nat → Int32) (uHis_w10 : Nat → Int64) (uLos_w10 : Nat → Int64) (uSts_w10 : Nat → Int32) (uPlcs_w10 : Nat → Int32) (x3_w10 : Int32) (x4_w10 : Int32) (ls : Array Slot) (H : Heap) (locs : List Loc), lv_has ls 5 [(0, .ref a_u), (2, .int (x1 * (16 : Int32))), (3, .int x3_w10), (4, .int x4_w10)] → va_P (dC, dI) classes [(a_u, .inr (0, [.ref a_d, .ref a_p, .ref a_r, .ref a_c, .ref a_st, .ref a_pl, .int uOpen_w10, .int uFill_w10, .int uSaved_w10, .int uSerial_w10, .int uDown])), (a_d, .inr (1, [.int uArmed_w10, .int uWritten_w10])), (a_r, .inr (3, [.ref a_rs, .ref a_rb, .ref a_ru, .ref a_rz, .ref a_rh, .ref a_rl])), (a_rs, .inl (cI, N, .inl uSers_w10)), (a_rb, .inl (cI, N, .inl uBlks_w10)), (a_ru, .inl (cI, N, .inl uUnts_w10)), (a_rz, .inl (cZ, N, .inl uStos_w10)), (a_rh, .inl (cJ, N, .inr (.inl uHis_w10))), (a_rl, .inl (cJ, N, .inr (.inl uLos_w10))), (a_st, .inl (cI, n, .inl uSts_w10)), (a_pl, .inl (cI, 16, .inl uPlcs_w10))] H → va_D A [(a_u, .inr (0, [.ref a_d, .ref a_p, .ref a_r, .ref a_c, .ref a_st, .ref a_pl, .int uOpen_w10, .int uFill_w10, .int uSaved_w10, .int uSerial_w10, .int uDown])), (a_d, .inr (1, [.int uArmed_w10, .int uWritten_w10])), (a_r, .inr (3, [.ref a_rs, .ref a_rb, .ref a_ru, .ref a_rz, .ref a_rh, .ref a_rl])), (a_rs, .inl (cI, N, .inl uSers_w10)), (a_rb, .inl (cI, N, .inl uBlks_w10)), (a_ru, .inl (cI, N, .inl uUnts_w10)), (a_rz, .inl (cZ, N, .inl uStos_w10)), (a_rh, .inl (cJ, N, .inr (.inl uHis_w10))), (a_rl, .inl (cJ, N, .inr (.inl uLos_w10))), (a_st, .inl (cI, n, .inl uSts_w10)), (a_pl, .inl (cI, 16, .inl uPlcs_w10))] → va_S A s.heap H locs → U_appendLiveRecords_L10 n N (x1 * (16 : Int32)) K10 fuel uOpen_w10 uFill_w10 uSaved_w10 uSerial_w10 uArmed_w10 uWritten_w10 uSers_w10 uBlks_w10 uUnts_w10 uStos_w10 uHis_w10 uLos_w10 uSts_w10 uPlcs_w10 x3_w10 x4_w10 = some res → (∀ (uOpen_w10 : Int32) (uFill_w10 : Int32) (uSaved_w10 : Int32) (uSerial_w10 : Int32) (uArmed_w10 : Int32) (uWritten_w10 : Int32) (uSers_w10 : Nat → Int32) (uBlks_w10 : Nat → Int32) (uUnts_w10 : Nat → Int32) (uStos_w10 : Nat → Int32) (uHis_w10 : Nat → Int64) (uLos_w10 : Nat → Int64) (uSts_w10 : Nat → Int32) (uPlcs_w10 : Nat → Int32) (x3_w10 : Int32) (x4_w10 : Int32) (ls : Array Slot) (H : Heap) (locs : List Loc), lv_has ls 5 [(0, .ref a_u), (2, .int (x1 * (16 : Int32))), (3, .int x3_w10), (4, .int x4_w10)] → va_P (dC, dI) classes [(a_u, .inr (0, [.ref a_d, .ref a_p, .ref a_r, .ref a_c, .ref a_st, .ref a_pl, .int uOpen_w10, .int uFill_w10, .int uSaved_w10, .int uSerial_w10, .int uDown])), (a_d, .inr (1, [.int uArmed_w10, .int uWritten_w10])), (a_r, .inr (3, [.ref a_rs, .ref a_rb, .ref a_ru, .ref a_rz, .ref a_rh, .ref a_rl])), (a_rs, .inl (cI, N, .inl uSers_w10)), (a_rb, .inl (cI, N, .inl uBlks_w10)), (a_ru, .inl (cI, N, .inl uUnts_w10)), (a_rz, .inl (cZ, N, .inl uStos_w10)), (a_rh, .inl (cJ, N, .inr (.inl uHis_w10))), (a_rl, .inl (cJ, N, .inr (.inl uLos_w10))), (a_st, .inl (cI, n, .inl uSts_w10)), (a_pl, .inl (cI, 16, .inl uPlcs_w10))] H → va_D A [(a_u, .inr (0, [.ref a_d, .ref a_p, .ref a_r, .ref a_c, .ref a_st, .ref a_pl, .int uOpen_w10, .int uFill_w10, .int uSaved_w10, .int uSerial_w10, .int uDown])), (a_d, .inr (1, [.int uArmed_w10, .int uWritten_w10])), (a_r, .inr (3, [.ref a_rs, .ref a_rb, .ref a_ru, .ref a_rz, .ref a_rh, .ref a_rl])), (a_rs, .inl (cI, N, .inl uSers_w10)), (a_rb, .inl (cI, N, .inl uBlks_w10)), (a_ru, .inl (cI, N, .inl uUnts_w10)), (a_rz, .inl (cZ, N, .inl uStos_w10)), (a_rh, .inl (cJ, N, .inr (.inl uHis_w10))), (a_rl, .inl (cJ, N, .inr (.inl uLos_w10))), (a_st, .inl (cI, n, .inl uSts_w10)), (a_pl, .inl (cI, 16, .inl uPlcs_w10))] → va_S A s.heap H locs → K10 uOpen_w10 uFill_w10 uSaved_w10 uSerial_w10 uArmed_w10 uWritten_w10 uSers_w10 uBlks_w10 uUnts_w10 uStos_w10 uHis_w10 uLos_w10 uSts_w10 uPlcs_w10 x3_w10 x4_w10 = some res → W p l e (headSpec w_U_appendLiveRecords ({ frames := 4, cells := 0, slots := 0, locals := 90 })).room s m ([.ref a_u, .int x1] : List Value).toArray below meth c H locs 0 0 (MQ below (va_Qi (fun (r : Int32) (z : Int32 × Int32 × Int32 × Int32 × Int32 × Int32 × (Nat → Int32) × (Nat → Int32) × (Nat → Int32) × (Nat → Int32) × (Nat → Int64) × (Nat → Int64) × (Nat → Int32) × (Nat → Int32)) => res = (r, z)) (fun (z : Int32 × Int32 × Int32 × Int32 × Int32 × Int32 × (Nat → Int32) × (Nat → Int32) × (Nat → Int32) × (Nat → Int32) × (Nat → Int64) × (Nat → Int64) × (Nat → Int32) × (Nat → Int32)) (t : State) => va_P (dC, dI) classes [(a_u, .inr (0, [.ref a_d, .ref a_p, .ref a_r, .ref a_c, .ref a_st, .ref a_pl, .int z.1, .int z.2.1, .int z.2.2.1, .int z.2.2.2.1, .int uDown])), (a_d, .inr (1, [.int z.2.2.2.2.1, .int z.2.2.2.2.2.1])), (a_r, .inr (3, [.ref a_rs, .ref a_rb, .ref a_ru, .ref a_rz, .ref a_rh, .ref a_rl])), (a_rs, .inl (cI, N, .inl z.2.2.2.2.2.2.1)), (a_rb, .inl (cI, N, .inl z.2.2.2.2.2.2.2.1)), (a_ru, .inl (cI, N, .inl z.2.2.2.2.2.2.2.2.1)), (a_rz, .inl (cZ, N, .inl z.2.2.2.2.2.2.2.2.2.1)), (a_rh, .inl (cJ, N, .inr (.inl z.2.2.2.2.2.2.2.2.2.2.1))), (a_rl, .inl (cJ, N, .inr (.inl z.2.2.2.2.2.2.2.2.2.2.2.1))), (a_st, .inl (cI, n, .inl z.2.2.2.2.2.2.2.2.2.2.2.2.1)), (a_pl, .inl (cI, 16, .inl z.2.2.2.2.2.2.2.2.2.2.2.2.2))] t.heap ∧ va_K (dC, dI) classes [(cI, .int), (cZ, .boolean), (cJ, .long)] t ∧ va_D A [(a_u, .inr (0, [.ref a_d, .ref a_p, .ref a_r, .ref a_c, .ref a_st, .ref a_pl, .int z.1, .int z.2.1, .int z.2.2.1, .int z.2.2.2.1, .int uDown])), (a_d, .inr (1, [.int z.2.2.2.2.1, .int z.2.2.2.2.2.1])), (a_r, .inr (3, [.ref a_rs, .ref a_rb, .ref a_ru, .ref a_rz, .ref a_rh, .ref a_rl])), (a_rs, .inl (cI, N, .inl z.2.2.2.2.2.2.1)), (a_rb, .inl (cI, N, .inl z.2.2.2.2.2.2.2.1)), (a_ru, .inl (cI, N, .inl z.2.2.2.2.2.2.2.2.1)), (a_rz, .inl (cZ, N, .inl z.2.2.2.2.2.2.2.2.2.1)), (a_rh, .inl (cJ, N, .inr (.inl z.2.2.2.2.2.2.2.2.2.2.1))), (a_rl, .inl (cJ, N, .inr (.inl z.2.2.2.2.2.2.2.2.2.2.2.1))), (a_st, .inl (cI, n, .inl z.2.2.2.2.2.2.2.2.2.2.2.2.1)), (a_pl, .inl (cI, 16, .inl z.2.2.2.2.2.2.2.2.2.2.2.2.2))]) A) ([.ref a_u, .int x1] : List Value).toArray s 0 0 A) (F0 m 91 ls [])) → W p l e (headSpec w_U_appendLiveRecords ({ frames := 4, cells := 0, slots := 0, locals := 90 })).room s m ([.ref a_u, .int x1] : List Value).toArray below meth c H locs 0 0 (MQ below (va_Qi (fun (r : Int32) (z : Int32 × Int32 × Int32 × Int32 × Int32 × Int32 × (Nat → Int32) × (Nat → Int32) × (Nat → Int32) × (Nat → Int32) × (Nat → Int64) × (Nat → Int64) × (Nat → Int32) × (Nat → Int32)) => res = (r, z)) (fun (z : Int32 × Int32 × Int32 × Int32 × Int32 × Int32 × (Nat → Int32) × (Nat → Int32) × (Nat → Int32) × (Nat → Int32) × (Nat → Int64) × (Nat → Int64) × (Nat → Int32) × (Nat → Int32)) (t : State) => va_P (dC, dI) classes [(a_u, .inr (0, [.ref a_d, .ref a_p, .ref a_r, .ref a_c, .ref a_st, .ref a_pl, .int z.1, .int z.2.1, .int z.2.2.1, .int z.2.2.2.1, .int uDown])), (a_d, .inr (1, [.int z.2.2.2.2.1, .int z.2.2.2.2.2.1])), (a_r, .inr (3, [.ref a_rs, .ref a_rb, .ref a_ru, .ref a_rz, .ref a_rh, .ref a_rl])), (a_rs, .inl (cI, N, .inl z.2.2.2.2.2.2.1)), (a_rb, .inl (cI, N, .inl z.2.2.2.2.2.2.2.1)), (a_ru, .inl (cI, N, .inl z.2.2.2.2.2.2.2.2.1)), (a_rz, .inl (cZ, N, .inl z.2.2.2.2.2.2.2.2.2.1)), (a_rh, .inl (cJ, N, .inr (.inl z.2.2.2.2.2.2.2.2.2.2.1))), (a_rl, .inl (cJ, N, .inr (.inl z.2.2.2.2.2.2.2.2.2.2.2.1))), (a_st, .inl (cI, n, .inl z.2.2.2.2.2.2.2.2.2.2.2.2.1)), (a_pl, .inl (cI, 16, .inl z.2.2.2.2.2.2.2.2.2.2.2.2.2))] t.heap ∧ va_K (dC, dI) classes [(cI, .int), (cZ, .boolean), (cJ, .long)] t ∧ va_D A [(a_u, .inr (0, [.ref a_d, .ref a_p, .ref a_r, .ref a_c, .ref a_st, .ref a_pl, .int z.1, .int z.2.1, .int z.2.2.1, .int z.2.2.2.1, .int uDown])), (a_d, .inr (1, [.int z.2.2.2.2.1, .int z.2.2.2.2.2.1])), (a_r, .inr (3, [.ref a_rs, .ref a_rb, .ref a_ru, .ref a_rz, .ref a_rh, .ref a_rl])), (a_rs, .inl (cI, N, .inl z.2.2.2.2.2.2.1)), (a_rb, .inl (cI, N, .inl z.2.2.2.2.2.2.2.1)), (a_ru, .inl (cI, N, .inl z.2.2.2.2.2.2.2.2.1)), (a_rz, .inl (cZ, N, .inl z.2.2.2.2.2.2.2.2.2.1)), (a_rh, .inl (cJ, N, .inr (.inl z.2.2.2.2.2.2.2.2.2.2.1))), (a_rl, .inl (cJ, N, .inr (.inl z.2.2.2.2.2.2.2.2.2.2.2.1))), (a_st, .inl (cI, n, .inl z.2.2.2.2.2.2.2.2.2.2.2.2.1)), (a_pl, .inl (cI, 16, .inl z.2.2.2.2.2.2.2.2.2.2.2.2.2))]) A) ([.ref a_u, .int x1] : List Value).toArray s 0 0 A) (F0 m 10 ls []) := by
    intro K10 fuel
    induction fuel with
    | zero => intro uOpen_w10 uFill_w10 uSaved_w10 uSerial_w10 uArmed_w10 uWritten_w10 uSers_w10 uBlks_w10 uUnts_w10 uStos_w10 uHis_w10 uLos_w10 uSts_w10 uPlcs_w10 x3_w10 x4_w10 ls H locs hl hP hD hS h hk10; exact absurd (show (none : Option (Int32 × Int32 × Int32 × Int32 × Int32 × Int32 × Int32 × (Nat → Int32) × (Nat → Int32) × (Nat → Int32) × (Nat → Int32) × (Nat → Int64) × (Nat → Int64) × (Nat → Int32) × (Nat → Int32))) = some res from h) (by intro q; cases q)
    | succ fuel ih10 =>
      intro uOpen_w10 uFill_w10 uSaved_w10 uSerial_w10 uArmed_w10 uWritten_w10 uSers_w10 uBlks_w10 uUnts_w10 uStos_w10 uHis_w10 uLos_w10 uSts_w10 uPlcs_w10 x3_w10 x4_w10 ls H locs hl hP hD hS h hk10
      rw [U_appendLiveRecords_L10] at h
      refine lv_iload hx hb d_U_appendLiveRecords_10 (lv_at hl 3 rfl) ?_
      refine lv_iload_n hx hb d_U_appendLiveRecords_12 rfl (lv_at hl 1 rfl) ?_
      refine lv_bipush (v := (16 : Int32)) hx hb d_U_appendLiveRecords_13 (by decide) ?_
      refine lv_iadd hx hb d_U_appendLiveRecords_15 ?_
      refine lv_icmp_ge (tgt := 91) hx hb d_U_appendLiveRecords_16 (by decide) (fun hc => ?_) (fun hc => ?_)
      · have h := ck_t hc h
        have hl : lv_has ls 5 [(0, .ref a_u), (2, .int (x1 * (16 : Int32))), (3, .int x3_w10), (4, .int x4_w10)] := lv_sub hl [0, 1, 2, 3] rfl
        exact hk10 _ _ _ _ _ _ _ _ _ _ _ _ _ _ _ _ _ _ _ hl hP hD hS h
      · have h := ck_f hc h
        refine lv_aload_n hx hb d_U_appendLiveRecords_19 rfl (lv_at hl 0 rfl) ?_
        refine lv_iload hx hb d_U_appendLiveRecords_20 (lv_at hl 3 rfl) ?_
        obtain ⟨z1, hz, h⟩ := ck_bind h
        have hPc := hP.sub (ws' := [(a_u, .inr (0, [.ref a_d, .ref a_p, .ref a_r, .ref a_c, .ref a_st, .ref a_pl, .int uOpen_w10, .int uFill_w10, .int uSaved_w10, .int uSerial_w10, .int uDown])), (a_r, .inr (3, [.ref a_rs, .ref a_rb, .ref a_ru, .ref a_rz, .ref a_rh, .ref a_rl])), (a_rb, .inl (cI, N, .inl uBlks_w10)), (a_pl, .inl (cI, 16, .inl uPlcs_w10))]) [0, 2, 4, 10] rfl
        have hDc := hD.sub (ws' := [(a_u, .inr (0, [.ref a_d, .ref a_p, .ref a_r, .ref a_c, .ref a_st, .ref a_pl, .int uOpen_w10, .int uFill_w10, .int uSaved_w10, .int uSerial_w10, .int uDown])), (a_r, .inr (3, [.ref a_rs, .ref a_rb, .ref a_ru, .ref a_rz, .ref a_rh, .ref a_rl])), (a_rb, .inl (cI, N, .inl uBlks_w10)), (a_pl, .inl (cI, 16, .inl uPlcs_w10))]) [0, 2, 4, 10] (by decide) rfl
        have hFc := va_free (wc := [(a_u, .inr (0, [.ref a_d, .ref a_p, .ref a_r, .ref a_c, .ref a_st, .ref a_pl, .int uOpen_w10, .int uFill_w10, .int uSaved_w10, .int uSerial_w10, .int uDown])), (a_r, .inr (3, [.ref a_rs, .ref a_rb, .ref a_ru, .ref a_rz, .ref a_rh, .ref a_rl])), (a_rb, .inl (cI, N, .inl uBlks_w10)), (a_pl, .inl (cI, 16, .inl uPlcs_w10))]) hD hS hA [0, 2, 4, 10] rfl
        refine va_calli (va_runV (As := [.int x4_w10]) (rest := []) ⟨hx, hb, hml, hown, htT⟩ (c_U_isLive l dC dI cI cZ cJ a_u a_d a_p a_pb a_pf a_r a_rs a_rb a_ru a_rz a_rh a_rl a_c a_cp a_st a_pl H.size n N uOpen_w10 uFill_w10 uSaved_w10 uSerial_w10 uDown uBlks_w10 uPlcs_w10 x4_w10 z1 hz) (cwV 1 htT (gV kl_U_195 ki_U_isLive ke_U_isLive kn_U kc_U_isLive) rfl rfl rfl (by decide +kernel) ⟨Nat.le_of_ble_eq_true rfl, Nat.le_of_ble_eq_true rfl⟩) ⟨fun a U g mk q => by obtain ⟨q0, q1, qP, qK, qD, qN⟩ := q; exact ⟨q0, q1, qP, va_K.moved (u := U) (U := U.calling g mk a) (Vm.Alike.refl U.vm) qK, qD, Ns.same (u := U) rfl qN⟩, va_recv (q0 := 0) (q := (R_U, F_U, 11)) hK hP (ci := 0) rfl rfl, fun U hU hW => ⟨rfl, by rw [hU], by rw [hU]; exact hPc, va_K.moved hW.alike hK, hDc.weaken (fun _ _ _ _ => trivial), Ns.warm hW hN⟩⟩ rfl rfl hl.1 rfl (lv_room (Nat.le_of_ble_eq_true rfl)) d_U_appendLiveRecords_22 ⟨(Nat.zero_le _), (Nat.zero_le _)⟩) hS (fun q _ h => hFc q h) hFc (fun r u t H locs ht hvm hw hB hz1 hk1 hS => ?_)
        subst hw
        obtain ⟨hP1, hK1, hD1⟩ := hB
        rw [ht] at hP1
        obtain ⟨hP, hD⟩ := va_join (wr := [(a_d, .inr (1, [.int uArmed_w10, .int uWritten_w10])), (a_rs, .inl (cI, N, .inl uSers_w10)), (a_ru, .inl (cI, N, .inl uUnts_w10)), (a_rz, .inl (cZ, N, .inl uStos_w10)), (a_rh, .inl (cJ, N, .inr (.inl uHis_w10))), (a_rl, .inl (cJ, N, .inr (.inl uLos_w10))), (a_st, .inl (cI, n, .inl uSts_w10))]) (w1 := [(a_u, .inr (0, [.ref a_d, .ref a_p, .ref a_r, .ref a_c, .ref a_st, .ref a_pl, .int uOpen_w10, .int uFill_w10, .int uSaved_w10, .int uSerial_w10, .int uDown])), (a_r, .inr (3, [.ref a_rs, .ref a_rb, .ref a_ru, .ref a_rz, .ref a_rh, .ref a_rl])), (a_rb, .inl (cI, N, .inl uBlks_w10)), (a_pl, .inl (cI, 16, .inl uPlcs_w10))]) hP hD [0, 2, 4, 10] [1, 3, 5, 6, 7, 8, 9] rfl rfl (by decide) (by decide) hk1 hFc hP1 hD1
        have hP := hP.sub (ws' := [(a_u, .inr (0, [.ref a_d, .ref a_p, .ref a_r, .ref a_c, .ref a_st, .ref a_pl, .int uOpen_w10, .int uFill_w10, .int uSaved_w10, .int uSerial_w10, .int uDown])), (a_d, .inr (1, [.int uArmed_w10, .int uWritten_w10])), (a_r, .inr (3, [.ref a_rs, .ref a_rb, .ref a_ru, .ref a_rz, .ref a_rh, .ref a_rl])), (a_rs, .inl (cI, N, .inl uSers_w10)), (a_rb, .inl (cI, N, .inl uBlks_w10)), (a_ru, .inl (cI, N, .inl uUnts_w10)), (a_rz, .inl (cZ, N, .inl uStos_w10)), (a_rh, .inl (cJ, N, .inr (.inl uHis_w10))), (a_rl, .inl (cJ, N, .inr (.inl uLos_w10))), (a_st, .inl (cI, n, .inl uSts_w10)), (a_pl, .inl (cI, 16, .inl uPlcs_w10))]) [7, 0, 8, 1, 9, 2, 3, 4, 5, 6, 10] rfl
        have hD := hD.sub (ws' := [(a_u, .inr (0, [.ref a_d, .ref a_p, .ref a_r, .ref a_c, .ref a_st, .ref a_pl, .int uOpen_w10, .int uFill_w10, .int uSaved_w10, .int uSerial_w10, .int uDown])), (a_d, .inr (1, [.int uArmed_w10, .int uWritten_w10])), (a_r, .inr (3, [.ref a_rs, .ref a_rb, .ref a_ru, .ref a_rz, .ref a_rh, .ref a_rl])), (a_rs, .inl (cI, N, .inl uSers_w10)), (a_rb, .inl (cI, N, .inl uBlks_w10)), (a_ru, .inl (cI, N, .inl uUnts_w10)), (a_rz, .inl (cZ, N, .inl uStos_w10)), (a_rh, .inl (cJ, N, .inr (.inl uHis_w10))), (a_rl, .inl (cJ, N, .inr (.inl uLos_w10))), (a_st, .inl (cI, n, .inl uSts_w10)), (a_pl, .inl (cI, 16, .inl uPlcs_w10))]) [7, 0, 8, 1, 9, 2, 3, 4, 5, 6, 10] (by decide) rfl
        have hP : va_P (dC, dI) classes [(a_u, .inr (0, [.ref a_d, .ref a_p, .ref a_r, .ref a_c, .ref a_st, .ref a_pl, .int uOpen_w10, .int uFill_w10, .int uSaved_w10, .int uSerial_w10, .int uDown])), (a_d, .inr (1, [.int uArmed_w10, .int uWritten_w10])), (a_r, .inr (3, [.ref a_rs, .ref a_rb, .ref a_ru, .ref a_rz, .ref a_rh, .ref a_rl])), (a_rs, .inl (cI, N, .inl uSers_w10)), (a_rb, .inl (cI, N, .inl uBlks_w10)), (a_ru, .inl (cI, N, .inl uUnts_w10)), (a_rz, .inl (cZ, N, .inl uStos_w10)), (a_rh, .inl (cJ, N, .inr (.inl uHis_w10))), (a_rl, .inl (cJ, N, .inr (.inl uLos_w10))), (a_st, .inl (cI, n, .inl uSts_w10)), (a_pl, .inl (cI, 16, .inl uPlcs_w10))] H := hP
        have hD : va_D A [(a_u, .inr (0, [.ref a_d, .ref a_p, .ref a_r, .ref a_c, .ref a_st, .ref a_pl, .int uOpen_w10, .int uFill_w10, .int uSaved_w10, .int uSerial_w10, .int uDown])), (a_d, .inr (1, [.int uArmed_w10, .int uWritten_w10])), (a_r, .inr (3, [.ref a_rs, .ref a_rb, .ref a_ru, .ref a_rz, .ref a_rh, .ref a_rl])), (a_rs, .inl (cI, N, .inl uSers_w10)), (a_rb, .inl (cI, N, .inl uBlks_w10)), (a_ru, .inl (cI, N, .inl uUnts_w10)), (a_rz, .inl (cZ, N, .inl uStos_w10)), (a_rh, .inl (cJ, N, .inr (.inl uHis_w10))), (a_rl, .inl (cJ, N, .inr (.inl uLos_w10))), (a_st, .inl (cI, n, .inl uSts_w10)), (a_pl, .inl (cI, 16, .inl uPlcs_w10))] := hD
        refine lv_if_ne (tgt := 31) hx hb d_U_appendLiveRecords_25 (by decide) (fun hc => ?_) (fun hc => ?_)
        · have h := ck_f hc h
          refine lv_aload_n hx hb d_U_appendLiveRecords_31 rfl (lv_at hl 0 rfl) ?_
          refine lv_aload_n hx hb d_U_appendLiveRecords_32 rfl (lv_at hl 0 rfl) ?_
          refine va_get (D := (dC, dI)) (ci := 0) (v := .ref a_r) (C := R_U) (T := F_U) (N := 11) hx hb htT i_U hown hK hP 0 rfl rfl 2 (by decide) (htT _ kf_U_37) (fun _ h9 => h9) rfl d_U_appendLiveRecords_33 ?_
          refine va_getN (D := (dC, dI)) (ci := 3) (v := .ref a_rb) (C := R_R) (T := F_R) (N := 6) hx hb htT i_R hown hK hP 2 rfl rfl 1 (by decide) (va_Nw.use rfl (hN _ kf_U_162)) (fun _ h9 => h9) rfl d_U_appendLiveRecords_36 ?_
          refine lv_iload hx hb d_U_appendLiveRecords_39 (lv_at hl 3 rfl) ?_
          obtain ⟨hin, h⟩ := ck_in h
          refine va_iald hx hb hK hP 4 0 rfl rfl hin d_U_appendLiveRecords_41 ?_
          refine lv_aload_n hx hb d_U_appendLiveRecords_42 rfl (lv_at hl 0 rfl) ?_
          refine va_get (D := (dC, dI)) (ci := 0) (v := .ref a_r) (C := R_U) (T := F_U) (N := 11) hx hb htT i_U hown hK hP 0 rfl rfl 2 (by decide) (htT _ kf_U_37) (fun _ h9 => h9) rfl d_U_appendLiveRecords_43 ?_
          refine va_getN (D := (dC, dI)) (ci := 3) (v := .ref a_ru) (C := R_R) (T := F_R) (N := 6) hx hb htT i_R hown hK hP 2 rfl rfl 2 (by decide) (va_Nw.use rfl (hN _ kf_U_165)) (fun _ h9 => h9) rfl d_U_appendLiveRecords_46 ?_
          refine lv_iload hx hb d_U_appendLiveRecords_49 (lv_at hl 3 rfl) ?_
          obtain ⟨hin, h⟩ := ck_in h
          refine va_iald hx hb hK hP 5 0 rfl rfl hin d_U_appendLiveRecords_51 ?_
          refine lv_iconst (v := (1 : Int32)) hx hb d_U_appendLiveRecords_52 (by decide) ?_
          refine lv_aload_n hx hb d_U_appendLiveRecords_53 rfl (lv_at hl 0 rfl) ?_
          refine va_get (D := (dC, dI)) (ci := 0) (v := .ref a_r) (C := R_U) (T := F_U) (N := 11) hx hb htT i_U hown hK hP 0 rfl rfl 2 (by decide) (htT _ kf_U_37) (fun _ h9 => h9) rfl d_U_appendLiveRecords_54 ?_
          refine va_getN (D := (dC, dI)) (ci := 3) (v := .ref a_rh) (C := R_R) (T := F_R) (N := 6) hx hb htT i_R hown hK hP 2 rfl rfl 4 (by decide) (va_Nw.use rfl (hN _ kf_U_87)) (fun _ h9 => h9) rfl d_U_appendLiveRecords_57 ?_
          refine lv_iload hx hb d_U_appendLiveRecords_60 (lv_at hl 3 rfl) ?_
          obtain ⟨hin, h⟩ := ck_in h
          refine va_lald hx hb hK hP 7 2 rfl rfl hin d_U_appendLiveRecords_62 ?_
          refine lv_aload_n hx hb d_U_appendLiveRecords_63 rfl (lv_at hl 0 rfl) ?_
          refine va_get (D := (dC, dI)) (ci := 0) (v := .ref a_r) (C := R_U) (T := F_U) (N := 11) hx hb htT i_U hown hK hP 0 rfl rfl 2 (by decide) (htT _ kf_U_37) (fun _ h9 => h9) rfl d_U_appendLiveRecords_64 ?_
          refine va_getN (D := (dC, dI)) (ci := 3) (v := .ref a_rl) (C := R_R) (T := F_R) (N := 6) hx hb htT i_R hown hK hP 2 rfl rfl 5 (by decide) (va_Nw.use rfl (hN _ kf_U_91)) (fun _ h9 => h9) rfl d_U_appendLiveRecords_67 ?_
          refine lv_iload hx hb d_U_appendLiveRecords_70 (lv_at hl 3 rfl) ?_
          obtain ⟨hin, h⟩ := ck_in h
          refine va_lald hx hb hK hP 8 2 rfl rfl hin d_U_appendLiveRecords_72 ?_
          obtain ⟨z2, hz, h⟩ := ck_bind h
          have hPc := hP.sub (ws' := [(a_u, .inr (0, [.ref a_d, .ref a_p, .ref a_r, .ref a_c, .ref a_st, .ref a_pl, .int uOpen_w10, .int uFill_w10, .int uSaved_w10, .int uSerial_w10, .int uDown])), (a_d, .inr (1, [.int uArmed_w10, .int uWritten_w10])), (a_r, .inr (3, [.ref a_rs, .ref a_rb, .ref a_ru, .ref a_rz, .ref a_rh, .ref a_rl])), (a_rs, .inl (cI, N, .inl uSers_w10)), (a_rb, .inl (cI, N, .inl uBlks_w10)), (a_ru, .inl (cI, N, .inl uUnts_w10)), (a_rz, .inl (cZ, N, .inl uStos_w10)), (a_rh, .inl (cJ, N, .inr (.inl uHis_w10))), (a_rl, .inl (cJ, N, .inr (.inl uLos_w10))), (a_st, .inl (cI, n, .inl uSts_w10)), (a_pl, .inl (cI, 16, .inl uPlcs_w10))]) [0, 1, 2, 3, 4, 5, 6, 7, 8, 9, 10] rfl
          have hDc := hD.sub (ws' := [(a_u, .inr (0, [.ref a_d, .ref a_p, .ref a_r, .ref a_c, .ref a_st, .ref a_pl, .int uOpen_w10, .int uFill_w10, .int uSaved_w10, .int uSerial_w10, .int uDown])), (a_d, .inr (1, [.int uArmed_w10, .int uWritten_w10])), (a_r, .inr (3, [.ref a_rs, .ref a_rb, .ref a_ru, .ref a_rz, .ref a_rh, .ref a_rl])), (a_rs, .inl (cI, N, .inl uSers_w10)), (a_rb, .inl (cI, N, .inl uBlks_w10)), (a_ru, .inl (cI, N, .inl uUnts_w10)), (a_rz, .inl (cZ, N, .inl uStos_w10)), (a_rh, .inl (cJ, N, .inr (.inl uHis_w10))), (a_rl, .inl (cJ, N, .inr (.inl uLos_w10))), (a_st, .inl (cI, n, .inl uSts_w10)), (a_pl, .inl (cI, 16, .inl uPlcs_w10))]) [0, 1, 2, 3, 4, 5, 6, 7, 8, 9, 10] (by decide) rfl
          have hFc := va_free (wc := [(a_u, .inr (0, [.ref a_d, .ref a_p, .ref a_r, .ref a_c, .ref a_st, .ref a_pl, .int uOpen_w10, .int uFill_w10, .int uSaved_w10, .int uSerial_w10, .int uDown])), (a_d, .inr (1, [.int uArmed_w10, .int uWritten_w10])), (a_r, .inr (3, [.ref a_rs, .ref a_rb, .ref a_ru, .ref a_rz, .ref a_rh, .ref a_rl])), (a_rs, .inl (cI, N, .inl uSers_w10)), (a_rb, .inl (cI, N, .inl uBlks_w10)), (a_ru, .inl (cI, N, .inl uUnts_w10)), (a_rz, .inl (cZ, N, .inl uStos_w10)), (a_rh, .inl (cJ, N, .inr (.inl uHis_w10))), (a_rl, .inl (cJ, N, .inr (.inl uLos_w10))), (a_st, .inl (cI, n, .inl uSts_w10)), (a_pl, .inl (cI, 16, .inl uPlcs_w10))]) hD hS hA [0, 1, 2, 3, 4, 5, 6, 7, 8, 9, 10] rfl
          refine va_calli (va_runV (As := [.int (uBlks_w10 x4_w10.toNatClampNeg), .int (uUnts_w10 x4_w10.toNatClampNeg), .int (1 : Int32), .long (uHis_w10 x4_w10.toNatClampNeg), .long (uLos_w10 x4_w10.toNatClampNeg)]) (rest := []) ⟨hx, hb, hml, hown, htT⟩ (c_U_append l dC dI cI cZ cJ a_u a_d a_p a_pb a_pf a_r a_rs a_rb a_ru a_rz a_rh a_rl a_c a_cp a_st a_pl H.size n N uOpen_w10 uFill_w10 uSaved_w10 uSerial_w10 uDown uArmed_w10 uWritten_w10 uSers_w10 uBlks_w10 uUnts_w10 uStos_w10 uHis_w10 uLos_w10 uSts_w10 uPlcs_w10 (uBlks_w10 x4_w10.toNatClampNeg) (uUnts_w10 x4_w10.toNatClampNeg) (1 : Int32) (uHis_w10 x4_w10.toNatClampNeg) (uLos_w10 x4_w10.toNatClampNeg) z2 hz) (cwV 5 htT (gV kl_U_80 ki_U_append ke_U_append kn_U kc_U_append) rfl rfl rfl (by decide +kernel) ⟨Nat.le_of_ble_eq_true rfl, Nat.le_of_ble_eq_true rfl⟩) ⟨fun a U g mk q => by obtain ⟨q0, q1, qP, qK, qD, qN⟩ := q; exact ⟨q0, q1, qP, va_K.moved (u := U) (U := U.calling g mk a) (Vm.Alike.refl U.vm) qK, qD, Ns.same (u := U) rfl qN⟩, va_recv (q0 := 0) (q := (R_U, F_U, 11)) hK hP (ci := 0) rfl rfl, fun U hU hW => ⟨rfl, by rw [hU], by rw [hU]; exact hPc, va_K.moved hW.alike hK, hDc.weaken (fun _ _ _ _ => trivial), Ns.warm hW hN⟩⟩ rfl rfl hl.1 rfl (lv_room (Nat.le_of_ble_eq_true rfl)) d_U_appendLiveRecords_73 ⟨(Nat.zero_le _), (Nat.zero_le _)⟩) hS (fun q _ h => hFc q h) hFc (fun r u t H locs ht hvm hw hB hz1 hk1 hS => ?_)
          have e1 := congrArg Prod.fst hw
          have e2 := congrArg Prod.snd hw
          dsimp only at e1 e2
          subst e1
          subst e2
          obtain ⟨hP1, hK1, hD1⟩ := hB
          rw [ht] at hP1
          obtain ⟨hP, hD⟩ := va_join (wr := []) (w1 := [(a_u, .inr (0, [.ref a_d, .ref a_p, .ref a_r, .ref a_c, .ref a_st, .ref a_pl, .int z2.2.1, .int z2.2.2.1, .int z2.2.2.2.1, .int z2.2.2.2.2.1, .int uDown])), (a_d, .inr (1, [.int z2.2.2.2.2.2.1, .int z2.2.2.2.2.2.2.1])), (a_r, .inr (3, [.ref a_rs, .ref a_rb, .ref a_ru, .ref a_rz, .ref a_rh, .ref a_rl])), (a_rs, .inl (cI, N, .inl z2.2.2.2.2.2.2.2.1)), (a_rb, .inl (cI, N, .inl z2.2.2.2.2.2.2.2.2.1)), (a_ru, .inl (cI, N, .inl z2.2.2.2.2.2.2.2.2.2.1)), (a_rz, .inl (cZ, N, .inl z2.2.2.2.2.2.2.2.2.2.2.1)), (a_rh, .inl (cJ, N, .inr (.inl z2.2.2.2.2.2.2.2.2.2.2.2.1))), (a_rl, .inl (cJ, N, .inr (.inl z2.2.2.2.2.2.2.2.2.2.2.2.2.1))), (a_st, .inl (cI, n, .inl z2.2.2.2.2.2.2.2.2.2.2.2.2.2.1)), (a_pl, .inl (cI, 16, .inl z2.2.2.2.2.2.2.2.2.2.2.2.2.2.2))]) hP hD [0, 1, 2, 3, 4, 5, 6, 7, 8, 9, 10] [] rfl rfl (by decide) (by decide) hk1 hFc hP1 hD1
          have hP : va_P (dC, dI) classes [(a_u, .inr (0, [.ref a_d, .ref a_p, .ref a_r, .ref a_c, .ref a_st, .ref a_pl, .int z2.2.1, .int z2.2.2.1, .int z2.2.2.2.1, .int z2.2.2.2.2.1, .int uDown])), (a_d, .inr (1, [.int z2.2.2.2.2.2.1, .int z2.2.2.2.2.2.2.1])), (a_r, .inr (3, [.ref a_rs, .ref a_rb, .ref a_ru, .ref a_rz, .ref a_rh, .ref a_rl])), (a_rs, .inl (cI, N, .inl z2.2.2.2.2.2.2.2.1)), (a_rb, .inl (cI, N, .inl z2.2.2.2.2.2.2.2.2.1)), (a_ru, .inl (cI, N, .inl z2.2.2.2.2.2.2.2.2.2.1)), (a_rz, .inl (cZ, N, .inl z2.2.2.2.2.2.2.2.2.2.2.1)), (a_rh, .inl (cJ, N, .inr (.inl z2.2.2.2.2.2.2.2.2.2.2.2.1))), (a_rl, .inl (cJ, N, .inr (.inl z2.2.2.2.2.2.2.2.2.2.2.2.2.1))), (a_st, .inl (cI, n, .inl z2.2.2.2.2.2.2.2.2.2.2.2.2.2.1)), (a_pl, .inl (cI, 16, .inl z2.2.2.2.2.2.2.2.2.2.2.2.2.2.2))] H := hP
          have hD : va_D A [(a_u, .inr (0, [.ref a_d, .ref a_p, .ref a_r, .ref a_c, .ref a_st, .ref a_pl, .int z2.2.1, .int z2.2.2.1, .int z2.2.2.2.1, .int z2.2.2.2.2.1, .int uDown])), (a_d, .inr (1, [.int z2.2.2.2.2.2.1, .int z2.2.2.2.2.2.2.1])), (a_r, .inr (3, [.ref a_rs, .ref a_rb, .ref a_ru, .ref a_rz, .ref a_rh, .ref a_rl])), (a_rs, .inl (cI, N, .inl z2.2.2.2.2.2.2.2.1)), (a_rb, .inl (cI, N, .inl z2.2.2.2.2.2.2.2.2.1)), (a_ru, .inl (cI, N, .inl z2.2.2.2.2.2.2.2.2.2.1)), (a_rz, .inl (cZ, N, .inl z2.2.2.2.2.2.2.2.2.2.2.1)), (a_rh, .inl (cJ, N, .inr (.inl z2.2.2.2.2.2.2.2.2.2.2.2.1))), (a_rl, .inl (cJ, N, .inr (.inl z2.2.2.2.2.2.2.2.2.2.2.2.2.1))), (a_st, .inl (cI, n, .inl z2.2.2.2.2.2.2.2.2.2.2.2.2.2.1)), (a_pl, .inl (cI, 16, .inl z2.2.2.2.2.2.2.2.2.2.2.2.2.2.2))] := hD
          refine lv_if_ne (tgt := 82) hx hb d_U_appendLiveRecords_76 (by decide) (fun hc => ?_) (fun hc => ?_)
          · have h := ck_f hc h
            refine lv_iinc (k := 2) (v := (x3_w10 + (1 : Int32))) hx hb d_U_appendLiveRecords_82 hl rfl (congrArg (fun y => x3_w10 + y) (by decide)) (by decide) rfl (fun ls hl => ?_)
            have hl : lv_has ls 5 [(3, .int (x3_w10 + (1 : Int32))), (0, .ref a_u), (2, .int (x1 * (16 : Int32))), (4, .int x4_w10)] := hl
            refine lv_iinc (k := 3) (v := (x4_w10 + (1 : Int32))) hx hb d_U_appendLiveRecords_85 hl rfl (congrArg (fun y => x4_w10 + y) (by decide)) (by decide) rfl (fun ls hl => ?_)
            have hl : lv_has ls 5 [(4, .int (x4_w10 + (1 : Int32))), (3, .int (x3_w10 + (1 : Int32))), (0, .ref a_u), (2, .int (x1 * (16 : Int32)))] := hl
            refine lv_goto (tgt := 10) hx hb d_U_appendLiveRecords_88 (by decide) ?_
            have hl : lv_has ls 5 [(0, .ref a_u), (2, .int (x1 * (16 : Int32))), (3, .int (x3_w10 + (1 : Int32))), (4, .int (x4_w10 + (1 : Int32)))] := lv_sub hl [2, 3, 1, 0] rfl
            exact ih10 _ _ _ _ _ _ _ _ _ _ _ _ _ _ _ _ _ _ _ hl hP hD hS h hk10
          · have h := ck_t hc h
            refine lv_bipush (v := (-4 : Int32)) hx hb d_U_appendLiveRecords_79 (by decide) ?_
            exact W.iret (v := (-4 : Int32)) hx hb hr (fun t ht hW => ⟨⟨(-4 : Int32), (z2.2.1, z2.2.2.1, z2.2.2.2.1, z2.2.2.2.2.1, z2.2.2.2.2.2.1, z2.2.2.2.2.2.2.1, z2.2.2.2.2.2.2.2.1, z2.2.2.2.2.2.2.2.2.1, z2.2.2.2.2.2.2.2.2.2.1, z2.2.2.2.2.2.2.2.2.2.2.1, z2.2.2.2.2.2.2.2.2.2.2.2.1, z2.2.2.2.2.2.2.2.2.2.2.2.2.1, z2.2.2.2.2.2.2.2.2.2.2.2.2.2.1, z2.2.2.2.2.2.2.2.2.2.2.2.2.2.2), rfl, (Option.some.inj h).symm, by rw [ht]; exact hP, va_K.moved hW.alike hK, hD⟩, hS.F ht⟩) hS.2.2 d_U_appendLiveRecords_81
        · have h := ck_t hc h
          refine lv_goto (tgt := 85) hx hb d_U_appendLiveRecords_28 (by decide) ?_
          refine lv_iinc (k := 3) (v := (x4_w10 + (1 : Int32))) hx hb d_U_appendLiveRecords_85 hl rfl (congrArg (fun y => x4_w10 + y) (by decide)) (by decide) rfl (fun ls hl => ?_)
          have hl : lv_has ls 5 [(4, .int (x4_w10 + (1 : Int32))), (0, .ref a_u), (2, .int (x1 * (16 : Int32))), (3, .int x3_w10)] := hl
          refine lv_goto (tgt := 10) hx hb d_U_appendLiveRecords_88 (by decide) ?_
          have hl : lv_has ls 5 [(0, .ref a_u), (2, .int (x1 * (16 : Int32))), (3, .int x3_w10), (4, .int (x4_w10 + (1 : Int32)))] := lv_sub hl [1, 2, 3, 0] rfl
          exact ih10 _ _ _ _ _ _ _ _ _ _ _ _ _ _ _ _ _ _ _ hl hP hD hS h hk10
  have hl : lv_has ls 5 [(0, .ref a_u), (2, .int (x1 * (16 : Int32))), (3, .int (0 : Int32)), (4, .int (x1 * (16 : Int32)))] := lv_sub hl [3, 2, 1, 0] rfl
  refine L10 _ _ _ _ _ _ _ _ _ _ _ _ _ _ _ _ _ _ _ _ _ hl hP hD hS h ?_
  intro uOpen_k10 uFill_k10 uSaved_k10 uSerial_k10 uArmed_k10 uWritten_k10 uSers_k10 uBlks_k10 uUnts_k10 uStos_k10 uHis_k10 uLos_k10 uSts_k10 uPlcs_k10 x3_k10 x4_k10 ls H locs hl hP hD hS h
  refine lv_iload_n hx hb d_U_appendLiveRecords_91 rfl (lv_at hl 2 rfl) ?_
  exact W.iret (v := x3_k10) hx hb hr (fun t ht hW => ⟨⟨x3_k10, (uOpen_k10, uFill_k10, uSaved_k10, uSerial_k10, uArmed_k10, uWritten_k10, uSers_k10, uBlks_k10, uUnts_k10, uStos_k10, uHis_k10, uLos_k10, uSts_k10, uPlcs_k10), rfl, (Option.some.inj h).symm, by rw [ht]; exact hP, va_K.moved hW.alike hK, hD⟩, hS.F ht⟩) hS.2.2 d_U_appendLiveRecords_92
set_option maxHeartbeats 4000000 in
set_option maxRecDepth 100000 in
theorem c_P_sameBytes (l : Launch) (dC : Nat → ClassId) (dI : Nat → Nat → Nat) (cI cZ cJ : ClassId) (a_u a_d a_p a_pb a_pf a_r a_rs a_rb a_ru a_rz a_rh a_rl a_c a_cp a_st a_pl : Nat) (sz n N : Nat) (uSize : Int32) (uBytes : Nat → Int32) (x1 : Int32) (x2 : Int32) (res : Int32) (hM : P_sameBytes uBytes x1 x2 = some res) : Met l y_P_sameBytes w_P_sameBytes ({ frames := 0, cells := 0, slots := 0, locals := 0 }) (va_Pc [.ref a_p, .int x1, .int x2] (fun U => U.heap.size = sz ∧ va_P (dC, dI) classes [(a_p, .inr (2, [.ref a_pb, .ref a_pf, .int uSize])), (a_pb, .inl (cI, 16, .inl uBytes))] U.heap ∧ va_K (dC, dI) classes [(cI, .int), (cZ, .boolean), (cJ, .long)] U ∧ va_D (fun _ => True) [(a_p, .inr (2, [.ref a_pb, .ref a_pf, .int uSize])), (a_pb, .inl (cI, 16, .inl uBytes))] ∧ Ns U)) (va_Qi (fun (r : Int32) (z : Unit) => res = r) (fun (z : Unit) (t : State) => va_P (dC, dI) classes [(a_p, .inr (2, [.ref a_pb, .ref a_pf, .int uSize])), (a_pb, .inl (cI, 16, .inl uBytes))] t.heap ∧ va_K (dC, dI) classes [(cI, .int), (cZ, .boolean), (cJ, .long)] t ∧ va_D (va_A [(a_p, .inr (2, [.ref a_pb, .ref a_pf, .int uSize])), (a_pb, .inl (cI, 16, .inl uBytes))] sz) [(a_p, .inr (2, [.ref a_pb, .ref a_pf, .int uSize])), (a_pb, .inl (cI, 16, .inl uBytes))]) (va_A [(a_p, .inr (2, [.ref a_pb, .ref a_pf, .int uSize])), (a_pb, .inl (cI, 16, .inl uBytes))] sz)) 0 0 (va_A [(a_p, .inr (2, [.ref a_pb, .ref a_pf, .int uSize])), (a_pb, .inl (cI, 16, .inl uBytes))] sz) := by
  refine Met.ofW (cc := b_P_sameBytes) (maxL := 4) (ret := (some .int)) (by decide) rfl ?_
  intro p e s m args below meth c s₁ B hml hv
  obtain ⟨rfl, hsz, hP, hK, hD0, hN⟩ := hv
  have hx := B.exec
  have hb := B.bytes
  have hr := B.returns
  have hts := atoms_spec (ws := w_P_sameBytes) B.pre
  have htT : ∀ w ∈ lwG, w.before _ s = true := fun w h => hts w (List.mem_cons_of_mem _ h)
  have hown : s.vm.findClass R_P = some m.cls := findClass_of_methodNamed B.named
  have hlocks := B.notSynchronized
  subst hsz
  have hD := hD0.self (sz := s.heap.size)
  generalize hAe : va_A [(a_p, .inr (2, [.ref a_pb, .ref a_pf, .int uSize])), (a_pb, .inl (cI, 16, .inl uBytes))] s.heap.size = A at hD ⊢
  have hA : ∀ q : Nat, s.heap.size ≤ q → A q := fun q h => by rw [← hAe]; exact Or.inr h
  have hS : va_S A s.heap s.heap [] := va_S.rf
  have hP : va_P (dC, dI) classes [(a_p, .inr (2, [.ref a_pb, .ref a_pf, .int uSize])), (a_pb, .inl (cI, 16, .inl uBytes))] s.heap := hP
  have hl := lv_entry ([.ref a_p, .int x1, .int x2]) (n := 4) (Nat.le_of_ble_eq_true rfl)
  rw [lg_entry_eq]
  generalize (lg_sl ([.ref a_p, .int x1, .int x2]) ++ List.replicate (4 - (lg_sl ([.ref a_p, .int x1, .int x2])).length) Slot.unset).toArray = ls at hl ⊢
  have hl : lv_has ls 4 [(0, .ref a_p), (1, .int x1), (2, .int x2)] := hl
  have h := hM
  rw [P_sameBytes] at h
  refine lv_iconst (v := (0 : Int32)) hx hb d_P_sameBytes_0 (by decide) ?_
  refine lv_istore_n hx hb d_P_sameBytes_1 rfl hl (by decide) rfl (fun ls hl => ?_)
  have hl : lv_has ls 4 [(3, .int (0 : Int32)), (0, .ref a_p), (1, .int x1), (2, .int x2)] := hl
  have L2 : ∀ (K2 : Int32 → Option (Int32)) (fuel : Nat) (x3_w2 : Int32) (ls : Array Slot) (H : Heap) (locs : List Loc), lv_has ls 4 [(0, .ref a_p), (1, .int x1), (2, .int x2), (3, .int x3_w2)] → va_P (dC, dI) classes [(a_p, .inr (2, [.ref a_pb, .ref a_pf, .int uSize])), (a_pb, .inl (cI, 16, .inl uBytes))] H → va_D A [(a_p, .inr (2, [.ref a_pb, .ref a_pf, .int uSize])), (a_pb, .inl (cI, 16, .inl uBytes))] → va_S A s.heap H locs → P_sameBytes_L2 uBytes x1 x2 K2 fuel x3_w2 = some res → (∀ (x3_w2 : Int32) (ls : Array Slot) (H : Heap) (locs : List Loc), lv_has ls 4 [(0, .ref a_p), (1, .int x1), (2, .int x2), (3, .int x3_w2)] → va_P (dC, dI) classes [(a_p, .inr (2, [.ref a_pb, .ref a_pf, .int uSize])), (a_pb, .inl (cI, 16, .inl uBytes))] H → va_D A [(a_p, .inr (2, [.ref a_pb, .ref a_pf, .int uSize])), (a_pb, .inl (cI, 16, .inl uBytes))] → va_S A s.heap H locs → K2 x3_w2 = some res → W p l e (headSpec w_P_sameBytes ({ frames := 0, cells := 0, slots := 0, locals := 0 })).room s m ([.ref a_p, .int x1, .int x2] : List Value).toArray below meth c H locs 0 0 (MQ below (va_Qi (fun (r : Int32) (z : Unit) => res = r) (fun (z : Unit) (t : State) => va_P (dC, dI) classes [(a_p, .inr (2, [.ref a_pb, .ref a_pf, .int uSize])), (a_pb, .inl (cI, 16, .inl uBytes))] t.heap ∧ va_K (dC, dI) classes [(cI, .int), (cZ, .boolean), (cJ, .long)] t ∧ va_D A [(a_p, .inr (2, [.ref a_pb, .ref a_pf, .int uSize])), (a_pb, .inl (cI, 16, .inl uBytes))]) A) ([.ref a_p, .int x1, .int x2] : List Value).toArray s 0 0 A) (F0 m 35 ls [])) → W p l e (headSpec w_P_sameBytes ({ frames := 0, cells := 0, slots := 0, locals := 0 })).room s m ([.ref a_p, .int x1, .int x2] : List Value).toArray below meth c H locs 0 0 (MQ below (va_Qi (fun (r : Int32) (z : Unit) => res = r) (fun (z : Unit) (t : State) => va_P (dC, dI) classes [(a_p, .inr (2, [.ref a_pb, .ref a_pf, .int uSize])), (a_pb, .inl (cI, 16, .inl uBytes))] t.heap ∧ va_K (dC, dI) classes [(cI, .int), (cZ, .boolean), (cJ, .long)] t ∧ va_D A [(a_p, .inr (2, [.ref a_pb, .ref a_pf, .int uSize])), (a_pb, .inl (cI, 16, .inl uBytes))]) A) ([.ref a_p, .int x1, .int x2] : List Value).toArray s 0 0 A) (F0 m 2 ls []) := by
    intro K2 fuel
    induction fuel with
    | zero => intro x3_w2 ls H locs hl hP hD hS h hk2; exact absurd (show (none : Option (Int32)) = some res from h) (by intro q; cases q)
    | succ fuel ih2 =>
      intro x3_w2 ls H locs hl hP hD hS h hk2
      rw [P_sameBytes_L2] at h
      refine lv_iload_n hx hb d_P_sameBytes_2 rfl (lv_at hl 2 rfl) ?_
      refine lv_iload_n hx hb d_P_sameBytes_3 rfl (lv_at hl 3 rfl) ?_
      refine lv_iadd hx hb d_P_sameBytes_4 ?_
      refine lv_bipush (v := (16 : Int32)) hx hb d_P_sameBytes_5 (by decide) ?_
      refine lv_icmp_ge (tgt := 35) hx hb d_P_sameBytes_7 (by decide) (fun hc => ?_) (fun hc => ?_)
      · have h := ck_t hc h
        have hl : lv_has ls 4 [(0, .ref a_p), (1, .int x1), (2, .int x2), (3, .int x3_w2)] := lv_sub hl [0, 1, 2, 3] rfl
        exact hk2 _ _ _ _ hl hP hD hS h
      · have h := ck_f hc h
        refine lv_aload_n hx hb d_P_sameBytes_10 rfl (lv_at hl 0 rfl) ?_
        refine va_get (D := (dC, dI)) (ci := 2) (v := .ref a_pb) (C := R_P) (T := F_P) (N := 3) hx hb htT i_P hown hK hP 0 rfl rfl 0 (by decide) (htT _ kf_P_11) (fun _ h9 => h9) rfl d_P_sameBytes_11 ?_
        refine lv_iload_n hx hb d_P_sameBytes_14 rfl (lv_at hl 1 rfl) ?_
        refine lv_iload_n hx hb d_P_sameBytes_15 rfl (lv_at hl 3 rfl) ?_
        refine lv_iadd hx hb d_P_sameBytes_16 ?_
        obtain ⟨hin, h⟩ := ck_in h
        refine va_iald hx hb hK hP 1 0 rfl rfl hin d_P_sameBytes_17 ?_
        refine lv_aload_n hx hb d_P_sameBytes_18 rfl (lv_at hl 0 rfl) ?_
        refine va_get (D := (dC, dI)) (ci := 2) (v := .ref a_pb) (C := R_P) (T := F_P) (N := 3) hx hb htT i_P hown hK hP 0 rfl rfl 0 (by decide) (htT _ kf_P_11) (fun _ h9 => h9) rfl d_P_sameBytes_19 ?_
        refine lv_iload_n hx hb d_P_sameBytes_22 rfl (lv_at hl 2 rfl) ?_
        refine lv_iload_n hx hb d_P_sameBytes_23 rfl (lv_at hl 3 rfl) ?_
        refine lv_iadd hx hb d_P_sameBytes_24 ?_
        obtain ⟨hin, h⟩ := ck_in h
        refine va_iald hx hb hK hP 1 0 rfl rfl hin d_P_sameBytes_25 ?_
        refine lv_icmp_ne (tgt := 35) hx hb d_P_sameBytes_26 (by decide) (fun hc => ?_) (fun hc => ?_)
        · have h := ck_f hc h
          have hl : lv_has ls 4 [(0, .ref a_p), (1, .int x1), (2, .int x2), (3, .int x3_w2)] := lv_sub hl [0, 1, 2, 3] rfl
          exact hk2 _ _ _ _ hl hP hD hS h
        · have h := ck_t hc h
          refine lv_iinc (k := 3) (v := (x3_w2 + (1 : Int32))) hx hb d_P_sameBytes_29 hl rfl (congrArg (fun y => x3_w2 + y) (by decide)) (by decide) rfl (fun ls hl => ?_)
          have hl : lv_has ls 4 [(3, .int (x3_w2 + (1 : Int32))), (0, .ref a_p), (1, .int x1), (2, .int x2)] := hl
          refine lv_goto (tgt := 2) hx hb d_P_sameBytes_32 (by decide) ?_
          have hl : lv_has ls 4 [(0, .ref a_p), (1, .int x1), (2, .int x2), (3, .int (x3_w2 + (1 : Int32)))] := lv_sub hl [1, 2, 3, 0] rfl
          exact ih2 _ _ _ _ hl hP hD hS h hk2
  have hl : lv_has ls 4 [(0, .ref a_p), (1, .int x1), (2, .int x2), (3, .int (0 : Int32))] := lv_sub hl [1, 2, 3, 0] rfl
  refine L2 _ _ _ _ _ _ hl hP hD hS h ?_
  intro x3_k2 ls H locs hl hP hD hS h
  refine lv_iload_n hx hb d_P_sameBytes_35 rfl (lv_at hl 3 rfl) ?_
  exact W.iret (v := x3_k2) hx hb hr (fun t ht hW => ⟨⟨x3_k2, (), rfl, (Option.some.inj h).symm, by rw [ht]; exact hP, va_K.moved hW.alike hK, hD⟩, hS.F ht⟩) hS.2.2 d_P_sameBytes_36
set_option maxHeartbeats 4000000 in
set_option maxRecDepth 100000 in
theorem c_P_longestMatch (l : Launch) (dC : Nat → ClassId) (dI : Nat → Nat → Nat) (cI cZ cJ : ClassId) (a_u a_d a_p a_pb a_pf a_r a_rs a_rb a_ru a_rz a_rh a_rl a_c a_cp a_st a_pl : Nat) (sz n N : Nat) (uSize : Int32) (uBytes : Nat → Int32) (x1 : Int32) (res : Int32) (hM : P_longestMatch uBytes x1 = some res) : Met l y_P_longestMatch w_P_longestMatch ({ frames := 1, cells := 0, slots := 0, locals := 23 }) (va_Pc [.ref a_p, .int x1] (fun U => U.heap.size = sz ∧ va_P (dC, dI) classes [(a_p, .inr (2, [.ref a_pb, .ref a_pf, .int uSize])), (a_pb, .inl (cI, 16, .inl uBytes))] U.heap ∧ va_K (dC, dI) classes [(cI, .int), (cZ, .boolean), (cJ, .long)] U ∧ va_D (fun _ => True) [(a_p, .inr (2, [.ref a_pb, .ref a_pf, .int uSize])), (a_pb, .inl (cI, 16, .inl uBytes))] ∧ Ns U)) (va_Qi (fun (r : Int32) (z : Unit) => res = r) (fun (z : Unit) (t : State) => va_P (dC, dI) classes [(a_p, .inr (2, [.ref a_pb, .ref a_pf, .int uSize])), (a_pb, .inl (cI, 16, .inl uBytes))] t.heap ∧ va_K (dC, dI) classes [(cI, .int), (cZ, .boolean), (cJ, .long)] t ∧ va_D (va_A [(a_p, .inr (2, [.ref a_pb, .ref a_pf, .int uSize])), (a_pb, .inl (cI, 16, .inl uBytes))] sz) [(a_p, .inr (2, [.ref a_pb, .ref a_pf, .int uSize])), (a_pb, .inl (cI, 16, .inl uBytes))]) (va_A [(a_p, .inr (2, [.ref a_pb, .ref a_pf, .int uSize])), (a_pb, .inl (cI, 16, .inl uBytes))] sz)) 0 0 (va_A [(a_p, .inr (2, [.ref a_pb, .ref a_pf, .int uSize])), (a_pb, .inl (cI, 16, .inl uBytes))] sz) := by
  refine Met.ofW (cc := b_P_longestMatch) (maxL := 6) (ret := (some .int)) (by decide) rfl ?_
  intro p e s m args below meth c s₁ B hml hv
  obtain ⟨rfl, hsz, hP, hK, hD0, hN⟩ := hv
  have hx := B.exec
  have hb := B.bytes
  have hr := B.returns
  have hts := atoms_spec (ws := w_P_longestMatch) B.pre
  have htT : ∀ w ∈ lwG, w.before _ s = true := fun w h => hts w (List.mem_cons_of_mem _ h)
  have hown : s.vm.findClass R_P = some m.cls := findClass_of_methodNamed B.named
  have hlocks := B.notSynchronized
  subst hsz
  have hD := hD0.self (sz := s.heap.size)
  generalize hAe : va_A [(a_p, .inr (2, [.ref a_pb, .ref a_pf, .int uSize])), (a_pb, .inl (cI, 16, .inl uBytes))] s.heap.size = A at hD ⊢
  have hA : ∀ q : Nat, s.heap.size ≤ q → A q := fun q h => by rw [← hAe]; exact Or.inr h
  have hS : va_S A s.heap s.heap [] := va_S.rf
  have hP : va_P (dC, dI) classes [(a_p, .inr (2, [.ref a_pb, .ref a_pf, .int uSize])), (a_pb, .inl (cI, 16, .inl uBytes))] s.heap := hP
  have hl := lv_entry ([.ref a_p, .int x1]) (n := 6) (Nat.le_of_ble_eq_true rfl)
  rw [lg_entry_eq]
  generalize (lg_sl ([.ref a_p, .int x1]) ++ List.replicate (6 - (lg_sl ([.ref a_p, .int x1])).length) Slot.unset).toArray = ls at hl ⊢
  have hl : lv_has ls 6 [(0, .ref a_p), (1, .int x1)] := hl
  have h := hM
  rw [P_longestMatch] at h
  refine lv_iconst (v := (-1 : Int32)) hx hb d_P_longestMatch_0 (by decide) ?_
  refine lv_istore_n hx hb d_P_longestMatch_1 rfl hl (by decide) rfl (fun ls hl => ?_)
  have hl : lv_has ls 6 [(2, .int (-1 : Int32)), (0, .ref a_p), (1, .int x1)] := hl
  refine lv_iconst (v := (2 : Int32)) hx hb d_P_longestMatch_2 (by decide) ?_
  refine lv_istore_n hx hb d_P_longestMatch_3 rfl hl (by decide) rfl (fun ls hl => ?_)
  have hl : lv_has ls 6 [(3, .int (2 : Int32)), (2, .int (-1 : Int32)), (0, .ref a_p), (1, .int x1)] := hl
  refine lv_iload_n hx hb d_P_longestMatch_4 rfl (lv_at hl 3 rfl) ?_
  refine lv_iconst (v := (1 : Int32)) hx hb d_P_longestMatch_5 (by decide) ?_
  refine lv_isub hx hb d_P_longestMatch_6 ?_
  refine lv_istore hx hb d_P_longestMatch_7 hl (by decide) rfl (fun ls hl => ?_)
  have hl : lv_has ls 6 [(4, .int (x1 - (1 : Int32))), (3, .int (2 : Int32)), (2, .int (-1 : Int32)), (0, .ref a_p), (1, .int x1)] := hl
  have L9 : ∀ (K9 : Int32 → Int32 → Int32 → Option (Int32)) (fuel : Nat) (x2_w9 : Int32) (x3_w9 : Int32) (x4_w9 : Int32) (ls : Array Slot) (H : Heap) (locs : List Loc), lv_has ls 6 [(0, .ref a_p), (1, .int x1), (2, .int x2_w9), (3, .int x3_w9), (4, .int x4_w9)] → va_P (dC, dI) classes [(a_p, .inr (2, [.ref a_pb, .ref a_pf, .int uSize])), (a_pb, .inl (cI, 16, .inl uBytes))] H → va_D A [(a_p, .inr (2, [.ref a_pb, .ref a_pf, .int uSize])), (a_pb, .inl (cI, 16, .inl uBytes))] → va_S A s.heap H locs → P_longestMatch_L9 uBytes x1 K9 fuel x2_w9 x3_w9 x4_w9 = some res → (∀ (x2_w9 : Int32) (x3_w9 : Int32) (x4_w9 : Int32) (ls : Array Slot) (H : Heap) (locs : List Loc), lv_has ls 6 [(0, .ref a_p), (1, .int x1), (2, .int x2_w9), (3, .int x3_w9), (4, .int x4_w9)] → va_P (dC, dI) classes [(a_p, .inr (2, [.ref a_pb, .ref a_pf, .int uSize])), (a_pb, .inl (cI, 16, .inl uBytes))] H → va_D A [(a_p, .inr (2, [.ref a_pb, .ref a_pf, .int uSize])), (a_pb, .inl (cI, 16, .inl uBytes))] → va_S A s.heap H locs → K9 x2_w9 x3_w9 x4_w9 = some res → W p l e (headSpec w_P_longestMatch ({ frames := 1, cells := 0, slots := 0, locals := 23 })).room s m ([.ref a_p, .int x1] : List Value).toArray below meth c H locs 0 0 (MQ below (va_Qi (fun (r : Int32) (z : Unit) => res = r) (fun (z : Unit) (t : State) => va_P (dC, dI) classes [(a_p, .inr (2, [.ref a_pb, .ref a_pf, .int uSize])), (a_pb, .inl (cI, 16, .inl uBytes))] t.heap ∧ va_K (dC, dI) classes [(cI, .int), (cZ, .boolean), (cJ, .long)] t ∧ va_D A [(a_p, .inr (2, [.ref a_pb, .ref a_pf, .int uSize])), (a_pb, .inl (cI, 16, .inl uBytes))]) A) ([.ref a_p, .int x1] : List Value).toArray s 0 0 A) (F0 m 41 ls [])) → W p l e (headSpec w_P_longestMatch ({ frames := 1, cells := 0, slots := 0, locals := 23 })).room s m ([.ref a_p, .int x1] : List Value).toArray below meth c H locs 0 0 (MQ below (va_Qi (fun (r : Int32) (z : Unit) => res = r) (fun (z : Unit) (t : State) => va_P (dC, dI) classes [(a_p, .inr (2, [.ref a_pb, .ref a_pf, .int uSize])), (a_pb, .inl (cI, 16, .inl uBytes))] t.heap ∧ va_K (dC, dI) classes [(cI, .int), (cZ, .boolean), (cJ, .long)] t ∧ va_D A [(a_p, .inr (2, [.ref a_pb, .ref a_pf, .int uSize])), (a_pb, .inl (cI, 16, .inl uBytes))]) A) ([.ref a_p, .int x1] : List Value).toArray s 0 0 A) (F0 m 9 ls []) := by
    intro K9 fuel
    induction fuel with
    | zero => intro x2_w9 x3_w9 x4_w9 ls H locs hl hP hD hS h hk9; exact absurd (show (none : Option (Int32)) = some res from h) (by intro q; cases q)
    | succ fuel ih9 =>
      intro x2_w9 x3_w9 x4_w9 ls H locs hl hP hD hS h hk9
      rw [P_longestMatch_L9] at h
      refine lv_iload hx hb d_P_longestMatch_9 (lv_at hl 4 rfl) ?_
      refine lv_if_lt (tgt := 41) hx hb d_P_longestMatch_11 (by decide) (fun hc => ?_) (fun hc => ?_)
      · have h := ck_t hc h
        have hl : lv_has ls 6 [(0, .ref a_p), (1, .int x1), (2, .int x2_w9), (3, .int x3_w9), (4, .int x4_w9)] := lv_sub hl [0, 1, 2, 3, 4] rfl
        exact hk9 _ _ _ _ _ _ hl hP hD hS h
      · have h := ck_f hc h
        refine lv_aload_n hx hb d_P_longestMatch_14 rfl (lv_at hl 0 rfl) ?_
        refine lv_iload hx hb d_P_longestMatch_15 (lv_at hl 4 rfl) ?_
        refine lv_iload_n hx hb d_P_longestMatch_17 rfl (lv_at hl 1 rfl) ?_
        obtain ⟨z1, hz, h⟩ := ck_bind h
        have hPc := hP.sub (ws' := [(a_p, .inr (2, [.ref a_pb, .ref a_pf, .int uSize])), (a_pb, .inl (cI, 16, .inl uBytes))]) [0, 1] rfl
        have hDc := hD.sub (ws' := [(a_p, .inr (2, [.ref a_pb, .ref a_pf, .int uSize])), (a_pb, .inl (cI, 16, .inl uBytes))]) [0, 1] (by decide) rfl
        have hFc := va_free (wc := [(a_p, .inr (2, [.ref a_pb, .ref a_pf, .int uSize])), (a_pb, .inl (cI, 16, .inl uBytes))]) hD hS hA [0, 1] rfl
        refine va_calli (va_runV (As := [.int x4_w9, .int x1]) (rest := []) ⟨hx, hb, hml, hown, htT⟩ (c_P_sameBytes l dC dI cI cZ cJ a_u a_d a_p a_pb a_pf a_r a_rs a_rb a_ru a_rz a_rh a_rl a_c a_cp a_st a_pl H.size n N uSize uBytes x4_w9 x1 z1 hz) (cwV 2 htT (gV kl_P_35 ki_P_sameBytes ke_P_sameBytes kn_P kc_P_sameBytes) rfl rfl rfl (by decide +kernel) ⟨Nat.le_of_ble_eq_true rfl, Nat.le_of_ble_eq_true rfl⟩) ⟨fun a U g mk q => by obtain ⟨q0, q1, qP, qK, qD, qN⟩ := q; exact ⟨q0, q1, qP, va_K.moved (u := U) (U := U.calling g mk a) (Vm.Alike.refl U.vm) qK, qD, Ns.same (u := U) rfl qN⟩, va_recv (q0 := 0) (q := (R_P, F_P, 3)) hK hP (ci := 2) rfl rfl, fun U hU hW => ⟨rfl, by rw [hU], by rw [hU]; exact hPc, va_K.moved hW.alike hK, hDc.weaken (fun _ _ _ _ => trivial), Ns.warm hW hN⟩⟩ rfl rfl hl.1 rfl (lv_room (Nat.le_of_ble_eq_true rfl)) d_P_longestMatch_18 ⟨(Nat.zero_le _), (Nat.zero_le _)⟩) hS (fun q _ h => hFc q h) hFc (fun r u t H locs ht hvm hw hB hz1 hk1 hS => ?_)
        subst hw
        obtain ⟨hP1, hK1, hD1⟩ := hB
        rw [ht] at hP1
        obtain ⟨hP, hD⟩ := va_join (wr := []) (w1 := [(a_p, .inr (2, [.ref a_pb, .ref a_pf, .int uSize])), (a_pb, .inl (cI, 16, .inl uBytes))]) hP hD [0, 1] [] rfl rfl (by decide) (by decide) hk1 hFc hP1 hD1
        have hP : va_P (dC, dI) classes [(a_p, .inr (2, [.ref a_pb, .ref a_pf, .int uSize])), (a_pb, .inl (cI, 16, .inl uBytes))] H := hP
        have hD : va_D A [(a_p, .inr (2, [.ref a_pb, .ref a_pf, .int uSize])), (a_pb, .inl (cI, 16, .inl uBytes))] := hD
        refine lv_istore hx hb d_P_longestMatch_21 hl (by decide) rfl (fun ls hl => ?_)
        have hl : lv_has ls 6 [(5, .int z1), (0, .ref a_p), (1, .int x1), (2, .int x2_w9), (3, .int x3_w9), (4, .int x4_w9)] := hl
        refine lv_iload hx hb d_P_longestMatch_23 (lv_at hl 0 rfl) ?_
        refine lv_iload_n hx hb d_P_longestMatch_25 rfl (lv_at hl 4 rfl) ?_
        refine lv_icmp_le (tgt := 35) hx hb d_P_longestMatch_26 (by decide) (fun hc => ?_) (fun hc => ?_)
        · have h := ck_t hc h
          refine lv_iinc (k := 5) (v := (x4_w9 + (-1 : Int32))) hx hb d_P_longestMatch_35 hl rfl (congrArg (fun y => x4_w9 + y) (by decide)) (by decide) rfl (fun ls hl => ?_)
          have hl : lv_has ls 6 [(4, .int (x4_w9 + (-1 : Int32))), (5, .int z1), (0, .ref a_p), (1, .int x1), (2, .int x2_w9), (3, .int x3_w9)] := hl
          refine lv_goto (tgt := 9) hx hb d_P_longestMatch_38 (by decide) ?_
          have hl : lv_has ls 6 [(0, .ref a_p), (1, .int x1), (2, .int x2_w9), (3, .int x3_w9), (4, .int (x4_w9 + (-1 : Int32)))] := lv_sub hl [2, 3, 4, 5, 0] rfl
          exact ih9 _ _ _ _ _ _ hl hP hD hS h hk9
        · have h := ck_f hc h
          refine lv_iload hx hb d_P_longestMatch_29 (lv_at hl 5 rfl) ?_
          refine lv_istore_n hx hb d_P_longestMatch_31 rfl hl (by decide) rfl (fun ls hl => ?_)
          have hl : lv_has ls 6 [(2, .int x4_w9), (5, .int z1), (0, .ref a_p), (1, .int x1), (3, .int x3_w9), (4, .int x4_w9)] := hl
          refine lv_iload hx hb d_P_longestMatch_32 (lv_at hl 1 rfl) ?_
          refine lv_istore_n hx hb d_P_longestMatch_34 rfl hl (by decide) rfl (fun ls hl => ?_)
          have hl : lv_has ls 6 [(3, .int z1), (2, .int x4_w9), (5, .int z1), (0, .ref a_p), (1, .int x1), (4, .int x4_w9)] := hl
          refine lv_iinc (k := 5) (v := (x4_w9 + (-1 : Int32))) hx hb d_P_longestMatch_35 hl rfl (congrArg (fun y => x4_w9 + y) (by decide)) (by decide) rfl (fun ls hl => ?_)
          have hl : lv_has ls 6 [(4, .int (x4_w9 + (-1 : Int32))), (3, .int z1), (2, .int x4_w9), (5, .int z1), (0, .ref a_p), (1, .int x1)] := hl
          refine lv_goto (tgt := 9) hx hb d_P_longestMatch_38 (by decide) ?_
          have hl : lv_has ls 6 [(0, .ref a_p), (1, .int x1), (2, .int x4_w9), (3, .int z1), (4, .int (x4_w9 + (-1 : Int32)))] := lv_sub hl [4, 5, 2, 1, 0] rfl
          exact ih9 _ _ _ _ _ _ hl hP hD hS h hk9
  have hl : lv_has ls 6 [(0, .ref a_p), (1, .int x1), (2, .int (-1 : Int32)), (3, .int (2 : Int32)), (4, .int (x1 - (1 : Int32)))] := lv_sub hl [3, 4, 2, 1, 0] rfl
  refine L9 _ _ _ _ _ _ _ _ hl hP hD hS h ?_
  intro x2_k9 x3_k9 x4_k9 ls H locs hl hP hD hS h
  refine lv_iload_n hx hb d_P_longestMatch_41 rfl (lv_at hl 2 rfl) ?_
  exact W.iret (v := x2_k9) hx hb hr (fun t ht hW => ⟨⟨x2_k9, (), rfl, (Option.some.inj h).symm, by rw [ht]; exact hP, va_K.moved hW.alike hK, hD⟩, hS.F ht⟩) hS.2.2 d_P_longestMatch_42
set_option maxHeartbeats 4000000 in
set_option maxRecDepth 100000 in
theorem c_P_endPiece (l : Launch) (dC : Nat → ClassId) (dI : Nat → Nat → Nat) (cI cZ cJ : ClassId) (a_u a_d a_p a_pb a_pf a_r a_rs a_rb a_ru a_rz a_rh a_rl a_c a_cp a_st a_pl : Nat) (sz n N : Nat) (uSize : Int32) (uBytes : Nat → Int32) (uForm : Nat → Int32) (x1 : Int32) (x2 : Int32) (x3 : Int32) (res : Int32 × (Nat → Int32)) (hM : P_endPiece uSize uBytes uForm x1 x2 x3 = some res) : Met l y_P_endPiece w_P_endPiece ({ frames := 0, cells := 0, slots := 0, locals := 0 }) (va_Pc [.ref a_p, .int x1, .int x2, .int x3] (fun U => U.heap.size = sz ∧ va_P (dC, dI) classes [(a_p, .inr (2, [.ref a_pb, .ref a_pf, .int uSize])), (a_pb, .inl (cI, 16, .inl uBytes)), (a_pf, .inl (cI, 18, .inl uForm))] U.heap ∧ va_K (dC, dI) classes [(cI, .int), (cZ, .boolean), (cJ, .long)] U ∧ va_D (fun _ => True) [(a_p, .inr (2, [.ref a_pb, .ref a_pf, .int uSize])), (a_pb, .inl (cI, 16, .inl uBytes)), (a_pf, .inl (cI, 18, .inl uForm))] ∧ Ns U)) (va_Qv (fun (z : Int32 × (Nat → Int32)) => res = z) (fun (z : Int32 × (Nat → Int32)) (t : State) => va_P (dC, dI) classes [(a_p, .inr (2, [.ref a_pb, .ref a_pf, .int z.1])), (a_pb, .inl (cI, 16, .inl uBytes)), (a_pf, .inl (cI, 18, .inl z.2))] t.heap ∧ va_K (dC, dI) classes [(cI, .int), (cZ, .boolean), (cJ, .long)] t ∧ va_D (va_A [(a_p, .inr (2, [.ref a_pb, .ref a_pf, .int uSize])), (a_pb, .inl (cI, 16, .inl uBytes)), (a_pf, .inl (cI, 18, .inl uForm))] sz) [(a_p, .inr (2, [.ref a_pb, .ref a_pf, .int z.1])), (a_pb, .inl (cI, 16, .inl uBytes)), (a_pf, .inl (cI, 18, .inl z.2))]) (va_A [(a_p, .inr (2, [.ref a_pb, .ref a_pf, .int uSize])), (a_pb, .inl (cI, 16, .inl uBytes)), (a_pf, .inl (cI, 18, .inl uForm))] sz)) 0 0 (va_A [(a_p, .inr (2, [.ref a_pb, .ref a_pf, .int uSize])), (a_pb, .inl (cI, 16, .inl uBytes)), (a_pf, .inl (cI, 18, .inl uForm))] sz) := by
  refine Met.ofW (cc := b_P_endPiece) (maxL := 5) (ret := none) (by decide) rfl ?_
  intro p e s m args below meth c s₁ B hml hv
  obtain ⟨rfl, hsz, hP, hK, hD0, hN⟩ := hv
  have hx := B.exec
  have hb := B.bytes
  have hr := B.returns
  have hts := atoms_spec (ws := w_P_endPiece) B.pre
  have htT : ∀ w ∈ lwG, w.before _ s = true := fun w h => hts w (List.mem_cons_of_mem _ h)
  have hown : s.vm.findClass R_P = some m.cls := findClass_of_methodNamed B.named
  have hlocks := B.notSynchronized
  subst hsz
  have hD := hD0.self (sz := s.heap.size)
  generalize hAe : va_A [(a_p, .inr (2, [.ref a_pb, .ref a_pf, .int uSize])), (a_pb, .inl (cI, 16, .inl uBytes)), (a_pf, .inl (cI, 18, .inl uForm))] s.heap.size = A at hD ⊢
  have hA : ∀ q : Nat, s.heap.size ≤ q → A q := fun q h => by rw [← hAe]; exact Or.inr h
  have hS : va_S A s.heap s.heap [] := va_S.rf
  have hP : va_P (dC, dI) classes [(a_p, .inr (2, [.ref a_pb, .ref a_pf, .int uSize])), (a_pb, .inl (cI, 16, .inl uBytes)), (a_pf, .inl (cI, 18, .inl uForm))] s.heap := hP
  have hl := lv_entry ([.ref a_p, .int x1, .int x2, .int x3]) (n := 5) (Nat.le_of_ble_eq_true rfl)
  rw [lg_entry_eq]
  generalize (lg_sl ([.ref a_p, .int x1, .int x2, .int x3]) ++ List.replicate (5 - (lg_sl ([.ref a_p, .int x1, .int x2, .int x3])).length) Slot.unset).toArray = ls at hl ⊢
  have hl : lv_has ls 5 [(0, .ref a_p), (1, .int x1), (2, .int x2), (3, .int x3)] := hl
  have h := hM
  rw [P_endPiece] at h
  refine lv_aload_n hx hb d_P_endPiece_0 rfl (lv_at hl 0 rfl) ?_
  refine va_get (D := (dC, dI)) (ci := 2) (v := .ref a_pf) (C := R_P) (T := F_P) (N := 3) hx hb htT i_P hown hK hP 0 rfl rfl 1 (by decide) (htT _ kf_P_15) (fun _ h9 => h9) rfl d_P_endPiece_1 ?_
  refine lv_aload_n hx hb d_P_endPiece_4 rfl (lv_at hl 0 rfl) ?_
  refine lv_dup hx hb d_P_endPiece_5 rfl ?_
  refine va_get (D := (dC, dI)) (ci := 2) (v := .int uSize) (C := R_P) (T := F_P) (N := 3) hx hb htT i_P hown hK hP 0 rfl rfl 2 (by decide) (htT _ kf_P_21) (fun _ h9 => h9) rfl d_P_endPiece_6 ?_
  refine lv_dup_x1 hx hb d_P_endPiece_9 rfl rfl ?_
  refine lv_iconst (v := (1 : Int32)) hx hb d_P_endPiece_10 (by decide) ?_
  refine lv_iadd hx hb d_P_endPiece_11 ?_
  refine va_put (D := (dC, dI)) (ci := 2) (v := .int (uSize + (1 : Int32))) (ty := .int) (C := R_P) (T := F_P) (N := 3) hx hb htT i_P t_P t_P_ok n_P hown hK hP hD hS 0 rfl rfl 2 (by decide) (htT _ kf_P_21) (fun _ h9 => h9) rfl (by decide +kernel) rfl rfl (Nat.le_of_ble_eq_true rfl) d_P_endPiece_12 (fun H locs hP hD hS => ?_)
  have hP : va_P (dC, dI) classes [(a_p, .inr (2, [.ref a_pb, .ref a_pf, .int (uSize + (1 : Int32))])), (a_pb, .inl (cI, 16, .inl uBytes)), (a_pf, .inl (cI, 18, .inl uForm))] H := hP
  have hD : va_D A [(a_p, .inr (2, [.ref a_pb, .ref a_pf, .int (uSize + (1 : Int32))])), (a_pb, .inl (cI, 16, .inl uBytes)), (a_pf, .inl (cI, 18, .inl uForm))] := hD
  refine lv_bipush (v := (16 : Int32)) hx hb d_P_endPiece_15 (by decide) ?_
  refine lv_iload_n hx hb d_P_endPiece_17 rfl (lv_at hl 2 rfl) ?_
  refine lv_iload_n hx hb d_P_endPiece_18 rfl (lv_at hl 1 rfl) ?_
  refine lv_isub hx hb d_P_endPiece_19 ?_
  refine lv_imul hx hb d_P_endPiece_20 ?_
  refine lv_iload_n hx hb d_P_endPiece_21 rfl (lv_at hl 3 rfl) ?_
  refine lv_iadd hx hb d_P_endPiece_22 ?_
  obtain ⟨hin, h⟩ := ck_in h
  refine va_iast hx hb hK hP hD hS 2 0 rfl rfl hin d_P_endPiece_23 (fun H locs hP hD hS => ?_)
  have hP : va_P (dC, dI) classes [(a_p, .inr (2, [.ref a_pb, .ref a_pf, .int (uSize + (1 : Int32))])), (a_pb, .inl (cI, 16, .inl uBytes)), (a_pf, .inl (cI, 18, .inl (upd uForm uSize.toNatClampNeg (((16 : Int32) * (x2 - x1)) + x3))))] H := hP
  have hD : va_D A [(a_p, .inr (2, [.ref a_pb, .ref a_pf, .int (uSize + (1 : Int32))])), (a_pb, .inl (cI, 16, .inl uBytes)), (a_pf, .inl (cI, 18, .inl (upd uForm uSize.toNatClampNeg (((16 : Int32) * (x2 - x1)) + x3))))] := hD
  refine lv_iload_n hx hb d_P_endPiece_24 rfl (lv_at hl 1 rfl) ?_
  refine lv_istore hx hb d_P_endPiece_25 hl (by decide) rfl (fun ls hl => ?_)
  have hl : lv_has ls 5 [(4, .int x1), (0, .ref a_p), (1, .int x1), (2, .int x2), (3, .int x3)] := hl
  have L27 : ∀ (K27 : Int32 → (Nat → Int32) → Int32 → Option (Int32 × (Nat → Int32))) (fuel : Nat) (uSize_w27 : Int32) (uForm_w27 : Nat → Int32) (x4_w27 : Int32) (ls : Array Slot) (H : Heap) (locs : List Loc), lv_has ls 5 [(0, .ref a_p), (2, .int x2), (4, .int x4_w27)] → va_P (dC, dI) classes [(a_p, .inr (2, [.ref a_pb, .ref a_pf, .int uSize_w27])), (a_pb, .inl (cI, 16, .inl uBytes)), (a_pf, .inl (cI, 18, .inl uForm_w27))] H → va_D A [(a_p, .inr (2, [.ref a_pb, .ref a_pf, .int uSize_w27])), (a_pb, .inl (cI, 16, .inl uBytes)), (a_pf, .inl (cI, 18, .inl uForm_w27))] → va_S A s.heap H locs → P_endPiece_L27 uBytes x2 K27 fuel uSize_w27 uForm_w27 x4_w27 = some res → (∀ (uSize_w27 : Int32) (uForm_w27 : Nat → Int32) (x4_w27 : Int32) (ls : Array Slot) (H : Heap) (locs : List Loc), lv_has ls 5 [(0, .ref a_p), (2, .int x2), (4, .int x4_w27)] → va_P (dC, dI) classes [(a_p, .inr (2, [.ref a_pb, .ref a_pf, .int uSize_w27])), (a_pb, .inl (cI, 16, .inl uBytes)), (a_pf, .inl (cI, 18, .inl uForm_w27))] H → va_D A [(a_p, .inr (2, [.ref a_pb, .ref a_pf, .int uSize_w27])), (a_pb, .inl (cI, 16, .inl uBytes)), (a_pf, .inl (cI, 18, .inl uForm_w27))] → va_S A s.heap H locs → K27 uSize_w27 uForm_w27 x4_w27 = some res → W p l e (headSpec w_P_endPiece ({ frames := 0, cells := 0, slots := 0, locals := 0 })).room s m ([.ref a_p, .int x1, .int x2, .int x3] : List Value).toArray below meth c H locs 0 0 (MQ below (va_Qv (fun (z : Int32 × (Nat → Int32)) => res = z) (fun (z : Int32 × (Nat → Int32)) (t : State) => va_P (dC, dI) classes [(a_p, .inr (2, [.ref a_pb, .ref a_pf, .int z.1])), (a_pb, .inl (cI, 16, .inl uBytes)), (a_pf, .inl (cI, 18, .inl z.2))] t.heap ∧ va_K (dC, dI) classes [(cI, .int), (cZ, .boolean), (cJ, .long)] t ∧ va_D A [(a_p, .inr (2, [.ref a_pb, .ref a_pf, .int z.1])), (a_pb, .inl (cI, 16, .inl uBytes)), (a_pf, .inl (cI, 18, .inl z.2))]) A) ([.ref a_p, .int x1, .int x2, .int x3] : List Value).toArray s 0 0 A) (F0 m 62 ls [])) → W p l e (headSpec w_P_endPiece ({ frames := 0, cells := 0, slots := 0, locals := 0 })).room s m ([.ref a_p, .int x1, .int x2, .int x3] : List Value).toArray below meth c H locs 0 0 (MQ below (va_Qv (fun (z : Int32 × (Nat → Int32)) => res = z) (fun (z : Int32 × (Nat → Int32)) (t : State) => va_P (dC, dI) classes [(a_p, .inr (2, [.ref a_pb, .ref a_pf, .int z.1])), (a_pb, .inl (cI, 16, .inl uBytes)), (a_pf, .inl (cI, 18, .inl z.2))] t.heap ∧ va_K (dC, dI) classes [(cI, .int), (cZ, .boolean), (cJ, .long)] t ∧ va_D A [(a_p, .inr (2, [.ref a_pb, .ref a_pf, .int z.1])), (a_pb, .inl (cI, 16, .inl uBytes)), (a_pf, .inl (cI, 18, .inl z.2))]) A) ([.ref a_p, .int x1, .int x2, .int x3] : List Value).toArray s 0 0 A) (F0 m 27 ls []) := by
    intro K27 fuel
    induction fuel with
    | zero => intro uSize_w27 uForm_w27 x4_w27 ls H locs hl hP hD hS h hk27; exact absurd (show (none : Option (Int32 × (Nat → Int32))) = some res from h) (by intro q; cases q)
    | succ fuel ih27 =>
      intro uSize_w27 uForm_w27 x4_w27 ls H locs hl hP hD hS h hk27
      rw [P_endPiece_L27] at h
      refine lv_iload hx hb d_P_endPiece_27 (lv_at hl 2 rfl) ?_
      refine lv_iload_n hx hb d_P_endPiece_29 rfl (lv_at hl 1 rfl) ?_
      refine lv_icmp_ge (tgt := 62) hx hb d_P_endPiece_30 (by decide) (fun hc => ?_) (fun hc => ?_)
      · have h := ck_t hc h
        have hl : lv_has ls 5 [(0, .ref a_p), (2, .int x2), (4, .int x4_w27)] := lv_sub hl [0, 1, 2] rfl
        exact hk27 _ _ _ _ _ _ hl hP hD hS h
      · have h := ck_f hc h
        refine lv_aload_n hx hb d_P_endPiece_33 rfl (lv_at hl 0 rfl) ?_
        refine va_get (D := (dC, dI)) (ci := 2) (v := .ref a_pf) (C := R_P) (T := F_P) (N := 3) hx hb htT i_P hown hK hP 0 rfl rfl 1 (by decide) (htT _ kf_P_15) (fun _ h9 => h9) rfl d_P_endPiece_34 ?_
        refine lv_aload_n hx hb d_P_endPiece_37 rfl (lv_at hl 0 rfl) ?_
        refine lv_dup hx hb d_P_endPiece_38 rfl ?_
        refine va_get (D := (dC, dI)) (ci := 2) (v := .int uSize_w27) (C := R_P) (T := F_P) (N := 3) hx hb htT i_P hown hK hP 0 rfl rfl 2 (by decide) (htT _ kf_P_21) (fun _ h9 => h9) rfl d_P_endPiece_39 ?_
        refine lv_dup_x1 hx hb d_P_endPiece_42 rfl rfl ?_
        refine lv_iconst (v := (1 : Int32)) hx hb d_P_endPiece_43 (by decide) ?_
        refine lv_iadd hx hb d_P_endPiece_44 ?_
        refine va_put (D := (dC, dI)) (ci := 2) (v := .int (uSize_w27 + (1 : Int32))) (ty := .int) (C := R_P) (T := F_P) (N := 3) hx hb htT i_P t_P t_P_ok n_P hown hK hP hD hS 0 rfl rfl 2 (by decide) (htT _ kf_P_21) (fun _ h9 => h9) rfl (by decide +kernel) rfl rfl (Nat.le_of_ble_eq_true rfl) d_P_endPiece_45 (fun H locs hP hD hS => ?_)
        have hP : va_P (dC, dI) classes [(a_p, .inr (2, [.ref a_pb, .ref a_pf, .int (uSize_w27 + (1 : Int32))])), (a_pb, .inl (cI, 16, .inl uBytes)), (a_pf, .inl (cI, 18, .inl uForm_w27))] H := hP
        have hD : va_D A [(a_p, .inr (2, [.ref a_pb, .ref a_pf, .int (uSize_w27 + (1 : Int32))])), (a_pb, .inl (cI, 16, .inl uBytes)), (a_pf, .inl (cI, 18, .inl uForm_w27))] := hD
        refine lv_aload_n hx hb d_P_endPiece_48 rfl (lv_at hl 0 rfl) ?_
        refine va_get (D := (dC, dI)) (ci := 2) (v := .ref a_pb) (C := R_P) (T := F_P) (N := 3) hx hb htT i_P hown hK hP 0 rfl rfl 0 (by decide) (htT _ kf_P_11) (fun _ h9 => h9) rfl d_P_endPiece_49 ?_
        refine lv_iload hx hb d_P_endPiece_52 (lv_at hl 2 rfl) ?_
        obtain ⟨hin, h⟩ := ck_in h
        refine va_iald hx hb hK hP 1 0 rfl rfl hin d_P_endPiece_54 ?_
        obtain ⟨hin, h⟩ := ck_in h
        refine va_iast hx hb hK hP hD hS 2 0 rfl rfl hin d_P_endPiece_55 (fun H locs hP hD hS => ?_)
        have hP : va_P (dC, dI) classes [(a_p, .inr (2, [.ref a_pb, .ref a_pf, .int (uSize_w27 + (1 : Int32))])), (a_pb, .inl (cI, 16, .inl uBytes)), (a_pf, .inl (cI, 18, .inl (upd uForm_w27 uSize_w27.toNatClampNeg (uBytes x4_w27.toNatClampNeg))))] H := hP
        have hD : va_D A [(a_p, .inr (2, [.ref a_pb, .ref a_pf, .int (uSize_w27 + (1 : Int32))])), (a_pb, .inl (cI, 16, .inl uBytes)), (a_pf, .inl (cI, 18, .inl (upd uForm_w27 uSize_w27.toNatClampNeg (uBytes x4_w27.toNatClampNeg))))] := hD
        refine lv_iinc (k := 2) (v := (x4_w27 + (1 : Int32))) hx hb d_P_endPiece_56 hl rfl (congrArg (fun y => x4_w27 + y) (by decide)) (by decide) rfl (fun ls hl => ?_)
        have hl : lv_has ls 5 [(4, .int (x4_w27 + (1 : Int32))), (0, .ref a_p), (2, .int x2)] := hl
        refine lv_goto (tgt := 27) hx hb d_P_endPiece_59 (by decide) ?_
        have hl : lv_has ls 5 [(0, .ref a_p), (2, .int x2), (4, .int (x4_w27 + (1 : Int32)))] := lv_sub hl [1, 2, 0] rfl
        exact ih27 _ _ _ _ _ _ hl hP hD hS h hk27
  have hl : lv_has ls 5 [(0, .ref a_p), (2, .int x2), (4, .int x1)] := lv_sub hl [1, 3, 0] rfl
  refine L27 _ _ _ _ _ _ _ _ hl hP hD hS h ?_
  intro uSize_k27 uForm_k27 x4_k27 ls H locs hl hP hD hS h
  exact W.vret hx hb hr (fun t ht hW => ⟨⟨(uSize_k27, uForm_k27), rfl, (Option.some.inj h).symm, by rw [ht]; exact hP, va_K.moved hW.alike hK, hD⟩, hS.F ht⟩) hS.2.2 d_P_endPiece_62
set_option maxHeartbeats 4000000 in
set_option maxRecDepth 100000 in
theorem c_P_makePieces (l : Launch) (dC : Nat → ClassId) (dI : Nat → Nat → Nat) (cI cZ cJ : ClassId) (a_u a_d a_p a_pb a_pf a_r a_rs a_rb a_ru a_rz a_rh a_rl a_c a_cp a_st a_pl : Nat) (sz n N : Nat) (uSize : Int32) (uBytes : Nat → Int32) (uForm : Nat → Int32)  (res : Int32 × (Nat → Int32)) (hM : P_makePieces uSize uBytes uForm = some res) : Met l y_P_makePieces w_P_makePieces ({ frames := 2, cells := 0, slots := 0, locals := 48 }) (va_Pc [.ref a_p] (fun U => U.heap.size = sz ∧ va_P (dC, dI) classes [(a_p, .inr (2, [.ref a_pb, .ref a_pf, .int uSize])), (a_pb, .inl (cI, 16, .inl uBytes)), (a_pf, .inl (cI, 18, .inl uForm))] U.heap ∧ va_K (dC, dI) classes [(cI, .int), (cZ, .boolean), (cJ, .long)] U ∧ va_D (fun _ => True) [(a_p, .inr (2, [.ref a_pb, .ref a_pf, .int uSize])), (a_pb, .inl (cI, 16, .inl uBytes)), (a_pf, .inl (cI, 18, .inl uForm))] ∧ Ns U)) (va_Qv (fun (z : Int32 × (Nat → Int32)) => res = z) (fun (z : Int32 × (Nat → Int32)) (t : State) => va_P (dC, dI) classes [(a_p, .inr (2, [.ref a_pb, .ref a_pf, .int z.1])), (a_pb, .inl (cI, 16, .inl uBytes)), (a_pf, .inl (cI, 18, .inl z.2))] t.heap ∧ va_K (dC, dI) classes [(cI, .int), (cZ, .boolean), (cJ, .long)] t ∧ va_D (va_A [(a_p, .inr (2, [.ref a_pb, .ref a_pf, .int uSize])), (a_pb, .inl (cI, 16, .inl uBytes)), (a_pf, .inl (cI, 18, .inl uForm))] sz) [(a_p, .inr (2, [.ref a_pb, .ref a_pf, .int z.1])), (a_pb, .inl (cI, 16, .inl uBytes)), (a_pf, .inl (cI, 18, .inl z.2))]) (va_A [(a_p, .inr (2, [.ref a_pb, .ref a_pf, .int uSize])), (a_pb, .inl (cI, 16, .inl uBytes)), (a_pf, .inl (cI, 18, .inl uForm))] sz)) 0 0 (va_A [(a_p, .inr (2, [.ref a_pb, .ref a_pf, .int uSize])), (a_pb, .inl (cI, 16, .inl uBytes)), (a_pf, .inl (cI, 18, .inl uForm))] sz) := by
  refine Met.ofW (cc := b_P_makePieces) (maxL := 5) (ret := none) (by decide) rfl ?_
  intro p e s m args below meth c s₁ B hml hv
  obtain ⟨rfl, hsz, hP, hK, hD0, hN⟩ := hv
  have hx := B.exec
  have hb := B.bytes
  have hr := B.returns
  have hts := atoms_spec (ws := w_P_makePieces) B.pre
  have htT : ∀ w ∈ lwG, w.before _ s = true := fun w h => hts w (List.mem_cons_of_mem _ h)
  have hown : s.vm.findClass R_P = some m.cls := findClass_of_methodNamed B.named
  have hlocks := B.notSynchronized
  subst hsz
  have hD := hD0.self (sz := s.heap.size)
  generalize hAe : va_A [(a_p, .inr (2, [.ref a_pb, .ref a_pf, .int uSize])), (a_pb, .inl (cI, 16, .inl uBytes)), (a_pf, .inl (cI, 18, .inl uForm))] s.heap.size = A at hD ⊢
  have hA : ∀ q : Nat, s.heap.size ≤ q → A q := fun q h => by rw [← hAe]; exact Or.inr h
  have hS : va_S A s.heap s.heap [] := va_S.rf
  have hP : va_P (dC, dI) classes [(a_p, .inr (2, [.ref a_pb, .ref a_pf, .int uSize])), (a_pb, .inl (cI, 16, .inl uBytes)), (a_pf, .inl (cI, 18, .inl uForm))] s.heap := hP
  have hl := lv_entry ([.ref a_p]) (n := 5) (Nat.le_of_ble_eq_true rfl)
  rw [lg_entry_eq]
  generalize (lg_sl ([.ref a_p]) ++ List.replicate (5 - (lg_sl ([.ref a_p])).length) Slot.unset).toArray = ls at hl ⊢
  have hl : lv_has ls 5 [(0, .ref a_p)] := hl
  have h := hM
  rw [P_makePieces] at h
  refine lv_aload_n hx hb d_P_makePieces_0 rfl (lv_at hl 0 rfl) ?_
  refine lv_iconst (v := (0 : Int32)) hx hb d_P_makePieces_1 (by decide) ?_
  refine va_put (D := (dC, dI)) (ci := 2) (v := .int (0 : Int32)) (ty := .int) (C := R_P) (T := F_P) (N := 3) hx hb htT i_P t_P t_P_ok n_P hown hK hP hD hS 0 rfl rfl 2 (by decide) (htT _ kf_P_21) (fun _ h9 => h9) rfl (by decide +kernel) rfl rfl (Nat.le_of_ble_eq_true rfl) d_P_makePieces_2 (fun H locs hP hD hS => ?_)
  have hP : va_P (dC, dI) classes [(a_p, .inr (2, [.ref a_pb, .ref a_pf, .int (0 : Int32)])), (a_pb, .inl (cI, 16, .inl uBytes)), (a_pf, .inl (cI, 18, .inl uForm))] H := hP
  have hD : va_D A [(a_p, .inr (2, [.ref a_pb, .ref a_pf, .int (0 : Int32)])), (a_pb, .inl (cI, 16, .inl uBytes)), (a_pf, .inl (cI, 18, .inl uForm))] := hD
  refine lv_iconst (v := (0 : Int32)) hx hb d_P_makePieces_5 (by decide) ?_
  refine lv_istore_n hx hb d_P_makePieces_6 rfl hl (by decide) rfl (fun ls hl => ?_)
  have hl : lv_has ls 5 [(1, .int (0 : Int32)), (0, .ref a_p)] := hl
  refine lv_iconst (v := (0 : Int32)) hx hb d_P_makePieces_7 (by decide) ?_
  refine lv_istore_n hx hb d_P_makePieces_8 rfl hl (by decide) rfl (fun ls hl => ?_)
  have hl : lv_has ls 5 [(2, .int (0 : Int32)), (1, .int (0 : Int32)), (0, .ref a_p)] := hl
  have L9 : ∀ (K9 : Int32 → (Nat → Int32) → Int32 → Int32 → Option (Int32 × (Nat → Int32))) (fuel : Nat) (uSize_w9 : Int32) (uForm_w9 : Nat → Int32) (x1_w9 : Int32) (x2_w9 : Int32) (ls : Array Slot) (H : Heap) (locs : List Loc), lv_has ls 5 [(0, .ref a_p), (1, .int x1_w9), (2, .int x2_w9)] → va_P (dC, dI) classes [(a_p, .inr (2, [.ref a_pb, .ref a_pf, .int uSize_w9])), (a_pb, .inl (cI, 16, .inl uBytes)), (a_pf, .inl (cI, 18, .inl uForm_w9))] H → va_D A [(a_p, .inr (2, [.ref a_pb, .ref a_pf, .int uSize_w9])), (a_pb, .inl (cI, 16, .inl uBytes)), (a_pf, .inl (cI, 18, .inl uForm_w9))] → va_S A s.heap H locs → P_makePieces_L9 uBytes K9 fuel uSize_w9 uForm_w9 x1_w9 x2_w9 = some res → (∀ (uSize_w9 : Int32) (uForm_w9 : Nat → Int32) (x1_w9 : Int32) (x2_w9 : Int32) (ls : Array Slot) (H : Heap) (locs : List Loc), lv_has ls 5 [(0, .ref a_p), (1, .int x1_w9), (2, .int x2_w9)] → va_P (dC, dI) classes [(a_p, .inr (2, [.ref a_pb, .ref a_pf, .int uSize_w9])), (a_pb, .inl (cI, 16, .inl uBytes)), (a_pf, .inl (cI, 18, .inl uForm_w9))] H → va_D A [(a_p, .inr (2, [.ref a_pb, .ref a_pf, .int uSize_w9])), (a_pb, .inl (cI, 16, .inl uBytes)), (a_pf, .inl (cI, 18, .inl uForm_w9))] → va_S A s.heap H locs → K9 uSize_w9 uForm_w9 x1_w9 x2_w9 = some res → W p l e (headSpec w_P_makePieces ({ frames := 2, cells := 0, slots := 0, locals := 48 })).room s m ([.ref a_p] : List Value).toArray below meth c H locs 0 0 (MQ below (va_Qv (fun (z : Int32 × (Nat → Int32)) => res = z) (fun (z : Int32 × (Nat → Int32)) (t : State) => va_P (dC, dI) classes [(a_p, .inr (2, [.ref a_pb, .ref a_pf, .int z.1])), (a_pb, .inl (cI, 16, .inl uBytes)), (a_pf, .inl (cI, 18, .inl z.2))] t.heap ∧ va_K (dC, dI) classes [(cI, .int), (cZ, .boolean), (cJ, .long)] t ∧ va_D A [(a_p, .inr (2, [.ref a_pb, .ref a_pf, .int z.1])), (a_pb, .inl (cI, 16, .inl uBytes)), (a_pf, .inl (cI, 18, .inl z.2))]) A) ([.ref a_p] : List Value).toArray s 0 0 A) (F0 m 96 ls [])) → W p l e (headSpec w_P_makePieces ({ frames := 2, cells := 0, slots := 0, locals := 48 })).room s m ([.ref a_p] : List Value).toArray below meth c H locs 0 0 (MQ below (va_Qv (fun (z : Int32 × (Nat → Int32)) => res = z) (fun (z : Int32 × (Nat → Int32)) (t : State) => va_P (dC, dI) classes [(a_p, .inr (2, [.ref a_pb, .ref a_pf, .int z.1])), (a_pb, .inl (cI, 16, .inl uBytes)), (a_pf, .inl (cI, 18, .inl z.2))] t.heap ∧ va_K (dC, dI) classes [(cI, .int), (cZ, .boolean), (cJ, .long)] t ∧ va_D A [(a_p, .inr (2, [.ref a_pb, .ref a_pf, .int z.1])), (a_pb, .inl (cI, 16, .inl uBytes)), (a_pf, .inl (cI, 18, .inl z.2))]) A) ([.ref a_p] : List Value).toArray s 0 0 A) (F0 m 9 ls []) := by
    intro K9 fuel
    induction fuel with
    | zero => intro uSize_w9 uForm_w9 x1_w9 x2_w9 ls H locs hl hP hD hS h hk9; exact absurd (show (none : Option (Int32 × (Nat → Int32))) = some res from h) (by intro q; cases q)
    | succ fuel ih9 =>
      intro uSize_w9 uForm_w9 x1_w9 x2_w9 ls H locs hl hP hD hS h hk9
      rw [P_makePieces_L9] at h
      refine lv_iload_n hx hb d_P_makePieces_9 rfl (lv_at hl 2 rfl) ?_
      refine lv_bipush (v := (16 : Int32)) hx hb d_P_makePieces_10 (by decide) ?_
      refine lv_icmp_ge (tgt := 96) hx hb d_P_makePieces_12 (by decide) (fun hc => ?_) (fun hc => ?_)
      · have h := ck_t hc h
        have hl : lv_has ls 5 [(0, .ref a_p), (1, .int x1_w9), (2, .int x2_w9)] := lv_sub hl [0, 1, 2] rfl
        exact hk9 _ _ _ _ _ _ _ hl hP hD hS h
      · have h := ck_f hc h
        refine lv_aload_n hx hb d_P_makePieces_15 rfl (lv_at hl 0 rfl) ?_
        refine lv_iload_n hx hb d_P_makePieces_16 rfl (lv_at hl 2 rfl) ?_
        obtain ⟨z1, hz, h⟩ := ck_bind h
        have hPc := hP.sub (ws' := [(a_p, .inr (2, [.ref a_pb, .ref a_pf, .int uSize_w9])), (a_pb, .inl (cI, 16, .inl uBytes))]) [0, 1] rfl
        have hDc := hD.sub (ws' := [(a_p, .inr (2, [.ref a_pb, .ref a_pf, .int uSize_w9])), (a_pb, .inl (cI, 16, .inl uBytes))]) [0, 1] (by decide) rfl
        have hFc := va_free (wc := [(a_p, .inr (2, [.ref a_pb, .ref a_pf, .int uSize_w9])), (a_pb, .inl (cI, 16, .inl uBytes))]) hD hS hA [0, 1] rfl
        refine va_calli (va_runV (As := [.int x2_w9]) (rest := []) ⟨hx, hb, hml, hown, htT⟩ (c_P_longestMatch l dC dI cI cZ cJ a_u a_d a_p a_pb a_pf a_r a_rs a_rb a_ru a_rz a_rh a_rl a_c a_cp a_st a_pl H.size n N uSize_w9 uBytes x2_w9 z1 hz) (cwV 1 htT (gV kl_P_31 ki_P_longestMatch ke_P_longestMatch kn_P kc_P_longestMatch) rfl rfl rfl (by decide +kernel) ⟨Nat.le_of_ble_eq_true rfl, Nat.le_of_ble_eq_true rfl⟩) ⟨fun a U g mk q => by obtain ⟨q0, q1, qP, qK, qD, qN⟩ := q; exact ⟨q0, q1, qP, va_K.moved (u := U) (U := U.calling g mk a) (Vm.Alike.refl U.vm) qK, qD, Ns.same (u := U) rfl qN⟩, va_recv (q0 := 0) (q := (R_P, F_P, 3)) hK hP (ci := 2) rfl rfl, fun U hU hW => ⟨rfl, by rw [hU], by rw [hU]; exact hPc, va_K.moved hW.alike hK, hDc.weaken (fun _ _ _ _ => trivial), Ns.warm hW hN⟩⟩ rfl rfl hl.1 rfl (lv_room (Nat.le_of_ble_eq_true rfl)) d_P_makePieces_17 ⟨(Nat.zero_le _), (Nat.zero_le _)⟩) hS (fun q _ h => hFc q h) hFc (fun r u t H locs ht hvm hw hB hz1 hk1 hS => ?_)
        subst hw
        obtain ⟨hP1, hK1, hD1⟩ := hB
        rw [ht] at hP1
        obtain ⟨hP, hD⟩ := va_join (wr := [(a_pf, .inl (cI, 18, .inl uForm_w9))]) (w1 := [(a_p, .inr (2, [.ref a_pb, .ref a_pf, .int uSize_w9])), (a_pb, .inl (cI, 16, .inl uBytes))]) hP hD [0, 1] [2] rfl rfl (by decide) (by decide) hk1 hFc hP1 hD1
        have hP := hP.sub (ws' := [(a_p, .inr (2, [.ref a_pb, .ref a_pf, .int uSize_w9])), (a_pb, .inl (cI, 16, .inl uBytes)), (a_pf, .inl (cI, 18, .inl uForm_w9))]) [1, 2, 0] rfl
        have hD := hD.sub (ws' := [(a_p, .inr (2, [.ref a_pb, .ref a_pf, .int uSize_w9])), (a_pb, .inl (cI, 16, .inl uBytes)), (a_pf, .inl (cI, 18, .inl uForm_w9))]) [1, 2, 0] (by decide) rfl
        have hP : va_P (dC, dI) classes [(a_p, .inr (2, [.ref a_pb, .ref a_pf, .int uSize_w9])), (a_pb, .inl (cI, 16, .inl uBytes)), (a_pf, .inl (cI, 18, .inl uForm_w9))] H := hP
        have hD : va_D A [(a_p, .inr (2, [.ref a_pb, .ref a_pf, .int uSize_w9])), (a_pb, .inl (cI, 16, .inl uBytes)), (a_pf, .inl (cI, 18, .inl uForm_w9))] := hD
        refine lv_istore_n hx hb d_P_makePieces_20 rfl hl (by decide) rfl (fun ls hl => ?_)
        have hl : lv_has ls 5 [(3, .int z1), (0, .ref a_p), (1, .int x1_w9), (2, .int x2_w9)] := hl
        refine lv_iload_n hx hb d_P_makePieces_21 rfl (lv_at hl 0 rfl) ?_
        refine lv_iconst (v := (-1 : Int32)) hx hb d_P_makePieces_22 (by decide) ?_
        refine lv_icmp_eq (tgt := 73) hx hb d_P_makePieces_23 (by decide) (fun hc => ?_) (fun hc => ?_)
        · have h := ck_t hc h
          refine lv_iinc (k := 3) (v := (x2_w9 + (1 : Int32))) hx hb d_P_makePieces_73 hl rfl (congrArg (fun y => x2_w9 + y) (by decide)) (by decide) rfl (fun ls hl => ?_)
          have hl : lv_has ls 5 [(2, .int (x2_w9 + (1 : Int32))), (3, .int z1), (0, .ref a_p), (1, .int x1_w9)] := hl
          refine lv_iload_n hx hb d_P_makePieces_76 rfl (lv_at hl 0 rfl) ?_
          refine lv_iload_n hx hb d_P_makePieces_77 rfl (lv_at hl 3 rfl) ?_
          refine lv_isub hx hb d_P_makePieces_78 ?_
          refine lv_bipush (v := (15 : Int32)) hx hb d_P_makePieces_79 (by decide) ?_
          refine lv_icmp_ne (tgt := 93) hx hb d_P_makePieces_81 (by decide) (fun hc => ?_) (fun hc => ?_)
          · have h := ck_f hc h
            refine lv_goto (tgt := 9) hx hb d_P_makePieces_93 (by decide) ?_
            have hl : lv_has ls 5 [(0, .ref a_p), (1, .int x1_w9), (2, .int (x2_w9 + (1 : Int32)))] := lv_sub hl [2, 3, 0] rfl
            exact ih9 _ _ _ _ _ _ _ hl hP hD hS h hk9
          · have h := ck_t hc h
            refine lv_aload_n hx hb d_P_makePieces_84 rfl (lv_at hl 2 rfl) ?_
            refine lv_iload_n hx hb d_P_makePieces_85 rfl (lv_at hl 3 rfl) ?_
            refine lv_iload_n hx hb d_P_makePieces_86 rfl (lv_at hl 0 rfl) ?_
            refine lv_iconst (v := (0 : Int32)) hx hb d_P_makePieces_87 (by decide) ?_
            obtain ⟨z2, hz, h⟩ := ck_bind h
            have hPc := hP.sub (ws' := [(a_p, .inr (2, [.ref a_pb, .ref a_pf, .int uSize_w9])), (a_pb, .inl (cI, 16, .inl uBytes)), (a_pf, .inl (cI, 18, .inl uForm_w9))]) [0, 1, 2] rfl
            have hDc := hD.sub (ws' := [(a_p, .inr (2, [.ref a_pb, .ref a_pf, .int uSize_w9])), (a_pb, .inl (cI, 16, .inl uBytes)), (a_pf, .inl (cI, 18, .inl uForm_w9))]) [0, 1, 2] (by decide) rfl
            have hFc := va_free (wc := [(a_p, .inr (2, [.ref a_pb, .ref a_pf, .int uSize_w9])), (a_pb, .inl (cI, 16, .inl uBytes)), (a_pf, .inl (cI, 18, .inl uForm_w9))]) hD hS hA [0, 1, 2] rfl
            refine va_callv (va_runV (As := [.int x1_w9, .int (x2_w9 + (1 : Int32)), .int (0 : Int32)]) (rest := []) ⟨hx, hb, hml, hown, htT⟩ (c_P_endPiece l dC dI cI cZ cJ a_u a_d a_p a_pb a_pf a_r a_rs a_rb a_ru a_rz a_rh a_rl a_c a_cp a_st a_pl H.size n N uSize_w9 uBytes uForm_w9 x1_w9 (x2_w9 + (1 : Int32)) (0 : Int32) z2 hz) (cwV 3 htT (gV kl_P_39 ki_P_endPiece ke_P_endPiece kn_P kc_P_endPiece) rfl rfl rfl (by decide +kernel) ⟨Nat.le_of_ble_eq_true rfl, Nat.le_of_ble_eq_true rfl⟩) ⟨fun a U g mk q => by obtain ⟨q0, q1, qP, qK, qD, qN⟩ := q; exact ⟨q0, q1, qP, va_K.moved (u := U) (U := U.calling g mk a) (Vm.Alike.refl U.vm) qK, qD, Ns.same (u := U) rfl qN⟩, va_recv (q0 := 0) (q := (R_P, F_P, 3)) hK hP (ci := 2) rfl rfl, fun U hU hW => ⟨rfl, by rw [hU], by rw [hU]; exact hPc, va_K.moved hW.alike hK, hDc.weaken (fun _ _ _ _ => trivial), Ns.warm hW hN⟩⟩ rfl rfl hl.1 rfl (lv_room (Nat.le_of_ble_eq_true rfl)) d_P_makePieces_88 ⟨(Nat.zero_le _), (Nat.zero_le _)⟩) hS (fun q _ h => hFc q h) hFc (fun u t H locs ht hvm hw hB hz1 hk1 hS => ?_)
            subst hw
            obtain ⟨hP1, hK1, hD1⟩ := hB
            rw [ht] at hP1
            obtain ⟨hP, hD⟩ := va_join (wr := []) (w1 := [(a_p, .inr (2, [.ref a_pb, .ref a_pf, .int z2.1])), (a_pb, .inl (cI, 16, .inl uBytes)), (a_pf, .inl (cI, 18, .inl z2.2))]) hP hD [0, 1, 2] [] rfl rfl (by decide) (by decide) hk1 hFc hP1 hD1
            have hP : va_P (dC, dI) classes [(a_p, .inr (2, [.ref a_pb, .ref a_pf, .int z2.1])), (a_pb, .inl (cI, 16, .inl uBytes)), (a_pf, .inl (cI, 18, .inl z2.2))] H := hP
            have hD : va_D A [(a_p, .inr (2, [.ref a_pb, .ref a_pf, .int z2.1])), (a_pb, .inl (cI, 16, .inl uBytes)), (a_pf, .inl (cI, 18, .inl z2.2))] := hD
            refine lv_iload_n hx hb d_P_makePieces_91 rfl (lv_at hl 0 rfl) ?_
            refine lv_istore_n hx hb d_P_makePieces_92 rfl hl (by decide) rfl (fun ls hl => ?_)
            have hl : lv_has ls 5 [(1, .int (x2_w9 + (1 : Int32))), (2, .int (x2_w9 + (1 : Int32))), (3, .int z1), (0, .ref a_p)] := hl
            refine lv_goto (tgt := 9) hx hb d_P_makePieces_93 (by decide) ?_
            have hl : lv_has ls 5 [(0, .ref a_p), (1, .int (x2_w9 + (1 : Int32))), (2, .int (x2_w9 + (1 : Int32)))] := lv_sub hl [3, 0, 1] rfl
            exact ih9 _ _ _ _ _ _ _ hl hP hD hS h hk9
        · have h := ck_f hc h
          refine lv_aload_n hx hb d_P_makePieces_26 rfl (lv_at hl 1 rfl) ?_
          refine lv_iload_n hx hb d_P_makePieces_27 rfl (lv_at hl 0 rfl) ?_
          refine lv_iload_n hx hb d_P_makePieces_28 rfl (lv_at hl 3 rfl) ?_
          obtain ⟨z3, hz, h⟩ := ck_bind h
          have hPc := hP.sub (ws' := [(a_p, .inr (2, [.ref a_pb, .ref a_pf, .int uSize_w9])), (a_pb, .inl (cI, 16, .inl uBytes))]) [0, 1] rfl
          have hDc := hD.sub (ws' := [(a_p, .inr (2, [.ref a_pb, .ref a_pf, .int uSize_w9])), (a_pb, .inl (cI, 16, .inl uBytes))]) [0, 1] (by decide) rfl
          have hFc := va_free (wc := [(a_p, .inr (2, [.ref a_pb, .ref a_pf, .int uSize_w9])), (a_pb, .inl (cI, 16, .inl uBytes))]) hD hS hA [0, 1] rfl
          refine va_calli (va_runV (As := [.int z1, .int x2_w9]) (rest := []) ⟨hx, hb, hml, hown, htT⟩ (c_P_sameBytes l dC dI cI cZ cJ a_u a_d a_p a_pb a_pf a_r a_rs a_rb a_ru a_rz a_rh a_rl a_c a_cp a_st a_pl H.size n N uSize_w9 uBytes z1 x2_w9 z3 hz) (cwV 2 htT (gV kl_P_35 ki_P_sameBytes ke_P_sameBytes kn_P kc_P_sameBytes) rfl rfl rfl (by decide +kernel) ⟨Nat.le_of_ble_eq_true rfl, Nat.le_of_ble_eq_true rfl⟩) ⟨fun a U g mk q => by obtain ⟨q0, q1, qP, qK, qD, qN⟩ := q; exact ⟨q0, q1, qP, va_K.moved (u := U) (U := U.calling g mk a) (Vm.Alike.refl U.vm) qK, qD, Ns.same (u := U) rfl qN⟩, va_recv (q0 := 0) (q := (R_P, F_P, 3)) hK hP (ci := 2) rfl rfl, fun U hU hW => ⟨rfl, by rw [hU], by rw [hU]; exact hPc, va_K.moved hW.alike hK, hDc.weaken (fun _ _ _ _ => trivial), Ns.warm hW hN⟩⟩ rfl rfl hl.1 rfl (lv_room (Nat.le_of_ble_eq_true rfl)) d_P_makePieces_29 ⟨(Nat.zero_le _), (Nat.zero_le _)⟩) hS (fun q _ h => hFc q h) hFc (fun r u t H locs ht hvm hw hB hz1 hk1 hS => ?_)
          subst hw
          obtain ⟨hP1, hK1, hD1⟩ := hB
          rw [ht] at hP1
          obtain ⟨hP, hD⟩ := va_join (wr := [(a_pf, .inl (cI, 18, .inl uForm_w9))]) (w1 := [(a_p, .inr (2, [.ref a_pb, .ref a_pf, .int uSize_w9])), (a_pb, .inl (cI, 16, .inl uBytes))]) hP hD [0, 1] [2] rfl rfl (by decide) (by decide) hk1 hFc hP1 hD1
          have hP := hP.sub (ws' := [(a_p, .inr (2, [.ref a_pb, .ref a_pf, .int uSize_w9])), (a_pb, .inl (cI, 16, .inl uBytes)), (a_pf, .inl (cI, 18, .inl uForm_w9))]) [1, 2, 0] rfl
          have hD := hD.sub (ws' := [(a_p, .inr (2, [.ref a_pb, .ref a_pf, .int uSize_w9])), (a_pb, .inl (cI, 16, .inl uBytes)), (a_pf, .inl (cI, 18, .inl uForm_w9))]) [1, 2, 0] (by decide) rfl
          have hP : va_P (dC, dI) classes [(a_p, .inr (2, [.ref a_pb, .ref a_pf, .int uSize_w9])), (a_pb, .inl (cI, 16, .inl uBytes)), (a_pf, .inl (cI, 18, .inl uForm_w9))] H := hP
          have hD : va_D A [(a_p, .inr (2, [.ref a_pb, .ref a_pf, .int uSize_w9])), (a_pb, .inl (cI, 16, .inl uBytes)), (a_pf, .inl (cI, 18, .inl uForm_w9))] := hD
          refine lv_istore hx hb d_P_makePieces_32 hl (by decide) rfl (fun ls hl => ?_)
          have hl : lv_has ls 5 [(4, .int z3), (3, .int z1), (0, .ref a_p), (1, .int x1_w9), (2, .int x2_w9)] := hl
          refine lv_aload_n hx hb d_P_makePieces_34 rfl (lv_at hl 2 rfl) ?_
          refine lv_iload_n hx hb d_P_makePieces_35 rfl (lv_at hl 3 rfl) ?_
          refine lv_iload_n hx hb d_P_makePieces_36 rfl (lv_at hl 4 rfl) ?_
          refine lv_iload hx hb d_P_makePieces_37 (lv_at hl 0 rfl) ?_
          refine lv_iconst (v := (2 : Int32)) hx hb d_P_makePieces_39 (by decide) ?_
          refine lv_isub hx hb d_P_makePieces_40 ?_
          obtain ⟨z4, hz, h⟩ := ck_bind h
          have hPc := hP.sub (ws' := [(a_p, .inr (2, [.ref a_pb, .ref a_pf, .int uSize_w9])), (a_pb, .inl (cI, 16, .inl uBytes)), (a_pf, .inl (cI, 18, .inl uForm_w9))]) [0, 1, 2] rfl
          have hDc := hD.sub (ws' := [(a_p, .inr (2, [.ref a_pb, .ref a_pf, .int uSize_w9])), (a_pb, .inl (cI, 16, .inl uBytes)), (a_pf, .inl (cI, 18, .inl uForm_w9))]) [0, 1, 2] (by decide) rfl
          have hFc := va_free (wc := [(a_p, .inr (2, [.ref a_pb, .ref a_pf, .int uSize_w9])), (a_pb, .inl (cI, 16, .inl uBytes)), (a_pf, .inl (cI, 18, .inl uForm_w9))]) hD hS hA [0, 1, 2] rfl
          refine va_callv (va_runV (As := [.int x1_w9, .int x2_w9, .int (z3 - (2 : Int32))]) (rest := []) ⟨hx, hb, hml, hown, htT⟩ (c_P_endPiece l dC dI cI cZ cJ a_u a_d a_p a_pb a_pf a_r a_rs a_rb a_ru a_rz a_rh a_rl a_c a_cp a_st a_pl H.size n N uSize_w9 uBytes uForm_w9 x1_w9 x2_w9 (z3 - (2 : Int32)) z4 hz) (cwV 3 htT (gV kl_P_39 ki_P_endPiece ke_P_endPiece kn_P kc_P_endPiece) rfl rfl rfl (by decide +kernel) ⟨Nat.le_of_ble_eq_true rfl, Nat.le_of_ble_eq_true rfl⟩) ⟨fun a U g mk q => by obtain ⟨q0, q1, qP, qK, qD, qN⟩ := q; exact ⟨q0, q1, qP, va_K.moved (u := U) (U := U.calling g mk a) (Vm.Alike.refl U.vm) qK, qD, Ns.same (u := U) rfl qN⟩, va_recv (q0 := 0) (q := (R_P, F_P, 3)) hK hP (ci := 2) rfl rfl, fun U hU hW => ⟨rfl, by rw [hU], by rw [hU]; exact hPc, va_K.moved hW.alike hK, hDc.weaken (fun _ _ _ _ => trivial), Ns.warm hW hN⟩⟩ rfl rfl hl.1 rfl (lv_room (Nat.le_of_ble_eq_true rfl)) d_P_makePieces_41 ⟨(Nat.zero_le _), (Nat.zero_le _)⟩) hS (fun q _ h => hFc q h) hFc (fun u t H locs ht hvm hw hB hz1 hk1 hS => ?_)
          subst hw
          obtain ⟨hP1, hK1, hD1⟩ := hB
          rw [ht] at hP1
          obtain ⟨hP, hD⟩ := va_join (wr := []) (w1 := [(a_p, .inr (2, [.ref a_pb, .ref a_pf, .int z4.1])), (a_pb, .inl (cI, 16, .inl uBytes)), (a_pf, .inl (cI, 18, .inl z4.2))]) hP hD [0, 1, 2] [] rfl rfl (by decide) (by decide) hk1 hFc hP1 hD1
          have hP : va_P (dC, dI) classes [(a_p, .inr (2, [.ref a_pb, .ref a_pf, .int z4.1])), (a_pb, .inl (cI, 16, .inl uBytes)), (a_pf, .inl (cI, 18, .inl z4.2))] H := hP
          have hD : va_D A [(a_p, .inr (2, [.ref a_pb, .ref a_pf, .int z4.1])), (a_pb, .inl (cI, 16, .inl uBytes)), (a_pf, .inl (cI, 18, .inl z4.2))] := hD
          refine lv_aload_n hx hb d_P_makePieces_44 rfl (lv_at hl 2 rfl) ?_
          refine va_get (D := (dC, dI)) (ci := 2) (v := .ref a_pf) (C := R_P) (T := F_P) (N := 3) hx hb htT i_P hown hK hP 0 rfl rfl 1 (by decide) (htT _ kf_P_15) (fun _ h9 => h9) rfl d_P_makePieces_45 ?_
          refine lv_aload_n hx hb d_P_makePieces_48 rfl (lv_at hl 2 rfl) ?_
          refine lv_dup hx hb d_P_makePieces_49 rfl ?_
          refine va_get (D := (dC, dI)) (ci := 2) (v := .int z4.1) (C := R_P) (T := F_P) (N := 3) hx hb htT i_P hown hK hP 0 rfl rfl 2 (by decide) (htT _ kf_P_21) (fun _ h9 => h9) rfl d_P_makePieces_50 ?_
          refine lv_dup_x1 hx hb d_P_makePieces_53 rfl rfl ?_
          refine lv_iconst (v := (1 : Int32)) hx hb d_P_makePieces_54 (by decide) ?_
          refine lv_iadd hx hb d_P_makePieces_55 ?_
          refine va_put (D := (dC, dI)) (ci := 2) (v := .int (z4.1 + (1 : Int32))) (ty := .int) (C := R_P) (T := F_P) (N := 3) hx hb htT i_P t_P t_P_ok n_P hown hK hP hD hS 0 rfl rfl 2 (by decide) (htT _ kf_P_21) (fun _ h9 => h9) rfl (by decide +kernel) rfl rfl (Nat.le_of_ble_eq_true rfl) d_P_makePieces_56 (fun H locs hP hD hS => ?_)
          have hP : va_P (dC, dI) classes [(a_p, .inr (2, [.ref a_pb, .ref a_pf, .int (z4.1 + (1 : Int32))])), (a_pb, .inl (cI, 16, .inl uBytes)), (a_pf, .inl (cI, 18, .inl z4.2))] H := hP
          have hD : va_D A [(a_p, .inr (2, [.ref a_pb, .ref a_pf, .int (z4.1 + (1 : Int32))])), (a_pb, .inl (cI, 16, .inl uBytes)), (a_pf, .inl (cI, 18, .inl z4.2))] := hD
          refine lv_iload_n hx hb d_P_makePieces_59 rfl (lv_at hl 4 rfl) ?_
          refine lv_iload_n hx hb d_P_makePieces_60 rfl (lv_at hl 1 rfl) ?_
          refine lv_isub hx hb d_P_makePieces_61 ?_
          obtain ⟨hin, h⟩ := ck_in h
          refine va_iast hx hb hK hP hD hS 2 0 rfl rfl hin d_P_makePieces_62 (fun H locs hP hD hS => ?_)
          have hP : va_P (dC, dI) classes [(a_p, .inr (2, [.ref a_pb, .ref a_pf, .int (z4.1 + (1 : Int32))])), (a_pb, .inl (cI, 16, .inl uBytes)), (a_pf, .inl (cI, 18, .inl (upd z4.2 z4.1.toNatClampNeg (x2_w9 - z1))))] H := hP
          have hD : va_D A [(a_p, .inr (2, [.ref a_pb, .ref a_pf, .int (z4.1 + (1 : Int32))])), (a_pb, .inl (cI, 16, .inl uBytes)), (a_pf, .inl (cI, 18, .inl (upd z4.2 z4.1.toNatClampNeg (x2_w9 - z1))))] := hD
          refine lv_iload_n hx hb d_P_makePieces_63 rfl (lv_at hl 4 rfl) ?_
          refine lv_iload hx hb d_P_makePieces_64 (lv_at hl 0 rfl) ?_
          refine lv_iadd hx hb d_P_makePieces_66 ?_
          refine lv_istore_n hx hb d_P_makePieces_67 rfl hl (by decide) rfl (fun ls hl => ?_)
          have hl : lv_has ls 5 [(2, .int (x2_w9 + z3)), (4, .int z3), (3, .int z1), (0, .ref a_p), (1, .int x1_w9)] := hl
          refine lv_iload_n hx hb d_P_makePieces_68 rfl (lv_at hl 0 rfl) ?_
          refine lv_istore_n hx hb d_P_makePieces_69 rfl hl (by decide) rfl (fun ls hl => ?_)
          have hl : lv_has ls 5 [(1, .int (x2_w9 + z3)), (2, .int (x2_w9 + z3)), (4, .int z3), (3, .int z1), (0, .ref a_p)] := hl
          refine lv_goto (tgt := 93) hx hb d_P_makePieces_70 (by decide) ?_
          refine lv_goto (tgt := 9) hx hb d_P_makePieces_93 (by decide) ?_
          have hl : lv_has ls 5 [(0, .ref a_p), (1, .int (x2_w9 + z3)), (2, .int (x2_w9 + z3))] := lv_sub hl [4, 0, 1] rfl
          exact ih9 _ _ _ _ _ _ _ hl hP hD hS h hk9
  have hl : lv_has ls 5 [(0, .ref a_p), (1, .int (0 : Int32)), (2, .int (0 : Int32))] := lv_sub hl [2, 1, 0] rfl
  refine L9 _ _ _ _ _ _ _ _ _ hl hP hD hS h ?_
  intro uSize_k9 uForm_k9 x1_k9 x2_k9 ls H locs hl hP hD hS h
  refine lv_iload_n hx hb d_P_makePieces_96 rfl (lv_at hl 1 rfl) ?_
  refine lv_bipush (v := (16 : Int32)) hx hb d_P_makePieces_97 (by decide) ?_
  refine lv_icmp_ge (tgt := 110) hx hb d_P_makePieces_99 (by decide) (fun hc => ?_) (fun hc => ?_)
  · have h := ck_t hc h
    exact W.vret hx hb hr (fun t ht hW => ⟨⟨(uSize_k9, uForm_k9), rfl, (Option.some.inj h).symm, by rw [ht]; exact hP, va_K.moved hW.alike hK, hD⟩, hS.F ht⟩) hS.2.2 d_P_makePieces_110
  · have h := ck_f hc h
    refine lv_aload_n hx hb d_P_makePieces_102 rfl (lv_at hl 0 rfl) ?_
    refine lv_iload_n hx hb d_P_makePieces_103 rfl (lv_at hl 1 rfl) ?_
    refine lv_bipush (v := (16 : Int32)) hx hb d_P_makePieces_104 (by decide) ?_
    refine lv_iconst (v := (0 : Int32)) hx hb d_P_makePieces_106 (by decide) ?_
    obtain ⟨z5, hz, h⟩ := ck_bind h
    have hPc := hP.sub (ws' := [(a_p, .inr (2, [.ref a_pb, .ref a_pf, .int uSize_k9])), (a_pb, .inl (cI, 16, .inl uBytes)), (a_pf, .inl (cI, 18, .inl uForm_k9))]) [0, 1, 2] rfl
    have hDc := hD.sub (ws' := [(a_p, .inr (2, [.ref a_pb, .ref a_pf, .int uSize_k9])), (a_pb, .inl (cI, 16, .inl uBytes)), (a_pf, .inl (cI, 18, .inl uForm_k9))]) [0, 1, 2] (by decide) rfl
    have hFc := va_free (wc := [(a_p, .inr (2, [.ref a_pb, .ref a_pf, .int uSize_k9])), (a_pb, .inl (cI, 16, .inl uBytes)), (a_pf, .inl (cI, 18, .inl uForm_k9))]) hD hS hA [0, 1, 2] rfl
    refine va_callv (va_runV (As := [.int x1_k9, .int (16 : Int32), .int (0 : Int32)]) (rest := []) ⟨hx, hb, hml, hown, htT⟩ (c_P_endPiece l dC dI cI cZ cJ a_u a_d a_p a_pb a_pf a_r a_rs a_rb a_ru a_rz a_rh a_rl a_c a_cp a_st a_pl H.size n N uSize_k9 uBytes uForm_k9 x1_k9 (16 : Int32) (0 : Int32) z5 hz) (cwV 3 htT (gV kl_P_39 ki_P_endPiece ke_P_endPiece kn_P kc_P_endPiece) rfl rfl rfl (by decide +kernel) ⟨Nat.le_of_ble_eq_true rfl, Nat.le_of_ble_eq_true rfl⟩) ⟨fun a U g mk q => by obtain ⟨q0, q1, qP, qK, qD, qN⟩ := q; exact ⟨q0, q1, qP, va_K.moved (u := U) (U := U.calling g mk a) (Vm.Alike.refl U.vm) qK, qD, Ns.same (u := U) rfl qN⟩, va_recv (q0 := 0) (q := (R_P, F_P, 3)) hK hP (ci := 2) rfl rfl, fun U hU hW => ⟨rfl, by rw [hU], by rw [hU]; exact hPc, va_K.moved hW.alike hK, hDc.weaken (fun _ _ _ _ => trivial), Ns.warm hW hN⟩⟩ rfl rfl hl.1 rfl (lv_room (Nat.le_of_ble_eq_true rfl)) d_P_makePieces_107 ⟨(Nat.zero_le _), (Nat.zero_le _)⟩) hS (fun q _ h => hFc q h) hFc (fun u t H locs ht hvm hw hB hz1 hk1 hS => ?_)
    subst hw
    obtain ⟨hP1, hK1, hD1⟩ := hB
    rw [ht] at hP1
    obtain ⟨hP, hD⟩ := va_join (wr := []) (w1 := [(a_p, .inr (2, [.ref a_pb, .ref a_pf, .int z5.1])), (a_pb, .inl (cI, 16, .inl uBytes)), (a_pf, .inl (cI, 18, .inl z5.2))]) hP hD [0, 1, 2] [] rfl rfl (by decide) (by decide) hk1 hFc hP1 hD1
    have hP : va_P (dC, dI) classes [(a_p, .inr (2, [.ref a_pb, .ref a_pf, .int z5.1])), (a_pb, .inl (cI, 16, .inl uBytes)), (a_pf, .inl (cI, 18, .inl z5.2))] H := hP
    have hD : va_D A [(a_p, .inr (2, [.ref a_pb, .ref a_pf, .int z5.1])), (a_pb, .inl (cI, 16, .inl uBytes)), (a_pf, .inl (cI, 18, .inl z5.2))] := hD
    exact W.vret hx hb hr (fun t ht hW => ⟨⟨(z5.1, z5.2), rfl, (Option.some.inj h).symm, by rw [ht]; exact hP, va_K.moved hW.alike hK, hD⟩, hS.F ht⟩) hS.2.2 d_P_makePieces_110
set_option maxHeartbeats 4000000 in
set_option maxRecDepth 100000 in
theorem c_P_storeUnits (l : Launch) (dC : Nat → ClassId) (dI : Nat → Nat → Nat) (cI cZ cJ : ClassId) (a_u a_d a_p a_pb a_pf a_r a_rs a_rb a_ru a_rz a_rh a_rl a_c a_cp a_st a_pl : Nat) (sz n N : Nat) (uSize : Int32)  (res : Int32) (hM : P_storeUnits uSize = some res) : Met l y_P_storeUnits w_P_storeUnits ({ frames := 0, cells := 0, slots := 0, locals := 0 }) (va_Pc [.ref a_p] (fun U => U.heap.size = sz ∧ va_P (dC, dI) classes [(a_p, .inr (2, [.ref a_pb, .ref a_pf, .int uSize]))] U.heap ∧ va_K (dC, dI) classes [(cI, .int), (cZ, .boolean), (cJ, .long)] U ∧ va_D (fun _ => True) [(a_p, .inr (2, [.ref a_pb, .ref a_pf, .int uSize]))] ∧ Ns U)) (va_Qi (fun (r : Int32) (z : Unit) => res = r) (fun (z : Unit) (t : State) => va_P (dC, dI) classes [(a_p, .inr (2, [.ref a_pb, .ref a_pf, .int uSize]))] t.heap ∧ va_K (dC, dI) classes [(cI, .int), (cZ, .boolean), (cJ, .long)] t ∧ va_D (va_A [(a_p, .inr (2, [.ref a_pb, .ref a_pf, .int uSize]))] sz) [(a_p, .inr (2, [.ref a_pb, .ref a_pf, .int uSize]))]) (va_A [(a_p, .inr (2, [.ref a_pb, .ref a_pf, .int uSize]))] sz)) 0 0 (va_A [(a_p, .inr (2, [.ref a_pb, .ref a_pf, .int uSize]))] sz) := by
  refine Met.ofW (cc := b_P_storeUnits) (maxL := 1) (ret := (some .int)) (by decide) rfl ?_
  intro p e s m args below meth c s₁ B hml hv
  obtain ⟨rfl, hsz, hP, hK, hD0, hN⟩ := hv
  have hx := B.exec
  have hb := B.bytes
  have hr := B.returns
  have hts := atoms_spec (ws := w_P_storeUnits) B.pre
  have htT : ∀ w ∈ lwG, w.before _ s = true := fun w h => hts w (List.mem_cons_of_mem _ h)
  have hown : s.vm.findClass R_P = some m.cls := findClass_of_methodNamed B.named
  have hlocks := B.notSynchronized
  subst hsz
  have hD := hD0.self (sz := s.heap.size)
  generalize hAe : va_A [(a_p, .inr (2, [.ref a_pb, .ref a_pf, .int uSize]))] s.heap.size = A at hD ⊢
  have hA : ∀ q : Nat, s.heap.size ≤ q → A q := fun q h => by rw [← hAe]; exact Or.inr h
  have hS : va_S A s.heap s.heap [] := va_S.rf
  have hP : va_P (dC, dI) classes [(a_p, .inr (2, [.ref a_pb, .ref a_pf, .int uSize]))] s.heap := hP
  have hl := lv_entry ([.ref a_p]) (n := 1) (Nat.le_of_ble_eq_true rfl)
  rw [lg_entry_eq]
  generalize (lg_sl ([.ref a_p]) ++ List.replicate (1 - (lg_sl ([.ref a_p])).length) Slot.unset).toArray = ls at hl ⊢
  have hl : lv_has ls 1 [(0, .ref a_p)] := hl
  have h := hM
  rw [P_storeUnits] at h
  refine lv_iconst (v := (2 : Int32)) hx hb d_P_storeUnits_0 (by decide) ?_
  refine lv_aload_n hx hb d_P_storeUnits_1 rfl (lv_at hl 0 rfl) ?_
  refine va_get (D := (dC, dI)) (ci := 2) (v := .int uSize) (C := R_P) (T := F_P) (N := 3) hx hb htT i_P hown hK hP 0 rfl rfl 2 (by decide) (htT _ kf_P_21) (fun _ h9 => h9) rfl d_P_storeUnits_2 ?_
  refine lv_iconst (v := (3 : Int32)) hx hb d_P_storeUnits_5 (by decide) ?_
  refine lv_iadd hx hb d_P_storeUnits_6 ?_
  refine lv_iconst (v := (4 : Int32)) hx hb d_P_storeUnits_7 (by decide) ?_
  refine lv_idiv hx hb d_P_storeUnits_8 (by decide) ?_
  refine lv_iadd hx hb d_P_storeUnits_9 ?_
  exact W.iret (v := ((2 : Int32) + ((uSize + (3 : Int32)) / (4 : Int32)))) hx hb hr (fun t ht hW => ⟨⟨((2 : Int32) + ((uSize + (3 : Int32)) / (4 : Int32))), (), rfl, (Option.some.inj h).symm, by rw [ht]; exact hP, va_K.moved hW.alike hK, hD⟩, hS.F ht⟩) hS.2.2 d_P_storeUnits_10
set_option maxHeartbeats 4000000 in
set_option maxRecDepth 100000 in
theorem c_P_pack (l : Launch) (dC : Nat → ClassId) (dI : Nat → Nat → Nat) (cI cZ cJ : ClassId) (a_u a_d a_p a_pb a_pf a_r a_rs a_rb a_ru a_rz a_rh a_rl a_c a_cp a_st a_pl : Nat) (sz n N : Nat) (uSize : Int32) (uBytes : Nat → Int32) (uForm : Nat → Int32) (x1 : Int64) (x3 : Int64) (res : Int32 × (Nat → Int32) × (Nat → Int32)) (hM : P_pack uSize uBytes uForm x1 x3 = some res) : Met l y_P_pack w_P_pack ({ frames := 3, cells := 0, slots := 0, locals := 100 }) (va_Pc [.ref a_p, .long x1, .long x3] (fun U => U.heap.size = sz ∧ va_P (dC, dI) classes [(a_p, .inr (2, [.ref a_pb, .ref a_pf, .int uSize])), (a_pb, .inl (cI, 16, .inl uBytes)), (a_pf, .inl (cI, 18, .inl uForm))] U.heap ∧ va_K (dC, dI) classes [(cI, .int), (cZ, .boolean), (cJ, .long)] U ∧ va_D (fun _ => True) [(a_p, .inr (2, [.ref a_pb, .ref a_pf, .int uSize])), (a_pb, .inl (cI, 16, .inl uBytes)), (a_pf, .inl (cI, 18, .inl uForm))] ∧ Ns U)) (va_Qv (fun (z : Int32 × (Nat → Int32) × (Nat → Int32)) => res = z) (fun (z : Int32 × (Nat → Int32) × (Nat → Int32)) (t : State) => va_P (dC, dI) classes [(a_p, .inr (2, [.ref a_pb, .ref a_pf, .int z.1])), (a_pb, .inl (cI, 16, .inl z.2.1)), (a_pf, .inl (cI, 18, .inl z.2.2))] t.heap ∧ va_K (dC, dI) classes [(cI, .int), (cZ, .boolean), (cJ, .long)] t ∧ va_D (va_A [(a_p, .inr (2, [.ref a_pb, .ref a_pf, .int uSize])), (a_pb, .inl (cI, 16, .inl uBytes)), (a_pf, .inl (cI, 18, .inl uForm))] sz) [(a_p, .inr (2, [.ref a_pb, .ref a_pf, .int z.1])), (a_pb, .inl (cI, 16, .inl z.2.1)), (a_pf, .inl (cI, 18, .inl z.2.2))]) (va_A [(a_p, .inr (2, [.ref a_pb, .ref a_pf, .int uSize])), (a_pb, .inl (cI, 16, .inl uBytes)), (a_pf, .inl (cI, 18, .inl uForm))] sz)) 0 0 (va_A [(a_p, .inr (2, [.ref a_pb, .ref a_pf, .int uSize])), (a_pb, .inl (cI, 16, .inl uBytes)), (a_pf, .inl (cI, 18, .inl uForm))] sz) := by
  refine Met.ofW (cc := b_P_pack) (maxL := 6) (ret := none) (by decide) rfl ?_
  intro p e s m args below meth c s₁ B hml hv
  obtain ⟨rfl, hsz, hP, hK, hD0, hN⟩ := hv
  have hx := B.exec
  have hb := B.bytes
  have hr := B.returns
  have hts := atoms_spec (ws := w_P_pack) B.pre
  have htT : ∀ w ∈ lwG, w.before _ s = true := fun w h => hts w (List.mem_cons_of_mem _ h)
  have hown : s.vm.findClass R_P = some m.cls := findClass_of_methodNamed B.named
  have hlocks := B.notSynchronized
  subst hsz
  have hD := hD0.self (sz := s.heap.size)
  generalize hAe : va_A [(a_p, .inr (2, [.ref a_pb, .ref a_pf, .int uSize])), (a_pb, .inl (cI, 16, .inl uBytes)), (a_pf, .inl (cI, 18, .inl uForm))] s.heap.size = A at hD ⊢
  have hA : ∀ q : Nat, s.heap.size ≤ q → A q := fun q h => by rw [← hAe]; exact Or.inr h
  have hS : va_S A s.heap s.heap [] := va_S.rf
  have hP : va_P (dC, dI) classes [(a_p, .inr (2, [.ref a_pb, .ref a_pf, .int uSize])), (a_pb, .inl (cI, 16, .inl uBytes)), (a_pf, .inl (cI, 18, .inl uForm))] s.heap := hP
  have hl := lv_entry ([.ref a_p, .long x1, .long x3]) (n := 6) (Nat.le_of_ble_eq_true rfl)
  rw [lg_entry_eq]
  generalize (lg_sl ([.ref a_p, .long x1, .long x3]) ++ List.replicate (6 - (lg_sl ([.ref a_p, .long x1, .long x3])).length) Slot.unset).toArray = ls at hl ⊢
  have hl : lv_has ls 6 [(0, .ref a_p), (1, .long x1), (3, .long x3)] := hl
  have h := hM
  rw [P_pack] at h
  refine lv_iconst (v := (0 : Int32)) hx hb d_P_pack_0 (by decide) ?_
  refine lv_istore hx hb d_P_pack_1 hl (by decide) rfl (fun ls hl => ?_)
  have hl : lv_has ls 6 [(5, .int (0 : Int32)), (0, .ref a_p), (1, .long x1), (3, .long x3)] := hl
  have L3 : ∀ (K3 : (Nat → Int32) → Int32 → Option (Int32 × (Nat → Int32) × (Nat → Int32))) (fuel : Nat) (uBytes_w3 : Nat → Int32) (x5_w3 : Int32) (ls : Array Slot) (H : Heap) (locs : List Loc), lv_has ls 6 [(0, .ref a_p), (1, .long x1), (3, .long x3), (5, .int x5_w3)] → va_P (dC, dI) classes [(a_p, .inr (2, [.ref a_pb, .ref a_pf, .int uSize])), (a_pb, .inl (cI, 16, .inl uBytes_w3)), (a_pf, .inl (cI, 18, .inl uForm))] H → va_D A [(a_p, .inr (2, [.ref a_pb, .ref a_pf, .int uSize])), (a_pb, .inl (cI, 16, .inl uBytes_w3)), (a_pf, .inl (cI, 18, .inl uForm))] → va_S A s.heap H locs → P_pack_L3 x1 x3 K3 fuel uBytes_w3 x5_w3 = some res → (∀ (uBytes_w3 : Nat → Int32) (x5_w3 : Int32) (ls : Array Slot) (H : Heap) (locs : List Loc), lv_has ls 6 [(0, .ref a_p), (1, .long x1), (3, .long x3), (5, .int x5_w3)] → va_P (dC, dI) classes [(a_p, .inr (2, [.ref a_pb, .ref a_pf, .int uSize])), (a_pb, .inl (cI, 16, .inl uBytes_w3)), (a_pf, .inl (cI, 18, .inl uForm))] H → va_D A [(a_p, .inr (2, [.ref a_pb, .ref a_pf, .int uSize])), (a_pb, .inl (cI, 16, .inl uBytes_w3)), (a_pf, .inl (cI, 18, .inl uForm))] → va_S A s.heap H locs → K3 uBytes_w3 x5_w3 = some res → W p l e (headSpec w_P_pack ({ frames := 3, cells := 0, slots := 0, locals := 100 })).room s m ([.ref a_p, .long x1, .long x3] : List Value).toArray below meth c H locs 0 0 (MQ below (va_Qv (fun (z : Int32 × (Nat → Int32) × (Nat → Int32)) => res = z) (fun (z : Int32 × (Nat → Int32) × (Nat → Int32)) (t : State) => va_P (dC, dI) classes [(a_p, .inr (2, [.ref a_pb, .ref a_pf, .int z.1])), (a_pb, .inl (cI, 16, .inl z.2.1)), (a_pf, .inl (cI, 18, .inl z.2.2))] t.heap ∧ va_K (dC, dI) classes [(cI, .int), (cZ, .boolean), (cJ, .long)] t ∧ va_D A [(a_p, .inr (2, [.ref a_pb, .ref a_pf, .int z.1])), (a_pb, .inl (cI, 16, .inl z.2.1)), (a_pf, .inl (cI, 18, .inl z.2.2))]) A) ([.ref a_p, .long x1, .long x3] : List Value).toArray s 0 0 A) (F0 m 63 ls [])) → W p l e (headSpec w_P_pack ({ frames := 3, cells := 0, slots := 0, locals := 100 })).room s m ([.ref a_p, .long x1, .long x3] : List Value).toArray below meth c H locs 0 0 (MQ below (va_Qv (fun (z : Int32 × (Nat → Int32) × (Nat → Int32)) => res = z) (fun (z : Int32 × (Nat → Int32) × (Nat → Int32)) (t : State) => va_P (dC, dI) classes [(a_p, .inr (2, [.ref a_pb, .ref a_pf, .int z.1])), (a_pb, .inl (cI, 16, .inl z.2.1)), (a_pf, .inl (cI, 18, .inl z.2.2))] t.heap ∧ va_K (dC, dI) classes [(cI, .int), (cZ, .boolean), (cJ, .long)] t ∧ va_D A [(a_p, .inr (2, [.ref a_pb, .ref a_pf, .int z.1])), (a_pb, .inl (cI, 16, .inl z.2.1)), (a_pf, .inl (cI, 18, .inl z.2.2))]) A) ([.ref a_p, .long x1, .long x3] : List Value).toArray s 0 0 A) (F0 m 3 ls []) := by
    intro K3 fuel
    induction fuel with
    | zero => intro uBytes_w3 x5_w3 ls H locs hl hP hD hS h hk3; exact absurd (show (none : Option (Int32 × (Nat → Int32) × (Nat → Int32))) = some res from h) (by intro q; cases q)
    | succ fuel ih3 =>
      intro uBytes_w3 x5_w3 ls H locs hl hP hD hS h hk3
      rw [P_pack_L3] at h
      refine lv_iload hx hb d_P_pack_3 (lv_at hl 3 rfl) ?_
      refine lv_bipush (v := (8 : Int32)) hx hb d_P_pack_5 (by decide) ?_
      refine lv_icmp_ge (tgt := 63) hx hb d_P_pack_7 (by decide) (fun hc => ?_) (fun hc => ?_)
      · have h := ck_t hc h
        have hl : lv_has ls 6 [(0, .ref a_p), (1, .long x1), (3, .long x3), (5, .int x5_w3)] := lv_sub hl [0, 1, 2, 3] rfl
        exact hk3 _ _ _ _ _ hl hP hD hS h
      · have h := ck_f hc h
        refine lv_aload_n hx hb d_P_pack_10 rfl (lv_at hl 0 rfl) ?_
        refine va_get (D := (dC, dI)) (ci := 2) (v := .ref a_pb) (C := R_P) (T := F_P) (N := 3) hx hb htT i_P hown hK hP 0 rfl rfl 0 (by decide) (htT _ kf_P_11) (fun _ h9 => h9) rfl d_P_pack_11 ?_
        refine lv_iload hx hb d_P_pack_14 (lv_at hl 3 rfl) ?_
        refine lv_lload_n hx hb d_P_pack_16 rfl (lv_at hl 1 rfl) ?_
        refine lv_bipush (v := (56 : Int32)) hx hb d_P_pack_17 (by decide) ?_
        refine lv_bipush (v := (8 : Int32)) hx hb d_P_pack_19 (by decide) ?_
        refine lv_iload hx hb d_P_pack_21 (lv_at hl 3 rfl) ?_
        refine lv_imul hx hb d_P_pack_23 ?_
        refine lv_isub hx hb d_P_pack_24 ?_
        refine lv_lushr (v := ((x1.toUInt64 >>> (((56 : Int32) - ((8 : Int32) * x5_w3)).toInt64.toUInt64 &&& Int64.toUInt64 63)).toInt64)) hx hb d_P_pack_25 rfl ?_
        refine lv_l2i (v := (((x1.toUInt64 >>> (((56 : Int32) - ((8 : Int32) * x5_w3)).toInt64.toUInt64 &&& Int64.toUInt64 63)).toInt64).toInt32)) hx hb d_P_pack_26 rfl ?_
        refine lv_sipush (v := (255 : Int32)) hx hb d_P_pack_27 (by decide) ?_
        refine lv_iand hx hb d_P_pack_30 ?_
        obtain ⟨hin, h⟩ := ck_in h
        refine va_iast hx hb hK hP hD hS 1 0 rfl rfl hin d_P_pack_31 (fun H locs hP hD hS => ?_)
        have hP : va_P (dC, dI) classes [(a_p, .inr (2, [.ref a_pb, .ref a_pf, .int uSize])), (a_pb, .inl (cI, 16, .inl (upd uBytes_w3 x5_w3.toNatClampNeg ((((x1.toUInt64 >>> (((56 : Int32) - ((8 : Int32) * x5_w3)).toInt64.toUInt64 &&& Int64.toUInt64 63)).toInt64).toInt32) &&& (255 : Int32))))), (a_pf, .inl (cI, 18, .inl uForm))] H := hP
        have hD : va_D A [(a_p, .inr (2, [.ref a_pb, .ref a_pf, .int uSize])), (a_pb, .inl (cI, 16, .inl (upd uBytes_w3 x5_w3.toNatClampNeg ((((x1.toUInt64 >>> (((56 : Int32) - ((8 : Int32) * x5_w3)).toInt64.toUInt64 &&& Int64.toUInt64 63)).toInt64).toInt32) &&& (255 : Int32))))), (a_pf, .inl (cI, 18, .inl uForm))] := hD
        refine lv_aload_n hx hb d_P_pack_32 rfl (lv_at hl 0 rfl) ?_
        refine va_get (D := (dC, dI)) (ci := 2) (v := .ref a_pb) (C := R_P) (T := F_P) (N := 3) hx hb htT i_P hown hK hP 0 rfl rfl 0 (by decide) (htT _ kf_P_11) (fun _ h9 => h9) rfl d_P_pack_33 ?_
        refine lv_bipush (v := (8 : Int32)) hx hb d_P_pack_36 (by decide) ?_
        refine lv_iload hx hb d_P_pack_38 (lv_at hl 3 rfl) ?_
        refine lv_iadd hx hb d_P_pack_40 ?_
        refine lv_lload_n hx hb d_P_pack_41 rfl (lv_at hl 2 rfl) ?_
        refine lv_bipush (v := (56 : Int32)) hx hb d_P_pack_42 (by decide) ?_
        refine lv_bipush (v := (8 : Int32)) hx hb d_P_pack_44 (by decide) ?_
        refine lv_iload hx hb d_P_pack_46 (lv_at hl 3 rfl) ?_
        refine lv_imul hx hb d_P_pack_48 ?_
        refine lv_isub hx hb d_P_pack_49 ?_
        refine lv_lushr (v := ((x3.toUInt64 >>> (((56 : Int32) - ((8 : Int32) * x5_w3)).toInt64.toUInt64 &&& Int64.toUInt64 63)).toInt64)) hx hb d_P_pack_50 rfl ?_
        refine lv_l2i (v := (((x3.toUInt64 >>> (((56 : Int32) - ((8 : Int32) * x5_w3)).toInt64.toUInt64 &&& Int64.toUInt64 63)).toInt64).toInt32)) hx hb d_P_pack_51 rfl ?_
        refine lv_sipush (v := (255 : Int32)) hx hb d_P_pack_52 (by decide) ?_
        refine lv_iand hx hb d_P_pack_55 ?_
        obtain ⟨hin, h⟩ := ck_in h
        refine va_iast hx hb hK hP hD hS 1 0 rfl rfl hin d_P_pack_56 (fun H locs hP hD hS => ?_)
        have hP : va_P (dC, dI) classes [(a_p, .inr (2, [.ref a_pb, .ref a_pf, .int uSize])), (a_pb, .inl (cI, 16, .inl (upd (upd uBytes_w3 x5_w3.toNatClampNeg ((((x1.toUInt64 >>> (((56 : Int32) - ((8 : Int32) * x5_w3)).toInt64.toUInt64 &&& Int64.toUInt64 63)).toInt64).toInt32) &&& (255 : Int32))) ((8 : Int32) + x5_w3).toNatClampNeg ((((x3.toUInt64 >>> (((56 : Int32) - ((8 : Int32) * x5_w3)).toInt64.toUInt64 &&& Int64.toUInt64 63)).toInt64).toInt32) &&& (255 : Int32))))), (a_pf, .inl (cI, 18, .inl uForm))] H := hP
        have hD : va_D A [(a_p, .inr (2, [.ref a_pb, .ref a_pf, .int uSize])), (a_pb, .inl (cI, 16, .inl (upd (upd uBytes_w3 x5_w3.toNatClampNeg ((((x1.toUInt64 >>> (((56 : Int32) - ((8 : Int32) * x5_w3)).toInt64.toUInt64 &&& Int64.toUInt64 63)).toInt64).toInt32) &&& (255 : Int32))) ((8 : Int32) + x5_w3).toNatClampNeg ((((x3.toUInt64 >>> (((56 : Int32) - ((8 : Int32) * x5_w3)).toInt64.toUInt64 &&& Int64.toUInt64 63)).toInt64).toInt32) &&& (255 : Int32))))), (a_pf, .inl (cI, 18, .inl uForm))] := hD
        refine lv_iinc (k := 3) (v := (x5_w3 + (1 : Int32))) hx hb d_P_pack_57 hl rfl (congrArg (fun y => x5_w3 + y) (by decide)) (by decide) rfl (fun ls hl => ?_)
        have hl : lv_has ls 6 [(5, .int (x5_w3 + (1 : Int32))), (0, .ref a_p), (1, .long x1), (3, .long x3)] := hl
        refine lv_goto (tgt := 3) hx hb d_P_pack_60 (by decide) ?_
        have hl : lv_has ls 6 [(0, .ref a_p), (1, .long x1), (3, .long x3), (5, .int (x5_w3 + (1 : Int32)))] := lv_sub hl [1, 2, 3, 0] rfl
        exact ih3 _ _ _ _ _ hl hP hD hS h hk3
  have hl : lv_has ls 6 [(0, .ref a_p), (1, .long x1), (3, .long x3), (5, .int (0 : Int32))] := lv_sub hl [1, 2, 3, 0] rfl
  refine L3 _ _ _ _ _ _ _ hl hP hD hS h ?_
  intro uBytes_k3 x5_k3 ls H locs hl hP hD hS h
  refine lv_aload_n hx hb d_P_pack_63 rfl (lv_at hl 0 rfl) ?_
  obtain ⟨z1, hz, h⟩ := ck_bind h
  have hPc := hP.sub (ws' := [(a_p, .inr (2, [.ref a_pb, .ref a_pf, .int uSize])), (a_pb, .inl (cI, 16, .inl uBytes_k3)), (a_pf, .inl (cI, 18, .inl uForm))]) [0, 1, 2] rfl
  have hDc := hD.sub (ws' := [(a_p, .inr (2, [.ref a_pb, .ref a_pf, .int uSize])), (a_pb, .inl (cI, 16, .inl uBytes_k3)), (a_pf, .inl (cI, 18, .inl uForm))]) [0, 1, 2] (by decide) rfl
  have hFc := va_free (wc := [(a_p, .inr (2, [.ref a_pb, .ref a_pf, .int uSize])), (a_pb, .inl (cI, 16, .inl uBytes_k3)), (a_pf, .inl (cI, 18, .inl uForm))]) hD hS hA [0, 1, 2] rfl
  refine va_callv (va_runV (As := []) (rest := []) ⟨hx, hb, hml, hown, htT⟩ (c_P_makePieces l dC dI cI cZ cJ a_u a_d a_p a_pb a_pf a_r a_rs a_rb a_ru a_rz a_rh a_rl a_c a_cp a_st a_pl H.size n N uSize uBytes_k3 uForm  z1 hz) (cwV 0 htT (gV kl_P_18 ki_P_makePieces ke_P_makePieces kn_P kc_P_makePieces) rfl rfl rfl (by decide +kernel) ⟨Nat.le_of_ble_eq_true rfl, Nat.le_of_ble_eq_true rfl⟩) ⟨fun a U g mk q => by obtain ⟨q0, q1, qP, qK, qD, qN⟩ := q; exact ⟨q0, q1, qP, va_K.moved (u := U) (U := U.calling g mk a) (Vm.Alike.refl U.vm) qK, qD, Ns.same (u := U) rfl qN⟩, va_recv (q0 := 0) (q := (R_P, F_P, 3)) hK hP (ci := 2) rfl rfl, fun U hU hW => ⟨rfl, by rw [hU], by rw [hU]; exact hPc, va_K.moved hW.alike hK, hDc.weaken (fun _ _ _ _ => trivial), Ns.warm hW hN⟩⟩ rfl rfl hl.1 rfl (lv_room (Nat.le_of_ble_eq_true rfl)) d_P_pack_64 ⟨(Nat.zero_le _), (Nat.zero_le _)⟩) hS (fun q _ h => hFc q h) hFc (fun u t H locs ht hvm hw hB hz1 hk1 hS => ?_)
  subst hw
  obtain ⟨hP1, hK1, hD1⟩ := hB
  rw [ht] at hP1
  obtain ⟨hP, hD⟩ := va_join (wr := []) (w1 := [(a_p, .inr (2, [.ref a_pb, .ref a_pf, .int z1.1])), (a_pb, .inl (cI, 16, .inl uBytes_k3)), (a_pf, .inl (cI, 18, .inl z1.2))]) hP hD [0, 1, 2] [] rfl rfl (by decide) (by decide) hk1 hFc hP1 hD1
  have hP : va_P (dC, dI) classes [(a_p, .inr (2, [.ref a_pb, .ref a_pf, .int z1.1])), (a_pb, .inl (cI, 16, .inl uBytes_k3)), (a_pf, .inl (cI, 18, .inl z1.2))] H := hP
  have hD : va_D A [(a_p, .inr (2, [.ref a_pb, .ref a_pf, .int z1.1])), (a_pb, .inl (cI, 16, .inl uBytes_k3)), (a_pf, .inl (cI, 18, .inl z1.2))] := hD
  refine lv_aload_n hx hb d_P_pack_67 rfl (lv_at hl 0 rfl) ?_
  refine va_get (D := (dC, dI)) (ci := 2) (v := .int z1.1) (C := R_P) (T := F_P) (N := 3) hx hb htT i_P hown hK hP 0 rfl rfl 2 (by decide) (htT _ kf_P_21) (fun _ h9 => h9) rfl d_P_pack_68 ?_
  refine lv_bipush (v := (16 : Int32)) hx hb d_P_pack_71 (by decide) ?_
  refine lv_icmp_lt (tgt := 97) hx hb d_P_pack_73 (by decide) (fun hc => ?_) (fun hc => ?_)
  · have h := ck_t hc h
    exact W.vret hx hb hr (fun t ht hW => ⟨⟨(z1.1, uBytes_k3, z1.2), rfl, (Option.some.inj h).symm, by rw [ht]; exact hP, va_K.moved hW.alike hK, hD⟩, hS.F ht⟩) hS.2.2 d_P_pack_97
  · have h := ck_f hc h
    refine lv_aload_n hx hb d_P_pack_76 rfl (lv_at hl 0 rfl) ?_
    refine va_get (D := (dC, dI)) (ci := 2) (v := .ref a_pb) (C := R_P) (T := F_P) (N := 3) hx hb htT i_P hown hK hP 0 rfl rfl 0 (by decide) (htT _ kf_P_11) (fun _ h9 => h9) rfl d_P_pack_77 ?_
    refine lv_iconst (v := (0 : Int32)) hx hb d_P_pack_80 (by decide) ?_
    refine lv_aload_n hx hb d_P_pack_81 rfl (lv_at hl 0 rfl) ?_
    refine va_get (D := (dC, dI)) (ci := 2) (v := .ref a_pf) (C := R_P) (T := F_P) (N := 3) hx hb htT i_P hown hK hP 0 rfl rfl 1 (by decide) (htT _ kf_P_15) (fun _ h9 => h9) rfl d_P_pack_82 ?_
    refine lv_iconst (v := (0 : Int32)) hx hb d_P_pack_85 (by decide) ?_
    refine lv_bipush (v := (16 : Int32)) hx hb d_P_pack_86 (by decide) ?_
    refine va_copyi hx hb (hml.trans hl.1.symm) hown (htT _ kl_P_25) (htT _ ka_JS_arraycopy) (htT _ ks_JS_arraycopy) (htT (.initialized "java/lang/System") kn_JS) hK hP hD hS 1 2 0 0 rfl rfl rfl rfl rfl (by decide) (by decide) (by decide) (by decide) (by decide) (fun _ _ => rfl) (Nat.le_of_ble_eq_true rfl) (Nat.le_of_ble_eq_true rfl) d_P_pack_88 (fun H locs hP hD hS => ?_)
    have hP : va_P (dC, dI) classes [(a_p, .inr (2, [.ref a_pb, .ref a_pf, .int z1.1])), (a_pb, .inl (cI, 16, .inl uBytes_k3)), (a_pf, .inl (cI, 18, .inl (va_cpy uBytes_k3 z1.2 (0 : Int32).toNatClampNeg (0 : Int32).toNatClampNeg (16 : Int32).toNatClampNeg)))] H := hP
    have hD : va_D A [(a_p, .inr (2, [.ref a_pb, .ref a_pf, .int z1.1])), (a_pb, .inl (cI, 16, .inl uBytes_k3)), (a_pf, .inl (cI, 18, .inl (va_cpy uBytes_k3 z1.2 (0 : Int32).toNatClampNeg (0 : Int32).toNatClampNeg (16 : Int32).toNatClampNeg)))] := hD
    refine lv_aload_n hx hb d_P_pack_91 rfl (lv_at hl 0 rfl) ?_
    refine lv_bipush (v := (16 : Int32)) hx hb d_P_pack_92 (by decide) ?_
    refine va_put (D := (dC, dI)) (ci := 2) (v := .int (16 : Int32)) (ty := .int) (C := R_P) (T := F_P) (N := 3) hx hb htT i_P t_P t_P_ok n_P hown hK hP hD hS 0 rfl rfl 2 (by decide) (htT _ kf_P_21) (fun _ h9 => h9) rfl (by decide +kernel) rfl rfl (Nat.le_of_ble_eq_true rfl) d_P_pack_94 (fun H locs hP hD hS => ?_)
    have hP : va_P (dC, dI) classes [(a_p, .inr (2, [.ref a_pb, .ref a_pf, .int (16 : Int32)])), (a_pb, .inl (cI, 16, .inl uBytes_k3)), (a_pf, .inl (cI, 18, .inl (va_cpy uBytes_k3 z1.2 (0 : Int32).toNatClampNeg (0 : Int32).toNatClampNeg (16 : Int32).toNatClampNeg)))] H := hP
    have hD : va_D A [(a_p, .inr (2, [.ref a_pb, .ref a_pf, .int (16 : Int32)])), (a_pb, .inl (cI, 16, .inl uBytes_k3)), (a_pf, .inl (cI, 18, .inl (va_cpy uBytes_k3 z1.2 (0 : Int32).toNatClampNeg (0 : Int32).toNatClampNeg (16 : Int32).toNatClampNeg)))] := hD
    exact W.vret hx hb hr (fun t ht hW => ⟨⟨((16 : Int32), uBytes_k3, (va_cpy uBytes_k3 z1.2 (0 : Int32).toNatClampNeg (0 : Int32).toNatClampNeg (16 : Int32).toNatClampNeg)), rfl, (Option.some.inj h).symm, by rw [ht]; exact hP, va_K.moved hW.alike hK, hD⟩, hS.F ht⟩) hS.2.2 d_P_pack_97
set_option maxHeartbeats 4000000 in
set_option maxRecDepth 100000 in
theorem c_U_write (l : Launch) (dC : Nat → ClassId) (dI : Nat → Nat → Nat) (cI cZ cJ : ClassId) (a_u a_d a_p a_pb a_pf a_r a_rs a_rb a_ru a_rz a_rh a_rl a_c a_cp a_st a_pl : Nat) (sz n N : Nat) (uOpen : Int32) (uFill : Int32) (uSaved : Int32) (uSerial : Int32) (uDown : Int32) (uArmed : Int32) (uWritten : Int32) (uSize : Int32) (uBytes : Nat → Int32) (uForm : Nat → Int32) (uSers : Nat → Int32) (uBlks : Nat → Int32) (uUnts : Nat → Int32) (uStos : Nat → Int32) (uHis : Nat → Int64) (uLos : Nat → Int64) (uSts : Nat → Int32) (uPlcs : Nat → Int32) (x1 : Int32) (x2 : Int64) (x4 : Int64) (res : Int32 × Int32 × Int32 × Int32 × Int32 × Int32 × Int32 × Int32 × Int32 × (Nat → Int32) × (Nat → Int32) × (Nat → Int32) × (Nat → Int32) × (Nat → Int32) × (Nat → Int32) × (Nat → Int64) × (Nat → Int64) × (Nat → Int32) × (Nat → Int32)) (hM : U_write n N uOpen uFill uSaved uSerial uDown uArmed uWritten uSize uBytes uForm uSers uBlks uUnts uStos uHis uLos uSts uPlcs x1 x2 x4 = some res) : Met l y_U_write w_U_write ({ frames := 4, cells := 0, slots := 0, locals := 125 }) (va_Pc [.ref a_u, .int x1, .long x2, .long x4] (fun U => U.heap.size = sz ∧ va_P (dC, dI) classes [(a_u, .inr (0, [.ref a_d, .ref a_p, .ref a_r, .ref a_c, .ref a_st, .ref a_pl, .int uOpen, .int uFill, .int uSaved, .int uSerial, .int uDown])), (a_d, .inr (1, [.int uArmed, .int uWritten])), (a_p, .inr (2, [.ref a_pb, .ref a_pf, .int uSize])), (a_pb, .inl (cI, 16, .inl uBytes)), (a_pf, .inl (cI, 18, .inl uForm)), (a_r, .inr (3, [.ref a_rs, .ref a_rb, .ref a_ru, .ref a_rz, .ref a_rh, .ref a_rl])), (a_rs, .inl (cI, N, .inl uSers)), (a_rb, .inl (cI, N, .inl uBlks)), (a_ru, .inl (cI, N, .inl uUnts)), (a_rz, .inl (cZ, N, .inl uStos)), (a_rh, .inl (cJ, N, .inr (.inl uHis))), (a_rl, .inl (cJ, N, .inr (.inl uLos))), (a_st, .inl (cI, n, .inl uSts)), (a_pl, .inl (cI, 16, .inl uPlcs))] U.heap ∧ va_K (dC, dI) classes [(cI, .int), (cZ, .boolean), (cJ, .long)] U ∧ va_D (fun _ => True) [(a_u, .inr (0, [.ref a_d, .ref a_p, .ref a_r, .ref a_c, .ref a_st, .ref a_pl, .int uOpen, .int uFill, .int uSaved, .int uSerial, .int uDown])), (a_d, .inr (1, [.int uArmed, .int uWritten])), (a_p, .inr (2, [.ref a_pb, .ref a_pf, .int uSize])), (a_pb, .inl (cI, 16, .inl uBytes)), (a_pf, .inl (cI, 18, .inl uForm)), (a_r, .inr (3, [.ref a_rs, .ref a_rb, .ref a_ru, .ref a_rz, .ref a_rh, .ref a_rl])), (a_rs, .inl (cI, N, .inl uSers)), (a_rb, .inl (cI, N, .inl uBlks)), (a_ru, .inl (cI, N, .inl uUnts)), (a_rz, .inl (cZ, N, .inl uStos)), (a_rh, .inl (cJ, N, .inr (.inl uHis))), (a_rl, .inl (cJ, N, .inr (.inl uLos))), (a_st, .inl (cI, n, .inl uSts)), (a_pl, .inl (cI, 16, .inl uPlcs))] ∧ Ns U)) (va_Qi (fun (r : Int32) (z : Int32 × Int32 × Int32 × Int32 × Int32 × Int32 × Int32 × Int32 × (Nat → Int32) × (Nat → Int32) × (Nat → Int32) × (Nat → Int32) × (Nat → Int32) × (Nat → Int32) × (Nat → Int64) × (Nat → Int64) × (Nat → Int32) × (Nat → Int32)) => res = (r, z)) (fun (z : Int32 × Int32 × Int32 × Int32 × Int32 × Int32 × Int32 × Int32 × (Nat → Int32) × (Nat → Int32) × (Nat → Int32) × (Nat → Int32) × (Nat → Int32) × (Nat → Int32) × (Nat → Int64) × (Nat → Int64) × (Nat → Int32) × (Nat → Int32)) (t : State) => va_P (dC, dI) classes [(a_u, .inr (0, [.ref a_d, .ref a_p, .ref a_r, .ref a_c, .ref a_st, .ref a_pl, .int z.1, .int z.2.1, .int z.2.2.1, .int z.2.2.2.1, .int z.2.2.2.2.1])), (a_d, .inr (1, [.int z.2.2.2.2.2.1, .int z.2.2.2.2.2.2.1])), (a_p, .inr (2, [.ref a_pb, .ref a_pf, .int z.2.2.2.2.2.2.2.1])), (a_pb, .inl (cI, 16, .inl z.2.2.2.2.2.2.2.2.1)), (a_pf, .inl (cI, 18, .inl z.2.2.2.2.2.2.2.2.2.1)), (a_r, .inr (3, [.ref a_rs, .ref a_rb, .ref a_ru, .ref a_rz, .ref a_rh, .ref a_rl])), (a_rs, .inl (cI, N, .inl z.2.2.2.2.2.2.2.2.2.2.1)), (a_rb, .inl (cI, N, .inl z.2.2.2.2.2.2.2.2.2.2.2.1)), (a_ru, .inl (cI, N, .inl z.2.2.2.2.2.2.2.2.2.2.2.2.1)), (a_rz, .inl (cZ, N, .inl z.2.2.2.2.2.2.2.2.2.2.2.2.2.1)), (a_rh, .inl (cJ, N, .inr (.inl z.2.2.2.2.2.2.2.2.2.2.2.2.2.2.1))), (a_rl, .inl (cJ, N, .inr (.inl z.2.2.2.2.2.2.2.2.2.2.2.2.2.2.2.1))), (a_st, .inl (cI, n, .inl z.2.2.2.2.2.2.2.2.2.2.2.2.2.2.2.2.1)), (a_pl, .inl (cI, 16, .inl z.2.2.2.2.2.2.2.2.2.2.2.2.2.2.2.2.2))] t.heap ∧ va_K (dC, dI) classes [(cI, .int), (cZ, .boolean), (cJ, .long)] t ∧ va_D (va_A [(a_u, .inr (0, [.ref a_d, .ref a_p, .ref a_r, .ref a_c, .ref a_st, .ref a_pl, .int uOpen, .int uFill, .int uSaved, .int uSerial, .int uDown])), (a_d, .inr (1, [.int uArmed, .int uWritten])), (a_p, .inr (2, [.ref a_pb, .ref a_pf, .int uSize])), (a_pb, .inl (cI, 16, .inl uBytes)), (a_pf, .inl (cI, 18, .inl uForm)), (a_r, .inr (3, [.ref a_rs, .ref a_rb, .ref a_ru, .ref a_rz, .ref a_rh, .ref a_rl])), (a_rs, .inl (cI, N, .inl uSers)), (a_rb, .inl (cI, N, .inl uBlks)), (a_ru, .inl (cI, N, .inl uUnts)), (a_rz, .inl (cZ, N, .inl uStos)), (a_rh, .inl (cJ, N, .inr (.inl uHis))), (a_rl, .inl (cJ, N, .inr (.inl uLos))), (a_st, .inl (cI, n, .inl uSts)), (a_pl, .inl (cI, 16, .inl uPlcs))] sz) [(a_u, .inr (0, [.ref a_d, .ref a_p, .ref a_r, .ref a_c, .ref a_st, .ref a_pl, .int z.1, .int z.2.1, .int z.2.2.1, .int z.2.2.2.1, .int z.2.2.2.2.1])), (a_d, .inr (1, [.int z.2.2.2.2.2.1, .int z.2.2.2.2.2.2.1])), (a_p, .inr (2, [.ref a_pb, .ref a_pf, .int z.2.2.2.2.2.2.2.1])), (a_pb, .inl (cI, 16, .inl z.2.2.2.2.2.2.2.2.1)), (a_pf, .inl (cI, 18, .inl z.2.2.2.2.2.2.2.2.2.1)), (a_r, .inr (3, [.ref a_rs, .ref a_rb, .ref a_ru, .ref a_rz, .ref a_rh, .ref a_rl])), (a_rs, .inl (cI, N, .inl z.2.2.2.2.2.2.2.2.2.2.1)), (a_rb, .inl (cI, N, .inl z.2.2.2.2.2.2.2.2.2.2.2.1)), (a_ru, .inl (cI, N, .inl z.2.2.2.2.2.2.2.2.2.2.2.2.1)), (a_rz, .inl (cZ, N, .inl z.2.2.2.2.2.2.2.2.2.2.2.2.2.1)), (a_rh, .inl (cJ, N, .inr (.inl z.2.2.2.2.2.2.2.2.2.2.2.2.2.2.1))), (a_rl, .inl (cJ, N, .inr (.inl z.2.2.2.2.2.2.2.2.2.2.2.2.2.2.2.1))), (a_st, .inl (cI, n, .inl z.2.2.2.2.2.2.2.2.2.2.2.2.2.2.2.2.1)), (a_pl, .inl (cI, 16, .inl z.2.2.2.2.2.2.2.2.2.2.2.2.2.2.2.2.2))]) (va_A [(a_u, .inr (0, [.ref a_d, .ref a_p, .ref a_r, .ref a_c, .ref a_st, .ref a_pl, .int uOpen, .int uFill, .int uSaved, .int uSerial, .int uDown])), (a_d, .inr (1, [.int uArmed, .int uWritten])), (a_p, .inr (2, [.ref a_pb, .ref a_pf, .int uSize])), (a_pb, .inl (cI, 16, .inl uBytes)), (a_pf, .inl (cI, 18, .inl uForm)), (a_r, .inr (3, [.ref a_rs, .ref a_rb, .ref a_ru, .ref a_rz, .ref a_rh, .ref a_rl])), (a_rs, .inl (cI, N, .inl uSers)), (a_rb, .inl (cI, N, .inl uBlks)), (a_ru, .inl (cI, N, .inl uUnts)), (a_rz, .inl (cZ, N, .inl uStos)), (a_rh, .inl (cJ, N, .inr (.inl uHis))), (a_rl, .inl (cJ, N, .inr (.inl uLos))), (a_st, .inl (cI, n, .inl uSts)), (a_pl, .inl (cI, 16, .inl uPlcs))] sz)) 0 0 (va_A [(a_u, .inr (0, [.ref a_d, .ref a_p, .ref a_r, .ref a_c, .ref a_st, .ref a_pl, .int uOpen, .int uFill, .int uSaved, .int uSerial, .int uDown])), (a_d, .inr (1, [.int uArmed, .int uWritten])), (a_p, .inr (2, [.ref a_pb, .ref a_pf, .int uSize])), (a_pb, .inl (cI, 16, .inl uBytes)), (a_pf, .inl (cI, 18, .inl uForm)), (a_r, .inr (3, [.ref a_rs, .ref a_rb, .ref a_ru, .ref a_rz, .ref a_rh, .ref a_rl])), (a_rs, .inl (cI, N, .inl uSers)), (a_rb, .inl (cI, N, .inl uBlks)), (a_ru, .inl (cI, N, .inl uUnts)), (a_rz, .inl (cZ, N, .inl uStos)), (a_rh, .inl (cJ, N, .inr (.inl uHis))), (a_rl, .inl (cJ, N, .inr (.inl uLos))), (a_st, .inl (cI, n, .inl uSts)), (a_pl, .inl (cI, 16, .inl uPlcs))] sz) := by
  refine Met.ofW (cc := b_U_write) (maxL := 7) (ret := (some .int)) (by decide) rfl ?_
  intro p e s m args below meth c s₁ B hml hv
  obtain ⟨rfl, hsz, hP, hK, hD0, hN⟩ := hv
  have hx := B.exec
  have hb := B.bytes
  have hr := B.returns
  have hts := atoms_spec (ws := w_U_write) B.pre
  have htT : ∀ w ∈ lwG, w.before _ s = true := fun w h => hts w (List.mem_cons_of_mem _ h)
  have hown : s.vm.findClass R_U = some m.cls := findClass_of_methodNamed B.named
  have hlocks := B.notSynchronized
  subst hsz
  have hD := hD0.self (sz := s.heap.size)
  generalize hAe : va_A [(a_u, .inr (0, [.ref a_d, .ref a_p, .ref a_r, .ref a_c, .ref a_st, .ref a_pl, .int uOpen, .int uFill, .int uSaved, .int uSerial, .int uDown])), (a_d, .inr (1, [.int uArmed, .int uWritten])), (a_p, .inr (2, [.ref a_pb, .ref a_pf, .int uSize])), (a_pb, .inl (cI, 16, .inl uBytes)), (a_pf, .inl (cI, 18, .inl uForm)), (a_r, .inr (3, [.ref a_rs, .ref a_rb, .ref a_ru, .ref a_rz, .ref a_rh, .ref a_rl])), (a_rs, .inl (cI, N, .inl uSers)), (a_rb, .inl (cI, N, .inl uBlks)), (a_ru, .inl (cI, N, .inl uUnts)), (a_rz, .inl (cZ, N, .inl uStos)), (a_rh, .inl (cJ, N, .inr (.inl uHis))), (a_rl, .inl (cJ, N, .inr (.inl uLos))), (a_st, .inl (cI, n, .inl uSts)), (a_pl, .inl (cI, 16, .inl uPlcs))] s.heap.size = A at hD ⊢
  have hA : ∀ q : Nat, s.heap.size ≤ q → A q := fun q h => by rw [← hAe]; exact Or.inr h
  have hS : va_S A s.heap s.heap [] := va_S.rf
  have hP : va_P (dC, dI) classes [(a_u, .inr (0, [.ref a_d, .ref a_p, .ref a_r, .ref a_c, .ref a_st, .ref a_pl, .int uOpen, .int uFill, .int uSaved, .int uSerial, .int uDown])), (a_d, .inr (1, [.int uArmed, .int uWritten])), (a_p, .inr (2, [.ref a_pb, .ref a_pf, .int uSize])), (a_pb, .inl (cI, 16, .inl uBytes)), (a_pf, .inl (cI, 18, .inl uForm)), (a_r, .inr (3, [.ref a_rs, .ref a_rb, .ref a_ru, .ref a_rz, .ref a_rh, .ref a_rl])), (a_rs, .inl (cI, N, .inl uSers)), (a_rb, .inl (cI, N, .inl uBlks)), (a_ru, .inl (cI, N, .inl uUnts)), (a_rz, .inl (cZ, N, .inl uStos)), (a_rh, .inl (cJ, N, .inr (.inl uHis))), (a_rl, .inl (cJ, N, .inr (.inl uLos))), (a_st, .inl (cI, n, .inl uSts)), (a_pl, .inl (cI, 16, .inl uPlcs))] s.heap := hP
  have hl := lv_entry ([.ref a_u, .int x1, .long x2, .long x4]) (n := 7) (Nat.le_of_ble_eq_true rfl)
  rw [lg_entry_eq]
  generalize (lg_sl ([.ref a_u, .int x1, .long x2, .long x4]) ++ List.replicate (7 - (lg_sl ([.ref a_u, .int x1, .long x2, .long x4])).length) Slot.unset).toArray = ls at hl ⊢
  have hl : lv_has ls 7 [(0, .ref a_u), (1, .int x1), (2, .long x2), (4, .long x4)] := hl
  have h := hM
  rw [U_write] at h
  refine lv_aload_n hx hb d_U_write_0 rfl (lv_at hl 0 rfl) ?_
  refine va_get (D := (dC, dI)) (ci := 0) (v := .int uDown) (C := R_U) (T := F_U) (N := 11) hx hb htT i_U hown hK hP 0 rfl rfl 10 (by decide) (htT _ kf_U_61) (fun _ h9 => h9) rfl d_U_write_1 ?_
  refine lv_if_eq (tgt := 10) hx hb d_U_write_4 (by decide) (fun hc => ?_) (fun hc => ?_)
  · have h := ck_t hc h
    refine lv_iload_n hx hb d_U_write_10 rfl (lv_at hl 1 rfl) ?_
    obtain ⟨z1, hz, h⟩ := ck_bind h
    have hPc := hP.sub (ws' := []) [] rfl
    have hDc := hD.sub (ws' := []) [] (by decide) rfl
    have hFc := va_free (wc := []) hD hS hA [] rfl
    refine va_calli (va_runS (As := [.int x1]) (rest := []) ⟨hx, hb, hml, hown, htT⟩ (c_U_isBlock l dC dI cI cZ cJ  s.heap.size n N  x1 z1 hz) (cwS 1 htT (gS kl_U_65 ks_U_isBlock kn_U kc_U_isBlock) rfl rfl rfl (by decide +kernel) ⟨Nat.le_of_ble_eq_true rfl, Nat.le_of_ble_eq_true rfl⟩) ⟨fun a U g mk q => by obtain ⟨q0, q1, qP, qK, qD, qN⟩ := q; exact ⟨q0, q1, qP, va_K.moved (u := U) (U := U.calling g mk a) (Vm.Alike.refl U.vm) qK, qD, Ns.same (u := U) rfl qN⟩, fun U hU hW => ⟨rfl, by rw [hU], by rw [hU]; exact hPc, va_K.moved hW.alike hK, hDc.weaken (fun _ _ _ _ => trivial), Ns.warm hW hN⟩⟩ rfl rfl hl.1 rfl (lv_room (Nat.le_of_ble_eq_true rfl)) d_U_write_11 ⟨(Nat.zero_le _), (Nat.zero_le _)⟩) hS (fun q _ h => hFc q h) hFc (fun r u t H locs ht hvm hw hB hz1 hk1 hS => ?_)
    subst hw
    obtain ⟨hP1, hK1, hD1⟩ := hB
    rw [ht] at hP1
    obtain ⟨hP, hD⟩ := va_join (wr := [(a_u, .inr (0, [.ref a_d, .ref a_p, .ref a_r, .ref a_c, .ref a_st, .ref a_pl, .int uOpen, .int uFill, .int uSaved, .int uSerial, .int uDown])), (a_d, .inr (1, [.int uArmed, .int uWritten])), (a_p, .inr (2, [.ref a_pb, .ref a_pf, .int uSize])), (a_pb, .inl (cI, 16, .inl uBytes)), (a_pf, .inl (cI, 18, .inl uForm)), (a_r, .inr (3, [.ref a_rs, .ref a_rb, .ref a_ru, .ref a_rz, .ref a_rh, .ref a_rl])), (a_rs, .inl (cI, N, .inl uSers)), (a_rb, .inl (cI, N, .inl uBlks)), (a_ru, .inl (cI, N, .inl uUnts)), (a_rz, .inl (cZ, N, .inl uStos)), (a_rh, .inl (cJ, N, .inr (.inl uHis))), (a_rl, .inl (cJ, N, .inr (.inl uLos))), (a_st, .inl (cI, n, .inl uSts)), (a_pl, .inl (cI, 16, .inl uPlcs))]) (w1 := []) hP hD [] [0, 1, 2, 3, 4, 5, 6, 7, 8, 9, 10, 11, 12, 13] rfl rfl (by decide) (by decide) hk1 hFc hP1 hD1
    have hP : va_P (dC, dI) classes [(a_u, .inr (0, [.ref a_d, .ref a_p, .ref a_r, .ref a_c, .ref a_st, .ref a_pl, .int uOpen, .int uFill, .int uSaved, .int uSerial, .int uDown])), (a_d, .inr (1, [.int uArmed, .int uWritten])), (a_p, .inr (2, [.ref a_pb, .ref a_pf, .int uSize])), (a_pb, .inl (cI, 16, .inl uBytes)), (a_pf, .inl (cI, 18, .inl uForm)), (a_r, .inr (3, [.ref a_rs, .ref a_rb, .ref a_ru, .ref a_rz, .ref a_rh, .ref a_rl])), (a_rs, .inl (cI, N, .inl uSers)), (a_rb, .inl (cI, N, .inl uBlks)), (a_ru, .inl (cI, N, .inl uUnts)), (a_rz, .inl (cZ, N, .inl uStos)), (a_rh, .inl (cJ, N, .inr (.inl uHis))), (a_rl, .inl (cJ, N, .inr (.inl uLos))), (a_st, .inl (cI, n, .inl uSts)), (a_pl, .inl (cI, 16, .inl uPlcs))] H := hP
    have hD : va_D A [(a_u, .inr (0, [.ref a_d, .ref a_p, .ref a_r, .ref a_c, .ref a_st, .ref a_pl, .int uOpen, .int uFill, .int uSaved, .int uSerial, .int uDown])), (a_d, .inr (1, [.int uArmed, .int uWritten])), (a_p, .inr (2, [.ref a_pb, .ref a_pf, .int uSize])), (a_pb, .inl (cI, 16, .inl uBytes)), (a_pf, .inl (cI, 18, .inl uForm)), (a_r, .inr (3, [.ref a_rs, .ref a_rb, .ref a_ru, .ref a_rz, .ref a_rh, .ref a_rl])), (a_rs, .inl (cI, N, .inl uSers)), (a_rb, .inl (cI, N, .inl uBlks)), (a_ru, .inl (cI, N, .inl uUnts)), (a_rz, .inl (cZ, N, .inl uStos)), (a_rh, .inl (cJ, N, .inr (.inl uHis))), (a_rl, .inl (cJ, N, .inr (.inl uLos))), (a_st, .inl (cI, n, .inl uSts)), (a_pl, .inl (cI, 16, .inl uPlcs))] := hD
    refine lv_if_ne (tgt := 19) hx hb d_U_write_14 (by decide) (fun hc => ?_) (fun hc => ?_)
    · have h := ck_f hc h
      refine lv_aload_n hx hb d_U_write_19 rfl (lv_at hl 0 rfl) ?_
      refine va_get (D := (dC, dI)) (ci := 0) (v := .ref a_p) (C := R_U) (T := F_U) (N := 11) hx hb htT i_U hown hK hP 0 rfl rfl 1 (by decide) (htT _ kf_U_28) (fun _ h9 => h9) rfl d_U_write_20 ?_
      refine lv_lload_n hx hb d_U_write_23 rfl (lv_at hl 2 rfl) ?_
      refine lv_lload hx hb d_U_write_24 (lv_at hl 3 rfl) ?_
      obtain ⟨z2, hz, h⟩ := ck_bind h
      have hPc := hP.sub (ws' := [(a_p, .inr (2, [.ref a_pb, .ref a_pf, .int uSize])), (a_pb, .inl (cI, 16, .inl uBytes)), (a_pf, .inl (cI, 18, .inl uForm))]) [2, 3, 4] rfl
      have hDc := hD.sub (ws' := [(a_p, .inr (2, [.ref a_pb, .ref a_pf, .int uSize])), (a_pb, .inl (cI, 16, .inl uBytes)), (a_pf, .inl (cI, 18, .inl uForm))]) [2, 3, 4] (by decide) rfl
      have hFc := va_free (wc := [(a_p, .inr (2, [.ref a_pb, .ref a_pf, .int uSize])), (a_pb, .inl (cI, 16, .inl uBytes)), (a_pf, .inl (cI, 18, .inl uForm))]) hD hS hA [2, 3, 4] rfl
      refine va_callv (va_runV (As := [.long x2, .long x4]) (rest := []) ⟨hx, hb, hml, hown, htT⟩ (c_P_pack l dC dI cI cZ cJ a_u a_d a_p a_pb a_pf a_r a_rs a_rb a_ru a_rz a_rh a_rl a_c a_cp a_st a_pl H.size n N uSize uBytes uForm x2 x4 z2 hz) (cwV 2 htT (gV kl_U_69 ki_P_pack ke_P_pack kn_P kc_P_pack) rfl rfl rfl (by decide +kernel) ⟨Nat.le_of_ble_eq_true rfl, Nat.le_of_ble_eq_true rfl⟩) ⟨fun a U g mk q => by obtain ⟨q0, q1, qP, qK, qD, qN⟩ := q; exact ⟨q0, q1, qP, va_K.moved (u := U) (U := U.calling g mk a) (Vm.Alike.refl U.vm) qK, qD, Ns.same (u := U) rfl qN⟩, va_recv (q0 := 2) (q := (R_P, F_P, 3)) hK hP (ci := 2) rfl rfl, fun U hU hW => ⟨rfl, by rw [hU], by rw [hU]; exact hPc, va_K.moved hW.alike hK, hDc.weaken (fun _ _ _ _ => trivial), Ns.warm hW hN⟩⟩ rfl rfl hl.1 rfl (lv_room (Nat.le_of_ble_eq_true rfl)) d_U_write_26 ⟨(Nat.zero_le _), (Nat.zero_le _)⟩) hS (fun q _ h => hFc q h) hFc (fun u t H locs ht hvm hw hB hz1 hk1 hS => ?_)
      subst hw
      obtain ⟨hP1, hK1, hD1⟩ := hB
      rw [ht] at hP1
      obtain ⟨hP, hD⟩ := va_join (wr := [(a_u, .inr (0, [.ref a_d, .ref a_p, .ref a_r, .ref a_c, .ref a_st, .ref a_pl, .int uOpen, .int uFill, .int uSaved, .int uSerial, .int uDown])), (a_d, .inr (1, [.int uArmed, .int uWritten])), (a_r, .inr (3, [.ref a_rs, .ref a_rb, .ref a_ru, .ref a_rz, .ref a_rh, .ref a_rl])), (a_rs, .inl (cI, N, .inl uSers)), (a_rb, .inl (cI, N, .inl uBlks)), (a_ru, .inl (cI, N, .inl uUnts)), (a_rz, .inl (cZ, N, .inl uStos)), (a_rh, .inl (cJ, N, .inr (.inl uHis))), (a_rl, .inl (cJ, N, .inr (.inl uLos))), (a_st, .inl (cI, n, .inl uSts)), (a_pl, .inl (cI, 16, .inl uPlcs))]) (w1 := [(a_p, .inr (2, [.ref a_pb, .ref a_pf, .int z2.1])), (a_pb, .inl (cI, 16, .inl z2.2.1)), (a_pf, .inl (cI, 18, .inl z2.2.2))]) hP hD [2, 3, 4] [0, 1, 5, 6, 7, 8, 9, 10, 11, 12, 13] rfl rfl (by decide) (by decide) hk1 hFc hP1 hD1
      have hP := hP.sub (ws' := [(a_u, .inr (0, [.ref a_d, .ref a_p, .ref a_r, .ref a_c, .ref a_st, .ref a_pl, .int uOpen, .int uFill, .int uSaved, .int uSerial, .int uDown])), (a_d, .inr (1, [.int uArmed, .int uWritten])), (a_p, .inr (2, [.ref a_pb, .ref a_pf, .int z2.1])), (a_pb, .inl (cI, 16, .inl z2.2.1)), (a_pf, .inl (cI, 18, .inl z2.2.2)), (a_r, .inr (3, [.ref a_rs, .ref a_rb, .ref a_ru, .ref a_rz, .ref a_rh, .ref a_rl])), (a_rs, .inl (cI, N, .inl uSers)), (a_rb, .inl (cI, N, .inl uBlks)), (a_ru, .inl (cI, N, .inl uUnts)), (a_rz, .inl (cZ, N, .inl uStos)), (a_rh, .inl (cJ, N, .inr (.inl uHis))), (a_rl, .inl (cJ, N, .inr (.inl uLos))), (a_st, .inl (cI, n, .inl uSts)), (a_pl, .inl (cI, 16, .inl uPlcs))]) [0, 1, 11, 12, 13, 2, 3, 4, 5, 6, 7, 8, 9, 10] rfl
      have hD := hD.sub (ws' := [(a_u, .inr (0, [.ref a_d, .ref a_p, .ref a_r, .ref a_c, .ref a_st, .ref a_pl, .int uOpen, .int uFill, .int uSaved, .int uSerial, .int uDown])), (a_d, .inr (1, [.int uArmed, .int uWritten])), (a_p, .inr (2, [.ref a_pb, .ref a_pf, .int z2.1])), (a_pb, .inl (cI, 16, .inl z2.2.1)), (a_pf, .inl (cI, 18, .inl z2.2.2)), (a_r, .inr (3, [.ref a_rs, .ref a_rb, .ref a_ru, .ref a_rz, .ref a_rh, .ref a_rl])), (a_rs, .inl (cI, N, .inl uSers)), (a_rb, .inl (cI, N, .inl uBlks)), (a_ru, .inl (cI, N, .inl uUnts)), (a_rz, .inl (cZ, N, .inl uStos)), (a_rh, .inl (cJ, N, .inr (.inl uHis))), (a_rl, .inl (cJ, N, .inr (.inl uLos))), (a_st, .inl (cI, n, .inl uSts)), (a_pl, .inl (cI, 16, .inl uPlcs))]) [0, 1, 11, 12, 13, 2, 3, 4, 5, 6, 7, 8, 9, 10] (by decide) rfl
      have hP : va_P (dC, dI) classes [(a_u, .inr (0, [.ref a_d, .ref a_p, .ref a_r, .ref a_c, .ref a_st, .ref a_pl, .int uOpen, .int uFill, .int uSaved, .int uSerial, .int uDown])), (a_d, .inr (1, [.int uArmed, .int uWritten])), (a_p, .inr (2, [.ref a_pb, .ref a_pf, .int z2.1])), (a_pb, .inl (cI, 16, .inl z2.2.1)), (a_pf, .inl (cI, 18, .inl z2.2.2)), (a_r, .inr (3, [.ref a_rs, .ref a_rb, .ref a_ru, .ref a_rz, .ref a_rh, .ref a_rl])), (a_rs, .inl (cI, N, .inl uSers)), (a_rb, .inl (cI, N, .inl uBlks)), (a_ru, .inl (cI, N, .inl uUnts)), (a_rz, .inl (cZ, N, .inl uStos)), (a_rh, .inl (cJ, N, .inr (.inl uHis))), (a_rl, .inl (cJ, N, .inr (.inl uLos))), (a_st, .inl (cI, n, .inl uSts)), (a_pl, .inl (cI, 16, .inl uPlcs))] H := hP
      have hD : va_D A [(a_u, .inr (0, [.ref a_d, .ref a_p, .ref a_r, .ref a_c, .ref a_st, .ref a_pl, .int uOpen, .int uFill, .int uSaved, .int uSerial, .int uDown])), (a_d, .inr (1, [.int uArmed, .int uWritten])), (a_p, .inr (2, [.ref a_pb, .ref a_pf, .int z2.1])), (a_pb, .inl (cI, 16, .inl z2.2.1)), (a_pf, .inl (cI, 18, .inl z2.2.2)), (a_r, .inr (3, [.ref a_rs, .ref a_rb, .ref a_ru, .ref a_rz, .ref a_rh, .ref a_rl])), (a_rs, .inl (cI, N, .inl uSers)), (a_rb, .inl (cI, N, .inl uBlks)), (a_ru, .inl (cI, N, .inl uUnts)), (a_rz, .inl (cZ, N, .inl uStos)), (a_rh, .inl (cJ, N, .inr (.inl uHis))), (a_rl, .inl (cJ, N, .inr (.inl uLos))), (a_st, .inl (cI, n, .inl uSts)), (a_pl, .inl (cI, 16, .inl uPlcs))] := hD
      refine lv_aload_n hx hb d_U_write_29 rfl (lv_at hl 0 rfl) ?_
      refine va_get (D := (dC, dI)) (ci := 0) (v := .ref a_p) (C := R_U) (T := F_U) (N := 11) hx hb htT i_U hown hK hP 0 rfl rfl 1 (by decide) (htT _ kf_U_28) (fun _ h9 => h9) rfl d_U_write_30 ?_
      obtain ⟨z3, hz, h⟩ := ck_bind h
      have hPc := hP.sub (ws' := [(a_p, .inr (2, [.ref a_pb, .ref a_pf, .int z2.1]))]) [2] rfl
      have hDc := hD.sub (ws' := [(a_p, .inr (2, [.ref a_pb, .ref a_pf, .int z2.1]))]) [2] (by decide) rfl
      have hFc := va_free (wc := [(a_p, .inr (2, [.ref a_pb, .ref a_pf, .int z2.1]))]) hD hS hA [2] rfl
      refine va_calli (va_runV (As := []) (rest := []) ⟨hx, hb, hml, hown, htT⟩ (c_P_storeUnits l dC dI cI cZ cJ a_u a_d a_p a_pb a_pf a_r a_rs a_rb a_ru a_rz a_rh a_rl a_c a_cp a_st a_pl H.size n N z2.1  z3 hz) (cwV 0 htT (gV kl_U_73 ki_P_storeUnits ke_P_storeUnits kn_P kc_P_storeUnits) rfl rfl rfl (by decide +kernel) ⟨Nat.le_of_ble_eq_true rfl, Nat.le_of_ble_eq_true rfl⟩) ⟨fun a U g mk q => by obtain ⟨q0, q1, qP, qK, qD, qN⟩ := q; exact ⟨q0, q1, qP, va_K.moved (u := U) (U := U.calling g mk a) (Vm.Alike.refl U.vm) qK, qD, Ns.same (u := U) rfl qN⟩, va_recv (q0 := 2) (q := (R_P, F_P, 3)) hK hP (ci := 2) rfl rfl, fun U hU hW => ⟨rfl, by rw [hU], by rw [hU]; exact hPc, va_K.moved hW.alike hK, hDc.weaken (fun _ _ _ _ => trivial), Ns.warm hW hN⟩⟩ rfl rfl hl.1 rfl (lv_room (Nat.le_of_ble_eq_true rfl)) d_U_write_33 ⟨(Nat.zero_le _), (Nat.zero_le _)⟩) hS (fun q _ h => hFc q h) hFc (fun r u t H locs ht hvm hw hB hz1 hk1 hS => ?_)
      subst hw
      obtain ⟨hP1, hK1, hD1⟩ := hB
      rw [ht] at hP1
      obtain ⟨hP, hD⟩ := va_join (wr := [(a_u, .inr (0, [.ref a_d, .ref a_p, .ref a_r, .ref a_c, .ref a_st, .ref a_pl, .int uOpen, .int uFill, .int uSaved, .int uSerial, .int uDown])), (a_d, .inr (1, [.int uArmed, .int uWritten])), (a_pb, .inl (cI, 16, .inl z2.2.1)), (a_pf, .inl (cI, 18, .inl z2.2.2)), (a_r, .inr (3, [.ref a_rs, .ref a_rb, .ref a_ru, .ref a_rz, .ref a_rh, .ref a_rl])), (a_rs, .inl (cI, N, .inl uSers)), (a_rb, .inl (cI, N, .inl uBlks)), (a_ru, .inl (cI, N, .inl uUnts)), (a_rz, .inl (cZ, N, .inl uStos)), (a_rh, .inl (cJ, N, .inr (.inl uHis))), (a_rl, .inl (cJ, N, .inr (.inl uLos))), (a_st, .inl (cI, n, .inl uSts)), (a_pl, .inl (cI, 16, .inl uPlcs))]) (w1 := [(a_p, .inr (2, [.ref a_pb, .ref a_pf, .int z2.1]))]) hP hD [2] [0, 1, 3, 4, 5, 6, 7, 8, 9, 10, 11, 12, 13] rfl rfl (by decide) (by decide) hk1 hFc hP1 hD1
      have hP := hP.sub (ws' := [(a_u, .inr (0, [.ref a_d, .ref a_p, .ref a_r, .ref a_c, .ref a_st, .ref a_pl, .int uOpen, .int uFill, .int uSaved, .int uSerial, .int uDown])), (a_d, .inr (1, [.int uArmed, .int uWritten])), (a_p, .inr (2, [.ref a_pb, .ref a_pf, .int z2.1])), (a_pb, .inl (cI, 16, .inl z2.2.1)), (a_pf, .inl (cI, 18, .inl z2.2.2)), (a_r, .inr (3, [.ref a_rs, .ref a_rb, .ref a_ru, .ref a_rz, .ref a_rh, .ref a_rl])), (a_rs, .inl (cI, N, .inl uSers)), (a_rb, .inl (cI, N, .inl uBlks)), (a_ru, .inl (cI, N, .inl uUnts)), (a_rz, .inl (cZ, N, .inl uStos)), (a_rh, .inl (cJ, N, .inr (.inl uHis))), (a_rl, .inl (cJ, N, .inr (.inl uLos))), (a_st, .inl (cI, n, .inl uSts)), (a_pl, .inl (cI, 16, .inl uPlcs))]) [0, 1, 13, 2, 3, 4, 5, 6, 7, 8, 9, 10, 11, 12] rfl
      have hD := hD.sub (ws' := [(a_u, .inr (0, [.ref a_d, .ref a_p, .ref a_r, .ref a_c, .ref a_st, .ref a_pl, .int uOpen, .int uFill, .int uSaved, .int uSerial, .int uDown])), (a_d, .inr (1, [.int uArmed, .int uWritten])), (a_p, .inr (2, [.ref a_pb, .ref a_pf, .int z2.1])), (a_pb, .inl (cI, 16, .inl z2.2.1)), (a_pf, .inl (cI, 18, .inl z2.2.2)), (a_r, .inr (3, [.ref a_rs, .ref a_rb, .ref a_ru, .ref a_rz, .ref a_rh, .ref a_rl])), (a_rs, .inl (cI, N, .inl uSers)), (a_rb, .inl (cI, N, .inl uBlks)), (a_ru, .inl (cI, N, .inl uUnts)), (a_rz, .inl (cZ, N, .inl uStos)), (a_rh, .inl (cJ, N, .inr (.inl uHis))), (a_rl, .inl (cJ, N, .inr (.inl uLos))), (a_st, .inl (cI, n, .inl uSts)), (a_pl, .inl (cI, 16, .inl uPlcs))]) [0, 1, 13, 2, 3, 4, 5, 6, 7, 8, 9, 10, 11, 12] (by decide) rfl
      have hP : va_P (dC, dI) classes [(a_u, .inr (0, [.ref a_d, .ref a_p, .ref a_r, .ref a_c, .ref a_st, .ref a_pl, .int uOpen, .int uFill, .int uSaved, .int uSerial, .int uDown])), (a_d, .inr (1, [.int uArmed, .int uWritten])), (a_p, .inr (2, [.ref a_pb, .ref a_pf, .int z2.1])), (a_pb, .inl (cI, 16, .inl z2.2.1)), (a_pf, .inl (cI, 18, .inl z2.2.2)), (a_r, .inr (3, [.ref a_rs, .ref a_rb, .ref a_ru, .ref a_rz, .ref a_rh, .ref a_rl])), (a_rs, .inl (cI, N, .inl uSers)), (a_rb, .inl (cI, N, .inl uBlks)), (a_ru, .inl (cI, N, .inl uUnts)), (a_rz, .inl (cZ, N, .inl uStos)), (a_rh, .inl (cJ, N, .inr (.inl uHis))), (a_rl, .inl (cJ, N, .inr (.inl uLos))), (a_st, .inl (cI, n, .inl uSts)), (a_pl, .inl (cI, 16, .inl uPlcs))] H := hP
      have hD : va_D A [(a_u, .inr (0, [.ref a_d, .ref a_p, .ref a_r, .ref a_c, .ref a_st, .ref a_pl, .int uOpen, .int uFill, .int uSaved, .int uSerial, .int uDown])), (a_d, .inr (1, [.int uArmed, .int uWritten])), (a_p, .inr (2, [.ref a_pb, .ref a_pf, .int z2.1])), (a_pb, .inl (cI, 16, .inl z2.2.1)), (a_pf, .inl (cI, 18, .inl z2.2.2)), (a_r, .inr (3, [.ref a_rs, .ref a_rb, .ref a_ru, .ref a_rz, .ref a_rh, .ref a_rl])), (a_rs, .inl (cI, N, .inl uSers)), (a_rb, .inl (cI, N, .inl uBlks)), (a_ru, .inl (cI, N, .inl uUnts)), (a_rz, .inl (cZ, N, .inl uStos)), (a_rh, .inl (cJ, N, .inr (.inl uHis))), (a_rl, .inl (cJ, N, .inr (.inl uLos))), (a_st, .inl (cI, n, .inl uSts)), (a_pl, .inl (cI, 16, .inl uPlcs))] := hD
      refine lv_istore hx hb d_U_write_36 hl (by decide) rfl (fun ls hl => ?_)
      have hl : lv_has ls 7 [(6, .int z3), (0, .ref a_u), (1, .int x1), (2, .long x2), (4, .long x4)] := hl
      refine lv_aload_n hx hb d_U_write_38 rfl (lv_at hl 1 rfl) ?_
      refine lv_iload hx hb d_U_write_39 (lv_at hl 0 rfl) ?_
      obtain ⟨z4, hz, h⟩ := ck_bind h
      have hPc := hP.sub (ws' := [(a_u, .inr (0, [.ref a_d, .ref a_p, .ref a_r, .ref a_c, .ref a_st, .ref a_pl, .int uOpen, .int uFill, .int uSaved, .int uSerial, .int uDown])), (a_st, .inl (cI, n, .inl uSts))]) [0, 12] rfl
      have hDc := hD.sub (ws' := [(a_u, .inr (0, [.ref a_d, .ref a_p, .ref a_r, .ref a_c, .ref a_st, .ref a_pl, .int uOpen, .int uFill, .int uSaved, .int uSerial, .int uDown])), (a_st, .inl (cI, n, .inl uSts))]) [0, 12] (by decide) rfl
      have hFc := va_free (wc := [(a_u, .inr (0, [.ref a_d, .ref a_p, .ref a_r, .ref a_c, .ref a_st, .ref a_pl, .int uOpen, .int uFill, .int uSaved, .int uSerial, .int uDown])), (a_st, .inl (cI, n, .inl uSts))]) hD hS hA [0, 12] rfl
      refine va_calli (va_runV (As := [.int z3]) (rest := []) ⟨hx, hb, hml, hown, htT⟩ (c_U_mayAppend l dC dI cI cZ cJ a_u a_d a_p a_pb a_pf a_r a_rs a_rb a_ru a_rz a_rh a_rl a_c a_cp a_st a_pl H.size n N uOpen uFill uSaved uSerial uDown uSts z3 z4 hz) (cwV 1 htT (gV kl_U_77 ki_U_mayAppend ke_U_mayAppend kn_U kc_U_mayAppend) rfl rfl rfl (by decide +kernel) ⟨Nat.le_of_ble_eq_true rfl, Nat.le_of_ble_eq_true rfl⟩) ⟨fun a U g mk q => by obtain ⟨q0, q1, qP, qK, qD, qN⟩ := q; exact ⟨q0, q1, qP, va_K.moved (u := U) (U := U.calling g mk a) (Vm.Alike.refl U.vm) qK, qD, Ns.same (u := U) rfl qN⟩, va_recv (q0 := 0) (q := (R_U, F_U, 11)) hK hP (ci := 0) rfl rfl, fun U hU hW => ⟨rfl, by rw [hU], by rw [hU]; exact hPc, va_K.moved hW.alike hK, hDc.weaken (fun _ _ _ _ => trivial), Ns.warm hW hN⟩⟩ rfl rfl hl.1 rfl (lv_room (Nat.le_of_ble_eq_true rfl)) d_U_write_41 ⟨(Nat.zero_le _), (Nat.zero_le _)⟩) hS (fun q _ h => hFc q h) hFc (fun r u t H locs ht hvm hw hB hz1 hk1 hS => ?_)
      subst hw
      obtain ⟨hP1, hK1, hD1⟩ := hB
      rw [ht] at hP1
      obtain ⟨hP, hD⟩ := va_join (wr := [(a_d, .inr (1, [.int uArmed, .int uWritten])), (a_p, .inr (2, [.ref a_pb, .ref a_pf, .int z2.1])), (a_pb, .inl (cI, 16, .inl z2.2.1)), (a_pf, .inl (cI, 18, .inl z2.2.2)), (a_r, .inr (3, [.ref a_rs, .ref a_rb, .ref a_ru, .ref a_rz, .ref a_rh, .ref a_rl])), (a_rs, .inl (cI, N, .inl uSers)), (a_rb, .inl (cI, N, .inl uBlks)), (a_ru, .inl (cI, N, .inl uUnts)), (a_rz, .inl (cZ, N, .inl uStos)), (a_rh, .inl (cJ, N, .inr (.inl uHis))), (a_rl, .inl (cJ, N, .inr (.inl uLos))), (a_pl, .inl (cI, 16, .inl uPlcs))]) (w1 := [(a_u, .inr (0, [.ref a_d, .ref a_p, .ref a_r, .ref a_c, .ref a_st, .ref a_pl, .int uOpen, .int uFill, .int uSaved, .int uSerial, .int uDown])), (a_st, .inl (cI, n, .inl uSts))]) hP hD [0, 12] [1, 2, 3, 4, 5, 6, 7, 8, 9, 10, 11, 13] rfl rfl (by decide) (by decide) hk1 hFc hP1 hD1
      have hP := hP.sub (ws' := [(a_u, .inr (0, [.ref a_d, .ref a_p, .ref a_r, .ref a_c, .ref a_st, .ref a_pl, .int uOpen, .int uFill, .int uSaved, .int uSerial, .int uDown])), (a_d, .inr (1, [.int uArmed, .int uWritten])), (a_p, .inr (2, [.ref a_pb, .ref a_pf, .int z2.1])), (a_pb, .inl (cI, 16, .inl z2.2.1)), (a_pf, .inl (cI, 18, .inl z2.2.2)), (a_r, .inr (3, [.ref a_rs, .ref a_rb, .ref a_ru, .ref a_rz, .ref a_rh, .ref a_rl])), (a_rs, .inl (cI, N, .inl uSers)), (a_rb, .inl (cI, N, .inl uBlks)), (a_ru, .inl (cI, N, .inl uUnts)), (a_rz, .inl (cZ, N, .inl uStos)), (a_rh, .inl (cJ, N, .inr (.inl uHis))), (a_rl, .inl (cJ, N, .inr (.inl uLos))), (a_st, .inl (cI, n, .inl uSts)), (a_pl, .inl (cI, 16, .inl uPlcs))]) [12, 0, 1, 2, 3, 4, 5, 6, 7, 8, 9, 10, 13, 11] rfl
      have hD := hD.sub (ws' := [(a_u, .inr (0, [.ref a_d, .ref a_p, .ref a_r, .ref a_c, .ref a_st, .ref a_pl, .int uOpen, .int uFill, .int uSaved, .int uSerial, .int uDown])), (a_d, .inr (1, [.int uArmed, .int uWritten])), (a_p, .inr (2, [.ref a_pb, .ref a_pf, .int z2.1])), (a_pb, .inl (cI, 16, .inl z2.2.1)), (a_pf, .inl (cI, 18, .inl z2.2.2)), (a_r, .inr (3, [.ref a_rs, .ref a_rb, .ref a_ru, .ref a_rz, .ref a_rh, .ref a_rl])), (a_rs, .inl (cI, N, .inl uSers)), (a_rb, .inl (cI, N, .inl uBlks)), (a_ru, .inl (cI, N, .inl uUnts)), (a_rz, .inl (cZ, N, .inl uStos)), (a_rh, .inl (cJ, N, .inr (.inl uHis))), (a_rl, .inl (cJ, N, .inr (.inl uLos))), (a_st, .inl (cI, n, .inl uSts)), (a_pl, .inl (cI, 16, .inl uPlcs))]) [12, 0, 1, 2, 3, 4, 5, 6, 7, 8, 9, 10, 13, 11] (by decide) rfl
      have hP : va_P (dC, dI) classes [(a_u, .inr (0, [.ref a_d, .ref a_p, .ref a_r, .ref a_c, .ref a_st, .ref a_pl, .int uOpen, .int uFill, .int uSaved, .int uSerial, .int uDown])), (a_d, .inr (1, [.int uArmed, .int uWritten])), (a_p, .inr (2, [.ref a_pb, .ref a_pf, .int z2.1])), (a_pb, .inl (cI, 16, .inl z2.2.1)), (a_pf, .inl (cI, 18, .inl z2.2.2)), (a_r, .inr (3, [.ref a_rs, .ref a_rb, .ref a_ru, .ref a_rz, .ref a_rh, .ref a_rl])), (a_rs, .inl (cI, N, .inl uSers)), (a_rb, .inl (cI, N, .inl uBlks)), (a_ru, .inl (cI, N, .inl uUnts)), (a_rz, .inl (cZ, N, .inl uStos)), (a_rh, .inl (cJ, N, .inr (.inl uHis))), (a_rl, .inl (cJ, N, .inr (.inl uLos))), (a_st, .inl (cI, n, .inl uSts)), (a_pl, .inl (cI, 16, .inl uPlcs))] H := hP
      have hD : va_D A [(a_u, .inr (0, [.ref a_d, .ref a_p, .ref a_r, .ref a_c, .ref a_st, .ref a_pl, .int uOpen, .int uFill, .int uSaved, .int uSerial, .int uDown])), (a_d, .inr (1, [.int uArmed, .int uWritten])), (a_p, .inr (2, [.ref a_pb, .ref a_pf, .int z2.1])), (a_pb, .inl (cI, 16, .inl z2.2.1)), (a_pf, .inl (cI, 18, .inl z2.2.2)), (a_r, .inr (3, [.ref a_rs, .ref a_rb, .ref a_ru, .ref a_rz, .ref a_rh, .ref a_rl])), (a_rs, .inl (cI, N, .inl uSers)), (a_rb, .inl (cI, N, .inl uBlks)), (a_ru, .inl (cI, N, .inl uUnts)), (a_rz, .inl (cZ, N, .inl uStos)), (a_rh, .inl (cJ, N, .inr (.inl uHis))), (a_rl, .inl (cJ, N, .inr (.inl uLos))), (a_st, .inl (cI, n, .inl uSts)), (a_pl, .inl (cI, 16, .inl uPlcs))] := hD
      refine lv_if_ne (tgt := 50) hx hb d_U_write_44 (by decide) (fun hc => ?_) (fun hc => ?_)
      · have h := ck_f hc h
        refine lv_aload_n hx hb d_U_write_50 rfl (lv_at hl 1 rfl) ?_
        refine lv_iload_n hx hb d_U_write_51 rfl (lv_at hl 2 rfl) ?_
        refine lv_iload hx hb d_U_write_52 (lv_at hl 0 rfl) ?_
        refine lv_iconst (v := (1 : Int32)) hx hb d_U_write_54 (by decide) ?_
        refine lv_lload_n hx hb d_U_write_55 rfl (lv_at hl 3 rfl) ?_
        refine lv_lload hx hb d_U_write_56 (lv_at hl 4 rfl) ?_
        obtain ⟨z5, hz, h⟩ := ck_bind h
        have hPc := hP.sub (ws' := [(a_u, .inr (0, [.ref a_d, .ref a_p, .ref a_r, .ref a_c, .ref a_st, .ref a_pl, .int uOpen, .int uFill, .int uSaved, .int uSerial, .int uDown])), (a_d, .inr (1, [.int uArmed, .int uWritten])), (a_r, .inr (3, [.ref a_rs, .ref a_rb, .ref a_ru, .ref a_rz, .ref a_rh, .ref a_rl])), (a_rs, .inl (cI, N, .inl uSers)), (a_rb, .inl (cI, N, .inl uBlks)), (a_ru, .inl (cI, N, .inl uUnts)), (a_rz, .inl (cZ, N, .inl uStos)), (a_rh, .inl (cJ, N, .inr (.inl uHis))), (a_rl, .inl (cJ, N, .inr (.inl uLos))), (a_st, .inl (cI, n, .inl uSts)), (a_pl, .inl (cI, 16, .inl uPlcs))]) [0, 1, 5, 6, 7, 8, 9, 10, 11, 12, 13] rfl
        have hDc := hD.sub (ws' := [(a_u, .inr (0, [.ref a_d, .ref a_p, .ref a_r, .ref a_c, .ref a_st, .ref a_pl, .int uOpen, .int uFill, .int uSaved, .int uSerial, .int uDown])), (a_d, .inr (1, [.int uArmed, .int uWritten])), (a_r, .inr (3, [.ref a_rs, .ref a_rb, .ref a_ru, .ref a_rz, .ref a_rh, .ref a_rl])), (a_rs, .inl (cI, N, .inl uSers)), (a_rb, .inl (cI, N, .inl uBlks)), (a_ru, .inl (cI, N, .inl uUnts)), (a_rz, .inl (cZ, N, .inl uStos)), (a_rh, .inl (cJ, N, .inr (.inl uHis))), (a_rl, .inl (cJ, N, .inr (.inl uLos))), (a_st, .inl (cI, n, .inl uSts)), (a_pl, .inl (cI, 16, .inl uPlcs))]) [0, 1, 5, 6, 7, 8, 9, 10, 11, 12, 13] (by decide) rfl
        have hFc := va_free (wc := [(a_u, .inr (0, [.ref a_d, .ref a_p, .ref a_r, .ref a_c, .ref a_st, .ref a_pl, .int uOpen, .int uFill, .int uSaved, .int uSerial, .int uDown])), (a_d, .inr (1, [.int uArmed, .int uWritten])), (a_r, .inr (3, [.ref a_rs, .ref a_rb, .ref a_ru, .ref a_rz, .ref a_rh, .ref a_rl])), (a_rs, .inl (cI, N, .inl uSers)), (a_rb, .inl (cI, N, .inl uBlks)), (a_ru, .inl (cI, N, .inl uUnts)), (a_rz, .inl (cZ, N, .inl uStos)), (a_rh, .inl (cJ, N, .inr (.inl uHis))), (a_rl, .inl (cJ, N, .inr (.inl uLos))), (a_st, .inl (cI, n, .inl uSts)), (a_pl, .inl (cI, 16, .inl uPlcs))]) hD hS hA [0, 1, 5, 6, 7, 8, 9, 10, 11, 12, 13] rfl
        refine va_calli (va_runV (As := [.int x1, .int z3, .int (1 : Int32), .long x2, .long x4]) (rest := []) ⟨hx, hb, hml, hown, htT⟩ (c_U_append l dC dI cI cZ cJ a_u a_d a_p a_pb a_pf a_r a_rs a_rb a_ru a_rz a_rh a_rl a_c a_cp a_st a_pl H.size n N uOpen uFill uSaved uSerial uDown uArmed uWritten uSers uBlks uUnts uStos uHis uLos uSts uPlcs x1 z3 (1 : Int32) x2 x4 z5 hz) (cwV 5 htT (gV kl_U_80 ki_U_append ke_U_append kn_U kc_U_append) rfl rfl rfl (by decide +kernel) ⟨Nat.le_of_ble_eq_true rfl, Nat.le_of_ble_eq_true rfl⟩) ⟨fun a U g mk q => by obtain ⟨q0, q1, qP, qK, qD, qN⟩ := q; exact ⟨q0, q1, qP, va_K.moved (u := U) (U := U.calling g mk a) (Vm.Alike.refl U.vm) qK, qD, Ns.same (u := U) rfl qN⟩, va_recv (q0 := 0) (q := (R_U, F_U, 11)) hK hP (ci := 0) rfl rfl, fun U hU hW => ⟨rfl, by rw [hU], by rw [hU]; exact hPc, va_K.moved hW.alike hK, hDc.weaken (fun _ _ _ _ => trivial), Ns.warm hW hN⟩⟩ rfl rfl hl.1 rfl (lv_room (Nat.le_of_ble_eq_true rfl)) d_U_write_58 ⟨(Nat.zero_le _), (Nat.zero_le _)⟩) hS (fun q _ h => hFc q h) hFc (fun r u t H locs ht hvm hw hB hz1 hk1 hS => ?_)
        have e1 := congrArg Prod.fst hw
        have e2 := congrArg Prod.snd hw
        dsimp only at e1 e2
        subst e1
        subst e2
        obtain ⟨hP1, hK1, hD1⟩ := hB
        rw [ht] at hP1
        obtain ⟨hP, hD⟩ := va_join (wr := [(a_p, .inr (2, [.ref a_pb, .ref a_pf, .int z2.1])), (a_pb, .inl (cI, 16, .inl z2.2.1)), (a_pf, .inl (cI, 18, .inl z2.2.2))]) (w1 := [(a_u, .inr (0, [.ref a_d, .ref a_p, .ref a_r, .ref a_c, .ref a_st, .ref a_pl, .int z5.2.1, .int z5.2.2.1, .int z5.2.2.2.1, .int z5.2.2.2.2.1, .int uDown])), (a_d, .inr (1, [.int z5.2.2.2.2.2.1, .int z5.2.2.2.2.2.2.1])), (a_r, .inr (3, [.ref a_rs, .ref a_rb, .ref a_ru, .ref a_rz, .ref a_rh, .ref a_rl])), (a_rs, .inl (cI, N, .inl z5.2.2.2.2.2.2.2.1)), (a_rb, .inl (cI, N, .inl z5.2.2.2.2.2.2.2.2.1)), (a_ru, .inl (cI, N, .inl z5.2.2.2.2.2.2.2.2.2.1)), (a_rz, .inl (cZ, N, .inl z5.2.2.2.2.2.2.2.2.2.2.1)), (a_rh, .inl (cJ, N, .inr (.inl z5.2.2.2.2.2.2.2.2.2.2.2.1))), (a_rl, .inl (cJ, N, .inr (.inl z5.2.2.2.2.2.2.2.2.2.2.2.2.1))), (a_st, .inl (cI, n, .inl z5.2.2.2.2.2.2.2.2.2.2.2.2.2.1)), (a_pl, .inl (cI, 16, .inl z5.2.2.2.2.2.2.2.2.2.2.2.2.2.2))]) hP hD [0, 1, 5, 6, 7, 8, 9, 10, 11, 12, 13] [2, 3, 4] rfl rfl (by decide) (by decide) hk1 hFc hP1 hD1
        have hP := hP.sub (ws' := [(a_u, .inr (0, [.ref a_d, .ref a_p, .ref a_r, .ref a_c, .ref a_st, .ref a_pl, .int z5.2.1, .int z5.2.2.1, .int z5.2.2.2.1, .int z5.2.2.2.2.1, .int uDown])), (a_d, .inr (1, [.int z5.2.2.2.2.2.1, .int z5.2.2.2.2.2.2.1])), (a_p, .inr (2, [.ref a_pb, .ref a_pf, .int z2.1])), (a_pb, .inl (cI, 16, .inl z2.2.1)), (a_pf, .inl (cI, 18, .inl z2.2.2)), (a_r, .inr (3, [.ref a_rs, .ref a_rb, .ref a_ru, .ref a_rz, .ref a_rh, .ref a_rl])), (a_rs, .inl (cI, N, .inl z5.2.2.2.2.2.2.2.1)), (a_rb, .inl (cI, N, .inl z5.2.2.2.2.2.2.2.2.1)), (a_ru, .inl (cI, N, .inl z5.2.2.2.2.2.2.2.2.2.1)), (a_rz, .inl (cZ, N, .inl z5.2.2.2.2.2.2.2.2.2.2.1)), (a_rh, .inl (cJ, N, .inr (.inl z5.2.2.2.2.2.2.2.2.2.2.2.1))), (a_rl, .inl (cJ, N, .inr (.inl z5.2.2.2.2.2.2.2.2.2.2.2.2.1))), (a_st, .inl (cI, n, .inl z5.2.2.2.2.2.2.2.2.2.2.2.2.2.1)), (a_pl, .inl (cI, 16, .inl z5.2.2.2.2.2.2.2.2.2.2.2.2.2.2))]) [3, 4, 0, 1, 2, 5, 6, 7, 8, 9, 10, 11, 12, 13] rfl
        have hD := hD.sub (ws' := [(a_u, .inr (0, [.ref a_d, .ref a_p, .ref a_r, .ref a_c, .ref a_st, .ref a_pl, .int z5.2.1, .int z5.2.2.1, .int z5.2.2.2.1, .int z5.2.2.2.2.1, .int uDown])), (a_d, .inr (1, [.int z5.2.2.2.2.2.1, .int z5.2.2.2.2.2.2.1])), (a_p, .inr (2, [.ref a_pb, .ref a_pf, .int z2.1])), (a_pb, .inl (cI, 16, .inl z2.2.1)), (a_pf, .inl (cI, 18, .inl z2.2.2)), (a_r, .inr (3, [.ref a_rs, .ref a_rb, .ref a_ru, .ref a_rz, .ref a_rh, .ref a_rl])), (a_rs, .inl (cI, N, .inl z5.2.2.2.2.2.2.2.1)), (a_rb, .inl (cI, N, .inl z5.2.2.2.2.2.2.2.2.1)), (a_ru, .inl (cI, N, .inl z5.2.2.2.2.2.2.2.2.2.1)), (a_rz, .inl (cZ, N, .inl z5.2.2.2.2.2.2.2.2.2.2.1)), (a_rh, .inl (cJ, N, .inr (.inl z5.2.2.2.2.2.2.2.2.2.2.2.1))), (a_rl, .inl (cJ, N, .inr (.inl z5.2.2.2.2.2.2.2.2.2.2.2.2.1))), (a_st, .inl (cI, n, .inl z5.2.2.2.2.2.2.2.2.2.2.2.2.2.1)), (a_pl, .inl (cI, 16, .inl z5.2.2.2.2.2.2.2.2.2.2.2.2.2.2))]) [3, 4, 0, 1, 2, 5, 6, 7, 8, 9, 10, 11, 12, 13] (by decide) rfl
        have hP : va_P (dC, dI) classes [(a_u, .inr (0, [.ref a_d, .ref a_p, .ref a_r, .ref a_c, .ref a_st, .ref a_pl, .int z5.2.1, .int z5.2.2.1, .int z5.2.2.2.1, .int z5.2.2.2.2.1, .int uDown])), (a_d, .inr (1, [.int z5.2.2.2.2.2.1, .int z5.2.2.2.2.2.2.1])), (a_p, .inr (2, [.ref a_pb, .ref a_pf, .int z2.1])), (a_pb, .inl (cI, 16, .inl z2.2.1)), (a_pf, .inl (cI, 18, .inl z2.2.2)), (a_r, .inr (3, [.ref a_rs, .ref a_rb, .ref a_ru, .ref a_rz, .ref a_rh, .ref a_rl])), (a_rs, .inl (cI, N, .inl z5.2.2.2.2.2.2.2.1)), (a_rb, .inl (cI, N, .inl z5.2.2.2.2.2.2.2.2.1)), (a_ru, .inl (cI, N, .inl z5.2.2.2.2.2.2.2.2.2.1)), (a_rz, .inl (cZ, N, .inl z5.2.2.2.2.2.2.2.2.2.2.1)), (a_rh, .inl (cJ, N, .inr (.inl z5.2.2.2.2.2.2.2.2.2.2.2.1))), (a_rl, .inl (cJ, N, .inr (.inl z5.2.2.2.2.2.2.2.2.2.2.2.2.1))), (a_st, .inl (cI, n, .inl z5.2.2.2.2.2.2.2.2.2.2.2.2.2.1)), (a_pl, .inl (cI, 16, .inl z5.2.2.2.2.2.2.2.2.2.2.2.2.2.2))] H := hP
        have hD : va_D A [(a_u, .inr (0, [.ref a_d, .ref a_p, .ref a_r, .ref a_c, .ref a_st, .ref a_pl, .int z5.2.1, .int z5.2.2.1, .int z5.2.2.2.1, .int z5.2.2.2.2.1, .int uDown])), (a_d, .inr (1, [.int z5.2.2.2.2.2.1, .int z5.2.2.2.2.2.2.1])), (a_p, .inr (2, [.ref a_pb, .ref a_pf, .int z2.1])), (a_pb, .inl (cI, 16, .inl z2.2.1)), (a_pf, .inl (cI, 18, .inl z2.2.2)), (a_r, .inr (3, [.ref a_rs, .ref a_rb, .ref a_ru, .ref a_rz, .ref a_rh, .ref a_rl])), (a_rs, .inl (cI, N, .inl z5.2.2.2.2.2.2.2.1)), (a_rb, .inl (cI, N, .inl z5.2.2.2.2.2.2.2.2.1)), (a_ru, .inl (cI, N, .inl z5.2.2.2.2.2.2.2.2.2.1)), (a_rz, .inl (cZ, N, .inl z5.2.2.2.2.2.2.2.2.2.2.1)), (a_rh, .inl (cJ, N, .inr (.inl z5.2.2.2.2.2.2.2.2.2.2.2.1))), (a_rl, .inl (cJ, N, .inr (.inl z5.2.2.2.2.2.2.2.2.2.2.2.2.1))), (a_st, .inl (cI, n, .inl z5.2.2.2.2.2.2.2.2.2.2.2.2.2.1)), (a_pl, .inl (cI, 16, .inl z5.2.2.2.2.2.2.2.2.2.2.2.2.2.2))] := hD
        refine lv_if_eq (tgt := 69) hx hb d_U_write_61 (by decide) (fun hc => ?_) (fun hc => ?_)
        · have h := ck_t hc h
          refine lv_aload_n hx hb d_U_write_69 rfl (lv_at hl 1 rfl) ?_
          obtain ⟨z6, hz, h⟩ := ck_bind h
          have hPc := hP.sub (ws' := [(a_u, .inr (0, [.ref a_d, .ref a_p, .ref a_r, .ref a_c, .ref a_st, .ref a_pl, .int z5.2.1, .int z5.2.2.1, .int z5.2.2.2.1, .int z5.2.2.2.2.1, .int uDown])), (a_r, .inr (3, [.ref a_rs, .ref a_rb, .ref a_ru, .ref a_rz, .ref a_rh, .ref a_rl])), (a_rs, .inl (cI, N, .inl z5.2.2.2.2.2.2.2.1)), (a_ru, .inl (cI, N, .inl z5.2.2.2.2.2.2.2.2.2.1))]) [0, 5, 6, 8] rfl
          have hDc := hD.sub (ws' := [(a_u, .inr (0, [.ref a_d, .ref a_p, .ref a_r, .ref a_c, .ref a_st, .ref a_pl, .int z5.2.1, .int z5.2.2.1, .int z5.2.2.2.1, .int z5.2.2.2.2.1, .int uDown])), (a_r, .inr (3, [.ref a_rs, .ref a_rb, .ref a_ru, .ref a_rz, .ref a_rh, .ref a_rl])), (a_rs, .inl (cI, N, .inl z5.2.2.2.2.2.2.2.1)), (a_ru, .inl (cI, N, .inl z5.2.2.2.2.2.2.2.2.2.1))]) [0, 5, 6, 8] (by decide) rfl
          have hFc := va_free (wc := [(a_u, .inr (0, [.ref a_d, .ref a_p, .ref a_r, .ref a_c, .ref a_st, .ref a_pl, .int z5.2.1, .int z5.2.2.1, .int z5.2.2.2.1, .int z5.2.2.2.2.1, .int uDown])), (a_r, .inr (3, [.ref a_rs, .ref a_rb, .ref a_ru, .ref a_rz, .ref a_rh, .ref a_rl])), (a_rs, .inl (cI, N, .inl z5.2.2.2.2.2.2.2.1)), (a_ru, .inl (cI, N, .inl z5.2.2.2.2.2.2.2.2.2.1))]) hD hS hA [0, 5, 6, 8] rfl
          refine va_calli (va_runV (As := []) (rest := []) ⟨hx, hb, hml, hown, htT⟩ (c_U_goDown l dC dI cI cZ cJ a_u a_d a_p a_pb a_pf a_r a_rs a_rb a_ru a_rz a_rh a_rl a_c a_cp a_st a_pl H.size n N z5.2.1 z5.2.2.1 z5.2.2.2.1 z5.2.2.2.2.1 uDown z5.2.2.2.2.2.2.2.1 z5.2.2.2.2.2.2.2.2.2.1  z6 hz) (cwV 0 htT (gV kl_U_84 ki_U_goDown ke_U_goDown kn_U kc_U_goDown) rfl rfl rfl (by decide +kernel) ⟨Nat.le_of_ble_eq_true rfl, Nat.le_of_ble_eq_true rfl⟩) ⟨fun a U g mk q => by obtain ⟨q0, q1, qP, qK, qD, qN⟩ := q; exact ⟨q0, q1, qP, va_K.moved (u := U) (U := U.calling g mk a) (Vm.Alike.refl U.vm) qK, qD, Ns.same (u := U) rfl qN⟩, va_recv (q0 := 0) (q := (R_U, F_U, 11)) hK hP (ci := 0) rfl rfl, fun U hU hW => ⟨rfl, by rw [hU], by rw [hU]; exact hPc, va_K.moved hW.alike hK, hDc.weaken (fun _ _ _ _ => trivial), Ns.warm hW hN⟩⟩ rfl rfl hl.1 rfl (lv_room (Nat.le_of_ble_eq_true rfl)) d_U_write_70 ⟨(Nat.zero_le _), (Nat.zero_le _)⟩) hS (fun q _ h => hFc q h) hFc (fun r u t H locs ht hvm hw hB hz1 hk1 hS => ?_)
          have e1 := congrArg Prod.fst hw
          have e2 := congrArg Prod.snd hw
          dsimp only at e1 e2
          subst e1
          subst e2
          obtain ⟨hP1, hK1, hD1⟩ := hB
          rw [ht] at hP1
          obtain ⟨hP, hD⟩ := va_join (wr := [(a_d, .inr (1, [.int z5.2.2.2.2.2.1, .int z5.2.2.2.2.2.2.1])), (a_p, .inr (2, [.ref a_pb, .ref a_pf, .int z2.1])), (a_pb, .inl (cI, 16, .inl z2.2.1)), (a_pf, .inl (cI, 18, .inl z2.2.2)), (a_rb, .inl (cI, N, .inl z5.2.2.2.2.2.2.2.2.1)), (a_rz, .inl (cZ, N, .inl z5.2.2.2.2.2.2.2.2.2.2.1)), (a_rh, .inl (cJ, N, .inr (.inl z5.2.2.2.2.2.2.2.2.2.2.2.1))), (a_rl, .inl (cJ, N, .inr (.inl z5.2.2.2.2.2.2.2.2.2.2.2.2.1))), (a_st, .inl (cI, n, .inl z5.2.2.2.2.2.2.2.2.2.2.2.2.2.1)), (a_pl, .inl (cI, 16, .inl z5.2.2.2.2.2.2.2.2.2.2.2.2.2.2))]) (w1 := [(a_u, .inr (0, [.ref a_d, .ref a_p, .ref a_r, .ref a_c, .ref a_st, .ref a_pl, .int z5.2.1, .int z5.2.2.1, .int z5.2.2.2.1, .int z5.2.2.2.2.1, .int z6.2.1])), (a_r, .inr (3, [.ref a_rs, .ref a_rb, .ref a_ru, .ref a_rz, .ref a_rh, .ref a_rl])), (a_rs, .inl (cI, N, .inl z6.2.2)), (a_ru, .inl (cI, N, .inl z5.2.2.2.2.2.2.2.2.2.1))]) hP hD [0, 5, 6, 8] [1, 2, 3, 4, 7, 9, 10, 11, 12, 13] rfl rfl (by decide) (by decide) hk1 hFc hP1 hD1
          have hP := hP.sub (ws' := [(a_u, .inr (0, [.ref a_d, .ref a_p, .ref a_r, .ref a_c, .ref a_st, .ref a_pl, .int z5.2.1, .int z5.2.2.1, .int z5.2.2.2.1, .int z5.2.2.2.2.1, .int z6.2.1])), (a_d, .inr (1, [.int z5.2.2.2.2.2.1, .int z5.2.2.2.2.2.2.1])), (a_p, .inr (2, [.ref a_pb, .ref a_pf, .int z2.1])), (a_pb, .inl (cI, 16, .inl z2.2.1)), (a_pf, .inl (cI, 18, .inl z2.2.2)), (a_r, .inr (3, [.ref a_rs, .ref a_rb, .ref a_ru, .ref a_rz, .ref a_rh, .ref a_rl])), (a_rs, .inl (cI, N, .inl z6.2.2)), (a_rb, .inl (cI, N, .inl z5.2.2.2.2.2.2.2.2.1)), (a_ru, .inl (cI, N, .inl z5.2.2.2.2.2.2.2.2.2.1)), (a_rz, .inl (cZ, N, .inl z5.2.2.2.2.2.2.2.2.2.2.1)), (a_rh, .inl (cJ, N, .inr (.inl z5.2.2.2.2.2.2.2.2.2.2.2.1))), (a_rl, .inl (cJ, N, .inr (.inl z5.2.2.2.2.2.2.2.2.2.2.2.2.1))), (a_st, .inl (cI, n, .inl z5.2.2.2.2.2.2.2.2.2.2.2.2.2.1)), (a_pl, .inl (cI, 16, .inl z5.2.2.2.2.2.2.2.2.2.2.2.2.2.2))]) [10, 0, 1, 2, 3, 11, 12, 4, 13, 5, 6, 7, 8, 9] rfl
          have hD := hD.sub (ws' := [(a_u, .inr (0, [.ref a_d, .ref a_p, .ref a_r, .ref a_c, .ref a_st, .ref a_pl, .int z5.2.1, .int z5.2.2.1, .int z5.2.2.2.1, .int z5.2.2.2.2.1, .int z6.2.1])), (a_d, .inr (1, [.int z5.2.2.2.2.2.1, .int z5.2.2.2.2.2.2.1])), (a_p, .inr (2, [.ref a_pb, .ref a_pf, .int z2.1])), (a_pb, .inl (cI, 16, .inl z2.2.1)), (a_pf, .inl (cI, 18, .inl z2.2.2)), (a_r, .inr (3, [.ref a_rs, .ref a_rb, .ref a_ru, .ref a_rz, .ref a_rh, .ref a_rl])), (a_rs, .inl (cI, N, .inl z6.2.2)), (a_rb, .inl (cI, N, .inl z5.2.2.2.2.2.2.2.2.1)), (a_ru, .inl (cI, N, .inl z5.2.2.2.2.2.2.2.2.2.1)), (a_rz, .inl (cZ, N, .inl z5.2.2.2.2.2.2.2.2.2.2.1)), (a_rh, .inl (cJ, N, .inr (.inl z5.2.2.2.2.2.2.2.2.2.2.2.1))), (a_rl, .inl (cJ, N, .inr (.inl z5.2.2.2.2.2.2.2.2.2.2.2.2.1))), (a_st, .inl (cI, n, .inl z5.2.2.2.2.2.2.2.2.2.2.2.2.2.1)), (a_pl, .inl (cI, 16, .inl z5.2.2.2.2.2.2.2.2.2.2.2.2.2.2))]) [10, 0, 1, 2, 3, 11, 12, 4, 13, 5, 6, 7, 8, 9] (by decide) rfl
          have hP : va_P (dC, dI) classes [(a_u, .inr (0, [.ref a_d, .ref a_p, .ref a_r, .ref a_c, .ref a_st, .ref a_pl, .int z5.2.1, .int z5.2.2.1, .int z5.2.2.2.1, .int z5.2.2.2.2.1, .int z6.2.1])), (a_d, .inr (1, [.int z5.2.2.2.2.2.1, .int z5.2.2.2.2.2.2.1])), (a_p, .inr (2, [.ref a_pb, .ref a_pf, .int z2.1])), (a_pb, .inl (cI, 16, .inl z2.2.1)), (a_pf, .inl (cI, 18, .inl z2.2.2)), (a_r, .inr (3, [.ref a_rs, .ref a_rb, .ref a_ru, .ref a_rz, .ref a_rh, .ref a_rl])), (a_rs, .inl (cI, N, .inl z6.2.2)), (a_rb, .inl (cI, N, .inl z5.2.2.2.2.2.2.2.2.1)), (a_ru, .inl (cI, N, .inl z5.2.2.2.2.2.2.2.2.2.1)), (a_rz, .inl (cZ, N, .inl z5.2.2.2.2.2.2.2.2.2.2.1)), (a_rh, .inl (cJ, N, .inr (.inl z5.2.2.2.2.2.2.2.2.2.2.2.1))), (a_rl, .inl (cJ, N, .inr (.inl z5.2.2.2.2.2.2.2.2.2.2.2.2.1))), (a_st, .inl (cI, n, .inl z5.2.2.2.2.2.2.2.2.2.2.2.2.2.1)), (a_pl, .inl (cI, 16, .inl z5.2.2.2.2.2.2.2.2.2.2.2.2.2.2))] H := hP
          have hD : va_D A [(a_u, .inr (0, [.ref a_d, .ref a_p, .ref a_r, .ref a_c, .ref a_st, .ref a_pl, .int z5.2.1, .int z5.2.2.1, .int z5.2.2.2.1, .int z5.2.2.2.2.1, .int z6.2.1])), (a_d, .inr (1, [.int z5.2.2.2.2.2.1, .int z5.2.2.2.2.2.2.1])), (a_p, .inr (2, [.ref a_pb, .ref a_pf, .int z2.1])), (a_pb, .inl (cI, 16, .inl z2.2.1)), (a_pf, .inl (cI, 18, .inl z2.2.2)), (a_r, .inr (3, [.ref a_rs, .ref a_rb, .ref a_ru, .ref a_rz, .ref a_rh, .ref a_rl])), (a_rs, .inl (cI, N, .inl z6.2.2)), (a_rb, .inl (cI, N, .inl z5.2.2.2.2.2.2.2.2.1)), (a_ru, .inl (cI, N, .inl z5.2.2.2.2.2.2.2.2.2.1)), (a_rz, .inl (cZ, N, .inl z5.2.2.2.2.2.2.2.2.2.2.1)), (a_rh, .inl (cJ, N, .inr (.inl z5.2.2.2.2.2.2.2.2.2.2.2.1))), (a_rl, .inl (cJ, N, .inr (.inl z5.2.2.2.2.2.2.2.2.2.2.2.2.1))), (a_st, .inl (cI, n, .inl z5.2.2.2.2.2.2.2.2.2.2.2.2.2.1)), (a_pl, .inl (cI, 16, .inl z5.2.2.2.2.2.2.2.2.2.2.2.2.2.2))] := hD
          exact W.iret (v := z6.1) hx hb hr (fun t ht hW => ⟨⟨z6.1, (z5.2.1, z5.2.2.1, z5.2.2.2.1, z5.2.2.2.2.1, z6.2.1, z5.2.2.2.2.2.1, z5.2.2.2.2.2.2.1, z2.1, z2.2.1, z2.2.2, z6.2.2, z5.2.2.2.2.2.2.2.2.1, z5.2.2.2.2.2.2.2.2.2.1, z5.2.2.2.2.2.2.2.2.2.2.1, z5.2.2.2.2.2.2.2.2.2.2.2.1, z5.2.2.2.2.2.2.2.2.2.2.2.2.1, z5.2.2.2.2.2.2.2.2.2.2.2.2.2.1, z5.2.2.2.2.2.2.2.2.2.2.2.2.2.2), rfl, (Option.some.inj h).symm, by rw [ht]; exact hP, va_K.moved hW.alike hK, hD⟩, hS.F ht⟩) hS.2.2 d_U_write_73
        · have h := ck_f hc h
          refine lv_iload hx hb d_U_write_64 (lv_at hl 0 rfl) ?_
          refine lv_goto (tgt := 73) hx hb d_U_write_66 (by decide) ?_
          exact W.iret (v := z3) hx hb hr (fun t ht hW => ⟨⟨z3, (z5.2.1, z5.2.2.1, z5.2.2.2.1, z5.2.2.2.2.1, uDown, z5.2.2.2.2.2.1, z5.2.2.2.2.2.2.1, z2.1, z2.2.1, z2.2.2, z5.2.2.2.2.2.2.2.1, z5.2.2.2.2.2.2.2.2.1, z5.2.2.2.2.2.2.2.2.2.1, z5.2.2.2.2.2.2.2.2.2.2.1, z5.2.2.2.2.2.2.2.2.2.2.2.1, z5.2.2.2.2.2.2.2.2.2.2.2.2.1, z5.2.2.2.2.2.2.2.2.2.2.2.2.2.1, z5.2.2.2.2.2.2.2.2.2.2.2.2.2.2), rfl, (Option.some.inj h).symm, by rw [ht]; exact hP, va_K.moved hW.alike hK, hD⟩, hS.F ht⟩) hS.2.2 d_U_write_73
      · have h := ck_t hc h
        refine lv_bipush (v := (-3 : Int32)) hx hb d_U_write_47 (by decide) ?_
        exact W.iret (v := (-3 : Int32)) hx hb hr (fun t ht hW => ⟨⟨(-3 : Int32), (uOpen, uFill, uSaved, uSerial, uDown, uArmed, uWritten, z2.1, z2.2.1, z2.2.2, uSers, uBlks, uUnts, uStos, uHis, uLos, uSts, uPlcs), rfl, (Option.some.inj h).symm, by rw [ht]; exact hP, va_K.moved hW.alike hK, hD⟩, hS.F ht⟩) hS.2.2 d_U_write_49
    · have h := ck_t hc h
      refine lv_iconst (v := (-1 : Int32)) hx hb d_U_write_17 (by decide) ?_
      exact W.iret (v := (-1 : Int32)) hx hb hr (fun t ht hW => ⟨⟨(-1 : Int32), (uOpen, uFill, uSaved, uSerial, uDown, uArmed, uWritten, uSize, uBytes, uForm, uSers, uBlks, uUnts, uStos, uHis, uLos, uSts, uPlcs), rfl, (Option.some.inj h).symm, by rw [ht]; exact hP, va_K.moved hW.alike hK, hD⟩, hS.F ht⟩) hS.2.2 d_U_write_18
  · have h := ck_f hc h
    refine lv_bipush (v := (-4 : Int32)) hx hb d_U_write_7 (by decide) ?_
    exact W.iret (v := (-4 : Int32)) hx hb hr (fun t ht hW => ⟨⟨(-4 : Int32), (uOpen, uFill, uSaved, uSerial, uDown, uArmed, uWritten, uSize, uBytes, uForm, uSers, uBlks, uUnts, uStos, uHis, uLos, uSts, uPlcs), rfl, (Option.some.inj h).symm, by rw [ht]; exact hP, va_K.moved hW.alike hK, hD⟩, hS.F ht⟩) hS.2.2 d_U_write_9
