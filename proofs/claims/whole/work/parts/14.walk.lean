set_option maxHeartbeats 4000000 in
set_option maxRecDepth 100000 in
theorem c_U_arm (l : Launch) (dC : Nat → ClassId) (dI : Nat → Nat → Nat) (cI cZ cJ : ClassId) (a_u a_d a_p a_pb a_pf a_r a_rs a_rb a_ru a_rz a_rh a_rl a_c a_cp a_st a_pl : Nat) (sz n N : Nat) (uOpen : Int32) (uFill : Int32) (uSaved : Int32) (uSerial : Int32) (uDown : Int32) (uArmed : Int32) (uWritten : Int32) (x1 : Int32) (res : Int32 × Int32) (hM : U_arm uDown uArmed x1 = some res) : Met l y_U_arm w_U_arm ({ frames := 0, cells := 0, slots := 0, locals := 0 }) (va_Pc [.ref a_u, .int x1] (fun U => U.heap.size = sz ∧ va_P (dC, dI) classes [(a_u, .inr (0, [.ref a_d, .ref a_p, .ref a_r, .ref a_c, .ref a_st, .ref a_pl, .int uOpen, .int uFill, .int uSaved, .int uSerial, .int uDown])), (a_d, .inr (1, [.int uArmed, .int uWritten]))] U.heap ∧ va_K (dC, dI) classes [(cI, .int), (cZ, .boolean), (cJ, .long)] U ∧ va_D (fun _ => True) [(a_u, .inr (0, [.ref a_d, .ref a_p, .ref a_r, .ref a_c, .ref a_st, .ref a_pl, .int uOpen, .int uFill, .int uSaved, .int uSerial, .int uDown])), (a_d, .inr (1, [.int uArmed, .int uWritten]))] ∧ Ns U)) (va_Qi (fun (r : Int32) (z : Int32) => res = (r, z)) (fun (z : Int32) (t : State) => va_P (dC, dI) classes [(a_u, .inr (0, [.ref a_d, .ref a_p, .ref a_r, .ref a_c, .ref a_st, .ref a_pl, .int uOpen, .int uFill, .int uSaved, .int uSerial, .int uDown])), (a_d, .inr (1, [.int z, .int uWritten]))] t.heap ∧ va_K (dC, dI) classes [(cI, .int), (cZ, .boolean), (cJ, .long)] t ∧ va_D (va_A [(a_u, .inr (0, [.ref a_d, .ref a_p, .ref a_r, .ref a_c, .ref a_st, .ref a_pl, .int uOpen, .int uFill, .int uSaved, .int uSerial, .int uDown])), (a_d, .inr (1, [.int uArmed, .int uWritten]))] sz) [(a_u, .inr (0, [.ref a_d, .ref a_p, .ref a_r, .ref a_c, .ref a_st, .ref a_pl, .int uOpen, .int uFill, .int uSaved, .int uSerial, .int uDown])), (a_d, .inr (1, [.int z, .int uWritten]))]) (va_A [(a_u, .inr (0, [.ref a_d, .ref a_p, .ref a_r, .ref a_c, .ref a_st, .ref a_pl, .int uOpen, .int uFill, .int uSaved, .int uSerial, .int uDown])), (a_d, .inr (1, [.int uArmed, .int uWritten]))] sz)) 0 0 (va_A [(a_u, .inr (0, [.ref a_d, .ref a_p, .ref a_r, .ref a_c, .ref a_st, .ref a_pl, .int uOpen, .int uFill, .int uSaved, .int uSerial, .int uDown])), (a_d, .inr (1, [.int uArmed, .int uWritten]))] sz) := by
  refine Met.ofW (cc := b_U_arm) (maxL := 2) (ret := (some .boolean)) (by decide) rfl ?_
  intro p e s m args below meth c s₁ B hml hv
  obtain ⟨rfl, hsz, hP, hK, hD0, hN⟩ := hv
  have hx := B.exec
  have hb := B.bytes
  have hr := B.returns
  have hts := atoms_spec (ws := w_U_arm) B.pre
  have htT : ∀ w ∈ lwG, w.before _ s = true := fun w h => hts w (List.mem_cons_of_mem _ h)
  have hown : s.vm.findClass R_U = some m.cls := findClass_of_methodNamed B.named
  have hlocks := B.notSynchronized
  subst hsz
  have hD := hD0.self (sz := s.heap.size)
  generalize hAe : va_A [(a_u, .inr (0, [.ref a_d, .ref a_p, .ref a_r, .ref a_c, .ref a_st, .ref a_pl, .int uOpen, .int uFill, .int uSaved, .int uSerial, .int uDown])), (a_d, .inr (1, [.int uArmed, .int uWritten]))] s.heap.size = A at hD ⊢
  have hA : ∀ q : Nat, s.heap.size ≤ q → A q := fun q h => by rw [← hAe]; exact Or.inr h
  have hS : va_S A s.heap s.heap [] := va_S.rf
  have hP : va_P (dC, dI) classes [(a_u, .inr (0, [.ref a_d, .ref a_p, .ref a_r, .ref a_c, .ref a_st, .ref a_pl, .int uOpen, .int uFill, .int uSaved, .int uSerial, .int uDown])), (a_d, .inr (1, [.int uArmed, .int uWritten]))] s.heap := hP
  have hl := lv_entry ([.ref a_u, .int x1]) (n := 2) (Nat.le_of_ble_eq_true rfl)
  rw [lg_entry_eq]
  generalize (lg_sl ([.ref a_u, .int x1]) ++ List.replicate (2 - (lg_sl ([.ref a_u, .int x1])).length) Slot.unset).toArray = ls at hl ⊢
  have hl : lv_has ls 2 [(0, .ref a_u), (1, .int x1)] := hl
  have h := hM
  rw [U_arm] at h
  refine lv_aload_n hx hb d_U_arm_0 rfl (lv_at hl 0 rfl) ?_
  refine va_get (D := (dC, dI)) (ci := 0) (v := .int uDown) (C := R_U) (T := F_U) (N := 11) hx hb htT i_U hown hK hP 0 rfl rfl 10 (by decide) (htT _ kf_U_61) (fun _ h9 => h9) rfl d_U_arm_1 ?_
  refine lv_if_ne (tgt := 18) hx hb d_U_arm_4 (by decide) (fun hc => ?_) (fun hc => ?_)
  · have h := ck_f hc h
    refine lv_iconst (v := (0 : Int32)) hx hb d_U_arm_18 (by decide) ?_
    exact W.zret (v := (0 : Int32)) hx hb hr rfl (fun t ht hW => ⟨⟨(0 : Int32), (uArmed), rfl, (Option.some.inj h).symm, by rw [ht]; exact hP, va_K.moved hW.alike hK, hD⟩, hS.F ht⟩) hS.2.2 d_U_arm_19
  · have h := ck_t hc h
    refine lv_iload_n hx hb d_U_arm_7 rfl (lv_at hl 1 rfl) ?_
    refine lv_if_lt (tgt := 18) hx hb d_U_arm_8 (by decide) (fun hc => ?_) (fun hc => ?_)
    · have h := ck_t hc h
      refine lv_iconst (v := (0 : Int32)) hx hb d_U_arm_18 (by decide) ?_
      exact W.zret (v := (0 : Int32)) hx hb hr rfl (fun t ht hW => ⟨⟨(0 : Int32), (uArmed), rfl, (Option.some.inj h).symm, by rw [ht]; exact hP, va_K.moved hW.alike hK, hD⟩, hS.F ht⟩) hS.2.2 d_U_arm_19
    · have h := ck_f hc h
      refine lv_iload_n hx hb d_U_arm_11 rfl (lv_at hl 1 rfl) ?_
      refine lv_sipush (v := (10000 : Int32)) hx hb d_U_arm_12 (by decide) ?_
      refine lv_icmp_le (tgt := 20) hx hb d_U_arm_15 (by decide) (fun hc => ?_) (fun hc => ?_)
      · have h := ck_t hc h
        refine lv_aload_n hx hb d_U_arm_20 rfl (lv_at hl 0 rfl) ?_
        refine va_get (D := (dC, dI)) (ci := 0) (v := .ref a_d) (C := R_U) (T := F_U) (N := 11) hx hb htT i_U hown hK hP 0 rfl rfl 0 (by decide) (htT _ kf_U_21) (fun _ h9 => h9) rfl d_U_arm_21 ?_
        refine lv_iload_n hx hb d_U_arm_24 rfl (lv_at hl 1 rfl) ?_
        refine va_putN (D := (dC, dI)) (ci := 1) (v := .int x1) (ty := .int) (C := R_D) (T := F_D) (N := 2) hx hb htT i_D t_D t_D_ok n_D hown hK hP hD hS 1 rfl rfl 0 (by decide) (va_Nw.use rfl (hN _ kf_U_126)) (fun _ h9 => h9) rfl (by decide +kernel) rfl rfl (Nat.le_of_ble_eq_true rfl) d_U_arm_25 (fun H locs hP hD hS => ?_)
        have hP : va_P (dC, dI) classes [(a_u, .inr (0, [.ref a_d, .ref a_p, .ref a_r, .ref a_c, .ref a_st, .ref a_pl, .int uOpen, .int uFill, .int uSaved, .int uSerial, .int uDown])), (a_d, .inr (1, [.int x1, .int uWritten]))] H := hP
        have hD : va_D A [(a_u, .inr (0, [.ref a_d, .ref a_p, .ref a_r, .ref a_c, .ref a_st, .ref a_pl, .int uOpen, .int uFill, .int uSaved, .int uSerial, .int uDown])), (a_d, .inr (1, [.int x1, .int uWritten]))] := hD
        refine lv_iconst (v := (1 : Int32)) hx hb d_U_arm_28 (by decide) ?_
        exact W.zret (v := (1 : Int32)) hx hb hr rfl (fun t ht hW => ⟨⟨(1 : Int32), (x1), rfl, (Option.some.inj h).symm, by rw [ht]; exact hP, va_K.moved hW.alike hK, hD⟩, hS.F ht⟩) hS.2.2 d_U_arm_29
      · have h := ck_f hc h
        refine lv_iconst (v := (0 : Int32)) hx hb d_U_arm_18 (by decide) ?_
        exact W.zret (v := (0 : Int32)) hx hb hr rfl (fun t ht hW => ⟨⟨(0 : Int32), (uArmed), rfl, (Option.some.inj h).symm, by rw [ht]; exact hP, va_K.moved hW.alike hK, hD⟩, hS.F ht⟩) hS.2.2 d_U_arm_19
set_option maxHeartbeats 4000000 in
set_option maxRecDepth 100000 in
theorem c_U_disarm (l : Launch) (dC : Nat → ClassId) (dI : Nat → Nat → Nat) (cI cZ cJ : ClassId) (a_u a_d a_p a_pb a_pf a_r a_rs a_rb a_ru a_rz a_rh a_rl a_c a_cp a_st a_pl : Nat) (sz n N : Nat) (uOpen : Int32) (uFill : Int32) (uSaved : Int32) (uSerial : Int32) (uDown : Int32) (uArmed : Int32) (uWritten : Int32)  (res : Int32 × Int32) (hM : U_disarm uDown uArmed = some res) : Met l y_U_disarm w_U_disarm ({ frames := 0, cells := 0, slots := 0, locals := 0 }) (va_Pc [.ref a_u] (fun U => U.heap.size = sz ∧ va_P (dC, dI) classes [(a_u, .inr (0, [.ref a_d, .ref a_p, .ref a_r, .ref a_c, .ref a_st, .ref a_pl, .int uOpen, .int uFill, .int uSaved, .int uSerial, .int uDown])), (a_d, .inr (1, [.int uArmed, .int uWritten]))] U.heap ∧ va_K (dC, dI) classes [(cI, .int), (cZ, .boolean), (cJ, .long)] U ∧ va_D (fun _ => True) [(a_u, .inr (0, [.ref a_d, .ref a_p, .ref a_r, .ref a_c, .ref a_st, .ref a_pl, .int uOpen, .int uFill, .int uSaved, .int uSerial, .int uDown])), (a_d, .inr (1, [.int uArmed, .int uWritten]))] ∧ Ns U)) (va_Qi (fun (r : Int32) (z : Int32) => res = (r, z)) (fun (z : Int32) (t : State) => va_P (dC, dI) classes [(a_u, .inr (0, [.ref a_d, .ref a_p, .ref a_r, .ref a_c, .ref a_st, .ref a_pl, .int uOpen, .int uFill, .int uSaved, .int uSerial, .int uDown])), (a_d, .inr (1, [.int z, .int uWritten]))] t.heap ∧ va_K (dC, dI) classes [(cI, .int), (cZ, .boolean), (cJ, .long)] t ∧ va_D (va_A [(a_u, .inr (0, [.ref a_d, .ref a_p, .ref a_r, .ref a_c, .ref a_st, .ref a_pl, .int uOpen, .int uFill, .int uSaved, .int uSerial, .int uDown])), (a_d, .inr (1, [.int uArmed, .int uWritten]))] sz) [(a_u, .inr (0, [.ref a_d, .ref a_p, .ref a_r, .ref a_c, .ref a_st, .ref a_pl, .int uOpen, .int uFill, .int uSaved, .int uSerial, .int uDown])), (a_d, .inr (1, [.int z, .int uWritten]))]) (va_A [(a_u, .inr (0, [.ref a_d, .ref a_p, .ref a_r, .ref a_c, .ref a_st, .ref a_pl, .int uOpen, .int uFill, .int uSaved, .int uSerial, .int uDown])), (a_d, .inr (1, [.int uArmed, .int uWritten]))] sz)) 0 0 (va_A [(a_u, .inr (0, [.ref a_d, .ref a_p, .ref a_r, .ref a_c, .ref a_st, .ref a_pl, .int uOpen, .int uFill, .int uSaved, .int uSerial, .int uDown])), (a_d, .inr (1, [.int uArmed, .int uWritten]))] sz) := by
  refine Met.ofW (cc := b_U_disarm) (maxL := 1) (ret := (some .boolean)) (by decide) rfl ?_
  intro p e s m args below meth c s₁ B hml hv
  obtain ⟨rfl, hsz, hP, hK, hD0, hN⟩ := hv
  have hx := B.exec
  have hb := B.bytes
  have hr := B.returns
  have hts := atoms_spec (ws := w_U_disarm) B.pre
  have htT : ∀ w ∈ lwG, w.before _ s = true := fun w h => hts w (List.mem_cons_of_mem _ h)
  have hown : s.vm.findClass R_U = some m.cls := findClass_of_methodNamed B.named
  have hlocks := B.notSynchronized
  subst hsz
  have hD := hD0.self (sz := s.heap.size)
  generalize hAe : va_A [(a_u, .inr (0, [.ref a_d, .ref a_p, .ref a_r, .ref a_c, .ref a_st, .ref a_pl, .int uOpen, .int uFill, .int uSaved, .int uSerial, .int uDown])), (a_d, .inr (1, [.int uArmed, .int uWritten]))] s.heap.size = A at hD ⊢
  have hA : ∀ q : Nat, s.heap.size ≤ q → A q := fun q h => by rw [← hAe]; exact Or.inr h
  have hS : va_S A s.heap s.heap [] := va_S.rf
  have hP : va_P (dC, dI) classes [(a_u, .inr (0, [.ref a_d, .ref a_p, .ref a_r, .ref a_c, .ref a_st, .ref a_pl, .int uOpen, .int uFill, .int uSaved, .int uSerial, .int uDown])), (a_d, .inr (1, [.int uArmed, .int uWritten]))] s.heap := hP
  have hl := lv_entry ([.ref a_u]) (n := 1) (Nat.le_of_ble_eq_true rfl)
  rw [lg_entry_eq]
  generalize (lg_sl ([.ref a_u]) ++ List.replicate (1 - (lg_sl ([.ref a_u])).length) Slot.unset).toArray = ls at hl ⊢
  have hl : lv_has ls 1 [(0, .ref a_u)] := hl
  have h := hM
  rw [U_disarm] at h
  refine lv_aload_n hx hb d_U_disarm_0 rfl (lv_at hl 0 rfl) ?_
  refine va_get (D := (dC, dI)) (ci := 0) (v := .int uDown) (C := R_U) (T := F_U) (N := 11) hx hb htT i_U hown hK hP 0 rfl rfl 10 (by decide) (htT _ kf_U_61) (fun _ h9 => h9) rfl d_U_disarm_1 ?_
  refine lv_if_ne (tgt := 18) hx hb d_U_disarm_4 (by decide) (fun hc => ?_) (fun hc => ?_)
  · have h := ck_f hc h
    refine lv_iconst (v := (0 : Int32)) hx hb d_U_disarm_18 (by decide) ?_
    exact W.zret (v := (0 : Int32)) hx hb hr rfl (fun t ht hW => ⟨⟨(0 : Int32), (uArmed), rfl, (Option.some.inj h).symm, by rw [ht]; exact hP, va_K.moved hW.alike hK, hD⟩, hS.F ht⟩) hS.2.2 d_U_disarm_19
  · have h := ck_t hc h
    refine lv_aload_n hx hb d_U_disarm_7 rfl (lv_at hl 0 rfl) ?_
    refine va_get (D := (dC, dI)) (ci := 0) (v := .ref a_d) (C := R_U) (T := F_U) (N := 11) hx hb htT i_U hown hK hP 0 rfl rfl 0 (by decide) (htT _ kf_U_21) (fun _ h9 => h9) rfl d_U_disarm_8 ?_
    refine va_getN (D := (dC, dI)) (ci := 1) (v := .int uArmed) (C := R_D) (T := F_D) (N := 2) hx hb htT i_D hown hK hP 1 rfl rfl 0 (by decide) (va_Nw.use rfl (hN _ kf_U_126)) (fun _ h9 => h9) rfl d_U_disarm_11 ?_
    refine lv_iconst (v := (-1 : Int32)) hx hb d_U_disarm_14 (by decide) ?_
    refine lv_icmp_ne (tgt := 20) hx hb d_U_disarm_15 (by decide) (fun hc => ?_) (fun hc => ?_)
    · have h := ck_f hc h
      refine lv_aload_n hx hb d_U_disarm_20 rfl (lv_at hl 0 rfl) ?_
      refine va_get (D := (dC, dI)) (ci := 0) (v := .ref a_d) (C := R_U) (T := F_U) (N := 11) hx hb htT i_U hown hK hP 0 rfl rfl 0 (by decide) (htT _ kf_U_21) (fun _ h9 => h9) rfl d_U_disarm_21 ?_
      refine lv_iconst (v := (-1 : Int32)) hx hb d_U_disarm_24 (by decide) ?_
      refine va_putN (D := (dC, dI)) (ci := 1) (v := .int (-1 : Int32)) (ty := .int) (C := R_D) (T := F_D) (N := 2) hx hb htT i_D t_D t_D_ok n_D hown hK hP hD hS 1 rfl rfl 0 (by decide) (va_Nw.use rfl (hN _ kf_U_126)) (fun _ h9 => h9) rfl (by decide +kernel) rfl rfl (Nat.le_of_ble_eq_true rfl) d_U_disarm_25 (fun H locs hP hD hS => ?_)
      have hP : va_P (dC, dI) classes [(a_u, .inr (0, [.ref a_d, .ref a_p, .ref a_r, .ref a_c, .ref a_st, .ref a_pl, .int uOpen, .int uFill, .int uSaved, .int uSerial, .int uDown])), (a_d, .inr (1, [.int (-1 : Int32), .int uWritten]))] H := hP
      have hD : va_D A [(a_u, .inr (0, [.ref a_d, .ref a_p, .ref a_r, .ref a_c, .ref a_st, .ref a_pl, .int uOpen, .int uFill, .int uSaved, .int uSerial, .int uDown])), (a_d, .inr (1, [.int (-1 : Int32), .int uWritten]))] := hD
      refine lv_iconst (v := (1 : Int32)) hx hb d_U_disarm_28 (by decide) ?_
      exact W.zret (v := (1 : Int32)) hx hb hr rfl (fun t ht hW => ⟨⟨(1 : Int32), ((-1 : Int32)), rfl, (Option.some.inj h).symm, by rw [ht]; exact hP, va_K.moved hW.alike hK, hD⟩, hS.F ht⟩) hS.2.2 d_U_disarm_29
    · have h := ck_t hc h
      refine lv_iconst (v := (0 : Int32)) hx hb d_U_disarm_18 (by decide) ?_
      exact W.zret (v := (0 : Int32)) hx hb hr rfl (fun t ht hW => ⟨⟨(0 : Int32), (uArmed), rfl, (Option.some.inj h).symm, by rw [ht]; exact hP, va_K.moved hW.alike hK, hD⟩, hS.F ht⟩) hS.2.2 d_U_disarm_19
set_option maxHeartbeats 4000000 in
set_option maxRecDepth 100000 in
theorem c_U_crash (l : Launch) (dC : Nat → ClassId) (dI : Nat → Nat → Nat) (cI cZ cJ : ClassId) (a_u a_d a_p a_pb a_pf a_r a_rs a_rb a_ru a_rz a_rh a_rl a_c a_cp a_st a_pl : Nat) (sz n N : Nat) (uOpen : Int32) (uFill : Int32) (uSaved : Int32) (uSerial : Int32) (uDown : Int32) (uSers : Nat → Int32) (uUnts : Nat → Int32)  (res : Int32 × Int32 × (Nat → Int32)) (hM : U_crash N uOpen uSaved uDown uSers uUnts = some res) : Met l y_U_crash w_U_crash ({ frames := 2, cells := 0, slots := 0, locals := 44 }) (va_Pc [.ref a_u] (fun U => U.heap.size = sz ∧ va_P (dC, dI) classes [(a_u, .inr (0, [.ref a_d, .ref a_p, .ref a_r, .ref a_c, .ref a_st, .ref a_pl, .int uOpen, .int uFill, .int uSaved, .int uSerial, .int uDown])), (a_r, .inr (3, [.ref a_rs, .ref a_rb, .ref a_ru, .ref a_rz, .ref a_rh, .ref a_rl])), (a_rs, .inl (cI, N, .inl uSers)), (a_ru, .inl (cI, N, .inl uUnts))] U.heap ∧ va_K (dC, dI) classes [(cI, .int), (cZ, .boolean), (cJ, .long)] U ∧ va_D (fun _ => True) [(a_u, .inr (0, [.ref a_d, .ref a_p, .ref a_r, .ref a_c, .ref a_st, .ref a_pl, .int uOpen, .int uFill, .int uSaved, .int uSerial, .int uDown])), (a_r, .inr (3, [.ref a_rs, .ref a_rb, .ref a_ru, .ref a_rz, .ref a_rh, .ref a_rl])), (a_rs, .inl (cI, N, .inl uSers)), (a_ru, .inl (cI, N, .inl uUnts))] ∧ Ns U)) (va_Qi (fun (r : Int32) (z : Int32 × (Nat → Int32)) => res = (r, z)) (fun (z : Int32 × (Nat → Int32)) (t : State) => va_P (dC, dI) classes [(a_u, .inr (0, [.ref a_d, .ref a_p, .ref a_r, .ref a_c, .ref a_st, .ref a_pl, .int uOpen, .int uFill, .int uSaved, .int uSerial, .int z.1])), (a_r, .inr (3, [.ref a_rs, .ref a_rb, .ref a_ru, .ref a_rz, .ref a_rh, .ref a_rl])), (a_rs, .inl (cI, N, .inl z.2)), (a_ru, .inl (cI, N, .inl uUnts))] t.heap ∧ va_K (dC, dI) classes [(cI, .int), (cZ, .boolean), (cJ, .long)] t ∧ va_D (va_A [(a_u, .inr (0, [.ref a_d, .ref a_p, .ref a_r, .ref a_c, .ref a_st, .ref a_pl, .int uOpen, .int uFill, .int uSaved, .int uSerial, .int uDown])), (a_r, .inr (3, [.ref a_rs, .ref a_rb, .ref a_ru, .ref a_rz, .ref a_rh, .ref a_rl])), (a_rs, .inl (cI, N, .inl uSers)), (a_ru, .inl (cI, N, .inl uUnts))] sz) [(a_u, .inr (0, [.ref a_d, .ref a_p, .ref a_r, .ref a_c, .ref a_st, .ref a_pl, .int uOpen, .int uFill, .int uSaved, .int uSerial, .int z.1])), (a_r, .inr (3, [.ref a_rs, .ref a_rb, .ref a_ru, .ref a_rz, .ref a_rh, .ref a_rl])), (a_rs, .inl (cI, N, .inl z.2)), (a_ru, .inl (cI, N, .inl uUnts))]) (va_A [(a_u, .inr (0, [.ref a_d, .ref a_p, .ref a_r, .ref a_c, .ref a_st, .ref a_pl, .int uOpen, .int uFill, .int uSaved, .int uSerial, .int uDown])), (a_r, .inr (3, [.ref a_rs, .ref a_rb, .ref a_ru, .ref a_rz, .ref a_rh, .ref a_rl])), (a_rs, .inl (cI, N, .inl uSers)), (a_ru, .inl (cI, N, .inl uUnts))] sz)) 0 0 (va_A [(a_u, .inr (0, [.ref a_d, .ref a_p, .ref a_r, .ref a_c, .ref a_st, .ref a_pl, .int uOpen, .int uFill, .int uSaved, .int uSerial, .int uDown])), (a_r, .inr (3, [.ref a_rs, .ref a_rb, .ref a_ru, .ref a_rz, .ref a_rh, .ref a_rl])), (a_rs, .inl (cI, N, .inl uSers)), (a_ru, .inl (cI, N, .inl uUnts))] sz) := by
  refine Met.ofW (cc := b_U_crash) (maxL := 1) (ret := (some .boolean)) (by decide) rfl ?_
  intro p e s m args below meth c s₁ B hml hv
  obtain ⟨rfl, hsz, hP, hK, hD0, hN⟩ := hv
  have hx := B.exec
  have hb := B.bytes
  have hr := B.returns
  have hts := atoms_spec (ws := w_U_crash) B.pre
  have htT : ∀ w ∈ lwG, w.before _ s = true := fun w h => hts w (List.mem_cons_of_mem _ h)
  have hown : s.vm.findClass R_U = some m.cls := findClass_of_methodNamed B.named
  have hlocks := B.notSynchronized
  subst hsz
  have hD := hD0.self (sz := s.heap.size)
  generalize hAe : va_A [(a_u, .inr (0, [.ref a_d, .ref a_p, .ref a_r, .ref a_c, .ref a_st, .ref a_pl, .int uOpen, .int uFill, .int uSaved, .int uSerial, .int uDown])), (a_r, .inr (3, [.ref a_rs, .ref a_rb, .ref a_ru, .ref a_rz, .ref a_rh, .ref a_rl])), (a_rs, .inl (cI, N, .inl uSers)), (a_ru, .inl (cI, N, .inl uUnts))] s.heap.size = A at hD ⊢
  have hA : ∀ q : Nat, s.heap.size ≤ q → A q := fun q h => by rw [← hAe]; exact Or.inr h
  have hS : va_S A s.heap s.heap [] := va_S.rf
  have hP : va_P (dC, dI) classes [(a_u, .inr (0, [.ref a_d, .ref a_p, .ref a_r, .ref a_c, .ref a_st, .ref a_pl, .int uOpen, .int uFill, .int uSaved, .int uSerial, .int uDown])), (a_r, .inr (3, [.ref a_rs, .ref a_rb, .ref a_ru, .ref a_rz, .ref a_rh, .ref a_rl])), (a_rs, .inl (cI, N, .inl uSers)), (a_ru, .inl (cI, N, .inl uUnts))] s.heap := hP
  have hl := lv_entry ([.ref a_u]) (n := 1) (Nat.le_of_ble_eq_true rfl)
  rw [lg_entry_eq]
  generalize (lg_sl ([.ref a_u]) ++ List.replicate (1 - (lg_sl ([.ref a_u])).length) Slot.unset).toArray = ls at hl ⊢
  have hl : lv_has ls 1 [(0, .ref a_u)] := hl
  have h := hM
  rw [U_crash] at h
  refine lv_aload_n hx hb d_U_crash_0 rfl (lv_at hl 0 rfl) ?_
  refine va_get (D := (dC, dI)) (ci := 0) (v := .int uDown) (C := R_U) (T := F_U) (N := 11) hx hb htT i_U hown hK hP 0 rfl rfl 10 (by decide) (htT _ kf_U_61) (fun _ h9 => h9) rfl d_U_crash_1 ?_
  refine lv_if_eq (tgt := 9) hx hb d_U_crash_4 (by decide) (fun hc => ?_) (fun hc => ?_)
  · have h := ck_t hc h
    refine lv_aload_n hx hb d_U_crash_9 rfl (lv_at hl 0 rfl) ?_
    obtain ⟨z1, hz, h⟩ := ck_bind h
    have hPc := hP.sub (ws' := [(a_u, .inr (0, [.ref a_d, .ref a_p, .ref a_r, .ref a_c, .ref a_st, .ref a_pl, .int uOpen, .int uFill, .int uSaved, .int uSerial, .int uDown])), (a_r, .inr (3, [.ref a_rs, .ref a_rb, .ref a_ru, .ref a_rz, .ref a_rh, .ref a_rl])), (a_rs, .inl (cI, N, .inl uSers)), (a_ru, .inl (cI, N, .inl uUnts))]) [0, 1, 2, 3] rfl
    have hDc := hD.sub (ws' := [(a_u, .inr (0, [.ref a_d, .ref a_p, .ref a_r, .ref a_c, .ref a_st, .ref a_pl, .int uOpen, .int uFill, .int uSaved, .int uSerial, .int uDown])), (a_r, .inr (3, [.ref a_rs, .ref a_rb, .ref a_ru, .ref a_rz, .ref a_rh, .ref a_rl])), (a_rs, .inl (cI, N, .inl uSers)), (a_ru, .inl (cI, N, .inl uUnts))]) [0, 1, 2, 3] (by decide) rfl
    have hFc := va_free (wc := [(a_u, .inr (0, [.ref a_d, .ref a_p, .ref a_r, .ref a_c, .ref a_st, .ref a_pl, .int uOpen, .int uFill, .int uSaved, .int uSerial, .int uDown])), (a_r, .inr (3, [.ref a_rs, .ref a_rb, .ref a_ru, .ref a_rz, .ref a_rh, .ref a_rl])), (a_rs, .inl (cI, N, .inl uSers)), (a_ru, .inl (cI, N, .inl uUnts))]) hD hS hA [0, 1, 2, 3] rfl
    refine va_calli (va_runV (As := []) (rest := []) ⟨hx, hb, hml, hown, htT⟩ (c_U_goDown l dC dI cI cZ cJ a_u a_d a_p a_pb a_pf a_r a_rs a_rb a_ru a_rz a_rh a_rl a_c a_cp a_st a_pl s.heap.size n N uOpen uFill uSaved uSerial uDown uSers uUnts  z1 hz) (cwV 0 htT (gV kl_U_84 ki_U_goDown ke_U_goDown kn_U kc_U_goDown) rfl rfl rfl (by decide +kernel) ⟨Nat.le_of_ble_eq_true rfl, Nat.le_of_ble_eq_true rfl⟩) ⟨fun a U g mk q => by obtain ⟨q0, q1, qP, qK, qD, qN⟩ := q; exact ⟨q0, q1, qP, va_K.moved (u := U) (U := U.calling g mk a) (Vm.Alike.refl U.vm) qK, qD, Ns.same (u := U) rfl qN⟩, va_recv (q0 := 0) (q := (R_U, F_U, 11)) hK hP (ci := 0) rfl rfl, fun U hU hW => ⟨rfl, by rw [hU], by rw [hU]; exact hPc, va_K.moved hW.alike hK, hDc.weaken (fun _ _ _ _ => trivial), Ns.warm hW hN⟩⟩ rfl rfl hl.1 rfl (lv_room (Nat.le_of_ble_eq_true rfl)) d_U_crash_10 ⟨(Nat.zero_le _), (Nat.zero_le _)⟩) hS (fun q _ h => hFc q h) hFc (fun r u t H locs ht hvm hw hB hz1 hk1 hS => ?_)
    have e1 := congrArg Prod.fst hw
    have e2 := congrArg Prod.snd hw
    dsimp only at e1 e2
    subst e1
    subst e2
    obtain ⟨hP1, hK1, hD1⟩ := hB
    rw [ht] at hP1
    obtain ⟨hP, hD⟩ := va_join (wr := []) (w1 := [(a_u, .inr (0, [.ref a_d, .ref a_p, .ref a_r, .ref a_c, .ref a_st, .ref a_pl, .int uOpen, .int uFill, .int uSaved, .int uSerial, .int z1.2.1])), (a_r, .inr (3, [.ref a_rs, .ref a_rb, .ref a_ru, .ref a_rz, .ref a_rh, .ref a_rl])), (a_rs, .inl (cI, N, .inl z1.2.2)), (a_ru, .inl (cI, N, .inl uUnts))]) hP hD [0, 1, 2, 3] [] rfl rfl (by decide) (by decide) hk1 hFc hP1 hD1
    have hP : va_P (dC, dI) classes [(a_u, .inr (0, [.ref a_d, .ref a_p, .ref a_r, .ref a_c, .ref a_st, .ref a_pl, .int uOpen, .int uFill, .int uSaved, .int uSerial, .int z1.2.1])), (a_r, .inr (3, [.ref a_rs, .ref a_rb, .ref a_ru, .ref a_rz, .ref a_rh, .ref a_rl])), (a_rs, .inl (cI, N, .inl z1.2.2)), (a_ru, .inl (cI, N, .inl uUnts))] H := hP
    have hD : va_D A [(a_u, .inr (0, [.ref a_d, .ref a_p, .ref a_r, .ref a_c, .ref a_st, .ref a_pl, .int uOpen, .int uFill, .int uSaved, .int uSerial, .int z1.2.1])), (a_r, .inr (3, [.ref a_rs, .ref a_rb, .ref a_ru, .ref a_rz, .ref a_rh, .ref a_rl])), (a_rs, .inl (cI, N, .inl z1.2.2)), (a_ru, .inl (cI, N, .inl uUnts))] := hD
    refine lv_pop hx hb d_U_crash_13 rfl ?_
    refine lv_iconst (v := (1 : Int32)) hx hb d_U_crash_14 (by decide) ?_
    exact W.zret (v := (1 : Int32)) hx hb hr rfl (fun t ht hW => ⟨⟨(1 : Int32), (z1.2.1, z1.2.2), rfl, (Option.some.inj h).symm, by rw [ht]; exact hP, va_K.moved hW.alike hK, hD⟩, hS.F ht⟩) hS.2.2 d_U_crash_15
  · have h := ck_f hc h
    refine lv_iconst (v := (0 : Int32)) hx hb d_U_crash_7 (by decide) ?_
    exact W.zret (v := (0 : Int32)) hx hb hr rfl (fun t ht hW => ⟨⟨(0 : Int32), (uDown, uSers), rfl, (Option.some.inj h).symm, by rw [ht]; exact hP, va_K.moved hW.alike hK, hD⟩, hS.F ht⟩) hS.2.2 d_U_crash_8
set_option maxHeartbeats 4000000 in
set_option maxRecDepth 100000 in
theorem c_U_recover (l : Launch) (dC : Nat → ClassId) (dI : Nat → Nat → Nat) (cI cZ cJ : ClassId) (a_u a_d a_p a_pb a_pf a_r a_rs a_rb a_ru a_rz a_rh a_rl a_c a_cp a_st a_pl : Nat) (sz n N : Nat) (uOpen : Int32) (uFill : Int32) (uSaved : Int32) (uSerial : Int32) (uDown : Int32) (uArmed : Int32) (uWritten : Int32) (uSers : Nat → Int32) (uBlks : Nat → Int32) (uUnts : Nat → Int32) (uStos : Nat → Int32) (cNumber : Int32) (cSerial : Int32) (cOpen : Int32) (cFill : Int32) (cPlcs : Nat → Int32) (uSts : Nat → Int32) (uPlcs : Nat → Int32)  (res : Int32 × Int32 × Int32 × Int32 × Int32 × Int32 × Int32 × Int32 × (Nat → Int32) × Int32 × Int32 × Int32 × Int32 × (Nat → Int32) × (Nat → Int32) × (Nat → Int32)) (hM : U_recover n N uOpen uFill uSaved uSerial uDown uArmed uWritten uSers uBlks uUnts uStos cNumber cSerial cOpen cFill cPlcs uSts uPlcs = some res) : Met l y_U_recover w_U_recover ({ frames := 3, cells := 0, slots := 0, locals := 121 }) (va_Pc [.ref a_u] (fun U => U.heap.size = sz ∧ va_P (dC, dI) classes [(a_u, .inr (0, [.ref a_d, .ref a_p, .ref a_r, .ref a_c, .ref a_st, .ref a_pl, .int uOpen, .int uFill, .int uSaved, .int uSerial, .int uDown])), (a_d, .inr (1, [.int uArmed, .int uWritten])), (a_r, .inr (3, [.ref a_rs, .ref a_rb, .ref a_ru, .ref a_rz, .ref a_rh, .ref a_rl])), (a_rs, .inl (cI, N, .inl uSers)), (a_rb, .inl (cI, N, .inl uBlks)), (a_ru, .inl (cI, N, .inl uUnts)), (a_rz, .inl (cZ, N, .inl uStos)), (a_c, .inr (4, [.ref a_cp, .int cNumber, .int cSerial, .int cOpen, .int cFill])), (a_cp, .inl (cI, 16, .inl cPlcs)), (a_st, .inl (cI, n, .inl uSts)), (a_pl, .inl (cI, 16, .inl uPlcs))] U.heap ∧ va_K (dC, dI) classes [(cI, .int), (cZ, .boolean), (cJ, .long)] U ∧ va_D (fun _ => True) [(a_u, .inr (0, [.ref a_d, .ref a_p, .ref a_r, .ref a_c, .ref a_st, .ref a_pl, .int uOpen, .int uFill, .int uSaved, .int uSerial, .int uDown])), (a_d, .inr (1, [.int uArmed, .int uWritten])), (a_r, .inr (3, [.ref a_rs, .ref a_rb, .ref a_ru, .ref a_rz, .ref a_rh, .ref a_rl])), (a_rs, .inl (cI, N, .inl uSers)), (a_rb, .inl (cI, N, .inl uBlks)), (a_ru, .inl (cI, N, .inl uUnts)), (a_rz, .inl (cZ, N, .inl uStos)), (a_c, .inr (4, [.ref a_cp, .int cNumber, .int cSerial, .int cOpen, .int cFill])), (a_cp, .inl (cI, 16, .inl cPlcs)), (a_st, .inl (cI, n, .inl uSts)), (a_pl, .inl (cI, 16, .inl uPlcs))] ∧ Ns U)) (va_Qi (fun (r : Int32) (z : Int32 × Int32 × Int32 × Int32 × Int32 × Int32 × Int32 × (Nat → Int32) × Int32 × Int32 × Int32 × Int32 × (Nat → Int32) × (Nat → Int32) × (Nat → Int32)) => res = (r, z)) (fun (z : Int32 × Int32 × Int32 × Int32 × Int32 × Int32 × Int32 × (Nat → Int32) × Int32 × Int32 × Int32 × Int32 × (Nat → Int32) × (Nat → Int32) × (Nat → Int32)) (t : State) => va_P (dC, dI) classes [(a_u, .inr (0, [.ref a_d, .ref a_p, .ref a_r, .ref a_c, .ref a_st, .ref a_pl, .int z.1, .int z.2.1, .int z.2.2.1, .int z.2.2.2.1, .int z.2.2.2.2.1])), (a_d, .inr (1, [.int z.2.2.2.2.2.1, .int z.2.2.2.2.2.2.1])), (a_r, .inr (3, [.ref a_rs, .ref a_rb, .ref a_ru, .ref a_rz, .ref a_rh, .ref a_rl])), (a_rs, .inl (cI, N, .inl z.2.2.2.2.2.2.2.1)), (a_rb, .inl (cI, N, .inl uBlks)), (a_ru, .inl (cI, N, .inl uUnts)), (a_rz, .inl (cZ, N, .inl uStos)), (a_c, .inr (4, [.ref a_cp, .int z.2.2.2.2.2.2.2.2.1, .int z.2.2.2.2.2.2.2.2.2.1, .int z.2.2.2.2.2.2.2.2.2.2.1, .int z.2.2.2.2.2.2.2.2.2.2.2.1])), (a_cp, .inl (cI, 16, .inl z.2.2.2.2.2.2.2.2.2.2.2.2.1)), (a_st, .inl (cI, n, .inl z.2.2.2.2.2.2.2.2.2.2.2.2.2.1)), (a_pl, .inl (cI, 16, .inl z.2.2.2.2.2.2.2.2.2.2.2.2.2.2))] t.heap ∧ va_K (dC, dI) classes [(cI, .int), (cZ, .boolean), (cJ, .long)] t ∧ va_D (va_A [(a_u, .inr (0, [.ref a_d, .ref a_p, .ref a_r, .ref a_c, .ref a_st, .ref a_pl, .int uOpen, .int uFill, .int uSaved, .int uSerial, .int uDown])), (a_d, .inr (1, [.int uArmed, .int uWritten])), (a_r, .inr (3, [.ref a_rs, .ref a_rb, .ref a_ru, .ref a_rz, .ref a_rh, .ref a_rl])), (a_rs, .inl (cI, N, .inl uSers)), (a_rb, .inl (cI, N, .inl uBlks)), (a_ru, .inl (cI, N, .inl uUnts)), (a_rz, .inl (cZ, N, .inl uStos)), (a_c, .inr (4, [.ref a_cp, .int cNumber, .int cSerial, .int cOpen, .int cFill])), (a_cp, .inl (cI, 16, .inl cPlcs)), (a_st, .inl (cI, n, .inl uSts)), (a_pl, .inl (cI, 16, .inl uPlcs))] sz) [(a_u, .inr (0, [.ref a_d, .ref a_p, .ref a_r, .ref a_c, .ref a_st, .ref a_pl, .int z.1, .int z.2.1, .int z.2.2.1, .int z.2.2.2.1, .int z.2.2.2.2.1])), (a_d, .inr (1, [.int z.2.2.2.2.2.1, .int z.2.2.2.2.2.2.1])), (a_r, .inr (3, [.ref a_rs, .ref a_rb, .ref a_ru, .ref a_rz, .ref a_rh, .ref a_rl])), (a_rs, .inl (cI, N, .inl z.2.2.2.2.2.2.2.1)), (a_rb, .inl (cI, N, .inl uBlks)), (a_ru, .inl (cI, N, .inl uUnts)), (a_rz, .inl (cZ, N, .inl uStos)), (a_c, .inr (4, [.ref a_cp, .int z.2.2.2.2.2.2.2.2.1, .int z.2.2.2.2.2.2.2.2.2.1, .int z.2.2.2.2.2.2.2.2.2.2.1, .int z.2.2.2.2.2.2.2.2.2.2.2.1])), (a_cp, .inl (cI, 16, .inl z.2.2.2.2.2.2.2.2.2.2.2.2.1)), (a_st, .inl (cI, n, .inl z.2.2.2.2.2.2.2.2.2.2.2.2.2.1)), (a_pl, .inl (cI, 16, .inl z.2.2.2.2.2.2.2.2.2.2.2.2.2.2))]) (va_A [(a_u, .inr (0, [.ref a_d, .ref a_p, .ref a_r, .ref a_c, .ref a_st, .ref a_pl, .int uOpen, .int uFill, .int uSaved, .int uSerial, .int uDown])), (a_d, .inr (1, [.int uArmed, .int uWritten])), (a_r, .inr (3, [.ref a_rs, .ref a_rb, .ref a_ru, .ref a_rz, .ref a_rh, .ref a_rl])), (a_rs, .inl (cI, N, .inl uSers)), (a_rb, .inl (cI, N, .inl uBlks)), (a_ru, .inl (cI, N, .inl uUnts)), (a_rz, .inl (cZ, N, .inl uStos)), (a_c, .inr (4, [.ref a_cp, .int cNumber, .int cSerial, .int cOpen, .int cFill])), (a_cp, .inl (cI, 16, .inl cPlcs)), (a_st, .inl (cI, n, .inl uSts)), (a_pl, .inl (cI, 16, .inl uPlcs))] sz)) 0 0 (va_A [(a_u, .inr (0, [.ref a_d, .ref a_p, .ref a_r, .ref a_c, .ref a_st, .ref a_pl, .int uOpen, .int uFill, .int uSaved, .int uSerial, .int uDown])), (a_d, .inr (1, [.int uArmed, .int uWritten])), (a_r, .inr (3, [.ref a_rs, .ref a_rb, .ref a_ru, .ref a_rz, .ref a_rh, .ref a_rl])), (a_rs, .inl (cI, N, .inl uSers)), (a_rb, .inl (cI, N, .inl uBlks)), (a_ru, .inl (cI, N, .inl uUnts)), (a_rz, .inl (cZ, N, .inl uStos)), (a_c, .inr (4, [.ref a_cp, .int cNumber, .int cSerial, .int cOpen, .int cFill])), (a_cp, .inl (cI, 16, .inl cPlcs)), (a_st, .inl (cI, n, .inl uSts)), (a_pl, .inl (cI, 16, .inl uPlcs))] sz) := by
  refine Met.ofW (cc := b_U_recover) (maxL := 2) (ret := (some .int)) (by decide) rfl ?_
  intro p e s m args below meth c s₁ B hml hv
  obtain ⟨rfl, hsz, hP, hK, hD0, hN⟩ := hv
  have hx := B.exec
  have hb := B.bytes
  have hr := B.returns
  have hts := atoms_spec (ws := w_U_recover) B.pre
  have htT : ∀ w ∈ lwG, w.before _ s = true := fun w h => hts w (List.mem_cons_of_mem _ h)
  have hown : s.vm.findClass R_U = some m.cls := findClass_of_methodNamed B.named
  have hlocks := B.notSynchronized
  subst hsz
  have hD := hD0.self (sz := s.heap.size)
  generalize hAe : va_A [(a_u, .inr (0, [.ref a_d, .ref a_p, .ref a_r, .ref a_c, .ref a_st, .ref a_pl, .int uOpen, .int uFill, .int uSaved, .int uSerial, .int uDown])), (a_d, .inr (1, [.int uArmed, .int uWritten])), (a_r, .inr (3, [.ref a_rs, .ref a_rb, .ref a_ru, .ref a_rz, .ref a_rh, .ref a_rl])), (a_rs, .inl (cI, N, .inl uSers)), (a_rb, .inl (cI, N, .inl uBlks)), (a_ru, .inl (cI, N, .inl uUnts)), (a_rz, .inl (cZ, N, .inl uStos)), (a_c, .inr (4, [.ref a_cp, .int cNumber, .int cSerial, .int cOpen, .int cFill])), (a_cp, .inl (cI, 16, .inl cPlcs)), (a_st, .inl (cI, n, .inl uSts)), (a_pl, .inl (cI, 16, .inl uPlcs))] s.heap.size = A at hD ⊢
  have hA : ∀ q : Nat, s.heap.size ≤ q → A q := fun q h => by rw [← hAe]; exact Or.inr h
  have hS : va_S A s.heap s.heap [] := va_S.rf
  have hP : va_P (dC, dI) classes [(a_u, .inr (0, [.ref a_d, .ref a_p, .ref a_r, .ref a_c, .ref a_st, .ref a_pl, .int uOpen, .int uFill, .int uSaved, .int uSerial, .int uDown])), (a_d, .inr (1, [.int uArmed, .int uWritten])), (a_r, .inr (3, [.ref a_rs, .ref a_rb, .ref a_ru, .ref a_rz, .ref a_rh, .ref a_rl])), (a_rs, .inl (cI, N, .inl uSers)), (a_rb, .inl (cI, N, .inl uBlks)), (a_ru, .inl (cI, N, .inl uUnts)), (a_rz, .inl (cZ, N, .inl uStos)), (a_c, .inr (4, [.ref a_cp, .int cNumber, .int cSerial, .int cOpen, .int cFill])), (a_cp, .inl (cI, 16, .inl cPlcs)), (a_st, .inl (cI, n, .inl uSts)), (a_pl, .inl (cI, 16, .inl uPlcs))] s.heap := hP
  have hl := lv_entry ([.ref a_u]) (n := 2) (Nat.le_of_ble_eq_true rfl)
  rw [lg_entry_eq]
  generalize (lg_sl ([.ref a_u]) ++ List.replicate (2 - (lg_sl ([.ref a_u])).length) Slot.unset).toArray = ls at hl ⊢
  have hl : lv_has ls 2 [(0, .ref a_u)] := hl
  have h := hM
  rw [U_recover] at h
  refine lv_aload_n hx hb d_U_recover_0 rfl (lv_at hl 0 rfl) ?_
  refine va_get (D := (dC, dI)) (ci := 0) (v := .int uDown) (C := R_U) (T := F_U) (N := 11) hx hb htT i_U hown hK hP 0 rfl rfl 10 (by decide) (htT _ kf_U_61) (fun _ h9 => h9) rfl d_U_recover_1 ?_
  refine lv_if_ne (tgt := 9) hx hb d_U_recover_4 (by decide) (fun hc => ?_) (fun hc => ?_)
  · have h := ck_f hc h
    refine lv_aload_n hx hb d_U_recover_9 rfl (lv_at hl 0 rfl) ?_
    refine lv_iconst (v := (0 : Int32)) hx hb d_U_recover_10 (by decide) ?_
    refine va_put (D := (dC, dI)) (ci := 0) (v := .int (0 : Int32)) (ty := .boolean) (C := R_U) (T := F_U) (N := 11) hx hb htT i_U t_U t_U_ok n_U hown hK hP hD hS 0 rfl rfl 10 (by decide) (htT _ kf_U_61) (fun _ h9 => h9) rfl (by decide +kernel) rfl rfl (Nat.le_of_ble_eq_true rfl) d_U_recover_11 (fun H locs hP hD hS => ?_)
    have hP : va_P (dC, dI) classes [(a_u, .inr (0, [.ref a_d, .ref a_p, .ref a_r, .ref a_c, .ref a_st, .ref a_pl, .int uOpen, .int uFill, .int uSaved, .int uSerial, .int (0 : Int32)])), (a_d, .inr (1, [.int uArmed, .int uWritten])), (a_r, .inr (3, [.ref a_rs, .ref a_rb, .ref a_ru, .ref a_rz, .ref a_rh, .ref a_rl])), (a_rs, .inl (cI, N, .inl uSers)), (a_rb, .inl (cI, N, .inl uBlks)), (a_ru, .inl (cI, N, .inl uUnts)), (a_rz, .inl (cZ, N, .inl uStos)), (a_c, .inr (4, [.ref a_cp, .int cNumber, .int cSerial, .int cOpen, .int cFill])), (a_cp, .inl (cI, 16, .inl cPlcs)), (a_st, .inl (cI, n, .inl uSts)), (a_pl, .inl (cI, 16, .inl uPlcs))] H := hP
    have hD : va_D A [(a_u, .inr (0, [.ref a_d, .ref a_p, .ref a_r, .ref a_c, .ref a_st, .ref a_pl, .int uOpen, .int uFill, .int uSaved, .int uSerial, .int (0 : Int32)])), (a_d, .inr (1, [.int uArmed, .int uWritten])), (a_r, .inr (3, [.ref a_rs, .ref a_rb, .ref a_ru, .ref a_rz, .ref a_rh, .ref a_rl])), (a_rs, .inl (cI, N, .inl uSers)), (a_rb, .inl (cI, N, .inl uBlks)), (a_ru, .inl (cI, N, .inl uUnts)), (a_rz, .inl (cZ, N, .inl uStos)), (a_c, .inr (4, [.ref a_cp, .int cNumber, .int cSerial, .int cOpen, .int cFill])), (a_cp, .inl (cI, 16, .inl cPlcs)), (a_st, .inl (cI, n, .inl uSts)), (a_pl, .inl (cI, 16, .inl uPlcs))] := hD
    refine lv_aload_n hx hb d_U_recover_14 rfl (lv_at hl 0 rfl) ?_
    refine va_get (D := (dC, dI)) (ci := 0) (v := .ref a_d) (C := R_U) (T := F_U) (N := 11) hx hb htT i_U hown hK hP 0 rfl rfl 0 (by decide) (htT _ kf_U_21) (fun _ h9 => h9) rfl d_U_recover_15 ?_
    refine lv_iconst (v := (-1 : Int32)) hx hb d_U_recover_18 (by decide) ?_
    refine va_putN (D := (dC, dI)) (ci := 1) (v := .int (-1 : Int32)) (ty := .int) (C := R_D) (T := F_D) (N := 2) hx hb htT i_D t_D t_D_ok n_D hown hK hP hD hS 1 rfl rfl 0 (by decide) (va_Nw.use rfl (hN _ kf_U_126)) (fun _ h9 => h9) rfl (by decide +kernel) rfl rfl (Nat.le_of_ble_eq_true rfl) d_U_recover_19 (fun H locs hP hD hS => ?_)
    have hP : va_P (dC, dI) classes [(a_u, .inr (0, [.ref a_d, .ref a_p, .ref a_r, .ref a_c, .ref a_st, .ref a_pl, .int uOpen, .int uFill, .int uSaved, .int uSerial, .int (0 : Int32)])), (a_d, .inr (1, [.int (-1 : Int32), .int uWritten])), (a_r, .inr (3, [.ref a_rs, .ref a_rb, .ref a_ru, .ref a_rz, .ref a_rh, .ref a_rl])), (a_rs, .inl (cI, N, .inl uSers)), (a_rb, .inl (cI, N, .inl uBlks)), (a_ru, .inl (cI, N, .inl uUnts)), (a_rz, .inl (cZ, N, .inl uStos)), (a_c, .inr (4, [.ref a_cp, .int cNumber, .int cSerial, .int cOpen, .int cFill])), (a_cp, .inl (cI, 16, .inl cPlcs)), (a_st, .inl (cI, n, .inl uSts)), (a_pl, .inl (cI, 16, .inl uPlcs))] H := hP
    have hD : va_D A [(a_u, .inr (0, [.ref a_d, .ref a_p, .ref a_r, .ref a_c, .ref a_st, .ref a_pl, .int uOpen, .int uFill, .int uSaved, .int uSerial, .int (0 : Int32)])), (a_d, .inr (1, [.int (-1 : Int32), .int uWritten])), (a_r, .inr (3, [.ref a_rs, .ref a_rb, .ref a_ru, .ref a_rz, .ref a_rh, .ref a_rl])), (a_rs, .inl (cI, N, .inl uSers)), (a_rb, .inl (cI, N, .inl uBlks)), (a_ru, .inl (cI, N, .inl uUnts)), (a_rz, .inl (cZ, N, .inl uStos)), (a_c, .inr (4, [.ref a_cp, .int cNumber, .int cSerial, .int cOpen, .int cFill])), (a_cp, .inl (cI, 16, .inl cPlcs)), (a_st, .inl (cI, n, .inl uSts)), (a_pl, .inl (cI, 16, .inl uPlcs))] := hD
    refine lv_aload_n hx hb d_U_recover_22 rfl (lv_at hl 0 rfl) ?_
    obtain ⟨z1, hz, h⟩ := ck_bind h
    have hPc := hP.sub (ws' := [(a_u, .inr (0, [.ref a_d, .ref a_p, .ref a_r, .ref a_c, .ref a_st, .ref a_pl, .int uOpen, .int uFill, .int uSaved, .int uSerial, .int (0 : Int32)])), (a_c, .inr (4, [.ref a_cp, .int cNumber, .int cSerial, .int cOpen, .int cFill])), (a_cp, .inl (cI, 16, .inl cPlcs)), (a_pl, .inl (cI, 16, .inl uPlcs))]) [0, 7, 8, 10] rfl
    have hDc := hD.sub (ws' := [(a_u, .inr (0, [.ref a_d, .ref a_p, .ref a_r, .ref a_c, .ref a_st, .ref a_pl, .int uOpen, .int uFill, .int uSaved, .int uSerial, .int (0 : Int32)])), (a_c, .inr (4, [.ref a_cp, .int cNumber, .int cSerial, .int cOpen, .int cFill])), (a_cp, .inl (cI, 16, .inl cPlcs)), (a_pl, .inl (cI, 16, .inl uPlcs))]) [0, 7, 8, 10] (by decide) rfl
    have hFc := va_free (wc := [(a_u, .inr (0, [.ref a_d, .ref a_p, .ref a_r, .ref a_c, .ref a_st, .ref a_pl, .int uOpen, .int uFill, .int uSaved, .int uSerial, .int (0 : Int32)])), (a_c, .inr (4, [.ref a_cp, .int cNumber, .int cSerial, .int cOpen, .int cFill])), (a_cp, .inl (cI, 16, .inl cPlcs)), (a_pl, .inl (cI, 16, .inl uPlcs))]) hD hS hA [0, 7, 8, 10] rfl
    refine va_callv (va_runV (As := []) (rest := []) ⟨hx, hb, hml, hown, htT⟩ (c_U_returnToCheckpoint l dC dI cI cZ cJ a_u a_d a_p a_pb a_pf a_r a_rs a_rb a_ru a_rz a_rh a_rl a_c a_cp a_st a_pl H.size n N uOpen uFill uSaved uSerial (0 : Int32) cNumber cSerial cOpen cFill cPlcs uPlcs  z1 hz) (cwV 0 htT (gV kl_U_129 ki_U_returnToCheckpoint ke_U_returnToCheckpoint kn_U kc_U_returnToCheckpoint) rfl rfl rfl (by decide +kernel) ⟨Nat.le_of_ble_eq_true rfl, Nat.le_of_ble_eq_true rfl⟩) ⟨fun a U g mk q => by obtain ⟨q0, q1, qP, qK, qD, qN⟩ := q; exact ⟨q0, q1, qP, va_K.moved (u := U) (U := U.calling g mk a) (Vm.Alike.refl U.vm) qK, qD, Ns.same (u := U) rfl qN⟩, va_recv (q0 := 0) (q := (R_U, F_U, 11)) hK hP (ci := 0) rfl rfl, fun U hU hW => ⟨rfl, by rw [hU], by rw [hU]; exact hPc, va_K.moved hW.alike hK, hDc.weaken (fun _ _ _ _ => trivial), Ns.warm hW hN⟩⟩ rfl rfl hl.1 rfl (lv_room (Nat.le_of_ble_eq_true rfl)) d_U_recover_23 ⟨(Nat.zero_le _), (Nat.zero_le _)⟩) hS (fun q _ h => hFc q h) hFc (fun u t H locs ht hvm hw hB hz1 hk1 hS => ?_)
    subst hw
    obtain ⟨hP1, hK1, hD1⟩ := hB
    rw [ht] at hP1
    obtain ⟨hP, hD⟩ := va_join (wr := [(a_d, .inr (1, [.int (-1 : Int32), .int uWritten])), (a_r, .inr (3, [.ref a_rs, .ref a_rb, .ref a_ru, .ref a_rz, .ref a_rh, .ref a_rl])), (a_rs, .inl (cI, N, .inl uSers)), (a_rb, .inl (cI, N, .inl uBlks)), (a_ru, .inl (cI, N, .inl uUnts)), (a_rz, .inl (cZ, N, .inl uStos)), (a_st, .inl (cI, n, .inl uSts))]) (w1 := [(a_u, .inr (0, [.ref a_d, .ref a_p, .ref a_r, .ref a_c, .ref a_st, .ref a_pl, .int z1.1, .int z1.2.1, .int uSaved, .int z1.2.2.1, .int (0 : Int32)])), (a_c, .inr (4, [.ref a_cp, .int cNumber, .int cSerial, .int cOpen, .int cFill])), (a_cp, .inl (cI, 16, .inl cPlcs)), (a_pl, .inl (cI, 16, .inl z1.2.2.2))]) hP hD [0, 7, 8, 10] [1, 2, 3, 4, 5, 6, 9] rfl rfl (by decide) (by decide) hk1 hFc hP1 hD1
    have hP := hP.sub (ws' := [(a_u, .inr (0, [.ref a_d, .ref a_p, .ref a_r, .ref a_c, .ref a_st, .ref a_pl, .int z1.1, .int z1.2.1, .int uSaved, .int z1.2.2.1, .int (0 : Int32)])), (a_d, .inr (1, [.int (-1 : Int32), .int uWritten])), (a_r, .inr (3, [.ref a_rs, .ref a_rb, .ref a_ru, .ref a_rz, .ref a_rh, .ref a_rl])), (a_rs, .inl (cI, N, .inl uSers)), (a_rb, .inl (cI, N, .inl uBlks)), (a_ru, .inl (cI, N, .inl uUnts)), (a_rz, .inl (cZ, N, .inl uStos)), (a_c, .inr (4, [.ref a_cp, .int cNumber, .int cSerial, .int cOpen, .int cFill])), (a_cp, .inl (cI, 16, .inl cPlcs)), (a_st, .inl (cI, n, .inl uSts)), (a_pl, .inl (cI, 16, .inl z1.2.2.2))]) [7, 0, 1, 2, 3, 4, 5, 8, 9, 6, 10] rfl
    have hD := hD.sub (ws' := [(a_u, .inr (0, [.ref a_d, .ref a_p, .ref a_r, .ref a_c, .ref a_st, .ref a_pl, .int z1.1, .int z1.2.1, .int uSaved, .int z1.2.2.1, .int (0 : Int32)])), (a_d, .inr (1, [.int (-1 : Int32), .int uWritten])), (a_r, .inr (3, [.ref a_rs, .ref a_rb, .ref a_ru, .ref a_rz, .ref a_rh, .ref a_rl])), (a_rs, .inl (cI, N, .inl uSers)), (a_rb, .inl (cI, N, .inl uBlks)), (a_ru, .inl (cI, N, .inl uUnts)), (a_rz, .inl (cZ, N, .inl uStos)), (a_c, .inr (4, [.ref a_cp, .int cNumber, .int cSerial, .int cOpen, .int cFill])), (a_cp, .inl (cI, 16, .inl cPlcs)), (a_st, .inl (cI, n, .inl uSts)), (a_pl, .inl (cI, 16, .inl z1.2.2.2))]) [7, 0, 1, 2, 3, 4, 5, 8, 9, 6, 10] (by decide) rfl
    have hP : va_P (dC, dI) classes [(a_u, .inr (0, [.ref a_d, .ref a_p, .ref a_r, .ref a_c, .ref a_st, .ref a_pl, .int z1.1, .int z1.2.1, .int uSaved, .int z1.2.2.1, .int (0 : Int32)])), (a_d, .inr (1, [.int (-1 : Int32), .int uWritten])), (a_r, .inr (3, [.ref a_rs, .ref a_rb, .ref a_ru, .ref a_rz, .ref a_rh, .ref a_rl])), (a_rs, .inl (cI, N, .inl uSers)), (a_rb, .inl (cI, N, .inl uBlks)), (a_ru, .inl (cI, N, .inl uUnts)), (a_rz, .inl (cZ, N, .inl uStos)), (a_c, .inr (4, [.ref a_cp, .int cNumber, .int cSerial, .int cOpen, .int cFill])), (a_cp, .inl (cI, 16, .inl cPlcs)), (a_st, .inl (cI, n, .inl uSts)), (a_pl, .inl (cI, 16, .inl z1.2.2.2))] H := hP
    have hD : va_D A [(a_u, .inr (0, [.ref a_d, .ref a_p, .ref a_r, .ref a_c, .ref a_st, .ref a_pl, .int z1.1, .int z1.2.1, .int uSaved, .int z1.2.2.1, .int (0 : Int32)])), (a_d, .inr (1, [.int (-1 : Int32), .int uWritten])), (a_r, .inr (3, [.ref a_rs, .ref a_rb, .ref a_ru, .ref a_rz, .ref a_rh, .ref a_rl])), (a_rs, .inl (cI, N, .inl uSers)), (a_rb, .inl (cI, N, .inl uBlks)), (a_ru, .inl (cI, N, .inl uUnts)), (a_rz, .inl (cZ, N, .inl uStos)), (a_c, .inr (4, [.ref a_cp, .int cNumber, .int cSerial, .int cOpen, .int cFill])), (a_cp, .inl (cI, 16, .inl cPlcs)), (a_st, .inl (cI, n, .inl uSts)), (a_pl, .inl (cI, 16, .inl z1.2.2.2))] := hD
    refine lv_aload_n hx hb d_U_recover_26 rfl (lv_at hl 0 rfl) ?_
    obtain ⟨z2, hz, h⟩ := ck_bind h
    have hPc := hP.sub (ws' := [(a_u, .inr (0, [.ref a_d, .ref a_p, .ref a_r, .ref a_c, .ref a_st, .ref a_pl, .int z1.1, .int z1.2.1, .int uSaved, .int z1.2.2.1, .int (0 : Int32)])), (a_r, .inr (3, [.ref a_rs, .ref a_rb, .ref a_ru, .ref a_rz, .ref a_rh, .ref a_rl])), (a_rs, .inl (cI, N, .inl uSers)), (a_rb, .inl (cI, N, .inl uBlks)), (a_ru, .inl (cI, N, .inl uUnts)), (a_rz, .inl (cZ, N, .inl uStos)), (a_pl, .inl (cI, 16, .inl z1.2.2.2))]) [0, 2, 3, 4, 5, 6, 10] rfl
    have hDc := hD.sub (ws' := [(a_u, .inr (0, [.ref a_d, .ref a_p, .ref a_r, .ref a_c, .ref a_st, .ref a_pl, .int z1.1, .int z1.2.1, .int uSaved, .int z1.2.2.1, .int (0 : Int32)])), (a_r, .inr (3, [.ref a_rs, .ref a_rb, .ref a_ru, .ref a_rz, .ref a_rh, .ref a_rl])), (a_rs, .inl (cI, N, .inl uSers)), (a_rb, .inl (cI, N, .inl uBlks)), (a_ru, .inl (cI, N, .inl uUnts)), (a_rz, .inl (cZ, N, .inl uStos)), (a_pl, .inl (cI, 16, .inl z1.2.2.2))]) [0, 2, 3, 4, 5, 6, 10] (by decide) rfl
    have hFc := va_free (wc := [(a_u, .inr (0, [.ref a_d, .ref a_p, .ref a_r, .ref a_c, .ref a_st, .ref a_pl, .int z1.1, .int z1.2.1, .int uSaved, .int z1.2.2.1, .int (0 : Int32)])), (a_r, .inr (3, [.ref a_rs, .ref a_rb, .ref a_ru, .ref a_rz, .ref a_rh, .ref a_rl])), (a_rs, .inl (cI, N, .inl uSers)), (a_rb, .inl (cI, N, .inl uBlks)), (a_ru, .inl (cI, N, .inl uUnts)), (a_rz, .inl (cZ, N, .inl uStos)), (a_pl, .inl (cI, 16, .inl z1.2.2.2))]) hD hS hA [0, 2, 3, 4, 5, 6, 10] rfl
    refine va_calli (va_runV (As := []) (rest := []) ⟨hx, hb, hml, hown, htT⟩ (c_U_rollForward l dC dI cI cZ cJ a_u a_d a_p a_pb a_pf a_r a_rs a_rb a_ru a_rz a_rh a_rl a_c a_cp a_st a_pl H.size n N z1.1 z1.2.1 uSaved z1.2.2.1 (0 : Int32) uSers uBlks uUnts uStos z1.2.2.2  z2 hz) (cwV 0 htT (gV kl_U_132 ki_U_rollForward ke_U_rollForward kn_U kc_U_rollForward) rfl rfl rfl (by decide +kernel) ⟨Nat.le_of_ble_eq_true rfl, Nat.le_of_ble_eq_true rfl⟩) ⟨fun a U g mk q => by obtain ⟨q0, q1, qP, qK, qD, qN⟩ := q; exact ⟨q0, q1, qP, va_K.moved (u := U) (U := U.calling g mk a) (Vm.Alike.refl U.vm) qK, qD, Ns.same (u := U) rfl qN⟩, va_recv (q0 := 0) (q := (R_U, F_U, 11)) hK hP (ci := 0) rfl rfl, fun U hU hW => ⟨rfl, by rw [hU], by rw [hU]; exact hPc, va_K.moved hW.alike hK, hDc.weaken (fun _ _ _ _ => trivial), Ns.warm hW hN⟩⟩ rfl rfl hl.1 rfl (lv_room (Nat.le_of_ble_eq_true rfl)) d_U_recover_27 ⟨(Nat.zero_le _), (Nat.zero_le _)⟩) hS (fun q _ h => hFc q h) hFc (fun r u t H locs ht hvm hw hB hz1 hk1 hS => ?_)
    have e1 := congrArg Prod.fst hw
    have e2 := congrArg Prod.snd hw
    dsimp only at e1 e2
    subst e1
    subst e2
    obtain ⟨hP1, hK1, hD1⟩ := hB
    rw [ht] at hP1
    obtain ⟨hP, hD⟩ := va_join (wr := [(a_d, .inr (1, [.int (-1 : Int32), .int uWritten])), (a_c, .inr (4, [.ref a_cp, .int cNumber, .int cSerial, .int cOpen, .int cFill])), (a_cp, .inl (cI, 16, .inl cPlcs)), (a_st, .inl (cI, n, .inl uSts))]) (w1 := [(a_u, .inr (0, [.ref a_d, .ref a_p, .ref a_r, .ref a_c, .ref a_st, .ref a_pl, .int z2.2.1, .int z2.2.2.1, .int uSaved, .int z2.2.2.2.1, .int (0 : Int32)])), (a_r, .inr (3, [.ref a_rs, .ref a_rb, .ref a_ru, .ref a_rz, .ref a_rh, .ref a_rl])), (a_rs, .inl (cI, N, .inl uSers)), (a_rb, .inl (cI, N, .inl uBlks)), (a_ru, .inl (cI, N, .inl uUnts)), (a_rz, .inl (cZ, N, .inl uStos)), (a_pl, .inl (cI, 16, .inl z2.2.2.2.2))]) hP hD [0, 2, 3, 4, 5, 6, 10] [1, 7, 8, 9] rfl rfl (by decide) (by decide) hk1 hFc hP1 hD1
    have hP := hP.sub (ws' := [(a_u, .inr (0, [.ref a_d, .ref a_p, .ref a_r, .ref a_c, .ref a_st, .ref a_pl, .int z2.2.1, .int z2.2.2.1, .int uSaved, .int z2.2.2.2.1, .int (0 : Int32)])), (a_d, .inr (1, [.int (-1 : Int32), .int uWritten])), (a_r, .inr (3, [.ref a_rs, .ref a_rb, .ref a_ru, .ref a_rz, .ref a_rh, .ref a_rl])), (a_rs, .inl (cI, N, .inl uSers)), (a_rb, .inl (cI, N, .inl uBlks)), (a_ru, .inl (cI, N, .inl uUnts)), (a_rz, .inl (cZ, N, .inl uStos)), (a_c, .inr (4, [.ref a_cp, .int cNumber, .int cSerial, .int cOpen, .int cFill])), (a_cp, .inl (cI, 16, .inl cPlcs)), (a_st, .inl (cI, n, .inl uSts)), (a_pl, .inl (cI, 16, .inl z2.2.2.2.2))]) [4, 0, 5, 6, 7, 8, 9, 1, 2, 3, 10] rfl
    have hD := hD.sub (ws' := [(a_u, .inr (0, [.ref a_d, .ref a_p, .ref a_r, .ref a_c, .ref a_st, .ref a_pl, .int z2.2.1, .int z2.2.2.1, .int uSaved, .int z2.2.2.2.1, .int (0 : Int32)])), (a_d, .inr (1, [.int (-1 : Int32), .int uWritten])), (a_r, .inr (3, [.ref a_rs, .ref a_rb, .ref a_ru, .ref a_rz, .ref a_rh, .ref a_rl])), (a_rs, .inl (cI, N, .inl uSers)), (a_rb, .inl (cI, N, .inl uBlks)), (a_ru, .inl (cI, N, .inl uUnts)), (a_rz, .inl (cZ, N, .inl uStos)), (a_c, .inr (4, [.ref a_cp, .int cNumber, .int cSerial, .int cOpen, .int cFill])), (a_cp, .inl (cI, 16, .inl cPlcs)), (a_st, .inl (cI, n, .inl uSts)), (a_pl, .inl (cI, 16, .inl z2.2.2.2.2))]) [4, 0, 5, 6, 7, 8, 9, 1, 2, 3, 10] (by decide) rfl
    have hP : va_P (dC, dI) classes [(a_u, .inr (0, [.ref a_d, .ref a_p, .ref a_r, .ref a_c, .ref a_st, .ref a_pl, .int z2.2.1, .int z2.2.2.1, .int uSaved, .int z2.2.2.2.1, .int (0 : Int32)])), (a_d, .inr (1, [.int (-1 : Int32), .int uWritten])), (a_r, .inr (3, [.ref a_rs, .ref a_rb, .ref a_ru, .ref a_rz, .ref a_rh, .ref a_rl])), (a_rs, .inl (cI, N, .inl uSers)), (a_rb, .inl (cI, N, .inl uBlks)), (a_ru, .inl (cI, N, .inl uUnts)), (a_rz, .inl (cZ, N, .inl uStos)), (a_c, .inr (4, [.ref a_cp, .int cNumber, .int cSerial, .int cOpen, .int cFill])), (a_cp, .inl (cI, 16, .inl cPlcs)), (a_st, .inl (cI, n, .inl uSts)), (a_pl, .inl (cI, 16, .inl z2.2.2.2.2))] H := hP
    have hD : va_D A [(a_u, .inr (0, [.ref a_d, .ref a_p, .ref a_r, .ref a_c, .ref a_st, .ref a_pl, .int z2.2.1, .int z2.2.2.1, .int uSaved, .int z2.2.2.2.1, .int (0 : Int32)])), (a_d, .inr (1, [.int (-1 : Int32), .int uWritten])), (a_r, .inr (3, [.ref a_rs, .ref a_rb, .ref a_ru, .ref a_rz, .ref a_rh, .ref a_rl])), (a_rs, .inl (cI, N, .inl uSers)), (a_rb, .inl (cI, N, .inl uBlks)), (a_ru, .inl (cI, N, .inl uUnts)), (a_rz, .inl (cZ, N, .inl uStos)), (a_c, .inr (4, [.ref a_cp, .int cNumber, .int cSerial, .int cOpen, .int cFill])), (a_cp, .inl (cI, 16, .inl cPlcs)), (a_st, .inl (cI, n, .inl uSts)), (a_pl, .inl (cI, 16, .inl z2.2.2.2.2))] := hD
    refine lv_istore_n hx hb d_U_recover_30 rfl hl (by decide) rfl (fun ls hl => ?_)
    have hl : lv_has ls 2 [(1, .int z2.1), (0, .ref a_u)] := hl
    refine lv_aload_n hx hb d_U_recover_31 rfl (lv_at hl 1 rfl) ?_
    refine lv_aload_n hx hb d_U_recover_32 rfl (lv_at hl 1 rfl) ?_
    refine va_get (D := (dC, dI)) (ci := 0) (v := .int z2.2.2.1) (C := R_U) (T := F_U) (N := 11) hx hb htT i_U hown hK hP 0 rfl rfl 7 (by decide) (htT _ kf_U_101) (fun _ h9 => h9) rfl d_U_recover_33 ?_
    refine va_put (D := (dC, dI)) (ci := 0) (v := .int z2.2.2.1) (ty := .int) (C := R_U) (T := F_U) (N := 11) hx hb htT i_U t_U t_U_ok n_U hown hK hP hD hS 0 rfl rfl 8 (by decide) (htT _ kf_U_103) (fun _ h9 => h9) rfl (by decide +kernel) rfl rfl (Nat.le_of_ble_eq_true rfl) d_U_recover_36 (fun H locs hP hD hS => ?_)
    have hP : va_P (dC, dI) classes [(a_u, .inr (0, [.ref a_d, .ref a_p, .ref a_r, .ref a_c, .ref a_st, .ref a_pl, .int z2.2.1, .int z2.2.2.1, .int z2.2.2.1, .int z2.2.2.2.1, .int (0 : Int32)])), (a_d, .inr (1, [.int (-1 : Int32), .int uWritten])), (a_r, .inr (3, [.ref a_rs, .ref a_rb, .ref a_ru, .ref a_rz, .ref a_rh, .ref a_rl])), (a_rs, .inl (cI, N, .inl uSers)), (a_rb, .inl (cI, N, .inl uBlks)), (a_ru, .inl (cI, N, .inl uUnts)), (a_rz, .inl (cZ, N, .inl uStos)), (a_c, .inr (4, [.ref a_cp, .int cNumber, .int cSerial, .int cOpen, .int cFill])), (a_cp, .inl (cI, 16, .inl cPlcs)), (a_st, .inl (cI, n, .inl uSts)), (a_pl, .inl (cI, 16, .inl z2.2.2.2.2))] H := hP
    have hD : va_D A [(a_u, .inr (0, [.ref a_d, .ref a_p, .ref a_r, .ref a_c, .ref a_st, .ref a_pl, .int z2.2.1, .int z2.2.2.1, .int z2.2.2.1, .int z2.2.2.2.1, .int (0 : Int32)])), (a_d, .inr (1, [.int (-1 : Int32), .int uWritten])), (a_r, .inr (3, [.ref a_rs, .ref a_rb, .ref a_ru, .ref a_rz, .ref a_rh, .ref a_rl])), (a_rs, .inl (cI, N, .inl uSers)), (a_rb, .inl (cI, N, .inl uBlks)), (a_ru, .inl (cI, N, .inl uUnts)), (a_rz, .inl (cZ, N, .inl uStos)), (a_c, .inr (4, [.ref a_cp, .int cNumber, .int cSerial, .int cOpen, .int cFill])), (a_cp, .inl (cI, 16, .inl cPlcs)), (a_st, .inl (cI, n, .inl uSts)), (a_pl, .inl (cI, 16, .inl z2.2.2.2.2))] := hD
    refine lv_aload_n hx hb d_U_recover_39 rfl (lv_at hl 1 rfl) ?_
    obtain ⟨z3, hz, h⟩ := ck_bind h
    have hPc := hP.sub (ws' := [(a_u, .inr (0, [.ref a_d, .ref a_p, .ref a_r, .ref a_c, .ref a_st, .ref a_pl, .int z2.2.1, .int z2.2.2.1, .int z2.2.2.1, .int z2.2.2.2.1, .int (0 : Int32)])), (a_r, .inr (3, [.ref a_rs, .ref a_rb, .ref a_ru, .ref a_rz, .ref a_rh, .ref a_rl])), (a_rb, .inl (cI, N, .inl uBlks)), (a_ru, .inl (cI, N, .inl uUnts)), (a_st, .inl (cI, n, .inl uSts)), (a_pl, .inl (cI, 16, .inl z2.2.2.2.2))]) [0, 2, 4, 5, 9, 10] rfl
    have hDc := hD.sub (ws' := [(a_u, .inr (0, [.ref a_d, .ref a_p, .ref a_r, .ref a_c, .ref a_st, .ref a_pl, .int z2.2.1, .int z2.2.2.1, .int z2.2.2.1, .int z2.2.2.2.1, .int (0 : Int32)])), (a_r, .inr (3, [.ref a_rs, .ref a_rb, .ref a_ru, .ref a_rz, .ref a_rh, .ref a_rl])), (a_rb, .inl (cI, N, .inl uBlks)), (a_ru, .inl (cI, N, .inl uUnts)), (a_st, .inl (cI, n, .inl uSts)), (a_pl, .inl (cI, 16, .inl z2.2.2.2.2))]) [0, 2, 4, 5, 9, 10] (by decide) rfl
    have hFc := va_free (wc := [(a_u, .inr (0, [.ref a_d, .ref a_p, .ref a_r, .ref a_c, .ref a_st, .ref a_pl, .int z2.2.1, .int z2.2.2.1, .int z2.2.2.1, .int z2.2.2.2.1, .int (0 : Int32)])), (a_r, .inr (3, [.ref a_rs, .ref a_rb, .ref a_ru, .ref a_rz, .ref a_rh, .ref a_rl])), (a_rb, .inl (cI, N, .inl uBlks)), (a_ru, .inl (cI, N, .inl uUnts)), (a_st, .inl (cI, n, .inl uSts)), (a_pl, .inl (cI, 16, .inl z2.2.2.2.2))]) hD hS hA [0, 2, 4, 5, 9, 10] rfl
    refine va_callv (va_runV (As := []) (rest := []) ⟨hx, hb, hml, hown, htT⟩ (c_U_sortSegments l dC dI cI cZ cJ a_u a_d a_p a_pb a_pf a_r a_rs a_rb a_ru a_rz a_rh a_rl a_c a_cp a_st a_pl H.size n N z2.2.1 z2.2.2.1 z2.2.2.1 z2.2.2.2.1 (0 : Int32) uBlks uUnts uSts z2.2.2.2.2  z3 hz) (cwV 0 htT (gV kl_U_135 ki_U_sortSegments ke_U_sortSegments kn_U kc_U_sortSegments) rfl rfl rfl (by decide +kernel) ⟨Nat.le_of_ble_eq_true rfl, Nat.le_of_ble_eq_true rfl⟩) ⟨fun a U g mk q => by obtain ⟨q0, q1, qP, qK, qD, qN⟩ := q; exact ⟨q0, q1, qP, va_K.moved (u := U) (U := U.calling g mk a) (Vm.Alike.refl U.vm) qK, qD, Ns.same (u := U) rfl qN⟩, va_recv (q0 := 0) (q := (R_U, F_U, 11)) hK hP (ci := 0) rfl rfl, fun U hU hW => ⟨rfl, by rw [hU], by rw [hU]; exact hPc, va_K.moved hW.alike hK, hDc.weaken (fun _ _ _ _ => trivial), Ns.warm hW hN⟩⟩ rfl rfl hl.1 rfl (lv_room (Nat.le_of_ble_eq_true rfl)) d_U_recover_40 ⟨(Nat.zero_le _), (Nat.zero_le _)⟩) hS (fun q _ h => hFc q h) hFc (fun u t H locs ht hvm hw hB hz1 hk1 hS => ?_)
    subst hw
    obtain ⟨hP1, hK1, hD1⟩ := hB
    rw [ht] at hP1
    obtain ⟨hP, hD⟩ := va_join (wr := [(a_d, .inr (1, [.int (-1 : Int32), .int uWritten])), (a_rs, .inl (cI, N, .inl uSers)), (a_rz, .inl (cZ, N, .inl uStos)), (a_c, .inr (4, [.ref a_cp, .int cNumber, .int cSerial, .int cOpen, .int cFill])), (a_cp, .inl (cI, 16, .inl cPlcs))]) (w1 := [(a_u, .inr (0, [.ref a_d, .ref a_p, .ref a_r, .ref a_c, .ref a_st, .ref a_pl, .int z2.2.1, .int z2.2.2.1, .int z2.2.2.1, .int z2.2.2.2.1, .int (0 : Int32)])), (a_r, .inr (3, [.ref a_rs, .ref a_rb, .ref a_ru, .ref a_rz, .ref a_rh, .ref a_rl])), (a_rb, .inl (cI, N, .inl uBlks)), (a_ru, .inl (cI, N, .inl uUnts)), (a_st, .inl (cI, n, .inl z3)), (a_pl, .inl (cI, 16, .inl z2.2.2.2.2))]) hP hD [0, 2, 4, 5, 9, 10] [1, 3, 6, 7, 8] rfl rfl (by decide) (by decide) hk1 hFc hP1 hD1
    have hP := hP.sub (ws' := [(a_u, .inr (0, [.ref a_d, .ref a_p, .ref a_r, .ref a_c, .ref a_st, .ref a_pl, .int z2.2.1, .int z2.2.2.1, .int z2.2.2.1, .int z2.2.2.2.1, .int (0 : Int32)])), (a_d, .inr (1, [.int (-1 : Int32), .int uWritten])), (a_r, .inr (3, [.ref a_rs, .ref a_rb, .ref a_ru, .ref a_rz, .ref a_rh, .ref a_rl])), (a_rs, .inl (cI, N, .inl uSers)), (a_rb, .inl (cI, N, .inl uBlks)), (a_ru, .inl (cI, N, .inl uUnts)), (a_rz, .inl (cZ, N, .inl uStos)), (a_c, .inr (4, [.ref a_cp, .int cNumber, .int cSerial, .int cOpen, .int cFill])), (a_cp, .inl (cI, 16, .inl cPlcs)), (a_st, .inl (cI, n, .inl z3)), (a_pl, .inl (cI, 16, .inl z2.2.2.2.2))]) [5, 0, 6, 1, 7, 8, 2, 3, 4, 9, 10] rfl
    have hD := hD.sub (ws' := [(a_u, .inr (0, [.ref a_d, .ref a_p, .ref a_r, .ref a_c, .ref a_st, .ref a_pl, .int z2.2.1, .int z2.2.2.1, .int z2.2.2.1, .int z2.2.2.2.1, .int (0 : Int32)])), (a_d, .inr (1, [.int (-1 : Int32), .int uWritten])), (a_r, .inr (3, [.ref a_rs, .ref a_rb, .ref a_ru, .ref a_rz, .ref a_rh, .ref a_rl])), (a_rs, .inl (cI, N, .inl uSers)), (a_rb, .inl (cI, N, .inl uBlks)), (a_ru, .inl (cI, N, .inl uUnts)), (a_rz, .inl (cZ, N, .inl uStos)), (a_c, .inr (4, [.ref a_cp, .int cNumber, .int cSerial, .int cOpen, .int cFill])), (a_cp, .inl (cI, 16, .inl cPlcs)), (a_st, .inl (cI, n, .inl z3)), (a_pl, .inl (cI, 16, .inl z2.2.2.2.2))]) [5, 0, 6, 1, 7, 8, 2, 3, 4, 9, 10] (by decide) rfl
    have hP : va_P (dC, dI) classes [(a_u, .inr (0, [.ref a_d, .ref a_p, .ref a_r, .ref a_c, .ref a_st, .ref a_pl, .int z2.2.1, .int z2.2.2.1, .int z2.2.2.1, .int z2.2.2.2.1, .int (0 : Int32)])), (a_d, .inr (1, [.int (-1 : Int32), .int uWritten])), (a_r, .inr (3, [.ref a_rs, .ref a_rb, .ref a_ru, .ref a_rz, .ref a_rh, .ref a_rl])), (a_rs, .inl (cI, N, .inl uSers)), (a_rb, .inl (cI, N, .inl uBlks)), (a_ru, .inl (cI, N, .inl uUnts)), (a_rz, .inl (cZ, N, .inl uStos)), (a_c, .inr (4, [.ref a_cp, .int cNumber, .int cSerial, .int cOpen, .int cFill])), (a_cp, .inl (cI, 16, .inl cPlcs)), (a_st, .inl (cI, n, .inl z3)), (a_pl, .inl (cI, 16, .inl z2.2.2.2.2))] H := hP
    have hD : va_D A [(a_u, .inr (0, [.ref a_d, .ref a_p, .ref a_r, .ref a_c, .ref a_st, .ref a_pl, .int z2.2.1, .int z2.2.2.1, .int z2.2.2.1, .int z2.2.2.2.1, .int (0 : Int32)])), (a_d, .inr (1, [.int (-1 : Int32), .int uWritten])), (a_r, .inr (3, [.ref a_rs, .ref a_rb, .ref a_ru, .ref a_rz, .ref a_rh, .ref a_rl])), (a_rs, .inl (cI, N, .inl uSers)), (a_rb, .inl (cI, N, .inl uBlks)), (a_ru, .inl (cI, N, .inl uUnts)), (a_rz, .inl (cZ, N, .inl uStos)), (a_c, .inr (4, [.ref a_cp, .int cNumber, .int cSerial, .int cOpen, .int cFill])), (a_cp, .inl (cI, 16, .inl cPlcs)), (a_st, .inl (cI, n, .inl z3)), (a_pl, .inl (cI, 16, .inl z2.2.2.2.2))] := hD
    refine lv_aload_n hx hb d_U_recover_43 rfl (lv_at hl 1 rfl) ?_
    obtain ⟨z4, hz, h⟩ := ck_bind h
    have hPc := hP.sub (ws' := [(a_u, .inr (0, [.ref a_d, .ref a_p, .ref a_r, .ref a_c, .ref a_st, .ref a_pl, .int z2.2.1, .int z2.2.2.1, .int z2.2.2.1, .int z2.2.2.2.1, .int (0 : Int32)])), (a_d, .inr (1, [.int (-1 : Int32), .int uWritten])), (a_c, .inr (4, [.ref a_cp, .int cNumber, .int cSerial, .int cOpen, .int cFill])), (a_cp, .inl (cI, 16, .inl cPlcs)), (a_pl, .inl (cI, 16, .inl z2.2.2.2.2))]) [0, 1, 7, 8, 10] rfl
    have hDc := hD.sub (ws' := [(a_u, .inr (0, [.ref a_d, .ref a_p, .ref a_r, .ref a_c, .ref a_st, .ref a_pl, .int z2.2.1, .int z2.2.2.1, .int z2.2.2.1, .int z2.2.2.2.1, .int (0 : Int32)])), (a_d, .inr (1, [.int (-1 : Int32), .int uWritten])), (a_c, .inr (4, [.ref a_cp, .int cNumber, .int cSerial, .int cOpen, .int cFill])), (a_cp, .inl (cI, 16, .inl cPlcs)), (a_pl, .inl (cI, 16, .inl z2.2.2.2.2))]) [0, 1, 7, 8, 10] (by decide) rfl
    have hFc := va_free (wc := [(a_u, .inr (0, [.ref a_d, .ref a_p, .ref a_r, .ref a_c, .ref a_st, .ref a_pl, .int z2.2.1, .int z2.2.2.1, .int z2.2.2.1, .int z2.2.2.2.1, .int (0 : Int32)])), (a_d, .inr (1, [.int (-1 : Int32), .int uWritten])), (a_c, .inr (4, [.ref a_cp, .int cNumber, .int cSerial, .int cOpen, .int cFill])), (a_cp, .inl (cI, 16, .inl cPlcs)), (a_pl, .inl (cI, 16, .inl z2.2.2.2.2))]) hD hS hA [0, 1, 7, 8, 10] rfl
    refine va_calli (va_runV (As := []) (rest := []) ⟨hx, hb, hml, hown, htT⟩ (c_U_makeCheckpoint l dC dI cI cZ cJ a_u a_d a_p a_pb a_pf a_r a_rs a_rb a_ru a_rz a_rh a_rl a_c a_cp a_st a_pl H.size n N z2.2.1 z2.2.2.1 z2.2.2.1 z2.2.2.2.1 (0 : Int32) (-1 : Int32) uWritten cNumber cSerial cOpen cFill cPlcs z2.2.2.2.2  z4 hz) (cwV 0 htT (gV kl_U_110 ki_U_makeCheckpoint ke_U_makeCheckpoint kn_U kc_U_makeCheckpoint) rfl rfl rfl (by decide +kernel) ⟨Nat.le_of_ble_eq_true rfl, Nat.le_of_ble_eq_true rfl⟩) ⟨fun a U g mk q => by obtain ⟨q0, q1, qP, qK, qD, qN⟩ := q; exact ⟨q0, q1, qP, va_K.moved (u := U) (U := U.calling g mk a) (Vm.Alike.refl U.vm) qK, qD, Ns.same (u := U) rfl qN⟩, va_recv (q0 := 0) (q := (R_U, F_U, 11)) hK hP (ci := 0) rfl rfl, fun U hU hW => ⟨rfl, by rw [hU], by rw [hU]; exact hPc, va_K.moved hW.alike hK, hDc.weaken (fun _ _ _ _ => trivial), Ns.warm hW hN⟩⟩ rfl rfl hl.1 rfl (lv_room (Nat.le_of_ble_eq_true rfl)) d_U_recover_44 ⟨(Nat.zero_le _), (Nat.zero_le _)⟩) hS (fun q _ h => hFc q h) hFc (fun r u t H locs ht hvm hw hB hz1 hk1 hS => ?_)
    have e1 := congrArg Prod.fst hw
    have e2 := congrArg Prod.snd hw
    dsimp only at e1 e2
    subst e1
    subst e2
    obtain ⟨hP1, hK1, hD1⟩ := hB
    rw [ht] at hP1
    obtain ⟨hP, hD⟩ := va_join (wr := [(a_r, .inr (3, [.ref a_rs, .ref a_rb, .ref a_ru, .ref a_rz, .ref a_rh, .ref a_rl])), (a_rs, .inl (cI, N, .inl uSers)), (a_rb, .inl (cI, N, .inl uBlks)), (a_ru, .inl (cI, N, .inl uUnts)), (a_rz, .inl (cZ, N, .inl uStos)), (a_st, .inl (cI, n, .inl z3))]) (w1 := [(a_u, .inr (0, [.ref a_d, .ref a_p, .ref a_r, .ref a_c, .ref a_st, .ref a_pl, .int z2.2.1, .int z2.2.2.1, .int z4.2.1, .int z2.2.2.2.1, .int (0 : Int32)])), (a_d, .inr (1, [.int z4.2.2.1, .int z4.2.2.2.1])), (a_c, .inr (4, [.ref a_cp, .int z4.2.2.2.2.1, .int z4.2.2.2.2.2.1, .int z4.2.2.2.2.2.2.1, .int z4.2.2.2.2.2.2.2.1])), (a_cp, .inl (cI, 16, .inl z4.2.2.2.2.2.2.2.2)), (a_pl, .inl (cI, 16, .inl z2.2.2.2.2))]) hP hD [0, 1, 7, 8, 10] [2, 3, 4, 5, 6, 9] rfl rfl (by decide) (by decide) hk1 hFc hP1 hD1
    have hP := hP.sub (ws' := [(a_u, .inr (0, [.ref a_d, .ref a_p, .ref a_r, .ref a_c, .ref a_st, .ref a_pl, .int z2.2.1, .int z2.2.2.1, .int z4.2.1, .int z2.2.2.2.1, .int (0 : Int32)])), (a_d, .inr (1, [.int z4.2.2.1, .int z4.2.2.2.1])), (a_r, .inr (3, [.ref a_rs, .ref a_rb, .ref a_ru, .ref a_rz, .ref a_rh, .ref a_rl])), (a_rs, .inl (cI, N, .inl uSers)), (a_rb, .inl (cI, N, .inl uBlks)), (a_ru, .inl (cI, N, .inl uUnts)), (a_rz, .inl (cZ, N, .inl uStos)), (a_c, .inr (4, [.ref a_cp, .int z4.2.2.2.2.1, .int z4.2.2.2.2.2.1, .int z4.2.2.2.2.2.2.1, .int z4.2.2.2.2.2.2.2.1])), (a_cp, .inl (cI, 16, .inl z4.2.2.2.2.2.2.2.2)), (a_st, .inl (cI, n, .inl z3)), (a_pl, .inl (cI, 16, .inl z2.2.2.2.2))]) [6, 7, 0, 1, 2, 3, 4, 8, 9, 5, 10] rfl
    have hD := hD.sub (ws' := [(a_u, .inr (0, [.ref a_d, .ref a_p, .ref a_r, .ref a_c, .ref a_st, .ref a_pl, .int z2.2.1, .int z2.2.2.1, .int z4.2.1, .int z2.2.2.2.1, .int (0 : Int32)])), (a_d, .inr (1, [.int z4.2.2.1, .int z4.2.2.2.1])), (a_r, .inr (3, [.ref a_rs, .ref a_rb, .ref a_ru, .ref a_rz, .ref a_rh, .ref a_rl])), (a_rs, .inl (cI, N, .inl uSers)), (a_rb, .inl (cI, N, .inl uBlks)), (a_ru, .inl (cI, N, .inl uUnts)), (a_rz, .inl (cZ, N, .inl uStos)), (a_c, .inr (4, [.ref a_cp, .int z4.2.2.2.2.1, .int z4.2.2.2.2.2.1, .int z4.2.2.2.2.2.2.1, .int z4.2.2.2.2.2.2.2.1])), (a_cp, .inl (cI, 16, .inl z4.2.2.2.2.2.2.2.2)), (a_st, .inl (cI, n, .inl z3)), (a_pl, .inl (cI, 16, .inl z2.2.2.2.2))]) [6, 7, 0, 1, 2, 3, 4, 8, 9, 5, 10] (by decide) rfl
    have hP : va_P (dC, dI) classes [(a_u, .inr (0, [.ref a_d, .ref a_p, .ref a_r, .ref a_c, .ref a_st, .ref a_pl, .int z2.2.1, .int z2.2.2.1, .int z4.2.1, .int z2.2.2.2.1, .int (0 : Int32)])), (a_d, .inr (1, [.int z4.2.2.1, .int z4.2.2.2.1])), (a_r, .inr (3, [.ref a_rs, .ref a_rb, .ref a_ru, .ref a_rz, .ref a_rh, .ref a_rl])), (a_rs, .inl (cI, N, .inl uSers)), (a_rb, .inl (cI, N, .inl uBlks)), (a_ru, .inl (cI, N, .inl uUnts)), (a_rz, .inl (cZ, N, .inl uStos)), (a_c, .inr (4, [.ref a_cp, .int z4.2.2.2.2.1, .int z4.2.2.2.2.2.1, .int z4.2.2.2.2.2.2.1, .int z4.2.2.2.2.2.2.2.1])), (a_cp, .inl (cI, 16, .inl z4.2.2.2.2.2.2.2.2)), (a_st, .inl (cI, n, .inl z3)), (a_pl, .inl (cI, 16, .inl z2.2.2.2.2))] H := hP
    have hD : va_D A [(a_u, .inr (0, [.ref a_d, .ref a_p, .ref a_r, .ref a_c, .ref a_st, .ref a_pl, .int z2.2.1, .int z2.2.2.1, .int z4.2.1, .int z2.2.2.2.1, .int (0 : Int32)])), (a_d, .inr (1, [.int z4.2.2.1, .int z4.2.2.2.1])), (a_r, .inr (3, [.ref a_rs, .ref a_rb, .ref a_ru, .ref a_rz, .ref a_rh, .ref a_rl])), (a_rs, .inl (cI, N, .inl uSers)), (a_rb, .inl (cI, N, .inl uBlks)), (a_ru, .inl (cI, N, .inl uUnts)), (a_rz, .inl (cZ, N, .inl uStos)), (a_c, .inr (4, [.ref a_cp, .int z4.2.2.2.2.1, .int z4.2.2.2.2.2.1, .int z4.2.2.2.2.2.2.1, .int z4.2.2.2.2.2.2.2.1])), (a_cp, .inl (cI, 16, .inl z4.2.2.2.2.2.2.2.2)), (a_st, .inl (cI, n, .inl z3)), (a_pl, .inl (cI, 16, .inl z2.2.2.2.2))] := hD
    refine lv_if_eq (tgt := 54) hx hb d_U_recover_47 (by decide) (fun hc => ?_) (fun hc => ?_)
    · have h := ck_t hc h
      refine lv_aload_n hx hb d_U_recover_54 rfl (lv_at hl 1 rfl) ?_
      obtain ⟨z5, hz, h⟩ := ck_bind h
      have hPc := hP.sub (ws' := [(a_u, .inr (0, [.ref a_d, .ref a_p, .ref a_r, .ref a_c, .ref a_st, .ref a_pl, .int z2.2.1, .int z2.2.2.1, .int z4.2.1, .int z2.2.2.2.1, .int (0 : Int32)])), (a_r, .inr (3, [.ref a_rs, .ref a_rb, .ref a_ru, .ref a_rz, .ref a_rh, .ref a_rl])), (a_rs, .inl (cI, N, .inl uSers)), (a_ru, .inl (cI, N, .inl uUnts))]) [0, 2, 3, 5] rfl
      have hDc := hD.sub (ws' := [(a_u, .inr (0, [.ref a_d, .ref a_p, .ref a_r, .ref a_c, .ref a_st, .ref a_pl, .int z2.2.1, .int z2.2.2.1, .int z4.2.1, .int z2.2.2.2.1, .int (0 : Int32)])), (a_r, .inr (3, [.ref a_rs, .ref a_rb, .ref a_ru, .ref a_rz, .ref a_rh, .ref a_rl])), (a_rs, .inl (cI, N, .inl uSers)), (a_ru, .inl (cI, N, .inl uUnts))]) [0, 2, 3, 5] (by decide) rfl
      have hFc := va_free (wc := [(a_u, .inr (0, [.ref a_d, .ref a_p, .ref a_r, .ref a_c, .ref a_st, .ref a_pl, .int z2.2.1, .int z2.2.2.1, .int z4.2.1, .int z2.2.2.2.1, .int (0 : Int32)])), (a_r, .inr (3, [.ref a_rs, .ref a_rb, .ref a_ru, .ref a_rz, .ref a_rh, .ref a_rl])), (a_rs, .inl (cI, N, .inl uSers)), (a_ru, .inl (cI, N, .inl uUnts))]) hD hS hA [0, 2, 3, 5] rfl
      refine va_calli (va_runV (As := []) (rest := []) ⟨hx, hb, hml, hown, htT⟩ (c_U_goDown l dC dI cI cZ cJ a_u a_d a_p a_pb a_pf a_r a_rs a_rb a_ru a_rz a_rh a_rl a_c a_cp a_st a_pl H.size n N z2.2.1 z2.2.2.1 z4.2.1 z2.2.2.2.1 (0 : Int32) uSers uUnts  z5 hz) (cwV 0 htT (gV kl_U_84 ki_U_goDown ke_U_goDown kn_U kc_U_goDown) rfl rfl rfl (by decide +kernel) ⟨Nat.le_of_ble_eq_true rfl, Nat.le_of_ble_eq_true rfl⟩) ⟨fun a U g mk q => by obtain ⟨q0, q1, qP, qK, qD, qN⟩ := q; exact ⟨q0, q1, qP, va_K.moved (u := U) (U := U.calling g mk a) (Vm.Alike.refl U.vm) qK, qD, Ns.same (u := U) rfl qN⟩, va_recv (q0 := 0) (q := (R_U, F_U, 11)) hK hP (ci := 0) rfl rfl, fun U hU hW => ⟨rfl, by rw [hU], by rw [hU]; exact hPc, va_K.moved hW.alike hK, hDc.weaken (fun _ _ _ _ => trivial), Ns.warm hW hN⟩⟩ rfl rfl hl.1 rfl (lv_room (Nat.le_of_ble_eq_true rfl)) d_U_recover_55 ⟨(Nat.zero_le _), (Nat.zero_le _)⟩) hS (fun q _ h => hFc q h) hFc (fun r u t H locs ht hvm hw hB hz1 hk1 hS => ?_)
      have e1 := congrArg Prod.fst hw
      have e2 := congrArg Prod.snd hw
      dsimp only at e1 e2
      subst e1
      subst e2
      obtain ⟨hP1, hK1, hD1⟩ := hB
      rw [ht] at hP1
      obtain ⟨hP, hD⟩ := va_join (wr := [(a_d, .inr (1, [.int z4.2.2.1, .int z4.2.2.2.1])), (a_rb, .inl (cI, N, .inl uBlks)), (a_rz, .inl (cZ, N, .inl uStos)), (a_c, .inr (4, [.ref a_cp, .int z4.2.2.2.2.1, .int z4.2.2.2.2.2.1, .int z4.2.2.2.2.2.2.1, .int z4.2.2.2.2.2.2.2.1])), (a_cp, .inl (cI, 16, .inl z4.2.2.2.2.2.2.2.2)), (a_st, .inl (cI, n, .inl z3)), (a_pl, .inl (cI, 16, .inl z2.2.2.2.2))]) (w1 := [(a_u, .inr (0, [.ref a_d, .ref a_p, .ref a_r, .ref a_c, .ref a_st, .ref a_pl, .int z2.2.1, .int z2.2.2.1, .int z4.2.1, .int z2.2.2.2.1, .int z5.2.1])), (a_r, .inr (3, [.ref a_rs, .ref a_rb, .ref a_ru, .ref a_rz, .ref a_rh, .ref a_rl])), (a_rs, .inl (cI, N, .inl z5.2.2)), (a_ru, .inl (cI, N, .inl uUnts))]) hP hD [0, 2, 3, 5] [1, 4, 6, 7, 8, 9, 10] rfl rfl (by decide) (by decide) hk1 hFc hP1 hD1
      have hP := hP.sub (ws' := [(a_u, .inr (0, [.ref a_d, .ref a_p, .ref a_r, .ref a_c, .ref a_st, .ref a_pl, .int z2.2.1, .int z2.2.2.1, .int z4.2.1, .int z2.2.2.2.1, .int z5.2.1])), (a_d, .inr (1, [.int z4.2.2.1, .int z4.2.2.2.1])), (a_r, .inr (3, [.ref a_rs, .ref a_rb, .ref a_ru, .ref a_rz, .ref a_rh, .ref a_rl])), (a_rs, .inl (cI, N, .inl z5.2.2)), (a_rb, .inl (cI, N, .inl uBlks)), (a_ru, .inl (cI, N, .inl uUnts)), (a_rz, .inl (cZ, N, .inl uStos)), (a_c, .inr (4, [.ref a_cp, .int z4.2.2.2.2.1, .int z4.2.2.2.2.2.1, .int z4.2.2.2.2.2.2.1, .int z4.2.2.2.2.2.2.2.1])), (a_cp, .inl (cI, 16, .inl z4.2.2.2.2.2.2.2.2)), (a_st, .inl (cI, n, .inl z3)), (a_pl, .inl (cI, 16, .inl z2.2.2.2.2))]) [7, 0, 8, 9, 1, 10, 2, 3, 4, 5, 6] rfl
      have hD := hD.sub (ws' := [(a_u, .inr (0, [.ref a_d, .ref a_p, .ref a_r, .ref a_c, .ref a_st, .ref a_pl, .int z2.2.1, .int z2.2.2.1, .int z4.2.1, .int z2.2.2.2.1, .int z5.2.1])), (a_d, .inr (1, [.int z4.2.2.1, .int z4.2.2.2.1])), (a_r, .inr (3, [.ref a_rs, .ref a_rb, .ref a_ru, .ref a_rz, .ref a_rh, .ref a_rl])), (a_rs, .inl (cI, N, .inl z5.2.2)), (a_rb, .inl (cI, N, .inl uBlks)), (a_ru, .inl (cI, N, .inl uUnts)), (a_rz, .inl (cZ, N, .inl uStos)), (a_c, .inr (4, [.ref a_cp, .int z4.2.2.2.2.1, .int z4.2.2.2.2.2.1, .int z4.2.2.2.2.2.2.1, .int z4.2.2.2.2.2.2.2.1])), (a_cp, .inl (cI, 16, .inl z4.2.2.2.2.2.2.2.2)), (a_st, .inl (cI, n, .inl z3)), (a_pl, .inl (cI, 16, .inl z2.2.2.2.2))]) [7, 0, 8, 9, 1, 10, 2, 3, 4, 5, 6] (by decide) rfl
      have hP : va_P (dC, dI) classes [(a_u, .inr (0, [.ref a_d, .ref a_p, .ref a_r, .ref a_c, .ref a_st, .ref a_pl, .int z2.2.1, .int z2.2.2.1, .int z4.2.1, .int z2.2.2.2.1, .int z5.2.1])), (a_d, .inr (1, [.int z4.2.2.1, .int z4.2.2.2.1])), (a_r, .inr (3, [.ref a_rs, .ref a_rb, .ref a_ru, .ref a_rz, .ref a_rh, .ref a_rl])), (a_rs, .inl (cI, N, .inl z5.2.2)), (a_rb, .inl (cI, N, .inl uBlks)), (a_ru, .inl (cI, N, .inl uUnts)), (a_rz, .inl (cZ, N, .inl uStos)), (a_c, .inr (4, [.ref a_cp, .int z4.2.2.2.2.1, .int z4.2.2.2.2.2.1, .int z4.2.2.2.2.2.2.1, .int z4.2.2.2.2.2.2.2.1])), (a_cp, .inl (cI, 16, .inl z4.2.2.2.2.2.2.2.2)), (a_st, .inl (cI, n, .inl z3)), (a_pl, .inl (cI, 16, .inl z2.2.2.2.2))] H := hP
      have hD : va_D A [(a_u, .inr (0, [.ref a_d, .ref a_p, .ref a_r, .ref a_c, .ref a_st, .ref a_pl, .int z2.2.1, .int z2.2.2.1, .int z4.2.1, .int z2.2.2.2.1, .int z5.2.1])), (a_d, .inr (1, [.int z4.2.2.1, .int z4.2.2.2.1])), (a_r, .inr (3, [.ref a_rs, .ref a_rb, .ref a_ru, .ref a_rz, .ref a_rh, .ref a_rl])), (a_rs, .inl (cI, N, .inl z5.2.2)), (a_rb, .inl (cI, N, .inl uBlks)), (a_ru, .inl (cI, N, .inl uUnts)), (a_rz, .inl (cZ, N, .inl uStos)), (a_c, .inr (4, [.ref a_cp, .int z4.2.2.2.2.1, .int z4.2.2.2.2.2.1, .int z4.2.2.2.2.2.2.1, .int z4.2.2.2.2.2.2.2.1])), (a_cp, .inl (cI, 16, .inl z4.2.2.2.2.2.2.2.2)), (a_st, .inl (cI, n, .inl z3)), (a_pl, .inl (cI, 16, .inl z2.2.2.2.2))] := hD
      exact W.iret (v := z5.1) hx hb hr (fun t ht hW => ⟨⟨z5.1, (z2.2.1, z2.2.2.1, z4.2.1, z2.2.2.2.1, z5.2.1, z4.2.2.1, z4.2.2.2.1, z5.2.2, z4.2.2.2.2.1, z4.2.2.2.2.2.1, z4.2.2.2.2.2.2.1, z4.2.2.2.2.2.2.2.1, z4.2.2.2.2.2.2.2.2, z3, z2.2.2.2.2), rfl, (Option.some.inj h).symm, by rw [ht]; exact hP, va_K.moved hW.alike hK, hD⟩, hS.F ht⟩) hS.2.2 d_U_recover_58
    · have h := ck_f hc h
      refine lv_iload_n hx hb d_U_recover_50 rfl (lv_at hl 0 rfl) ?_
      refine lv_goto (tgt := 58) hx hb d_U_recover_51 (by decide) ?_
      exact W.iret (v := z2.1) hx hb hr (fun t ht hW => ⟨⟨z2.1, (z2.2.1, z2.2.2.1, z4.2.1, z2.2.2.2.1, (0 : Int32), z4.2.2.1, z4.2.2.2.1, uSers, z4.2.2.2.2.1, z4.2.2.2.2.2.1, z4.2.2.2.2.2.2.1, z4.2.2.2.2.2.2.2.1, z4.2.2.2.2.2.2.2.2, z3, z2.2.2.2.2), rfl, (Option.some.inj h).symm, by rw [ht]; exact hP, va_K.moved hW.alike hK, hD⟩, hS.F ht⟩) hS.2.2 d_U_recover_58
  · have h := ck_t hc h
    refine lv_iconst (v := (-1 : Int32)) hx hb d_U_recover_7 (by decide) ?_
    exact W.iret (v := (-1 : Int32)) hx hb hr (fun t ht hW => ⟨⟨(-1 : Int32), (uOpen, uFill, uSaved, uSerial, uDown, uArmed, uWritten, uSers, cNumber, cSerial, cOpen, cFill, cPlcs, uSts, uPlcs), rfl, (Option.some.inj h).symm, by rw [ht]; exact hP, va_K.moved hW.alike hK, hD⟩, hS.F ht⟩) hS.2.2 d_U_recover_8
set_option maxHeartbeats 4000000 in
set_option maxRecDepth 100000 in
theorem c_U_live (l : Launch) (dC : Nat → ClassId) (dI : Nat → Nat → Nat) (cI cZ cJ : ClassId) (a_u a_d a_p a_pb a_pf a_r a_rs a_rb a_ru a_rz a_rh a_rl a_c a_cp a_st a_pl : Nat) (sz n N : Nat) (uOpen : Int32) (uFill : Int32) (uSaved : Int32) (uSerial : Int32) (uDown : Int32) (uBlks : Nat → Int32) (uUnts : Nat → Int32) (uSts : Nat → Int32) (uPlcs : Nat → Int32) (x1 : Int32) (res : Int32) (hM : U_live n N uDown uBlks uUnts uPlcs x1 = some res) : Met l y_U_live w_U_live ({ frames := 2, cells := 0, slots := 0, locals := 45 }) (va_Pc [.ref a_u, .int x1] (fun U => U.heap.size = sz ∧ va_P (dC, dI) classes [(a_u, .inr (0, [.ref a_d, .ref a_p, .ref a_r, .ref a_c, .ref a_st, .ref a_pl, .int uOpen, .int uFill, .int uSaved, .int uSerial, .int uDown])), (a_r, .inr (3, [.ref a_rs, .ref a_rb, .ref a_ru, .ref a_rz, .ref a_rh, .ref a_rl])), (a_rb, .inl (cI, N, .inl uBlks)), (a_ru, .inl (cI, N, .inl uUnts)), (a_st, .inl (cI, n, .inl uSts)), (a_pl, .inl (cI, 16, .inl uPlcs))] U.heap ∧ va_K (dC, dI) classes [(cI, .int), (cZ, .boolean), (cJ, .long)] U ∧ va_D (fun _ => True) [(a_u, .inr (0, [.ref a_d, .ref a_p, .ref a_r, .ref a_c, .ref a_st, .ref a_pl, .int uOpen, .int uFill, .int uSaved, .int uSerial, .int uDown])), (a_r, .inr (3, [.ref a_rs, .ref a_rb, .ref a_ru, .ref a_rz, .ref a_rh, .ref a_rl])), (a_rb, .inl (cI, N, .inl uBlks)), (a_ru, .inl (cI, N, .inl uUnts)), (a_st, .inl (cI, n, .inl uSts)), (a_pl, .inl (cI, 16, .inl uPlcs))] ∧ Ns U)) (va_Qi (fun (r : Int32) (z : Unit) => res = r) (fun (z : Unit) (t : State) => va_P (dC, dI) classes [(a_u, .inr (0, [.ref a_d, .ref a_p, .ref a_r, .ref a_c, .ref a_st, .ref a_pl, .int uOpen, .int uFill, .int uSaved, .int uSerial, .int uDown])), (a_r, .inr (3, [.ref a_rs, .ref a_rb, .ref a_ru, .ref a_rz, .ref a_rh, .ref a_rl])), (a_rb, .inl (cI, N, .inl uBlks)), (a_ru, .inl (cI, N, .inl uUnts)), (a_st, .inl (cI, n, .inl uSts)), (a_pl, .inl (cI, 16, .inl uPlcs))] t.heap ∧ va_K (dC, dI) classes [(cI, .int), (cZ, .boolean), (cJ, .long)] t ∧ va_D (va_A [(a_u, .inr (0, [.ref a_d, .ref a_p, .ref a_r, .ref a_c, .ref a_st, .ref a_pl, .int uOpen, .int uFill, .int uSaved, .int uSerial, .int uDown])), (a_r, .inr (3, [.ref a_rs, .ref a_rb, .ref a_ru, .ref a_rz, .ref a_rh, .ref a_rl])), (a_rb, .inl (cI, N, .inl uBlks)), (a_ru, .inl (cI, N, .inl uUnts)), (a_st, .inl (cI, n, .inl uSts)), (a_pl, .inl (cI, 16, .inl uPlcs))] sz) [(a_u, .inr (0, [.ref a_d, .ref a_p, .ref a_r, .ref a_c, .ref a_st, .ref a_pl, .int uOpen, .int uFill, .int uSaved, .int uSerial, .int uDown])), (a_r, .inr (3, [.ref a_rs, .ref a_rb, .ref a_ru, .ref a_rz, .ref a_rh, .ref a_rl])), (a_rb, .inl (cI, N, .inl uBlks)), (a_ru, .inl (cI, N, .inl uUnts)), (a_st, .inl (cI, n, .inl uSts)), (a_pl, .inl (cI, 16, .inl uPlcs))]) (va_A [(a_u, .inr (0, [.ref a_d, .ref a_p, .ref a_r, .ref a_c, .ref a_st, .ref a_pl, .int uOpen, .int uFill, .int uSaved, .int uSerial, .int uDown])), (a_r, .inr (3, [.ref a_rs, .ref a_rb, .ref a_ru, .ref a_rz, .ref a_rh, .ref a_rl])), (a_rb, .inl (cI, N, .inl uBlks)), (a_ru, .inl (cI, N, .inl uUnts)), (a_st, .inl (cI, n, .inl uSts)), (a_pl, .inl (cI, 16, .inl uPlcs))] sz)) 0 0 (va_A [(a_u, .inr (0, [.ref a_d, .ref a_p, .ref a_r, .ref a_c, .ref a_st, .ref a_pl, .int uOpen, .int uFill, .int uSaved, .int uSerial, .int uDown])), (a_r, .inr (3, [.ref a_rs, .ref a_rb, .ref a_ru, .ref a_rz, .ref a_rh, .ref a_rl])), (a_rb, .inl (cI, N, .inl uBlks)), (a_ru, .inl (cI, N, .inl uUnts)), (a_st, .inl (cI, n, .inl uSts)), (a_pl, .inl (cI, 16, .inl uPlcs))] sz) := by
  refine Met.ofW (cc := b_U_live) (maxL := 2) (ret := (some .int)) (by decide) rfl ?_
  intro p e s m args below meth c s₁ B hml hv
  obtain ⟨rfl, hsz, hP, hK, hD0, hN⟩ := hv
  have hx := B.exec
  have hb := B.bytes
  have hr := B.returns
  have hts := atoms_spec (ws := w_U_live) B.pre
  have htT : ∀ w ∈ lwG, w.before _ s = true := fun w h => hts w (List.mem_cons_of_mem _ h)
  have hown : s.vm.findClass R_U = some m.cls := findClass_of_methodNamed B.named
  have hlocks := B.notSynchronized
  subst hsz
  have hD := hD0.self (sz := s.heap.size)
  generalize hAe : va_A [(a_u, .inr (0, [.ref a_d, .ref a_p, .ref a_r, .ref a_c, .ref a_st, .ref a_pl, .int uOpen, .int uFill, .int uSaved, .int uSerial, .int uDown])), (a_r, .inr (3, [.ref a_rs, .ref a_rb, .ref a_ru, .ref a_rz, .ref a_rh, .ref a_rl])), (a_rb, .inl (cI, N, .inl uBlks)), (a_ru, .inl (cI, N, .inl uUnts)), (a_st, .inl (cI, n, .inl uSts)), (a_pl, .inl (cI, 16, .inl uPlcs))] s.heap.size = A at hD ⊢
  have hA : ∀ q : Nat, s.heap.size ≤ q → A q := fun q h => by rw [← hAe]; exact Or.inr h
  have hS : va_S A s.heap s.heap [] := va_S.rf
  have hP : va_P (dC, dI) classes [(a_u, .inr (0, [.ref a_d, .ref a_p, .ref a_r, .ref a_c, .ref a_st, .ref a_pl, .int uOpen, .int uFill, .int uSaved, .int uSerial, .int uDown])), (a_r, .inr (3, [.ref a_rs, .ref a_rb, .ref a_ru, .ref a_rz, .ref a_rh, .ref a_rl])), (a_rb, .inl (cI, N, .inl uBlks)), (a_ru, .inl (cI, N, .inl uUnts)), (a_st, .inl (cI, n, .inl uSts)), (a_pl, .inl (cI, 16, .inl uPlcs))] s.heap := hP
  have hl := lv_entry ([.ref a_u, .int x1]) (n := 2) (Nat.le_of_ble_eq_true rfl)
  rw [lg_entry_eq]
  generalize (lg_sl ([.ref a_u, .int x1]) ++ List.replicate (2 - (lg_sl ([.ref a_u, .int x1])).length) Slot.unset).toArray = ls at hl ⊢
  have hl : lv_has ls 2 [(0, .ref a_u), (1, .int x1)] := hl
  have h := hM
  rw [U_live] at h
  refine lv_aload_n hx hb d_U_live_0 rfl (lv_at hl 0 rfl) ?_
  refine va_get (D := (dC, dI)) (ci := 0) (v := .int uDown) (C := R_U) (T := F_U) (N := 11) hx hb htT i_U hown hK hP 0 rfl rfl 10 (by decide) (htT _ kf_U_61) (fun _ h9 => h9) rfl d_U_live_1 ?_
  refine lv_if_eq (tgt := 10) hx hb d_U_live_4 (by decide) (fun hc => ?_) (fun hc => ?_)
  · have h := ck_t hc h
    refine lv_aload_n hx hb d_U_live_10 rfl (lv_at hl 0 rfl) ?_
    refine lv_iload_n hx hb d_U_live_11 rfl (lv_at hl 1 rfl) ?_
    obtain ⟨z1, hz, h⟩ := ck_bind h
    have hPc := hP.sub (ws' := [(a_u, .inr (0, [.ref a_d, .ref a_p, .ref a_r, .ref a_c, .ref a_st, .ref a_pl, .int uOpen, .int uFill, .int uSaved, .int uSerial, .int uDown])), (a_st, .inl (cI, n, .inl uSts))]) [0, 4] rfl
    have hDc := hD.sub (ws' := [(a_u, .inr (0, [.ref a_d, .ref a_p, .ref a_r, .ref a_c, .ref a_st, .ref a_pl, .int uOpen, .int uFill, .int uSaved, .int uSerial, .int uDown])), (a_st, .inl (cI, n, .inl uSts))]) [0, 4] (by decide) rfl
    have hFc := va_free (wc := [(a_u, .inr (0, [.ref a_d, .ref a_p, .ref a_r, .ref a_c, .ref a_st, .ref a_pl, .int uOpen, .int uFill, .int uSaved, .int uSerial, .int uDown])), (a_st, .inl (cI, n, .inl uSts))]) hD hS hA [0, 4] rfl
    refine va_calli (va_runV (As := [.int x1]) (rest := []) ⟨hx, hb, hml, hown, htT⟩ (c_U_isSegment l dC dI cI cZ cJ a_u a_d a_p a_pb a_pf a_r a_rs a_rb a_ru a_rz a_rh a_rl a_c a_cp a_st a_pl s.heap.size n N uOpen uFill uSaved uSerial uDown uSts x1 z1 hz) (cwV 1 htT (gV kl_U_138 ki_U_isSegment ke_U_isSegment kn_U kc_U_isSegment) rfl rfl rfl (by decide +kernel) ⟨Nat.le_of_ble_eq_true rfl, Nat.le_of_ble_eq_true rfl⟩) ⟨fun a U g mk q => by obtain ⟨q0, q1, qP, qK, qD, qN⟩ := q; exact ⟨q0, q1, qP, va_K.moved (u := U) (U := U.calling g mk a) (Vm.Alike.refl U.vm) qK, qD, Ns.same (u := U) rfl qN⟩, va_recv (q0 := 0) (q := (R_U, F_U, 11)) hK hP (ci := 0) rfl rfl, fun U hU hW => ⟨rfl, by rw [hU], by rw [hU]; exact hPc, va_K.moved hW.alike hK, hDc.weaken (fun _ _ _ _ => trivial), Ns.warm hW hN⟩⟩ rfl rfl hl.1 rfl (lv_room (Nat.le_of_ble_eq_true rfl)) d_U_live_12 ⟨(Nat.zero_le _), (Nat.zero_le _)⟩) hS (fun q _ h => hFc q h) hFc (fun r u t H locs ht hvm hw hB hz1 hk1 hS => ?_)
    subst hw
    obtain ⟨hP1, hK1, hD1⟩ := hB
    rw [ht] at hP1
    obtain ⟨hP, hD⟩ := va_join (wr := [(a_r, .inr (3, [.ref a_rs, .ref a_rb, .ref a_ru, .ref a_rz, .ref a_rh, .ref a_rl])), (a_rb, .inl (cI, N, .inl uBlks)), (a_ru, .inl (cI, N, .inl uUnts)), (a_pl, .inl (cI, 16, .inl uPlcs))]) (w1 := [(a_u, .inr (0, [.ref a_d, .ref a_p, .ref a_r, .ref a_c, .ref a_st, .ref a_pl, .int uOpen, .int uFill, .int uSaved, .int uSerial, .int uDown])), (a_st, .inl (cI, n, .inl uSts))]) hP hD [0, 4] [1, 2, 3, 5] rfl rfl (by decide) (by decide) hk1 hFc hP1 hD1
    have hP := hP.sub (ws' := [(a_u, .inr (0, [.ref a_d, .ref a_p, .ref a_r, .ref a_c, .ref a_st, .ref a_pl, .int uOpen, .int uFill, .int uSaved, .int uSerial, .int uDown])), (a_r, .inr (3, [.ref a_rs, .ref a_rb, .ref a_ru, .ref a_rz, .ref a_rh, .ref a_rl])), (a_rb, .inl (cI, N, .inl uBlks)), (a_ru, .inl (cI, N, .inl uUnts)), (a_st, .inl (cI, n, .inl uSts)), (a_pl, .inl (cI, 16, .inl uPlcs))]) [4, 0, 1, 2, 5, 3] rfl
    have hD := hD.sub (ws' := [(a_u, .inr (0, [.ref a_d, .ref a_p, .ref a_r, .ref a_c, .ref a_st, .ref a_pl, .int uOpen, .int uFill, .int uSaved, .int uSerial, .int uDown])), (a_r, .inr (3, [.ref a_rs, .ref a_rb, .ref a_ru, .ref a_rz, .ref a_rh, .ref a_rl])), (a_rb, .inl (cI, N, .inl uBlks)), (a_ru, .inl (cI, N, .inl uUnts)), (a_st, .inl (cI, n, .inl uSts)), (a_pl, .inl (cI, 16, .inl uPlcs))]) [4, 0, 1, 2, 5, 3] (by decide) rfl
    have hP : va_P (dC, dI) classes [(a_u, .inr (0, [.ref a_d, .ref a_p, .ref a_r, .ref a_c, .ref a_st, .ref a_pl, .int uOpen, .int uFill, .int uSaved, .int uSerial, .int uDown])), (a_r, .inr (3, [.ref a_rs, .ref a_rb, .ref a_ru, .ref a_rz, .ref a_rh, .ref a_rl])), (a_rb, .inl (cI, N, .inl uBlks)), (a_ru, .inl (cI, N, .inl uUnts)), (a_st, .inl (cI, n, .inl uSts)), (a_pl, .inl (cI, 16, .inl uPlcs))] H := hP
    have hD : va_D A [(a_u, .inr (0, [.ref a_d, .ref a_p, .ref a_r, .ref a_c, .ref a_st, .ref a_pl, .int uOpen, .int uFill, .int uSaved, .int uSerial, .int uDown])), (a_r, .inr (3, [.ref a_rs, .ref a_rb, .ref a_ru, .ref a_rz, .ref a_rh, .ref a_rl])), (a_rb, .inl (cI, N, .inl uBlks)), (a_ru, .inl (cI, N, .inl uUnts)), (a_st, .inl (cI, n, .inl uSts)), (a_pl, .inl (cI, 16, .inl uPlcs))] := hD
    refine lv_if_eq (tgt := 26) hx hb d_U_live_15 (by decide) (fun hc => ?_) (fun hc => ?_)
    · have h := ck_t hc h
      refine lv_iconst (v := (-1 : Int32)) hx hb d_U_live_26 (by decide) ?_
      exact W.iret (v := (-1 : Int32)) hx hb hr (fun t ht hW => ⟨⟨(-1 : Int32), (), rfl, (Option.some.inj h).symm, by rw [ht]; exact hP, va_K.moved hW.alike hK, hD⟩, hS.F ht⟩) hS.2.2 d_U_live_27
    · have h := ck_f hc h
      refine lv_aload_n hx hb d_U_live_18 rfl (lv_at hl 0 rfl) ?_
      refine lv_iload_n hx hb d_U_live_19 rfl (lv_at hl 1 rfl) ?_
      obtain ⟨z2, hz, h⟩ := ck_bind h
      have hPc := hP.sub (ws' := [(a_u, .inr (0, [.ref a_d, .ref a_p, .ref a_r, .ref a_c, .ref a_st, .ref a_pl, .int uOpen, .int uFill, .int uSaved, .int uSerial, .int uDown])), (a_r, .inr (3, [.ref a_rs, .ref a_rb, .ref a_ru, .ref a_rz, .ref a_rh, .ref a_rl])), (a_rb, .inl (cI, N, .inl uBlks)), (a_ru, .inl (cI, N, .inl uUnts)), (a_pl, .inl (cI, 16, .inl uPlcs))]) [0, 1, 2, 3, 5] rfl
      have hDc := hD.sub (ws' := [(a_u, .inr (0, [.ref a_d, .ref a_p, .ref a_r, .ref a_c, .ref a_st, .ref a_pl, .int uOpen, .int uFill, .int uSaved, .int uSerial, .int uDown])), (a_r, .inr (3, [.ref a_rs, .ref a_rb, .ref a_ru, .ref a_rz, .ref a_rh, .ref a_rl])), (a_rb, .inl (cI, N, .inl uBlks)), (a_ru, .inl (cI, N, .inl uUnts)), (a_pl, .inl (cI, 16, .inl uPlcs))]) [0, 1, 2, 3, 5] (by decide) rfl
      have hFc := va_free (wc := [(a_u, .inr (0, [.ref a_d, .ref a_p, .ref a_r, .ref a_c, .ref a_st, .ref a_pl, .int uOpen, .int uFill, .int uSaved, .int uSerial, .int uDown])), (a_r, .inr (3, [.ref a_rs, .ref a_rb, .ref a_ru, .ref a_rz, .ref a_rh, .ref a_rl])), (a_rb, .inl (cI, N, .inl uBlks)), (a_ru, .inl (cI, N, .inl uUnts)), (a_pl, .inl (cI, 16, .inl uPlcs))]) hD hS hA [0, 1, 2, 3, 5] rfl
      refine va_calli (va_runV (As := [.int x1]) (rest := []) ⟨hx, hb, hml, hown, htT⟩ (c_U_liveUnits l dC dI cI cZ cJ a_u a_d a_p a_pb a_pf a_r a_rs a_rb a_ru a_rz a_rh a_rl a_c a_cp a_st a_pl H.size n N uOpen uFill uSaved uSerial uDown uBlks uUnts uPlcs x1 z2 hz) (cwV 1 htT (gV kl_U_141 ki_U_liveUnits ke_U_liveUnits kn_U kc_U_liveUnits) rfl rfl rfl (by decide +kernel) ⟨Nat.le_of_ble_eq_true rfl, Nat.le_of_ble_eq_true rfl⟩) ⟨fun a U g mk q => by obtain ⟨q0, q1, qP, qK, qD, qN⟩ := q; exact ⟨q0, q1, qP, va_K.moved (u := U) (U := U.calling g mk a) (Vm.Alike.refl U.vm) qK, qD, Ns.same (u := U) rfl qN⟩, va_recv (q0 := 0) (q := (R_U, F_U, 11)) hK hP (ci := 0) rfl rfl, fun U hU hW => ⟨rfl, by rw [hU], by rw [hU]; exact hPc, va_K.moved hW.alike hK, hDc.weaken (fun _ _ _ _ => trivial), Ns.warm hW hN⟩⟩ rfl rfl hl.1 rfl (lv_room (Nat.le_of_ble_eq_true rfl)) d_U_live_20 ⟨(Nat.zero_le _), (Nat.zero_le _)⟩) hS (fun q _ h => hFc q h) hFc (fun r u t H locs ht hvm hw hB hz1 hk1 hS => ?_)
      subst hw
      obtain ⟨hP1, hK1, hD1⟩ := hB
      rw [ht] at hP1
      obtain ⟨hP, hD⟩ := va_join (wr := [(a_st, .inl (cI, n, .inl uSts))]) (w1 := [(a_u, .inr (0, [.ref a_d, .ref a_p, .ref a_r, .ref a_c, .ref a_st, .ref a_pl, .int uOpen, .int uFill, .int uSaved, .int uSerial, .int uDown])), (a_r, .inr (3, [.ref a_rs, .ref a_rb, .ref a_ru, .ref a_rz, .ref a_rh, .ref a_rl])), (a_rb, .inl (cI, N, .inl uBlks)), (a_ru, .inl (cI, N, .inl uUnts)), (a_pl, .inl (cI, 16, .inl uPlcs))]) hP hD [0, 1, 2, 3, 5] [4] rfl rfl (by decide) (by decide) hk1 hFc hP1 hD1
      have hP := hP.sub (ws' := [(a_u, .inr (0, [.ref a_d, .ref a_p, .ref a_r, .ref a_c, .ref a_st, .ref a_pl, .int uOpen, .int uFill, .int uSaved, .int uSerial, .int uDown])), (a_r, .inr (3, [.ref a_rs, .ref a_rb, .ref a_ru, .ref a_rz, .ref a_rh, .ref a_rl])), (a_rb, .inl (cI, N, .inl uBlks)), (a_ru, .inl (cI, N, .inl uUnts)), (a_st, .inl (cI, n, .inl uSts)), (a_pl, .inl (cI, 16, .inl uPlcs))]) [1, 2, 3, 4, 0, 5] rfl
      have hD := hD.sub (ws' := [(a_u, .inr (0, [.ref a_d, .ref a_p, .ref a_r, .ref a_c, .ref a_st, .ref a_pl, .int uOpen, .int uFill, .int uSaved, .int uSerial, .int uDown])), (a_r, .inr (3, [.ref a_rs, .ref a_rb, .ref a_ru, .ref a_rz, .ref a_rh, .ref a_rl])), (a_rb, .inl (cI, N, .inl uBlks)), (a_ru, .inl (cI, N, .inl uUnts)), (a_st, .inl (cI, n, .inl uSts)), (a_pl, .inl (cI, 16, .inl uPlcs))]) [1, 2, 3, 4, 0, 5] (by decide) rfl
      have hP : va_P (dC, dI) classes [(a_u, .inr (0, [.ref a_d, .ref a_p, .ref a_r, .ref a_c, .ref a_st, .ref a_pl, .int uOpen, .int uFill, .int uSaved, .int uSerial, .int uDown])), (a_r, .inr (3, [.ref a_rs, .ref a_rb, .ref a_ru, .ref a_rz, .ref a_rh, .ref a_rl])), (a_rb, .inl (cI, N, .inl uBlks)), (a_ru, .inl (cI, N, .inl uUnts)), (a_st, .inl (cI, n, .inl uSts)), (a_pl, .inl (cI, 16, .inl uPlcs))] H := hP
      have hD : va_D A [(a_u, .inr (0, [.ref a_d, .ref a_p, .ref a_r, .ref a_c, .ref a_st, .ref a_pl, .int uOpen, .int uFill, .int uSaved, .int uSerial, .int uDown])), (a_r, .inr (3, [.ref a_rs, .ref a_rb, .ref a_ru, .ref a_rz, .ref a_rh, .ref a_rl])), (a_rb, .inl (cI, N, .inl uBlks)), (a_ru, .inl (cI, N, .inl uUnts)), (a_st, .inl (cI, n, .inl uSts)), (a_pl, .inl (cI, 16, .inl uPlcs))] := hD
      refine lv_goto (tgt := 27) hx hb d_U_live_23 (by decide) ?_
      exact W.iret (v := z2) hx hb hr (fun t ht hW => ⟨⟨z2, (), rfl, (Option.some.inj h).symm, by rw [ht]; exact hP, va_K.moved hW.alike hK, hD⟩, hS.F ht⟩) hS.2.2 d_U_live_27
  · have h := ck_f hc h
    refine lv_bipush (v := (-4 : Int32)) hx hb d_U_live_7 (by decide) ?_
    exact W.iret (v := (-4 : Int32)) hx hb hr (fun t ht hW => ⟨⟨(-4 : Int32), (), rfl, (Option.some.inj h).symm, by rw [ht]; exact hP, va_K.moved hW.alike hK, hD⟩, hS.F ht⟩) hS.2.2 d_U_live_9
set_option maxHeartbeats 4000000 in
set_option maxRecDepth 100000 in
theorem c_U_segment (l : Launch) (dC : Nat → ClassId) (dI : Nat → Nat → Nat) (cI cZ cJ : ClassId) (a_u a_d a_p a_pb a_pf a_r a_rs a_rb a_ru a_rz a_rh a_rl a_c a_cp a_st a_pl : Nat) (sz n N : Nat) (uOpen : Int32) (uFill : Int32) (uSaved : Int32) (uSerial : Int32) (uDown : Int32) (uSts : Nat → Int32) (x1 : Int32) (res : Int32) (hM : U_segment n uDown uSts x1 = some res) : Met l y_U_segment w_U_segment ({ frames := 1, cells := 0, slots := 0, locals := 21 }) (va_Pc [.ref a_u, .int x1] (fun U => U.heap.size = sz ∧ va_P (dC, dI) classes [(a_u, .inr (0, [.ref a_d, .ref a_p, .ref a_r, .ref a_c, .ref a_st, .ref a_pl, .int uOpen, .int uFill, .int uSaved, .int uSerial, .int uDown])), (a_st, .inl (cI, n, .inl uSts))] U.heap ∧ va_K (dC, dI) classes [(cI, .int), (cZ, .boolean), (cJ, .long)] U ∧ va_D (fun _ => True) [(a_u, .inr (0, [.ref a_d, .ref a_p, .ref a_r, .ref a_c, .ref a_st, .ref a_pl, .int uOpen, .int uFill, .int uSaved, .int uSerial, .int uDown])), (a_st, .inl (cI, n, .inl uSts))] ∧ Ns U)) (va_Qi (fun (r : Int32) (z : Unit) => res = r) (fun (z : Unit) (t : State) => va_P (dC, dI) classes [(a_u, .inr (0, [.ref a_d, .ref a_p, .ref a_r, .ref a_c, .ref a_st, .ref a_pl, .int uOpen, .int uFill, .int uSaved, .int uSerial, .int uDown])), (a_st, .inl (cI, n, .inl uSts))] t.heap ∧ va_K (dC, dI) classes [(cI, .int), (cZ, .boolean), (cJ, .long)] t ∧ va_D (va_A [(a_u, .inr (0, [.ref a_d, .ref a_p, .ref a_r, .ref a_c, .ref a_st, .ref a_pl, .int uOpen, .int uFill, .int uSaved, .int uSerial, .int uDown])), (a_st, .inl (cI, n, .inl uSts))] sz) [(a_u, .inr (0, [.ref a_d, .ref a_p, .ref a_r, .ref a_c, .ref a_st, .ref a_pl, .int uOpen, .int uFill, .int uSaved, .int uSerial, .int uDown])), (a_st, .inl (cI, n, .inl uSts))]) (va_A [(a_u, .inr (0, [.ref a_d, .ref a_p, .ref a_r, .ref a_c, .ref a_st, .ref a_pl, .int uOpen, .int uFill, .int uSaved, .int uSerial, .int uDown])), (a_st, .inl (cI, n, .inl uSts))] sz)) 0 0 (va_A [(a_u, .inr (0, [.ref a_d, .ref a_p, .ref a_r, .ref a_c, .ref a_st, .ref a_pl, .int uOpen, .int uFill, .int uSaved, .int uSerial, .int uDown])), (a_st, .inl (cI, n, .inl uSts))] sz) := by
  refine Met.ofW (cc := b_U_segment) (maxL := 2) (ret := (some .int)) (by decide) rfl ?_
  intro p e s m args below meth c s₁ B hml hv
  obtain ⟨rfl, hsz, hP, hK, hD0, hN⟩ := hv
  have hx := B.exec
  have hb := B.bytes
  have hr := B.returns
  have hts := atoms_spec (ws := w_U_segment) B.pre
  have htT : ∀ w ∈ lwG, w.before _ s = true := fun w h => hts w (List.mem_cons_of_mem _ h)
  have hown : s.vm.findClass R_U = some m.cls := findClass_of_methodNamed B.named
  have hlocks := B.notSynchronized
  subst hsz
  have hD := hD0.self (sz := s.heap.size)
  generalize hAe : va_A [(a_u, .inr (0, [.ref a_d, .ref a_p, .ref a_r, .ref a_c, .ref a_st, .ref a_pl, .int uOpen, .int uFill, .int uSaved, .int uSerial, .int uDown])), (a_st, .inl (cI, n, .inl uSts))] s.heap.size = A at hD ⊢
  have hA : ∀ q : Nat, s.heap.size ≤ q → A q := fun q h => by rw [← hAe]; exact Or.inr h
  have hS : va_S A s.heap s.heap [] := va_S.rf
  have hP : va_P (dC, dI) classes [(a_u, .inr (0, [.ref a_d, .ref a_p, .ref a_r, .ref a_c, .ref a_st, .ref a_pl, .int uOpen, .int uFill, .int uSaved, .int uSerial, .int uDown])), (a_st, .inl (cI, n, .inl uSts))] s.heap := hP
  have hl := lv_entry ([.ref a_u, .int x1]) (n := 2) (Nat.le_of_ble_eq_true rfl)
  rw [lg_entry_eq]
  generalize (lg_sl ([.ref a_u, .int x1]) ++ List.replicate (2 - (lg_sl ([.ref a_u, .int x1])).length) Slot.unset).toArray = ls at hl ⊢
  have hl : lv_has ls 2 [(0, .ref a_u), (1, .int x1)] := hl
  have h := hM
  rw [U_segment] at h
  refine lv_aload_n hx hb d_U_segment_0 rfl (lv_at hl 0 rfl) ?_
  refine va_get (D := (dC, dI)) (ci := 0) (v := .int uDown) (C := R_U) (T := F_U) (N := 11) hx hb htT i_U hown hK hP 0 rfl rfl 10 (by decide) (htT _ kf_U_61) (fun _ h9 => h9) rfl d_U_segment_1 ?_
  refine lv_if_eq (tgt := 10) hx hb d_U_segment_4 (by decide) (fun hc => ?_) (fun hc => ?_)
  · have h := ck_t hc h
    refine lv_aload_n hx hb d_U_segment_10 rfl (lv_at hl 0 rfl) ?_
    refine lv_iload_n hx hb d_U_segment_11 rfl (lv_at hl 1 rfl) ?_
    obtain ⟨z1, hz, h⟩ := ck_bind h
    have hPc := hP.sub (ws' := [(a_u, .inr (0, [.ref a_d, .ref a_p, .ref a_r, .ref a_c, .ref a_st, .ref a_pl, .int uOpen, .int uFill, .int uSaved, .int uSerial, .int uDown])), (a_st, .inl (cI, n, .inl uSts))]) [0, 1] rfl
    have hDc := hD.sub (ws' := [(a_u, .inr (0, [.ref a_d, .ref a_p, .ref a_r, .ref a_c, .ref a_st, .ref a_pl, .int uOpen, .int uFill, .int uSaved, .int uSerial, .int uDown])), (a_st, .inl (cI, n, .inl uSts))]) [0, 1] (by decide) rfl
    have hFc := va_free (wc := [(a_u, .inr (0, [.ref a_d, .ref a_p, .ref a_r, .ref a_c, .ref a_st, .ref a_pl, .int uOpen, .int uFill, .int uSaved, .int uSerial, .int uDown])), (a_st, .inl (cI, n, .inl uSts))]) hD hS hA [0, 1] rfl
    refine va_calli (va_runV (As := [.int x1]) (rest := []) ⟨hx, hb, hml, hown, htT⟩ (c_U_isSegment l dC dI cI cZ cJ a_u a_d a_p a_pb a_pf a_r a_rs a_rb a_ru a_rz a_rh a_rl a_c a_cp a_st a_pl s.heap.size n N uOpen uFill uSaved uSerial uDown uSts x1 z1 hz) (cwV 1 htT (gV kl_U_138 ki_U_isSegment ke_U_isSegment kn_U kc_U_isSegment) rfl rfl rfl (by decide +kernel) ⟨Nat.le_of_ble_eq_true rfl, Nat.le_of_ble_eq_true rfl⟩) ⟨fun a U g mk q => by obtain ⟨q0, q1, qP, qK, qD, qN⟩ := q; exact ⟨q0, q1, qP, va_K.moved (u := U) (U := U.calling g mk a) (Vm.Alike.refl U.vm) qK, qD, Ns.same (u := U) rfl qN⟩, va_recv (q0 := 0) (q := (R_U, F_U, 11)) hK hP (ci := 0) rfl rfl, fun U hU hW => ⟨rfl, by rw [hU], by rw [hU]; exact hPc, va_K.moved hW.alike hK, hDc.weaken (fun _ _ _ _ => trivial), Ns.warm hW hN⟩⟩ rfl rfl hl.1 rfl (lv_room (Nat.le_of_ble_eq_true rfl)) d_U_segment_12 ⟨(Nat.zero_le _), (Nat.zero_le _)⟩) hS (fun q _ h => hFc q h) hFc (fun r u t H locs ht hvm hw hB hz1 hk1 hS => ?_)
    subst hw
    obtain ⟨hP1, hK1, hD1⟩ := hB
    rw [ht] at hP1
    obtain ⟨hP, hD⟩ := va_join (wr := []) (w1 := [(a_u, .inr (0, [.ref a_d, .ref a_p, .ref a_r, .ref a_c, .ref a_st, .ref a_pl, .int uOpen, .int uFill, .int uSaved, .int uSerial, .int uDown])), (a_st, .inl (cI, n, .inl uSts))]) hP hD [0, 1] [] rfl rfl (by decide) (by decide) hk1 hFc hP1 hD1
    have hP : va_P (dC, dI) classes [(a_u, .inr (0, [.ref a_d, .ref a_p, .ref a_r, .ref a_c, .ref a_st, .ref a_pl, .int uOpen, .int uFill, .int uSaved, .int uSerial, .int uDown])), (a_st, .inl (cI, n, .inl uSts))] H := hP
    have hD : va_D A [(a_u, .inr (0, [.ref a_d, .ref a_p, .ref a_r, .ref a_c, .ref a_st, .ref a_pl, .int uOpen, .int uFill, .int uSaved, .int uSerial, .int uDown])), (a_st, .inl (cI, n, .inl uSts))] := hD
    refine lv_if_eq (tgt := 27) hx hb d_U_segment_15 (by decide) (fun hc => ?_) (fun hc => ?_)
    · have h := ck_t hc h
      refine lv_iconst (v := (-1 : Int32)) hx hb d_U_segment_27 (by decide) ?_
      exact W.iret (v := (-1 : Int32)) hx hb hr (fun t ht hW => ⟨⟨(-1 : Int32), (), rfl, (Option.some.inj h).symm, by rw [ht]; exact hP, va_K.moved hW.alike hK, hD⟩, hS.F ht⟩) hS.2.2 d_U_segment_28
    · have h := ck_f hc h
      refine lv_aload_n hx hb d_U_segment_18 rfl (lv_at hl 0 rfl) ?_
      refine va_get (D := (dC, dI)) (ci := 0) (v := .ref a_st) (C := R_U) (T := F_U) (N := 11) hx hb htT i_U hown hK hP 0 rfl rfl 4 (by decide) (htT _ kf_U_48) (fun _ h9 => h9) rfl d_U_segment_19 ?_
      refine lv_iload_n hx hb d_U_segment_22 rfl (lv_at hl 1 rfl) ?_
      obtain ⟨hin, h⟩ := ck_in h
      refine va_iald hx hb hK hP 1 0 rfl rfl hin d_U_segment_23 ?_
      refine lv_goto (tgt := 28) hx hb d_U_segment_24 (by decide) ?_
      exact W.iret (v := (uSts x1.toNatClampNeg)) hx hb hr (fun t ht hW => ⟨⟨(uSts x1.toNatClampNeg), (), rfl, (Option.some.inj h).symm, by rw [ht]; exact hP, va_K.moved hW.alike hK, hD⟩, hS.F ht⟩) hS.2.2 d_U_segment_28
  · have h := ck_f hc h
    refine lv_bipush (v := (-4 : Int32)) hx hb d_U_segment_7 (by decide) ?_
    exact W.iret (v := (-4 : Int32)) hx hb hr (fun t ht hW => ⟨⟨(-4 : Int32), (), rfl, (Option.some.inj h).symm, by rw [ht]; exact hP, va_K.moved hW.alike hK, hD⟩, hS.F ht⟩) hS.2.2 d_U_segment_9
set_option maxHeartbeats 4000000 in
set_option maxRecDepth 100000 in
theorem c_U_look (l : Launch) (dC : Nat → ClassId) (dI : Nat → Nat → Nat) (cI cZ cJ : ClassId) (a_u a_d a_p a_pb a_pf a_r a_rs a_rb a_ru a_rz a_rh a_rl a_c a_cp a_st a_pl : Nat) (sz n N : Nat) (uOpen : Int32) (uFill : Int32) (uSaved : Int32) (uSerial : Int32) (uDown : Int32) (uArmed : Int32) (uWritten : Int32) (cNumber : Int32) (cSerial : Int32) (cOpen : Int32) (cFill : Int32) (x1 : Int32) (res : Int32) (hM : U_look uFill uSaved uSerial uDown uArmed uWritten cNumber x1 = some res) : Met l y_U_look w_U_look ({ frames := 0, cells := 0, slots := 0, locals := 0 }) (va_Pc [.ref a_u, .int x1] (fun U => U.heap.size = sz ∧ va_P (dC, dI) classes [(a_u, .inr (0, [.ref a_d, .ref a_p, .ref a_r, .ref a_c, .ref a_st, .ref a_pl, .int uOpen, .int uFill, .int uSaved, .int uSerial, .int uDown])), (a_d, .inr (1, [.int uArmed, .int uWritten])), (a_c, .inr (4, [.ref a_cp, .int cNumber, .int cSerial, .int cOpen, .int cFill]))] U.heap ∧ va_K (dC, dI) classes [(cI, .int), (cZ, .boolean), (cJ, .long)] U ∧ va_D (fun _ => True) [(a_u, .inr (0, [.ref a_d, .ref a_p, .ref a_r, .ref a_c, .ref a_st, .ref a_pl, .int uOpen, .int uFill, .int uSaved, .int uSerial, .int uDown])), (a_d, .inr (1, [.int uArmed, .int uWritten])), (a_c, .inr (4, [.ref a_cp, .int cNumber, .int cSerial, .int cOpen, .int cFill]))] ∧ Ns U)) (va_Qi (fun (r : Int32) (z : Unit) => res = r) (fun (z : Unit) (t : State) => va_P (dC, dI) classes [(a_u, .inr (0, [.ref a_d, .ref a_p, .ref a_r, .ref a_c, .ref a_st, .ref a_pl, .int uOpen, .int uFill, .int uSaved, .int uSerial, .int uDown])), (a_d, .inr (1, [.int uArmed, .int uWritten])), (a_c, .inr (4, [.ref a_cp, .int cNumber, .int cSerial, .int cOpen, .int cFill]))] t.heap ∧ va_K (dC, dI) classes [(cI, .int), (cZ, .boolean), (cJ, .long)] t ∧ va_D (va_A [(a_u, .inr (0, [.ref a_d, .ref a_p, .ref a_r, .ref a_c, .ref a_st, .ref a_pl, .int uOpen, .int uFill, .int uSaved, .int uSerial, .int uDown])), (a_d, .inr (1, [.int uArmed, .int uWritten])), (a_c, .inr (4, [.ref a_cp, .int cNumber, .int cSerial, .int cOpen, .int cFill]))] sz) [(a_u, .inr (0, [.ref a_d, .ref a_p, .ref a_r, .ref a_c, .ref a_st, .ref a_pl, .int uOpen, .int uFill, .int uSaved, .int uSerial, .int uDown])), (a_d, .inr (1, [.int uArmed, .int uWritten])), (a_c, .inr (4, [.ref a_cp, .int cNumber, .int cSerial, .int cOpen, .int cFill]))]) (va_A [(a_u, .inr (0, [.ref a_d, .ref a_p, .ref a_r, .ref a_c, .ref a_st, .ref a_pl, .int uOpen, .int uFill, .int uSaved, .int uSerial, .int uDown])), (a_d, .inr (1, [.int uArmed, .int uWritten])), (a_c, .inr (4, [.ref a_cp, .int cNumber, .int cSerial, .int cOpen, .int cFill]))] sz)) 0 0 (va_A [(a_u, .inr (0, [.ref a_d, .ref a_p, .ref a_r, .ref a_c, .ref a_st, .ref a_pl, .int uOpen, .int uFill, .int uSaved, .int uSerial, .int uDown])), (a_d, .inr (1, [.int uArmed, .int uWritten])), (a_c, .inr (4, [.ref a_cp, .int cNumber, .int cSerial, .int cOpen, .int cFill]))] sz) := by
  refine Met.ofW (cc := b_U_look) (maxL := 2) (ret := (some .int)) (by decide) rfl ?_
  intro p e s m args below meth c s₁ B hml hv
  obtain ⟨rfl, hsz, hP, hK, hD0, hN⟩ := hv
  have hx := B.exec
  have hb := B.bytes
  have hr := B.returns
  have hts := atoms_spec (ws := w_U_look) B.pre
  have htT : ∀ w ∈ lwG, w.before _ s = true := fun w h => hts w (List.mem_cons_of_mem _ h)
  have hown : s.vm.findClass R_U = some m.cls := findClass_of_methodNamed B.named
  have hlocks := B.notSynchronized
  subst hsz
  have hD := hD0.self (sz := s.heap.size)
  generalize hAe : va_A [(a_u, .inr (0, [.ref a_d, .ref a_p, .ref a_r, .ref a_c, .ref a_st, .ref a_pl, .int uOpen, .int uFill, .int uSaved, .int uSerial, .int uDown])), (a_d, .inr (1, [.int uArmed, .int uWritten])), (a_c, .inr (4, [.ref a_cp, .int cNumber, .int cSerial, .int cOpen, .int cFill]))] s.heap.size = A at hD ⊢
  have hA : ∀ q : Nat, s.heap.size ≤ q → A q := fun q h => by rw [← hAe]; exact Or.inr h
  have hS : va_S A s.heap s.heap [] := va_S.rf
  have hP : va_P (dC, dI) classes [(a_u, .inr (0, [.ref a_d, .ref a_p, .ref a_r, .ref a_c, .ref a_st, .ref a_pl, .int uOpen, .int uFill, .int uSaved, .int uSerial, .int uDown])), (a_d, .inr (1, [.int uArmed, .int uWritten])), (a_c, .inr (4, [.ref a_cp, .int cNumber, .int cSerial, .int cOpen, .int cFill]))] s.heap := hP
  have hl := lv_entry ([.ref a_u, .int x1]) (n := 2) (Nat.le_of_ble_eq_true rfl)
  rw [lg_entry_eq]
  generalize (lg_sl ([.ref a_u, .int x1]) ++ List.replicate (2 - (lg_sl ([.ref a_u, .int x1])).length) Slot.unset).toArray = ls at hl ⊢
  have hl : lv_has ls 2 [(0, .ref a_u), (1, .int x1)] := hl
  have h := hM
  rw [U_look] at h
  refine lv_iload_n hx hb d_U_look_0 rfl (lv_at hl 1 rfl) ?_
  by_cases hc0 : x1 = (0 : Int32)
  · have h := ck_t hc0 h
    refine lv_tableIn (tgt := 44) hx hb d_U_look_1 (by rw [hc0]; decide) (by rw [hc0]; decide) (by rw [hc0]; rfl) (by decide) ?_
    refine lv_aload_n hx hb d_U_look_44 rfl (lv_at hl 0 rfl) ?_
    refine va_get (D := (dC, dI)) (ci := 0) (v := .int uDown) (C := R_U) (T := F_U) (N := 11) hx hb htT i_U hown hK hP 0 rfl rfl 10 (by decide) (htT _ kf_U_61) (fun _ h9 => h9) rfl d_U_look_45 ?_
    refine lv_if_eq (tgt := 56) hx hb d_U_look_48 (by decide) (fun hc => ?_) (fun hc => ?_)
    · have h := ck_t hc h
      refine lv_aload_n hx hb d_U_look_56 rfl (lv_at hl 0 rfl) ?_
      refine va_get (D := (dC, dI)) (ci := 0) (v := .int uFill) (C := R_U) (T := F_U) (N := 11) hx hb htT i_U hown hK hP 0 rfl rfl 7 (by decide) (htT _ kf_U_101) (fun _ h9 => h9) rfl d_U_look_57 ?_
      exact W.iret (v := uFill) hx hb hr (fun t ht hW => ⟨⟨uFill, (), rfl, (Option.some.inj h).symm, by rw [ht]; exact hP, va_K.moved hW.alike hK, hD⟩, hS.F ht⟩) hS.2.2 d_U_look_60
    · have h := ck_f hc h
      refine lv_bipush (v := (-4 : Int32)) hx hb d_U_look_51 (by decide) ?_
      refine lv_goto (tgt := 60) hx hb d_U_look_53 (by decide) ?_
      exact W.iret (v := (-4 : Int32)) hx hb hr (fun t ht hW => ⟨⟨(-4 : Int32), (), rfl, (Option.some.inj h).symm, by rw [ht]; exact hP, va_K.moved hW.alike hK, hD⟩, hS.F ht⟩) hS.2.2 d_U_look_60
  · have h := ck_f hc0 h
    by_cases hc1 : x1 = (1 : Int32)
    · have h := ck_t hc1 h
      refine lv_tableIn (tgt := 61) hx hb d_U_look_1 (by rw [hc1]; decide) (by rw [hc1]; decide) (by rw [hc1]; rfl) (by decide) ?_
      refine lv_aload_n hx hb d_U_look_61 rfl (lv_at hl 0 rfl) ?_
      refine va_get (D := (dC, dI)) (ci := 0) (v := .int uDown) (C := R_U) (T := F_U) (N := 11) hx hb htT i_U hown hK hP 0 rfl rfl 10 (by decide) (htT _ kf_U_61) (fun _ h9 => h9) rfl d_U_look_62 ?_
      refine lv_if_eq (tgt := 73) hx hb d_U_look_65 (by decide) (fun hc => ?_) (fun hc => ?_)
      · have h := ck_t hc h
        refine lv_aload_n hx hb d_U_look_73 rfl (lv_at hl 0 rfl) ?_
        refine va_get (D := (dC, dI)) (ci := 0) (v := .int uSaved) (C := R_U) (T := F_U) (N := 11) hx hb htT i_U hown hK hP 0 rfl rfl 8 (by decide) (htT _ kf_U_103) (fun _ h9 => h9) rfl d_U_look_74 ?_
        exact W.iret (v := uSaved) hx hb hr (fun t ht hW => ⟨⟨uSaved, (), rfl, (Option.some.inj h).symm, by rw [ht]; exact hP, va_K.moved hW.alike hK, hD⟩, hS.F ht⟩) hS.2.2 d_U_look_77
      · have h := ck_f hc h
        refine lv_bipush (v := (-4 : Int32)) hx hb d_U_look_68 (by decide) ?_
        refine lv_goto (tgt := 77) hx hb d_U_look_70 (by decide) ?_
        exact W.iret (v := (-4 : Int32)) hx hb hr (fun t ht hW => ⟨⟨(-4 : Int32), (), rfl, (Option.some.inj h).symm, by rw [ht]; exact hP, va_K.moved hW.alike hK, hD⟩, hS.F ht⟩) hS.2.2 d_U_look_77
    · have h := ck_f hc1 h
      by_cases hc2 : x1 = (2 : Int32)
      · have h := ck_t hc2 h
        refine lv_tableIn (tgt := 78) hx hb d_U_look_1 (by rw [hc2]; decide) (by rw [hc2]; decide) (by rw [hc2]; rfl) (by decide) ?_
        refine lv_aload_n hx hb d_U_look_78 rfl (lv_at hl 0 rfl) ?_
        refine va_get (D := (dC, dI)) (ci := 0) (v := .int uDown) (C := R_U) (T := F_U) (N := 11) hx hb htT i_U hown hK hP 0 rfl rfl 10 (by decide) (htT _ kf_U_61) (fun _ h9 => h9) rfl d_U_look_79 ?_
        refine lv_if_eq (tgt := 90) hx hb d_U_look_82 (by decide) (fun hc => ?_) (fun hc => ?_)
        · have h := ck_t hc h
          refine lv_aload_n hx hb d_U_look_90 rfl (lv_at hl 0 rfl) ?_
          refine va_get (D := (dC, dI)) (ci := 0) (v := .int uSerial) (C := R_U) (T := F_U) (N := 11) hx hb htT i_U hown hK hP 0 rfl rfl 9 (by decide) (htT _ kf_U_144) (fun _ h9 => h9) rfl d_U_look_91 ?_
          exact W.iret (v := uSerial) hx hb hr (fun t ht hW => ⟨⟨uSerial, (), rfl, (Option.some.inj h).symm, by rw [ht]; exact hP, va_K.moved hW.alike hK, hD⟩, hS.F ht⟩) hS.2.2 d_U_look_94
        · have h := ck_f hc h
          refine lv_bipush (v := (-4 : Int32)) hx hb d_U_look_85 (by decide) ?_
          refine lv_goto (tgt := 94) hx hb d_U_look_87 (by decide) ?_
          exact W.iret (v := (-4 : Int32)) hx hb hr (fun t ht hW => ⟨⟨(-4 : Int32), (), rfl, (Option.some.inj h).symm, by rw [ht]; exact hP, va_K.moved hW.alike hK, hD⟩, hS.F ht⟩) hS.2.2 d_U_look_94
      · have h := ck_f hc2 h
        by_cases hc3 : x1 = (3 : Int32)
        · have h := ck_t hc3 h
          refine lv_tableIn (tgt := 95) hx hb d_U_look_1 (by rw [hc3]; decide) (by rw [hc3]; decide) (by rw [hc3]; rfl) (by decide) ?_
          refine lv_aload_n hx hb d_U_look_95 rfl (lv_at hl 0 rfl) ?_
          refine va_get (D := (dC, dI)) (ci := 0) (v := .int uDown) (C := R_U) (T := F_U) (N := 11) hx hb htT i_U hown hK hP 0 rfl rfl 10 (by decide) (htT _ kf_U_61) (fun _ h9 => h9) rfl d_U_look_96 ?_
          refine lv_if_eq (tgt := 107) hx hb d_U_look_99 (by decide) (fun hc => ?_) (fun hc => ?_)
          · have h := ck_t hc h
            refine lv_aload_n hx hb d_U_look_107 rfl (lv_at hl 0 rfl) ?_
            refine va_get (D := (dC, dI)) (ci := 0) (v := .ref a_c) (C := R_U) (T := F_U) (N := 11) hx hb htT i_U hown hK hP 0 rfl rfl 3 (by decide) (htT _ kf_U_44) (fun _ h9 => h9) rfl d_U_look_108 ?_
            refine va_getN (D := (dC, dI)) (ci := 4) (v := .int cNumber) (C := R_C) (T := F_C) (N := 5) hx hb htT i_C hown hK hP 2 rfl rfl 1 (by decide) (va_Nw.use rfl (hN _ kf_U_113)) (fun _ h9 => h9) rfl d_U_look_111 ?_
            exact W.iret (v := cNumber) hx hb hr (fun t ht hW => ⟨⟨cNumber, (), rfl, (Option.some.inj h).symm, by rw [ht]; exact hP, va_K.moved hW.alike hK, hD⟩, hS.F ht⟩) hS.2.2 d_U_look_114
          · have h := ck_f hc h
            refine lv_bipush (v := (-4 : Int32)) hx hb d_U_look_102 (by decide) ?_
            refine lv_goto (tgt := 114) hx hb d_U_look_104 (by decide) ?_
            exact W.iret (v := (-4 : Int32)) hx hb hr (fun t ht hW => ⟨⟨(-4 : Int32), (), rfl, (Option.some.inj h).symm, by rw [ht]; exact hP, va_K.moved hW.alike hK, hD⟩, hS.F ht⟩) hS.2.2 d_U_look_114
        · have h := ck_f hc3 h
          by_cases hc4 : x1 = (4 : Int32)
          · have h := ck_t hc4 h
            refine lv_tableIn (tgt := 115) hx hb d_U_look_1 (by rw [hc4]; decide) (by rw [hc4]; decide) (by rw [hc4]; rfl) (by decide) ?_
            refine lv_aload_n hx hb d_U_look_115 rfl (lv_at hl 0 rfl) ?_
            refine va_get (D := (dC, dI)) (ci := 0) (v := .ref a_d) (C := R_U) (T := F_U) (N := 11) hx hb htT i_U hown hK hP 0 rfl rfl 0 (by decide) (htT _ kf_U_21) (fun _ h9 => h9) rfl d_U_look_116 ?_
            refine va_getN (D := (dC, dI)) (ci := 1) (v := .int uWritten) (C := R_D) (T := F_D) (N := 2) hx hb htT i_D hown hK hP 1 rfl rfl 1 (by decide) (va_Nw.use rfl (hN _ kf_U_147)) (fun _ h9 => h9) rfl d_U_look_119 ?_
            exact W.iret (v := uWritten) hx hb hr (fun t ht hW => ⟨⟨uWritten, (), rfl, (Option.some.inj h).symm, by rw [ht]; exact hP, va_K.moved hW.alike hK, hD⟩, hS.F ht⟩) hS.2.2 d_U_look_122
          · have h := ck_f hc4 h
            by_cases hc5 : x1 = (5 : Int32)
            · have h := ck_t hc5 h
              refine lv_tableIn (tgt := 123) hx hb d_U_look_1 (by rw [hc5]; decide) (by rw [hc5]; decide) (by rw [hc5]; rfl) (by decide) ?_
              refine lv_aload_n hx hb d_U_look_123 rfl (lv_at hl 0 rfl) ?_
              refine va_get (D := (dC, dI)) (ci := 0) (v := .ref a_d) (C := R_U) (T := F_U) (N := 11) hx hb htT i_U hown hK hP 0 rfl rfl 0 (by decide) (htT _ kf_U_21) (fun _ h9 => h9) rfl d_U_look_124 ?_
              refine va_getN (D := (dC, dI)) (ci := 1) (v := .int uArmed) (C := R_D) (T := F_D) (N := 2) hx hb htT i_D hown hK hP 1 rfl rfl 0 (by decide) (va_Nw.use rfl (hN _ kf_U_126)) (fun _ h9 => h9) rfl d_U_look_127 ?_
              exact W.iret (v := uArmed) hx hb hr (fun t ht hW => ⟨⟨uArmed, (), rfl, (Option.some.inj h).symm, by rw [ht]; exact hP, va_K.moved hW.alike hK, hD⟩, hS.F ht⟩) hS.2.2 d_U_look_130
            · have h := ck_f hc5 h
              by_cases hc6 : x1 = (6 : Int32)
              · have h := ck_t hc6 h
                refine lv_tableIn (tgt := 131) hx hb d_U_look_1 (by rw [hc6]; decide) (by rw [hc6]; decide) (by rw [hc6]; rfl) (by decide) ?_
                refine lv_aload_n hx hb d_U_look_131 rfl (lv_at hl 0 rfl) ?_
                refine va_get (D := (dC, dI)) (ci := 0) (v := .int uDown) (C := R_U) (T := F_U) (N := 11) hx hb htT i_U hown hK hP 0 rfl rfl 10 (by decide) (htT _ kf_U_61) (fun _ h9 => h9) rfl d_U_look_132 ?_
                refine lv_if_eq (tgt := 142) hx hb d_U_look_135 (by decide) (fun hc => ?_) (fun hc => ?_)
                · have h := ck_t hc h
                  refine lv_iconst (v := (0 : Int32)) hx hb d_U_look_142 (by decide) ?_
                  exact W.iret (v := (0 : Int32)) hx hb hr (fun t ht hW => ⟨⟨(0 : Int32), (), rfl, (Option.some.inj h).symm, by rw [ht]; exact hP, va_K.moved hW.alike hK, hD⟩, hS.F ht⟩) hS.2.2 d_U_look_143
                · have h := ck_f hc h
                  refine lv_iconst (v := (1 : Int32)) hx hb d_U_look_138 (by decide) ?_
                  refine lv_goto (tgt := 143) hx hb d_U_look_139 (by decide) ?_
                  exact W.iret (v := (1 : Int32)) hx hb hr (fun t ht hW => ⟨⟨(1 : Int32), (), rfl, (Option.some.inj h).symm, by rw [ht]; exact hP, va_K.moved hW.alike hK, hD⟩, hS.F ht⟩) hS.2.2 d_U_look_143
              · have h := ck_f hc6 h
                have e0 := lv_neT hc0 (show (0 : Int32).toInt = 0 by decide)
                have e1 := lv_neT hc1 (show (1 : Int32).toInt = 1 by decide)
                have e2 := lv_neT hc2 (show (2 : Int32).toInt = 2 by decide)
                have e3 := lv_neT hc3 (show (3 : Int32).toInt = 3 by decide)
                have e4 := lv_neT hc4 (show (4 : Int32).toInt = 4 by decide)
                have e5 := lv_neT hc5 (show (5 : Int32).toInt = 5 by decide)
                have e6 := lv_neT hc6 (show (6 : Int32).toInt = 6 by decide)
                refine lv_tableOut (tgt := 144) hx hb d_U_look_1 (by omega) (by decide) ?_
                refine lv_iconst (v := (-1 : Int32)) hx hb d_U_look_144 (by decide) ?_
                exact W.iret (v := (-1 : Int32)) hx hb hr (fun t ht hW => ⟨⟨(-1 : Int32), (), rfl, (Option.some.inj h).symm, by rw [ht]; exact hP, va_K.moved hW.alike hK, hD⟩, hS.F ht⟩) hS.2.2 d_U_look_145
set_option maxHeartbeats 4000000 in
set_option maxRecDepth 100000 in
theorem c_M_alike (l : Launch) (dC : Nat → ClassId) (dI : Nat → Nat → Nat) (cI cZ cJ : ClassId) (a_m a_ms a_mf a_mv a_mc a_mb a_mz a_mu a_mi a_mr a_mh a_ml a_ma a_mk a_my a_mo : Nat) (sz n N : Nat) (mSegs : Int32) (mOpen : Int32) (mLast : Int32) (mKLast : Int32) (mKOpen : Int32) (mKFill : Int32) (mNumber : Int32) (mDown : Int32) (mArmed : Int32) (mLeft : Int32) (mWritten : Int32) (mFSize : Int32) (mByt : Nat → Int32) (x1 : Int32) (x2 : Int32) (res : Int32) (hM : M_alike mByt x1 x2 = some res) : Met l y_M_alike w_M_alike ({ frames := 0, cells := 0, slots := 0, locals := 0 }) (va_Pc [.ref a_m, .int x1, .int x2] (fun U => U.heap.size = sz ∧ va_P (dC, dI) classes [(a_m, .inr (5, [.int mSegs, .ref a_ms, .ref a_mf, .ref a_mv, .int mOpen, .ref a_mc, .ref a_mb, .ref a_mz, .ref a_mu, .ref a_mi, .ref a_mr, .ref a_mh, .ref a_ml, .ref a_ma, .int mLast, .ref a_mk, .int mKLast, .int mKOpen, .int mKFill, .int mNumber, .int mDown, .int mArmed, .int mLeft, .int mWritten, .ref a_my, .ref a_mo, .int mFSize])), (a_my, .inl (cI, 16, .inl mByt))] U.heap ∧ va_K (dC, dI) classes [(cI, .int), (cZ, .boolean), (cJ, .long)] U ∧ va_D (fun _ => True) [(a_m, .inr (5, [.int mSegs, .ref a_ms, .ref a_mf, .ref a_mv, .int mOpen, .ref a_mc, .ref a_mb, .ref a_mz, .ref a_mu, .ref a_mi, .ref a_mr, .ref a_mh, .ref a_ml, .ref a_ma, .int mLast, .ref a_mk, .int mKLast, .int mKOpen, .int mKFill, .int mNumber, .int mDown, .int mArmed, .int mLeft, .int mWritten, .ref a_my, .ref a_mo, .int mFSize])), (a_my, .inl (cI, 16, .inl mByt))] ∧ Ns U)) (va_Qi (fun (r : Int32) (z : Unit) => res = r) (fun (z : Unit) (t : State) => va_P (dC, dI) classes [(a_m, .inr (5, [.int mSegs, .ref a_ms, .ref a_mf, .ref a_mv, .int mOpen, .ref a_mc, .ref a_mb, .ref a_mz, .ref a_mu, .ref a_mi, .ref a_mr, .ref a_mh, .ref a_ml, .ref a_ma, .int mLast, .ref a_mk, .int mKLast, .int mKOpen, .int mKFill, .int mNumber, .int mDown, .int mArmed, .int mLeft, .int mWritten, .ref a_my, .ref a_mo, .int mFSize])), (a_my, .inl (cI, 16, .inl mByt))] t.heap ∧ va_K (dC, dI) classes [(cI, .int), (cZ, .boolean), (cJ, .long)] t ∧ va_D (va_A [(a_m, .inr (5, [.int mSegs, .ref a_ms, .ref a_mf, .ref a_mv, .int mOpen, .ref a_mc, .ref a_mb, .ref a_mz, .ref a_mu, .ref a_mi, .ref a_mr, .ref a_mh, .ref a_ml, .ref a_ma, .int mLast, .ref a_mk, .int mKLast, .int mKOpen, .int mKFill, .int mNumber, .int mDown, .int mArmed, .int mLeft, .int mWritten, .ref a_my, .ref a_mo, .int mFSize])), (a_my, .inl (cI, 16, .inl mByt))] sz) [(a_m, .inr (5, [.int mSegs, .ref a_ms, .ref a_mf, .ref a_mv, .int mOpen, .ref a_mc, .ref a_mb, .ref a_mz, .ref a_mu, .ref a_mi, .ref a_mr, .ref a_mh, .ref a_ml, .ref a_ma, .int mLast, .ref a_mk, .int mKLast, .int mKOpen, .int mKFill, .int mNumber, .int mDown, .int mArmed, .int mLeft, .int mWritten, .ref a_my, .ref a_mo, .int mFSize])), (a_my, .inl (cI, 16, .inl mByt))]) (va_A [(a_m, .inr (5, [.int mSegs, .ref a_ms, .ref a_mf, .ref a_mv, .int mOpen, .ref a_mc, .ref a_mb, .ref a_mz, .ref a_mu, .ref a_mi, .ref a_mr, .ref a_mh, .ref a_ml, .ref a_ma, .int mLast, .ref a_mk, .int mKLast, .int mKOpen, .int mKFill, .int mNumber, .int mDown, .int mArmed, .int mLeft, .int mWritten, .ref a_my, .ref a_mo, .int mFSize])), (a_my, .inl (cI, 16, .inl mByt))] sz)) 0 0 (va_A [(a_m, .inr (5, [.int mSegs, .ref a_ms, .ref a_mf, .ref a_mv, .int mOpen, .ref a_mc, .ref a_mb, .ref a_mz, .ref a_mu, .ref a_mi, .ref a_mr, .ref a_mh, .ref a_ml, .ref a_ma, .int mLast, .ref a_mk, .int mKLast, .int mKOpen, .int mKFill, .int mNumber, .int mDown, .int mArmed, .int mLeft, .int mWritten, .ref a_my, .ref a_mo, .int mFSize])), (a_my, .inl (cI, 16, .inl mByt))] sz) := by
  refine Met.ofW (cc := b_M_alike) (maxL := 4) (ret := (some .int)) (by decide) rfl ?_
  intro p e s m args below meth c s₁ B hml hv
  obtain ⟨rfl, hsz, hP, hK, hD0, hN⟩ := hv
  have hx := B.exec
  have hb := B.bytes
  have hr := B.returns
  have hts := atoms_spec (ws := w_M_alike) B.pre
  have htT : ∀ w ∈ lwG, w.before _ s = true := fun w h => hts w (List.mem_cons_of_mem _ h)
  have hown : s.vm.findClass R_M = some m.cls := findClass_of_methodNamed B.named
  have hlocks := B.notSynchronized
  subst hsz
  have hD := hD0.self (sz := s.heap.size)
  generalize hAe : va_A [(a_m, .inr (5, [.int mSegs, .ref a_ms, .ref a_mf, .ref a_mv, .int mOpen, .ref a_mc, .ref a_mb, .ref a_mz, .ref a_mu, .ref a_mi, .ref a_mr, .ref a_mh, .ref a_ml, .ref a_ma, .int mLast, .ref a_mk, .int mKLast, .int mKOpen, .int mKFill, .int mNumber, .int mDown, .int mArmed, .int mLeft, .int mWritten, .ref a_my, .ref a_mo, .int mFSize])), (a_my, .inl (cI, 16, .inl mByt))] s.heap.size = A at hD ⊢
  have hA : ∀ q : Nat, s.heap.size ≤ q → A q := fun q h => by rw [← hAe]; exact Or.inr h
  have hS : va_S A s.heap s.heap [] := va_S.rf
  have hP : va_P (dC, dI) classes [(a_m, .inr (5, [.int mSegs, .ref a_ms, .ref a_mf, .ref a_mv, .int mOpen, .ref a_mc, .ref a_mb, .ref a_mz, .ref a_mu, .ref a_mi, .ref a_mr, .ref a_mh, .ref a_ml, .ref a_ma, .int mLast, .ref a_mk, .int mKLast, .int mKOpen, .int mKFill, .int mNumber, .int mDown, .int mArmed, .int mLeft, .int mWritten, .ref a_my, .ref a_mo, .int mFSize])), (a_my, .inl (cI, 16, .inl mByt))] s.heap := hP
  have hl := lv_entry ([.ref a_m, .int x1, .int x2]) (n := 4) (Nat.le_of_ble_eq_true rfl)
  rw [lg_entry_eq]
  generalize (lg_sl ([.ref a_m, .int x1, .int x2]) ++ List.replicate (4 - (lg_sl ([.ref a_m, .int x1, .int x2])).length) Slot.unset).toArray = ls at hl ⊢
  have hl : lv_has ls 4 [(0, .ref a_m), (1, .int x1), (2, .int x2)] := hl
  have h := hM
  rw [M_alike] at h
  refine lv_iconst (v := (0 : Int32)) hx hb d_M_alike_0 (by decide) ?_
  refine lv_istore_n hx hb d_M_alike_1 rfl hl (by decide) rfl (fun ls hl => ?_)
  have hl : lv_has ls 4 [(3, .int (0 : Int32)), (0, .ref a_m), (1, .int x1), (2, .int x2)] := hl
  have L2 : ∀ (K2 : Int32 → Option (Int32)) (fuel : Nat) (x3_w2 : Int32) (ls : Array Slot) (H : Heap) (locs : List Loc), lv_has ls 4 [(0, .ref a_m), (1, .int x1), (2, .int x2), (3, .int x3_w2)] → va_P (dC, dI) classes [(a_m, .inr (5, [.int mSegs, .ref a_ms, .ref a_mf, .ref a_mv, .int mOpen, .ref a_mc, .ref a_mb, .ref a_mz, .ref a_mu, .ref a_mi, .ref a_mr, .ref a_mh, .ref a_ml, .ref a_ma, .int mLast, .ref a_mk, .int mKLast, .int mKOpen, .int mKFill, .int mNumber, .int mDown, .int mArmed, .int mLeft, .int mWritten, .ref a_my, .ref a_mo, .int mFSize])), (a_my, .inl (cI, 16, .inl mByt))] H → va_D A [(a_m, .inr (5, [.int mSegs, .ref a_ms, .ref a_mf, .ref a_mv, .int mOpen, .ref a_mc, .ref a_mb, .ref a_mz, .ref a_mu, .ref a_mi, .ref a_mr, .ref a_mh, .ref a_ml, .ref a_ma, .int mLast, .ref a_mk, .int mKLast, .int mKOpen, .int mKFill, .int mNumber, .int mDown, .int mArmed, .int mLeft, .int mWritten, .ref a_my, .ref a_mo, .int mFSize])), (a_my, .inl (cI, 16, .inl mByt))] → va_S A s.heap H locs → M_alike_L2 mByt x1 x2 K2 fuel x3_w2 = some res → (∀ (x3_w2 : Int32) (ls : Array Slot) (H : Heap) (locs : List Loc), lv_has ls 4 [(0, .ref a_m), (1, .int x1), (2, .int x2), (3, .int x3_w2)] → va_P (dC, dI) classes [(a_m, .inr (5, [.int mSegs, .ref a_ms, .ref a_mf, .ref a_mv, .int mOpen, .ref a_mc, .ref a_mb, .ref a_mz, .ref a_mu, .ref a_mi, .ref a_mr, .ref a_mh, .ref a_ml, .ref a_ma, .int mLast, .ref a_mk, .int mKLast, .int mKOpen, .int mKFill, .int mNumber, .int mDown, .int mArmed, .int mLeft, .int mWritten, .ref a_my, .ref a_mo, .int mFSize])), (a_my, .inl (cI, 16, .inl mByt))] H → va_D A [(a_m, .inr (5, [.int mSegs, .ref a_ms, .ref a_mf, .ref a_mv, .int mOpen, .ref a_mc, .ref a_mb, .ref a_mz, .ref a_mu, .ref a_mi, .ref a_mr, .ref a_mh, .ref a_ml, .ref a_ma, .int mLast, .ref a_mk, .int mKLast, .int mKOpen, .int mKFill, .int mNumber, .int mDown, .int mArmed, .int mLeft, .int mWritten, .ref a_my, .ref a_mo, .int mFSize])), (a_my, .inl (cI, 16, .inl mByt))] → va_S A s.heap H locs → K2 x3_w2 = some res → W p l e (headSpec w_M_alike ({ frames := 0, cells := 0, slots := 0, locals := 0 })).room s m ([.ref a_m, .int x1, .int x2] : List Value).toArray below meth c H locs 0 0 (MQ below (va_Qi (fun (r : Int32) (z : Unit) => res = r) (fun (z : Unit) (t : State) => va_P (dC, dI) classes [(a_m, .inr (5, [.int mSegs, .ref a_ms, .ref a_mf, .ref a_mv, .int mOpen, .ref a_mc, .ref a_mb, .ref a_mz, .ref a_mu, .ref a_mi, .ref a_mr, .ref a_mh, .ref a_ml, .ref a_ma, .int mLast, .ref a_mk, .int mKLast, .int mKOpen, .int mKFill, .int mNumber, .int mDown, .int mArmed, .int mLeft, .int mWritten, .ref a_my, .ref a_mo, .int mFSize])), (a_my, .inl (cI, 16, .inl mByt))] t.heap ∧ va_K (dC, dI) classes [(cI, .int), (cZ, .boolean), (cJ, .long)] t ∧ va_D A [(a_m, .inr (5, [.int mSegs, .ref a_ms, .ref a_mf, .ref a_mv, .int mOpen, .ref a_mc, .ref a_mb, .ref a_mz, .ref a_mu, .ref a_mi, .ref a_mr, .ref a_mh, .ref a_ml, .ref a_ma, .int mLast, .ref a_mk, .int mKLast, .int mKOpen, .int mKFill, .int mNumber, .int mDown, .int mArmed, .int mLeft, .int mWritten, .ref a_my, .ref a_mo, .int mFSize])), (a_my, .inl (cI, 16, .inl mByt))]) A) ([.ref a_m, .int x1, .int x2] : List Value).toArray s 0 0 A) (F0 m 35 ls [])) → W p l e (headSpec w_M_alike ({ frames := 0, cells := 0, slots := 0, locals := 0 })).room s m ([.ref a_m, .int x1, .int x2] : List Value).toArray below meth c H locs 0 0 (MQ below (va_Qi (fun (r : Int32) (z : Unit) => res = r) (fun (z : Unit) (t : State) => va_P (dC, dI) classes [(a_m, .inr (5, [.int mSegs, .ref a_ms, .ref a_mf, .ref a_mv, .int mOpen, .ref a_mc, .ref a_mb, .ref a_mz, .ref a_mu, .ref a_mi, .ref a_mr, .ref a_mh, .ref a_ml, .ref a_ma, .int mLast, .ref a_mk, .int mKLast, .int mKOpen, .int mKFill, .int mNumber, .int mDown, .int mArmed, .int mLeft, .int mWritten, .ref a_my, .ref a_mo, .int mFSize])), (a_my, .inl (cI, 16, .inl mByt))] t.heap ∧ va_K (dC, dI) classes [(cI, .int), (cZ, .boolean), (cJ, .long)] t ∧ va_D A [(a_m, .inr (5, [.int mSegs, .ref a_ms, .ref a_mf, .ref a_mv, .int mOpen, .ref a_mc, .ref a_mb, .ref a_mz, .ref a_mu, .ref a_mi, .ref a_mr, .ref a_mh, .ref a_ml, .ref a_ma, .int mLast, .ref a_mk, .int mKLast, .int mKOpen, .int mKFill, .int mNumber, .int mDown, .int mArmed, .int mLeft, .int mWritten, .ref a_my, .ref a_mo, .int mFSize])), (a_my, .inl (cI, 16, .inl mByt))]) A) ([.ref a_m, .int x1, .int x2] : List Value).toArray s 0 0 A) (F0 m 2 ls []) := by
    intro K2 fuel
    induction fuel with
    | zero => intro x3_w2 ls H locs hl hP hD hS h hk2; exact absurd (show (none : Option (Int32)) = some res from h) (by intro q; cases q)
    | succ fuel ih2 =>
      intro x3_w2 ls H locs hl hP hD hS h hk2
      rw [M_alike_L2] at h
      refine lv_iload_n hx hb d_M_alike_2 rfl (lv_at hl 2 rfl) ?_
      refine lv_iload_n hx hb d_M_alike_3 rfl (lv_at hl 3 rfl) ?_
      refine lv_iadd hx hb d_M_alike_4 ?_
      refine lv_bipush (v := (16 : Int32)) hx hb d_M_alike_5 (by decide) ?_
      refine lv_icmp_ge (tgt := 35) hx hb d_M_alike_7 (by decide) (fun hc => ?_) (fun hc => ?_)
      · have h := ck_t hc h
        have hl : lv_has ls 4 [(0, .ref a_m), (1, .int x1), (2, .int x2), (3, .int x3_w2)] := lv_sub hl [0, 1, 2, 3] rfl
        exact hk2 _ _ _ _ hl hP hD hS h
      · have h := ck_f hc h
        refine lv_aload_n hx hb d_M_alike_10 rfl (lv_at hl 0 rfl) ?_
        refine va_get (D := (dC, dI)) (ci := 5) (v := .ref a_my) (C := R_M) (T := F_M) (N := 27) hx hb htT i_M hown hK hP 0 rfl rfl 24 (by decide) (htT _ kf_M_51) (fun _ h9 => h9) rfl d_M_alike_11 ?_
        refine lv_iload_n hx hb d_M_alike_14 rfl (lv_at hl 1 rfl) ?_
        refine lv_iload_n hx hb d_M_alike_15 rfl (lv_at hl 3 rfl) ?_
        refine lv_iadd hx hb d_M_alike_16 ?_
        obtain ⟨hin, h⟩ := ck_in h
        refine va_iald hx hb hK hP 1 0 rfl rfl hin d_M_alike_17 ?_
        refine lv_aload_n hx hb d_M_alike_18 rfl (lv_at hl 0 rfl) ?_
        refine va_get (D := (dC, dI)) (ci := 5) (v := .ref a_my) (C := R_M) (T := F_M) (N := 27) hx hb htT i_M hown hK hP 0 rfl rfl 24 (by decide) (htT _ kf_M_51) (fun _ h9 => h9) rfl d_M_alike_19 ?_
        refine lv_iload_n hx hb d_M_alike_22 rfl (lv_at hl 2 rfl) ?_
        refine lv_iload_n hx hb d_M_alike_23 rfl (lv_at hl 3 rfl) ?_
        refine lv_iadd hx hb d_M_alike_24 ?_
        obtain ⟨hin, h⟩ := ck_in h
        refine va_iald hx hb hK hP 1 0 rfl rfl hin d_M_alike_25 ?_
        refine lv_icmp_ne (tgt := 35) hx hb d_M_alike_26 (by decide) (fun hc => ?_) (fun hc => ?_)
        · have h := ck_f hc h
          have hl : lv_has ls 4 [(0, .ref a_m), (1, .int x1), (2, .int x2), (3, .int x3_w2)] := lv_sub hl [0, 1, 2, 3] rfl
          exact hk2 _ _ _ _ hl hP hD hS h
        · have h := ck_t hc h
          refine lv_iinc (k := 3) (v := (x3_w2 + (1 : Int32))) hx hb d_M_alike_29 hl rfl (congrArg (fun y => x3_w2 + y) (by decide)) (by decide) rfl (fun ls hl => ?_)
          have hl : lv_has ls 4 [(3, .int (x3_w2 + (1 : Int32))), (0, .ref a_m), (1, .int x1), (2, .int x2)] := hl
          refine lv_goto (tgt := 2) hx hb d_M_alike_32 (by decide) ?_
          have hl : lv_has ls 4 [(0, .ref a_m), (1, .int x1), (2, .int x2), (3, .int (x3_w2 + (1 : Int32)))] := lv_sub hl [1, 2, 3, 0] rfl
          exact ih2 _ _ _ _ hl hP hD hS h hk2
  have hl : lv_has ls 4 [(0, .ref a_m), (1, .int x1), (2, .int x2), (3, .int (0 : Int32))] := lv_sub hl [1, 2, 3, 0] rfl
  refine L2 _ _ _ _ _ _ hl hP hD hS h ?_
  intro x3_k2 ls H locs hl hP hD hS h
  refine lv_iload_n hx hb d_M_alike_35 rfl (lv_at hl 3 rfl) ?_
  exact W.iret (v := x3_k2) hx hb hr (fun t ht hW => ⟨⟨x3_k2, (), rfl, (Option.some.inj h).symm, by rw [ht]; exact hP, va_K.moved hW.alike hK, hD⟩, hS.F ht⟩) hS.2.2 d_M_alike_36
set_option maxHeartbeats 4000000 in
set_option maxRecDepth 100000 in
theorem c_M_pack (l : Launch) (dC : Nat → ClassId) (dI : Nat → Nat → Nat) (cI cZ cJ : ClassId) (a_m a_ms a_mf a_mv a_mc a_mb a_mz a_mu a_mi a_mr a_mh a_ml a_ma a_mk a_my a_mo : Nat) (sz n N : Nat) (mSegs : Int32) (mOpen : Int32) (mLast : Int32) (mKLast : Int32) (mKOpen : Int32) (mKFill : Int32) (mNumber : Int32) (mDown : Int32) (mArmed : Int32) (mLeft : Int32) (mWritten : Int32) (mFSize : Int32) (mByt : Nat → Int32) (mFrm : Nat → Int32) (x1 : Int64) (x3 : Int64) (res : Int32 × (Nat → Int32) × (Nat → Int32)) (hM : M_pack mFSize mByt mFrm x1 x3 = some res) : Met l y_M_pack w_M_pack ({ frames := 1, cells := 0, slots := 0, locals := 23 }) (va_Pc [.ref a_m, .long x1, .long x3] (fun U => U.heap.size = sz ∧ va_P (dC, dI) classes [(a_m, .inr (5, [.int mSegs, .ref a_ms, .ref a_mf, .ref a_mv, .int mOpen, .ref a_mc, .ref a_mb, .ref a_mz, .ref a_mu, .ref a_mi, .ref a_mr, .ref a_mh, .ref a_ml, .ref a_ma, .int mLast, .ref a_mk, .int mKLast, .int mKOpen, .int mKFill, .int mNumber, .int mDown, .int mArmed, .int mLeft, .int mWritten, .ref a_my, .ref a_mo, .int mFSize])), (a_my, .inl (cI, 16, .inl mByt)), (a_mo, .inl (cI, 24, .inl mFrm))] U.heap ∧ va_K (dC, dI) classes [(cI, .int), (cZ, .boolean), (cJ, .long)] U ∧ va_D (fun _ => True) [(a_m, .inr (5, [.int mSegs, .ref a_ms, .ref a_mf, .ref a_mv, .int mOpen, .ref a_mc, .ref a_mb, .ref a_mz, .ref a_mu, .ref a_mi, .ref a_mr, .ref a_mh, .ref a_ml, .ref a_ma, .int mLast, .ref a_mk, .int mKLast, .int mKOpen, .int mKFill, .int mNumber, .int mDown, .int mArmed, .int mLeft, .int mWritten, .ref a_my, .ref a_mo, .int mFSize])), (a_my, .inl (cI, 16, .inl mByt)), (a_mo, .inl (cI, 24, .inl mFrm))] ∧ Ns U)) (va_Qv (fun (z : Int32 × (Nat → Int32) × (Nat → Int32)) => res = z) (fun (z : Int32 × (Nat → Int32) × (Nat → Int32)) (t : State) => va_P (dC, dI) classes [(a_m, .inr (5, [.int mSegs, .ref a_ms, .ref a_mf, .ref a_mv, .int mOpen, .ref a_mc, .ref a_mb, .ref a_mz, .ref a_mu, .ref a_mi, .ref a_mr, .ref a_mh, .ref a_ml, .ref a_ma, .int mLast, .ref a_mk, .int mKLast, .int mKOpen, .int mKFill, .int mNumber, .int mDown, .int mArmed, .int mLeft, .int mWritten, .ref a_my, .ref a_mo, .int z.1])), (a_my, .inl (cI, 16, .inl z.2.1)), (a_mo, .inl (cI, 24, .inl z.2.2))] t.heap ∧ va_K (dC, dI) classes [(cI, .int), (cZ, .boolean), (cJ, .long)] t ∧ va_D (va_A [(a_m, .inr (5, [.int mSegs, .ref a_ms, .ref a_mf, .ref a_mv, .int mOpen, .ref a_mc, .ref a_mb, .ref a_mz, .ref a_mu, .ref a_mi, .ref a_mr, .ref a_mh, .ref a_ml, .ref a_ma, .int mLast, .ref a_mk, .int mKLast, .int mKOpen, .int mKFill, .int mNumber, .int mDown, .int mArmed, .int mLeft, .int mWritten, .ref a_my, .ref a_mo, .int mFSize])), (a_my, .inl (cI, 16, .inl mByt)), (a_mo, .inl (cI, 24, .inl mFrm))] sz) [(a_m, .inr (5, [.int mSegs, .ref a_ms, .ref a_mf, .ref a_mv, .int mOpen, .ref a_mc, .ref a_mb, .ref a_mz, .ref a_mu, .ref a_mi, .ref a_mr, .ref a_mh, .ref a_ml, .ref a_ma, .int mLast, .ref a_mk, .int mKLast, .int mKOpen, .int mKFill, .int mNumber, .int mDown, .int mArmed, .int mLeft, .int mWritten, .ref a_my, .ref a_mo, .int z.1])), (a_my, .inl (cI, 16, .inl z.2.1)), (a_mo, .inl (cI, 24, .inl z.2.2))]) (va_A [(a_m, .inr (5, [.int mSegs, .ref a_ms, .ref a_mf, .ref a_mv, .int mOpen, .ref a_mc, .ref a_mb, .ref a_mz, .ref a_mu, .ref a_mi, .ref a_mr, .ref a_mh, .ref a_ml, .ref a_ma, .int mLast, .ref a_mk, .int mKLast, .int mKOpen, .int mKFill, .int mNumber, .int mDown, .int mArmed, .int mLeft, .int mWritten, .ref a_my, .ref a_mo, .int mFSize])), (a_my, .inl (cI, 16, .inl mByt)), (a_mo, .inl (cI, 24, .inl mFrm))] sz)) 0 0 (va_A [(a_m, .inr (5, [.int mSegs, .ref a_ms, .ref a_mf, .ref a_mv, .int mOpen, .ref a_mc, .ref a_mb, .ref a_mz, .ref a_mu, .ref a_mi, .ref a_mr, .ref a_mh, .ref a_ml, .ref a_ma, .int mLast, .ref a_mk, .int mKLast, .int mKOpen, .int mKFill, .int mNumber, .int mDown, .int mArmed, .int mLeft, .int mWritten, .ref a_my, .ref a_mo, .int mFSize])), (a_my, .inl (cI, 16, .inl mByt)), (a_mo, .inl (cI, 24, .inl mFrm))] sz) := by
  refine Met.ofW (cc := b_M_pack) (maxL := 12) (ret := none) (by decide) rfl ?_
  intro p e s m args below meth c s₁ B hml hv
  obtain ⟨rfl, hsz, hP, hK, hD0, hN⟩ := hv
  have hx := B.exec
  have hb := B.bytes
  have hr := B.returns
  have hts := atoms_spec (ws := w_M_pack) B.pre
  have htT : ∀ w ∈ lwG, w.before _ s = true := fun w h => hts w (List.mem_cons_of_mem _ h)
  have hown : s.vm.findClass R_M = some m.cls := findClass_of_methodNamed B.named
  have hlocks := B.notSynchronized
  subst hsz
  have hD := hD0.self (sz := s.heap.size)
  generalize hAe : va_A [(a_m, .inr (5, [.int mSegs, .ref a_ms, .ref a_mf, .ref a_mv, .int mOpen, .ref a_mc, .ref a_mb, .ref a_mz, .ref a_mu, .ref a_mi, .ref a_mr, .ref a_mh, .ref a_ml, .ref a_ma, .int mLast, .ref a_mk, .int mKLast, .int mKOpen, .int mKFill, .int mNumber, .int mDown, .int mArmed, .int mLeft, .int mWritten, .ref a_my, .ref a_mo, .int mFSize])), (a_my, .inl (cI, 16, .inl mByt)), (a_mo, .inl (cI, 24, .inl mFrm))] s.heap.size = A at hD ⊢
  have hA : ∀ q : Nat, s.heap.size ≤ q → A q := fun q h => by rw [← hAe]; exact Or.inr h
  have hS : va_S A s.heap s.heap [] := va_S.rf
  have hP : va_P (dC, dI) classes [(a_m, .inr (5, [.int mSegs, .ref a_ms, .ref a_mf, .ref a_mv, .int mOpen, .ref a_mc, .ref a_mb, .ref a_mz, .ref a_mu, .ref a_mi, .ref a_mr, .ref a_mh, .ref a_ml, .ref a_ma, .int mLast, .ref a_mk, .int mKLast, .int mKOpen, .int mKFill, .int mNumber, .int mDown, .int mArmed, .int mLeft, .int mWritten, .ref a_my, .ref a_mo, .int mFSize])), (a_my, .inl (cI, 16, .inl mByt)), (a_mo, .inl (cI, 24, .inl mFrm))] s.heap := hP
  have hl := lv_entry ([.ref a_m, .long x1, .long x3]) (n := 12) (Nat.le_of_ble_eq_true rfl)
  rw [lg_entry_eq]
  generalize (lg_sl ([.ref a_m, .long x1, .long x3]) ++ List.replicate (12 - (lg_sl ([.ref a_m, .long x1, .long x3])).length) Slot.unset).toArray = ls at hl ⊢
  have hl : lv_has ls 12 [(0, .ref a_m), (1, .long x1), (3, .long x3)] := hl
  have h := hM
  rw [M_pack] at h
  refine lv_iconst (v := (0 : Int32)) hx hb d_M_pack_0 (by decide) ?_
  refine lv_istore hx hb d_M_pack_1 hl (by decide) rfl (fun ls hl => ?_)
  have hl : lv_has ls 12 [(5, .int (0 : Int32)), (0, .ref a_m), (1, .long x1), (3, .long x3)] := hl
  have L3 : ∀ (K3 : (Nat → Int32) → Int32 → Option (Int32 × (Nat → Int32) × (Nat → Int32))) (fuel : Nat) (mByt_w3 : Nat → Int32) (x5_w3 : Int32) (ls : Array Slot) (H : Heap) (locs : List Loc), lv_has ls 12 [(0, .ref a_m), (1, .long x1), (3, .long x3), (5, .int x5_w3)] → va_P (dC, dI) classes [(a_m, .inr (5, [.int mSegs, .ref a_ms, .ref a_mf, .ref a_mv, .int mOpen, .ref a_mc, .ref a_mb, .ref a_mz, .ref a_mu, .ref a_mi, .ref a_mr, .ref a_mh, .ref a_ml, .ref a_ma, .int mLast, .ref a_mk, .int mKLast, .int mKOpen, .int mKFill, .int mNumber, .int mDown, .int mArmed, .int mLeft, .int mWritten, .ref a_my, .ref a_mo, .int mFSize])), (a_my, .inl (cI, 16, .inl mByt_w3)), (a_mo, .inl (cI, 24, .inl mFrm))] H → va_D A [(a_m, .inr (5, [.int mSegs, .ref a_ms, .ref a_mf, .ref a_mv, .int mOpen, .ref a_mc, .ref a_mb, .ref a_mz, .ref a_mu, .ref a_mi, .ref a_mr, .ref a_mh, .ref a_ml, .ref a_ma, .int mLast, .ref a_mk, .int mKLast, .int mKOpen, .int mKFill, .int mNumber, .int mDown, .int mArmed, .int mLeft, .int mWritten, .ref a_my, .ref a_mo, .int mFSize])), (a_my, .inl (cI, 16, .inl mByt_w3)), (a_mo, .inl (cI, 24, .inl mFrm))] → va_S A s.heap H locs → M_pack_L3 x1 x3 K3 fuel mByt_w3 x5_w3 = some res → (∀ (mByt_w3 : Nat → Int32) (x5_w3 : Int32) (ls : Array Slot) (H : Heap) (locs : List Loc), lv_has ls 12 [(0, .ref a_m), (1, .long x1), (3, .long x3), (5, .int x5_w3)] → va_P (dC, dI) classes [(a_m, .inr (5, [.int mSegs, .ref a_ms, .ref a_mf, .ref a_mv, .int mOpen, .ref a_mc, .ref a_mb, .ref a_mz, .ref a_mu, .ref a_mi, .ref a_mr, .ref a_mh, .ref a_ml, .ref a_ma, .int mLast, .ref a_mk, .int mKLast, .int mKOpen, .int mKFill, .int mNumber, .int mDown, .int mArmed, .int mLeft, .int mWritten, .ref a_my, .ref a_mo, .int mFSize])), (a_my, .inl (cI, 16, .inl mByt_w3)), (a_mo, .inl (cI, 24, .inl mFrm))] H → va_D A [(a_m, .inr (5, [.int mSegs, .ref a_ms, .ref a_mf, .ref a_mv, .int mOpen, .ref a_mc, .ref a_mb, .ref a_mz, .ref a_mu, .ref a_mi, .ref a_mr, .ref a_mh, .ref a_ml, .ref a_ma, .int mLast, .ref a_mk, .int mKLast, .int mKOpen, .int mKFill, .int mNumber, .int mDown, .int mArmed, .int mLeft, .int mWritten, .ref a_my, .ref a_mo, .int mFSize])), (a_my, .inl (cI, 16, .inl mByt_w3)), (a_mo, .inl (cI, 24, .inl mFrm))] → va_S A s.heap H locs → K3 mByt_w3 x5_w3 = some res → W p l e (headSpec w_M_pack ({ frames := 1, cells := 0, slots := 0, locals := 23 })).room s m ([.ref a_m, .long x1, .long x3] : List Value).toArray below meth c H locs 0 0 (MQ below (va_Qv (fun (z : Int32 × (Nat → Int32) × (Nat → Int32)) => res = z) (fun (z : Int32 × (Nat → Int32) × (Nat → Int32)) (t : State) => va_P (dC, dI) classes [(a_m, .inr (5, [.int mSegs, .ref a_ms, .ref a_mf, .ref a_mv, .int mOpen, .ref a_mc, .ref a_mb, .ref a_mz, .ref a_mu, .ref a_mi, .ref a_mr, .ref a_mh, .ref a_ml, .ref a_ma, .int mLast, .ref a_mk, .int mKLast, .int mKOpen, .int mKFill, .int mNumber, .int mDown, .int mArmed, .int mLeft, .int mWritten, .ref a_my, .ref a_mo, .int z.1])), (a_my, .inl (cI, 16, .inl z.2.1)), (a_mo, .inl (cI, 24, .inl z.2.2))] t.heap ∧ va_K (dC, dI) classes [(cI, .int), (cZ, .boolean), (cJ, .long)] t ∧ va_D A [(a_m, .inr (5, [.int mSegs, .ref a_ms, .ref a_mf, .ref a_mv, .int mOpen, .ref a_mc, .ref a_mb, .ref a_mz, .ref a_mu, .ref a_mi, .ref a_mr, .ref a_mh, .ref a_ml, .ref a_ma, .int mLast, .ref a_mk, .int mKLast, .int mKOpen, .int mKFill, .int mNumber, .int mDown, .int mArmed, .int mLeft, .int mWritten, .ref a_my, .ref a_mo, .int z.1])), (a_my, .inl (cI, 16, .inl z.2.1)), (a_mo, .inl (cI, 24, .inl z.2.2))]) A) ([.ref a_m, .long x1, .long x3] : List Value).toArray s 0 0 A) (F0 m 63 ls [])) → W p l e (headSpec w_M_pack ({ frames := 1, cells := 0, slots := 0, locals := 23 })).room s m ([.ref a_m, .long x1, .long x3] : List Value).toArray below meth c H locs 0 0 (MQ below (va_Qv (fun (z : Int32 × (Nat → Int32) × (Nat → Int32)) => res = z) (fun (z : Int32 × (Nat → Int32) × (Nat → Int32)) (t : State) => va_P (dC, dI) classes [(a_m, .inr (5, [.int mSegs, .ref a_ms, .ref a_mf, .ref a_mv, .int mOpen, .ref a_mc, .ref a_mb, .ref a_mz, .ref a_mu, .ref a_mi, .ref a_mr, .ref a_mh, .ref a_ml, .ref a_ma, .int mLast, .ref a_mk, .int mKLast, .int mKOpen, .int mKFill, .int mNumber, .int mDown, .int mArmed, .int mLeft, .int mWritten, .ref a_my, .ref a_mo, .int z.1])), (a_my, .inl (cI, 16, .inl z.2.1)), (a_mo, .inl (cI, 24, .inl z.2.2))] t.heap ∧ va_K (dC, dI) classes [(cI, .int), (cZ, .boolean), (cJ, .long)] t ∧ va_D A [(a_m, .inr (5, [.int mSegs, .ref a_ms, .ref a_mf, .ref a_mv, .int mOpen, .ref a_mc, .ref a_mb, .ref a_mz, .ref a_mu, .ref a_mi, .ref a_mr, .ref a_mh, .ref a_ml, .ref a_ma, .int mLast, .ref a_mk, .int mKLast, .int mKOpen, .int mKFill, .int mNumber, .int mDown, .int mArmed, .int mLeft, .int mWritten, .ref a_my, .ref a_mo, .int z.1])), (a_my, .inl (cI, 16, .inl z.2.1)), (a_mo, .inl (cI, 24, .inl z.2.2))]) A) ([.ref a_m, .long x1, .long x3] : List Value).toArray s 0 0 A) (F0 m 3 ls []) := by
    intro K3 fuel
    induction fuel with
    | zero => intro mByt_w3 x5_w3 ls H locs hl hP hD hS h hk3; exact absurd (show (none : Option (Int32 × (Nat → Int32) × (Nat → Int32))) = some res from h) (by intro q; cases q)
    | succ fuel ih3 =>
      intro mByt_w3 x5_w3 ls H locs hl hP hD hS h hk3
      rw [M_pack_L3] at h
      refine lv_iload hx hb d_M_pack_3 (lv_at hl 3 rfl) ?_
      refine lv_bipush (v := (8 : Int32)) hx hb d_M_pack_5 (by decide) ?_
      refine lv_icmp_ge (tgt := 63) hx hb d_M_pack_7 (by decide) (fun hc => ?_) (fun hc => ?_)
      · have h := ck_t hc h
        have hl : lv_has ls 12 [(0, .ref a_m), (1, .long x1), (3, .long x3), (5, .int x5_w3)] := lv_sub hl [0, 1, 2, 3] rfl
        exact hk3 _ _ _ _ _ hl hP hD hS h
      · have h := ck_f hc h
        refine lv_aload_n hx hb d_M_pack_10 rfl (lv_at hl 0 rfl) ?_
        refine va_get (D := (dC, dI)) (ci := 5) (v := .ref a_my) (C := R_M) (T := F_M) (N := 27) hx hb htT i_M hown hK hP 0 rfl rfl 24 (by decide) (htT _ kf_M_51) (fun _ h9 => h9) rfl d_M_pack_11 ?_
        refine lv_iload hx hb d_M_pack_14 (lv_at hl 3 rfl) ?_
        refine lv_lload_n hx hb d_M_pack_16 rfl (lv_at hl 1 rfl) ?_
        refine lv_bipush (v := (56 : Int32)) hx hb d_M_pack_17 (by decide) ?_
        refine lv_bipush (v := (8 : Int32)) hx hb d_M_pack_19 (by decide) ?_
        refine lv_iload hx hb d_M_pack_21 (lv_at hl 3 rfl) ?_
        refine lv_imul hx hb d_M_pack_23 ?_
        refine lv_isub hx hb d_M_pack_24 ?_
        refine lv_lshr (v := (x1 >>> (((56 : Int32) - ((8 : Int32) * x5_w3)).toInt64 &&& 63))) hx hb d_M_pack_25 rfl ?_
        refine lv_ldc2 (v := (255 : Int64)) hx hb hown (htT _ kj_M_61) d_M_pack_26 ?_
        refine lv_land hx hb d_M_pack_29 ?_
        refine lv_l2i (v := (((x1 >>> (((56 : Int32) - ((8 : Int32) * x5_w3)).toInt64 &&& 63)) &&& (255 : Int64)).toInt32)) hx hb d_M_pack_30 rfl ?_
        obtain ⟨hin, h⟩ := ck_in h
        refine va_iast hx hb hK hP hD hS 1 0 rfl rfl hin d_M_pack_31 (fun H locs hP hD hS => ?_)
        have hP : va_P (dC, dI) classes [(a_m, .inr (5, [.int mSegs, .ref a_ms, .ref a_mf, .ref a_mv, .int mOpen, .ref a_mc, .ref a_mb, .ref a_mz, .ref a_mu, .ref a_mi, .ref a_mr, .ref a_mh, .ref a_ml, .ref a_ma, .int mLast, .ref a_mk, .int mKLast, .int mKOpen, .int mKFill, .int mNumber, .int mDown, .int mArmed, .int mLeft, .int mWritten, .ref a_my, .ref a_mo, .int mFSize])), (a_my, .inl (cI, 16, .inl (upd mByt_w3 x5_w3.toNatClampNeg (((x1 >>> (((56 : Int32) - ((8 : Int32) * x5_w3)).toInt64 &&& 63)) &&& (255 : Int64)).toInt32)))), (a_mo, .inl (cI, 24, .inl mFrm))] H := hP
        have hD : va_D A [(a_m, .inr (5, [.int mSegs, .ref a_ms, .ref a_mf, .ref a_mv, .int mOpen, .ref a_mc, .ref a_mb, .ref a_mz, .ref a_mu, .ref a_mi, .ref a_mr, .ref a_mh, .ref a_ml, .ref a_ma, .int mLast, .ref a_mk, .int mKLast, .int mKOpen, .int mKFill, .int mNumber, .int mDown, .int mArmed, .int mLeft, .int mWritten, .ref a_my, .ref a_mo, .int mFSize])), (a_my, .inl (cI, 16, .inl (upd mByt_w3 x5_w3.toNatClampNeg (((x1 >>> (((56 : Int32) - ((8 : Int32) * x5_w3)).toInt64 &&& 63)) &&& (255 : Int64)).toInt32)))), (a_mo, .inl (cI, 24, .inl mFrm))] := hD
        refine lv_aload_n hx hb d_M_pack_32 rfl (lv_at hl 0 rfl) ?_
        refine va_get (D := (dC, dI)) (ci := 5) (v := .ref a_my) (C := R_M) (T := F_M) (N := 27) hx hb htT i_M hown hK hP 0 rfl rfl 24 (by decide) (htT _ kf_M_51) (fun _ h9 => h9) rfl d_M_pack_33 ?_
        refine lv_bipush (v := (8 : Int32)) hx hb d_M_pack_36 (by decide) ?_
        refine lv_iload hx hb d_M_pack_38 (lv_at hl 3 rfl) ?_
        refine lv_iadd hx hb d_M_pack_40 ?_
        refine lv_lload_n hx hb d_M_pack_41 rfl (lv_at hl 2 rfl) ?_
        refine lv_bipush (v := (56 : Int32)) hx hb d_M_pack_42 (by decide) ?_
        refine lv_bipush (v := (8 : Int32)) hx hb d_M_pack_44 (by decide) ?_
        refine lv_iload hx hb d_M_pack_46 (lv_at hl 3 rfl) ?_
        refine lv_imul hx hb d_M_pack_48 ?_
        refine lv_isub hx hb d_M_pack_49 ?_
        refine lv_lshr (v := (x3 >>> (((56 : Int32) - ((8 : Int32) * x5_w3)).toInt64 &&& 63))) hx hb d_M_pack_50 rfl ?_
        refine lv_ldc2 (v := (255 : Int64)) hx hb hown (htT _ kj_M_61) d_M_pack_51 ?_
        refine lv_land hx hb d_M_pack_54 ?_
        refine lv_l2i (v := (((x3 >>> (((56 : Int32) - ((8 : Int32) * x5_w3)).toInt64 &&& 63)) &&& (255 : Int64)).toInt32)) hx hb d_M_pack_55 rfl ?_
        obtain ⟨hin, h⟩ := ck_in h
        refine va_iast hx hb hK hP hD hS 1 0 rfl rfl hin d_M_pack_56 (fun H locs hP hD hS => ?_)
        have hP : va_P (dC, dI) classes [(a_m, .inr (5, [.int mSegs, .ref a_ms, .ref a_mf, .ref a_mv, .int mOpen, .ref a_mc, .ref a_mb, .ref a_mz, .ref a_mu, .ref a_mi, .ref a_mr, .ref a_mh, .ref a_ml, .ref a_ma, .int mLast, .ref a_mk, .int mKLast, .int mKOpen, .int mKFill, .int mNumber, .int mDown, .int mArmed, .int mLeft, .int mWritten, .ref a_my, .ref a_mo, .int mFSize])), (a_my, .inl (cI, 16, .inl (upd (upd mByt_w3 x5_w3.toNatClampNeg (((x1 >>> (((56 : Int32) - ((8 : Int32) * x5_w3)).toInt64 &&& 63)) &&& (255 : Int64)).toInt32)) ((8 : Int32) + x5_w3).toNatClampNeg (((x3 >>> (((56 : Int32) - ((8 : Int32) * x5_w3)).toInt64 &&& 63)) &&& (255 : Int64)).toInt32)))), (a_mo, .inl (cI, 24, .inl mFrm))] H := hP
        have hD : va_D A [(a_m, .inr (5, [.int mSegs, .ref a_ms, .ref a_mf, .ref a_mv, .int mOpen, .ref a_mc, .ref a_mb, .ref a_mz, .ref a_mu, .ref a_mi, .ref a_mr, .ref a_mh, .ref a_ml, .ref a_ma, .int mLast, .ref a_mk, .int mKLast, .int mKOpen, .int mKFill, .int mNumber, .int mDown, .int mArmed, .int mLeft, .int mWritten, .ref a_my, .ref a_mo, .int mFSize])), (a_my, .inl (cI, 16, .inl (upd (upd mByt_w3 x5_w3.toNatClampNeg (((x1 >>> (((56 : Int32) - ((8 : Int32) * x5_w3)).toInt64 &&& 63)) &&& (255 : Int64)).toInt32)) ((8 : Int32) + x5_w3).toNatClampNeg (((x3 >>> (((56 : Int32) - ((8 : Int32) * x5_w3)).toInt64 &&& 63)) &&& (255 : Int64)).toInt32)))), (a_mo, .inl (cI, 24, .inl mFrm))] := hD
        refine lv_iinc (k := 3) (v := (x5_w3 + (1 : Int32))) hx hb d_M_pack_57 hl rfl (congrArg (fun y => x5_w3 + y) (by decide)) (by decide) rfl (fun ls hl => ?_)
        have hl : lv_has ls 12 [(5, .int (x5_w3 + (1 : Int32))), (0, .ref a_m), (1, .long x1), (3, .long x3)] := hl
        refine lv_goto (tgt := 3) hx hb d_M_pack_60 (by decide) ?_
        have hl : lv_has ls 12 [(0, .ref a_m), (1, .long x1), (3, .long x3), (5, .int (x5_w3 + (1 : Int32)))] := lv_sub hl [1, 2, 3, 0] rfl
        exact ih3 _ _ _ _ _ hl hP hD hS h hk3
  have hl : lv_has ls 12 [(0, .ref a_m), (1, .long x1), (3, .long x3), (5, .int (0 : Int32))] := lv_sub hl [1, 2, 3, 0] rfl
  refine L3 _ _ _ _ _ _ _ hl hP hD hS h ?_
  intro mByt_k3 x5_k3 ls H locs hl hP hD hS h
  refine lv_iconst (v := (0 : Int32)) hx hb d_M_pack_63 (by decide) ?_
  refine lv_istore hx hb d_M_pack_64 hl (by decide) rfl (fun ls hl => ?_)
  have hl : lv_has ls 12 [(5, .int (0 : Int32)), (0, .ref a_m), (1, .long x1), (3, .long x3)] := hl
  refine lv_iconst (v := (1 : Int32)) hx hb d_M_pack_66 (by decide) ?_
  refine lv_istore hx hb d_M_pack_67 hl (by decide) rfl (fun ls hl => ?_)
  have hl : lv_has ls 12 [(6, .int (1 : Int32)), (5, .int (0 : Int32)), (0, .ref a_m), (1, .long x1), (3, .long x3)] := hl
  refine lv_iconst (v := (0 : Int32)) hx hb d_M_pack_69 (by decide) ?_
  refine lv_istore hx hb d_M_pack_70 hl (by decide) rfl (fun ls hl => ?_)
  have hl : lv_has ls 12 [(7, .int (0 : Int32)), (6, .int (1 : Int32)), (5, .int (0 : Int32)), (0, .ref a_m), (1, .long x1), (3, .long x3)] := hl
  have L72 : ∀ (K72 : (Nat → Int32) → Int32 → Int32 → Int32 → Option (Int32 × (Nat → Int32) × (Nat → Int32))) (fuel : Nat) (mFrm_w72 : Nat → Int32) (x5_w72 : Int32) (x6_w72 : Int32) (x7_w72 : Int32) (ls : Array Slot) (H : Heap) (locs : List Loc), lv_has ls 12 [(0, .ref a_m), (5, .int x5_w72), (6, .int x6_w72), (7, .int x7_w72)] → va_P (dC, dI) classes [(a_m, .inr (5, [.int mSegs, .ref a_ms, .ref a_mf, .ref a_mv, .int mOpen, .ref a_mc, .ref a_mb, .ref a_mz, .ref a_mu, .ref a_mi, .ref a_mr, .ref a_mh, .ref a_ml, .ref a_ma, .int mLast, .ref a_mk, .int mKLast, .int mKOpen, .int mKFill, .int mNumber, .int mDown, .int mArmed, .int mLeft, .int mWritten, .ref a_my, .ref a_mo, .int mFSize])), (a_my, .inl (cI, 16, .inl mByt_k3)), (a_mo, .inl (cI, 24, .inl mFrm_w72))] H → va_D A [(a_m, .inr (5, [.int mSegs, .ref a_ms, .ref a_mf, .ref a_mv, .int mOpen, .ref a_mc, .ref a_mb, .ref a_mz, .ref a_mu, .ref a_mi, .ref a_mr, .ref a_mh, .ref a_ml, .ref a_ma, .int mLast, .ref a_mk, .int mKLast, .int mKOpen, .int mKFill, .int mNumber, .int mDown, .int mArmed, .int mLeft, .int mWritten, .ref a_my, .ref a_mo, .int mFSize])), (a_my, .inl (cI, 16, .inl mByt_k3)), (a_mo, .inl (cI, 24, .inl mFrm_w72))] → va_S A s.heap H locs → M_pack_L72 mByt_k3 K72 fuel mFrm_w72 x5_w72 x6_w72 x7_w72 = some res → (∀ (mFrm_w72 : Nat → Int32) (x5_w72 : Int32) (x6_w72 : Int32) (x7_w72 : Int32) (ls : Array Slot) (H : Heap) (locs : List Loc), lv_has ls 12 [(0, .ref a_m), (5, .int x5_w72), (6, .int x6_w72), (7, .int x7_w72)] → va_P (dC, dI) classes [(a_m, .inr (5, [.int mSegs, .ref a_ms, .ref a_mf, .ref a_mv, .int mOpen, .ref a_mc, .ref a_mb, .ref a_mz, .ref a_mu, .ref a_mi, .ref a_mr, .ref a_mh, .ref a_ml, .ref a_ma, .int mLast, .ref a_mk, .int mKLast, .int mKOpen, .int mKFill, .int mNumber, .int mDown, .int mArmed, .int mLeft, .int mWritten, .ref a_my, .ref a_mo, .int mFSize])), (a_my, .inl (cI, 16, .inl mByt_k3)), (a_mo, .inl (cI, 24, .inl mFrm_w72))] H → va_D A [(a_m, .inr (5, [.int mSegs, .ref a_ms, .ref a_mf, .ref a_mv, .int mOpen, .ref a_mc, .ref a_mb, .ref a_mz, .ref a_mu, .ref a_mi, .ref a_mr, .ref a_mh, .ref a_ml, .ref a_ma, .int mLast, .ref a_mk, .int mKLast, .int mKOpen, .int mKFill, .int mNumber, .int mDown, .int mArmed, .int mLeft, .int mWritten, .ref a_my, .ref a_mo, .int mFSize])), (a_my, .inl (cI, 16, .inl mByt_k3)), (a_mo, .inl (cI, 24, .inl mFrm_w72))] → va_S A s.heap H locs → K72 mFrm_w72 x5_w72 x6_w72 x7_w72 = some res → W p l e (headSpec w_M_pack ({ frames := 1, cells := 0, slots := 0, locals := 23 })).room s m ([.ref a_m, .long x1, .long x3] : List Value).toArray below meth c H locs 0 0 (MQ below (va_Qv (fun (z : Int32 × (Nat → Int32) × (Nat → Int32)) => res = z) (fun (z : Int32 × (Nat → Int32) × (Nat → Int32)) (t : State) => va_P (dC, dI) classes [(a_m, .inr (5, [.int mSegs, .ref a_ms, .ref a_mf, .ref a_mv, .int mOpen, .ref a_mc, .ref a_mb, .ref a_mz, .ref a_mu, .ref a_mi, .ref a_mr, .ref a_mh, .ref a_ml, .ref a_ma, .int mLast, .ref a_mk, .int mKLast, .int mKOpen, .int mKFill, .int mNumber, .int mDown, .int mArmed, .int mLeft, .int mWritten, .ref a_my, .ref a_mo, .int z.1])), (a_my, .inl (cI, 16, .inl z.2.1)), (a_mo, .inl (cI, 24, .inl z.2.2))] t.heap ∧ va_K (dC, dI) classes [(cI, .int), (cZ, .boolean), (cJ, .long)] t ∧ va_D A [(a_m, .inr (5, [.int mSegs, .ref a_ms, .ref a_mf, .ref a_mv, .int mOpen, .ref a_mc, .ref a_mb, .ref a_mz, .ref a_mu, .ref a_mi, .ref a_mr, .ref a_mh, .ref a_ml, .ref a_ma, .int mLast, .ref a_mk, .int mKLast, .int mKOpen, .int mKFill, .int mNumber, .int mDown, .int mArmed, .int mLeft, .int mWritten, .ref a_my, .ref a_mo, .int z.1])), (a_my, .inl (cI, 16, .inl z.2.1)), (a_mo, .inl (cI, 24, .inl z.2.2))]) A) ([.ref a_m, .long x1, .long x3] : List Value).toArray s 0 0 A) (F0 m 239 ls [])) → W p l e (headSpec w_M_pack ({ frames := 1, cells := 0, slots := 0, locals := 23 })).room s m ([.ref a_m, .long x1, .long x3] : List Value).toArray below meth c H locs 0 0 (MQ below (va_Qv (fun (z : Int32 × (Nat → Int32) × (Nat → Int32)) => res = z) (fun (z : Int32 × (Nat → Int32) × (Nat → Int32)) (t : State) => va_P (dC, dI) classes [(a_m, .inr (5, [.int mSegs, .ref a_ms, .ref a_mf, .ref a_mv, .int mOpen, .ref a_mc, .ref a_mb, .ref a_mz, .ref a_mu, .ref a_mi, .ref a_mr, .ref a_mh, .ref a_ml, .ref a_ma, .int mLast, .ref a_mk, .int mKLast, .int mKOpen, .int mKFill, .int mNumber, .int mDown, .int mArmed, .int mLeft, .int mWritten, .ref a_my, .ref a_mo, .int z.1])), (a_my, .inl (cI, 16, .inl z.2.1)), (a_mo, .inl (cI, 24, .inl z.2.2))] t.heap ∧ va_K (dC, dI) classes [(cI, .int), (cZ, .boolean), (cJ, .long)] t ∧ va_D A [(a_m, .inr (5, [.int mSegs, .ref a_ms, .ref a_mf, .ref a_mv, .int mOpen, .ref a_mc, .ref a_mb, .ref a_mz, .ref a_mu, .ref a_mi, .ref a_mr, .ref a_mh, .ref a_ml, .ref a_ma, .int mLast, .ref a_mk, .int mKLast, .int mKOpen, .int mKFill, .int mNumber, .int mDown, .int mArmed, .int mLeft, .int mWritten, .ref a_my, .ref a_mo, .int z.1])), (a_my, .inl (cI, 16, .inl z.2.1)), (a_mo, .inl (cI, 24, .inl z.2.2))]) A) ([.ref a_m, .long x1, .long x3] : List Value).toArray s 0 0 A) (F0 m 72 ls []) := by
    intro K72 fuel
    induction fuel with
    | zero => intro mFrm_w72 x5_w72 x6_w72 x7_w72 ls H locs hl hP hD hS h hk72; exact absurd (show (none : Option (Int32 × (Nat → Int32) × (Nat → Int32))) = some res from h) (by intro q; cases q)
    | succ fuel ih72 =>
      intro mFrm_w72 x5_w72 x6_w72 x7_w72 ls H locs hl hP hD hS h hk72
      rw [M_pack_L72] at h
      refine lv_iload hx hb d_M_pack_72 (lv_at hl 3 rfl) ?_
      refine lv_bipush (v := (16 : Int32)) hx hb d_M_pack_74 (by decide) ?_
      refine lv_icmp_ge (tgt := 239) hx hb d_M_pack_76 (by decide) (fun hc => ?_) (fun hc => ?_)
      · have h := ck_t hc h
        have hl : lv_has ls 12 [(0, .ref a_m), (5, .int x5_w72), (6, .int x6_w72), (7, .int x7_w72)] := lv_sub hl [0, 1, 2, 3] rfl
        exact hk72 _ _ _ _ _ _ _ hl hP hD hS h
      · have h := ck_f hc h
        refine lv_iconst (v := (0 : Int32)) hx hb d_M_pack_79 (by decide) ?_
        refine lv_istore hx hb d_M_pack_80 hl (by decide) rfl (fun ls hl => ?_)
        have hl : lv_has ls 12 [(8, .int (0 : Int32)), (0, .ref a_m), (5, .int x5_w72), (6, .int x6_w72), (7, .int x7_w72)] := hl
        refine lv_iconst (v := (0 : Int32)) hx hb d_M_pack_82 (by decide) ?_
        refine lv_istore hx hb d_M_pack_83 hl (by decide) rfl (fun ls hl => ?_)
        have hl : lv_has ls 12 [(9, .int (0 : Int32)), (8, .int (0 : Int32)), (0, .ref a_m), (5, .int x5_w72), (6, .int x6_w72), (7, .int x7_w72)] := hl
        refine lv_iconst (v := (0 : Int32)) hx hb d_M_pack_85 (by decide) ?_
        refine lv_istore hx hb d_M_pack_86 hl (by decide) rfl (fun ls hl => ?_)
        have hl : lv_has ls 12 [(10, .int (0 : Int32)), (9, .int (0 : Int32)), (8, .int (0 : Int32)), (0, .ref a_m), (5, .int x5_w72), (6, .int x6_w72), (7, .int x7_w72)] := hl
        have L88 : ∀ (K88 : Int32 → Int32 → Int32 → Option (Int32 × (Nat → Int32) × (Nat → Int32))) (fuel : Nat) (x8_w88 : Int32) (x9_w88 : Int32) (x10_w88 : Int32) (ls : Array Slot) (H : Heap) (locs : List Loc), lv_has ls 12 [(0, .ref a_m), (5, .int x5_w72), (6, .int x6_w72), (7, .int x7_w72), (8, .int x8_w88), (9, .int x9_w88), (10, .int x10_w88)] → va_P (dC, dI) classes [(a_m, .inr (5, [.int mSegs, .ref a_ms, .ref a_mf, .ref a_mv, .int mOpen, .ref a_mc, .ref a_mb, .ref a_mz, .ref a_mu, .ref a_mi, .ref a_mr, .ref a_mh, .ref a_ml, .ref a_ma, .int mLast, .ref a_mk, .int mKLast, .int mKOpen, .int mKFill, .int mNumber, .int mDown, .int mArmed, .int mLeft, .int mWritten, .ref a_my, .ref a_mo, .int mFSize])), (a_my, .inl (cI, 16, .inl mByt_k3)), (a_mo, .inl (cI, 24, .inl mFrm_w72))] H → va_D A [(a_m, .inr (5, [.int mSegs, .ref a_ms, .ref a_mf, .ref a_mv, .int mOpen, .ref a_mc, .ref a_mb, .ref a_mz, .ref a_mu, .ref a_mi, .ref a_mr, .ref a_mh, .ref a_ml, .ref a_ma, .int mLast, .ref a_mk, .int mKLast, .int mKOpen, .int mKFill, .int mNumber, .int mDown, .int mArmed, .int mLeft, .int mWritten, .ref a_my, .ref a_mo, .int mFSize])), (a_my, .inl (cI, 16, .inl mByt_k3)), (a_mo, .inl (cI, 24, .inl mFrm_w72))] → va_S A s.heap H locs → M_pack_L88 mByt_k3 x7_w72 K88 fuel x8_w88 x9_w88 x10_w88 = some res → (∀ (x8_w88 : Int32) (x9_w88 : Int32) (x10_w88 : Int32) (ls : Array Slot) (H : Heap) (locs : List Loc), lv_has ls 12 [(0, .ref a_m), (5, .int x5_w72), (6, .int x6_w72), (7, .int x7_w72), (8, .int x8_w88), (9, .int x9_w88), (10, .int x10_w88)] → va_P (dC, dI) classes [(a_m, .inr (5, [.int mSegs, .ref a_ms, .ref a_mf, .ref a_mv, .int mOpen, .ref a_mc, .ref a_mb, .ref a_mz, .ref a_mu, .ref a_mi, .ref a_mr, .ref a_mh, .ref a_ml, .ref a_ma, .int mLast, .ref a_mk, .int mKLast, .int mKOpen, .int mKFill, .int mNumber, .int mDown, .int mArmed, .int mLeft, .int mWritten, .ref a_my, .ref a_mo, .int mFSize])), (a_my, .inl (cI, 16, .inl mByt_k3)), (a_mo, .inl (cI, 24, .inl mFrm_w72))] H → va_D A [(a_m, .inr (5, [.int mSegs, .ref a_ms, .ref a_mf, .ref a_mv, .int mOpen, .ref a_mc, .ref a_mb, .ref a_mz, .ref a_mu, .ref a_mi, .ref a_mr, .ref a_mh, .ref a_ml, .ref a_ma, .int mLast, .ref a_mk, .int mKLast, .int mKOpen, .int mKFill, .int mNumber, .int mDown, .int mArmed, .int mLeft, .int mWritten, .ref a_my, .ref a_mo, .int mFSize])), (a_my, .inl (cI, 16, .inl mByt_k3)), (a_mo, .inl (cI, 24, .inl mFrm_w72))] → va_S A s.heap H locs → K88 x8_w88 x9_w88 x10_w88 = some res → W p l e (headSpec w_M_pack ({ frames := 1, cells := 0, slots := 0, locals := 23 })).room s m ([.ref a_m, .long x1, .long x3] : List Value).toArray below meth c H locs 0 0 (MQ below (va_Qv (fun (z : Int32 × (Nat → Int32) × (Nat → Int32)) => res = z) (fun (z : Int32 × (Nat → Int32) × (Nat → Int32)) (t : State) => va_P (dC, dI) classes [(a_m, .inr (5, [.int mSegs, .ref a_ms, .ref a_mf, .ref a_mv, .int mOpen, .ref a_mc, .ref a_mb, .ref a_mz, .ref a_mu, .ref a_mi, .ref a_mr, .ref a_mh, .ref a_ml, .ref a_ma, .int mLast, .ref a_mk, .int mKLast, .int mKOpen, .int mKFill, .int mNumber, .int mDown, .int mArmed, .int mLeft, .int mWritten, .ref a_my, .ref a_mo, .int z.1])), (a_my, .inl (cI, 16, .inl z.2.1)), (a_mo, .inl (cI, 24, .inl z.2.2))] t.heap ∧ va_K (dC, dI) classes [(cI, .int), (cZ, .boolean), (cJ, .long)] t ∧ va_D A [(a_m, .inr (5, [.int mSegs, .ref a_ms, .ref a_mf, .ref a_mv, .int mOpen, .ref a_mc, .ref a_mb, .ref a_mz, .ref a_mu, .ref a_mi, .ref a_mr, .ref a_mh, .ref a_ml, .ref a_ma, .int mLast, .ref a_mk, .int mKLast, .int mKOpen, .int mKFill, .int mNumber, .int mDown, .int mArmed, .int mLeft, .int mWritten, .ref a_my, .ref a_mo, .int z.1])), (a_my, .inl (cI, 16, .inl z.2.1)), (a_mo, .inl (cI, 24, .inl z.2.2))]) A) ([.ref a_m, .long x1, .long x3] : List Value).toArray s 0 0 A) (F0 m 126 ls [])) → W p l e (headSpec w_M_pack ({ frames := 1, cells := 0, slots := 0, locals := 23 })).room s m ([.ref a_m, .long x1, .long x3] : List Value).toArray below meth c H locs 0 0 (MQ below (va_Qv (fun (z : Int32 × (Nat → Int32) × (Nat → Int32)) => res = z) (fun (z : Int32 × (Nat → Int32) × (Nat → Int32)) (t : State) => va_P (dC, dI) classes [(a_m, .inr (5, [.int mSegs, .ref a_ms, .ref a_mf, .ref a_mv, .int mOpen, .ref a_mc, .ref a_mb, .ref a_mz, .ref a_mu, .ref a_mi, .ref a_mr, .ref a_mh, .ref a_ml, .ref a_ma, .int mLast, .ref a_mk, .int mKLast, .int mKOpen, .int mKFill, .int mNumber, .int mDown, .int mArmed, .int mLeft, .int mWritten, .ref a_my, .ref a_mo, .int z.1])), (a_my, .inl (cI, 16, .inl z.2.1)), (a_mo, .inl (cI, 24, .inl z.2.2))] t.heap ∧ va_K (dC, dI) classes [(cI, .int), (cZ, .boolean), (cJ, .long)] t ∧ va_D A [(a_m, .inr (5, [.int mSegs, .ref a_ms, .ref a_mf, .ref a_mv, .int mOpen, .ref a_mc, .ref a_mb, .ref a_mz, .ref a_mu, .ref a_mi, .ref a_mr, .ref a_mh, .ref a_ml, .ref a_ma, .int mLast, .ref a_mk, .int mKLast, .int mKOpen, .int mKFill, .int mNumber, .int mDown, .int mArmed, .int mLeft, .int mWritten, .ref a_my, .ref a_mo, .int z.1])), (a_my, .inl (cI, 16, .inl z.2.1)), (a_mo, .inl (cI, 24, .inl z.2.2))]) A) ([.ref a_m, .long x1, .long x3] : List Value).toArray s 0 0 A) (F0 m 88 ls []) := by
          intro K88 fuel
          induction fuel with
          | zero => intro x8_w88 x9_w88 x10_w88 ls H locs hl hP hD hS h hk88; exact absurd (show (none : Option (Int32 × (Nat → Int32) × (Nat → Int32))) = some res from h) (by intro q; cases q)
          | succ fuel ih88 =>
            intro x8_w88 x9_w88 x10_w88 ls H locs hl hP hD hS h hk88
            rw [M_pack_L88] at h
            refine lv_iload hx hb d_M_pack_88 (lv_at hl 6 rfl) ?_
            refine lv_iload hx hb d_M_pack_90 (lv_at hl 3 rfl) ?_
            refine lv_icmp_ge (tgt := 126) hx hb d_M_pack_92 (by decide) (fun hc => ?_) (fun hc => ?_)
            · have h := ck_t hc h
              have hl : lv_has ls 12 [(0, .ref a_m), (5, .int x5_w72), (6, .int x6_w72), (7, .int x7_w72), (8, .int x8_w88), (9, .int x9_w88), (10, .int x10_w88)] := lv_sub hl [0, 1, 2, 3, 4, 5, 6] rfl
              exact hk88 _ _ _ _ _ _ hl hP hD hS h
            · have h := ck_f hc h
              refine lv_aload_n hx hb d_M_pack_95 rfl (lv_at hl 0 rfl) ?_
              refine lv_iload hx hb d_M_pack_96 (lv_at hl 6 rfl) ?_
              refine lv_iload hx hb d_M_pack_98 (lv_at hl 3 rfl) ?_
              obtain ⟨z1, hz, h⟩ := ck_bind h
              have hPc := hP.sub (ws' := [(a_m, .inr (5, [.int mSegs, .ref a_ms, .ref a_mf, .ref a_mv, .int mOpen, .ref a_mc, .ref a_mb, .ref a_mz, .ref a_mu, .ref a_mi, .ref a_mr, .ref a_mh, .ref a_ml, .ref a_ma, .int mLast, .ref a_mk, .int mKLast, .int mKOpen, .int mKFill, .int mNumber, .int mDown, .int mArmed, .int mLeft, .int mWritten, .ref a_my, .ref a_mo, .int mFSize])), (a_my, .inl (cI, 16, .inl mByt_k3))]) [0, 1] rfl
              have hDc := hD.sub (ws' := [(a_m, .inr (5, [.int mSegs, .ref a_ms, .ref a_mf, .ref a_mv, .int mOpen, .ref a_mc, .ref a_mb, .ref a_mz, .ref a_mu, .ref a_mi, .ref a_mr, .ref a_mh, .ref a_ml, .ref a_ma, .int mLast, .ref a_mk, .int mKLast, .int mKOpen, .int mKFill, .int mNumber, .int mDown, .int mArmed, .int mLeft, .int mWritten, .ref a_my, .ref a_mo, .int mFSize])), (a_my, .inl (cI, 16, .inl mByt_k3))]) [0, 1] (by decide) rfl
              have hFc := va_free (wc := [(a_m, .inr (5, [.int mSegs, .ref a_ms, .ref a_mf, .ref a_mv, .int mOpen, .ref a_mc, .ref a_mb, .ref a_mz, .ref a_mu, .ref a_mi, .ref a_mr, .ref a_mh, .ref a_ml, .ref a_ma, .int mLast, .ref a_mk, .int mKLast, .int mKOpen, .int mKFill, .int mNumber, .int mDown, .int mArmed, .int mLeft, .int mWritten, .ref a_my, .ref a_mo, .int mFSize])), (a_my, .inl (cI, 16, .inl mByt_k3))]) hD hS hA [0, 1] rfl
              refine va_calli (va_runV (As := [.int x10_w88, .int x7_w72]) (rest := []) ⟨hx, hb, hml, hown, htT⟩ (c_M_alike l dC dI cI cZ cJ a_m a_ms a_mf a_mv a_mc a_mb a_mz a_mu a_mi a_mr a_mh a_ml a_ma a_mk a_my a_mo H.size n N mSegs mOpen mLast mKLast mKOpen mKFill mNumber mDown mArmed mLeft mWritten mFSize mByt_k3 x10_w88 x7_w72 z1 hz) (cwV 2 htT (gV kl_M_63 ki_M_alike ke_M_alike kn_M kc_M_alike) rfl rfl rfl (by decide +kernel) ⟨Nat.le_of_ble_eq_true rfl, Nat.le_of_ble_eq_true rfl⟩) ⟨fun a U g mk q => by obtain ⟨q0, q1, qP, qK, qD, qN⟩ := q; exact ⟨q0, q1, qP, va_K.moved (u := U) (U := U.calling g mk a) (Vm.Alike.refl U.vm) qK, qD, Ns.same (u := U) rfl qN⟩, va_recv (q0 := 0) (q := (R_M, F_M, 27)) hK hP (ci := 5) rfl rfl, fun U hU hW => ⟨rfl, by rw [hU], by rw [hU]; exact hPc, va_K.moved hW.alike hK, hDc.weaken (fun _ _ _ _ => trivial), Ns.warm hW hN⟩⟩ rfl rfl hl.1 rfl (lv_room (Nat.le_of_ble_eq_true rfl)) d_M_pack_100 ⟨(Nat.zero_le _), (Nat.zero_le _)⟩) hS (fun q _ h => hFc q h) hFc (fun r u t H locs ht hvm hw hB hz1 hk1 hS => ?_)
              subst hw
              obtain ⟨hP1, hK1, hD1⟩ := hB
              rw [ht] at hP1
              obtain ⟨hP, hD⟩ := va_join (wr := [(a_mo, .inl (cI, 24, .inl mFrm_w72))]) (w1 := [(a_m, .inr (5, [.int mSegs, .ref a_ms, .ref a_mf, .ref a_mv, .int mOpen, .ref a_mc, .ref a_mb, .ref a_mz, .ref a_mu, .ref a_mi, .ref a_mr, .ref a_mh, .ref a_ml, .ref a_ma, .int mLast, .ref a_mk, .int mKLast, .int mKOpen, .int mKFill, .int mNumber, .int mDown, .int mArmed, .int mLeft, .int mWritten, .ref a_my, .ref a_mo, .int mFSize])), (a_my, .inl (cI, 16, .inl mByt_k3))]) hP hD [0, 1] [2] rfl rfl (by decide) (by decide) hk1 hFc hP1 hD1
              have hP := hP.sub (ws' := [(a_m, .inr (5, [.int mSegs, .ref a_ms, .ref a_mf, .ref a_mv, .int mOpen, .ref a_mc, .ref a_mb, .ref a_mz, .ref a_mu, .ref a_mi, .ref a_mr, .ref a_mh, .ref a_ml, .ref a_ma, .int mLast, .ref a_mk, .int mKLast, .int mKOpen, .int mKFill, .int mNumber, .int mDown, .int mArmed, .int mLeft, .int mWritten, .ref a_my, .ref a_mo, .int mFSize])), (a_my, .inl (cI, 16, .inl mByt_k3)), (a_mo, .inl (cI, 24, .inl mFrm_w72))]) [1, 2, 0] rfl
              have hD := hD.sub (ws' := [(a_m, .inr (5, [.int mSegs, .ref a_ms, .ref a_mf, .ref a_mv, .int mOpen, .ref a_mc, .ref a_mb, .ref a_mz, .ref a_mu, .ref a_mi, .ref a_mr, .ref a_mh, .ref a_ml, .ref a_ma, .int mLast, .ref a_mk, .int mKLast, .int mKOpen, .int mKFill, .int mNumber, .int mDown, .int mArmed, .int mLeft, .int mWritten, .ref a_my, .ref a_mo, .int mFSize])), (a_my, .inl (cI, 16, .inl mByt_k3)), (a_mo, .inl (cI, 24, .inl mFrm_w72))]) [1, 2, 0] (by decide) rfl
              have hP : va_P (dC, dI) classes [(a_m, .inr (5, [.int mSegs, .ref a_ms, .ref a_mf, .ref a_mv, .int mOpen, .ref a_mc, .ref a_mb, .ref a_mz, .ref a_mu, .ref a_mi, .ref a_mr, .ref a_mh, .ref a_ml, .ref a_ma, .int mLast, .ref a_mk, .int mKLast, .int mKOpen, .int mKFill, .int mNumber, .int mDown, .int mArmed, .int mLeft, .int mWritten, .ref a_my, .ref a_mo, .int mFSize])), (a_my, .inl (cI, 16, .inl mByt_k3)), (a_mo, .inl (cI, 24, .inl mFrm_w72))] H := hP
              have hD : va_D A [(a_m, .inr (5, [.int mSegs, .ref a_ms, .ref a_mf, .ref a_mv, .int mOpen, .ref a_mc, .ref a_mb, .ref a_mz, .ref a_mu, .ref a_mi, .ref a_mr, .ref a_mh, .ref a_ml, .ref a_ma, .int mLast, .ref a_mk, .int mKLast, .int mKOpen, .int mKFill, .int mNumber, .int mDown, .int mArmed, .int mLeft, .int mWritten, .ref a_my, .ref a_mo, .int mFSize])), (a_my, .inl (cI, 16, .inl mByt_k3)), (a_mo, .inl (cI, 24, .inl mFrm_w72))] := hD
              refine lv_istore hx hb d_M_pack_103 hl (by decide) rfl (fun ls hl => ?_)
              have hl : lv_has ls 12 [(11, .int z1), (0, .ref a_m), (5, .int x5_w72), (6, .int x6_w72), (7, .int x7_w72), (8, .int x8_w88), (9, .int x9_w88), (10, .int x10_w88)] := hl
              refine lv_iload hx hb d_M_pack_105 (lv_at hl 0 rfl) ?_
              refine lv_iload hx hb d_M_pack_107 (lv_at hl 5 rfl) ?_
              refine lv_icmp_lt (tgt := 120) hx hb d_M_pack_109 (by decide) (fun hc => ?_) (fun hc => ?_)
              · have h := ck_t hc h
                refine lv_iinc (k := 7) (v := (x10_w88 + (1 : Int32))) hx hb d_M_pack_120 hl rfl (congrArg (fun y => x10_w88 + y) (by decide)) (by decide) rfl (fun ls hl => ?_)
                have hl : lv_has ls 12 [(10, .int (x10_w88 + (1 : Int32))), (11, .int z1), (0, .ref a_m), (5, .int x5_w72), (6, .int x6_w72), (7, .int x7_w72), (8, .int x8_w88), (9, .int x9_w88)] := hl
                refine lv_goto (tgt := 88) hx hb d_M_pack_123 (by decide) ?_
                have hl : lv_has ls 12 [(0, .ref a_m), (5, .int x5_w72), (6, .int x6_w72), (7, .int x7_w72), (8, .int x8_w88), (9, .int x9_w88), (10, .int (x10_w88 + (1 : Int32)))] := lv_sub hl [2, 3, 4, 5, 6, 7, 0] rfl
                exact ih88 _ _ _ _ _ _ hl hP hD hS h hk88
              · have h := ck_f hc h
                refine lv_iload hx hb d_M_pack_112 (lv_at hl 0 rfl) ?_
                refine lv_istore hx hb d_M_pack_114 hl (by decide) rfl (fun ls hl => ?_)
                have hl : lv_has ls 12 [(8, .int z1), (11, .int z1), (0, .ref a_m), (5, .int x5_w72), (6, .int x6_w72), (7, .int x7_w72), (9, .int x9_w88), (10, .int x10_w88)] := hl
                refine lv_iload hx hb d_M_pack_116 (lv_at hl 7 rfl) ?_
                refine lv_istore hx hb d_M_pack_118 hl (by decide) rfl (fun ls hl => ?_)
                have hl : lv_has ls 12 [(9, .int x10_w88), (8, .int z1), (11, .int z1), (0, .ref a_m), (5, .int x5_w72), (6, .int x6_w72), (7, .int x7_w72), (10, .int x10_w88)] := hl
                refine lv_iinc (k := 7) (v := (x10_w88 + (1 : Int32))) hx hb d_M_pack_120 hl rfl (congrArg (fun y => x10_w88 + y) (by decide)) (by decide) rfl (fun ls hl => ?_)
                have hl : lv_has ls 12 [(10, .int (x10_w88 + (1 : Int32))), (9, .int x10_w88), (8, .int z1), (11, .int z1), (0, .ref a_m), (5, .int x5_w72), (6, .int x6_w72), (7, .int x7_w72)] := hl
                refine lv_goto (tgt := 88) hx hb d_M_pack_123 (by decide) ?_
                have hl : lv_has ls 12 [(0, .ref a_m), (5, .int x5_w72), (6, .int x6_w72), (7, .int x7_w72), (8, .int z1), (9, .int x10_w88), (10, .int (x10_w88 + (1 : Int32)))] := lv_sub hl [4, 5, 6, 7, 2, 1, 0] rfl
                exact ih88 _ _ _ _ _ _ hl hP hD hS h hk88
        have hl : lv_has ls 12 [(0, .ref a_m), (5, .int x5_w72), (6, .int x6_w72), (7, .int x7_w72), (8, .int (0 : Int32)), (9, .int (0 : Int32)), (10, .int (0 : Int32))] := lv_sub hl [3, 4, 5, 6, 2, 1, 0] rfl
        refine L88 _ _ _ _ _ _ _ _ hl hP hD hS h ?_
        intro x8_k88 x9_k88 x10_k88 ls H locs hl hP hD hS h
        refine lv_iload hx hb d_M_pack_126 (lv_at hl 2 rfl) ?_
        refine lv_iload hx hb d_M_pack_128 (lv_at hl 1 rfl) ?_
        refine lv_isub hx hb d_M_pack_130 ?_
        refine lv_iconst (v := (1 : Int32)) hx hb d_M_pack_131 (by decide) ?_
        refine lv_isub hx hb d_M_pack_132 ?_
        refine lv_istore hx hb d_M_pack_133 hl (by decide) rfl (fun ls hl => ?_)
        have hl : lv_has ls 12 [(10, .int ((x6_w72 - x5_w72) - (1 : Int32))), (0, .ref a_m), (5, .int x5_w72), (6, .int x6_w72), (7, .int x7_w72), (8, .int x8_k88), (9, .int x9_k88)] := hl
        refine lv_iload hx hb d_M_pack_135 (lv_at hl 5 rfl) ?_
        refine lv_iconst (v := (3 : Int32)) hx hb d_M_pack_137 (by decide) ?_
        refine lv_icmp_ge (tgt := 167) hx hb d_M_pack_138 (by decide) (fun hc => ?_) (fun hc => ?_)
        · have h := ck_t hc h
          refine lv_aload_n hx hb d_M_pack_167 rfl (lv_at hl 1 rfl) ?_
          refine va_get (D := (dC, dI)) (ci := 5) (v := .ref a_mo) (C := R_M) (T := F_M) (N := 27) hx hb htT i_M hown hK hP 0 rfl rfl 25 (by decide) (htT _ kf_M_54) (fun _ h9 => h9) rfl d_M_pack_168 ?_
          refine lv_iload hx hb d_M_pack_171 (lv_at hl 3 rfl) ?_
          refine lv_iload hx hb d_M_pack_173 (lv_at hl 4 rfl) ?_
          refine lv_iload hx hb d_M_pack_175 (lv_at hl 6 rfl) ?_
          refine lv_isub hx hb d_M_pack_177 ?_
          obtain ⟨hin, h⟩ := ck_in h
          refine va_iast hx hb hK hP hD hS 2 0 rfl rfl hin d_M_pack_178 (fun H locs hP hD hS => ?_)
          have hP : va_P (dC, dI) classes [(a_m, .inr (5, [.int mSegs, .ref a_ms, .ref a_mf, .ref a_mv, .int mOpen, .ref a_mc, .ref a_mb, .ref a_mz, .ref a_mu, .ref a_mi, .ref a_mr, .ref a_mh, .ref a_ml, .ref a_ma, .int mLast, .ref a_mk, .int mKLast, .int mKOpen, .int mKFill, .int mNumber, .int mDown, .int mArmed, .int mLeft, .int mWritten, .ref a_my, .ref a_mo, .int mFSize])), (a_my, .inl (cI, 16, .inl mByt_k3)), (a_mo, .inl (cI, 24, .inl (upd mFrm_w72 x6_w72.toNatClampNeg (x7_w72 - x9_k88))))] H := hP
          have hD : va_D A [(a_m, .inr (5, [.int mSegs, .ref a_ms, .ref a_mf, .ref a_mv, .int mOpen, .ref a_mc, .ref a_mb, .ref a_mz, .ref a_mu, .ref a_mi, .ref a_mr, .ref a_mh, .ref a_ml, .ref a_ma, .int mLast, .ref a_mk, .int mKLast, .int mKOpen, .int mKFill, .int mNumber, .int mDown, .int mArmed, .int mLeft, .int mWritten, .ref a_my, .ref a_mo, .int mFSize])), (a_my, .inl (cI, 16, .inl mByt_k3)), (a_mo, .inl (cI, 24, .inl (upd mFrm_w72 x6_w72.toNatClampNeg (x7_w72 - x9_k88))))] := hD
          refine lv_iinc (k := 3) (v := (x6_w72 + (1 : Int32))) hx hb d_M_pack_179 hl rfl (congrArg (fun y => x6_w72 + y) (by decide)) (by decide) rfl (fun ls hl => ?_)
          have hl : lv_has ls 12 [(6, .int (x6_w72 + (1 : Int32))), (10, .int ((x6_w72 - x5_w72) - (1 : Int32))), (0, .ref a_m), (5, .int x5_w72), (7, .int x7_w72), (8, .int x8_k88), (9, .int x9_k88)] := hl
          refine lv_iload hx hb d_M_pack_182 (lv_at hl 4 rfl) ?_
          refine lv_iload hx hb d_M_pack_184 (lv_at hl 5 rfl) ?_
          refine lv_iadd hx hb d_M_pack_186 ?_
          refine lv_istore hx hb d_M_pack_187 hl (by decide) rfl (fun ls hl => ?_)
          have hl : lv_has ls 12 [(7, .int (x7_w72 + x8_k88)), (6, .int (x6_w72 + (1 : Int32))), (10, .int ((x6_w72 - x5_w72) - (1 : Int32))), (0, .ref a_m), (5, .int x5_w72), (8, .int x8_k88), (9, .int x9_k88)] := hl
          refine lv_iload hx hb d_M_pack_189 (lv_at hl 5 rfl) ?_
          refine lv_iconst (v := (3 : Int32)) hx hb d_M_pack_191 (by decide) ?_
          refine lv_icmp_ge (tgt := 202) hx hb d_M_pack_192 (by decide) (fun hc => ?_) (fun hc => ?_)
          · have h := ck_t hc h
            refine lv_aload_n hx hb d_M_pack_202 rfl (lv_at hl 3 rfl) ?_
            refine va_get (D := (dC, dI)) (ci := 5) (v := .ref a_mo) (C := R_M) (T := F_M) (N := 27) hx hb htT i_M hown hK hP 0 rfl rfl 25 (by decide) (htT _ kf_M_54) (fun _ h9 => h9) rfl d_M_pack_203 ?_
            refine lv_iload hx hb d_M_pack_206 (lv_at hl 4 rfl) ?_
            refine lv_bipush (v := (16 : Int32)) hx hb d_M_pack_208 (by decide) ?_
            refine lv_iload hx hb d_M_pack_210 (lv_at hl 2 rfl) ?_
            refine lv_imul hx hb d_M_pack_212 ?_
            refine lv_iload hx hb d_M_pack_213 (lv_at hl 5 rfl) ?_
            refine lv_iconst (v := (3 : Int32)) hx hb d_M_pack_215 (by decide) ?_
            refine lv_icmp_ge (tgt := 223) hx hb d_M_pack_216 (by decide) (fun hc => ?_) (fun hc => ?_)
            · have h := ck_t hc h
              refine lv_iload hx hb d_M_pack_223 (lv_at hl 5 rfl) ?_
              refine lv_iconst (v := (2 : Int32)) hx hb d_M_pack_225 (by decide) ?_
              refine lv_isub hx hb d_M_pack_226 ?_
              refine lv_iadd hx hb d_M_pack_227 ?_
              obtain ⟨hin, h⟩ := ck_in h
              refine va_iast hx hb hK hP hD hS 2 0 rfl rfl hin d_M_pack_228 (fun H locs hP hD hS => ?_)
              have hP : va_P (dC, dI) classes [(a_m, .inr (5, [.int mSegs, .ref a_ms, .ref a_mf, .ref a_mv, .int mOpen, .ref a_mc, .ref a_mb, .ref a_mz, .ref a_mu, .ref a_mi, .ref a_mr, .ref a_mh, .ref a_ml, .ref a_ma, .int mLast, .ref a_mk, .int mKLast, .int mKOpen, .int mKFill, .int mNumber, .int mDown, .int mArmed, .int mLeft, .int mWritten, .ref a_my, .ref a_mo, .int mFSize])), (a_my, .inl (cI, 16, .inl mByt_k3)), (a_mo, .inl (cI, 24, .inl (upd (upd mFrm_w72 x6_w72.toNatClampNeg (x7_w72 - x9_k88)) x5_w72.toNatClampNeg (((16 : Int32) * ((x6_w72 - x5_w72) - (1 : Int32))) + (x8_k88 - (2 : Int32))))))] H := hP
              have hD : va_D A [(a_m, .inr (5, [.int mSegs, .ref a_ms, .ref a_mf, .ref a_mv, .int mOpen, .ref a_mc, .ref a_mb, .ref a_mz, .ref a_mu, .ref a_mi, .ref a_mr, .ref a_mh, .ref a_ml, .ref a_ma, .int mLast, .ref a_mk, .int mKLast, .int mKOpen, .int mKFill, .int mNumber, .int mDown, .int mArmed, .int mLeft, .int mWritten, .ref a_my, .ref a_mo, .int mFSize])), (a_my, .inl (cI, 16, .inl mByt_k3)), (a_mo, .inl (cI, 24, .inl (upd (upd mFrm_w72 x6_w72.toNatClampNeg (x7_w72 - x9_k88)) x5_w72.toNatClampNeg (((16 : Int32) * ((x6_w72 - x5_w72) - (1 : Int32))) + (x8_k88 - (2 : Int32))))))] := hD
              refine lv_iload hx hb d_M_pack_229 (lv_at hl 1 rfl) ?_
              refine lv_istore hx hb d_M_pack_231 hl (by decide) rfl (fun ls hl => ?_)
              have hl : lv_has ls 12 [(5, .int (x6_w72 + (1 : Int32))), (7, .int (x7_w72 + x8_k88)), (6, .int (x6_w72 + (1 : Int32))), (10, .int ((x6_w72 - x5_w72) - (1 : Int32))), (0, .ref a_m), (8, .int x8_k88), (9, .int x9_k88)] := hl
              refine lv_iinc (k := 2) (v := ((x6_w72 + (1 : Int32)) + (1 : Int32))) hx hb d_M_pack_233 hl rfl (congrArg (fun y => (x6_w72 + (1 : Int32)) + y) (by decide)) (by decide) rfl (fun ls hl => ?_)
              have hl : lv_has ls 12 [(6, .int ((x6_w72 + (1 : Int32)) + (1 : Int32))), (5, .int (x6_w72 + (1 : Int32))), (7, .int (x7_w72 + x8_k88)), (10, .int ((x6_w72 - x5_w72) - (1 : Int32))), (0, .ref a_m), (8, .int x8_k88), (9, .int x9_k88)] := hl
              refine lv_goto (tgt := 72) hx hb d_M_pack_236 (by decide) ?_
              have hl : lv_has ls 12 [(0, .ref a_m), (5, .int (x6_w72 + (1 : Int32))), (6, .int ((x6_w72 + (1 : Int32)) + (1 : Int32))), (7, .int (x7_w72 + x8_k88))] := lv_sub hl [4, 1, 0, 2] rfl
              exact ih72 _ _ _ _ _ _ _ hl hP hD hS h hk72
            · have h := ck_f hc h
              refine lv_iconst (v := (0 : Int32)) hx hb d_M_pack_219 (by decide) ?_
              refine lv_goto (tgt := 227) hx hb d_M_pack_220 (by decide) ?_
              refine lv_iadd hx hb d_M_pack_227 ?_
              obtain ⟨hin, h⟩ := ck_in h
              refine va_iast hx hb hK hP hD hS 2 0 rfl rfl hin d_M_pack_228 (fun H locs hP hD hS => ?_)
              have hP : va_P (dC, dI) classes [(a_m, .inr (5, [.int mSegs, .ref a_ms, .ref a_mf, .ref a_mv, .int mOpen, .ref a_mc, .ref a_mb, .ref a_mz, .ref a_mu, .ref a_mi, .ref a_mr, .ref a_mh, .ref a_ml, .ref a_ma, .int mLast, .ref a_mk, .int mKLast, .int mKOpen, .int mKFill, .int mNumber, .int mDown, .int mArmed, .int mLeft, .int mWritten, .ref a_my, .ref a_mo, .int mFSize])), (a_my, .inl (cI, 16, .inl mByt_k3)), (a_mo, .inl (cI, 24, .inl (upd (upd mFrm_w72 x6_w72.toNatClampNeg (x7_w72 - x9_k88)) x5_w72.toNatClampNeg (((16 : Int32) * ((x6_w72 - x5_w72) - (1 : Int32))) + (0 : Int32)))))] H := hP
              have hD : va_D A [(a_m, .inr (5, [.int mSegs, .ref a_ms, .ref a_mf, .ref a_mv, .int mOpen, .ref a_mc, .ref a_mb, .ref a_mz, .ref a_mu, .ref a_mi, .ref a_mr, .ref a_mh, .ref a_ml, .ref a_ma, .int mLast, .ref a_mk, .int mKLast, .int mKOpen, .int mKFill, .int mNumber, .int mDown, .int mArmed, .int mLeft, .int mWritten, .ref a_my, .ref a_mo, .int mFSize])), (a_my, .inl (cI, 16, .inl mByt_k3)), (a_mo, .inl (cI, 24, .inl (upd (upd mFrm_w72 x6_w72.toNatClampNeg (x7_w72 - x9_k88)) x5_w72.toNatClampNeg (((16 : Int32) * ((x6_w72 - x5_w72) - (1 : Int32))) + (0 : Int32)))))] := hD
              refine lv_iload hx hb d_M_pack_229 (lv_at hl 1 rfl) ?_
              refine lv_istore hx hb d_M_pack_231 hl (by decide) rfl (fun ls hl => ?_)
              have hl : lv_has ls 12 [(5, .int (x6_w72 + (1 : Int32))), (7, .int (x7_w72 + x8_k88)), (6, .int (x6_w72 + (1 : Int32))), (10, .int ((x6_w72 - x5_w72) - (1 : Int32))), (0, .ref a_m), (8, .int x8_k88), (9, .int x9_k88)] := hl
              refine lv_iinc (k := 2) (v := ((x6_w72 + (1 : Int32)) + (1 : Int32))) hx hb d_M_pack_233 hl rfl (congrArg (fun y => (x6_w72 + (1 : Int32)) + y) (by decide)) (by decide) rfl (fun ls hl => ?_)
              have hl : lv_has ls 12 [(6, .int ((x6_w72 + (1 : Int32)) + (1 : Int32))), (5, .int (x6_w72 + (1 : Int32))), (7, .int (x7_w72 + x8_k88)), (10, .int ((x6_w72 - x5_w72) - (1 : Int32))), (0, .ref a_m), (8, .int x8_k88), (9, .int x9_k88)] := hl
              refine lv_goto (tgt := 72) hx hb d_M_pack_236 (by decide) ?_
              have hl : lv_has ls 12 [(0, .ref a_m), (5, .int (x6_w72 + (1 : Int32))), (6, .int ((x6_w72 + (1 : Int32)) + (1 : Int32))), (7, .int (x7_w72 + x8_k88))] := lv_sub hl [4, 1, 0, 2] rfl
              exact ih72 _ _ _ _ _ _ _ hl hP hD hS h hk72
          · have h := ck_f hc h
            refine lv_iload hx hb d_M_pack_195 (lv_at hl 2 rfl) ?_
            refine lv_bipush (v := (15 : Int32)) hx hb d_M_pack_197 (by decide) ?_
            refine lv_icmp_ne (tgt := 236) hx hb d_M_pack_199 (by decide) (fun hc => ?_) (fun hc => ?_)
            · have h := ck_f hc h
              refine lv_goto (tgt := 72) hx hb d_M_pack_236 (by decide) ?_
              have hl : lv_has ls 12 [(0, .ref a_m), (5, .int x5_w72), (6, .int (x6_w72 + (1 : Int32))), (7, .int (x7_w72 + x8_k88))] := lv_sub hl [3, 4, 1, 0] rfl
              exact ih72 _ _ _ _ _ _ _ hl hP hD hS h hk72
            · have h := ck_t hc h
              refine lv_aload_n hx hb d_M_pack_202 rfl (lv_at hl 3 rfl) ?_
              refine va_get (D := (dC, dI)) (ci := 5) (v := .ref a_mo) (C := R_M) (T := F_M) (N := 27) hx hb htT i_M hown hK hP 0 rfl rfl 25 (by decide) (htT _ kf_M_54) (fun _ h9 => h9) rfl d_M_pack_203 ?_
              refine lv_iload hx hb d_M_pack_206 (lv_at hl 4 rfl) ?_
              refine lv_bipush (v := (16 : Int32)) hx hb d_M_pack_208 (by decide) ?_
              refine lv_iload hx hb d_M_pack_210 (lv_at hl 2 rfl) ?_
              refine lv_imul hx hb d_M_pack_212 ?_
              refine lv_iload hx hb d_M_pack_213 (lv_at hl 5 rfl) ?_
              refine lv_iconst (v := (3 : Int32)) hx hb d_M_pack_215 (by decide) ?_
              refine lv_icmp_ge (tgt := 223) hx hb d_M_pack_216 (by decide) (fun hc => ?_) (fun hc => ?_)
              · have h := ck_t hc h
                refine lv_iload hx hb d_M_pack_223 (lv_at hl 5 rfl) ?_
                refine lv_iconst (v := (2 : Int32)) hx hb d_M_pack_225 (by decide) ?_
                refine lv_isub hx hb d_M_pack_226 ?_
                refine lv_iadd hx hb d_M_pack_227 ?_
                obtain ⟨hin, h⟩ := ck_in h
                refine va_iast hx hb hK hP hD hS 2 0 rfl rfl hin d_M_pack_228 (fun H locs hP hD hS => ?_)
                have hP : va_P (dC, dI) classes [(a_m, .inr (5, [.int mSegs, .ref a_ms, .ref a_mf, .ref a_mv, .int mOpen, .ref a_mc, .ref a_mb, .ref a_mz, .ref a_mu, .ref a_mi, .ref a_mr, .ref a_mh, .ref a_ml, .ref a_ma, .int mLast, .ref a_mk, .int mKLast, .int mKOpen, .int mKFill, .int mNumber, .int mDown, .int mArmed, .int mLeft, .int mWritten, .ref a_my, .ref a_mo, .int mFSize])), (a_my, .inl (cI, 16, .inl mByt_k3)), (a_mo, .inl (cI, 24, .inl (upd (upd mFrm_w72 x6_w72.toNatClampNeg (x7_w72 - x9_k88)) x5_w72.toNatClampNeg (((16 : Int32) * ((x6_w72 - x5_w72) - (1 : Int32))) + (x8_k88 - (2 : Int32))))))] H := hP
                have hD : va_D A [(a_m, .inr (5, [.int mSegs, .ref a_ms, .ref a_mf, .ref a_mv, .int mOpen, .ref a_mc, .ref a_mb, .ref a_mz, .ref a_mu, .ref a_mi, .ref a_mr, .ref a_mh, .ref a_ml, .ref a_ma, .int mLast, .ref a_mk, .int mKLast, .int mKOpen, .int mKFill, .int mNumber, .int mDown, .int mArmed, .int mLeft, .int mWritten, .ref a_my, .ref a_mo, .int mFSize])), (a_my, .inl (cI, 16, .inl mByt_k3)), (a_mo, .inl (cI, 24, .inl (upd (upd mFrm_w72 x6_w72.toNatClampNeg (x7_w72 - x9_k88)) x5_w72.toNatClampNeg (((16 : Int32) * ((x6_w72 - x5_w72) - (1 : Int32))) + (x8_k88 - (2 : Int32))))))] := hD
                refine lv_iload hx hb d_M_pack_229 (lv_at hl 1 rfl) ?_
                refine lv_istore hx hb d_M_pack_231 hl (by decide) rfl (fun ls hl => ?_)
                have hl : lv_has ls 12 [(5, .int (x6_w72 + (1 : Int32))), (7, .int (x7_w72 + x8_k88)), (6, .int (x6_w72 + (1 : Int32))), (10, .int ((x6_w72 - x5_w72) - (1 : Int32))), (0, .ref a_m), (8, .int x8_k88), (9, .int x9_k88)] := hl
                refine lv_iinc (k := 2) (v := ((x6_w72 + (1 : Int32)) + (1 : Int32))) hx hb d_M_pack_233 hl rfl (congrArg (fun y => (x6_w72 + (1 : Int32)) + y) (by decide)) (by decide) rfl (fun ls hl => ?_)
                have hl : lv_has ls 12 [(6, .int ((x6_w72 + (1 : Int32)) + (1 : Int32))), (5, .int (x6_w72 + (1 : Int32))), (7, .int (x7_w72 + x8_k88)), (10, .int ((x6_w72 - x5_w72) - (1 : Int32))), (0, .ref a_m), (8, .int x8_k88), (9, .int x9_k88)] := hl
                refine lv_goto (tgt := 72) hx hb d_M_pack_236 (by decide) ?_
                have hl : lv_has ls 12 [(0, .ref a_m), (5, .int (x6_w72 + (1 : Int32))), (6, .int ((x6_w72 + (1 : Int32)) + (1 : Int32))), (7, .int (x7_w72 + x8_k88))] := lv_sub hl [4, 1, 0, 2] rfl
                exact ih72 _ _ _ _ _ _ _ hl hP hD hS h hk72
              · have h := ck_f hc h
                refine lv_iconst (v := (0 : Int32)) hx hb d_M_pack_219 (by decide) ?_
                refine lv_goto (tgt := 227) hx hb d_M_pack_220 (by decide) ?_
                refine lv_iadd hx hb d_M_pack_227 ?_
                obtain ⟨hin, h⟩ := ck_in h
                refine va_iast hx hb hK hP hD hS 2 0 rfl rfl hin d_M_pack_228 (fun H locs hP hD hS => ?_)
                have hP : va_P (dC, dI) classes [(a_m, .inr (5, [.int mSegs, .ref a_ms, .ref a_mf, .ref a_mv, .int mOpen, .ref a_mc, .ref a_mb, .ref a_mz, .ref a_mu, .ref a_mi, .ref a_mr, .ref a_mh, .ref a_ml, .ref a_ma, .int mLast, .ref a_mk, .int mKLast, .int mKOpen, .int mKFill, .int mNumber, .int mDown, .int mArmed, .int mLeft, .int mWritten, .ref a_my, .ref a_mo, .int mFSize])), (a_my, .inl (cI, 16, .inl mByt_k3)), (a_mo, .inl (cI, 24, .inl (upd (upd mFrm_w72 x6_w72.toNatClampNeg (x7_w72 - x9_k88)) x5_w72.toNatClampNeg (((16 : Int32) * ((x6_w72 - x5_w72) - (1 : Int32))) + (0 : Int32)))))] H := hP
                have hD : va_D A [(a_m, .inr (5, [.int mSegs, .ref a_ms, .ref a_mf, .ref a_mv, .int mOpen, .ref a_mc, .ref a_mb, .ref a_mz, .ref a_mu, .ref a_mi, .ref a_mr, .ref a_mh, .ref a_ml, .ref a_ma, .int mLast, .ref a_mk, .int mKLast, .int mKOpen, .int mKFill, .int mNumber, .int mDown, .int mArmed, .int mLeft, .int mWritten, .ref a_my, .ref a_mo, .int mFSize])), (a_my, .inl (cI, 16, .inl mByt_k3)), (a_mo, .inl (cI, 24, .inl (upd (upd mFrm_w72 x6_w72.toNatClampNeg (x7_w72 - x9_k88)) x5_w72.toNatClampNeg (((16 : Int32) * ((x6_w72 - x5_w72) - (1 : Int32))) + (0 : Int32)))))] := hD
                refine lv_iload hx hb d_M_pack_229 (lv_at hl 1 rfl) ?_
                refine lv_istore hx hb d_M_pack_231 hl (by decide) rfl (fun ls hl => ?_)
                have hl : lv_has ls 12 [(5, .int (x6_w72 + (1 : Int32))), (7, .int (x7_w72 + x8_k88)), (6, .int (x6_w72 + (1 : Int32))), (10, .int ((x6_w72 - x5_w72) - (1 : Int32))), (0, .ref a_m), (8, .int x8_k88), (9, .int x9_k88)] := hl
                refine lv_iinc (k := 2) (v := ((x6_w72 + (1 : Int32)) + (1 : Int32))) hx hb d_M_pack_233 hl rfl (congrArg (fun y => (x6_w72 + (1 : Int32)) + y) (by decide)) (by decide) rfl (fun ls hl => ?_)
                have hl : lv_has ls 12 [(6, .int ((x6_w72 + (1 : Int32)) + (1 : Int32))), (5, .int (x6_w72 + (1 : Int32))), (7, .int (x7_w72 + x8_k88)), (10, .int ((x6_w72 - x5_w72) - (1 : Int32))), (0, .ref a_m), (8, .int x8_k88), (9, .int x9_k88)] := hl
                refine lv_goto (tgt := 72) hx hb d_M_pack_236 (by decide) ?_
                have hl : lv_has ls 12 [(0, .ref a_m), (5, .int (x6_w72 + (1 : Int32))), (6, .int ((x6_w72 + (1 : Int32)) + (1 : Int32))), (7, .int (x7_w72 + x8_k88))] := lv_sub hl [4, 1, 0, 2] rfl
                exact ih72 _ _ _ _ _ _ _ hl hP hD hS h hk72
        · have h := ck_f hc h
          refine lv_aload_n hx hb d_M_pack_141 rfl (lv_at hl 1 rfl) ?_
          refine va_get (D := (dC, dI)) (ci := 5) (v := .ref a_mo) (C := R_M) (T := F_M) (N := 27) hx hb htT i_M hown hK hP 0 rfl rfl 25 (by decide) (htT _ kf_M_54) (fun _ h9 => h9) rfl d_M_pack_142 ?_
          refine lv_iload hx hb d_M_pack_145 (lv_at hl 3 rfl) ?_
          refine lv_aload_n hx hb d_M_pack_147 rfl (lv_at hl 1 rfl) ?_
          refine va_get (D := (dC, dI)) (ci := 5) (v := .ref a_my) (C := R_M) (T := F_M) (N := 27) hx hb htT i_M hown hK hP 0 rfl rfl 24 (by decide) (htT _ kf_M_51) (fun _ h9 => h9) rfl d_M_pack_148 ?_
          refine lv_iload hx hb d_M_pack_151 (lv_at hl 4 rfl) ?_
          obtain ⟨hin, h⟩ := ck_in h
          refine va_iald hx hb hK hP 1 0 rfl rfl hin d_M_pack_153 ?_
          obtain ⟨hin, h⟩ := ck_in h
          refine va_iast hx hb hK hP hD hS 2 0 rfl rfl hin d_M_pack_154 (fun H locs hP hD hS => ?_)
          have hP : va_P (dC, dI) classes [(a_m, .inr (5, [.int mSegs, .ref a_ms, .ref a_mf, .ref a_mv, .int mOpen, .ref a_mc, .ref a_mb, .ref a_mz, .ref a_mu, .ref a_mi, .ref a_mr, .ref a_mh, .ref a_ml, .ref a_ma, .int mLast, .ref a_mk, .int mKLast, .int mKOpen, .int mKFill, .int mNumber, .int mDown, .int mArmed, .int mLeft, .int mWritten, .ref a_my, .ref a_mo, .int mFSize])), (a_my, .inl (cI, 16, .inl mByt_k3)), (a_mo, .inl (cI, 24, .inl (upd mFrm_w72 x6_w72.toNatClampNeg (mByt_k3 x7_w72.toNatClampNeg))))] H := hP
          have hD : va_D A [(a_m, .inr (5, [.int mSegs, .ref a_ms, .ref a_mf, .ref a_mv, .int mOpen, .ref a_mc, .ref a_mb, .ref a_mz, .ref a_mu, .ref a_mi, .ref a_mr, .ref a_mh, .ref a_ml, .ref a_ma, .int mLast, .ref a_mk, .int mKLast, .int mKOpen, .int mKFill, .int mNumber, .int mDown, .int mArmed, .int mLeft, .int mWritten, .ref a_my, .ref a_mo, .int mFSize])), (a_my, .inl (cI, 16, .inl mByt_k3)), (a_mo, .inl (cI, 24, .inl (upd mFrm_w72 x6_w72.toNatClampNeg (mByt_k3 x7_w72.toNatClampNeg))))] := hD
          refine lv_iinc (k := 3) (v := (x6_w72 + (1 : Int32))) hx hb d_M_pack_155 hl rfl (congrArg (fun y => x6_w72 + y) (by decide)) (by decide) rfl (fun ls hl => ?_)
          have hl : lv_has ls 12 [(6, .int (x6_w72 + (1 : Int32))), (10, .int ((x6_w72 - x5_w72) - (1 : Int32))), (0, .ref a_m), (5, .int x5_w72), (7, .int x7_w72), (8, .int x8_k88), (9, .int x9_k88)] := hl
          refine lv_iinc (k := 4) (v := (x7_w72 + (1 : Int32))) hx hb d_M_pack_158 hl rfl (congrArg (fun y => x7_w72 + y) (by decide)) (by decide) rfl (fun ls hl => ?_)
          have hl : lv_has ls 12 [(7, .int (x7_w72 + (1 : Int32))), (6, .int (x6_w72 + (1 : Int32))), (10, .int ((x6_w72 - x5_w72) - (1 : Int32))), (0, .ref a_m), (5, .int x5_w72), (8, .int x8_k88), (9, .int x9_k88)] := hl
          refine lv_iinc (k := 2) (v := (((x6_w72 - x5_w72) - (1 : Int32)) + (1 : Int32))) hx hb d_M_pack_161 hl rfl (congrArg (fun y => ((x6_w72 - x5_w72) - (1 : Int32)) + y) (by decide)) (by decide) rfl (fun ls hl => ?_)
          have hl : lv_has ls 12 [(10, .int (((x6_w72 - x5_w72) - (1 : Int32)) + (1 : Int32))), (7, .int (x7_w72 + (1 : Int32))), (6, .int (x6_w72 + (1 : Int32))), (0, .ref a_m), (5, .int x5_w72), (8, .int x8_k88), (9, .int x9_k88)] := hl
          refine lv_goto (tgt := 189) hx hb d_M_pack_164 (by decide) ?_
          refine lv_iload hx hb d_M_pack_189 (lv_at hl 5 rfl) ?_
          refine lv_iconst (v := (3 : Int32)) hx hb d_M_pack_191 (by decide) ?_
          refine lv_icmp_ge (tgt := 202) hx hb d_M_pack_192 (by decide) (fun hc => ?_) (fun hc => ?_)
          · have h := ck_t hc h
            refine lv_aload_n hx hb d_M_pack_202 rfl (lv_at hl 3 rfl) ?_
            refine va_get (D := (dC, dI)) (ci := 5) (v := .ref a_mo) (C := R_M) (T := F_M) (N := 27) hx hb htT i_M hown hK hP 0 rfl rfl 25 (by decide) (htT _ kf_M_54) (fun _ h9 => h9) rfl d_M_pack_203 ?_
            refine lv_iload hx hb d_M_pack_206 (lv_at hl 4 rfl) ?_
            refine lv_bipush (v := (16 : Int32)) hx hb d_M_pack_208 (by decide) ?_
            refine lv_iload hx hb d_M_pack_210 (lv_at hl 0 rfl) ?_
            refine lv_imul hx hb d_M_pack_212 ?_
            refine lv_iload hx hb d_M_pack_213 (lv_at hl 5 rfl) ?_
            refine lv_iconst (v := (3 : Int32)) hx hb d_M_pack_215 (by decide) ?_
            refine lv_icmp_ge (tgt := 223) hx hb d_M_pack_216 (by decide) (fun hc => ?_) (fun hc => ?_)
            · have h := ck_t hc h
              refine lv_iload hx hb d_M_pack_223 (lv_at hl 5 rfl) ?_
              refine lv_iconst (v := (2 : Int32)) hx hb d_M_pack_225 (by decide) ?_
              refine lv_isub hx hb d_M_pack_226 ?_
              refine lv_iadd hx hb d_M_pack_227 ?_
              obtain ⟨hin, h⟩ := ck_in h
              refine va_iast hx hb hK hP hD hS 2 0 rfl rfl hin d_M_pack_228 (fun H locs hP hD hS => ?_)
              have hP : va_P (dC, dI) classes [(a_m, .inr (5, [.int mSegs, .ref a_ms, .ref a_mf, .ref a_mv, .int mOpen, .ref a_mc, .ref a_mb, .ref a_mz, .ref a_mu, .ref a_mi, .ref a_mr, .ref a_mh, .ref a_ml, .ref a_ma, .int mLast, .ref a_mk, .int mKLast, .int mKOpen, .int mKFill, .int mNumber, .int mDown, .int mArmed, .int mLeft, .int mWritten, .ref a_my, .ref a_mo, .int mFSize])), (a_my, .inl (cI, 16, .inl mByt_k3)), (a_mo, .inl (cI, 24, .inl (upd (upd mFrm_w72 x6_w72.toNatClampNeg (mByt_k3 x7_w72.toNatClampNeg)) x5_w72.toNatClampNeg (((16 : Int32) * (((x6_w72 - x5_w72) - (1 : Int32)) + (1 : Int32))) + (x8_k88 - (2 : Int32))))))] H := hP
              have hD : va_D A [(a_m, .inr (5, [.int mSegs, .ref a_ms, .ref a_mf, .ref a_mv, .int mOpen, .ref a_mc, .ref a_mb, .ref a_mz, .ref a_mu, .ref a_mi, .ref a_mr, .ref a_mh, .ref a_ml, .ref a_ma, .int mLast, .ref a_mk, .int mKLast, .int mKOpen, .int mKFill, .int mNumber, .int mDown, .int mArmed, .int mLeft, .int mWritten, .ref a_my, .ref a_mo, .int mFSize])), (a_my, .inl (cI, 16, .inl mByt_k3)), (a_mo, .inl (cI, 24, .inl (upd (upd mFrm_w72 x6_w72.toNatClampNeg (mByt_k3 x7_w72.toNatClampNeg)) x5_w72.toNatClampNeg (((16 : Int32) * (((x6_w72 - x5_w72) - (1 : Int32)) + (1 : Int32))) + (x8_k88 - (2 : Int32))))))] := hD
              refine lv_iload hx hb d_M_pack_229 (lv_at hl 2 rfl) ?_
              refine lv_istore hx hb d_M_pack_231 hl (by decide) rfl (fun ls hl => ?_)
              have hl : lv_has ls 12 [(5, .int (x6_w72 + (1 : Int32))), (10, .int (((x6_w72 - x5_w72) - (1 : Int32)) + (1 : Int32))), (7, .int (x7_w72 + (1 : Int32))), (6, .int (x6_w72 + (1 : Int32))), (0, .ref a_m), (8, .int x8_k88), (9, .int x9_k88)] := hl
              refine lv_iinc (k := 3) (v := ((x6_w72 + (1 : Int32)) + (1 : Int32))) hx hb d_M_pack_233 hl rfl (congrArg (fun y => (x6_w72 + (1 : Int32)) + y) (by decide)) (by decide) rfl (fun ls hl => ?_)
              have hl : lv_has ls 12 [(6, .int ((x6_w72 + (1 : Int32)) + (1 : Int32))), (5, .int (x6_w72 + (1 : Int32))), (10, .int (((x6_w72 - x5_w72) - (1 : Int32)) + (1 : Int32))), (7, .int (x7_w72 + (1 : Int32))), (0, .ref a_m), (8, .int x8_k88), (9, .int x9_k88)] := hl
              refine lv_goto (tgt := 72) hx hb d_M_pack_236 (by decide) ?_
              have hl : lv_has ls 12 [(0, .ref a_m), (5, .int (x6_w72 + (1 : Int32))), (6, .int ((x6_w72 + (1 : Int32)) + (1 : Int32))), (7, .int (x7_w72 + (1 : Int32)))] := lv_sub hl [4, 1, 0, 3] rfl
              exact ih72 _ _ _ _ _ _ _ hl hP hD hS h hk72
            · have h := ck_f hc h
              refine lv_iconst (v := (0 : Int32)) hx hb d_M_pack_219 (by decide) ?_
              refine lv_goto (tgt := 227) hx hb d_M_pack_220 (by decide) ?_
              refine lv_iadd hx hb d_M_pack_227 ?_
              obtain ⟨hin, h⟩ := ck_in h
              refine va_iast hx hb hK hP hD hS 2 0 rfl rfl hin d_M_pack_228 (fun H locs hP hD hS => ?_)
              have hP : va_P (dC, dI) classes [(a_m, .inr (5, [.int mSegs, .ref a_ms, .ref a_mf, .ref a_mv, .int mOpen, .ref a_mc, .ref a_mb, .ref a_mz, .ref a_mu, .ref a_mi, .ref a_mr, .ref a_mh, .ref a_ml, .ref a_ma, .int mLast, .ref a_mk, .int mKLast, .int mKOpen, .int mKFill, .int mNumber, .int mDown, .int mArmed, .int mLeft, .int mWritten, .ref a_my, .ref a_mo, .int mFSize])), (a_my, .inl (cI, 16, .inl mByt_k3)), (a_mo, .inl (cI, 24, .inl (upd (upd mFrm_w72 x6_w72.toNatClampNeg (mByt_k3 x7_w72.toNatClampNeg)) x5_w72.toNatClampNeg (((16 : Int32) * (((x6_w72 - x5_w72) - (1 : Int32)) + (1 : Int32))) + (0 : Int32)))))] H := hP
              have hD : va_D A [(a_m, .inr (5, [.int mSegs, .ref a_ms, .ref a_mf, .ref a_mv, .int mOpen, .ref a_mc, .ref a_mb, .ref a_mz, .ref a_mu, .ref a_mi, .ref a_mr, .ref a_mh, .ref a_ml, .ref a_ma, .int mLast, .ref a_mk, .int mKLast, .int mKOpen, .int mKFill, .int mNumber, .int mDown, .int mArmed, .int mLeft, .int mWritten, .ref a_my, .ref a_mo, .int mFSize])), (a_my, .inl (cI, 16, .inl mByt_k3)), (a_mo, .inl (cI, 24, .inl (upd (upd mFrm_w72 x6_w72.toNatClampNeg (mByt_k3 x7_w72.toNatClampNeg)) x5_w72.toNatClampNeg (((16 : Int32) * (((x6_w72 - x5_w72) - (1 : Int32)) + (1 : Int32))) + (0 : Int32)))))] := hD
              refine lv_iload hx hb d_M_pack_229 (lv_at hl 2 rfl) ?_
              refine lv_istore hx hb d_M_pack_231 hl (by decide) rfl (fun ls hl => ?_)
              have hl : lv_has ls 12 [(5, .int (x6_w72 + (1 : Int32))), (10, .int (((x6_w72 - x5_w72) - (1 : Int32)) + (1 : Int32))), (7, .int (x7_w72 + (1 : Int32))), (6, .int (x6_w72 + (1 : Int32))), (0, .ref a_m), (8, .int x8_k88), (9, .int x9_k88)] := hl
              refine lv_iinc (k := 3) (v := ((x6_w72 + (1 : Int32)) + (1 : Int32))) hx hb d_M_pack_233 hl rfl (congrArg (fun y => (x6_w72 + (1 : Int32)) + y) (by decide)) (by decide) rfl (fun ls hl => ?_)
              have hl : lv_has ls 12 [(6, .int ((x6_w72 + (1 : Int32)) + (1 : Int32))), (5, .int (x6_w72 + (1 : Int32))), (10, .int (((x6_w72 - x5_w72) - (1 : Int32)) + (1 : Int32))), (7, .int (x7_w72 + (1 : Int32))), (0, .ref a_m), (8, .int x8_k88), (9, .int x9_k88)] := hl
              refine lv_goto (tgt := 72) hx hb d_M_pack_236 (by decide) ?_
              have hl : lv_has ls 12 [(0, .ref a_m), (5, .int (x6_w72 + (1 : Int32))), (6, .int ((x6_w72 + (1 : Int32)) + (1 : Int32))), (7, .int (x7_w72 + (1 : Int32)))] := lv_sub hl [4, 1, 0, 3] rfl
              exact ih72 _ _ _ _ _ _ _ hl hP hD hS h hk72
          · have h := ck_f hc h
            refine lv_iload hx hb d_M_pack_195 (lv_at hl 0 rfl) ?_
            refine lv_bipush (v := (15 : Int32)) hx hb d_M_pack_197 (by decide) ?_
            refine lv_icmp_ne (tgt := 236) hx hb d_M_pack_199 (by decide) (fun hc => ?_) (fun hc => ?_)
            · have h := ck_f hc h
              refine lv_goto (tgt := 72) hx hb d_M_pack_236 (by decide) ?_
              have hl : lv_has ls 12 [(0, .ref a_m), (5, .int x5_w72), (6, .int (x6_w72 + (1 : Int32))), (7, .int (x7_w72 + (1 : Int32)))] := lv_sub hl [3, 4, 2, 1] rfl
              exact ih72 _ _ _ _ _ _ _ hl hP hD hS h hk72
            · have h := ck_t hc h
              refine lv_aload_n hx hb d_M_pack_202 rfl (lv_at hl 3 rfl) ?_
              refine va_get (D := (dC, dI)) (ci := 5) (v := .ref a_mo) (C := R_M) (T := F_M) (N := 27) hx hb htT i_M hown hK hP 0 rfl rfl 25 (by decide) (htT _ kf_M_54) (fun _ h9 => h9) rfl d_M_pack_203 ?_
              refine lv_iload hx hb d_M_pack_206 (lv_at hl 4 rfl) ?_
              refine lv_bipush (v := (16 : Int32)) hx hb d_M_pack_208 (by decide) ?_
              refine lv_iload hx hb d_M_pack_210 (lv_at hl 0 rfl) ?_
              refine lv_imul hx hb d_M_pack_212 ?_
              refine lv_iload hx hb d_M_pack_213 (lv_at hl 5 rfl) ?_
              refine lv_iconst (v := (3 : Int32)) hx hb d_M_pack_215 (by decide) ?_
              refine lv_icmp_ge (tgt := 223) hx hb d_M_pack_216 (by decide) (fun hc => ?_) (fun hc => ?_)
              · have h := ck_t hc h
                refine lv_iload hx hb d_M_pack_223 (lv_at hl 5 rfl) ?_
                refine lv_iconst (v := (2 : Int32)) hx hb d_M_pack_225 (by decide) ?_
                refine lv_isub hx hb d_M_pack_226 ?_
                refine lv_iadd hx hb d_M_pack_227 ?_
                obtain ⟨hin, h⟩ := ck_in h
                refine va_iast hx hb hK hP hD hS 2 0 rfl rfl hin d_M_pack_228 (fun H locs hP hD hS => ?_)
                have hP : va_P (dC, dI) classes [(a_m, .inr (5, [.int mSegs, .ref a_ms, .ref a_mf, .ref a_mv, .int mOpen, .ref a_mc, .ref a_mb, .ref a_mz, .ref a_mu, .ref a_mi, .ref a_mr, .ref a_mh, .ref a_ml, .ref a_ma, .int mLast, .ref a_mk, .int mKLast, .int mKOpen, .int mKFill, .int mNumber, .int mDown, .int mArmed, .int mLeft, .int mWritten, .ref a_my, .ref a_mo, .int mFSize])), (a_my, .inl (cI, 16, .inl mByt_k3)), (a_mo, .inl (cI, 24, .inl (upd (upd mFrm_w72 x6_w72.toNatClampNeg (mByt_k3 x7_w72.toNatClampNeg)) x5_w72.toNatClampNeg (((16 : Int32) * (((x6_w72 - x5_w72) - (1 : Int32)) + (1 : Int32))) + (x8_k88 - (2 : Int32))))))] H := hP
                have hD : va_D A [(a_m, .inr (5, [.int mSegs, .ref a_ms, .ref a_mf, .ref a_mv, .int mOpen, .ref a_mc, .ref a_mb, .ref a_mz, .ref a_mu, .ref a_mi, .ref a_mr, .ref a_mh, .ref a_ml, .ref a_ma, .int mLast, .ref a_mk, .int mKLast, .int mKOpen, .int mKFill, .int mNumber, .int mDown, .int mArmed, .int mLeft, .int mWritten, .ref a_my, .ref a_mo, .int mFSize])), (a_my, .inl (cI, 16, .inl mByt_k3)), (a_mo, .inl (cI, 24, .inl (upd (upd mFrm_w72 x6_w72.toNatClampNeg (mByt_k3 x7_w72.toNatClampNeg)) x5_w72.toNatClampNeg (((16 : Int32) * (((x6_w72 - x5_w72) - (1 : Int32)) + (1 : Int32))) + (x8_k88 - (2 : Int32))))))] := hD
                refine lv_iload hx hb d_M_pack_229 (lv_at hl 2 rfl) ?_
                refine lv_istore hx hb d_M_pack_231 hl (by decide) rfl (fun ls hl => ?_)
                have hl : lv_has ls 12 [(5, .int (x6_w72 + (1 : Int32))), (10, .int (((x6_w72 - x5_w72) - (1 : Int32)) + (1 : Int32))), (7, .int (x7_w72 + (1 : Int32))), (6, .int (x6_w72 + (1 : Int32))), (0, .ref a_m), (8, .int x8_k88), (9, .int x9_k88)] := hl
                refine lv_iinc (k := 3) (v := ((x6_w72 + (1 : Int32)) + (1 : Int32))) hx hb d_M_pack_233 hl rfl (congrArg (fun y => (x6_w72 + (1 : Int32)) + y) (by decide)) (by decide) rfl (fun ls hl => ?_)
                have hl : lv_has ls 12 [(6, .int ((x6_w72 + (1 : Int32)) + (1 : Int32))), (5, .int (x6_w72 + (1 : Int32))), (10, .int (((x6_w72 - x5_w72) - (1 : Int32)) + (1 : Int32))), (7, .int (x7_w72 + (1 : Int32))), (0, .ref a_m), (8, .int x8_k88), (9, .int x9_k88)] := hl
                refine lv_goto (tgt := 72) hx hb d_M_pack_236 (by decide) ?_
                have hl : lv_has ls 12 [(0, .ref a_m), (5, .int (x6_w72 + (1 : Int32))), (6, .int ((x6_w72 + (1 : Int32)) + (1 : Int32))), (7, .int (x7_w72 + (1 : Int32)))] := lv_sub hl [4, 1, 0, 3] rfl
                exact ih72 _ _ _ _ _ _ _ hl hP hD hS h hk72
              · have h := ck_f hc h
                refine lv_iconst (v := (0 : Int32)) hx hb d_M_pack_219 (by decide) ?_
                refine lv_goto (tgt := 227) hx hb d_M_pack_220 (by decide) ?_
                refine lv_iadd hx hb d_M_pack_227 ?_
                obtain ⟨hin, h⟩ := ck_in h
                refine va_iast hx hb hK hP hD hS 2 0 rfl rfl hin d_M_pack_228 (fun H locs hP hD hS => ?_)
                have hP : va_P (dC, dI) classes [(a_m, .inr (5, [.int mSegs, .ref a_ms, .ref a_mf, .ref a_mv, .int mOpen, .ref a_mc, .ref a_mb, .ref a_mz, .ref a_mu, .ref a_mi, .ref a_mr, .ref a_mh, .ref a_ml, .ref a_ma, .int mLast, .ref a_mk, .int mKLast, .int mKOpen, .int mKFill, .int mNumber, .int mDown, .int mArmed, .int mLeft, .int mWritten, .ref a_my, .ref a_mo, .int mFSize])), (a_my, .inl (cI, 16, .inl mByt_k3)), (a_mo, .inl (cI, 24, .inl (upd (upd mFrm_w72 x6_w72.toNatClampNeg (mByt_k3 x7_w72.toNatClampNeg)) x5_w72.toNatClampNeg (((16 : Int32) * (((x6_w72 - x5_w72) - (1 : Int32)) + (1 : Int32))) + (0 : Int32)))))] H := hP
                have hD : va_D A [(a_m, .inr (5, [.int mSegs, .ref a_ms, .ref a_mf, .ref a_mv, .int mOpen, .ref a_mc, .ref a_mb, .ref a_mz, .ref a_mu, .ref a_mi, .ref a_mr, .ref a_mh, .ref a_ml, .ref a_ma, .int mLast, .ref a_mk, .int mKLast, .int mKOpen, .int mKFill, .int mNumber, .int mDown, .int mArmed, .int mLeft, .int mWritten, .ref a_my, .ref a_mo, .int mFSize])), (a_my, .inl (cI, 16, .inl mByt_k3)), (a_mo, .inl (cI, 24, .inl (upd (upd mFrm_w72 x6_w72.toNatClampNeg (mByt_k3 x7_w72.toNatClampNeg)) x5_w72.toNatClampNeg (((16 : Int32) * (((x6_w72 - x5_w72) - (1 : Int32)) + (1 : Int32))) + (0 : Int32)))))] := hD
                refine lv_iload hx hb d_M_pack_229 (lv_at hl 2 rfl) ?_
                refine lv_istore hx hb d_M_pack_231 hl (by decide) rfl (fun ls hl => ?_)
                have hl : lv_has ls 12 [(5, .int (x6_w72 + (1 : Int32))), (10, .int (((x6_w72 - x5_w72) - (1 : Int32)) + (1 : Int32))), (7, .int (x7_w72 + (1 : Int32))), (6, .int (x6_w72 + (1 : Int32))), (0, .ref a_m), (8, .int x8_k88), (9, .int x9_k88)] := hl
                refine lv_iinc (k := 3) (v := ((x6_w72 + (1 : Int32)) + (1 : Int32))) hx hb d_M_pack_233 hl rfl (congrArg (fun y => (x6_w72 + (1 : Int32)) + y) (by decide)) (by decide) rfl (fun ls hl => ?_)
                have hl : lv_has ls 12 [(6, .int ((x6_w72 + (1 : Int32)) + (1 : Int32))), (5, .int (x6_w72 + (1 : Int32))), (10, .int (((x6_w72 - x5_w72) - (1 : Int32)) + (1 : Int32))), (7, .int (x7_w72 + (1 : Int32))), (0, .ref a_m), (8, .int x8_k88), (9, .int x9_k88)] := hl
                refine lv_goto (tgt := 72) hx hb d_M_pack_236 (by decide) ?_
                have hl : lv_has ls 12 [(0, .ref a_m), (5, .int (x6_w72 + (1 : Int32))), (6, .int ((x6_w72 + (1 : Int32)) + (1 : Int32))), (7, .int (x7_w72 + (1 : Int32)))] := lv_sub hl [4, 1, 0, 3] rfl
                exact ih72 _ _ _ _ _ _ _ hl hP hD hS h hk72
  have hl : lv_has ls 12 [(0, .ref a_m), (5, .int (0 : Int32)), (6, .int (1 : Int32)), (7, .int (0 : Int32))] := lv_sub hl [3, 2, 1, 0] rfl
  refine L72 _ _ _ _ _ _ _ _ _ hl hP hD hS h ?_
  intro mFrm_k72 x5_k72 x6_k72 x7_k72 ls H locs hl hP hD hS h
  refine lv_aload_n hx hb d_M_pack_239 rfl (lv_at hl 0 rfl) ?_
  refine va_get (D := (dC, dI)) (ci := 5) (v := .ref a_mo) (C := R_M) (T := F_M) (N := 27) hx hb htT i_M hown hK hP 0 rfl rfl 25 (by decide) (htT _ kf_M_54) (fun _ h9 => h9) rfl d_M_pack_240 ?_
  refine lv_iload hx hb d_M_pack_243 (lv_at hl 1 rfl) ?_
  refine lv_bipush (v := (16 : Int32)) hx hb d_M_pack_245 (by decide) ?_
  refine lv_iload hx hb d_M_pack_247 (lv_at hl 2 rfl) ?_
  refine lv_iload hx hb d_M_pack_249 (lv_at hl 1 rfl) ?_
  refine lv_isub hx hb d_M_pack_251 ?_
  refine lv_iconst (v := (1 : Int32)) hx hb d_M_pack_252 (by decide) ?_
  refine lv_isub hx hb d_M_pack_253 ?_
  refine lv_imul hx hb d_M_pack_254 ?_
  obtain ⟨hin, h⟩ := ck_in h
  refine va_iast hx hb hK hP hD hS 2 0 rfl rfl hin d_M_pack_255 (fun H locs hP hD hS => ?_)
  have hP : va_P (dC, dI) classes [(a_m, .inr (5, [.int mSegs, .ref a_ms, .ref a_mf, .ref a_mv, .int mOpen, .ref a_mc, .ref a_mb, .ref a_mz, .ref a_mu, .ref a_mi, .ref a_mr, .ref a_mh, .ref a_ml, .ref a_ma, .int mLast, .ref a_mk, .int mKLast, .int mKOpen, .int mKFill, .int mNumber, .int mDown, .int mArmed, .int mLeft, .int mWritten, .ref a_my, .ref a_mo, .int mFSize])), (a_my, .inl (cI, 16, .inl mByt_k3)), (a_mo, .inl (cI, 24, .inl (upd mFrm_k72 x5_k72.toNatClampNeg ((16 : Int32) * ((x6_k72 - x5_k72) - (1 : Int32))))))] H := hP
  have hD : va_D A [(a_m, .inr (5, [.int mSegs, .ref a_ms, .ref a_mf, .ref a_mv, .int mOpen, .ref a_mc, .ref a_mb, .ref a_mz, .ref a_mu, .ref a_mi, .ref a_mr, .ref a_mh, .ref a_ml, .ref a_ma, .int mLast, .ref a_mk, .int mKLast, .int mKOpen, .int mKFill, .int mNumber, .int mDown, .int mArmed, .int mLeft, .int mWritten, .ref a_my, .ref a_mo, .int mFSize])), (a_my, .inl (cI, 16, .inl mByt_k3)), (a_mo, .inl (cI, 24, .inl (upd mFrm_k72 x5_k72.toNatClampNeg ((16 : Int32) * ((x6_k72 - x5_k72) - (1 : Int32))))))] := hD
  refine lv_aload_n hx hb d_M_pack_256 rfl (lv_at hl 0 rfl) ?_
  refine lv_iload hx hb d_M_pack_257 (lv_at hl 2 rfl) ?_
  refine lv_iload hx hb d_M_pack_259 (lv_at hl 1 rfl) ?_
  refine lv_isub hx hb d_M_pack_261 ?_
  refine lv_iconst (v := (1 : Int32)) hx hb d_M_pack_262 (by decide) ?_
  refine lv_icmp_le (tgt := 271) hx hb d_M_pack_263 (by decide) (fun hc => ?_) (fun hc => ?_)
  · have h := ck_t hc h
    refine lv_iload hx hb d_M_pack_271 (lv_at hl 1 rfl) ?_
    refine va_put (D := (dC, dI)) (ci := 5) (v := .int x5_k72) (ty := .int) (C := R_M) (T := F_M) (N := 27) hx hb htT i_M t_M t_M_ok n_M hown hK hP hD hS 0 rfl rfl 26 (by decide) (htT _ kf_M_67) (fun _ h9 => h9) rfl (by decide +kernel) rfl rfl (Nat.le_of_ble_eq_true rfl) d_M_pack_273 (fun H locs hP hD hS => ?_)
    have hP : va_P (dC, dI) classes [(a_m, .inr (5, [.int mSegs, .ref a_ms, .ref a_mf, .ref a_mv, .int mOpen, .ref a_mc, .ref a_mb, .ref a_mz, .ref a_mu, .ref a_mi, .ref a_mr, .ref a_mh, .ref a_ml, .ref a_ma, .int mLast, .ref a_mk, .int mKLast, .int mKOpen, .int mKFill, .int mNumber, .int mDown, .int mArmed, .int mLeft, .int mWritten, .ref a_my, .ref a_mo, .int x5_k72])), (a_my, .inl (cI, 16, .inl mByt_k3)), (a_mo, .inl (cI, 24, .inl (upd mFrm_k72 x5_k72.toNatClampNeg ((16 : Int32) * ((x6_k72 - x5_k72) - (1 : Int32))))))] H := hP
    have hD : va_D A [(a_m, .inr (5, [.int mSegs, .ref a_ms, .ref a_mf, .ref a_mv, .int mOpen, .ref a_mc, .ref a_mb, .ref a_mz, .ref a_mu, .ref a_mi, .ref a_mr, .ref a_mh, .ref a_ml, .ref a_ma, .int mLast, .ref a_mk, .int mKLast, .int mKOpen, .int mKFill, .int mNumber, .int mDown, .int mArmed, .int mLeft, .int mWritten, .ref a_my, .ref a_mo, .int x5_k72])), (a_my, .inl (cI, 16, .inl mByt_k3)), (a_mo, .inl (cI, 24, .inl (upd mFrm_k72 x5_k72.toNatClampNeg ((16 : Int32) * ((x6_k72 - x5_k72) - (1 : Int32))))))] := hD
    refine lv_aload_n hx hb d_M_pack_276 rfl (lv_at hl 0 rfl) ?_
    refine va_get (D := (dC, dI)) (ci := 5) (v := .int x5_k72) (C := R_M) (T := F_M) (N := 27) hx hb htT i_M hown hK hP 0 rfl rfl 26 (by decide) (htT _ kf_M_67) (fun _ h9 => h9) rfl d_M_pack_277 ?_
    refine lv_bipush (v := (16 : Int32)) hx hb d_M_pack_280 (by decide) ?_
    refine lv_icmp_ge (tgt := 286) hx hb d_M_pack_282 (by decide) (fun hc => ?_) (fun hc => ?_)
    · have h := ck_t hc h
      refine lv_aload_n hx hb d_M_pack_286 rfl (lv_at hl 0 rfl) ?_
      refine lv_bipush (v := (16 : Int32)) hx hb d_M_pack_287 (by decide) ?_
      refine va_put (D := (dC, dI)) (ci := 5) (v := .int (16 : Int32)) (ty := .int) (C := R_M) (T := F_M) (N := 27) hx hb htT i_M t_M t_M_ok n_M hown hK hP hD hS 0 rfl rfl 26 (by decide) (htT _ kf_M_67) (fun _ h9 => h9) rfl (by decide +kernel) rfl rfl (Nat.le_of_ble_eq_true rfl) d_M_pack_289 (fun H locs hP hD hS => ?_)
      have hP : va_P (dC, dI) classes [(a_m, .inr (5, [.int mSegs, .ref a_ms, .ref a_mf, .ref a_mv, .int mOpen, .ref a_mc, .ref a_mb, .ref a_mz, .ref a_mu, .ref a_mi, .ref a_mr, .ref a_mh, .ref a_ml, .ref a_ma, .int mLast, .ref a_mk, .int mKLast, .int mKOpen, .int mKFill, .int mNumber, .int mDown, .int mArmed, .int mLeft, .int mWritten, .ref a_my, .ref a_mo, .int (16 : Int32)])), (a_my, .inl (cI, 16, .inl mByt_k3)), (a_mo, .inl (cI, 24, .inl (upd mFrm_k72 x5_k72.toNatClampNeg ((16 : Int32) * ((x6_k72 - x5_k72) - (1 : Int32))))))] H := hP
      have hD : va_D A [(a_m, .inr (5, [.int mSegs, .ref a_ms, .ref a_mf, .ref a_mv, .int mOpen, .ref a_mc, .ref a_mb, .ref a_mz, .ref a_mu, .ref a_mi, .ref a_mr, .ref a_mh, .ref a_ml, .ref a_ma, .int mLast, .ref a_mk, .int mKLast, .int mKOpen, .int mKFill, .int mNumber, .int mDown, .int mArmed, .int mLeft, .int mWritten, .ref a_my, .ref a_mo, .int (16 : Int32)])), (a_my, .inl (cI, 16, .inl mByt_k3)), (a_mo, .inl (cI, 24, .inl (upd mFrm_k72 x5_k72.toNatClampNeg ((16 : Int32) * ((x6_k72 - x5_k72) - (1 : Int32))))))] := hD
      refine lv_iconst (v := (0 : Int32)) hx hb d_M_pack_292 (by decide) ?_
      refine lv_istore hx hb d_M_pack_293 hl (by decide) rfl (fun ls hl => ?_)
      have hl : lv_has ls 12 [(8, .int (0 : Int32)), (0, .ref a_m), (5, .int x5_k72), (6, .int x6_k72), (7, .int x7_k72)] := hl
      have L295 : ∀ (K295 : (Nat → Int32) → Int32 → Option (Int32 × (Nat → Int32) × (Nat → Int32))) (fuel : Nat) (mFrm_w295 : Nat → Int32) (x8_w295 : Int32) (ls : Array Slot) (H : Heap) (locs : List Loc), lv_has ls 12 [(0, .ref a_m), (8, .int x8_w295)] → va_P (dC, dI) classes [(a_m, .inr (5, [.int mSegs, .ref a_ms, .ref a_mf, .ref a_mv, .int mOpen, .ref a_mc, .ref a_mb, .ref a_mz, .ref a_mu, .ref a_mi, .ref a_mr, .ref a_mh, .ref a_ml, .ref a_ma, .int mLast, .ref a_mk, .int mKLast, .int mKOpen, .int mKFill, .int mNumber, .int mDown, .int mArmed, .int mLeft, .int mWritten, .ref a_my, .ref a_mo, .int (16 : Int32)])), (a_my, .inl (cI, 16, .inl mByt_k3)), (a_mo, .inl (cI, 24, .inl mFrm_w295))] H → va_D A [(a_m, .inr (5, [.int mSegs, .ref a_ms, .ref a_mf, .ref a_mv, .int mOpen, .ref a_mc, .ref a_mb, .ref a_mz, .ref a_mu, .ref a_mi, .ref a_mr, .ref a_mh, .ref a_ml, .ref a_ma, .int mLast, .ref a_mk, .int mKLast, .int mKOpen, .int mKFill, .int mNumber, .int mDown, .int mArmed, .int mLeft, .int mWritten, .ref a_my, .ref a_mo, .int (16 : Int32)])), (a_my, .inl (cI, 16, .inl mByt_k3)), (a_mo, .inl (cI, 24, .inl mFrm_w295))] → va_S A s.heap H locs → M_pack_L295 mByt_k3 K295 fuel mFrm_w295 x8_w295 = some res → (∀ (mFrm_w295 : Nat → Int32) (x8_w295 : Int32) (ls : Array Slot) (H : Heap) (locs : List Loc), lv_has ls 12 [(0, .ref a_m), (8, .int x8_w295)] → va_P (dC, dI) classes [(a_m, .inr (5, [.int mSegs, .ref a_ms, .ref a_mf, .ref a_mv, .int mOpen, .ref a_mc, .ref a_mb, .ref a_mz, .ref a_mu, .ref a_mi, .ref a_mr, .ref a_mh, .ref a_ml, .ref a_ma, .int mLast, .ref a_mk, .int mKLast, .int mKOpen, .int mKFill, .int mNumber, .int mDown, .int mArmed, .int mLeft, .int mWritten, .ref a_my, .ref a_mo, .int (16 : Int32)])), (a_my, .inl (cI, 16, .inl mByt_k3)), (a_mo, .inl (cI, 24, .inl mFrm_w295))] H → va_D A [(a_m, .inr (5, [.int mSegs, .ref a_ms, .ref a_mf, .ref a_mv, .int mOpen, .ref a_mc, .ref a_mb, .ref a_mz, .ref a_mu, .ref a_mi, .ref a_mr, .ref a_mh, .ref a_ml, .ref a_ma, .int mLast, .ref a_mk, .int mKLast, .int mKOpen, .int mKFill, .int mNumber, .int mDown, .int mArmed, .int mLeft, .int mWritten, .ref a_my, .ref a_mo, .int (16 : Int32)])), (a_my, .inl (cI, 16, .inl mByt_k3)), (a_mo, .inl (cI, 24, .inl mFrm_w295))] → va_S A s.heap H locs → K295 mFrm_w295 x8_w295 = some res → W p l e (headSpec w_M_pack ({ frames := 1, cells := 0, slots := 0, locals := 23 })).room s m ([.ref a_m, .long x1, .long x3] : List Value).toArray below meth c H locs 0 0 (MQ below (va_Qv (fun (z : Int32 × (Nat → Int32) × (Nat → Int32)) => res = z) (fun (z : Int32 × (Nat → Int32) × (Nat → Int32)) (t : State) => va_P (dC, dI) classes [(a_m, .inr (5, [.int mSegs, .ref a_ms, .ref a_mf, .ref a_mv, .int mOpen, .ref a_mc, .ref a_mb, .ref a_mz, .ref a_mu, .ref a_mi, .ref a_mr, .ref a_mh, .ref a_ml, .ref a_ma, .int mLast, .ref a_mk, .int mKLast, .int mKOpen, .int mKFill, .int mNumber, .int mDown, .int mArmed, .int mLeft, .int mWritten, .ref a_my, .ref a_mo, .int z.1])), (a_my, .inl (cI, 16, .inl z.2.1)), (a_mo, .inl (cI, 24, .inl z.2.2))] t.heap ∧ va_K (dC, dI) classes [(cI, .int), (cZ, .boolean), (cJ, .long)] t ∧ va_D A [(a_m, .inr (5, [.int mSegs, .ref a_ms, .ref a_mf, .ref a_mv, .int mOpen, .ref a_mc, .ref a_mb, .ref a_mz, .ref a_mu, .ref a_mi, .ref a_mr, .ref a_mh, .ref a_ml, .ref a_ma, .int mLast, .ref a_mk, .int mKLast, .int mKOpen, .int mKFill, .int mNumber, .int mDown, .int mArmed, .int mLeft, .int mWritten, .ref a_my, .ref a_mo, .int z.1])), (a_my, .inl (cI, 16, .inl z.2.1)), (a_mo, .inl (cI, 24, .inl z.2.2))]) A) ([.ref a_m, .long x1, .long x3] : List Value).toArray s 0 0 A) (F0 m 322 ls [])) → W p l e (headSpec w_M_pack ({ frames := 1, cells := 0, slots := 0, locals := 23 })).room s m ([.ref a_m, .long x1, .long x3] : List Value).toArray below meth c H locs 0 0 (MQ below (va_Qv (fun (z : Int32 × (Nat → Int32) × (Nat → Int32)) => res = z) (fun (z : Int32 × (Nat → Int32) × (Nat → Int32)) (t : State) => va_P (dC, dI) classes [(a_m, .inr (5, [.int mSegs, .ref a_ms, .ref a_mf, .ref a_mv, .int mOpen, .ref a_mc, .ref a_mb, .ref a_mz, .ref a_mu, .ref a_mi, .ref a_mr, .ref a_mh, .ref a_ml, .ref a_ma, .int mLast, .ref a_mk, .int mKLast, .int mKOpen, .int mKFill, .int mNumber, .int mDown, .int mArmed, .int mLeft, .int mWritten, .ref a_my, .ref a_mo, .int z.1])), (a_my, .inl (cI, 16, .inl z.2.1)), (a_mo, .inl (cI, 24, .inl z.2.2))] t.heap ∧ va_K (dC, dI) classes [(cI, .int), (cZ, .boolean), (cJ, .long)] t ∧ va_D A [(a_m, .inr (5, [.int mSegs, .ref a_ms, .ref a_mf, .ref a_mv, .int mOpen, .ref a_mc, .ref a_mb, .ref a_mz, .ref a_mu, .ref a_mi, .ref a_mr, .ref a_mh, .ref a_ml, .ref a_ma, .int mLast, .ref a_mk, .int mKLast, .int mKOpen, .int mKFill, .int mNumber, .int mDown, .int mArmed, .int mLeft, .int mWritten, .ref a_my, .ref a_mo, .int z.1])), (a_my, .inl (cI, 16, .inl z.2.1)), (a_mo, .inl (cI, 24, .inl z.2.2))]) A) ([.ref a_m, .long x1, .long x3] : List Value).toArray s 0 0 A) (F0 m 295 ls []) := by
        intro K295 fuel
        induction fuel with
        | zero => intro mFrm_w295 x8_w295 ls H locs hl hP hD hS h hk295; exact absurd (show (none : Option (Int32 × (Nat → Int32) × (Nat → Int32))) = some res from h) (by intro q; cases q)
        | succ fuel ih295 =>
          intro mFrm_w295 x8_w295 ls H locs hl hP hD hS h hk295
          rw [M_pack_L295] at h
          refine lv_iload hx hb d_M_pack_295 (lv_at hl 1 rfl) ?_
          refine lv_bipush (v := (16 : Int32)) hx hb d_M_pack_297 (by decide) ?_
          refine lv_icmp_ge (tgt := 322) hx hb d_M_pack_299 (by decide) (fun hc => ?_) (fun hc => ?_)
          · have h := ck_t hc h
            have hl : lv_has ls 12 [(0, .ref a_m), (8, .int x8_w295)] := lv_sub hl [0, 1] rfl
            exact hk295 _ _ _ _ _ hl hP hD hS h
          · have h := ck_f hc h
            refine lv_aload_n hx hb d_M_pack_302 rfl (lv_at hl 0 rfl) ?_
            refine va_get (D := (dC, dI)) (ci := 5) (v := .ref a_mo) (C := R_M) (T := F_M) (N := 27) hx hb htT i_M hown hK hP 0 rfl rfl 25 (by decide) (htT _ kf_M_54) (fun _ h9 => h9) rfl d_M_pack_303 ?_
            refine lv_iload hx hb d_M_pack_306 (lv_at hl 1 rfl) ?_
            refine lv_aload_n hx hb d_M_pack_308 rfl (lv_at hl 0 rfl) ?_
            refine va_get (D := (dC, dI)) (ci := 5) (v := .ref a_my) (C := R_M) (T := F_M) (N := 27) hx hb htT i_M hown hK hP 0 rfl rfl 24 (by decide) (htT _ kf_M_51) (fun _ h9 => h9) rfl d_M_pack_309 ?_
            refine lv_iload hx hb d_M_pack_312 (lv_at hl 1 rfl) ?_
            obtain ⟨hin, h⟩ := ck_in h
            refine va_iald hx hb hK hP 1 0 rfl rfl hin d_M_pack_314 ?_
            obtain ⟨hin, h⟩ := ck_in h
            refine va_iast hx hb hK hP hD hS 2 0 rfl rfl hin d_M_pack_315 (fun H locs hP hD hS => ?_)
            have hP : va_P (dC, dI) classes [(a_m, .inr (5, [.int mSegs, .ref a_ms, .ref a_mf, .ref a_mv, .int mOpen, .ref a_mc, .ref a_mb, .ref a_mz, .ref a_mu, .ref a_mi, .ref a_mr, .ref a_mh, .ref a_ml, .ref a_ma, .int mLast, .ref a_mk, .int mKLast, .int mKOpen, .int mKFill, .int mNumber, .int mDown, .int mArmed, .int mLeft, .int mWritten, .ref a_my, .ref a_mo, .int (16 : Int32)])), (a_my, .inl (cI, 16, .inl mByt_k3)), (a_mo, .inl (cI, 24, .inl (upd mFrm_w295 x8_w295.toNatClampNeg (mByt_k3 x8_w295.toNatClampNeg))))] H := hP
            have hD : va_D A [(a_m, .inr (5, [.int mSegs, .ref a_ms, .ref a_mf, .ref a_mv, .int mOpen, .ref a_mc, .ref a_mb, .ref a_mz, .ref a_mu, .ref a_mi, .ref a_mr, .ref a_mh, .ref a_ml, .ref a_ma, .int mLast, .ref a_mk, .int mKLast, .int mKOpen, .int mKFill, .int mNumber, .int mDown, .int mArmed, .int mLeft, .int mWritten, .ref a_my, .ref a_mo, .int (16 : Int32)])), (a_my, .inl (cI, 16, .inl mByt_k3)), (a_mo, .inl (cI, 24, .inl (upd mFrm_w295 x8_w295.toNatClampNeg (mByt_k3 x8_w295.toNatClampNeg))))] := hD
            refine lv_iinc (k := 1) (v := (x8_w295 + (1 : Int32))) hx hb d_M_pack_316 hl rfl (congrArg (fun y => x8_w295 + y) (by decide)) (by decide) rfl (fun ls hl => ?_)
            have hl : lv_has ls 12 [(8, .int (x8_w295 + (1 : Int32))), (0, .ref a_m)] := hl
            refine lv_goto (tgt := 295) hx hb d_M_pack_319 (by decide) ?_
            have hl : lv_has ls 12 [(0, .ref a_m), (8, .int (x8_w295 + (1 : Int32)))] := lv_sub hl [1, 0] rfl
            exact ih295 _ _ _ _ _ hl hP hD hS h hk295
      have hl : lv_has ls 12 [(0, .ref a_m), (8, .int (0 : Int32))] := lv_sub hl [1, 0] rfl
      refine L295 _ _ _ _ _ _ _ hl hP hD hS h ?_
      intro mFrm_k295 x8_k295 ls H locs hl hP hD hS h
      exact W.vret hx hb hr (fun t ht hW => ⟨⟨((16 : Int32), mByt_k3, mFrm_k295), rfl, (Option.some.inj h).symm, by rw [ht]; exact hP, va_K.moved hW.alike hK, hD⟩, hS.F ht⟩) hS.2.2 d_M_pack_322
    · have h := ck_f hc h
      exact W.vret hx hb hr (fun t ht hW => ⟨⟨(x5_k72, mByt_k3, (upd mFrm_k72 x5_k72.toNatClampNeg ((16 : Int32) * ((x6_k72 - x5_k72) - (1 : Int32))))), rfl, (Option.some.inj h).symm, by rw [ht]; exact hP, va_K.moved hW.alike hK, hD⟩, hS.F ht⟩) hS.2.2 d_M_pack_285
  · have h := ck_f hc h
    refine lv_iload hx hb d_M_pack_266 (lv_at hl 2 rfl) ?_
    refine lv_goto (tgt := 273) hx hb d_M_pack_268 (by decide) ?_
    refine va_put (D := (dC, dI)) (ci := 5) (v := .int x6_k72) (ty := .int) (C := R_M) (T := F_M) (N := 27) hx hb htT i_M t_M t_M_ok n_M hown hK hP hD hS 0 rfl rfl 26 (by decide) (htT _ kf_M_67) (fun _ h9 => h9) rfl (by decide +kernel) rfl rfl (Nat.le_of_ble_eq_true rfl) d_M_pack_273 (fun H locs hP hD hS => ?_)
    have hP : va_P (dC, dI) classes [(a_m, .inr (5, [.int mSegs, .ref a_ms, .ref a_mf, .ref a_mv, .int mOpen, .ref a_mc, .ref a_mb, .ref a_mz, .ref a_mu, .ref a_mi, .ref a_mr, .ref a_mh, .ref a_ml, .ref a_ma, .int mLast, .ref a_mk, .int mKLast, .int mKOpen, .int mKFill, .int mNumber, .int mDown, .int mArmed, .int mLeft, .int mWritten, .ref a_my, .ref a_mo, .int x6_k72])), (a_my, .inl (cI, 16, .inl mByt_k3)), (a_mo, .inl (cI, 24, .inl (upd mFrm_k72 x5_k72.toNatClampNeg ((16 : Int32) * ((x6_k72 - x5_k72) - (1 : Int32))))))] H := hP
    have hD : va_D A [(a_m, .inr (5, [.int mSegs, .ref a_ms, .ref a_mf, .ref a_mv, .int mOpen, .ref a_mc, .ref a_mb, .ref a_mz, .ref a_mu, .ref a_mi, .ref a_mr, .ref a_mh, .ref a_ml, .ref a_ma, .int mLast, .ref a_mk, .int mKLast, .int mKOpen, .int mKFill, .int mNumber, .int mDown, .int mArmed, .int mLeft, .int mWritten, .ref a_my, .ref a_mo, .int x6_k72])), (a_my, .inl (cI, 16, .inl mByt_k3)), (a_mo, .inl (cI, 24, .inl (upd mFrm_k72 x5_k72.toNatClampNeg ((16 : Int32) * ((x6_k72 - x5_k72) - (1 : Int32))))))] := hD
    refine lv_aload_n hx hb d_M_pack_276 rfl (lv_at hl 0 rfl) ?_
    refine va_get (D := (dC, dI)) (ci := 5) (v := .int x6_k72) (C := R_M) (T := F_M) (N := 27) hx hb htT i_M hown hK hP 0 rfl rfl 26 (by decide) (htT _ kf_M_67) (fun _ h9 => h9) rfl d_M_pack_277 ?_
    refine lv_bipush (v := (16 : Int32)) hx hb d_M_pack_280 (by decide) ?_
    refine lv_icmp_ge (tgt := 286) hx hb d_M_pack_282 (by decide) (fun hc => ?_) (fun hc => ?_)
    · have h := ck_t hc h
      refine lv_aload_n hx hb d_M_pack_286 rfl (lv_at hl 0 rfl) ?_
      refine lv_bipush (v := (16 : Int32)) hx hb d_M_pack_287 (by decide) ?_
      refine va_put (D := (dC, dI)) (ci := 5) (v := .int (16 : Int32)) (ty := .int) (C := R_M) (T := F_M) (N := 27) hx hb htT i_M t_M t_M_ok n_M hown hK hP hD hS 0 rfl rfl 26 (by decide) (htT _ kf_M_67) (fun _ h9 => h9) rfl (by decide +kernel) rfl rfl (Nat.le_of_ble_eq_true rfl) d_M_pack_289 (fun H locs hP hD hS => ?_)
      have hP : va_P (dC, dI) classes [(a_m, .inr (5, [.int mSegs, .ref a_ms, .ref a_mf, .ref a_mv, .int mOpen, .ref a_mc, .ref a_mb, .ref a_mz, .ref a_mu, .ref a_mi, .ref a_mr, .ref a_mh, .ref a_ml, .ref a_ma, .int mLast, .ref a_mk, .int mKLast, .int mKOpen, .int mKFill, .int mNumber, .int mDown, .int mArmed, .int mLeft, .int mWritten, .ref a_my, .ref a_mo, .int (16 : Int32)])), (a_my, .inl (cI, 16, .inl mByt_k3)), (a_mo, .inl (cI, 24, .inl (upd mFrm_k72 x5_k72.toNatClampNeg ((16 : Int32) * ((x6_k72 - x5_k72) - (1 : Int32))))))] H := hP
      have hD : va_D A [(a_m, .inr (5, [.int mSegs, .ref a_ms, .ref a_mf, .ref a_mv, .int mOpen, .ref a_mc, .ref a_mb, .ref a_mz, .ref a_mu, .ref a_mi, .ref a_mr, .ref a_mh, .ref a_ml, .ref a_ma, .int mLast, .ref a_mk, .int mKLast, .int mKOpen, .int mKFill, .int mNumber, .int mDown, .int mArmed, .int mLeft, .int mWritten, .ref a_my, .ref a_mo, .int (16 : Int32)])), (a_my, .inl (cI, 16, .inl mByt_k3)), (a_mo, .inl (cI, 24, .inl (upd mFrm_k72 x5_k72.toNatClampNeg ((16 : Int32) * ((x6_k72 - x5_k72) - (1 : Int32))))))] := hD
      refine lv_iconst (v := (0 : Int32)) hx hb d_M_pack_292 (by decide) ?_
      refine lv_istore hx hb d_M_pack_293 hl (by decide) rfl (fun ls hl => ?_)
      have hl : lv_has ls 12 [(8, .int (0 : Int32)), (0, .ref a_m), (5, .int x5_k72), (6, .int x6_k72), (7, .int x7_k72)] := hl
      have L295 : ∀ (K295 : (Nat → Int32) → Int32 → Option (Int32 × (Nat → Int32) × (Nat → Int32))) (fuel : Nat) (mFrm_w295 : Nat → Int32) (x8_w295 : Int32) (ls : Array Slot) (H : Heap) (locs : List Loc), lv_has ls 12 [(0, .ref a_m), (8, .int x8_w295)] → va_P (dC, dI) classes [(a_m, .inr (5, [.int mSegs, .ref a_ms, .ref a_mf, .ref a_mv, .int mOpen, .ref a_mc, .ref a_mb, .ref a_mz, .ref a_mu, .ref a_mi, .ref a_mr, .ref a_mh, .ref a_ml, .ref a_ma, .int mLast, .ref a_mk, .int mKLast, .int mKOpen, .int mKFill, .int mNumber, .int mDown, .int mArmed, .int mLeft, .int mWritten, .ref a_my, .ref a_mo, .int (16 : Int32)])), (a_my, .inl (cI, 16, .inl mByt_k3)), (a_mo, .inl (cI, 24, .inl mFrm_w295))] H → va_D A [(a_m, .inr (5, [.int mSegs, .ref a_ms, .ref a_mf, .ref a_mv, .int mOpen, .ref a_mc, .ref a_mb, .ref a_mz, .ref a_mu, .ref a_mi, .ref a_mr, .ref a_mh, .ref a_ml, .ref a_ma, .int mLast, .ref a_mk, .int mKLast, .int mKOpen, .int mKFill, .int mNumber, .int mDown, .int mArmed, .int mLeft, .int mWritten, .ref a_my, .ref a_mo, .int (16 : Int32)])), (a_my, .inl (cI, 16, .inl mByt_k3)), (a_mo, .inl (cI, 24, .inl mFrm_w295))] → va_S A s.heap H locs → M_pack_L295 mByt_k3 K295 fuel mFrm_w295 x8_w295 = some res → (∀ (mFrm_w295 : Nat → Int32) (x8_w295 : Int32) (ls : Array Slot) (H : Heap) (locs : List Loc), lv_has ls 12 [(0, .ref a_m), (8, .int x8_w295)] → va_P (dC, dI) classes [(a_m, .inr (5, [.int mSegs, .ref a_ms, .ref a_mf, .ref a_mv, .int mOpen, .ref a_mc, .ref a_mb, .ref a_mz, .ref a_mu, .ref a_mi, .ref a_mr, .ref a_mh, .ref a_ml, .ref a_ma, .int mLast, .ref a_mk, .int mKLast, .int mKOpen, .int mKFill, .int mNumber, .int mDown, .int mArmed, .int mLeft, .int mWritten, .ref a_my, .ref a_mo, .int (16 : Int32)])), (a_my, .inl (cI, 16, .inl mByt_k3)), (a_mo, .inl (cI, 24, .inl mFrm_w295))] H → va_D A [(a_m, .inr (5, [.int mSegs, .ref a_ms, .ref a_mf, .ref a_mv, .int mOpen, .ref a_mc, .ref a_mb, .ref a_mz, .ref a_mu, .ref a_mi, .ref a_mr, .ref a_mh, .ref a_ml, .ref a_ma, .int mLast, .ref a_mk, .int mKLast, .int mKOpen, .int mKFill, .int mNumber, .int mDown, .int mArmed, .int mLeft, .int mWritten, .ref a_my, .ref a_mo, .int (16 : Int32)])), (a_my, .inl (cI, 16, .inl mByt_k3)), (a_mo, .inl (cI, 24, .inl mFrm_w295))] → va_S A s.heap H locs → K295 mFrm_w295 x8_w295 = some res → W p l e (headSpec w_M_pack ({ frames := 1, cells := 0, slots := 0, locals := 23 })).room s m ([.ref a_m, .long x1, .long x3] : List Value).toArray below meth c H locs 0 0 (MQ below (va_Qv (fun (z : Int32 × (Nat → Int32) × (Nat → Int32)) => res = z) (fun (z : Int32 × (Nat → Int32) × (Nat → Int32)) (t : State) => va_P (dC, dI) classes [(a_m, .inr (5, [.int mSegs, .ref a_ms, .ref a_mf, .ref a_mv, .int mOpen, .ref a_mc, .ref a_mb, .ref a_mz, .ref a_mu, .ref a_mi, .ref a_mr, .ref a_mh, .ref a_ml, .ref a_ma, .int mLast, .ref a_mk, .int mKLast, .int mKOpen, .int mKFill, .int mNumber, .int mDown, .int mArmed, .int mLeft, .int mWritten, .ref a_my, .ref a_mo, .int z.1])), (a_my, .inl (cI, 16, .inl z.2.1)), (a_mo, .inl (cI, 24, .inl z.2.2))] t.heap ∧ va_K (dC, dI) classes [(cI, .int), (cZ, .boolean), (cJ, .long)] t ∧ va_D A [(a_m, .inr (5, [.int mSegs, .ref a_ms, .ref a_mf, .ref a_mv, .int mOpen, .ref a_mc, .ref a_mb, .ref a_mz, .ref a_mu, .ref a_mi, .ref a_mr, .ref a_mh, .ref a_ml, .ref a_ma, .int mLast, .ref a_mk, .int mKLast, .int mKOpen, .int mKFill, .int mNumber, .int mDown, .int mArmed, .int mLeft, .int mWritten, .ref a_my, .ref a_mo, .int z.1])), (a_my, .inl (cI, 16, .inl z.2.1)), (a_mo, .inl (cI, 24, .inl z.2.2))]) A) ([.ref a_m, .long x1, .long x3] : List Value).toArray s 0 0 A) (F0 m 322 ls [])) → W p l e (headSpec w_M_pack ({ frames := 1, cells := 0, slots := 0, locals := 23 })).room s m ([.ref a_m, .long x1, .long x3] : List Value).toArray below meth c H locs 0 0 (MQ below (va_Qv (fun (z : Int32 × (Nat → Int32) × (Nat → Int32)) => res = z) (fun (z : Int32 × (Nat → Int32) × (Nat → Int32)) (t : State) => va_P (dC, dI) classes [(a_m, .inr (5, [.int mSegs, .ref a_ms, .ref a_mf, .ref a_mv, .int mOpen, .ref a_mc, .ref a_mb, .ref a_mz, .ref a_mu, .ref a_mi, .ref a_mr, .ref a_mh, .ref a_ml, .ref a_ma, .int mLast, .ref a_mk, .int mKLast, .int mKOpen, .int mKFill, .int mNumber, .int mDown, .int mArmed, .int mLeft, .int mWritten, .ref a_my, .ref a_mo, .int z.1])), (a_my, .inl (cI, 16, .inl z.2.1)), (a_mo, .inl (cI, 24, .inl z.2.2))] t.heap ∧ va_K (dC, dI) classes [(cI, .int), (cZ, .boolean), (cJ, .long)] t ∧ va_D A [(a_m, .inr (5, [.int mSegs, .ref a_ms, .ref a_mf, .ref a_mv, .int mOpen, .ref a_mc, .ref a_mb, .ref a_mz, .ref a_mu, .ref a_mi, .ref a_mr, .ref a_mh, .ref a_ml, .ref a_ma, .int mLast, .ref a_mk, .int mKLast, .int mKOpen, .int mKFill, .int mNumber, .int mDown, .int mArmed, .int mLeft, .int mWritten, .ref a_my, .ref a_mo, .int z.1])), (a_my, .inl (cI, 16, .inl z.2.1)), (a_mo, .inl (cI, 24, .inl z.2.2))]) A) ([.ref a_m, .long x1, .long x3] : List Value).toArray s 0 0 A) (F0 m 295 ls []) := by
        intro K295 fuel
        induction fuel with
        | zero => intro mFrm_w295 x8_w295 ls H locs hl hP hD hS h hk295; exact absurd (show (none : Option (Int32 × (Nat → Int32) × (Nat → Int32))) = some res from h) (by intro q; cases q)
        | succ fuel ih295 =>
          intro mFrm_w295 x8_w295 ls H locs hl hP hD hS h hk295
          rw [M_pack_L295] at h
          refine lv_iload hx hb d_M_pack_295 (lv_at hl 1 rfl) ?_
          refine lv_bipush (v := (16 : Int32)) hx hb d_M_pack_297 (by decide) ?_
          refine lv_icmp_ge (tgt := 322) hx hb d_M_pack_299 (by decide) (fun hc => ?_) (fun hc => ?_)
          · have h := ck_t hc h
            have hl : lv_has ls 12 [(0, .ref a_m), (8, .int x8_w295)] := lv_sub hl [0, 1] rfl
            exact hk295 _ _ _ _ _ hl hP hD hS h
          · have h := ck_f hc h
            refine lv_aload_n hx hb d_M_pack_302 rfl (lv_at hl 0 rfl) ?_
            refine va_get (D := (dC, dI)) (ci := 5) (v := .ref a_mo) (C := R_M) (T := F_M) (N := 27) hx hb htT i_M hown hK hP 0 rfl rfl 25 (by decide) (htT _ kf_M_54) (fun _ h9 => h9) rfl d_M_pack_303 ?_
            refine lv_iload hx hb d_M_pack_306 (lv_at hl 1 rfl) ?_
            refine lv_aload_n hx hb d_M_pack_308 rfl (lv_at hl 0 rfl) ?_
            refine va_get (D := (dC, dI)) (ci := 5) (v := .ref a_my) (C := R_M) (T := F_M) (N := 27) hx hb htT i_M hown hK hP 0 rfl rfl 24 (by decide) (htT _ kf_M_51) (fun _ h9 => h9) rfl d_M_pack_309 ?_
            refine lv_iload hx hb d_M_pack_312 (lv_at hl 1 rfl) ?_
            obtain ⟨hin, h⟩ := ck_in h
            refine va_iald hx hb hK hP 1 0 rfl rfl hin d_M_pack_314 ?_
            obtain ⟨hin, h⟩ := ck_in h
            refine va_iast hx hb hK hP hD hS 2 0 rfl rfl hin d_M_pack_315 (fun H locs hP hD hS => ?_)
            have hP : va_P (dC, dI) classes [(a_m, .inr (5, [.int mSegs, .ref a_ms, .ref a_mf, .ref a_mv, .int mOpen, .ref a_mc, .ref a_mb, .ref a_mz, .ref a_mu, .ref a_mi, .ref a_mr, .ref a_mh, .ref a_ml, .ref a_ma, .int mLast, .ref a_mk, .int mKLast, .int mKOpen, .int mKFill, .int mNumber, .int mDown, .int mArmed, .int mLeft, .int mWritten, .ref a_my, .ref a_mo, .int (16 : Int32)])), (a_my, .inl (cI, 16, .inl mByt_k3)), (a_mo, .inl (cI, 24, .inl (upd mFrm_w295 x8_w295.toNatClampNeg (mByt_k3 x8_w295.toNatClampNeg))))] H := hP
            have hD : va_D A [(a_m, .inr (5, [.int mSegs, .ref a_ms, .ref a_mf, .ref a_mv, .int mOpen, .ref a_mc, .ref a_mb, .ref a_mz, .ref a_mu, .ref a_mi, .ref a_mr, .ref a_mh, .ref a_ml, .ref a_ma, .int mLast, .ref a_mk, .int mKLast, .int mKOpen, .int mKFill, .int mNumber, .int mDown, .int mArmed, .int mLeft, .int mWritten, .ref a_my, .ref a_mo, .int (16 : Int32)])), (a_my, .inl (cI, 16, .inl mByt_k3)), (a_mo, .inl (cI, 24, .inl (upd mFrm_w295 x8_w295.toNatClampNeg (mByt_k3 x8_w295.toNatClampNeg))))] := hD
            refine lv_iinc (k := 1) (v := (x8_w295 + (1 : Int32))) hx hb d_M_pack_316 hl rfl (congrArg (fun y => x8_w295 + y) (by decide)) (by decide) rfl (fun ls hl => ?_)
            have hl : lv_has ls 12 [(8, .int (x8_w295 + (1 : Int32))), (0, .ref a_m)] := hl
            refine lv_goto (tgt := 295) hx hb d_M_pack_319 (by decide) ?_
            have hl : lv_has ls 12 [(0, .ref a_m), (8, .int (x8_w295 + (1 : Int32)))] := lv_sub hl [1, 0] rfl
            exact ih295 _ _ _ _ _ hl hP hD hS h hk295
      have hl : lv_has ls 12 [(0, .ref a_m), (8, .int (0 : Int32))] := lv_sub hl [1, 0] rfl
      refine L295 _ _ _ _ _ _ _ hl hP hD hS h ?_
      intro mFrm_k295 x8_k295 ls H locs hl hP hD hS h
      exact W.vret hx hb hr (fun t ht hW => ⟨⟨((16 : Int32), mByt_k3, mFrm_k295), rfl, (Option.some.inj h).symm, by rw [ht]; exact hP, va_K.moved hW.alike hK, hD⟩, hS.F ht⟩) hS.2.2 d_M_pack_322
    · have h := ck_f hc h
      exact W.vret hx hb hr (fun t ht hW => ⟨⟨(x6_k72, mByt_k3, (upd mFrm_k72 x5_k72.toNatClampNeg ((16 : Int32) * ((x6_k72 - x5_k72) - (1 : Int32))))), rfl, (Option.some.inj h).symm, by rw [ht]; exact hP, va_K.moved hW.alike hK, hD⟩, hS.F ht⟩) hS.2.2 d_M_pack_285
