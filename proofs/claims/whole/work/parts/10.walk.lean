set_option maxHeartbeats 4000000 in
set_option maxRecDepth 100000 in
theorem c_U_isBlock (l : Launch) (dC : Nat → ClassId) (dI : Nat → Nat → Nat) (cI cZ cJ : ClassId) (sz n N : Nat)  (x0 : Int32) (res : Int32) (hM : U_isBlock x0 = some res) : Met l y_U_isBlock w_U_isBlock ({ frames := 0, cells := 0, slots := 0, locals := 0 }) (va_Pc [.int x0] (fun U => U.heap.size = sz ∧ va_P (dC, dI) classes [] U.heap ∧ va_K (dC, dI) classes [(cI, .int), (cZ, .boolean), (cJ, .long)] U ∧ va_D (fun _ => True) [] ∧ Ns U)) (va_Qi (fun (r : Int32) (z : Unit) => res = r) (fun (z : Unit) (t : State) => va_P (dC, dI) classes [] t.heap ∧ va_K (dC, dI) classes [(cI, .int), (cZ, .boolean), (cJ, .long)] t ∧ va_D (va_A [] sz) []) (va_A [] sz)) 0 0 (va_A [] sz) := by
  refine Met.ofW (cc := b_U_isBlock) (maxL := 1) (ret := (some .boolean)) (by decide) rfl ?_
  intro p e s m args below meth c s₁ B hml hv
  obtain ⟨rfl, hsz, hP, hK, hD0, hN⟩ := hv
  have hx := B.exec
  have hb := B.bytes
  have hr := B.returns
  have hts := atoms_spec (ws := w_U_isBlock) B.pre
  have htT : ∀ w ∈ lwG, w.before _ s = true := fun w h => hts w (List.mem_cons_of_mem _ h)
  have hown : s.vm.findClass R_U = some m.cls := findClass_of_methodNamed B.named
  have hlocks := B.notSynchronized
  subst hsz
  have hD := hD0.self (sz := s.heap.size)
  generalize hAe : va_A [] s.heap.size = A at hD ⊢
  have hA : ∀ q : Nat, s.heap.size ≤ q → A q := fun q h => by rw [← hAe]; exact Or.inr h
  have hS : va_S A s.heap s.heap [] := va_S.rf
  have hP : va_P (dC, dI) classes [] s.heap := hP
  have hl := lv_entry ([.int x0]) (n := 1) (Nat.le_of_ble_eq_true rfl)
  rw [lg_entry_eq]
  generalize (lg_sl ([.int x0]) ++ List.replicate (1 - (lg_sl ([.int x0])).length) Slot.unset).toArray = ls at hl ⊢
  have hl : lv_has ls 1 [(0, .int x0)] := hl
  have h := hM
  rw [U_isBlock] at h
  refine lv_iload_n hx hb d_U_isBlock_0 rfl (lv_at hl 0 rfl) ?_
  refine lv_if_lt (tgt := 14) hx hb d_U_isBlock_1 (by decide) (fun hc => ?_) (fun hc => ?_)
  · have h := ck_t hc h
    refine lv_iconst (v := (0 : Int32)) hx hb d_U_isBlock_14 (by decide) ?_
    exact W.zret (v := (0 : Int32)) hx hb hr rfl (fun t ht hW => ⟨⟨(0 : Int32), (), rfl, (Option.some.inj h).symm, by rw [ht]; exact hP, va_K.moved hW.alike hK, hD⟩, hS.F ht⟩) hS.2.2 d_U_isBlock_15
  · have h := ck_f hc h
    refine lv_iload_n hx hb d_U_isBlock_4 rfl (lv_at hl 0 rfl) ?_
    refine lv_bipush (v := (16 : Int32)) hx hb d_U_isBlock_5 (by decide) ?_
    refine lv_icmp_ge (tgt := 14) hx hb d_U_isBlock_7 (by decide) (fun hc => ?_) (fun hc => ?_)
    · have h := ck_t hc h
      refine lv_iconst (v := (0 : Int32)) hx hb d_U_isBlock_14 (by decide) ?_
      exact W.zret (v := (0 : Int32)) hx hb hr rfl (fun t ht hW => ⟨⟨(0 : Int32), (), rfl, (Option.some.inj h).symm, by rw [ht]; exact hP, va_K.moved hW.alike hK, hD⟩, hS.F ht⟩) hS.2.2 d_U_isBlock_15
    · have h := ck_f hc h
      refine lv_iconst (v := (1 : Int32)) hx hb d_U_isBlock_10 (by decide) ?_
      refine lv_goto (tgt := 15) hx hb d_U_isBlock_11 (by decide) ?_
      exact W.zret (v := (1 : Int32)) hx hb hr rfl (fun t ht hW => ⟨⟨(1 : Int32), (), rfl, (Option.some.inj h).symm, by rw [ht]; exact hP, va_K.moved hW.alike hK, hD⟩, hS.F ht⟩) hS.2.2 d_U_isBlock_15
set_option maxHeartbeats 4000000 in
set_option maxRecDepth 100000 in
theorem c_U_freeSegments (l : Launch) (dC : Nat → ClassId) (dI : Nat → Nat → Nat) (cI cZ cJ : ClassId) (a_u a_d a_p a_pb a_pf a_r a_rs a_rb a_ru a_rz a_rh a_rl a_c a_cp a_st a_pl : Nat) (sz n N : Nat) (uOpen : Int32) (uFill : Int32) (uSaved : Int32) (uSerial : Int32) (uDown : Int32) (uSts : Nat → Int32)  (res : Int32) (hM : U_freeSegments n uSts = some res) : Met l y_U_freeSegments w_U_freeSegments ({ frames := 0, cells := 0, slots := 0, locals := 0 }) (va_Pc [.ref a_u] (fun U => U.heap.size = sz ∧ va_P (dC, dI) classes [(a_u, .inr (0, [.ref a_d, .ref a_p, .ref a_r, .ref a_c, .ref a_st, .ref a_pl, .int uOpen, .int uFill, .int uSaved, .int uSerial, .int uDown])), (a_st, .inl (cI, n, .inl uSts))] U.heap ∧ va_K (dC, dI) classes [(cI, .int), (cZ, .boolean), (cJ, .long)] U ∧ va_D (fun _ => True) [(a_u, .inr (0, [.ref a_d, .ref a_p, .ref a_r, .ref a_c, .ref a_st, .ref a_pl, .int uOpen, .int uFill, .int uSaved, .int uSerial, .int uDown])), (a_st, .inl (cI, n, .inl uSts))] ∧ Ns U)) (va_Qi (fun (r : Int32) (z : Unit) => res = r) (fun (z : Unit) (t : State) => va_P (dC, dI) classes [(a_u, .inr (0, [.ref a_d, .ref a_p, .ref a_r, .ref a_c, .ref a_st, .ref a_pl, .int uOpen, .int uFill, .int uSaved, .int uSerial, .int uDown])), (a_st, .inl (cI, n, .inl uSts))] t.heap ∧ va_K (dC, dI) classes [(cI, .int), (cZ, .boolean), (cJ, .long)] t ∧ va_D (va_A [(a_u, .inr (0, [.ref a_d, .ref a_p, .ref a_r, .ref a_c, .ref a_st, .ref a_pl, .int uOpen, .int uFill, .int uSaved, .int uSerial, .int uDown])), (a_st, .inl (cI, n, .inl uSts))] sz) [(a_u, .inr (0, [.ref a_d, .ref a_p, .ref a_r, .ref a_c, .ref a_st, .ref a_pl, .int uOpen, .int uFill, .int uSaved, .int uSerial, .int uDown])), (a_st, .inl (cI, n, .inl uSts))]) (va_A [(a_u, .inr (0, [.ref a_d, .ref a_p, .ref a_r, .ref a_c, .ref a_st, .ref a_pl, .int uOpen, .int uFill, .int uSaved, .int uSerial, .int uDown])), (a_st, .inl (cI, n, .inl uSts))] sz)) 0 0 (va_A [(a_u, .inr (0, [.ref a_d, .ref a_p, .ref a_r, .ref a_c, .ref a_st, .ref a_pl, .int uOpen, .int uFill, .int uSaved, .int uSerial, .int uDown])), (a_st, .inl (cI, n, .inl uSts))] sz) := by
  refine Met.ofW (cc := b_U_freeSegments) (maxL := 3) (ret := (some .int)) (by decide) rfl ?_
  intro p e s m args below meth c s₁ B hml hv
  obtain ⟨rfl, hsz, hP, hK, hD0, hN⟩ := hv
  have hx := B.exec
  have hb := B.bytes
  have hr := B.returns
  have hts := atoms_spec (ws := w_U_freeSegments) B.pre
  have htT : ∀ w ∈ lwG, w.before _ s = true := fun w h => hts w (List.mem_cons_of_mem _ h)
  have hown : s.vm.findClass R_U = some m.cls := findClass_of_methodNamed B.named
  have hlocks := B.notSynchronized
  subst hsz
  have hD := hD0.self (sz := s.heap.size)
  generalize hAe : va_A [(a_u, .inr (0, [.ref a_d, .ref a_p, .ref a_r, .ref a_c, .ref a_st, .ref a_pl, .int uOpen, .int uFill, .int uSaved, .int uSerial, .int uDown])), (a_st, .inl (cI, n, .inl uSts))] s.heap.size = A at hD ⊢
  have hA : ∀ q : Nat, s.heap.size ≤ q → A q := fun q h => by rw [← hAe]; exact Or.inr h
  have hS : va_S A s.heap s.heap [] := va_S.rf
  have hP : va_P (dC, dI) classes [(a_u, .inr (0, [.ref a_d, .ref a_p, .ref a_r, .ref a_c, .ref a_st, .ref a_pl, .int uOpen, .int uFill, .int uSaved, .int uSerial, .int uDown])), (a_st, .inl (cI, n, .inl uSts))] s.heap := hP
  have hl := lv_entry ([.ref a_u]) (n := 3) (Nat.le_of_ble_eq_true rfl)
  rw [lg_entry_eq]
  generalize (lg_sl ([.ref a_u]) ++ List.replicate (3 - (lg_sl ([.ref a_u])).length) Slot.unset).toArray = ls at hl ⊢
  have hl : lv_has ls 3 [(0, .ref a_u)] := hl
  have h := hM
  rw [U_freeSegments] at h
  refine lv_iconst (v := (0 : Int32)) hx hb d_U_freeSegments_0 (by decide) ?_
  refine lv_istore_n hx hb d_U_freeSegments_1 rfl hl (by decide) rfl (fun ls hl => ?_)
  have hl : lv_has ls 3 [(1, .int (0 : Int32)), (0, .ref a_u)] := hl
  refine lv_iconst (v := (0 : Int32)) hx hb d_U_freeSegments_2 (by decide) ?_
  refine lv_istore_n hx hb d_U_freeSegments_3 rfl hl (by decide) rfl (fun ls hl => ?_)
  have hl : lv_has ls 3 [(2, .int (0 : Int32)), (1, .int (0 : Int32)), (0, .ref a_u)] := hl
  have L4 : ∀ (K4 : Int32 → Int32 → Option (Int32)) (fuel : Nat) (x1_w4 : Int32) (x2_w4 : Int32) (ls : Array Slot) (H : Heap) (locs : List Loc), lv_has ls 3 [(0, .ref a_u), (1, .int x1_w4), (2, .int x2_w4)] → va_P (dC, dI) classes [(a_u, .inr (0, [.ref a_d, .ref a_p, .ref a_r, .ref a_c, .ref a_st, .ref a_pl, .int uOpen, .int uFill, .int uSaved, .int uSerial, .int uDown])), (a_st, .inl (cI, n, .inl uSts))] H → va_D A [(a_u, .inr (0, [.ref a_d, .ref a_p, .ref a_r, .ref a_c, .ref a_st, .ref a_pl, .int uOpen, .int uFill, .int uSaved, .int uSerial, .int uDown])), (a_st, .inl (cI, n, .inl uSts))] → va_S A s.heap H locs → U_freeSegments_L4 n uSts K4 fuel x1_w4 x2_w4 = some res → (∀ (x1_w4 : Int32) (x2_w4 : Int32) (ls : Array Slot) (H : Heap) (locs : List Loc), lv_has ls 3 [(0, .ref a_u), (1, .int x1_w4), (2, .int x2_w4)] → va_P (dC, dI) classes [(a_u, .inr (0, [.ref a_d, .ref a_p, .ref a_r, .ref a_c, .ref a_st, .ref a_pl, .int uOpen, .int uFill, .int uSaved, .int uSerial, .int uDown])), (a_st, .inl (cI, n, .inl uSts))] H → va_D A [(a_u, .inr (0, [.ref a_d, .ref a_p, .ref a_r, .ref a_c, .ref a_st, .ref a_pl, .int uOpen, .int uFill, .int uSaved, .int uSerial, .int uDown])), (a_st, .inl (cI, n, .inl uSts))] → va_S A s.heap H locs → K4 x1_w4 x2_w4 = some res → W p l e (headSpec w_U_freeSegments ({ frames := 0, cells := 0, slots := 0, locals := 0 })).room s m ([.ref a_u] : List Value).toArray below meth c H locs 0 0 (MQ below (va_Qi (fun (r : Int32) (z : Unit) => res = r) (fun (z : Unit) (t : State) => va_P (dC, dI) classes [(a_u, .inr (0, [.ref a_d, .ref a_p, .ref a_r, .ref a_c, .ref a_st, .ref a_pl, .int uOpen, .int uFill, .int uSaved, .int uSerial, .int uDown])), (a_st, .inl (cI, n, .inl uSts))] t.heap ∧ va_K (dC, dI) classes [(cI, .int), (cZ, .boolean), (cJ, .long)] t ∧ va_D A [(a_u, .inr (0, [.ref a_d, .ref a_p, .ref a_r, .ref a_c, .ref a_st, .ref a_pl, .int uOpen, .int uFill, .int uSaved, .int uSerial, .int uDown])), (a_st, .inl (cI, n, .inl uSts))]) A) ([.ref a_u] : List Value).toArray s 0 0 A) (F0 m 31 ls [])) → W p l e (headSpec w_U_freeSegments ({ frames := 0, cells := 0, slots := 0, locals := 0 })).room s m ([.ref a_u] : List Value).toArray below meth c H locs 0 0 (MQ below (va_Qi (fun (r : Int32) (z : Unit) => res = r) (fun (z : Unit) (t : State) => va_P (dC, dI) classes [(a_u, .inr (0, [.ref a_d, .ref a_p, .ref a_r, .ref a_c, .ref a_st, .ref a_pl, .int uOpen, .int uFill, .int uSaved, .int uSerial, .int uDown])), (a_st, .inl (cI, n, .inl uSts))] t.heap ∧ va_K (dC, dI) classes [(cI, .int), (cZ, .boolean), (cJ, .long)] t ∧ va_D A [(a_u, .inr (0, [.ref a_d, .ref a_p, .ref a_r, .ref a_c, .ref a_st, .ref a_pl, .int uOpen, .int uFill, .int uSaved, .int uSerial, .int uDown])), (a_st, .inl (cI, n, .inl uSts))]) A) ([.ref a_u] : List Value).toArray s 0 0 A) (F0 m 4 ls []) := by
    intro K4 fuel
    induction fuel with
    | zero => intro x1_w4 x2_w4 ls H locs hl hP hD hS h hk4; exact absurd (show (none : Option (Int32)) = some res from h) (by intro q; cases q)
    | succ fuel ih4 =>
      intro x1_w4 x2_w4 ls H locs hl hP hD hS h hk4
      rw [U_freeSegments_L4] at h
      refine lv_iload_n hx hb d_U_freeSegments_4 rfl (lv_at hl 2 rfl) ?_
      refine lv_aload_n hx hb d_U_freeSegments_5 rfl (lv_at hl 0 rfl) ?_
      refine va_get (D := (dC, dI)) (ci := 0) (v := .ref a_st) (C := R_U) (T := F_U) (N := 11) hx hb htT i_U hown hK hP 0 rfl rfl 4 (by decide) (htT _ kf_U_48) (fun _ h9 => h9) rfl d_U_freeSegments_6 ?_
      refine va_alen (v := (nI n)) hx hb hK hP 1 0 rfl rfl rfl d_U_freeSegments_9 ?_
      refine lv_icmp_ge (tgt := 31) hx hb d_U_freeSegments_10 (by decide) (fun hc => ?_) (fun hc => ?_)
      · have h := ck_t hc h
        have hl : lv_has ls 3 [(0, .ref a_u), (1, .int x1_w4), (2, .int x2_w4)] := lv_sub hl [0, 1, 2] rfl
        exact hk4 _ _ _ _ _ hl hP hD hS h
      · have h := ck_f hc h
        refine lv_aload_n hx hb d_U_freeSegments_13 rfl (lv_at hl 0 rfl) ?_
        refine va_get (D := (dC, dI)) (ci := 0) (v := .ref a_st) (C := R_U) (T := F_U) (N := 11) hx hb htT i_U hown hK hP 0 rfl rfl 4 (by decide) (htT _ kf_U_48) (fun _ h9 => h9) rfl d_U_freeSegments_14 ?_
        refine lv_iload_n hx hb d_U_freeSegments_17 rfl (lv_at hl 2 rfl) ?_
        obtain ⟨hin, h⟩ := ck_in h
        refine va_iald hx hb hK hP 1 0 rfl rfl hin d_U_freeSegments_18 ?_
        refine lv_if_ne (tgt := 25) hx hb d_U_freeSegments_19 (by decide) (fun hc => ?_) (fun hc => ?_)
        · have h := ck_f hc h
          refine lv_iinc (k := 2) (v := (x2_w4 + (1 : Int32))) hx hb d_U_freeSegments_25 hl rfl (congrArg (fun y => x2_w4 + y) (by decide)) (by decide) rfl (fun ls hl => ?_)
          have hl : lv_has ls 3 [(2, .int (x2_w4 + (1 : Int32))), (0, .ref a_u), (1, .int x1_w4)] := hl
          refine lv_goto (tgt := 4) hx hb d_U_freeSegments_28 (by decide) ?_
          have hl : lv_has ls 3 [(0, .ref a_u), (1, .int x1_w4), (2, .int (x2_w4 + (1 : Int32)))] := lv_sub hl [1, 2, 0] rfl
          exact ih4 _ _ _ _ _ hl hP hD hS h hk4
        · have h := ck_t hc h
          refine lv_iinc (k := 1) (v := (x1_w4 + (1 : Int32))) hx hb d_U_freeSegments_22 hl rfl (congrArg (fun y => x1_w4 + y) (by decide)) (by decide) rfl (fun ls hl => ?_)
          have hl : lv_has ls 3 [(1, .int (x1_w4 + (1 : Int32))), (0, .ref a_u), (2, .int x2_w4)] := hl
          refine lv_iinc (k := 2) (v := (x2_w4 + (1 : Int32))) hx hb d_U_freeSegments_25 hl rfl (congrArg (fun y => x2_w4 + y) (by decide)) (by decide) rfl (fun ls hl => ?_)
          have hl : lv_has ls 3 [(2, .int (x2_w4 + (1 : Int32))), (1, .int (x1_w4 + (1 : Int32))), (0, .ref a_u)] := hl
          refine lv_goto (tgt := 4) hx hb d_U_freeSegments_28 (by decide) ?_
          have hl : lv_has ls 3 [(0, .ref a_u), (1, .int (x1_w4 + (1 : Int32))), (2, .int (x2_w4 + (1 : Int32)))] := lv_sub hl [2, 1, 0] rfl
          exact ih4 _ _ _ _ _ hl hP hD hS h hk4
  have hl : lv_has ls 3 [(0, .ref a_u), (1, .int (0 : Int32)), (2, .int (0 : Int32))] := lv_sub hl [2, 1, 0] rfl
  refine L4 _ _ _ _ _ _ _ hl hP hD hS h ?_
  intro x1_k4 x2_k4 ls H locs hl hP hD hS h
  refine lv_iload_n hx hb d_U_freeSegments_31 rfl (lv_at hl 1 rfl) ?_
  exact W.iret (v := x1_k4) hx hb hr (fun t ht hW => ⟨⟨x1_k4, (), rfl, (Option.some.inj h).symm, by rw [ht]; exact hP, va_K.moved hW.alike hK, hD⟩, hS.F ht⟩) hS.2.2 d_U_freeSegments_32
set_option maxHeartbeats 4000000 in
set_option maxRecDepth 100000 in
theorem c_D_writeUnit (l : Launch) (dC : Nat → ClassId) (dI : Nat → Nat → Nat) (cI cZ cJ : ClassId) (a_u a_d a_p a_pb a_pf a_r a_rs a_rb a_ru a_rz a_rh a_rl a_c a_cp a_st a_pl : Nat) (sz n N : Nat) (uArmed : Int32) (uWritten : Int32)  (res : Int32 × Int32 × Int32) (hM : D_writeUnit uArmed uWritten = some res) : Met l y_D_writeUnit w_D_writeUnit ({ frames := 0, cells := 0, slots := 0, locals := 0 }) (va_Pc [.ref a_d] (fun U => U.heap.size = sz ∧ va_P (dC, dI) classes [(a_d, .inr (1, [.int uArmed, .int uWritten]))] U.heap ∧ va_K (dC, dI) classes [(cI, .int), (cZ, .boolean), (cJ, .long)] U ∧ va_D (fun _ => True) [(a_d, .inr (1, [.int uArmed, .int uWritten]))] ∧ Ns U)) (va_Qi (fun (r : Int32) (z : Int32 × Int32) => res = (r, z)) (fun (z : Int32 × Int32) (t : State) => va_P (dC, dI) classes [(a_d, .inr (1, [.int z.1, .int z.2]))] t.heap ∧ va_K (dC, dI) classes [(cI, .int), (cZ, .boolean), (cJ, .long)] t ∧ va_D (va_A [(a_d, .inr (1, [.int uArmed, .int uWritten]))] sz) [(a_d, .inr (1, [.int z.1, .int z.2]))]) (va_A [(a_d, .inr (1, [.int uArmed, .int uWritten]))] sz)) 0 0 (va_A [(a_d, .inr (1, [.int uArmed, .int uWritten]))] sz) := by
  refine Met.ofW (cc := b_D_writeUnit) (maxL := 1) (ret := (some .boolean)) (by decide) rfl ?_
  intro p e s m args below meth c s₁ B hml hv
  obtain ⟨rfl, hsz, hP, hK, hD0, hN⟩ := hv
  have hx := B.exec
  have hb := B.bytes
  have hr := B.returns
  have hts := atoms_spec (ws := w_D_writeUnit) B.pre
  have htT : ∀ w ∈ lwG, w.before _ s = true := fun w h => hts w (List.mem_cons_of_mem _ h)
  have hown : s.vm.findClass R_D = some m.cls := findClass_of_methodNamed B.named
  have hlocks := B.notSynchronized
  subst hsz
  have hD := hD0.self (sz := s.heap.size)
  generalize hAe : va_A [(a_d, .inr (1, [.int uArmed, .int uWritten]))] s.heap.size = A at hD ⊢
  have hA : ∀ q : Nat, s.heap.size ≤ q → A q := fun q h => by rw [← hAe]; exact Or.inr h
  have hS : va_S A s.heap s.heap [] := va_S.rf
  have hP : va_P (dC, dI) classes [(a_d, .inr (1, [.int uArmed, .int uWritten]))] s.heap := hP
  have hl := lv_entry ([.ref a_d]) (n := 1) (Nat.le_of_ble_eq_true rfl)
  rw [lg_entry_eq]
  generalize (lg_sl ([.ref a_d]) ++ List.replicate (1 - (lg_sl ([.ref a_d])).length) Slot.unset).toArray = ls at hl ⊢
  have hl : lv_has ls 1 [(0, .ref a_d)] := hl
  have h := hM
  rw [D_writeUnit] at h
  refine lv_aload_n hx hb d_D_writeUnit_0 rfl (lv_at hl 0 rfl) ?_
  refine va_get (D := (dC, dI)) (ci := 1) (v := .int uArmed) (C := R_D) (T := F_D) (N := 2) hx hb htT i_D hown hK hP 0 rfl rfl 0 (by decide) (htT _ kf_D_9) (fun _ h9 => h9) rfl d_D_writeUnit_1 ?_
  refine lv_if_ne (tgt := 9) hx hb d_D_writeUnit_4 (by decide) (fun hc => ?_) (fun hc => ?_)
  · have h := ck_f hc h
    refine lv_aload_n hx hb d_D_writeUnit_9 rfl (lv_at hl 0 rfl) ?_
    refine va_get (D := (dC, dI)) (ci := 1) (v := .int uArmed) (C := R_D) (T := F_D) (N := 2) hx hb htT i_D hown hK hP 0 rfl rfl 0 (by decide) (htT _ kf_D_9) (fun _ h9 => h9) rfl d_D_writeUnit_10 ?_
    refine lv_if_le (tgt := 26) hx hb d_D_writeUnit_13 (by decide) (fun hc => ?_) (fun hc => ?_)
    · have h := ck_t hc h
      refine lv_aload_n hx hb d_D_writeUnit_26 rfl (lv_at hl 0 rfl) ?_
      refine lv_dup hx hb d_D_writeUnit_27 rfl ?_
      refine va_get (D := (dC, dI)) (ci := 1) (v := .int uWritten) (C := R_D) (T := F_D) (N := 2) hx hb htT i_D hown hK hP 0 rfl rfl 1 (by decide) (htT _ kf_D_15) (fun _ h9 => h9) rfl d_D_writeUnit_28 ?_
      refine lv_iconst (v := (1 : Int32)) hx hb d_D_writeUnit_31 (by decide) ?_
      refine lv_iadd hx hb d_D_writeUnit_32 ?_
      refine va_put (D := (dC, dI)) (ci := 1) (v := .int (uWritten + (1 : Int32))) (ty := .int) (C := R_D) (T := F_D) (N := 2) hx hb htT i_D t_D t_D_ok n_D hown hK hP hD hS 0 rfl rfl 1 (by decide) (htT _ kf_D_15) (fun _ h9 => h9) rfl (by decide +kernel) rfl rfl (Nat.le_of_ble_eq_true rfl) d_D_writeUnit_33 (fun H locs hP hD hS => ?_)
      have hP : va_P (dC, dI) classes [(a_d, .inr (1, [.int uArmed, .int (uWritten + (1 : Int32))]))] H := hP
      have hD : va_D A [(a_d, .inr (1, [.int uArmed, .int (uWritten + (1 : Int32))]))] := hD
      refine lv_iconst (v := (1 : Int32)) hx hb d_D_writeUnit_36 (by decide) ?_
      exact W.zret (v := (1 : Int32)) hx hb hr rfl (fun t ht hW => ⟨⟨(1 : Int32), (uArmed, (uWritten + (1 : Int32))), rfl, (Option.some.inj h).symm, by rw [ht]; exact hP, va_K.moved hW.alike hK, hD⟩, hS.F ht⟩) hS.2.2 d_D_writeUnit_37
    · have h := ck_f hc h
      refine lv_aload_n hx hb d_D_writeUnit_16 rfl (lv_at hl 0 rfl) ?_
      refine lv_dup hx hb d_D_writeUnit_17 rfl ?_
      refine va_get (D := (dC, dI)) (ci := 1) (v := .int uArmed) (C := R_D) (T := F_D) (N := 2) hx hb htT i_D hown hK hP 0 rfl rfl 0 (by decide) (htT _ kf_D_9) (fun _ h9 => h9) rfl d_D_writeUnit_18 ?_
      refine lv_iconst (v := (1 : Int32)) hx hb d_D_writeUnit_21 (by decide) ?_
      refine lv_isub hx hb d_D_writeUnit_22 ?_
      refine va_put (D := (dC, dI)) (ci := 1) (v := .int (uArmed - (1 : Int32))) (ty := .int) (C := R_D) (T := F_D) (N := 2) hx hb htT i_D t_D t_D_ok n_D hown hK hP hD hS 0 rfl rfl 0 (by decide) (htT _ kf_D_9) (fun _ h9 => h9) rfl (by decide +kernel) rfl rfl (Nat.le_of_ble_eq_true rfl) d_D_writeUnit_23 (fun H locs hP hD hS => ?_)
      have hP : va_P (dC, dI) classes [(a_d, .inr (1, [.int (uArmed - (1 : Int32)), .int uWritten]))] H := hP
      have hD : va_D A [(a_d, .inr (1, [.int (uArmed - (1 : Int32)), .int uWritten]))] := hD
      refine lv_aload_n hx hb d_D_writeUnit_26 rfl (lv_at hl 0 rfl) ?_
      refine lv_dup hx hb d_D_writeUnit_27 rfl ?_
      refine va_get (D := (dC, dI)) (ci := 1) (v := .int uWritten) (C := R_D) (T := F_D) (N := 2) hx hb htT i_D hown hK hP 0 rfl rfl 1 (by decide) (htT _ kf_D_15) (fun _ h9 => h9) rfl d_D_writeUnit_28 ?_
      refine lv_iconst (v := (1 : Int32)) hx hb d_D_writeUnit_31 (by decide) ?_
      refine lv_iadd hx hb d_D_writeUnit_32 ?_
      refine va_put (D := (dC, dI)) (ci := 1) (v := .int (uWritten + (1 : Int32))) (ty := .int) (C := R_D) (T := F_D) (N := 2) hx hb htT i_D t_D t_D_ok n_D hown hK hP hD hS 0 rfl rfl 1 (by decide) (htT _ kf_D_15) (fun _ h9 => h9) rfl (by decide +kernel) rfl rfl (Nat.le_of_ble_eq_true rfl) d_D_writeUnit_33 (fun H locs hP hD hS => ?_)
      have hP : va_P (dC, dI) classes [(a_d, .inr (1, [.int (uArmed - (1 : Int32)), .int (uWritten + (1 : Int32))]))] H := hP
      have hD : va_D A [(a_d, .inr (1, [.int (uArmed - (1 : Int32)), .int (uWritten + (1 : Int32))]))] := hD
      refine lv_iconst (v := (1 : Int32)) hx hb d_D_writeUnit_36 (by decide) ?_
      exact W.zret (v := (1 : Int32)) hx hb hr rfl (fun t ht hW => ⟨⟨(1 : Int32), ((uArmed - (1 : Int32)), (uWritten + (1 : Int32))), rfl, (Option.some.inj h).symm, by rw [ht]; exact hP, va_K.moved hW.alike hK, hD⟩, hS.F ht⟩) hS.2.2 d_D_writeUnit_37
  · have h := ck_t hc h
    refine lv_iconst (v := (0 : Int32)) hx hb d_D_writeUnit_7 (by decide) ?_
    exact W.zret (v := (0 : Int32)) hx hb hr rfl (fun t ht hW => ⟨⟨(0 : Int32), (uArmed, uWritten), rfl, (Option.some.inj h).symm, by rw [ht]; exact hP, va_K.moved hW.alike hK, hD⟩, hS.F ht⟩) hS.2.2 d_D_writeUnit_8
set_option maxHeartbeats 4000000 in
set_option maxRecDepth 100000 in
theorem c_U_saveUnits (l : Launch) (dC : Nat → ClassId) (dI : Nat → Nat → Nat) (cI cZ cJ : ClassId) (a_u a_d a_p a_pb a_pf a_r a_rs a_rb a_ru a_rz a_rh a_rl a_c a_cp a_st a_pl : Nat) (sz n N : Nat) (uOpen : Int32) (uFill : Int32) (uSaved : Int32) (uSerial : Int32) (uDown : Int32) (uArmed : Int32) (uWritten : Int32)  (res : Int32 × Int32 × Int32 × Int32) (hM : U_saveUnits uFill uSaved uArmed uWritten = some res) : Met l y_U_saveUnits w_U_saveUnits ({ frames := 1, cells := 0, slots := 0, locals := 20 }) (va_Pc [.ref a_u] (fun U => U.heap.size = sz ∧ va_P (dC, dI) classes [(a_u, .inr (0, [.ref a_d, .ref a_p, .ref a_r, .ref a_c, .ref a_st, .ref a_pl, .int uOpen, .int uFill, .int uSaved, .int uSerial, .int uDown])), (a_d, .inr (1, [.int uArmed, .int uWritten]))] U.heap ∧ va_K (dC, dI) classes [(cI, .int), (cZ, .boolean), (cJ, .long)] U ∧ va_D (fun _ => True) [(a_u, .inr (0, [.ref a_d, .ref a_p, .ref a_r, .ref a_c, .ref a_st, .ref a_pl, .int uOpen, .int uFill, .int uSaved, .int uSerial, .int uDown])), (a_d, .inr (1, [.int uArmed, .int uWritten]))] ∧ Ns U)) (va_Qi (fun (r : Int32) (z : Int32 × Int32 × Int32) => res = (r, z)) (fun (z : Int32 × Int32 × Int32) (t : State) => va_P (dC, dI) classes [(a_u, .inr (0, [.ref a_d, .ref a_p, .ref a_r, .ref a_c, .ref a_st, .ref a_pl, .int uOpen, .int uFill, .int z.1, .int uSerial, .int uDown])), (a_d, .inr (1, [.int z.2.1, .int z.2.2]))] t.heap ∧ va_K (dC, dI) classes [(cI, .int), (cZ, .boolean), (cJ, .long)] t ∧ va_D (va_A [(a_u, .inr (0, [.ref a_d, .ref a_p, .ref a_r, .ref a_c, .ref a_st, .ref a_pl, .int uOpen, .int uFill, .int uSaved, .int uSerial, .int uDown])), (a_d, .inr (1, [.int uArmed, .int uWritten]))] sz) [(a_u, .inr (0, [.ref a_d, .ref a_p, .ref a_r, .ref a_c, .ref a_st, .ref a_pl, .int uOpen, .int uFill, .int z.1, .int uSerial, .int uDown])), (a_d, .inr (1, [.int z.2.1, .int z.2.2]))]) (va_A [(a_u, .inr (0, [.ref a_d, .ref a_p, .ref a_r, .ref a_c, .ref a_st, .ref a_pl, .int uOpen, .int uFill, .int uSaved, .int uSerial, .int uDown])), (a_d, .inr (1, [.int uArmed, .int uWritten]))] sz)) 0 0 (va_A [(a_u, .inr (0, [.ref a_d, .ref a_p, .ref a_r, .ref a_c, .ref a_st, .ref a_pl, .int uOpen, .int uFill, .int uSaved, .int uSerial, .int uDown])), (a_d, .inr (1, [.int uArmed, .int uWritten]))] sz) := by
  refine Met.ofW (cc := b_U_saveUnits) (maxL := 2) (ret := (some .boolean)) (by decide) rfl ?_
  intro p e s m args below meth c s₁ B hml hv
  obtain ⟨rfl, hsz, hP, hK, hD0, hN⟩ := hv
  have hx := B.exec
  have hb := B.bytes
  have hr := B.returns
  have hts := atoms_spec (ws := w_U_saveUnits) B.pre
  have htT : ∀ w ∈ lwG, w.before _ s = true := fun w h => hts w (List.mem_cons_of_mem _ h)
  have hown : s.vm.findClass R_U = some m.cls := findClass_of_methodNamed B.named
  have hlocks := B.notSynchronized
  subst hsz
  have hD := hD0.self (sz := s.heap.size)
  generalize hAe : va_A [(a_u, .inr (0, [.ref a_d, .ref a_p, .ref a_r, .ref a_c, .ref a_st, .ref a_pl, .int uOpen, .int uFill, .int uSaved, .int uSerial, .int uDown])), (a_d, .inr (1, [.int uArmed, .int uWritten]))] s.heap.size = A at hD ⊢
  have hA : ∀ q : Nat, s.heap.size ≤ q → A q := fun q h => by rw [← hAe]; exact Or.inr h
  have hS : va_S A s.heap s.heap [] := va_S.rf
  have hP : va_P (dC, dI) classes [(a_u, .inr (0, [.ref a_d, .ref a_p, .ref a_r, .ref a_c, .ref a_st, .ref a_pl, .int uOpen, .int uFill, .int uSaved, .int uSerial, .int uDown])), (a_d, .inr (1, [.int uArmed, .int uWritten]))] s.heap := hP
  have hl := lv_entry ([.ref a_u]) (n := 2) (Nat.le_of_ble_eq_true rfl)
  rw [lg_entry_eq]
  generalize (lg_sl ([.ref a_u]) ++ List.replicate (2 - (lg_sl ([.ref a_u])).length) Slot.unset).toArray = ls at hl ⊢
  have hl : lv_has ls 2 [(0, .ref a_u)] := hl
  have h := hM
  rw [U_saveUnits] at h
  refine lv_aload_n hx hb d_U_saveUnits_0 rfl (lv_at hl 0 rfl) ?_
  refine va_get (D := (dC, dI)) (ci := 0) (v := .int uSaved) (C := R_U) (T := F_U) (N := 11) hx hb htT i_U hown hK hP 0 rfl rfl 8 (by decide) (htT _ kf_U_103) (fun _ h9 => h9) rfl d_U_saveUnits_1 ?_
  refine lv_istore_n hx hb d_U_saveUnits_4 rfl hl (by decide) rfl (fun ls hl => ?_)
  have hl : lv_has ls 2 [(1, .int uSaved), (0, .ref a_u)] := hl
  have L5 : ∀ (K5 : Int32 → Int32 → Int32 → Int32 → Option (Int32 × Int32 × Int32 × Int32)) (fuel : Nat) (uSaved_w5 : Int32) (uArmed_w5 : Int32) (uWritten_w5 : Int32) (x1_w5 : Int32) (ls : Array Slot) (H : Heap) (locs : List Loc), lv_has ls 2 [(0, .ref a_u), (1, .int x1_w5)] → va_P (dC, dI) classes [(a_u, .inr (0, [.ref a_d, .ref a_p, .ref a_r, .ref a_c, .ref a_st, .ref a_pl, .int uOpen, .int uFill, .int uSaved_w5, .int uSerial, .int uDown])), (a_d, .inr (1, [.int uArmed_w5, .int uWritten_w5]))] H → va_D A [(a_u, .inr (0, [.ref a_d, .ref a_p, .ref a_r, .ref a_c, .ref a_st, .ref a_pl, .int uOpen, .int uFill, .int uSaved_w5, .int uSerial, .int uDown])), (a_d, .inr (1, [.int uArmed_w5, .int uWritten_w5]))] → va_S A s.heap H locs → U_saveUnits_L5 uFill K5 fuel uSaved_w5 uArmed_w5 uWritten_w5 x1_w5 = some res → (∀ (uSaved_w5 : Int32) (uArmed_w5 : Int32) (uWritten_w5 : Int32) (x1_w5 : Int32) (ls : Array Slot) (H : Heap) (locs : List Loc), lv_has ls 2 [(0, .ref a_u), (1, .int x1_w5)] → va_P (dC, dI) classes [(a_u, .inr (0, [.ref a_d, .ref a_p, .ref a_r, .ref a_c, .ref a_st, .ref a_pl, .int uOpen, .int uFill, .int uSaved_w5, .int uSerial, .int uDown])), (a_d, .inr (1, [.int uArmed_w5, .int uWritten_w5]))] H → va_D A [(a_u, .inr (0, [.ref a_d, .ref a_p, .ref a_r, .ref a_c, .ref a_st, .ref a_pl, .int uOpen, .int uFill, .int uSaved_w5, .int uSerial, .int uDown])), (a_d, .inr (1, [.int uArmed_w5, .int uWritten_w5]))] → va_S A s.heap H locs → K5 uSaved_w5 uArmed_w5 uWritten_w5 x1_w5 = some res → W p l e (headSpec w_U_saveUnits ({ frames := 1, cells := 0, slots := 0, locals := 20 })).room s m ([.ref a_u] : List Value).toArray below meth c H locs 0 0 (MQ below (va_Qi (fun (r : Int32) (z : Int32 × Int32 × Int32) => res = (r, z)) (fun (z : Int32 × Int32 × Int32) (t : State) => va_P (dC, dI) classes [(a_u, .inr (0, [.ref a_d, .ref a_p, .ref a_r, .ref a_c, .ref a_st, .ref a_pl, .int uOpen, .int uFill, .int z.1, .int uSerial, .int uDown])), (a_d, .inr (1, [.int z.2.1, .int z.2.2]))] t.heap ∧ va_K (dC, dI) classes [(cI, .int), (cZ, .boolean), (cJ, .long)] t ∧ va_D A [(a_u, .inr (0, [.ref a_d, .ref a_p, .ref a_r, .ref a_c, .ref a_st, .ref a_pl, .int uOpen, .int uFill, .int z.1, .int uSerial, .int uDown])), (a_d, .inr (1, [.int z.2.1, .int z.2.2]))]) A) ([.ref a_u] : List Value).toArray s 0 0 A) (F0 m 38 ls [])) → W p l e (headSpec w_U_saveUnits ({ frames := 1, cells := 0, slots := 0, locals := 20 })).room s m ([.ref a_u] : List Value).toArray below meth c H locs 0 0 (MQ below (va_Qi (fun (r : Int32) (z : Int32 × Int32 × Int32) => res = (r, z)) (fun (z : Int32 × Int32 × Int32) (t : State) => va_P (dC, dI) classes [(a_u, .inr (0, [.ref a_d, .ref a_p, .ref a_r, .ref a_c, .ref a_st, .ref a_pl, .int uOpen, .int uFill, .int z.1, .int uSerial, .int uDown])), (a_d, .inr (1, [.int z.2.1, .int z.2.2]))] t.heap ∧ va_K (dC, dI) classes [(cI, .int), (cZ, .boolean), (cJ, .long)] t ∧ va_D A [(a_u, .inr (0, [.ref a_d, .ref a_p, .ref a_r, .ref a_c, .ref a_st, .ref a_pl, .int uOpen, .int uFill, .int z.1, .int uSerial, .int uDown])), (a_d, .inr (1, [.int z.2.1, .int z.2.2]))]) A) ([.ref a_u] : List Value).toArray s 0 0 A) (F0 m 5 ls []) := by
    intro K5 fuel
    induction fuel with
    | zero => intro uSaved_w5 uArmed_w5 uWritten_w5 x1_w5 ls H locs hl hP hD hS h hk5; exact absurd (show (none : Option (Int32 × Int32 × Int32 × Int32)) = some res from h) (by intro q; cases q)
    | succ fuel ih5 =>
      intro uSaved_w5 uArmed_w5 uWritten_w5 x1_w5 ls H locs hl hP hD hS h hk5
      rw [U_saveUnits_L5] at h
      refine lv_iload_n hx hb d_U_saveUnits_5 rfl (lv_at hl 1 rfl) ?_
      refine lv_aload_n hx hb d_U_saveUnits_6 rfl (lv_at hl 0 rfl) ?_
      refine va_get (D := (dC, dI)) (ci := 0) (v := .int uFill) (C := R_U) (T := F_U) (N := 11) hx hb htT i_U hown hK hP 0 rfl rfl 7 (by decide) (htT _ kf_U_101) (fun _ h9 => h9) rfl d_U_saveUnits_7 ?_
      refine lv_icmp_ge (tgt := 38) hx hb d_U_saveUnits_10 (by decide) (fun hc => ?_) (fun hc => ?_)
      · have h := ck_t hc h
        have hl : lv_has ls 2 [(0, .ref a_u), (1, .int x1_w5)] := lv_sub hl [0, 1] rfl
        exact hk5 _ _ _ _ _ _ _ hl hP hD hS h
      · have h := ck_f hc h
        refine lv_aload_n hx hb d_U_saveUnits_13 rfl (lv_at hl 0 rfl) ?_
        refine va_get (D := (dC, dI)) (ci := 0) (v := .ref a_d) (C := R_U) (T := F_U) (N := 11) hx hb htT i_U hown hK hP 0 rfl rfl 0 (by decide) (htT _ kf_U_21) (fun _ h9 => h9) rfl d_U_saveUnits_14 ?_
        obtain ⟨z1, hz, h⟩ := ck_bind h
        have hPc := hP.sub (ws' := [(a_d, .inr (1, [.int uArmed_w5, .int uWritten_w5]))]) [1] rfl
        have hDc := hD.sub (ws' := [(a_d, .inr (1, [.int uArmed_w5, .int uWritten_w5]))]) [1] (by decide) rfl
        have hFc := va_free (wc := [(a_d, .inr (1, [.int uArmed_w5, .int uWritten_w5]))]) hD hS hA [1] rfl
        refine va_calli (va_runV (As := []) (rest := []) ⟨hx, hb, hml, hown, htT⟩ (c_D_writeUnit l dC dI cI cZ cJ a_u a_d a_p a_pb a_pf a_r a_rs a_rb a_ru a_rz a_rh a_rl a_c a_cp a_st a_pl H.size n N uArmed_w5 uWritten_w5  z1 hz) (cwV 0 htT (gV kl_U_175 ki_D_writeUnit ke_D_writeUnit kn_D kc_D_writeUnit) rfl rfl rfl (by decide +kernel) ⟨Nat.le_of_ble_eq_true rfl, Nat.le_of_ble_eq_true rfl⟩) ⟨fun a U g mk q => by obtain ⟨q0, q1, qP, qK, qD, qN⟩ := q; exact ⟨q0, q1, qP, va_K.moved (u := U) (U := U.calling g mk a) (Vm.Alike.refl U.vm) qK, qD, Ns.same (u := U) rfl qN⟩, va_recv (q0 := 1) (q := (R_D, F_D, 2)) hK hP (ci := 1) rfl rfl, fun U hU hW => ⟨rfl, by rw [hU], by rw [hU]; exact hPc, va_K.moved hW.alike hK, hDc.weaken (fun _ _ _ _ => trivial), Ns.warm hW hN⟩⟩ rfl rfl hl.1 rfl (lv_room (Nat.le_of_ble_eq_true rfl)) d_U_saveUnits_17 ⟨(Nat.zero_le _), (Nat.zero_le _)⟩) hS (fun q _ h => hFc q h) hFc (fun r u t H locs ht hvm hw hB hz1 hk1 hS => ?_)
        have e1 := congrArg Prod.fst hw
        have e2 := congrArg Prod.snd hw
        dsimp only at e1 e2
        subst e1
        subst e2
        obtain ⟨hP1, hK1, hD1⟩ := hB
        rw [ht] at hP1
        obtain ⟨hP, hD⟩ := va_join (wr := [(a_u, .inr (0, [.ref a_d, .ref a_p, .ref a_r, .ref a_c, .ref a_st, .ref a_pl, .int uOpen, .int uFill, .int uSaved_w5, .int uSerial, .int uDown]))]) (w1 := [(a_d, .inr (1, [.int z1.2.1, .int z1.2.2]))]) hP hD [1] [0] rfl rfl (by decide) (by decide) hk1 hFc hP1 hD1
        have hP : va_P (dC, dI) classes [(a_u, .inr (0, [.ref a_d, .ref a_p, .ref a_r, .ref a_c, .ref a_st, .ref a_pl, .int uOpen, .int uFill, .int uSaved_w5, .int uSerial, .int uDown])), (a_d, .inr (1, [.int z1.2.1, .int z1.2.2]))] H := hP
        have hD : va_D A [(a_u, .inr (0, [.ref a_d, .ref a_p, .ref a_r, .ref a_c, .ref a_st, .ref a_pl, .int uOpen, .int uFill, .int uSaved_w5, .int uSerial, .int uDown])), (a_d, .inr (1, [.int z1.2.1, .int z1.2.2]))] := hD
        refine lv_if_ne (tgt := 25) hx hb d_U_saveUnits_20 (by decide) (fun hc => ?_) (fun hc => ?_)
        · have h := ck_f hc h
          refine lv_aload_n hx hb d_U_saveUnits_25 rfl (lv_at hl 0 rfl) ?_
          refine lv_iload_n hx hb d_U_saveUnits_26 rfl (lv_at hl 1 rfl) ?_
          refine lv_iconst (v := (1 : Int32)) hx hb d_U_saveUnits_27 (by decide) ?_
          refine lv_iadd hx hb d_U_saveUnits_28 ?_
          refine va_put (D := (dC, dI)) (ci := 0) (v := .int (x1_w5 + (1 : Int32))) (ty := .int) (C := R_U) (T := F_U) (N := 11) hx hb htT i_U t_U t_U_ok n_U hown hK hP hD hS 0 rfl rfl 8 (by decide) (htT _ kf_U_103) (fun _ h9 => h9) rfl (by decide +kernel) rfl rfl (Nat.le_of_ble_eq_true rfl) d_U_saveUnits_29 (fun H locs hP hD hS => ?_)
          have hP : va_P (dC, dI) classes [(a_u, .inr (0, [.ref a_d, .ref a_p, .ref a_r, .ref a_c, .ref a_st, .ref a_pl, .int uOpen, .int uFill, .int (x1_w5 + (1 : Int32)), .int uSerial, .int uDown])), (a_d, .inr (1, [.int z1.2.1, .int z1.2.2]))] H := hP
          have hD : va_D A [(a_u, .inr (0, [.ref a_d, .ref a_p, .ref a_r, .ref a_c, .ref a_st, .ref a_pl, .int uOpen, .int uFill, .int (x1_w5 + (1 : Int32)), .int uSerial, .int uDown])), (a_d, .inr (1, [.int z1.2.1, .int z1.2.2]))] := hD
          refine lv_iinc (k := 1) (v := (x1_w5 + (1 : Int32))) hx hb d_U_saveUnits_32 hl rfl (congrArg (fun y => x1_w5 + y) (by decide)) (by decide) rfl (fun ls hl => ?_)
          have hl : lv_has ls 2 [(1, .int (x1_w5 + (1 : Int32))), (0, .ref a_u)] := hl
          refine lv_goto (tgt := 5) hx hb d_U_saveUnits_35 (by decide) ?_
          have hl : lv_has ls 2 [(0, .ref a_u), (1, .int (x1_w5 + (1 : Int32)))] := lv_sub hl [1, 0] rfl
          exact ih5 _ _ _ _ _ _ _ hl hP hD hS h hk5
        · have h := ck_t hc h
          refine lv_iconst (v := (0 : Int32)) hx hb d_U_saveUnits_23 (by decide) ?_
          exact W.zret (v := (0 : Int32)) hx hb hr rfl (fun t ht hW => ⟨⟨(0 : Int32), (uSaved_w5, z1.2.1, z1.2.2), rfl, (Option.some.inj h).symm, by rw [ht]; exact hP, va_K.moved hW.alike hK, hD⟩, hS.F ht⟩) hS.2.2 d_U_saveUnits_24
  have hl : lv_has ls 2 [(0, .ref a_u), (1, .int uSaved)] := lv_sub hl [1, 0] rfl
  refine L5 _ _ _ _ _ _ _ _ _ hl hP hD hS h ?_
  intro uSaved_k5 uArmed_k5 uWritten_k5 x1_k5 ls H locs hl hP hD hS h
  refine lv_iconst (v := (1 : Int32)) hx hb d_U_saveUnits_38 (by decide) ?_
  exact W.zret (v := (1 : Int32)) hx hb hr rfl (fun t ht hW => ⟨⟨(1 : Int32), (uSaved_k5, uArmed_k5, uWritten_k5), rfl, (Option.some.inj h).symm, by rw [ht]; exact hP, va_K.moved hW.alike hK, hD⟩, hS.F ht⟩) hS.2.2 d_U_saveUnits_39
