set_option maxHeartbeats 4000000 in
set_option maxRecDepth 100000 in
theorem c_U_isBlock (l : Launch) (dC : Nat → ClassId) (dI : Nat → Nat → Nat) (cI cZ cJ : ClassId) (sz n N : Nat)  (x0 : Int32) (res : Int32) (hM : U_isBlock x0 = some res) : Met l y_U_isBlock w_U_isBlock ({ frames := 0, cells := 0, slots := 0, locals := 0 }) (va_Pc [.int x0] (fun U => U.heap.size = sz ∧ va_P (dC, dI) classes [] U.heap ∧ va_K (dC, dI) classes [(cI, .int), (cZ, .boolean), (cJ, .long)] U ∧ va_D (fun _ => True) [] ∧ Ns U)) (va_Qi (fun (r : Int32) (z : Unit) => res = r) (fun (z : Unit) (t : State) => va_P (dC, dI) classes [] t.heap ∧ va_K (dC, dI) classes [(cI, .int), (cZ, .boolean), (cJ, .long)] t ∧ va_D (va_A [] sz) []) (va_A [] sz)) 0 0 (va_A [] sz) := by
  refine Met.ofW (cc := b_U_isBlock) (maxL := 1) (ret := (some .boolean)) (by decide) rfl ?_
  intro p e s m args below meth c s₁ B hml hv
  obtain ⟨rfl, hsz, hP, hK, hD0, hN⟩ := hv
  have hx := B.exec
  have hb := B.bytes
  have hr := B.returns
  have hts := atoms_spec (ws := w_U_isBlock) B.pre
  have htT : ∀ w ∈ lwG, w.before _ s = true := fun w h => hts w (List.mem_cons_of_mem _ h)
  have hown : s.vm.findClass R_U = some m.cls := findClass_of_methodNamed B.named
  have hlocks := B.notSynchronized
  subst hsz
  have hD := hD0.self (sz := s.heap.size)
  generalize hAe : va_A [] s.heap.size = A at hD ⊢
  have hA : ∀ q : Nat, s.heap.size ≤ q → A q := fun q h => by rw [← hAe]; exact Or.inr h
  have hS : va_S A s.heap s.heap [] := va_S.rf
  have hP : va_P (dC, dI) classes [] s.heap := hP
  have hl := lv_entry ([.int x0]) (n := 1) (Nat.le_of_ble_eq_true rfl)
  rw [lg_entry_eq]
  generalize (lg_sl ([.int x0]) ++ List.replicate (1 - (lg_sl ([.int x0])).length) Slot.unset).toArray = ls at hl ⊢
  have hl : lv_has ls 1 [(0, .int x0)] := hl
  have h := hM
  rw [U_isBlock] at h
  refine lv_iload_n hx hb d_U_isBlock_0 rfl (lv_at hl 0 rfl) ?_
  refine lv_if_lt (tgt := 14) hx hb d_U_isBlock_1 (by decide) (fun hc => ?_) (fun hc => ?_)
  · have h := ck_t hc h
    refine lv_iconst (v := (0 : Int32)) hx hb d_U_isBlock_14 (by decide) ?_
    exact W.zret (v := (0 : Int32)) hx hb hr rfl (fun t ht hW => ⟨⟨(0 : Int32), (), rfl, (Option.some.inj h).symm, by rw [ht]; exact hP, va_K.moved hW.alike hK, hD⟩, hS.F ht⟩) hS.2.2 d_U_isBlock_15
  · have h := ck_f hc h
    refine lv_iload_n hx hb d_U_isBlock_4 rfl (lv_at hl 0 rfl) ?_
    refine lv_bipush (v := (16 : Int32)) hx hb d_U_isBlock_5 (by decide) ?_
    refine lv_icmp_ge (tgt := 14) hx hb d_U_isBlock_7 (by decide) (fun hc => ?_) (fun hc => ?_)
    · have h := ck_t hc h
      refine lv_iconst (v := (0 : Int32)) hx hb d_U_isBlock_14 (by decide) ?_
      exact W.zret (v := (0 : Int32)) hx hb hr rfl (fun t ht hW => ⟨⟨(0 : Int32), (), rfl, (Option.some.inj h).symm, by rw [ht]; exact hP, va_K.moved hW.alike hK, hD⟩, hS.F ht⟩) hS.2.2 d_U_isBlock_15
    · have h := ck_f hc h
      refine lv_iconst (v := (1 : Int32)) hx hb d_U_isBlock_10 (by decide) ?_
      refine lv_goto (tgt := 15) hx hb d_U_isBlock_11 (by decide) ?_
      exact W.zret (v := (1 : Int32)) hx hb hr rfl (fun t ht hW => ⟨⟨(1 : Int32), (), rfl, (Option.some.inj h).symm, by rw [ht]; exact hP, va_K.moved hW.alike hK, hD⟩, hS.F ht⟩) hS.2.2 d_U_isBlock_15
set_option maxHeartbeats 4000000 in
set_option maxRecDepth 100000 in
theorem c_U_isSegment (l : Launch) (dC : Nat → ClassId) (dI : Nat → Nat → Nat) (cI cZ cJ : ClassId) (a_u a_d a_p a_pb a_pf a_r a_rs a_rb a_ru a_rz a_rh a_rl a_c a_cp a_st a_pl : Nat) (sz n N : Nat) (uOpen : Int32) (uFill : Int32) (uSaved : Int32) (uSerial : Int32) (uDown : Int32) (uSts : Nat → Int32) (x1 : Int32) (res : Int32) (hM : U_isSegment n x1 = some res) : Met l y_U_isSegment w_U_isSegment ({ frames := 0, cells := 0, slots := 0, locals := 0 }) (va_Pc [.ref a_u, .int x1] (fun U => U.heap.size = sz ∧ va_P (dC, dI) classes [(a_u, .inr (0, [.ref a_d, .ref a_p, .ref a_r, .ref a_c, .ref a_st, .ref a_pl, .int uOpen, .int uFill, .int uSaved, .int uSerial, .int uDown])), (a_st, .inl (cI, n, .inl uSts))] U.heap ∧ va_K (dC, dI) classes [(cI, .int), (cZ, .boolean), (cJ, .long)] U ∧ va_D (fun _ => True) [(a_u, .inr (0, [.ref a_d, .ref a_p, .ref a_r, .ref a_c, .ref a_st, .ref a_pl, .int uOpen, .int uFill, .int uSaved, .int uSerial, .int uDown])), (a_st, .inl (cI, n, .inl uSts))] ∧ Ns U)) (va_Qi (fun (r : Int32) (z : Unit) => res = r) (fun (z : Unit) (t : State) => va_P (dC, dI) classes [(a_u, .inr (0, [.ref a_d, .ref a_p, .ref a_r, .ref a_c, .ref a_st, .ref a_pl, .int uOpen, .int uFill, .int uSaved, .int uSerial, .int uDown])), (a_st, .inl (cI, n, .inl uSts))] t.heap ∧ va_K (dC, dI) classes [(cI, .int), (cZ, .boolean), (cJ, .long)] t ∧ va_D (va_A [(a_u, .inr (0, [.ref a_d, .ref a_p, .ref a_r, .ref a_c, .ref a_st, .ref a_pl, .int uOpen, .int uFill, .int uSaved, .int uSerial, .int uDown])), (a_st, .inl (cI, n, .inl uSts))] sz) [(a_u, .inr (0, [.ref a_d, .ref a_p, .ref a_r, .ref a_c, .ref a_st, .ref a_pl, .int uOpen, .int uFill, .int uSaved, .int uSerial, .int uDown])), (a_st, .inl (cI, n, .inl uSts))]) (va_A [(a_u, .inr (0, [.ref a_d, .ref a_p, .ref a_r, .ref a_c, .ref a_st, .ref a_pl, .int uOpen, .int uFill, .int uSaved, .int uSerial, .int uDown])), (a_st, .inl (cI, n, .inl uSts))] sz)) 0 0 (va_A [(a_u, .inr (0, [.ref a_d, .ref a_p, .ref a_r, .ref a_c, .ref a_st, .ref a_pl, .int uOpen, .int uFill, .int uSaved, .int uSerial, .int uDown])), (a_st, .inl (cI, n, .inl uSts))] sz) := by
  refine Met.ofW (cc := b_U_isSegment) (maxL := 2) (ret := (some .boolean)) (by decide) rfl ?_
  intro p e s m args below meth c s₁ B hml hv
  obtain ⟨rfl, hsz, hP, hK, hD0, hN⟩ := hv
  have hx := B.exec
  have hb := B.bytes
  have hr := B.returns
  have hts := atoms_spec (ws := w_U_isSegment) B.pre
  have htT : ∀ w ∈ lwG, w.before _ s = true := fun w h => hts w (List.mem_cons_of_mem _ h)
  have hown : s.vm.findClass R_U = some m.cls := findClass_of_methodNamed B.named
  have hlocks := B.notSynchronized
  subst hsz
  have hD := hD0.self (sz := s.heap.size)
  generalize hAe : va_A [(a_u, .inr (0, [.ref a_d, .ref a_p, .ref a_r, .ref a_c, .ref a_st, .ref a_pl, .int uOpen, .int uFill, .int uSaved, .int uSerial, .int uDown])), (a_st, .inl (cI, n, .inl uSts))] s.heap.size = A at hD ⊢
  have hA : ∀ q : Nat, s.heap.size ≤ q → A q := fun q h => by rw [← hAe]; exact Or.inr h
  have hS : va_S A s.heap s.heap [] := va_S.rf
  have hP : va_P (dC, dI) classes [(a_u, .inr (0, [.ref a_d, .ref a_p, .ref a_r, .ref a_c, .ref a_st, .ref a_pl, .int uOpen, .int uFill, .int uSaved, .int uSerial, .int uDown])), (a_st, .inl (cI, n, .inl uSts))] s.heap := hP
  have hl := lv_entry ([.ref a_u, .int x1]) (n := 2) (Nat.le_of_ble_eq_true rfl)
  rw [lg_entry_eq]
  generalize (lg_sl ([.ref a_u, .int x1]) ++ List.replicate (2 - (lg_sl ([.ref a_u, .int x1])).length) Slot.unset).toArray = ls at hl ⊢
  have hl : lv_has ls 2 [(0, .ref a_u), (1, .int x1)] := hl
  have h := hM
  rw [U_isSegment] at h
  refine lv_iload_n hx hb d_U_isSegment_0 rfl (lv_at hl 1 rfl) ?_
  refine lv_if_lt (tgt := 17) hx hb d_U_isSegment_1 (by decide) (fun hc => ?_) (fun hc => ?_)
  · have h := ck_t hc h
    refine lv_iconst (v := (0 : Int32)) hx hb d_U_isSegment_17 (by decide) ?_
    exact W.zret (v := (0 : Int32)) hx hb hr rfl (fun t ht hW => ⟨⟨(0 : Int32), (), rfl, (Option.some.inj h).symm, by rw [ht]; exact hP, va_K.moved hW.alike hK, hD⟩, hS.F ht⟩) hS.2.2 d_U_isSegment_18
  · have h := ck_f hc h
    refine lv_iload_n hx hb d_U_isSegment_4 rfl (lv_at hl 1 rfl) ?_
    refine lv_aload_n hx hb d_U_isSegment_5 rfl (lv_at hl 0 rfl) ?_
    refine va_get (D := (dC, dI)) (ci := 0) (v := .ref a_st) (C := R_U) (T := F_U) (N := 11) hx hb htT i_U hown hK hP 0 rfl rfl 4 (by decide) (htT _ kf_U_48) (fun _ h9 => h9) rfl d_U_isSegment_6 ?_
    refine va_alen (v := (nI n)) hx hb hK hP 1 0 rfl rfl rfl d_U_isSegment_9 ?_
    refine lv_icmp_ge (tgt := 17) hx hb d_U_isSegment_10 (by decide) (fun hc => ?_) (fun hc => ?_)
    · have h := ck_t hc h
      refine lv_iconst (v := (0 : Int32)) hx hb d_U_isSegment_17 (by decide) ?_
      exact W.zret (v := (0 : Int32)) hx hb hr rfl (fun t ht hW => ⟨⟨(0 : Int32), (), rfl, (Option.some.inj h).symm, by rw [ht]; exact hP, va_K.moved hW.alike hK, hD⟩, hS.F ht⟩) hS.2.2 d_U_isSegment_18
    · have h := ck_f hc h
      refine lv_iconst (v := (1 : Int32)) hx hb d_U_isSegment_13 (by decide) ?_
      refine lv_goto (tgt := 18) hx hb d_U_isSegment_14 (by decide) ?_
      exact W.zret (v := (1 : Int32)) hx hb hr rfl (fun t ht hW => ⟨⟨(1 : Int32), (), rfl, (Option.some.inj h).symm, by rw [ht]; exact hP, va_K.moved hW.alike hK, hD⟩, hS.F ht⟩) hS.2.2 d_U_isSegment_18
set_option maxHeartbeats 4000000 in
set_option maxRecDepth 100000 in
theorem c_U_freeSegments (l : Launch) (dC : Nat → ClassId) (dI : Nat → Nat → Nat) (cI cZ cJ : ClassId) (a_u a_d a_p a_pb a_pf a_r a_rs a_rb a_ru a_rz a_rh a_rl a_c a_cp a_st a_pl : Nat) (sz n N : Nat) (uOpen : Int32) (uFill : Int32) (uSaved : Int32) (uSerial : Int32) (uDown : Int32) (uSts : Nat → Int32)  (res : Int32) (hM : U_freeSegments n uSts = some res) : Met l y_U_freeSegments w_U_freeSegments ({ frames := 0, cells := 0, slots := 0, locals := 0 }) (va_Pc [.ref a_u] (fun U => U.heap.size = sz ∧ va_P (dC, dI) classes [(a_u, .inr (0, [.ref a_d, .ref a_p, .ref a_r, .ref a_c, .ref a_st, .ref a_pl, .int uOpen, .int uFill, .int uSaved, .int uSerial, .int uDown])), (a_st, .inl (cI, n, .inl uSts))] U.heap ∧ va_K (dC, dI) classes [(cI, .int), (cZ, .boolean), (cJ, .long)] U ∧ va_D (fun _ => True) [(a_u, .inr (0, [.ref a_d, .ref a_p, .ref a_r, .ref a_c, .ref a_st, .ref a_pl, .int uOpen, .int uFill, .int uSaved, .int uSerial, .int uDown])), (a_st, .inl (cI, n, .inl uSts))] ∧ Ns U)) (va_Qi (fun (r : Int32) (z : Unit) => res = r) (fun (z : Unit) (t : State) => va_P (dC, dI) classes [(a_u, .inr (0, [.ref a_d, .ref a_p, .ref a_r, .ref a_c, .ref a_st, .ref a_pl, .int uOpen, .int uFill, .int uSaved, .int uSerial, .int uDown])), (a_st, .inl (cI, n, .inl uSts))] t.heap ∧ va_K (dC, dI) classes [(cI, .int), (cZ, .boolean), (cJ, .long)] t ∧ va_D (va_A [(a_u, .inr (0, [.ref a_d, .ref a_p, .ref a_r, .ref a_c, .ref a_st, .ref a_pl, .int uOpen, .int uFill, .int uSaved, .int uSerial, .int uDown])), (a_st, .inl (cI, n, .inl uSts))] sz) [(a_u, .inr (0, [.ref a_d, .ref a_p, .ref a_r, .ref a_c, .ref a_st, .ref a_pl, .int uOpen, .int uFill, .int uSaved, .int uSerial, .int uDown])), (a_st, .inl (cI, n, .inl uSts))]) (va_A [(a_u, .inr (0, [.ref a_d, .ref a_p, .ref a_r, .ref a_c, .ref a_st, .ref a_pl, .int uOpen, .int uFill, .int uSaved, .int uSerial, .int uDown])), (a_st, .inl (cI, n, .inl uSts))] sz)) 0 0 (va_A [(a_u, .inr (0, [.ref a_d, .ref a_p, .ref a_r, .ref a_c, .ref a_st, .ref a_pl, .int uOpen, .int uFill, .int uSaved, .int uSerial, .int uDown])), (a_st, .inl (cI, n, .inl uSts))] sz) := by
  refine Met.ofW (cc := b_U_freeSegments) (maxL := 3) (ret := (some .int)) (by decide) rfl ?_
  intro p e s m args below meth c s₁ B hml hv
  obtain ⟨rfl, hsz, hP, hK, hD0, hN⟩ := hv
  have hx := B.exec
  have hb := B.bytes
  have hr := B.returns
  have hts := atoms_spec (ws := w_U_freeSegments) B.pre
  have htT : ∀ w ∈ lwG, w.before _ s = true := fun w h => hts w (List.mem_cons_of_mem _ h)
  have hown : s.vm.findClass R_U = some m.cls := findClass_of_methodNamed B.named
  have hlocks := B.notSynchronized
  subst hsz
  have hD := hD0.self (sz := s.heap.size)
  generalize hAe : va_A [(a_u, .inr (0, [.ref a_d, .ref a_p, .ref a_r, .ref a_c, .ref a_st, .ref a_pl, .int uOpen, .int uFill, .int uSaved, .int uSerial, .int uDown])), (a_st, .inl (cI, n, .inl uSts))] s.heap.size = A at hD ⊢
  have hA : ∀ q : Nat, s.heap.size ≤ q → A q := fun q h => by rw [← hAe]; exact Or.inr h
  have hS : va_S A s.heap s.heap [] := va_S.rf
  have hP : va_P (dC, dI) classes [(a_u, .inr (0, [.ref a_d, .ref a_p, .ref a_r, .ref a_c, .ref a_st, .ref a_pl, .int uOpen, .int uFill, .int uSaved, .int uSerial, .int uDown])), (a_st, .inl (cI, n, .inl uSts))] s.heap := hP
  have hl := lv_entry ([.ref a_u]) (n := 3) (Nat.le_of_ble_eq_true rfl)
  rw [lg_entry_eq]
  generalize (lg_sl ([.ref a_u]) ++ List.replicate (3 - (lg_sl ([.ref a_u])).length) Slot.unset).toArray = ls at hl ⊢
  have hl : lv_has ls 3 [(0, .ref a_u)] := hl
  have h := hM
  rw [U_freeSegments] at h
  refine lv_iconst (v := (0 : Int32)) hx hb d_U_freeSegments_0 (by decide) ?_
  refine lv_istore_n hx hb d_U_freeSegments_1 rfl hl (by decide) rfl (fun ls hl => ?_)
  have hl : lv_has ls 3 [(1, .int (0 : Int32)), (0, .ref a_u)] := hl
  refine lv_iconst (v := (0 : Int32)) hx hb d_U_freeSegments_2 (by decide) ?_
  refine lv_istore_n hx hb d_U_freeSegments_3 rfl hl (by decide) rfl (fun ls hl => ?_)
  have hl : lv_has ls 3 [(2, .int (0 : Int32)), (1, .int (0 : Int32)), (0, .ref a_u)] := hl
  have L4 : ∀ (K4 : Int32 → Int32 → Option (Int32)) (fuel : Nat) (x1_w4 : Int32) (x2_w4 : Int32) (ls : Array Slot) (H : Heap) (locs : List Loc), lv_has ls 3 [(0, .ref a_u), (1, .int x1_w4), (2, .int x2_w4)] → va_P (dC, dI) classes [(a_u, .inr (0, [.ref a_d, .ref a_p, .ref a_r, .ref a_c, .ref a_st, .ref a_pl, .int uOpen, .int uFill, .int uSaved, .int uSerial, .int uDown])), (a_st, .inl (cI, n, .inl uSts))] H → va_D A [(a_u, .inr (0, [.ref a_d, .ref a_p, .ref a_r, .ref a_c, .ref a_st, .ref a_pl, .int uOpen, .int uFill, .int uSaved, .int uSerial, .int uDown])), (a_st, .inl (cI, n, .inl uSts))] → va_S A s.heap H locs → U_freeSegments_L4 n uSts K4 fuel x1_w4 x2_w4 = some res → (∀ (x1_w4 : Int32) (x2_w4 : Int32) (ls : Array Slot) (H : Heap) (locs : List Loc), lv_has ls 3 [(0, .ref a_u), (1, .int x1_w4), (2, .int x2_w4)] → va_P (dC, dI) classes [(a_u, .inr (0, [.ref a_d, .ref a_p, .ref a_r, .ref a_c, .ref a_st, .ref a_pl, .int uOpen, .int uFill, .int uSaved, .int uSerial, .int uDown])), (a_st, .inl (cI, n, .inl uSts))] H → va_D A [(a_u, .inr (0, [.ref a_d, .ref a_p, .ref a_r, .ref a_c, .ref a_st, .ref a_pl, .int uOpen, .int uFill, .int uSaved, .int uSerial, .int uDown])), (a_st, .inl (cI, n, .inl uSts))] → va_S A s.heap H locs → K4 x1_w4 x2_w4 = some res → W p l e (headSpec w_U_freeSegments ({ frames := 0, cells := 0, slots := 0, locals := 0 })).room s m ([.ref a_u] : List Value).toArray below meth c H locs 0 0 (MQ below (va_Qi (fun (r : Int32) (z : Unit) => res = r) (fun (z : Unit) (t : State) => va_P (dC, dI) classes [(a_u, .inr (0, [.ref a_d, .ref a_p, .ref a_r, .ref a_c, .ref a_st, .ref a_pl, .int uOpen, .int uFill, .int uSaved, .int uSerial, .int uDown])), (a_st, .inl (cI, n, .inl uSts))] t.heap ∧ va_K (dC, dI) classes [(cI, .int), (cZ, .boolean), (cJ, .long)] t ∧ va_D A [(a_u, .inr (0, [.ref a_d, .ref a_p, .ref a_r, .ref a_c, .ref a_st, .ref a_pl, .int uOpen, .int uFill, .int uSaved, .int uSerial, .int uDown])), (a_st, .inl (cI, n, .inl uSts))]) A) ([.ref a_u] : List Value).toArray s 0 0 A) (F0 m 31 ls [])) → W p l e (headSpec w_U_freeSegments ({ frames := 0, cells := 0, slots := 0, locals := 0 })).room s m ([.ref a_u] : List Value).toArray below meth c H locs 0 0 (MQ below (va_Qi (fun (r : Int32) (z : Unit) => res = r) (fun (z : Unit) (t : State) => va_P (dC, dI) classes [(a_u, .inr (0, [.ref a_d, .ref a_p, .ref a_r, .ref a_c, .ref a_st, .ref a_pl, .int uOpen, .int uFill, .int uSaved, .int uSerial, .int uDown])), (a_st, .inl (cI, n, .inl uSts))] t.heap ∧ va_K (dC, dI) classes [(cI, .int), (cZ, .boolean), (cJ, .long)] t ∧ va_D A [(a_u, .inr (0, [.ref a_d, .ref a_p, .ref a_r, .ref a_c, .ref a_st, .ref a_pl, .int uOpen, .int uFill, .int uSaved, .int uSerial, .int uDown])), (a_st, .inl (cI, n, .inl uSts))]) A) ([.ref a_u] : List Value).toArray s 0 0 A) (F0 m 4 ls []) := by
    intro K4 fuel
    induction fuel with
    | zero => intro x1_w4 x2_w4 ls H locs hl hP hD hS h hk4; exact absurd (show (none : Option (Int32)) = some res from h) (by intro q; cases q)
    | succ fuel ih4 =>
      intro x1_w4 x2_w4 ls H locs hl hP hD hS h hk4
      rw [U_freeSegments_L4] at h
      refine lv_iload_n hx hb d_U_freeSegments_4 rfl (lv_at hl 2 rfl) ?_
      refine lv_aload_n hx hb d_U_freeSegments_5 rfl (lv_at hl 0 rfl) ?_
      refine va_get (D := (dC, dI)) (ci := 0) (v := .ref a_st) (C := R_U) (T := F_U) (N := 11) hx hb htT i_U hown hK hP 0 rfl rfl 4 (by decide) (htT _ kf_U_48) (fun _ h9 => h9) rfl d_U_freeSegments_6 ?_
      refine va_alen (v := (nI n)) hx hb hK hP 1 0 rfl rfl rfl d_U_freeSegments_9 ?_
      refine lv_icmp_ge (tgt := 31) hx hb d_U_freeSegments_10 (by decide) (fun hc => ?_) (fun hc => ?_)
      · have h := ck_t hc h
        have hl : lv_has ls 3 [(0, .ref a_u), (1, .int x1_w4), (2, .int x2_w4)] := lv_sub hl [0, 1, 2] rfl
        exact hk4 _ _ _ _ _ hl hP hD hS h
      · have h := ck_f hc h
        refine lv_aload_n hx hb d_U_freeSegments_13 rfl (lv_at hl 0 rfl) ?_
        refine va_get (D := (dC, dI)) (ci := 0) (v := .ref a_st) (C := R_U) (T := F_U) (N := 11) hx hb htT i_U hown hK hP 0 rfl rfl 4 (by decide) (htT _ kf_U_48) (fun _ h9 => h9) rfl d_U_freeSegments_14 ?_
        refine lv_iload_n hx hb d_U_freeSegments_17 rfl (lv_at hl 2 rfl) ?_
        obtain ⟨hin, h⟩ := ck_in h
        refine va_iald hx hb hK hP 1 0 rfl rfl hin d_U_freeSegments_18 ?_
        refine lv_if_ne (tgt := 25) hx hb d_U_freeSegments_19 (by decide) (fun hc => ?_) (fun hc => ?_)
        · have h := ck_f hc h
          refine lv_iinc (k := 2) (v := (x2_w4 + (1 : Int32))) hx hb d_U_freeSegments_25 hl rfl (congrArg (fun y => x2_w4 + y) (by decide)) (by decide) rfl (fun ls hl => ?_)
          have hl : lv_has ls 3 [(2, .int (x2_w4 + (1 : Int32))), (0, .ref a_u), (1, .int x1_w4)] := hl
          refine lv_goto (tgt := 4) hx hb d_U_freeSegments_28 (by decide) ?_
          have hl : lv_has ls 3 [(0, .ref a_u), (1, .int x1_w4), (2, .int (x2_w4 + (1 : Int32)))] := lv_sub hl [1, 2, 0] rfl
          exact ih4 _ _ _ _ _ hl hP hD hS h hk4
        · have h := ck_t hc h
          refine lv_iinc (k := 1) (v := (x1_w4 + (1 : Int32))) hx hb d_U_freeSegments_22 hl rfl (congrArg (fun y => x1_w4 + y) (by decide)) (by decide) rfl (fun ls hl => ?_)
          have hl : lv_has ls 3 [(1, .int (x1_w4 + (1 : Int32))), (0, .ref a_u), (2, .int x2_w4)] := hl
          refine lv_iinc (k := 2) (v := (x2_w4 + (1 : Int32))) hx hb d_U_freeSegments_25 hl rfl (congrArg (fun y => x2_w4 + y) (by decide)) (by decide) rfl (fun ls hl => ?_)
          have hl : lv_has ls 3 [(2, .int (x2_w4 + (1 : Int32))), (1, .int (x1_w4 + (1 : Int32))), (0, .ref a_u)] := hl
          refine lv_goto (tgt := 4) hx hb d_U_freeSegments_28 (by decide) ?_
          have hl : lv_has ls 3 [(0, .ref a_u), (1, .int (x1_w4 + (1 : Int32))), (2, .int (x2_w4 + (1 : Int32)))] := lv_sub hl [2, 1, 0] rfl
          exact ih4 _ _ _ _ _ hl hP hD hS h hk4
  have hl : lv_has ls 3 [(0, .ref a_u), (1, .int (0 : Int32)), (2, .int (0 : Int32))] := lv_sub hl [2, 1, 0] rfl
  refine L4 _ _ _ _ _ _ _ hl hP hD hS h ?_
  intro x1_k4 x2_k4 ls H locs hl hP hD hS h
  refine lv_iload_n hx hb d_U_freeSegments_31 rfl (lv_at hl 1 rfl) ?_
  exact W.iret (v := x1_k4) hx hb hr (fun t ht hW => ⟨⟨x1_k4, (), rfl, (Option.some.inj h).symm, by rw [ht]; exact hP, va_K.moved hW.alike hK, hD⟩, hS.F ht⟩) hS.2.2 d_U_freeSegments_32
set_option maxHeartbeats 4000000 in
set_option maxRecDepth 100000 in
theorem c_U_lowestFree (l : Launch) (dC : Nat → ClassId) (dI : Nat → Nat → Nat) (cI cZ cJ : ClassId) (a_u a_d a_p a_pb a_pf a_r a_rs a_rb a_ru a_rz a_rh a_rl a_c a_cp a_st a_pl : Nat) (sz n N : Nat) (uOpen : Int32) (uFill : Int32) (uSaved : Int32) (uSerial : Int32) (uDown : Int32) (uSts : Nat → Int32)  (res : Int32) (hM : U_lowestFree n uSts = some res) : Met l y_U_lowestFree w_U_lowestFree ({ frames := 0, cells := 0, slots := 0, locals := 0 }) (va_Pc [.ref a_u] (fun U => U.heap.size = sz ∧ va_P (dC, dI) classes [(a_u, .inr (0, [.ref a_d, .ref a_p, .ref a_r, .ref a_c, .ref a_st, .ref a_pl, .int uOpen, .int uFill, .int uSaved, .int uSerial, .int uDown])), (a_st, .inl (cI, n, .inl uSts))] U.heap ∧ va_K (dC, dI) classes [(cI, .int), (cZ, .boolean), (cJ, .long)] U ∧ va_D (fun _ => True) [(a_u, .inr (0, [.ref a_d, .ref a_p, .ref a_r, .ref a_c, .ref a_st, .ref a_pl, .int uOpen, .int uFill, .int uSaved, .int uSerial, .int uDown])), (a_st, .inl (cI, n, .inl uSts))] ∧ Ns U)) (va_Qi (fun (r : Int32) (z : Unit) => res = r) (fun (z : Unit) (t : State) => va_P (dC, dI) classes [(a_u, .inr (0, [.ref a_d, .ref a_p, .ref a_r, .ref a_c, .ref a_st, .ref a_pl, .int uOpen, .int uFill, .int uSaved, .int uSerial, .int uDown])), (a_st, .inl (cI, n, .inl uSts))] t.heap ∧ va_K (dC, dI) classes [(cI, .int), (cZ, .boolean), (cJ, .long)] t ∧ va_D (va_A [(a_u, .inr (0, [.ref a_d, .ref a_p, .ref a_r, .ref a_c, .ref a_st, .ref a_pl, .int uOpen, .int uFill, .int uSaved, .int uSerial, .int uDown])), (a_st, .inl (cI, n, .inl uSts))] sz) [(a_u, .inr (0, [.ref a_d, .ref a_p, .ref a_r, .ref a_c, .ref a_st, .ref a_pl, .int uOpen, .int uFill, .int uSaved, .int uSerial, .int uDown])), (a_st, .inl (cI, n, .inl uSts))]) (va_A [(a_u, .inr (0, [.ref a_d, .ref a_p, .ref a_r, .ref a_c, .ref a_st, .ref a_pl, .int uOpen, .int uFill, .int uSaved, .int uSerial, .int uDown])), (a_st, .inl (cI, n, .inl uSts))] sz)) 0 0 (va_A [(a_u, .inr (0, [.ref a_d, .ref a_p, .ref a_r, .ref a_c, .ref a_st, .ref a_pl, .int uOpen, .int uFill, .int uSaved, .int uSerial, .int uDown])), (a_st, .inl (cI, n, .inl uSts))] sz) := by
  refine Met.ofW (cc := b_U_lowestFree) (maxL := 2) (ret := (some .int)) (by decide) rfl ?_
  intro p e s m args below meth c s₁ B hml hv
  obtain ⟨rfl, hsz, hP, hK, hD0, hN⟩ := hv
  have hx := B.exec
  have hb := B.bytes
  have hr := B.returns
  have hts := atoms_spec (ws := w_U_lowestFree) B.pre
  have htT : ∀ w ∈ lwG, w.before _ s = true := fun w h => hts w (List.mem_cons_of_mem _ h)
  have hown : s.vm.findClass R_U = some m.cls := findClass_of_methodNamed B.named
  have hlocks := B.notSynchronized
  subst hsz
  have hD := hD0.self (sz := s.heap.size)
  generalize hAe : va_A [(a_u, .inr (0, [.ref a_d, .ref a_p, .ref a_r, .ref a_c, .ref a_st, .ref a_pl, .int uOpen, .int uFill, .int uSaved, .int uSerial, .int uDown])), (a_st, .inl (cI, n, .inl uSts))] s.heap.size = A at hD ⊢
  have hA : ∀ q : Nat, s.heap.size ≤ q → A q := fun q h => by rw [← hAe]; exact Or.inr h
  have hS : va_S A s.heap s.heap [] := va_S.rf
  have hP : va_P (dC, dI) classes [(a_u, .inr (0, [.ref a_d, .ref a_p, .ref a_r, .ref a_c, .ref a_st, .ref a_pl, .int uOpen, .int uFill, .int uSaved, .int uSerial, .int uDown])), (a_st, .inl (cI, n, .inl uSts))] s.heap := hP
  have hl := lv_entry ([.ref a_u]) (n := 2) (Nat.le_of_ble_eq_true rfl)
  rw [lg_entry_eq]
  generalize (lg_sl ([.ref a_u]) ++ List.replicate (2 - (lg_sl ([.ref a_u])).length) Slot.unset).toArray = ls at hl ⊢
  have hl : lv_has ls 2 [(0, .ref a_u)] := hl
  have h := hM
  rw [U_lowestFree] at h
  refine lv_iconst (v := (0 : Int32)) hx hb d_U_lowestFree_0 (by decide) ?_
  refine lv_istore_n hx hb d_U_lowestFree_1 rfl hl (by decide) rfl (fun ls hl => ?_)
  have hl : lv_has ls 2 [(1, .int (0 : Int32)), (0, .ref a_u)] := hl
  have L2 : ∀ (K2 : Int32 → Option (Int32)) (fuel : Nat) (x1_w2 : Int32) (ls : Array Slot) (H : Heap) (locs : List Loc), lv_has ls 2 [(0, .ref a_u), (1, .int x1_w2)] → va_P (dC, dI) classes [(a_u, .inr (0, [.ref a_d, .ref a_p, .ref a_r, .ref a_c, .ref a_st, .ref a_pl, .int uOpen, .int uFill, .int uSaved, .int uSerial, .int uDown])), (a_st, .inl (cI, n, .inl uSts))] H → va_D A [(a_u, .inr (0, [.ref a_d, .ref a_p, .ref a_r, .ref a_c, .ref a_st, .ref a_pl, .int uOpen, .int uFill, .int uSaved, .int uSerial, .int uDown])), (a_st, .inl (cI, n, .inl uSts))] → va_S A s.heap H locs → U_lowestFree_L2 n uSts K2 fuel x1_w2 = some res → (∀ (x1_w2 : Int32) (ls : Array Slot) (H : Heap) (locs : List Loc), lv_has ls 2 [(0, .ref a_u), (1, .int x1_w2)] → va_P (dC, dI) classes [(a_u, .inr (0, [.ref a_d, .ref a_p, .ref a_r, .ref a_c, .ref a_st, .ref a_pl, .int uOpen, .int uFill, .int uSaved, .int uSerial, .int uDown])), (a_st, .inl (cI, n, .inl uSts))] H → va_D A [(a_u, .inr (0, [.ref a_d, .ref a_p, .ref a_r, .ref a_c, .ref a_st, .ref a_pl, .int uOpen, .int uFill, .int uSaved, .int uSerial, .int uDown])), (a_st, .inl (cI, n, .inl uSts))] → va_S A s.heap H locs → K2 x1_w2 = some res → W p l e (headSpec w_U_lowestFree ({ frames := 0, cells := 0, slots := 0, locals := 0 })).room s m ([.ref a_u] : List Value).toArray below meth c H locs 0 0 (MQ below (va_Qi (fun (r : Int32) (z : Unit) => res = r) (fun (z : Unit) (t : State) => va_P (dC, dI) classes [(a_u, .inr (0, [.ref a_d, .ref a_p, .ref a_r, .ref a_c, .ref a_st, .ref a_pl, .int uOpen, .int uFill, .int uSaved, .int uSerial, .int uDown])), (a_st, .inl (cI, n, .inl uSts))] t.heap ∧ va_K (dC, dI) classes [(cI, .int), (cZ, .boolean), (cJ, .long)] t ∧ va_D A [(a_u, .inr (0, [.ref a_d, .ref a_p, .ref a_r, .ref a_c, .ref a_st, .ref a_pl, .int uOpen, .int uFill, .int uSaved, .int uSerial, .int uDown])), (a_st, .inl (cI, n, .inl uSts))]) A) ([.ref a_u] : List Value).toArray s 0 0 A) (F0 m 28 ls [])) → W p l e (headSpec w_U_lowestFree ({ frames := 0, cells := 0, slots := 0, locals := 0 })).room s m ([.ref a_u] : List Value).toArray below meth c H locs 0 0 (MQ below (va_Qi (fun (r : Int32) (z : Unit) => res = r) (fun (z : Unit) (t : State) => va_P (dC, dI) classes [(a_u, .inr (0, [.ref a_d, .ref a_p, .ref a_r, .ref a_c, .ref a_st, .ref a_pl, .int uOpen, .int uFill, .int uSaved, .int uSerial, .int uDown])), (a_st, .inl (cI, n, .inl uSts))] t.heap ∧ va_K (dC, dI) classes [(cI, .int), (cZ, .boolean), (cJ, .long)] t ∧ va_D A [(a_u, .inr (0, [.ref a_d, .ref a_p, .ref a_r, .ref a_c, .ref a_st, .ref a_pl, .int uOpen, .int uFill, .int uSaved, .int uSerial, .int uDown])), (a_st, .inl (cI, n, .inl uSts))]) A) ([.ref a_u] : List Value).toArray s 0 0 A) (F0 m 2 ls []) := by
    intro K2 fuel
    induction fuel with
    | zero => intro x1_w2 ls H locs hl hP hD hS h hk2; exact absurd (show (none : Option (Int32)) = some res from h) (by intro q; cases q)
    | succ fuel ih2 =>
      intro x1_w2 ls H locs hl hP hD hS h hk2
      rw [U_lowestFree_L2] at h
      refine lv_iload_n hx hb d_U_lowestFree_2 rfl (lv_at hl 1 rfl) ?_
      refine lv_aload_n hx hb d_U_lowestFree_3 rfl (lv_at hl 0 rfl) ?_
      refine va_get (D := (dC, dI)) (ci := 0) (v := .ref a_st) (C := R_U) (T := F_U) (N := 11) hx hb htT i_U hown hK hP 0 rfl rfl 4 (by decide) (htT _ kf_U_48) (fun _ h9 => h9) rfl d_U_lowestFree_4 ?_
      refine va_alen (v := (nI n)) hx hb hK hP 1 0 rfl rfl rfl d_U_lowestFree_7 ?_
      refine lv_icmp_ge (tgt := 28) hx hb d_U_lowestFree_8 (by decide) (fun hc => ?_) (fun hc => ?_)
      · have h := ck_t hc h
        have hl : lv_has ls 2 [(0, .ref a_u), (1, .int x1_w2)] := lv_sub hl [0, 1] rfl
        exact hk2 _ _ _ _ hl hP hD hS h
      · have h := ck_f hc h
        refine lv_aload_n hx hb d_U_lowestFree_11 rfl (lv_at hl 0 rfl) ?_
        refine va_get (D := (dC, dI)) (ci := 0) (v := .ref a_st) (C := R_U) (T := F_U) (N := 11) hx hb htT i_U hown hK hP 0 rfl rfl 4 (by decide) (htT _ kf_U_48) (fun _ h9 => h9) rfl d_U_lowestFree_12 ?_
        refine lv_iload_n hx hb d_U_lowestFree_15 rfl (lv_at hl 1 rfl) ?_
        obtain ⟨hin, h⟩ := ck_in h
        refine va_iald hx hb hK hP 1 0 rfl rfl hin d_U_lowestFree_16 ?_
        refine lv_if_ne (tgt := 22) hx hb d_U_lowestFree_17 (by decide) (fun hc => ?_) (fun hc => ?_)
        · have h := ck_f hc h
          refine lv_iinc (k := 1) (v := (x1_w2 + (1 : Int32))) hx hb d_U_lowestFree_22 hl rfl (congrArg (fun y => x1_w2 + y) (by decide)) (by decide) rfl (fun ls hl => ?_)
          have hl : lv_has ls 2 [(1, .int (x1_w2 + (1 : Int32))), (0, .ref a_u)] := hl
          refine lv_goto (tgt := 2) hx hb d_U_lowestFree_25 (by decide) ?_
          have hl : lv_has ls 2 [(0, .ref a_u), (1, .int (x1_w2 + (1 : Int32)))] := lv_sub hl [1, 0] rfl
          exact ih2 _ _ _ _ hl hP hD hS h hk2
        · have h := ck_t hc h
          refine lv_iload_n hx hb d_U_lowestFree_20 rfl (lv_at hl 1 rfl) ?_
          exact W.iret (v := x1_w2) hx hb hr (fun t ht hW => ⟨⟨x1_w2, (), rfl, (Option.some.inj h).symm, by rw [ht]; exact hP, va_K.moved hW.alike hK, hD⟩, hS.F ht⟩) hS.2.2 d_U_lowestFree_21
  have hl : lv_has ls 2 [(0, .ref a_u), (1, .int (0 : Int32))] := lv_sub hl [1, 0] rfl
  refine L2 _ _ _ _ _ _ hl hP hD hS h ?_
  intro x1_k2 ls H locs hl hP hD hS h
  refine lv_iconst (v := (-1 : Int32)) hx hb d_U_lowestFree_28 (by decide) ?_
  exact W.iret (v := (-1 : Int32)) hx hb hr (fun t ht hW => ⟨⟨(-1 : Int32), (), rfl, (Option.some.inj h).symm, by rw [ht]; exact hP, va_K.moved hW.alike hK, hD⟩, hS.F ht⟩) hS.2.2 d_U_lowestFree_29
set_option maxHeartbeats 4000000 in
set_option maxRecDepth 100000 in
theorem c_U_mayAppend (l : Launch) (dC : Nat → ClassId) (dI : Nat → Nat → Nat) (cI cZ cJ : ClassId) (a_u a_d a_p a_pb a_pf a_r a_rs a_rb a_ru a_rz a_rh a_rl a_c a_cp a_st a_pl : Nat) (sz n N : Nat) (uOpen : Int32) (uFill : Int32) (uSaved : Int32) (uSerial : Int32) (uDown : Int32) (uSts : Nat → Int32) (x1 : Int32) (res : Int32) (hM : U_mayAppend n uFill uSts x1 = some res) : Met l y_U_mayAppend w_U_mayAppend ({ frames := 1, cells := 0, slots := 0, locals := 22 }) (va_Pc [.ref a_u, .int x1] (fun U => U.heap.size = sz ∧ va_P (dC, dI) classes [(a_u, .inr (0, [.ref a_d, .ref a_p, .ref a_r, .ref a_c, .ref a_st, .ref a_pl, .int uOpen, .int uFill, .int uSaved, .int uSerial, .int uDown])), (a_st, .inl (cI, n, .inl uSts))] U.heap ∧ va_K (dC, dI) classes [(cI, .int), (cZ, .boolean), (cJ, .long)] U ∧ va_D (fun _ => True) [(a_u, .inr (0, [.ref a_d, .ref a_p, .ref a_r, .ref a_c, .ref a_st, .ref a_pl, .int uOpen, .int uFill, .int uSaved, .int uSerial, .int uDown])), (a_st, .inl (cI, n, .inl uSts))] ∧ Ns U)) (va_Qi (fun (r : Int32) (z : Unit) => res = r) (fun (z : Unit) (t : State) => va_P (dC, dI) classes [(a_u, .inr (0, [.ref a_d, .ref a_p, .ref a_r, .ref a_c, .ref a_st, .ref a_pl, .int uOpen, .int uFill, .int uSaved, .int uSerial, .int uDown])), (a_st, .inl (cI, n, .inl uSts))] t.heap ∧ va_K (dC, dI) classes [(cI, .int), (cZ, .boolean), (cJ, .long)] t ∧ va_D (va_A [(a_u, .inr (0, [.ref a_d, .ref a_p, .ref a_r, .ref a_c, .ref a_st, .ref a_pl, .int uOpen, .int uFill, .int uSaved, .int uSerial, .int uDown])), (a_st, .inl (cI, n, .inl uSts))] sz) [(a_u, .inr (0, [.ref a_d, .ref a_p, .ref a_r, .ref a_c, .ref a_st, .ref a_pl, .int uOpen, .int uFill, .int uSaved, .int uSerial, .int uDown])), (a_st, .inl (cI, n, .inl uSts))]) (va_A [(a_u, .inr (0, [.ref a_d, .ref a_p, .ref a_r, .ref a_c, .ref a_st, .ref a_pl, .int uOpen, .int uFill, .int uSaved, .int uSerial, .int uDown])), (a_st, .inl (cI, n, .inl uSts))] sz)) 0 0 (va_A [(a_u, .inr (0, [.ref a_d, .ref a_p, .ref a_r, .ref a_c, .ref a_st, .ref a_pl, .int uOpen, .int uFill, .int uSaved, .int uSerial, .int uDown])), (a_st, .inl (cI, n, .inl uSts))] sz) := by
  refine Met.ofW (cc := b_U_mayAppend) (maxL := 2) (ret := (some .boolean)) (by decide) rfl ?_
  intro p e s m args below meth c s₁ B hml hv
  obtain ⟨rfl, hsz, hP, hK, hD0, hN⟩ := hv
  have hx := B.exec
  have hb := B.bytes
  have hr := B.returns
  have hts := atoms_spec (ws := w_U_mayAppend) B.pre
  have htT : ∀ w ∈ lwG, w.before _ s = true := fun w h => hts w (List.mem_cons_of_mem _ h)
  have hown : s.vm.findClass R_U = some m.cls := findClass_of_methodNamed B.named
  have hlocks := B.notSynchronized
  subst hsz
  have hD := hD0.self (sz := s.heap.size)
  generalize hAe : va_A [(a_u, .inr (0, [.ref a_d, .ref a_p, .ref a_r, .ref a_c, .ref a_st, .ref a_pl, .int uOpen, .int uFill, .int uSaved, .int uSerial, .int uDown])), (a_st, .inl (cI, n, .inl uSts))] s.heap.size = A at hD ⊢
  have hA : ∀ q : Nat, s.heap.size ≤ q → A q := fun q h => by rw [← hAe]; exact Or.inr h
  have hS : va_S A s.heap s.heap [] := va_S.rf
  have hP : va_P (dC, dI) classes [(a_u, .inr (0, [.ref a_d, .ref a_p, .ref a_r, .ref a_c, .ref a_st, .ref a_pl, .int uOpen, .int uFill, .int uSaved, .int uSerial, .int uDown])), (a_st, .inl (cI, n, .inl uSts))] s.heap := hP
  have hl := lv_entry ([.ref a_u, .int x1]) (n := 2) (Nat.le_of_ble_eq_true rfl)
  rw [lg_entry_eq]
  generalize (lg_sl ([.ref a_u, .int x1]) ++ List.replicate (2 - (lg_sl ([.ref a_u, .int x1])).length) Slot.unset).toArray = ls at hl ⊢
  have hl : lv_has ls 2 [(0, .ref a_u), (1, .int x1)] := hl
  have h := hM
  rw [U_mayAppend] at h
  refine lv_iload_n hx hb d_U_mayAppend_0 rfl (lv_at hl 1 rfl) ?_
  refine lv_bipush (v := (16 : Int32)) hx hb d_U_mayAppend_1 (by decide) ?_
  refine lv_aload_n hx hb d_U_mayAppend_3 rfl (lv_at hl 0 rfl) ?_
  refine va_get (D := (dC, dI)) (ci := 0) (v := .int uFill) (C := R_U) (T := F_U) (N := 11) hx hb htT i_U hown hK hP 0 rfl rfl 7 (by decide) (htT _ kf_U_101) (fun _ h9 => h9) rfl d_U_mayAppend_4 ?_
  refine lv_isub hx hb d_U_mayAppend_7 ?_
  refine lv_icmp_le (tgt := 19) hx hb d_U_mayAppend_8 (by decide) (fun hc => ?_) (fun hc => ?_)
  · have h := ck_t hc h
    refine lv_iconst (v := (1 : Int32)) hx hb d_U_mayAppend_19 (by decide) ?_
    refine lv_goto (tgt := 24) hx hb d_U_mayAppend_20 (by decide) ?_
    exact W.zret (v := (1 : Int32)) hx hb hr rfl (fun t ht hW => ⟨⟨(1 : Int32), (), rfl, (Option.some.inj h).symm, by rw [ht]; exact hP, va_K.moved hW.alike hK, hD⟩, hS.F ht⟩) hS.2.2 d_U_mayAppend_24
  · have h := ck_f hc h
    refine lv_aload_n hx hb d_U_mayAppend_11 rfl (lv_at hl 0 rfl) ?_
    obtain ⟨z1, hz, h⟩ := ck_bind h
    have hPc := hP.sub (ws' := [(a_u, .inr (0, [.ref a_d, .ref a_p, .ref a_r, .ref a_c, .ref a_st, .ref a_pl, .int uOpen, .int uFill, .int uSaved, .int uSerial, .int uDown])), (a_st, .inl (cI, n, .inl uSts))]) [0, 1] rfl
    have hDc := hD.sub (ws' := [(a_u, .inr (0, [.ref a_d, .ref a_p, .ref a_r, .ref a_c, .ref a_st, .ref a_pl, .int uOpen, .int uFill, .int uSaved, .int uSerial, .int uDown])), (a_st, .inl (cI, n, .inl uSts))]) [0, 1] (by decide) rfl
    have hFc := va_free (wc := [(a_u, .inr (0, [.ref a_d, .ref a_p, .ref a_r, .ref a_c, .ref a_st, .ref a_pl, .int uOpen, .int uFill, .int uSaved, .int uSerial, .int uDown])), (a_st, .inl (cI, n, .inl uSts))]) hD hS hA [0, 1] rfl
    refine va_calli (va_runV (As := []) (rest := []) ⟨hx, hb, hml, hown, htT⟩ (c_U_freeSegments l dC dI cI cZ cJ a_u a_d a_p a_pb a_pf a_r a_rs a_rb a_ru a_rz a_rh a_rl a_c a_cp a_st a_pl s.heap.size n N uOpen uFill uSaved uSerial uDown uSts  z1 hz) (cwV 0 htT (gV kl_U_150 ki_U_freeSegments ke_U_freeSegments kn_U kc_U_freeSegments) rfl rfl rfl (by decide +kernel) ⟨Nat.le_of_ble_eq_true rfl, Nat.le_of_ble_eq_true rfl⟩) ⟨fun a U g mk q => by obtain ⟨q0, q1, qP, qK, qD, qN⟩ := q; exact ⟨q0, q1, qP, va_K.moved (u := U) (U := U.calling g mk a) (Vm.Alike.refl U.vm) qK, qD, Ns.same (u := U) rfl qN⟩, va_recv (q0 := 0) (q := (R_U, F_U, 11)) hK hP (ci := 0) rfl rfl, fun U hU hW => ⟨rfl, by rw [hU], by rw [hU]; exact hPc, va_K.moved hW.alike hK, hDc.weaken (fun _ _ _ _ => trivial), Ns.warm hW hN⟩⟩ rfl rfl hl.1 rfl (lv_room (Nat.le_of_ble_eq_true rfl)) d_U_mayAppend_12 ⟨(Nat.zero_le _), (Nat.zero_le _)⟩) hS (fun q _ h => hFc q h) hFc (fun r u t H locs ht hvm hw hB hz1 hk1 hS => ?_)
    subst hw
    obtain ⟨hP1, hK1, hD1⟩ := hB
    rw [ht] at hP1
    obtain ⟨hP, hD⟩ := va_join (wr := []) (w1 := [(a_u, .inr (0, [.ref a_d, .ref a_p, .ref a_r, .ref a_c, .ref a_st, .ref a_pl, .int uOpen, .int uFill, .int uSaved, .int uSerial, .int uDown])), (a_st, .inl (cI, n, .inl uSts))]) hP hD [0, 1] [] rfl rfl (by decide) (by decide) hk1 hFc hP1 hD1
    have hP : va_P (dC, dI) classes [(a_u, .inr (0, [.ref a_d, .ref a_p, .ref a_r, .ref a_c, .ref a_st, .ref a_pl, .int uOpen, .int uFill, .int uSaved, .int uSerial, .int uDown])), (a_st, .inl (cI, n, .inl uSts))] H := hP
    have hD : va_D A [(a_u, .inr (0, [.ref a_d, .ref a_p, .ref a_r, .ref a_c, .ref a_st, .ref a_pl, .int uOpen, .int uFill, .int uSaved, .int uSerial, .int uDown])), (a_st, .inl (cI, n, .inl uSts))] := hD
    refine lv_iconst (v := (1 : Int32)) hx hb d_U_mayAppend_15 (by decide) ?_
    refine lv_icmp_le (tgt := 23) hx hb d_U_mayAppend_16 (by decide) (fun hc => ?_) (fun hc => ?_)
    · have h := ck_t hc h
      refine lv_iconst (v := (0 : Int32)) hx hb d_U_mayAppend_23 (by decide) ?_
      exact W.zret (v := (0 : Int32)) hx hb hr rfl (fun t ht hW => ⟨⟨(0 : Int32), (), rfl, (Option.some.inj h).symm, by rw [ht]; exact hP, va_K.moved hW.alike hK, hD⟩, hS.F ht⟩) hS.2.2 d_U_mayAppend_24
    · have h := ck_f hc h
      refine lv_iconst (v := (1 : Int32)) hx hb d_U_mayAppend_19 (by decide) ?_
      refine lv_goto (tgt := 24) hx hb d_U_mayAppend_20 (by decide) ?_
      exact W.zret (v := (1 : Int32)) hx hb hr rfl (fun t ht hW => ⟨⟨(1 : Int32), (), rfl, (Option.some.inj h).symm, by rw [ht]; exact hP, va_K.moved hW.alike hK, hD⟩, hS.F ht⟩) hS.2.2 d_U_mayAppend_24
set_option maxHeartbeats 4000000 in
set_option maxRecDepth 100000 in
theorem c_D_writeUnit (l : Launch) (dC : Nat → ClassId) (dI : Nat → Nat → Nat) (cI cZ cJ : ClassId) (a_u a_d a_p a_pb a_pf a_r a_rs a_rb a_ru a_rz a_rh a_rl a_c a_cp a_st a_pl : Nat) (sz n N : Nat) (uArmed : Int32) (uWritten : Int32)  (res : Int32 × Int32 × Int32) (hM : D_writeUnit uArmed uWritten = some res) : Met l y_D_writeUnit w_D_writeUnit ({ frames := 0, cells := 0, slots := 0, locals := 0 }) (va_Pc [.ref a_d] (fun U => U.heap.size = sz ∧ va_P (dC, dI) classes [(a_d, .inr (1, [.int uArmed, .int uWritten]))] U.heap ∧ va_K (dC, dI) classes [(cI, .int), (cZ, .boolean), (cJ, .long)] U ∧ va_D (fun _ => True) [(a_d, .inr (1, [.int uArmed, .int uWritten]))] ∧ Ns U)) (va_Qi (fun (r : Int32) (z : Int32 × Int32) => res = (r, z)) (fun (z : Int32 × Int32) (t : State) => va_P (dC, dI) classes [(a_d, .inr (1, [.int z.1, .int z.2]))] t.heap ∧ va_K (dC, dI) classes [(cI, .int), (cZ, .boolean), (cJ, .long)] t ∧ va_D (va_A [(a_d, .inr (1, [.int uArmed, .int uWritten]))] sz) [(a_d, .inr (1, [.int z.1, .int z.2]))]) (va_A [(a_d, .inr (1, [.int uArmed, .int uWritten]))] sz)) 0 0 (va_A [(a_d, .inr (1, [.int uArmed, .int uWritten]))] sz) := by
  refine Met.ofW (cc := b_D_writeUnit) (maxL := 1) (ret := (some .boolean)) (by decide) rfl ?_
  intro p e s m args below meth c s₁ B hml hv
  obtain ⟨rfl, hsz, hP, hK, hD0, hN⟩ := hv
  have hx := B.exec
  have hb := B.bytes
  have hr := B.returns
  have hts := atoms_spec (ws := w_D_writeUnit) B.pre
  have htT : ∀ w ∈ lwG, w.before _ s = true := fun w h => hts w (List.mem_cons_of_mem _ h)
  have hown : s.vm.findClass R_D = some m.cls := findClass_of_methodNamed B.named
  have hlocks := B.notSynchronized
  subst hsz
  have hD := hD0.self (sz := s.heap.size)
  generalize hAe : va_A [(a_d, .inr (1, [.int uArmed, .int uWritten]))] s.heap.size = A at hD ⊢
  have hA : ∀ q : Nat, s.heap.size ≤ q → A q := fun q h => by rw [← hAe]; exact Or.inr h
  have hS : va_S A s.heap s.heap [] := va_S.rf
  have hP : va_P (dC, dI) classes [(a_d, .inr (1, [.int uArmed, .int uWritten]))] s.heap := hP
  have hl := lv_entry ([.ref a_d]) (n := 1) (Nat.le_of_ble_eq_true rfl)
  rw [lg_entry_eq]
  generalize (lg_sl ([.ref a_d]) ++ List.replicate (1 - (lg_sl ([.ref a_d])).length) Slot.unset).toArray = ls at hl ⊢
  have hl : lv_has ls 1 [(0, .ref a_d)] := hl
  have h := hM
  rw [D_writeUnit] at h
  refine lv_aload_n hx hb d_D_writeUnit_0 rfl (lv_at hl 0 rfl) ?_
  refine va_get (D := (dC, dI)) (ci := 1) (v := .int uArmed) (C := R_D) (T := F_D) (N := 2) hx hb htT i_D hown hK hP 0 rfl rfl 0 (by decide) (htT _ kf_D_9) (fun _ h9 => h9) rfl d_D_writeUnit_1 ?_
  refine lv_if_ne (tgt := 9) hx hb d_D_writeUnit_4 (by decide) (fun hc => ?_) (fun hc => ?_)
  · have h := ck_f hc h
    refine lv_aload_n hx hb d_D_writeUnit_9 rfl (lv_at hl 0 rfl) ?_
    refine va_get (D := (dC, dI)) (ci := 1) (v := .int uArmed) (C := R_D) (T := F_D) (N := 2) hx hb htT i_D hown hK hP 0 rfl rfl 0 (by decide) (htT _ kf_D_9) (fun _ h9 => h9) rfl d_D_writeUnit_10 ?_
    refine lv_if_le (tgt := 26) hx hb d_D_writeUnit_13 (by decide) (fun hc => ?_) (fun hc => ?_)
    · have h := ck_t hc h
      refine lv_aload_n hx hb d_D_writeUnit_26 rfl (lv_at hl 0 rfl) ?_
      refine lv_dup hx hb d_D_writeUnit_27 rfl ?_
      refine va_get (D := (dC, dI)) (ci := 1) (v := .int uWritten) (C := R_D) (T := F_D) (N := 2) hx hb htT i_D hown hK hP 0 rfl rfl 1 (by decide) (htT _ kf_D_15) (fun _ h9 => h9) rfl d_D_writeUnit_28 ?_
      refine lv_iconst (v := (1 : Int32)) hx hb d_D_writeUnit_31 (by decide) ?_
      refine lv_iadd hx hb d_D_writeUnit_32 ?_
      refine va_put (D := (dC, dI)) (ci := 1) (v := .int (uWritten + (1 : Int32))) (ty := .int) (C := R_D) (T := F_D) (N := 2) hx hb htT i_D t_D t_D_ok n_D hown hK hP hD hS 0 rfl rfl 1 (by decide) (htT _ kf_D_15) (fun _ h9 => h9) rfl (by decide +kernel) rfl rfl (Nat.le_of_ble_eq_true rfl) d_D_writeUnit_33 (fun H locs hP hD hS => ?_)
      have hP : va_P (dC, dI) classes [(a_d, .inr (1, [.int uArmed, .int (uWritten + (1 : Int32))]))] H := hP
      have hD : va_D A [(a_d, .inr (1, [.int uArmed, .int (uWritten + (1 : Int32))]))] := hD
      refine lv_iconst (v := (1 : Int32)) hx hb d_D_writeUnit_36 (by decide) ?_
      exact W.zret (v := (1 : Int32)) hx hb hr rfl (fun t ht hW => ⟨⟨(1 : Int32), (uArmed, (uWritten + (1 : Int32))), rfl, (Option.some.inj h).symm, by rw [ht]; exact hP, va_K.moved hW.alike hK, hD⟩, hS.F ht⟩) hS.2.2 d_D_writeUnit_37
    · have h := ck_f hc h
      refine lv_aload_n hx hb d_D_writeUnit_16 rfl (lv_at hl 0 rfl) ?_
      refine lv_dup hx hb d_D_writeUnit_17 rfl ?_
      refine va_get (D := (dC, dI)) (ci := 1) (v := .int uArmed) (C := R_D) (T := F_D) (N := 2) hx hb htT i_D hown hK hP 0 rfl rfl 0 (by decide) (htT _ kf_D_9) (fun _ h9 => h9) rfl d_D_writeUnit_18 ?_
      refine lv_iconst (v := (1 : Int32)) hx hb d_D_writeUnit_21 (by decide) ?_
      refine lv_isub hx hb d_D_writeUnit_22 ?_
      refine va_put (D := (dC, dI)) (ci := 1) (v := .int (uArmed - (1 : Int32))) (ty := .int) (C := R_D) (T := F_D) (N := 2) hx hb htT i_D t_D t_D_ok n_D hown hK hP hD hS 0 rfl rfl 0 (by decide) (htT _ kf_D_9) (fun _ h9 => h9) rfl (by decide +kernel) rfl rfl (Nat.le_of_ble_eq_true rfl) d_D_writeUnit_23 (fun H locs hP hD hS => ?_)
      have hP : va_P (dC, dI) classes [(a_d, .inr (1, [.int (uArmed - (1 : Int32)), .int uWritten]))] H := hP
      have hD : va_D A [(a_d, .inr (1, [.int (uArmed - (1 : Int32)), .int uWritten]))] := hD
      refine lv_aload_n hx hb d_D_writeUnit_26 rfl (lv_at hl 0 rfl) ?_
      refine lv_dup hx hb d_D_writeUnit_27 rfl ?_
      refine va_get (D := (dC, dI)) (ci := 1) (v := .int uWritten) (C := R_D) (T := F_D) (N := 2) hx hb htT i_D hown hK hP 0 rfl rfl 1 (by decide) (htT _ kf_D_15) (fun _ h9 => h9) rfl d_D_writeUnit_28 ?_
      refine lv_iconst (v := (1 : Int32)) hx hb d_D_writeUnit_31 (by decide) ?_
      refine lv_iadd hx hb d_D_writeUnit_32 ?_
      refine va_put (D := (dC, dI)) (ci := 1) (v := .int (uWritten + (1 : Int32))) (ty := .int) (C := R_D) (T := F_D) (N := 2) hx hb htT i_D t_D t_D_ok n_D hown hK hP hD hS 0 rfl rfl 1 (by decide) (htT _ kf_D_15) (fun _ h9 => h9) rfl (by decide +kernel) rfl rfl (Nat.le_of_ble_eq_true rfl) d_D_writeUnit_33 (fun H locs hP hD hS => ?_)
      have hP : va_P (dC, dI) classes [(a_d, .inr (1, [.int (uArmed - (1 : Int32)), .int (uWritten + (1 : Int32))]))] H := hP
      have hD : va_D A [(a_d, .inr (1, [.int (uArmed - (1 : Int32)), .int (uWritten + (1 : Int32))]))] := hD
      refine lv_iconst (v := (1 : Int32)) hx hb d_D_writeUnit_36 (by decide) ?_
      exact W.zret (v := (1 : Int32)) hx hb hr rfl (fun t ht hW => ⟨⟨(1 : Int32), ((uArmed - (1 : Int32)), (uWritten + (1 : Int32))), rfl, (Option.some.inj h).symm, by rw [ht]; exact hP, va_K.moved hW.alike hK, hD⟩, hS.F ht⟩) hS.2.2 d_D_writeUnit_37
  · have h := ck_t hc h
    refine lv_iconst (v := (0 : Int32)) hx hb d_D_writeUnit_7 (by decide) ?_
    exact W.zret (v := (0 : Int32)) hx hb hr rfl (fun t ht hW => ⟨⟨(0 : Int32), (uArmed, uWritten), rfl, (Option.some.inj h).symm, by rw [ht]; exact hP, va_K.moved hW.alike hK, hD⟩, hS.F ht⟩) hS.2.2 d_D_writeUnit_8
set_option maxHeartbeats 4000000 in
set_option maxRecDepth 100000 in
theorem c_U_saveUnits (l : Launch) (dC : Nat → ClassId) (dI : Nat → Nat → Nat) (cI cZ cJ : ClassId) (a_u a_d a_p a_pb a_pf a_r a_rs a_rb a_ru a_rz a_rh a_rl a_c a_cp a_st a_pl : Nat) (sz n N : Nat) (uOpen : Int32) (uFill : Int32) (uSaved : Int32) (uSerial : Int32) (uDown : Int32) (uArmed : Int32) (uWritten : Int32)  (res : Int32 × Int32 × Int32 × Int32) (hM : U_saveUnits uFill uSaved uArmed uWritten = some res) : Met l y_U_saveUnits w_U_saveUnits ({ frames := 1, cells := 0, slots := 0, locals := 20 }) (va_Pc [.ref a_u] (fun U => U.heap.size = sz ∧ va_P (dC, dI) classes [(a_u, .inr (0, [.ref a_d, .ref a_p, .ref a_r, .ref a_c, .ref a_st, .ref a_pl, .int uOpen, .int uFill, .int uSaved, .int uSerial, .int uDown])), (a_d, .inr (1, [.int uArmed, .int uWritten]))] U.heap ∧ va_K (dC, dI) classes [(cI, .int), (cZ, .boolean), (cJ, .long)] U ∧ va_D (fun _ => True) [(a_u, .inr (0, [.ref a_d, .ref a_p, .ref a_r, .ref a_c, .ref a_st, .ref a_pl, .int uOpen, .int uFill, .int uSaved, .int uSerial, .int uDown])), (a_d, .inr (1, [.int uArmed, .int uWritten]))] ∧ Ns U)) (va_Qi (fun (r : Int32) (z : Int32 × Int32 × Int32) => res = (r, z)) (fun (z : Int32 × Int32 × Int32) (t : State) => va_P (dC, dI) classes [(a_u, .inr (0, [.ref a_d, .ref a_p, .ref a_r, .ref a_c, .ref a_st, .ref a_pl, .int uOpen, .int uFill, .int z.1, .int uSerial, .int uDown])), (a_d, .inr (1, [.int z.2.1, .int z.2.2]))] t.heap ∧ va_K (dC, dI) classes [(cI, .int), (cZ, .boolean), (cJ, .long)] t ∧ va_D (va_A [(a_u, .inr (0, [.ref a_d, .ref a_p, .ref a_r, .ref a_c, .ref a_st, .ref a_pl, .int uOpen, .int uFill, .int uSaved, .int uSerial, .int uDown])), (a_d, .inr (1, [.int uArmed, .int uWritten]))] sz) [(a_u, .inr (0, [.ref a_d, .ref a_p, .ref a_r, .ref a_c, .ref a_st, .ref a_pl, .int uOpen, .int uFill, .int z.1, .int uSerial, .int uDown])), (a_d, .inr (1, [.int z.2.1, .int z.2.2]))]) (va_A [(a_u, .inr (0, [.ref a_d, .ref a_p, .ref a_r, .ref a_c, .ref a_st, .ref a_pl, .int uOpen, .int uFill, .int uSaved, .int uSerial, .int uDown])), (a_d, .inr (1, [.int uArmed, .int uWritten]))] sz)) 0 0 (va_A [(a_u, .inr (0, [.ref a_d, .ref a_p, .ref a_r, .ref a_c, .ref a_st, .ref a_pl, .int uOpen, .int uFill, .int uSaved, .int uSerial, .int uDown])), (a_d, .inr (1, [.int uArmed, .int uWritten]))] sz) := by
  refine Met.ofW (cc := b_U_saveUnits) (maxL := 2) (ret := (some .boolean)) (by decide) rfl ?_
  intro p e s m args below meth c s₁ B hml hv
  obtain ⟨rfl, hsz, hP, hK, hD0, hN⟩ := hv
  have hx := B.exec
  have hb := B.bytes
  have hr := B.returns
  have hts := atoms_spec (ws := w_U_saveUnits) B.pre
  have htT : ∀ w ∈ lwG, w.before _ s = true := fun w h => hts w (List.mem_cons_of_mem _ h)
  have hown : s.vm.findClass R_U = some m.cls := findClass_of_methodNamed B.named
  have hlocks := B.notSynchronized
  subst hsz
  have hD := hD0.self (sz := s.heap.size)
  generalize hAe : va_A [(a_u, .inr (0, [.ref a_d, .ref a_p, .ref a_r, .ref a_c, .ref a_st, .ref a_pl, .int uOpen, .int uFill, .int uSaved, .int uSerial, .int uDown])), (a_d, .inr (1, [.int uArmed, .int uWritten]))] s.heap.size = A at hD ⊢
  have hA : ∀ q : Nat, s.heap.size ≤ q → A q := fun q h => by rw [← hAe]; exact Or.inr h
  have hS : va_S A s.heap s.heap [] := va_S.rf
  have hP : va_P (dC, dI) classes [(a_u, .inr (0, [.ref a_d, .ref a_p, .ref a_r, .ref a_c, .ref a_st, .ref a_pl, .int uOpen, .int uFill, .int uSaved, .int uSerial, .int uDown])), (a_d, .inr (1, [.int uArmed, .int uWritten]))] s.heap := hP
  have hl := lv_entry ([.ref a_u]) (n := 2) (Nat.le_of_ble_eq_true rfl)
  rw [lg_entry_eq]
  generalize (lg_sl ([.ref a_u]) ++ List.replicate (2 - (lg_sl ([.ref a_u])).length) Slot.unset).toArray = ls at hl ⊢
  have hl : lv_has ls 2 [(0, .ref a_u)] := hl
  have h := hM
  rw [U_saveUnits] at h
  refine lv_aload_n hx hb d_U_saveUnits_0 rfl (lv_at hl 0 rfl) ?_
  refine va_get (D := (dC, dI)) (ci := 0) (v := .int uSaved) (C := R_U) (T := F_U) (N := 11) hx hb htT i_U hown hK hP 0 rfl rfl 8 (by decide) (htT _ kf_U_103) (fun _ h9 => h9) rfl d_U_saveUnits_1 ?_
  refine lv_istore_n hx hb d_U_saveUnits_4 rfl hl (by decide) rfl (fun ls hl => ?_)
  have hl : lv_has ls 2 [(1, .int uSaved), (0, .ref a_u)] := hl
  have L5 : ∀ (K5 : Int32 → Int32 → Int32 → Int32 → Option (Int32 × Int32 × Int32 × Int32)) (fuel : Nat) (uSaved_w5 : Int32) (uArmed_w5 : Int32) (uWritten_w5 : Int32) (x1_w5 : Int32) (ls : Array Slot) (H : Heap) (locs : List Loc), lv_has ls 2 [(0, .ref a_u), (1, .int x1_w5)] → va_P (dC, dI) classes [(a_u, .inr (0, [.ref a_d, .ref a_p, .ref a_r, .ref a_c, .ref a_st, .ref a_pl, .int uOpen, .int uFill, .int uSaved_w5, .int uSerial, .int uDown])), (a_d, .inr (1, [.int uArmed_w5, .int uWritten_w5]))] H → va_D A [(a_u, .inr (0, [.ref a_d, .ref a_p, .ref a_r, .ref a_c, .ref a_st, .ref a_pl, .int uOpen, .int uFill, .int uSaved_w5, .int uSerial, .int uDown])), (a_d, .inr (1, [.int uArmed_w5, .int uWritten_w5]))] → va_S A s.heap H locs → U_saveUnits_L5 uFill K5 fuel uSaved_w5 uArmed_w5 uWritten_w5 x1_w5 = some res → (∀ (uSaved_w5 : Int32) (uArmed_w5 : Int32) (uWritten_w5 : Int32) (x1_w5 : Int32) (ls : Array Slot) (H : Heap) (locs : List Loc), lv_has ls 2 [(0, .ref a_u), (1, .int x1_w5)] → va_P (dC, dI) classes [(a_u, .inr (0, [.ref a_d, .ref a_p, .ref a_r, .ref a_c, .ref a_st, .ref a_pl, .int uOpen, .int uFill, .int uSaved_w5, .int uSerial, .int uDown])), (a_d, .inr (1, [.int uArmed_w5, .int uWritten_w5]))] H → va_D A [(a_u, .inr (0, [.ref a_d, .ref a_p, .ref a_r, .ref a_c, .ref a_st, .ref a_pl, .int uOpen, .int uFill, .int uSaved_w5, .int uSerial, .int uDown])), (a_d, .inr (1, [.int uArmed_w5, .int uWritten_w5]))] → va_S A s.heap H locs → K5 uSaved_w5 uArmed_w5 uWritten_w5 x1_w5 = some res → W p l e (headSpec w_U_saveUnits ({ frames := 1, cells := 0, slots := 0, locals := 20 })).room s m ([.ref a_u] : List Value).toArray below meth c H locs 0 0 (MQ below (va_Qi (fun (r : Int32) (z : Int32 × Int32 × Int32) => res = (r, z)) (fun (z : Int32 × Int32 × Int32) (t : State) => va_P (dC, dI) classes [(a_u, .inr (0, [.ref a_d, .ref a_p, .ref a_r, .ref a_c, .ref a_st, .ref a_pl, .int uOpen, .int uFill, .int z.1, .int uSerial, .int uDown])), (a_d, .inr (1, [.int z.2.1, .int z.2.2]))] t.heap ∧ va_K (dC, dI) classes [(cI, .int), (cZ, .boolean), (cJ, .long)] t ∧ va_D A [(a_u, .inr (0, [.ref a_d, .ref a_p, .ref a_r, .ref a_c, .ref a_st, .ref a_pl, .int uOpen, .int uFill, .int z.1, .int uSerial, .int uDown])), (a_d, .inr (1, [.int z.2.1, .int z.2.2]))]) A) ([.ref a_u] : List Value).toArray s 0 0 A) (F0 m 38 ls [])) → W p l e (headSpec w_U_saveUnits ({ frames := 1, cells := 0, slots := 0, locals := 20 })).room s m ([.ref a_u] : List Value).toArray below meth c H locs 0 0 (MQ below (va_Qi (fun (r : Int32) (z : Int32 × Int32 × Int32) => res = (r, z)) (fun (z : Int32 × Int32 × Int32) (t : State) => va_P (dC, dI) classes [(a_u, .inr (0, [.ref a_d, .ref a_p, .ref a_r, .ref a_c, .ref a_st, .ref a_pl, .int uOpen, .int uFill, .int z.1, .int uSerial, .int uDown])), (a_d, .inr (1, [.int z.2.1, .int z.2.2]))] t.heap ∧ va_K (dC, dI) classes [(cI, .int), (cZ, .boolean), (cJ, .long)] t ∧ va_D A [(a_u, .inr (0, [.ref a_d, .ref a_p, .ref a_r, .ref a_c, .ref a_st, .ref a_pl, .int uOpen, .int uFill, .int z.1, .int uSerial, .int uDown])), (a_d, .inr (1, [.int z.2.1, .int z.2.2]))]) A) ([.ref a_u] : List Value).toArray s 0 0 A) (F0 m 5 ls []) := by
    intro K5 fuel
    induction fuel with
    | zero => intro uSaved_w5 uArmed_w5 uWritten_w5 x1_w5 ls H locs hl hP hD hS h hk5; exact absurd (show (none : Option (Int32 × Int32 × Int32 × Int32)) = some res from h) (by intro q; cases q)
    | succ fuel ih5 =>
      intro uSaved_w5 uArmed_w5 uWritten_w5 x1_w5 ls H locs hl hP hD hS h hk5
      rw [U_saveUnits_L5] at h
      refine lv_iload_n hx hb d_U_saveUnits_5 rfl (lv_at hl 1 rfl) ?_
      refine lv_aload_n hx hb d_U_saveUnits_6 rfl (lv_at hl 0 rfl) ?_
      refine va_get (D := (dC, dI)) (ci := 0) (v := .int uFill) (C := R_U) (T := F_U) (N := 11) hx hb htT i_U hown hK hP 0 rfl rfl 7 (by decide) (htT _ kf_U_101) (fun _ h9 => h9) rfl d_U_saveUnits_7 ?_
      refine lv_icmp_ge (tgt := 38) hx hb d_U_saveUnits_10 (by decide) (fun hc => ?_) (fun hc => ?_)
      · have h := ck_t hc h
        have hl : lv_has ls 2 [(0, .ref a_u), (1, .int x1_w5)] := lv_sub hl [0, 1] rfl
        exact hk5 _ _ _ _ _ _ _ hl hP hD hS h
      · have h := ck_f hc h
        refine lv_aload_n hx hb d_U_saveUnits_13 rfl (lv_at hl 0 rfl) ?_
        refine va_get (D := (dC, dI)) (ci := 0) (v := .ref a_d) (C := R_U) (T := F_U) (N := 11) hx hb htT i_U hown hK hP 0 rfl rfl 0 (by decide) (htT _ kf_U_21) (fun _ h9 => h9) rfl d_U_saveUnits_14 ?_
        obtain ⟨z1, hz, h⟩ := ck_bind h
        have hPc := hP.sub (ws' := [(a_d, .inr (1, [.int uArmed_w5, .int uWritten_w5]))]) [1] rfl
        have hDc := hD.sub (ws' := [(a_d, .inr (1, [.int uArmed_w5, .int uWritten_w5]))]) [1] (by decide) rfl
        have hFc := va_free (wc := [(a_d, .inr (1, [.int uArmed_w5, .int uWritten_w5]))]) hD hS hA [1] rfl
        refine va_calli (va_runV (As := []) (rest := []) ⟨hx, hb, hml, hown, htT⟩ (c_D_writeUnit l dC dI cI cZ cJ a_u a_d a_p a_pb a_pf a_r a_rs a_rb a_ru a_rz a_rh a_rl a_c a_cp a_st a_pl H.size n N uArmed_w5 uWritten_w5  z1 hz) (cwV 0 htT (gV kl_U_175 ki_D_writeUnit ke_D_writeUnit kn_D kc_D_writeUnit) rfl rfl rfl (by decide +kernel) ⟨Nat.le_of_ble_eq_true rfl, Nat.le_of_ble_eq_true rfl⟩) ⟨fun a U g mk q => by obtain ⟨q0, q1, qP, qK, qD, qN⟩ := q; exact ⟨q0, q1, qP, va_K.moved (u := U) (U := U.calling g mk a) (Vm.Alike.refl U.vm) qK, qD, Ns.same (u := U) rfl qN⟩, va_recv (q0 := 1) (q := (R_D, F_D, 2)) hK hP (ci := 1) rfl rfl, fun U hU hW => ⟨rfl, by rw [hU], by rw [hU]; exact hPc, va_K.moved hW.alike hK, hDc.weaken (fun _ _ _ _ => trivial), Ns.warm hW hN⟩⟩ rfl rfl hl.1 rfl (lv_room (Nat.le_of_ble_eq_true rfl)) d_U_saveUnits_17 ⟨(Nat.zero_le _), (Nat.zero_le _)⟩) hS (fun q _ h => hFc q h) hFc (fun r u t H locs ht hvm hw hB hz1 hk1 hS => ?_)
        have e1 := congrArg Prod.fst hw
        have e2 := congrArg Prod.snd hw
        dsimp only at e1 e2
        subst e1
        subst e2
        obtain ⟨hP1, hK1, hD1⟩ := hB
        rw [ht] at hP1
        obtain ⟨hP, hD⟩ := va_join (wr := [(a_u, .inr (0, [.ref a_d, .ref a_p, .ref a_r, .ref a_c, .ref a_st, .ref a_pl, .int uOpen, .int uFill, .int uSaved_w5, .int uSerial, .int uDown]))]) (w1 := [(a_d, .inr (1, [.int z1.2.1, .int z1.2.2]))]) hP hD [1] [0] rfl rfl (by decide) (by decide) hk1 hFc hP1 hD1
        have hP : va_P (dC, dI) classes [(a_u, .inr (0, [.ref a_d, .ref a_p, .ref a_r, .ref a_c, .ref a_st, .ref a_pl, .int uOpen, .int uFill, .int uSaved_w5, .int uSerial, .int uDown])), (a_d, .inr (1, [.int z1.2.1, .int z1.2.2]))] H := hP
        have hD : va_D A [(a_u, .inr (0, [.ref a_d, .ref a_p, .ref a_r, .ref a_c, .ref a_st, .ref a_pl, .int uOpen, .int uFill, .int uSaved_w5, .int uSerial, .int uDown])), (a_d, .inr (1, [.int z1.2.1, .int z1.2.2]))] := hD
        refine lv_if_ne (tgt := 25) hx hb d_U_saveUnits_20 (by decide) (fun hc => ?_) (fun hc => ?_)
        · have h := ck_f hc h
          refine lv_aload_n hx hb d_U_saveUnits_25 rfl (lv_at hl 0 rfl) ?_
          refine lv_iload_n hx hb d_U_saveUnits_26 rfl (lv_at hl 1 rfl) ?_
          refine lv_iconst (v := (1 : Int32)) hx hb d_U_saveUnits_27 (by decide) ?_
          refine lv_iadd hx hb d_U_saveUnits_28 ?_
          refine va_put (D := (dC, dI)) (ci := 0) (v := .int (x1_w5 + (1 : Int32))) (ty := .int) (C := R_U) (T := F_U) (N := 11) hx hb htT i_U t_U t_U_ok n_U hown hK hP hD hS 0 rfl rfl 8 (by decide) (htT _ kf_U_103) (fun _ h9 => h9) rfl (by decide +kernel) rfl rfl (Nat.le_of_ble_eq_true rfl) d_U_saveUnits_29 (fun H locs hP hD hS => ?_)
          have hP : va_P (dC, dI) classes [(a_u, .inr (0, [.ref a_d, .ref a_p, .ref a_r, .ref a_c, .ref a_st, .ref a_pl, .int uOpen, .int uFill, .int (x1_w5 + (1 : Int32)), .int uSerial, .int uDown])), (a_d, .inr (1, [.int z1.2.1, .int z1.2.2]))] H := hP
          have hD : va_D A [(a_u, .inr (0, [.ref a_d, .ref a_p, .ref a_r, .ref a_c, .ref a_st, .ref a_pl, .int uOpen, .int uFill, .int (x1_w5 + (1 : Int32)), .int uSerial, .int uDown])), (a_d, .inr (1, [.int z1.2.1, .int z1.2.2]))] := hD
          refine lv_iinc (k := 1) (v := (x1_w5 + (1 : Int32))) hx hb d_U_saveUnits_32 hl rfl (congrArg (fun y => x1_w5 + y) (by decide)) (by decide) rfl (fun ls hl => ?_)
          have hl : lv_has ls 2 [(1, .int (x1_w5 + (1 : Int32))), (0, .ref a_u)] := hl
          refine lv_goto (tgt := 5) hx hb d_U_saveUnits_35 (by decide) ?_
          have hl : lv_has ls 2 [(0, .ref a_u), (1, .int (x1_w5 + (1 : Int32)))] := lv_sub hl [1, 0] rfl
          exact ih5 _ _ _ _ _ _ _ hl hP hD hS h hk5
        · have h := ck_t hc h
          refine lv_iconst (v := (0 : Int32)) hx hb d_U_saveUnits_23 (by decide) ?_
          exact W.zret (v := (0 : Int32)) hx hb hr rfl (fun t ht hW => ⟨⟨(0 : Int32), (uSaved_w5, z1.2.1, z1.2.2), rfl, (Option.some.inj h).symm, by rw [ht]; exact hP, va_K.moved hW.alike hK, hD⟩, hS.F ht⟩) hS.2.2 d_U_saveUnits_24
  have hl : lv_has ls 2 [(0, .ref a_u), (1, .int uSaved)] := lv_sub hl [1, 0] rfl
  refine L5 _ _ _ _ _ _ _ _ _ hl hP hD hS h ?_
  intro uSaved_k5 uArmed_k5 uWritten_k5 x1_k5 ls H locs hl hP hD hS h
  refine lv_iconst (v := (1 : Int32)) hx hb d_U_saveUnits_38 (by decide) ?_
  exact W.zret (v := (1 : Int32)) hx hb hr rfl (fun t ht hW => ⟨⟨(1 : Int32), (uSaved_k5, uArmed_k5, uWritten_k5), rfl, (Option.some.inj h).symm, by rw [ht]; exact hP, va_K.moved hW.alike hK, hD⟩, hS.F ht⟩) hS.2.2 d_U_saveUnits_39
set_option maxHeartbeats 4000000 in
set_option maxRecDepth 100000 in
theorem c_U_makeCheckpoint (l : Launch) (dC : Nat → ClassId) (dI : Nat → Nat → Nat) (cI cZ cJ : ClassId) (a_u a_d a_p a_pb a_pf a_r a_rs a_rb a_ru a_rz a_rh a_rl a_c a_cp a_st a_pl : Nat) (sz n N : Nat) (uOpen : Int32) (uFill : Int32) (uSaved : Int32) (uSerial : Int32) (uDown : Int32) (uArmed : Int32) (uWritten : Int32) (cNumber : Int32) (cSerial : Int32) (cOpen : Int32) (cFill : Int32) (cPlcs : Nat → Int32) (uPlcs : Nat → Int32)  (res : Int32 × Int32 × Int32 × Int32 × Int32 × Int32 × Int32 × Int32 × (Nat → Int32)) (hM : U_makeCheckpoint uOpen uFill uSaved uSerial uArmed uWritten cNumber cSerial cOpen cFill cPlcs uPlcs = some res) : Met l y_U_makeCheckpoint w_U_makeCheckpoint ({ frames := 2, cells := 0, slots := 0, locals := 100 }) (va_Pc [.ref a_u] (fun U => U.heap.size = sz ∧ va_P (dC, dI) classes [(a_u, .inr (0, [.ref a_d, .ref a_p, .ref a_r, .ref a_c, .ref a_st, .ref a_pl, .int uOpen, .int uFill, .int uSaved, .int uSerial, .int uDown])), (a_d, .inr (1, [.int uArmed, .int uWritten])), (a_c, .inr (4, [.ref a_cp, .int cNumber, .int cSerial, .int cOpen, .int cFill])), (a_cp, .inl (cI, 16, .inl cPlcs)), (a_pl, .inl (cI, 16, .inl uPlcs))] U.heap ∧ va_K (dC, dI) classes [(cI, .int), (cZ, .boolean), (cJ, .long)] U ∧ va_D (fun _ => True) [(a_u, .inr (0, [.ref a_d, .ref a_p, .ref a_r, .ref a_c, .ref a_st, .ref a_pl, .int uOpen, .int uFill, .int uSaved, .int uSerial, .int uDown])), (a_d, .inr (1, [.int uArmed, .int uWritten])), (a_c, .inr (4, [.ref a_cp, .int cNumber, .int cSerial, .int cOpen, .int cFill])), (a_cp, .inl (cI, 16, .inl cPlcs)), (a_pl, .inl (cI, 16, .inl uPlcs))] ∧ Ns U)) (va_Qi (fun (r : Int32) (z : Int32 × Int32 × Int32 × Int32 × Int32 × Int32 × Int32 × (Nat → Int32)) => res = (r, z)) (fun (z : Int32 × Int32 × Int32 × Int32 × Int32 × Int32 × Int32 × (Nat → Int32)) (t : State) => va_P (dC, dI) classes [(a_u, .inr (0, [.ref a_d, .ref a_p, .ref a_r, .ref a_c, .ref a_st, .ref a_pl, .int uOpen, .int uFill, .int z.1, .int uSerial, .int uDown])), (a_d, .inr (1, [.int z.2.1, .int z.2.2.1])), (a_c, .inr (4, [.ref a_cp, .int z.2.2.2.1, .int z.2.2.2.2.1, .int z.2.2.2.2.2.1, .int z.2.2.2.2.2.2.1])), (a_cp, .inl (cI, 16, .inl z.2.2.2.2.2.2.2)), (a_pl, .inl (cI, 16, .inl uPlcs))] t.heap ∧ va_K (dC, dI) classes [(cI, .int), (cZ, .boolean), (cJ, .long)] t ∧ va_D (va_A [(a_u, .inr (0, [.ref a_d, .ref a_p, .ref a_r, .ref a_c, .ref a_st, .ref a_pl, .int uOpen, .int uFill, .int uSaved, .int uSerial, .int uDown])), (a_d, .inr (1, [.int uArmed, .int uWritten])), (a_c, .inr (4, [.ref a_cp, .int cNumber, .int cSerial, .int cOpen, .int cFill])), (a_cp, .inl (cI, 16, .inl cPlcs)), (a_pl, .inl (cI, 16, .inl uPlcs))] sz) [(a_u, .inr (0, [.ref a_d, .ref a_p, .ref a_r, .ref a_c, .ref a_st, .ref a_pl, .int uOpen, .int uFill, .int z.1, .int uSerial, .int uDown])), (a_d, .inr (1, [.int z.2.1, .int z.2.2.1])), (a_c, .inr (4, [.ref a_cp, .int z.2.2.2.1, .int z.2.2.2.2.1, .int z.2.2.2.2.2.1, .int z.2.2.2.2.2.2.1])), (a_cp, .inl (cI, 16, .inl z.2.2.2.2.2.2.2)), (a_pl, .inl (cI, 16, .inl uPlcs))]) (va_A [(a_u, .inr (0, [.ref a_d, .ref a_p, .ref a_r, .ref a_c, .ref a_st, .ref a_pl, .int uOpen, .int uFill, .int uSaved, .int uSerial, .int uDown])), (a_d, .inr (1, [.int uArmed, .int uWritten])), (a_c, .inr (4, [.ref a_cp, .int cNumber, .int cSerial, .int cOpen, .int cFill])), (a_cp, .inl (cI, 16, .inl cPlcs)), (a_pl, .inl (cI, 16, .inl uPlcs))] sz)) 0 0 (va_A [(a_u, .inr (0, [.ref a_d, .ref a_p, .ref a_r, .ref a_c, .ref a_st, .ref a_pl, .int uOpen, .int uFill, .int uSaved, .int uSerial, .int uDown])), (a_d, .inr (1, [.int uArmed, .int uWritten])), (a_c, .inr (4, [.ref a_cp, .int cNumber, .int cSerial, .int cOpen, .int cFill])), (a_cp, .inl (cI, 16, .inl cPlcs)), (a_pl, .inl (cI, 16, .inl uPlcs))] sz) := by
  refine Met.ofW (cc := b_U_makeCheckpoint) (maxL := 2) (ret := (some .boolean)) (by decide) rfl ?_
  intro p e s m args below meth c s₁ B hml hv
  obtain ⟨rfl, hsz, hP, hK, hD0, hN⟩ := hv
  have hx := B.exec
  have hb := B.bytes
  have hr := B.returns
  have hts := atoms_spec (ws := w_U_makeCheckpoint) B.pre
  have htT : ∀ w ∈ lwG, w.before _ s = true := fun w h => hts w (List.mem_cons_of_mem _ h)
  have hown : s.vm.findClass R_U = some m.cls := findClass_of_methodNamed B.named
  have hlocks := B.notSynchronized
  subst hsz
  have hD := hD0.self (sz := s.heap.size)
  generalize hAe : va_A [(a_u, .inr (0, [.ref a_d, .ref a_p, .ref a_r, .ref a_c, .ref a_st, .ref a_pl, .int uOpen, .int uFill, .int uSaved, .int uSerial, .int uDown])), (a_d, .inr (1, [.int uArmed, .int uWritten])), (a_c, .inr (4, [.ref a_cp, .int cNumber, .int cSerial, .int cOpen, .int cFill])), (a_cp, .inl (cI, 16, .inl cPlcs)), (a_pl, .inl (cI, 16, .inl uPlcs))] s.heap.size = A at hD ⊢
  have hA : ∀ q : Nat, s.heap.size ≤ q → A q := fun q h => by rw [← hAe]; exact Or.inr h
  have hS : va_S A s.heap s.heap [] := va_S.rf
  have hP : va_P (dC, dI) classes [(a_u, .inr (0, [.ref a_d, .ref a_p, .ref a_r, .ref a_c, .ref a_st, .ref a_pl, .int uOpen, .int uFill, .int uSaved, .int uSerial, .int uDown])), (a_d, .inr (1, [.int uArmed, .int uWritten])), (a_c, .inr (4, [.ref a_cp, .int cNumber, .int cSerial, .int cOpen, .int cFill])), (a_cp, .inl (cI, 16, .inl cPlcs)), (a_pl, .inl (cI, 16, .inl uPlcs))] s.heap := hP
  have hl := lv_entry ([.ref a_u]) (n := 2) (Nat.le_of_ble_eq_true rfl)
  rw [lg_entry_eq]
  generalize (lg_sl ([.ref a_u]) ++ List.replicate (2 - (lg_sl ([.ref a_u])).length) Slot.unset).toArray = ls at hl ⊢
  have hl : lv_has ls 2 [(0, .ref a_u)] := hl
  have h := hM
  rw [U_makeCheckpoint] at h
  refine lv_aload_n hx hb d_U_makeCheckpoint_0 rfl (lv_at hl 0 rfl) ?_
  obtain ⟨z1, hz, h⟩ := ck_bind h
  have hPc := hP.sub (ws' := [(a_u, .inr (0, [.ref a_d, .ref a_p, .ref a_r, .ref a_c, .ref a_st, .ref a_pl, .int uOpen, .int uFill, .int uSaved, .int uSerial, .int uDown])), (a_d, .inr (1, [.int uArmed, .int uWritten]))]) [0, 1] rfl
  have hDc := hD.sub (ws' := [(a_u, .inr (0, [.ref a_d, .ref a_p, .ref a_r, .ref a_c, .ref a_st, .ref a_pl, .int uOpen, .int uFill, .int uSaved, .int uSerial, .int uDown])), (a_d, .inr (1, [.int uArmed, .int uWritten]))]) [0, 1] (by decide) rfl
  have hFc := va_free (wc := [(a_u, .inr (0, [.ref a_d, .ref a_p, .ref a_r, .ref a_c, .ref a_st, .ref a_pl, .int uOpen, .int uFill, .int uSaved, .int uSerial, .int uDown])), (a_d, .inr (1, [.int uArmed, .int uWritten]))]) hD hS hA [0, 1] rfl
  refine va_calli (va_runV (As := []) (rest := []) ⟨hx, hb, hml, hown, htT⟩ (c_U_saveUnits l dC dI cI cZ cJ a_u a_d a_p a_pb a_pf a_r a_rs a_rb a_ru a_rz a_rh a_rl a_c a_cp a_st a_pl s.heap.size n N uOpen uFill uSaved uSerial uDown uArmed uWritten  z1 hz) (cwV 0 htT (gV kl_U_106 ki_U_saveUnits ke_U_saveUnits kn_U kc_U_saveUnits) rfl rfl rfl (by decide +kernel) ⟨Nat.le_of_ble_eq_true rfl, Nat.le_of_ble_eq_true rfl⟩) ⟨fun a U g mk q => by obtain ⟨q0, q1, qP, qK, qD, qN⟩ := q; exact ⟨q0, q1, qP, va_K.moved (u := U) (U := U.calling g mk a) (Vm.Alike.refl U.vm) qK, qD, Ns.same (u := U) rfl qN⟩, va_recv (q0 := 0) (q := (R_U, F_U, 11)) hK hP (ci := 0) rfl rfl, fun U hU hW => ⟨rfl, by rw [hU], by rw [hU]; exact hPc, va_K.moved hW.alike hK, hDc.weaken (fun _ _ _ _ => trivial), Ns.warm hW hN⟩⟩ rfl rfl hl.1 rfl (lv_room (Nat.le_of_ble_eq_true rfl)) d_U_makeCheckpoint_1 ⟨(Nat.zero_le _), (Nat.zero_le _)⟩) hS (fun q _ h => hFc q h) hFc (fun r u t H locs ht hvm hw hB hz1 hk1 hS => ?_)
  have e1 := congrArg Prod.fst hw
  have e2 := congrArg Prod.snd hw
  dsimp only at e1 e2
  subst e1
  subst e2
  obtain ⟨hP1, hK1, hD1⟩ := hB
  rw [ht] at hP1
  obtain ⟨hP, hD⟩ := va_join (wr := [(a_c, .inr (4, [.ref a_cp, .int cNumber, .int cSerial, .int cOpen, .int cFill])), (a_cp, .inl (cI, 16, .inl cPlcs)), (a_pl, .inl (cI, 16, .inl uPlcs))]) (w1 := [(a_u, .inr (0, [.ref a_d, .ref a_p, .ref a_r, .ref a_c, .ref a_st, .ref a_pl, .int uOpen, .int uFill, .int z1.2.1, .int uSerial, .int uDown])), (a_d, .inr (1, [.int z1.2.2.1, .int z1.2.2.2]))]) hP hD [0, 1] [2, 3, 4] rfl rfl (by decide) (by decide) hk1 hFc hP1 hD1
  have hP := hP.sub (ws' := [(a_u, .inr (0, [.ref a_d, .ref a_p, .ref a_r, .ref a_c, .ref a_st, .ref a_pl, .int uOpen, .int uFill, .int z1.2.1, .int uSerial, .int uDown])), (a_d, .inr (1, [.int z1.2.2.1, .int z1.2.2.2])), (a_c, .inr (4, [.ref a_cp, .int cNumber, .int cSerial, .int cOpen, .int cFill])), (a_cp, .inl (cI, 16, .inl cPlcs)), (a_pl, .inl (cI, 16, .inl uPlcs))]) [3, 4, 0, 1, 2] rfl
  have hD := hD.sub (ws' := [(a_u, .inr (0, [.ref a_d, .ref a_p, .ref a_r, .ref a_c, .ref a_st, .ref a_pl, .int uOpen, .int uFill, .int z1.2.1, .int uSerial, .int uDown])), (a_d, .inr (1, [.int z1.2.2.1, .int z1.2.2.2])), (a_c, .inr (4, [.ref a_cp, .int cNumber, .int cSerial, .int cOpen, .int cFill])), (a_cp, .inl (cI, 16, .inl cPlcs)), (a_pl, .inl (cI, 16, .inl uPlcs))]) [3, 4, 0, 1, 2] (by decide) rfl
  have hP : va_P (dC, dI) classes [(a_u, .inr (0, [.ref a_d, .ref a_p, .ref a_r, .ref a_c, .ref a_st, .ref a_pl, .int uOpen, .int uFill, .int z1.2.1, .int uSerial, .int uDown])), (a_d, .inr (1, [.int z1.2.2.1, .int z1.2.2.2])), (a_c, .inr (4, [.ref a_cp, .int cNumber, .int cSerial, .int cOpen, .int cFill])), (a_cp, .inl (cI, 16, .inl cPlcs)), (a_pl, .inl (cI, 16, .inl uPlcs))] H := hP
  have hD : va_D A [(a_u, .inr (0, [.ref a_d, .ref a_p, .ref a_r, .ref a_c, .ref a_st, .ref a_pl, .int uOpen, .int uFill, .int z1.2.1, .int uSerial, .int uDown])), (a_d, .inr (1, [.int z1.2.2.1, .int z1.2.2.2])), (a_c, .inr (4, [.ref a_cp, .int cNumber, .int cSerial, .int cOpen, .int cFill])), (a_cp, .inl (cI, 16, .inl cPlcs)), (a_pl, .inl (cI, 16, .inl uPlcs))] := hD
  refine lv_if_ne (tgt := 9) hx hb d_U_makeCheckpoint_4 (by decide) (fun hc => ?_) (fun hc => ?_)
  · have h := ck_f hc h
    refine lv_iconst (v := (0 : Int32)) hx hb d_U_makeCheckpoint_9 (by decide) ?_
    refine lv_istore_n hx hb d_U_makeCheckpoint_10 rfl hl (by decide) rfl (fun ls hl => ?_)
    have hl : lv_has ls 2 [(1, .int (0 : Int32)), (0, .ref a_u)] := hl
    have L11 : ∀ (K11 : Int32 → Int32 → Int32 → Option (Int32 × Int32 × Int32 × Int32 × Int32 × Int32 × Int32 × Int32 × (Nat → Int32))) (fuel : Nat) (uArmed_w11 : Int32) (uWritten_w11 : Int32) (x1_w11 : Int32) (ls : Array Slot) (H : Heap) (locs : List Loc), lv_has ls 2 [(0, .ref a_u), (1, .int x1_w11)] → va_P (dC, dI) classes [(a_u, .inr (0, [.ref a_d, .ref a_p, .ref a_r, .ref a_c, .ref a_st, .ref a_pl, .int uOpen, .int uFill, .int z1.2.1, .int uSerial, .int uDown])), (a_d, .inr (1, [.int uArmed_w11, .int uWritten_w11])), (a_c, .inr (4, [.ref a_cp, .int cNumber, .int cSerial, .int cOpen, .int cFill])), (a_cp, .inl (cI, 16, .inl cPlcs)), (a_pl, .inl (cI, 16, .inl uPlcs))] H → va_D A [(a_u, .inr (0, [.ref a_d, .ref a_p, .ref a_r, .ref a_c, .ref a_st, .ref a_pl, .int uOpen, .int uFill, .int z1.2.1, .int uSerial, .int uDown])), (a_d, .inr (1, [.int uArmed_w11, .int uWritten_w11])), (a_c, .inr (4, [.ref a_cp, .int cNumber, .int cSerial, .int cOpen, .int cFill])), (a_cp, .inl (cI, 16, .inl cPlcs)), (a_pl, .inl (cI, 16, .inl uPlcs))] → va_S A s.heap H locs → U_makeCheckpoint_L11 z1.2.1 cNumber cSerial cOpen cFill cPlcs K11 fuel uArmed_w11 uWritten_w11 x1_w11 = some res → (∀ (uArmed_w11 : Int32) (uWritten_w11 : Int32) (x1_w11 : Int32) (ls : Array Slot) (H : Heap) (locs : List Loc), lv_has ls 2 [(0, .ref a_u), (1, .int x1_w11)] → va_P (dC, dI) classes [(a_u, .inr (0, [.ref a_d, .ref a_p, .ref a_r, .ref a_c, .ref a_st, .ref a_pl, .int uOpen, .int uFill, .int z1.2.1, .int uSerial, .int uDown])), (a_d, .inr (1, [.int uArmed_w11, .int uWritten_w11])), (a_c, .inr (4, [.ref a_cp, .int cNumber, .int cSerial, .int cOpen, .int cFill])), (a_cp, .inl (cI, 16, .inl cPlcs)), (a_pl, .inl (cI, 16, .inl uPlcs))] H → va_D A [(a_u, .inr (0, [.ref a_d, .ref a_p, .ref a_r, .ref a_c, .ref a_st, .ref a_pl, .int uOpen, .int uFill, .int z1.2.1, .int uSerial, .int uDown])), (a_d, .inr (1, [.int uArmed_w11, .int uWritten_w11])), (a_c, .inr (4, [.ref a_cp, .int cNumber, .int cSerial, .int cOpen, .int cFill])), (a_cp, .inl (cI, 16, .inl cPlcs)), (a_pl, .inl (cI, 16, .inl uPlcs))] → va_S A s.heap H locs → K11 uArmed_w11 uWritten_w11 x1_w11 = some res → W p l e (headSpec w_U_makeCheckpoint ({ frames := 2, cells := 0, slots := 0, locals := 100 })).room s m ([.ref a_u] : List Value).toArray below meth c H locs 0 0 (MQ below (va_Qi (fun (r : Int32) (z : Int32 × Int32 × Int32 × Int32 × Int32 × Int32 × Int32 × (Nat → Int32)) => res = (r, z)) (fun (z : Int32 × Int32 × Int32 × Int32 × Int32 × Int32 × Int32 × (Nat → Int32)) (t : State) => va_P (dC, dI) classes [(a_u, .inr (0, [.ref a_d, .ref a_p, .ref a_r, .ref a_c, .ref a_st, .ref a_pl, .int uOpen, .int uFill, .int z.1, .int uSerial, .int uDown])), (a_d, .inr (1, [.int z.2.1, .int z.2.2.1])), (a_c, .inr (4, [.ref a_cp, .int z.2.2.2.1, .int z.2.2.2.2.1, .int z.2.2.2.2.2.1, .int z.2.2.2.2.2.2.1])), (a_cp, .inl (cI, 16, .inl z.2.2.2.2.2.2.2)), (a_pl, .inl (cI, 16, .inl uPlcs))] t.heap ∧ va_K (dC, dI) classes [(cI, .int), (cZ, .boolean), (cJ, .long)] t ∧ va_D A [(a_u, .inr (0, [.ref a_d, .ref a_p, .ref a_r, .ref a_c, .ref a_st, .ref a_pl, .int uOpen, .int uFill, .int z.1, .int uSerial, .int uDown])), (a_d, .inr (1, [.int z.2.1, .int z.2.2.1])), (a_c, .inr (4, [.ref a_cp, .int z.2.2.2.1, .int z.2.2.2.2.1, .int z.2.2.2.2.2.1, .int z.2.2.2.2.2.2.1])), (a_cp, .inl (cI, 16, .inl z.2.2.2.2.2.2.2)), (a_pl, .inl (cI, 16, .inl uPlcs))]) A) ([.ref a_u] : List Value).toArray s 0 0 A) (F0 m 35 ls [])) → W p l e (headSpec w_U_makeCheckpoint ({ frames := 2, cells := 0, slots := 0, locals := 100 })).room s m ([.ref a_u] : List Value).toArray below meth c H locs 0 0 (MQ below (va_Qi (fun (r : Int32) (z : Int32 × Int32 × Int32 × Int32 × Int32 × Int32 × Int32 × (Nat → Int32)) => res = (r, z)) (fun (z : Int32 × Int32 × Int32 × Int32 × Int32 × Int32 × Int32 × (Nat → Int32)) (t : State) => va_P (dC, dI) classes [(a_u, .inr (0, [.ref a_d, .ref a_p, .ref a_r, .ref a_c, .ref a_st, .ref a_pl, .int uOpen, .int uFill, .int z.1, .int uSerial, .int uDown])), (a_d, .inr (1, [.int z.2.1, .int z.2.2.1])), (a_c, .inr (4, [.ref a_cp, .int z.2.2.2.1, .int z.2.2.2.2.1, .int z.2.2.2.2.2.1, .int z.2.2.2.2.2.2.1])), (a_cp, .inl (cI, 16, .inl z.2.2.2.2.2.2.2)), (a_pl, .inl (cI, 16, .inl uPlcs))] t.heap ∧ va_K (dC, dI) classes [(cI, .int), (cZ, .boolean), (cJ, .long)] t ∧ va_D A [(a_u, .inr (0, [.ref a_d, .ref a_p, .ref a_r, .ref a_c, .ref a_st, .ref a_pl, .int uOpen, .int uFill, .int z.1, .int uSerial, .int uDown])), (a_d, .inr (1, [.int z.2.1, .int z.2.2.1])), (a_c, .inr (4, [.ref a_cp, .int z.2.2.2.1, .int z.2.2.2.2.1, .int z.2.2.2.2.2.1, .int z.2.2.2.2.2.2.1])), (a_cp, .inl (cI, 16, .inl z.2.2.2.2.2.2.2)), (a_pl, .inl (cI, 16, .inl uPlcs))]) A) ([.ref a_u] : List Value).toArray s 0 0 A) (F0 m 11 ls []) := by
      intro K11 fuel
      induction fuel with
      | zero => intro uArmed_w11 uWritten_w11 x1_w11 ls H locs hl hP hD hS h hk11; exact absurd (show (none : Option (Int32 × Int32 × Int32 × Int32 × Int32 × Int32 × Int32 × Int32 × (Nat → Int32))) = some res from h) (by intro q; cases q)
      | succ fuel ih11 =>
        intro uArmed_w11 uWritten_w11 x1_w11 ls H locs hl hP hD hS h hk11
        rw [U_makeCheckpoint_L11] at h
        refine lv_iload_n hx hb d_U_makeCheckpoint_11 rfl (lv_at hl 1 rfl) ?_
        refine lv_bipush (v := (20 : Int32)) hx hb d_U_makeCheckpoint_12 (by decide) ?_
        refine lv_icmp_ge (tgt := 35) hx hb d_U_makeCheckpoint_14 (by decide) (fun hc => ?_) (fun hc => ?_)
        · have h := ck_t hc h
          have hl : lv_has ls 2 [(0, .ref a_u), (1, .int x1_w11)] := lv_sub hl [0, 1] rfl
          exact hk11 _ _ _ _ _ _ hl hP hD hS h
        · have h := ck_f hc h
          refine lv_aload_n hx hb d_U_makeCheckpoint_17 rfl (lv_at hl 0 rfl) ?_
          refine va_get (D := (dC, dI)) (ci := 0) (v := .ref a_d) (C := R_U) (T := F_U) (N := 11) hx hb htT i_U hown hK hP 0 rfl rfl 0 (by decide) (htT _ kf_U_21) (fun _ h9 => h9) rfl d_U_makeCheckpoint_18 ?_
          obtain ⟨z2, hz, h⟩ := ck_bind h
          have hPc := hP.sub (ws' := [(a_d, .inr (1, [.int uArmed_w11, .int uWritten_w11]))]) [1] rfl
          have hDc := hD.sub (ws' := [(a_d, .inr (1, [.int uArmed_w11, .int uWritten_w11]))]) [1] (by decide) rfl
          have hFc := va_free (wc := [(a_d, .inr (1, [.int uArmed_w11, .int uWritten_w11]))]) hD hS hA [1] rfl
          refine va_calli (va_runV (As := []) (rest := []) ⟨hx, hb, hml, hown, htT⟩ (c_D_writeUnit l dC dI cI cZ cJ a_u a_d a_p a_pb a_pf a_r a_rs a_rb a_ru a_rz a_rh a_rl a_c a_cp a_st a_pl H.size n N uArmed_w11 uWritten_w11  z2 hz) (cwV 0 htT (gV kl_U_175 ki_D_writeUnit ke_D_writeUnit kn_D kc_D_writeUnit) rfl rfl rfl (by decide +kernel) ⟨Nat.le_of_ble_eq_true rfl, Nat.le_of_ble_eq_true rfl⟩) ⟨fun a U g mk q => by obtain ⟨q0, q1, qP, qK, qD, qN⟩ := q; exact ⟨q0, q1, qP, va_K.moved (u := U) (U := U.calling g mk a) (Vm.Alike.refl U.vm) qK, qD, Ns.same (u := U) rfl qN⟩, va_recv (q0 := 1) (q := (R_D, F_D, 2)) hK hP (ci := 1) rfl rfl, fun U hU hW => ⟨rfl, by rw [hU], by rw [hU]; exact hPc, va_K.moved hW.alike hK, hDc.weaken (fun _ _ _ _ => trivial), Ns.warm hW hN⟩⟩ rfl rfl hl.1 rfl (lv_room (Nat.le_of_ble_eq_true rfl)) d_U_makeCheckpoint_21 ⟨(Nat.zero_le _), (Nat.zero_le _)⟩) hS (fun q _ h => hFc q h) hFc (fun r u t H locs ht hvm hw hB hz1 hk1 hS => ?_)
          have e1 := congrArg Prod.fst hw
          have e2 := congrArg Prod.snd hw
          dsimp only at e1 e2
          subst e1
          subst e2
          obtain ⟨hP1, hK1, hD1⟩ := hB
          rw [ht] at hP1
          obtain ⟨hP, hD⟩ := va_join (wr := [(a_u, .inr (0, [.ref a_d, .ref a_p, .ref a_r, .ref a_c, .ref a_st, .ref a_pl, .int uOpen, .int uFill, .int z1.2.1, .int uSerial, .int uDown])), (a_c, .inr (4, [.ref a_cp, .int cNumber, .int cSerial, .int cOpen, .int cFill])), (a_cp, .inl (cI, 16, .inl cPlcs)), (a_pl, .inl (cI, 16, .inl uPlcs))]) (w1 := [(a_d, .inr (1, [.int z2.2.1, .int z2.2.2]))]) hP hD [1] [0, 2, 3, 4] rfl rfl (by decide) (by decide) hk1 hFc hP1 hD1
          have hP := hP.sub (ws' := [(a_u, .inr (0, [.ref a_d, .ref a_p, .ref a_r, .ref a_c, .ref a_st, .ref a_pl, .int uOpen, .int uFill, .int z1.2.1, .int uSerial, .int uDown])), (a_d, .inr (1, [.int z2.2.1, .int z2.2.2])), (a_c, .inr (4, [.ref a_cp, .int cNumber, .int cSerial, .int cOpen, .int cFill])), (a_cp, .inl (cI, 16, .inl cPlcs)), (a_pl, .inl (cI, 16, .inl uPlcs))]) [0, 4, 1, 2, 3] rfl
          have hD := hD.sub (ws' := [(a_u, .inr (0, [.ref a_d, .ref a_p, .ref a_r, .ref a_c, .ref a_st, .ref a_pl, .int uOpen, .int uFill, .int z1.2.1, .int uSerial, .int uDown])), (a_d, .inr (1, [.int z2.2.1, .int z2.2.2])), (a_c, .inr (4, [.ref a_cp, .int cNumber, .int cSerial, .int cOpen, .int cFill])), (a_cp, .inl (cI, 16, .inl cPlcs)), (a_pl, .inl (cI, 16, .inl uPlcs))]) [0, 4, 1, 2, 3] (by decide) rfl
          have hP : va_P (dC, dI) classes [(a_u, .inr (0, [.ref a_d, .ref a_p, .ref a_r, .ref a_c, .ref a_st, .ref a_pl, .int uOpen, .int uFill, .int z1.2.1, .int uSerial, .int uDown])), (a_d, .inr (1, [.int z2.2.1, .int z2.2.2])), (a_c, .inr (4, [.ref a_cp, .int cNumber, .int cSerial, .int cOpen, .int cFill])), (a_cp, .inl (cI, 16, .inl cPlcs)), (a_pl, .inl (cI, 16, .inl uPlcs))] H := hP
          have hD : va_D A [(a_u, .inr (0, [.ref a_d, .ref a_p, .ref a_r, .ref a_c, .ref a_st, .ref a_pl, .int uOpen, .int uFill, .int z1.2.1, .int uSerial, .int uDown])), (a_d, .inr (1, [.int z2.2.1, .int z2.2.2])), (a_c, .inr (4, [.ref a_cp, .int cNumber, .int cSerial, .int cOpen, .int cFill])), (a_cp, .inl (cI, 16, .inl cPlcs)), (a_pl, .inl (cI, 16, .inl uPlcs))] := hD
          refine lv_if_ne (tgt := 29) hx hb d_U_makeCheckpoint_24 (by decide) (fun hc => ?_) (fun hc => ?_)
          · have h := ck_f hc h
            refine lv_iinc (k := 1) (v := (x1_w11 + (1 : Int32))) hx hb d_U_makeCheckpoint_29 hl rfl (congrArg (fun y => x1_w11 + y) (by decide)) (by decide) rfl (fun ls hl => ?_)
            have hl : lv_has ls 2 [(1, .int (x1_w11 + (1 : Int32))), (0, .ref a_u)] := hl
            refine lv_goto (tgt := 11) hx hb d_U_makeCheckpoint_32 (by decide) ?_
            have hl : lv_has ls 2 [(0, .ref a_u), (1, .int (x1_w11 + (1 : Int32)))] := lv_sub hl [1, 0] rfl
            exact ih11 _ _ _ _ _ _ hl hP hD hS h hk11
          · have h := ck_t hc h
            refine lv_iconst (v := (0 : Int32)) hx hb d_U_makeCheckpoint_27 (by decide) ?_
            exact W.zret (v := (0 : Int32)) hx hb hr rfl (fun t ht hW => ⟨⟨(0 : Int32), (z1.2.1, z2.2.1, z2.2.2, cNumber, cSerial, cOpen, cFill, cPlcs), rfl, (Option.some.inj h).symm, by rw [ht]; exact hP, va_K.moved hW.alike hK, hD⟩, hS.F ht⟩) hS.2.2 d_U_makeCheckpoint_28
    have hl : lv_has ls 2 [(0, .ref a_u), (1, .int (0 : Int32))] := lv_sub hl [1, 0] rfl
    refine L11 _ _ _ _ _ _ _ _ hl hP hD hS h ?_
    intro uArmed_k11 uWritten_k11 x1_k11 ls H locs hl hP hD hS h
    refine lv_aload_n hx hb d_U_makeCheckpoint_35 rfl (lv_at hl 0 rfl) ?_
    refine va_get (D := (dC, dI)) (ci := 0) (v := .ref a_c) (C := R_U) (T := F_U) (N := 11) hx hb htT i_U hown hK hP 0 rfl rfl 3 (by decide) (htT _ kf_U_44) (fun _ h9 => h9) rfl d_U_makeCheckpoint_36 ?_
    refine lv_dup hx hb d_U_makeCheckpoint_39 rfl ?_
    refine va_getN (D := (dC, dI)) (ci := 4) (v := .int cNumber) (C := R_C) (T := F_C) (N := 5) hx hb htT i_C hown hK hP 2 rfl rfl 1 (by decide) (va_Nw.use rfl (hN _ kf_U_113)) (fun _ h9 => h9) rfl d_U_makeCheckpoint_40 ?_
    refine lv_iconst (v := (1 : Int32)) hx hb d_U_makeCheckpoint_43 (by decide) ?_
    refine lv_iadd hx hb d_U_makeCheckpoint_44 ?_
    refine va_putN (D := (dC, dI)) (ci := 4) (v := .int (cNumber + (1 : Int32))) (ty := .int) (C := R_C) (T := F_C) (N := 5) hx hb htT i_C t_C t_C_ok n_C hown hK hP hD hS 2 rfl rfl 1 (by decide) (va_Nw.use rfl (hN _ kf_U_113)) (fun _ h9 => h9) rfl (by decide +kernel) rfl rfl (Nat.le_of_ble_eq_true rfl) d_U_makeCheckpoint_45 (fun H locs hP hD hS => ?_)
    have hP : va_P (dC, dI) classes [(a_u, .inr (0, [.ref a_d, .ref a_p, .ref a_r, .ref a_c, .ref a_st, .ref a_pl, .int uOpen, .int uFill, .int z1.2.1, .int uSerial, .int uDown])), (a_d, .inr (1, [.int uArmed_k11, .int uWritten_k11])), (a_c, .inr (4, [.ref a_cp, .int (cNumber + (1 : Int32)), .int cSerial, .int cOpen, .int cFill])), (a_cp, .inl (cI, 16, .inl cPlcs)), (a_pl, .inl (cI, 16, .inl uPlcs))] H := hP
    have hD : va_D A [(a_u, .inr (0, [.ref a_d, .ref a_p, .ref a_r, .ref a_c, .ref a_st, .ref a_pl, .int uOpen, .int uFill, .int z1.2.1, .int uSerial, .int uDown])), (a_d, .inr (1, [.int uArmed_k11, .int uWritten_k11])), (a_c, .inr (4, [.ref a_cp, .int (cNumber + (1 : Int32)), .int cSerial, .int cOpen, .int cFill])), (a_cp, .inl (cI, 16, .inl cPlcs)), (a_pl, .inl (cI, 16, .inl uPlcs))] := hD
    refine lv_aload_n hx hb d_U_makeCheckpoint_48 rfl (lv_at hl 0 rfl) ?_
    refine va_get (D := (dC, dI)) (ci := 0) (v := .ref a_c) (C := R_U) (T := F_U) (N := 11) hx hb htT i_U hown hK hP 0 rfl rfl 3 (by decide) (htT _ kf_U_44) (fun _ h9 => h9) rfl d_U_makeCheckpoint_49 ?_
    refine lv_aload_n hx hb d_U_makeCheckpoint_52 rfl (lv_at hl 0 rfl) ?_
    refine va_get (D := (dC, dI)) (ci := 0) (v := .int uSerial) (C := R_U) (T := F_U) (N := 11) hx hb htT i_U hown hK hP 0 rfl rfl 9 (by decide) (htT _ kf_U_144) (fun _ h9 => h9) rfl d_U_makeCheckpoint_53 ?_
    refine va_putN (D := (dC, dI)) (ci := 4) (v := .int uSerial) (ty := .int) (C := R_C) (T := F_C) (N := 5) hx hb htT i_C t_C t_C_ok n_C hown hK hP hD hS 2 rfl rfl 2 (by decide) (va_Nw.use rfl (hN _ kf_U_178)) (fun _ h9 => h9) rfl (by decide +kernel) rfl rfl (Nat.le_of_ble_eq_true rfl) d_U_makeCheckpoint_56 (fun H locs hP hD hS => ?_)
    have hP : va_P (dC, dI) classes [(a_u, .inr (0, [.ref a_d, .ref a_p, .ref a_r, .ref a_c, .ref a_st, .ref a_pl, .int uOpen, .int uFill, .int z1.2.1, .int uSerial, .int uDown])), (a_d, .inr (1, [.int uArmed_k11, .int uWritten_k11])), (a_c, .inr (4, [.ref a_cp, .int (cNumber + (1 : Int32)), .int uSerial, .int cOpen, .int cFill])), (a_cp, .inl (cI, 16, .inl cPlcs)), (a_pl, .inl (cI, 16, .inl uPlcs))] H := hP
    have hD : va_D A [(a_u, .inr (0, [.ref a_d, .ref a_p, .ref a_r, .ref a_c, .ref a_st, .ref a_pl, .int uOpen, .int uFill, .int z1.2.1, .int uSerial, .int uDown])), (a_d, .inr (1, [.int uArmed_k11, .int uWritten_k11])), (a_c, .inr (4, [.ref a_cp, .int (cNumber + (1 : Int32)), .int uSerial, .int cOpen, .int cFill])), (a_cp, .inl (cI, 16, .inl cPlcs)), (a_pl, .inl (cI, 16, .inl uPlcs))] := hD
    refine lv_aload_n hx hb d_U_makeCheckpoint_59 rfl (lv_at hl 0 rfl) ?_
    refine va_get (D := (dC, dI)) (ci := 0) (v := .ref a_c) (C := R_U) (T := F_U) (N := 11) hx hb htT i_U hown hK hP 0 rfl rfl 3 (by decide) (htT _ kf_U_44) (fun _ h9 => h9) rfl d_U_makeCheckpoint_60 ?_
    refine lv_aload_n hx hb d_U_makeCheckpoint_63 rfl (lv_at hl 0 rfl) ?_
    refine va_get (D := (dC, dI)) (ci := 0) (v := .int uOpen) (C := R_U) (T := F_U) (N := 11) hx hb htT i_U hown hK hP 0 rfl rfl 6 (by decide) (htT _ kf_U_156) (fun _ h9 => h9) rfl d_U_makeCheckpoint_64 ?_
    refine va_putN (D := (dC, dI)) (ci := 4) (v := .int uOpen) (ty := .int) (C := R_C) (T := F_C) (N := 5) hx hb htT i_C t_C t_C_ok n_C hown hK hP hD hS 2 rfl rfl 3 (by decide) (va_Nw.use rfl (hN _ kf_U_179)) (fun _ h9 => h9) rfl (by decide +kernel) rfl rfl (Nat.le_of_ble_eq_true rfl) d_U_makeCheckpoint_67 (fun H locs hP hD hS => ?_)
    have hP : va_P (dC, dI) classes [(a_u, .inr (0, [.ref a_d, .ref a_p, .ref a_r, .ref a_c, .ref a_st, .ref a_pl, .int uOpen, .int uFill, .int z1.2.1, .int uSerial, .int uDown])), (a_d, .inr (1, [.int uArmed_k11, .int uWritten_k11])), (a_c, .inr (4, [.ref a_cp, .int (cNumber + (1 : Int32)), .int uSerial, .int uOpen, .int cFill])), (a_cp, .inl (cI, 16, .inl cPlcs)), (a_pl, .inl (cI, 16, .inl uPlcs))] H := hP
    have hD : va_D A [(a_u, .inr (0, [.ref a_d, .ref a_p, .ref a_r, .ref a_c, .ref a_st, .ref a_pl, .int uOpen, .int uFill, .int z1.2.1, .int uSerial, .int uDown])), (a_d, .inr (1, [.int uArmed_k11, .int uWritten_k11])), (a_c, .inr (4, [.ref a_cp, .int (cNumber + (1 : Int32)), .int uSerial, .int uOpen, .int cFill])), (a_cp, .inl (cI, 16, .inl cPlcs)), (a_pl, .inl (cI, 16, .inl uPlcs))] := hD
    refine lv_aload_n hx hb d_U_makeCheckpoint_70 rfl (lv_at hl 0 rfl) ?_
    refine va_get (D := (dC, dI)) (ci := 0) (v := .ref a_c) (C := R_U) (T := F_U) (N := 11) hx hb htT i_U hown hK hP 0 rfl rfl 3 (by decide) (htT _ kf_U_44) (fun _ h9 => h9) rfl d_U_makeCheckpoint_71 ?_
    refine lv_aload_n hx hb d_U_makeCheckpoint_74 rfl (lv_at hl 0 rfl) ?_
    refine va_get (D := (dC, dI)) (ci := 0) (v := .int uFill) (C := R_U) (T := F_U) (N := 11) hx hb htT i_U hown hK hP 0 rfl rfl 7 (by decide) (htT _ kf_U_101) (fun _ h9 => h9) rfl d_U_makeCheckpoint_75 ?_
    refine va_putN (D := (dC, dI)) (ci := 4) (v := .int uFill) (ty := .int) (C := R_C) (T := F_C) (N := 5) hx hb htT i_C t_C t_C_ok n_C hown hK hP hD hS 2 rfl rfl 4 (by decide) (va_Nw.use rfl (hN _ kf_U_180)) (fun _ h9 => h9) rfl (by decide +kernel) rfl rfl (Nat.le_of_ble_eq_true rfl) d_U_makeCheckpoint_78 (fun H locs hP hD hS => ?_)
    have hP : va_P (dC, dI) classes [(a_u, .inr (0, [.ref a_d, .ref a_p, .ref a_r, .ref a_c, .ref a_st, .ref a_pl, .int uOpen, .int uFill, .int z1.2.1, .int uSerial, .int uDown])), (a_d, .inr (1, [.int uArmed_k11, .int uWritten_k11])), (a_c, .inr (4, [.ref a_cp, .int (cNumber + (1 : Int32)), .int uSerial, .int uOpen, .int uFill])), (a_cp, .inl (cI, 16, .inl cPlcs)), (a_pl, .inl (cI, 16, .inl uPlcs))] H := hP
    have hD : va_D A [(a_u, .inr (0, [.ref a_d, .ref a_p, .ref a_r, .ref a_c, .ref a_st, .ref a_pl, .int uOpen, .int uFill, .int z1.2.1, .int uSerial, .int uDown])), (a_d, .inr (1, [.int uArmed_k11, .int uWritten_k11])), (a_c, .inr (4, [.ref a_cp, .int (cNumber + (1 : Int32)), .int uSerial, .int uOpen, .int uFill])), (a_cp, .inl (cI, 16, .inl cPlcs)), (a_pl, .inl (cI, 16, .inl uPlcs))] := hD
    refine lv_aload_n hx hb d_U_makeCheckpoint_81 rfl (lv_at hl 0 rfl) ?_
    refine va_get (D := (dC, dI)) (ci := 0) (v := .ref a_pl) (C := R_U) (T := F_U) (N := 11) hx hb htT i_U hown hK hP 0 rfl rfl 5 (by decide) (htT _ kf_U_52) (fun _ h9 => h9) rfl d_U_makeCheckpoint_82 ?_
    refine lv_iconst (v := (0 : Int32)) hx hb d_U_makeCheckpoint_85 (by decide) ?_
    refine lv_aload_n hx hb d_U_makeCheckpoint_86 rfl (lv_at hl 0 rfl) ?_
    refine va_get (D := (dC, dI)) (ci := 0) (v := .ref a_c) (C := R_U) (T := F_U) (N := 11) hx hb htT i_U hown hK hP 0 rfl rfl 3 (by decide) (htT _ kf_U_44) (fun _ h9 => h9) rfl d_U_makeCheckpoint_87 ?_
    refine va_getN (D := (dC, dI)) (ci := 4) (v := .ref a_cp) (C := R_C) (T := F_C) (N := 5) hx hb htT i_C hown hK hP 2 rfl rfl 0 (by decide) (va_Nw.use rfl (hN _ kf_U_181)) (fun _ h9 => h9) rfl d_U_makeCheckpoint_90 ?_
    refine lv_iconst (v := (0 : Int32)) hx hb d_U_makeCheckpoint_93 (by decide) ?_
    refine lv_bipush (v := (16 : Int32)) hx hb d_U_makeCheckpoint_94 (by decide) ?_
    refine va_copyi hx hb (hml.trans hl.1.symm) hown (htT _ kl_U_182) (htT _ ka_JS_arraycopy) (htT _ ks_JS_arraycopy) (htT (.initialized "java/lang/System") kn_JS) hK hP hD hS 4 3 0 0 rfl rfl rfl rfl rfl (by decide) (by decide) (by decide) (by decide) (by decide) (fun _ _ => rfl) (Nat.le_of_ble_eq_true rfl) (Nat.le_of_ble_eq_true rfl) d_U_makeCheckpoint_96 (fun H locs hP hD hS => ?_)
    have hP : va_P (dC, dI) classes [(a_u, .inr (0, [.ref a_d, .ref a_p, .ref a_r, .ref a_c, .ref a_st, .ref a_pl, .int uOpen, .int uFill, .int z1.2.1, .int uSerial, .int uDown])), (a_d, .inr (1, [.int uArmed_k11, .int uWritten_k11])), (a_c, .inr (4, [.ref a_cp, .int (cNumber + (1 : Int32)), .int uSerial, .int uOpen, .int uFill])), (a_cp, .inl (cI, 16, .inl (va_cpy uPlcs cPlcs (0 : Int32).toNatClampNeg (0 : Int32).toNatClampNeg (16 : Int32).toNatClampNeg))), (a_pl, .inl (cI, 16, .inl uPlcs))] H := hP
    have hD : va_D A [(a_u, .inr (0, [.ref a_d, .ref a_p, .ref a_r, .ref a_c, .ref a_st, .ref a_pl, .int uOpen, .int uFill, .int z1.2.1, .int uSerial, .int uDown])), (a_d, .inr (1, [.int uArmed_k11, .int uWritten_k11])), (a_c, .inr (4, [.ref a_cp, .int (cNumber + (1 : Int32)), .int uSerial, .int uOpen, .int uFill])), (a_cp, .inl (cI, 16, .inl (va_cpy uPlcs cPlcs (0 : Int32).toNatClampNeg (0 : Int32).toNatClampNeg (16 : Int32).toNatClampNeg))), (a_pl, .inl (cI, 16, .inl uPlcs))] := hD
    refine lv_iconst (v := (1 : Int32)) hx hb d_U_makeCheckpoint_99 (by decide) ?_
    exact W.zret (v := (1 : Int32)) hx hb hr rfl (fun t ht hW => ⟨⟨(1 : Int32), (z1.2.1, uArmed_k11, uWritten_k11, (cNumber + (1 : Int32)), uSerial, uOpen, uFill, (va_cpy uPlcs cPlcs (0 : Int32).toNatClampNeg (0 : Int32).toNatClampNeg (16 : Int32).toNatClampNeg)), rfl, (Option.some.inj h).symm, by rw [ht]; exact hP, va_K.moved hW.alike hK, hD⟩, hS.F ht⟩) hS.2.2 d_U_makeCheckpoint_100
  · have h := ck_t hc h
    refine lv_iconst (v := (0 : Int32)) hx hb d_U_makeCheckpoint_7 (by decide) ?_
    exact W.zret (v := (0 : Int32)) hx hb hr rfl (fun t ht hW => ⟨⟨(0 : Int32), (z1.2.1, z1.2.2.1, z1.2.2.2, cNumber, cSerial, cOpen, cFill, cPlcs), rfl, (Option.some.inj h).symm, by rw [ht]; exact hP, va_K.moved hW.alike hK, hD⟩, hS.F ht⟩) hS.2.2 d_U_makeCheckpoint_8
set_option maxHeartbeats 4000000 in
set_option maxRecDepth 100000 in
theorem c_U_openNext (l : Launch) (dC : Nat → ClassId) (dI : Nat → Nat → Nat) (cI cZ cJ : ClassId) (a_u a_d a_p a_pb a_pf a_r a_rs a_rb a_ru a_rz a_rh a_rl a_c a_cp a_st a_pl : Nat) (sz n N : Nat) (uOpen : Int32) (uFill : Int32) (uSaved : Int32) (uSerial : Int32) (uDown : Int32) (uArmed : Int32) (uWritten : Int32) (uSts : Nat → Int32)  (res : Int32 × Int32 × Int32 × Int32 × Int32 × Int32 × (Nat → Int32)) (hM : U_openNext n uOpen uFill uSaved uArmed uWritten uSts = some res) : Met l y_U_openNext w_U_openNext ({ frames := 2, cells := 0, slots := 0, locals := 41 }) (va_Pc [.ref a_u] (fun U => U.heap.size = sz ∧ va_P (dC, dI) classes [(a_u, .inr (0, [.ref a_d, .ref a_p, .ref a_r, .ref a_c, .ref a_st, .ref a_pl, .int uOpen, .int uFill, .int uSaved, .int uSerial, .int uDown])), (a_d, .inr (1, [.int uArmed, .int uWritten])), (a_st, .inl (cI, n, .inl uSts))] U.heap ∧ va_K (dC, dI) classes [(cI, .int), (cZ, .boolean), (cJ, .long)] U ∧ va_D (fun _ => True) [(a_u, .inr (0, [.ref a_d, .ref a_p, .ref a_r, .ref a_c, .ref a_st, .ref a_pl, .int uOpen, .int uFill, .int uSaved, .int uSerial, .int uDown])), (a_d, .inr (1, [.int uArmed, .int uWritten])), (a_st, .inl (cI, n, .inl uSts))] ∧ Ns U)) (va_Qi (fun (r : Int32) (z : Int32 × Int32 × Int32 × Int32 × Int32 × (Nat → Int32)) => res = (r, z)) (fun (z : Int32 × Int32 × Int32 × Int32 × Int32 × (Nat → Int32)) (t : State) => va_P (dC, dI) classes [(a_u, .inr (0, [.ref a_d, .ref a_p, .ref a_r, .ref a_c, .ref a_st, .ref a_pl, .int z.1, .int z.2.1, .int z.2.2.1, .int uSerial, .int uDown])), (a_d, .inr (1, [.int z.2.2.2.1, .int z.2.2.2.2.1])), (a_st, .inl (cI, n, .inl z.2.2.2.2.2))] t.heap ∧ va_K (dC, dI) classes [(cI, .int), (cZ, .boolean), (cJ, .long)] t ∧ va_D (va_A [(a_u, .inr (0, [.ref a_d, .ref a_p, .ref a_r, .ref a_c, .ref a_st, .ref a_pl, .int uOpen, .int uFill, .int uSaved, .int uSerial, .int uDown])), (a_d, .inr (1, [.int uArmed, .int uWritten])), (a_st, .inl (cI, n, .inl uSts))] sz) [(a_u, .inr (0, [.ref a_d, .ref a_p, .ref a_r, .ref a_c, .ref a_st, .ref a_pl, .int z.1, .int z.2.1, .int z.2.2.1, .int uSerial, .int uDown])), (a_d, .inr (1, [.int z.2.2.2.1, .int z.2.2.2.2.1])), (a_st, .inl (cI, n, .inl z.2.2.2.2.2))]) (va_A [(a_u, .inr (0, [.ref a_d, .ref a_p, .ref a_r, .ref a_c, .ref a_st, .ref a_pl, .int uOpen, .int uFill, .int uSaved, .int uSerial, .int uDown])), (a_d, .inr (1, [.int uArmed, .int uWritten])), (a_st, .inl (cI, n, .inl uSts))] sz)) 0 0 (va_A [(a_u, .inr (0, [.ref a_d, .ref a_p, .ref a_r, .ref a_c, .ref a_st, .ref a_pl, .int uOpen, .int uFill, .int uSaved, .int uSerial, .int uDown])), (a_d, .inr (1, [.int uArmed, .int uWritten])), (a_st, .inl (cI, n, .inl uSts))] sz) := by
  refine Met.ofW (cc := b_U_openNext) (maxL := 2) (ret := (some .boolean)) (by decide) rfl ?_
  intro p e s m args below meth c s₁ B hml hv
  obtain ⟨rfl, hsz, hP, hK, hD0, hN⟩ := hv
  have hx := B.exec
  have hb := B.bytes
  have hr := B.returns
  have hts := atoms_spec (ws := w_U_openNext) B.pre
  have htT : ∀ w ∈ lwG, w.before _ s = true := fun w h => hts w (List.mem_cons_of_mem _ h)
  have hown : s.vm.findClass R_U = some m.cls := findClass_of_methodNamed B.named
  have hlocks := B.notSynchronized
  subst hsz
  have hD := hD0.self (sz := s.heap.size)
  generalize hAe : va_A [(a_u, .inr (0, [.ref a_d, .ref a_p, .ref a_r, .ref a_c, .ref a_st, .ref a_pl, .int uOpen, .int uFill, .int uSaved, .int uSerial, .int uDown])), (a_d, .inr (1, [.int uArmed, .int uWritten])), (a_st, .inl (cI, n, .inl uSts))] s.heap.size = A at hD ⊢
  have hA : ∀ q : Nat, s.heap.size ≤ q → A q := fun q h => by rw [← hAe]; exact Or.inr h
  have hS : va_S A s.heap s.heap [] := va_S.rf
  have hP : va_P (dC, dI) classes [(a_u, .inr (0, [.ref a_d, .ref a_p, .ref a_r, .ref a_c, .ref a_st, .ref a_pl, .int uOpen, .int uFill, .int uSaved, .int uSerial, .int uDown])), (a_d, .inr (1, [.int uArmed, .int uWritten])), (a_st, .inl (cI, n, .inl uSts))] s.heap := hP
  have hl := lv_entry ([.ref a_u]) (n := 2) (Nat.le_of_ble_eq_true rfl)
  rw [lg_entry_eq]
  generalize (lg_sl ([.ref a_u]) ++ List.replicate (2 - (lg_sl ([.ref a_u])).length) Slot.unset).toArray = ls at hl ⊢
  have hl : lv_has ls 2 [(0, .ref a_u)] := hl
  have h := hM
  rw [U_openNext] at h
  refine lv_aload_n hx hb d_U_openNext_0 rfl (lv_at hl 0 rfl) ?_
  obtain ⟨z1, hz, h⟩ := ck_bind h
  have hPc := hP.sub (ws' := [(a_u, .inr (0, [.ref a_d, .ref a_p, .ref a_r, .ref a_c, .ref a_st, .ref a_pl, .int uOpen, .int uFill, .int uSaved, .int uSerial, .int uDown])), (a_st, .inl (cI, n, .inl uSts))]) [0, 2] rfl
  have hDc := hD.sub (ws' := [(a_u, .inr (0, [.ref a_d, .ref a_p, .ref a_r, .ref a_c, .ref a_st, .ref a_pl, .int uOpen, .int uFill, .int uSaved, .int uSerial, .int uDown])), (a_st, .inl (cI, n, .inl uSts))]) [0, 2] (by decide) rfl
  have hFc := va_free (wc := [(a_u, .inr (0, [.ref a_d, .ref a_p, .ref a_r, .ref a_c, .ref a_st, .ref a_pl, .int uOpen, .int uFill, .int uSaved, .int uSerial, .int uDown])), (a_st, .inl (cI, n, .inl uSts))]) hD hS hA [0, 2] rfl
  refine va_calli (va_runV (As := []) (rest := []) ⟨hx, hb, hml, hown, htT⟩ (c_U_lowestFree l dC dI cI cZ cJ a_u a_d a_p a_pb a_pf a_r a_rs a_rb a_ru a_rz a_rh a_rl a_c a_cp a_st a_pl s.heap.size n N uOpen uFill uSaved uSerial uDown uSts  z1 hz) (cwV 0 htT (gV kl_U_172 ki_U_lowestFree ke_U_lowestFree kn_U kc_U_lowestFree) rfl rfl rfl (by decide +kernel) ⟨Nat.le_of_ble_eq_true rfl, Nat.le_of_ble_eq_true rfl⟩) ⟨fun a U g mk q => by obtain ⟨q0, q1, qP, qK, qD, qN⟩ := q; exact ⟨q0, q1, qP, va_K.moved (u := U) (U := U.calling g mk a) (Vm.Alike.refl U.vm) qK, qD, Ns.same (u := U) rfl qN⟩, va_recv (q0 := 0) (q := (R_U, F_U, 11)) hK hP (ci := 0) rfl rfl, fun U hU hW => ⟨rfl, by rw [hU], by rw [hU]; exact hPc, va_K.moved hW.alike hK, hDc.weaken (fun _ _ _ _ => trivial), Ns.warm hW hN⟩⟩ rfl rfl hl.1 rfl (lv_room (Nat.le_of_ble_eq_true rfl)) d_U_openNext_1 ⟨(Nat.zero_le _), (Nat.zero_le _)⟩) hS (fun q _ h => hFc q h) hFc (fun r u t H locs ht hvm hw hB hz1 hk1 hS => ?_)
  subst hw
  obtain ⟨hP1, hK1, hD1⟩ := hB
  rw [ht] at hP1
  obtain ⟨hP, hD⟩ := va_join (wr := [(a_d, .inr (1, [.int uArmed, .int uWritten]))]) (w1 := [(a_u, .inr (0, [.ref a_d, .ref a_p, .ref a_r, .ref a_c, .ref a_st, .ref a_pl, .int uOpen, .int uFill, .int uSaved, .int uSerial, .int uDown])), (a_st, .inl (cI, n, .inl uSts))]) hP hD [0, 2] [1] rfl rfl (by decide) (by decide) hk1 hFc hP1 hD1
  have hP := hP.sub (ws' := [(a_u, .inr (0, [.ref a_d, .ref a_p, .ref a_r, .ref a_c, .ref a_st, .ref a_pl, .int uOpen, .int uFill, .int uSaved, .int uSerial, .int uDown])), (a_d, .inr (1, [.int uArmed, .int uWritten])), (a_st, .inl (cI, n, .inl uSts))]) [1, 0, 2] rfl
  have hD := hD.sub (ws' := [(a_u, .inr (0, [.ref a_d, .ref a_p, .ref a_r, .ref a_c, .ref a_st, .ref a_pl, .int uOpen, .int uFill, .int uSaved, .int uSerial, .int uDown])), (a_d, .inr (1, [.int uArmed, .int uWritten])), (a_st, .inl (cI, n, .inl uSts))]) [1, 0, 2] (by decide) rfl
  have hP : va_P (dC, dI) classes [(a_u, .inr (0, [.ref a_d, .ref a_p, .ref a_r, .ref a_c, .ref a_st, .ref a_pl, .int uOpen, .int uFill, .int uSaved, .int uSerial, .int uDown])), (a_d, .inr (1, [.int uArmed, .int uWritten])), (a_st, .inl (cI, n, .inl uSts))] H := hP
  have hD : va_D A [(a_u, .inr (0, [.ref a_d, .ref a_p, .ref a_r, .ref a_c, .ref a_st, .ref a_pl, .int uOpen, .int uFill, .int uSaved, .int uSerial, .int uDown])), (a_d, .inr (1, [.int uArmed, .int uWritten])), (a_st, .inl (cI, n, .inl uSts))] := hD
  refine lv_istore_n hx hb d_U_openNext_4 rfl hl (by decide) rfl (fun ls hl => ?_)
  have hl : lv_has ls 2 [(1, .int z1), (0, .ref a_u)] := hl
  refine lv_iload_n hx hb d_U_openNext_5 rfl (lv_at hl 0 rfl) ?_
  refine lv_iconst (v := (-1 : Int32)) hx hb d_U_openNext_6 (by decide) ?_
  refine lv_icmp_eq (tgt := 17) hx hb d_U_openNext_7 (by decide) (fun hc => ?_) (fun hc => ?_)
  · have h := ck_t hc h
    refine lv_iconst (v := (0 : Int32)) hx hb d_U_openNext_17 (by decide) ?_
    exact W.zret (v := (0 : Int32)) hx hb hr rfl (fun t ht hW => ⟨⟨(0 : Int32), (uOpen, uFill, uSaved, uArmed, uWritten, uSts), rfl, (Option.some.inj h).symm, by rw [ht]; exact hP, va_K.moved hW.alike hK, hD⟩, hS.F ht⟩) hS.2.2 d_U_openNext_18
  · have h := ck_f hc h
    refine lv_aload_n hx hb d_U_openNext_10 rfl (lv_at hl 1 rfl) ?_
    obtain ⟨z2, hz, h⟩ := ck_bind h
    have hPc := hP.sub (ws' := [(a_u, .inr (0, [.ref a_d, .ref a_p, .ref a_r, .ref a_c, .ref a_st, .ref a_pl, .int uOpen, .int uFill, .int uSaved, .int uSerial, .int uDown])), (a_d, .inr (1, [.int uArmed, .int uWritten]))]) [0, 1] rfl
    have hDc := hD.sub (ws' := [(a_u, .inr (0, [.ref a_d, .ref a_p, .ref a_r, .ref a_c, .ref a_st, .ref a_pl, .int uOpen, .int uFill, .int uSaved, .int uSerial, .int uDown])), (a_d, .inr (1, [.int uArmed, .int uWritten]))]) [0, 1] (by decide) rfl
    have hFc := va_free (wc := [(a_u, .inr (0, [.ref a_d, .ref a_p, .ref a_r, .ref a_c, .ref a_st, .ref a_pl, .int uOpen, .int uFill, .int uSaved, .int uSerial, .int uDown])), (a_d, .inr (1, [.int uArmed, .int uWritten]))]) hD hS hA [0, 1] rfl
    refine va_calli (va_runV (As := []) (rest := []) ⟨hx, hb, hml, hown, htT⟩ (c_U_saveUnits l dC dI cI cZ cJ a_u a_d a_p a_pb a_pf a_r a_rs a_rb a_ru a_rz a_rh a_rl a_c a_cp a_st a_pl H.size n N uOpen uFill uSaved uSerial uDown uArmed uWritten  z2 hz) (cwV 0 htT (gV kl_U_106 ki_U_saveUnits ke_U_saveUnits kn_U kc_U_saveUnits) rfl rfl rfl (by decide +kernel) ⟨Nat.le_of_ble_eq_true rfl, Nat.le_of_ble_eq_true rfl⟩) ⟨fun a U g mk q => by obtain ⟨q0, q1, qP, qK, qD, qN⟩ := q; exact ⟨q0, q1, qP, va_K.moved (u := U) (U := U.calling g mk a) (Vm.Alike.refl U.vm) qK, qD, Ns.same (u := U) rfl qN⟩, va_recv (q0 := 0) (q := (R_U, F_U, 11)) hK hP (ci := 0) rfl rfl, fun U hU hW => ⟨rfl, by rw [hU], by rw [hU]; exact hPc, va_K.moved hW.alike hK, hDc.weaken (fun _ _ _ _ => trivial), Ns.warm hW hN⟩⟩ rfl rfl hl.1 rfl (lv_room (Nat.le_of_ble_eq_true rfl)) d_U_openNext_11 ⟨(Nat.zero_le _), (Nat.zero_le _)⟩) hS (fun q _ h => hFc q h) hFc (fun r u t H locs ht hvm hw hB hz1 hk1 hS => ?_)
    have e1 := congrArg Prod.fst hw
    have e2 := congrArg Prod.snd hw
    dsimp only at e1 e2
    subst e1
    subst e2
    obtain ⟨hP1, hK1, hD1⟩ := hB
    rw [ht] at hP1
    obtain ⟨hP, hD⟩ := va_join (wr := [(a_st, .inl (cI, n, .inl uSts))]) (w1 := [(a_u, .inr (0, [.ref a_d, .ref a_p, .ref a_r, .ref a_c, .ref a_st, .ref a_pl, .int uOpen, .int uFill, .int z2.2.1, .int uSerial, .int uDown])), (a_d, .inr (1, [.int z2.2.2.1, .int z2.2.2.2]))]) hP hD [0, 1] [2] rfl rfl (by decide) (by decide) hk1 hFc hP1 hD1
    have hP := hP.sub (ws' := [(a_u, .inr (0, [.ref a_d, .ref a_p, .ref a_r, .ref a_c, .ref a_st, .ref a_pl, .int uOpen, .int uFill, .int z2.2.1, .int uSerial, .int uDown])), (a_d, .inr (1, [.int z2.2.2.1, .int z2.2.2.2])), (a_st, .inl (cI, n, .inl uSts))]) [1, 2, 0] rfl
    have hD := hD.sub (ws' := [(a_u, .inr (0, [.ref a_d, .ref a_p, .ref a_r, .ref a_c, .ref a_st, .ref a_pl, .int uOpen, .int uFill, .int z2.2.1, .int uSerial, .int uDown])), (a_d, .inr (1, [.int z2.2.2.1, .int z2.2.2.2])), (a_st, .inl (cI, n, .inl uSts))]) [1, 2, 0] (by decide) rfl
    have hP : va_P (dC, dI) classes [(a_u, .inr (0, [.ref a_d, .ref a_p, .ref a_r, .ref a_c, .ref a_st, .ref a_pl, .int uOpen, .int uFill, .int z2.2.1, .int uSerial, .int uDown])), (a_d, .inr (1, [.int z2.2.2.1, .int z2.2.2.2])), (a_st, .inl (cI, n, .inl uSts))] H := hP
    have hD : va_D A [(a_u, .inr (0, [.ref a_d, .ref a_p, .ref a_r, .ref a_c, .ref a_st, .ref a_pl, .int uOpen, .int uFill, .int z2.2.1, .int uSerial, .int uDown])), (a_d, .inr (1, [.int z2.2.2.1, .int z2.2.2.2])), (a_st, .inl (cI, n, .inl uSts))] := hD
    refine lv_if_ne (tgt := 19) hx hb d_U_openNext_14 (by decide) (fun hc => ?_) (fun hc => ?_)
    · have h := ck_f hc h
      refine lv_aload_n hx hb d_U_openNext_19 rfl (lv_at hl 1 rfl) ?_
      refine va_get (D := (dC, dI)) (ci := 0) (v := .ref a_st) (C := R_U) (T := F_U) (N := 11) hx hb htT i_U hown hK hP 0 rfl rfl 4 (by decide) (htT _ kf_U_48) (fun _ h9 => h9) rfl d_U_openNext_20 ?_
      refine lv_aload_n hx hb d_U_openNext_23 rfl (lv_at hl 1 rfl) ?_
      refine va_get (D := (dC, dI)) (ci := 0) (v := .int uOpen) (C := R_U) (T := F_U) (N := 11) hx hb htT i_U hown hK hP 0 rfl rfl 6 (by decide) (htT _ kf_U_156) (fun _ h9 => h9) rfl d_U_openNext_24 ?_
      refine lv_iconst (v := (2 : Int32)) hx hb d_U_openNext_27 (by decide) ?_
      obtain ⟨hin, h⟩ := ck_in h
      refine va_iast hx hb hK hP hD hS 2 0 rfl rfl hin d_U_openNext_28 (fun H locs hP hD hS => ?_)
      have hP : va_P (dC, dI) classes [(a_u, .inr (0, [.ref a_d, .ref a_p, .ref a_r, .ref a_c, .ref a_st, .ref a_pl, .int uOpen, .int uFill, .int z2.2.1, .int uSerial, .int uDown])), (a_d, .inr (1, [.int z2.2.2.1, .int z2.2.2.2])), (a_st, .inl (cI, n, .inl (upd uSts uOpen.toNatClampNeg (2 : Int32))))] H := hP
      have hD : va_D A [(a_u, .inr (0, [.ref a_d, .ref a_p, .ref a_r, .ref a_c, .ref a_st, .ref a_pl, .int uOpen, .int uFill, .int z2.2.1, .int uSerial, .int uDown])), (a_d, .inr (1, [.int z2.2.2.1, .int z2.2.2.2])), (a_st, .inl (cI, n, .inl (upd uSts uOpen.toNatClampNeg (2 : Int32))))] := hD
      refine lv_aload_n hx hb d_U_openNext_29 rfl (lv_at hl 1 rfl) ?_
      refine va_get (D := (dC, dI)) (ci := 0) (v := .ref a_st) (C := R_U) (T := F_U) (N := 11) hx hb htT i_U hown hK hP 0 rfl rfl 4 (by decide) (htT _ kf_U_48) (fun _ h9 => h9) rfl d_U_openNext_30 ?_
      refine lv_iload_n hx hb d_U_openNext_33 rfl (lv_at hl 0 rfl) ?_
      refine lv_iconst (v := (1 : Int32)) hx hb d_U_openNext_34 (by decide) ?_
      obtain ⟨hin, h⟩ := ck_in h
      refine va_iast hx hb hK hP hD hS 2 0 rfl rfl hin d_U_openNext_35 (fun H locs hP hD hS => ?_)
      have hP : va_P (dC, dI) classes [(a_u, .inr (0, [.ref a_d, .ref a_p, .ref a_r, .ref a_c, .ref a_st, .ref a_pl, .int uOpen, .int uFill, .int z2.2.1, .int uSerial, .int uDown])), (a_d, .inr (1, [.int z2.2.2.1, .int z2.2.2.2])), (a_st, .inl (cI, n, .inl (upd (upd uSts uOpen.toNatClampNeg (2 : Int32)) z1.toNatClampNeg (1 : Int32))))] H := hP
      have hD : va_D A [(a_u, .inr (0, [.ref a_d, .ref a_p, .ref a_r, .ref a_c, .ref a_st, .ref a_pl, .int uOpen, .int uFill, .int z2.2.1, .int uSerial, .int uDown])), (a_d, .inr (1, [.int z2.2.2.1, .int z2.2.2.2])), (a_st, .inl (cI, n, .inl (upd (upd uSts uOpen.toNatClampNeg (2 : Int32)) z1.toNatClampNeg (1 : Int32))))] := hD
      refine lv_aload_n hx hb d_U_openNext_36 rfl (lv_at hl 1 rfl) ?_
      refine lv_iload_n hx hb d_U_openNext_37 rfl (lv_at hl 0 rfl) ?_
      refine va_put (D := (dC, dI)) (ci := 0) (v := .int z1) (ty := .int) (C := R_U) (T := F_U) (N := 11) hx hb htT i_U t_U t_U_ok n_U hown hK hP hD hS 0 rfl rfl 6 (by decide) (htT _ kf_U_156) (fun _ h9 => h9) rfl (by decide +kernel) rfl rfl (Nat.le_of_ble_eq_true rfl) d_U_openNext_38 (fun H locs hP hD hS => ?_)
      have hP : va_P (dC, dI) classes [(a_u, .inr (0, [.ref a_d, .ref a_p, .ref a_r, .ref a_c, .ref a_st, .ref a_pl, .int z1, .int uFill, .int z2.2.1, .int uSerial, .int uDown])), (a_d, .inr (1, [.int z2.2.2.1, .int z2.2.2.2])), (a_st, .inl (cI, n, .inl (upd (upd uSts uOpen.toNatClampNeg (2 : Int32)) z1.toNatClampNeg (1 : Int32))))] H := hP
      have hD : va_D A [(a_u, .inr (0, [.ref a_d, .ref a_p, .ref a_r, .ref a_c, .ref a_st, .ref a_pl, .int z1, .int uFill, .int z2.2.1, .int uSerial, .int uDown])), (a_d, .inr (1, [.int z2.2.2.1, .int z2.2.2.2])), (a_st, .inl (cI, n, .inl (upd (upd uSts uOpen.toNatClampNeg (2 : Int32)) z1.toNatClampNeg (1 : Int32))))] := hD
      refine lv_aload_n hx hb d_U_openNext_41 rfl (lv_at hl 1 rfl) ?_
      refine lv_iconst (v := (0 : Int32)) hx hb d_U_openNext_42 (by decide) ?_
      refine va_put (D := (dC, dI)) (ci := 0) (v := .int (0 : Int32)) (ty := .int) (C := R_U) (T := F_U) (N := 11) hx hb htT i_U t_U t_U_ok n_U hown hK hP hD hS 0 rfl rfl 7 (by decide) (htT _ kf_U_101) (fun _ h9 => h9) rfl (by decide +kernel) rfl rfl (Nat.le_of_ble_eq_true rfl) d_U_openNext_43 (fun H locs hP hD hS => ?_)
      have hP : va_P (dC, dI) classes [(a_u, .inr (0, [.ref a_d, .ref a_p, .ref a_r, .ref a_c, .ref a_st, .ref a_pl, .int z1, .int (0 : Int32), .int z2.2.1, .int uSerial, .int uDown])), (a_d, .inr (1, [.int z2.2.2.1, .int z2.2.2.2])), (a_st, .inl (cI, n, .inl (upd (upd uSts uOpen.toNatClampNeg (2 : Int32)) z1.toNatClampNeg (1 : Int32))))] H := hP
      have hD : va_D A [(a_u, .inr (0, [.ref a_d, .ref a_p, .ref a_r, .ref a_c, .ref a_st, .ref a_pl, .int z1, .int (0 : Int32), .int z2.2.1, .int uSerial, .int uDown])), (a_d, .inr (1, [.int z2.2.2.1, .int z2.2.2.2])), (a_st, .inl (cI, n, .inl (upd (upd uSts uOpen.toNatClampNeg (2 : Int32)) z1.toNatClampNeg (1 : Int32))))] := hD
      refine lv_aload_n hx hb d_U_openNext_46 rfl (lv_at hl 1 rfl) ?_
      refine lv_iconst (v := (0 : Int32)) hx hb d_U_openNext_47 (by decide) ?_
      refine va_put (D := (dC, dI)) (ci := 0) (v := .int (0 : Int32)) (ty := .int) (C := R_U) (T := F_U) (N := 11) hx hb htT i_U t_U t_U_ok n_U hown hK hP hD hS 0 rfl rfl 8 (by decide) (htT _ kf_U_103) (fun _ h9 => h9) rfl (by decide +kernel) rfl rfl (Nat.le_of_ble_eq_true rfl) d_U_openNext_48 (fun H locs hP hD hS => ?_)
      have hP : va_P (dC, dI) classes [(a_u, .inr (0, [.ref a_d, .ref a_p, .ref a_r, .ref a_c, .ref a_st, .ref a_pl, .int z1, .int (0 : Int32), .int (0 : Int32), .int uSerial, .int uDown])), (a_d, .inr (1, [.int z2.2.2.1, .int z2.2.2.2])), (a_st, .inl (cI, n, .inl (upd (upd uSts uOpen.toNatClampNeg (2 : Int32)) z1.toNatClampNeg (1 : Int32))))] H := hP
      have hD : va_D A [(a_u, .inr (0, [.ref a_d, .ref a_p, .ref a_r, .ref a_c, .ref a_st, .ref a_pl, .int z1, .int (0 : Int32), .int (0 : Int32), .int uSerial, .int uDown])), (a_d, .inr (1, [.int z2.2.2.1, .int z2.2.2.2])), (a_st, .inl (cI, n, .inl (upd (upd uSts uOpen.toNatClampNeg (2 : Int32)) z1.toNatClampNeg (1 : Int32))))] := hD
      refine lv_iconst (v := (1 : Int32)) hx hb d_U_openNext_51 (by decide) ?_
      exact W.zret (v := (1 : Int32)) hx hb hr rfl (fun t ht hW => ⟨⟨(1 : Int32), (z1, (0 : Int32), (0 : Int32), z2.2.2.1, z2.2.2.2, (upd (upd uSts uOpen.toNatClampNeg (2 : Int32)) z1.toNatClampNeg (1 : Int32))), rfl, (Option.some.inj h).symm, by rw [ht]; exact hP, va_K.moved hW.alike hK, hD⟩, hS.F ht⟩) hS.2.2 d_U_openNext_52
    · have h := ck_t hc h
      refine lv_iconst (v := (0 : Int32)) hx hb d_U_openNext_17 (by decide) ?_
      exact W.zret (v := (0 : Int32)) hx hb hr rfl (fun t ht hW => ⟨⟨(0 : Int32), (uOpen, uFill, z2.2.1, z2.2.2.1, z2.2.2.2, uSts), rfl, (Option.some.inj h).symm, by rw [ht]; exact hP, va_K.moved hW.alike hK, hD⟩, hS.F ht⟩) hS.2.2 d_U_openNext_18
set_option maxHeartbeats 4000000 in
set_option maxRecDepth 100000 in
theorem c_U_append (l : Launch) (dC : Nat → ClassId) (dI : Nat → Nat → Nat) (cI cZ cJ : ClassId) (a_u a_d a_p a_pb a_pf a_r a_rs a_rb a_ru a_rz a_rh a_rl a_c a_cp a_st a_pl : Nat) (sz n N : Nat) (uOpen : Int32) (uFill : Int32) (uSaved : Int32) (uSerial : Int32) (uDown : Int32) (uArmed : Int32) (uWritten : Int32) (uSers : Nat → Int32) (uBlks : Nat → Int32) (uUnts : Nat → Int32) (uStos : Nat → Int32) (uHis : Nat → Int64) (uLos : Nat → Int64) (uSts : Nat → Int32) (uPlcs : Nat → Int32) (x1 : Int32) (x2 : Int32) (x3 : Int32) (x4 : Int64) (x6 : Int64) (res : Int32 × Int32 × Int32 × Int32 × Int32 × Int32 × Int32 × (Nat → Int32) × (Nat → Int32) × (Nat → Int32) × (Nat → Int32) × (Nat → Int64) × (Nat → Int64) × (Nat → Int32) × (Nat → Int32)) (hM : U_append n N uOpen uFill uSaved uSerial uArmed uWritten uSers uBlks uUnts uStos uHis uLos uSts uPlcs x1 x2 x3 x4 x6 = some res) : Met l y_U_append w_U_append ({ frames := 3, cells := 0, slots := 0, locals := 62 }) (va_Pc [.ref a_u, .int x1, .int x2, .int x3, .long x4, .long x6] (fun U => U.heap.size = sz ∧ va_P (dC, dI) classes [(a_u, .inr (0, [.ref a_d, .ref a_p, .ref a_r, .ref a_c, .ref a_st, .ref a_pl, .int uOpen, .int uFill, .int uSaved, .int uSerial, .int uDown])), (a_d, .inr (1, [.int uArmed, .int uWritten])), (a_r, .inr (3, [.ref a_rs, .ref a_rb, .ref a_ru, .ref a_rz, .ref a_rh, .ref a_rl])), (a_rs, .inl (cI, N, .inl uSers)), (a_rb, .inl (cI, N, .inl uBlks)), (a_ru, .inl (cI, N, .inl uUnts)), (a_rz, .inl (cZ, N, .inl uStos)), (a_rh, .inl (cJ, N, .inr (.inl uHis))), (a_rl, .inl (cJ, N, .inr (.inl uLos))), (a_st, .inl (cI, n, .inl uSts)), (a_pl, .inl (cI, 16, .inl uPlcs))] U.heap ∧ va_K (dC, dI) classes [(cI, .int), (cZ, .boolean), (cJ, .long)] U ∧ va_D (fun _ => True) [(a_u, .inr (0, [.ref a_d, .ref a_p, .ref a_r, .ref a_c, .ref a_st, .ref a_pl, .int uOpen, .int uFill, .int uSaved, .int uSerial, .int uDown])), (a_d, .inr (1, [.int uArmed, .int uWritten])), (a_r, .inr (3, [.ref a_rs, .ref a_rb, .ref a_ru, .ref a_rz, .ref a_rh, .ref a_rl])), (a_rs, .inl (cI, N, .inl uSers)), (a_rb, .inl (cI, N, .inl uBlks)), (a_ru, .inl (cI, N, .inl uUnts)), (a_rz, .inl (cZ, N, .inl uStos)), (a_rh, .inl (cJ, N, .inr (.inl uHis))), (a_rl, .inl (cJ, N, .inr (.inl uLos))), (a_st, .inl (cI, n, .inl uSts)), (a_pl, .inl (cI, 16, .inl uPlcs))] ∧ Ns U)) (va_Qi (fun (r : Int32) (z : Int32 × Int32 × Int32 × Int32 × Int32 × Int32 × (Nat → Int32) × (Nat → Int32) × (Nat → Int32) × (Nat → Int32) × (Nat → Int64) × (Nat → Int64) × (Nat → Int32) × (Nat → Int32)) => res = (r, z)) (fun (z : Int32 × Int32 × Int32 × Int32 × Int32 × Int32 × (Nat → Int32) × (Nat → Int32) × (Nat → Int32) × (Nat → Int32) × (Nat → Int64) × (Nat → Int64) × (Nat → Int32) × (Nat → Int32)) (t : State) => va_P (dC, dI) classes [(a_u, .inr (0, [.ref a_d, .ref a_p, .ref a_r, .ref a_c, .ref a_st, .ref a_pl, .int z.1, .int z.2.1, .int z.2.2.1, .int z.2.2.2.1, .int uDown])), (a_d, .inr (1, [.int z.2.2.2.2.1, .int z.2.2.2.2.2.1])), (a_r, .inr (3, [.ref a_rs, .ref a_rb, .ref a_ru, .ref a_rz, .ref a_rh, .ref a_rl])), (a_rs, .inl (cI, N, .inl z.2.2.2.2.2.2.1)), (a_rb, .inl (cI, N, .inl z.2.2.2.2.2.2.2.1)), (a_ru, .inl (cI, N, .inl z.2.2.2.2.2.2.2.2.1)), (a_rz, .inl (cZ, N, .inl z.2.2.2.2.2.2.2.2.2.1)), (a_rh, .inl (cJ, N, .inr (.inl z.2.2.2.2.2.2.2.2.2.2.1))), (a_rl, .inl (cJ, N, .inr (.inl z.2.2.2.2.2.2.2.2.2.2.2.1))), (a_st, .inl (cI, n, .inl z.2.2.2.2.2.2.2.2.2.2.2.2.1)), (a_pl, .inl (cI, 16, .inl z.2.2.2.2.2.2.2.2.2.2.2.2.2))] t.heap ∧ va_K (dC, dI) classes [(cI, .int), (cZ, .boolean), (cJ, .long)] t ∧ va_D (va_A [(a_u, .inr (0, [.ref a_d, .ref a_p, .ref a_r, .ref a_c, .ref a_st, .ref a_pl, .int uOpen, .int uFill, .int uSaved, .int uSerial, .int uDown])), (a_d, .inr (1, [.int uArmed, .int uWritten])), (a_r, .inr (3, [.ref a_rs, .ref a_rb, .ref a_ru, .ref a_rz, .ref a_rh, .ref a_rl])), (a_rs, .inl (cI, N, .inl uSers)), (a_rb, .inl (cI, N, .inl uBlks)), (a_ru, .inl (cI, N, .inl uUnts)), (a_rz, .inl (cZ, N, .inl uStos)), (a_rh, .inl (cJ, N, .inr (.inl uHis))), (a_rl, .inl (cJ, N, .inr (.inl uLos))), (a_st, .inl (cI, n, .inl uSts)), (a_pl, .inl (cI, 16, .inl uPlcs))] sz) [(a_u, .inr (0, [.ref a_d, .ref a_p, .ref a_r, .ref a_c, .ref a_st, .ref a_pl, .int z.1, .int z.2.1, .int z.2.2.1, .int z.2.2.2.1, .int uDown])), (a_d, .inr (1, [.int z.2.2.2.2.1, .int z.2.2.2.2.2.1])), (a_r, .inr (3, [.ref a_rs, .ref a_rb, .ref a_ru, .ref a_rz, .ref a_rh, .ref a_rl])), (a_rs, .inl (cI, N, .inl z.2.2.2.2.2.2.1)), (a_rb, .inl (cI, N, .inl z.2.2.2.2.2.2.2.1)), (a_ru, .inl (cI, N, .inl z.2.2.2.2.2.2.2.2.1)), (a_rz, .inl (cZ, N, .inl z.2.2.2.2.2.2.2.2.2.1)), (a_rh, .inl (cJ, N, .inr (.inl z.2.2.2.2.2.2.2.2.2.2.1))), (a_rl, .inl (cJ, N, .inr (.inl z.2.2.2.2.2.2.2.2.2.2.2.1))), (a_st, .inl (cI, n, .inl z.2.2.2.2.2.2.2.2.2.2.2.2.1)), (a_pl, .inl (cI, 16, .inl z.2.2.2.2.2.2.2.2.2.2.2.2.2))]) (va_A [(a_u, .inr (0, [.ref a_d, .ref a_p, .ref a_r, .ref a_c, .ref a_st, .ref a_pl, .int uOpen, .int uFill, .int uSaved, .int uSerial, .int uDown])), (a_d, .inr (1, [.int uArmed, .int uWritten])), (a_r, .inr (3, [.ref a_rs, .ref a_rb, .ref a_ru, .ref a_rz, .ref a_rh, .ref a_rl])), (a_rs, .inl (cI, N, .inl uSers)), (a_rb, .inl (cI, N, .inl uBlks)), (a_ru, .inl (cI, N, .inl uUnts)), (a_rz, .inl (cZ, N, .inl uStos)), (a_rh, .inl (cJ, N, .inr (.inl uHis))), (a_rl, .inl (cJ, N, .inr (.inl uLos))), (a_st, .inl (cI, n, .inl uSts)), (a_pl, .inl (cI, 16, .inl uPlcs))] sz)) 0 0 (va_A [(a_u, .inr (0, [.ref a_d, .ref a_p, .ref a_r, .ref a_c, .ref a_st, .ref a_pl, .int uOpen, .int uFill, .int uSaved, .int uSerial, .int uDown])), (a_d, .inr (1, [.int uArmed, .int uWritten])), (a_r, .inr (3, [.ref a_rs, .ref a_rb, .ref a_ru, .ref a_rz, .ref a_rh, .ref a_rl])), (a_rs, .inl (cI, N, .inl uSers)), (a_rb, .inl (cI, N, .inl uBlks)), (a_ru, .inl (cI, N, .inl uUnts)), (a_rz, .inl (cZ, N, .inl uStos)), (a_rh, .inl (cJ, N, .inr (.inl uHis))), (a_rl, .inl (cJ, N, .inr (.inl uLos))), (a_st, .inl (cI, n, .inl uSts)), (a_pl, .inl (cI, 16, .inl uPlcs))] sz) := by
  refine Met.ofW (cc := b_U_append) (maxL := 9) (ret := (some .boolean)) (by decide) rfl ?_
  intro p e s m args below meth c s₁ B hml hv
  obtain ⟨rfl, hsz, hP, hK, hD0, hN⟩ := hv
  have hx := B.exec
  have hb := B.bytes
  have hr := B.returns
  have hts := atoms_spec (ws := w_U_append) B.pre
  have htT : ∀ w ∈ lwG, w.before _ s = true := fun w h => hts w (List.mem_cons_of_mem _ h)
  have hown : s.vm.findClass R_U = some m.cls := findClass_of_methodNamed B.named
  have hlocks := B.notSynchronized
  subst hsz
  have hD := hD0.self (sz := s.heap.size)
  generalize hAe : va_A [(a_u, .inr (0, [.ref a_d, .ref a_p, .ref a_r, .ref a_c, .ref a_st, .ref a_pl, .int uOpen, .int uFill, .int uSaved, .int uSerial, .int uDown])), (a_d, .inr (1, [.int uArmed, .int uWritten])), (a_r, .inr (3, [.ref a_rs, .ref a_rb, .ref a_ru, .ref a_rz, .ref a_rh, .ref a_rl])), (a_rs, .inl (cI, N, .inl uSers)), (a_rb, .inl (cI, N, .inl uBlks)), (a_ru, .inl (cI, N, .inl uUnts)), (a_rz, .inl (cZ, N, .inl uStos)), (a_rh, .inl (cJ, N, .inr (.inl uHis))), (a_rl, .inl (cJ, N, .inr (.inl uLos))), (a_st, .inl (cI, n, .inl uSts)), (a_pl, .inl (cI, 16, .inl uPlcs))] s.heap.size = A at hD ⊢
  have hA : ∀ q : Nat, s.heap.size ≤ q → A q := fun q h => by rw [← hAe]; exact Or.inr h
  have hS : va_S A s.heap s.heap [] := va_S.rf
  have hP : va_P (dC, dI) classes [(a_u, .inr (0, [.ref a_d, .ref a_p, .ref a_r, .ref a_c, .ref a_st, .ref a_pl, .int uOpen, .int uFill, .int uSaved, .int uSerial, .int uDown])), (a_d, .inr (1, [.int uArmed, .int uWritten])), (a_r, .inr (3, [.ref a_rs, .ref a_rb, .ref a_ru, .ref a_rz, .ref a_rh, .ref a_rl])), (a_rs, .inl (cI, N, .inl uSers)), (a_rb, .inl (cI, N, .inl uBlks)), (a_ru, .inl (cI, N, .inl uUnts)), (a_rz, .inl (cZ, N, .inl uStos)), (a_rh, .inl (cJ, N, .inr (.inl uHis))), (a_rl, .inl (cJ, N, .inr (.inl uLos))), (a_st, .inl (cI, n, .inl uSts)), (a_pl, .inl (cI, 16, .inl uPlcs))] s.heap := hP
  have hl := lv_entry ([.ref a_u, .int x1, .int x2, .int x3, .long x4, .long x6]) (n := 9) (Nat.le_of_ble_eq_true rfl)
  rw [lg_entry_eq]
  generalize (lg_sl ([.ref a_u, .int x1, .int x2, .int x3, .long x4, .long x6]) ++ List.replicate (9 - (lg_sl ([.ref a_u, .int x1, .int x2, .int x3, .long x4, .long x6])).length) Slot.unset).toArray = ls at hl ⊢
  have hl : lv_has ls 9 [(0, .ref a_u), (1, .int x1), (2, .int x2), (3, .int x3), (4, .long x4), (6, .long x6)] := hl
  have J20 : ∀ (uOpen_j20 : Int32) (uFill_j20 : Int32) (uSaved_j20 : Int32) (uSerial_j20 : Int32) (uArmed_j20 : Int32) (uWritten_j20 : Int32) (uSers_j20 : Nat → Int32) (uBlks_j20 : Nat → Int32) (uUnts_j20 : Nat → Int32) (uStos_j20 : Nat → Int32) (uHis_j20 : Nat → Int64) (uLos_j20 : Nat → Int64) (uSts_j20 : Nat → Int32) (uPlcs_j20 : Nat → Int32) (x1_j20 : Int32) (x2_j20 : Int32) (x3_j20 : Int32) (x4_j20 : Int64) (x6_j20 : Int64) (ls : Array Slot) (H : Heap) (locs : List Loc), lv_has ls 9 [(0, .ref a_u), (1, .int x1_j20), (2, .int x2_j20), (3, .int x3_j20), (4, .long x4_j20), (6, .long x6_j20)] → va_P (dC, dI) classes [(a_u, .inr (0, [.ref a_d, .ref a_p, .ref a_r, .ref a_c, .ref a_st, .ref a_pl, .int uOpen_j20, .int uFill_j20, .int uSaved_j20, .int uSerial_j20, .int uDown])), (a_d, .inr (1, [.int uArmed_j20, .int uWritten_j20])), (a_r, .inr (3, [.ref a_rs, .ref a_rb, .ref a_ru, .ref a_rz, .ref a_rh, .ref a_rl])), (a_rs, .inl (cI, N, .inl uSers_j20)), (a_rb, .inl (cI, N, .inl uBlks_j20)), (a_ru, .inl (cI, N, .inl uUnts_j20)), (a_rz, .inl (cZ, N, .inl uStos_j20)), (a_rh, .inl (cJ, N, .inr (.inl uHis_j20))), (a_rl, .inl (cJ, N, .inr (.inl uLos_j20))), (a_st, .inl (cI, n, .inl uSts_j20)), (a_pl, .inl (cI, 16, .inl uPlcs_j20))] H → va_D A [(a_u, .inr (0, [.ref a_d, .ref a_p, .ref a_r, .ref a_c, .ref a_st, .ref a_pl, .int uOpen_j20, .int uFill_j20, .int uSaved_j20, .int uSerial_j20, .int uDown])), (a_d, .inr (1, [.int uArmed_j20, .int uWritten_j20])), (a_r, .inr (3, [.ref a_rs, .ref a_rb, .ref a_ru, .ref a_rz, .ref a_rh, .ref a_rl])), (a_rs, .inl (cI, N, .inl uSers_j20)), (a_rb, .inl (cI, N, .inl uBlks_j20)), (a_ru, .inl (cI, N, .inl uUnts_j20)), (a_rz, .inl (cZ, N, .inl uStos_j20)), (a_rh, .inl (cJ, N, .inr (.inl uHis_j20))), (a_rl, .inl (cJ, N, .inr (.inl uLos_j20))), (a_st, .inl (cI, n, .inl uSts_j20)), (a_pl, .inl (cI, 16, .inl uPlcs_j20))] → va_S A s.heap H locs → U_append_J20 N uOpen_j20 uFill_j20 uSaved_j20 uSerial_j20 uArmed_j20 uWritten_j20 uSers_j20 uBlks_j20 uUnts_j20 uStos_j20 uHis_j20 uLos_j20 uSts_j20 uPlcs_j20 x1_j20 x2_j20 x3_j20 x4_j20 x6_j20 = some res → W p l e (headSpec w_U_append ({ frames := 3, cells := 0, slots := 0, locals := 62 })).room s m ([.ref a_u, .int x1, .int x2, .int x3, .long x4, .long x6] : List Value).toArray below meth c H locs 0 0 (MQ below (va_Qi (fun (r : Int32) (z : Int32 × Int32 × Int32 × Int32 × Int32 × Int32 × (Nat → Int32) × (Nat → Int32) × (Nat → Int32) × (Nat → Int32) × (Nat → Int64) × (Nat → Int64) × (Nat → Int32) × (Nat → Int32)) => res = (r, z)) (fun (z : Int32 × Int32 × Int32 × Int32 × Int32 × Int32 × (Nat → Int32) × (Nat → Int32) × (Nat → Int32) × (Nat → Int32) × (Nat → Int64) × (Nat → Int64) × (Nat → Int32) × (Nat → Int32)) (t : State) => va_P (dC, dI) classes [(a_u, .inr (0, [.ref a_d, .ref a_p, .ref a_r, .ref a_c, .ref a_st, .ref a_pl, .int z.1, .int z.2.1, .int z.2.2.1, .int z.2.2.2.1, .int uDown])), (a_d, .inr (1, [.int z.2.2.2.2.1, .int z.2.2.2.2.2.1])), (a_r, .inr (3, [.ref a_rs, .ref a_rb, .ref a_ru, .ref a_rz, .ref a_rh, .ref a_rl])), (a_rs, .inl (cI, N, .inl z.2.2.2.2.2.2.1)), (a_rb, .inl (cI, N, .inl z.2.2.2.2.2.2.2.1)), (a_ru, .inl (cI, N, .inl z.2.2.2.2.2.2.2.2.1)), (a_rz, .inl (cZ, N, .inl z.2.2.2.2.2.2.2.2.2.1)), (a_rh, .inl (cJ, N, .inr (.inl z.2.2.2.2.2.2.2.2.2.2.1))), (a_rl, .inl (cJ, N, .inr (.inl z.2.2.2.2.2.2.2.2.2.2.2.1))), (a_st, .inl (cI, n, .inl z.2.2.2.2.2.2.2.2.2.2.2.2.1)), (a_pl, .inl (cI, 16, .inl z.2.2.2.2.2.2.2.2.2.2.2.2.2))] t.heap ∧ va_K (dC, dI) classes [(cI, .int), (cZ, .boolean), (cJ, .long)] t ∧ va_D A [(a_u, .inr (0, [.ref a_d, .ref a_p, .ref a_r, .ref a_c, .ref a_st, .ref a_pl, .int z.1, .int z.2.1, .int z.2.2.1, .int z.2.2.2.1, .int uDown])), (a_d, .inr (1, [.int z.2.2.2.2.1, .int z.2.2.2.2.2.1])), (a_r, .inr (3, [.ref a_rs, .ref a_rb, .ref a_ru, .ref a_rz, .ref a_rh, .ref a_rl])), (a_rs, .inl (cI, N, .inl z.2.2.2.2.2.2.1)), (a_rb, .inl (cI, N, .inl z.2.2.2.2.2.2.2.1)), (a_ru, .inl (cI, N, .inl z.2.2.2.2.2.2.2.2.1)), (a_rz, .inl (cZ, N, .inl z.2.2.2.2.2.2.2.2.2.1)), (a_rh, .inl (cJ, N, .inr (.inl z.2.2.2.2.2.2.2.2.2.2.1))), (a_rl, .inl (cJ, N, .inr (.inl z.2.2.2.2.2.2.2.2.2.2.2.1))), (a_st, .inl (cI, n, .inl z.2.2.2.2.2.2.2.2.2.2.2.2.1)), (a_pl, .inl (cI, 16, .inl z.2.2.2.2.2.2.2.2.2.2.2.2.2))]) A) ([.ref a_u, .int x1, .int x2, .int x3, .long x4, .long x6] : List Value).toArray s 0 0 A) (F0 m 20 ls []) := by
    intro uOpen_j20 uFill_j20 uSaved_j20 uSerial_j20 uArmed_j20 uWritten_j20 uSers_j20 uBlks_j20 uUnts_j20 uStos_j20 uHis_j20 uLos_j20 uSts_j20 uPlcs_j20 x1_j20 x2_j20 x3_j20 x4_j20 x6_j20 ls H locs hl hP hD hS h
    rw [U_append_J20] at h
    refine lv_aload_n hx hb d_U_append_20 rfl (lv_at hl 0 rfl) ?_
    refine va_get (D := (dC, dI)) (ci := 0) (v := .int uOpen_j20) (C := R_U) (T := F_U) (N := 11) hx hb htT i_U hown hK hP 0 rfl rfl 6 (by decide) (htT _ kf_U_156) (fun _ h9 => h9) rfl d_U_append_21 ?_
    refine lv_bipush (v := (16 : Int32)) hx hb d_U_append_24 (by decide) ?_
    refine lv_imul hx hb d_U_append_26 ?_
    refine lv_aload_n hx hb d_U_append_27 rfl (lv_at hl 0 rfl) ?_
    refine va_get (D := (dC, dI)) (ci := 0) (v := .int uFill_j20) (C := R_U) (T := F_U) (N := 11) hx hb htT i_U hown hK hP 0 rfl rfl 7 (by decide) (htT _ kf_U_101) (fun _ h9 => h9) rfl d_U_append_28 ?_
    refine lv_iadd hx hb d_U_append_31 ?_
    refine lv_istore hx hb d_U_append_32 hl (by decide) rfl (fun ls hl => ?_)
    have hl : lv_has ls 9 [(8, .int ((uOpen_j20 * (16 : Int32)) + uFill_j20)), (0, .ref a_u), (1, .int x1_j20), (2, .int x2_j20), (3, .int x3_j20), (4, .long x4_j20), (6, .long x6_j20)] := hl
    refine lv_aload_n hx hb d_U_append_34 rfl (lv_at hl 1 rfl) ?_
    refine lv_dup hx hb d_U_append_35 rfl ?_
    refine va_get (D := (dC, dI)) (ci := 0) (v := .int uSerial_j20) (C := R_U) (T := F_U) (N := 11) hx hb htT i_U hown hK hP 0 rfl rfl 9 (by decide) (htT _ kf_U_144) (fun _ h9 => h9) rfl d_U_append_36 ?_
    refine lv_iconst (v := (1 : Int32)) hx hb d_U_append_39 (by decide) ?_
    refine lv_iadd hx hb d_U_append_40 ?_
    refine va_put (D := (dC, dI)) (ci := 0) (v := .int (uSerial_j20 + (1 : Int32))) (ty := .int) (C := R_U) (T := F_U) (N := 11) hx hb htT i_U t_U t_U_ok n_U hown hK hP hD hS 0 rfl rfl 9 (by decide) (htT _ kf_U_144) (fun _ h9 => h9) rfl (by decide +kernel) rfl rfl (Nat.le_of_ble_eq_true rfl) d_U_append_41 (fun H locs hP hD hS => ?_)
    have hP : va_P (dC, dI) classes [(a_u, .inr (0, [.ref a_d, .ref a_p, .ref a_r, .ref a_c, .ref a_st, .ref a_pl, .int uOpen_j20, .int uFill_j20, .int uSaved_j20, .int (uSerial_j20 + (1 : Int32)), .int uDown])), (a_d, .inr (1, [.int uArmed_j20, .int uWritten_j20])), (a_r, .inr (3, [.ref a_rs, .ref a_rb, .ref a_ru, .ref a_rz, .ref a_rh, .ref a_rl])), (a_rs, .inl (cI, N, .inl uSers_j20)), (a_rb, .inl (cI, N, .inl uBlks_j20)), (a_ru, .inl (cI, N, .inl uUnts_j20)), (a_rz, .inl (cZ, N, .inl uStos_j20)), (a_rh, .inl (cJ, N, .inr (.inl uHis_j20))), (a_rl, .inl (cJ, N, .inr (.inl uLos_j20))), (a_st, .inl (cI, n, .inl uSts_j20)), (a_pl, .inl (cI, 16, .inl uPlcs_j20))] H := hP
    have hD : va_D A [(a_u, .inr (0, [.ref a_d, .ref a_p, .ref a_r, .ref a_c, .ref a_st, .ref a_pl, .int uOpen_j20, .int uFill_j20, .int uSaved_j20, .int (uSerial_j20 + (1 : Int32)), .int uDown])), (a_d, .inr (1, [.int uArmed_j20, .int uWritten_j20])), (a_r, .inr (3, [.ref a_rs, .ref a_rb, .ref a_ru, .ref a_rz, .ref a_rh, .ref a_rl])), (a_rs, .inl (cI, N, .inl uSers_j20)), (a_rb, .inl (cI, N, .inl uBlks_j20)), (a_ru, .inl (cI, N, .inl uUnts_j20)), (a_rz, .inl (cZ, N, .inl uStos_j20)), (a_rh, .inl (cJ, N, .inr (.inl uHis_j20))), (a_rl, .inl (cJ, N, .inr (.inl uLos_j20))), (a_st, .inl (cI, n, .inl uSts_j20)), (a_pl, .inl (cI, 16, .inl uPlcs_j20))] := hD
    refine lv_aload_n hx hb d_U_append_44 rfl (lv_at hl 1 rfl) ?_
    refine va_get (D := (dC, dI)) (ci := 0) (v := .ref a_r) (C := R_U) (T := F_U) (N := 11) hx hb htT i_U hown hK hP 0 rfl rfl 2 (by decide) (htT _ kf_U_37) (fun _ h9 => h9) rfl d_U_append_45 ?_
    refine va_getN (D := (dC, dI)) (ci := 3) (v := .ref a_rs) (C := R_R) (T := F_R) (N := 6) hx hb htT i_R hown hK hP 2 rfl rfl 0 (by decide) (va_Nw.use rfl (hN _ kf_U_159)) (fun _ h9 => h9) rfl d_U_append_48 ?_
    refine lv_iload hx hb d_U_append_51 (lv_at hl 0 rfl) ?_
    refine lv_aload_n hx hb d_U_append_53 rfl (lv_at hl 1 rfl) ?_
    refine va_get (D := (dC, dI)) (ci := 0) (v := .int (uSerial_j20 + (1 : Int32))) (C := R_U) (T := F_U) (N := 11) hx hb htT i_U hown hK hP 0 rfl rfl 9 (by decide) (htT _ kf_U_144) (fun _ h9 => h9) rfl d_U_append_54 ?_
    obtain ⟨hin, h⟩ := ck_in h
    refine va_iast hx hb hK hP hD hS 3 0 rfl rfl hin d_U_append_57 (fun H locs hP hD hS => ?_)
    have hP : va_P (dC, dI) classes [(a_u, .inr (0, [.ref a_d, .ref a_p, .ref a_r, .ref a_c, .ref a_st, .ref a_pl, .int uOpen_j20, .int uFill_j20, .int uSaved_j20, .int (uSerial_j20 + (1 : Int32)), .int uDown])), (a_d, .inr (1, [.int uArmed_j20, .int uWritten_j20])), (a_r, .inr (3, [.ref a_rs, .ref a_rb, .ref a_ru, .ref a_rz, .ref a_rh, .ref a_rl])), (a_rs, .inl (cI, N, .inl (upd uSers_j20 ((uOpen_j20 * (16 : Int32)) + uFill_j20).toNatClampNeg (uSerial_j20 + (1 : Int32))))), (a_rb, .inl (cI, N, .inl uBlks_j20)), (a_ru, .inl (cI, N, .inl uUnts_j20)), (a_rz, .inl (cZ, N, .inl uStos_j20)), (a_rh, .inl (cJ, N, .inr (.inl uHis_j20))), (a_rl, .inl (cJ, N, .inr (.inl uLos_j20))), (a_st, .inl (cI, n, .inl uSts_j20)), (a_pl, .inl (cI, 16, .inl uPlcs_j20))] H := hP
    have hD : va_D A [(a_u, .inr (0, [.ref a_d, .ref a_p, .ref a_r, .ref a_c, .ref a_st, .ref a_pl, .int uOpen_j20, .int uFill_j20, .int uSaved_j20, .int (uSerial_j20 + (1 : Int32)), .int uDown])), (a_d, .inr (1, [.int uArmed_j20, .int uWritten_j20])), (a_r, .inr (3, [.ref a_rs, .ref a_rb, .ref a_ru, .ref a_rz, .ref a_rh, .ref a_rl])), (a_rs, .inl (cI, N, .inl (upd uSers_j20 ((uOpen_j20 * (16 : Int32)) + uFill_j20).toNatClampNeg (uSerial_j20 + (1 : Int32))))), (a_rb, .inl (cI, N, .inl uBlks_j20)), (a_ru, .inl (cI, N, .inl uUnts_j20)), (a_rz, .inl (cZ, N, .inl uStos_j20)), (a_rh, .inl (cJ, N, .inr (.inl uHis_j20))), (a_rl, .inl (cJ, N, .inr (.inl uLos_j20))), (a_st, .inl (cI, n, .inl uSts_j20)), (a_pl, .inl (cI, 16, .inl uPlcs_j20))] := hD
    refine lv_aload_n hx hb d_U_append_58 rfl (lv_at hl 1 rfl) ?_
    refine va_get (D := (dC, dI)) (ci := 0) (v := .ref a_r) (C := R_U) (T := F_U) (N := 11) hx hb htT i_U hown hK hP 0 rfl rfl 2 (by decide) (htT _ kf_U_37) (fun _ h9 => h9) rfl d_U_append_59 ?_
    refine va_getN (D := (dC, dI)) (ci := 3) (v := .ref a_rb) (C := R_R) (T := F_R) (N := 6) hx hb htT i_R hown hK hP 2 rfl rfl 1 (by decide) (va_Nw.use rfl (hN _ kf_U_162)) (fun _ h9 => h9) rfl d_U_append_62 ?_
    refine lv_iload hx hb d_U_append_65 (lv_at hl 0 rfl) ?_
    refine lv_iload_n hx hb d_U_append_67 rfl (lv_at hl 2 rfl) ?_
    obtain ⟨hin, h⟩ := ck_in h
    refine va_iast hx hb hK hP hD hS 4 0 rfl rfl hin d_U_append_68 (fun H locs hP hD hS => ?_)
    have hP : va_P (dC, dI) classes [(a_u, .inr (0, [.ref a_d, .ref a_p, .ref a_r, .ref a_c, .ref a_st, .ref a_pl, .int uOpen_j20, .int uFill_j20, .int uSaved_j20, .int (uSerial_j20 + (1 : Int32)), .int uDown])), (a_d, .inr (1, [.int uArmed_j20, .int uWritten_j20])), (a_r, .inr (3, [.ref a_rs, .ref a_rb, .ref a_ru, .ref a_rz, .ref a_rh, .ref a_rl])), (a_rs, .inl (cI, N, .inl (upd uSers_j20 ((uOpen_j20 * (16 : Int32)) + uFill_j20).toNatClampNeg (uSerial_j20 + (1 : Int32))))), (a_rb, .inl (cI, N, .inl (upd uBlks_j20 ((uOpen_j20 * (16 : Int32)) + uFill_j20).toNatClampNeg x1_j20))), (a_ru, .inl (cI, N, .inl uUnts_j20)), (a_rz, .inl (cZ, N, .inl uStos_j20)), (a_rh, .inl (cJ, N, .inr (.inl uHis_j20))), (a_rl, .inl (cJ, N, .inr (.inl uLos_j20))), (a_st, .inl (cI, n, .inl uSts_j20)), (a_pl, .inl (cI, 16, .inl uPlcs_j20))] H := hP
    have hD : va_D A [(a_u, .inr (0, [.ref a_d, .ref a_p, .ref a_r, .ref a_c, .ref a_st, .ref a_pl, .int uOpen_j20, .int uFill_j20, .int uSaved_j20, .int (uSerial_j20 + (1 : Int32)), .int uDown])), (a_d, .inr (1, [.int uArmed_j20, .int uWritten_j20])), (a_r, .inr (3, [.ref a_rs, .ref a_rb, .ref a_ru, .ref a_rz, .ref a_rh, .ref a_rl])), (a_rs, .inl (cI, N, .inl (upd uSers_j20 ((uOpen_j20 * (16 : Int32)) + uFill_j20).toNatClampNeg (uSerial_j20 + (1 : Int32))))), (a_rb, .inl (cI, N, .inl (upd uBlks_j20 ((uOpen_j20 * (16 : Int32)) + uFill_j20).toNatClampNeg x1_j20))), (a_ru, .inl (cI, N, .inl uUnts_j20)), (a_rz, .inl (cZ, N, .inl uStos_j20)), (a_rh, .inl (cJ, N, .inr (.inl uHis_j20))), (a_rl, .inl (cJ, N, .inr (.inl uLos_j20))), (a_st, .inl (cI, n, .inl uSts_j20)), (a_pl, .inl (cI, 16, .inl uPlcs_j20))] := hD
    refine lv_aload_n hx hb d_U_append_69 rfl (lv_at hl 1 rfl) ?_
    refine va_get (D := (dC, dI)) (ci := 0) (v := .ref a_r) (C := R_U) (T := F_U) (N := 11) hx hb htT i_U hown hK hP 0 rfl rfl 2 (by decide) (htT _ kf_U_37) (fun _ h9 => h9) rfl d_U_append_70 ?_
    refine va_getN (D := (dC, dI)) (ci := 3) (v := .ref a_ru) (C := R_R) (T := F_R) (N := 6) hx hb htT i_R hown hK hP 2 rfl rfl 2 (by decide) (va_Nw.use rfl (hN _ kf_U_165)) (fun _ h9 => h9) rfl d_U_append_73 ?_
    refine lv_iload hx hb d_U_append_76 (lv_at hl 0 rfl) ?_
    refine lv_iload_n hx hb d_U_append_78 rfl (lv_at hl 3 rfl) ?_
    obtain ⟨hin, h⟩ := ck_in h
    refine va_iast hx hb hK hP hD hS 5 0 rfl rfl hin d_U_append_79 (fun H locs hP hD hS => ?_)
    have hP : va_P (dC, dI) classes [(a_u, .inr (0, [.ref a_d, .ref a_p, .ref a_r, .ref a_c, .ref a_st, .ref a_pl, .int uOpen_j20, .int uFill_j20, .int uSaved_j20, .int (uSerial_j20 + (1 : Int32)), .int uDown])), (a_d, .inr (1, [.int uArmed_j20, .int uWritten_j20])), (a_r, .inr (3, [.ref a_rs, .ref a_rb, .ref a_ru, .ref a_rz, .ref a_rh, .ref a_rl])), (a_rs, .inl (cI, N, .inl (upd uSers_j20 ((uOpen_j20 * (16 : Int32)) + uFill_j20).toNatClampNeg (uSerial_j20 + (1 : Int32))))), (a_rb, .inl (cI, N, .inl (upd uBlks_j20 ((uOpen_j20 * (16 : Int32)) + uFill_j20).toNatClampNeg x1_j20))), (a_ru, .inl (cI, N, .inl (upd uUnts_j20 ((uOpen_j20 * (16 : Int32)) + uFill_j20).toNatClampNeg x2_j20))), (a_rz, .inl (cZ, N, .inl uStos_j20)), (a_rh, .inl (cJ, N, .inr (.inl uHis_j20))), (a_rl, .inl (cJ, N, .inr (.inl uLos_j20))), (a_st, .inl (cI, n, .inl uSts_j20)), (a_pl, .inl (cI, 16, .inl uPlcs_j20))] H := hP
    have hD : va_D A [(a_u, .inr (0, [.ref a_d, .ref a_p, .ref a_r, .ref a_c, .ref a_st, .ref a_pl, .int uOpen_j20, .int uFill_j20, .int uSaved_j20, .int (uSerial_j20 + (1 : Int32)), .int uDown])), (a_d, .inr (1, [.int uArmed_j20, .int uWritten_j20])), (a_r, .inr (3, [.ref a_rs, .ref a_rb, .ref a_ru, .ref a_rz, .ref a_rh, .ref a_rl])), (a_rs, .inl (cI, N, .inl (upd uSers_j20 ((uOpen_j20 * (16 : Int32)) + uFill_j20).toNatClampNeg (uSerial_j20 + (1 : Int32))))), (a_rb, .inl (cI, N, .inl (upd uBlks_j20 ((uOpen_j20 * (16 : Int32)) + uFill_j20).toNatClampNeg x1_j20))), (a_ru, .inl (cI, N, .inl (upd uUnts_j20 ((uOpen_j20 * (16 : Int32)) + uFill_j20).toNatClampNeg x2_j20))), (a_rz, .inl (cZ, N, .inl uStos_j20)), (a_rh, .inl (cJ, N, .inr (.inl uHis_j20))), (a_rl, .inl (cJ, N, .inr (.inl uLos_j20))), (a_st, .inl (cI, n, .inl uSts_j20)), (a_pl, .inl (cI, 16, .inl uPlcs_j20))] := hD
    refine lv_aload_n hx hb d_U_append_80 rfl (lv_at hl 1 rfl) ?_
    refine va_get (D := (dC, dI)) (ci := 0) (v := .ref a_r) (C := R_U) (T := F_U) (N := 11) hx hb htT i_U hown hK hP 0 rfl rfl 2 (by decide) (htT _ kf_U_37) (fun _ h9 => h9) rfl d_U_append_81 ?_
    refine va_getN (D := (dC, dI)) (ci := 3) (v := .ref a_rz) (C := R_R) (T := F_R) (N := 6) hx hb htT i_R hown hK hP 2 rfl rfl 3 (by decide) (va_Nw.use rfl (hN _ kf_U_168)) (fun _ h9 => h9) rfl d_U_append_84 ?_
    refine lv_iload hx hb d_U_append_87 (lv_at hl 0 rfl) ?_
    refine lv_iload_n hx hb d_U_append_89 rfl (lv_at hl 4 rfl) ?_
    obtain ⟨hin, h⟩ := ck_in h
    refine va_zast hx hb hK hP hD hS 6 1 rfl rfl hin d_U_append_90 (fun H locs hP hD hS => ?_)
    have hP : va_P (dC, dI) classes [(a_u, .inr (0, [.ref a_d, .ref a_p, .ref a_r, .ref a_c, .ref a_st, .ref a_pl, .int uOpen_j20, .int uFill_j20, .int uSaved_j20, .int (uSerial_j20 + (1 : Int32)), .int uDown])), (a_d, .inr (1, [.int uArmed_j20, .int uWritten_j20])), (a_r, .inr (3, [.ref a_rs, .ref a_rb, .ref a_ru, .ref a_rz, .ref a_rh, .ref a_rl])), (a_rs, .inl (cI, N, .inl (upd uSers_j20 ((uOpen_j20 * (16 : Int32)) + uFill_j20).toNatClampNeg (uSerial_j20 + (1 : Int32))))), (a_rb, .inl (cI, N, .inl (upd uBlks_j20 ((uOpen_j20 * (16 : Int32)) + uFill_j20).toNatClampNeg x1_j20))), (a_ru, .inl (cI, N, .inl (upd uUnts_j20 ((uOpen_j20 * (16 : Int32)) + uFill_j20).toNatClampNeg x2_j20))), (a_rz, .inl (cZ, N, .inl (upd uStos_j20 ((uOpen_j20 * (16 : Int32)) + uFill_j20).toNatClampNeg (vp_nar .boolean x3_j20)))), (a_rh, .inl (cJ, N, .inr (.inl uHis_j20))), (a_rl, .inl (cJ, N, .inr (.inl uLos_j20))), (a_st, .inl (cI, n, .inl uSts_j20)), (a_pl, .inl (cI, 16, .inl uPlcs_j20))] H := hP
    have hD : va_D A [(a_u, .inr (0, [.ref a_d, .ref a_p, .ref a_r, .ref a_c, .ref a_st, .ref a_pl, .int uOpen_j20, .int uFill_j20, .int uSaved_j20, .int (uSerial_j20 + (1 : Int32)), .int uDown])), (a_d, .inr (1, [.int uArmed_j20, .int uWritten_j20])), (a_r, .inr (3, [.ref a_rs, .ref a_rb, .ref a_ru, .ref a_rz, .ref a_rh, .ref a_rl])), (a_rs, .inl (cI, N, .inl (upd uSers_j20 ((uOpen_j20 * (16 : Int32)) + uFill_j20).toNatClampNeg (uSerial_j20 + (1 : Int32))))), (a_rb, .inl (cI, N, .inl (upd uBlks_j20 ((uOpen_j20 * (16 : Int32)) + uFill_j20).toNatClampNeg x1_j20))), (a_ru, .inl (cI, N, .inl (upd uUnts_j20 ((uOpen_j20 * (16 : Int32)) + uFill_j20).toNatClampNeg x2_j20))), (a_rz, .inl (cZ, N, .inl (upd uStos_j20 ((uOpen_j20 * (16 : Int32)) + uFill_j20).toNatClampNeg (vp_nar .boolean x3_j20)))), (a_rh, .inl (cJ, N, .inr (.inl uHis_j20))), (a_rl, .inl (cJ, N, .inr (.inl uLos_j20))), (a_st, .inl (cI, n, .inl uSts_j20)), (a_pl, .inl (cI, 16, .inl uPlcs_j20))] := hD
    refine lv_aload_n hx hb d_U_append_91 rfl (lv_at hl 1 rfl) ?_
    refine va_get (D := (dC, dI)) (ci := 0) (v := .ref a_r) (C := R_U) (T := F_U) (N := 11) hx hb htT i_U hown hK hP 0 rfl rfl 2 (by decide) (htT _ kf_U_37) (fun _ h9 => h9) rfl d_U_append_92 ?_
    refine va_getN (D := (dC, dI)) (ci := 3) (v := .ref a_rh) (C := R_R) (T := F_R) (N := 6) hx hb htT i_R hown hK hP 2 rfl rfl 4 (by decide) (va_Nw.use rfl (hN _ kf_U_87)) (fun _ h9 => h9) rfl d_U_append_95 ?_
    refine lv_iload hx hb d_U_append_98 (lv_at hl 0 rfl) ?_
    refine lv_lload hx hb d_U_append_100 (lv_at hl 5 rfl) ?_
    obtain ⟨hin, h⟩ := ck_in h
    refine va_last hx hb hK hP hD hS 7 2 rfl rfl hin d_U_append_102 (fun H locs hP hD hS => ?_)
    have hP : va_P (dC, dI) classes [(a_u, .inr (0, [.ref a_d, .ref a_p, .ref a_r, .ref a_c, .ref a_st, .ref a_pl, .int uOpen_j20, .int uFill_j20, .int uSaved_j20, .int (uSerial_j20 + (1 : Int32)), .int uDown])), (a_d, .inr (1, [.int uArmed_j20, .int uWritten_j20])), (a_r, .inr (3, [.ref a_rs, .ref a_rb, .ref a_ru, .ref a_rz, .ref a_rh, .ref a_rl])), (a_rs, .inl (cI, N, .inl (upd uSers_j20 ((uOpen_j20 * (16 : Int32)) + uFill_j20).toNatClampNeg (uSerial_j20 + (1 : Int32))))), (a_rb, .inl (cI, N, .inl (upd uBlks_j20 ((uOpen_j20 * (16 : Int32)) + uFill_j20).toNatClampNeg x1_j20))), (a_ru, .inl (cI, N, .inl (upd uUnts_j20 ((uOpen_j20 * (16 : Int32)) + uFill_j20).toNatClampNeg x2_j20))), (a_rz, .inl (cZ, N, .inl (upd uStos_j20 ((uOpen_j20 * (16 : Int32)) + uFill_j20).toNatClampNeg (vp_nar .boolean x3_j20)))), (a_rh, .inl (cJ, N, .inr (.inl (vp_updL uHis_j20 ((uOpen_j20 * (16 : Int32)) + uFill_j20).toNatClampNeg x4_j20)))), (a_rl, .inl (cJ, N, .inr (.inl uLos_j20))), (a_st, .inl (cI, n, .inl uSts_j20)), (a_pl, .inl (cI, 16, .inl uPlcs_j20))] H := hP
    have hD : va_D A [(a_u, .inr (0, [.ref a_d, .ref a_p, .ref a_r, .ref a_c, .ref a_st, .ref a_pl, .int uOpen_j20, .int uFill_j20, .int uSaved_j20, .int (uSerial_j20 + (1 : Int32)), .int uDown])), (a_d, .inr (1, [.int uArmed_j20, .int uWritten_j20])), (a_r, .inr (3, [.ref a_rs, .ref a_rb, .ref a_ru, .ref a_rz, .ref a_rh, .ref a_rl])), (a_rs, .inl (cI, N, .inl (upd uSers_j20 ((uOpen_j20 * (16 : Int32)) + uFill_j20).toNatClampNeg (uSerial_j20 + (1 : Int32))))), (a_rb, .inl (cI, N, .inl (upd uBlks_j20 ((uOpen_j20 * (16 : Int32)) + uFill_j20).toNatClampNeg x1_j20))), (a_ru, .inl (cI, N, .inl (upd uUnts_j20 ((uOpen_j20 * (16 : Int32)) + uFill_j20).toNatClampNeg x2_j20))), (a_rz, .inl (cZ, N, .inl (upd uStos_j20 ((uOpen_j20 * (16 : Int32)) + uFill_j20).toNatClampNeg (vp_nar .boolean x3_j20)))), (a_rh, .inl (cJ, N, .inr (.inl (vp_updL uHis_j20 ((uOpen_j20 * (16 : Int32)) + uFill_j20).toNatClampNeg x4_j20)))), (a_rl, .inl (cJ, N, .inr (.inl uLos_j20))), (a_st, .inl (cI, n, .inl uSts_j20)), (a_pl, .inl (cI, 16, .inl uPlcs_j20))] := hD
    refine lv_aload_n hx hb d_U_append_103 rfl (lv_at hl 1 rfl) ?_
    refine va_get (D := (dC, dI)) (ci := 0) (v := .ref a_r) (C := R_U) (T := F_U) (N := 11) hx hb htT i_U hown hK hP 0 rfl rfl 2 (by decide) (htT _ kf_U_37) (fun _ h9 => h9) rfl d_U_append_104 ?_
    refine va_getN (D := (dC, dI)) (ci := 3) (v := .ref a_rl) (C := R_R) (T := F_R) (N := 6) hx hb htT i_R hown hK hP 2 rfl rfl 5 (by decide) (va_Nw.use rfl (hN _ kf_U_91)) (fun _ h9 => h9) rfl d_U_append_107 ?_
    refine lv_iload hx hb d_U_append_110 (lv_at hl 0 rfl) ?_
    refine lv_lload hx hb d_U_append_112 (lv_at hl 6 rfl) ?_
    obtain ⟨hin, h⟩ := ck_in h
    refine va_last hx hb hK hP hD hS 8 2 rfl rfl hin d_U_append_114 (fun H locs hP hD hS => ?_)
    have hP : va_P (dC, dI) classes [(a_u, .inr (0, [.ref a_d, .ref a_p, .ref a_r, .ref a_c, .ref a_st, .ref a_pl, .int uOpen_j20, .int uFill_j20, .int uSaved_j20, .int (uSerial_j20 + (1 : Int32)), .int uDown])), (a_d, .inr (1, [.int uArmed_j20, .int uWritten_j20])), (a_r, .inr (3, [.ref a_rs, .ref a_rb, .ref a_ru, .ref a_rz, .ref a_rh, .ref a_rl])), (a_rs, .inl (cI, N, .inl (upd uSers_j20 ((uOpen_j20 * (16 : Int32)) + uFill_j20).toNatClampNeg (uSerial_j20 + (1 : Int32))))), (a_rb, .inl (cI, N, .inl (upd uBlks_j20 ((uOpen_j20 * (16 : Int32)) + uFill_j20).toNatClampNeg x1_j20))), (a_ru, .inl (cI, N, .inl (upd uUnts_j20 ((uOpen_j20 * (16 : Int32)) + uFill_j20).toNatClampNeg x2_j20))), (a_rz, .inl (cZ, N, .inl (upd uStos_j20 ((uOpen_j20 * (16 : Int32)) + uFill_j20).toNatClampNeg (vp_nar .boolean x3_j20)))), (a_rh, .inl (cJ, N, .inr (.inl (vp_updL uHis_j20 ((uOpen_j20 * (16 : Int32)) + uFill_j20).toNatClampNeg x4_j20)))), (a_rl, .inl (cJ, N, .inr (.inl (vp_updL uLos_j20 ((uOpen_j20 * (16 : Int32)) + uFill_j20).toNatClampNeg x6_j20)))), (a_st, .inl (cI, n, .inl uSts_j20)), (a_pl, .inl (cI, 16, .inl uPlcs_j20))] H := hP
    have hD : va_D A [(a_u, .inr (0, [.ref a_d, .ref a_p, .ref a_r, .ref a_c, .ref a_st, .ref a_pl, .int uOpen_j20, .int uFill_j20, .int uSaved_j20, .int (uSerial_j20 + (1 : Int32)), .int uDown])), (a_d, .inr (1, [.int uArmed_j20, .int uWritten_j20])), (a_r, .inr (3, [.ref a_rs, .ref a_rb, .ref a_ru, .ref a_rz, .ref a_rh, .ref a_rl])), (a_rs, .inl (cI, N, .inl (upd uSers_j20 ((uOpen_j20 * (16 : Int32)) + uFill_j20).toNatClampNeg (uSerial_j20 + (1 : Int32))))), (a_rb, .inl (cI, N, .inl (upd uBlks_j20 ((uOpen_j20 * (16 : Int32)) + uFill_j20).toNatClampNeg x1_j20))), (a_ru, .inl (cI, N, .inl (upd uUnts_j20 ((uOpen_j20 * (16 : Int32)) + uFill_j20).toNatClampNeg x2_j20))), (a_rz, .inl (cZ, N, .inl (upd uStos_j20 ((uOpen_j20 * (16 : Int32)) + uFill_j20).toNatClampNeg (vp_nar .boolean x3_j20)))), (a_rh, .inl (cJ, N, .inr (.inl (vp_updL uHis_j20 ((uOpen_j20 * (16 : Int32)) + uFill_j20).toNatClampNeg x4_j20)))), (a_rl, .inl (cJ, N, .inr (.inl (vp_updL uLos_j20 ((uOpen_j20 * (16 : Int32)) + uFill_j20).toNatClampNeg x6_j20)))), (a_st, .inl (cI, n, .inl uSts_j20)), (a_pl, .inl (cI, 16, .inl uPlcs_j20))] := hD
    refine lv_aload_n hx hb d_U_append_115 rfl (lv_at hl 1 rfl) ?_
    refine va_get (D := (dC, dI)) (ci := 0) (v := .ref a_pl) (C := R_U) (T := F_U) (N := 11) hx hb htT i_U hown hK hP 0 rfl rfl 5 (by decide) (htT _ kf_U_52) (fun _ h9 => h9) rfl d_U_append_116 ?_
    refine lv_iload_n hx hb d_U_append_119 rfl (lv_at hl 2 rfl) ?_
    refine lv_iload_n hx hb d_U_append_120 rfl (lv_at hl 4 rfl) ?_
    refine lv_if_eq (tgt := 129) hx hb d_U_append_121 (by decide) (fun hc => ?_) (fun hc => ?_)
    · have h := ck_t hc h
      refine lv_iconst (v := (-1 : Int32)) hx hb d_U_append_129 (by decide) ?_
      obtain ⟨hin, h⟩ := ck_in h
      refine va_iast hx hb hK hP hD hS 10 0 rfl rfl hin d_U_append_130 (fun H locs hP hD hS => ?_)
      have hP : va_P (dC, dI) classes [(a_u, .inr (0, [.ref a_d, .ref a_p, .ref a_r, .ref a_c, .ref a_st, .ref a_pl, .int uOpen_j20, .int uFill_j20, .int uSaved_j20, .int (uSerial_j20 + (1 : Int32)), .int uDown])), (a_d, .inr (1, [.int uArmed_j20, .int uWritten_j20])), (a_r, .inr (3, [.ref a_rs, .ref a_rb, .ref a_ru, .ref a_rz, .ref a_rh, .ref a_rl])), (a_rs, .inl (cI, N, .inl (upd uSers_j20 ((uOpen_j20 * (16 : Int32)) + uFill_j20).toNatClampNeg (uSerial_j20 + (1 : Int32))))), (a_rb, .inl (cI, N, .inl (upd uBlks_j20 ((uOpen_j20 * (16 : Int32)) + uFill_j20).toNatClampNeg x1_j20))), (a_ru, .inl (cI, N, .inl (upd uUnts_j20 ((uOpen_j20 * (16 : Int32)) + uFill_j20).toNatClampNeg x2_j20))), (a_rz, .inl (cZ, N, .inl (upd uStos_j20 ((uOpen_j20 * (16 : Int32)) + uFill_j20).toNatClampNeg (vp_nar .boolean x3_j20)))), (a_rh, .inl (cJ, N, .inr (.inl (vp_updL uHis_j20 ((uOpen_j20 * (16 : Int32)) + uFill_j20).toNatClampNeg x4_j20)))), (a_rl, .inl (cJ, N, .inr (.inl (vp_updL uLos_j20 ((uOpen_j20 * (16 : Int32)) + uFill_j20).toNatClampNeg x6_j20)))), (a_st, .inl (cI, n, .inl uSts_j20)), (a_pl, .inl (cI, 16, .inl (upd uPlcs_j20 x1_j20.toNatClampNeg (-1 : Int32))))] H := hP
      have hD : va_D A [(a_u, .inr (0, [.ref a_d, .ref a_p, .ref a_r, .ref a_c, .ref a_st, .ref a_pl, .int uOpen_j20, .int uFill_j20, .int uSaved_j20, .int (uSerial_j20 + (1 : Int32)), .int uDown])), (a_d, .inr (1, [.int uArmed_j20, .int uWritten_j20])), (a_r, .inr (3, [.ref a_rs, .ref a_rb, .ref a_ru, .ref a_rz, .ref a_rh, .ref a_rl])), (a_rs, .inl (cI, N, .inl (upd uSers_j20 ((uOpen_j20 * (16 : Int32)) + uFill_j20).toNatClampNeg (uSerial_j20 + (1 : Int32))))), (a_rb, .inl (cI, N, .inl (upd uBlks_j20 ((uOpen_j20 * (16 : Int32)) + uFill_j20).toNatClampNeg x1_j20))), (a_ru, .inl (cI, N, .inl (upd uUnts_j20 ((uOpen_j20 * (16 : Int32)) + uFill_j20).toNatClampNeg x2_j20))), (a_rz, .inl (cZ, N, .inl (upd uStos_j20 ((uOpen_j20 * (16 : Int32)) + uFill_j20).toNatClampNeg (vp_nar .boolean x3_j20)))), (a_rh, .inl (cJ, N, .inr (.inl (vp_updL uHis_j20 ((uOpen_j20 * (16 : Int32)) + uFill_j20).toNatClampNeg x4_j20)))), (a_rl, .inl (cJ, N, .inr (.inl (vp_updL uLos_j20 ((uOpen_j20 * (16 : Int32)) + uFill_j20).toNatClampNeg x6_j20)))), (a_st, .inl (cI, n, .inl uSts_j20)), (a_pl, .inl (cI, 16, .inl (upd uPlcs_j20 x1_j20.toNatClampNeg (-1 : Int32))))] := hD
      refine lv_aload_n hx hb d_U_append_131 rfl (lv_at hl 1 rfl) ?_
      refine lv_dup hx hb d_U_append_132 rfl ?_
      refine va_get (D := (dC, dI)) (ci := 0) (v := .int uFill_j20) (C := R_U) (T := F_U) (N := 11) hx hb htT i_U hown hK hP 0 rfl rfl 7 (by decide) (htT _ kf_U_101) (fun _ h9 => h9) rfl d_U_append_133 ?_
      refine lv_iload_n hx hb d_U_append_136 rfl (lv_at hl 3 rfl) ?_
      refine lv_iadd hx hb d_U_append_137 ?_
      refine va_put (D := (dC, dI)) (ci := 0) (v := .int (uFill_j20 + x2_j20)) (ty := .int) (C := R_U) (T := F_U) (N := 11) hx hb htT i_U t_U t_U_ok n_U hown hK hP hD hS 0 rfl rfl 7 (by decide) (htT _ kf_U_101) (fun _ h9 => h9) rfl (by decide +kernel) rfl rfl (Nat.le_of_ble_eq_true rfl) d_U_append_138 (fun H locs hP hD hS => ?_)
      have hP : va_P (dC, dI) classes [(a_u, .inr (0, [.ref a_d, .ref a_p, .ref a_r, .ref a_c, .ref a_st, .ref a_pl, .int uOpen_j20, .int (uFill_j20 + x2_j20), .int uSaved_j20, .int (uSerial_j20 + (1 : Int32)), .int uDown])), (a_d, .inr (1, [.int uArmed_j20, .int uWritten_j20])), (a_r, .inr (3, [.ref a_rs, .ref a_rb, .ref a_ru, .ref a_rz, .ref a_rh, .ref a_rl])), (a_rs, .inl (cI, N, .inl (upd uSers_j20 ((uOpen_j20 * (16 : Int32)) + uFill_j20).toNatClampNeg (uSerial_j20 + (1 : Int32))))), (a_rb, .inl (cI, N, .inl (upd uBlks_j20 ((uOpen_j20 * (16 : Int32)) + uFill_j20).toNatClampNeg x1_j20))), (a_ru, .inl (cI, N, .inl (upd uUnts_j20 ((uOpen_j20 * (16 : Int32)) + uFill_j20).toNatClampNeg x2_j20))), (a_rz, .inl (cZ, N, .inl (upd uStos_j20 ((uOpen_j20 * (16 : Int32)) + uFill_j20).toNatClampNeg (vp_nar .boolean x3_j20)))), (a_rh, .inl (cJ, N, .inr (.inl (vp_updL uHis_j20 ((uOpen_j20 * (16 : Int32)) + uFill_j20).toNatClampNeg x4_j20)))), (a_rl, .inl (cJ, N, .inr (.inl (vp_updL uLos_j20 ((uOpen_j20 * (16 : Int32)) + uFill_j20).toNatClampNeg x6_j20)))), (a_st, .inl (cI, n, .inl uSts_j20)), (a_pl, .inl (cI, 16, .inl (upd uPlcs_j20 x1_j20.toNatClampNeg (-1 : Int32))))] H := hP
      have hD : va_D A [(a_u, .inr (0, [.ref a_d, .ref a_p, .ref a_r, .ref a_c, .ref a_st, .ref a_pl, .int uOpen_j20, .int (uFill_j20 + x2_j20), .int uSaved_j20, .int (uSerial_j20 + (1 : Int32)), .int uDown])), (a_d, .inr (1, [.int uArmed_j20, .int uWritten_j20])), (a_r, .inr (3, [.ref a_rs, .ref a_rb, .ref a_ru, .ref a_rz, .ref a_rh, .ref a_rl])), (a_rs, .inl (cI, N, .inl (upd uSers_j20 ((uOpen_j20 * (16 : Int32)) + uFill_j20).toNatClampNeg (uSerial_j20 + (1 : Int32))))), (a_rb, .inl (cI, N, .inl (upd uBlks_j20 ((uOpen_j20 * (16 : Int32)) + uFill_j20).toNatClampNeg x1_j20))), (a_ru, .inl (cI, N, .inl (upd uUnts_j20 ((uOpen_j20 * (16 : Int32)) + uFill_j20).toNatClampNeg x2_j20))), (a_rz, .inl (cZ, N, .inl (upd uStos_j20 ((uOpen_j20 * (16 : Int32)) + uFill_j20).toNatClampNeg (vp_nar .boolean x3_j20)))), (a_rh, .inl (cJ, N, .inr (.inl (vp_updL uHis_j20 ((uOpen_j20 * (16 : Int32)) + uFill_j20).toNatClampNeg x4_j20)))), (a_rl, .inl (cJ, N, .inr (.inl (vp_updL uLos_j20 ((uOpen_j20 * (16 : Int32)) + uFill_j20).toNatClampNeg x6_j20)))), (a_st, .inl (cI, n, .inl uSts_j20)), (a_pl, .inl (cI, 16, .inl (upd uPlcs_j20 x1_j20.toNatClampNeg (-1 : Int32))))] := hD
      refine lv_iconst (v := (1 : Int32)) hx hb d_U_append_141 (by decide) ?_
      exact W.zret (v := (1 : Int32)) hx hb hr rfl (fun t ht hW => ⟨⟨(1 : Int32), (uOpen_j20, (uFill_j20 + x2_j20), uSaved_j20, (uSerial_j20 + (1 : Int32)), uArmed_j20, uWritten_j20, (upd uSers_j20 ((uOpen_j20 * (16 : Int32)) + uFill_j20).toNatClampNeg (uSerial_j20 + (1 : Int32))), (upd uBlks_j20 ((uOpen_j20 * (16 : Int32)) + uFill_j20).toNatClampNeg x1_j20), (upd uUnts_j20 ((uOpen_j20 * (16 : Int32)) + uFill_j20).toNatClampNeg x2_j20), (upd uStos_j20 ((uOpen_j20 * (16 : Int32)) + uFill_j20).toNatClampNeg (vp_nar .boolean x3_j20)), (vp_updL uHis_j20 ((uOpen_j20 * (16 : Int32)) + uFill_j20).toNatClampNeg x4_j20), (vp_updL uLos_j20 ((uOpen_j20 * (16 : Int32)) + uFill_j20).toNatClampNeg x6_j20), uSts_j20, (upd uPlcs_j20 x1_j20.toNatClampNeg (-1 : Int32))), rfl, (Option.some.inj h).symm, by rw [ht]; exact hP, va_K.moved hW.alike hK, hD⟩, hS.F ht⟩) hS.2.2 d_U_append_142
    · have h := ck_f hc h
      refine lv_iload hx hb d_U_append_124 (lv_at hl 0 rfl) ?_
      refine lv_goto (tgt := 130) hx hb d_U_append_126 (by decide) ?_
      obtain ⟨hin, h⟩ := ck_in h
      refine va_iast hx hb hK hP hD hS 10 0 rfl rfl hin d_U_append_130 (fun H locs hP hD hS => ?_)
      have hP : va_P (dC, dI) classes [(a_u, .inr (0, [.ref a_d, .ref a_p, .ref a_r, .ref a_c, .ref a_st, .ref a_pl, .int uOpen_j20, .int uFill_j20, .int uSaved_j20, .int (uSerial_j20 + (1 : Int32)), .int uDown])), (a_d, .inr (1, [.int uArmed_j20, .int uWritten_j20])), (a_r, .inr (3, [.ref a_rs, .ref a_rb, .ref a_ru, .ref a_rz, .ref a_rh, .ref a_rl])), (a_rs, .inl (cI, N, .inl (upd uSers_j20 ((uOpen_j20 * (16 : Int32)) + uFill_j20).toNatClampNeg (uSerial_j20 + (1 : Int32))))), (a_rb, .inl (cI, N, .inl (upd uBlks_j20 ((uOpen_j20 * (16 : Int32)) + uFill_j20).toNatClampNeg x1_j20))), (a_ru, .inl (cI, N, .inl (upd uUnts_j20 ((uOpen_j20 * (16 : Int32)) + uFill_j20).toNatClampNeg x2_j20))), (a_rz, .inl (cZ, N, .inl (upd uStos_j20 ((uOpen_j20 * (16 : Int32)) + uFill_j20).toNatClampNeg (vp_nar .boolean x3_j20)))), (a_rh, .inl (cJ, N, .inr (.inl (vp_updL uHis_j20 ((uOpen_j20 * (16 : Int32)) + uFill_j20).toNatClampNeg x4_j20)))), (a_rl, .inl (cJ, N, .inr (.inl (vp_updL uLos_j20 ((uOpen_j20 * (16 : Int32)) + uFill_j20).toNatClampNeg x6_j20)))), (a_st, .inl (cI, n, .inl uSts_j20)), (a_pl, .inl (cI, 16, .inl (upd uPlcs_j20 x1_j20.toNatClampNeg ((uOpen_j20 * (16 : Int32)) + uFill_j20))))] H := hP
      have hD : va_D A [(a_u, .inr (0, [.ref a_d, .ref a_p, .ref a_r, .ref a_c, .ref a_st, .ref a_pl, .int uOpen_j20, .int uFill_j20, .int uSaved_j20, .int (uSerial_j20 + (1 : Int32)), .int uDown])), (a_d, .inr (1, [.int uArmed_j20, .int uWritten_j20])), (a_r, .inr (3, [.ref a_rs, .ref a_rb, .ref a_ru, .ref a_rz, .ref a_rh, .ref a_rl])), (a_rs, .inl (cI, N, .inl (upd uSers_j20 ((uOpen_j20 * (16 : Int32)) + uFill_j20).toNatClampNeg (uSerial_j20 + (1 : Int32))))), (a_rb, .inl (cI, N, .inl (upd uBlks_j20 ((uOpen_j20 * (16 : Int32)) + uFill_j20).toNatClampNeg x1_j20))), (a_ru, .inl (cI, N, .inl (upd uUnts_j20 ((uOpen_j20 * (16 : Int32)) + uFill_j20).toNatClampNeg x2_j20))), (a_rz, .inl (cZ, N, .inl (upd uStos_j20 ((uOpen_j20 * (16 : Int32)) + uFill_j20).toNatClampNeg (vp_nar .boolean x3_j20)))), (a_rh, .inl (cJ, N, .inr (.inl (vp_updL uHis_j20 ((uOpen_j20 * (16 : Int32)) + uFill_j20).toNatClampNeg x4_j20)))), (a_rl, .inl (cJ, N, .inr (.inl (vp_updL uLos_j20 ((uOpen_j20 * (16 : Int32)) + uFill_j20).toNatClampNeg x6_j20)))), (a_st, .inl (cI, n, .inl uSts_j20)), (a_pl, .inl (cI, 16, .inl (upd uPlcs_j20 x1_j20.toNatClampNeg ((uOpen_j20 * (16 : Int32)) + uFill_j20))))] := hD
      refine lv_aload_n hx hb d_U_append_131 rfl (lv_at hl 1 rfl) ?_
      refine lv_dup hx hb d_U_append_132 rfl ?_
      refine va_get (D := (dC, dI)) (ci := 0) (v := .int uFill_j20) (C := R_U) (T := F_U) (N := 11) hx hb htT i_U hown hK hP 0 rfl rfl 7 (by decide) (htT _ kf_U_101) (fun _ h9 => h9) rfl d_U_append_133 ?_
      refine lv_iload_n hx hb d_U_append_136 rfl (lv_at hl 3 rfl) ?_
      refine lv_iadd hx hb d_U_append_137 ?_
      refine va_put (D := (dC, dI)) (ci := 0) (v := .int (uFill_j20 + x2_j20)) (ty := .int) (C := R_U) (T := F_U) (N := 11) hx hb htT i_U t_U t_U_ok n_U hown hK hP hD hS 0 rfl rfl 7 (by decide) (htT _ kf_U_101) (fun _ h9 => h9) rfl (by decide +kernel) rfl rfl (Nat.le_of_ble_eq_true rfl) d_U_append_138 (fun H locs hP hD hS => ?_)
      have hP : va_P (dC, dI) classes [(a_u, .inr (0, [.ref a_d, .ref a_p, .ref a_r, .ref a_c, .ref a_st, .ref a_pl, .int uOpen_j20, .int (uFill_j20 + x2_j20), .int uSaved_j20, .int (uSerial_j20 + (1 : Int32)), .int uDown])), (a_d, .inr (1, [.int uArmed_j20, .int uWritten_j20])), (a_r, .inr (3, [.ref a_rs, .ref a_rb, .ref a_ru, .ref a_rz, .ref a_rh, .ref a_rl])), (a_rs, .inl (cI, N, .inl (upd uSers_j20 ((uOpen_j20 * (16 : Int32)) + uFill_j20).toNatClampNeg (uSerial_j20 + (1 : Int32))))), (a_rb, .inl (cI, N, .inl (upd uBlks_j20 ((uOpen_j20 * (16 : Int32)) + uFill_j20).toNatClampNeg x1_j20))), (a_ru, .inl (cI, N, .inl (upd uUnts_j20 ((uOpen_j20 * (16 : Int32)) + uFill_j20).toNatClampNeg x2_j20))), (a_rz, .inl (cZ, N, .inl (upd uStos_j20 ((uOpen_j20 * (16 : Int32)) + uFill_j20).toNatClampNeg (vp_nar .boolean x3_j20)))), (a_rh, .inl (cJ, N, .inr (.inl (vp_updL uHis_j20 ((uOpen_j20 * (16 : Int32)) + uFill_j20).toNatClampNeg x4_j20)))), (a_rl, .inl (cJ, N, .inr (.inl (vp_updL uLos_j20 ((uOpen_j20 * (16 : Int32)) + uFill_j20).toNatClampNeg x6_j20)))), (a_st, .inl (cI, n, .inl uSts_j20)), (a_pl, .inl (cI, 16, .inl (upd uPlcs_j20 x1_j20.toNatClampNeg ((uOpen_j20 * (16 : Int32)) + uFill_j20))))] H := hP
      have hD : va_D A [(a_u, .inr (0, [.ref a_d, .ref a_p, .ref a_r, .ref a_c, .ref a_st, .ref a_pl, .int uOpen_j20, .int (uFill_j20 + x2_j20), .int uSaved_j20, .int (uSerial_j20 + (1 : Int32)), .int uDown])), (a_d, .inr (1, [.int uArmed_j20, .int uWritten_j20])), (a_r, .inr (3, [.ref a_rs, .ref a_rb, .ref a_ru, .ref a_rz, .ref a_rh, .ref a_rl])), (a_rs, .inl (cI, N, .inl (upd uSers_j20 ((uOpen_j20 * (16 : Int32)) + uFill_j20).toNatClampNeg (uSerial_j20 + (1 : Int32))))), (a_rb, .inl (cI, N, .inl (upd uBlks_j20 ((uOpen_j20 * (16 : Int32)) + uFill_j20).toNatClampNeg x1_j20))), (a_ru, .inl (cI, N, .inl (upd uUnts_j20 ((uOpen_j20 * (16 : Int32)) + uFill_j20).toNatClampNeg x2_j20))), (a_rz, .inl (cZ, N, .inl (upd uStos_j20 ((uOpen_j20 * (16 : Int32)) + uFill_j20).toNatClampNeg (vp_nar .boolean x3_j20)))), (a_rh, .inl (cJ, N, .inr (.inl (vp_updL uHis_j20 ((uOpen_j20 * (16 : Int32)) + uFill_j20).toNatClampNeg x4_j20)))), (a_rl, .inl (cJ, N, .inr (.inl (vp_updL uLos_j20 ((uOpen_j20 * (16 : Int32)) + uFill_j20).toNatClampNeg x6_j20)))), (a_st, .inl (cI, n, .inl uSts_j20)), (a_pl, .inl (cI, 16, .inl (upd uPlcs_j20 x1_j20.toNatClampNeg ((uOpen_j20 * (16 : Int32)) + uFill_j20))))] := hD
      refine lv_iconst (v := (1 : Int32)) hx hb d_U_append_141 (by decide) ?_
      exact W.zret (v := (1 : Int32)) hx hb hr rfl (fun t ht hW => ⟨⟨(1 : Int32), (uOpen_j20, (uFill_j20 + x2_j20), uSaved_j20, (uSerial_j20 + (1 : Int32)), uArmed_j20, uWritten_j20, (upd uSers_j20 ((uOpen_j20 * (16 : Int32)) + uFill_j20).toNatClampNeg (uSerial_j20 + (1 : Int32))), (upd uBlks_j20 ((uOpen_j20 * (16 : Int32)) + uFill_j20).toNatClampNeg x1_j20), (upd uUnts_j20 ((uOpen_j20 * (16 : Int32)) + uFill_j20).toNatClampNeg x2_j20), (upd uStos_j20 ((uOpen_j20 * (16 : Int32)) + uFill_j20).toNatClampNeg (vp_nar .boolean x3_j20)), (vp_updL uHis_j20 ((uOpen_j20 * (16 : Int32)) + uFill_j20).toNatClampNeg x4_j20), (vp_updL uLos_j20 ((uOpen_j20 * (16 : Int32)) + uFill_j20).toNatClampNeg x6_j20), uSts_j20, (upd uPlcs_j20 x1_j20.toNatClampNeg ((uOpen_j20 * (16 : Int32)) + uFill_j20))), rfl, (Option.some.inj h).symm, by rw [ht]; exact hP, va_K.moved hW.alike hK, hD⟩, hS.F ht⟩) hS.2.2 d_U_append_142
  have h := hM
  rw [U_append] at h
  refine lv_iload_n hx hb d_U_append_0 rfl (lv_at hl 2 rfl) ?_
  refine lv_bipush (v := (16 : Int32)) hx hb d_U_append_1 (by decide) ?_
  refine lv_aload_n hx hb d_U_append_3 rfl (lv_at hl 0 rfl) ?_
  refine va_get (D := (dC, dI)) (ci := 0) (v := .int uFill) (C := R_U) (T := F_U) (N := 11) hx hb htT i_U hown hK hP 0 rfl rfl 7 (by decide) (htT _ kf_U_101) (fun _ h9 => h9) rfl d_U_append_4 ?_
  refine lv_isub hx hb d_U_append_7 ?_
  refine lv_icmp_le (tgt := 20) hx hb d_U_append_8 (by decide) (fun hc => ?_) (fun hc => ?_)
  · have h := ck_t hc h
    have hl : lv_has ls 9 [(0, .ref a_u), (1, .int x1), (2, .int x2), (3, .int x3), (4, .long x4), (6, .long x6)] := lv_sub hl [0, 1, 2, 3, 4, 5] rfl
    exact J20 _ _ _ _ _ _ _ _ _ _ _ _ _ _ _ _ _ _ _ _ _ _ hl hP hD hS h
  · have h := ck_f hc h
    refine lv_aload_n hx hb d_U_append_11 rfl (lv_at hl 0 rfl) ?_
    obtain ⟨z1, hz, h⟩ := ck_bind h
    have hPc := hP.sub (ws' := [(a_u, .inr (0, [.ref a_d, .ref a_p, .ref a_r, .ref a_c, .ref a_st, .ref a_pl, .int uOpen, .int uFill, .int uSaved, .int uSerial, .int uDown])), (a_d, .inr (1, [.int uArmed, .int uWritten])), (a_st, .inl (cI, n, .inl uSts))]) [0, 1, 9] rfl
    have hDc := hD.sub (ws' := [(a_u, .inr (0, [.ref a_d, .ref a_p, .ref a_r, .ref a_c, .ref a_st, .ref a_pl, .int uOpen, .int uFill, .int uSaved, .int uSerial, .int uDown])), (a_d, .inr (1, [.int uArmed, .int uWritten])), (a_st, .inl (cI, n, .inl uSts))]) [0, 1, 9] (by decide) rfl
    have hFc := va_free (wc := [(a_u, .inr (0, [.ref a_d, .ref a_p, .ref a_r, .ref a_c, .ref a_st, .ref a_pl, .int uOpen, .int uFill, .int uSaved, .int uSerial, .int uDown])), (a_d, .inr (1, [.int uArmed, .int uWritten])), (a_st, .inl (cI, n, .inl uSts))]) hD hS hA [0, 1, 9] rfl
    refine va_calli (va_runV (As := []) (rest := []) ⟨hx, hb, hml, hown, htT⟩ (c_U_openNext l dC dI cI cZ cJ a_u a_d a_p a_pb a_pf a_r a_rs a_rb a_ru a_rz a_rh a_rl a_c a_cp a_st a_pl s.heap.size n N uOpen uFill uSaved uSerial uDown uArmed uWritten uSts  z1 hz) (cwV 0 htT (gV kl_U_153 ki_U_openNext ke_U_openNext kn_U kc_U_openNext) rfl rfl rfl (by decide +kernel) ⟨Nat.le_of_ble_eq_true rfl, Nat.le_of_ble_eq_true rfl⟩) ⟨fun a U g mk q => by obtain ⟨q0, q1, qP, qK, qD, qN⟩ := q; exact ⟨q0, q1, qP, va_K.moved (u := U) (U := U.calling g mk a) (Vm.Alike.refl U.vm) qK, qD, Ns.same (u := U) rfl qN⟩, va_recv (q0 := 0) (q := (R_U, F_U, 11)) hK hP (ci := 0) rfl rfl, fun U hU hW => ⟨rfl, by rw [hU], by rw [hU]; exact hPc, va_K.moved hW.alike hK, hDc.weaken (fun _ _ _ _ => trivial), Ns.warm hW hN⟩⟩ rfl rfl hl.1 rfl (lv_room (Nat.le_of_ble_eq_true rfl)) d_U_append_12 ⟨(Nat.zero_le _), (Nat.zero_le _)⟩) hS (fun q _ h => hFc q h) hFc (fun r u t H locs ht hvm hw hB hz1 hk1 hS => ?_)
    have e1 := congrArg Prod.fst hw
    have e2 := congrArg Prod.snd hw
    dsimp only at e1 e2
    subst e1
    subst e2
    obtain ⟨hP1, hK1, hD1⟩ := hB
    rw [ht] at hP1
    obtain ⟨hP, hD⟩ := va_join (wr := [(a_r, .inr (3, [.ref a_rs, .ref a_rb, .ref a_ru, .ref a_rz, .ref a_rh, .ref a_rl])), (a_rs, .inl (cI, N, .inl uSers)), (a_rb, .inl (cI, N, .inl uBlks)), (a_ru, .inl (cI, N, .inl uUnts)), (a_rz, .inl (cZ, N, .inl uStos)), (a_rh, .inl (cJ, N, .inr (.inl uHis))), (a_rl, .inl (cJ, N, .inr (.inl uLos))), (a_pl, .inl (cI, 16, .inl uPlcs))]) (w1 := [(a_u, .inr (0, [.ref a_d, .ref a_p, .ref a_r, .ref a_c, .ref a_st, .ref a_pl, .int z1.2.1, .int z1.2.2.1, .int z1.2.2.2.1, .int uSerial, .int uDown])), (a_d, .inr (1, [.int z1.2.2.2.2.1, .int z1.2.2.2.2.2.1])), (a_st, .inl (cI, n, .inl z1.2.2.2.2.2.2))]) hP hD [0, 1, 9] [2, 3, 4, 5, 6, 7, 8, 10] rfl rfl (by decide) (by decide) hk1 hFc hP1 hD1
    have hP := hP.sub (ws' := [(a_u, .inr (0, [.ref a_d, .ref a_p, .ref a_r, .ref a_c, .ref a_st, .ref a_pl, .int z1.2.1, .int z1.2.2.1, .int z1.2.2.2.1, .int uSerial, .int uDown])), (a_d, .inr (1, [.int z1.2.2.2.2.1, .int z1.2.2.2.2.2.1])), (a_r, .inr (3, [.ref a_rs, .ref a_rb, .ref a_ru, .ref a_rz, .ref a_rh, .ref a_rl])), (a_rs, .inl (cI, N, .inl uSers)), (a_rb, .inl (cI, N, .inl uBlks)), (a_ru, .inl (cI, N, .inl uUnts)), (a_rz, .inl (cZ, N, .inl uStos)), (a_rh, .inl (cJ, N, .inr (.inl uHis))), (a_rl, .inl (cJ, N, .inr (.inl uLos))), (a_st, .inl (cI, n, .inl z1.2.2.2.2.2.2)), (a_pl, .inl (cI, 16, .inl uPlcs))]) [8, 9, 0, 1, 2, 3, 4, 5, 6, 10, 7] rfl
    have hD := hD.sub (ws' := [(a_u, .inr (0, [.ref a_d, .ref a_p, .ref a_r, .ref a_c, .ref a_st, .ref a_pl, .int z1.2.1, .int z1.2.2.1, .int z1.2.2.2.1, .int uSerial, .int uDown])), (a_d, .inr (1, [.int z1.2.2.2.2.1, .int z1.2.2.2.2.2.1])), (a_r, .inr (3, [.ref a_rs, .ref a_rb, .ref a_ru, .ref a_rz, .ref a_rh, .ref a_rl])), (a_rs, .inl (cI, N, .inl uSers)), (a_rb, .inl (cI, N, .inl uBlks)), (a_ru, .inl (cI, N, .inl uUnts)), (a_rz, .inl (cZ, N, .inl uStos)), (a_rh, .inl (cJ, N, .inr (.inl uHis))), (a_rl, .inl (cJ, N, .inr (.inl uLos))), (a_st, .inl (cI, n, .inl z1.2.2.2.2.2.2)), (a_pl, .inl (cI, 16, .inl uPlcs))]) [8, 9, 0, 1, 2, 3, 4, 5, 6, 10, 7] (by decide) rfl
    have hP : va_P (dC, dI) classes [(a_u, .inr (0, [.ref a_d, .ref a_p, .ref a_r, .ref a_c, .ref a_st, .ref a_pl, .int z1.2.1, .int z1.2.2.1, .int z1.2.2.2.1, .int uSerial, .int uDown])), (a_d, .inr (1, [.int z1.2.2.2.2.1, .int z1.2.2.2.2.2.1])), (a_r, .inr (3, [.ref a_rs, .ref a_rb, .ref a_ru, .ref a_rz, .ref a_rh, .ref a_rl])), (a_rs, .inl (cI, N, .inl uSers)), (a_rb, .inl (cI, N, .inl uBlks)), (a_ru, .inl (cI, N, .inl uUnts)), (a_rz, .inl (cZ, N, .inl uStos)), (a_rh, .inl (cJ, N, .inr (.inl uHis))), (a_rl, .inl (cJ, N, .inr (.inl uLos))), (a_st, .inl (cI, n, .inl z1.2.2.2.2.2.2)), (a_pl, .inl (cI, 16, .inl uPlcs))] H := hP
    have hD : va_D A [(a_u, .inr (0, [.ref a_d, .ref a_p, .ref a_r, .ref a_c, .ref a_st, .ref a_pl, .int z1.2.1, .int z1.2.2.1, .int z1.2.2.2.1, .int uSerial, .int uDown])), (a_d, .inr (1, [.int z1.2.2.2.2.1, .int z1.2.2.2.2.2.1])), (a_r, .inr (3, [.ref a_rs, .ref a_rb, .ref a_ru, .ref a_rz, .ref a_rh, .ref a_rl])), (a_rs, .inl (cI, N, .inl uSers)), (a_rb, .inl (cI, N, .inl uBlks)), (a_ru, .inl (cI, N, .inl uUnts)), (a_rz, .inl (cZ, N, .inl uStos)), (a_rh, .inl (cJ, N, .inr (.inl uHis))), (a_rl, .inl (cJ, N, .inr (.inl uLos))), (a_st, .inl (cI, n, .inl z1.2.2.2.2.2.2)), (a_pl, .inl (cI, 16, .inl uPlcs))] := hD
    refine lv_if_ne (tgt := 20) hx hb d_U_append_15 (by decide) (fun hc => ?_) (fun hc => ?_)
    · have h := ck_f hc h
      have hl : lv_has ls 9 [(0, .ref a_u), (1, .int x1), (2, .int x2), (3, .int x3), (4, .long x4), (6, .long x6)] := lv_sub hl [0, 1, 2, 3, 4, 5] rfl
      exact J20 _ _ _ _ _ _ _ _ _ _ _ _ _ _ _ _ _ _ _ _ _ _ hl hP hD hS h
    · have h := ck_t hc h
      refine lv_iconst (v := (0 : Int32)) hx hb d_U_append_18 (by decide) ?_
      exact W.zret (v := (0 : Int32)) hx hb hr rfl (fun t ht hW => ⟨⟨(0 : Int32), (z1.2.1, z1.2.2.1, z1.2.2.2.1, uSerial, z1.2.2.2.2.1, z1.2.2.2.2.2.1, uSers, uBlks, uUnts, uStos, uHis, uLos, z1.2.2.2.2.2.2, uPlcs), rfl, (Option.some.inj h).symm, by rw [ht]; exact hP, va_K.moved hW.alike hK, hD⟩, hS.F ht⟩) hS.2.2 d_U_append_19
