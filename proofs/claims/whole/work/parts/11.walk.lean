set_option maxHeartbeats 4000000 in
set_option maxRecDepth 100000 in
theorem c_R_find (l : Launch) (dC : Nat → ClassId) (dI : Nat → Nat → Nat) (cI cZ cJ : ClassId) (a_u a_d a_p a_pb a_pf a_r a_rs a_rb a_ru a_rz a_rh a_rl a_c a_cp a_st a_pl : Nat) (sz n N : Nat) (uSers : Nat → Int32) (x1 : Int32) (res : Int32) (hM : R_find N uSers x1 = some res) : Met l y_R_find w_R_find ({ frames := 0, cells := 0, slots := 0, locals := 0 }) (va_Pc [.ref a_r, .int x1] (fun U => U.heap.size = sz ∧ va_P (dC, dI) classes [(a_r, .inr (3, [.ref a_rs, .ref a_rb, .ref a_ru, .ref a_rz, .ref a_rh, .ref a_rl])), (a_rs, .inl (cI, N, .inl uSers))] U.heap ∧ va_K (dC, dI) classes [(cI, .int), (cZ, .boolean), (cJ, .long)] U ∧ va_D (fun _ => True) [(a_r, .inr (3, [.ref a_rs, .ref a_rb, .ref a_ru, .ref a_rz, .ref a_rh, .ref a_rl])), (a_rs, .inl (cI, N, .inl uSers))] ∧ Ns U)) (va_Qi (fun (r : Int32) (z : Unit) => res = r) (fun (z : Unit) (t : State) => va_P (dC, dI) classes [(a_r, .inr (3, [.ref a_rs, .ref a_rb, .ref a_ru, .ref a_rz, .ref a_rh, .ref a_rl])), (a_rs, .inl (cI, N, .inl uSers))] t.heap ∧ va_K (dC, dI) classes [(cI, .int), (cZ, .boolean), (cJ, .long)] t ∧ va_D (va_A [(a_r, .inr (3, [.ref a_rs, .ref a_rb, .ref a_ru, .ref a_rz, .ref a_rh, .ref a_rl])), (a_rs, .inl (cI, N, .inl uSers))] sz) [(a_r, .inr (3, [.ref a_rs, .ref a_rb, .ref a_ru, .ref a_rz, .ref a_rh, .ref a_rl])), (a_rs, .inl (cI, N, .inl uSers))]) (va_A [(a_r, .inr (3, [.ref a_rs, .ref a_rb, .ref a_ru, .ref a_rz, .ref a_rh, .ref a_rl])), (a_rs, .inl (cI, N, .inl uSers))] sz)) 0 0 (va_A [(a_r, .inr (3, [.ref a_rs, .ref a_rb, .ref a_ru, .ref a_rz, .ref a_rh, .ref a_rl])), (a_rs, .inl (cI, N, .inl uSers))] sz) := by
  refine Met.ofW (cc := b_R_find) (maxL := 3) (ret := (some .int)) (by decide) rfl ?_
  intro p e s m args below meth c s₁ B hml hv
  obtain ⟨rfl, hsz, hP, hK, hD0, hN⟩ := hv
  have hx := B.exec
  have hb := B.bytes
  have hr := B.returns
  have hts := atoms_spec (ws := w_R_find) B.pre
  have htT : ∀ w ∈ lwG, w.before _ s = true := fun w h => hts w (List.mem_cons_of_mem _ h)
  have hown : s.vm.findClass R_R = some m.cls := findClass_of_methodNamed B.named
  have hlocks := B.notSynchronized
  subst hsz
  have hD := hD0.self (sz := s.heap.size)
  generalize hAe : va_A [(a_r, .inr (3, [.ref a_rs, .ref a_rb, .ref a_ru, .ref a_rz, .ref a_rh, .ref a_rl])), (a_rs, .inl (cI, N, .inl uSers))] s.heap.size = A at hD ⊢
  have hA : ∀ q : Nat, s.heap.size ≤ q → A q := fun q h => by rw [← hAe]; exact Or.inr h
  have hS : va_S A s.heap s.heap [] := va_S.rf
  have hP : va_P (dC, dI) classes [(a_r, .inr (3, [.ref a_rs, .ref a_rb, .ref a_ru, .ref a_rz, .ref a_rh, .ref a_rl])), (a_rs, .inl (cI, N, .inl uSers))] s.heap := hP
  have hl := lv_entry ([.ref a_r, .int x1]) (n := 3) (Nat.le_of_ble_eq_true rfl)
  rw [lg_entry_eq]
  generalize (lg_sl ([.ref a_r, .int x1]) ++ List.replicate (3 - (lg_sl ([.ref a_r, .int x1])).length) Slot.unset).toArray = ls at hl ⊢
  have hl : lv_has ls 3 [(0, .ref a_r), (1, .int x1)] := hl
  have h := hM
  rw [R_find] at h
  refine lv_iconst (v := (0 : Int32)) hx hb d_R_find_0 (by decide) ?_
  refine lv_istore_n hx hb d_R_find_1 rfl hl (by decide) rfl (fun ls hl => ?_)
  have hl : lv_has ls 3 [(2, .int (0 : Int32)), (0, .ref a_r), (1, .int x1)] := hl
  have L2 : ∀ (K2 : Int32 → Option (Int32)) (fuel : Nat) (x2_w2 : Int32) (ls : Array Slot) (H : Heap) (locs : List Loc), lv_has ls 3 [(0, .ref a_r), (1, .int x1), (2, .int x2_w2)] → va_P (dC, dI) classes [(a_r, .inr (3, [.ref a_rs, .ref a_rb, .ref a_ru, .ref a_rz, .ref a_rh, .ref a_rl])), (a_rs, .inl (cI, N, .inl uSers))] H → va_D A [(a_r, .inr (3, [.ref a_rs, .ref a_rb, .ref a_ru, .ref a_rz, .ref a_rh, .ref a_rl])), (a_rs, .inl (cI, N, .inl uSers))] → va_S A s.heap H locs → R_find_L2 N uSers x1 K2 fuel x2_w2 = some res → (∀ (x2_w2 : Int32) (ls : Array Slot) (H : Heap) (locs : List Loc), lv_has ls 3 [(0, .ref a_r), (1, .int x1), (2, .int x2_w2)] → va_P (dC, dI) classes [(a_r, .inr (3, [.ref a_rs, .ref a_rb, .ref a_ru, .ref a_rz, .ref a_rh, .ref a_rl])), (a_rs, .inl (cI, N, .inl uSers))] H → va_D A [(a_r, .inr (3, [.ref a_rs, .ref a_rb, .ref a_ru, .ref a_rz, .ref a_rh, .ref a_rl])), (a_rs, .inl (cI, N, .inl uSers))] → va_S A s.heap H locs → K2 x2_w2 = some res → W p l e (headSpec w_R_find ({ frames := 0, cells := 0, slots := 0, locals := 0 })).room s m ([.ref a_r, .int x1] : List Value).toArray below meth c H locs 0 0 (MQ below (va_Qi (fun (r : Int32) (z : Unit) => res = r) (fun (z : Unit) (t : State) => va_P (dC, dI) classes [(a_r, .inr (3, [.ref a_rs, .ref a_rb, .ref a_ru, .ref a_rz, .ref a_rh, .ref a_rl])), (a_rs, .inl (cI, N, .inl uSers))] t.heap ∧ va_K (dC, dI) classes [(cI, .int), (cZ, .boolean), (cJ, .long)] t ∧ va_D A [(a_r, .inr (3, [.ref a_rs, .ref a_rb, .ref a_ru, .ref a_rz, .ref a_rh, .ref a_rl])), (a_rs, .inl (cI, N, .inl uSers))]) A) ([.ref a_r, .int x1] : List Value).toArray s 0 0 A) (F0 m 29 ls [])) → W p l e (headSpec w_R_find ({ frames := 0, cells := 0, slots := 0, locals := 0 })).room s m ([.ref a_r, .int x1] : List Value).toArray below meth c H locs 0 0 (MQ below (va_Qi (fun (r : Int32) (z : Unit) => res = r) (fun (z : Unit) (t : State) => va_P (dC, dI) classes [(a_r, .inr (3, [.ref a_rs, .ref a_rb, .ref a_ru, .ref a_rz, .ref a_rh, .ref a_rl])), (a_rs, .inl (cI, N, .inl uSers))] t.heap ∧ va_K (dC, dI) classes [(cI, .int), (cZ, .boolean), (cJ, .long)] t ∧ va_D A [(a_r, .inr (3, [.ref a_rs, .ref a_rb, .ref a_ru, .ref a_rz, .ref a_rh, .ref a_rl])), (a_rs, .inl (cI, N, .inl uSers))]) A) ([.ref a_r, .int x1] : List Value).toArray s 0 0 A) (F0 m 2 ls []) := by
    intro K2 fuel
    induction fuel with
    | zero => intro x2_w2 ls H locs hl hP hD hS h hk2; exact absurd (show (none : Option (Int32)) = some res from h) (by intro q; cases q)
    | succ fuel ih2 =>
      intro x2_w2 ls H locs hl hP hD hS h hk2
      rw [R_find_L2] at h
      refine lv_iload_n hx hb d_R_find_2 rfl (lv_at hl 2 rfl) ?_
      refine lv_aload_n hx hb d_R_find_3 rfl (lv_at hl 0 rfl) ?_
      refine va_get (D := (dC, dI)) (ci := 3) (v := .ref a_rs) (C := R_R) (T := F_R) (N := 6) hx hb htT i_R hown hK hP 0 rfl rfl 0 (by decide) (htT _ kf_R_9) (fun _ h9 => h9) rfl d_R_find_4 ?_
      refine va_alen (v := (nI N)) hx hb hK hP 1 0 rfl rfl rfl d_R_find_7 ?_
      refine lv_icmp_ge (tgt := 29) hx hb d_R_find_8 (by decide) (fun hc => ?_) (fun hc => ?_)
      · have h := ck_t hc h
        have hl : lv_has ls 3 [(0, .ref a_r), (1, .int x1), (2, .int x2_w2)] := lv_sub hl [0, 1, 2] rfl
        exact hk2 _ _ _ _ hl hP hD hS h
      · have h := ck_f hc h
        refine lv_aload_n hx hb d_R_find_11 rfl (lv_at hl 0 rfl) ?_
        refine va_get (D := (dC, dI)) (ci := 3) (v := .ref a_rs) (C := R_R) (T := F_R) (N := 6) hx hb htT i_R hown hK hP 0 rfl rfl 0 (by decide) (htT _ kf_R_9) (fun _ h9 => h9) rfl d_R_find_12 ?_
        refine lv_iload_n hx hb d_R_find_15 rfl (lv_at hl 2 rfl) ?_
        obtain ⟨hin, h⟩ := ck_in h
        refine va_iald hx hb hK hP 1 0 rfl rfl hin d_R_find_16 ?_
        refine lv_iload_n hx hb d_R_find_17 rfl (lv_at hl 1 rfl) ?_
        refine lv_icmp_ne (tgt := 23) hx hb d_R_find_18 (by decide) (fun hc => ?_) (fun hc => ?_)
        · have h := ck_f hc h
          refine lv_iinc (k := 2) (v := (x2_w2 + (1 : Int32))) hx hb d_R_find_23 hl rfl (congrArg (fun y => x2_w2 + y) (by decide)) (by decide) rfl (fun ls hl => ?_)
          have hl : lv_has ls 3 [(2, .int (x2_w2 + (1 : Int32))), (0, .ref a_r), (1, .int x1)] := hl
          refine lv_goto (tgt := 2) hx hb d_R_find_26 (by decide) ?_
          have hl : lv_has ls 3 [(0, .ref a_r), (1, .int x1), (2, .int (x2_w2 + (1 : Int32)))] := lv_sub hl [1, 2, 0] rfl
          exact ih2 _ _ _ _ hl hP hD hS h hk2
        · have h := ck_t hc h
          refine lv_iload_n hx hb d_R_find_21 rfl (lv_at hl 2 rfl) ?_
          exact W.iret (v := x2_w2) hx hb hr (fun t ht hW => ⟨⟨x2_w2, (), rfl, (Option.some.inj h).symm, by rw [ht]; exact hP, va_K.moved hW.alike hK, hD⟩, hS.F ht⟩) hS.2.2 d_R_find_22
  have hl : lv_has ls 3 [(0, .ref a_r), (1, .int x1), (2, .int (0 : Int32))] := lv_sub hl [1, 2, 0] rfl
  refine L2 _ _ _ _ _ _ hl hP hD hS h ?_
  intro x2_k2 ls H locs hl hP hD hS h
  refine lv_iconst (v := (-1 : Int32)) hx hb d_R_find_29 (by decide) ?_
  exact W.iret (v := (-1 : Int32)) hx hb hr (fun t ht hW => ⟨⟨(-1 : Int32), (), rfl, (Option.some.inj h).symm, by rw [ht]; exact hP, va_K.moved hW.alike hK, hD⟩, hS.F ht⟩) hS.2.2 d_R_find_30
set_option maxHeartbeats 4000000 in
set_option maxRecDepth 100000 in
theorem c_R_forgetUnsaved (l : Launch) (dC : Nat → ClassId) (dI : Nat → Nat → Nat) (cI cZ cJ : ClassId) (a_u a_d a_p a_pb a_pf a_r a_rs a_rb a_ru a_rz a_rh a_rl a_c a_cp a_st a_pl : Nat) (sz n N : Nat) (uSers : Nat → Int32) (uUnts : Nat → Int32) (x1 : Int32) (x2 : Int32) (res : Nat → Int32) (hM : R_forgetUnsaved N uSers uUnts x1 x2 = some res) : Met l y_R_forgetUnsaved w_R_forgetUnsaved ({ frames := 0, cells := 0, slots := 0, locals := 0 }) (va_Pc [.ref a_r, .int x1, .int x2] (fun U => U.heap.size = sz ∧ va_P (dC, dI) classes [(a_r, .inr (3, [.ref a_rs, .ref a_rb, .ref a_ru, .ref a_rz, .ref a_rh, .ref a_rl])), (a_rs, .inl (cI, N, .inl uSers)), (a_ru, .inl (cI, N, .inl uUnts))] U.heap ∧ va_K (dC, dI) classes [(cI, .int), (cZ, .boolean), (cJ, .long)] U ∧ va_D (fun _ => True) [(a_r, .inr (3, [.ref a_rs, .ref a_rb, .ref a_ru, .ref a_rz, .ref a_rh, .ref a_rl])), (a_rs, .inl (cI, N, .inl uSers)), (a_ru, .inl (cI, N, .inl uUnts))] ∧ Ns U)) (va_Qv (fun (z : Nat → Int32) => res = z) (fun (z : Nat → Int32) (t : State) => va_P (dC, dI) classes [(a_r, .inr (3, [.ref a_rs, .ref a_rb, .ref a_ru, .ref a_rz, .ref a_rh, .ref a_rl])), (a_rs, .inl (cI, N, .inl z)), (a_ru, .inl (cI, N, .inl uUnts))] t.heap ∧ va_K (dC, dI) classes [(cI, .int), (cZ, .boolean), (cJ, .long)] t ∧ va_D (va_A [(a_r, .inr (3, [.ref a_rs, .ref a_rb, .ref a_ru, .ref a_rz, .ref a_rh, .ref a_rl])), (a_rs, .inl (cI, N, .inl uSers)), (a_ru, .inl (cI, N, .inl uUnts))] sz) [(a_r, .inr (3, [.ref a_rs, .ref a_rb, .ref a_ru, .ref a_rz, .ref a_rh, .ref a_rl])), (a_rs, .inl (cI, N, .inl z)), (a_ru, .inl (cI, N, .inl uUnts))]) (va_A [(a_r, .inr (3, [.ref a_rs, .ref a_rb, .ref a_ru, .ref a_rz, .ref a_rh, .ref a_rl])), (a_rs, .inl (cI, N, .inl uSers)), (a_ru, .inl (cI, N, .inl uUnts))] sz)) 0 0 (va_A [(a_r, .inr (3, [.ref a_rs, .ref a_rb, .ref a_ru, .ref a_rz, .ref a_rh, .ref a_rl])), (a_rs, .inl (cI, N, .inl uSers)), (a_ru, .inl (cI, N, .inl uUnts))] sz) := by
  refine Met.ofW (cc := b_R_forgetUnsaved) (maxL := 5) (ret := none) (by decide) rfl ?_
  intro p e s m args below meth c s₁ B hml hv
  obtain ⟨rfl, hsz, hP, hK, hD0, hN⟩ := hv
  have hx := B.exec
  have hb := B.bytes
  have hr := B.returns
  have hts := atoms_spec (ws := w_R_forgetUnsaved) B.pre
  have htT : ∀ w ∈ lwG, w.before _ s = true := fun w h => hts w (List.mem_cons_of_mem _ h)
  have hown : s.vm.findClass R_R = some m.cls := findClass_of_methodNamed B.named
  have hlocks := B.notSynchronized
  subst hsz
  have hD := hD0.self (sz := s.heap.size)
  generalize hAe : va_A [(a_r, .inr (3, [.ref a_rs, .ref a_rb, .ref a_ru, .ref a_rz, .ref a_rh, .ref a_rl])), (a_rs, .inl (cI, N, .inl uSers)), (a_ru, .inl (cI, N, .inl uUnts))] s.heap.size = A at hD ⊢
  have hA : ∀ q : Nat, s.heap.size ≤ q → A q := fun q h => by rw [← hAe]; exact Or.inr h
  have hS : va_S A s.heap s.heap [] := va_S.rf
  have hP : va_P (dC, dI) classes [(a_r, .inr (3, [.ref a_rs, .ref a_rb, .ref a_ru, .ref a_rz, .ref a_rh, .ref a_rl])), (a_rs, .inl (cI, N, .inl uSers)), (a_ru, .inl (cI, N, .inl uUnts))] s.heap := hP
  have hl := lv_entry ([.ref a_r, .int x1, .int x2]) (n := 5) (Nat.le_of_ble_eq_true rfl)
  rw [lg_entry_eq]
  generalize (lg_sl ([.ref a_r, .int x1, .int x2]) ++ List.replicate (5 - (lg_sl ([.ref a_r, .int x1, .int x2])).length) Slot.unset).toArray = ls at hl ⊢
  have hl : lv_has ls 5 [(0, .ref a_r), (1, .int x1), (2, .int x2)] := hl
  have h := hM
  rw [R_forgetUnsaved] at h
  refine lv_iload_n hx hb d_R_forgetUnsaved_0 rfl (lv_at hl 1 rfl) ?_
  refine lv_bipush (v := (16 : Int32)) hx hb d_R_forgetUnsaved_1 (by decide) ?_
  refine lv_imul hx hb d_R_forgetUnsaved_3 ?_
  refine lv_istore_n hx hb d_R_forgetUnsaved_4 rfl hl (by decide) rfl (fun ls hl => ?_)
  have hl : lv_has ls 5 [(3, .int (x1 * (16 : Int32))), (0, .ref a_r), (1, .int x1), (2, .int x2)] := hl
  refine lv_iconst (v := (0 : Int32)) hx hb d_R_forgetUnsaved_5 (by decide) ?_
  refine lv_istore hx hb d_R_forgetUnsaved_6 hl (by decide) rfl (fun ls hl => ?_)
  have hl : lv_has ls 5 [(4, .int (0 : Int32)), (3, .int (x1 * (16 : Int32))), (0, .ref a_r), (1, .int x1), (2, .int x2)] := hl
  have L8 : ∀ (K8 : (Nat → Int32) → Int32 → Option (Nat → Int32)) (fuel : Nat) (uSers_w8 : Nat → Int32) (x4_w8 : Int32) (ls : Array Slot) (H : Heap) (locs : List Loc), lv_has ls 5 [(0, .ref a_r), (2, .int x2), (3, .int (x1 * (16 : Int32))), (4, .int x4_w8)] → va_P (dC, dI) classes [(a_r, .inr (3, [.ref a_rs, .ref a_rb, .ref a_ru, .ref a_rz, .ref a_rh, .ref a_rl])), (a_rs, .inl (cI, N, .inl uSers_w8)), (a_ru, .inl (cI, N, .inl uUnts))] H → va_D A [(a_r, .inr (3, [.ref a_rs, .ref a_rb, .ref a_ru, .ref a_rz, .ref a_rh, .ref a_rl])), (a_rs, .inl (cI, N, .inl uSers_w8)), (a_ru, .inl (cI, N, .inl uUnts))] → va_S A s.heap H locs → R_forgetUnsaved_L8 N uUnts x2 (x1 * (16 : Int32)) K8 fuel uSers_w8 x4_w8 = some res → (∀ (uSers_w8 : Nat → Int32) (x4_w8 : Int32) (ls : Array Slot) (H : Heap) (locs : List Loc), lv_has ls 5 [(0, .ref a_r), (2, .int x2), (3, .int (x1 * (16 : Int32))), (4, .int x4_w8)] → va_P (dC, dI) classes [(a_r, .inr (3, [.ref a_rs, .ref a_rb, .ref a_ru, .ref a_rz, .ref a_rh, .ref a_rl])), (a_rs, .inl (cI, N, .inl uSers_w8)), (a_ru, .inl (cI, N, .inl uUnts))] H → va_D A [(a_r, .inr (3, [.ref a_rs, .ref a_rb, .ref a_ru, .ref a_rz, .ref a_rh, .ref a_rl])), (a_rs, .inl (cI, N, .inl uSers_w8)), (a_ru, .inl (cI, N, .inl uUnts))] → va_S A s.heap H locs → K8 uSers_w8 x4_w8 = some res → W p l e (headSpec w_R_forgetUnsaved ({ frames := 0, cells := 0, slots := 0, locals := 0 })).room s m ([.ref a_r, .int x1, .int x2] : List Value).toArray below meth c H locs 0 0 (MQ below (va_Qv (fun (z : Nat → Int32) => res = z) (fun (z : Nat → Int32) (t : State) => va_P (dC, dI) classes [(a_r, .inr (3, [.ref a_rs, .ref a_rb, .ref a_ru, .ref a_rz, .ref a_rh, .ref a_rl])), (a_rs, .inl (cI, N, .inl z)), (a_ru, .inl (cI, N, .inl uUnts))] t.heap ∧ va_K (dC, dI) classes [(cI, .int), (cZ, .boolean), (cJ, .long)] t ∧ va_D A [(a_r, .inr (3, [.ref a_rs, .ref a_rb, .ref a_ru, .ref a_rz, .ref a_rh, .ref a_rl])), (a_rs, .inl (cI, N, .inl z)), (a_ru, .inl (cI, N, .inl uUnts))]) A) ([.ref a_r, .int x1, .int x2] : List Value).toArray s 0 0 A) (F0 m 47 ls [])) → W p l e (headSpec w_R_forgetUnsaved ({ frames := 0, cells := 0, slots := 0, locals := 0 })).room s m ([.ref a_r, .int x1, .int x2] : List Value).toArray below meth c H locs 0 0 (MQ below (va_Qv (fun (z : Nat → Int32) => res = z) (fun (z : Nat → Int32) (t : State) => va_P (dC, dI) classes [(a_r, .inr (3, [.ref a_rs, .ref a_rb, .ref a_ru, .ref a_rz, .ref a_rh, .ref a_rl])), (a_rs, .inl (cI, N, .inl z)), (a_ru, .inl (cI, N, .inl uUnts))] t.heap ∧ va_K (dC, dI) classes [(cI, .int), (cZ, .boolean), (cJ, .long)] t ∧ va_D A [(a_r, .inr (3, [.ref a_rs, .ref a_rb, .ref a_ru, .ref a_rz, .ref a_rh, .ref a_rl])), (a_rs, .inl (cI, N, .inl z)), (a_ru, .inl (cI, N, .inl uUnts))]) A) ([.ref a_r, .int x1, .int x2] : List Value).toArray s 0 0 A) (F0 m 8 ls []) := by
    intro K8 fuel
    induction fuel with
    | zero => intro uSers_w8 x4_w8 ls H locs hl hP hD hS h hk8; exact absurd (show (none : Option (Nat → Int32)) = some res from h) (by intro q; cases q)
    | succ fuel ih8 =>
      intro uSers_w8 x4_w8 ls H locs hl hP hD hS h hk8
      rw [R_forgetUnsaved_L8] at h
      refine lv_iload hx hb d_R_forgetUnsaved_8 (lv_at hl 3 rfl) ?_
      refine lv_bipush (v := (16 : Int32)) hx hb d_R_forgetUnsaved_10 (by decide) ?_
      refine lv_icmp_ge (tgt := 47) hx hb d_R_forgetUnsaved_12 (by decide) (fun hc => ?_) (fun hc => ?_)
      · have h := ck_t hc h
        have hl : lv_has ls 5 [(0, .ref a_r), (2, .int x2), (3, .int (x1 * (16 : Int32))), (4, .int x4_w8)] := lv_sub hl [0, 1, 2, 3] rfl
        exact hk8 _ _ _ _ _ hl hP hD hS h
      · have h := ck_f hc h
        refine lv_iload hx hb d_R_forgetUnsaved_15 (lv_at hl 3 rfl) ?_
        refine lv_aload_n hx hb d_R_forgetUnsaved_17 rfl (lv_at hl 0 rfl) ?_
        refine va_get (D := (dC, dI)) (ci := 3) (v := .ref a_ru) (C := R_R) (T := F_R) (N := 6) hx hb htT i_R hown hK hP 0 rfl rfl 2 (by decide) (htT _ kf_R_18) (fun _ h9 => h9) rfl d_R_forgetUnsaved_18 ?_
        refine lv_iload_n hx hb d_R_forgetUnsaved_21 rfl (lv_at hl 2 rfl) ?_
        refine lv_iload hx hb d_R_forgetUnsaved_22 (lv_at hl 3 rfl) ?_
        refine lv_iadd hx hb d_R_forgetUnsaved_24 ?_
        obtain ⟨hin, h⟩ := ck_in h
        refine va_iald hx hb hK hP 2 0 rfl rfl hin d_R_forgetUnsaved_25 ?_
        refine lv_iadd hx hb d_R_forgetUnsaved_26 ?_
        refine lv_iload_n hx hb d_R_forgetUnsaved_27 rfl (lv_at hl 1 rfl) ?_
        refine lv_icmp_le (tgt := 41) hx hb d_R_forgetUnsaved_28 (by decide) (fun hc => ?_) (fun hc => ?_)
        · have h := ck_t hc h
          refine lv_iinc (k := 3) (v := (x4_w8 + (1 : Int32))) hx hb d_R_forgetUnsaved_41 hl rfl (congrArg (fun y => x4_w8 + y) (by decide)) (by decide) rfl (fun ls hl => ?_)
          have hl : lv_has ls 5 [(4, .int (x4_w8 + (1 : Int32))), (0, .ref a_r), (2, .int x2), (3, .int (x1 * (16 : Int32)))] := hl
          refine lv_goto (tgt := 8) hx hb d_R_forgetUnsaved_44 (by decide) ?_
          have hl : lv_has ls 5 [(0, .ref a_r), (2, .int x2), (3, .int (x1 * (16 : Int32))), (4, .int (x4_w8 + (1 : Int32)))] := lv_sub hl [1, 2, 3, 0] rfl
          exact ih8 _ _ _ _ _ hl hP hD hS h hk8
        · have h := ck_f hc h
          refine lv_aload_n hx hb d_R_forgetUnsaved_31 rfl (lv_at hl 0 rfl) ?_
          refine va_get (D := (dC, dI)) (ci := 3) (v := .ref a_rs) (C := R_R) (T := F_R) (N := 6) hx hb htT i_R hown hK hP 0 rfl rfl 0 (by decide) (htT _ kf_R_9) (fun _ h9 => h9) rfl d_R_forgetUnsaved_32 ?_
          refine lv_iload_n hx hb d_R_forgetUnsaved_35 rfl (lv_at hl 2 rfl) ?_
          refine lv_iload hx hb d_R_forgetUnsaved_36 (lv_at hl 3 rfl) ?_
          refine lv_iadd hx hb d_R_forgetUnsaved_38 ?_
          refine lv_iconst (v := (0 : Int32)) hx hb d_R_forgetUnsaved_39 (by decide) ?_
          obtain ⟨hin, h⟩ := ck_in h
          refine va_iast hx hb hK hP hD hS 1 0 rfl rfl hin d_R_forgetUnsaved_40 (fun H locs hP hD hS => ?_)
          have hP : va_P (dC, dI) classes [(a_r, .inr (3, [.ref a_rs, .ref a_rb, .ref a_ru, .ref a_rz, .ref a_rh, .ref a_rl])), (a_rs, .inl (cI, N, .inl (upd uSers_w8 ((x1 * (16 : Int32)) + x4_w8).toNatClampNeg (0 : Int32)))), (a_ru, .inl (cI, N, .inl uUnts))] H := hP
          have hD : va_D A [(a_r, .inr (3, [.ref a_rs, .ref a_rb, .ref a_ru, .ref a_rz, .ref a_rh, .ref a_rl])), (a_rs, .inl (cI, N, .inl (upd uSers_w8 ((x1 * (16 : Int32)) + x4_w8).toNatClampNeg (0 : Int32)))), (a_ru, .inl (cI, N, .inl uUnts))] := hD
          refine lv_iinc (k := 3) (v := (x4_w8 + (1 : Int32))) hx hb d_R_forgetUnsaved_41 hl rfl (congrArg (fun y => x4_w8 + y) (by decide)) (by decide) rfl (fun ls hl => ?_)
          have hl : lv_has ls 5 [(4, .int (x4_w8 + (1 : Int32))), (0, .ref a_r), (2, .int x2), (3, .int (x1 * (16 : Int32)))] := hl
          refine lv_goto (tgt := 8) hx hb d_R_forgetUnsaved_44 (by decide) ?_
          have hl : lv_has ls 5 [(0, .ref a_r), (2, .int x2), (3, .int (x1 * (16 : Int32))), (4, .int (x4_w8 + (1 : Int32)))] := lv_sub hl [1, 2, 3, 0] rfl
          exact ih8 _ _ _ _ _ hl hP hD hS h hk8
  have hl : lv_has ls 5 [(0, .ref a_r), (2, .int x2), (3, .int (x1 * (16 : Int32))), (4, .int (0 : Int32))] := lv_sub hl [2, 4, 1, 0] rfl
  refine L8 _ _ _ _ _ _ _ hl hP hD hS h ?_
  intro uSers_k8 x4_k8 ls H locs hl hP hD hS h
  exact W.vret hx hb hr (fun t ht hW => ⟨⟨(uSers_k8), rfl, (Option.some.inj h).symm, by rw [ht]; exact hP, va_K.moved hW.alike hK, hD⟩, hS.F ht⟩) hS.2.2 d_R_forgetUnsaved_47
set_option maxHeartbeats 4000000 in
set_option maxRecDepth 100000 in
theorem c_U_goDown (l : Launch) (dC : Nat → ClassId) (dI : Nat → Nat → Nat) (cI cZ cJ : ClassId) (a_u a_d a_p a_pb a_pf a_r a_rs a_rb a_ru a_rz a_rh a_rl a_c a_cp a_st a_pl : Nat) (sz n N : Nat) (uOpen : Int32) (uFill : Int32) (uSaved : Int32) (uSerial : Int32) (uDown : Int32) (uSers : Nat → Int32) (uUnts : Nat → Int32)  (res : Int32 × Int32 × (Nat → Int32)) (hM : U_goDown N uOpen uSaved uDown uSers uUnts = some res) : Met l y_U_goDown w_U_goDown ({ frames := 1, cells := 0, slots := 0, locals := 24 }) (va_Pc [.ref a_u] (fun U => U.heap.size = sz ∧ va_P (dC, dI) classes [(a_u, .inr (0, [.ref a_d, .ref a_p, .ref a_r, .ref a_c, .ref a_st, .ref a_pl, .int uOpen, .int uFill, .int uSaved, .int uSerial, .int uDown])), (a_r, .inr (3, [.ref a_rs, .ref a_rb, .ref a_ru, .ref a_rz, .ref a_rh, .ref a_rl])), (a_rs, .inl (cI, N, .inl uSers)), (a_ru, .inl (cI, N, .inl uUnts))] U.heap ∧ va_K (dC, dI) classes [(cI, .int), (cZ, .boolean), (cJ, .long)] U ∧ va_D (fun _ => True) [(a_u, .inr (0, [.ref a_d, .ref a_p, .ref a_r, .ref a_c, .ref a_st, .ref a_pl, .int uOpen, .int uFill, .int uSaved, .int uSerial, .int uDown])), (a_r, .inr (3, [.ref a_rs, .ref a_rb, .ref a_ru, .ref a_rz, .ref a_rh, .ref a_rl])), (a_rs, .inl (cI, N, .inl uSers)), (a_ru, .inl (cI, N, .inl uUnts))] ∧ Ns U)) (va_Qi (fun (r : Int32) (z : Int32 × (Nat → Int32)) => res = (r, z)) (fun (z : Int32 × (Nat → Int32)) (t : State) => va_P (dC, dI) classes [(a_u, .inr (0, [.ref a_d, .ref a_p, .ref a_r, .ref a_c, .ref a_st, .ref a_pl, .int uOpen, .int uFill, .int uSaved, .int uSerial, .int z.1])), (a_r, .inr (3, [.ref a_rs, .ref a_rb, .ref a_ru, .ref a_rz, .ref a_rh, .ref a_rl])), (a_rs, .inl (cI, N, .inl z.2)), (a_ru, .inl (cI, N, .inl uUnts))] t.heap ∧ va_K (dC, dI) classes [(cI, .int), (cZ, .boolean), (cJ, .long)] t ∧ va_D (va_A [(a_u, .inr (0, [.ref a_d, .ref a_p, .ref a_r, .ref a_c, .ref a_st, .ref a_pl, .int uOpen, .int uFill, .int uSaved, .int uSerial, .int uDown])), (a_r, .inr (3, [.ref a_rs, .ref a_rb, .ref a_ru, .ref a_rz, .ref a_rh, .ref a_rl])), (a_rs, .inl (cI, N, .inl uSers)), (a_ru, .inl (cI, N, .inl uUnts))] sz) [(a_u, .inr (0, [.ref a_d, .ref a_p, .ref a_r, .ref a_c, .ref a_st, .ref a_pl, .int uOpen, .int uFill, .int uSaved, .int uSerial, .int z.1])), (a_r, .inr (3, [.ref a_rs, .ref a_rb, .ref a_ru, .ref a_rz, .ref a_rh, .ref a_rl])), (a_rs, .inl (cI, N, .inl z.2)), (a_ru, .inl (cI, N, .inl uUnts))]) (va_A [(a_u, .inr (0, [.ref a_d, .ref a_p, .ref a_r, .ref a_c, .ref a_st, .ref a_pl, .int uOpen, .int uFill, .int uSaved, .int uSerial, .int uDown])), (a_r, .inr (3, [.ref a_rs, .ref a_rb, .ref a_ru, .ref a_rz, .ref a_rh, .ref a_rl])), (a_rs, .inl (cI, N, .inl uSers)), (a_ru, .inl (cI, N, .inl uUnts))] sz)) 0 0 (va_A [(a_u, .inr (0, [.ref a_d, .ref a_p, .ref a_r, .ref a_c, .ref a_st, .ref a_pl, .int uOpen, .int uFill, .int uSaved, .int uSerial, .int uDown])), (a_r, .inr (3, [.ref a_rs, .ref a_rb, .ref a_ru, .ref a_rz, .ref a_rh, .ref a_rl])), (a_rs, .inl (cI, N, .inl uSers)), (a_ru, .inl (cI, N, .inl uUnts))] sz) := by
  refine Met.ofW (cc := b_U_goDown) (maxL := 1) (ret := (some .int)) (by decide) rfl ?_
  intro p e s m args below meth c s₁ B hml hv
  obtain ⟨rfl, hsz, hP, hK, hD0, hN⟩ := hv
  have hx := B.exec
  have hb := B.bytes
  have hr := B.returns
  have hts := atoms_spec (ws := w_U_goDown) B.pre
  have htT : ∀ w ∈ lwG, w.before _ s = true := fun w h => hts w (List.mem_cons_of_mem _ h)
  have hown : s.vm.findClass R_U = some m.cls := findClass_of_methodNamed B.named
  have hlocks := B.notSynchronized
  subst hsz
  have hD := hD0.self (sz := s.heap.size)
  generalize hAe : va_A [(a_u, .inr (0, [.ref a_d, .ref a_p, .ref a_r, .ref a_c, .ref a_st, .ref a_pl, .int uOpen, .int uFill, .int uSaved, .int uSerial, .int uDown])), (a_r, .inr (3, [.ref a_rs, .ref a_rb, .ref a_ru, .ref a_rz, .ref a_rh, .ref a_rl])), (a_rs, .inl (cI, N, .inl uSers)), (a_ru, .inl (cI, N, .inl uUnts))] s.heap.size = A at hD ⊢
  have hA : ∀ q : Nat, s.heap.size ≤ q → A q := fun q h => by rw [← hAe]; exact Or.inr h
  have hS : va_S A s.heap s.heap [] := va_S.rf
  have hP : va_P (dC, dI) classes [(a_u, .inr (0, [.ref a_d, .ref a_p, .ref a_r, .ref a_c, .ref a_st, .ref a_pl, .int uOpen, .int uFill, .int uSaved, .int uSerial, .int uDown])), (a_r, .inr (3, [.ref a_rs, .ref a_rb, .ref a_ru, .ref a_rz, .ref a_rh, .ref a_rl])), (a_rs, .inl (cI, N, .inl uSers)), (a_ru, .inl (cI, N, .inl uUnts))] s.heap := hP
  have hl := lv_entry ([.ref a_u]) (n := 1) (Nat.le_of_ble_eq_true rfl)
  rw [lg_entry_eq]
  generalize (lg_sl ([.ref a_u]) ++ List.replicate (1 - (lg_sl ([.ref a_u])).length) Slot.unset).toArray = ls at hl ⊢
  have hl : lv_has ls 1 [(0, .ref a_u)] := hl
  have h := hM
  rw [U_goDown] at h
  refine lv_aload_n hx hb d_U_goDown_0 rfl (lv_at hl 0 rfl) ?_
  refine lv_iconst (v := (1 : Int32)) hx hb d_U_goDown_1 (by decide) ?_
  refine va_put (D := (dC, dI)) (ci := 0) (v := .int (1 : Int32)) (ty := .boolean) (C := R_U) (T := F_U) (N := 11) hx hb htT i_U t_U t_U_ok n_U hown hK hP hD hS 0 rfl rfl 10 (by decide) (htT _ kf_U_61) (fun _ h9 => h9) rfl (by decide +kernel) rfl rfl (Nat.le_of_ble_eq_true rfl) d_U_goDown_2 (fun H locs hP hD hS => ?_)
  have hP : va_P (dC, dI) classes [(a_u, .inr (0, [.ref a_d, .ref a_p, .ref a_r, .ref a_c, .ref a_st, .ref a_pl, .int uOpen, .int uFill, .int uSaved, .int uSerial, .int (1 : Int32)])), (a_r, .inr (3, [.ref a_rs, .ref a_rb, .ref a_ru, .ref a_rz, .ref a_rh, .ref a_rl])), (a_rs, .inl (cI, N, .inl uSers)), (a_ru, .inl (cI, N, .inl uUnts))] H := hP
  have hD : va_D A [(a_u, .inr (0, [.ref a_d, .ref a_p, .ref a_r, .ref a_c, .ref a_st, .ref a_pl, .int uOpen, .int uFill, .int uSaved, .int uSerial, .int (1 : Int32)])), (a_r, .inr (3, [.ref a_rs, .ref a_rb, .ref a_ru, .ref a_rz, .ref a_rh, .ref a_rl])), (a_rs, .inl (cI, N, .inl uSers)), (a_ru, .inl (cI, N, .inl uUnts))] := hD
  refine lv_aload_n hx hb d_U_goDown_5 rfl (lv_at hl 0 rfl) ?_
  refine va_get (D := (dC, dI)) (ci := 0) (v := .ref a_r) (C := R_U) (T := F_U) (N := 11) hx hb htT i_U hown hK hP 0 rfl rfl 2 (by decide) (htT _ kf_U_37) (fun _ h9 => h9) rfl d_U_goDown_6 ?_
  refine lv_aload_n hx hb d_U_goDown_9 rfl (lv_at hl 0 rfl) ?_
  refine va_get (D := (dC, dI)) (ci := 0) (v := .int uOpen) (C := R_U) (T := F_U) (N := 11) hx hb htT i_U hown hK hP 0 rfl rfl 6 (by decide) (htT _ kf_U_156) (fun _ h9 => h9) rfl d_U_goDown_10 ?_
  refine lv_aload_n hx hb d_U_goDown_13 rfl (lv_at hl 0 rfl) ?_
  refine va_get (D := (dC, dI)) (ci := 0) (v := .int uSaved) (C := R_U) (T := F_U) (N := 11) hx hb htT i_U hown hK hP 0 rfl rfl 8 (by decide) (htT _ kf_U_103) (fun _ h9 => h9) rfl d_U_goDown_14 ?_
  obtain ⟨z1, hz, h⟩ := ck_bind h
  have hPc := hP.sub (ws' := [(a_r, .inr (3, [.ref a_rs, .ref a_rb, .ref a_ru, .ref a_rz, .ref a_rh, .ref a_rl])), (a_rs, .inl (cI, N, .inl uSers)), (a_ru, .inl (cI, N, .inl uUnts))]) [1, 2, 3] rfl
  have hDc := hD.sub (ws' := [(a_r, .inr (3, [.ref a_rs, .ref a_rb, .ref a_ru, .ref a_rz, .ref a_rh, .ref a_rl])), (a_rs, .inl (cI, N, .inl uSers)), (a_ru, .inl (cI, N, .inl uUnts))]) [1, 2, 3] (by decide) rfl
  have hFc := va_free (wc := [(a_r, .inr (3, [.ref a_rs, .ref a_rb, .ref a_ru, .ref a_rz, .ref a_rh, .ref a_rl])), (a_rs, .inl (cI, N, .inl uSers)), (a_ru, .inl (cI, N, .inl uUnts))]) hD hS hA [1, 2, 3] rfl
  refine va_callv (va_runV (As := [.int uOpen, .int uSaved]) (rest := []) ⟨hx, hb, hml, hown, htT⟩ (c_R_forgetUnsaved l dC dI cI cZ cJ a_u a_d a_p a_pb a_pf a_r a_rs a_rb a_ru a_rz a_rh a_rl a_c a_cp a_st a_pl H.size n N uSers uUnts uOpen uSaved z1 hz) (cwV 2 htT (gV kl_U_188 ki_R_forgetUnsaved ke_R_forgetUnsaved kn_R kc_R_forgetUnsaved) rfl rfl rfl (by decide +kernel) ⟨Nat.le_of_ble_eq_true rfl, Nat.le_of_ble_eq_true rfl⟩) ⟨fun a U g mk q => by obtain ⟨q0, q1, qP, qK, qD, qN⟩ := q; exact ⟨q0, q1, qP, va_K.moved (u := U) (U := U.calling g mk a) (Vm.Alike.refl U.vm) qK, qD, Ns.same (u := U) rfl qN⟩, va_recv (q0 := 1) (q := (R_R, F_R, 6)) hK hP (ci := 3) rfl rfl, fun U hU hW => ⟨rfl, by rw [hU], by rw [hU]; exact hPc, va_K.moved hW.alike hK, hDc.weaken (fun _ _ _ _ => trivial), Ns.warm hW hN⟩⟩ rfl rfl hl.1 rfl (lv_room (Nat.le_of_ble_eq_true rfl)) d_U_goDown_17 ⟨(Nat.zero_le _), (Nat.zero_le _)⟩) hS (fun q _ h => hFc q h) hFc (fun u t H locs ht hvm hw hB hz1 hk1 hS => ?_)
  subst hw
  obtain ⟨hP1, hK1, hD1⟩ := hB
  rw [ht] at hP1
  obtain ⟨hP, hD⟩ := va_join (wr := [(a_u, .inr (0, [.ref a_d, .ref a_p, .ref a_r, .ref a_c, .ref a_st, .ref a_pl, .int uOpen, .int uFill, .int uSaved, .int uSerial, .int (1 : Int32)]))]) (w1 := [(a_r, .inr (3, [.ref a_rs, .ref a_rb, .ref a_ru, .ref a_rz, .ref a_rh, .ref a_rl])), (a_rs, .inl (cI, N, .inl z1)), (a_ru, .inl (cI, N, .inl uUnts))]) hP hD [1, 2, 3] [0] rfl rfl (by decide) (by decide) hk1 hFc hP1 hD1
  have hP : va_P (dC, dI) classes [(a_u, .inr (0, [.ref a_d, .ref a_p, .ref a_r, .ref a_c, .ref a_st, .ref a_pl, .int uOpen, .int uFill, .int uSaved, .int uSerial, .int (1 : Int32)])), (a_r, .inr (3, [.ref a_rs, .ref a_rb, .ref a_ru, .ref a_rz, .ref a_rh, .ref a_rl])), (a_rs, .inl (cI, N, .inl z1)), (a_ru, .inl (cI, N, .inl uUnts))] H := hP
  have hD : va_D A [(a_u, .inr (0, [.ref a_d, .ref a_p, .ref a_r, .ref a_c, .ref a_st, .ref a_pl, .int uOpen, .int uFill, .int uSaved, .int uSerial, .int (1 : Int32)])), (a_r, .inr (3, [.ref a_rs, .ref a_rb, .ref a_ru, .ref a_rz, .ref a_rh, .ref a_rl])), (a_rs, .inl (cI, N, .inl z1)), (a_ru, .inl (cI, N, .inl uUnts))] := hD
  refine lv_bipush (v := (-4 : Int32)) hx hb d_U_goDown_20 (by decide) ?_
  exact W.iret (v := (-4 : Int32)) hx hb hr (fun t ht hW => ⟨⟨(-4 : Int32), ((1 : Int32), z1), rfl, (Option.some.inj h).symm, by rw [ht]; exact hP, va_K.moved hW.alike hK, hD⟩, hS.F ht⟩) hS.2.2 d_U_goDown_22
set_option maxHeartbeats 4000000 in
set_option maxRecDepth 100000 in
theorem c_U_returnToCheckpoint (l : Launch) (dC : Nat → ClassId) (dI : Nat → Nat → Nat) (cI cZ cJ : ClassId) (a_u a_d a_p a_pb a_pf a_r a_rs a_rb a_ru a_rz a_rh a_rl a_c a_cp a_st a_pl : Nat) (sz n N : Nat) (uOpen : Int32) (uFill : Int32) (uSaved : Int32) (uSerial : Int32) (uDown : Int32) (cNumber : Int32) (cSerial : Int32) (cOpen : Int32) (cFill : Int32) (cPlcs : Nat → Int32) (uPlcs : Nat → Int32)  (res : Int32 × Int32 × Int32 × (Nat → Int32)) (hM : U_returnToCheckpoint uOpen uFill uSerial cSerial cOpen cFill cPlcs uPlcs = some res) : Met l y_U_returnToCheckpoint w_U_returnToCheckpoint ({ frames := 1, cells := 0, slots := 0, locals := 100 }) (va_Pc [.ref a_u] (fun U => U.heap.size = sz ∧ va_P (dC, dI) classes [(a_u, .inr (0, [.ref a_d, .ref a_p, .ref a_r, .ref a_c, .ref a_st, .ref a_pl, .int uOpen, .int uFill, .int uSaved, .int uSerial, .int uDown])), (a_c, .inr (4, [.ref a_cp, .int cNumber, .int cSerial, .int cOpen, .int cFill])), (a_cp, .inl (cI, 16, .inl cPlcs)), (a_pl, .inl (cI, 16, .inl uPlcs))] U.heap ∧ va_K (dC, dI) classes [(cI, .int), (cZ, .boolean), (cJ, .long)] U ∧ va_D (fun _ => True) [(a_u, .inr (0, [.ref a_d, .ref a_p, .ref a_r, .ref a_c, .ref a_st, .ref a_pl, .int uOpen, .int uFill, .int uSaved, .int uSerial, .int uDown])), (a_c, .inr (4, [.ref a_cp, .int cNumber, .int cSerial, .int cOpen, .int cFill])), (a_cp, .inl (cI, 16, .inl cPlcs)), (a_pl, .inl (cI, 16, .inl uPlcs))] ∧ Ns U)) (va_Qv (fun (z : Int32 × Int32 × Int32 × (Nat → Int32)) => res = z) (fun (z : Int32 × Int32 × Int32 × (Nat → Int32)) (t : State) => va_P (dC, dI) classes [(a_u, .inr (0, [.ref a_d, .ref a_p, .ref a_r, .ref a_c, .ref a_st, .ref a_pl, .int z.1, .int z.2.1, .int uSaved, .int z.2.2.1, .int uDown])), (a_c, .inr (4, [.ref a_cp, .int cNumber, .int cSerial, .int cOpen, .int cFill])), (a_cp, .inl (cI, 16, .inl cPlcs)), (a_pl, .inl (cI, 16, .inl z.2.2.2))] t.heap ∧ va_K (dC, dI) classes [(cI, .int), (cZ, .boolean), (cJ, .long)] t ∧ va_D (va_A [(a_u, .inr (0, [.ref a_d, .ref a_p, .ref a_r, .ref a_c, .ref a_st, .ref a_pl, .int uOpen, .int uFill, .int uSaved, .int uSerial, .int uDown])), (a_c, .inr (4, [.ref a_cp, .int cNumber, .int cSerial, .int cOpen, .int cFill])), (a_cp, .inl (cI, 16, .inl cPlcs)), (a_pl, .inl (cI, 16, .inl uPlcs))] sz) [(a_u, .inr (0, [.ref a_d, .ref a_p, .ref a_r, .ref a_c, .ref a_st, .ref a_pl, .int z.1, .int z.2.1, .int uSaved, .int z.2.2.1, .int uDown])), (a_c, .inr (4, [.ref a_cp, .int cNumber, .int cSerial, .int cOpen, .int cFill])), (a_cp, .inl (cI, 16, .inl cPlcs)), (a_pl, .inl (cI, 16, .inl z.2.2.2))]) (va_A [(a_u, .inr (0, [.ref a_d, .ref a_p, .ref a_r, .ref a_c, .ref a_st, .ref a_pl, .int uOpen, .int uFill, .int uSaved, .int uSerial, .int uDown])), (a_c, .inr (4, [.ref a_cp, .int cNumber, .int cSerial, .int cOpen, .int cFill])), (a_cp, .inl (cI, 16, .inl cPlcs)), (a_pl, .inl (cI, 16, .inl uPlcs))] sz)) 0 0 (va_A [(a_u, .inr (0, [.ref a_d, .ref a_p, .ref a_r, .ref a_c, .ref a_st, .ref a_pl, .int uOpen, .int uFill, .int uSaved, .int uSerial, .int uDown])), (a_c, .inr (4, [.ref a_cp, .int cNumber, .int cSerial, .int cOpen, .int cFill])), (a_cp, .inl (cI, 16, .inl cPlcs)), (a_pl, .inl (cI, 16, .inl uPlcs))] sz) := by
  refine Met.ofW (cc := b_U_returnToCheckpoint) (maxL := 1) (ret := none) (by decide) rfl ?_
  intro p e s m args below meth c s₁ B hml hv
  obtain ⟨rfl, hsz, hP, hK, hD0, hN⟩ := hv
  have hx := B.exec
  have hb := B.bytes
  have hr := B.returns
  have hts := atoms_spec (ws := w_U_returnToCheckpoint) B.pre
  have htT : ∀ w ∈ lwG, w.before _ s = true := fun w h => hts w (List.mem_cons_of_mem _ h)
  have hown : s.vm.findClass R_U = some m.cls := findClass_of_methodNamed B.named
  have hlocks := B.notSynchronized
  subst hsz
  have hD := hD0.self (sz := s.heap.size)
  generalize hAe : va_A [(a_u, .inr (0, [.ref a_d, .ref a_p, .ref a_r, .ref a_c, .ref a_st, .ref a_pl, .int uOpen, .int uFill, .int uSaved, .int uSerial, .int uDown])), (a_c, .inr (4, [.ref a_cp, .int cNumber, .int cSerial, .int cOpen, .int cFill])), (a_cp, .inl (cI, 16, .inl cPlcs)), (a_pl, .inl (cI, 16, .inl uPlcs))] s.heap.size = A at hD ⊢
  have hA : ∀ q : Nat, s.heap.size ≤ q → A q := fun q h => by rw [← hAe]; exact Or.inr h
  have hS : va_S A s.heap s.heap [] := va_S.rf
  have hP : va_P (dC, dI) classes [(a_u, .inr (0, [.ref a_d, .ref a_p, .ref a_r, .ref a_c, .ref a_st, .ref a_pl, .int uOpen, .int uFill, .int uSaved, .int uSerial, .int uDown])), (a_c, .inr (4, [.ref a_cp, .int cNumber, .int cSerial, .int cOpen, .int cFill])), (a_cp, .inl (cI, 16, .inl cPlcs)), (a_pl, .inl (cI, 16, .inl uPlcs))] s.heap := hP
  have hl := lv_entry ([.ref a_u]) (n := 1) (Nat.le_of_ble_eq_true rfl)
  rw [lg_entry_eq]
  generalize (lg_sl ([.ref a_u]) ++ List.replicate (1 - (lg_sl ([.ref a_u])).length) Slot.unset).toArray = ls at hl ⊢
  have hl : lv_has ls 1 [(0, .ref a_u)] := hl
  have h := hM
  rw [U_returnToCheckpoint] at h
  refine lv_aload_n hx hb d_U_returnToCheckpoint_0 rfl (lv_at hl 0 rfl) ?_
  refine lv_aload_n hx hb d_U_returnToCheckpoint_1 rfl (lv_at hl 0 rfl) ?_
  refine va_get (D := (dC, dI)) (ci := 0) (v := .ref a_c) (C := R_U) (T := F_U) (N := 11) hx hb htT i_U hown hK hP 0 rfl rfl 3 (by decide) (htT _ kf_U_44) (fun _ h9 => h9) rfl d_U_returnToCheckpoint_2 ?_
  refine va_getN (D := (dC, dI)) (ci := 4) (v := .int cSerial) (C := R_C) (T := F_C) (N := 5) hx hb htT i_C hown hK hP 1 rfl rfl 2 (by decide) (va_Nw.use rfl (hN _ kf_U_178)) (fun _ h9 => h9) rfl d_U_returnToCheckpoint_5 ?_
  refine va_put (D := (dC, dI)) (ci := 0) (v := .int cSerial) (ty := .int) (C := R_U) (T := F_U) (N := 11) hx hb htT i_U t_U t_U_ok n_U hown hK hP hD hS 0 rfl rfl 9 (by decide) (htT _ kf_U_144) (fun _ h9 => h9) rfl (by decide +kernel) rfl rfl (Nat.le_of_ble_eq_true rfl) d_U_returnToCheckpoint_8 (fun H locs hP hD hS => ?_)
  have hP : va_P (dC, dI) classes [(a_u, .inr (0, [.ref a_d, .ref a_p, .ref a_r, .ref a_c, .ref a_st, .ref a_pl, .int uOpen, .int uFill, .int uSaved, .int cSerial, .int uDown])), (a_c, .inr (4, [.ref a_cp, .int cNumber, .int cSerial, .int cOpen, .int cFill])), (a_cp, .inl (cI, 16, .inl cPlcs)), (a_pl, .inl (cI, 16, .inl uPlcs))] H := hP
  have hD : va_D A [(a_u, .inr (0, [.ref a_d, .ref a_p, .ref a_r, .ref a_c, .ref a_st, .ref a_pl, .int uOpen, .int uFill, .int uSaved, .int cSerial, .int uDown])), (a_c, .inr (4, [.ref a_cp, .int cNumber, .int cSerial, .int cOpen, .int cFill])), (a_cp, .inl (cI, 16, .inl cPlcs)), (a_pl, .inl (cI, 16, .inl uPlcs))] := hD
  refine lv_aload_n hx hb d_U_returnToCheckpoint_11 rfl (lv_at hl 0 rfl) ?_
  refine lv_aload_n hx hb d_U_returnToCheckpoint_12 rfl (lv_at hl 0 rfl) ?_
  refine va_get (D := (dC, dI)) (ci := 0) (v := .ref a_c) (C := R_U) (T := F_U) (N := 11) hx hb htT i_U hown hK hP 0 rfl rfl 3 (by decide) (htT _ kf_U_44) (fun _ h9 => h9) rfl d_U_returnToCheckpoint_13 ?_
  refine va_getN (D := (dC, dI)) (ci := 4) (v := .int cOpen) (C := R_C) (T := F_C) (N := 5) hx hb htT i_C hown hK hP 1 rfl rfl 3 (by decide) (va_Nw.use rfl (hN _ kf_U_179)) (fun _ h9 => h9) rfl d_U_returnToCheckpoint_16 ?_
  refine va_put (D := (dC, dI)) (ci := 0) (v := .int cOpen) (ty := .int) (C := R_U) (T := F_U) (N := 11) hx hb htT i_U t_U t_U_ok n_U hown hK hP hD hS 0 rfl rfl 6 (by decide) (htT _ kf_U_156) (fun _ h9 => h9) rfl (by decide +kernel) rfl rfl (Nat.le_of_ble_eq_true rfl) d_U_returnToCheckpoint_19 (fun H locs hP hD hS => ?_)
  have hP : va_P (dC, dI) classes [(a_u, .inr (0, [.ref a_d, .ref a_p, .ref a_r, .ref a_c, .ref a_st, .ref a_pl, .int cOpen, .int uFill, .int uSaved, .int cSerial, .int uDown])), (a_c, .inr (4, [.ref a_cp, .int cNumber, .int cSerial, .int cOpen, .int cFill])), (a_cp, .inl (cI, 16, .inl cPlcs)), (a_pl, .inl (cI, 16, .inl uPlcs))] H := hP
  have hD : va_D A [(a_u, .inr (0, [.ref a_d, .ref a_p, .ref a_r, .ref a_c, .ref a_st, .ref a_pl, .int cOpen, .int uFill, .int uSaved, .int cSerial, .int uDown])), (a_c, .inr (4, [.ref a_cp, .int cNumber, .int cSerial, .int cOpen, .int cFill])), (a_cp, .inl (cI, 16, .inl cPlcs)), (a_pl, .inl (cI, 16, .inl uPlcs))] := hD
  refine lv_aload_n hx hb d_U_returnToCheckpoint_22 rfl (lv_at hl 0 rfl) ?_
  refine lv_aload_n hx hb d_U_returnToCheckpoint_23 rfl (lv_at hl 0 rfl) ?_
  refine va_get (D := (dC, dI)) (ci := 0) (v := .ref a_c) (C := R_U) (T := F_U) (N := 11) hx hb htT i_U hown hK hP 0 rfl rfl 3 (by decide) (htT _ kf_U_44) (fun _ h9 => h9) rfl d_U_returnToCheckpoint_24 ?_
  refine va_getN (D := (dC, dI)) (ci := 4) (v := .int cFill) (C := R_C) (T := F_C) (N := 5) hx hb htT i_C hown hK hP 1 rfl rfl 4 (by decide) (va_Nw.use rfl (hN _ kf_U_180)) (fun _ h9 => h9) rfl d_U_returnToCheckpoint_27 ?_
  refine va_put (D := (dC, dI)) (ci := 0) (v := .int cFill) (ty := .int) (C := R_U) (T := F_U) (N := 11) hx hb htT i_U t_U t_U_ok n_U hown hK hP hD hS 0 rfl rfl 7 (by decide) (htT _ kf_U_101) (fun _ h9 => h9) rfl (by decide +kernel) rfl rfl (Nat.le_of_ble_eq_true rfl) d_U_returnToCheckpoint_30 (fun H locs hP hD hS => ?_)
  have hP : va_P (dC, dI) classes [(a_u, .inr (0, [.ref a_d, .ref a_p, .ref a_r, .ref a_c, .ref a_st, .ref a_pl, .int cOpen, .int cFill, .int uSaved, .int cSerial, .int uDown])), (a_c, .inr (4, [.ref a_cp, .int cNumber, .int cSerial, .int cOpen, .int cFill])), (a_cp, .inl (cI, 16, .inl cPlcs)), (a_pl, .inl (cI, 16, .inl uPlcs))] H := hP
  have hD : va_D A [(a_u, .inr (0, [.ref a_d, .ref a_p, .ref a_r, .ref a_c, .ref a_st, .ref a_pl, .int cOpen, .int cFill, .int uSaved, .int cSerial, .int uDown])), (a_c, .inr (4, [.ref a_cp, .int cNumber, .int cSerial, .int cOpen, .int cFill])), (a_cp, .inl (cI, 16, .inl cPlcs)), (a_pl, .inl (cI, 16, .inl uPlcs))] := hD
  refine lv_aload_n hx hb d_U_returnToCheckpoint_33 rfl (lv_at hl 0 rfl) ?_
  refine va_get (D := (dC, dI)) (ci := 0) (v := .ref a_c) (C := R_U) (T := F_U) (N := 11) hx hb htT i_U hown hK hP 0 rfl rfl 3 (by decide) (htT _ kf_U_44) (fun _ h9 => h9) rfl d_U_returnToCheckpoint_34 ?_
  refine va_getN (D := (dC, dI)) (ci := 4) (v := .ref a_cp) (C := R_C) (T := F_C) (N := 5) hx hb htT i_C hown hK hP 1 rfl rfl 0 (by decide) (va_Nw.use rfl (hN _ kf_U_181)) (fun _ h9 => h9) rfl d_U_returnToCheckpoint_37 ?_
  refine lv_iconst (v := (0 : Int32)) hx hb d_U_returnToCheckpoint_40 (by decide) ?_
  refine lv_aload_n hx hb d_U_returnToCheckpoint_41 rfl (lv_at hl 0 rfl) ?_
  refine va_get (D := (dC, dI)) (ci := 0) (v := .ref a_pl) (C := R_U) (T := F_U) (N := 11) hx hb htT i_U hown hK hP 0 rfl rfl 5 (by decide) (htT _ kf_U_52) (fun _ h9 => h9) rfl d_U_returnToCheckpoint_42 ?_
  refine lv_iconst (v := (0 : Int32)) hx hb d_U_returnToCheckpoint_45 (by decide) ?_
  refine lv_bipush (v := (16 : Int32)) hx hb d_U_returnToCheckpoint_46 (by decide) ?_
  refine va_copyi hx hb (hml.trans hl.1.symm) hown (htT _ kl_U_182) (htT _ ka_JS_arraycopy) (htT _ ks_JS_arraycopy) (htT (.initialized "java/lang/System") kn_JS) hK hP hD hS 2 3 0 0 rfl rfl rfl rfl rfl (by decide) (by decide) (by decide) (by decide) (by decide) (fun _ _ => rfl) (Nat.le_of_ble_eq_true rfl) (Nat.le_of_ble_eq_true rfl) d_U_returnToCheckpoint_48 (fun H locs hP hD hS => ?_)
  have hP : va_P (dC, dI) classes [(a_u, .inr (0, [.ref a_d, .ref a_p, .ref a_r, .ref a_c, .ref a_st, .ref a_pl, .int cOpen, .int cFill, .int uSaved, .int cSerial, .int uDown])), (a_c, .inr (4, [.ref a_cp, .int cNumber, .int cSerial, .int cOpen, .int cFill])), (a_cp, .inl (cI, 16, .inl cPlcs)), (a_pl, .inl (cI, 16, .inl (va_cpy cPlcs uPlcs (0 : Int32).toNatClampNeg (0 : Int32).toNatClampNeg (16 : Int32).toNatClampNeg)))] H := hP
  have hD : va_D A [(a_u, .inr (0, [.ref a_d, .ref a_p, .ref a_r, .ref a_c, .ref a_st, .ref a_pl, .int cOpen, .int cFill, .int uSaved, .int cSerial, .int uDown])), (a_c, .inr (4, [.ref a_cp, .int cNumber, .int cSerial, .int cOpen, .int cFill])), (a_cp, .inl (cI, 16, .inl cPlcs)), (a_pl, .inl (cI, 16, .inl (va_cpy cPlcs uPlcs (0 : Int32).toNatClampNeg (0 : Int32).toNatClampNeg (16 : Int32).toNatClampNeg)))] := hD
  exact W.vret hx hb hr (fun t ht hW => ⟨⟨(cOpen, cFill, cSerial, (va_cpy cPlcs uPlcs (0 : Int32).toNatClampNeg (0 : Int32).toNatClampNeg (16 : Int32).toNatClampNeg)), rfl, (Option.some.inj h).symm, by rw [ht]; exact hP, va_K.moved hW.alike hK, hD⟩, hS.F ht⟩) hS.2.2 d_U_returnToCheckpoint_51
set_option maxHeartbeats 4000000 in
set_option maxRecDepth 100000 in
theorem c_U_rollForward (l : Launch) (dC : Nat → ClassId) (dI : Nat → Nat → Nat) (cI cZ cJ : ClassId) (a_u a_d a_p a_pb a_pf a_r a_rs a_rb a_ru a_rz a_rh a_rl a_c a_cp a_st a_pl : Nat) (sz n N : Nat) (uOpen : Int32) (uFill : Int32) (uSaved : Int32) (uSerial : Int32) (uDown : Int32) (uSers : Nat → Int32) (uBlks : Nat → Int32) (uUnts : Nat → Int32) (uStos : Nat → Int32) (uPlcs : Nat → Int32)  (res : Int32 × Int32 × Int32 × Int32 × (Nat → Int32)) (hM : U_rollForward N uOpen uFill uSerial uSers uBlks uUnts uStos uPlcs = some res) : Met l y_U_rollForward w_U_rollForward ({ frames := 1, cells := 0, slots := 0, locals := 22 }) (va_Pc [.ref a_u] (fun U => U.heap.size = sz ∧ va_P (dC, dI) classes [(a_u, .inr (0, [.ref a_d, .ref a_p, .ref a_r, .ref a_c, .ref a_st, .ref a_pl, .int uOpen, .int uFill, .int uSaved, .int uSerial, .int uDown])), (a_r, .inr (3, [.ref a_rs, .ref a_rb, .ref a_ru, .ref a_rz, .ref a_rh, .ref a_rl])), (a_rs, .inl (cI, N, .inl uSers)), (a_rb, .inl (cI, N, .inl uBlks)), (a_ru, .inl (cI, N, .inl uUnts)), (a_rz, .inl (cZ, N, .inl uStos)), (a_pl, .inl (cI, 16, .inl uPlcs))] U.heap ∧ va_K (dC, dI) classes [(cI, .int), (cZ, .boolean), (cJ, .long)] U ∧ va_D (fun _ => True) [(a_u, .inr (0, [.ref a_d, .ref a_p, .ref a_r, .ref a_c, .ref a_st, .ref a_pl, .int uOpen, .int uFill, .int uSaved, .int uSerial, .int uDown])), (a_r, .inr (3, [.ref a_rs, .ref a_rb, .ref a_ru, .ref a_rz, .ref a_rh, .ref a_rl])), (a_rs, .inl (cI, N, .inl uSers)), (a_rb, .inl (cI, N, .inl uBlks)), (a_ru, .inl (cI, N, .inl uUnts)), (a_rz, .inl (cZ, N, .inl uStos)), (a_pl, .inl (cI, 16, .inl uPlcs))] ∧ Ns U)) (va_Qi (fun (r : Int32) (z : Int32 × Int32 × Int32 × (Nat → Int32)) => res = (r, z)) (fun (z : Int32 × Int32 × Int32 × (Nat → Int32)) (t : State) => va_P (dC, dI) classes [(a_u, .inr (0, [.ref a_d, .ref a_p, .ref a_r, .ref a_c, .ref a_st, .ref a_pl, .int z.1, .int z.2.1, .int uSaved, .int z.2.2.1, .int uDown])), (a_r, .inr (3, [.ref a_rs, .ref a_rb, .ref a_ru, .ref a_rz, .ref a_rh, .ref a_rl])), (a_rs, .inl (cI, N, .inl uSers)), (a_rb, .inl (cI, N, .inl uBlks)), (a_ru, .inl (cI, N, .inl uUnts)), (a_rz, .inl (cZ, N, .inl uStos)), (a_pl, .inl (cI, 16, .inl z.2.2.2))] t.heap ∧ va_K (dC, dI) classes [(cI, .int), (cZ, .boolean), (cJ, .long)] t ∧ va_D (va_A [(a_u, .inr (0, [.ref a_d, .ref a_p, .ref a_r, .ref a_c, .ref a_st, .ref a_pl, .int uOpen, .int uFill, .int uSaved, .int uSerial, .int uDown])), (a_r, .inr (3, [.ref a_rs, .ref a_rb, .ref a_ru, .ref a_rz, .ref a_rh, .ref a_rl])), (a_rs, .inl (cI, N, .inl uSers)), (a_rb, .inl (cI, N, .inl uBlks)), (a_ru, .inl (cI, N, .inl uUnts)), (a_rz, .inl (cZ, N, .inl uStos)), (a_pl, .inl (cI, 16, .inl uPlcs))] sz) [(a_u, .inr (0, [.ref a_d, .ref a_p, .ref a_r, .ref a_c, .ref a_st, .ref a_pl, .int z.1, .int z.2.1, .int uSaved, .int z.2.2.1, .int uDown])), (a_r, .inr (3, [.ref a_rs, .ref a_rb, .ref a_ru, .ref a_rz, .ref a_rh, .ref a_rl])), (a_rs, .inl (cI, N, .inl uSers)), (a_rb, .inl (cI, N, .inl uBlks)), (a_ru, .inl (cI, N, .inl uUnts)), (a_rz, .inl (cZ, N, .inl uStos)), (a_pl, .inl (cI, 16, .inl z.2.2.2))]) (va_A [(a_u, .inr (0, [.ref a_d, .ref a_p, .ref a_r, .ref a_c, .ref a_st, .ref a_pl, .int uOpen, .int uFill, .int uSaved, .int uSerial, .int uDown])), (a_r, .inr (3, [.ref a_rs, .ref a_rb, .ref a_ru, .ref a_rz, .ref a_rh, .ref a_rl])), (a_rs, .inl (cI, N, .inl uSers)), (a_rb, .inl (cI, N, .inl uBlks)), (a_ru, .inl (cI, N, .inl uUnts)), (a_rz, .inl (cZ, N, .inl uStos)), (a_pl, .inl (cI, 16, .inl uPlcs))] sz)) 0 0 (va_A [(a_u, .inr (0, [.ref a_d, .ref a_p, .ref a_r, .ref a_c, .ref a_st, .ref a_pl, .int uOpen, .int uFill, .int uSaved, .int uSerial, .int uDown])), (a_r, .inr (3, [.ref a_rs, .ref a_rb, .ref a_ru, .ref a_rz, .ref a_rh, .ref a_rl])), (a_rs, .inl (cI, N, .inl uSers)), (a_rb, .inl (cI, N, .inl uBlks)), (a_ru, .inl (cI, N, .inl uUnts)), (a_rz, .inl (cZ, N, .inl uStos)), (a_pl, .inl (cI, 16, .inl uPlcs))] sz) := by
  refine Met.ofW (cc := b_U_rollForward) (maxL := 4) (ret := (some .int)) (by decide) rfl ?_
  intro p e s m args below meth c s₁ B hml hv
  obtain ⟨rfl, hsz, hP, hK, hD0, hN⟩ := hv
  have hx := B.exec
  have hb := B.bytes
  have hr := B.returns
  have hts := atoms_spec (ws := w_U_rollForward) B.pre
  have htT : ∀ w ∈ lwG, w.before _ s = true := fun w h => hts w (List.mem_cons_of_mem _ h)
  have hown : s.vm.findClass R_U = some m.cls := findClass_of_methodNamed B.named
  have hlocks := B.notSynchronized
  subst hsz
  have hD := hD0.self (sz := s.heap.size)
  generalize hAe : va_A [(a_u, .inr (0, [.ref a_d, .ref a_p, .ref a_r, .ref a_c, .ref a_st, .ref a_pl, .int uOpen, .int uFill, .int uSaved, .int uSerial, .int uDown])), (a_r, .inr (3, [.ref a_rs, .ref a_rb, .ref a_ru, .ref a_rz, .ref a_rh, .ref a_rl])), (a_rs, .inl (cI, N, .inl uSers)), (a_rb, .inl (cI, N, .inl uBlks)), (a_ru, .inl (cI, N, .inl uUnts)), (a_rz, .inl (cZ, N, .inl uStos)), (a_pl, .inl (cI, 16, .inl uPlcs))] s.heap.size = A at hD ⊢
  have hA : ∀ q : Nat, s.heap.size ≤ q → A q := fun q h => by rw [← hAe]; exact Or.inr h
  have hS : va_S A s.heap s.heap [] := va_S.rf
  have hP : va_P (dC, dI) classes [(a_u, .inr (0, [.ref a_d, .ref a_p, .ref a_r, .ref a_c, .ref a_st, .ref a_pl, .int uOpen, .int uFill, .int uSaved, .int uSerial, .int uDown])), (a_r, .inr (3, [.ref a_rs, .ref a_rb, .ref a_ru, .ref a_rz, .ref a_rh, .ref a_rl])), (a_rs, .inl (cI, N, .inl uSers)), (a_rb, .inl (cI, N, .inl uBlks)), (a_ru, .inl (cI, N, .inl uUnts)), (a_rz, .inl (cZ, N, .inl uStos)), (a_pl, .inl (cI, 16, .inl uPlcs))] s.heap := hP
  have hl := lv_entry ([.ref a_u]) (n := 4) (Nat.le_of_ble_eq_true rfl)
  rw [lg_entry_eq]
  generalize (lg_sl ([.ref a_u]) ++ List.replicate (4 - (lg_sl ([.ref a_u])).length) Slot.unset).toArray = ls at hl ⊢
  have hl : lv_has ls 4 [(0, .ref a_u)] := hl
  have h := hM
  rw [U_rollForward] at h
  refine lv_iconst (v := (0 : Int32)) hx hb d_U_rollForward_0 (by decide) ?_
  refine lv_istore_n hx hb d_U_rollForward_1 rfl hl (by decide) rfl (fun ls hl => ?_)
  have hl : lv_has ls 4 [(1, .int (0 : Int32)), (0, .ref a_u)] := hl
  refine lv_iconst (v := (0 : Int32)) hx hb d_U_rollForward_2 (by decide) ?_
  refine lv_istore_n hx hb d_U_rollForward_3 rfl hl (by decide) rfl (fun ls hl => ?_)
  have hl : lv_has ls 4 [(2, .int (0 : Int32)), (1, .int (0 : Int32)), (0, .ref a_u)] := hl
  have L4 : ∀ (K4 : Int32 → Int32 → Int32 → (Nat → Int32) → Int32 → Int32 → Option (Int32 × Int32 × Int32 × Int32 × (Nat → Int32))) (fuel : Nat) (uOpen_w4 : Int32) (uFill_w4 : Int32) (uSerial_w4 : Int32) (uPlcs_w4 : Nat → Int32) (x1_w4 : Int32) (x2_w4 : Int32) (ls : Array Slot) (H : Heap) (locs : List Loc), lv_has ls 4 [(0, .ref a_u), (1, .int x1_w4), (2, .int x2_w4)] → va_P (dC, dI) classes [(a_u, .inr (0, [.ref a_d, .ref a_p, .ref a_r, .ref a_c, .ref a_st, .ref a_pl, .int uOpen_w4, .int uFill_w4, .int uSaved, .int uSerial_w4, .int uDown])), (a_r, .inr (3, [.ref a_rs, .ref a_rb, .ref a_ru, .ref a_rz, .ref a_rh, .ref a_rl])), (a_rs, .inl (cI, N, .inl uSers)), (a_rb, .inl (cI, N, .inl uBlks)), (a_ru, .inl (cI, N, .inl uUnts)), (a_rz, .inl (cZ, N, .inl uStos)), (a_pl, .inl (cI, 16, .inl uPlcs_w4))] H → va_D A [(a_u, .inr (0, [.ref a_d, .ref a_p, .ref a_r, .ref a_c, .ref a_st, .ref a_pl, .int uOpen_w4, .int uFill_w4, .int uSaved, .int uSerial_w4, .int uDown])), (a_r, .inr (3, [.ref a_rs, .ref a_rb, .ref a_ru, .ref a_rz, .ref a_rh, .ref a_rl])), (a_rs, .inl (cI, N, .inl uSers)), (a_rb, .inl (cI, N, .inl uBlks)), (a_ru, .inl (cI, N, .inl uUnts)), (a_rz, .inl (cZ, N, .inl uStos)), (a_pl, .inl (cI, 16, .inl uPlcs_w4))] → va_S A s.heap H locs → U_rollForward_L4 N uSers uBlks uUnts uStos K4 fuel uOpen_w4 uFill_w4 uSerial_w4 uPlcs_w4 x1_w4 x2_w4 = some res → (∀ (uOpen_w4 : Int32) (uFill_w4 : Int32) (uSerial_w4 : Int32) (uPlcs_w4 : Nat → Int32) (x1_w4 : Int32) (x2_w4 : Int32) (ls : Array Slot) (H : Heap) (locs : List Loc), lv_has ls 4 [(0, .ref a_u), (1, .int x1_w4), (2, .int x2_w4)] → va_P (dC, dI) classes [(a_u, .inr (0, [.ref a_d, .ref a_p, .ref a_r, .ref a_c, .ref a_st, .ref a_pl, .int uOpen_w4, .int uFill_w4, .int uSaved, .int uSerial_w4, .int uDown])), (a_r, .inr (3, [.ref a_rs, .ref a_rb, .ref a_ru, .ref a_rz, .ref a_rh, .ref a_rl])), (a_rs, .inl (cI, N, .inl uSers)), (a_rb, .inl (cI, N, .inl uBlks)), (a_ru, .inl (cI, N, .inl uUnts)), (a_rz, .inl (cZ, N, .inl uStos)), (a_pl, .inl (cI, 16, .inl uPlcs_w4))] H → va_D A [(a_u, .inr (0, [.ref a_d, .ref a_p, .ref a_r, .ref a_c, .ref a_st, .ref a_pl, .int uOpen_w4, .int uFill_w4, .int uSaved, .int uSerial_w4, .int uDown])), (a_r, .inr (3, [.ref a_rs, .ref a_rb, .ref a_ru, .ref a_rz, .ref a_rh, .ref a_rl])), (a_rs, .inl (cI, N, .inl uSers)), (a_rb, .inl (cI, N, .inl uBlks)), (a_ru, .inl (cI, N, .inl uUnts)), (a_rz, .inl (cZ, N, .inl uStos)), (a_pl, .inl (cI, 16, .inl uPlcs_w4))] → va_S A s.heap H locs → K4 uOpen_w4 uFill_w4 uSerial_w4 uPlcs_w4 x1_w4 x2_w4 = some res → W p l e (headSpec w_U_rollForward ({ frames := 1, cells := 0, slots := 0, locals := 22 })).room s m ([.ref a_u] : List Value).toArray below meth c H locs 0 0 (MQ below (va_Qi (fun (r : Int32) (z : Int32 × Int32 × Int32 × (Nat → Int32)) => res = (r, z)) (fun (z : Int32 × Int32 × Int32 × (Nat → Int32)) (t : State) => va_P (dC, dI) classes [(a_u, .inr (0, [.ref a_d, .ref a_p, .ref a_r, .ref a_c, .ref a_st, .ref a_pl, .int z.1, .int z.2.1, .int uSaved, .int z.2.2.1, .int uDown])), (a_r, .inr (3, [.ref a_rs, .ref a_rb, .ref a_ru, .ref a_rz, .ref a_rh, .ref a_rl])), (a_rs, .inl (cI, N, .inl uSers)), (a_rb, .inl (cI, N, .inl uBlks)), (a_ru, .inl (cI, N, .inl uUnts)), (a_rz, .inl (cZ, N, .inl uStos)), (a_pl, .inl (cI, 16, .inl z.2.2.2))] t.heap ∧ va_K (dC, dI) classes [(cI, .int), (cZ, .boolean), (cJ, .long)] t ∧ va_D A [(a_u, .inr (0, [.ref a_d, .ref a_p, .ref a_r, .ref a_c, .ref a_st, .ref a_pl, .int z.1, .int z.2.1, .int uSaved, .int z.2.2.1, .int uDown])), (a_r, .inr (3, [.ref a_rs, .ref a_rb, .ref a_ru, .ref a_rz, .ref a_rh, .ref a_rl])), (a_rs, .inl (cI, N, .inl uSers)), (a_rb, .inl (cI, N, .inl uBlks)), (a_ru, .inl (cI, N, .inl uUnts)), (a_rz, .inl (cZ, N, .inl uStos)), (a_pl, .inl (cI, 16, .inl z.2.2.2))]) A) ([.ref a_u] : List Value).toArray s 0 0 A) (F0 m 114 ls [])) → W p l e (headSpec w_U_rollForward ({ frames := 1, cells := 0, slots := 0, locals := 22 })).room s m ([.ref a_u] : List Value).toArray below meth c H locs 0 0 (MQ below (va_Qi (fun (r : Int32) (z : Int32 × Int32 × Int32 × (Nat → Int32)) => res = (r, z)) (fun (z : Int32 × Int32 × Int32 × (Nat → Int32)) (t : State) => va_P (dC, dI) classes [(a_u, .inr (0, [.ref a_d, .ref a_p, .ref a_r, .ref a_c, .ref a_st, .ref a_pl, .int z.1, .int z.2.1, .int uSaved, .int z.2.2.1, .int uDown])), (a_r, .inr (3, [.ref a_rs, .ref a_rb, .ref a_ru, .ref a_rz, .ref a_rh, .ref a_rl])), (a_rs, .inl (cI, N, .inl uSers)), (a_rb, .inl (cI, N, .inl uBlks)), (a_ru, .inl (cI, N, .inl uUnts)), (a_rz, .inl (cZ, N, .inl uStos)), (a_pl, .inl (cI, 16, .inl z.2.2.2))] t.heap ∧ va_K (dC, dI) classes [(cI, .int), (cZ, .boolean), (cJ, .long)] t ∧ va_D A [(a_u, .inr (0, [.ref a_d, .ref a_p, .ref a_r, .ref a_c, .ref a_st, .ref a_pl, .int z.1, .int z.2.1, .int uSaved, .int z.2.2.1, .int uDown])), (a_r, .inr (3, [.ref a_rs, .ref a_rb, .ref a_ru, .ref a_rz, .ref a_rh, .ref a_rl])), (a_rs, .inl (cI, N, .inl uSers)), (a_rb, .inl (cI, N, .inl uBlks)), (a_ru, .inl (cI, N, .inl uUnts)), (a_rz, .inl (cZ, N, .inl uStos)), (a_pl, .inl (cI, 16, .inl z.2.2.2))]) A) ([.ref a_u] : List Value).toArray s 0 0 A) (F0 m 4 ls []) := by
    intro K4 fuel
    induction fuel with
    | zero => intro uOpen_w4 uFill_w4 uSerial_w4 uPlcs_w4 x1_w4 x2_w4 ls H locs hl hP hD hS h hk4; exact absurd (show (none : Option (Int32 × Int32 × Int32 × Int32 × (Nat → Int32))) = some res from h) (by intro q; cases q)
    | succ fuel ih4 =>
      intro uOpen_w4 uFill_w4 uSerial_w4 uPlcs_w4 x1_w4 x2_w4 ls H locs hl hP hD hS h hk4
      rw [U_rollForward_L4] at h
      refine lv_iload_n hx hb d_U_rollForward_4 rfl (lv_at hl 2 rfl) ?_
      refine lv_aload_n hx hb d_U_rollForward_5 rfl (lv_at hl 0 rfl) ?_
      refine va_get (D := (dC, dI)) (ci := 0) (v := .ref a_r) (C := R_U) (T := F_U) (N := 11) hx hb htT i_U hown hK hP 0 rfl rfl 2 (by decide) (htT _ kf_U_37) (fun _ h9 => h9) rfl d_U_rollForward_6 ?_
      refine va_getN (D := (dC, dI)) (ci := 3) (v := .ref a_rs) (C := R_R) (T := F_R) (N := 6) hx hb htT i_R hown hK hP 1 rfl rfl 0 (by decide) (va_Nw.use rfl (hN _ kf_U_159)) (fun _ h9 => h9) rfl d_U_rollForward_9 ?_
      refine va_alen (v := (nI N)) hx hb hK hP 2 0 rfl rfl rfl d_U_rollForward_12 ?_
      refine lv_icmp_ge (tgt := 114) hx hb d_U_rollForward_13 (by decide) (fun hc => ?_) (fun hc => ?_)
      · have h := ck_t hc h
        have hl : lv_has ls 4 [(0, .ref a_u), (1, .int x1_w4), (2, .int x2_w4)] := lv_sub hl [0, 1, 2] rfl
        exact hk4 _ _ _ _ _ _ _ _ _ hl hP hD hS h
      · have h := ck_f hc h
        refine lv_aload_n hx hb d_U_rollForward_16 rfl (lv_at hl 0 rfl) ?_
        refine va_get (D := (dC, dI)) (ci := 0) (v := .ref a_r) (C := R_U) (T := F_U) (N := 11) hx hb htT i_U hown hK hP 0 rfl rfl 2 (by decide) (htT _ kf_U_37) (fun _ h9 => h9) rfl d_U_rollForward_17 ?_
        refine lv_aload_n hx hb d_U_rollForward_20 rfl (lv_at hl 0 rfl) ?_
        refine va_get (D := (dC, dI)) (ci := 0) (v := .int uSerial_w4) (C := R_U) (T := F_U) (N := 11) hx hb htT i_U hown hK hP 0 rfl rfl 9 (by decide) (htT _ kf_U_144) (fun _ h9 => h9) rfl d_U_rollForward_21 ?_
        refine lv_iconst (v := (1 : Int32)) hx hb d_U_rollForward_24 (by decide) ?_
        refine lv_iadd hx hb d_U_rollForward_25 ?_
        obtain ⟨z1, hz, h⟩ := ck_bind h
        have hPc := hP.sub (ws' := [(a_r, .inr (3, [.ref a_rs, .ref a_rb, .ref a_ru, .ref a_rz, .ref a_rh, .ref a_rl])), (a_rs, .inl (cI, N, .inl uSers))]) [1, 2] rfl
        have hDc := hD.sub (ws' := [(a_r, .inr (3, [.ref a_rs, .ref a_rb, .ref a_ru, .ref a_rz, .ref a_rh, .ref a_rl])), (a_rs, .inl (cI, N, .inl uSers))]) [1, 2] (by decide) rfl
        have hFc := va_free (wc := [(a_r, .inr (3, [.ref a_rs, .ref a_rb, .ref a_ru, .ref a_rz, .ref a_rh, .ref a_rl])), (a_rs, .inl (cI, N, .inl uSers))]) hD hS hA [1, 2] rfl
        refine va_calli (va_runV (As := [.int (uSerial_w4 + (1 : Int32))]) (rest := []) ⟨hx, hb, hml, hown, htT⟩ (c_R_find l dC dI cI cZ cJ a_u a_d a_p a_pb a_pf a_r a_rs a_rb a_ru a_rz a_rh a_rl a_c a_cp a_st a_pl H.size n N uSers (uSerial_w4 + (1 : Int32)) z1 hz) (cwV 1 htT (gV kl_U_192 ki_R_find ke_R_find kn_R kc_R_find) rfl rfl rfl (by decide +kernel) ⟨Nat.le_of_ble_eq_true rfl, Nat.le_of_ble_eq_true rfl⟩) ⟨fun a U g mk q => by obtain ⟨q0, q1, qP, qK, qD, qN⟩ := q; exact ⟨q0, q1, qP, va_K.moved (u := U) (U := U.calling g mk a) (Vm.Alike.refl U.vm) qK, qD, Ns.same (u := U) rfl qN⟩, va_recv (q0 := 1) (q := (R_R, F_R, 6)) hK hP (ci := 3) rfl rfl, fun U hU hW => ⟨rfl, by rw [hU], by rw [hU]; exact hPc, va_K.moved hW.alike hK, hDc.weaken (fun _ _ _ _ => trivial), Ns.warm hW hN⟩⟩ rfl rfl hl.1 rfl (lv_room (Nat.le_of_ble_eq_true rfl)) d_U_rollForward_26 ⟨(Nat.zero_le _), (Nat.zero_le _)⟩) hS (fun q _ h => hFc q h) hFc (fun r u t H locs ht hvm hw hB hz1 hk1 hS => ?_)
        subst hw
        obtain ⟨hP1, hK1, hD1⟩ := hB
        rw [ht] at hP1
        obtain ⟨hP, hD⟩ := va_join (wr := [(a_u, .inr (0, [.ref a_d, .ref a_p, .ref a_r, .ref a_c, .ref a_st, .ref a_pl, .int uOpen_w4, .int uFill_w4, .int uSaved, .int uSerial_w4, .int uDown])), (a_rb, .inl (cI, N, .inl uBlks)), (a_ru, .inl (cI, N, .inl uUnts)), (a_rz, .inl (cZ, N, .inl uStos)), (a_pl, .inl (cI, 16, .inl uPlcs_w4))]) (w1 := [(a_r, .inr (3, [.ref a_rs, .ref a_rb, .ref a_ru, .ref a_rz, .ref a_rh, .ref a_rl])), (a_rs, .inl (cI, N, .inl uSers))]) hP hD [1, 2] [0, 3, 4, 5, 6] rfl rfl (by decide) (by decide) hk1 hFc hP1 hD1
        have hP := hP.sub (ws' := [(a_u, .inr (0, [.ref a_d, .ref a_p, .ref a_r, .ref a_c, .ref a_st, .ref a_pl, .int uOpen_w4, .int uFill_w4, .int uSaved, .int uSerial_w4, .int uDown])), (a_r, .inr (3, [.ref a_rs, .ref a_rb, .ref a_ru, .ref a_rz, .ref a_rh, .ref a_rl])), (a_rs, .inl (cI, N, .inl uSers)), (a_rb, .inl (cI, N, .inl uBlks)), (a_ru, .inl (cI, N, .inl uUnts)), (a_rz, .inl (cZ, N, .inl uStos)), (a_pl, .inl (cI, 16, .inl uPlcs_w4))]) [0, 5, 6, 1, 2, 3, 4] rfl
        have hD := hD.sub (ws' := [(a_u, .inr (0, [.ref a_d, .ref a_p, .ref a_r, .ref a_c, .ref a_st, .ref a_pl, .int uOpen_w4, .int uFill_w4, .int uSaved, .int uSerial_w4, .int uDown])), (a_r, .inr (3, [.ref a_rs, .ref a_rb, .ref a_ru, .ref a_rz, .ref a_rh, .ref a_rl])), (a_rs, .inl (cI, N, .inl uSers)), (a_rb, .inl (cI, N, .inl uBlks)), (a_ru, .inl (cI, N, .inl uUnts)), (a_rz, .inl (cZ, N, .inl uStos)), (a_pl, .inl (cI, 16, .inl uPlcs_w4))]) [0, 5, 6, 1, 2, 3, 4] (by decide) rfl
        have hP : va_P (dC, dI) classes [(a_u, .inr (0, [.ref a_d, .ref a_p, .ref a_r, .ref a_c, .ref a_st, .ref a_pl, .int uOpen_w4, .int uFill_w4, .int uSaved, .int uSerial_w4, .int uDown])), (a_r, .inr (3, [.ref a_rs, .ref a_rb, .ref a_ru, .ref a_rz, .ref a_rh, .ref a_rl])), (a_rs, .inl (cI, N, .inl uSers)), (a_rb, .inl (cI, N, .inl uBlks)), (a_ru, .inl (cI, N, .inl uUnts)), (a_rz, .inl (cZ, N, .inl uStos)), (a_pl, .inl (cI, 16, .inl uPlcs_w4))] H := hP
        have hD : va_D A [(a_u, .inr (0, [.ref a_d, .ref a_p, .ref a_r, .ref a_c, .ref a_st, .ref a_pl, .int uOpen_w4, .int uFill_w4, .int uSaved, .int uSerial_w4, .int uDown])), (a_r, .inr (3, [.ref a_rs, .ref a_rb, .ref a_ru, .ref a_rz, .ref a_rh, .ref a_rl])), (a_rs, .inl (cI, N, .inl uSers)), (a_rb, .inl (cI, N, .inl uBlks)), (a_ru, .inl (cI, N, .inl uUnts)), (a_rz, .inl (cZ, N, .inl uStos)), (a_pl, .inl (cI, 16, .inl uPlcs_w4))] := hD
        refine lv_istore_n hx hb d_U_rollForward_29 rfl hl (by decide) rfl (fun ls hl => ?_)
        have hl : lv_has ls 4 [(3, .int z1), (0, .ref a_u), (1, .int x1_w4), (2, .int x2_w4)] := hl
        refine lv_iload_n hx hb d_U_rollForward_30 rfl (lv_at hl 0 rfl) ?_
        refine lv_iconst (v := (-1 : Int32)) hx hb d_U_rollForward_31 (by decide) ?_
        refine lv_icmp_ne (tgt := 38) hx hb d_U_rollForward_32 (by decide) (fun hc => ?_) (fun hc => ?_)
        · have h := ck_f hc h
          refine lv_aload_n hx hb d_U_rollForward_38 rfl (lv_at hl 1 rfl) ?_
          refine lv_dup hx hb d_U_rollForward_39 rfl ?_
          refine va_get (D := (dC, dI)) (ci := 0) (v := .int uSerial_w4) (C := R_U) (T := F_U) (N := 11) hx hb htT i_U hown hK hP 0 rfl rfl 9 (by decide) (htT _ kf_U_144) (fun _ h9 => h9) rfl d_U_rollForward_40 ?_
          refine lv_iconst (v := (1 : Int32)) hx hb d_U_rollForward_43 (by decide) ?_
          refine lv_iadd hx hb d_U_rollForward_44 ?_
          refine va_put (D := (dC, dI)) (ci := 0) (v := .int (uSerial_w4 + (1 : Int32))) (ty := .int) (C := R_U) (T := F_U) (N := 11) hx hb htT i_U t_U t_U_ok n_U hown hK hP hD hS 0 rfl rfl 9 (by decide) (htT _ kf_U_144) (fun _ h9 => h9) rfl (by decide +kernel) rfl rfl (Nat.le_of_ble_eq_true rfl) d_U_rollForward_45 (fun H locs hP hD hS => ?_)
          have hP : va_P (dC, dI) classes [(a_u, .inr (0, [.ref a_d, .ref a_p, .ref a_r, .ref a_c, .ref a_st, .ref a_pl, .int uOpen_w4, .int uFill_w4, .int uSaved, .int (uSerial_w4 + (1 : Int32)), .int uDown])), (a_r, .inr (3, [.ref a_rs, .ref a_rb, .ref a_ru, .ref a_rz, .ref a_rh, .ref a_rl])), (a_rs, .inl (cI, N, .inl uSers)), (a_rb, .inl (cI, N, .inl uBlks)), (a_ru, .inl (cI, N, .inl uUnts)), (a_rz, .inl (cZ, N, .inl uStos)), (a_pl, .inl (cI, 16, .inl uPlcs_w4))] H := hP
          have hD : va_D A [(a_u, .inr (0, [.ref a_d, .ref a_p, .ref a_r, .ref a_c, .ref a_st, .ref a_pl, .int uOpen_w4, .int uFill_w4, .int uSaved, .int (uSerial_w4 + (1 : Int32)), .int uDown])), (a_r, .inr (3, [.ref a_rs, .ref a_rb, .ref a_ru, .ref a_rz, .ref a_rh, .ref a_rl])), (a_rs, .inl (cI, N, .inl uSers)), (a_rb, .inl (cI, N, .inl uBlks)), (a_ru, .inl (cI, N, .inl uUnts)), (a_rz, .inl (cZ, N, .inl uStos)), (a_pl, .inl (cI, 16, .inl uPlcs_w4))] := hD
          refine lv_aload_n hx hb d_U_rollForward_48 rfl (lv_at hl 1 rfl) ?_
          refine va_get (D := (dC, dI)) (ci := 0) (v := .ref a_pl) (C := R_U) (T := F_U) (N := 11) hx hb htT i_U hown hK hP 0 rfl rfl 5 (by decide) (htT _ kf_U_52) (fun _ h9 => h9) rfl d_U_rollForward_49 ?_
          refine lv_aload_n hx hb d_U_rollForward_52 rfl (lv_at hl 1 rfl) ?_
          refine va_get (D := (dC, dI)) (ci := 0) (v := .ref a_r) (C := R_U) (T := F_U) (N := 11) hx hb htT i_U hown hK hP 0 rfl rfl 2 (by decide) (htT _ kf_U_37) (fun _ h9 => h9) rfl d_U_rollForward_53 ?_
          refine va_getN (D := (dC, dI)) (ci := 3) (v := .ref a_rb) (C := R_R) (T := F_R) (N := 6) hx hb htT i_R hown hK hP 1 rfl rfl 1 (by decide) (va_Nw.use rfl (hN _ kf_U_162)) (fun _ h9 => h9) rfl d_U_rollForward_56 ?_
          refine lv_iload_n hx hb d_U_rollForward_59 rfl (lv_at hl 0 rfl) ?_
          obtain ⟨hin, h⟩ := ck_in h
          refine va_iald hx hb hK hP 3 0 rfl rfl hin d_U_rollForward_60 ?_
          refine lv_aload_n hx hb d_U_rollForward_61 rfl (lv_at hl 1 rfl) ?_
          refine va_get (D := (dC, dI)) (ci := 0) (v := .ref a_r) (C := R_U) (T := F_U) (N := 11) hx hb htT i_U hown hK hP 0 rfl rfl 2 (by decide) (htT _ kf_U_37) (fun _ h9 => h9) rfl d_U_rollForward_62 ?_
          refine va_getN (D := (dC, dI)) (ci := 3) (v := .ref a_rz) (C := R_R) (T := F_R) (N := 6) hx hb htT i_R hown hK hP 1 rfl rfl 3 (by decide) (va_Nw.use rfl (hN _ kf_U_168)) (fun _ h9 => h9) rfl d_U_rollForward_65 ?_
          refine lv_iload_n hx hb d_U_rollForward_68 rfl (lv_at hl 0 rfl) ?_
          obtain ⟨hin, h⟩ := ck_in h
          refine va_zald hx hb hK hP 5 1 rfl rfl hin d_U_rollForward_69 ?_
          refine lv_if_eq (tgt := 77) hx hb d_U_rollForward_70 (by decide) (fun hc => ?_) (fun hc => ?_)
          · have h := ck_t hc h
            refine lv_iconst (v := (-1 : Int32)) hx hb d_U_rollForward_77 (by decide) ?_
            obtain ⟨hin, h⟩ := ck_in h
            refine va_iast hx hb hK hP hD hS 6 0 rfl rfl hin d_U_rollForward_78 (fun H locs hP hD hS => ?_)
            have hP : va_P (dC, dI) classes [(a_u, .inr (0, [.ref a_d, .ref a_p, .ref a_r, .ref a_c, .ref a_st, .ref a_pl, .int uOpen_w4, .int uFill_w4, .int uSaved, .int (uSerial_w4 + (1 : Int32)), .int uDown])), (a_r, .inr (3, [.ref a_rs, .ref a_rb, .ref a_ru, .ref a_rz, .ref a_rh, .ref a_rl])), (a_rs, .inl (cI, N, .inl uSers)), (a_rb, .inl (cI, N, .inl uBlks)), (a_ru, .inl (cI, N, .inl uUnts)), (a_rz, .inl (cZ, N, .inl uStos)), (a_pl, .inl (cI, 16, .inl (upd uPlcs_w4 (uBlks z1.toNatClampNeg).toNatClampNeg (-1 : Int32))))] H := hP
            have hD : va_D A [(a_u, .inr (0, [.ref a_d, .ref a_p, .ref a_r, .ref a_c, .ref a_st, .ref a_pl, .int uOpen_w4, .int uFill_w4, .int uSaved, .int (uSerial_w4 + (1 : Int32)), .int uDown])), (a_r, .inr (3, [.ref a_rs, .ref a_rb, .ref a_ru, .ref a_rz, .ref a_rh, .ref a_rl])), (a_rs, .inl (cI, N, .inl uSers)), (a_rb, .inl (cI, N, .inl uBlks)), (a_ru, .inl (cI, N, .inl uUnts)), (a_rz, .inl (cZ, N, .inl uStos)), (a_pl, .inl (cI, 16, .inl (upd uPlcs_w4 (uBlks z1.toNatClampNeg).toNatClampNeg (-1 : Int32))))] := hD
            refine lv_aload_n hx hb d_U_rollForward_79 rfl (lv_at hl 1 rfl) ?_
            refine lv_iload_n hx hb d_U_rollForward_80 rfl (lv_at hl 0 rfl) ?_
            refine lv_bipush (v := (16 : Int32)) hx hb d_U_rollForward_81 (by decide) ?_
            refine lv_idiv hx hb d_U_rollForward_83 (by decide) ?_
            refine va_put (D := (dC, dI)) (ci := 0) (v := .int (z1 / (16 : Int32))) (ty := .int) (C := R_U) (T := F_U) (N := 11) hx hb htT i_U t_U t_U_ok n_U hown hK hP hD hS 0 rfl rfl 6 (by decide) (htT _ kf_U_156) (fun _ h9 => h9) rfl (by decide +kernel) rfl rfl (Nat.le_of_ble_eq_true rfl) d_U_rollForward_84 (fun H locs hP hD hS => ?_)
            have hP : va_P (dC, dI) classes [(a_u, .inr (0, [.ref a_d, .ref a_p, .ref a_r, .ref a_c, .ref a_st, .ref a_pl, .int (z1 / (16 : Int32)), .int uFill_w4, .int uSaved, .int (uSerial_w4 + (1 : Int32)), .int uDown])), (a_r, .inr (3, [.ref a_rs, .ref a_rb, .ref a_ru, .ref a_rz, .ref a_rh, .ref a_rl])), (a_rs, .inl (cI, N, .inl uSers)), (a_rb, .inl (cI, N, .inl uBlks)), (a_ru, .inl (cI, N, .inl uUnts)), (a_rz, .inl (cZ, N, .inl uStos)), (a_pl, .inl (cI, 16, .inl (upd uPlcs_w4 (uBlks z1.toNatClampNeg).toNatClampNeg (-1 : Int32))))] H := hP
            have hD : va_D A [(a_u, .inr (0, [.ref a_d, .ref a_p, .ref a_r, .ref a_c, .ref a_st, .ref a_pl, .int (z1 / (16 : Int32)), .int uFill_w4, .int uSaved, .int (uSerial_w4 + (1 : Int32)), .int uDown])), (a_r, .inr (3, [.ref a_rs, .ref a_rb, .ref a_ru, .ref a_rz, .ref a_rh, .ref a_rl])), (a_rs, .inl (cI, N, .inl uSers)), (a_rb, .inl (cI, N, .inl uBlks)), (a_ru, .inl (cI, N, .inl uUnts)), (a_rz, .inl (cZ, N, .inl uStos)), (a_pl, .inl (cI, 16, .inl (upd uPlcs_w4 (uBlks z1.toNatClampNeg).toNatClampNeg (-1 : Int32))))] := hD
            refine lv_aload_n hx hb d_U_rollForward_87 rfl (lv_at hl 1 rfl) ?_
            refine lv_iload_n hx hb d_U_rollForward_88 rfl (lv_at hl 0 rfl) ?_
            refine lv_bipush (v := (16 : Int32)) hx hb d_U_rollForward_89 (by decide) ?_
            refine lv_irem hx hb d_U_rollForward_91 (by decide) ?_
            refine lv_aload_n hx hb d_U_rollForward_92 rfl (lv_at hl 1 rfl) ?_
            refine va_get (D := (dC, dI)) (ci := 0) (v := .ref a_r) (C := R_U) (T := F_U) (N := 11) hx hb htT i_U hown hK hP 0 rfl rfl 2 (by decide) (htT _ kf_U_37) (fun _ h9 => h9) rfl d_U_rollForward_93 ?_
            refine va_getN (D := (dC, dI)) (ci := 3) (v := .ref a_ru) (C := R_R) (T := F_R) (N := 6) hx hb htT i_R hown hK hP 1 rfl rfl 2 (by decide) (va_Nw.use rfl (hN _ kf_U_165)) (fun _ h9 => h9) rfl d_U_rollForward_96 ?_
            refine lv_iload_n hx hb d_U_rollForward_99 rfl (lv_at hl 0 rfl) ?_
            obtain ⟨hin, h⟩ := ck_in h
            refine va_iald hx hb hK hP 4 0 rfl rfl hin d_U_rollForward_100 ?_
            refine lv_iadd hx hb d_U_rollForward_101 ?_
            refine va_put (D := (dC, dI)) (ci := 0) (v := .int ((z1 - z1 / (16 : Int32) * (16 : Int32)) + (uUnts z1.toNatClampNeg))) (ty := .int) (C := R_U) (T := F_U) (N := 11) hx hb htT i_U t_U t_U_ok n_U hown hK hP hD hS 0 rfl rfl 7 (by decide) (htT _ kf_U_101) (fun _ h9 => h9) rfl (by decide +kernel) rfl rfl (Nat.le_of_ble_eq_true rfl) d_U_rollForward_102 (fun H locs hP hD hS => ?_)
            have hP : va_P (dC, dI) classes [(a_u, .inr (0, [.ref a_d, .ref a_p, .ref a_r, .ref a_c, .ref a_st, .ref a_pl, .int (z1 / (16 : Int32)), .int ((z1 - z1 / (16 : Int32) * (16 : Int32)) + (uUnts z1.toNatClampNeg)), .int uSaved, .int (uSerial_w4 + (1 : Int32)), .int uDown])), (a_r, .inr (3, [.ref a_rs, .ref a_rb, .ref a_ru, .ref a_rz, .ref a_rh, .ref a_rl])), (a_rs, .inl (cI, N, .inl uSers)), (a_rb, .inl (cI, N, .inl uBlks)), (a_ru, .inl (cI, N, .inl uUnts)), (a_rz, .inl (cZ, N, .inl uStos)), (a_pl, .inl (cI, 16, .inl (upd uPlcs_w4 (uBlks z1.toNatClampNeg).toNatClampNeg (-1 : Int32))))] H := hP
            have hD : va_D A [(a_u, .inr (0, [.ref a_d, .ref a_p, .ref a_r, .ref a_c, .ref a_st, .ref a_pl, .int (z1 / (16 : Int32)), .int ((z1 - z1 / (16 : Int32) * (16 : Int32)) + (uUnts z1.toNatClampNeg)), .int uSaved, .int (uSerial_w4 + (1 : Int32)), .int uDown])), (a_r, .inr (3, [.ref a_rs, .ref a_rb, .ref a_ru, .ref a_rz, .ref a_rh, .ref a_rl])), (a_rs, .inl (cI, N, .inl uSers)), (a_rb, .inl (cI, N, .inl uBlks)), (a_ru, .inl (cI, N, .inl uUnts)), (a_rz, .inl (cZ, N, .inl uStos)), (a_pl, .inl (cI, 16, .inl (upd uPlcs_w4 (uBlks z1.toNatClampNeg).toNatClampNeg (-1 : Int32))))] := hD
            refine lv_iinc (k := 2) (v := (x1_w4 + (1 : Int32))) hx hb d_U_rollForward_105 hl rfl (congrArg (fun y => x1_w4 + y) (by decide)) (by decide) rfl (fun ls hl => ?_)
            have hl : lv_has ls 4 [(1, .int (x1_w4 + (1 : Int32))), (3, .int z1), (0, .ref a_u), (2, .int x2_w4)] := hl
            refine lv_iinc (k := 3) (v := (x2_w4 + (1 : Int32))) hx hb d_U_rollForward_108 hl rfl (congrArg (fun y => x2_w4 + y) (by decide)) (by decide) rfl (fun ls hl => ?_)
            have hl : lv_has ls 4 [(2, .int (x2_w4 + (1 : Int32))), (1, .int (x1_w4 + (1 : Int32))), (3, .int z1), (0, .ref a_u)] := hl
            refine lv_goto (tgt := 4) hx hb d_U_rollForward_111 (by decide) ?_
            have hl : lv_has ls 4 [(0, .ref a_u), (1, .int (x1_w4 + (1 : Int32))), (2, .int (x2_w4 + (1 : Int32)))] := lv_sub hl [3, 1, 0] rfl
            exact ih4 _ _ _ _ _ _ _ _ _ hl hP hD hS h hk4
          · have h := ck_f hc h
            refine lv_iload_n hx hb d_U_rollForward_73 rfl (lv_at hl 0 rfl) ?_
            refine lv_goto (tgt := 78) hx hb d_U_rollForward_74 (by decide) ?_
            obtain ⟨hin, h⟩ := ck_in h
            refine va_iast hx hb hK hP hD hS 6 0 rfl rfl hin d_U_rollForward_78 (fun H locs hP hD hS => ?_)
            have hP : va_P (dC, dI) classes [(a_u, .inr (0, [.ref a_d, .ref a_p, .ref a_r, .ref a_c, .ref a_st, .ref a_pl, .int uOpen_w4, .int uFill_w4, .int uSaved, .int (uSerial_w4 + (1 : Int32)), .int uDown])), (a_r, .inr (3, [.ref a_rs, .ref a_rb, .ref a_ru, .ref a_rz, .ref a_rh, .ref a_rl])), (a_rs, .inl (cI, N, .inl uSers)), (a_rb, .inl (cI, N, .inl uBlks)), (a_ru, .inl (cI, N, .inl uUnts)), (a_rz, .inl (cZ, N, .inl uStos)), (a_pl, .inl (cI, 16, .inl (upd uPlcs_w4 (uBlks z1.toNatClampNeg).toNatClampNeg z1)))] H := hP
            have hD : va_D A [(a_u, .inr (0, [.ref a_d, .ref a_p, .ref a_r, .ref a_c, .ref a_st, .ref a_pl, .int uOpen_w4, .int uFill_w4, .int uSaved, .int (uSerial_w4 + (1 : Int32)), .int uDown])), (a_r, .inr (3, [.ref a_rs, .ref a_rb, .ref a_ru, .ref a_rz, .ref a_rh, .ref a_rl])), (a_rs, .inl (cI, N, .inl uSers)), (a_rb, .inl (cI, N, .inl uBlks)), (a_ru, .inl (cI, N, .inl uUnts)), (a_rz, .inl (cZ, N, .inl uStos)), (a_pl, .inl (cI, 16, .inl (upd uPlcs_w4 (uBlks z1.toNatClampNeg).toNatClampNeg z1)))] := hD
            refine lv_aload_n hx hb d_U_rollForward_79 rfl (lv_at hl 1 rfl) ?_
            refine lv_iload_n hx hb d_U_rollForward_80 rfl (lv_at hl 0 rfl) ?_
            refine lv_bipush (v := (16 : Int32)) hx hb d_U_rollForward_81 (by decide) ?_
            refine lv_idiv hx hb d_U_rollForward_83 (by decide) ?_
            refine va_put (D := (dC, dI)) (ci := 0) (v := .int (z1 / (16 : Int32))) (ty := .int) (C := R_U) (T := F_U) (N := 11) hx hb htT i_U t_U t_U_ok n_U hown hK hP hD hS 0 rfl rfl 6 (by decide) (htT _ kf_U_156) (fun _ h9 => h9) rfl (by decide +kernel) rfl rfl (Nat.le_of_ble_eq_true rfl) d_U_rollForward_84 (fun H locs hP hD hS => ?_)
            have hP : va_P (dC, dI) classes [(a_u, .inr (0, [.ref a_d, .ref a_p, .ref a_r, .ref a_c, .ref a_st, .ref a_pl, .int (z1 / (16 : Int32)), .int uFill_w4, .int uSaved, .int (uSerial_w4 + (1 : Int32)), .int uDown])), (a_r, .inr (3, [.ref a_rs, .ref a_rb, .ref a_ru, .ref a_rz, .ref a_rh, .ref a_rl])), (a_rs, .inl (cI, N, .inl uSers)), (a_rb, .inl (cI, N, .inl uBlks)), (a_ru, .inl (cI, N, .inl uUnts)), (a_rz, .inl (cZ, N, .inl uStos)), (a_pl, .inl (cI, 16, .inl (upd uPlcs_w4 (uBlks z1.toNatClampNeg).toNatClampNeg z1)))] H := hP
            have hD : va_D A [(a_u, .inr (0, [.ref a_d, .ref a_p, .ref a_r, .ref a_c, .ref a_st, .ref a_pl, .int (z1 / (16 : Int32)), .int uFill_w4, .int uSaved, .int (uSerial_w4 + (1 : Int32)), .int uDown])), (a_r, .inr (3, [.ref a_rs, .ref a_rb, .ref a_ru, .ref a_rz, .ref a_rh, .ref a_rl])), (a_rs, .inl (cI, N, .inl uSers)), (a_rb, .inl (cI, N, .inl uBlks)), (a_ru, .inl (cI, N, .inl uUnts)), (a_rz, .inl (cZ, N, .inl uStos)), (a_pl, .inl (cI, 16, .inl (upd uPlcs_w4 (uBlks z1.toNatClampNeg).toNatClampNeg z1)))] := hD
            refine lv_aload_n hx hb d_U_rollForward_87 rfl (lv_at hl 1 rfl) ?_
            refine lv_iload_n hx hb d_U_rollForward_88 rfl (lv_at hl 0 rfl) ?_
            refine lv_bipush (v := (16 : Int32)) hx hb d_U_rollForward_89 (by decide) ?_
            refine lv_irem hx hb d_U_rollForward_91 (by decide) ?_
            refine lv_aload_n hx hb d_U_rollForward_92 rfl (lv_at hl 1 rfl) ?_
            refine va_get (D := (dC, dI)) (ci := 0) (v := .ref a_r) (C := R_U) (T := F_U) (N := 11) hx hb htT i_U hown hK hP 0 rfl rfl 2 (by decide) (htT _ kf_U_37) (fun _ h9 => h9) rfl d_U_rollForward_93 ?_
            refine va_getN (D := (dC, dI)) (ci := 3) (v := .ref a_ru) (C := R_R) (T := F_R) (N := 6) hx hb htT i_R hown hK hP 1 rfl rfl 2 (by decide) (va_Nw.use rfl (hN _ kf_U_165)) (fun _ h9 => h9) rfl d_U_rollForward_96 ?_
            refine lv_iload_n hx hb d_U_rollForward_99 rfl (lv_at hl 0 rfl) ?_
            obtain ⟨hin, h⟩ := ck_in h
            refine va_iald hx hb hK hP 4 0 rfl rfl hin d_U_rollForward_100 ?_
            refine lv_iadd hx hb d_U_rollForward_101 ?_
            refine va_put (D := (dC, dI)) (ci := 0) (v := .int ((z1 - z1 / (16 : Int32) * (16 : Int32)) + (uUnts z1.toNatClampNeg))) (ty := .int) (C := R_U) (T := F_U) (N := 11) hx hb htT i_U t_U t_U_ok n_U hown hK hP hD hS 0 rfl rfl 7 (by decide) (htT _ kf_U_101) (fun _ h9 => h9) rfl (by decide +kernel) rfl rfl (Nat.le_of_ble_eq_true rfl) d_U_rollForward_102 (fun H locs hP hD hS => ?_)
            have hP : va_P (dC, dI) classes [(a_u, .inr (0, [.ref a_d, .ref a_p, .ref a_r, .ref a_c, .ref a_st, .ref a_pl, .int (z1 / (16 : Int32)), .int ((z1 - z1 / (16 : Int32) * (16 : Int32)) + (uUnts z1.toNatClampNeg)), .int uSaved, .int (uSerial_w4 + (1 : Int32)), .int uDown])), (a_r, .inr (3, [.ref a_rs, .ref a_rb, .ref a_ru, .ref a_rz, .ref a_rh, .ref a_rl])), (a_rs, .inl (cI, N, .inl uSers)), (a_rb, .inl (cI, N, .inl uBlks)), (a_ru, .inl (cI, N, .inl uUnts)), (a_rz, .inl (cZ, N, .inl uStos)), (a_pl, .inl (cI, 16, .inl (upd uPlcs_w4 (uBlks z1.toNatClampNeg).toNatClampNeg z1)))] H := hP
            have hD : va_D A [(a_u, .inr (0, [.ref a_d, .ref a_p, .ref a_r, .ref a_c, .ref a_st, .ref a_pl, .int (z1 / (16 : Int32)), .int ((z1 - z1 / (16 : Int32) * (16 : Int32)) + (uUnts z1.toNatClampNeg)), .int uSaved, .int (uSerial_w4 + (1 : Int32)), .int uDown])), (a_r, .inr (3, [.ref a_rs, .ref a_rb, .ref a_ru, .ref a_rz, .ref a_rh, .ref a_rl])), (a_rs, .inl (cI, N, .inl uSers)), (a_rb, .inl (cI, N, .inl uBlks)), (a_ru, .inl (cI, N, .inl uUnts)), (a_rz, .inl (cZ, N, .inl uStos)), (a_pl, .inl (cI, 16, .inl (upd uPlcs_w4 (uBlks z1.toNatClampNeg).toNatClampNeg z1)))] := hD
            refine lv_iinc (k := 2) (v := (x1_w4 + (1 : Int32))) hx hb d_U_rollForward_105 hl rfl (congrArg (fun y => x1_w4 + y) (by decide)) (by decide) rfl (fun ls hl => ?_)
            have hl : lv_has ls 4 [(1, .int (x1_w4 + (1 : Int32))), (3, .int z1), (0, .ref a_u), (2, .int x2_w4)] := hl
            refine lv_iinc (k := 3) (v := (x2_w4 + (1 : Int32))) hx hb d_U_rollForward_108 hl rfl (congrArg (fun y => x2_w4 + y) (by decide)) (by decide) rfl (fun ls hl => ?_)
            have hl : lv_has ls 4 [(2, .int (x2_w4 + (1 : Int32))), (1, .int (x1_w4 + (1 : Int32))), (3, .int z1), (0, .ref a_u)] := hl
            refine lv_goto (tgt := 4) hx hb d_U_rollForward_111 (by decide) ?_
            have hl : lv_has ls 4 [(0, .ref a_u), (1, .int (x1_w4 + (1 : Int32))), (2, .int (x2_w4 + (1 : Int32)))] := lv_sub hl [3, 1, 0] rfl
            exact ih4 _ _ _ _ _ _ _ _ _ hl hP hD hS h hk4
        · have h := ck_t hc h
          refine lv_goto (tgt := 114) hx hb d_U_rollForward_35 (by decide) ?_
          have hl : lv_has ls 4 [(0, .ref a_u), (1, .int x1_w4), (2, .int x2_w4)] := lv_sub hl [1, 2, 3] rfl
          exact hk4 _ _ _ _ _ _ _ _ _ hl hP hD hS h
  have hl : lv_has ls 4 [(0, .ref a_u), (1, .int (0 : Int32)), (2, .int (0 : Int32))] := lv_sub hl [2, 1, 0] rfl
  refine L4 _ _ _ _ _ _ _ _ _ _ _ hl hP hD hS h ?_
  intro uOpen_k4 uFill_k4 uSerial_k4 uPlcs_k4 x1_k4 x2_k4 ls H locs hl hP hD hS h
  refine lv_iload_n hx hb d_U_rollForward_114 rfl (lv_at hl 1 rfl) ?_
  exact W.iret (v := x1_k4) hx hb hr (fun t ht hW => ⟨⟨x1_k4, (uOpen_k4, uFill_k4, uSerial_k4, uPlcs_k4), rfl, (Option.some.inj h).symm, by rw [ht]; exact hP, va_K.moved hW.alike hK, hD⟩, hS.F ht⟩) hS.2.2 d_U_rollForward_115
set_option maxHeartbeats 4000000 in
set_option maxRecDepth 100000 in
theorem c_U_isLive (l : Launch) (dC : Nat → ClassId) (dI : Nat → Nat → Nat) (cI cZ cJ : ClassId) (a_u a_d a_p a_pb a_pf a_r a_rs a_rb a_ru a_rz a_rh a_rl a_c a_cp a_st a_pl : Nat) (sz n N : Nat) (uOpen : Int32) (uFill : Int32) (uSaved : Int32) (uSerial : Int32) (uDown : Int32) (uBlks : Nat → Int32) (uPlcs : Nat → Int32) (x1 : Int32) (res : Int32) (hM : U_isLive N uBlks uPlcs x1 = some res) : Met l y_U_isLive w_U_isLive ({ frames := 0, cells := 0, slots := 0, locals := 0 }) (va_Pc [.ref a_u, .int x1] (fun U => U.heap.size = sz ∧ va_P (dC, dI) classes [(a_u, .inr (0, [.ref a_d, .ref a_p, .ref a_r, .ref a_c, .ref a_st, .ref a_pl, .int uOpen, .int uFill, .int uSaved, .int uSerial, .int uDown])), (a_r, .inr (3, [.ref a_rs, .ref a_rb, .ref a_ru, .ref a_rz, .ref a_rh, .ref a_rl])), (a_rb, .inl (cI, N, .inl uBlks)), (a_pl, .inl (cI, 16, .inl uPlcs))] U.heap ∧ va_K (dC, dI) classes [(cI, .int), (cZ, .boolean), (cJ, .long)] U ∧ va_D (fun _ => True) [(a_u, .inr (0, [.ref a_d, .ref a_p, .ref a_r, .ref a_c, .ref a_st, .ref a_pl, .int uOpen, .int uFill, .int uSaved, .int uSerial, .int uDown])), (a_r, .inr (3, [.ref a_rs, .ref a_rb, .ref a_ru, .ref a_rz, .ref a_rh, .ref a_rl])), (a_rb, .inl (cI, N, .inl uBlks)), (a_pl, .inl (cI, 16, .inl uPlcs))] ∧ Ns U)) (va_Qi (fun (r : Int32) (z : Unit) => res = r) (fun (z : Unit) (t : State) => va_P (dC, dI) classes [(a_u, .inr (0, [.ref a_d, .ref a_p, .ref a_r, .ref a_c, .ref a_st, .ref a_pl, .int uOpen, .int uFill, .int uSaved, .int uSerial, .int uDown])), (a_r, .inr (3, [.ref a_rs, .ref a_rb, .ref a_ru, .ref a_rz, .ref a_rh, .ref a_rl])), (a_rb, .inl (cI, N, .inl uBlks)), (a_pl, .inl (cI, 16, .inl uPlcs))] t.heap ∧ va_K (dC, dI) classes [(cI, .int), (cZ, .boolean), (cJ, .long)] t ∧ va_D (va_A [(a_u, .inr (0, [.ref a_d, .ref a_p, .ref a_r, .ref a_c, .ref a_st, .ref a_pl, .int uOpen, .int uFill, .int uSaved, .int uSerial, .int uDown])), (a_r, .inr (3, [.ref a_rs, .ref a_rb, .ref a_ru, .ref a_rz, .ref a_rh, .ref a_rl])), (a_rb, .inl (cI, N, .inl uBlks)), (a_pl, .inl (cI, 16, .inl uPlcs))] sz) [(a_u, .inr (0, [.ref a_d, .ref a_p, .ref a_r, .ref a_c, .ref a_st, .ref a_pl, .int uOpen, .int uFill, .int uSaved, .int uSerial, .int uDown])), (a_r, .inr (3, [.ref a_rs, .ref a_rb, .ref a_ru, .ref a_rz, .ref a_rh, .ref a_rl])), (a_rb, .inl (cI, N, .inl uBlks)), (a_pl, .inl (cI, 16, .inl uPlcs))]) (va_A [(a_u, .inr (0, [.ref a_d, .ref a_p, .ref a_r, .ref a_c, .ref a_st, .ref a_pl, .int uOpen, .int uFill, .int uSaved, .int uSerial, .int uDown])), (a_r, .inr (3, [.ref a_rs, .ref a_rb, .ref a_ru, .ref a_rz, .ref a_rh, .ref a_rl])), (a_rb, .inl (cI, N, .inl uBlks)), (a_pl, .inl (cI, 16, .inl uPlcs))] sz)) 0 0 (va_A [(a_u, .inr (0, [.ref a_d, .ref a_p, .ref a_r, .ref a_c, .ref a_st, .ref a_pl, .int uOpen, .int uFill, .int uSaved, .int uSerial, .int uDown])), (a_r, .inr (3, [.ref a_rs, .ref a_rb, .ref a_ru, .ref a_rz, .ref a_rh, .ref a_rl])), (a_rb, .inl (cI, N, .inl uBlks)), (a_pl, .inl (cI, 16, .inl uPlcs))] sz) := by
  refine Met.ofW (cc := b_U_isLive) (maxL := 2) (ret := (some .boolean)) (by decide) rfl ?_
  intro p e s m args below meth c s₁ B hml hv
  obtain ⟨rfl, hsz, hP, hK, hD0, hN⟩ := hv
  have hx := B.exec
  have hb := B.bytes
  have hr := B.returns
  have hts := atoms_spec (ws := w_U_isLive) B.pre
  have htT : ∀ w ∈ lwG, w.before _ s = true := fun w h => hts w (List.mem_cons_of_mem _ h)
  have hown : s.vm.findClass R_U = some m.cls := findClass_of_methodNamed B.named
  have hlocks := B.notSynchronized
  subst hsz
  have hD := hD0.self (sz := s.heap.size)
  generalize hAe : va_A [(a_u, .inr (0, [.ref a_d, .ref a_p, .ref a_r, .ref a_c, .ref a_st, .ref a_pl, .int uOpen, .int uFill, .int uSaved, .int uSerial, .int uDown])), (a_r, .inr (3, [.ref a_rs, .ref a_rb, .ref a_ru, .ref a_rz, .ref a_rh, .ref a_rl])), (a_rb, .inl (cI, N, .inl uBlks)), (a_pl, .inl (cI, 16, .inl uPlcs))] s.heap.size = A at hD ⊢
  have hA : ∀ q : Nat, s.heap.size ≤ q → A q := fun q h => by rw [← hAe]; exact Or.inr h
  have hS : va_S A s.heap s.heap [] := va_S.rf
  have hP : va_P (dC, dI) classes [(a_u, .inr (0, [.ref a_d, .ref a_p, .ref a_r, .ref a_c, .ref a_st, .ref a_pl, .int uOpen, .int uFill, .int uSaved, .int uSerial, .int uDown])), (a_r, .inr (3, [.ref a_rs, .ref a_rb, .ref a_ru, .ref a_rz, .ref a_rh, .ref a_rl])), (a_rb, .inl (cI, N, .inl uBlks)), (a_pl, .inl (cI, 16, .inl uPlcs))] s.heap := hP
  have hl := lv_entry ([.ref a_u, .int x1]) (n := 2) (Nat.le_of_ble_eq_true rfl)
  rw [lg_entry_eq]
  generalize (lg_sl ([.ref a_u, .int x1]) ++ List.replicate (2 - (lg_sl ([.ref a_u, .int x1])).length) Slot.unset).toArray = ls at hl ⊢
  have hl : lv_has ls 2 [(0, .ref a_u), (1, .int x1)] := hl
  have h := hM
  rw [U_isLive] at h
  refine lv_aload_n hx hb d_U_isLive_0 rfl (lv_at hl 0 rfl) ?_
  refine va_get (D := (dC, dI)) (ci := 0) (v := .ref a_pl) (C := R_U) (T := F_U) (N := 11) hx hb htT i_U hown hK hP 0 rfl rfl 5 (by decide) (htT _ kf_U_52) (fun _ h9 => h9) rfl d_U_isLive_1 ?_
  refine lv_aload_n hx hb d_U_isLive_4 rfl (lv_at hl 0 rfl) ?_
  refine va_get (D := (dC, dI)) (ci := 0) (v := .ref a_r) (C := R_U) (T := F_U) (N := 11) hx hb htT i_U hown hK hP 0 rfl rfl 2 (by decide) (htT _ kf_U_37) (fun _ h9 => h9) rfl d_U_isLive_5 ?_
  refine va_getN (D := (dC, dI)) (ci := 3) (v := .ref a_rb) (C := R_R) (T := F_R) (N := 6) hx hb htT i_R hown hK hP 1 rfl rfl 1 (by decide) (va_Nw.use rfl (hN _ kf_U_162)) (fun _ h9 => h9) rfl d_U_isLive_8 ?_
  refine lv_iload_n hx hb d_U_isLive_11 rfl (lv_at hl 1 rfl) ?_
  obtain ⟨hin, h⟩ := ck_in h
  refine va_iald hx hb hK hP 2 0 rfl rfl hin d_U_isLive_12 ?_
  obtain ⟨hin, h⟩ := ck_in h
  refine va_iald hx hb hK hP 3 0 rfl rfl hin d_U_isLive_13 ?_
  refine lv_iload_n hx hb d_U_isLive_14 rfl (lv_at hl 1 rfl) ?_
  refine lv_icmp_ne (tgt := 22) hx hb d_U_isLive_15 (by decide) (fun hc => ?_) (fun hc => ?_)
  · have h := ck_f hc h
    refine lv_iconst (v := (0 : Int32)) hx hb d_U_isLive_22 (by decide) ?_
    exact W.zret (v := (0 : Int32)) hx hb hr rfl (fun t ht hW => ⟨⟨(0 : Int32), (), rfl, (Option.some.inj h).symm, by rw [ht]; exact hP, va_K.moved hW.alike hK, hD⟩, hS.F ht⟩) hS.2.2 d_U_isLive_23
  · have h := ck_t hc h
    refine lv_iconst (v := (1 : Int32)) hx hb d_U_isLive_18 (by decide) ?_
    refine lv_goto (tgt := 23) hx hb d_U_isLive_19 (by decide) ?_
    exact W.zret (v := (1 : Int32)) hx hb hr rfl (fun t ht hW => ⟨⟨(1 : Int32), (), rfl, (Option.some.inj h).symm, by rw [ht]; exact hP, va_K.moved hW.alike hK, hD⟩, hS.F ht⟩) hS.2.2 d_U_isLive_23
set_option maxHeartbeats 4000000 in
set_option maxRecDepth 100000 in
theorem c_U_liveUnits (l : Launch) (dC : Nat → ClassId) (dI : Nat → Nat → Nat) (cI cZ cJ : ClassId) (a_u a_d a_p a_pb a_pf a_r a_rs a_rb a_ru a_rz a_rh a_rl a_c a_cp a_st a_pl : Nat) (sz n N : Nat) (uOpen : Int32) (uFill : Int32) (uSaved : Int32) (uSerial : Int32) (uDown : Int32) (uBlks : Nat → Int32) (uUnts : Nat → Int32) (uPlcs : Nat → Int32) (x1 : Int32) (res : Int32) (hM : U_liveUnits N uBlks uUnts uPlcs x1 = some res) : Met l y_U_liveUnits w_U_liveUnits ({ frames := 1, cells := 0, slots := 0, locals := 21 }) (va_Pc [.ref a_u, .int x1] (fun U => U.heap.size = sz ∧ va_P (dC, dI) classes [(a_u, .inr (0, [.ref a_d, .ref a_p, .ref a_r, .ref a_c, .ref a_st, .ref a_pl, .int uOpen, .int uFill, .int uSaved, .int uSerial, .int uDown])), (a_r, .inr (3, [.ref a_rs, .ref a_rb, .ref a_ru, .ref a_rz, .ref a_rh, .ref a_rl])), (a_rb, .inl (cI, N, .inl uBlks)), (a_ru, .inl (cI, N, .inl uUnts)), (a_pl, .inl (cI, 16, .inl uPlcs))] U.heap ∧ va_K (dC, dI) classes [(cI, .int), (cZ, .boolean), (cJ, .long)] U ∧ va_D (fun _ => True) [(a_u, .inr (0, [.ref a_d, .ref a_p, .ref a_r, .ref a_c, .ref a_st, .ref a_pl, .int uOpen, .int uFill, .int uSaved, .int uSerial, .int uDown])), (a_r, .inr (3, [.ref a_rs, .ref a_rb, .ref a_ru, .ref a_rz, .ref a_rh, .ref a_rl])), (a_rb, .inl (cI, N, .inl uBlks)), (a_ru, .inl (cI, N, .inl uUnts)), (a_pl, .inl (cI, 16, .inl uPlcs))] ∧ Ns U)) (va_Qi (fun (r : Int32) (z : Unit) => res = r) (fun (z : Unit) (t : State) => va_P (dC, dI) classes [(a_u, .inr (0, [.ref a_d, .ref a_p, .ref a_r, .ref a_c, .ref a_st, .ref a_pl, .int uOpen, .int uFill, .int uSaved, .int uSerial, .int uDown])), (a_r, .inr (3, [.ref a_rs, .ref a_rb, .ref a_ru, .ref a_rz, .ref a_rh, .ref a_rl])), (a_rb, .inl (cI, N, .inl uBlks)), (a_ru, .inl (cI, N, .inl uUnts)), (a_pl, .inl (cI, 16, .inl uPlcs))] t.heap ∧ va_K (dC, dI) classes [(cI, .int), (cZ, .boolean), (cJ, .long)] t ∧ va_D (va_A [(a_u, .inr (0, [.ref a_d, .ref a_p, .ref a_r, .ref a_c, .ref a_st, .ref a_pl, .int uOpen, .int uFill, .int uSaved, .int uSerial, .int uDown])), (a_r, .inr (3, [.ref a_rs, .ref a_rb, .ref a_ru, .ref a_rz, .ref a_rh, .ref a_rl])), (a_rb, .inl (cI, N, .inl uBlks)), (a_ru, .inl (cI, N, .inl uUnts)), (a_pl, .inl (cI, 16, .inl uPlcs))] sz) [(a_u, .inr (0, [.ref a_d, .ref a_p, .ref a_r, .ref a_c, .ref a_st, .ref a_pl, .int uOpen, .int uFill, .int uSaved, .int uSerial, .int uDown])), (a_r, .inr (3, [.ref a_rs, .ref a_rb, .ref a_ru, .ref a_rz, .ref a_rh, .ref a_rl])), (a_rb, .inl (cI, N, .inl uBlks)), (a_ru, .inl (cI, N, .inl uUnts)), (a_pl, .inl (cI, 16, .inl uPlcs))]) (va_A [(a_u, .inr (0, [.ref a_d, .ref a_p, .ref a_r, .ref a_c, .ref a_st, .ref a_pl, .int uOpen, .int uFill, .int uSaved, .int uSerial, .int uDown])), (a_r, .inr (3, [.ref a_rs, .ref a_rb, .ref a_ru, .ref a_rz, .ref a_rh, .ref a_rl])), (a_rb, .inl (cI, N, .inl uBlks)), (a_ru, .inl (cI, N, .inl uUnts)), (a_pl, .inl (cI, 16, .inl uPlcs))] sz)) 0 0 (va_A [(a_u, .inr (0, [.ref a_d, .ref a_p, .ref a_r, .ref a_c, .ref a_st, .ref a_pl, .int uOpen, .int uFill, .int uSaved, .int uSerial, .int uDown])), (a_r, .inr (3, [.ref a_rs, .ref a_rb, .ref a_ru, .ref a_rz, .ref a_rh, .ref a_rl])), (a_rb, .inl (cI, N, .inl uBlks)), (a_ru, .inl (cI, N, .inl uUnts)), (a_pl, .inl (cI, 16, .inl uPlcs))] sz) := by
  refine Met.ofW (cc := b_U_liveUnits) (maxL := 5) (ret := (some .int)) (by decide) rfl ?_
  intro p e s m args below meth c s₁ B hml hv
  obtain ⟨rfl, hsz, hP, hK, hD0, hN⟩ := hv
  have hx := B.exec
  have hb := B.bytes
  have hr := B.returns
  have hts := atoms_spec (ws := w_U_liveUnits) B.pre
  have htT : ∀ w ∈ lwG, w.before _ s = true := fun w h => hts w (List.mem_cons_of_mem _ h)
  have hown : s.vm.findClass R_U = some m.cls := findClass_of_methodNamed B.named
  have hlocks := B.notSynchronized
  subst hsz
  have hD := hD0.self (sz := s.heap.size)
  generalize hAe : va_A [(a_u, .inr (0, [.ref a_d, .ref a_p, .ref a_r, .ref a_c, .ref a_st, .ref a_pl, .int uOpen, .int uFill, .int uSaved, .int uSerial, .int uDown])), (a_r, .inr (3, [.ref a_rs, .ref a_rb, .ref a_ru, .ref a_rz, .ref a_rh, .ref a_rl])), (a_rb, .inl (cI, N, .inl uBlks)), (a_ru, .inl (cI, N, .inl uUnts)), (a_pl, .inl (cI, 16, .inl uPlcs))] s.heap.size = A at hD ⊢
  have hA : ∀ q : Nat, s.heap.size ≤ q → A q := fun q h => by rw [← hAe]; exact Or.inr h
  have hS : va_S A s.heap s.heap [] := va_S.rf
  have hP : va_P (dC, dI) classes [(a_u, .inr (0, [.ref a_d, .ref a_p, .ref a_r, .ref a_c, .ref a_st, .ref a_pl, .int uOpen, .int uFill, .int uSaved, .int uSerial, .int uDown])), (a_r, .inr (3, [.ref a_rs, .ref a_rb, .ref a_ru, .ref a_rz, .ref a_rh, .ref a_rl])), (a_rb, .inl (cI, N, .inl uBlks)), (a_ru, .inl (cI, N, .inl uUnts)), (a_pl, .inl (cI, 16, .inl uPlcs))] s.heap := hP
  have hl := lv_entry ([.ref a_u, .int x1]) (n := 5) (Nat.le_of_ble_eq_true rfl)
  rw [lg_entry_eq]
  generalize (lg_sl ([.ref a_u, .int x1]) ++ List.replicate (5 - (lg_sl ([.ref a_u, .int x1])).length) Slot.unset).toArray = ls at hl ⊢
  have hl : lv_has ls 5 [(0, .ref a_u), (1, .int x1)] := hl
  have h := hM
  rw [U_liveUnits] at h
  refine lv_iload_n hx hb d_U_liveUnits_0 rfl (lv_at hl 1 rfl) ?_
  refine lv_bipush (v := (16 : Int32)) hx hb d_U_liveUnits_1 (by decide) ?_
  refine lv_imul hx hb d_U_liveUnits_3 ?_
  refine lv_istore_n hx hb d_U_liveUnits_4 rfl hl (by decide) rfl (fun ls hl => ?_)
  have hl : lv_has ls 5 [(2, .int (x1 * (16 : Int32))), (0, .ref a_u), (1, .int x1)] := hl
  refine lv_iconst (v := (0 : Int32)) hx hb d_U_liveUnits_5 (by decide) ?_
  refine lv_istore_n hx hb d_U_liveUnits_6 rfl hl (by decide) rfl (fun ls hl => ?_)
  have hl : lv_has ls 5 [(3, .int (0 : Int32)), (2, .int (x1 * (16 : Int32))), (0, .ref a_u), (1, .int x1)] := hl
  refine lv_iload_n hx hb d_U_liveUnits_7 rfl (lv_at hl 1 rfl) ?_
  refine lv_istore hx hb d_U_liveUnits_8 hl (by decide) rfl (fun ls hl => ?_)
  have hl : lv_has ls 5 [(4, .int (x1 * (16 : Int32))), (3, .int (0 : Int32)), (2, .int (x1 * (16 : Int32))), (0, .ref a_u), (1, .int x1)] := hl
  have L10 : ∀ (K10 : Int32 → Int32 → Option (Int32)) (fuel : Nat) (x3_w10 : Int32) (x4_w10 : Int32) (ls : Array Slot) (H : Heap) (locs : List Loc), lv_has ls 5 [(0, .ref a_u), (2, .int (x1 * (16 : Int32))), (3, .int x3_w10), (4, .int x4_w10)] → va_P (dC, dI) classes [(a_u, .inr (0, [.ref a_d, .ref a_p, .ref a_r, .ref a_c, .ref a_st, .ref a_pl, .int uOpen, .int uFill, .int uSaved, .int uSerial, .int uDown])), (a_r, .inr (3, [.ref a_rs, .ref a_rb, .ref a_ru, .ref a_rz, .ref a_rh, .ref a_rl])), (a_rb, .inl (cI, N, .inl uBlks)), (a_ru, .inl (cI, N, .inl uUnts)), (a_pl, .inl (cI, 16, .inl uPlcs))] H → va_D A [(a_u, .inr (0, [.ref a_d, .ref a_p, .ref a_r, .ref a_c, .ref a_st, .ref a_pl, .int uOpen, .int uFill, .int uSaved, .int uSerial, .int uDown])), (a_r, .inr (3, [.ref a_rs, .ref a_rb, .ref a_ru, .ref a_rz, .ref a_rh, .ref a_rl])), (a_rb, .inl (cI, N, .inl uBlks)), (a_ru, .inl (cI, N, .inl uUnts)), (a_pl, .inl (cI, 16, .inl uPlcs))] → va_S A s.heap H locs → U_liveUnits_L10 N uBlks uUnts uPlcs (x1 * (16 : Int32)) K10 fuel x3_w10 x4_w10 = some res → (∀ (x3_w10 : Int32) (x4_w10 : Int32) (ls : Array Slot) (H : Heap) (locs : List Loc), lv_has ls 5 [(0, .ref a_u), (2, .int (x1 * (16 : Int32))), (3, .int x3_w10), (4, .int x4_w10)] → va_P (dC, dI) classes [(a_u, .inr (0, [.ref a_d, .ref a_p, .ref a_r, .ref a_c, .ref a_st, .ref a_pl, .int uOpen, .int uFill, .int uSaved, .int uSerial, .int uDown])), (a_r, .inr (3, [.ref a_rs, .ref a_rb, .ref a_ru, .ref a_rz, .ref a_rh, .ref a_rl])), (a_rb, .inl (cI, N, .inl uBlks)), (a_ru, .inl (cI, N, .inl uUnts)), (a_pl, .inl (cI, 16, .inl uPlcs))] H → va_D A [(a_u, .inr (0, [.ref a_d, .ref a_p, .ref a_r, .ref a_c, .ref a_st, .ref a_pl, .int uOpen, .int uFill, .int uSaved, .int uSerial, .int uDown])), (a_r, .inr (3, [.ref a_rs, .ref a_rb, .ref a_ru, .ref a_rz, .ref a_rh, .ref a_rl])), (a_rb, .inl (cI, N, .inl uBlks)), (a_ru, .inl (cI, N, .inl uUnts)), (a_pl, .inl (cI, 16, .inl uPlcs))] → va_S A s.heap H locs → K10 x3_w10 x4_w10 = some res → W p l e (headSpec w_U_liveUnits ({ frames := 1, cells := 0, slots := 0, locals := 21 })).room s m ([.ref a_u, .int x1] : List Value).toArray below meth c H locs 0 0 (MQ below (va_Qi (fun (r : Int32) (z : Unit) => res = r) (fun (z : Unit) (t : State) => va_P (dC, dI) classes [(a_u, .inr (0, [.ref a_d, .ref a_p, .ref a_r, .ref a_c, .ref a_st, .ref a_pl, .int uOpen, .int uFill, .int uSaved, .int uSerial, .int uDown])), (a_r, .inr (3, [.ref a_rs, .ref a_rb, .ref a_ru, .ref a_rz, .ref a_rh, .ref a_rl])), (a_rb, .inl (cI, N, .inl uBlks)), (a_ru, .inl (cI, N, .inl uUnts)), (a_pl, .inl (cI, 16, .inl uPlcs))] t.heap ∧ va_K (dC, dI) classes [(cI, .int), (cZ, .boolean), (cJ, .long)] t ∧ va_D A [(a_u, .inr (0, [.ref a_d, .ref a_p, .ref a_r, .ref a_c, .ref a_st, .ref a_pl, .int uOpen, .int uFill, .int uSaved, .int uSerial, .int uDown])), (a_r, .inr (3, [.ref a_rs, .ref a_rb, .ref a_ru, .ref a_rz, .ref a_rh, .ref a_rl])), (a_rb, .inl (cI, N, .inl uBlks)), (a_ru, .inl (cI, N, .inl uUnts)), (a_pl, .inl (cI, 16, .inl uPlcs))]) A) ([.ref a_u, .int x1] : List Value).toArray s 0 0 A) (F0 m 47 ls [])) → W p l e (headSpec w_U_liveUnits ({ frames := 1, cells := 0, slots := 0, locals := 21 })).room s m ([.ref a_u, .int x1] : List Value).toArray below meth c H locs 0 0 (MQ below (va_Qi (fun (r : Int32) (z : Unit) => res = r) (fun (z : Unit) (t : State) => va_P (dC, dI) classes [(a_u, .inr (0, [.ref a_d, .ref a_p, .ref a_r, .ref a_c, .ref a_st, .ref a_pl, .int uOpen, .int uFill, .int uSaved, .int uSerial, .int uDown])), (a_r, .inr (3, [.ref a_rs, .ref a_rb, .ref a_ru, .ref a_rz, .ref a_rh, .ref a_rl])), (a_rb, .inl (cI, N, .inl uBlks)), (a_ru, .inl (cI, N, .inl uUnts)), (a_pl, .inl (cI, 16, .inl uPlcs))] t.heap ∧ va_K (dC, dI) classes [(cI, .int), (cZ, .boolean), (cJ, .long)] t ∧ va_D A [(a_u, .inr (0, [.ref a_d, .ref a_p, .ref a_r, .ref a_c, .ref a_st, .ref a_pl, .int uOpen, .int uFill, .int uSaved, .int uSerial, .int uDown])), (a_r, .inr (3, [.ref a_rs, .ref a_rb, .ref a_ru, .ref a_rz, .ref a_rh, .ref a_rl])), (a_rb, .inl (cI, N, .inl uBlks)), (a_ru, .inl (cI, N, .inl uUnts)), (a_pl, .inl (cI, 16, .inl uPlcs))]) A) ([.ref a_u, .int x1] : List Value).toArray s 0 0 A) (F0 m 10 ls []) := by
    intro K10 fuel
    induction fuel with
    | zero => intro x3_w10 x4_w10 ls H locs hl hP hD hS h hk10; exact absurd (show (none : Option (Int32)) = some res from h) (by intro q; cases q)
    | succ fuel ih10 =>
      intro x3_w10 x4_w10 ls H locs hl hP hD hS h hk10
      rw [U_liveUnits_L10] at h
      refine lv_iload hx hb d_U_liveUnits_10 (lv_at hl 3 rfl) ?_
      refine lv_iload_n hx hb d_U_liveUnits_12 rfl (lv_at hl 1 rfl) ?_
      refine lv_bipush (v := (16 : Int32)) hx hb d_U_liveUnits_13 (by decide) ?_
      refine lv_iadd hx hb d_U_liveUnits_15 ?_
      refine lv_icmp_ge (tgt := 47) hx hb d_U_liveUnits_16 (by decide) (fun hc => ?_) (fun hc => ?_)
      · have h := ck_t hc h
        have hl : lv_has ls 5 [(0, .ref a_u), (2, .int (x1 * (16 : Int32))), (3, .int x3_w10), (4, .int x4_w10)] := lv_sub hl [0, 1, 2, 3] rfl
        exact hk10 _ _ _ _ _ hl hP hD hS h
      · have h := ck_f hc h
        refine lv_aload_n hx hb d_U_liveUnits_19 rfl (lv_at hl 0 rfl) ?_
        refine lv_iload hx hb d_U_liveUnits_20 (lv_at hl 3 rfl) ?_
        obtain ⟨z1, hz, h⟩ := ck_bind h
        have hPc := hP.sub (ws' := [(a_u, .inr (0, [.ref a_d, .ref a_p, .ref a_r, .ref a_c, .ref a_st, .ref a_pl, .int uOpen, .int uFill, .int uSaved, .int uSerial, .int uDown])), (a_r, .inr (3, [.ref a_rs, .ref a_rb, .ref a_ru, .ref a_rz, .ref a_rh, .ref a_rl])), (a_rb, .inl (cI, N, .inl uBlks)), (a_pl, .inl (cI, 16, .inl uPlcs))]) [0, 1, 2, 4] rfl
        have hDc := hD.sub (ws' := [(a_u, .inr (0, [.ref a_d, .ref a_p, .ref a_r, .ref a_c, .ref a_st, .ref a_pl, .int uOpen, .int uFill, .int uSaved, .int uSerial, .int uDown])), (a_r, .inr (3, [.ref a_rs, .ref a_rb, .ref a_ru, .ref a_rz, .ref a_rh, .ref a_rl])), (a_rb, .inl (cI, N, .inl uBlks)), (a_pl, .inl (cI, 16, .inl uPlcs))]) [0, 1, 2, 4] (by decide) rfl
        have hFc := va_free (wc := [(a_u, .inr (0, [.ref a_d, .ref a_p, .ref a_r, .ref a_c, .ref a_st, .ref a_pl, .int uOpen, .int uFill, .int uSaved, .int uSerial, .int uDown])), (a_r, .inr (3, [.ref a_rs, .ref a_rb, .ref a_ru, .ref a_rz, .ref a_rh, .ref a_rl])), (a_rb, .inl (cI, N, .inl uBlks)), (a_pl, .inl (cI, 16, .inl uPlcs))]) hD hS hA [0, 1, 2, 4] rfl
        refine va_calli (va_runV (As := [.int x4_w10]) (rest := []) ⟨hx, hb, hml, hown, htT⟩ (c_U_isLive l dC dI cI cZ cJ a_u a_d a_p a_pb a_pf a_r a_rs a_rb a_ru a_rz a_rh a_rl a_c a_cp a_st a_pl H.size n N uOpen uFill uSaved uSerial uDown uBlks uPlcs x4_w10 z1 hz) (cwV 1 htT (gV kl_U_195 ki_U_isLive ke_U_isLive kn_U kc_U_isLive) rfl rfl rfl (by decide +kernel) ⟨Nat.le_of_ble_eq_true rfl, Nat.le_of_ble_eq_true rfl⟩) ⟨fun a U g mk q => by obtain ⟨q0, q1, qP, qK, qD, qN⟩ := q; exact ⟨q0, q1, qP, va_K.moved (u := U) (U := U.calling g mk a) (Vm.Alike.refl U.vm) qK, qD, Ns.same (u := U) rfl qN⟩, va_recv (q0 := 0) (q := (R_U, F_U, 11)) hK hP (ci := 0) rfl rfl, fun U hU hW => ⟨rfl, by rw [hU], by rw [hU]; exact hPc, va_K.moved hW.alike hK, hDc.weaken (fun _ _ _ _ => trivial), Ns.warm hW hN⟩⟩ rfl rfl hl.1 rfl (lv_room (Nat.le_of_ble_eq_true rfl)) d_U_liveUnits_22 ⟨(Nat.zero_le _), (Nat.zero_le _)⟩) hS (fun q _ h => hFc q h) hFc (fun r u t H locs ht hvm hw hB hz1 hk1 hS => ?_)
        subst hw
        obtain ⟨hP1, hK1, hD1⟩ := hB
        rw [ht] at hP1
        obtain ⟨hP, hD⟩ := va_join (wr := [(a_ru, .inl (cI, N, .inl uUnts))]) (w1 := [(a_u, .inr (0, [.ref a_d, .ref a_p, .ref a_r, .ref a_c, .ref a_st, .ref a_pl, .int uOpen, .int uFill, .int uSaved, .int uSerial, .int uDown])), (a_r, .inr (3, [.ref a_rs, .ref a_rb, .ref a_ru, .ref a_rz, .ref a_rh, .ref a_rl])), (a_rb, .inl (cI, N, .inl uBlks)), (a_pl, .inl (cI, 16, .inl uPlcs))]) hP hD [0, 1, 2, 4] [3] rfl rfl (by decide) (by decide) hk1 hFc hP1 hD1
        have hP := hP.sub (ws' := [(a_u, .inr (0, [.ref a_d, .ref a_p, .ref a_r, .ref a_c, .ref a_st, .ref a_pl, .int uOpen, .int uFill, .int uSaved, .int uSerial, .int uDown])), (a_r, .inr (3, [.ref a_rs, .ref a_rb, .ref a_ru, .ref a_rz, .ref a_rh, .ref a_rl])), (a_rb, .inl (cI, N, .inl uBlks)), (a_ru, .inl (cI, N, .inl uUnts)), (a_pl, .inl (cI, 16, .inl uPlcs))]) [1, 2, 3, 0, 4] rfl
        have hD := hD.sub (ws' := [(a_u, .inr (0, [.ref a_d, .ref a_p, .ref a_r, .ref a_c, .ref a_st, .ref a_pl, .int uOpen, .int uFill, .int uSaved, .int uSerial, .int uDown])), (a_r, .inr (3, [.ref a_rs, .ref a_rb, .ref a_ru, .ref a_rz, .ref a_rh, .ref a_rl])), (a_rb, .inl (cI, N, .inl uBlks)), (a_ru, .inl (cI, N, .inl uUnts)), (a_pl, .inl (cI, 16, .inl uPlcs))]) [1, 2, 3, 0, 4] (by decide) rfl
        have hP : va_P (dC, dI) classes [(a_u, .inr (0, [.ref a_d, .ref a_p, .ref a_r, .ref a_c, .ref a_st, .ref a_pl, .int uOpen, .int uFill, .int uSaved, .int uSerial, .int uDown])), (a_r, .inr (3, [.ref a_rs, .ref a_rb, .ref a_ru, .ref a_rz, .ref a_rh, .ref a_rl])), (a_rb, .inl (cI, N, .inl uBlks)), (a_ru, .inl (cI, N, .inl uUnts)), (a_pl, .inl (cI, 16, .inl uPlcs))] H := hP
        have hD : va_D A [(a_u, .inr (0, [.ref a_d, .ref a_p, .ref a_r, .ref a_c, .ref a_st, .ref a_pl, .int uOpen, .int uFill, .int uSaved, .int uSerial, .int uDown])), (a_r, .inr (3, [.ref a_rs, .ref a_rb, .ref a_ru, .ref a_rz, .ref a_rh, .ref a_rl])), (a_rb, .inl (cI, N, .inl uBlks)), (a_ru, .inl (cI, N, .inl uUnts)), (a_pl, .inl (cI, 16, .inl uPlcs))] := hD
        refine lv_if_eq (tgt := 41) hx hb d_U_liveUnits_25 (by decide) (fun hc => ?_) (fun hc => ?_)
        · have h := ck_t hc h
          refine lv_iinc (k := 3) (v := (x4_w10 + (1 : Int32))) hx hb d_U_liveUnits_41 hl rfl (congrArg (fun y => x4_w10 + y) (by decide)) (by decide) rfl (fun ls hl => ?_)
          have hl : lv_has ls 5 [(4, .int (x4_w10 + (1 : Int32))), (0, .ref a_u), (2, .int (x1 * (16 : Int32))), (3, .int x3_w10)] := hl
          refine lv_goto (tgt := 10) hx hb d_U_liveUnits_44 (by decide) ?_
          have hl : lv_has ls 5 [(0, .ref a_u), (2, .int (x1 * (16 : Int32))), (3, .int x3_w10), (4, .int (x4_w10 + (1 : Int32)))] := lv_sub hl [1, 2, 3, 0] rfl
          exact ih10 _ _ _ _ _ hl hP hD hS h hk10
        · have h := ck_f hc h
          refine lv_iload_n hx hb d_U_liveUnits_28 rfl (lv_at hl 2 rfl) ?_
          refine lv_aload_n hx hb d_U_liveUnits_29 rfl (lv_at hl 0 rfl) ?_
          refine va_get (D := (dC, dI)) (ci := 0) (v := .ref a_r) (C := R_U) (T := F_U) (N := 11) hx hb htT i_U hown hK hP 0 rfl rfl 2 (by decide) (htT _ kf_U_37) (fun _ h9 => h9) rfl d_U_liveUnits_30 ?_
          refine va_getN (D := (dC, dI)) (ci := 3) (v := .ref a_ru) (C := R_R) (T := F_R) (N := 6) hx hb htT i_R hown hK hP 1 rfl rfl 2 (by decide) (va_Nw.use rfl (hN _ kf_U_165)) (fun _ h9 => h9) rfl d_U_liveUnits_33 ?_
          refine lv_iload hx hb d_U_liveUnits_36 (lv_at hl 3 rfl) ?_
          obtain ⟨hin, h⟩ := ck_in h
          refine va_iald hx hb hK hP 3 0 rfl rfl hin d_U_liveUnits_38 ?_
          refine lv_iadd hx hb d_U_liveUnits_39 ?_
          refine lv_istore_n hx hb d_U_liveUnits_40 rfl hl (by decide) rfl (fun ls hl => ?_)
          have hl : lv_has ls 5 [(3, .int (x3_w10 + (uUnts x4_w10.toNatClampNeg))), (0, .ref a_u), (2, .int (x1 * (16 : Int32))), (4, .int x4_w10)] := hl
          refine lv_iinc (k := 3) (v := (x4_w10 + (1 : Int32))) hx hb d_U_liveUnits_41 hl rfl (congrArg (fun y => x4_w10 + y) (by decide)) (by decide) rfl (fun ls hl => ?_)
          have hl : lv_has ls 5 [(4, .int (x4_w10 + (1 : Int32))), (3, .int (x3_w10 + (uUnts x4_w10.toNatClampNeg))), (0, .ref a_u), (2, .int (x1 * (16 : Int32)))] := hl
          refine lv_goto (tgt := 10) hx hb d_U_liveUnits_44 (by decide) ?_
          have hl : lv_has ls 5 [(0, .ref a_u), (2, .int (x1 * (16 : Int32))), (3, .int (x3_w10 + (uUnts x4_w10.toNatClampNeg))), (4, .int (x4_w10 + (1 : Int32)))] := lv_sub hl [2, 3, 1, 0] rfl
          exact ih10 _ _ _ _ _ hl hP hD hS h hk10
  have hl : lv_has ls 5 [(0, .ref a_u), (2, .int (x1 * (16 : Int32))), (3, .int (0 : Int32)), (4, .int (x1 * (16 : Int32)))] := lv_sub hl [3, 2, 1, 0] rfl
  refine L10 _ _ _ _ _ _ _ hl hP hD hS h ?_
  intro x3_k10 x4_k10 ls H locs hl hP hD hS h
  refine lv_iload_n hx hb d_U_liveUnits_47 rfl (lv_at hl 2 rfl) ?_
  exact W.iret (v := x3_k10) hx hb hr (fun t ht hW => ⟨⟨x3_k10, (), rfl, (Option.some.inj h).symm, by rw [ht]; exact hP, va_K.moved hW.alike hK, hD⟩, hS.F ht⟩) hS.2.2 d_U_liveUnits_48
set_option maxHeartbeats 4000000 in
set_option maxRecDepth 100000 in
theorem c_U_sortSegments (l : Launch) (dC : Nat → ClassId) (dI : Nat → Nat → Nat) (cI cZ cJ : ClassId) (a_u a_d a_p a_pb a_pf a_r a_rs a_rb a_ru a_rz a_rh a_rl a_c a_cp a_st a_pl : Nat) (sz n N : Nat) (uOpen : Int32) (uFill : Int32) (uSaved : Int32) (uSerial : Int32) (uDown : Int32) (uBlks : Nat → Int32) (uUnts : Nat → Int32) (uSts : Nat → Int32) (uPlcs : Nat → Int32)  (res : Nat → Int32) (hM : U_sortSegments n N uOpen uBlks uUnts uSts uPlcs = some res) : Met l y_U_sortSegments w_U_sortSegments ({ frames := 2, cells := 0, slots := 0, locals := 45 }) (va_Pc [.ref a_u] (fun U => U.heap.size = sz ∧ va_P (dC, dI) classes [(a_u, .inr (0, [.ref a_d, .ref a_p, .ref a_r, .ref a_c, .ref a_st, .ref a_pl, .int uOpen, .int uFill, .int uSaved, .int uSerial, .int uDown])), (a_r, .inr (3, [.ref a_rs, .ref a_rb, .ref a_ru, .ref a_rz, .ref a_rh, .ref a_rl])), (a_rb, .inl (cI, N, .inl uBlks)), (a_ru, .inl (cI, N, .inl uUnts)), (a_st, .inl (cI, n, .inl uSts)), (a_pl, .inl (cI, 16, .inl uPlcs))] U.heap ∧ va_K (dC, dI) classes [(cI, .int), (cZ, .boolean), (cJ, .long)] U ∧ va_D (fun _ => True) [(a_u, .inr (0, [.ref a_d, .ref a_p, .ref a_r, .ref a_c, .ref a_st, .ref a_pl, .int uOpen, .int uFill, .int uSaved, .int uSerial, .int uDown])), (a_r, .inr (3, [.ref a_rs, .ref a_rb, .ref a_ru, .ref a_rz, .ref a_rh, .ref a_rl])), (a_rb, .inl (cI, N, .inl uBlks)), (a_ru, .inl (cI, N, .inl uUnts)), (a_st, .inl (cI, n, .inl uSts)), (a_pl, .inl (cI, 16, .inl uPlcs))] ∧ Ns U)) (va_Qv (fun (z : Nat → Int32) => res = z) (fun (z : Nat → Int32) (t : State) => va_P (dC, dI) classes [(a_u, .inr (0, [.ref a_d, .ref a_p, .ref a_r, .ref a_c, .ref a_st, .ref a_pl, .int uOpen, .int uFill, .int uSaved, .int uSerial, .int uDown])), (a_r, .inr (3, [.ref a_rs, .ref a_rb, .ref a_ru, .ref a_rz, .ref a_rh, .ref a_rl])), (a_rb, .inl (cI, N, .inl uBlks)), (a_ru, .inl (cI, N, .inl uUnts)), (a_st, .inl (cI, n, .inl z)), (a_pl, .inl (cI, 16, .inl uPlcs))] t.heap ∧ va_K (dC, dI) classes [(cI, .int), (cZ, .boolean), (cJ, .long)] t ∧ va_D (va_A [(a_u, .inr (0, [.ref a_d, .ref a_p, .ref a_r, .ref a_c, .ref a_st, .ref a_pl, .int uOpen, .int uFill, .int uSaved, .int uSerial, .int uDown])), (a_r, .inr (3, [.ref a_rs, .ref a_rb, .ref a_ru, .ref a_rz, .ref a_rh, .ref a_rl])), (a_rb, .inl (cI, N, .inl uBlks)), (a_ru, .inl (cI, N, .inl uUnts)), (a_st, .inl (cI, n, .inl uSts)), (a_pl, .inl (cI, 16, .inl uPlcs))] sz) [(a_u, .inr (0, [.ref a_d, .ref a_p, .ref a_r, .ref a_c, .ref a_st, .ref a_pl, .int uOpen, .int uFill, .int uSaved, .int uSerial, .int uDown])), (a_r, .inr (3, [.ref a_rs, .ref a_rb, .ref a_ru, .ref a_rz, .ref a_rh, .ref a_rl])), (a_rb, .inl (cI, N, .inl uBlks)), (a_ru, .inl (cI, N, .inl uUnts)), (a_st, .inl (cI, n, .inl z)), (a_pl, .inl (cI, 16, .inl uPlcs))]) (va_A [(a_u, .inr (0, [.ref a_d, .ref a_p, .ref a_r, .ref a_c, .ref a_st, .ref a_pl, .int uOpen, .int uFill, .int uSaved, .int uSerial, .int uDown])), (a_r, .inr (3, [.ref a_rs, .ref a_rb, .ref a_ru, .ref a_rz, .ref a_rh, .ref a_rl])), (a_rb, .inl (cI, N, .inl uBlks)), (a_ru, .inl (cI, N, .inl uUnts)), (a_st, .inl (cI, n, .inl uSts)), (a_pl, .inl (cI, 16, .inl uPlcs))] sz)) 0 0 (va_A [(a_u, .inr (0, [.ref a_d, .ref a_p, .ref a_r, .ref a_c, .ref a_st, .ref a_pl, .int uOpen, .int uFill, .int uSaved, .int uSerial, .int uDown])), (a_r, .inr (3, [.ref a_rs, .ref a_rb, .ref a_ru, .ref a_rz, .ref a_rh, .ref a_rl])), (a_rb, .inl (cI, N, .inl uBlks)), (a_ru, .inl (cI, N, .inl uUnts)), (a_st, .inl (cI, n, .inl uSts)), (a_pl, .inl (cI, 16, .inl uPlcs))] sz) := by
  refine Met.ofW (cc := b_U_sortSegments) (maxL := 2) (ret := none) (by decide) rfl ?_
  intro p e s m args below meth c s₁ B hml hv
  obtain ⟨rfl, hsz, hP, hK, hD0, hN⟩ := hv
  have hx := B.exec
  have hb := B.bytes
  have hr := B.returns
  have hts := atoms_spec (ws := w_U_sortSegments) B.pre
  have htT : ∀ w ∈ lwG, w.before _ s = true := fun w h => hts w (List.mem_cons_of_mem _ h)
  have hown : s.vm.findClass R_U = some m.cls := findClass_of_methodNamed B.named
  have hlocks := B.notSynchronized
  subst hsz
  have hD := hD0.self (sz := s.heap.size)
  generalize hAe : va_A [(a_u, .inr (0, [.ref a_d, .ref a_p, .ref a_r, .ref a_c, .ref a_st, .ref a_pl, .int uOpen, .int uFill, .int uSaved, .int uSerial, .int uDown])), (a_r, .inr (3, [.ref a_rs, .ref a_rb, .ref a_ru, .ref a_rz, .ref a_rh, .ref a_rl])), (a_rb, .inl (cI, N, .inl uBlks)), (a_ru, .inl (cI, N, .inl uUnts)), (a_st, .inl (cI, n, .inl uSts)), (a_pl, .inl (cI, 16, .inl uPlcs))] s.heap.size = A at hD ⊢
  have hA : ∀ q : Nat, s.heap.size ≤ q → A q := fun q h => by rw [← hAe]; exact Or.inr h
  have hS : va_S A s.heap s.heap [] := va_S.rf
  have hP : va_P (dC, dI) classes [(a_u, .inr (0, [.ref a_d, .ref a_p, .ref a_r, .ref a_c, .ref a_st, .ref a_pl, .int uOpen, .int uFill, .int uSaved, .int uSerial, .int uDown])), (a_r, .inr (3, [.ref a_rs, .ref a_rb, .ref a_ru, .ref a_rz, .ref a_rh, .ref a_rl])), (a_rb, .inl (cI, N, .inl uBlks)), (a_ru, .inl (cI, N, .inl uUnts)), (a_st, .inl (cI, n, .inl uSts)), (a_pl, .inl (cI, 16, .inl uPlcs))] s.heap := hP
  have hl := lv_entry ([.ref a_u]) (n := 2) (Nat.le_of_ble_eq_true rfl)
  rw [lg_entry_eq]
  generalize (lg_sl ([.ref a_u]) ++ List.replicate (2 - (lg_sl ([.ref a_u])).length) Slot.unset).toArray = ls at hl ⊢
  have hl : lv_has ls 2 [(0, .ref a_u)] := hl
  have h := hM
  rw [U_sortSegments] at h
  refine lv_iconst (v := (0 : Int32)) hx hb d_U_sortSegments_0 (by decide) ?_
  refine lv_istore_n hx hb d_U_sortSegments_1 rfl hl (by decide) rfl (fun ls hl => ?_)
  have hl : lv_has ls 2 [(1, .int (0 : Int32)), (0, .ref a_u)] := hl
  have L2 : ∀ (K2 : (Nat → Int32) → Int32 → Option (Nat → Int32)) (fuel : Nat) (uSts_w2 : Nat → Int32) (x1_w2 : Int32) (ls : Array Slot) (H : Heap) (locs : List Loc), lv_has ls 2 [(0, .ref a_u), (1, .int x1_w2)] → va_P (dC, dI) classes [(a_u, .inr (0, [.ref a_d, .ref a_p, .ref a_r, .ref a_c, .ref a_st, .ref a_pl, .int uOpen, .int uFill, .int uSaved, .int uSerial, .int uDown])), (a_r, .inr (3, [.ref a_rs, .ref a_rb, .ref a_ru, .ref a_rz, .ref a_rh, .ref a_rl])), (a_rb, .inl (cI, N, .inl uBlks)), (a_ru, .inl (cI, N, .inl uUnts)), (a_st, .inl (cI, n, .inl uSts_w2)), (a_pl, .inl (cI, 16, .inl uPlcs))] H → va_D A [(a_u, .inr (0, [.ref a_d, .ref a_p, .ref a_r, .ref a_c, .ref a_st, .ref a_pl, .int uOpen, .int uFill, .int uSaved, .int uSerial, .int uDown])), (a_r, .inr (3, [.ref a_rs, .ref a_rb, .ref a_ru, .ref a_rz, .ref a_rh, .ref a_rl])), (a_rb, .inl (cI, N, .inl uBlks)), (a_ru, .inl (cI, N, .inl uUnts)), (a_st, .inl (cI, n, .inl uSts_w2)), (a_pl, .inl (cI, 16, .inl uPlcs))] → va_S A s.heap H locs → U_sortSegments_L2 n N uBlks uUnts uPlcs K2 fuel uSts_w2 x1_w2 = some res → (∀ (uSts_w2 : Nat → Int32) (x1_w2 : Int32) (ls : Array Slot) (H : Heap) (locs : List Loc), lv_has ls 2 [(0, .ref a_u), (1, .int x1_w2)] → va_P (dC, dI) classes [(a_u, .inr (0, [.ref a_d, .ref a_p, .ref a_r, .ref a_c, .ref a_st, .ref a_pl, .int uOpen, .int uFill, .int uSaved, .int uSerial, .int uDown])), (a_r, .inr (3, [.ref a_rs, .ref a_rb, .ref a_ru, .ref a_rz, .ref a_rh, .ref a_rl])), (a_rb, .inl (cI, N, .inl uBlks)), (a_ru, .inl (cI, N, .inl uUnts)), (a_st, .inl (cI, n, .inl uSts_w2)), (a_pl, .inl (cI, 16, .inl uPlcs))] H → va_D A [(a_u, .inr (0, [.ref a_d, .ref a_p, .ref a_r, .ref a_c, .ref a_st, .ref a_pl, .int uOpen, .int uFill, .int uSaved, .int uSerial, .int uDown])), (a_r, .inr (3, [.ref a_rs, .ref a_rb, .ref a_ru, .ref a_rz, .ref a_rh, .ref a_rl])), (a_rb, .inl (cI, N, .inl uBlks)), (a_ru, .inl (cI, N, .inl uUnts)), (a_st, .inl (cI, n, .inl uSts_w2)), (a_pl, .inl (cI, 16, .inl uPlcs))] → va_S A s.heap H locs → K2 uSts_w2 x1_w2 = some res → W p l e (headSpec w_U_sortSegments ({ frames := 2, cells := 0, slots := 0, locals := 45 })).room s m ([.ref a_u] : List Value).toArray below meth c H locs 0 0 (MQ below (va_Qv (fun (z : Nat → Int32) => res = z) (fun (z : Nat → Int32) (t : State) => va_P (dC, dI) classes [(a_u, .inr (0, [.ref a_d, .ref a_p, .ref a_r, .ref a_c, .ref a_st, .ref a_pl, .int uOpen, .int uFill, .int uSaved, .int uSerial, .int uDown])), (a_r, .inr (3, [.ref a_rs, .ref a_rb, .ref a_ru, .ref a_rz, .ref a_rh, .ref a_rl])), (a_rb, .inl (cI, N, .inl uBlks)), (a_ru, .inl (cI, N, .inl uUnts)), (a_st, .inl (cI, n, .inl z)), (a_pl, .inl (cI, 16, .inl uPlcs))] t.heap ∧ va_K (dC, dI) classes [(cI, .int), (cZ, .boolean), (cJ, .long)] t ∧ va_D A [(a_u, .inr (0, [.ref a_d, .ref a_p, .ref a_r, .ref a_c, .ref a_st, .ref a_pl, .int uOpen, .int uFill, .int uSaved, .int uSerial, .int uDown])), (a_r, .inr (3, [.ref a_rs, .ref a_rb, .ref a_ru, .ref a_rz, .ref a_rh, .ref a_rl])), (a_rb, .inl (cI, N, .inl uBlks)), (a_ru, .inl (cI, N, .inl uUnts)), (a_st, .inl (cI, n, .inl z)), (a_pl, .inl (cI, 16, .inl uPlcs))]) A) ([.ref a_u] : List Value).toArray s 0 0 A) (F0 m 36 ls [])) → W p l e (headSpec w_U_sortSegments ({ frames := 2, cells := 0, slots := 0, locals := 45 })).room s m ([.ref a_u] : List Value).toArray below meth c H locs 0 0 (MQ below (va_Qv (fun (z : Nat → Int32) => res = z) (fun (z : Nat → Int32) (t : State) => va_P (dC, dI) classes [(a_u, .inr (0, [.ref a_d, .ref a_p, .ref a_r, .ref a_c, .ref a_st, .ref a_pl, .int uOpen, .int uFill, .int uSaved, .int uSerial, .int uDown])), (a_r, .inr (3, [.ref a_rs, .ref a_rb, .ref a_ru, .ref a_rz, .ref a_rh, .ref a_rl])), (a_rb, .inl (cI, N, .inl uBlks)), (a_ru, .inl (cI, N, .inl uUnts)), (a_st, .inl (cI, n, .inl z)), (a_pl, .inl (cI, 16, .inl uPlcs))] t.heap ∧ va_K (dC, dI) classes [(cI, .int), (cZ, .boolean), (cJ, .long)] t ∧ va_D A [(a_u, .inr (0, [.ref a_d, .ref a_p, .ref a_r, .ref a_c, .ref a_st, .ref a_pl, .int uOpen, .int uFill, .int uSaved, .int uSerial, .int uDown])), (a_r, .inr (3, [.ref a_rs, .ref a_rb, .ref a_ru, .ref a_rz, .ref a_rh, .ref a_rl])), (a_rb, .inl (cI, N, .inl uBlks)), (a_ru, .inl (cI, N, .inl uUnts)), (a_st, .inl (cI, n, .inl z)), (a_pl, .inl (cI, 16, .inl uPlcs))]) A) ([.ref a_u] : List Value).toArray s 0 0 A) (F0 m 2 ls []) := by
    intro K2 fuel
    induction fuel with
    | zero => intro uSts_w2 x1_w2 ls H locs hl hP hD hS h hk2; exact absurd (show (none : Option (Nat → Int32)) = some res from h) (by intro q; cases q)
    | succ fuel ih2 =>
      intro uSts_w2 x1_w2 ls H locs hl hP hD hS h hk2
      rw [U_sortSegments_L2] at h
      refine lv_iload_n hx hb d_U_sortSegments_2 rfl (lv_at hl 1 rfl) ?_
      refine lv_aload_n hx hb d_U_sortSegments_3 rfl (lv_at hl 0 rfl) ?_
      refine va_get (D := (dC, dI)) (ci := 0) (v := .ref a_st) (C := R_U) (T := F_U) (N := 11) hx hb htT i_U hown hK hP 0 rfl rfl 4 (by decide) (htT _ kf_U_48) (fun _ h9 => h9) rfl d_U_sortSegments_4 ?_
      refine va_alen (v := (nI n)) hx hb hK hP 4 0 rfl rfl rfl d_U_sortSegments_7 ?_
      refine lv_icmp_ge (tgt := 36) hx hb d_U_sortSegments_8 (by decide) (fun hc => ?_) (fun hc => ?_)
      · have h := ck_t hc h
        have hl : lv_has ls 2 [(0, .ref a_u), (1, .int x1_w2)] := lv_sub hl [0, 1] rfl
        exact hk2 _ _ _ _ _ hl hP hD hS h
      · have h := ck_f hc h
        refine lv_aload_n hx hb d_U_sortSegments_11 rfl (lv_at hl 0 rfl) ?_
        refine va_get (D := (dC, dI)) (ci := 0) (v := .ref a_st) (C := R_U) (T := F_U) (N := 11) hx hb htT i_U hown hK hP 0 rfl rfl 4 (by decide) (htT _ kf_U_48) (fun _ h9 => h9) rfl d_U_sortSegments_12 ?_
        refine lv_iload_n hx hb d_U_sortSegments_15 rfl (lv_at hl 1 rfl) ?_
        refine lv_aload_n hx hb d_U_sortSegments_16 rfl (lv_at hl 0 rfl) ?_
        refine lv_iload_n hx hb d_U_sortSegments_17 rfl (lv_at hl 1 rfl) ?_
        obtain ⟨z1, hz, h⟩ := ck_bind h
        have hPc := hP.sub (ws' := [(a_u, .inr (0, [.ref a_d, .ref a_p, .ref a_r, .ref a_c, .ref a_st, .ref a_pl, .int uOpen, .int uFill, .int uSaved, .int uSerial, .int uDown])), (a_r, .inr (3, [.ref a_rs, .ref a_rb, .ref a_ru, .ref a_rz, .ref a_rh, .ref a_rl])), (a_rb, .inl (cI, N, .inl uBlks)), (a_ru, .inl (cI, N, .inl uUnts)), (a_pl, .inl (cI, 16, .inl uPlcs))]) [0, 1, 2, 3, 5] rfl
        have hDc := hD.sub (ws' := [(a_u, .inr (0, [.ref a_d, .ref a_p, .ref a_r, .ref a_c, .ref a_st, .ref a_pl, .int uOpen, .int uFill, .int uSaved, .int uSerial, .int uDown])), (a_r, .inr (3, [.ref a_rs, .ref a_rb, .ref a_ru, .ref a_rz, .ref a_rh, .ref a_rl])), (a_rb, .inl (cI, N, .inl uBlks)), (a_ru, .inl (cI, N, .inl uUnts)), (a_pl, .inl (cI, 16, .inl uPlcs))]) [0, 1, 2, 3, 5] (by decide) rfl
        have hFc := va_free (wc := [(a_u, .inr (0, [.ref a_d, .ref a_p, .ref a_r, .ref a_c, .ref a_st, .ref a_pl, .int uOpen, .int uFill, .int uSaved, .int uSerial, .int uDown])), (a_r, .inr (3, [.ref a_rs, .ref a_rb, .ref a_ru, .ref a_rz, .ref a_rh, .ref a_rl])), (a_rb, .inl (cI, N, .inl uBlks)), (a_ru, .inl (cI, N, .inl uUnts)), (a_pl, .inl (cI, 16, .inl uPlcs))]) hD hS hA [0, 1, 2, 3, 5] rfl
        refine va_calli (va_runV (As := [.int x1_w2]) (rest := [.int x1_w2, .ref a_st]) ⟨hx, hb, hml, hown, htT⟩ (c_U_liveUnits l dC dI cI cZ cJ a_u a_d a_p a_pb a_pf a_r a_rs a_rb a_ru a_rz a_rh a_rl a_c a_cp a_st a_pl H.size n N uOpen uFill uSaved uSerial uDown uBlks uUnts uPlcs x1_w2 z1 hz) (cwV 1 htT (gV kl_U_141 ki_U_liveUnits ke_U_liveUnits kn_U kc_U_liveUnits) rfl rfl rfl (by decide +kernel) ⟨Nat.le_of_ble_eq_true rfl, Nat.le_of_ble_eq_true rfl⟩) ⟨fun a U g mk q => by obtain ⟨q0, q1, qP, qK, qD, qN⟩ := q; exact ⟨q0, q1, qP, va_K.moved (u := U) (U := U.calling g mk a) (Vm.Alike.refl U.vm) qK, qD, Ns.same (u := U) rfl qN⟩, va_recv (q0 := 0) (q := (R_U, F_U, 11)) hK hP (ci := 0) rfl rfl, fun U hU hW => ⟨rfl, by rw [hU], by rw [hU]; exact hPc, va_K.moved hW.alike hK, hDc.weaken (fun _ _ _ _ => trivial), Ns.warm hW hN⟩⟩ rfl rfl hl.1 rfl (lv_room (Nat.le_of_ble_eq_true rfl)) d_U_sortSegments_18 ⟨(Nat.zero_le _), (Nat.zero_le _)⟩) hS (fun q _ h => hFc q h) hFc (fun r u t H locs ht hvm hw hB hz1 hk1 hS => ?_)
        subst hw
        obtain ⟨hP1, hK1, hD1⟩ := hB
        rw [ht] at hP1
        obtain ⟨hP, hD⟩ := va_join (wr := [(a_st, .inl (cI, n, .inl uSts_w2))]) (w1 := [(a_u, .inr (0, [.ref a_d, .ref a_p, .ref a_r, .ref a_c, .ref a_st, .ref a_pl, .int uOpen, .int uFill, .int uSaved, .int uSerial, .int uDown])), (a_r, .inr (3, [.ref a_rs, .ref a_rb, .ref a_ru, .ref a_rz, .ref a_rh, .ref a_rl])), (a_rb, .inl (cI, N, .inl uBlks)), (a_ru, .inl (cI, N, .inl uUnts)), (a_pl, .inl (cI, 16, .inl uPlcs))]) hP hD [0, 1, 2, 3, 5] [4] rfl rfl (by decide) (by decide) hk1 hFc hP1 hD1
        have hP := hP.sub (ws' := [(a_u, .inr (0, [.ref a_d, .ref a_p, .ref a_r, .ref a_c, .ref a_st, .ref a_pl, .int uOpen, .int uFill, .int uSaved, .int uSerial, .int uDown])), (a_r, .inr (3, [.ref a_rs, .ref a_rb, .ref a_ru, .ref a_rz, .ref a_rh, .ref a_rl])), (a_rb, .inl (cI, N, .inl uBlks)), (a_ru, .inl (cI, N, .inl uUnts)), (a_st, .inl (cI, n, .inl uSts_w2)), (a_pl, .inl (cI, 16, .inl uPlcs))]) [1, 2, 3, 4, 0, 5] rfl
        have hD := hD.sub (ws' := [(a_u, .inr (0, [.ref a_d, .ref a_p, .ref a_r, .ref a_c, .ref a_st, .ref a_pl, .int uOpen, .int uFill, .int uSaved, .int uSerial, .int uDown])), (a_r, .inr (3, [.ref a_rs, .ref a_rb, .ref a_ru, .ref a_rz, .ref a_rh, .ref a_rl])), (a_rb, .inl (cI, N, .inl uBlks)), (a_ru, .inl (cI, N, .inl uUnts)), (a_st, .inl (cI, n, .inl uSts_w2)), (a_pl, .inl (cI, 16, .inl uPlcs))]) [1, 2, 3, 4, 0, 5] (by decide) rfl
        have hP : va_P (dC, dI) classes [(a_u, .inr (0, [.ref a_d, .ref a_p, .ref a_r, .ref a_c, .ref a_st, .ref a_pl, .int uOpen, .int uFill, .int uSaved, .int uSerial, .int uDown])), (a_r, .inr (3, [.ref a_rs, .ref a_rb, .ref a_ru, .ref a_rz, .ref a_rh, .ref a_rl])), (a_rb, .inl (cI, N, .inl uBlks)), (a_ru, .inl (cI, N, .inl uUnts)), (a_st, .inl (cI, n, .inl uSts_w2)), (a_pl, .inl (cI, 16, .inl uPlcs))] H := hP
        have hD : va_D A [(a_u, .inr (0, [.ref a_d, .ref a_p, .ref a_r, .ref a_c, .ref a_st, .ref a_pl, .int uOpen, .int uFill, .int uSaved, .int uSerial, .int uDown])), (a_r, .inr (3, [.ref a_rs, .ref a_rb, .ref a_ru, .ref a_rz, .ref a_rh, .ref a_rl])), (a_rb, .inl (cI, N, .inl uBlks)), (a_ru, .inl (cI, N, .inl uUnts)), (a_st, .inl (cI, n, .inl uSts_w2)), (a_pl, .inl (cI, 16, .inl uPlcs))] := hD
        refine lv_if_le (tgt := 28) hx hb d_U_sortSegments_21 (by decide) (fun hc => ?_) (fun hc => ?_)
        · have h := ck_t hc h
          refine lv_iconst (v := (0 : Int32)) hx hb d_U_sortSegments_28 (by decide) ?_
          obtain ⟨hin, h⟩ := ck_in h
          refine va_iast hx hb hK hP hD hS 4 0 rfl rfl hin d_U_sortSegments_29 (fun H locs hP hD hS => ?_)
          have hP : va_P (dC, dI) classes [(a_u, .inr (0, [.ref a_d, .ref a_p, .ref a_r, .ref a_c, .ref a_st, .ref a_pl, .int uOpen, .int uFill, .int uSaved, .int uSerial, .int uDown])), (a_r, .inr (3, [.ref a_rs, .ref a_rb, .ref a_ru, .ref a_rz, .ref a_rh, .ref a_rl])), (a_rb, .inl (cI, N, .inl uBlks)), (a_ru, .inl (cI, N, .inl uUnts)), (a_st, .inl (cI, n, .inl (upd uSts_w2 x1_w2.toNatClampNeg (0 : Int32)))), (a_pl, .inl (cI, 16, .inl uPlcs))] H := hP
          have hD : va_D A [(a_u, .inr (0, [.ref a_d, .ref a_p, .ref a_r, .ref a_c, .ref a_st, .ref a_pl, .int uOpen, .int uFill, .int uSaved, .int uSerial, .int uDown])), (a_r, .inr (3, [.ref a_rs, .ref a_rb, .ref a_ru, .ref a_rz, .ref a_rh, .ref a_rl])), (a_rb, .inl (cI, N, .inl uBlks)), (a_ru, .inl (cI, N, .inl uUnts)), (a_st, .inl (cI, n, .inl (upd uSts_w2 x1_w2.toNatClampNeg (0 : Int32)))), (a_pl, .inl (cI, 16, .inl uPlcs))] := hD
          refine lv_iinc (k := 1) (v := (x1_w2 + (1 : Int32))) hx hb d_U_sortSegments_30 hl rfl (congrArg (fun y => x1_w2 + y) (by decide)) (by decide) rfl (fun ls hl => ?_)
          have hl : lv_has ls 2 [(1, .int (x1_w2 + (1 : Int32))), (0, .ref a_u)] := hl
          refine lv_goto (tgt := 2) hx hb d_U_sortSegments_33 (by decide) ?_
          have hl : lv_has ls 2 [(0, .ref a_u), (1, .int (x1_w2 + (1 : Int32)))] := lv_sub hl [1, 0] rfl
          exact ih2 _ _ _ _ _ hl hP hD hS h hk2
        · have h := ck_f hc h
          refine lv_iconst (v := (2 : Int32)) hx hb d_U_sortSegments_24 (by decide) ?_
          refine lv_goto (tgt := 29) hx hb d_U_sortSegments_25 (by decide) ?_
          obtain ⟨hin, h⟩ := ck_in h
          refine va_iast hx hb hK hP hD hS 4 0 rfl rfl hin d_U_sortSegments_29 (fun H locs hP hD hS => ?_)
          have hP : va_P (dC, dI) classes [(a_u, .inr (0, [.ref a_d, .ref a_p, .ref a_r, .ref a_c, .ref a_st, .ref a_pl, .int uOpen, .int uFill, .int uSaved, .int uSerial, .int uDown])), (a_r, .inr (3, [.ref a_rs, .ref a_rb, .ref a_ru, .ref a_rz, .ref a_rh, .ref a_rl])), (a_rb, .inl (cI, N, .inl uBlks)), (a_ru, .inl (cI, N, .inl uUnts)), (a_st, .inl (cI, n, .inl (upd uSts_w2 x1_w2.toNatClampNeg (2 : Int32)))), (a_pl, .inl (cI, 16, .inl uPlcs))] H := hP
          have hD : va_D A [(a_u, .inr (0, [.ref a_d, .ref a_p, .ref a_r, .ref a_c, .ref a_st, .ref a_pl, .int uOpen, .int uFill, .int uSaved, .int uSerial, .int uDown])), (a_r, .inr (3, [.ref a_rs, .ref a_rb, .ref a_ru, .ref a_rz, .ref a_rh, .ref a_rl])), (a_rb, .inl (cI, N, .inl uBlks)), (a_ru, .inl (cI, N, .inl uUnts)), (a_st, .inl (cI, n, .inl (upd uSts_w2 x1_w2.toNatClampNeg (2 : Int32)))), (a_pl, .inl (cI, 16, .inl uPlcs))] := hD
          refine lv_iinc (k := 1) (v := (x1_w2 + (1 : Int32))) hx hb d_U_sortSegments_30 hl rfl (congrArg (fun y => x1_w2 + y) (by decide)) (by decide) rfl (fun ls hl => ?_)
          have hl : lv_has ls 2 [(1, .int (x1_w2 + (1 : Int32))), (0, .ref a_u)] := hl
          refine lv_goto (tgt := 2) hx hb d_U_sortSegments_33 (by decide) ?_
          have hl : lv_has ls 2 [(0, .ref a_u), (1, .int (x1_w2 + (1 : Int32)))] := lv_sub hl [1, 0] rfl
          exact ih2 _ _ _ _ _ hl hP hD hS h hk2
  have hl : lv_has ls 2 [(0, .ref a_u), (1, .int (0 : Int32))] := lv_sub hl [1, 0] rfl
  refine L2 _ _ _ _ _ _ _ hl hP hD hS h ?_
  intro uSts_k2 x1_k2 ls H locs hl hP hD hS h
  refine lv_aload_n hx hb d_U_sortSegments_36 rfl (lv_at hl 0 rfl) ?_
  refine va_get (D := (dC, dI)) (ci := 0) (v := .ref a_st) (C := R_U) (T := F_U) (N := 11) hx hb htT i_U hown hK hP 0 rfl rfl 4 (by decide) (htT _ kf_U_48) (fun _ h9 => h9) rfl d_U_sortSegments_37 ?_
  refine lv_aload_n hx hb d_U_sortSegments_40 rfl (lv_at hl 0 rfl) ?_
  refine va_get (D := (dC, dI)) (ci := 0) (v := .int uOpen) (C := R_U) (T := F_U) (N := 11) hx hb htT i_U hown hK hP 0 rfl rfl 6 (by decide) (htT _ kf_U_156) (fun _ h9 => h9) rfl d_U_sortSegments_41 ?_
  refine lv_iconst (v := (1 : Int32)) hx hb d_U_sortSegments_44 (by decide) ?_
  obtain ⟨hin, h⟩ := ck_in h
  refine va_iast hx hb hK hP hD hS 4 0 rfl rfl hin d_U_sortSegments_45 (fun H locs hP hD hS => ?_)
  have hP : va_P (dC, dI) classes [(a_u, .inr (0, [.ref a_d, .ref a_p, .ref a_r, .ref a_c, .ref a_st, .ref a_pl, .int uOpen, .int uFill, .int uSaved, .int uSerial, .int uDown])), (a_r, .inr (3, [.ref a_rs, .ref a_rb, .ref a_ru, .ref a_rz, .ref a_rh, .ref a_rl])), (a_rb, .inl (cI, N, .inl uBlks)), (a_ru, .inl (cI, N, .inl uUnts)), (a_st, .inl (cI, n, .inl (upd uSts_k2 uOpen.toNatClampNeg (1 : Int32)))), (a_pl, .inl (cI, 16, .inl uPlcs))] H := hP
  have hD : va_D A [(a_u, .inr (0, [.ref a_d, .ref a_p, .ref a_r, .ref a_c, .ref a_st, .ref a_pl, .int uOpen, .int uFill, .int uSaved, .int uSerial, .int uDown])), (a_r, .inr (3, [.ref a_rs, .ref a_rb, .ref a_ru, .ref a_rz, .ref a_rh, .ref a_rl])), (a_rb, .inl (cI, N, .inl uBlks)), (a_ru, .inl (cI, N, .inl uUnts)), (a_st, .inl (cI, n, .inl (upd uSts_k2 uOpen.toNatClampNeg (1 : Int32)))), (a_pl, .inl (cI, 16, .inl uPlcs))] := hD
  exact W.vret hx hb hr (fun t ht hW => ⟨⟨((upd uSts_k2 uOpen.toNatClampNeg (1 : Int32))), rfl, (Option.some.inj h).symm, by rw [ht]; exact hP, va_K.moved hW.alike hK, hD⟩, hS.F ht⟩) hS.2.2 d_U_sortSegments_46
set_option maxHeartbeats 4000000 in
set_option maxRecDepth 100000 in
theorem c_U_closedWithFewestLive (l : Launch) (dC : Nat → ClassId) (dI : Nat → Nat → Nat) (cI cZ cJ : ClassId) (a_u a_d a_p a_pb a_pf a_r a_rs a_rb a_ru a_rz a_rh a_rl a_c a_cp a_st a_pl : Nat) (sz n N : Nat) (uOpen : Int32) (uFill : Int32) (uSaved : Int32) (uSerial : Int32) (uDown : Int32) (uBlks : Nat → Int32) (uUnts : Nat → Int32) (uSts : Nat → Int32) (uPlcs : Nat → Int32)  (res : Int32) (hM : U_closedWithFewestLive n N uBlks uUnts uSts uPlcs = some res) : Met l y_U_closedWithFewestLive w_U_closedWithFewestLive ({ frames := 2, cells := 0, slots := 0, locals := 45 }) (va_Pc [.ref a_u] (fun U => U.heap.size = sz ∧ va_P (dC, dI) classes [(a_u, .inr (0, [.ref a_d, .ref a_p, .ref a_r, .ref a_c, .ref a_st, .ref a_pl, .int uOpen, .int uFill, .int uSaved, .int uSerial, .int uDown])), (a_r, .inr (3, [.ref a_rs, .ref a_rb, .ref a_ru, .ref a_rz, .ref a_rh, .ref a_rl])), (a_rb, .inl (cI, N, .inl uBlks)), (a_ru, .inl (cI, N, .inl uUnts)), (a_st, .inl (cI, n, .inl uSts)), (a_pl, .inl (cI, 16, .inl uPlcs))] U.heap ∧ va_K (dC, dI) classes [(cI, .int), (cZ, .boolean), (cJ, .long)] U ∧ va_D (fun _ => True) [(a_u, .inr (0, [.ref a_d, .ref a_p, .ref a_r, .ref a_c, .ref a_st, .ref a_pl, .int uOpen, .int uFill, .int uSaved, .int uSerial, .int uDown])), (a_r, .inr (3, [.ref a_rs, .ref a_rb, .ref a_ru, .ref a_rz, .ref a_rh, .ref a_rl])), (a_rb, .inl (cI, N, .inl uBlks)), (a_ru, .inl (cI, N, .inl uUnts)), (a_st, .inl (cI, n, .inl uSts)), (a_pl, .inl (cI, 16, .inl uPlcs))] ∧ Ns U)) (va_Qi (fun (r : Int32) (z : Unit) => res = r) (fun (z : Unit) (t : State) => va_P (dC, dI) classes [(a_u, .inr (0, [.ref a_d, .ref a_p, .ref a_r, .ref a_c, .ref a_st, .ref a_pl, .int uOpen, .int uFill, .int uSaved, .int uSerial, .int uDown])), (a_r, .inr (3, [.ref a_rs, .ref a_rb, .ref a_ru, .ref a_rz, .ref a_rh, .ref a_rl])), (a_rb, .inl (cI, N, .inl uBlks)), (a_ru, .inl (cI, N, .inl uUnts)), (a_st, .inl (cI, n, .inl uSts)), (a_pl, .inl (cI, 16, .inl uPlcs))] t.heap ∧ va_K (dC, dI) classes [(cI, .int), (cZ, .boolean), (cJ, .long)] t ∧ va_D (va_A [(a_u, .inr (0, [.ref a_d, .ref a_p, .ref a_r, .ref a_c, .ref a_st, .ref a_pl, .int uOpen, .int uFill, .int uSaved, .int uSerial, .int uDown])), (a_r, .inr (3, [.ref a_rs, .ref a_rb, .ref a_ru, .ref a_rz, .ref a_rh, .ref a_rl])), (a_rb, .inl (cI, N, .inl uBlks)), (a_ru, .inl (cI, N, .inl uUnts)), (a_st, .inl (cI, n, .inl uSts)), (a_pl, .inl (cI, 16, .inl uPlcs))] sz) [(a_u, .inr (0, [.ref a_d, .ref a_p, .ref a_r, .ref a_c, .ref a_st, .ref a_pl, .int uOpen, .int uFill, .int uSaved, .int uSerial, .int uDown])), (a_r, .inr (3, [.ref a_rs, .ref a_rb, .ref a_ru, .ref a_rz, .ref a_rh, .ref a_rl])), (a_rb, .inl (cI, N, .inl uBlks)), (a_ru, .inl (cI, N, .inl uUnts)), (a_st, .inl (cI, n, .inl uSts)), (a_pl, .inl (cI, 16, .inl uPlcs))]) (va_A [(a_u, .inr (0, [.ref a_d, .ref a_p, .ref a_r, .ref a_c, .ref a_st, .ref a_pl, .int uOpen, .int uFill, .int uSaved, .int uSerial, .int uDown])), (a_r, .inr (3, [.ref a_rs, .ref a_rb, .ref a_ru, .ref a_rz, .ref a_rh, .ref a_rl])), (a_rb, .inl (cI, N, .inl uBlks)), (a_ru, .inl (cI, N, .inl uUnts)), (a_st, .inl (cI, n, .inl uSts)), (a_pl, .inl (cI, 16, .inl uPlcs))] sz)) 0 0 (va_A [(a_u, .inr (0, [.ref a_d, .ref a_p, .ref a_r, .ref a_c, .ref a_st, .ref a_pl, .int uOpen, .int uFill, .int uSaved, .int uSerial, .int uDown])), (a_r, .inr (3, [.ref a_rs, .ref a_rb, .ref a_ru, .ref a_rz, .ref a_rh, .ref a_rl])), (a_rb, .inl (cI, N, .inl uBlks)), (a_ru, .inl (cI, N, .inl uUnts)), (a_st, .inl (cI, n, .inl uSts)), (a_pl, .inl (cI, 16, .inl uPlcs))] sz) := by
  refine Met.ofW (cc := b_U_closedWithFewestLive) (maxL := 4) (ret := (some .int)) (by decide) rfl ?_
  intro p e s m args below meth c s₁ B hml hv
  obtain ⟨rfl, hsz, hP, hK, hD0, hN⟩ := hv
  have hx := B.exec
  have hb := B.bytes
  have hr := B.returns
  have hts := atoms_spec (ws := w_U_closedWithFewestLive) B.pre
  have htT : ∀ w ∈ lwG, w.before _ s = true := fun w h => hts w (List.mem_cons_of_mem _ h)
  have hown : s.vm.findClass R_U = some m.cls := findClass_of_methodNamed B.named
  have hlocks := B.notSynchronized
  subst hsz
  have hD := hD0.self (sz := s.heap.size)
  generalize hAe : va_A [(a_u, .inr (0, [.ref a_d, .ref a_p, .ref a_r, .ref a_c, .ref a_st, .ref a_pl, .int uOpen, .int uFill, .int uSaved, .int uSerial, .int uDown])), (a_r, .inr (3, [.ref a_rs, .ref a_rb, .ref a_ru, .ref a_rz, .ref a_rh, .ref a_rl])), (a_rb, .inl (cI, N, .inl uBlks)), (a_ru, .inl (cI, N, .inl uUnts)), (a_st, .inl (cI, n, .inl uSts)), (a_pl, .inl (cI, 16, .inl uPlcs))] s.heap.size = A at hD ⊢
  have hA : ∀ q : Nat, s.heap.size ≤ q → A q := fun q h => by rw [← hAe]; exact Or.inr h
  have hS : va_S A s.heap s.heap [] := va_S.rf
  have hP : va_P (dC, dI) classes [(a_u, .inr (0, [.ref a_d, .ref a_p, .ref a_r, .ref a_c, .ref a_st, .ref a_pl, .int uOpen, .int uFill, .int uSaved, .int uSerial, .int uDown])), (a_r, .inr (3, [.ref a_rs, .ref a_rb, .ref a_ru, .ref a_rz, .ref a_rh, .ref a_rl])), (a_rb, .inl (cI, N, .inl uBlks)), (a_ru, .inl (cI, N, .inl uUnts)), (a_st, .inl (cI, n, .inl uSts)), (a_pl, .inl (cI, 16, .inl uPlcs))] s.heap := hP
  have hl := lv_entry ([.ref a_u]) (n := 4) (Nat.le_of_ble_eq_true rfl)
  rw [lg_entry_eq]
  generalize (lg_sl ([.ref a_u]) ++ List.replicate (4 - (lg_sl ([.ref a_u])).length) Slot.unset).toArray = ls at hl ⊢
  have hl : lv_has ls 4 [(0, .ref a_u)] := hl
  have h := hM
  rw [U_closedWithFewestLive] at h
  refine lv_iconst (v := (-1 : Int32)) hx hb d_U_closedWithFewestLive_0 (by decide) ?_
  refine lv_istore_n hx hb d_U_closedWithFewestLive_1 rfl hl (by decide) rfl (fun ls hl => ?_)
  have hl : lv_has ls 4 [(1, .int (-1 : Int32)), (0, .ref a_u)] := hl
  refine lv_bipush (v := (17 : Int32)) hx hb d_U_closedWithFewestLive_2 (by decide) ?_
  refine lv_istore_n hx hb d_U_closedWithFewestLive_4 rfl hl (by decide) rfl (fun ls hl => ?_)
  have hl : lv_has ls 4 [(2, .int (17 : Int32)), (1, .int (-1 : Int32)), (0, .ref a_u)] := hl
  refine lv_iconst (v := (0 : Int32)) hx hb d_U_closedWithFewestLive_5 (by decide) ?_
  refine lv_istore_n hx hb d_U_closedWithFewestLive_6 rfl hl (by decide) rfl (fun ls hl => ?_)
  have hl : lv_has ls 4 [(3, .int (0 : Int32)), (2, .int (17 : Int32)), (1, .int (-1 : Int32)), (0, .ref a_u)] := hl
  have L7 : ∀ (K7 : Int32 → Int32 → Int32 → Option (Int32)) (fuel : Nat) (x1_w7 : Int32) (x2_w7 : Int32) (x3_w7 : Int32) (ls : Array Slot) (H : Heap) (locs : List Loc), lv_has ls 4 [(0, .ref a_u), (1, .int x1_w7), (2, .int x2_w7), (3, .int x3_w7)] → va_P (dC, dI) classes [(a_u, .inr (0, [.ref a_d, .ref a_p, .ref a_r, .ref a_c, .ref a_st, .ref a_pl, .int uOpen, .int uFill, .int uSaved, .int uSerial, .int uDown])), (a_r, .inr (3, [.ref a_rs, .ref a_rb, .ref a_ru, .ref a_rz, .ref a_rh, .ref a_rl])), (a_rb, .inl (cI, N, .inl uBlks)), (a_ru, .inl (cI, N, .inl uUnts)), (a_st, .inl (cI, n, .inl uSts)), (a_pl, .inl (cI, 16, .inl uPlcs))] H → va_D A [(a_u, .inr (0, [.ref a_d, .ref a_p, .ref a_r, .ref a_c, .ref a_st, .ref a_pl, .int uOpen, .int uFill, .int uSaved, .int uSerial, .int uDown])), (a_r, .inr (3, [.ref a_rs, .ref a_rb, .ref a_ru, .ref a_rz, .ref a_rh, .ref a_rl])), (a_rb, .inl (cI, N, .inl uBlks)), (a_ru, .inl (cI, N, .inl uUnts)), (a_st, .inl (cI, n, .inl uSts)), (a_pl, .inl (cI, 16, .inl uPlcs))] → va_S A s.heap H locs → U_closedWithFewestLive_L7 n N uBlks uUnts uSts uPlcs K7 fuel x1_w7 x2_w7 x3_w7 = some res → (∀ (x1_w7 : Int32) (x2_w7 : Int32) (x3_w7 : Int32) (ls : Array Slot) (H : Heap) (locs : List Loc), lv_has ls 4 [(0, .ref a_u), (1, .int x1_w7), (2, .int x2_w7), (3, .int x3_w7)] → va_P (dC, dI) classes [(a_u, .inr (0, [.ref a_d, .ref a_p, .ref a_r, .ref a_c, .ref a_st, .ref a_pl, .int uOpen, .int uFill, .int uSaved, .int uSerial, .int uDown])), (a_r, .inr (3, [.ref a_rs, .ref a_rb, .ref a_ru, .ref a_rz, .ref a_rh, .ref a_rl])), (a_rb, .inl (cI, N, .inl uBlks)), (a_ru, .inl (cI, N, .inl uUnts)), (a_st, .inl (cI, n, .inl uSts)), (a_pl, .inl (cI, 16, .inl uPlcs))] H → va_D A [(a_u, .inr (0, [.ref a_d, .ref a_p, .ref a_r, .ref a_c, .ref a_st, .ref a_pl, .int uOpen, .int uFill, .int uSaved, .int uSerial, .int uDown])), (a_r, .inr (3, [.ref a_rs, .ref a_rb, .ref a_ru, .ref a_rz, .ref a_rh, .ref a_rl])), (a_rb, .inl (cI, N, .inl uBlks)), (a_ru, .inl (cI, N, .inl uUnts)), (a_st, .inl (cI, n, .inl uSts)), (a_pl, .inl (cI, 16, .inl uPlcs))] → va_S A s.heap H locs → K7 x1_w7 x2_w7 x3_w7 = some res → W p l e (headSpec w_U_closedWithFewestLive ({ frames := 2, cells := 0, slots := 0, locals := 45 })).room s m ([.ref a_u] : List Value).toArray below meth c H locs 0 0 (MQ below (va_Qi (fun (r : Int32) (z : Unit) => res = r) (fun (z : Unit) (t : State) => va_P (dC, dI) classes [(a_u, .inr (0, [.ref a_d, .ref a_p, .ref a_r, .ref a_c, .ref a_st, .ref a_pl, .int uOpen, .int uFill, .int uSaved, .int uSerial, .int uDown])), (a_r, .inr (3, [.ref a_rs, .ref a_rb, .ref a_ru, .ref a_rz, .ref a_rh, .ref a_rl])), (a_rb, .inl (cI, N, .inl uBlks)), (a_ru, .inl (cI, N, .inl uUnts)), (a_st, .inl (cI, n, .inl uSts)), (a_pl, .inl (cI, 16, .inl uPlcs))] t.heap ∧ va_K (dC, dI) classes [(cI, .int), (cZ, .boolean), (cJ, .long)] t ∧ va_D A [(a_u, .inr (0, [.ref a_d, .ref a_p, .ref a_r, .ref a_c, .ref a_st, .ref a_pl, .int uOpen, .int uFill, .int uSaved, .int uSerial, .int uDown])), (a_r, .inr (3, [.ref a_rs, .ref a_rb, .ref a_ru, .ref a_rz, .ref a_rh, .ref a_rl])), (a_rb, .inl (cI, N, .inl uBlks)), (a_ru, .inl (cI, N, .inl uUnts)), (a_st, .inl (cI, n, .inl uSts)), (a_pl, .inl (cI, 16, .inl uPlcs))]) A) ([.ref a_u] : List Value).toArray s 0 0 A) (F0 m 49 ls [])) → W p l e (headSpec w_U_closedWithFewestLive ({ frames := 2, cells := 0, slots := 0, locals := 45 })).room s m ([.ref a_u] : List Value).toArray below meth c H locs 0 0 (MQ below (va_Qi (fun (r : Int32) (z : Unit) => res = r) (fun (z : Unit) (t : State) => va_P (dC, dI) classes [(a_u, .inr (0, [.ref a_d, .ref a_p, .ref a_r, .ref a_c, .ref a_st, .ref a_pl, .int uOpen, .int uFill, .int uSaved, .int uSerial, .int uDown])), (a_r, .inr (3, [.ref a_rs, .ref a_rb, .ref a_ru, .ref a_rz, .ref a_rh, .ref a_rl])), (a_rb, .inl (cI, N, .inl uBlks)), (a_ru, .inl (cI, N, .inl uUnts)), (a_st, .inl (cI, n, .inl uSts)), (a_pl, .inl (cI, 16, .inl uPlcs))] t.heap ∧ va_K (dC, dI) classes [(cI, .int), (cZ, .boolean), (cJ, .long)] t ∧ va_D A [(a_u, .inr (0, [.ref a_d, .ref a_p, .ref a_r, .ref a_c, .ref a_st, .ref a_pl, .int uOpen, .int uFill, .int uSaved, .int uSerial, .int uDown])), (a_r, .inr (3, [.ref a_rs, .ref a_rb, .ref a_ru, .ref a_rz, .ref a_rh, .ref a_rl])), (a_rb, .inl (cI, N, .inl uBlks)), (a_ru, .inl (cI, N, .inl uUnts)), (a_st, .inl (cI, n, .inl uSts)), (a_pl, .inl (cI, 16, .inl uPlcs))]) A) ([.ref a_u] : List Value).toArray s 0 0 A) (F0 m 7 ls []) := by
    intro K7 fuel
    induction fuel with
    | zero => intro x1_w7 x2_w7 x3_w7 ls H locs hl hP hD hS h hk7; exact absurd (show (none : Option (Int32)) = some res from h) (by intro q; cases q)
    | succ fuel ih7 =>
      intro x1_w7 x2_w7 x3_w7 ls H locs hl hP hD hS h hk7
      rw [U_closedWithFewestLive_L7] at h
      refine lv_iload_n hx hb d_U_closedWithFewestLive_7 rfl (lv_at hl 3 rfl) ?_
      refine lv_aload_n hx hb d_U_closedWithFewestLive_8 rfl (lv_at hl 0 rfl) ?_
      refine va_get (D := (dC, dI)) (ci := 0) (v := .ref a_st) (C := R_U) (T := F_U) (N := 11) hx hb htT i_U hown hK hP 0 rfl rfl 4 (by decide) (htT _ kf_U_48) (fun _ h9 => h9) rfl d_U_closedWithFewestLive_9 ?_
      refine va_alen (v := (nI n)) hx hb hK hP 4 0 rfl rfl rfl d_U_closedWithFewestLive_12 ?_
      refine lv_icmp_ge (tgt := 49) hx hb d_U_closedWithFewestLive_13 (by decide) (fun hc => ?_) (fun hc => ?_)
      · have h := ck_t hc h
        have hl : lv_has ls 4 [(0, .ref a_u), (1, .int x1_w7), (2, .int x2_w7), (3, .int x3_w7)] := lv_sub hl [0, 1, 2, 3] rfl
        exact hk7 _ _ _ _ _ _ hl hP hD hS h
      · have h := ck_f hc h
        refine lv_aload_n hx hb d_U_closedWithFewestLive_16 rfl (lv_at hl 0 rfl) ?_
        refine va_get (D := (dC, dI)) (ci := 0) (v := .ref a_st) (C := R_U) (T := F_U) (N := 11) hx hb htT i_U hown hK hP 0 rfl rfl 4 (by decide) (htT _ kf_U_48) (fun _ h9 => h9) rfl d_U_closedWithFewestLive_17 ?_
        refine lv_iload_n hx hb d_U_closedWithFewestLive_20 rfl (lv_at hl 3 rfl) ?_
        obtain ⟨hin, h⟩ := ck_in h
        refine va_iald hx hb hK hP 4 0 rfl rfl hin d_U_closedWithFewestLive_21 ?_
        refine lv_iconst (v := (2 : Int32)) hx hb d_U_closedWithFewestLive_22 (by decide) ?_
        refine lv_icmp_ne (tgt := 43) hx hb d_U_closedWithFewestLive_23 (by decide) (fun hc => ?_) (fun hc => ?_)
        · have h := ck_f hc h
          refine lv_iinc (k := 3) (v := (x3_w7 + (1 : Int32))) hx hb d_U_closedWithFewestLive_43 hl rfl (congrArg (fun y => x3_w7 + y) (by decide)) (by decide) rfl (fun ls hl => ?_)
          have hl : lv_has ls 4 [(3, .int (x3_w7 + (1 : Int32))), (0, .ref a_u), (1, .int x1_w7), (2, .int x2_w7)] := hl
          refine lv_goto (tgt := 7) hx hb d_U_closedWithFewestLive_46 (by decide) ?_
          have hl : lv_has ls 4 [(0, .ref a_u), (1, .int x1_w7), (2, .int x2_w7), (3, .int (x3_w7 + (1 : Int32)))] := lv_sub hl [1, 2, 3, 0] rfl
          exact ih7 _ _ _ _ _ _ hl hP hD hS h hk7
        · have h := ck_t hc h
          refine lv_aload_n hx hb d_U_closedWithFewestLive_26 rfl (lv_at hl 0 rfl) ?_
          refine lv_iload_n hx hb d_U_closedWithFewestLive_27 rfl (lv_at hl 3 rfl) ?_
          obtain ⟨z1, hz, h⟩ := ck_bind h
          have hPc := hP.sub (ws' := [(a_u, .inr (0, [.ref a_d, .ref a_p, .ref a_r, .ref a_c, .ref a_st, .ref a_pl, .int uOpen, .int uFill, .int uSaved, .int uSerial, .int uDown])), (a_r, .inr (3, [.ref a_rs, .ref a_rb, .ref a_ru, .ref a_rz, .ref a_rh, .ref a_rl])), (a_rb, .inl (cI, N, .inl uBlks)), (a_ru, .inl (cI, N, .inl uUnts)), (a_pl, .inl (cI, 16, .inl uPlcs))]) [0, 1, 2, 3, 5] rfl
          have hDc := hD.sub (ws' := [(a_u, .inr (0, [.ref a_d, .ref a_p, .ref a_r, .ref a_c, .ref a_st, .ref a_pl, .int uOpen, .int uFill, .int uSaved, .int uSerial, .int uDown])), (a_r, .inr (3, [.ref a_rs, .ref a_rb, .ref a_ru, .ref a_rz, .ref a_rh, .ref a_rl])), (a_rb, .inl (cI, N, .inl uBlks)), (a_ru, .inl (cI, N, .inl uUnts)), (a_pl, .inl (cI, 16, .inl uPlcs))]) [0, 1, 2, 3, 5] (by decide) rfl
          have hFc := va_free (wc := [(a_u, .inr (0, [.ref a_d, .ref a_p, .ref a_r, .ref a_c, .ref a_st, .ref a_pl, .int uOpen, .int uFill, .int uSaved, .int uSerial, .int uDown])), (a_r, .inr (3, [.ref a_rs, .ref a_rb, .ref a_ru, .ref a_rz, .ref a_rh, .ref a_rl])), (a_rb, .inl (cI, N, .inl uBlks)), (a_ru, .inl (cI, N, .inl uUnts)), (a_pl, .inl (cI, 16, .inl uPlcs))]) hD hS hA [0, 1, 2, 3, 5] rfl
          refine va_calli (va_runV (As := [.int x3_w7]) (rest := []) ⟨hx, hb, hml, hown, htT⟩ (c_U_liveUnits l dC dI cI cZ cJ a_u a_d a_p a_pb a_pf a_r a_rs a_rb a_ru a_rz a_rh a_rl a_c a_cp a_st a_pl H.size n N uOpen uFill uSaved uSerial uDown uBlks uUnts uPlcs x3_w7 z1 hz) (cwV 1 htT (gV kl_U_141 ki_U_liveUnits ke_U_liveUnits kn_U kc_U_liveUnits) rfl rfl rfl (by decide +kernel) ⟨Nat.le_of_ble_eq_true rfl, Nat.le_of_ble_eq_true rfl⟩) ⟨fun a U g mk q => by obtain ⟨q0, q1, qP, qK, qD, qN⟩ := q; exact ⟨q0, q1, qP, va_K.moved (u := U) (U := U.calling g mk a) (Vm.Alike.refl U.vm) qK, qD, Ns.same (u := U) rfl qN⟩, va_recv (q0 := 0) (q := (R_U, F_U, 11)) hK hP (ci := 0) rfl rfl, fun U hU hW => ⟨rfl, by rw [hU], by rw [hU]; exact hPc, va_K.moved hW.alike hK, hDc.weaken (fun _ _ _ _ => trivial), Ns.warm hW hN⟩⟩ rfl rfl hl.1 rfl (lv_room (Nat.le_of_ble_eq_true rfl)) d_U_closedWithFewestLive_28 ⟨(Nat.zero_le _), (Nat.zero_le _)⟩) hS (fun q _ h => hFc q h) hFc (fun r u t H locs ht hvm hw hB hz1 hk1 hS => ?_)
          subst hw
          obtain ⟨hP1, hK1, hD1⟩ := hB
          rw [ht] at hP1
          obtain ⟨hP, hD⟩ := va_join (wr := [(a_st, .inl (cI, n, .inl uSts))]) (w1 := [(a_u, .inr (0, [.ref a_d, .ref a_p, .ref a_r, .ref a_c, .ref a_st, .ref a_pl, .int uOpen, .int uFill, .int uSaved, .int uSerial, .int uDown])), (a_r, .inr (3, [.ref a_rs, .ref a_rb, .ref a_ru, .ref a_rz, .ref a_rh, .ref a_rl])), (a_rb, .inl (cI, N, .inl uBlks)), (a_ru, .inl (cI, N, .inl uUnts)), (a_pl, .inl (cI, 16, .inl uPlcs))]) hP hD [0, 1, 2, 3, 5] [4] rfl rfl (by decide) (by decide) hk1 hFc hP1 hD1
          have hP := hP.sub (ws' := [(a_u, .inr (0, [.ref a_d, .ref a_p, .ref a_r, .ref a_c, .ref a_st, .ref a_pl, .int uOpen, .int uFill, .int uSaved, .int uSerial, .int uDown])), (a_r, .inr (3, [.ref a_rs, .ref a_rb, .ref a_ru, .ref a_rz, .ref a_rh, .ref a_rl])), (a_rb, .inl (cI, N, .inl uBlks)), (a_ru, .inl (cI, N, .inl uUnts)), (a_st, .inl (cI, n, .inl uSts)), (a_pl, .inl (cI, 16, .inl uPlcs))]) [1, 2, 3, 4, 0, 5] rfl
          have hD := hD.sub (ws' := [(a_u, .inr (0, [.ref a_d, .ref a_p, .ref a_r, .ref a_c, .ref a_st, .ref a_pl, .int uOpen, .int uFill, .int uSaved, .int uSerial, .int uDown])), (a_r, .inr (3, [.ref a_rs, .ref a_rb, .ref a_ru, .ref a_rz, .ref a_rh, .ref a_rl])), (a_rb, .inl (cI, N, .inl uBlks)), (a_ru, .inl (cI, N, .inl uUnts)), (a_st, .inl (cI, n, .inl uSts)), (a_pl, .inl (cI, 16, .inl uPlcs))]) [1, 2, 3, 4, 0, 5] (by decide) rfl
          have hP : va_P (dC, dI) classes [(a_u, .inr (0, [.ref a_d, .ref a_p, .ref a_r, .ref a_c, .ref a_st, .ref a_pl, .int uOpen, .int uFill, .int uSaved, .int uSerial, .int uDown])), (a_r, .inr (3, [.ref a_rs, .ref a_rb, .ref a_ru, .ref a_rz, .ref a_rh, .ref a_rl])), (a_rb, .inl (cI, N, .inl uBlks)), (a_ru, .inl (cI, N, .inl uUnts)), (a_st, .inl (cI, n, .inl uSts)), (a_pl, .inl (cI, 16, .inl uPlcs))] H := hP
          have hD : va_D A [(a_u, .inr (0, [.ref a_d, .ref a_p, .ref a_r, .ref a_c, .ref a_st, .ref a_pl, .int uOpen, .int uFill, .int uSaved, .int uSerial, .int uDown])), (a_r, .inr (3, [.ref a_rs, .ref a_rb, .ref a_ru, .ref a_rz, .ref a_rh, .ref a_rl])), (a_rb, .inl (cI, N, .inl uBlks)), (a_ru, .inl (cI, N, .inl uUnts)), (a_st, .inl (cI, n, .inl uSts)), (a_pl, .inl (cI, 16, .inl uPlcs))] := hD
          refine lv_iload_n hx hb d_U_closedWithFewestLive_31 rfl (lv_at hl 2 rfl) ?_
          refine lv_icmp_ge (tgt := 43) hx hb d_U_closedWithFewestLive_32 (by decide) (fun hc => ?_) (fun hc => ?_)
          · have h := ck_t hc h
            refine lv_iinc (k := 3) (v := (x3_w7 + (1 : Int32))) hx hb d_U_closedWithFewestLive_43 hl rfl (congrArg (fun y => x3_w7 + y) (by decide)) (by decide) rfl (fun ls hl => ?_)
            have hl : lv_has ls 4 [(3, .int (x3_w7 + (1 : Int32))), (0, .ref a_u), (1, .int x1_w7), (2, .int x2_w7)] := hl
            refine lv_goto (tgt := 7) hx hb d_U_closedWithFewestLive_46 (by decide) ?_
            have hl : lv_has ls 4 [(0, .ref a_u), (1, .int x1_w7), (2, .int x2_w7), (3, .int (x3_w7 + (1 : Int32)))] := lv_sub hl [1, 2, 3, 0] rfl
            exact ih7 _ _ _ _ _ _ hl hP hD hS h hk7
          · have h := ck_f hc h
            refine lv_iload_n hx hb d_U_closedWithFewestLive_35 rfl (lv_at hl 3 rfl) ?_
            refine lv_istore_n hx hb d_U_closedWithFewestLive_36 rfl hl (by decide) rfl (fun ls hl => ?_)
            have hl : lv_has ls 4 [(1, .int x3_w7), (0, .ref a_u), (2, .int x2_w7), (3, .int x3_w7)] := hl
            refine lv_aload_n hx hb d_U_closedWithFewestLive_37 rfl (lv_at hl 1 rfl) ?_
            refine lv_iload_n hx hb d_U_closedWithFewestLive_38 rfl (lv_at hl 3 rfl) ?_
            obtain ⟨z2, hz, h⟩ := ck_bind h
            have hPc := hP.sub (ws' := [(a_u, .inr (0, [.ref a_d, .ref a_p, .ref a_r, .ref a_c, .ref a_st, .ref a_pl, .int uOpen, .int uFill, .int uSaved, .int uSerial, .int uDown])), (a_r, .inr (3, [.ref a_rs, .ref a_rb, .ref a_ru, .ref a_rz, .ref a_rh, .ref a_rl])), (a_rb, .inl (cI, N, .inl uBlks)), (a_ru, .inl (cI, N, .inl uUnts)), (a_pl, .inl (cI, 16, .inl uPlcs))]) [0, 1, 2, 3, 5] rfl
            have hDc := hD.sub (ws' := [(a_u, .inr (0, [.ref a_d, .ref a_p, .ref a_r, .ref a_c, .ref a_st, .ref a_pl, .int uOpen, .int uFill, .int uSaved, .int uSerial, .int uDown])), (a_r, .inr (3, [.ref a_rs, .ref a_rb, .ref a_ru, .ref a_rz, .ref a_rh, .ref a_rl])), (a_rb, .inl (cI, N, .inl uBlks)), (a_ru, .inl (cI, N, .inl uUnts)), (a_pl, .inl (cI, 16, .inl uPlcs))]) [0, 1, 2, 3, 5] (by decide) rfl
            have hFc := va_free (wc := [(a_u, .inr (0, [.ref a_d, .ref a_p, .ref a_r, .ref a_c, .ref a_st, .ref a_pl, .int uOpen, .int uFill, .int uSaved, .int uSerial, .int uDown])), (a_r, .inr (3, [.ref a_rs, .ref a_rb, .ref a_ru, .ref a_rz, .ref a_rh, .ref a_rl])), (a_rb, .inl (cI, N, .inl uBlks)), (a_ru, .inl (cI, N, .inl uUnts)), (a_pl, .inl (cI, 16, .inl uPlcs))]) hD hS hA [0, 1, 2, 3, 5] rfl
            refine va_calli (va_runV (As := [.int x3_w7]) (rest := []) ⟨hx, hb, hml, hown, htT⟩ (c_U_liveUnits l dC dI cI cZ cJ a_u a_d a_p a_pb a_pf a_r a_rs a_rb a_ru a_rz a_rh a_rl a_c a_cp a_st a_pl H.size n N uOpen uFill uSaved uSerial uDown uBlks uUnts uPlcs x3_w7 z2 hz) (cwV 1 htT (gV kl_U_141 ki_U_liveUnits ke_U_liveUnits kn_U kc_U_liveUnits) rfl rfl rfl (by decide +kernel) ⟨Nat.le_of_ble_eq_true rfl, Nat.le_of_ble_eq_true rfl⟩) ⟨fun a U g mk q => by obtain ⟨q0, q1, qP, qK, qD, qN⟩ := q; exact ⟨q0, q1, qP, va_K.moved (u := U) (U := U.calling g mk a) (Vm.Alike.refl U.vm) qK, qD, Ns.same (u := U) rfl qN⟩, va_recv (q0 := 0) (q := (R_U, F_U, 11)) hK hP (ci := 0) rfl rfl, fun U hU hW => ⟨rfl, by rw [hU], by rw [hU]; exact hPc, va_K.moved hW.alike hK, hDc.weaken (fun _ _ _ _ => trivial), Ns.warm hW hN⟩⟩ rfl rfl hl.1 rfl (lv_room (Nat.le_of_ble_eq_true rfl)) d_U_closedWithFewestLive_39 ⟨(Nat.zero_le _), (Nat.zero_le _)⟩) hS (fun q _ h => hFc q h) hFc (fun r u t H locs ht hvm hw hB hz1 hk1 hS => ?_)
            subst hw
            obtain ⟨hP1, hK1, hD1⟩ := hB
            rw [ht] at hP1
            obtain ⟨hP, hD⟩ := va_join (wr := [(a_st, .inl (cI, n, .inl uSts))]) (w1 := [(a_u, .inr (0, [.ref a_d, .ref a_p, .ref a_r, .ref a_c, .ref a_st, .ref a_pl, .int uOpen, .int uFill, .int uSaved, .int uSerial, .int uDown])), (a_r, .inr (3, [.ref a_rs, .ref a_rb, .ref a_ru, .ref a_rz, .ref a_rh, .ref a_rl])), (a_rb, .inl (cI, N, .inl uBlks)), (a_ru, .inl (cI, N, .inl uUnts)), (a_pl, .inl (cI, 16, .inl uPlcs))]) hP hD [0, 1, 2, 3, 5] [4] rfl rfl (by decide) (by decide) hk1 hFc hP1 hD1
            have hP := hP.sub (ws' := [(a_u, .inr (0, [.ref a_d, .ref a_p, .ref a_r, .ref a_c, .ref a_st, .ref a_pl, .int uOpen, .int uFill, .int uSaved, .int uSerial, .int uDown])), (a_r, .inr (3, [.ref a_rs, .ref a_rb, .ref a_ru, .ref a_rz, .ref a_rh, .ref a_rl])), (a_rb, .inl (cI, N, .inl uBlks)), (a_ru, .inl (cI, N, .inl uUnts)), (a_st, .inl (cI, n, .inl uSts)), (a_pl, .inl (cI, 16, .inl uPlcs))]) [1, 2, 3, 4, 0, 5] rfl
            have hD := hD.sub (ws' := [(a_u, .inr (0, [.ref a_d, .ref a_p, .ref a_r, .ref a_c, .ref a_st, .ref a_pl, .int uOpen, .int uFill, .int uSaved, .int uSerial, .int uDown])), (a_r, .inr (3, [.ref a_rs, .ref a_rb, .ref a_ru, .ref a_rz, .ref a_rh, .ref a_rl])), (a_rb, .inl (cI, N, .inl uBlks)), (a_ru, .inl (cI, N, .inl uUnts)), (a_st, .inl (cI, n, .inl uSts)), (a_pl, .inl (cI, 16, .inl uPlcs))]) [1, 2, 3, 4, 0, 5] (by decide) rfl
            have hP : va_P (dC, dI) classes [(a_u, .inr (0, [.ref a_d, .ref a_p, .ref a_r, .ref a_c, .ref a_st, .ref a_pl, .int uOpen, .int uFill, .int uSaved, .int uSerial, .int uDown])), (a_r, .inr (3, [.ref a_rs, .ref a_rb, .ref a_ru, .ref a_rz, .ref a_rh, .ref a_rl])), (a_rb, .inl (cI, N, .inl uBlks)), (a_ru, .inl (cI, N, .inl uUnts)), (a_st, .inl (cI, n, .inl uSts)), (a_pl, .inl (cI, 16, .inl uPlcs))] H := hP
            have hD : va_D A [(a_u, .inr (0, [.ref a_d, .ref a_p, .ref a_r, .ref a_c, .ref a_st, .ref a_pl, .int uOpen, .int uFill, .int uSaved, .int uSerial, .int uDown])), (a_r, .inr (3, [.ref a_rs, .ref a_rb, .ref a_ru, .ref a_rz, .ref a_rh, .ref a_rl])), (a_rb, .inl (cI, N, .inl uBlks)), (a_ru, .inl (cI, N, .inl uUnts)), (a_st, .inl (cI, n, .inl uSts)), (a_pl, .inl (cI, 16, .inl uPlcs))] := hD
            refine lv_istore_n hx hb d_U_closedWithFewestLive_42 rfl hl (by decide) rfl (fun ls hl => ?_)
            have hl : lv_has ls 4 [(2, .int z2), (1, .int x3_w7), (0, .ref a_u), (3, .int x3_w7)] := hl
            refine lv_iinc (k := 3) (v := (x3_w7 + (1 : Int32))) hx hb d_U_closedWithFewestLive_43 hl rfl (congrArg (fun y => x3_w7 + y) (by decide)) (by decide) rfl (fun ls hl => ?_)
            have hl : lv_has ls 4 [(3, .int (x3_w7 + (1 : Int32))), (2, .int z2), (1, .int x3_w7), (0, .ref a_u)] := hl
            refine lv_goto (tgt := 7) hx hb d_U_closedWithFewestLive_46 (by decide) ?_
            have hl : lv_has ls 4 [(0, .ref a_u), (1, .int x3_w7), (2, .int z2), (3, .int (x3_w7 + (1 : Int32)))] := lv_sub hl [3, 2, 1, 0] rfl
            exact ih7 _ _ _ _ _ _ hl hP hD hS h hk7
  have hl : lv_has ls 4 [(0, .ref a_u), (1, .int (-1 : Int32)), (2, .int (17 : Int32)), (3, .int (0 : Int32))] := lv_sub hl [3, 2, 1, 0] rfl
  refine L7 _ _ _ _ _ _ _ _ hl hP hD hS h ?_
  intro x1_k7 x2_k7 x3_k7 ls H locs hl hP hD hS h
  refine lv_iload_n hx hb d_U_closedWithFewestLive_49 rfl (lv_at hl 1 rfl) ?_
  exact W.iret (v := x1_k7) hx hb hr (fun t ht hW => ⟨⟨x1_k7, (), rfl, (Option.some.inj h).symm, by rw [ht]; exact hP, va_K.moved hW.alike hK, hD⟩, hS.F ht⟩) hS.2.2 d_U_closedWithFewestLive_50
set_option maxHeartbeats 4000000 in
set_option maxRecDepth 100000 in
theorem c_U_liveRecordsHaveRoom (l : Launch) (dC : Nat → ClassId) (dI : Nat → Nat → Nat) (cI cZ cJ : ClassId) (a_u a_d a_p a_pb a_pf a_r a_rs a_rb a_ru a_rz a_rh a_rl a_c a_cp a_st a_pl : Nat) (sz n N : Nat) (uOpen : Int32) (uFill : Int32) (uSaved : Int32) (uSerial : Int32) (uDown : Int32) (uBlks : Nat → Int32) (uUnts : Nat → Int32) (uSts : Nat → Int32) (uPlcs : Nat → Int32) (x1 : Int32) (res : Int32) (hM : U_liveRecordsHaveRoom n N uFill uBlks uUnts uSts uPlcs x1 = some res) : Met l y_U_liveRecordsHaveRoom w_U_liveRecordsHaveRoom ({ frames := 1, cells := 0, slots := 0, locals := 22 }) (va_Pc [.ref a_u, .int x1] (fun U => U.heap.size = sz ∧ va_P (dC, dI) classes [(a_u, .inr (0, [.ref a_d, .ref a_p, .ref a_r, .ref a_c, .ref a_st, .ref a_pl, .int uOpen, .int uFill, .int uSaved, .int uSerial, .int uDown])), (a_r, .inr (3, [.ref a_rs, .ref a_rb, .ref a_ru, .ref a_rz, .ref a_rh, .ref a_rl])), (a_rb, .inl (cI, N, .inl uBlks)), (a_ru, .inl (cI, N, .inl uUnts)), (a_st, .inl (cI, n, .inl uSts)), (a_pl, .inl (cI, 16, .inl uPlcs))] U.heap ∧ va_K (dC, dI) classes [(cI, .int), (cZ, .boolean), (cJ, .long)] U ∧ va_D (fun _ => True) [(a_u, .inr (0, [.ref a_d, .ref a_p, .ref a_r, .ref a_c, .ref a_st, .ref a_pl, .int uOpen, .int uFill, .int uSaved, .int uSerial, .int uDown])), (a_r, .inr (3, [.ref a_rs, .ref a_rb, .ref a_ru, .ref a_rz, .ref a_rh, .ref a_rl])), (a_rb, .inl (cI, N, .inl uBlks)), (a_ru, .inl (cI, N, .inl uUnts)), (a_st, .inl (cI, n, .inl uSts)), (a_pl, .inl (cI, 16, .inl uPlcs))] ∧ Ns U)) (va_Qi (fun (r : Int32) (z : Unit) => res = r) (fun (z : Unit) (t : State) => va_P (dC, dI) classes [(a_u, .inr (0, [.ref a_d, .ref a_p, .ref a_r, .ref a_c, .ref a_st, .ref a_pl, .int uOpen, .int uFill, .int uSaved, .int uSerial, .int uDown])), (a_r, .inr (3, [.ref a_rs, .ref a_rb, .ref a_ru, .ref a_rz, .ref a_rh, .ref a_rl])), (a_rb, .inl (cI, N, .inl uBlks)), (a_ru, .inl (cI, N, .inl uUnts)), (a_st, .inl (cI, n, .inl uSts)), (a_pl, .inl (cI, 16, .inl uPlcs))] t.heap ∧ va_K (dC, dI) classes [(cI, .int), (cZ, .boolean), (cJ, .long)] t ∧ va_D (va_A [(a_u, .inr (0, [.ref a_d, .ref a_p, .ref a_r, .ref a_c, .ref a_st, .ref a_pl, .int uOpen, .int uFill, .int uSaved, .int uSerial, .int uDown])), (a_r, .inr (3, [.ref a_rs, .ref a_rb, .ref a_ru, .ref a_rz, .ref a_rh, .ref a_rl])), (a_rb, .inl (cI, N, .inl uBlks)), (a_ru, .inl (cI, N, .inl uUnts)), (a_st, .inl (cI, n, .inl uSts)), (a_pl, .inl (cI, 16, .inl uPlcs))] sz) [(a_u, .inr (0, [.ref a_d, .ref a_p, .ref a_r, .ref a_c, .ref a_st, .ref a_pl, .int uOpen, .int uFill, .int uSaved, .int uSerial, .int uDown])), (a_r, .inr (3, [.ref a_rs, .ref a_rb, .ref a_ru, .ref a_rz, .ref a_rh, .ref a_rl])), (a_rb, .inl (cI, N, .inl uBlks)), (a_ru, .inl (cI, N, .inl uUnts)), (a_st, .inl (cI, n, .inl uSts)), (a_pl, .inl (cI, 16, .inl uPlcs))]) (va_A [(a_u, .inr (0, [.ref a_d, .ref a_p, .ref a_r, .ref a_c, .ref a_st, .ref a_pl, .int uOpen, .int uFill, .int uSaved, .int uSerial, .int uDown])), (a_r, .inr (3, [.ref a_rs, .ref a_rb, .ref a_ru, .ref a_rz, .ref a_rh, .ref a_rl])), (a_rb, .inl (cI, N, .inl uBlks)), (a_ru, .inl (cI, N, .inl uUnts)), (a_st, .inl (cI, n, .inl uSts)), (a_pl, .inl (cI, 16, .inl uPlcs))] sz)) 0 0 (va_A [(a_u, .inr (0, [.ref a_d, .ref a_p, .ref a_r, .ref a_c, .ref a_st, .ref a_pl, .int uOpen, .int uFill, .int uSaved, .int uSerial, .int uDown])), (a_r, .inr (3, [.ref a_rs, .ref a_rb, .ref a_ru, .ref a_rz, .ref a_rh, .ref a_rl])), (a_rb, .inl (cI, N, .inl uBlks)), (a_ru, .inl (cI, N, .inl uUnts)), (a_st, .inl (cI, n, .inl uSts)), (a_pl, .inl (cI, 16, .inl uPlcs))] sz) := by
  refine Met.ofW (cc := b_U_liveRecordsHaveRoom) (maxL := 6) (ret := (some .boolean)) (by decide) rfl ?_
  intro p e s m args below meth c s₁ B hml hv
  obtain ⟨rfl, hsz, hP, hK, hD0, hN⟩ := hv
  have hx := B.exec
  have hb := B.bytes
  have hr := B.returns
  have hts := atoms_spec (ws := w_U_liveRecordsHaveRoom) B.pre
  have htT : ∀ w ∈ lwG, w.before _ s = true := fun w h => hts w (List.mem_cons_of_mem _ h)
  have hown : s.vm.findClass R_U = some m.cls := findClass_of_methodNamed B.named
  have hlocks := B.notSynchronized
  subst hsz
  have hD := hD0.self (sz := s.heap.size)
  generalize hAe : va_A [(a_u, .inr (0, [.ref a_d, .ref a_p, .ref a_r, .ref a_c, .ref a_st, .ref a_pl, .int uOpen, .int uFill, .int uSaved, .int uSerial, .int uDown])), (a_r, .inr (3, [.ref a_rs, .ref a_rb, .ref a_ru, .ref a_rz, .ref a_rh, .ref a_rl])), (a_rb, .inl (cI, N, .inl uBlks)), (a_ru, .inl (cI, N, .inl uUnts)), (a_st, .inl (cI, n, .inl uSts)), (a_pl, .inl (cI, 16, .inl uPlcs))] s.heap.size = A at hD ⊢
  have hA : ∀ q : Nat, s.heap.size ≤ q → A q := fun q h => by rw [← hAe]; exact Or.inr h
  have hS : va_S A s.heap s.heap [] := va_S.rf
  have hP : va_P (dC, dI) classes [(a_u, .inr (0, [.ref a_d, .ref a_p, .ref a_r, .ref a_c, .ref a_st, .ref a_pl, .int uOpen, .int uFill, .int uSaved, .int uSerial, .int uDown])), (a_r, .inr (3, [.ref a_rs, .ref a_rb, .ref a_ru, .ref a_rz, .ref a_rh, .ref a_rl])), (a_rb, .inl (cI, N, .inl uBlks)), (a_ru, .inl (cI, N, .inl uUnts)), (a_st, .inl (cI, n, .inl uSts)), (a_pl, .inl (cI, 16, .inl uPlcs))] s.heap := hP
  have hl := lv_entry ([.ref a_u, .int x1]) (n := 6) (Nat.le_of_ble_eq_true rfl)
  rw [lg_entry_eq]
  generalize (lg_sl ([.ref a_u, .int x1]) ++ List.replicate (6 - (lg_sl ([.ref a_u, .int x1])).length) Slot.unset).toArray = ls at hl ⊢
  have hl : lv_has ls 6 [(0, .ref a_u), (1, .int x1)] := hl
  have h := hM
  rw [U_liveRecordsHaveRoom] at h
  refine lv_iload_n hx hb d_U_liveRecordsHaveRoom_0 rfl (lv_at hl 1 rfl) ?_
  refine lv_bipush (v := (16 : Int32)) hx hb d_U_liveRecordsHaveRoom_1 (by decide) ?_
  refine lv_imul hx hb d_U_liveRecordsHaveRoom_3 ?_
  refine lv_istore_n hx hb d_U_liveRecordsHaveRoom_4 rfl hl (by decide) rfl (fun ls hl => ?_)
  have hl : lv_has ls 6 [(2, .int (x1 * (16 : Int32))), (0, .ref a_u), (1, .int x1)] := hl
  refine lv_aload_n hx hb d_U_liveRecordsHaveRoom_5 rfl (lv_at hl 1 rfl) ?_
  obtain ⟨z1, hz, h⟩ := ck_bind h
  have hPc := hP.sub (ws' := [(a_u, .inr (0, [.ref a_d, .ref a_p, .ref a_r, .ref a_c, .ref a_st, .ref a_pl, .int uOpen, .int uFill, .int uSaved, .int uSerial, .int uDown])), (a_st, .inl (cI, n, .inl uSts))]) [0, 4] rfl
  have hDc := hD.sub (ws' := [(a_u, .inr (0, [.ref a_d, .ref a_p, .ref a_r, .ref a_c, .ref a_st, .ref a_pl, .int uOpen, .int uFill, .int uSaved, .int uSerial, .int uDown])), (a_st, .inl (cI, n, .inl uSts))]) [0, 4] (by decide) rfl
  have hFc := va_free (wc := [(a_u, .inr (0, [.ref a_d, .ref a_p, .ref a_r, .ref a_c, .ref a_st, .ref a_pl, .int uOpen, .int uFill, .int uSaved, .int uSerial, .int uDown])), (a_st, .inl (cI, n, .inl uSts))]) hD hS hA [0, 4] rfl
  refine va_calli (va_runV (As := []) (rest := []) ⟨hx, hb, hml, hown, htT⟩ (c_U_freeSegments l dC dI cI cZ cJ a_u a_d a_p a_pb a_pf a_r a_rs a_rb a_ru a_rz a_rh a_rl a_c a_cp a_st a_pl s.heap.size n N uOpen uFill uSaved uSerial uDown uSts  z1 hz) (cwV 0 htT (gV kl_U_150 ki_U_freeSegments ke_U_freeSegments kn_U kc_U_freeSegments) rfl rfl rfl (by decide +kernel) ⟨Nat.le_of_ble_eq_true rfl, Nat.le_of_ble_eq_true rfl⟩) ⟨fun a U g mk q => by obtain ⟨q0, q1, qP, qK, qD, qN⟩ := q; exact ⟨q0, q1, qP, va_K.moved (u := U) (U := U.calling g mk a) (Vm.Alike.refl U.vm) qK, qD, Ns.same (u := U) rfl qN⟩, va_recv (q0 := 0) (q := (R_U, F_U, 11)) hK hP (ci := 0) rfl rfl, fun U hU hW => ⟨rfl, by rw [hU], by rw [hU]; exact hPc, va_K.moved hW.alike hK, hDc.weaken (fun _ _ _ _ => trivial), Ns.warm hW hN⟩⟩ rfl rfl hl.1 rfl (lv_room (Nat.le_of_ble_eq_true rfl)) d_U_liveRecordsHaveRoom_6 ⟨(Nat.zero_le _), (Nat.zero_le _)⟩) hS (fun q _ h => hFc q h) hFc (fun r u t H locs ht hvm hw hB hz1 hk1 hS => ?_)
  subst hw
  obtain ⟨hP1, hK1, hD1⟩ := hB
  rw [ht] at hP1
  obtain ⟨hP, hD⟩ := va_join (wr := [(a_r, .inr (3, [.ref a_rs, .ref a_rb, .ref a_ru, .ref a_rz, .ref a_rh, .ref a_rl])), (a_rb, .inl (cI, N, .inl uBlks)), (a_ru, .inl (cI, N, .inl uUnts)), (a_pl, .inl (cI, 16, .inl uPlcs))]) (w1 := [(a_u, .inr (0, [.ref a_d, .ref a_p, .ref a_r, .ref a_c, .ref a_st, .ref a_pl, .int uOpen, .int uFill, .int uSaved, .int uSerial, .int uDown])), (a_st, .inl (cI, n, .inl uSts))]) hP hD [0, 4] [1, 2, 3, 5] rfl rfl (by decide) (by decide) hk1 hFc hP1 hD1
  have hP := hP.sub (ws' := [(a_u, .inr (0, [.ref a_d, .ref a_p, .ref a_r, .ref a_c, .ref a_st, .ref a_pl, .int uOpen, .int uFill, .int uSaved, .int uSerial, .int uDown])), (a_r, .inr (3, [.ref a_rs, .ref a_rb, .ref a_ru, .ref a_rz, .ref a_rh, .ref a_rl])), (a_rb, .inl (cI, N, .inl uBlks)), (a_ru, .inl (cI, N, .inl uUnts)), (a_st, .inl (cI, n, .inl uSts)), (a_pl, .inl (cI, 16, .inl uPlcs))]) [4, 0, 1, 2, 5, 3] rfl
  have hD := hD.sub (ws' := [(a_u, .inr (0, [.ref a_d, .ref a_p, .ref a_r, .ref a_c, .ref a_st, .ref a_pl, .int uOpen, .int uFill, .int uSaved, .int uSerial, .int uDown])), (a_r, .inr (3, [.ref a_rs, .ref a_rb, .ref a_ru, .ref a_rz, .ref a_rh, .ref a_rl])), (a_rb, .inl (cI, N, .inl uBlks)), (a_ru, .inl (cI, N, .inl uUnts)), (a_st, .inl (cI, n, .inl uSts)), (a_pl, .inl (cI, 16, .inl uPlcs))]) [4, 0, 1, 2, 5, 3] (by decide) rfl
  have hP : va_P (dC, dI) classes [(a_u, .inr (0, [.ref a_d, .ref a_p, .ref a_r, .ref a_c, .ref a_st, .ref a_pl, .int uOpen, .int uFill, .int uSaved, .int uSerial, .int uDown])), (a_r, .inr (3, [.ref a_rs, .ref a_rb, .ref a_ru, .ref a_rz, .ref a_rh, .ref a_rl])), (a_rb, .inl (cI, N, .inl uBlks)), (a_ru, .inl (cI, N, .inl uUnts)), (a_st, .inl (cI, n, .inl uSts)), (a_pl, .inl (cI, 16, .inl uPlcs))] H := hP
  have hD : va_D A [(a_u, .inr (0, [.ref a_d, .ref a_p, .ref a_r, .ref a_c, .ref a_st, .ref a_pl, .int uOpen, .int uFill, .int uSaved, .int uSerial, .int uDown])), (a_r, .inr (3, [.ref a_rs, .ref a_rb, .ref a_ru, .ref a_rz, .ref a_rh, .ref a_rl])), (a_rb, .inl (cI, N, .inl uBlks)), (a_ru, .inl (cI, N, .inl uUnts)), (a_st, .inl (cI, n, .inl uSts)), (a_pl, .inl (cI, 16, .inl uPlcs))] := hD
  refine lv_istore_n hx hb d_U_liveRecordsHaveRoom_9 rfl hl (by decide) rfl (fun ls hl => ?_)
  have hl : lv_has ls 6 [(3, .int z1), (2, .int (x1 * (16 : Int32))), (0, .ref a_u), (1, .int x1)] := hl
  refine lv_aload_n hx hb d_U_liveRecordsHaveRoom_10 rfl (lv_at hl 2 rfl) ?_
  refine va_get (D := (dC, dI)) (ci := 0) (v := .int uFill) (C := R_U) (T := F_U) (N := 11) hx hb htT i_U hown hK hP 0 rfl rfl 7 (by decide) (htT _ kf_U_101) (fun _ h9 => h9) rfl d_U_liveRecordsHaveRoom_11 ?_
  refine lv_istore hx hb d_U_liveRecordsHaveRoom_14 hl (by decide) rfl (fun ls hl => ?_)
  have hl : lv_has ls 6 [(4, .int uFill), (3, .int z1), (2, .int (x1 * (16 : Int32))), (0, .ref a_u), (1, .int x1)] := hl
  refine lv_iload_n hx hb d_U_liveRecordsHaveRoom_16 rfl (lv_at hl 2 rfl) ?_
  refine lv_istore hx hb d_U_liveRecordsHaveRoom_17 hl (by decide) rfl (fun ls hl => ?_)
  have hl : lv_has ls 6 [(5, .int (x1 * (16 : Int32))), (4, .int uFill), (3, .int z1), (2, .int (x1 * (16 : Int32))), (0, .ref a_u), (1, .int x1)] := hl
  have L19 : ∀ (K19 : Int32 → Int32 → Int32 → Option (Int32)) (fuel : Nat) (x3_w19 : Int32) (x4_w19 : Int32) (x5_w19 : Int32) (ls : Array Slot) (H : Heap) (locs : List Loc), lv_has ls 6 [(0, .ref a_u), (2, .int (x1 * (16 : Int32))), (3, .int x3_w19), (4, .int x4_w19), (5, .int x5_w19)] → va_P (dC, dI) classes [(a_u, .inr (0, [.ref a_d, .ref a_p, .ref a_r, .ref a_c, .ref a_st, .ref a_pl, .int uOpen, .int uFill, .int uSaved, .int uSerial, .int uDown])), (a_r, .inr (3, [.ref a_rs, .ref a_rb, .ref a_ru, .ref a_rz, .ref a_rh, .ref a_rl])), (a_rb, .inl (cI, N, .inl uBlks)), (a_ru, .inl (cI, N, .inl uUnts)), (a_st, .inl (cI, n, .inl uSts)), (a_pl, .inl (cI, 16, .inl uPlcs))] H → va_D A [(a_u, .inr (0, [.ref a_d, .ref a_p, .ref a_r, .ref a_c, .ref a_st, .ref a_pl, .int uOpen, .int uFill, .int uSaved, .int uSerial, .int uDown])), (a_r, .inr (3, [.ref a_rs, .ref a_rb, .ref a_ru, .ref a_rz, .ref a_rh, .ref a_rl])), (a_rb, .inl (cI, N, .inl uBlks)), (a_ru, .inl (cI, N, .inl uUnts)), (a_st, .inl (cI, n, .inl uSts)), (a_pl, .inl (cI, 16, .inl uPlcs))] → va_S A s.heap H locs → U_liveRecordsHaveRoom_L19 N uBlks uUnts uPlcs (x1 * (16 : Int32)) K19 fuel x3_w19 x4_w19 x5_w19 = some res → (∀ (x3_w19 : Int32) (x4_w19 : Int32) (x5_w19 : Int32) (ls : Array Slot) (H : Heap) (locs : List Loc), lv_has ls 6 [(0, .ref a_u), (2, .int (x1 * (16 : Int32))), (3, .int x3_w19), (4, .int x4_w19), (5, .int x5_w19)] → va_P (dC, dI) classes [(a_u, .inr (0, [.ref a_d, .ref a_p, .ref a_r, .ref a_c, .ref a_st, .ref a_pl, .int uOpen, .int uFill, .int uSaved, .int uSerial, .int uDown])), (a_r, .inr (3, [.ref a_rs, .ref a_rb, .ref a_ru, .ref a_rz, .ref a_rh, .ref a_rl])), (a_rb, .inl (cI, N, .inl uBlks)), (a_ru, .inl (cI, N, .inl uUnts)), (a_st, .inl (cI, n, .inl uSts)), (a_pl, .inl (cI, 16, .inl uPlcs))] H → va_D A [(a_u, .inr (0, [.ref a_d, .ref a_p, .ref a_r, .ref a_c, .ref a_st, .ref a_pl, .int uOpen, .int uFill, .int uSaved, .int uSerial, .int uDown])), (a_r, .inr (3, [.ref a_rs, .ref a_rb, .ref a_ru, .ref a_rz, .ref a_rh, .ref a_rl])), (a_rb, .inl (cI, N, .inl uBlks)), (a_ru, .inl (cI, N, .inl uUnts)), (a_st, .inl (cI, n, .inl uSts)), (a_pl, .inl (cI, 16, .inl uPlcs))] → va_S A s.heap H locs → K19 x3_w19 x4_w19 x5_w19 = some res → W p l e (headSpec w_U_liveRecordsHaveRoom ({ frames := 1, cells := 0, slots := 0, locals := 22 })).room s m ([.ref a_u, .int x1] : List Value).toArray below meth c H locs 0 0 (MQ below (va_Qi (fun (r : Int32) (z : Unit) => res = r) (fun (z : Unit) (t : State) => va_P (dC, dI) classes [(a_u, .inr (0, [.ref a_d, .ref a_p, .ref a_r, .ref a_c, .ref a_st, .ref a_pl, .int uOpen, .int uFill, .int uSaved, .int uSerial, .int uDown])), (a_r, .inr (3, [.ref a_rs, .ref a_rb, .ref a_ru, .ref a_rz, .ref a_rh, .ref a_rl])), (a_rb, .inl (cI, N, .inl uBlks)), (a_ru, .inl (cI, N, .inl uUnts)), (a_st, .inl (cI, n, .inl uSts)), (a_pl, .inl (cI, 16, .inl uPlcs))] t.heap ∧ va_K (dC, dI) classes [(cI, .int), (cZ, .boolean), (cJ, .long)] t ∧ va_D A [(a_u, .inr (0, [.ref a_d, .ref a_p, .ref a_r, .ref a_c, .ref a_st, .ref a_pl, .int uOpen, .int uFill, .int uSaved, .int uSerial, .int uDown])), (a_r, .inr (3, [.ref a_rs, .ref a_rb, .ref a_ru, .ref a_rz, .ref a_rh, .ref a_rl])), (a_rb, .inl (cI, N, .inl uBlks)), (a_ru, .inl (cI, N, .inl uUnts)), (a_st, .inl (cI, n, .inl uSts)), (a_pl, .inl (cI, 16, .inl uPlcs))]) A) ([.ref a_u, .int x1] : List Value).toArray s 0 0 A) (F0 m 85 ls [])) → W p l e (headSpec w_U_liveRecordsHaveRoom ({ frames := 1, cells := 0, slots := 0, locals := 22 })).room s m ([.ref a_u, .int x1] : List Value).toArray below meth c H locs 0 0 (MQ below (va_Qi (fun (r : Int32) (z : Unit) => res = r) (fun (z : Unit) (t : State) => va_P (dC, dI) classes [(a_u, .inr (0, [.ref a_d, .ref a_p, .ref a_r, .ref a_c, .ref a_st, .ref a_pl, .int uOpen, .int uFill, .int uSaved, .int uSerial, .int uDown])), (a_r, .inr (3, [.ref a_rs, .ref a_rb, .ref a_ru, .ref a_rz, .ref a_rh, .ref a_rl])), (a_rb, .inl (cI, N, .inl uBlks)), (a_ru, .inl (cI, N, .inl uUnts)), (a_st, .inl (cI, n, .inl uSts)), (a_pl, .inl (cI, 16, .inl uPlcs))] t.heap ∧ va_K (dC, dI) classes [(cI, .int), (cZ, .boolean), (cJ, .long)] t ∧ va_D A [(a_u, .inr (0, [.ref a_d, .ref a_p, .ref a_r, .ref a_c, .ref a_st, .ref a_pl, .int uOpen, .int uFill, .int uSaved, .int uSerial, .int uDown])), (a_r, .inr (3, [.ref a_rs, .ref a_rb, .ref a_ru, .ref a_rz, .ref a_rh, .ref a_rl])), (a_rb, .inl (cI, N, .inl uBlks)), (a_ru, .inl (cI, N, .inl uUnts)), (a_st, .inl (cI, n, .inl uSts)), (a_pl, .inl (cI, 16, .inl uPlcs))]) A) ([.ref a_u, .int x1] : List Value).toArray s 0 0 A) (F0 m 19 ls []) := by
    intro K19 fuel
    induction fuel with
    | zero => intro x3_w19 x4_w19 x5_w19 ls H locs hl hP hD hS h hk19; exact absurd (show (none : Option (Int32)) = some res from h) (by intro q; cases q)
    | succ fuel ih19 =>
      intro x3_w19 x4_w19 x5_w19 ls H locs hl hP hD hS h hk19
      rw [U_liveRecordsHaveRoom_L19] at h
      refine lv_iload hx hb d_U_liveRecordsHaveRoom_19 (lv_at hl 4 rfl) ?_
      refine lv_iload_n hx hb d_U_liveRecordsHaveRoom_21 rfl (lv_at hl 1 rfl) ?_
      refine lv_bipush (v := (16 : Int32)) hx hb d_U_liveRecordsHaveRoom_22 (by decide) ?_
      refine lv_iadd hx hb d_U_liveRecordsHaveRoom_24 ?_
      refine lv_icmp_ge (tgt := 85) hx hb d_U_liveRecordsHaveRoom_25 (by decide) (fun hc => ?_) (fun hc => ?_)
      · have h := ck_t hc h
        have hl : lv_has ls 6 [(0, .ref a_u), (2, .int (x1 * (16 : Int32))), (3, .int x3_w19), (4, .int x4_w19), (5, .int x5_w19)] := lv_sub hl [0, 1, 2, 3, 4] rfl
        exact hk19 _ _ _ _ _ _ hl hP hD hS h
      · have h := ck_f hc h
        refine lv_aload_n hx hb d_U_liveRecordsHaveRoom_28 rfl (lv_at hl 0 rfl) ?_
        refine lv_iload hx hb d_U_liveRecordsHaveRoom_29 (lv_at hl 4 rfl) ?_
        obtain ⟨z2, hz, h⟩ := ck_bind h
        have hPc := hP.sub (ws' := [(a_u, .inr (0, [.ref a_d, .ref a_p, .ref a_r, .ref a_c, .ref a_st, .ref a_pl, .int uOpen, .int uFill, .int uSaved, .int uSerial, .int uDown])), (a_r, .inr (3, [.ref a_rs, .ref a_rb, .ref a_ru, .ref a_rz, .ref a_rh, .ref a_rl])), (a_rb, .inl (cI, N, .inl uBlks)), (a_pl, .inl (cI, 16, .inl uPlcs))]) [0, 1, 2, 5] rfl
        have hDc := hD.sub (ws' := [(a_u, .inr (0, [.ref a_d, .ref a_p, .ref a_r, .ref a_c, .ref a_st, .ref a_pl, .int uOpen, .int uFill, .int uSaved, .int uSerial, .int uDown])), (a_r, .inr (3, [.ref a_rs, .ref a_rb, .ref a_ru, .ref a_rz, .ref a_rh, .ref a_rl])), (a_rb, .inl (cI, N, .inl uBlks)), (a_pl, .inl (cI, 16, .inl uPlcs))]) [0, 1, 2, 5] (by decide) rfl
        have hFc := va_free (wc := [(a_u, .inr (0, [.ref a_d, .ref a_p, .ref a_r, .ref a_c, .ref a_st, .ref a_pl, .int uOpen, .int uFill, .int uSaved, .int uSerial, .int uDown])), (a_r, .inr (3, [.ref a_rs, .ref a_rb, .ref a_ru, .ref a_rz, .ref a_rh, .ref a_rl])), (a_rb, .inl (cI, N, .inl uBlks)), (a_pl, .inl (cI, 16, .inl uPlcs))]) hD hS hA [0, 1, 2, 5] rfl
        refine va_calli (va_runV (As := [.int x5_w19]) (rest := []) ⟨hx, hb, hml, hown, htT⟩ (c_U_isLive l dC dI cI cZ cJ a_u a_d a_p a_pb a_pf a_r a_rs a_rb a_ru a_rz a_rh a_rl a_c a_cp a_st a_pl H.size n N uOpen uFill uSaved uSerial uDown uBlks uPlcs x5_w19 z2 hz) (cwV 1 htT (gV kl_U_195 ki_U_isLive ke_U_isLive kn_U kc_U_isLive) rfl rfl rfl (by decide +kernel) ⟨Nat.le_of_ble_eq_true rfl, Nat.le_of_ble_eq_true rfl⟩) ⟨fun a U g mk q => by obtain ⟨q0, q1, qP, qK, qD, qN⟩ := q; exact ⟨q0, q1, qP, va_K.moved (u := U) (U := U.calling g mk a) (Vm.Alike.refl U.vm) qK, qD, Ns.same (u := U) rfl qN⟩, va_recv (q0 := 0) (q := (R_U, F_U, 11)) hK hP (ci := 0) rfl rfl, fun U hU hW => ⟨rfl, by rw [hU], by rw [hU]; exact hPc, va_K.moved hW.alike hK, hDc.weaken (fun _ _ _ _ => trivial), Ns.warm hW hN⟩⟩ rfl rfl hl.1 rfl (lv_room (Nat.le_of_ble_eq_true rfl)) d_U_liveRecordsHaveRoom_31 ⟨(Nat.zero_le _), (Nat.zero_le _)⟩) hS (fun q _ h => hFc q h) hFc (fun r u t H locs ht hvm hw hB hz1 hk1 hS => ?_)
        subst hw
        obtain ⟨hP1, hK1, hD1⟩ := hB
        rw [ht] at hP1
        obtain ⟨hP, hD⟩ := va_join (wr := [(a_ru, .inl (cI, N, .inl uUnts)), (a_st, .inl (cI, n, .inl uSts))]) (w1 := [(a_u, .inr (0, [.ref a_d, .ref a_p, .ref a_r, .ref a_c, .ref a_st, .ref a_pl, .int uOpen, .int uFill, .int uSaved, .int uSerial, .int uDown])), (a_r, .inr (3, [.ref a_rs, .ref a_rb, .ref a_ru, .ref a_rz, .ref a_rh, .ref a_rl])), (a_rb, .inl (cI, N, .inl uBlks)), (a_pl, .inl (cI, 16, .inl uPlcs))]) hP hD [0, 1, 2, 5] [3, 4] rfl rfl (by decide) (by decide) hk1 hFc hP1 hD1
        have hP := hP.sub (ws' := [(a_u, .inr (0, [.ref a_d, .ref a_p, .ref a_r, .ref a_c, .ref a_st, .ref a_pl, .int uOpen, .int uFill, .int uSaved, .int uSerial, .int uDown])), (a_r, .inr (3, [.ref a_rs, .ref a_rb, .ref a_ru, .ref a_rz, .ref a_rh, .ref a_rl])), (a_rb, .inl (cI, N, .inl uBlks)), (a_ru, .inl (cI, N, .inl uUnts)), (a_st, .inl (cI, n, .inl uSts)), (a_pl, .inl (cI, 16, .inl uPlcs))]) [2, 3, 4, 0, 1, 5] rfl
        have hD := hD.sub (ws' := [(a_u, .inr (0, [.ref a_d, .ref a_p, .ref a_r, .ref a_c, .ref a_st, .ref a_pl, .int uOpen, .int uFill, .int uSaved, .int uSerial, .int uDown])), (a_r, .inr (3, [.ref a_rs, .ref a_rb, .ref a_ru, .ref a_rz, .ref a_rh, .ref a_rl])), (a_rb, .inl (cI, N, .inl uBlks)), (a_ru, .inl (cI, N, .inl uUnts)), (a_st, .inl (cI, n, .inl uSts)), (a_pl, .inl (cI, 16, .inl uPlcs))]) [2, 3, 4, 0, 1, 5] (by decide) rfl
        have hP : va_P (dC, dI) classes [(a_u, .inr (0, [.ref a_d, .ref a_p, .ref a_r, .ref a_c, .ref a_st, .ref a_pl, .int uOpen, .int uFill, .int uSaved, .int uSerial, .int uDown])), (a_r, .inr (3, [.ref a_rs, .ref a_rb, .ref a_ru, .ref a_rz, .ref a_rh, .ref a_rl])), (a_rb, .inl (cI, N, .inl uBlks)), (a_ru, .inl (cI, N, .inl uUnts)), (a_st, .inl (cI, n, .inl uSts)), (a_pl, .inl (cI, 16, .inl uPlcs))] H := hP
        have hD : va_D A [(a_u, .inr (0, [.ref a_d, .ref a_p, .ref a_r, .ref a_c, .ref a_st, .ref a_pl, .int uOpen, .int uFill, .int uSaved, .int uSerial, .int uDown])), (a_r, .inr (3, [.ref a_rs, .ref a_rb, .ref a_ru, .ref a_rz, .ref a_rh, .ref a_rl])), (a_rb, .inl (cI, N, .inl uBlks)), (a_ru, .inl (cI, N, .inl uUnts)), (a_st, .inl (cI, n, .inl uSts)), (a_pl, .inl (cI, 16, .inl uPlcs))] := hD
        refine lv_if_ne (tgt := 40) hx hb d_U_liveRecordsHaveRoom_34 (by decide) (fun hc => ?_) (fun hc => ?_)
        · have h := ck_f hc h
          refine lv_aload_n hx hb d_U_liveRecordsHaveRoom_40 rfl (lv_at hl 0 rfl) ?_
          refine va_get (D := (dC, dI)) (ci := 0) (v := .ref a_r) (C := R_U) (T := F_U) (N := 11) hx hb htT i_U hown hK hP 0 rfl rfl 2 (by decide) (htT _ kf_U_37) (fun _ h9 => h9) rfl d_U_liveRecordsHaveRoom_41 ?_
          refine va_getN (D := (dC, dI)) (ci := 3) (v := .ref a_ru) (C := R_R) (T := F_R) (N := 6) hx hb htT i_R hown hK hP 1 rfl rfl 2 (by decide) (va_Nw.use rfl (hN _ kf_U_165)) (fun _ h9 => h9) rfl d_U_liveRecordsHaveRoom_44 ?_
          refine lv_iload hx hb d_U_liveRecordsHaveRoom_47 (lv_at hl 4 rfl) ?_
          obtain ⟨hin, h⟩ := ck_in h
          refine va_iald hx hb hK hP 3 0 rfl rfl hin d_U_liveRecordsHaveRoom_49 ?_
          refine lv_bipush (v := (16 : Int32)) hx hb d_U_liveRecordsHaveRoom_50 (by decide) ?_
          refine lv_iload hx hb d_U_liveRecordsHaveRoom_52 (lv_at hl 3 rfl) ?_
          refine lv_isub hx hb d_U_liveRecordsHaveRoom_54 ?_
          refine lv_icmp_le (tgt := 64) hx hb d_U_liveRecordsHaveRoom_55 (by decide) (fun hc => ?_) (fun hc => ?_)
          · have h := ck_t hc h
            refine lv_iload hx hb d_U_liveRecordsHaveRoom_64 (lv_at hl 3 rfl) ?_
            refine lv_aload_n hx hb d_U_liveRecordsHaveRoom_66 rfl (lv_at hl 0 rfl) ?_
            refine va_get (D := (dC, dI)) (ci := 0) (v := .ref a_r) (C := R_U) (T := F_U) (N := 11) hx hb htT i_U hown hK hP 0 rfl rfl 2 (by decide) (htT _ kf_U_37) (fun _ h9 => h9) rfl d_U_liveRecordsHaveRoom_67 ?_
            refine va_getN (D := (dC, dI)) (ci := 3) (v := .ref a_ru) (C := R_R) (T := F_R) (N := 6) hx hb htT i_R hown hK hP 1 rfl rfl 2 (by decide) (va_Nw.use rfl (hN _ kf_U_165)) (fun _ h9 => h9) rfl d_U_liveRecordsHaveRoom_70 ?_
            refine lv_iload hx hb d_U_liveRecordsHaveRoom_73 (lv_at hl 4 rfl) ?_
            obtain ⟨hin, h⟩ := ck_in h
            refine va_iald hx hb hK hP 3 0 rfl rfl hin d_U_liveRecordsHaveRoom_75 ?_
            refine lv_iadd hx hb d_U_liveRecordsHaveRoom_76 ?_
            refine lv_istore hx hb d_U_liveRecordsHaveRoom_77 hl (by decide) rfl (fun ls hl => ?_)
            have hl : lv_has ls 6 [(4, .int (x4_w19 + (uUnts x5_w19.toNatClampNeg))), (0, .ref a_u), (2, .int (x1 * (16 : Int32))), (3, .int x3_w19), (5, .int x5_w19)] := hl
            refine lv_iinc (k := 4) (v := (x5_w19 + (1 : Int32))) hx hb d_U_liveRecordsHaveRoom_79 hl rfl (congrArg (fun y => x5_w19 + y) (by decide)) (by decide) rfl (fun ls hl => ?_)
            have hl : lv_has ls 6 [(5, .int (x5_w19 + (1 : Int32))), (4, .int (x4_w19 + (uUnts x5_w19.toNatClampNeg))), (0, .ref a_u), (2, .int (x1 * (16 : Int32))), (3, .int x3_w19)] := hl
            refine lv_goto (tgt := 19) hx hb d_U_liveRecordsHaveRoom_82 (by decide) ?_
            have hl : lv_has ls 6 [(0, .ref a_u), (2, .int (x1 * (16 : Int32))), (3, .int x3_w19), (4, .int (x4_w19 + (uUnts x5_w19.toNatClampNeg))), (5, .int (x5_w19 + (1 : Int32)))] := lv_sub hl [2, 3, 4, 1, 0] rfl
            exact ih19 _ _ _ _ _ _ hl hP hD hS h hk19
          · have h := ck_f hc h
            refine lv_iinc (k := 2) (v := (x3_w19 + (-1 : Int32))) hx hb d_U_liveRecordsHaveRoom_58 hl rfl (congrArg (fun y => x3_w19 + y) (by decide)) (by decide) rfl (fun ls hl => ?_)
            have hl : lv_has ls 6 [(3, .int (x3_w19 + (-1 : Int32))), (0, .ref a_u), (2, .int (x1 * (16 : Int32))), (4, .int x4_w19), (5, .int x5_w19)] := hl
            refine lv_iconst (v := (0 : Int32)) hx hb d_U_liveRecordsHaveRoom_61 (by decide) ?_
            refine lv_istore hx hb d_U_liveRecordsHaveRoom_62 hl (by decide) rfl (fun ls hl => ?_)
            have hl : lv_has ls 6 [(4, .int (0 : Int32)), (3, .int (x3_w19 + (-1 : Int32))), (0, .ref a_u), (2, .int (x1 * (16 : Int32))), (5, .int x5_w19)] := hl
            refine lv_iload hx hb d_U_liveRecordsHaveRoom_64 (lv_at hl 0 rfl) ?_
            refine lv_aload_n hx hb d_U_liveRecordsHaveRoom_66 rfl (lv_at hl 2 rfl) ?_
            refine va_get (D := (dC, dI)) (ci := 0) (v := .ref a_r) (C := R_U) (T := F_U) (N := 11) hx hb htT i_U hown hK hP 0 rfl rfl 2 (by decide) (htT _ kf_U_37) (fun _ h9 => h9) rfl d_U_liveRecordsHaveRoom_67 ?_
            refine va_getN (D := (dC, dI)) (ci := 3) (v := .ref a_ru) (C := R_R) (T := F_R) (N := 6) hx hb htT i_R hown hK hP 1 rfl rfl 2 (by decide) (va_Nw.use rfl (hN _ kf_U_165)) (fun _ h9 => h9) rfl d_U_liveRecordsHaveRoom_70 ?_
            refine lv_iload hx hb d_U_liveRecordsHaveRoom_73 (lv_at hl 4 rfl) ?_
            obtain ⟨hin, h⟩ := ck_in h
            refine va_iald hx hb hK hP 3 0 rfl rfl hin d_U_liveRecordsHaveRoom_75 ?_
            refine lv_iadd hx hb d_U_liveRecordsHaveRoom_76 ?_
            refine lv_istore hx hb d_U_liveRecordsHaveRoom_77 hl (by decide) rfl (fun ls hl => ?_)
            have hl : lv_has ls 6 [(4, .int ((0 : Int32) + (uUnts x5_w19.toNatClampNeg))), (3, .int (x3_w19 + (-1 : Int32))), (0, .ref a_u), (2, .int (x1 * (16 : Int32))), (5, .int x5_w19)] := hl
            refine lv_iinc (k := 4) (v := (x5_w19 + (1 : Int32))) hx hb d_U_liveRecordsHaveRoom_79 hl rfl (congrArg (fun y => x5_w19 + y) (by decide)) (by decide) rfl (fun ls hl => ?_)
            have hl : lv_has ls 6 [(5, .int (x5_w19 + (1 : Int32))), (4, .int ((0 : Int32) + (uUnts x5_w19.toNatClampNeg))), (3, .int (x3_w19 + (-1 : Int32))), (0, .ref a_u), (2, .int (x1 * (16 : Int32)))] := hl
            refine lv_goto (tgt := 19) hx hb d_U_liveRecordsHaveRoom_82 (by decide) ?_
            have hl : lv_has ls 6 [(0, .ref a_u), (2, .int (x1 * (16 : Int32))), (3, .int (x3_w19 + (-1 : Int32))), (4, .int ((0 : Int32) + (uUnts x5_w19.toNatClampNeg))), (5, .int (x5_w19 + (1 : Int32)))] := lv_sub hl [3, 4, 2, 1, 0] rfl
            exact ih19 _ _ _ _ _ _ hl hP hD hS h hk19
        · have h := ck_t hc h
          refine lv_goto (tgt := 79) hx hb d_U_liveRecordsHaveRoom_37 (by decide) ?_
          refine lv_iinc (k := 4) (v := (x5_w19 + (1 : Int32))) hx hb d_U_liveRecordsHaveRoom_79 hl rfl (congrArg (fun y => x5_w19 + y) (by decide)) (by decide) rfl (fun ls hl => ?_)
          have hl : lv_has ls 6 [(5, .int (x5_w19 + (1 : Int32))), (0, .ref a_u), (2, .int (x1 * (16 : Int32))), (3, .int x3_w19), (4, .int x4_w19)] := hl
          refine lv_goto (tgt := 19) hx hb d_U_liveRecordsHaveRoom_82 (by decide) ?_
          have hl : lv_has ls 6 [(0, .ref a_u), (2, .int (x1 * (16 : Int32))), (3, .int x3_w19), (4, .int x4_w19), (5, .int (x5_w19 + (1 : Int32)))] := lv_sub hl [1, 2, 3, 4, 0] rfl
          exact ih19 _ _ _ _ _ _ hl hP hD hS h hk19
  have hl : lv_has ls 6 [(0, .ref a_u), (2, .int (x1 * (16 : Int32))), (3, .int z1), (4, .int uFill), (5, .int (x1 * (16 : Int32)))] := lv_sub hl [4, 3, 2, 1, 0] rfl
  refine L19 _ _ _ _ _ _ _ _ hl hP hD hS h ?_
  intro x3_k19 x4_k19 x5_k19 ls H locs hl hP hD hS h
  refine lv_iload_n hx hb d_U_liveRecordsHaveRoom_85 rfl (lv_at hl 2 rfl) ?_
  refine lv_if_lt (tgt := 93) hx hb d_U_liveRecordsHaveRoom_86 (by decide) (fun hc => ?_) (fun hc => ?_)
  · have h := ck_t hc h
    refine lv_iconst (v := (0 : Int32)) hx hb d_U_liveRecordsHaveRoom_93 (by decide) ?_
    exact W.zret (v := (0 : Int32)) hx hb hr rfl (fun t ht hW => ⟨⟨(0 : Int32), (), rfl, (Option.some.inj h).symm, by rw [ht]; exact hP, va_K.moved hW.alike hK, hD⟩, hS.F ht⟩) hS.2.2 d_U_liveRecordsHaveRoom_94
  · have h := ck_f hc h
    refine lv_iconst (v := (1 : Int32)) hx hb d_U_liveRecordsHaveRoom_89 (by decide) ?_
    refine lv_goto (tgt := 94) hx hb d_U_liveRecordsHaveRoom_90 (by decide) ?_
    exact W.zret (v := (1 : Int32)) hx hb hr rfl (fun t ht hW => ⟨⟨(1 : Int32), (), rfl, (Option.some.inj h).symm, by rw [ht]; exact hP, va_K.moved hW.alike hK, hD⟩, hS.F ht⟩) hS.2.2 d_U_liveRecordsHaveRoom_94
