set_option maxHeartbeats 4000000 in
set_option maxRecDepth 100000 in
theorem c_M_live (l : Launch) (dC : Nat → ClassId) (dI : Nat → Nat → Nat) (cI cZ cJ : ClassId) (a_m a_ms a_mf a_mv a_mc a_mb a_mz a_mu a_mi a_mr a_mh a_ml a_ma a_mk a_my a_mo : Nat) (sz n N : Nat) (mSegs : Int32) (mOpen : Int32) (mLast : Int32) (mKLast : Int32) (mKOpen : Int32) (mKFill : Int32) (mNumber : Int32) (mDown : Int32) (mArmed : Int32) (mLeft : Int32) (mWritten : Int32) (mFSize : Int32) (mSiz : Nat → Int32) (mAt : Nat → Int32) (x1 : Int32) (res : Int32) (hM : M_live mSegs mDown mSiz mAt x1 = some res) : Met l y_M_live w_M_live ({ frames := 1, cells := 0, slots := 0, locals := 23 }) (va_Pc [.ref a_m, .int x1] (fun U => U.heap.size = sz ∧ va_P (dC, dI) classes [(a_m, .inr (5, [.int mSegs, .ref a_ms, .ref a_mf, .ref a_mv, .int mOpen, .ref a_mc, .ref a_mb, .ref a_mz, .ref a_mu, .ref a_mi, .ref a_mr, .ref a_mh, .ref a_ml, .ref a_ma, .int mLast, .ref a_mk, .int mKLast, .int mKOpen, .int mKFill, .int mNumber, .int mDown, .int mArmed, .int mLeft, .int mWritten, .ref a_my, .ref a_mo, .int mFSize])), (a_mi, .inl (cI, 64, .inl mSiz)), (a_ma, .inl (cI, 16, .inl mAt))] U.heap ∧ va_K (dC, dI) classes [(cI, .int), (cZ, .boolean), (cJ, .long)] U ∧ va_D (fun _ => True) [(a_m, .inr (5, [.int mSegs, .ref a_ms, .ref a_mf, .ref a_mv, .int mOpen, .ref a_mc, .ref a_mb, .ref a_mz, .ref a_mu, .ref a_mi, .ref a_mr, .ref a_mh, .ref a_ml, .ref a_ma, .int mLast, .ref a_mk, .int mKLast, .int mKOpen, .int mKFill, .int mNumber, .int mDown, .int mArmed, .int mLeft, .int mWritten, .ref a_my, .ref a_mo, .int mFSize])), (a_mi, .inl (cI, 64, .inl mSiz)), (a_ma, .inl (cI, 16, .inl mAt))] ∧ Ns U)) (va_Qi (fun (r : Int32) (z : Unit) => res = r) (fun (z : Unit) (t : State) => va_P (dC, dI) classes [(a_m, .inr (5, [.int mSegs, .ref a_ms, .ref a_mf, .ref a_mv, .int mOpen, .ref a_mc, .ref a_mb, .ref a_mz, .ref a_mu, .ref a_mi, .ref a_mr, .ref a_mh, .ref a_ml, .ref a_ma, .int mLast, .ref a_mk, .int mKLast, .int mKOpen, .int mKFill, .int mNumber, .int mDown, .int mArmed, .int mLeft, .int mWritten, .ref a_my, .ref a_mo, .int mFSize])), (a_mi, .inl (cI, 64, .inl mSiz)), (a_ma, .inl (cI, 16, .inl mAt))] t.heap ∧ va_K (dC, dI) classes [(cI, .int), (cZ, .boolean), (cJ, .long)] t ∧ va_D (va_A [(a_m, .inr (5, [.int mSegs, .ref a_ms, .ref a_mf, .ref a_mv, .int mOpen, .ref a_mc, .ref a_mb, .ref a_mz, .ref a_mu, .ref a_mi, .ref a_mr, .ref a_mh, .ref a_ml, .ref a_ma, .int mLast, .ref a_mk, .int mKLast, .int mKOpen, .int mKFill, .int mNumber, .int mDown, .int mArmed, .int mLeft, .int mWritten, .ref a_my, .ref a_mo, .int mFSize])), (a_mi, .inl (cI, 64, .inl mSiz)), (a_ma, .inl (cI, 16, .inl mAt))] sz) [(a_m, .inr (5, [.int mSegs, .ref a_ms, .ref a_mf, .ref a_mv, .int mOpen, .ref a_mc, .ref a_mb, .ref a_mz, .ref a_mu, .ref a_mi, .ref a_mr, .ref a_mh, .ref a_ml, .ref a_ma, .int mLast, .ref a_mk, .int mKLast, .int mKOpen, .int mKFill, .int mNumber, .int mDown, .int mArmed, .int mLeft, .int mWritten, .ref a_my, .ref a_mo, .int mFSize])), (a_mi, .inl (cI, 64, .inl mSiz)), (a_ma, .inl (cI, 16, .inl mAt))]) (va_A [(a_m, .inr (5, [.int mSegs, .ref a_ms, .ref a_mf, .ref a_mv, .int mOpen, .ref a_mc, .ref a_mb, .ref a_mz, .ref a_mu, .ref a_mi, .ref a_mr, .ref a_mh, .ref a_ml, .ref a_ma, .int mLast, .ref a_mk, .int mKLast, .int mKOpen, .int mKFill, .int mNumber, .int mDown, .int mArmed, .int mLeft, .int mWritten, .ref a_my, .ref a_mo, .int mFSize])), (a_mi, .inl (cI, 64, .inl mSiz)), (a_ma, .inl (cI, 16, .inl mAt))] sz)) 0 0 (va_A [(a_m, .inr (5, [.int mSegs, .ref a_ms, .ref a_mf, .ref a_mv, .int mOpen, .ref a_mc, .ref a_mb, .ref a_mz, .ref a_mu, .ref a_mi, .ref a_mr, .ref a_mh, .ref a_ml, .ref a_ma, .int mLast, .ref a_mk, .int mKLast, .int mKOpen, .int mKFill, .int mNumber, .int mDown, .int mArmed, .int mLeft, .int mWritten, .ref a_my, .ref a_mo, .int mFSize])), (a_mi, .inl (cI, 64, .inl mSiz)), (a_ma, .inl (cI, 16, .inl mAt))] sz) := by
  refine Met.ofW (cc := b_M_live) (maxL := 2) (ret := (some .int)) (by decide) rfl ?_
  intro p e s m args below meth c s₁ B hml hv
  obtain ⟨rfl, hsz, hP, hK, hD0, hN⟩ := hv
  have hx := B.exec
  have hb := B.bytes
  have hr := B.returns
  have hts := atoms_spec (ws := w_M_live) B.pre
  have htT : ∀ w ∈ lwG, w.before _ s = true := fun w h => hts w (List.mem_cons_of_mem _ h)
  have hown : s.vm.findClass R_M = some m.cls := findClass_of_methodNamed B.named
  have hlocks := B.notSynchronized
  subst hsz
  have hD := hD0.self (sz := s.heap.size)
  generalize hAe : va_A [(a_m, .inr (5, [.int mSegs, .ref a_ms, .ref a_mf, .ref a_mv, .int mOpen, .ref a_mc, .ref a_mb, .ref a_mz, .ref a_mu, .ref a_mi, .ref a_mr, .ref a_mh, .ref a_ml, .ref a_ma, .int mLast, .ref a_mk, .int mKLast, .int mKOpen, .int mKFill, .int mNumber, .int mDown, .int mArmed, .int mLeft, .int mWritten, .ref a_my, .ref a_mo, .int mFSize])), (a_mi, .inl (cI, 64, .inl mSiz)), (a_ma, .inl (cI, 16, .inl mAt))] s.heap.size = A at hD ⊢
  have hA : ∀ q : Nat, s.heap.size ≤ q → A q := fun q h => by rw [← hAe]; exact Or.inr h
  have hS : va_S A s.heap s.heap [] := va_S.rf
  have hP : va_P (dC, dI) classes [(a_m, .inr (5, [.int mSegs, .ref a_ms, .ref a_mf, .ref a_mv, .int mOpen, .ref a_mc, .ref a_mb, .ref a_mz, .ref a_mu, .ref a_mi, .ref a_mr, .ref a_mh, .ref a_ml, .ref a_ma, .int mLast, .ref a_mk, .int mKLast, .int mKOpen, .int mKFill, .int mNumber, .int mDown, .int mArmed, .int mLeft, .int mWritten, .ref a_my, .ref a_mo, .int mFSize])), (a_mi, .inl (cI, 64, .inl mSiz)), (a_ma, .inl (cI, 16, .inl mAt))] s.heap := hP
  have hl := lv_entry ([.ref a_m, .int x1]) (n := 2) (Nat.le_of_ble_eq_true rfl)
  rw [lg_entry_eq]
  generalize (lg_sl ([.ref a_m, .int x1]) ++ List.replicate (2 - (lg_sl ([.ref a_m, .int x1])).length) Slot.unset).toArray = ls at hl ⊢
  have hl : lv_has ls 2 [(0, .ref a_m), (1, .int x1)] := hl
  have h := hM
  rw [M_live] at h
  refine lv_aload_n hx hb d_M_live_0 rfl (lv_at hl 0 rfl) ?_
  refine va_get (D := (dC, dI)) (ci := 5) (v := .int mDown) (C := R_M) (T := F_M) (N := 27) hx hb htT i_M hown hK hP 0 rfl rfl 20 (by decide) (htT _ kf_M_77) (fun _ h9 => h9) rfl d_M_live_1 ?_
  refine lv_if_eq (tgt := 12) hx hb d_M_live_4 (by decide) (fun hc => ?_) (fun hc => ?_)
  · have h := ck_t hc h
    refine lv_iload_n hx hb d_M_live_12 rfl (lv_at hl 1 rfl) ?_
    refine lv_if_lt (tgt := 24) hx hb d_M_live_13 (by decide) (fun hc => ?_) (fun hc => ?_)
    · have h := ck_t hc h
      refine lv_iconst (v := (-1 : Int32)) hx hb d_M_live_24 (by decide) ?_
      refine lv_goto (tgt := 33) hx hb d_M_live_25 (by decide) ?_
      exact W.iret (v := (-1 : Int32)) hx hb hr (fun t ht hW => ⟨⟨(-1 : Int32), (), rfl, (Option.some.inj h).symm, by rw [ht]; exact hP, va_K.moved hW.alike hK, hD⟩, hS.F ht⟩) hS.2.2 d_M_live_33
    · have h := ck_f hc h
      refine lv_iload_n hx hb d_M_live_16 rfl (lv_at hl 1 rfl) ?_
      refine lv_aload_n hx hb d_M_live_17 rfl (lv_at hl 0 rfl) ?_
      refine va_get (D := (dC, dI)) (ci := 5) (v := .int mSegs) (C := R_M) (T := F_M) (N := 27) hx hb htT i_M hown hK hP 0 rfl rfl 0 (by decide) (htT _ kf_M_57) (fun _ h9 => h9) rfl d_M_live_18 ?_
      refine lv_icmp_lt (tgt := 28) hx hb d_M_live_21 (by decide) (fun hc => ?_) (fun hc => ?_)
      · have h := ck_t hc h
        refine lv_aload_n hx hb d_M_live_28 rfl (lv_at hl 0 rfl) ?_
        refine lv_iload_n hx hb d_M_live_29 rfl (lv_at hl 1 rfl) ?_
        obtain ⟨z1, hz, h⟩ := ck_bind h
        have hPc := hP.sub (ws' := [(a_m, .inr (5, [.int mSegs, .ref a_ms, .ref a_mf, .ref a_mv, .int mOpen, .ref a_mc, .ref a_mb, .ref a_mz, .ref a_mu, .ref a_mi, .ref a_mr, .ref a_mh, .ref a_ml, .ref a_ma, .int mLast, .ref a_mk, .int mKLast, .int mKOpen, .int mKFill, .int mNumber, .int mDown, .int mArmed, .int mLeft, .int mWritten, .ref a_my, .ref a_mo, .int mFSize])), (a_mi, .inl (cI, 64, .inl mSiz)), (a_ma, .inl (cI, 16, .inl mAt))]) [0, 1, 2] rfl
        have hDc := hD.sub (ws' := [(a_m, .inr (5, [.int mSegs, .ref a_ms, .ref a_mf, .ref a_mv, .int mOpen, .ref a_mc, .ref a_mb, .ref a_mz, .ref a_mu, .ref a_mi, .ref a_mr, .ref a_mh, .ref a_ml, .ref a_ma, .int mLast, .ref a_mk, .int mKLast, .int mKOpen, .int mKFill, .int mNumber, .int mDown, .int mArmed, .int mLeft, .int mWritten, .ref a_my, .ref a_mo, .int mFSize])), (a_mi, .inl (cI, 64, .inl mSiz)), (a_ma, .inl (cI, 16, .inl mAt))]) [0, 1, 2] (by decide) rfl
        have hFc := va_free (wc := [(a_m, .inr (5, [.int mSegs, .ref a_ms, .ref a_mf, .ref a_mv, .int mOpen, .ref a_mc, .ref a_mb, .ref a_mz, .ref a_mu, .ref a_mi, .ref a_mr, .ref a_mh, .ref a_ml, .ref a_ma, .int mLast, .ref a_mk, .int mKLast, .int mKOpen, .int mKFill, .int mNumber, .int mDown, .int mArmed, .int mLeft, .int mWritten, .ref a_my, .ref a_mo, .int mFSize])), (a_mi, .inl (cI, 64, .inl mSiz)), (a_ma, .inl (cI, 16, .inl mAt))]) hD hS hA [0, 1, 2] rfl
        refine va_calli (va_runV (As := [.int x1]) (rest := []) ⟨hx, hb, hml, hown, htT⟩ (c_M_liveUnits l dC dI cI cZ cJ a_m a_ms a_mf a_mv a_mc a_mb a_mz a_mu a_mi a_mr a_mh a_ml a_ma a_mk a_my a_mo s.heap.size n N mSegs mOpen mLast mKLast mKOpen mKFill mNumber mDown mArmed mLeft mWritten mFSize mSiz mAt x1 z1 hz) (cwV 1 htT (gV kl_M_137 ki_M_liveUnits ke_M_liveUnits kn_M kc_M_liveUnits) rfl rfl rfl (by decide +kernel) ⟨Nat.le_of_ble_eq_true rfl, Nat.le_of_ble_eq_true rfl⟩) ⟨fun a U g mk q => by obtain ⟨q0, q1, qP, qK, qD, qN⟩ := q; exact ⟨q0, q1, qP, va_K.moved (u := U) (U := U.calling g mk a) (Vm.Alike.refl U.vm) qK, qD, Ns.same (u := U) rfl qN⟩, va_recv (q0 := 0) (q := (R_M, F_M, 27)) hK hP (ci := 5) rfl rfl, fun U hU hW => ⟨rfl, by rw [hU], by rw [hU]; exact hPc, va_K.moved hW.alike hK, hDc.weaken (fun _ _ _ _ => trivial), Ns.warm hW hN⟩⟩ rfl rfl hl.1 rfl (lv_room (Nat.le_of_ble_eq_true rfl)) d_M_live_30 ⟨(Nat.zero_le _), (Nat.zero_le _)⟩) hS (fun q _ h => hFc q h) hFc (fun r u t H locs ht hvm hw hB hz1 hk1 hS => ?_)
        subst hw
        obtain ⟨hP1, hK1, hD1⟩ := hB
        rw [ht] at hP1
        obtain ⟨hP, hD⟩ := va_join (wr := []) (w1 := [(a_m, .inr (5, [.int mSegs, .ref a_ms, .ref a_mf, .ref a_mv, .int mOpen, .ref a_mc, .ref a_mb, .ref a_mz, .ref a_mu, .ref a_mi, .ref a_mr, .ref a_mh, .ref a_ml, .ref a_ma, .int mLast, .ref a_mk, .int mKLast, .int mKOpen, .int mKFill, .int mNumber, .int mDown, .int mArmed, .int mLeft, .int mWritten, .ref a_my, .ref a_mo, .int mFSize])), (a_mi, .inl (cI, 64, .inl mSiz)), (a_ma, .inl (cI, 16, .inl mAt))]) hP hD [0, 1, 2] [] rfl rfl (by decide) (by decide) hk1 hFc hP1 hD1
        have hP : va_P (dC, dI) classes [(a_m, .inr (5, [.int mSegs, .ref a_ms, .ref a_mf, .ref a_mv, .int mOpen, .ref a_mc, .ref a_mb, .ref a_mz, .ref a_mu, .ref a_mi, .ref a_mr, .ref a_mh, .ref a_ml, .ref a_ma, .int mLast, .ref a_mk, .int mKLast, .int mKOpen, .int mKFill, .int mNumber, .int mDown, .int mArmed, .int mLeft, .int mWritten, .ref a_my, .ref a_mo, .int mFSize])), (a_mi, .inl (cI, 64, .inl mSiz)), (a_ma, .inl (cI, 16, .inl mAt))] H := hP
        have hD : va_D A [(a_m, .inr (5, [.int mSegs, .ref a_ms, .ref a_mf, .ref a_mv, .int mOpen, .ref a_mc, .ref a_mb, .ref a_mz, .ref a_mu, .ref a_mi, .ref a_mr, .ref a_mh, .ref a_ml, .ref a_ma, .int mLast, .ref a_mk, .int mKLast, .int mKOpen, .int mKFill, .int mNumber, .int mDown, .int mArmed, .int mLeft, .int mWritten, .ref a_my, .ref a_mo, .int mFSize])), (a_mi, .inl (cI, 64, .inl mSiz)), (a_ma, .inl (cI, 16, .inl mAt))] := hD
        exact W.iret (v := z1) hx hb hr (fun t ht hW => ⟨⟨z1, (), rfl, (Option.some.inj h).symm, by rw [ht]; exact hP, va_K.moved hW.alike hK, hD⟩, hS.F ht⟩) hS.2.2 d_M_live_33
      · have h := ck_f hc h
        refine lv_iconst (v := (-1 : Int32)) hx hb d_M_live_24 (by decide) ?_
        refine lv_goto (tgt := 33) hx hb d_M_live_25 (by decide) ?_
        exact W.iret (v := (-1 : Int32)) hx hb hr (fun t ht hW => ⟨⟨(-1 : Int32), (), rfl, (Option.some.inj h).symm, by rw [ht]; exact hP, va_K.moved hW.alike hK, hD⟩, hS.F ht⟩) hS.2.2 d_M_live_33
  · have h := ck_f hc h
    refine lv_bipush (v := (-4 : Int32)) hx hb d_M_live_7 (by decide) ?_
    refine lv_goto (tgt := 33) hx hb d_M_live_9 (by decide) ?_
    exact W.iret (v := (-4 : Int32)) hx hb hr (fun t ht hW => ⟨⟨(-4 : Int32), (), rfl, (Option.some.inj h).symm, by rw [ht]; exact hP, va_K.moved hW.alike hK, hD⟩, hS.F ht⟩) hS.2.2 d_M_live_33
set_option maxHeartbeats 4000000 in
set_option maxRecDepth 100000 in
theorem c_M_segment (l : Launch) (dC : Nat → ClassId) (dI : Nat → Nat → Nat) (cI cZ cJ : ClassId) (a_m a_ms a_mf a_mv a_mc a_mb a_mz a_mu a_mi a_mr a_mh a_ml a_ma a_mk a_my a_mo : Nat) (sz n N : Nat) (mSegs : Int32) (mOpen : Int32) (mLast : Int32) (mKLast : Int32) (mKOpen : Int32) (mKFill : Int32) (mNumber : Int32) (mDown : Int32) (mArmed : Int32) (mLeft : Int32) (mWritten : Int32) (mFSize : Int32) (mSt : Nat → Int32) (x1 : Int32) (res : Int32) (hM : M_segment mSegs mDown mSt x1 = some res) : Met l y_M_segment w_M_segment ({ frames := 0, cells := 0, slots := 0, locals := 0 }) (va_Pc [.ref a_m, .int x1] (fun U => U.heap.size = sz ∧ va_P (dC, dI) classes [(a_m, .inr (5, [.int mSegs, .ref a_ms, .ref a_mf, .ref a_mv, .int mOpen, .ref a_mc, .ref a_mb, .ref a_mz, .ref a_mu, .ref a_mi, .ref a_mr, .ref a_mh, .ref a_ml, .ref a_ma, .int mLast, .ref a_mk, .int mKLast, .int mKOpen, .int mKFill, .int mNumber, .int mDown, .int mArmed, .int mLeft, .int mWritten, .ref a_my, .ref a_mo, .int mFSize])), (a_ms, .inl (cI, 8, .inl mSt))] U.heap ∧ va_K (dC, dI) classes [(cI, .int), (cZ, .boolean), (cJ, .long)] U ∧ va_D (fun _ => True) [(a_m, .inr (5, [.int mSegs, .ref a_ms, .ref a_mf, .ref a_mv, .int mOpen, .ref a_mc, .ref a_mb, .ref a_mz, .ref a_mu, .ref a_mi, .ref a_mr, .ref a_mh, .ref a_ml, .ref a_ma, .int mLast, .ref a_mk, .int mKLast, .int mKOpen, .int mKFill, .int mNumber, .int mDown, .int mArmed, .int mLeft, .int mWritten, .ref a_my, .ref a_mo, .int mFSize])), (a_ms, .inl (cI, 8, .inl mSt))] ∧ Ns U)) (va_Qi (fun (r : Int32) (z : Unit) => res = r) (fun (z : Unit) (t : State) => va_P (dC, dI) classes [(a_m, .inr (5, [.int mSegs, .ref a_ms, .ref a_mf, .ref a_mv, .int mOpen, .ref a_mc, .ref a_mb, .ref a_mz, .ref a_mu, .ref a_mi, .ref a_mr, .ref a_mh, .ref a_ml, .ref a_ma, .int mLast, .ref a_mk, .int mKLast, .int mKOpen, .int mKFill, .int mNumber, .int mDown, .int mArmed, .int mLeft, .int mWritten, .ref a_my, .ref a_mo, .int mFSize])), (a_ms, .inl (cI, 8, .inl mSt))] t.heap ∧ va_K (dC, dI) classes [(cI, .int), (cZ, .boolean), (cJ, .long)] t ∧ va_D (va_A [(a_m, .inr (5, [.int mSegs, .ref a_ms, .ref a_mf, .ref a_mv, .int mOpen, .ref a_mc, .ref a_mb, .ref a_mz, .ref a_mu, .ref a_mi, .ref a_mr, .ref a_mh, .ref a_ml, .ref a_ma, .int mLast, .ref a_mk, .int mKLast, .int mKOpen, .int mKFill, .int mNumber, .int mDown, .int mArmed, .int mLeft, .int mWritten, .ref a_my, .ref a_mo, .int mFSize])), (a_ms, .inl (cI, 8, .inl mSt))] sz) [(a_m, .inr (5, [.int mSegs, .ref a_ms, .ref a_mf, .ref a_mv, .int mOpen, .ref a_mc, .ref a_mb, .ref a_mz, .ref a_mu, .ref a_mi, .ref a_mr, .ref a_mh, .ref a_ml, .ref a_ma, .int mLast, .ref a_mk, .int mKLast, .int mKOpen, .int mKFill, .int mNumber, .int mDown, .int mArmed, .int mLeft, .int mWritten, .ref a_my, .ref a_mo, .int mFSize])), (a_ms, .inl (cI, 8, .inl mSt))]) (va_A [(a_m, .inr (5, [.int mSegs, .ref a_ms, .ref a_mf, .ref a_mv, .int mOpen, .ref a_mc, .ref a_mb, .ref a_mz, .ref a_mu, .ref a_mi, .ref a_mr, .ref a_mh, .ref a_ml, .ref a_ma, .int mLast, .ref a_mk, .int mKLast, .int mKOpen, .int mKFill, .int mNumber, .int mDown, .int mArmed, .int mLeft, .int mWritten, .ref a_my, .ref a_mo, .int mFSize])), (a_ms, .inl (cI, 8, .inl mSt))] sz)) 0 0 (va_A [(a_m, .inr (5, [.int mSegs, .ref a_ms, .ref a_mf, .ref a_mv, .int mOpen, .ref a_mc, .ref a_mb, .ref a_mz, .ref a_mu, .ref a_mi, .ref a_mr, .ref a_mh, .ref a_ml, .ref a_ma, .int mLast, .ref a_mk, .int mKLast, .int mKOpen, .int mKFill, .int mNumber, .int mDown, .int mArmed, .int mLeft, .int mWritten, .ref a_my, .ref a_mo, .int mFSize])), (a_ms, .inl (cI, 8, .inl mSt))] sz) := by
  refine Met.ofW (cc := b_M_segment) (maxL := 2) (ret := (some .int)) (by decide) rfl ?_
  intro p e s m args below meth c s₁ B hml hv
  obtain ⟨rfl, hsz, hP, hK, hD0, hN⟩ := hv
  have hx := B.exec
  have hb := B.bytes
  have hr := B.returns
  have hts := atoms_spec (ws := w_M_segment) B.pre
  have htT : ∀ w ∈ lwG, w.before _ s = true := fun w h => hts w (List.mem_cons_of_mem _ h)
  have hown : s.vm.findClass R_M = some m.cls := findClass_of_methodNamed B.named
  have hlocks := B.notSynchronized
  subst hsz
  have hD := hD0.self (sz := s.heap.size)
  generalize hAe : va_A [(a_m, .inr (5, [.int mSegs, .ref a_ms, .ref a_mf, .ref a_mv, .int mOpen, .ref a_mc, .ref a_mb, .ref a_mz, .ref a_mu, .ref a_mi, .ref a_mr, .ref a_mh, .ref a_ml, .ref a_ma, .int mLast, .ref a_mk, .int mKLast, .int mKOpen, .int mKFill, .int mNumber, .int mDown, .int mArmed, .int mLeft, .int mWritten, .ref a_my, .ref a_mo, .int mFSize])), (a_ms, .inl (cI, 8, .inl mSt))] s.heap.size = A at hD ⊢
  have hA : ∀ q : Nat, s.heap.size ≤ q → A q := fun q h => by rw [← hAe]; exact Or.inr h
  have hS : va_S A s.heap s.heap [] := va_S.rf
  have hP : va_P (dC, dI) classes [(a_m, .inr (5, [.int mSegs, .ref a_ms, .ref a_mf, .ref a_mv, .int mOpen, .ref a_mc, .ref a_mb, .ref a_mz, .ref a_mu, .ref a_mi, .ref a_mr, .ref a_mh, .ref a_ml, .ref a_ma, .int mLast, .ref a_mk, .int mKLast, .int mKOpen, .int mKFill, .int mNumber, .int mDown, .int mArmed, .int mLeft, .int mWritten, .ref a_my, .ref a_mo, .int mFSize])), (a_ms, .inl (cI, 8, .inl mSt))] s.heap := hP
  have hl := lv_entry ([.ref a_m, .int x1]) (n := 2) (Nat.le_of_ble_eq_true rfl)
  rw [lg_entry_eq]
  generalize (lg_sl ([.ref a_m, .int x1]) ++ List.replicate (2 - (lg_sl ([.ref a_m, .int x1])).length) Slot.unset).toArray = ls at hl ⊢
  have hl : lv_has ls 2 [(0, .ref a_m), (1, .int x1)] := hl
  have h := hM
  rw [M_segment] at h
  refine lv_aload_n hx hb d_M_segment_0 rfl (lv_at hl 0 rfl) ?_
  refine va_get (D := (dC, dI)) (ci := 5) (v := .int mDown) (C := R_M) (T := F_M) (N := 27) hx hb htT i_M hown hK hP 0 rfl rfl 20 (by decide) (htT _ kf_M_77) (fun _ h9 => h9) rfl d_M_segment_1 ?_
  refine lv_if_eq (tgt := 12) hx hb d_M_segment_4 (by decide) (fun hc => ?_) (fun hc => ?_)
  · have h := ck_t hc h
    refine lv_iload_n hx hb d_M_segment_12 rfl (lv_at hl 1 rfl) ?_
    refine lv_if_lt (tgt := 24) hx hb d_M_segment_13 (by decide) (fun hc => ?_) (fun hc => ?_)
    · have h := ck_t hc h
      refine lv_iconst (v := (-1 : Int32)) hx hb d_M_segment_24 (by decide) ?_
      refine lv_goto (tgt := 34) hx hb d_M_segment_25 (by decide) ?_
      exact W.iret (v := (-1 : Int32)) hx hb hr (fun t ht hW => ⟨⟨(-1 : Int32), (), rfl, (Option.some.inj h).symm, by rw [ht]; exact hP, va_K.moved hW.alike hK, hD⟩, hS.F ht⟩) hS.2.2 d_M_segment_34
    · have h := ck_f hc h
      refine lv_iload_n hx hb d_M_segment_16 rfl (lv_at hl 1 rfl) ?_
      refine lv_aload_n hx hb d_M_segment_17 rfl (lv_at hl 0 rfl) ?_
      refine va_get (D := (dC, dI)) (ci := 5) (v := .int mSegs) (C := R_M) (T := F_M) (N := 27) hx hb htT i_M hown hK hP 0 rfl rfl 0 (by decide) (htT _ kf_M_57) (fun _ h9 => h9) rfl d_M_segment_18 ?_
      refine lv_icmp_lt (tgt := 28) hx hb d_M_segment_21 (by decide) (fun hc => ?_) (fun hc => ?_)
      · have h := ck_t hc h
        refine lv_aload_n hx hb d_M_segment_28 rfl (lv_at hl 0 rfl) ?_
        refine va_get (D := (dC, dI)) (ci := 5) (v := .ref a_ms) (C := R_M) (T := F_M) (N := 27) hx hb htT i_M hown hK hP 0 rfl rfl 1 (by decide) (htT _ kf_M_7) (fun _ h9 => h9) rfl d_M_segment_29 ?_
        refine lv_iload_n hx hb d_M_segment_32 rfl (lv_at hl 1 rfl) ?_
        obtain ⟨hin, h⟩ := ck_in h
        refine va_iald hx hb hK hP 1 0 rfl rfl hin d_M_segment_33 ?_
        exact W.iret (v := (mSt x1.toNatClampNeg)) hx hb hr (fun t ht hW => ⟨⟨(mSt x1.toNatClampNeg), (), rfl, (Option.some.inj h).symm, by rw [ht]; exact hP, va_K.moved hW.alike hK, hD⟩, hS.F ht⟩) hS.2.2 d_M_segment_34
      · have h := ck_f hc h
        refine lv_iconst (v := (-1 : Int32)) hx hb d_M_segment_24 (by decide) ?_
        refine lv_goto (tgt := 34) hx hb d_M_segment_25 (by decide) ?_
        exact W.iret (v := (-1 : Int32)) hx hb hr (fun t ht hW => ⟨⟨(-1 : Int32), (), rfl, (Option.some.inj h).symm, by rw [ht]; exact hP, va_K.moved hW.alike hK, hD⟩, hS.F ht⟩) hS.2.2 d_M_segment_34
  · have h := ck_f hc h
    refine lv_bipush (v := (-4 : Int32)) hx hb d_M_segment_7 (by decide) ?_
    refine lv_goto (tgt := 34) hx hb d_M_segment_9 (by decide) ?_
    exact W.iret (v := (-4 : Int32)) hx hb hr (fun t ht hW => ⟨⟨(-4 : Int32), (), rfl, (Option.some.inj h).symm, by rw [ht]; exact hP, va_K.moved hW.alike hK, hD⟩, hS.F ht⟩) hS.2.2 d_M_segment_34
set_option maxHeartbeats 4000000 in
set_option maxRecDepth 100000 in
theorem c_M_look (l : Launch) (dC : Nat → ClassId) (dI : Nat → Nat → Nat) (cI cZ cJ : ClassId) (a_m a_ms a_mf a_mv a_mc a_mb a_mz a_mu a_mi a_mr a_mh a_ml a_ma a_mk a_my a_mo : Nat) (sz n N : Nat) (mSegs : Int32) (mOpen : Int32) (mLast : Int32) (mKLast : Int32) (mKOpen : Int32) (mKFill : Int32) (mNumber : Int32) (mDown : Int32) (mArmed : Int32) (mLeft : Int32) (mWritten : Int32) (mFSize : Int32) (mFil : Nat → Int32) (mSav : Nat → Int32) (x1 : Int32) (res : Int32) (hM : M_look mOpen mLast mNumber mDown mArmed mLeft mWritten mFil mSav x1 = some res) : Met l y_M_look w_M_look ({ frames := 0, cells := 0, slots := 0, locals := 0 }) (va_Pc [.ref a_m, .int x1] (fun U => U.heap.size = sz ∧ va_P (dC, dI) classes [(a_m, .inr (5, [.int mSegs, .ref a_ms, .ref a_mf, .ref a_mv, .int mOpen, .ref a_mc, .ref a_mb, .ref a_mz, .ref a_mu, .ref a_mi, .ref a_mr, .ref a_mh, .ref a_ml, .ref a_ma, .int mLast, .ref a_mk, .int mKLast, .int mKOpen, .int mKFill, .int mNumber, .int mDown, .int mArmed, .int mLeft, .int mWritten, .ref a_my, .ref a_mo, .int mFSize])), (a_mf, .inl (cI, 8, .inl mFil)), (a_mv, .inl (cI, 8, .inl mSav))] U.heap ∧ va_K (dC, dI) classes [(cI, .int), (cZ, .boolean), (cJ, .long)] U ∧ va_D (fun _ => True) [(a_m, .inr (5, [.int mSegs, .ref a_ms, .ref a_mf, .ref a_mv, .int mOpen, .ref a_mc, .ref a_mb, .ref a_mz, .ref a_mu, .ref a_mi, .ref a_mr, .ref a_mh, .ref a_ml, .ref a_ma, .int mLast, .ref a_mk, .int mKLast, .int mKOpen, .int mKFill, .int mNumber, .int mDown, .int mArmed, .int mLeft, .int mWritten, .ref a_my, .ref a_mo, .int mFSize])), (a_mf, .inl (cI, 8, .inl mFil)), (a_mv, .inl (cI, 8, .inl mSav))] ∧ Ns U)) (va_Qi (fun (r : Int32) (z : Unit) => res = r) (fun (z : Unit) (t : State) => va_P (dC, dI) classes [(a_m, .inr (5, [.int mSegs, .ref a_ms, .ref a_mf, .ref a_mv, .int mOpen, .ref a_mc, .ref a_mb, .ref a_mz, .ref a_mu, .ref a_mi, .ref a_mr, .ref a_mh, .ref a_ml, .ref a_ma, .int mLast, .ref a_mk, .int mKLast, .int mKOpen, .int mKFill, .int mNumber, .int mDown, .int mArmed, .int mLeft, .int mWritten, .ref a_my, .ref a_mo, .int mFSize])), (a_mf, .inl (cI, 8, .inl mFil)), (a_mv, .inl (cI, 8, .inl mSav))] t.heap ∧ va_K (dC, dI) classes [(cI, .int), (cZ, .boolean), (cJ, .long)] t ∧ va_D (va_A [(a_m, .inr (5, [.int mSegs, .ref a_ms, .ref a_mf, .ref a_mv, .int mOpen, .ref a_mc, .ref a_mb, .ref a_mz, .ref a_mu, .ref a_mi, .ref a_mr, .ref a_mh, .ref a_ml, .ref a_ma, .int mLast, .ref a_mk, .int mKLast, .int mKOpen, .int mKFill, .int mNumber, .int mDown, .int mArmed, .int mLeft, .int mWritten, .ref a_my, .ref a_mo, .int mFSize])), (a_mf, .inl (cI, 8, .inl mFil)), (a_mv, .inl (cI, 8, .inl mSav))] sz) [(a_m, .inr (5, [.int mSegs, .ref a_ms, .ref a_mf, .ref a_mv, .int mOpen, .ref a_mc, .ref a_mb, .ref a_mz, .ref a_mu, .ref a_mi, .ref a_mr, .ref a_mh, .ref a_ml, .ref a_ma, .int mLast, .ref a_mk, .int mKLast, .int mKOpen, .int mKFill, .int mNumber, .int mDown, .int mArmed, .int mLeft, .int mWritten, .ref a_my, .ref a_mo, .int mFSize])), (a_mf, .inl (cI, 8, .inl mFil)), (a_mv, .inl (cI, 8, .inl mSav))]) (va_A [(a_m, .inr (5, [.int mSegs, .ref a_ms, .ref a_mf, .ref a_mv, .int mOpen, .ref a_mc, .ref a_mb, .ref a_mz, .ref a_mu, .ref a_mi, .ref a_mr, .ref a_mh, .ref a_ml, .ref a_ma, .int mLast, .ref a_mk, .int mKLast, .int mKOpen, .int mKFill, .int mNumber, .int mDown, .int mArmed, .int mLeft, .int mWritten, .ref a_my, .ref a_mo, .int mFSize])), (a_mf, .inl (cI, 8, .inl mFil)), (a_mv, .inl (cI, 8, .inl mSav))] sz)) 0 0 (va_A [(a_m, .inr (5, [.int mSegs, .ref a_ms, .ref a_mf, .ref a_mv, .int mOpen, .ref a_mc, .ref a_mb, .ref a_mz, .ref a_mu, .ref a_mi, .ref a_mr, .ref a_mh, .ref a_ml, .ref a_ma, .int mLast, .ref a_mk, .int mKLast, .int mKOpen, .int mKFill, .int mNumber, .int mDown, .int mArmed, .int mLeft, .int mWritten, .ref a_my, .ref a_mo, .int mFSize])), (a_mf, .inl (cI, 8, .inl mFil)), (a_mv, .inl (cI, 8, .inl mSav))] sz) := by
  refine Met.ofW (cc := b_M_look) (maxL := 2) (ret := (some .int)) (by decide) rfl ?_
  intro p e s m args below meth c s₁ B hml hv
  obtain ⟨rfl, hsz, hP, hK, hD0, hN⟩ := hv
  have hx := B.exec
  have hb := B.bytes
  have hr := B.returns
  have hts := atoms_spec (ws := w_M_look) B.pre
  have htT : ∀ w ∈ lwG, w.before _ s = true := fun w h => hts w (List.mem_cons_of_mem _ h)
  have hown : s.vm.findClass R_M = some m.cls := findClass_of_methodNamed B.named
  have hlocks := B.notSynchronized
  subst hsz
  have hD := hD0.self (sz := s.heap.size)
  generalize hAe : va_A [(a_m, .inr (5, [.int mSegs, .ref a_ms, .ref a_mf, .ref a_mv, .int mOpen, .ref a_mc, .ref a_mb, .ref a_mz, .ref a_mu, .ref a_mi, .ref a_mr, .ref a_mh, .ref a_ml, .ref a_ma, .int mLast, .ref a_mk, .int mKLast, .int mKOpen, .int mKFill, .int mNumber, .int mDown, .int mArmed, .int mLeft, .int mWritten, .ref a_my, .ref a_mo, .int mFSize])), (a_mf, .inl (cI, 8, .inl mFil)), (a_mv, .inl (cI, 8, .inl mSav))] s.heap.size = A at hD ⊢
  have hA : ∀ q : Nat, s.heap.size ≤ q → A q := fun q h => by rw [← hAe]; exact Or.inr h
  have hS : va_S A s.heap s.heap [] := va_S.rf
  have hP : va_P (dC, dI) classes [(a_m, .inr (5, [.int mSegs, .ref a_ms, .ref a_mf, .ref a_mv, .int mOpen, .ref a_mc, .ref a_mb, .ref a_mz, .ref a_mu, .ref a_mi, .ref a_mr, .ref a_mh, .ref a_ml, .ref a_ma, .int mLast, .ref a_mk, .int mKLast, .int mKOpen, .int mKFill, .int mNumber, .int mDown, .int mArmed, .int mLeft, .int mWritten, .ref a_my, .ref a_mo, .int mFSize])), (a_mf, .inl (cI, 8, .inl mFil)), (a_mv, .inl (cI, 8, .inl mSav))] s.heap := hP
  have hl := lv_entry ([.ref a_m, .int x1]) (n := 2) (Nat.le_of_ble_eq_true rfl)
  rw [lg_entry_eq]
  generalize (lg_sl ([.ref a_m, .int x1]) ++ List.replicate (2 - (lg_sl ([.ref a_m, .int x1])).length) Slot.unset).toArray = ls at hl ⊢
  have hl : lv_has ls 2 [(0, .ref a_m), (1, .int x1)] := hl
  have h := hM
  rw [M_look] at h
  refine lv_iload_n hx hb d_M_look_0 rfl (lv_at hl 1 rfl) ?_
  refine lv_if_lt (tgt := 10) hx hb d_M_look_1 (by decide) (fun hc => ?_) (fun hc => ?_)
  · have h := ck_t hc h
    refine lv_iconst (v := (-1 : Int32)) hx hb d_M_look_10 (by decide) ?_
    exact W.iret (v := (-1 : Int32)) hx hb hr (fun t ht hW => ⟨⟨(-1 : Int32), (), rfl, (Option.some.inj h).symm, by rw [ht]; exact hP, va_K.moved hW.alike hK, hD⟩, hS.F ht⟩) hS.2.2 d_M_look_11
  · have h := ck_f hc h
    refine lv_iload_n hx hb d_M_look_4 rfl (lv_at hl 1 rfl) ?_
    refine lv_bipush (v := (6 : Int32)) hx hb d_M_look_5 (by decide) ?_
    refine lv_icmp_le (tgt := 12) hx hb d_M_look_7 (by decide) (fun hc => ?_) (fun hc => ?_)
    · have h := ck_t hc h
      refine lv_iload_n hx hb d_M_look_12 rfl (lv_at hl 1 rfl) ?_
      refine lv_iconst (v := (4 : Int32)) hx hb d_M_look_13 (by decide) ?_
      refine lv_icmp_ge (tgt := 27) hx hb d_M_look_14 (by decide) (fun hc => ?_) (fun hc => ?_)
      · have h := ck_t hc h
        refine lv_iload_n hx hb d_M_look_27 rfl (lv_at hl 1 rfl) ?_
        by_cases hc0 : x1 = (0 : Int32)
        · have h := ck_t hc0 h
          refine lv_tableIn (tgt := 68) hx hb d_M_look_28 (by rw [hc0]; decide) (by rw [hc0]; decide) (by rw [hc0]; rfl) (by decide) ?_
          refine lv_aload_n hx hb d_M_look_68 rfl (lv_at hl 0 rfl) ?_
          refine va_get (D := (dC, dI)) (ci := 5) (v := .ref a_mf) (C := R_M) (T := F_M) (N := 27) hx hb htT i_M hown hK hP 0 rfl rfl 2 (by decide) (htT _ kf_M_13) (fun _ h9 => h9) rfl d_M_look_69 ?_
          refine lv_aload_n hx hb d_M_look_72 rfl (lv_at hl 0 rfl) ?_
          refine va_get (D := (dC, dI)) (ci := 5) (v := .int mOpen) (C := R_M) (T := F_M) (N := 27) hx hb htT i_M hown hK hP 0 rfl rfl 4 (by decide) (htT _ kf_M_83) (fun _ h9 => h9) rfl d_M_look_73 ?_
          obtain ⟨hin, h⟩ := ck_in h
          refine va_iald hx hb hK hP 1 0 rfl rfl hin d_M_look_76 ?_
          exact W.iret (v := (mFil mOpen.toNatClampNeg)) hx hb hr (fun t ht hW => ⟨⟨(mFil mOpen.toNatClampNeg), (), rfl, (Option.some.inj h).symm, by rw [ht]; exact hP, va_K.moved hW.alike hK, hD⟩, hS.F ht⟩) hS.2.2 d_M_look_77
        · have h := ck_f hc0 h
          by_cases hc1 : x1 = (1 : Int32)
          · have h := ck_t hc1 h
            refine lv_tableIn (tgt := 78) hx hb d_M_look_28 (by rw [hc1]; decide) (by rw [hc1]; decide) (by rw [hc1]; rfl) (by decide) ?_
            refine lv_aload_n hx hb d_M_look_78 rfl (lv_at hl 0 rfl) ?_
            refine va_get (D := (dC, dI)) (ci := 5) (v := .ref a_mv) (C := R_M) (T := F_M) (N := 27) hx hb htT i_M hown hK hP 0 rfl rfl 3 (by decide) (htT _ kf_M_16) (fun _ h9 => h9) rfl d_M_look_79 ?_
            refine lv_aload_n hx hb d_M_look_82 rfl (lv_at hl 0 rfl) ?_
            refine va_get (D := (dC, dI)) (ci := 5) (v := .int mOpen) (C := R_M) (T := F_M) (N := 27) hx hb htT i_M hown hK hP 0 rfl rfl 4 (by decide) (htT _ kf_M_83) (fun _ h9 => h9) rfl d_M_look_83 ?_
            obtain ⟨hin, h⟩ := ck_in h
            refine va_iald hx hb hK hP 2 0 rfl rfl hin d_M_look_86 ?_
            exact W.iret (v := (mSav mOpen.toNatClampNeg)) hx hb hr (fun t ht hW => ⟨⟨(mSav mOpen.toNatClampNeg), (), rfl, (Option.some.inj h).symm, by rw [ht]; exact hP, va_K.moved hW.alike hK, hD⟩, hS.F ht⟩) hS.2.2 d_M_look_87
          · have h := ck_f hc1 h
            by_cases hc2 : x1 = (2 : Int32)
            · have h := ck_t hc2 h
              refine lv_tableIn (tgt := 88) hx hb d_M_look_28 (by rw [hc2]; decide) (by rw [hc2]; decide) (by rw [hc2]; rfl) (by decide) ?_
              refine lv_aload_n hx hb d_M_look_88 rfl (lv_at hl 0 rfl) ?_
              refine va_get (D := (dC, dI)) (ci := 5) (v := .int mLast) (C := R_M) (T := F_M) (N := 27) hx hb htT i_M hown hK hP 0 rfl rfl 14 (by decide) (htT _ kf_M_97) (fun _ h9 => h9) rfl d_M_look_89 ?_
              exact W.iret (v := mLast) hx hb hr (fun t ht hW => ⟨⟨mLast, (), rfl, (Option.some.inj h).symm, by rw [ht]; exact hP, va_K.moved hW.alike hK, hD⟩, hS.F ht⟩) hS.2.2 d_M_look_92
            · have h := ck_f hc2 h
              by_cases hc3 : x1 = (3 : Int32)
              · have h := ck_t hc3 h
                refine lv_tableIn (tgt := 93) hx hb d_M_look_28 (by rw [hc3]; decide) (by rw [hc3]; decide) (by rw [hc3]; rfl) (by decide) ?_
                refine lv_aload_n hx hb d_M_look_93 rfl (lv_at hl 0 rfl) ?_
                refine va_get (D := (dC, dI)) (ci := 5) (v := .int mNumber) (C := R_M) (T := F_M) (N := 27) hx hb htT i_M hown hK hP 0 rfl rfl 19 (by decide) (htT _ kf_M_94) (fun _ h9 => h9) rfl d_M_look_94 ?_
                exact W.iret (v := mNumber) hx hb hr (fun t ht hW => ⟨⟨mNumber, (), rfl, (Option.some.inj h).symm, by rw [ht]; exact hP, va_K.moved hW.alike hK, hD⟩, hS.F ht⟩) hS.2.2 d_M_look_97
              · have h := ck_f hc3 h
                by_cases hc4 : x1 = (4 : Int32)
                · have h := ck_t hc4 h
                  refine lv_tableIn (tgt := 98) hx hb d_M_look_28 (by rw [hc4]; decide) (by rw [hc4]; decide) (by rw [hc4]; rfl) (by decide) ?_
                  refine lv_aload_n hx hb d_M_look_98 rfl (lv_at hl 0 rfl) ?_
                  refine va_get (D := (dC, dI)) (ci := 5) (v := .int mWritten) (C := R_M) (T := F_M) (N := 27) hx hb htT i_M hown hK hP 0 rfl rfl 23 (by decide) (htT _ kf_M_80) (fun _ h9 => h9) rfl d_M_look_99 ?_
                  exact W.iret (v := mWritten) hx hb hr (fun t ht hW => ⟨⟨mWritten, (), rfl, (Option.some.inj h).symm, by rw [ht]; exact hP, va_K.moved hW.alike hK, hD⟩, hS.F ht⟩) hS.2.2 d_M_look_102
                · have h := ck_f hc4 h
                  by_cases hc5 : x1 = (5 : Int32)
                  · have h := ck_t hc5 h
                    refine lv_tableIn (tgt := 103) hx hb d_M_look_28 (by rw [hc5]; decide) (by rw [hc5]; decide) (by rw [hc5]; rfl) (by decide) ?_
                    refine lv_aload_n hx hb d_M_look_103 rfl (lv_at hl 0 rfl) ?_
                    refine va_get (D := (dC, dI)) (ci := 5) (v := .int mArmed) (C := R_M) (T := F_M) (N := 27) hx hb htT i_M hown hK hP 0 rfl rfl 21 (by decide) (htT _ kf_M_70) (fun _ h9 => h9) rfl d_M_look_104 ?_
                    refine lv_if_eq (tgt := 117) hx hb d_M_look_107 (by decide) (fun hc => ?_) (fun hc => ?_)
                    · have h := ck_t hc h
                      refine lv_iconst (v := (-1 : Int32)) hx hb d_M_look_117 (by decide) ?_
                      exact W.iret (v := (-1 : Int32)) hx hb hr (fun t ht hW => ⟨⟨(-1 : Int32), (), rfl, (Option.some.inj h).symm, by rw [ht]; exact hP, va_K.moved hW.alike hK, hD⟩, hS.F ht⟩) hS.2.2 d_M_look_118
                    · have h := ck_f hc h
                      refine lv_aload_n hx hb d_M_look_110 rfl (lv_at hl 0 rfl) ?_
                      refine va_get (D := (dC, dI)) (ci := 5) (v := .int mLeft) (C := R_M) (T := F_M) (N := 27) hx hb htT i_M hown hK hP 0 rfl rfl 22 (by decide) (htT _ kf_M_74) (fun _ h9 => h9) rfl d_M_look_111 ?_
                      refine lv_goto (tgt := 118) hx hb d_M_look_114 (by decide) ?_
                      exact W.iret (v := mLeft) hx hb hr (fun t ht hW => ⟨⟨mLeft, (), rfl, (Option.some.inj h).symm, by rw [ht]; exact hP, va_K.moved hW.alike hK, hD⟩, hS.F ht⟩) hS.2.2 d_M_look_118
                  · have h := ck_f hc5 h
                    have e0 := lv_neT hc0 (show (0 : Int32).toInt = 0 by decide)
                    have e1 := lv_neT hc1 (show (1 : Int32).toInt = 1 by decide)
                    have e2 := lv_neT hc2 (show (2 : Int32).toInt = 2 by decide)
                    have e3 := lv_neT hc3 (show (3 : Int32).toInt = 3 by decide)
                    have e4 := lv_neT hc4 (show (4 : Int32).toInt = 4 by decide)
                    have e5 := lv_neT hc5 (show (5 : Int32).toInt = 5 by decide)
                    refine lv_tableOut (tgt := 119) hx hb d_M_look_28 (by omega) (by decide) ?_
                    refine lv_aload_n hx hb d_M_look_119 rfl (lv_at hl 0 rfl) ?_
                    refine va_get (D := (dC, dI)) (ci := 5) (v := .int mDown) (C := R_M) (T := F_M) (N := 27) hx hb htT i_M hown hK hP 0 rfl rfl 20 (by decide) (htT _ kf_M_77) (fun _ h9 => h9) rfl d_M_look_120 ?_
                    refine lv_if_eq (tgt := 130) hx hb d_M_look_123 (by decide) (fun hc => ?_) (fun hc => ?_)
                    · have h := ck_t hc h
                      refine lv_iconst (v := (0 : Int32)) hx hb d_M_look_130 (by decide) ?_
                      exact W.iret (v := (0 : Int32)) hx hb hr (fun t ht hW => ⟨⟨(0 : Int32), (), rfl, (Option.some.inj h).symm, by rw [ht]; exact hP, va_K.moved hW.alike hK, hD⟩, hS.F ht⟩) hS.2.2 d_M_look_131
                    · have h := ck_f hc h
                      refine lv_iconst (v := (1 : Int32)) hx hb d_M_look_126 (by decide) ?_
                      refine lv_goto (tgt := 131) hx hb d_M_look_127 (by decide) ?_
                      exact W.iret (v := (1 : Int32)) hx hb hr (fun t ht hW => ⟨⟨(1 : Int32), (), rfl, (Option.some.inj h).symm, by rw [ht]; exact hP, va_K.moved hW.alike hK, hD⟩, hS.F ht⟩) hS.2.2 d_M_look_131
      · have h := ck_f hc h
        refine lv_aload_n hx hb d_M_look_17 rfl (lv_at hl 0 rfl) ?_
        refine va_get (D := (dC, dI)) (ci := 5) (v := .int mDown) (C := R_M) (T := F_M) (N := 27) hx hb htT i_M hown hK hP 0 rfl rfl 20 (by decide) (htT _ kf_M_77) (fun _ h9 => h9) rfl d_M_look_18 ?_
        refine lv_if_eq (tgt := 27) hx hb d_M_look_21 (by decide) (fun hc => ?_) (fun hc => ?_)
        · have h := ck_t hc h
          refine lv_iload_n hx hb d_M_look_27 rfl (lv_at hl 1 rfl) ?_
          by_cases hc0 : x1 = (0 : Int32)
          · have h := ck_t hc0 h
            refine lv_tableIn (tgt := 68) hx hb d_M_look_28 (by rw [hc0]; decide) (by rw [hc0]; decide) (by rw [hc0]; rfl) (by decide) ?_
            refine lv_aload_n hx hb d_M_look_68 rfl (lv_at hl 0 rfl) ?_
            refine va_get (D := (dC, dI)) (ci := 5) (v := .ref a_mf) (C := R_M) (T := F_M) (N := 27) hx hb htT i_M hown hK hP 0 rfl rfl 2 (by decide) (htT _ kf_M_13) (fun _ h9 => h9) rfl d_M_look_69 ?_
            refine lv_aload_n hx hb d_M_look_72 rfl (lv_at hl 0 rfl) ?_
            refine va_get (D := (dC, dI)) (ci := 5) (v := .int mOpen) (C := R_M) (T := F_M) (N := 27) hx hb htT i_M hown hK hP 0 rfl rfl 4 (by decide) (htT _ kf_M_83) (fun _ h9 => h9) rfl d_M_look_73 ?_
            obtain ⟨hin, h⟩ := ck_in h
            refine va_iald hx hb hK hP 1 0 rfl rfl hin d_M_look_76 ?_
            exact W.iret (v := (mFil mOpen.toNatClampNeg)) hx hb hr (fun t ht hW => ⟨⟨(mFil mOpen.toNatClampNeg), (), rfl, (Option.some.inj h).symm, by rw [ht]; exact hP, va_K.moved hW.alike hK, hD⟩, hS.F ht⟩) hS.2.2 d_M_look_77
          · have h := ck_f hc0 h
            by_cases hc1 : x1 = (1 : Int32)
            · have h := ck_t hc1 h
              refine lv_tableIn (tgt := 78) hx hb d_M_look_28 (by rw [hc1]; decide) (by rw [hc1]; decide) (by rw [hc1]; rfl) (by decide) ?_
              refine lv_aload_n hx hb d_M_look_78 rfl (lv_at hl 0 rfl) ?_
              refine va_get (D := (dC, dI)) (ci := 5) (v := .ref a_mv) (C := R_M) (T := F_M) (N := 27) hx hb htT i_M hown hK hP 0 rfl rfl 3 (by decide) (htT _ kf_M_16) (fun _ h9 => h9) rfl d_M_look_79 ?_
              refine lv_aload_n hx hb d_M_look_82 rfl (lv_at hl 0 rfl) ?_
              refine va_get (D := (dC, dI)) (ci := 5) (v := .int mOpen) (C := R_M) (T := F_M) (N := 27) hx hb htT i_M hown hK hP 0 rfl rfl 4 (by decide) (htT _ kf_M_83) (fun _ h9 => h9) rfl d_M_look_83 ?_
              obtain ⟨hin, h⟩ := ck_in h
              refine va_iald hx hb hK hP 2 0 rfl rfl hin d_M_look_86 ?_
              exact W.iret (v := (mSav mOpen.toNatClampNeg)) hx hb hr (fun t ht hW => ⟨⟨(mSav mOpen.toNatClampNeg), (), rfl, (Option.some.inj h).symm, by rw [ht]; exact hP, va_K.moved hW.alike hK, hD⟩, hS.F ht⟩) hS.2.2 d_M_look_87
            · have h := ck_f hc1 h
              by_cases hc2 : x1 = (2 : Int32)
              · have h := ck_t hc2 h
                refine lv_tableIn (tgt := 88) hx hb d_M_look_28 (by rw [hc2]; decide) (by rw [hc2]; decide) (by rw [hc2]; rfl) (by decide) ?_
                refine lv_aload_n hx hb d_M_look_88 rfl (lv_at hl 0 rfl) ?_
                refine va_get (D := (dC, dI)) (ci := 5) (v := .int mLast) (C := R_M) (T := F_M) (N := 27) hx hb htT i_M hown hK hP 0 rfl rfl 14 (by decide) (htT _ kf_M_97) (fun _ h9 => h9) rfl d_M_look_89 ?_
                exact W.iret (v := mLast) hx hb hr (fun t ht hW => ⟨⟨mLast, (), rfl, (Option.some.inj h).symm, by rw [ht]; exact hP, va_K.moved hW.alike hK, hD⟩, hS.F ht⟩) hS.2.2 d_M_look_92
              · have h := ck_f hc2 h
                by_cases hc3 : x1 = (3 : Int32)
                · have h := ck_t hc3 h
                  refine lv_tableIn (tgt := 93) hx hb d_M_look_28 (by rw [hc3]; decide) (by rw [hc3]; decide) (by rw [hc3]; rfl) (by decide) ?_
                  refine lv_aload_n hx hb d_M_look_93 rfl (lv_at hl 0 rfl) ?_
                  refine va_get (D := (dC, dI)) (ci := 5) (v := .int mNumber) (C := R_M) (T := F_M) (N := 27) hx hb htT i_M hown hK hP 0 rfl rfl 19 (by decide) (htT _ kf_M_94) (fun _ h9 => h9) rfl d_M_look_94 ?_
                  exact W.iret (v := mNumber) hx hb hr (fun t ht hW => ⟨⟨mNumber, (), rfl, (Option.some.inj h).symm, by rw [ht]; exact hP, va_K.moved hW.alike hK, hD⟩, hS.F ht⟩) hS.2.2 d_M_look_97
                · have h := ck_f hc3 h
                  by_cases hc4 : x1 = (4 : Int32)
                  · have h := ck_t hc4 h
                    refine lv_tableIn (tgt := 98) hx hb d_M_look_28 (by rw [hc4]; decide) (by rw [hc4]; decide) (by rw [hc4]; rfl) (by decide) ?_
                    refine lv_aload_n hx hb d_M_look_98 rfl (lv_at hl 0 rfl) ?_
                    refine va_get (D := (dC, dI)) (ci := 5) (v := .int mWritten) (C := R_M) (T := F_M) (N := 27) hx hb htT i_M hown hK hP 0 rfl rfl 23 (by decide) (htT _ kf_M_80) (fun _ h9 => h9) rfl d_M_look_99 ?_
                    exact W.iret (v := mWritten) hx hb hr (fun t ht hW => ⟨⟨mWritten, (), rfl, (Option.some.inj h).symm, by rw [ht]; exact hP, va_K.moved hW.alike hK, hD⟩, hS.F ht⟩) hS.2.2 d_M_look_102
                  · have h := ck_f hc4 h
                    by_cases hc5 : x1 = (5 : Int32)
                    · have h := ck_t hc5 h
                      refine lv_tableIn (tgt := 103) hx hb d_M_look_28 (by rw [hc5]; decide) (by rw [hc5]; decide) (by rw [hc5]; rfl) (by decide) ?_
                      refine lv_aload_n hx hb d_M_look_103 rfl (lv_at hl 0 rfl) ?_
                      refine va_get (D := (dC, dI)) (ci := 5) (v := .int mArmed) (C := R_M) (T := F_M) (N := 27) hx hb htT i_M hown hK hP 0 rfl rfl 21 (by decide) (htT _ kf_M_70) (fun _ h9 => h9) rfl d_M_look_104 ?_
                      refine lv_if_eq (tgt := 117) hx hb d_M_look_107 (by decide) (fun hc => ?_) (fun hc => ?_)
                      · have h := ck_t hc h
                        refine lv_iconst (v := (-1 : Int32)) hx hb d_M_look_117 (by decide) ?_
                        exact W.iret (v := (-1 : Int32)) hx hb hr (fun t ht hW => ⟨⟨(-1 : Int32), (), rfl, (Option.some.inj h).symm, by rw [ht]; exact hP, va_K.moved hW.alike hK, hD⟩, hS.F ht⟩) hS.2.2 d_M_look_118
                      · have h := ck_f hc h
                        refine lv_aload_n hx hb d_M_look_110 rfl (lv_at hl 0 rfl) ?_
                        refine va_get (D := (dC, dI)) (ci := 5) (v := .int mLeft) (C := R_M) (T := F_M) (N := 27) hx hb htT i_M hown hK hP 0 rfl rfl 22 (by decide) (htT _ kf_M_74) (fun _ h9 => h9) rfl d_M_look_111 ?_
                        refine lv_goto (tgt := 118) hx hb d_M_look_114 (by decide) ?_
                        exact W.iret (v := mLeft) hx hb hr (fun t ht hW => ⟨⟨mLeft, (), rfl, (Option.some.inj h).symm, by rw [ht]; exact hP, va_K.moved hW.alike hK, hD⟩, hS.F ht⟩) hS.2.2 d_M_look_118
                    · have h := ck_f hc5 h
                      have e0 := lv_neT hc0 (show (0 : Int32).toInt = 0 by decide)
                      have e1 := lv_neT hc1 (show (1 : Int32).toInt = 1 by decide)
                      have e2 := lv_neT hc2 (show (2 : Int32).toInt = 2 by decide)
                      have e3 := lv_neT hc3 (show (3 : Int32).toInt = 3 by decide)
                      have e4 := lv_neT hc4 (show (4 : Int32).toInt = 4 by decide)
                      have e5 := lv_neT hc5 (show (5 : Int32).toInt = 5 by decide)
                      refine lv_tableOut (tgt := 119) hx hb d_M_look_28 (by omega) (by decide) ?_
                      refine lv_aload_n hx hb d_M_look_119 rfl (lv_at hl 0 rfl) ?_
                      refine va_get (D := (dC, dI)) (ci := 5) (v := .int mDown) (C := R_M) (T := F_M) (N := 27) hx hb htT i_M hown hK hP 0 rfl rfl 20 (by decide) (htT _ kf_M_77) (fun _ h9 => h9) rfl d_M_look_120 ?_
                      refine lv_if_eq (tgt := 130) hx hb d_M_look_123 (by decide) (fun hc => ?_) (fun hc => ?_)
                      · have h := ck_t hc h
                        refine lv_iconst (v := (0 : Int32)) hx hb d_M_look_130 (by decide) ?_
                        exact W.iret (v := (0 : Int32)) hx hb hr (fun t ht hW => ⟨⟨(0 : Int32), (), rfl, (Option.some.inj h).symm, by rw [ht]; exact hP, va_K.moved hW.alike hK, hD⟩, hS.F ht⟩) hS.2.2 d_M_look_131
                      · have h := ck_f hc h
                        refine lv_iconst (v := (1 : Int32)) hx hb d_M_look_126 (by decide) ?_
                        refine lv_goto (tgt := 131) hx hb d_M_look_127 (by decide) ?_
                        exact W.iret (v := (1 : Int32)) hx hb hr (fun t ht hW => ⟨⟨(1 : Int32), (), rfl, (Option.some.inj h).symm, by rw [ht]; exact hP, va_K.moved hW.alike hK, hD⟩, hS.F ht⟩) hS.2.2 d_M_look_131
        · have h := ck_f hc h
          refine lv_bipush (v := (-4 : Int32)) hx hb d_M_look_24 (by decide) ?_
          exact W.iret (v := (-4 : Int32)) hx hb hr (fun t ht hW => ⟨⟨(-4 : Int32), (), rfl, (Option.some.inj h).symm, by rw [ht]; exact hP, va_K.moved hW.alike hK, hD⟩, hS.F ht⟩) hS.2.2 d_M_look_26
    · have h := ck_f hc h
      refine lv_iconst (v := (-1 : Int32)) hx hb d_M_look_10 (by decide) ?_
      exact W.iret (v := (-1 : Int32)) hx hb hr (fun t ht hW => ⟨⟨(-1 : Int32), (), rfl, (Option.some.inj h).symm, by rw [ht]; exact hP, va_K.moved hW.alike hK, hD⟩, hS.F ht⟩) hS.2.2 d_M_look_11
