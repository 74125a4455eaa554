/-! clean -/
set_option maxHeartbeats 4000000 in
theorem st_clean {lb : Nat} {n : Nat} {N : Nat} {uOpen : Int32} {uFill : Int32} {uSaved : Int32} {uSerial : Int32} {uDown : Int32} {uArmed : Int32} {uWritten : Int32} {uSize : Int32} {uBytes : Nat → Int32} {uForm : Nat → Int32} {uSers : Nat → Int32} {uBlks : Nat → Int32} {uUnts : Nat → Int32} {uStos : Nat → Int32} {uHis : Nat → Int64} {uLos : Nat → Int64} {cNumber : Int32} {cSerial : Int32} {cOpen : Int32} {cFill : Int32} {cPlcs : Nat → Int32} {uSts : Nat → Int32} {uPlcs : Nat → Int32} {mSegs : Int32} {mOpen : Int32} {mLast : Int32} {mKLast : Int32} {mKOpen : Int32} {mKFill : Int32} {mNumber : Int32} {mDown : Int32} {mArmed : Int32} {mLeft : Int32} {mWritten : Int32} {mFSize : Int32} {mSt : Nat → Int32} {mFil : Nat → Int32} {mSav : Nat → Int32} {mCnt : Nat → Int32} {mBlk : Nat → Int32} {mSto : Nat → Int32} {mUnt : Nat → Int32} {mSiz : Nat → Int32} {mSer : Nat → Int32} {mHi : Nat → Int64} {mLo : Nat → Int64} {mAt : Nat → Int32} {mKAt : Nat → Int32} {mByt : Nat → Int32} {mFrm : Nat → Int32} (h : (ST lb n N uOpen uFill uSaved uSerial uDown uArmed uWritten uBytes uSers uBlks uUnts uStos uHis uLos cNumber cSerial cOpen cFill cPlcs uSts uPlcs mSegs mOpen mLast mKLast mKOpen mKFill mNumber mDown mArmed mLeft mWritten mSt mFil mSav mCnt mBlk mSto mUnt mSiz mSer mHi mLo mAt mKAt mByt)) (hlb : lb + 16 < 2 ^ 30) : ∃ (r : Int32) (uOpen' : Int32) (uFill' : Int32) (uSaved' : Int32) (uSerial' : Int32) (uDown' : Int32) (uArmed' : Int32) (uWritten' : Int32) (uSers' : Nat → Int32) (uBlks' : Nat → Int32) (uUnts' : Nat → Int32) (uStos' : Nat → Int32) (uHis' : Nat → Int64) (uLos' : Nat → Int64) (cNumber' : Int32) (cSerial' : Int32) (cOpen' : Int32) (cFill' : Int32) (cPlcs' : Nat → Int32) (uSts' : Nat → Int32) (uPlcs' : Nat → Int32) (mOpen' : Int32) (mLast' : Int32) (mKLast' : Int32) (mKOpen' : Int32) (mKFill' : Int32) (mNumber' : Int32) (mDown' : Int32) (mLeft' : Int32) (mWritten' : Int32) (mSt' : Nat → Int32) (mFil' : Nat → Int32) (mSav' : Nat → Int32) (mCnt' : Nat → Int32) (mBlk' : Nat → Int32) (mSto' : Nat → Int32) (mUnt' : Nat → Int32) (mSiz' : Nat → Int32) (mSer' : Nat → Int32) (mHi' : Nat → Int64) (mLo' : Nat → Int64) (mAt' : Nat → Int32) (mKAt' : Nat → Int32), U_clean n N uOpen uFill uSaved uSerial uDown uArmed uWritten uSers uBlks uUnts uStos uHis uLos cNumber cSerial cOpen cFill cPlcs uSts uPlcs = some (r, uOpen', uFill', uSaved', uSerial', uDown', uArmed', uWritten', uSers', uBlks', uUnts', uStos', uHis', uLos', cNumber', cSerial', cOpen', cFill', cPlcs', uSts', uPlcs') ∧ M_clean mSegs mOpen mLast mKLast mKOpen mKFill mNumber mDown mArmed mLeft mWritten mSt mFil mSav mCnt mBlk mSto mUnt mSiz mSer mHi mLo mAt mKAt = some (r, mOpen', mLast', mKLast', mKOpen', mKFill', mNumber', mDown', mLeft', mWritten', mSt', mFil', mSav', mCnt', mBlk', mSto', mUnt', mSiz', mSer', mHi', mLo', mAt', mKAt') ∧ (ST (lb + 16) n N (uOpen') (uFill') (uSaved') (uSerial') (uDown') (uArmed') (uWritten') uBytes (uSers') (uBlks') (uUnts') (uStos') (uHis') (uLos') (cNumber') (cSerial') (cOpen') (cFill') (cPlcs') (uSts') (uPlcs') mSegs (mOpen') (mLast') (mKLast') (mKOpen') (mKFill') (mNumber') (mDown') mArmed (mLeft') (mWritten') (mSt') (mFil') (mSav') (mCnt') (mBlk') (mSto') (mUnt') (mSiz') (mSer') (mHi') (mLo') (mAt') (mKAt') mByt) := by
  obtain ⟨dn, op, fl, last, kl, ko, kf, st, cn, un, sz, sr, bk, so, sav, pa, ka, hi, lo, h1, rfl, rfl, rfl, rfl, h6, g, hu, hm, hD⟩ := h
  unfold U_clean M_clean
  by_cases e : dn = 0
  · subst e
    rw [if_pos nz0, if_pos nz0]
    have L := LV_of g hu hm
    have hn8 := L.2.1
    have hst2 : ∀ s, s < n → st s ≤ 2 ∧ uSts s = nI (st s) ∧ mSt s = nI (st s) := fun s hs => ⟨g.2.1.1 s hs, by obtain ⟨-, -, -, -, -, -, -, -, u9, -⟩ := hu; exact u9 s hs, by obtain ⟨-, -, -, -, -, -, -, m8, -⟩ := hm; exact (m8 s hs).1⟩
    have hseg : mSegs = nI n := hm.1
    have hfill : uFill = nI fl := hu.2.2.1
    have hV := victim_ok L hst2
    rw [← hseg] at hV
    rcases hV with ⟨v1, v2⟩ | ⟨s, hs, hs2, v1, v2⟩
    · rw [v1, v2, Option.bind_some, Option.bind_some, if_pos rfl, if_neg (by decide)]
      exact ⟨-2, uOpen, uFill, uSaved, uSerial, nI 0, uArmed, uWritten, uSers, uBlks, uUnts, uStos, uHis, uLos, cNumber, cSerial, cOpen, cFill, cPlcs, uSts, uPlcs, mOpen, mLast, mKLast, mKOpen, mKFill, cNumber, nI 0, mLeft, mWritten, mSt, mFil, mSav, mCnt, mBlk, mSto, mUnt, mSiz, mSer, mHi, mLo, mAt, mKAt, rfl, rfl, 0, op, fl, last, kl, ko, kf, st, cn, un, sz, sr, bk, so, sav, pa, ka, hi, lo, by omega, rfl, rfl, rfl, rfl, by omega, g, hu, hm, hD⟩
    · have f1 := fitsU L (fun s hs => (hst2 s hs).1) (fun s hs => (hst2 s hs).2.1) hs g.1.2.2.2.1
      have f2 := fitsM g hm hs
      rw [← hfill] at f1
      rw [v1, v2, Option.bind_some, Option.bind_some, if_neg (q_nem1 (by omega)), if_pos (show (0 : Int32) ≤ nI s from q_le (a := 0) (by omega) (by omega) (by omega)), f1, f2, Option.bind_some, Option.bind_some]
      by_cases hf : fc st n < fo sz bk pa (cn s) (8 * s) (16 - fl) 0
      · rw [if_pos hf, if_pos rfl, if_pos rfl]
        exact ⟨-3, uOpen, uFill, uSaved, uSerial, nI 0, uArmed, uWritten, uSers, uBlks, uUnts, uStos, uHis, uLos, cNumber, cSerial, cOpen, cFill, cPlcs, uSts, uPlcs, mOpen, mLast, mKLast, mKOpen, mKFill, cNumber, nI 0, mLeft, mWritten, mSt, mFil, mSav, mCnt, mBlk, mSto, mUnt, mSiz, mSer, mHi, mLo, mAt, mKAt, rfl, rfl, 0, op, fl, last, kl, ko, kf, st, cn, un, sz, sr, bk, so, sav, pa, ka, hi, lo, by omega, rfl, rfl, rfl, rfl, by omega, g, hu, hm, hD⟩
      · rw [if_neg hf, if_neg (show ¬ (1 : Int32) = 0 by decide), if_neg (show ¬ (1 : Int32) = 0 by decide)]
        rcases check_ok (mD := nI 0) (cNumber := cNumber) g hu hm hD with ⟨a, w, l, S, P, Q, r1, r2, t2, t3, g1', hu1, hm1⟩ | ⟨v, a, w, l, S, r1, r2, t2, t3, g1', hu1, hm1⟩
        · rw [t2, t3, Option.bind_some, Option.bind_some]
          dsimp only
          rw [if_neg (show ¬ (1 : Int32) = 0 by decide), if_neg (show ¬ (1 : Int32) = 0 by decide)]
          unfold U_appendLiveRecords
          have e16 : nI s * (16 : Int32) = nI (16 * s) := by rw [show (16 : Int32) = nI 16 from rfl, pk_mul, Nat.mul_comm]
          have e8 : (8 : Int32) * nI s = nI (8 * s) := pk_mul 8 s
          have h8 := L.2.2.2.1 s hs
          rw [e16, e8]
          have H := cl_L (kl := last) (ko := op) (kf := fl) (ka := pa) (cSerial := nI last) (cOpen := nI op) (cFill := nI fl) (mSegs := mSegs) (mKLast := nI last) (mKOpen := nI op) (mKFill := nI fl) (cNumber := cNumber + 1) (mA := mArmed) (cPlcs := P) (mKAt := Q) (lm := lb + 16) hs (by omega) 16 0 0 0 300 300 op fl last st cn un sz sr bk so (va_up sav op fl) pa hi lo uOpen uFill (nI fl) uSerial uSts uPlcs uSers uBlks uUnts uStos uHis uLos mOpen mLast mSt mFil S mCnt mBlk mSto mUnt mSiz mSer mAt mHi mLo a w l w (by omega) (by omega) (by omega) (by omega) g1' hu1 hm1 r1 hs2 ⟨by omega, fun i hi => absurd hi (by omega), fun i _ _ => by omega⟩ (fun b _ _ _ => by omega) (by rw [Nat.sub_zero]; show fo sz bk pa (cn s) (8 * s) (16 - fl) 0 ≤ fc st n; omega) (by omega)
          rcases H with ⟨op', fl', last', st', cn', un', sz', sr', bk', so', sav', pa', hi', lo', uOpen', uFill', uSaved', uSerial', uSts', uPlcs', uSers', uBlks', uUnts', uStos', uHis', uLos', mOpen', mLast', mSt', mFil', mSav', mCnt', mBlk', mSto', mUnt', mSiz', mSer', mAt', mHi', mLo', a2, w2, l2, q, k1, ⟨xx, k2⟩, k3, k4, k5, k6, k7, k8, k9, k10⟩ | ⟨op', fl', last', st', cn', un', sz', sr', bk', so', sav', pa', hi', lo', uOpen', uFill', uSaved', uSerial', uSts', uPlcs', uSers', uBlks', uUnts', uStos', uHis', uLos', mOpen', mLast', mSt', mFil', mSav', mCnt', mBlk', mSto', mUnt', mSiz', mSer', mAt', mHi', mLo', a2, w2, l2, k1, k2, k3, k4, k5, k6, k7⟩
          · erw [k1, k2]
            rw [Option.bind_some]
            dsimp only
            rw [if_neg (show ¬ nI q = (-4 : Int32) from fun z => by
              have z1 := congrArg Int32.toInt z
              rw [nI_toInt (by omega)] at z1
              have : (-4 : Int32).toInt = -4 := by decide
              omega)]
            rcases check_ok (mD := nI 0) (cNumber := cNumber + 1) k4 k5 k6 k3 with ⟨a3, w3, l3, S3, P3, Q3, c1, c2, c3, c4, g2', hu2, hm2⟩ | ⟨v3, a3, w3, l3, S3, c1, c2, c3, c4, g2', hu2, hm2⟩
            · rw [c3, c4, Option.bind_some, Option.bind_some]
              dsimp only
              rw [if_neg (show ¬ (1 : Int32) = 0 by decide), if_neg (show ¬ (1 : Int32) = 0 by decide), q_ck hs (by omega), q_ck (by omega) (by omega), nI_clamp (by omega)]
              have g3'' := GI_free g2' s hs k8 rfl rfl k10 k10
              have hu3 := RU_free hu2 s
              have hm3 := RM_free hm2 s
              refine ⟨nI q, uOpen', uFill', nI fl', uSerial', nI 0, a3, w3, uSers', uBlks', uUnts', uStos', uHis', uLos', cNumber + 1 + 1, nI last', nI op', nI fl', P3, upd uSts' s (0 : Int32), uPlcs', mOpen', mLast', nI last', nI op', nI fl', cNumber + 1 + 1, nI 0, l3, w3, upd mSt' s (0 : Int32), mFil', S3, mCnt', mBlk', mSto', mUnt', mSiz', mSer', mHi', mLo', mAt', Q3, rfl, rfl, ?_⟩
              exact ⟨0, op', fl', last', last', op', fl', va_up st' s 0, cn', un', sz', sr', bk', so', va_up sav' op' fl', pa', pa', hi', lo', by omega, rfl, rfl, rfl, rfl, k7, g3'', hu3, hm3, c1⟩
            · obtain ⟨S2, d1, d2⟩ := down_ok (uDown := nI 0) g2' hu2
              rw [c3, c4, Option.bind_some, Option.bind_some]
              dsimp only
              rw [if_pos rfl, if_pos rfl, d1, Option.bind_some]
              refine ⟨-4, uOpen', uFill', nI v3, uSerial', 1, a3, w3, S2, uBlks', uUnts', uStos', uHis', uLos', cNumber + 1, nI last, nI op, nI fl, P, uSts', uPlcs', mOpen', mLast', nI last, nI op, nI fl, cNumber + 1, 1, l3, w3, mSt', mFil', S3, mCnt', mBlk', mSto', mUnt', mSiz', mSer', mHi', mLo', mAt', Q, rfl, rfl, ?_⟩
              exact ⟨1, op', fl', last', last, op, fl, st', cn', un', sz', sr', bk', so', va_up sav' op' v3, pa', pa, hi', lo', by omega, rfl, rfl, rfl, rfl, k7, g2', d2, hm2, c1⟩
          · erw [k1, k2]
            rw [Option.bind_some]
            dsimp only
            obtain ⟨S2, d1, d2⟩ := down_ok (uDown := nI 0) k4 k5
            rw [if_pos rfl, d1, Option.bind_some]
            refine ⟨-4, uOpen', uFill', uSaved', uSerial', 1, a2, w2, S2, uBlks', uUnts', uStos', uHis', uLos', cNumber + 1, nI last, nI op, nI fl, P, uSts', uPlcs', mOpen', mLast', nI last, nI op, nI fl, cNumber + 1, 1, l2, w2, mSt', mFil', mSav', mCnt', mBlk', mSto', mUnt', mSiz', mSer', mHi', mLo', mAt', Q, rfl, rfl, ?_⟩
            exact ⟨1, op', fl', last', last, op, fl, st', cn', un', sz', sr', bk', so', sav', pa', pa, hi', lo', by omega, rfl, rfl, rfl, rfl, k7, k4, d2, k6, k3⟩
        · obtain ⟨S2, d1, d2⟩ := down_ok (uDown := nI 0) g1' hu1
          rw [t2, t3, Option.bind_some, Option.bind_some]
          dsimp only
          rw [if_pos rfl, if_pos rfl, d1, Option.bind_some]
          refine ⟨-4, uOpen, uFill, nI v, uSerial, 1, a, w, S2, uBlks, uUnts, uStos, uHis, uLos, cNumber, cSerial, cOpen, cFill, cPlcs, uSts, uPlcs, mOpen, mLast, mKLast, mKOpen, mKFill, cNumber, 1, l, w, mSt, mFil, S, mCnt, mBlk, mSto, mUnt, mSiz, mSer, mHi, mLo, mAt, mKAt, rfl, rfl, ?_⟩
          exact ⟨1, op, fl, last, kl, ko, kf, st, cn, un, sz, sr, bk, so, va_up sav op v, pa, ka, hi, lo, by omega, rfl, rfl, rfl, rfl, by omega, g1', d2, hm1, r1⟩
  · have hd := dn_0 h1 e
    rw [if_neg hd, if_neg hd]
    exact ⟨-4, uOpen, uFill, uSaved, uSerial, nI dn, uArmed, uWritten, uSers, uBlks, uUnts, uStos, uHis, uLos, cNumber, cSerial, cOpen, cFill, cPlcs, uSts, uPlcs, mOpen, mLast, mKLast, mKOpen, mKFill, cNumber, nI dn, mLeft, mWritten, mSt, mFil, mSav, mCnt, mBlk, mSto, mUnt, mSiz, mSer, mHi, mLo, mAt, mKAt, rfl, rfl, dn, op, fl, last, kl, ko, kf, st, cn, un, sz, sr, bk, so, sav, pa, ka, hi, lo, h1, rfl, rfl, rfl, rfl, by omega, g, hu, hm, hD⟩
