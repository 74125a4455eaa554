/-! write and trim -/
theorem room_ok {n : Nat} {op : Nat} {fl : Nat} {last : Nat} {kl : Nat} {ko : Nat} {kf : Nat} {st : Nat → Nat} {cn : Nat → Nat} {un : Nat → Nat} {sz : Nat → Nat} {sr : Nat → Nat} {bk : Nat → Nat} {so : Nat → Nat} {sav : Nat → Nat} {pa : Nat → Nat} {ka : Nat → Nat} {hi : Nat → Int64} {lo : Nat → Int64} {N : Nat} {uOpen : Int32} {uFill : Int32} {uSaved : Int32} {uSerial : Int32} {cSerial : Int32} {cOpen : Int32} {cFill : Int32} {uSts : Nat → Int32} {uPlcs : Nat → Int32} {cPlcs : Nat → Int32} {uSers : Nat → Int32} {uBlks : Nat → Int32} {uUnts : Nat → Int32} {uStos : Nat → Int32} {uHis : Nat → Int64} {uLos : Nat → Int64} {mSegs : Int32} {mOpen : Int32} {mLast : Int32} {mKLast : Int32} {mKOpen : Int32} {mKFill : Int32} {mSt : Nat → Int32} {mFil : Nat → Int32} {mSav : Nat → Int32} {mCnt : Nat → Int32} {mBlk : Nat → Int32} {mSto : Nat → Int32} {mUnt : Nat → Int32} {mSiz : Nat → Int32} {mSer : Nat → Int32} {mAt : Nat → Int32} {mKAt : Nat → Int32} {mHi : Nat → Int64} {mLo : Nat → Int64} (g : (GI n op fl last kl ko kf st cn un sz sr bk so sav pa ka)) (hu : (RU 0 N n op fl last kl ko kf st cn un sz sr bk so sav pa ka hi lo uOpen uFill uSaved uSerial cSerial cOpen cFill uSts uPlcs cPlcs uSers uBlks uUnts uStos uHis uLos)) (hm : (RM n op fl last kl ko kf st cn un sz sr bk so sav pa ka hi lo mSegs mOpen mLast mKLast mKOpen mKFill mSt mFil mSav mCnt mBlk mSto mUnt mSiz mSer mAt mKAt mHi mLo)) {u : Nat} (hu6 : u ≤ 6) : (U_mayAppend n uFill uSts (nI u) = some 1 ∧ M_noRoom mSegs mOpen mSt mFil (nI u) = some 0 ∧ (fl + u ≤ 16 ∨ 1 ≤ fc st n)) ∨ (U_mayAppend n uFill uSts (nI u) = some 0 ∧ M_noRoom mSegs mOpen mSt mFil (nI u) = some 1) := by
  obtain ⟨⟨b1, b2, b3, b4, -⟩, ⟨c1, -⟩, -⟩ := g
  obtain ⟨-, rfl, rfl, -, -, -, -, -, u9, -⟩ := hu
  obtain ⟨rfl, rfl, -, -, -, -, m7, m8, -⟩ := hm
  have hsub : (16 : Int32) - nI fl = nI (16 - fl) := pk_sub (a := 16) b4
  have fU := freeU b2 c1 u9
  have fM := freeM b2 c1 (fun s hs => (m8 s hs).1)
  have hle := fc_le st n
  unfold U_mayAppend M_noRoom
  rw [hsub, q_ck (by omega) (by omega), nI_clamp (by omega), m7, hsub, fU, fM, Option.bind_some, Option.bind_some]
  by_cases c : u ≤ 16 - fl
  · left
    rw [if_pos (q_le (by omega) (by omega) c), if_pos (q_le (by omega) (by omega) c)]
    exact ⟨rfl, rfl, Or.inl (by omega)⟩
  · rw [if_neg (q_nle (by omega) (by omega) (by omega)), if_neg (q_nle (by omega) (by omega) (by omega))]
    by_cases c2 : 2 ≤ fc st n
    · left
      rw [if_neg (show ¬ nI (fc st n) ≤ (1 : Int32) from q_nle (b := 1) (by omega) (by omega) (by omega)), if_pos (show (2 : Int32) ≤ nI (fc st n) from q_le (a := 2) (by omega) (by omega) c2)]
      exact ⟨rfl, rfl, Or.inr (by omega)⟩
    · right
      rw [if_pos (show nI (fc st n) ≤ (1 : Int32) from q_le (b := 1) (by omega) (by omega) (by omega)), if_neg (show ¬ (2 : Int32) ≤ nI (fc st n) from q_nle (a := 2) (by omega) (by omega) (by omega))]
      exact ⟨rfl, rfl⟩
theorem units_ok {z : Nat} (hz : z ≤ 16) : (2 : Int32) + ((nI z + (3 : Int32)) / (4 : Int32)) = nI (2 + (z + 3) / 4) := by
  rw [show (3 : Int32) = nI 3 from rfl, nI_add, show (4 : Int32) = nI 4 from rfl, pk_div (by omega) (by omega) (by omega), show (2 : Int32) = nI 2 from rfl, nI_add]
set_option maxHeartbeats 1000000 in
theorem st_write {lb : Nat} {n : Nat} {N : Nat} {uOpen : Int32} {uFill : Int32} {uSaved : Int32} {uSerial : Int32} {uDown : Int32} {uArmed : Int32} {uWritten : Int32} {uSize : Int32} {uBytes : Nat → Int32} {uForm : Nat → Int32} {uSers : Nat → Int32} {uBlks : Nat → Int32} {uUnts : Nat → Int32} {uStos : Nat → Int32} {uHis : Nat → Int64} {uLos : Nat → Int64} {cNumber : Int32} {cSerial : Int32} {cOpen : Int32} {cFill : Int32} {cPlcs : Nat → Int32} {uSts : Nat → Int32} {uPlcs : Nat → Int32} {mSegs : Int32} {mOpen : Int32} {mLast : Int32} {mKLast : Int32} {mKOpen : Int32} {mKFill : Int32} {mNumber : Int32} {mDown : Int32} {mArmed : Int32} {mLeft : Int32} {mWritten : Int32} {mFSize : Int32} {mSt : Nat → Int32} {mFil : Nat → Int32} {mSav : Nat → Int32} {mCnt : Nat → Int32} {mBlk : Nat → Int32} {mSto : Nat → Int32} {mUnt : Nat → Int32} {mSiz : Nat → Int32} {mSer : Nat → Int32} {mHi : Nat → Int64} {mLo : Nat → Int64} {mAt : Nat → Int32} {mKAt : Nat → Int32} {mByt : Nat → Int32} {mFrm : Nat → Int32} (h : (ST lb n N uOpen uFill uSaved uSerial uDown uArmed uWritten uBytes uSers uBlks uUnts uStos uHis uLos cNumber cSerial cOpen cFill cPlcs uSts uPlcs mSegs mOpen mLast mKLast mKOpen mKFill mNumber mDown mArmed mLeft mWritten mSt mFil mSav mCnt mBlk mSto mUnt mSiz mSer mHi mLo mAt mKAt mByt)) (hlb : lb + 16 < 2 ^ 30) (x1 : Int32) (x2 : Int64) (x4 : Int64) : ∃ (r : Int32) (uOpen' : Int32) (uFill' : Int32) (uSaved' : Int32) (uSerial' : Int32) (uDown' : Int32) (uArmed' : Int32) (uWritten' : Int32) (uSize' : Int32) (uBytes' : Nat → Int32) (uForm' : Nat → Int32) (uSers' : Nat → Int32) (uBlks' : Nat → Int32) (uUnts' : Nat → Int32) (uStos' : Nat → Int32) (uHis' : Nat → Int64) (uLos' : Nat → Int64) (uSts' : Nat → Int32) (uPlcs' : Nat → Int32) (mOpen' : Int32) (mLast' : Int32) (mDown' : Int32) (mLeft' : Int32) (mWritten' : Int32) (mFSize' : Int32) (mSt' : Nat → Int32) (mFil' : Nat → Int32) (mSav' : Nat → Int32) (mCnt' : Nat → Int32) (mBlk' : Nat → Int32) (mSto' : Nat → Int32) (mUnt' : Nat → Int32) (mSiz' : Nat → Int32) (mSer' : Nat → Int32) (mHi' : Nat → Int64) (mLo' : Nat → Int64) (mAt' : Nat → Int32) (mByt' : Nat → Int32) (mFrm' : Nat → Int32), U_write n N uOpen uFill uSaved uSerial uDown uArmed uWritten uSize uBytes uForm uSers uBlks uUnts uStos uHis uLos uSts uPlcs x1 x2 x4 = some (r, uOpen', uFill', uSaved', uSerial', uDown', uArmed', uWritten', uSize', uBytes', uForm', uSers', uBlks', uUnts', uStos', uHis', uLos', uSts', uPlcs') ∧ M_write mSegs mOpen mLast mDown mArmed mLeft mWritten mFSize mSt mFil mSav mCnt mBlk mSto mUnt mSiz mSer mHi mLo mAt mByt mFrm x1 x2 x4 = some (r, mOpen', mLast', mDown', mLeft', mWritten', mFSize', mSt', mFil', mSav', mCnt', mBlk', mSto', mUnt', mSiz', mSer', mHi', mLo', mAt', mByt', mFrm') ∧ (ST (lb + 16) n N (uOpen') (uFill') (uSaved') (uSerial') (uDown') (uArmed') (uWritten') (uBytes') (uSers') (uBlks') (uUnts') (uStos') (uHis') (uLos') cNumber cSerial cOpen cFill cPlcs (uSts') (uPlcs') mSegs (mOpen') (mLast') mKLast mKOpen mKFill mNumber (mDown') mArmed (mLeft') (mWritten') (mSt') (mFil') (mSav') (mCnt') (mBlk') (mSto') (mUnt') (mSiz') (mSer') (mHi') (mLo') (mAt') mKAt (mByt')) := by
  obtain ⟨dn, op, fl, last, kl, ko, kf, st, cn, un, sz, sr, bk, so, sav, pa, ka, hi, lo, h1, rfl, rfl, rfl, rfl, h6, g, hu, hm, hD⟩ := h
  unfold U_write M_write
  rw [isb_eq]
  by_cases e : dn = 0
  · subst e
    rw [if_pos nz0, if_pos nz0]
    rcases isb_ok x1 with ⟨b, hb, rfl, hq⟩ | hq
    · obtain ⟨z, B, uF, mF, w1, w2, w3, w4⟩ := pack_ok uSize mFSize uBytes uForm mFrm x2 x4
      rw [hq, Option.bind_some, Option.bind_some, if_neg (show ¬ (1 : Int32) = 0 by decide), if_neg (show ¬ (1 : Int32) = 0 by decide), w2, w3, Option.bind_some, Option.bind_some]
      unfold P_storeUnits
      dsimp only
      rw [units_ok w1, Option.bind_some]
      generalize hu' : 2 + (z + 3) / 4 = u
      rcases room_ok g hu hm (u := u) (by omega) with ⟨e1, e2, e3⟩ | ⟨e1, e2⟩
      · rw [e1, e2, Option.bind_some, Option.bind_some, if_neg (show ¬ (1 : Int32) = 0 by decide), if_pos rfl]
        rcases append_ok (mD := nI 0) g hu hm hD u b 1 x2 x4 (by omega) (by omega) hb (by omega) (by omega) e3 with ⟨op', fl', last', st', cn', un', sz', sr', bk', so', sav', pa', hi', lo', uOpen', uFill', uSaved', uSerial', uSts', uPlcs', uSers', uBlks', uUnts', uStos', uHis', uLos', mOpen', mLast', mSt', mFil', mSav', mCnt', mBlk', mSto', mUnt', mSiz', mSer', mAt', mHi', mLo', a, w, l, t1, t2, t3, -, t4, t5, t6, t7, -⟩ | ⟨v, a, w, l, S, t1, t2, t3, t4, t5, t6⟩
        · refine ⟨nI u, uOpen', uFill', uSaved', uSerial', nI 0, a, w, nI z, B, uF, uSers', uBlks', uUnts', uStos', uHis', uLos', uSts', uPlcs', mOpen', mLast', nI 0, l, w, nI z, mSt', mFil', mSav', mCnt', mBlk', mSto', mUnt', mSiz', mSer', mHi', mLo', mAt', B, mF, ?_, ?_, 0, op', fl', last', kl, ko, kf, st', cn', un', sz', sr', bk', so', sav', pa', ka, hi', lo', by omega, rfl, rfl, rfl, rfl, by omega, t4, t5, t6, t3⟩
          · rw [show (1 : Int32) = nI 1 from rfl, t1, Option.bind_some, if_neg (show ¬ (1 : Int32) = 0 by decide)]
          · rw [show (1 : Int32) = nI 1 from rfl, t2, Option.bind_some, if_neg (show ¬ (1 : Int32) = 0 by decide)]
        · obtain ⟨S2, q1, q2⟩ := down_ok (uDown := nI 0) t4 t5
          refine ⟨-4, uOpen, uFill, nI v, uSerial, 1, a, w, nI z, B, uF, S2, uBlks, uUnts, uStos, uHis, uLos, uSts, uPlcs, mOpen, mLast, 1, l, w, nI z, mSt, mFil, S, mCnt, mBlk, mSto, mUnt, mSiz, mSer, mHi, mLo, mAt, B, mF, ?_, ?_, 1, op, fl, last, kl, ko, kf, st, cn, un, sz, sr, bk, so, va_up sav op v, pa, ka, hi, lo, by omega, rfl, rfl, rfl, rfl, by omega, t4, q2, t6, t3⟩
          · rw [show (1 : Int32) = nI 1 from rfl, t1, Option.bind_some, if_pos rfl, q1, Option.bind_some]
            rfl
          · rw [show (1 : Int32) = nI 1 from rfl, t2, Option.bind_some, if_pos rfl]
            rfl
      · rw [e1, e2, Option.bind_some, Option.bind_some, if_pos rfl, if_neg (show ¬ (1 : Int32) = 0 by decide)]
        exact ⟨-3, uOpen, uFill, uSaved, uSerial, nI 0, uArmed, uWritten, nI z, B, uF, uSers, uBlks, uUnts, uStos, uHis, uLos, uSts, uPlcs, mOpen, mLast, nI 0, mLeft, mWritten, nI z, mSt, mFil, mSav, mCnt, mBlk, mSto, mUnt, mSiz, mSer, mHi, mLo, mAt, B, mF, rfl, rfl, 0, op, fl, last, kl, ko, kf, st, cn, un, sz, sr, bk, so, sav, pa, ka, hi, lo, by omega, rfl, rfl, rfl, rfl, by omega, g, hu, hm, hD⟩
    · rw [hq, Option.bind_some, Option.bind_some, if_pos rfl, if_pos rfl]
      exact ⟨-1, uOpen, uFill, uSaved, uSerial, nI 0, uArmed, uWritten, uSize, uBytes, uForm, uSers, uBlks, uUnts, uStos, uHis, uLos, uSts, uPlcs, mOpen, mLast, nI 0, mLeft, mWritten, mFSize, mSt, mFil, mSav, mCnt, mBlk, mSto, mUnt, mSiz, mSer, mHi, mLo, mAt, uBytes, mFrm, rfl, rfl, 0, op, fl, last, kl, ko, kf, st, cn, un, sz, sr, bk, so, sav, pa, ka, hi, lo, by omega, rfl, rfl, rfl, rfl, by omega, g, hu, hm, hD⟩
  · have hd := dn_0 h1 e
    rw [if_neg hd, if_neg hd]
    exact ⟨-4, uOpen, uFill, uSaved, uSerial, nI dn, uArmed, uWritten, uSize, uBytes, uForm, uSers, uBlks, uUnts, uStos, uHis, uLos, uSts, uPlcs, mOpen, mLast, nI dn, mLeft, mWritten, mFSize, mSt, mFil, mSav, mCnt, mBlk, mSto, mUnt, mSiz, mSer, mHi, mLo, mAt, uBytes, mFrm, rfl, rfl, dn, op, fl, last, kl, ko, kf, st, cn, un, sz, sr, bk, so, sav, pa, ka, hi, lo, h1, rfl, rfl, rfl, rfl, by omega, g, hu, hm, hD⟩
set_option maxHeartbeats 1000000 in
theorem st_trim {lb : Nat} {n : Nat} {N : Nat} {uOpen : Int32} {uFill : Int32} {uSaved : Int32} {uSerial : Int32} {uDown : Int32} {uArmed : Int32} {uWritten : Int32} {uSize : Int32} {uBytes : Nat → Int32} {uForm : Nat → Int32} {uSers : Nat → Int32} {uBlks : Nat → Int32} {uUnts : Nat → Int32} {uStos : Nat → Int32} {uHis : Nat → Int64} {uLos : Nat → Int64} {cNumber : Int32} {cSerial : Int32} {cOpen : Int32} {cFill : Int32} {cPlcs : Nat → Int32} {uSts : Nat → Int32} {uPlcs : Nat → Int32} {mSegs : Int32} {mOpen : Int32} {mLast : Int32} {mKLast : Int32} {mKOpen : Int32} {mKFill : Int32} {mNumber : Int32} {mDown : Int32} {mArmed : Int32} {mLeft : Int32} {mWritten : Int32} {mFSize : Int32} {mSt : Nat → Int32} {mFil : Nat → Int32} {mSav : Nat → Int32} {mCnt : Nat → Int32} {mBlk : Nat → Int32} {mSto : Nat → Int32} {mUnt : Nat → Int32} {mSiz : Nat → Int32} {mSer : Nat → Int32} {mHi : Nat → Int64} {mLo : Nat → Int64} {mAt : Nat → Int32} {mKAt : Nat → Int32} {mByt : Nat → Int32} {mFrm : Nat → Int32} (h : (ST lb n N uOpen uFill uSaved uSerial uDown uArmed uWritten uBytes uSers uBlks uUnts uStos uHis uLos cNumber cSerial cOpen cFill cPlcs uSts uPlcs mSegs mOpen mLast mKLast mKOpen mKFill mNumber mDown mArmed mLeft mWritten mSt mFil mSav mCnt mBlk mSto mUnt mSiz mSer mHi mLo mAt mKAt mByt)) (hlb : lb + 16 < 2 ^ 30) (x1 : Int32) : ∃ (r : Int32) (uOpen' : Int32) (uFill' : Int32) (uSaved' : Int32) (uSerial' : Int32) (uDown' : Int32) (uArmed' : Int32) (uWritten' : Int32) (uSers' : Nat → Int32) (uBlks' : Nat → Int32) (uUnts' : Nat → Int32) (uStos' : Nat → Int32) (uHis' : Nat → Int64) (uLos' : Nat → Int64) (uSts' : Nat → Int32) (uPlcs' : Nat → Int32) (mOpen' : Int32) (mLast' : Int32) (mDown' : Int32) (mLeft' : Int32) (mWritten' : Int32) (mSt' : Nat → Int32) (mFil' : Nat → Int32) (mSav' : Nat → Int32) (mCnt' : Nat → Int32) (mBlk' : Nat → Int32) (mSto' : Nat → Int32) (mUnt' : Nat → Int32) (mSiz' : Nat → Int32) (mSer' : Nat → Int32) (mHi' : Nat → Int64) (mLo' : Nat → Int64) (mAt' : Nat → Int32), U_trim n N uOpen uFill uSaved uSerial uDown uArmed uWritten uSers uBlks uUnts uStos uHis uLos uSts uPlcs x1 = some (r, uOpen', uFill', uSaved', uSerial', uDown', uArmed', uWritten', uSers', uBlks', uUnts', uStos', uHis', uLos', uSts', uPlcs') ∧ M_trim mSegs mOpen mLast mDown mArmed mLeft mWritten mSt mFil mSav mCnt mBlk mSto mUnt mSiz mSer mHi mLo mAt x1 = some (r, mOpen', mLast', mDown', mLeft', mWritten', mSt', mFil', mSav', mCnt', mBlk', mSto', mUnt', mSiz', mSer', mHi', mLo', mAt') ∧ (ST (lb + 16) n N (uOpen') (uFill') (uSaved') (uSerial') (uDown') (uArmed') (uWritten') uBytes (uSers') (uBlks') (uUnts') (uStos') (uHis') (uLos') cNumber cSerial cOpen cFill cPlcs (uSts') (uPlcs') mSegs (mOpen') (mLast') mKLast mKOpen mKFill mNumber (mDown') mArmed (mLeft') (mWritten') (mSt') (mFil') (mSav') (mCnt') (mBlk') (mSto') (mUnt') (mSiz') (mSer') (mHi') (mLo') (mAt') mKAt mByt) := by
  obtain ⟨dn, op, fl, last, kl, ko, kf, st, cn, un, sz, sr, bk, so, sav, pa, ka, hi, lo, h1, rfl, rfl, rfl, rfl, h6, g, hu, hm, hD⟩ := h
  unfold U_trim M_trim
  rw [isb_eq]
  by_cases e : dn = 0
  · subst e
    rw [if_pos nz0, if_pos nz0]
    rcases isb_ok x1 with ⟨b, hb, rfl, hq⟩ | hq
    · rw [hq, Option.bind_some, Option.bind_some, if_neg (show ¬ (1 : Int32) = 0 by decide), if_neg (show ¬ (1 : Int32) = 0 by decide), q_ck hb (by omega), q_ck hb (by omega), nI_clamp (by omega)]
      rcases plc g hu hm hb with ⟨-, p1, p2⟩ | ⟨k, -, v1, v2, v3, v4, p1, p2, -⟩
      · rw [p1, p2, if_pos rfl, if_neg (by decide)]
        exact ⟨-2, uOpen, uFill, uSaved, uSerial, nI 0, uArmed, uWritten, uSers, uBlks, uUnts, uStos, uHis, uLos, uSts, uPlcs, mOpen, mLast, nI 0, mLeft, mWritten, mSt, mFil, mSav, mCnt, mBlk, mSto, mUnt, mSiz, mSer, mHi, mLo, mAt, rfl, rfl, 0, op, fl, last, kl, ko, kf, st, cn, un, sz, sr, bk, so, sav, pa, ka, hi, lo, by omega, rfl, rfl, rfl, rfl, by omega, g, hu, hm, hD⟩
      · rw [p1, p2, if_neg (q_nem1 (by omega)), if_pos (show (0 : Int32) ≤ nI k from q_le (a := 0) (by omega) (by omega) (by omega)), show (2 : Int32) = nI 2 from rfl]
        rcases room_ok g hu hm (u := 2) (by omega) with ⟨e1, e2, e3⟩ | ⟨e1, e2⟩
        · rw [e1, e2, Option.bind_some, Option.bind_some, if_neg (show ¬ (1 : Int32) = 0 by decide), if_pos rfl]
          rcases append_ok (mD := nI 0) g hu hm hD 2 b 0 0 0 (by omega) (by omega) hb (by omega) (by omega) e3 with ⟨op', fl', last', st', cn', un', sz', sr', bk', so', sav', pa', hi', lo', uOpen', uFill', uSaved', uSerial', uSts', uPlcs', uSers', uBlks', uUnts', uStos', uHis', uLos', mOpen', mLast', mSt', mFil', mSav', mCnt', mBlk', mSto', mUnt', mSiz', mSer', mAt', mHi', mLo', a, w, l, t1, t2, t3, -, t4, t5, t6, t7, -⟩ | ⟨v, a, w, l, S, t1, t2, t3, t4, t5, t6⟩
          · refine ⟨nI 2, uOpen', uFill', uSaved', uSerial', nI 0, a, w, uSers', uBlks', uUnts', uStos', uHis', uLos', uSts', uPlcs', mOpen', mLast', nI 0, l, w, mSt', mFil', mSav', mCnt', mBlk', mSto', mUnt', mSiz', mSer', mHi', mLo', mAt', ?_, ?_, 0, op', fl', last', kl, ko, kf, st', cn', un', sz', sr', bk', so', sav', pa', ka, hi', lo', by omega, rfl, rfl, rfl, rfl, by omega, t4, t5, t6, t3⟩
            · erw [t1]
              rw [Option.bind_some, if_neg (show ¬ (1 : Int32) = 0 by decide)]
            · erw [t2]
              rw [Option.bind_some, if_neg (show ¬ (1 : Int32) = 0 by decide)]
          · obtain ⟨S2, q1, q2⟩ := down_ok (uDown := nI 0) t4 t5
            refine ⟨-4, uOpen, uFill, nI v, uSerial, 1, a, w, S2, uBlks, uUnts, uStos, uHis, uLos, uSts, uPlcs, mOpen, mLast, 1, l, w, mSt, mFil, S, mCnt, mBlk, mSto, mUnt, mSiz, mSer, mHi, mLo, mAt, ?_, ?_, 1, op, fl, last, kl, ko, kf, st, cn, un, sz, sr, bk, so, va_up sav op v, pa, ka, hi, lo, by omega, rfl, rfl, rfl, rfl, by omega, t4, q2, t6, t3⟩
            · erw [t1]
              rw [Option.bind_some, if_pos rfl, q1, Option.bind_some]
            · erw [t2]
              rw [Option.bind_some, if_pos rfl]
        · rw [e1, e2, Option.bind_some, Option.bind_some, if_pos rfl, if_neg (show ¬ (1 : Int32) = 0 by decide)]
          exact ⟨-3, uOpen, uFill, uSaved, uSerial, nI 0, uArmed, uWritten, uSers, uBlks, uUnts, uStos, uHis, uLos, uSts, uPlcs, mOpen, mLast, nI 0, mLeft, mWritten, mSt, mFil, mSav, mCnt, mBlk, mSto, mUnt, mSiz, mSer, mHi, mLo, mAt, rfl, rfl, 0, op, fl, last, kl, ko, kf, st, cn, un, sz, sr, bk, so, sav, pa, ka, hi, lo, by omega, rfl, rfl, rfl, rfl, by omega, g, hu, hm, hD⟩
    · rw [hq, Option.bind_some, Option.bind_some, if_pos rfl, if_pos rfl]
      exact ⟨-1, uOpen, uFill, uSaved, uSerial, nI 0, uArmed, uWritten, uSers, uBlks, uUnts, uStos, uHis, uLos, uSts, uPlcs, mOpen, mLast, nI 0, mLeft, mWritten, mSt, mFil, mSav, mCnt, mBlk, mSto, mUnt, mSiz, mSer, mHi, mLo, mAt, rfl, rfl, 0, op, fl, last, kl, ko, kf, st, cn, un, sz, sr, bk, so, sav, pa, ka, hi, lo, by omega, rfl, rfl, rfl, rfl, by omega, g, hu, hm, hD⟩
  · have hd := dn_0 h1 e
    rw [if_neg hd, if_neg hd]
    exact ⟨-4, uOpen, uFill, uSaved, uSerial, nI dn, uArmed, uWritten, uSers, uBlks, uUnts, uStos, uHis, uLos, uSts, uPlcs, mOpen, mLast, nI dn, mLeft, mWritten, mSt, mFil, mSav, mCnt, mBlk, mSto, mUnt, mSiz, mSer, mHi, mLo, mAt, rfl, rfl, dn, op, fl, last, kl, ko, kf, st, cn, un, sz, sr, bk, so, sav, pa, ka, hi, lo, h1, rfl, rfl, rfl, rfl, by omega, g, hu, hm, hD⟩
