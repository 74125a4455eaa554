/-! calls: read, packed, segment, look, arm, disarm, crash, flush, checkpoint -/
theorem st_read {lb : Nat} {n : Nat} {N : Nat} {uOpen : Int32} {uFill : Int32} {uSaved : Int32} {uSerial : Int32} {uDown : Int32} {uArmed : Int32} {uWritten : Int32} {uSize : Int32} {uBytes : Nat → Int32} {uForm : Nat → Int32} {uSers : Nat → Int32} {uBlks : Nat → Int32} {uUnts : Nat → Int32} {uStos : Nat → Int32} {uHis : Nat → Int64} {uLos : Nat → Int64} {cNumber : Int32} {cSerial : Int32} {cOpen : Int32} {cFill : Int32} {cPlcs : Nat → Int32} {uSts : Nat → Int32} {uPlcs : Nat → Int32} {mSegs : Int32} {mOpen : Int32} {mLast : Int32} {mKLast : Int32} {mKOpen : Int32} {mKFill : Int32} {mNumber : Int32} {mDown : Int32} {mArmed : Int32} {mLeft : Int32} {mWritten : Int32} {mFSize : Int32} {mSt : Nat → Int32} {mFil : Nat → Int32} {mSav : Nat → Int32} {mCnt : Nat → Int32} {mBlk : Nat → Int32} {mSto : Nat → Int32} {mUnt : Nat → Int32} {mSiz : Nat → Int32} {mSer : Nat → Int32} {mHi : Nat → Int64} {mLo : Nat → Int64} {mAt : Nat → Int32} {mKAt : Nat → Int32} {mByt : Nat → Int32} {mFrm : Nat → Int32} (h : (ST lb n N uOpen uFill uSaved uSerial uDown uArmed uWritten uBytes uSers uBlks uUnts uStos uHis uLos cNumber cSerial cOpen cFill cPlcs uSts uPlcs mSegs mOpen mLast mKLast mKOpen mKFill mNumber mDown mArmed mLeft mWritten mSt mFil mSav mCnt mBlk mSto mUnt mSiz mSer mHi mLo mAt mKAt mByt)) (x1 : Int32) (x2 : Int32) : ∃ (r : Int64), U_read N uDown uHis uLos uPlcs x1 x2 = some r ∧ M_read mDown mHi mLo mAt x1 x2 = some r ∧ (ST (lb + 16) n N uOpen uFill uSaved uSerial uDown uArmed uWritten uBytes uSers uBlks uUnts uStos uHis uLos cNumber cSerial cOpen cFill cPlcs uSts uPlcs mSegs mOpen mLast mKLast mKOpen mKFill mNumber mDown mArmed mLeft mWritten mSt mFil mSav mCnt mBlk mSto mUnt mSiz mSer mHi mLo mAt mKAt mByt) := by
  obtain ⟨dn, op, fl, last, kl, ko, kf, st, cn, un, sz, sr, bk, so, sav, pa, ka, hi, lo, h1, rfl, rfl, rfl, rfl, h6, g, hu, hm, hD⟩ := h
  have hst : (ST (lb + 16) n N uOpen uFill uSaved uSerial (nI dn) uArmed uWritten uBytes uSers uBlks uUnts uStos uHis uLos cNumber cSerial cOpen cFill cPlcs uSts uPlcs mSegs mOpen mLast mKLast mKOpen mKFill cNumber (nI dn) mArmed mLeft mWritten mSt mFil mSav mCnt mBlk mSto mUnt mSiz mSer mHi mLo mAt mKAt uBytes) := ⟨dn, op, fl, last, kl, ko, kf, st, cn, un, sz, sr, bk, so, sav, pa, ka, hi, lo, h1, rfl, rfl, rfl, rfl, by omega, g, hu, hm, hD⟩
  unfold U_read M_read
  rw [isb_eq]
  by_cases e : dn = 0
  · subst e
    rcases isb_ok x1 with ⟨b, hb, rfl, hq⟩ | hq
    · have hk16 := fun (x : Option Int64) => q_ck (x := x) hb (show 16 < 2 ^ 31 by omega)
      rcases plc g hu hm hb with ⟨-, p1, p2⟩ | ⟨k, -, v1, v2, v3, v4, p1, p2, -, -, p5, p6, p3, -, -, v5⟩
      · refine ⟨0, by simp only [n00, c10, c00, cm10, cm20, cm30, cm40, l0m1, if_true, if_false, Option.bind_some, hq, hk16, nI_clamp (show b < 2 ^ 31 by omega), p1, mm1], ?_, hst⟩
        simp only [n00, c10, c00, cm10, cm20, cm30, cm40, l0m1, if_true, if_false, Option.bind_some, hq, hk16, nI_clamp (show b < 2 ^ 31 by omega), p2]
        by_cases c1 : x2 < 0
        · rw [if_pos c1]
        · rw [if_neg c1]
          by_cases c2 : x2 ≤ 1
          · rw [if_pos c2]
          · rw [if_neg c2]
      · simp only [n00, c10, c00, cm10, cm20, cm30, cm40, l0m1, if_true, if_false, Option.bind_some, hq, hk16, nI_clamp (show b < 2 ^ 31 by omega), p1, p2, nem1 (show pl un k < 2 ^ 31 by omega), le0 (show k < 2 ^ 31 by omega), q_ck v2 (show 64 < 2 ^ 31 by omega), nI_clamp (show k < 2 ^ 31 by omega), q_ck v3 v4, nI_clamp (show pl un k < 2 ^ 31 by omega), p5, p6]
        by_cases c0 : x2 = 0
        · subst c0
          exact ⟨mHi k, by rw [if_pos rfl], by rw [if_neg (by decide), if_pos (by decide), if_pos rfl], hst⟩
        · by_cases c1 : x2 = 1
          · subst c1
            exact ⟨mLo k, by rw [if_neg (by decide), if_pos rfl], by rw [if_neg (by decide), if_pos (by decide), if_neg (by decide)], hst⟩
          · refine ⟨0, by rw [if_neg c0, if_neg c1], ?_, hst⟩
            by_cases c2 : x2 < 0
            · rw [if_pos c2]
            · rw [if_neg c2, if_neg]
              intro c3
              obtain ⟨j, hj, rfl⟩ := nI_of c2
              have := (nI_leI (b := 1) hj (by omega)).mp c3
              rcases (show j = 0 ∨ j = 1 by omega) with rfl | rfl
              · exact c0 rfl
              · exact c1 rfl
    · exact ⟨0, by simp only [n00, c10, c00, cm10, cm20, cm30, cm40, l0m1, if_true, if_false, Option.bind_some, hq], by simp only [n00, c10, c00, cm10, cm20, cm30, cm40, l0m1, if_true, if_false, Option.bind_some, hq], hst⟩
  · have hd := eq_false (dn_0 h1 e)
    exact ⟨0, by simp only [n00, c10, c00, cm10, cm20, cm30, cm40, l0m1, if_true, if_false, Option.bind_some, hd], by simp only [n00, c10, c00, cm10, cm20, cm30, cm40, l0m1, if_true, if_false, Option.bind_some, hd], hst⟩
theorem st_packed {lb : Nat} {n : Nat} {N : Nat} {uOpen : Int32} {uFill : Int32} {uSaved : Int32} {uSerial : Int32} {uDown : Int32} {uArmed : Int32} {uWritten : Int32} {uSize : Int32} {uBytes : Nat → Int32} {uForm : Nat → Int32} {uSers : Nat → Int32} {uBlks : Nat → Int32} {uUnts : Nat → Int32} {uStos : Nat → Int32} {uHis : Nat → Int64} {uLos : Nat → Int64} {cNumber : Int32} {cSerial : Int32} {cOpen : Int32} {cFill : Int32} {cPlcs : Nat → Int32} {uSts : Nat → Int32} {uPlcs : Nat → Int32} {mSegs : Int32} {mOpen : Int32} {mLast : Int32} {mKLast : Int32} {mKOpen : Int32} {mKFill : Int32} {mNumber : Int32} {mDown : Int32} {mArmed : Int32} {mLeft : Int32} {mWritten : Int32} {mFSize : Int32} {mSt : Nat → Int32} {mFil : Nat → Int32} {mSav : Nat → Int32} {mCnt : Nat → Int32} {mBlk : Nat → Int32} {mSto : Nat → Int32} {mUnt : Nat → Int32} {mSiz : Nat → Int32} {mSer : Nat → Int32} {mHi : Nat → Int64} {mLo : Nat → Int64} {mAt : Nat → Int32} {mKAt : Nat → Int32} {mByt : Nat → Int32} {mFrm : Nat → Int32} (h : (ST lb n N uOpen uFill uSaved uSerial uDown uArmed uWritten uBytes uSers uBlks uUnts uStos uHis uLos cNumber cSerial cOpen cFill cPlcs uSts uPlcs mSegs mOpen mLast mKLast mKOpen mKFill mNumber mDown mArmed mLeft mWritten mSt mFil mSav mCnt mBlk mSto mUnt mSiz mSer mHi mLo mAt mKAt mByt)) (x1 : Int32) (x2 : Int32) : ∃ (r : Int32) (uSize' : Int32) (uBytes' : Nat → Int32) (uForm' : Nat → Int32) (mFSize' : Int32) (mByt' : Nat → Int32) (mFrm' : Nat → Int32), U_packed N uDown uSize uBytes uForm uHis uLos uPlcs x1 x2 = some (r, uSize', uBytes', uForm') ∧ M_packed mDown mFSize mHi mLo mAt mByt mFrm x1 x2 = some (r, mFSize', mByt', mFrm') ∧ (ST (lb + 16) n N uOpen uFill uSaved uSerial uDown uArmed uWritten (uBytes') uSers uBlks uUnts uStos uHis uLos cNumber cSerial cOpen cFill cPlcs uSts uPlcs mSegs mOpen mLast mKLast mKOpen mKFill mNumber mDown mArmed mLeft mWritten mSt mFil mSav mCnt mBlk mSto mUnt mSiz mSer mHi mLo mAt mKAt (mByt')) := by
  obtain ⟨dn, op, fl, last, kl, ko, kf, st, cn, un, sz, sr, bk, so, sav, pa, ka, hi, lo, h1, rfl, rfl, rfl, rfl, h6, g, hu, hm, hD⟩ := h
  have hst : ∀ B, (ST (lb + 16) n N uOpen uFill uSaved uSerial (nI dn) uArmed uWritten B uSers uBlks uUnts uStos uHis uLos cNumber cSerial cOpen cFill cPlcs uSts uPlcs mSegs mOpen mLast mKLast mKOpen mKFill cNumber (nI dn) mArmed mLeft mWritten mSt mFil mSav mCnt mBlk mSto mUnt mSiz mSer mHi mLo mAt mKAt B) := fun B => ⟨dn, op, fl, last, kl, ko, kf, st, cn, un, sz, sr, bk, so, sav, pa, ka, hi, lo, h1, rfl, rfl, rfl, rfl, by omega, g, hu, hm, hD⟩
  unfold U_packed M_packed M_refusal
  rw [isb_eq]
  by_cases e : dn = 0
  · subst e
    rcases isb_ok x1 with ⟨b, hb, rfl, hq⟩ | hq
    · have hk16 := fun (x : Option (Int32 × Int32 × (Nat → Int32) × (Nat → Int32))) => q_ck (x := x) hb (show 16 < 2 ^ 31 by omega)
      have hk16' := fun (x : Option Int32) => q_ck (x := x) hb (show 16 < 2 ^ 31 by omega)
      rcases plc g hu hm hb with ⟨-, p1, p2⟩ | ⟨k, -, v1, v2, v3, v4, p1, p2, -, -, p5, p6, p3, -, -, v5⟩
      · exact ⟨-2, uSize, uBytes, uForm, mFSize, uBytes, mFrm, by simp only [n00, c10, c00, cm10, cm20, cm30, cm40, l0m1, if_true, if_false, Option.bind_some, hq, hk16, nI_clamp (show b < 2 ^ 31 by omega), p1, mm1], by simp only [n00, c10, c00, cm10, cm20, cm30, cm40, l0m1, if_true, if_false, Option.bind_some, hq, hk16, hk16', nI_clamp (show b < 2 ^ 31 by omega), p2], hst uBytes⟩
      · obtain ⟨z, B, uF, mF, w1, w2, w3, w4⟩ := pack_ok uSize mFSize uBytes uForm mFrm (mHi k) (mLo k)
        simp only [n00, c10, c00, cm10, cm20, cm30, cm40, l0m1, if_true, if_false, Option.bind_some, hq, hk16, hk16', nI_clamp (show b < 2 ^ 31 by omega), p1, p2, nem1 (show pl un k < 2 ^ 31 by omega), le0 (show k < 2 ^ 31 by omega), q_ck v2 (show 64 < 2 ^ 31 by omega), nI_clamp (show k < 2 ^ 31 by omega), q_ck v3 v4, nI_clamp (show pl un k < 2 ^ 31 by omega), p5, p6, w2, w3]
        by_cases c0 : x2 = -1
        · subst c0
          exact ⟨nI z, nI z, B, uF, nI z, B, mF, by rw [if_pos rfl], by rw [if_neg (by decide), if_pos (show (-1 : Int32) < nI z from Int32.lt_iff_toInt_lt.mpr (by rw [nI_toInt (by omega)]; have : (-1 : Int32).toInt = -1 := (by decide); omega)), if_neg (by decide)], hst B⟩
        · by_cases c1 : x2 < 0
          · refine ⟨-1, nI z, B, uF, nI z, B, mF, by rw [if_neg c0, if_pos c1], ?_, hst B⟩
            rw [if_pos]
            rw [Int32.lt_iff_toInt_lt] at c1 ⊢
            have e1 : (-1 : Int32).toInt = -1 := by decide
            have e0 : (0 : Int32).toInt = 0 := by decide
            have : x2.toInt ≠ (-1 : Int32).toInt := fun q => c0 (Int32.toInt_inj.mp q)
            omega
          · obtain ⟨j, hj, rfl⟩ := nI_of c1
            have cm : ¬ nI j < (-1 : Int32) := fun q => by
              rw [Int32.lt_iff_toInt_lt, nI_toInt hj] at q
              have e1 : (-1 : Int32).toInt = -1 := by decide
              omega
            by_cases c2 : z ≤ j
            · exact ⟨-1, nI z, B, uF, nI z, B, mF, by rw [if_neg c0, if_neg c1, if_pos (q_le (by omega) hj c2)], by rw [if_neg cm, if_neg (q_nlt hj (by omega) c2)], hst B⟩
            · refine ⟨uF j, nI z, B, uF, nI z, B, mF, by rw [if_neg c0, if_neg c1, if_neg (q_nle (by omega) hj (by omega)), q_ck (by omega) (by omega), nI_clamp hj], ?_, hst B⟩
              rw [if_neg cm, if_pos (q_lt hj (by omega) (by omega)), if_pos (show (0 : Int32) ≤ nI j from q_le (a := 0) (by omega) hj (by omega)), q_ck (by omega) (by omega), nI_clamp hj, w4 j (by omega)]
    · exact ⟨-1, uSize, uBytes, uForm, mFSize, uBytes, mFrm, by simp only [n00, c10, c00, cm10, cm20, cm30, cm40, l0m1, if_true, if_false, Option.bind_some, hq], by simp only [n00, c10, c00, cm10, cm20, cm30, cm40, l0m1, if_true, if_false, Option.bind_some, hq], hst uBytes⟩
  · have hd := eq_false (dn_0 h1 e)
    exact ⟨-4, uSize, uBytes, uForm, mFSize, uBytes, mFrm, by simp only [n00, c10, c00, cm10, cm20, cm30, cm40, l0m1, if_true, if_false, Option.bind_some, hd], by simp only [n00, c10, c00, cm10, cm20, cm30, cm40, l0m1, if_true, if_false, Option.bind_some, hd], hst uBytes⟩
theorem iss_ok {n : Nat} (hn : n ≤ 8) (x : Int32) : (∃ j, j < n ∧ x = nI j ∧ U_isSegment n x = some 1 ∧ ¬ x < 0 ∧ x < nI n) ∨ (U_isSegment n x = some 0 ∧ (x < 0 ∨ ¬ x < nI n)) := by
  unfold U_isSegment
  by_cases h : x < 0
  · right; exact ⟨by rw [if_pos h], Or.inl h⟩
  · rw [if_neg h]
    have h' := h
    obtain ⟨j, hj, rfl⟩ := nI_of h
    by_cases h2 : j < n
    · left; exact ⟨j, h2, rfl, by rw [if_neg (q_nle (by omega) hj h2)], h', q_lt hj (by omega) h2⟩
    · right; exact ⟨by rw [if_pos (q_le (by omega) hj (by omega))], Or.inr (q_nlt hj (by omega) (by omega))⟩
theorem st_segment {lb : Nat} {n : Nat} {N : Nat} {uOpen : Int32} {uFill : Int32} {uSaved : Int32} {uSerial : Int32} {uDown : Int32} {uArmed : Int32} {uWritten : Int32} {uSize : Int32} {uBytes : Nat → Int32} {uForm : Nat → Int32} {uSers : Nat → Int32} {uBlks : Nat → Int32} {uUnts : Nat → Int32} {uStos : Nat → Int32} {uHis : Nat → Int64} {uLos : Nat → Int64} {cNumber : Int32} {cSerial : Int32} {cOpen : Int32} {cFill : Int32} {cPlcs : Nat → Int32} {uSts : Nat → Int32} {uPlcs : Nat → Int32} {mSegs : Int32} {mOpen : Int32} {mLast : Int32} {mKLast : Int32} {mKOpen : Int32} {mKFill : Int32} {mNumber : Int32} {mDown : Int32} {mArmed : Int32} {mLeft : Int32} {mWritten : Int32} {mFSize : Int32} {mSt : Nat → Int32} {mFil : Nat → Int32} {mSav : Nat → Int32} {mCnt : Nat → Int32} {mBlk : Nat → Int32} {mSto : Nat → Int32} {mUnt : Nat → Int32} {mSiz : Nat → Int32} {mSer : Nat → Int32} {mHi : Nat → Int64} {mLo : Nat → Int64} {mAt : Nat → Int32} {mKAt : Nat → Int32} {mByt : Nat → Int32} {mFrm : Nat → Int32} (h : (ST lb n N uOpen uFill uSaved uSerial uDown uArmed uWritten uBytes uSers uBlks uUnts uStos uHis uLos cNumber cSerial cOpen cFill cPlcs uSts uPlcs mSegs mOpen mLast mKLast mKOpen mKFill mNumber mDown mArmed mLeft mWritten mSt mFil mSav mCnt mBlk mSto mUnt mSiz mSer mHi mLo mAt mKAt mByt)) (x1 : Int32) : ∃ (r : Int32), U_segment n uDown uSts x1 = some r ∧ M_segment mSegs mDown mSt x1 = some r ∧ (ST (lb + 16) n N uOpen uFill uSaved uSerial uDown uArmed uWritten uBytes uSers uBlks uUnts uStos uHis uLos cNumber cSerial cOpen cFill cPlcs uSts uPlcs mSegs mOpen mLast mKLast mKOpen mKFill mNumber mDown mArmed mLeft mWritten mSt mFil mSav mCnt mBlk mSto mUnt mSiz mSer mHi mLo mAt mKAt mByt) := by
  obtain ⟨dn, op, fl, last, kl, ko, kf, st, cn, un, sz, sr, bk, so, sav, pa, ka, hi, lo, h1, rfl, rfl, rfl, rfl, h6, g, hu, hm, hD⟩ := h
  have hst : (ST (lb + 16) n N uOpen uFill uSaved uSerial (nI dn) uArmed uWritten uBytes uSers uBlks uUnts uStos uHis uLos cNumber cSerial cOpen cFill cPlcs uSts uPlcs mSegs mOpen mLast mKLast mKOpen mKFill cNumber (nI dn) mArmed mLeft mWritten mSt mFil mSav mCnt mBlk mSto mUnt mSiz mSer mHi mLo mAt mKAt uBytes) := ⟨dn, op, fl, last, kl, ko, kf, st, cn, un, sz, sr, bk, so, sav, pa, ka, hi, lo, h1, rfl, rfl, rfl, rfl, by omega, g, hu, hm, hD⟩
  unfold U_segment M_segment
  by_cases e : dn = 0
  · subst e
    have hn8 : n ≤ 8 := g.1.2.1
    obtain ⟨-, -, -, -, -, -, -, -, u9, -⟩ := hu
    obtain ⟨m1, -, -, -, -, -, -, m8, -⟩ := hm
    subst m1
    rcases iss_ok hn8 x1 with ⟨j, hj, rfl, hq, c1, c2⟩ | ⟨hq, c⟩
    · refine ⟨nI (st j), ?_, ?_, hst⟩
      · simp only [n00, c10, c00, cm10, cm20, cm30, cm40, l0m1, if_true, if_false, Option.bind_some, hq, q_ck hj (show n < 2 ^ 31 by omega), nI_clamp (show j < 2 ^ 31 by omega), u9 j hj]
      · simp only [n00, c10, c00, cm10, cm20, cm30, cm40, l0m1, if_true, if_false, Option.bind_some, eq_false c1, eq_true c2, q_ck (show j < 8 by omega) (show 8 < 2 ^ 31 by omega), nI_clamp (show j < 2 ^ 31 by omega), (m8 j hj).1]
    · refine ⟨-1, by simp only [n00, c10, c00, cm10, cm20, cm30, cm40, l0m1, if_true, if_false, Option.bind_some, hq], ?_, hst⟩
      simp only [n00, c10, c00, cm10, cm20, cm30, cm40, l0m1, if_true, if_false, Option.bind_some]
      rcases c with c | c
      · rw [if_pos c]
      · rw [if_neg c]
        by_cases c0 : x1 < 0
        · rw [if_pos c0]
        · rw [if_neg c0]
  · have hd := eq_false (dn_0 h1 e)
    exact ⟨-4, by simp only [n00, c10, c00, cm10, cm20, cm30, cm40, l0m1, if_true, if_false, Option.bind_some, hd], by simp only [n00, c10, c00, cm10, cm20, cm30, cm40, l0m1, if_true, if_false, Option.bind_some, hd], hst⟩
theorem st_look {lb : Nat} {n : Nat} {N : Nat} {uOpen : Int32} {uFill : Int32} {uSaved : Int32} {uSerial : Int32} {uDown : Int32} {uArmed : Int32} {uWritten : Int32} {uSize : Int32} {uBytes : Nat → Int32} {uForm : Nat → Int32} {uSers : Nat → Int32} {uBlks : Nat → Int32} {uUnts : Nat → Int32} {uStos : Nat → Int32} {uHis : Nat → Int64} {uLos : Nat → Int64} {cNumber : Int32} {cSerial : Int32} {cOpen : Int32} {cFill : Int32} {cPlcs : Nat → Int32} {uSts : Nat → Int32} {uPlcs : Nat → Int32} {mSegs : Int32} {mOpen : Int32} {mLast : Int32} {mKLast : Int32} {mKOpen : Int32} {mKFill : Int32} {mNumber : Int32} {mDown : Int32} {mArmed : Int32} {mLeft : Int32} {mWritten : Int32} {mFSize : Int32} {mSt : Nat → Int32} {mFil : Nat → Int32} {mSav : Nat → Int32} {mCnt : Nat → Int32} {mBlk : Nat → Int32} {mSto : Nat → Int32} {mUnt : Nat → Int32} {mSiz : Nat → Int32} {mSer : Nat → Int32} {mHi : Nat → Int64} {mLo : Nat → Int64} {mAt : Nat → Int32} {mKAt : Nat → Int32} {mByt : Nat → Int32} {mFrm : Nat → Int32} (h : (ST lb n N uOpen uFill uSaved uSerial uDown uArmed uWritten uBytes uSers uBlks uUnts uStos uHis uLos cNumber cSerial cOpen cFill cPlcs uSts uPlcs mSegs mOpen mLast mKLast mKOpen mKFill mNumber mDown mArmed mLeft mWritten mSt mFil mSav mCnt mBlk mSto mUnt mSiz mSer mHi mLo mAt mKAt mByt)) (x1 : Int32) : ∃ (r : Int32), U_look uFill uSaved uSerial uDown uArmed uWritten cNumber x1 = some r ∧ M_look mOpen mLast mNumber mDown mArmed mLeft mWritten mFil mSav x1 = some r ∧ (ST (lb + 16) n N uOpen uFill uSaved uSerial uDown uArmed uWritten uBytes uSers uBlks uUnts uStos uHis uLos cNumber cSerial cOpen cFill cPlcs uSts uPlcs mSegs mOpen mLast mKLast mKOpen mKFill mNumber mDown mArmed mLeft mWritten mSt mFil mSav mCnt mBlk mSto mUnt mSiz mSer mHi mLo mAt mKAt mByt) := by
  obtain ⟨dn, op, fl, last, kl, ko, kf, st, cn, un, sz, sr, bk, so, sav, pa, ka, hi, lo, h1, rfl, rfl, rfl, rfl, h6, g, hu, hm, hD⟩ := h
  have hst : (ST (lb + 16) n N uOpen uFill uSaved uSerial (nI dn) uArmed uWritten uBytes uSers uBlks uUnts uStos uHis uLos cNumber cSerial cOpen cFill cPlcs uSts uPlcs mSegs mOpen mLast mKLast mKOpen mKFill cNumber (nI dn) mArmed mLeft mWritten mSt mFil mSav mCnt mBlk mSto mUnt mSiz mSer mHi mLo mAt mKAt uBytes) := ⟨dn, op, fl, last, kl, ko, kf, st, cn, un, sz, sr, bk, so, sav, pa, ka, hi, lo, h1, rfl, rfl, rfl, rfl, by omega, g, hu, hm, hD⟩
  obtain ⟨⟨b1, b2, b3, -⟩, -⟩ := g
  obtain ⟨-, rfl, rfl, rfl, rfl, -⟩ := hu
  obtain ⟨-, rfl, rfl, -, -, -, m7, m8, -⟩ := hm
  have hck := fun (x : Option Int32) => q_ck (x := x) (show op < 8 by omega) (show 8 < 2 ^ 31 by omega)
  have hsv := (m8 op b3).2.1
  unfold U_look M_look
  by_cases c0 : x1 < 0
  · refine ⟨-1, ?_, by rw [if_pos c0], hst⟩
    have hne : ∀ j : Nat, j < 2 ^ 31 → ¬ x1 = nI j := fun j hj q => by subst q; exact nI_pos hj c0
    rw [if_neg (show ¬ x1 = (0 : Int32) from hne 0 (by omega)), if_neg (show ¬ x1 = (1 : Int32) from hne 1 (by omega)), if_neg (show ¬ x1 = (2 : Int32) from hne 2 (by omega)), if_neg (show ¬ x1 = (3 : Int32) from hne 3 (by omega)), if_neg (show ¬ x1 = (4 : Int32) from hne 4 (by omega)), if_neg (show ¬ x1 = (5 : Int32) from hne 5 (by omega)), if_neg (show ¬ x1 = (6 : Int32) from hne 6 (by omega))]
  · obtain ⟨j, hj, rfl⟩ := nI_of c0
    by_cases c6 : j ≤ 6
    · have hd0 : dn = 0 ∨ dn = 1 := by omega
      rw [if_neg c0, if_pos (show nI j ≤ (6 : Int32) from q_le (b := 6) (by omega) (by omega) c6)]
      simp only [nI_clamp (show op < 2 ^ 31 by omega), hck, m7, hsv]
      rcases (show j = 0 ∨ j = 1 ∨ j = 2 ∨ j = 3 ∨ j = 4 ∨ j = 5 ∨ j = 6 by omega) with rfl | rfl | rfl | rfl | rfl | rfl | rfl
      · rcases hd0 with rfl | rfl
        · exact ⟨nI fl, by simp (decide := true) only [if_true, if_false], by simp (decide := true) only [if_true, if_false], hst⟩
        · exact ⟨-4, by simp (decide := true) only [if_true, if_false], by simp (decide := true) only [if_true, if_false], hst⟩
      · rcases hd0 with rfl | rfl
        · exact ⟨nI (sav op), by simp (decide := true) only [if_true, if_false], by simp (decide := true) only [if_true, if_false], hst⟩
        · exact ⟨-4, by simp (decide := true) only [if_true, if_false], by simp (decide := true) only [if_true, if_false], hst⟩
      · rcases hd0 with rfl | rfl
        · exact ⟨nI last, by simp (decide := true) only [if_true, if_false], by simp (decide := true) only [if_true, if_false], hst⟩
        · exact ⟨-4, by simp (decide := true) only [if_true, if_false], by simp (decide := true) only [if_true, if_false], hst⟩
      · rcases hd0 with rfl | rfl
        · exact ⟨cNumber, by simp (decide := true) only [if_true, if_false], by simp (decide := true) only [if_true, if_false], hst⟩
        · exact ⟨-4, by simp (decide := true) only [if_true, if_false], by simp (decide := true) only [if_true, if_false], hst⟩
      · exact ⟨uWritten, by simp (decide := true) only [if_true, if_false], by simp (decide := true) only [if_true, if_false, hD.1], hst⟩
      · refine ⟨uArmed, by simp (decide := true) only [if_true, if_false], ?_, hst⟩
        obtain ⟨-, ⟨rfl, rfl⟩ | ⟨k, hk, rfl, rfl, rfl⟩⟩ := hD
        · simp (decide := true) only [if_true, if_false]
        · simp (decide := true) only [if_true, if_false]
      · rcases hd0 with rfl | rfl
        · exact ⟨0, by simp (decide := true) only [if_true, if_false], by simp (decide := true) only [if_true, if_false], hst⟩
        · exact ⟨1, by simp (decide := true) only [if_true, if_false], by simp (decide := true) only [if_true, if_false], hst⟩
    · refine ⟨-1, ?_, by rw [if_neg c0, if_neg (show ¬ nI j ≤ (6 : Int32) from q_nle (b := 6) hj (by omega) (by omega))], hst⟩
      rw [if_neg (show ¬ nI j = (0 : Int32) from q_ne (b := 0) hj (by omega) (by omega)), if_neg (show ¬ nI j = (1 : Int32) from q_ne (b := 1) hj (by omega) (by omega)), if_neg (show ¬ nI j = (2 : Int32) from q_ne (b := 2) hj (by omega) (by omega)), if_neg (show ¬ nI j = (3 : Int32) from q_ne (b := 3) hj (by omega) (by omega)), if_neg (show ¬ nI j = (4 : Int32) from q_ne (b := 4) hj (by omega) (by omega)), if_neg (show ¬ nI j = (5 : Int32) from q_ne (b := 5) hj (by omega) (by omega)), if_neg (show ¬ nI j = (6 : Int32) from q_ne (b := 6) hj (by omega) (by omega))]
theorem st_arm {lb : Nat} {n : Nat} {N : Nat} {uOpen : Int32} {uFill : Int32} {uSaved : Int32} {uSerial : Int32} {uDown : Int32} {uArmed : Int32} {uWritten : Int32} {uSize : Int32} {uBytes : Nat → Int32} {uForm : Nat → Int32} {uSers : Nat → Int32} {uBlks : Nat → Int32} {uUnts : Nat → Int32} {uStos : Nat → Int32} {uHis : Nat → Int64} {uLos : Nat → Int64} {cNumber : Int32} {cSerial : Int32} {cOpen : Int32} {cFill : Int32} {cPlcs : Nat → Int32} {uSts : Nat → Int32} {uPlcs : Nat → Int32} {mSegs : Int32} {mOpen : Int32} {mLast : Int32} {mKLast : Int32} {mKOpen : Int32} {mKFill : Int32} {mNumber : Int32} {mDown : Int32} {mArmed : Int32} {mLeft : Int32} {mWritten : Int32} {mFSize : Int32} {mSt : Nat → Int32} {mFil : Nat → Int32} {mSav : Nat → Int32} {mCnt : Nat → Int32} {mBlk : Nat → Int32} {mSto : Nat → Int32} {mUnt : Nat → Int32} {mSiz : Nat → Int32} {mSer : Nat → Int32} {mHi : Nat → Int64} {mLo : Nat → Int64} {mAt : Nat → Int32} {mKAt : Nat → Int32} {mByt : Nat → Int32} {mFrm : Nat → Int32} (h : (ST lb n N uOpen uFill uSaved uSerial uDown uArmed uWritten uBytes uSers uBlks uUnts uStos uHis uLos cNumber cSerial cOpen cFill cPlcs uSts uPlcs mSegs mOpen mLast mKLast mKOpen mKFill mNumber mDown mArmed mLeft mWritten mSt mFil mSav mCnt mBlk mSto mUnt mSiz mSer mHi mLo mAt mKAt mByt)) (x1 : Int32) : ∃ (r : Int32) (uArmed' : Int32) (mArmed' : Int32) (mLeft' : Int32), U_arm uDown uArmed x1 = some (r, uArmed') ∧ M_arm mDown mArmed mLeft x1 = some (r, mArmed', mLeft') ∧ (ST (lb + 16) n N uOpen uFill uSaved uSerial uDown (uArmed') uWritten uBytes uSers uBlks uUnts uStos uHis uLos cNumber cSerial cOpen cFill cPlcs uSts uPlcs mSegs mOpen mLast mKLast mKOpen mKFill mNumber mDown (mArmed') (mLeft') mWritten mSt mFil mSav mCnt mBlk mSto mUnt mSiz mSer mHi mLo mAt mKAt mByt) := by
  obtain ⟨dn, op, fl, last, kl, ko, kf, st, cn, un, sz, sr, bk, so, sav, pa, ka, hi, lo, h1, rfl, rfl, rfl, rfl, h6, g, hu, hm, hD⟩ := h
  have hst : ∀ a m l, Dk a uWritten m l mWritten → (ST (lb + 16) n N uOpen uFill uSaved uSerial (nI dn) a uWritten uBytes uSers uBlks uUnts uStos uHis uLos cNumber cSerial cOpen cFill cPlcs uSts uPlcs mSegs mOpen mLast mKLast mKOpen mKFill cNumber (nI dn) m l mWritten mSt mFil mSav mCnt mBlk mSto mUnt mSiz mSer mHi mLo mAt mKAt uBytes) := fun a m l hd => ⟨dn, op, fl, last, kl, ko, kf, st, cn, un, sz, sr, bk, so, sav, pa, ka, hi, lo, h1, rfl, rfl, rfl, rfl, by omega, g, hu, hm, hd⟩
  unfold U_arm M_arm
  by_cases e : nI dn = 0
  · rw [if_pos e, if_pos e]
    by_cases c1 : x1 < 0
    · exact ⟨0, uArmed, mArmed, mLeft, by rw [if_pos c1], by rw [if_pos c1], hst _ _ _ hD⟩
    · by_cases c2 : x1 ≤ 10000
      · refine ⟨1, x1, 1, x1, by rw [if_neg c1, if_pos c2], by rw [if_neg c1, if_pos c2], hst _ _ _ ⟨hD.1, Or.inr ?_⟩⟩
        obtain ⟨j, hj, rfl⟩ := nI_of c1
        exact ⟨j, (nI_leI (b := 10000) hj (by omega)).mp c2, rfl, rfl, rfl⟩
      · exact ⟨0, uArmed, mArmed, mLeft, by rw [if_neg c1, if_neg c2], by rw [if_neg c1, if_neg c2], hst _ _ _ hD⟩
  · exact ⟨0, uArmed, mArmed, mLeft, by rw [if_neg e], by rw [if_neg e], hst _ _ _ hD⟩
theorem st_disarm {lb : Nat} {n : Nat} {N : Nat} {uOpen : Int32} {uFill : Int32} {uSaved : Int32} {uSerial : Int32} {uDown : Int32} {uArmed : Int32} {uWritten : Int32} {uSize : Int32} {uBytes : Nat → Int32} {uForm : Nat → Int32} {uSers : Nat → Int32} {uBlks : Nat → Int32} {uUnts : Nat → Int32} {uStos : Nat → Int32} {uHis : Nat → Int64} {uLos : Nat → Int64} {cNumber : Int32} {cSerial : Int32} {cOpen : Int32} {cFill : Int32} {cPlcs : Nat → Int32} {uSts : Nat → Int32} {uPlcs : Nat → Int32} {mSegs : Int32} {mOpen : Int32} {mLast : Int32} {mKLast : Int32} {mKOpen : Int32} {mKFill : Int32} {mNumber : Int32} {mDown : Int32} {mArmed : Int32} {mLeft : Int32} {mWritten : Int32} {mFSize : Int32} {mSt : Nat → Int32} {mFil : Nat → Int32} {mSav : Nat → Int32} {mCnt : Nat → Int32} {mBlk : Nat → Int32} {mSto : Nat → Int32} {mUnt : Nat → Int32} {mSiz : Nat → Int32} {mSer : Nat → Int32} {mHi : Nat → Int64} {mLo : Nat → Int64} {mAt : Nat → Int32} {mKAt : Nat → Int32} {mByt : Nat → Int32} {mFrm : Nat → Int32} (h : (ST lb n N uOpen uFill uSaved uSerial uDown uArmed uWritten uBytes uSers uBlks uUnts uStos uHis uLos cNumber cSerial cOpen cFill cPlcs uSts uPlcs mSegs mOpen mLast mKLast mKOpen mKFill mNumber mDown mArmed mLeft mWritten mSt mFil mSav mCnt mBlk mSto mUnt mSiz mSer mHi mLo mAt mKAt mByt))  : ∃ (r : Int32) (uArmed' : Int32) (mArmed' : Int32), U_disarm uDown uArmed = some (r, uArmed') ∧ M_disarm mDown mArmed = some (r, mArmed') ∧ (ST (lb + 16) n N uOpen uFill uSaved uSerial uDown (uArmed') uWritten uBytes uSers uBlks uUnts uStos uHis uLos cNumber cSerial cOpen cFill cPlcs uSts uPlcs mSegs mOpen mLast mKLast mKOpen mKFill mNumber mDown (mArmed') mLeft mWritten mSt mFil mSav mCnt mBlk mSto mUnt mSiz mSer mHi mLo mAt mKAt mByt) := by
  obtain ⟨dn, op, fl, last, kl, ko, kf, st, cn, un, sz, sr, bk, so, sav, pa, ka, hi, lo, h1, rfl, rfl, rfl, rfl, h6, g, hu, hm, hD⟩ := h
  have hst : ∀ a m, Dk a uWritten m mLeft mWritten → (ST (lb + 16) n N uOpen uFill uSaved uSerial (nI dn) a uWritten uBytes uSers uBlks uUnts uStos uHis uLos cNumber cSerial cOpen cFill cPlcs uSts uPlcs mSegs mOpen mLast mKLast mKOpen mKFill cNumber (nI dn) m mLeft mWritten mSt mFil mSav mCnt mBlk mSto mUnt mSiz mSer mHi mLo mAt mKAt uBytes) := fun a m hd => ⟨dn, op, fl, last, kl, ko, kf, st, cn, un, sz, sr, bk, so, sav, pa, ka, hi, lo, h1, rfl, rfl, rfl, rfl, by omega, g, hu, hm, hd⟩
  unfold U_disarm M_disarm
  by_cases e : nI dn = 0
  · rw [if_pos e, if_pos e]
    rcases hD.2 with ⟨rfl, rfl⟩ | ⟨k, hk, rfl, rfl, rfl⟩
    · exact ⟨0, -1, 0, by rw [if_pos rfl], by rw [if_pos rfl], hst _ _ hD⟩
    · exact ⟨1, -1, 0, by rw [if_neg (q_nem1 (by omega))], by rw [if_neg (by decide)], hst _ _ ⟨hD.1, Or.inl ⟨rfl, rfl⟩⟩⟩
  · exact ⟨0, uArmed, mArmed, by rw [if_neg e], by rw [if_neg e], hst _ _ hD⟩
theorem nz0 : nI 0 = (0 : Int32) := rfl
theorem st_crash {lb : Nat} {n : Nat} {N : Nat} {uOpen : Int32} {uFill : Int32} {uSaved : Int32} {uSerial : Int32} {uDown : Int32} {uArmed : Int32} {uWritten : Int32} {uSize : Int32} {uBytes : Nat → Int32} {uForm : Nat → Int32} {uSers : Nat → Int32} {uBlks : Nat → Int32} {uUnts : Nat → Int32} {uStos : Nat → Int32} {uHis : Nat → Int64} {uLos : Nat → Int64} {cNumber : Int32} {cSerial : Int32} {cOpen : Int32} {cFill : Int32} {cPlcs : Nat → Int32} {uSts : Nat → Int32} {uPlcs : Nat → Int32} {mSegs : Int32} {mOpen : Int32} {mLast : Int32} {mKLast : Int32} {mKOpen : Int32} {mKFill : Int32} {mNumber : Int32} {mDown : Int32} {mArmed : Int32} {mLeft : Int32} {mWritten : Int32} {mFSize : Int32} {mSt : Nat → Int32} {mFil : Nat → Int32} {mSav : Nat → Int32} {mCnt : Nat → Int32} {mBlk : Nat → Int32} {mSto : Nat → Int32} {mUnt : Nat → Int32} {mSiz : Nat → Int32} {mSer : Nat → Int32} {mHi : Nat → Int64} {mLo : Nat → Int64} {mAt : Nat → Int32} {mKAt : Nat → Int32} {mByt : Nat → Int32} {mFrm : Nat → Int32} (h : (ST lb n N uOpen uFill uSaved uSerial uDown uArmed uWritten uBytes uSers uBlks uUnts uStos uHis uLos cNumber cSerial cOpen cFill cPlcs uSts uPlcs mSegs mOpen mLast mKLast mKOpen mKFill mNumber mDown mArmed mLeft mWritten mSt mFil mSav mCnt mBlk mSto mUnt mSiz mSer mHi mLo mAt mKAt mByt)) : ∃ (r : Int32) (uDown' : Int32) (uSers' : Nat → Int32) (mDown' : Int32), U_crash N uOpen uSaved uDown uSers uUnts = some (r, uDown', uSers') ∧ M_crash mDown = some (r, mDown') ∧ (ST (lb + 16) n N uOpen uFill uSaved uSerial (uDown') uArmed uWritten uBytes (uSers') uBlks uUnts uStos uHis uLos cNumber cSerial cOpen cFill cPlcs uSts uPlcs mSegs mOpen mLast mKLast mKOpen mKFill mNumber (mDown') mArmed mLeft mWritten mSt mFil mSav mCnt mBlk mSto mUnt mSiz mSer mHi mLo mAt mKAt mByt) := by
  obtain ⟨dn, op, fl, last, kl, ko, kf, st, cn, un, sz, sr, bk, so, sav, pa, ka, hi, lo, h1, rfl, rfl, rfl, rfl, h6, g, hu, hm, hD⟩ := h
  unfold U_crash M_crash
  by_cases e : dn = 0
  · subst e
    obtain ⟨S, q1, q2⟩ := down_ok (uDown := nI 0) g hu
    exact ⟨1, 1, S, 1, by rw [if_pos nz0, q1, Option.bind_some], by rw [if_pos nz0], 1, op, fl, last, kl, ko, kf, st, cn, un, sz, sr, bk, so, sav, pa, ka, hi, lo, by omega, rfl, rfl, rfl, rfl, by omega, g, q2, hm, hD⟩
  · have hd := dn_0 h1 e
    exact ⟨0, nI dn, uSers, nI dn, by rw [if_neg hd], by rw [if_neg hd], dn, op, fl, last, kl, ko, kf, st, cn, un, sz, sr, bk, so, sav, pa, ka, hi, lo, h1, rfl, rfl, rfl, rfl, by omega, g, hu, hm, hD⟩
theorem st_flush {lb : Nat} {n : Nat} {N : Nat} {uOpen : Int32} {uFill : Int32} {uSaved : Int32} {uSerial : Int32} {uDown : Int32} {uArmed : Int32} {uWritten : Int32} {uSize : Int32} {uBytes : Nat → Int32} {uForm : Nat → Int32} {uSers : Nat → Int32} {uBlks : Nat → Int32} {uUnts : Nat → Int32} {uStos : Nat → Int32} {uHis : Nat → Int64} {uLos : Nat → Int64} {cNumber : Int32} {cSerial : Int32} {cOpen : Int32} {cFill : Int32} {cPlcs : Nat → Int32} {uSts : Nat → Int32} {uPlcs : Nat → Int32} {mSegs : Int32} {mOpen : Int32} {mLast : Int32} {mKLast : Int32} {mKOpen : Int32} {mKFill : Int32} {mNumber : Int32} {mDown : Int32} {mArmed : Int32} {mLeft : Int32} {mWritten : Int32} {mFSize : Int32} {mSt : Nat → Int32} {mFil : Nat → Int32} {mSav : Nat → Int32} {mCnt : Nat → Int32} {mBlk : Nat → Int32} {mSto : Nat → Int32} {mUnt : Nat → Int32} {mSiz : Nat → Int32} {mSer : Nat → Int32} {mHi : Nat → Int64} {mLo : Nat → Int64} {mAt : Nat → Int32} {mKAt : Nat → Int32} {mByt : Nat → Int32} {mFrm : Nat → Int32} (h : (ST lb n N uOpen uFill uSaved uSerial uDown uArmed uWritten uBytes uSers uBlks uUnts uStos uHis uLos cNumber cSerial cOpen cFill cPlcs uSts uPlcs mSegs mOpen mLast mKLast mKOpen mKFill mNumber mDown mArmed mLeft mWritten mSt mFil mSav mCnt mBlk mSto mUnt mSiz mSer mHi mLo mAt mKAt mByt)) : ∃ (r : Int32) (uSaved' : Int32) (uDown' : Int32) (uArmed' : Int32) (uWritten' : Int32) (uSers' : Nat → Int32) (mDown' : Int32) (mLeft' : Int32) (mWritten' : Int32) (mSav' : Nat → Int32), U_flush N uOpen uFill uSaved uDown uArmed uWritten uSers uUnts = some (r, uSaved', uDown', uArmed', uWritten', uSers') ∧ M_flush mOpen mDown mArmed mLeft mWritten mFil mSav = some (r, mDown', mLeft', mWritten', mSav') ∧ (ST (lb + 16) n N uOpen uFill (uSaved') uSerial (uDown') (uArmed') (uWritten') uBytes (uSers') uBlks uUnts uStos uHis uLos cNumber cSerial cOpen cFill cPlcs uSts uPlcs mSegs mOpen mLast mKLast mKOpen mKFill mNumber (mDown') mArmed (mLeft') (mWritten') mSt mFil (mSav') mCnt mBlk mSto mUnt mSiz mSer mHi mLo mAt mKAt mByt) := by
  obtain ⟨dn, op, fl, last, kl, ko, kf, st, cn, un, sz, sr, bk, so, sav, pa, ka, hi, lo, h1, rfl, rfl, rfl, rfl, h6, g, hu, hm, hD⟩ := h
  unfold U_flush M_flush
  by_cases e : dn = 0
  · subst e
    have g0 := g
    have hu0 := hu
    have hm0 := hm
    obtain ⟨⟨b1, b2, b3, b4, b5, b6, b7, b8, b9, b10⟩, -⟩ := g0
    obtain ⟨-, rfl, rfl, rfl, rfl, -⟩ := hu0
    obtain ⟨-, rfl, rfl, -, -, -, m7, m8, -⟩ := hm0
    obtain ⟨v, a, w, l, S, r2, r3, r4, r5, r6, r7⟩ := save_ok (op := op) (by omega) b4 b5 m7 (m8 op b3).2.1 (mD := nI 0) hD
    have g1' := GI_sav g v r2
    have hu1 := RU_sav hu v
    have hm1 := RM_sav hm v S r3 r4
    rcases r7 with ⟨t1, t2, t3⟩ | ⟨t0, t2, t3⟩
    · subst t1
      exact ⟨nI (v - sav op), nI v, nI 0, a, w, uSers, nI 0, l, w, S, by rw [if_pos nz0, t2, Option.bind_some, if_neg (show ¬ (1 : Int32) = 0 by decide), pk_sub b5], by rw [if_pos nz0, t3, Option.bind_some], 0, op, v, last, kl, ko, kf, st, cn, un, sz, sr, bk, so, va_up sav op v, pa, ka, hi, lo, by omega, rfl, rfl, rfl, rfl, by omega, g1', hu1, hm1, r5⟩
    · obtain ⟨S2, q1, q2⟩ := down_ok (uDown := nI 0) g1' hu1
      exact ⟨-4, nI v, 1, a, w, S2, 1, l, w, S, by rw [if_pos nz0, t2, Option.bind_some, if_pos rfl, q1, Option.bind_some], by rw [if_pos nz0, t3, Option.bind_some], 1, op, fl, last, kl, ko, kf, st, cn, un, sz, sr, bk, so, va_up sav op v, pa, ka, hi, lo, by omega, rfl, rfl, rfl, rfl, by omega, g1', q2, hm1, r5⟩
  · have hd := dn_0 h1 e
    exact ⟨-4, uSaved, nI dn, uArmed, uWritten, uSers, nI dn, mLeft, mWritten, mSav, by rw [if_neg hd], by rw [if_neg hd], dn, op, fl, last, kl, ko, kf, st, cn, un, sz, sr, bk, so, sav, pa, ka, hi, lo, h1, rfl, rfl, rfl, rfl, by omega, g, hu, hm, hD⟩
theorem st_checkpoint {lb : Nat} {n : Nat} {N : Nat} {uOpen : Int32} {uFill : Int32} {uSaved : Int32} {uSerial : Int32} {uDown : Int32} {uArmed : Int32} {uWritten : Int32} {uSize : Int32} {uBytes : Nat → Int32} {uForm : Nat → Int32} {uSers : Nat → Int32} {uBlks : Nat → Int32} {uUnts : Nat → Int32} {uStos : Nat → Int32} {uHis : Nat → Int64} {uLos : Nat → Int64} {cNumber : Int32} {cSerial : Int32} {cOpen : Int32} {cFill : Int32} {cPlcs : Nat → Int32} {uSts : Nat → Int32} {uPlcs : Nat → Int32} {mSegs : Int32} {mOpen : Int32} {mLast : Int32} {mKLast : Int32} {mKOpen : Int32} {mKFill : Int32} {mNumber : Int32} {mDown : Int32} {mArmed : Int32} {mLeft : Int32} {mWritten : Int32} {mFSize : Int32} {mSt : Nat → Int32} {mFil : Nat → Int32} {mSav : Nat → Int32} {mCnt : Nat → Int32} {mBlk : Nat → Int32} {mSto : Nat → Int32} {mUnt : Nat → Int32} {mSiz : Nat → Int32} {mSer : Nat → Int32} {mHi : Nat → Int64} {mLo : Nat → Int64} {mAt : Nat → Int32} {mKAt : Nat → Int32} {mByt : Nat → Int32} {mFrm : Nat → Int32} (h : (ST lb n N uOpen uFill uSaved uSerial uDown uArmed uWritten uBytes uSers uBlks uUnts uStos uHis uLos cNumber cSerial cOpen cFill cPlcs uSts uPlcs mSegs mOpen mLast mKLast mKOpen mKFill mNumber mDown mArmed mLeft mWritten mSt mFil mSav mCnt mBlk mSto mUnt mSiz mSer mHi mLo mAt mKAt mByt)) : ∃ (r : Int32) (uSaved' : Int32) (uDown' : Int32) (uArmed' : Int32) (uWritten' : Int32) (uSers' : Nat → Int32) (cNumber' : Int32) (cSerial' : Int32) (cOpen' : Int32) (cFill' : Int32) (cPlcs' : Nat → Int32) (mKLast' : Int32) (mKOpen' : Int32) (mKFill' : Int32) (mNumber' : Int32) (mDown' : Int32) (mLeft' : Int32) (mWritten' : Int32) (mSav' : Nat → Int32) (mKAt' : Nat → Int32), U_checkpoint N uOpen uFill uSaved uSerial uDown uArmed uWritten uSers uUnts cNumber cSerial cOpen cFill cPlcs uPlcs = some (r, uSaved', uDown', uArmed', uWritten', uSers', cNumber', cSerial', cOpen', cFill', cPlcs') ∧ M_checkpoint mOpen mLast mKLast mKOpen mKFill mNumber mDown mArmed mLeft mWritten mFil mSav mAt mKAt = some (r, mKLast', mKOpen', mKFill', mNumber', mDown', mLeft', mWritten', mSav', mKAt') ∧ (ST (lb + 16) n N uOpen uFill (uSaved') uSerial (uDown') (uArmed') (uWritten') uBytes (uSers') uBlks uUnts uStos uHis uLos (cNumber') (cSerial') (cOpen') (cFill') (cPlcs') uSts uPlcs mSegs mOpen mLast (mKLast') (mKOpen') (mKFill') (mNumber') (mDown') mArmed (mLeft') (mWritten') mSt mFil (mSav') mCnt mBlk mSto mUnt mSiz mSer mHi mLo mAt (mKAt') mByt) := by
  obtain ⟨dn, op, fl, last, kl, ko, kf, st, cn, un, sz, sr, bk, so, sav, pa, ka, hi, lo, h1, rfl, rfl, rfl, rfl, h6, g, hu, hm, hD⟩ := h
  unfold U_checkpoint M_checkpoint
  by_cases e : dn = 0
  · subst e
    rcases check_ok (mD := nI 0) (cNumber := cNumber) g hu hm hD with ⟨a, w, l, S, P, Q, r1, r2, t2, t3, g1', hu1, hm1⟩ | ⟨v, a, w, l, S, r1, r2, t2, t3, g1', hu1, hm1⟩
    · refine ⟨cNumber + 1, nI fl, nI 0, a, w, uSers, cNumber + 1, nI last, nI op, nI fl, P, nI last, nI op, nI fl, cNumber + 1, nI 0, l, w, S, Q, ?_, ?_, ?_⟩
      · rw [if_pos nz0, t2, Option.bind_some, if_neg (show ¬ (1 : Int32) = 0 by decide)]
      · rw [if_pos nz0, t3, Option.bind_some, if_neg (show ¬ (1 : Int32) = 0 by decide)]
      · exact ⟨0, op, fl, last, last, op, fl, st, cn, un, sz, sr, bk, so, va_up sav op fl, pa, pa, hi, lo, by omega, rfl, rfl, rfl, rfl, by omega, g1', hu1, hm1, r1⟩
    · obtain ⟨S2, q1, q2⟩ := down_ok (uDown := nI 0) g1' hu1
      refine ⟨-4, nI v, 1, a, w, S2, cNumber, cSerial, cOpen, cFill, cPlcs, mKLast, mKOpen, mKFill, cNumber, 1, l, w, S, mKAt, ?_, ?_, ?_⟩
      · rw [if_pos nz0, t2, Option.bind_some, if_pos rfl, q1, Option.bind_some]
      · rw [if_pos nz0, t3, Option.bind_some, if_pos rfl]
      · exact ⟨1, op, fl, last, kl, ko, kf, st, cn, un, sz, sr, bk, so, va_up sav op v, pa, ka, hi, lo, by omega, rfl, rfl, rfl, rfl, by omega, g1', q2, hm1, r1⟩
  · have hd := dn_0 h1 e
    exact ⟨-4, uSaved, nI dn, uArmed, uWritten, uSers, cNumber, cSerial, cOpen, cFill, cPlcs, mKLast, mKOpen, mKFill, cNumber, nI dn, mLeft, mWritten, mSav, mKAt, by rw [if_neg hd], by rw [if_neg hd], dn, op, fl, last, kl, ko, kf, st, cn, un, sz, sr, bk, so, sav, pa, ka, hi, lo, h1, rfl, rfl, rfl, rfl, by omega, g, hu, hm, hD⟩
