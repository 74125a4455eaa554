/-! the state of both, and the calls that only look, or that move little -/
def ST (lb n N : Nat) (uOpen : Int32) (uFill : Int32) (uSaved : Int32) (uSerial : Int32) (uDown : Int32) (uArmed : Int32) (uWritten : Int32) (uBytes : Nat → Int32) (uSers : Nat → Int32) (uBlks : Nat → Int32) (uUnts : Nat → Int32) (uStos : Nat → Int32) (uHis : Nat → Int64) (uLos : Nat → Int64) (cNumber : Int32) (cSerial : Int32) (cOpen : Int32) (cFill : Int32) (cPlcs : Nat → Int32) (uSts : Nat → Int32) (uPlcs : Nat → Int32) (mSegs : Int32) (mOpen : Int32) (mLast : Int32) (mKLast : Int32) (mKOpen : Int32) (mKFill : Int32) (mNumber : Int32) (mDown : Int32) (mArmed : Int32) (mLeft : Int32) (mWritten : Int32) (mSt : Nat → Int32) (mFil : Nat → Int32) (mSav : Nat → Int32) (mCnt : Nat → Int32) (mBlk : Nat → Int32) (mSto : Nat → Int32) (mUnt : Nat → Int32) (mSiz : Nat → Int32) (mSer : Nat → Int32) (mHi : Nat → Int64) (mLo : Nat → Int64) (mAt : Nat → Int32) (mKAt : Nat → Int32) (mByt : Nat → Int32) : Prop :=
  ∃ (dn op fl last kl ko kf : Nat) (st cn un sz sr bk so sav pa ka : Nat → Nat) (hi lo : Nat → Int64), dn ≤ 1 ∧ uDown = nI dn ∧ mDown = nI dn ∧ cNumber = mNumber ∧ uBytes = mByt ∧ last ≤ lb ∧ (GI n op fl last kl ko kf st cn un sz sr bk so sav pa ka) ∧ (RU dn N n op fl last kl ko kf st cn un sz sr bk so sav pa ka hi lo uOpen uFill uSaved uSerial cSerial cOpen cFill uSts uPlcs cPlcs uSers uBlks uUnts uStos uHis uLos) ∧ (RM n op fl last kl ko kf st cn un sz sr bk so sav pa ka hi lo mSegs mOpen mLast mKLast mKOpen mKFill mSt mFil mSav mCnt mBlk mSto mUnt mSiz mSer mAt mKAt mHi mLo) ∧ Dk uArmed uWritten mArmed mLeft mWritten
theorem isb_eq : M_isBlock = U_isBlock := rfl
theorem isb_ok (x : Int32) : (∃ b, b < 16 ∧ x = nI b ∧ U_isBlock x = some 1) ∨ U_isBlock x = some 0 := by
  unfold U_isBlock
  by_cases h : x < 0
  · right; rw [if_pos h]
  · rw [if_neg h]
    obtain ⟨j, hj, rfl⟩ := nI_of h
    by_cases h2 : j < 16
    · left; exact ⟨j, h2, rfl, by rw [if_neg (show ¬ (16 : Int32) ≤ nI j from q_nle (a := 16) (by omega) (by omega) h2)]⟩
    · right; rw [if_pos (show (16 : Int32) ≤ nI j from q_le (a := 16) (by omega) (by omega) (by omega))]
theorem dn_0 {dn : Nat} (h : dn ≤ 1) (e : ¬ dn = 0) : ¬ nI dn = (0 : Int32) := q_ne (b := 0) (by omega) (by omega) e
theorem n00 : (nI 0 = (0 : Int32)) = True := eq_true rfl
theorem c00 : ((0 : Int32) = 0) = True := eq_true rfl
theorem c10 : ((1 : Int32) = 0) = False := eq_false (by decide)
theorem cm10 : ((-1 : Int32) = 0) = False := eq_false (by decide)
theorem cm20 : ((-2 : Int32) = 0) = False := eq_false (by decide)
theorem cm30 : ((-3 : Int32) = 0) = False := eq_false (by decide)
theorem cm40 : ((-4 : Int32) = 0) = False := eq_false (by decide)
theorem l0m1 : ((0 : Int32) ≤ -1) = False := eq_false (by decide)
/-- a block's place, in both -/
theorem plc {n : Nat} {op : Nat} {fl : Nat} {last : Nat} {kl : Nat} {ko : Nat} {kf : Nat} {st : Nat → Nat} {cn : Nat → Nat} {un : Nat → Nat} {sz : Nat → Nat} {sr : Nat → Nat} {bk : Nat → Nat} {so : Nat → Nat} {sav : Nat → Nat} {pa : Nat → Nat} {ka : Nat → Nat} {hi : Nat → Int64} {lo : Nat → Int64} {N : Nat} {uOpen : Int32} {uFill : Int32} {uSaved : Int32} {uSerial : Int32} {cSerial : Int32} {cOpen : Int32} {cFill : Int32} {uSts : Nat → Int32} {uPlcs : Nat → Int32} {cPlcs : Nat → Int32} {uSers : Nat → Int32} {uBlks : Nat → Int32} {uUnts : Nat → Int32} {uStos : Nat → Int32} {uHis : Nat → Int64} {uLos : Nat → Int64} {mSegs : Int32} {mOpen : Int32} {mLast : Int32} {mKLast : Int32} {mKOpen : Int32} {mKFill : Int32} {mSt : Nat → Int32} {mFil : Nat → Int32} {mSav : Nat → Int32} {mCnt : Nat → Int32} {mBlk : Nat → Int32} {mSto : Nat → Int32} {mUnt : Nat → Int32} {mSiz : Nat → Int32} {mSer : Nat → Int32} {mAt : Nat → Int32} {mKAt : Nat → Int32} {mHi : Nat → Int64} {mLo : Nat → Int64} {dn : Nat} (g : (GI n op fl last kl ko kf st cn un sz sr bk so sav pa ka)) (hu : (RU dn N n op fl last kl ko kf st cn un sz sr bk so sav pa ka hi lo uOpen uFill uSaved uSerial cSerial cOpen cFill uSts uPlcs cPlcs uSers uBlks uUnts uStos uHis uLos)) (hm : (RM n op fl last kl ko kf st cn un sz sr bk so sav pa ka hi lo mSegs mOpen mLast mKLast mKOpen mKFill mSt mFil mSav mCnt mBlk mSto mUnt mSiz mSer mAt mKAt mHi mLo)) {b : Nat} (hb : b < 16) : (pa b = 0 ∧ uPlcs b = -1 ∧ mAt b = -1) ∨ (∃ k, pa b = k + 1 ∧ vld n cn k ∧ k < 64 ∧ pl un k < N ∧ N < 2 ^ 31 ∧ uPlcs b = nI (pl un k) ∧ mAt b = nI k ∧ uBlks (pl un k) = nI (bk k) ∧ uUnts (pl un k) = nI (sz k) ∧ uHis (pl un k) = mHi k ∧ uLos (pl un k) = mLo k ∧ mUnt k = nI (un k) ∧ mSiz k = nI (sz k) ∧ bk k = b ∧ un k < 16) := by
  obtain ⟨u1, -, -, -, -, -, -, -, -, u10, -, u12, -⟩ := hu
  obtain ⟨-, -, -, -, -, -, -, -, m9, m10⟩ := hm
  obtain ⟨⟨b1, b2, -⟩, -, g3', -, -, -, -, g8', -⟩ := g
  rcases hp : pa b with _ | k
  · left
    refine ⟨rfl, ?_, ?_⟩
    · rw [(u10 b hb).1, hp]; rfl
    · rw [(m10 b hb).1, hp]; rfl
  · right
    obtain ⟨d1, d2, d3, d4⟩ := g8' b hb (by omega)
    rw [hp, show k + 1 - 1 = k from rfl] at d1 d2
    have q3 := g3' k d1
    obtain ⟨r1, r2, r3, r4, r5, r6, r7⟩ := m9 k d1
    obtain ⟨s1, s2, s3, s4, s5⟩ := u12 k d1
    have hv := d1
    unfold vld at hv
    refine ⟨k, rfl, d1, by omega, by unfold pl; omega, by omega, ?_, ?_, s1, s2, by rw [s4, r6], by rw [s5, r7], r3, r4, d2, by omega⟩
    · rw [(u10 b hb).1, hp]; rfl
    · rw [(m10 b hb).1, hp]; rfl
theorem le0 {k : Nat} (h : k < 2 ^ 31) : ((0 : Int32) ≤ nI k) = True := eq_true (q_le (a := 0) (by omega) h (by omega))
theorem nem1 {k : Nat} (h : k < 2 ^ 31) : (nI k = (-1 : Int32)) = False := eq_false (q_nem1 h)
theorem mm1 : ((-1 : Int32) = -1) = True := eq_true rfl
theorem div8 {k : Nat} (h : k < 64) : nI k / (8 : Int32) = nI (k / 8) := pk_div (d := 8) (by omega) (by omega) (by omega)
theorem st_place {lb : Nat} {n : Nat} {N : Nat} {uOpen : Int32} {uFill : Int32} {uSaved : Int32} {uSerial : Int32} {uDown : Int32} {uArmed : Int32} {uWritten : Int32} {uSize : Int32} {uBytes : Nat → Int32} {uForm : Nat → Int32} {uSers : Nat → Int32} {uBlks : Nat → Int32} {uUnts : Nat → Int32} {uStos : Nat → Int32} {uHis : Nat → Int64} {uLos : Nat → Int64} {cNumber : Int32} {cSerial : Int32} {cOpen : Int32} {cFill : Int32} {cPlcs : Nat → Int32} {uSts : Nat → Int32} {uPlcs : Nat → Int32} {mSegs : Int32} {mOpen : Int32} {mLast : Int32} {mKLast : Int32} {mKOpen : Int32} {mKFill : Int32} {mNumber : Int32} {mDown : Int32} {mArmed : Int32} {mLeft : Int32} {mWritten : Int32} {mFSize : Int32} {mSt : Nat → Int32} {mFil : Nat → Int32} {mSav : Nat → Int32} {mCnt : Nat → Int32} {mBlk : Nat → Int32} {mSto : Nat → Int32} {mUnt : Nat → Int32} {mSiz : Nat → Int32} {mSer : Nat → Int32} {mHi : Nat → Int64} {mLo : Nat → Int64} {mAt : Nat → Int32} {mKAt : Nat → Int32} {mByt : Nat → Int32} {mFrm : Nat → Int32} (h : (ST lb n N uOpen uFill uSaved uSerial uDown uArmed uWritten uBytes uSers uBlks uUnts uStos uHis uLos cNumber cSerial cOpen cFill cPlcs uSts uPlcs mSegs mOpen mLast mKLast mKOpen mKFill mNumber mDown mArmed mLeft mWritten mSt mFil mSav mCnt mBlk mSto mUnt mSiz mSer mHi mLo mAt mKAt mByt)) (x1 : Int32) : ∃ (r : Int32), U_place uDown uPlcs x1 = some r ∧ M_place mDown mUnt mAt x1 = some r ∧ (ST (lb + 16) n N uOpen uFill uSaved uSerial uDown uArmed uWritten uBytes uSers uBlks uUnts uStos uHis uLos cNumber cSerial cOpen cFill cPlcs uSts uPlcs mSegs mOpen mLast mKLast mKOpen mKFill mNumber mDown mArmed mLeft mWritten mSt mFil mSav mCnt mBlk mSto mUnt mSiz mSer mHi mLo mAt mKAt mByt) := by
  obtain ⟨dn, op, fl, last, kl, ko, kf, st, cn, un, sz, sr, bk, so, sav, pa, ka, hi, lo, h1, rfl, rfl, rfl, rfl, h6, g, hu, hm, hD⟩ := h
  have hst : (ST (lb + 16) n N uOpen uFill uSaved uSerial (nI dn) uArmed uWritten uBytes uSers uBlks uUnts uStos uHis uLos cNumber cSerial cOpen cFill cPlcs uSts uPlcs mSegs mOpen mLast mKLast mKOpen mKFill cNumber (nI dn) mArmed mLeft mWritten mSt mFil mSav mCnt mBlk mSto mUnt mSiz mSer mHi mLo mAt mKAt uBytes) := ⟨dn, op, fl, last, kl, ko, kf, st, cn, un, sz, sr, bk, so, sav, pa, ka, hi, lo, h1, rfl, rfl, rfl, rfl, by omega, g, hu, hm, hD⟩
  unfold U_place M_place M_refusal
  rw [isb_eq]
  by_cases e : dn = 0
  · subst e
    rcases isb_ok x1 with ⟨b, hb, rfl, hq⟩ | hq
    · have hk16 := fun (x : Option Int32) => q_ck (x := x) hb (show 16 < 2 ^ 31 by omega)
      rcases plc g hu hm hb with ⟨-, p1, p2⟩ | ⟨k, -, v1, v2, v3, v4, p1, p2, -, -, -, -, p3, -, -, v5⟩
      · exact ⟨-2, by simp only [n00, c10, c00, cm10, cm20, cm30, cm40, l0m1, if_true, if_false, Option.bind_some, hq, hk16, nI_clamp (show b < 2 ^ 31 by omega), p1, mm1], by simp only [n00, c10, c00, cm10, cm20, cm30, cm40, l0m1, if_true, if_false, Option.bind_some, hq, hk16, nI_clamp (show b < 2 ^ 31 by omega), p2], hst⟩
      · refine ⟨nI (pl un k), by simp only [n00, c10, c00, cm10, cm20, cm30, cm40, l0m1, if_true, if_false, Option.bind_some, hq, hk16, nI_clamp (show b < 2 ^ 31 by omega), p1, nem1 (show pl un k < 2 ^ 31 by omega)], ?_, hst⟩
        simp only [n00, c10, c00, cm10, cm20, cm30, cm40, l0m1, if_true, if_false, Option.bind_some, hq, hk16, nI_clamp (show b < 2 ^ 31 by omega), p2, le0 (show k < 2 ^ 31 by omega), q_ck v2 (show 64 < 2 ^ 31 by omega), nI_clamp (show k < 2 ^ 31 by omega), p3, div8 v2]
        rw [show (16 : Int32) = nI 16 from rfl, pk_mul, nI_add]
        rfl
    · exact ⟨-1, by simp only [n00, c10, c00, cm10, cm20, cm30, cm40, l0m1, if_true, if_false, Option.bind_some, hq], by simp only [n00, c10, c00, cm10, cm20, cm30, cm40, l0m1, if_true, if_false, Option.bind_some, hq], hst⟩
  · have hd := eq_false (dn_0 h1 e)
    exact ⟨-4, by simp only [n00, c10, c00, cm10, cm20, cm30, cm40, l0m1, if_true, if_false, Option.bind_some, hd], by simp only [n00, c10, c00, cm10, cm20, cm30, cm40, l0m1, if_true, if_false, Option.bind_some, hd], hst⟩
