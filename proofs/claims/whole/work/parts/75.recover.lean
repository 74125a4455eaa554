/-! recovery: the state behind it -/
theorem vld_tr {n : Nat} {op : Nat} {fl : Nat} {last : Nat} {kl : Nat} {ko : Nat} {kf : Nat} {st : Nat → Nat} {cn : Nat → Nat} {un : Nat → Nat} {sz : Nat → Nat} {sr : Nat → Nat} {bk : Nat → Nat} {so : Nat → Nat} {sav : Nat → Nat} {pa : Nat → Nat} {ka : Nat → Nat} (g : (GI n op fl last kl ko kf st cn un sz sr bk so sav pa ka)) (c1 k : Nat) : vld n (fun s => tr sr s c1 (cn s)) k ↔ vld n cn k ∧ sr k ≤ c1 := by
  obtain ⟨-, -, -, g4', g5', -⟩ := g
  have asc : ∀ s, s < n → ∀ i j, i < j → j < cn s → sr (8 * s + i) < sr (8 * s + j) := fun s hs i j h1 h2 => by
    have h8 := g5'.1 s hs
    exact (slot_lt g4' g5'.1 (vld_si hs h8 (by omega)) (vld_si hs h8 h2) (by omega) (by omega)).2
  constructor
  · rintro ⟨h1, h2⟩
    have h2 : k % 8 < tr sr (k / 8) c1 (cn (k / 8)) := h2
    have h3 := tr_le sr (k / 8) c1 (cn (k / 8))
    have h4 := (tr_iff (c1 := c1) (cn (k / 8)) (asc _ h1) (k % 8) (by omega)).mp h2
    rw [show 8 * (k / 8) + k % 8 = k by omega] at h4
    exact ⟨⟨h1, by omega⟩, h4⟩
  · rintro ⟨⟨h1, h2⟩, h3⟩
    refine ⟨h1, (tr_iff (c1 := c1) (cn (k / 8)) (asc _ h1) (k % 8) h2).mpr ?_⟩
    rw [show 8 * (k / 8) + k % 8 = k by omega]
    exact h3
theorem sm_pos {f : Nat → Nat} {c : Nat} : ∀ n, c < n → f c ≤ sm f n := by
  intro n
  induction n with
  | zero => intro h; omega
  | succ n ih =>
    intro h
    rw [sm]
    by_cases e : c = n
    · subst e; omega
    · have := ih (by omega); omega
theorem GI_rec {n : Nat} {op : Nat} {fl : Nat} {last : Nat} {kl : Nat} {ko : Nat} {kf : Nat} {st : Nat → Nat} {cn : Nat → Nat} {un : Nat → Nat} {sz : Nat → Nat} {sr : Nat → Nat} {bk : Nat → Nat} {so : Nat → Nat} {sav : Nat → Nat} {pa : Nat → Nat} {ka : Nat → Nat} (g : (GI n op fl last kl ko kf st cn un sz sr bk so sav pa ka)) {c1 op1 fl1 : Nat} {pa1 : Nat → Nat} {uP mP : Nat → Int32} (h : RI n cn un sz sr bk so c1 op1 fl1 pa1 uP mP) (hc : c1 ≤ last) : (GI n op1 fl1 c1 c1 op1 fl1 (fun s => if s = op1 then 1 else if lv sz pa1 s = 0 then 0 else 2) (fun s => tr sr s c1 (cn s)) un sz sr bk so (va_up sav op1 fl1) pa1 pa1) := by
  have hv := fun k => vld_tr g c1 k
  obtain ⟨⟨b1, b2, b3, b4, b5, b6, b7, b8, b9, b10⟩, -, g3', g4', g5', -⟩ := g
  obtain ⟨i1, i2, i3, i4⟩ := h
  have hst : ∀ b, b < 16 → pa1 b ≠ 0 → (if (pa1 b - 1) / 8 = op1 then 1 else if lv sz pa1 ((pa1 b - 1) / 8) = 0 then 0 else 2) ≠ 0 := fun b hb hp => by
    by_cases e : (pa1 b - 1) / 8 = op1
    · rw [if_pos e]; omega
    · rw [if_neg e, if_neg]
      · omega
      · intro q
        have w := sm_pos (f := lvf sz pa1 ((pa1 b - 1) / 8)) (c := b) 16 hb
        have w2 : lvf sz pa1 ((pa1 b - 1) / 8) b = sz (pa1 b - 1) := by unfold lvf; rw [if_pos ⟨hp, rfl⟩]
        have w3 := (g3' _ ((i3 b hb).2.2 hp).1).2.1
        unfold lv at q
        omega
  have hsl : ∀ k, vld n (fun s => tr sr s c1 (cn s)) k → k / 8 = op1 → un k + sz k ≤ fl1 := fun k hk e => i4 k ((hv k).mp hk).1 e ((hv k).mp hk).2
  refine ⟨⟨b1, b2, i1, i2, by rw [up_s]; exact Nat.le_refl _, Nat.le_refl _, i1, i2, by omega, fun s hs => ?_⟩, ⟨fun s hs => ?_, if_pos rfl, fun s hs h1 => ?_, ?_⟩, fun k hk => ?_, fun k hk h2 => ?_, ⟨fun s hs => ?_, hsl⟩, ⟨fun k hk _ => ((hv k).mp hk).2, fun k hk _ h2 => ?_, fun k j hk _ _ _ h2 => ?_⟩, fun w h1 h2 => absurd h1 (by omega), fun b hb hp => ?_, fun b hb hp => ?_, fun k hk e _ => hsl k hk e⟩
  · by_cases e : s = op1
    · subst e; rw [up_s]; exact i2
    · rw [up_n _ _ e]; exact b10 s hs
  · show (if s = op1 then 1 else if lv sz pa1 s = 0 then 0 else 2) ≤ 2
    by_cases e : s = op1
    · rw [if_pos e]; omega
    · rw [if_neg e]
      by_cases e2 : lv sz pa1 s = 0
      · rw [if_pos e2]; omega
      · rw [if_neg e2]; omega
  · have h1 : (if s = op1 then 1 else if lv sz pa1 s = 0 then 0 else 2) = 1 := h1
    by_cases e : s = op1
    · exact e
    · rw [if_neg e] at h1
      by_cases e2 : lv sz pa1 s = 0
      · rw [if_pos e2] at h1; omega
      · rw [if_neg e2] at h1; omega
  · show (if op1 = op1 then 1 else _) ≠ 0
    rw [if_pos rfl]; omega
  · have x := g3' k ((hv k).mp hk).1
    have y := ((hv k).mp hk).2
    omega
  · have h2 : k % 8 + 1 < tr sr (k / 8) c1 (cn (k / 8)) := h2
    have h3 := tr_le sr (k / 8) c1 (cn (k / 8))
    exact g4' k hk (by omega)
  · show tr sr s c1 (cn s) ≤ 8
    have h3 := tr_le sr s c1 (cn s)
    have := g5'.1 s hs
    omega
  · have := ((hv k).mp hk).2; omega
  · have := ((hv k).mp hk).2; omega
  · obtain ⟨v1, v2, v3, v4⟩ := (i3 b hb).2.2 hp
    exact ⟨(hv _).mpr ⟨v1, v4⟩, v2, v3, hst b hb hp⟩
  · obtain ⟨v1, v2, v3, v4⟩ := (i3 b hb).2.2 hp
    exact ⟨(hv _).mpr ⟨v1, v4⟩, v2, v3, hst b hb hp, v4⟩
/-- nothing above the last serial rolled is left on the disk -/
theorem no_more {n : Nat} {op : Nat} {fl : Nat} {last : Nat} {kl : Nat} {ko : Nat} {kf : Nat} {st : Nat → Nat} {cn : Nat → Nat} {un : Nat → Nat} {sz : Nat → Nat} {sr : Nat → Nat} {bk : Nat → Nat} {so : Nat → Nat} {sav : Nat → Nat} {pa : Nat → Nat} {ka : Nat → Nat} (g : (GI n op fl last kl ko kf st cn un sz sr bk so sav pa ka)) {c1 : Nat} (hk : kl ≤ c1) (hno : ∀ j, vld n cn j → ¬ hit un sz sr sav (c1 + 1) j) {w k : Nat} (hw : c1 < w) (h1 : vld n cn k) (h2 : hit un sz sr sav w k) : False := by
  obtain ⟨⟨b1, b2, b3, b4, b5, b6, b7, b8, b9, b10⟩, -, g3', g4', g5', g6', g7', -⟩ := g
  have x := g3' k h1
  have hs := h2.1
  have hsv := h2.2
  rcases Nat.eq_or_lt_of_le (show c1 + 1 ≤ w by omega) with e | e
  · subst e; exact hno k h1 h2
  · obtain ⟨j, j1, j2⟩ := g7' (c1 + 1) (by omega) (by omega)
    have hj : ¬ un j + sz j ≤ sav (j / 8) := fun q => hno j j1 ⟨j2, q⟩
    have hjo : j / 8 = op := by
      rcases Nat.decEq (j / 8) op with q | q
      · exact absurd (g6'.2.1 j j1 q (by omega)) hj
      · exact q
    by_cases hko : k / 8 = op
    · have hjk : j < k := by
        rcases Nat.lt_trichotomy j k with q | q | q
        · exact q
        · subst q; omega
        · have := (slot_lt g4' g5'.1 h1 j1 (by omega) q).2; omega
      have := (slot_lt g4' g5'.1 j1 h1 (by omega) hjk).1
      rw [hjo] at hj
      rw [hko] at hsv
      omega
    · have := g6'.2.2 k j h1 j1 hko hjo (by omega) (by omega)
      omega
theorem RU_rec {n : Nat} {op : Nat} {fl : Nat} {last : Nat} {kl : Nat} {ko : Nat} {kf : Nat} {st : Nat → Nat} {cn : Nat → Nat} {un : Nat → Nat} {sz : Nat → Nat} {sr : Nat → Nat} {bk : Nat → Nat} {so : Nat → Nat} {sav : Nat → Nat} {pa : Nat → Nat} {ka : Nat → Nat} {hi : Nat → Int64} {lo : Nat → Int64} {N : Nat} {uOpen : Int32} {uFill : Int32} {uSaved : Int32} {uSerial : Int32} {cSerial : Int32} {cOpen : Int32} {cFill : Int32} {uSts : Nat → Int32} {uPlcs : Nat → Int32} {cPlcs : Nat → Int32} {uSers : Nat → Int32} {uBlks : Nat → Int32} {uUnts : Nat → Int32} {uStos : Nat → Int32} {uHis : Nat → Int64} {uLos : Nat → Int64} (g : (GI n op fl last kl ko kf st cn un sz sr bk so sav pa ka)) (hu : (RU 1 N n op fl last kl ko kf st cn un sz sr bk so sav pa ka hi lo uOpen uFill uSaved uSerial cSerial cOpen cFill uSts uPlcs cPlcs uSers uBlks uUnts uStos uHis uLos)) {c1 op1 fl1 : Nat} {pa1 : Nat → Nat} {uP mP P T : Nat → Int32} (h : RI n cn un sz sr bk so c1 op1 fl1 pa1 uP mP) (hk : kl ≤ c1) (hno : ∀ j, vld n cn j → ¬ hit un sz sr sav (c1 + 1) j) (hP : ∀ b, b < 16 → P b = uP b) (hT : ∀ s, s < n → T s = nI (if s = op1 then 1 else if lv sz pa1 s = 0 then 0 else 2)) : (RU 0 N n op1 fl1 c1 c1 op1 fl1 (fun s => if s = op1 then 1 else if lv sz pa1 s = 0 then 0 else 2) (fun s => tr sr s c1 (cn s)) un sz sr bk so (va_up sav op1 fl1) pa1 pa1 hi lo (nI op1) (nI fl1) (nI fl1) (nI c1) (nI c1) (nI op1) (nI fl1) T uP P uSers uBlks uUnts uStos uHis uLos) := by
  have hv := fun k => vld_tr g c1 k
  have g0 := g
  obtain ⟨u1, -, -, -, -, -, -, -, -, -, u11, u12, u13⟩ := hu
  obtain ⟨i1, i2, i3, i4⟩ := h
  refine ⟨u1, rfl, rfl, by rw [up_s], rfl, rfl, rfl, rfl, hT, fun b hb => ⟨(i3 b hb).1, by rw [hP b hb]; exact (i3 b hb).1⟩, u11, fun k hk2 => u12 k ((hv k).mp hk2).1, fun p hp w h1 h2 => ?_⟩
  constructor
  · intro q
    obtain ⟨k, k1, k2, k3, k4⟩ := (u13 p hp w (by omega) h2).mp q
    exact absurd (no_more g0 hk hno h1 k1 ⟨k3, k4 rfl⟩) id
  · rintro ⟨k, k1, k2, k3, k4⟩
    have := ((hv k).mp k1).2
    omega
theorem RM_rec {n : Nat} {op : Nat} {fl : Nat} {last : Nat} {kl : Nat} {ko : Nat} {kf : Nat} {st : Nat → Nat} {cn : Nat → Nat} {un : Nat → Nat} {sz : Nat → Nat} {sr : Nat → Nat} {bk : Nat → Nat} {so : Nat → Nat} {sav : Nat → Nat} {pa : Nat → Nat} {ka : Nat → Nat} {hi : Nat → Int64} {lo : Nat → Int64} {mSegs : Int32} {mOpen : Int32} {mLast : Int32} {mKLast : Int32} {mKOpen : Int32} {mKFill : Int32} {mSt : Nat → Int32} {mFil : Nat → Int32} {mSav : Nat → Int32} {mCnt : Nat → Int32} {mBlk : Nat → Int32} {mSto : Nat → Int32} {mUnt : Nat → Int32} {mSiz : Nat → Int32} {mSer : Nat → Int32} {mAt : Nat → Int32} {mKAt : Nat → Int32} {mHi : Nat → Int64} {mLo : Nat → Int64} (g : (GI n op fl last kl ko kf st cn un sz sr bk so sav pa ka)) (hm : (RM n op fl last kl ko kf st cn un sz sr bk so sav pa ka hi lo mSegs mOpen mLast mKLast mKOpen mKFill mSt mFil mSav mCnt mBlk mSto mUnt mSiz mSer mAt mKAt mHi mLo)) {c1 op1 fl1 : Nat} {pa1 : Nat → Nat} {uP mP P T F S C : Nat → Int32} (h : RI n cn un sz sr bk so c1 op1 fl1 pa1 uP mP) (hP : ∀ b, b < 16 → P b = mP b) (hT : ∀ s, s < n → T s = nI (if s = op1 then 1 else if lv sz pa1 s = 0 then 0 else 2) ∧ C s = nI (tr sr s c1 (cn s))) (hF : F op1 = nI fl1) (hS : S op1 = nI fl1) (hS2 : ∀ s, s ≠ op1 → S s = mSav s) : (RM n op1 fl1 c1 c1 op1 fl1 (fun s => if s = op1 then 1 else if lv sz pa1 s = 0 then 0 else 2) (fun s => tr sr s c1 (cn s)) un sz sr bk so (va_up sav op1 fl1) pa1 pa1 hi lo mSegs (nI op1) (nI c1) (nI c1) (nI op1) (nI fl1) T F S C mBlk mSto mUnt mSiz mSer mP P mHi mLo) := by
  have hv := fun k => vld_tr g c1 k
  obtain ⟨m1, -, -, -, -, -, -, m8, m9, -⟩ := hm
  obtain ⟨i1, i2, i3, i4⟩ := h
  refine ⟨m1, rfl, rfl, rfl, rfl, rfl, hF, fun s hs => ⟨(hT s hs).1, ?_, (hT s hs).2⟩, fun k hk2 => m9 k ((hv k).mp hk2).1, fun b hb => ⟨(i3 b hb).2.1, by rw [hP b hb]; exact (i3 b hb).2.1⟩⟩
  by_cases e : s = op1
  · subst e; rw [up_s]; exact hS
  · rw [up_n _ _ e, hS2 s e]; exact (m8 s hs).2.1
set_option maxHeartbeats 2000000 in
theorem st_recover {lb : Nat} {n : Nat} {N : Nat} {uOpen : Int32} {uFill : Int32} {uSaved : Int32} {uSerial : Int32} {uDown : Int32} {uArmed : Int32} {uWritten : Int32} {uSize : Int32} {uBytes : Nat → Int32} {uForm : Nat → Int32} {uSers : Nat → Int32} {uBlks : Nat → Int32} {uUnts : Nat → Int32} {uStos : Nat → Int32} {uHis : Nat → Int64} {uLos : Nat → Int64} {cNumber : Int32} {cSerial : Int32} {cOpen : Int32} {cFill : Int32} {cPlcs : Nat → Int32} {uSts : Nat → Int32} {uPlcs : Nat → Int32} {mSegs : Int32} {mOpen : Int32} {mLast : Int32} {mKLast : Int32} {mKOpen : Int32} {mKFill : Int32} {mNumber : Int32} {mDown : Int32} {mArmed : Int32} {mLeft : Int32} {mWritten : Int32} {mFSize : Int32} {mSt : Nat → Int32} {mFil : Nat → Int32} {mSav : Nat → Int32} {mCnt : Nat → Int32} {mBlk : Nat → Int32} {mSto : Nat → Int32} {mUnt : Nat → Int32} {mSiz : Nat → Int32} {mSer : Nat → Int32} {mHi : Nat → Int64} {mLo : Nat → Int64} {mAt : Nat → Int32} {mKAt : Nat → Int32} {mByt : Nat → Int32} {mFrm : Nat → Int32} (h : (ST lb n N uOpen uFill uSaved uSerial uDown uArmed uWritten uBytes uSers uBlks uUnts uStos uHis uLos cNumber cSerial cOpen cFill cPlcs uSts uPlcs mSegs mOpen mLast mKLast mKOpen mKFill mNumber mDown mArmed mLeft mWritten mSt mFil mSav mCnt mBlk mSto mUnt mSiz mSer mHi mLo mAt mKAt mByt)) : ∃ (r : Int32) (uOpen' : Int32) (uFill' : Int32) (uSaved' : Int32) (uSerial' : Int32) (uDown' : Int32) (uArmed' : Int32) (uWritten' : Int32) (uSers' : Nat → Int32) (cNumber' : Int32) (cSerial' : Int32) (cOpen' : Int32) (cFill' : Int32) (cPlcs' : Nat → Int32) (uSts' : Nat → Int32) (uPlcs' : Nat → Int32) (mOpen' : Int32) (mLast' : Int32) (mKLast' : Int32) (mKOpen' : Int32) (mKFill' : Int32) (mNumber' : Int32) (mDown' : Int32) (mArmed' : Int32) (mLeft' : Int32) (mWritten' : Int32) (mSt' : Nat → Int32) (mFil' : Nat → Int32) (mSav' : Nat → Int32) (mCnt' : Nat → Int32) (mAt' : Nat → Int32) (mKAt' : Nat → Int32), U_recover n N uOpen uFill uSaved uSerial uDown uArmed uWritten uSers uBlks uUnts uStos cNumber cSerial cOpen cFill cPlcs uSts uPlcs = some (r, uOpen', uFill', uSaved', uSerial', uDown', uArmed', uWritten', uSers', cNumber', cSerial', cOpen', cFill', cPlcs', uSts', uPlcs') ∧ M_recover mSegs mOpen mLast mKLast mKOpen mKFill mNumber mDown mArmed mLeft mWritten mSt mFil mSav mCnt mBlk mSto mUnt mSiz mSer mAt mKAt = some (r, mOpen', mLast', mKLast', mKOpen', mKFill', mNumber', mDown', mArmed', mLeft', mWritten', mSt', mFil', mSav', mCnt', mAt', mKAt') ∧ (ST (lb + 16) n N (uOpen') (uFill') (uSaved') (uSerial') (uDown') (uArmed') (uWritten') uBytes (uSers') uBlks uUnts uStos uHis uLos (cNumber') (cSerial') (cOpen') (cFill') (cPlcs') (uSts') (uPlcs') mSegs (mOpen') (mLast') (mKLast') (mKOpen') (mKFill') (mNumber') (mDown') (mArmed') (mLeft') (mWritten') (mSt') (mFil') (mSav') (mCnt') mBlk mSto mUnt mSiz mSer mHi mLo (mAt') (mKAt') mByt) := by
  obtain ⟨dn, op, fl, last, kl, ko, kf, st, cn, un, sz, sr, bk, so, sav, pa, ka, hi, lo, h1, rfl, rfl, rfl, rfl, h6, g, hu, hm, hD⟩ := h
  unfold U_recover M_recover
  by_cases e : dn = 0
  · subst e
    rw [if_pos nz0, if_pos nz0]
    exact ⟨-1, uOpen, uFill, uSaved, uSerial, nI 0, uArmed, uWritten, uSers, cNumber, cSerial, cOpen, cFill, cPlcs, uSts, uPlcs, mOpen, mLast, mKLast, mKOpen, mKFill, cNumber, nI 0, mArmed, mLeft, mWritten, mSt, mFil, mSav, mCnt, mAt, mKAt, rfl, rfl, 0, op, fl, last, kl, ko, kf, st, cn, un, sz, sr, bk, so, sav, pa, ka, hi, lo, by omega, rfl, rfl, rfl, rfl, by omega, g, hu, hm, hD⟩
  · have hd := dn_0 h1 e
    obtain rfl : dn = 1 := by omega
    rw [if_neg hd, if_neg hd]
    have g0 := g
    have hu0 := hu
    have hm0 := hm
    obtain ⟨⟨b1, b2, b3, b4, b5, b6, b7, b8, b9, b10⟩, -, g3', g4', g5', -, g7', -, g9', g10'⟩ := g0
    obtain ⟨u1, -, -, -, -, rfl, rfl, rfl, -, u10, u11, u12, u13⟩ := hu0
    obtain ⟨m1, -, -, rfl, rfl, rfl, m7, m8, m9, m10⟩ := hm0
    subst m1
    have hI : RI n cn un sz sr bk so kl ko kf ka (va_cpy cPlcs uPlcs (0 : Int32).toNatClampNeg (0 : Int32).toNatClampNeg (16 : Int32).toNatClampNeg) (cpB mKAt mAt 0 0 16) := by
      refine ⟨b7, b8, fun b hb => ⟨by rw [cpy_16 _ _ hb]; exact (u10 b hb).2, by rw [cpB_16 _ _ hb]; exact (m10 b hb).2, fun q => ?_⟩, g10'⟩
      obtain ⟨v1, v2, v3, v4, v5⟩ := g9' b hb q
      exact ⟨v1, v2, v3, v5⟩
    have hq := new_le g5'.1 g7' (Nat.le_refl last)
    have hz : ∃ z, M_find (nI n) mSav mCnt mUnt mSiz mSer (nI (kl + 1)) = some z := by
      rcases find_ok g hu hm (w := kl + 1) (by omega) (by omega) with ⟨_, _, _, _, w⟩ | ⟨_, _, w⟩
      · exact ⟨_, w⟩
      · exact ⟨_, w⟩
    obtain ⟨z, hz⟩ := hz
    obtain ⟨c1, op1, fl1, pa1, uP1, mP1, r1, r2, r3, r4, r5, r6⟩ := roll_L g hu hm (last - kl) kl 300 300 ko kf ka _ _ z (by omega) (Nat.le_refl _) (by omega) (by omega) hI hz
    rw [Nat.sub_self] at r5 r6
    have hop : op1 < n := r3.1
    have L : LV n N cn un sz bk pa1 uBlks uUnts uP1 mSiz mP1 := by
      refine ⟨b1, b2, u1, g5'.1, fun k hk => ?_, fun k j hk hj e q => (slot_lt g4' g5'.1 hk hj e q).1, fun p hp => (u11 p hp).1, fun b hb => ⟨(r3.2.2.1 b hb).1, (r3.2.2.1 b hb).2.1, fun q => ⟨((r3.2.2.1 b hb).2.2 q).1, ((r3.2.2.1 b hb).2.2 q).2.1⟩⟩⟩
      have x := g3' k hk
      exact ⟨x.1, x.2.1, x.2.2.1, x.2.2.2.1, (u12 k hk).1, (u12 k hk).2.1, (m9 k hk).2.2.2.1⟩
    obtain ⟨T1, s1, s2, -⟩ := sortU_L L n 300 0 uSts (by omega) (by omega)
    obtain ⟨T2, C2, ⟨xx, s3⟩, s4, -⟩ := sortM_L (c1 := c1) (op1 := op1) (sr := sr) (mSer := mSer) L (by omega) hop (fun k hk => ⟨(m9 k hk).2.2.2.2.1, by have := (g3' k hk).2.2.2.2.2.1; omega⟩) n 300 0 mSt mCnt (by omega) (by omega) (fun s _ hs => (m8 s hs).2.2)
    obtain ⟨w, l, S', k1, k2, k3, k4, k5⟩ := chk_un (op := op1) (fl := fl1) (last := c1) (by omega) r3.2.1 (F := upd mFil op1 (nI fl1)) (S := upd mSav op1 (nI fl1)) (upd_s _ _ _) (upd_s _ _ _) uWritten mLeft cNumber (nI kl) (nI ko) (nI kf) (nI kl) (nI ko) (nI kf) 0 cPlcs uP1 mP1 mKAt
    have hT1 : ∀ s, s < n → upd T1 op1 (1 : Int32) s = nI (if s = op1 then 1 else if lv sz pa1 s = 0 then 0 else 2) := fun s hs => by
      by_cases e : s = op1
      · subst e; rw [upd_s, if_pos rfl]; rfl
      · rw [upd_n _ _ e, if_neg e]; exact s2 s (by omega) hs
    have hst : (ST (lb + 16) n N (nI op1) (nI fl1) (nI fl1) (nI c1) ((0 : Int32)) ((-1 : Int32)) w uBytes uSers uBlks uUnts uStos uHis uLos (cNumber + 1) (nI c1) (nI op1) (nI fl1) (va_cpy uP1 cPlcs (0 : Int32).toNatClampNeg (0 : Int32).toNatClampNeg (16 : Int32).toNatClampNeg) (upd T1 op1 (1 : Int32)) uP1 (nI n) (nI op1) (nI c1) (nI c1) (nI op1) (nI fl1) (cNumber + 1) ((0 : Int32)) ((0 : Int32)) l w T2 (upd mFil op1 (nI fl1)) (S') C2 mBlk mSto mUnt mSiz mSer mHi mLo mP1 (cpB mP1 mKAt 0 0 16) uBytes) :=
      ⟨0, op1, fl1, c1, c1, op1, fl1, _, _, un, sz, sr, bk, so, va_up sav op1 fl1, pa1, pa1, hi, lo, by omega, rfl, rfl, rfl, rfl, by omega, GI_rec g r3 r2, RU_rec g hu r3 r1 r4 (fun b hb => cpy_16 _ _ hb) hT1, RM_rec g hm r3 (fun b hb => cpB_16 _ _ hb) (fun s hs => s4 s (by omega) hs) (upd_s _ _ _) k2 (fun s hs => by rw [k3 s hs, upd_n _ _ hs]), k1⟩
    refine ⟨nI (c1 - kl), nI op1, nI fl1, nI fl1, nI c1, (0 : Int32), (-1 : Int32), w, uSers, cNumber + 1, nI c1, nI op1, nI fl1, _, _, uP1, nI op1, nI c1, nI c1, nI op1, nI fl1, cNumber + 1, (0 : Int32), (0 : Int32), l, w, T2, upd mFil op1 (nI fl1), S', C2, mP1, _, ?_, ?_, hst⟩
    · unfold U_returnToCheckpoint
      rw [Option.bind_some]
      unfold U_rollForward
      erw [r5]
      rw [Option.bind_some]
      dsimp only
      unfold U_sortSegments
      erw [s1]
      rw [q_ck hop (by omega), Option.bind_some, nI_clamp (by omega), k4, Option.bind_some]
      dsimp only
      rw [if_neg (show ¬ (1 : Int32) = 0 by decide)]
    · erw [back_L mKAt _ 16 300 0 mAt (by omega) (by omega)]
      rw [nI_1, hz, Option.bind_some]
      erw [r6, s3]
      rw [q_ck (by omega) (by omega), q_ck (by omega) (by omega), nI_clamp (by omega)]
      rw [← hD.1, k5, Option.bind_some]
      dsimp only
      rw [if_neg (show ¬ (1 : Int32) = 0 by decide)]
