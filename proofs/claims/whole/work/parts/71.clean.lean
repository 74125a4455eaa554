/-! the cleaner -/
theorem fo_ge (sz bk pa : Nat → Nat) : ∀ d k r o, o ≤ fo sz bk pa d k r o := by
  intro d
  induction d with
  | zero => intro k r o; exact Nat.le_refl _
  | succ d ih =>
    intro k r o
    rw [fo]
    by_cases h1 : pa (bk k) = k + 1
    · rw [if_pos h1]
      by_cases h2 : sz k ≤ r
      · rw [if_pos h2]; exact ih _ _ _
      · rw [if_neg h2]; exact Nat.le_trans (Nat.le_succ o) (ih _ _ _)
    · rw [if_neg h1]; exact ih _ _ _
set_option maxHeartbeats 2000000 in
theorem cl_L {n N s lm kl ko kf : Nat} {ka : Nat → Nat} {cSerial cOpen cFill mSegs mKLast mKOpen mKFill cNumber mA : Int32} {cPlcs mKAt : Nat → Int32} (hs : s < n) (hlm : lm < 2 ^ 30) : ∀ (d u c q fU fM : Nat) (op : Nat) (fl : Nat) (last : Nat) (st : Nat → Nat) (cn : Nat → Nat) (un : Nat → Nat) (sz : Nat → Nat) (sr : Nat → Nat) (bk : Nat → Nat) (so : Nat → Nat) (sav : Nat → Nat) (pa : Nat → Nat) (hi : Nat → Int64) (lo : Nat → Int64) (uOpen : Int32) (uFill : Int32) (uSaved : Int32) (uSerial : Int32) (uSts : Nat → Int32) (uPlcs : Nat → Int32) (uSers : Nat → Int32) (uBlks : Nat → Int32) (uUnts : Nat → Int32) (uStos : Nat → Int32) (uHis : Nat → Int64) (uLos : Nat → Int64) (mOpen : Int32) (mLast : Int32) (mSt : Nat → Int32) (mFil : Nat → Int32) (mSav : Nat → Int32) (mCnt : Nat → Int32) (mBlk : Nat → Int32) (mSto : Nat → Int32) (mUnt : Nat → Int32) (mSiz : Nat → Int32) (mSer : Nat → Int32) (mAt : Nat → Int32) (mHi : Nat → Int64) (mLo : Nat → Int64) (uA uW mL mW : Int32), u + d = 16 → d < fU → cn s - c < fM → q ≤ u → (GI n op fl last kl ko kf st cn un sz sr bk so sav pa ka) → (RU 0 N n op fl last kl ko kf st cn un sz sr bk so sav pa ka hi lo uOpen uFill uSaved uSerial cSerial cOpen cFill uSts uPlcs cPlcs uSers uBlks uUnts uStos uHis uLos) → (RM n op fl last kl ko kf st cn un sz sr bk so sav pa ka hi lo mSegs mOpen mLast mKLast mKOpen mKFill mSt mFil mSav mCnt mBlk mSto mUnt mSiz mSer mAt mKAt mHi mLo) → Dk uA uW mA mL mW → st s = 2 → nx cn un s c u → (∀ b, b < 16 → pa b ≠ 0 → (pa b - 1) / 8 = s → c ≤ (pa b - 1) % 8) → fo sz bk pa (cn s - c) (8 * s + c) (16 - fl) 0 ≤ fc st n → last + (cn s - c) ≤ lm →
    (∃ (op' : Nat) (fl' : Nat) (last' : Nat) (st' : Nat → Nat) (cn' : Nat → Nat) (un' : Nat → Nat) (sz' : Nat → Nat) (sr' : Nat → Nat) (bk' : Nat → Nat) (so' : Nat → Nat) (sav' : Nat → Nat) (pa' : Nat → Nat) (hi' : Nat → Int64) (lo' : Nat → Int64) (uOpen' : Int32) (uFill' : Int32) (uSaved' : Int32) (uSerial' : Int32) (uSts' : Nat → Int32) (uPlcs' : Nat → Int32) (uSers' : Nat → Int32) (uBlks' : Nat → Int32) (uUnts' : Nat → Int32) (uStos' : Nat → Int32) (uHis' : Nat → Int64) (uLos' : Nat → Int64) (mOpen' : Int32) (mLast' : Int32) (mSt' : Nat → Int32) (mFil' : Nat → Int32) (mSav' : Nat → Int32) (mCnt' : Nat → Int32) (mBlk' : Nat → Int32) (mSto' : Nat → Int32) (mUnt' : Nat → Int32) (mSiz' : Nat → Int32) (mSer' : Nat → Int32) (mAt' : Nat → Int32) (mHi' : Nat → Int64) (mLo' : Nat → Int64) (a w l : Int32) (q' : Nat), (∀ K, U_appendLiveRecords_L10 n N (nI (16 * s)) K fU uOpen uFill uSaved uSerial uA uW uSers uBlks uUnts uStos uHis uLos uSts uPlcs (nI q) (nI (16 * s + u)) = K uOpen' uFill' uSaved' uSerial' a w uSers' uBlks' uUnts' uStos' uHis' uLos' uSts' uPlcs' (nI q') (nI (16 * s + 16))) ∧
      (∃ x, ∀ K, M_clean_L50 mSegs mKLast mKOpen mKFill cNumber mA mKAt (nI s) K fM mOpen mLast (nI 0) mL mW mSt mFil mSav mCnt mBlk mSto mUnt mSiz mSer mHi mLo mAt (nI q) (nI (8 * s + c)) = K mOpen' mLast' (nI 0) l w mSt' mFil' mSav' mCnt' mBlk' mSto' mUnt' mSiz' mSer' mHi' mLo' mAt' (nI q') x) ∧
      Dk a w mA l w ∧ (GI n op' fl' last' kl ko kf st' cn' un' sz' sr' bk' so' sav' pa' ka) ∧ (RU 0 N n op' fl' last' kl ko kf st' cn' un' sz' sr' bk' so' sav' pa' ka hi' lo' uOpen' uFill' uSaved' uSerial' cSerial cOpen cFill uSts' uPlcs' cPlcs uSers' uBlks' uUnts' uStos' uHis' uLos') ∧ (RM n op' fl' last' kl ko kf st' cn' un' sz' sr' bk' so' sav' pa' ka hi' lo' mSegs mOpen' mLast' mKLast mKOpen mKFill mSt' mFil' mSav' mCnt' mBlk' mSto' mUnt' mSiz' mSer' mAt' mKAt mHi' mLo') ∧ last' ≤ lm ∧ st' s = 2 ∧ q' ≤ 16 ∧ ∀ b, b < 16 → pa' b ≠ 0 → (pa' b - 1) / 8 ≠ s) ∨
    (∃ (op' : Nat) (fl' : Nat) (last' : Nat) (st' : Nat → Nat) (cn' : Nat → Nat) (un' : Nat → Nat) (sz' : Nat → Nat) (sr' : Nat → Nat) (bk' : Nat → Nat) (so' : Nat → Nat) (sav' : Nat → Nat) (pa' : Nat → Nat) (hi' : Nat → Int64) (lo' : Nat → Int64) (uOpen' : Int32) (uFill' : Int32) (uSaved' : Int32) (uSerial' : Int32) (uSts' : Nat → Int32) (uPlcs' : Nat → Int32) (uSers' : Nat → Int32) (uBlks' : Nat → Int32) (uUnts' : Nat → Int32) (uStos' : Nat → Int32) (uHis' : Nat → Int64) (uLos' : Nat → Int64) (mOpen' : Int32) (mLast' : Int32) (mSt' : Nat → Int32) (mFil' : Nat → Int32) (mSav' : Nat → Int32) (mCnt' : Nat → Int32) (mBlk' : Nat → Int32) (mSto' : Nat → Int32) (mUnt' : Nat → Int32) (mSiz' : Nat → Int32) (mSer' : Nat → Int32) (mAt' : Nat → Int32) (mHi' : Nat → Int64) (mLo' : Nat → Int64) (a w l : Int32), (∀ K, U_appendLiveRecords_L10 n N (nI (16 * s)) K fU uOpen uFill uSaved uSerial uA uW uSers uBlks uUnts uStos uHis uLos uSts uPlcs (nI q) (nI (16 * s + u)) = some (-4, uOpen', uFill', uSaved', uSerial', a, w, uSers', uBlks', uUnts', uStos', uHis', uLos', uSts', uPlcs')) ∧
      (∀ K, M_clean_L50 mSegs mKLast mKOpen mKFill cNumber mA mKAt (nI s) K fM mOpen mLast (nI 0) mL mW mSt mFil mSav mCnt mBlk mSto mUnt mSiz mSer mHi mLo mAt (nI q) (nI (8 * s + c)) = some (-4, mOpen', mLast', mKLast, mKOpen, mKFill, cNumber, 1, l, w, mSt', mFil', mSav', mCnt', mBlk', mSto', mUnt', mSiz', mSer', mHi', mLo', mAt', mKAt)) ∧
      Dk a w mA l w ∧ (GI n op' fl' last' kl ko kf st' cn' un' sz' sr' bk' so' sav' pa' ka) ∧ (RU 0 N n op' fl' last' kl ko kf st' cn' un' sz' sr' bk' so' sav' pa' ka hi' lo' uOpen' uFill' uSaved' uSerial' cSerial cOpen cFill uSts' uPlcs' cPlcs uSers' uBlks' uUnts' uStos' uHis' uLos') ∧ (RM n op' fl' last' kl ko kf st' cn' un' sz' sr' bk' so' sav' pa' ka hi' lo' mSegs mOpen' mLast' mKLast mKOpen mKFill mSt' mFil' mSav' mCnt' mBlk' mSto' mUnt' mSiz' mSer' mAt' mKAt mHi' mLo') ∧ last' ≤ lm) := by
  intro d
  induction d with
  | zero =>
    intro u c q fU fM op fl last st cn un sz sr bk so sav pa hi lo uOpen uFill uSaved uSerial uSts uPlcs uSers uBlks uUnts uStos uHis uLos mOpen mLast mSt mFil mSav mCnt mBlk mSto mUnt mSiz mSer mAt mHi mLo uA uW mL mW hu h1 h2 hq g hr hm hD h3 hx hlv hfo hla
    obtain ⟨f, rfl⟩ : ∃ f, fU = f + 1 := ⟨fU - 1, by omega⟩
    obtain ⟨e, rfl⟩ : ∃ f, fM = f + 1 := ⟨fM - 1, by omega⟩
    obtain rfl : u = 16 := by omega
    have L := LV_of g hr hm
    have h8 := L.2.2.2.1 s hs
    have hc : c = cn s := by
      rcases Nat.lt_or_ge c (cn s) with w | w
      · have y := hx.2.2 c (Nat.le_refl _) w
        have := L.2.2.2.2.1 _ (vld_si hs h8 w)
        omega
      · have := hx.1; omega
    have hn8 := L.2.1
    have hw := hD.1
    subst hw
    refine Or.inl ⟨op, fl, last, st, cn, un, sz, sr, bk, so, sav, pa, hi, lo, uOpen, uFill, uSaved, uSerial, uSts, uPlcs, uSers, uBlks, uUnts, uStos, uHis, uLos, mOpen, mLast, mSt, mFil, mSav, mCnt, mBlk, mSto, mUnt, mSiz, mSer, mAt, mHi, mLo, uA, uW, mL, q, fun K => ?_, ⟨nI (8 * s + c), fun K => ?_⟩, hD, g, hr, hm, by omega, h3, by omega, fun b hb hp e2 => ?_⟩
    · rw [U_appendLiveRecords_L10, show (16 : Int32) = nI 16 from rfl, nI_add, if_pos (q_le (by omega) (by omega) (Nat.le_refl _))]
    · obtain ⟨-, -, -, -, -, -, -, m8, -⟩ := hm
      rw [M_clean_L50, q_ck (by omega) (by omega), nI_clamp (by omega), (m8 s hs).2.2, show (8 : Int32) * nI s = nI (8 * s) from pk_mul 8 s, nI_add, if_pos (q_le (by omega) (by omega) (by omega))]
    · have y := hlv b hb hp e2
      have := (L.2.2.2.2.2.2.2 b hb).2.2 hp
      obtain ⟨v1, -⟩ := this
      unfold vld at v1
      rw [e2] at v1
      omega
  | succ d ih =>
    intro u c q fU fM op fl last st cn un sz sr bk so sav pa hi lo uOpen uFill uSaved uSerial uSts uPlcs uSers uBlks uUnts uStos uHis uLos mOpen mLast mSt mFil mSav mCnt mBlk mSto mUnt mSiz mSer mAt mHi mLo uA uW mL mW hu h1 h2 hq g hr hm hD h3 hx hlv hfo hla
    obtain ⟨f, rfl⟩ : ∃ f, fU = f + 1 := ⟨fU - 1, by omega⟩
    have L := LV_of g hr hm
    have h8 := L.2.2.2.1 s hs
    have hn8 := L.2.1
    have hN := L.2.2.1
    rcases unit_step L hs (by omega) hx with ⟨c1, c2, c3, c4⟩ | ⟨c1, c2⟩
    · obtain ⟨e, rfl⟩ : ∃ f, fM = f + 1 := ⟨fM - 1, by omega⟩
      have v := vld_si hs h8 c1
      have g0 := g
      have hr0 := hr
      have hm0 := hm
      obtain ⟨⟨b1, b2, b3, b4, b5, b6, b7, b8, b9, b10⟩, -, g3', -, g5', -, -, g8', -⟩ := g0
      obtain ⟨-, -, -, -, -, -, -, -, -, -, -, u12, -⟩ := hr0
      obtain ⟨-, -, -, -, -, -, -, m8, m9, m10⟩ := hm0
      have x := g3' _ v
      obtain ⟨y1, y2, y3, y4, y5, y6, y7⟩ := m9 _ v
      obtain ⟨z1, z2, z3, z4, z5⟩ := u12 _ v
      rw [c2] at z1 z2 z3 z4 z5
      have hp31 : pa (bk (8 * s + c)) < 2 ^ 31 := by
        rcases Nat.eq_zero_or_pos (pa (bk (8 * s + c))) with w | w
        · omega
        · have := (g8' _ x.2.2.2.1 (by omega)).1; unfold vld at this; omega
      have hlat := latM b2 g5'.1 v x.2.2.2.1 x.2.2.2.2.1 y1 y2 (m10 _ x.2.2.2.1).1 (fun w => by have := (g8' _ x.2.2.2.1 (by omega)).2.2.1; rw [w] at this; exact this) hp31
      rw [show cn s - c = (cn s - (c + 1)) + 1 by omega, fo] at hfo
      have hM0 : ∀ K, M_clean_L50 mSegs mKLast mKOpen mKFill cNumber mA mKAt (nI s) K (e + 1) mOpen mLast (nI 0) mL mW mSt mFil mSav mCnt mBlk mSto mUnt mSiz mSer mHi mLo mAt (nI q) (nI (8 * s + c)) = _ := fun K => by
        rw [M_clean_L50, q_ck (by omega) (by omega), nI_clamp (by omega), (m8 s hs).2.2, show (8 : Int32) * nI s = nI (8 * s) from pk_mul 8 s, nI_add, if_neg (q_nle (by omega) (by omega) (by omega)), nI_1, nI_1, nI_clamp (by omega), y1, y4, y6, y7]
      have hU0 : ∀ K, U_appendLiveRecords_L10 n N (nI (16 * s)) K (f + 1) uOpen uFill uSaved uSerial uA uW uSers uBlks uUnts uStos uHis uLos uSts uPlcs (nI q) (nI (16 * s + u)) = _ := fun K => by
        rw [U_appendLiveRecords_L10, show (16 : Int32) = nI 16 from rfl, nI_add, if_neg (q_nle (by omega) (by omega) (by omega)), nI_1, nI_1, nI_clamp (by omega), z1, z2, z4, z5]
      rcases c4 with ⟨q1, q2⟩ | ⟨q1, q2⟩
      · -- live: appended
        rw [if_pos q1] at hfo
        have eM : M_isLatest mBlk mSto mAt (nI (8 * s + c)) = some 1 := by
          rcases hlat with ⟨-, w⟩ | ⟨w, -⟩
          · exact w
          · exact absurd q1 w
        have hroom : fl + sz (8 * s + c) ≤ 16 ∨ 1 ≤ fc st n := by
          by_cases w : sz (8 * s + c) ≤ 16 - fl
          · left; omega
          · right
            rw [if_neg w] at hfo
            exact Nat.le_trans (fo_ge sz bk pa _ _ _ _) hfo
        rcases append_ok (mD := nI 0) g hr hm hD (sz (8 * s + c)) (bk (8 * s + c)) 1 (hi (8 * s + c)) (lo (8 * s + c)) x.2.1 x.2.2.1 x.2.2.2.1 (by omega) (by omega) hroom with ⟨op', fl', last', st', cn', un', sz', sr', bk', so', sav', pa', hi', lo', uOpen', uFill', uSaved', uSerial', uSts', uPlcs', uSers', uBlks', uUnts', uStos', uHis', uLos', mOpen', mLast', mSt', mFil', mSav', mCnt', mBlk', mSto', mUnt', mSiz', mSer', mAt', mHi', mLo', a, w, l, t1, t2, t3, -, t4, t5, t6, t7, f1, f2, f3, f4, f5⟩ | ⟨v', a, w, l, S, t1, t2, t3, t4, t5, t6⟩
        · obtain ⟨k1, k2, k3, k4⟩ := f3 s hs h3
          have hxn : nx cn' un' s (c + 1) (u + 1) := by
            refine ⟨by rw [k2]; exact c3.1, fun i hi => ?_, fun i h5 h6 => ?_⟩
            · rw [(k4 (8 * s + i) (by have := c3.1; omega)).1]; exact c3.2.1 i hi
            · rw [k2] at h6
              rw [(k4 (8 * s + i) (by omega)).1]; exact c3.2.2 i h5 h6
          have hlv' : ∀ b, b < 16 → pa' b ≠ 0 → (pa' b - 1) / 8 = s → c + 1 ≤ (pa' b - 1) % 8 := fun b hb hp he => by
            by_cases eb : b = bk (8 * s + c)
            · subst eb
              rcases f5 with w | w
              · exact absurd w hp
              · exact absurd (w.symm.trans he) k3
            · rw [f4 b eb] at hp he ⊢
              have w1 := hlv b hb hp he
              have w2 := (g8' b hb hp).2.1
              rcases Nat.eq_or_lt_of_le w1 with w3 | w3
              · exfalso
                have : pa b - 1 = 8 * s + c := by omega
                rw [this] at w2
                exact eb w2.symm
              · omega
          have hfo' : fo sz' bk' pa' (cn' s - (c + 1)) (8 * s + (c + 1)) (16 - fl') 0 ≤ fc st' n := by
            have cong : ∀ r o, fo sz' bk' pa' (cn s - (c + 1)) (8 * s + (c + 1)) r o = fo sz bk pa (cn s - (c + 1)) (8 * s + (c + 1)) r o := fun r o => fo_c _ _ _ _ (fun j j1 j2 => by
              have hj := k4 j (by omega)
              refine ⟨hj.2.1, hj.2.2.1, ?_⟩
              by_cases eb : bk j = bk (8 * s + c)
              · rw [eb]
                constructor
                · intro w1
                  exfalso
                  rcases f5 with w2 | w2
                  · omega
                  · have : op' = s := by omega
                    exact k3 this
                · intro w1; rw [q1] at w1; omega
              · rw [f4 _ eb])
            rw [k2, cong]
            by_cases w : sz (8 * s + c) ≤ 16 - fl
            · rw [if_pos w] at hfo
              obtain ⟨w1, w2⟩ := f1 (by omega)
              rw [w1, w2, show 16 - (fl + sz (8 * s + c)) = 16 - fl - sz (8 * s + c) by omega]
              exact hfo
            · rw [if_neg w, fo_o] at hfo
              obtain ⟨w1, w2⟩ := f2 (by omega)
              rw [w1]
              have : fo sz bk pa (cn s - (c + 1)) (8 * s + c + 1) (16 - sz (8 * s + c)) 0 = fo sz bk pa (cn s - (c + 1)) (8 * s + (c + 1)) (16 - sz (8 * s + c)) 0 := rfl
              omega
          have hU : ∀ K, U_appendLiveRecords_L10 n N (nI (16 * s)) K (f + 1) uOpen uFill uSaved uSerial uA uW uSers uBlks uUnts uStos uHis uLos uSts uPlcs (nI q) (nI (16 * s + u)) = U_appendLiveRecords_L10 n N (nI (16 * s)) K f uOpen' uFill' uSaved' uSerial' a w uSers' uBlks' uUnts' uStos' uHis' uLos' uSts' uPlcs' (nI (q + 1)) (nI (16 * s + (u + 1))) := fun K => by
            rw [hU0, q2, Option.bind_some, if_neg (show ¬ (1 : Int32) = 0 by decide), q_ck (by omega) (by omega), q_ck (by omega) (by omega), q_ck (by omega) (by omega), q_ck (by omega) (by omega)]
            erw [t1]
            rw [Option.bind_some, if_neg (show ¬ (1 : Int32) = 0 by decide)]
            rfl
          have hM : ∀ K, M_clean_L50 mSegs mKLast mKOpen mKFill cNumber mA mKAt (nI s) K (e + 1) mOpen mLast (nI 0) mL mW mSt mFil mSav mCnt mBlk mSto mUnt mSiz mSer mHi mLo mAt (nI q) (nI (8 * s + c)) = M_clean_L50 mSegs mKLast mKOpen mKFill cNumber mA mKAt (nI s) K e mOpen' mLast' (nI 0) l w mSt' mFil' mSav' mCnt' mBlk' mSto' mUnt' mSiz' mSer' mHi' mLo' mAt' (nI (q + 1)) (nI (8 * s + (c + 1))) := fun K => by
            rw [hM0, eM, Option.bind_some, if_neg (show ¬ (1 : Int32) = 0 by decide), q_ck (by omega) (by omega), q_ck (by omega) (by omega), q_ck (by omega) (by omega), q_ck (by omega) (by omega)]
            erw [t2]
            rw [Option.bind_some, if_neg (show ¬ (1 : Int32) = 0 by decide)]
            rfl
          rcases ih (u + 1) (c + 1) (q + 1) f e op' fl' last' st' cn' un' sz' sr' bk' so' sav' pa' hi' lo' uOpen' uFill' uSaved' uSerial' uSts' uPlcs' uSers' uBlks' uUnts' uStos' uHis' uLos' mOpen' mLast' mSt' mFil' mSav' mCnt' mBlk' mSto' mUnt' mSiz' mSer' mAt' mHi' mLo' a w l w (by omega) (by omega) (by omega) (by omega) t4 t5 t6 t3 k1 hxn hlv' hfo' (by omega) with H | H
          · left
            obtain ⟨op', fl', last', st', cn', un', sz', sr', bk', so', sav', pa', hi', lo', uOpen', uFill', uSaved', uSerial', uSts', uPlcs', uSers', uBlks', uUnts', uStos', uHis', uLos', mOpen', mLast', mSt', mFil', mSav', mCnt', mBlk', mSto', mUnt', mSiz', mSer', mAt', mHi', mLo', a, w, l, q', r1, ⟨xx, r2⟩, r3⟩ := H
            exact ⟨op', fl', last', st', cn', un', sz', sr', bk', so', sav', pa', hi', lo', uOpen', uFill', uSaved', uSerial', uSts', uPlcs', uSers', uBlks', uUnts', uStos', uHis', uLos', mOpen', mLast', mSt', mFil', mSav', mCnt', mBlk', mSto', mUnt', mSiz', mSer', mAt', mHi', mLo', a, w, l, q', fun K => by rw [hU K]; exact r1 K, ⟨xx, fun K => by rw [hM K]; exact r2 K⟩, r3⟩
          · right
            obtain ⟨op', fl', last', st', cn', un', sz', sr', bk', so', sav', pa', hi', lo', uOpen', uFill', uSaved', uSerial', uSts', uPlcs', uSers', uBlks', uUnts', uStos', uHis', uLos', mOpen', mLast', mSt', mFil', mSav', mCnt', mBlk', mSto', mUnt', mSiz', mSer', mAt', mHi', mLo', a, w, l, r1, r2, r3⟩ := H
            exact ⟨op', fl', last', st', cn', un', sz', sr', bk', so', sav', pa', hi', lo', uOpen', uFill', uSaved', uSerial', uSts', uPlcs', uSers', uBlks', uUnts', uStos', uHis', uLos', mOpen', mLast', mSt', mFil', mSav', mCnt', mBlk', mSto', mUnt', mSiz', mSer', mAt', mHi', mLo', a, w, l, fun K => by rw [hU K]; exact r1 K, fun K => by rw [hM K]; exact r2 K, r3⟩
        · right
          refine ⟨op, fl, last, st, cn, un, sz, sr, bk, so, va_up sav op v', pa, hi, lo, uOpen, uFill, nI v', uSerial, uSts, uPlcs, uSers, uBlks, uUnts, uStos, uHis, uLos, mOpen, mLast, mSt, mFil, S, mCnt, mBlk, mSto, mUnt, mSiz, mSer, mAt, mHi, mLo, a, w, l, fun K => ?_, fun K => ?_, t3, t4, t5, t6, by omega⟩
          · rw [hU0, q2, Option.bind_some, if_neg (show ¬ (1 : Int32) = 0 by decide), q_ck (by omega) (by omega), q_ck (by omega) (by omega), q_ck (by omega) (by omega), q_ck (by omega) (by omega)]
            erw [t1]
            rw [Option.bind_some, if_pos rfl]
          · rw [hM0, eM, Option.bind_some, if_neg (show ¬ (1 : Int32) = 0 by decide), q_ck (by omega) (by omega), q_ck (by omega) (by omega), q_ck (by omega) (by omega), q_ck (by omega) (by omega)]
            erw [t2]
            rw [Option.bind_some, if_pos rfl]
      · -- not live: passed over
        rw [if_neg q1] at hfo
        have eM : M_isLatest mBlk mSto mAt (nI (8 * s + c)) = some 0 := by
          rcases hlat with ⟨w, -⟩ | ⟨-, w⟩
          · exact absurd w q1
          · exact w
        have hlv' : ∀ b, b < 16 → pa b ≠ 0 → (pa b - 1) / 8 = s → c + 1 ≤ (pa b - 1) % 8 := fun b hb hp he => by
          have w1 := hlv b hb hp he
          have w2 := (g8' b hb hp).2.1
          rcases Nat.eq_or_lt_of_le w1 with w3 | w3
          · exfalso
            have : pa b - 1 = 8 * s + c := by omega
            rw [this] at w2
            exact q1 (by rw [w2]; omega)
          · omega
        have hU : ∀ K, U_appendLiveRecords_L10 n N (nI (16 * s)) K (f + 1) uOpen uFill uSaved uSerial uA uW uSers uBlks uUnts uStos uHis uLos uSts uPlcs (nI q) (nI (16 * s + u)) = U_appendLiveRecords_L10 n N (nI (16 * s)) K f uOpen uFill uSaved uSerial uA uW uSers uBlks uUnts uStos uHis uLos uSts uPlcs (nI q) (nI (16 * s + (u + 1))) := fun K => by
          rw [hU0, q2, Option.bind_some, if_pos rfl]
          rfl
        have hM : ∀ K, M_clean_L50 mSegs mKLast mKOpen mKFill cNumber mA mKAt (nI s) K (e + 1) mOpen mLast (nI 0) mL mW mSt mFil mSav mCnt mBlk mSto mUnt mSiz mSer mHi mLo mAt (nI q) (nI (8 * s + c)) = M_clean_L50 mSegs mKLast mKOpen mKFill cNumber mA mKAt (nI s) K e mOpen mLast (nI 0) mL mW mSt mFil mSav mCnt mBlk mSto mUnt mSiz mSer mHi mLo mAt (nI q) (nI (8 * s + (c + 1))) := fun K => by
          rw [hM0, eM, Option.bind_some, if_pos rfl]
          rfl
        rcases ih (u + 1) (c + 1) q f e op fl last st cn un sz sr bk so sav pa hi lo uOpen uFill uSaved uSerial uSts uPlcs uSers uBlks uUnts uStos uHis uLos mOpen mLast mSt mFil mSav mCnt mBlk mSto mUnt mSiz mSer mAt mHi mLo uA uW mL mW (by omega) (by omega) (by omega) (by omega) g hr hm hD h3 c3 hlv' hfo (by omega) with H | H
        · left
          obtain ⟨op', fl', last', st', cn', un', sz', sr', bk', so', sav', pa', hi', lo', uOpen', uFill', uSaved', uSerial', uSts', uPlcs', uSers', uBlks', uUnts', uStos', uHis', uLos', mOpen', mLast', mSt', mFil', mSav', mCnt', mBlk', mSto', mUnt', mSiz', mSer', mAt', mHi', mLo', a, w, l, q', r1, ⟨xx, r2⟩, r3⟩ := H
          exact ⟨op', fl', last', st', cn', un', sz', sr', bk', so', sav', pa', hi', lo', uOpen', uFill', uSaved', uSerial', uSts', uPlcs', uSers', uBlks', uUnts', uStos', uHis', uLos', mOpen', mLast', mSt', mFil', mSav', mCnt', mBlk', mSto', mUnt', mSiz', mSer', mAt', mHi', mLo', a, w, l, q', fun K => by rw [hU K]; exact r1 K, ⟨xx, fun K => by rw [hM K]; exact r2 K⟩, r3⟩
        · right
          obtain ⟨op', fl', last', st', cn', un', sz', sr', bk', so', sav', pa', hi', lo', uOpen', uFill', uSaved', uSerial', uSts', uPlcs', uSers', uBlks', uUnts', uStos', uHis', uLos', mOpen', mLast', mSt', mFil', mSav', mCnt', mBlk', mSto', mUnt', mSiz', mSer', mAt', mHi', mLo', a, w, l, r1, r2, r3⟩ := H
          exact ⟨op', fl', last', st', cn', un', sz', sr', bk', so', sav', pa', hi', lo', uOpen', uFill', uSaved', uSerial', uSts', uPlcs', uSers', uBlks', uUnts', uStos', uHis', uLos', mOpen', mLast', mSt', mFil', mSav', mCnt', mBlk', mSto', mUnt', mSiz', mSer', mAt', mHi', mLo', a, w, l, fun K => by rw [hU K]; exact r1 K, fun K => by rw [hM K]; exact r2 K, r3⟩
    · have hU : ∀ K, U_appendLiveRecords_L10 n N (nI (16 * s)) K (f + 1) uOpen uFill uSaved uSerial uA uW uSers uBlks uUnts uStos uHis uLos uSts uPlcs (nI q) (nI (16 * s + u)) = U_appendLiveRecords_L10 n N (nI (16 * s)) K f uOpen uFill uSaved uSerial uA uW uSers uBlks uUnts uStos uHis uLos uSts uPlcs (nI q) (nI (16 * s + (u + 1))) := fun K => by
        rw [U_appendLiveRecords_L10, show (16 : Int32) = nI 16 from rfl, nI_add, if_neg (q_nle (by omega) (by omega) (by omega)), nI_1, c1, Option.bind_some, if_pos rfl]
        rfl
      rcases ih (u + 1) c q f fM op fl last st cn un sz sr bk so sav pa hi lo uOpen uFill uSaved uSerial uSts uPlcs uSers uBlks uUnts uStos uHis uLos mOpen mLast mSt mFil mSav mCnt mBlk mSto mUnt mSiz mSer mAt mHi mLo uA uW mL mW (by omega) (by omega) h2 (by omega) g hr hm hD h3 c2 hlv hfo hla with H | H
      · left
        obtain ⟨op', fl', last', st', cn', un', sz', sr', bk', so', sav', pa', hi', lo', uOpen', uFill', uSaved', uSerial', uSts', uPlcs', uSers', uBlks', uUnts', uStos', uHis', uLos', mOpen', mLast', mSt', mFil', mSav', mCnt', mBlk', mSto', mUnt', mSiz', mSer', mAt', mHi', mLo', a, w, l, q', r1, r2, r3⟩ := H
        exact ⟨op', fl', last', st', cn', un', sz', sr', bk', so', sav', pa', hi', lo', uOpen', uFill', uSaved', uSerial', uSts', uPlcs', uSers', uBlks', uUnts', uStos', uHis', uLos', mOpen', mLast', mSt', mFil', mSav', mCnt', mBlk', mSto', mUnt', mSiz', mSer', mAt', mHi', mLo', a, w, l, q', fun K => by rw [hU K]; exact r1 K, r2, r3⟩
      · right
        obtain ⟨op', fl', last', st', cn', un', sz', sr', bk', so', sav', pa', hi', lo', uOpen', uFill', uSaved', uSerial', uSts', uPlcs', uSers', uBlks', uUnts', uStos', uHis', uLos', mOpen', mLast', mSt', mFil', mSav', mCnt', mBlk', mSto', mUnt', mSiz', mSer', mAt', mHi', mLo', a, w, l, r1, r2, r3⟩ := H
        exact ⟨op', fl', last', st', cn', un', sz', sr', bk', so', sav', pa', hi', lo', uOpen', uFill', uSaved', uSerial', uSts', uPlcs', uSers', uBlks', uUnts', uStos', uHis', uLos', mOpen', mLast', mSt', mFil', mSav', mCnt', mBlk', mSto', mUnt', mSiz', mSer', mAt', mHi', mLo', a, w, l, fun K => by rw [hU K]; exact r1 K, r2, r3⟩
