theorem fill_ok (f : Nat → Int32) (x : Int32) : ∃ F, JA_fill 16 f x = some F ∧ ∀ b, b < 16 → F b = x := by
  unfold JA_fill
  suffices H : ∀ (d fuel i : Nat) (g : Nat → Int32), i + d = 16 → d < fuel → (∀ b, b < i → g b = x) → ∃ F, JA_fill_L5 16 x (nI 16) (fun fArr_k5 x2_k5 => some (fArr_k5)) fuel g (nI i) = some F ∧ ∀ b, b < 16 → F b = x from H 16 300 0 f (by omega) (by omega) (fun b hb => absurd hb (by omega))
  intro d
  induction d with
  | zero =>
    intro fuel i g hi hf hg
    obtain ⟨q, rfl⟩ : ∃ q, fuel = q + 1 := ⟨fuel - 1, by omega⟩
    obtain rfl : i = 16 := by omega
    exact ⟨g, by rw [JA_fill_L5, if_pos (by decide)], hg⟩
  | succ d ih =>
    intro fuel i g hi hf hg
    obtain ⟨q, rfl⟩ : ∃ q, fuel = q + 1 := ⟨fuel - 1, by omega⟩
    rw [JA_fill_L5, if_neg (q_nle (by omega) (by omega) (by omega)), q_ck (by omega) (by omega), nI_clamp (by omega), nI_1]
    refine ih q (i + 1) _ (by omega) (by omega) (fun b hb => ?_)
    by_cases e : b = i
    · subst e; rw [upd_s]
    · rw [upd_n _ _ e]; exact hg b (by omega)
theorem minit_ok : ∃ F G, (∀ K, ∃ y, M_init_L158 K 300 (fun _ => (0 : Int32)) (fun _ => (0 : Int32)) (0 : Int32) = K F G y) ∧ ∀ b, b < 16 → F b = -1 ∧ G b = -1 := by
  suffices H : ∀ (d fuel i : Nat) (f g : Nat → Int32), i + d = 16 → d < fuel → (∀ b, b < i → f b = -1 ∧ g b = -1) → ∃ F G, (∀ K, ∃ y, M_init_L158 K fuel f g (nI i) = K F G y) ∧ ∀ b, b < 16 → F b = -1 ∧ G b = -1 from H 16 300 0 _ _ (by omega) (by omega) (fun b hb => absurd hb (by omega))
  intro d
  induction d with
  | zero =>
    intro fuel i f g hi hf hg
    obtain ⟨q, rfl⟩ : ∃ q, fuel = q + 1 := ⟨fuel - 1, by omega⟩
    obtain rfl : i = 16 := by omega
    exact ⟨f, g, fun K => ⟨nI 16, by rw [M_init_L158, if_pos (by decide)]⟩, hg⟩
  | succ d ih =>
    intro fuel i f g hi hf hg
    obtain ⟨q, rfl⟩ : ∃ q, fuel = q + 1 := ⟨fuel - 1, by omega⟩
    obtain ⟨F, G, r1, r2⟩ := ih q (i + 1) (upd f i (-1)) (upd g i (-1)) (by omega) (by omega) (fun b hb => by
      by_cases e : b = i
      · subst e; rw [upd_s, upd_s]; exact ⟨rfl, rfl⟩
      · rw [upd_n _ _ e, upd_n _ _ e]; exact hg b (by omega))
    refine ⟨F, G, fun K => ?_, r2⟩
    obtain ⟨y, hy⟩ := r1 K
    exact ⟨y, by rw [← hy, M_init_L158, if_neg (show ¬ (16 : Int32) ≤ nI i from q_nle (a := 16) (by omega) (by omega) (by omega)), q_ck (by omega) (by omega), q_ck (by omega) (by omega), nI_clamp (by omega), nI_1]⟩
theorem lg_self (x : Int64) : lg_cmp x x = 0 := by
  unfold lg_cmp
  simp
set_option maxHeartbeats 8000000 in
set_option maxRecDepth 100000 in
theorem law_L {L n N : Nat} {xs : Nat → Int32} {mSegs : Int32} (hL : L ≤ 3073) (K : Int32 → Int32 → Int32 → Int32 → Int32 → Int32 → Int32 → Int32 → (Nat → Int32) → (Nat → Int32) → (Nat → Int32) → (Nat → Int32) → (Nat → Int32) → (Nat → Int32) → (Nat → Int64) → (Nat → Int64) → Int32 → Int32 → Int32 → Int32 → (Nat → Int32) → (Nat → Int32) → (Nat → Int32) → Int32 → Int32 → Int32 → Int32 → Int32 → Int32 → Int32 → Int32 → Int32 → Int32 → Int32 → (Nat → Int32) → (Nat → Int32) → (Nat → Int32) → (Nat → Int32) → (Nat → Int32) → (Nat → Int32) → (Nat → Int32) → (Nat → Int32) → (Nat → Int32) → (Nat → Int64) → (Nat → Int64) → (Nat → Int32) → (Nat → Int32) → (Nat → Int32) → (Nat → Int32) → Int32 → Option Int32) (hK : ∀ a0 a1 a2 a3 a4 a5 a6 a7 a8 a9 a10 a11 a12 a13 a14 a15 a16 a17 a18 a19 a20 a21 a22 a23 a24 a25 a26 a27 a28 a29 a30 a31 a32 a33 a34 a35 a36 a37 a38 a39 a40 a41 a42 a43 a44 a45 a46 a47 a48 a49, K a0 a1 a2 a3 a4 a5 a6 a7 a8 a9 a10 a11 a12 a13 a14 a15 a16 a17 a18 a19 a20 a21 a22 a23 a24 a25 a26 a27 a28 a29 a30 a31 a32 a33 a34 a35 a36 a37 a38 a39 a40 a41 a42 a43 a44 a45 a46 a47 a48 a49 = some 1) : ∀ (f i lb : Nat) (uOpen : Int32) (uFill : Int32) (uSaved : Int32) (uSerial : Int32) (uDown : Int32) (uArmed : Int32) (uWritten : Int32) (uSize : Int32) (uBytes : Nat → Int32) (uForm : Nat → Int32) (uSers : Nat → Int32) (uBlks : Nat → Int32) (uUnts : Nat → Int32) (uStos : Nat → Int32) (uHis : Nat → Int64) (uLos : Nat → Int64) (cNumber : Int32) (cSerial : Int32) (cOpen : Int32) (cFill : Int32) (cPlcs : Nat → Int32) (uSts : Nat → Int32) (uPlcs : Nat → Int32) (mOpen : Int32) (mLast : Int32) (mKLast : Int32) (mKOpen : Int32) (mKFill : Int32) (mNumber : Int32) (mDown : Int32) (mArmed : Int32) (mLeft : Int32) (mWritten : Int32) (mFSize : Int32) (mSt : Nat → Int32) (mFil : Nat → Int32) (mSav : Nat → Int32) (mCnt : Nat → Int32) (mBlk : Nat → Int32) (mSto : Nat → Int32) (mUnt : Nat → Int32) (mSiz : Nat → Int32) (mSer : Nat → Int32) (mHi : Nat → Int64) (mLo : Nat → Int64) (mAt : Nat → Int32) (mKAt : Nat → Int32) (mByt : Nat → Int32) (mFrm : Nat → Int32), L < i + 6 * f → i ≤ 4000 → lb + 16 * f + 16 < 2 ^ 30 → (ST lb n N uOpen uFill uSaved uSerial uDown uArmed uWritten uBytes uSers uBlks uUnts uStos uHis uLos cNumber cSerial cOpen cFill cPlcs uSts uPlcs mSegs mOpen mLast mKLast mKOpen mKFill mNumber mDown mArmed mLeft mWritten mSt mFil mSav mCnt mBlk mSto mUnt mSiz mSer mHi mLo mAt mKAt mByt) → L_law_L28 n N L xs mSegs K (f + 1) uOpen uFill uSaved uSerial uDown uArmed uWritten uSize uBytes uForm uSers uBlks uUnts uStos uHis uLos cNumber cSerial cOpen cFill cPlcs uSts uPlcs mOpen mLast mKLast mKOpen mKFill mNumber mDown mArmed mLeft mWritten mFSize mSt mFil mSav mCnt mBlk mSto mUnt mSiz mSer mHi mLo mAt mKAt mByt mFrm (nI i) = some 1 := by
  have hex : ∀ i : Nat, i ≤ 4000 → (nI L - (6 : Int32) < nI i ↔ L < i + 6) := fun i hi => by
    rw [Int32.lt_iff_toInt_lt, show (6 : Int32) = nI 6 from rfl, pk_sub_toInt (by omega) (by omega), nI_toInt (by omega)]
    omega
  intro f
  induction f with
  | zero =>
    intro i lb uOpen uFill uSaved uSerial uDown uArmed uWritten uSize uBytes uForm uSers uBlks uUnts uStos uHis uLos cNumber cSerial cOpen cFill cPlcs uSts uPlcs mOpen mLast mKLast mKOpen mKFill mNumber mDown mArmed mLeft mWritten mFSize mSt mFil mSav mCnt mBlk mSto mUnt mSiz mSer mHi mLo mAt mKAt mByt mFrm h1 h2 h3 h
    rw [L_law_L28, if_pos ((hex i h2).mpr (by omega))]
    exact hK _ _ _ _ _ _ _ _ _ _ _ _ _ _ _ _ _ _ _ _ _ _ _ _ _ _ _ _ _ _ _ _ _ _ _ _ _ _ _ _ _ _ _ _ _ _ _ _ _ _
  | succ f ih =>
    intro i lb uOpen uFill uSaved uSerial uDown uArmed uWritten uSize uBytes uForm uSers uBlks uUnts uStos uHis uLos cNumber cSerial cOpen cFill cPlcs uSts uPlcs mOpen mLast mKLast mKOpen mKFill mNumber mDown mArmed mLeft mWritten mFSize mSt mFil mSav mCnt mBlk mSto mUnt mSiz mSer mHi mLo mAt mKAt mByt mFrm h1 h2 h3 h
    rw [L_law_L28]
    by_cases hc : L < i + 6
    · rw [if_pos ((hex i h2).mpr hc)]
      exact hK _ _ _ _ _ _ _ _ _ _ _ _ _ _ _ _ _ _ _ _ _ _ _ _ _ _ _ _ _ _ _ _ _ _ _ _ _ _ _ _ _ _ _ _ _ _ _ _ _ _
    · rw [if_neg (fun q => hc ((hex i h2).mp q))]
      have a1 : nI i + (1 : Int32) = nI (i + 1) := nI_1 i
      have a2 : nI i + (2 : Int32) = nI (i + 2) := nI_add i 2
      have a3 : nI i + (3 : Int32) = nI (i + 3) := nI_add i 3
      have a4 : nI i + (4 : Int32) = nI (i + 4) := nI_add i 4
      have a5 : nI i + (5 : Int32) = nI (i + 5) := nI_add i 5
      have a6 : nI i + (6 : Int32) = nI (i + 6) := nI_add i 6
      have k0 := fun (x : Option Int32) => q_ck (x := x) (show i < L by omega) (show L < 2 ^ 31 by omega)
      have k1 := fun (x : Option Int32) => q_ck (x := x) (show i + 1 < L by omega) (show L < 2 ^ 31 by omega)
      have k2 := fun (x : Option Int32) => q_ck (x := x) (show i + 2 < L by omega) (show L < 2 ^ 31 by omega)
      have k3 := fun (x : Option Int32) => q_ck (x := x) (show i + 3 < L by omega) (show L < 2 ^ 31 by omega)
      have k4 := fun (x : Option Int32) => q_ck (x := x) (show i + 4 < L by omega) (show L < 2 ^ 31 by omega)
      have k5 := fun (x : Option Int32) => q_ck (x := x) (show i + 5 < L by omega) (show L < 2 ^ 31 by omega)
      simp only [a1, a2, a3, a4, a5, a6, k0, k1, k2, k3, k4, k5, nI_clamp (show i < 2 ^ 31 by omega), nI_clamp (show i + 1 < 2 ^ 31 by omega), nI_clamp (show i + 2 < 2 ^ 31 by omega), nI_clamp (show i + 3 < 2 ^ 31 by omega), nI_clamp (show i + 4 < 2 ^ 31 by omega), nI_clamp (show i + 5 < 2 ^ 31 by omega)]
      by_cases c0 : (xs i &&& (15 : Int32)) = (0 : Int32)
      · obtain ⟨r, uOpen', uFill', uSaved', uSerial', uDown', uArmed', uWritten', uSize', uBytes', uForm', uSers', uBlks', uUnts', uStos', uHis', uLos', uSts', uPlcs', mOpen', mLast', mDown', mLeft', mWritten', mFSize', mSt', mFil', mSav', mCnt', mBlk', mSto', mUnt', mSiz', mSer', mHi', mLo', mAt', mByt', mFrm', e1, e2, hs⟩ := st_write (uSize := uSize) (uForm := uForm) (mFSize := mFSize) (mFrm := mFrm) h (by omega) (xs (i + 1)) ((((xs (i + 2)).toInt64) <<< ((32 : Int32).toInt64 &&& 63)) ||| (((xs (i + 3)).toInt64) &&& (4294967295 : Int64))) ((((xs (i + 4)).toInt64) <<< ((32 : Int32).toInt64 &&& 63)) ||| (((xs (i + 5)).toInt64) &&& (4294967295 : Int64)))
        rw [if_pos c0, e1, Option.bind_some, e2, Option.bind_some]
        dsimp only
        rw [if_pos rfl]
        exact ih (i + 6) (lb + 16) _ _ _ _ _ _ _ _ _ _ _ _ _ _ _ _ _ _ _ _ _ _ _ _ _ _ _ _ _ _ _ _ _ _ _ _ _ _ _ _ _ _ _ _ _ _ _ _ _ (by omega) (by omega) (by omega) hs
      · rw [if_neg c0]
        by_cases c1 : (xs i &&& (15 : Int32)) = (1 : Int32)
        · obtain ⟨r, uOpen', uFill', uSaved', uSerial', uDown', uArmed', uWritten', uSers', uBlks', uUnts', uStos', uHis', uLos', uSts', uPlcs', mOpen', mLast', mDown', mLeft', mWritten', mSt', mFil', mSav', mCnt', mBlk', mSto', mUnt', mSiz', mSer', mHi', mLo', mAt', e1, e2, hs⟩ := st_trim (uSize := uSize) (uForm := uForm) (mFSize := mFSize) (mFrm := mFrm) h (by omega) (xs (i + 1))
          rw [if_pos c1, e1, Option.bind_some, e2, Option.bind_some]
          dsimp only
          rw [if_pos rfl]
          exact ih (i + 6) (lb + 16) _ _ _ _ _ _ _ _ _ _ _ _ _ _ _ _ _ _ _ _ _ _ _ _ _ _ _ _ _ _ _ _ _ _ _ _ _ _ _ _ _ _ _ _ _ _ _ _ _ (by omega) (by omega) (by omega) hs
        · rw [if_neg c1]
          by_cases c2 : (xs i &&& (15 : Int32)) = (2 : Int32)
          · obtain ⟨r, e1, e2, hs⟩ := st_read (uSize := uSize) (uForm := uForm) (mFSize := mFSize) (mFrm := mFrm) h (xs (i + 1)) (xs (i + 2))
            rw [if_pos c2, e1, Option.bind_some, e2, Option.bind_some, lg_self, if_pos rfl]
            exact ih (i + 6) (lb + 16) _ _ _ _ _ _ _ _ _ _ _ _ _ _ _ _ _ _ _ _ _ _ _ _ _ _ _ _ _ _ _ _ _ _ _ _ _ _ _ _ _ _ _ _ _ _ _ _ _ (by omega) (by omega) (by omega) hs
          · rw [if_neg c2]
            by_cases c3 : (xs i &&& (15 : Int32)) = (3 : Int32)
            · obtain ⟨r, uSize', uBytes', uForm', mFSize', mByt', mFrm', e1, e2, hs⟩ := st_packed (uSize := uSize) (uForm := uForm) (mFSize := mFSize) (mFrm := mFrm) h (xs (i + 1)) (xs (i + 2))
              rw [if_pos c3, e1, Option.bind_some, e2, Option.bind_some]
              dsimp only
              rw [if_pos rfl]
              exact ih (i + 6) (lb + 16) _ _ _ _ _ _ _ _ _ _ _ _ _ _ _ _ _ _ _ _ _ _ _ _ _ _ _ _ _ _ _ _ _ _ _ _ _ _ _ _ _ _ _ _ _ _ _ _ _ (by omega) (by omega) (by omega) hs
            · rw [if_neg c3]
              by_cases c4 : (xs i &&& (15 : Int32)) = (4 : Int32)
              · obtain ⟨r, e1, e2, hs⟩ := st_place (uSize := uSize) (uForm := uForm) (mFSize := mFSize) (mFrm := mFrm) h (xs (i + 1))
                rw [if_pos c4, e1, Option.bind_some, e2, Option.bind_some]
                rw [if_pos rfl]
                exact ih (i + 6) (lb + 16) _ _ _ _ _ _ _ _ _ _ _ _ _ _ _ _ _ _ _ _ _ _ _ _ _ _ _ _ _ _ _ _ _ _ _ _ _ _ _ _ _ _ _ _ _ _ _ _ _ (by omega) (by omega) (by omega) hs
              · rw [if_neg c4]
                by_cases c5 : (xs i &&& (15 : Int32)) = (5 : Int32)
                · obtain ⟨r, uSaved', uDown', uArmed', uWritten', uSers', mDown', mLeft', mWritten', mSav', e1, e2, hs⟩ := st_flush (uSize := uSize) (uForm := uForm) (mFSize := mFSize) (mFrm := mFrm) h 
                  rw [if_pos c5, e1, Option.bind_some, e2, Option.bind_some]
                  dsimp only
                  rw [if_pos rfl]
                  exact ih (i + 6) (lb + 16) _ _ _ _ _ _ _ _ _ _ _ _ _ _ _ _ _ _ _ _ _ _ _ _ _ _ _ _ _ _ _ _ _ _ _ _ _ _ _ _ _ _ _ _ _ _ _ _ _ (by omega) (by omega) (by omega) hs
                · rw [if_neg c5]
                  by_cases c6 : (xs i &&& (15 : Int32)) = (6 : Int32)
                  · obtain ⟨r, uSaved', uDown', uArmed', uWritten', uSers', cNumber', cSerial', cOpen', cFill', cPlcs', mKLast', mKOpen', mKFill', mNumber', mDown', mLeft', mWritten', mSav', mKAt', e1, e2, hs⟩ := st_checkpoint (uSize := uSize) (uForm := uForm) (mFSize := mFSize) (mFrm := mFrm) h 
                    rw [if_pos c6, e1, Option.bind_some, e2, Option.bind_some]
                    dsimp only
                    rw [if_pos rfl]
                    exact ih (i + 6) (lb + 16) _ _ _ _ _ _ _ _ _ _ _ _ _ _ _ _ _ _ _ _ _ _ _ _ _ _ _ _ _ _ _ _ _ _ _ _ _ _ _ _ _ _ _ _ _ _ _ _ _ (by omega) (by omega) (by omega) hs
                  · rw [if_neg c6]
                    by_cases c7 : (xs i &&& (15 : Int32)) = (7 : Int32)
                    · obtain ⟨r, uOpen', uFill', uSaved', uSerial', uDown', uArmed', uWritten', uSers', uBlks', uUnts', uStos', uHis', uLos', cNumber', cSerial', cOpen', cFill', cPlcs', uSts', uPlcs', mOpen', mLast', mKLast', mKOpen', mKFill', mNumber', mDown', mLeft', mWritten', mSt', mFil', mSav', mCnt', mBlk', mSto', mUnt', mSiz', mSer', mHi', mLo', mAt', mKAt', e1, e2, hs⟩ := st_clean (uSize := uSize) (uForm := uForm) (mFSize := mFSize) (mFrm := mFrm) h (by omega) 
                      rw [if_pos c7, e1, Option.bind_some, e2, Option.bind_some]
                      dsimp only
                      rw [if_pos rfl]
                      exact ih (i + 6) (lb + 16) _ _ _ _ _ _ _ _ _ _ _ _ _ _ _ _ _ _ _ _ _ _ _ _ _ _ _ _ _ _ _ _ _ _ _ _ _ _ _ _ _ _ _ _ _ _ _ _ _ (by omega) (by omega) (by omega) hs
                    · rw [if_neg c7]
                      by_cases c8 : (xs i &&& (15 : Int32)) = (8 : Int32)
                      · obtain ⟨r, uArmed', mArmed', mLeft', e1, e2, hs⟩ := st_arm (uSize := uSize) (uForm := uForm) (mFSize := mFSize) (mFrm := mFrm) h (xs (i + 1))
                        rw [if_pos c8, e1, Option.bind_some, e2, Option.bind_some]
                        dsimp only
                        rw [if_pos rfl]
                        exact ih (i + 6) (lb + 16) _ _ _ _ _ _ _ _ _ _ _ _ _ _ _ _ _ _ _ _ _ _ _ _ _ _ _ _ _ _ _ _ _ _ _ _ _ _ _ _ _ _ _ _ _ _ _ _ _ (by omega) (by omega) (by omega) hs
                      · rw [if_neg c8]
                        by_cases c9 : (xs i &&& (15 : Int32)) = (9 : Int32)
                        · obtain ⟨r, uArmed', mArmed', e1, e2, hs⟩ := st_disarm (uSize := uSize) (uForm := uForm) (mFSize := mFSize) (mFrm := mFrm) h 
                          rw [if_pos c9, e1, Option.bind_some, e2, Option.bind_some]
                          dsimp only
                          rw [if_pos rfl]
                          exact ih (i + 6) (lb + 16) _ _ _ _ _ _ _ _ _ _ _ _ _ _ _ _ _ _ _ _ _ _ _ _ _ _ _ _ _ _ _ _ _ _ _ _ _ _ _ _ _ _ _ _ _ _ _ _ _ (by omega) (by omega) (by omega) hs
                        · rw [if_neg c9]
                          by_cases c10 : (xs i &&& (15 : Int32)) = (10 : Int32)
                          · obtain ⟨r, uDown', uSers', mDown', e1, e2, hs⟩ := st_crash (uSize := uSize) (uForm := uForm) (mFSize := mFSize) (mFrm := mFrm) h 
                            rw [if_pos c10, e1, Option.bind_some, e2, Option.bind_some]
                            dsimp only
                            rw [if_pos rfl]
                            exact ih (i + 6) (lb + 16) _ _ _ _ _ _ _ _ _ _ _ _ _ _ _ _ _ _ _ _ _ _ _ _ _ _ _ _ _ _ _ _ _ _ _ _ _ _ _ _ _ _ _ _ _ _ _ _ _ (by omega) (by omega) (by omega) hs
                          · rw [if_neg c10]
                            by_cases c11 : (xs i &&& (15 : Int32)) = (11 : Int32)
                            · obtain ⟨r, uOpen', uFill', uSaved', uSerial', uDown', uArmed', uWritten', uSers', cNumber', cSerial', cOpen', cFill', cPlcs', uSts', uPlcs', mOpen', mLast', mKLast', mKOpen', mKFill', mNumber', mDown', mArmed', mLeft', mWritten', mSt', mFil', mSav', mCnt', mAt', mKAt', e1, e2, hs⟩ := st_recover (uSize := uSize) (uForm := uForm) (mFSize := mFSize) (mFrm := mFrm) h 
                              rw [if_pos c11, e1, Option.bind_some, e2, Option.bind_some]
                              dsimp only
                              rw [if_pos rfl]
                              exact ih (i + 6) (lb + 16) _ _ _ _ _ _ _ _ _ _ _ _ _ _ _ _ _ _ _ _ _ _ _ _ _ _ _ _ _ _ _ _ _ _ _ _ _ _ _ _ _ _ _ _ _ _ _ _ _ (by omega) (by omega) (by omega) hs
                            · rw [if_neg c11]
                              by_cases c12 : (xs i &&& (15 : Int32)) = (12 : Int32)
                              · obtain ⟨r, e1, e2, hs⟩ := st_live (uSize := uSize) (uForm := uForm) (mFSize := mFSize) (mFrm := mFrm) h (xs (i + 1))
                                rw [if_pos c12, e1, Option.bind_some, e2, Option.bind_some]
                                rw [if_pos rfl]
                                exact ih (i + 6) (lb + 16) _ _ _ _ _ _ _ _ _ _ _ _ _ _ _ _ _ _ _ _ _ _ _ _ _ _ _ _ _ _ _ _ _ _ _ _ _ _ _ _ _ _ _ _ _ _ _ _ _ (by omega) (by omega) (by omega) hs
                              · rw [if_neg c12]
                                by_cases c13 : (xs i &&& (15 : Int32)) = (13 : Int32)
                                · obtain ⟨r, e1, e2, hs⟩ := st_segment (uSize := uSize) (uForm := uForm) (mFSize := mFSize) (mFrm := mFrm) h (xs (i + 1))
                                  rw [if_pos c13, e1, Option.bind_some, e2, Option.bind_some]
                                  rw [if_pos rfl]
                                  exact ih (i + 6) (lb + 16) _ _ _ _ _ _ _ _ _ _ _ _ _ _ _ _ _ _ _ _ _ _ _ _ _ _ _ _ _ _ _ _ _ _ _ _ _ _ _ _ _ _ _ _ _ _ _ _ _ (by omega) (by omega) (by omega) hs
                                · rw [if_neg c13]
                                  by_cases c14 : (xs i &&& (15 : Int32)) = (14 : Int32)
                                  · obtain ⟨r, e1, e2, hs⟩ := st_look (uSize := uSize) (uForm := uForm) (mFSize := mFSize) (mFrm := mFrm) h (xs (i + 1))
                                    rw [if_pos c14, e1, Option.bind_some, e2, Option.bind_some]
                                    rw [if_pos rfl]
                                    exact ih (i + 6) (lb + 16) _ _ _ _ _ _ _ _ _ _ _ _ _ _ _ _ _ _ _ _ _ _ _ _ _ _ _ _ _ _ _ _ _ _ _ _ _ _ _ _ _ _ _ _ _ _ _ _ _ (by omega) (by omega) (by omega) hs
                                  · rw [if_neg c14]
                                    exact ih (i + 6) lb _ _ _ _ _ _ _ _ _ _ _ _ _ _ _ _ _ _ _ _ _ _ _ _ _ _ _ _ _ _ _ _ _ _ _ _ _ _ _ _ _ _ _ _ _ _ _ _ _ (by omega) (by omega) (by omega) h
theorem nov {n k : Nat} : ¬ vld n (fun _ => 0) k := fun h => absurd h.2 (Nat.not_lt_zero _)
theorem st0 {n N : Nat} {F1 F2 F3 F4 : Nat → Int32} (h4 : 4 ≤ n) (h8 : n ≤ 8) (hN : N = 16 * n) (e1 : ∀ b, b < 16 → F1 b = -1) (e2 : ∀ b, b < 16 → F2 b = -1) (e3 : ∀ b, b < 16 → F3 b = -1 ∧ F4 b = -1) : (ST 0 n N ((0 : Int32)) ((0 : Int32)) ((0 : Int32)) ((0 : Int32)) ((0 : Int32)) ((-1 : Int32)) ((0 : Int32)) (fun _ => (0 : Int32)) (fun _ => (0 : Int32)) (fun _ => (0 : Int32)) (fun _ => (0 : Int32)) (fun _ => (0 : Int32)) (fun _ => (0 : Int64)) (fun _ => (0 : Int64)) ((0 : Int32)) ((0 : Int32)) ((0 : Int32)) ((0 : Int32)) F1 (upd (fun _ => (0 : Int32)) 0 (1 : Int32)) F2 (nI n) ((0 : Int32)) ((0 : Int32)) ((0 : Int32)) ((0 : Int32)) ((0 : Int32)) ((0 : Int32)) ((0 : Int32)) ((0 : Int32)) ((0 : Int32)) ((0 : Int32)) (upd (fun _ => (0 : Int32)) 0 (1 : Int32)) (fun _ => (0 : Int32)) (fun _ => (0 : Int32)) (fun _ => (0 : Int32)) (fun _ => (0 : Int32)) (fun _ => (0 : Int32)) (fun _ => (0 : Int32)) (fun _ => (0 : Int32)) (fun _ => (0 : Int32)) (fun _ => (0 : Int64)) (fun _ => (0 : Int64)) F3 F4 (fun _ => (0 : Int32))) := by
  have hs : ∀ s, (upd (fun _ => (0 : Int32)) 0 (1 : Int32)) s = nI (va_up (fun _ => 0) 0 1 s) := fun s => by
    by_cases e : s = 0
    · subst e; rw [upd_s, up_s]; rfl
    · rw [upd_n _ _ e, up_n _ _ e]; rfl
  refine ⟨0, 0, 0, 0, 0, 0, 0, (va_up (fun _ => 0) 0 1), fun _ => 0, fun _ => 0, fun _ => 0, fun _ => 0, fun _ => 0, fun _ => 0, fun _ => 0, fun _ => 0, fun _ => 0, fun _ => 0, fun _ => 0, by omega, rfl, rfl, rfl, rfl, by omega, ?_, ?_, ?_, ⟨rfl, Or.inl ⟨rfl, rfl⟩⟩⟩
  · refine ⟨⟨h4, h8, by omega, by omega, Nat.le_refl _, by omega, by omega, by omega, by omega, fun s hs => by show 0 ≤ 16; omega⟩, ⟨fun s hs => ?_, up_s _ _ _, fun s hs h => ?_, by rw [up_s]; omega⟩, fun k hk => absurd hk nov, fun k hk h => absurd h (Nat.not_lt_zero _), ⟨fun s hs => by show 0 ≤ 8; omega, fun k hk => absurd hk nov⟩, ⟨fun k hk => absurd hk nov, fun k hk => absurd hk nov, fun k j hk => absurd hk nov⟩, fun w h1 h2 => absurd h1 (by omega), fun b hb h => absurd rfl h, fun b hb h => absurd rfl h, fun k hk => absurd hk nov⟩
    · by_cases e : s = 0
      · subst e; rw [up_s]; omega
      · rw [up_n _ _ e]; show 0 ≤ 2; omega
    · by_cases e : s = 0
      · exact e
      · rw [up_n _ _ e] at h; exact absurd h (by show ¬ (0 : Nat) = 1; omega)
  · refine ⟨hN, rfl, rfl, rfl, rfl, rfl, rfl, rfl, fun s _ => hs s, fun b hb => ⟨e2 b hb, e1 b hb⟩, fun p hp => ⟨⟨0, by omega, rfl⟩, ⟨0, by omega, rfl⟩⟩, fun k hk => absurd hk nov, fun p hp w h1 h2 => ⟨fun q => ?_, fun ⟨k, hk, _⟩ => absurd hk nov⟩⟩
    exact absurd q.symm (q_ne (b := 0) h2 (by omega) (by omega))
  · exact ⟨rfl, rfl, rfl, rfl, rfl, rfl, rfl, fun s _ => ⟨hs s, rfl, rfl⟩, fun k hk => absurd hk nov, fun b hb => ⟨(e3 b hb).1, (e3 b hb).2⟩⟩

set_option maxHeartbeats 4000000 in
set_option maxRecDepth 100000 in
theorem law_pure (L : Nat) (xs : Nat → Int32) (n N : Nat) (hL : L ≤ 3073) (hn4 : 4 ≤ n) (hn8 : n ≤ 8) (hNe : N = 16 * n) (hsg : (if (4 : Int32) ≤ cv L xs then (if cv L xs ≤ (8 : Int32) then cv L xs else (8 : Int32)) else (4 : Int32)) = nI n) : (U_init n).bind (fun z1 => (M_init (cv L xs)).bind (fun z2 => L_law_L28 n N L xs z2.1 (fun uOpen_k28 uFill_k28 uSaved_k28 uSerial_k28 uDown_k28 uArmed_k28 uWritten_k28 uSize_k28 uBytes_k28 uForm_k28 uSers_k28 uBlks_k28 uUnts_k28 uStos_k28 uHis_k28 uLos_k28 cNumber_k28 cSerial_k28 cOpen_k28 cFill_k28 cPlcs_k28 uSts_k28 uPlcs_k28 mOpen_k28 mLast_k28 mKLast_k28 mKOpen_k28 mKFill_k28 mNumber_k28 mDown_k28 mArmed_k28 mLeft_k28 mWritten_k28 mFSize_k28 mSt_k28 mFil_k28 mSav_k28 mCnt_k28 mBlk_k28 mSto_k28 mUnt_k28 mSiz_k28 mSer_k28 mHi_k28 mLo_k28 mAt_k28 mKAt_k28 mByt_k28 mFrm_k28 x3_k28 => some (1 : Int32)) 600 (0 : Int32) (0 : Int32) (0 : Int32) (0 : Int32) (0 : Int32) z1.1 (0 : Int32) (0 : Int32) (fun _ => (0 : Int32)) (fun _ => (0 : Int32)) (fun _ => (0 : Int32)) (fun _ => (0 : Int32)) (fun _ => (0 : Int32)) (fun _ => (0 : Int32)) (fun _ => (0 : Int64)) (fun _ => (0 : Int64)) (0 : Int32) (0 : Int32) (0 : Int32) (0 : Int32) z1.2.1 z1.2.2.1 z1.2.2.2 (0 : Int32) (0 : Int32) (0 : Int32) (0 : Int32) (0 : Int32) (0 : Int32) (0 : Int32) (0 : Int32) (0 : Int32) (0 : Int32) (0 : Int32) z2.2.1 (fun _ => (0 : Int32)) (fun _ => (0 : Int32)) (fun _ => (0 : Int32)) (fun _ => (0 : Int32)) (fun _ => (0 : Int32)) (fun _ => (0 : Int32)) (fun _ => (0 : Int32)) (fun _ => (0 : Int32)) (fun _ => (0 : Int64)) (fun _ => (0 : Int64)) z2.2.2.1 z2.2.2.2 (fun _ => (0 : Int32)) (fun _ => (0 : Int32)) (1 : Int32))) = some 1 := by
  obtain ⟨F, f1, f2⟩ := fill_ok (fun _ => (0 : Int32)) (-1)
  obtain ⟨A, B, m1, m2⟩ := minit_ok
  have eU : U_init n = some (-1, F, upd (fun _ => (0 : Int32)) 0 (1 : Int32), F) := by
    unfold U_init D_init P_init R_init C_init
    rw [f1]
    simp only [Option.bind_some]
    rw [show (0 : Int32) = nI 0 from rfl, q_ck (by omega) (by omega), nI_clamp (by omega)]
  have eM : M_init (cv L xs) = some (nI n, upd (fun _ => (0 : Int32)) 0 (1 : Int32), A, B) := by
    rw [← hsg]
    unfold M_init
    by_cases c1 : (4 : Int32) ≤ cv L xs
    · rw [if_pos c1, if_pos c1]
      by_cases c2 : cv L xs ≤ (8 : Int32)
      · rw [if_pos c2, if_pos c2, ck_ok (show vp_in (0 : Int32) 8 from vp_in_nI (n := 0) (by omega) (by omega))]
        obtain ⟨y, hy⟩ := m1 (fun mAt_k158 mKAt_k158 x2_k158 => some (cv L xs, (upd (fun _ => (0 : Int32)) (0 : Int32).toNatClampNeg (1 : Int32)), mAt_k158, mKAt_k158))
        rw [hy]; rfl
      · rw [if_neg c2, if_neg c2, ck_ok (show vp_in (0 : Int32) 8 from vp_in_nI (n := 0) (by omega) (by omega))]
        obtain ⟨y, hy⟩ := m1 (fun mAt_k158 mKAt_k158 x2_k158 => some ((8 : Int32), (upd (fun _ => (0 : Int32)) (0 : Int32).toNatClampNeg (1 : Int32)), mAt_k158, mKAt_k158))
        rw [hy]; rfl
    · rw [if_neg c1, if_neg c1, ck_ok (show vp_in (0 : Int32) 8 from vp_in_nI (n := 0) (by omega) (by omega))]
      obtain ⟨y, hy⟩ := m1 (fun mAt_k158 mKAt_k158 x2_k158 => some ((4 : Int32), (upd (fun _ => (0 : Int32)) (0 : Int32).toNatClampNeg (1 : Int32)), mAt_k158, mKAt_k158))
      rw [hy]; rfl
  rw [eU, Option.bind_some, eM, Option.bind_some]
  dsimp only
  exact law_L hL _ (fun _ _ _ _ _ _ _ _ _ _ _ _ _ _ _ _ _ _ _ _ _ _ _ _ _ _ _ _ _ _ _ _ _ _ _ _ _ _ _ _ _ _ _ _ _ _ _ _ _ _ => rfl) 599 1 0 _ _ _ _ _ _ _ _ _ _ _ _ _ _ _ _ _ _ _ _ _ _ _ _ _ _ _ _ _ _ _ _ _ _ _ _ _ _ _ _ _ _ _ _ _ _ _ _ _ (by omega) (by omega) (by omega) (st0 hn4 hn8 hNe f2 f2 m2)

