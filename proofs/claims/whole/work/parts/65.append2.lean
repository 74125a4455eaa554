/-! a record appended, with a segment opened where it must be -/
theorem fc_out {st : Nat → Nat} {j v : Nat} : ∀ n, n ≤ j → fc (va_up st j v) n = fc st n := by
  intro n
  induction n with
  | zero => intro _; rfl
  | succ n ih => intro h; rw [fc, fc, ih (by omega), up_n _ _ (by omega)]
theorem fc_up {st : Nat → Nat} {j v : Nat} : ∀ n, j < n → fc (va_up st j v) n + (if st j = 0 then 1 else 0) = fc st n + (if v = 0 then 1 else 0) := by
  intro n
  induction n with
  | zero => intro h; omega
  | succ n ih =>
    intro h
    by_cases e : j = n
    · subst e; rw [fc, fc, fc_out j (Nat.le_refl _), up_s]; omega
    · have := ih (by omega)
      rw [fc, fc, up_n _ _ (by omega)]; omega
def Fr (n op fl u b : Nat) (st cn un sz bk so pa : Nat → Nat) (hi lo : Nat → Int64) (op' fl' : Nat) (st' cn' un' sz' bk' so' pa' : Nat → Nat) (hi' lo' : Nat → Int64) : Prop :=
  (fl + u ≤ 16 → fl' = fl + u ∧ fc st' n = fc st n) ∧ (16 < fl + u → fl' = u ∧ fc st' n + 1 = fc st n) ∧
  (∀ s, s < n → st s = 2 → st' s = 2 ∧ cn' s = cn s ∧ op' ≠ s ∧ ∀ k, k / 8 = s → un' k = un k ∧ sz' k = sz k ∧ bk' k = bk k ∧ so' k = so k ∧ hi' k = hi k ∧ lo' k = lo k) ∧
  (∀ c, c ≠ b → pa' c = pa c) ∧ (pa' b = 0 ∨ (pa' b - 1) / 8 = op')
theorem append_ok {n : Nat} {op : Nat} {fl : Nat} {last : Nat} {kl : Nat} {ko : Nat} {kf : Nat} {st : Nat → Nat} {cn : Nat → Nat} {un : Nat → Nat} {sz : Nat → Nat} {sr : Nat → Nat} {bk : Nat → Nat} {so : Nat → Nat} {sav : Nat → Nat} {pa : Nat → Nat} {ka : Nat → Nat} {hi : Nat → Int64} {lo : Nat → Int64} {N : Nat} {uOpen : Int32} {uFill : Int32} {uSaved : Int32} {uSerial : Int32} {cSerial : Int32} {cOpen : Int32} {cFill : Int32} {uSts : Nat → Int32} {uPlcs : Nat → Int32} {cPlcs : Nat → Int32} {uSers : Nat → Int32} {uBlks : Nat → Int32} {uUnts : Nat → Int32} {uStos : Nat → Int32} {uHis : Nat → Int64} {uLos : Nat → Int64} {mSegs : Int32} {mOpen : Int32} {mLast : Int32} {mKLast : Int32} {mKOpen : Int32} {mKFill : Int32} {mSt : Nat → Int32} {mFil : Nat → Int32} {mSav : Nat → Int32} {mCnt : Nat → Int32} {mBlk : Nat → Int32} {mSto : Nat → Int32} {mUnt : Nat → Int32} {mSiz : Nat → Int32} {mSer : Nat → Int32} {mAt : Nat → Int32} {mKAt : Nat → Int32} {mHi : Nat → Int64} {mLo : Nat → Int64} {uA uW mA mL mW mD : Int32} (g : (GI n op fl last kl ko kf st cn un sz sr bk so sav pa ka)) (hu : (RU 0 N n op fl last kl ko kf st cn un sz sr bk so sav pa ka hi lo uOpen uFill uSaved uSerial cSerial cOpen cFill uSts uPlcs cPlcs uSers uBlks uUnts uStos uHis uLos)) (hm : (RM n op fl last kl ko kf st cn un sz sr bk so sav pa ka hi lo mSegs mOpen mLast mKLast mKOpen mKFill mSt mFil mSav mCnt mBlk mSto mUnt mSiz mSer mAt mKAt mHi mLo)) (hD : Dk uA uW mA mL mW) (u b x : Nat) (y z : Int64) (hu2 : 2 ≤ u) (hu6 : u ≤ 6) (hb : b < 16) (hx : x ≤ 1) (hl : last + 1 < 2 ^ 30) (hroom : fl + u ≤ 16 ∨ 1 ≤ fc st n) :
    (∃ (op' : Nat) (fl' : Nat) (last' : Nat) (st' : Nat → Nat) (cn' : Nat → Nat) (un' : Nat → Nat) (sz' : Nat → Nat) (sr' : Nat → Nat) (bk' : Nat → Nat) (so' : Nat → Nat) (sav' : Nat → Nat) (pa' : Nat → Nat) (hi' : Nat → Int64) (lo' : Nat → Int64) (uOpen' : Int32) (uFill' : Int32) (uSaved' : Int32) (uSerial' : Int32) (uSts' : Nat → Int32) (uPlcs' : Nat → Int32) (uSers' : Nat → Int32) (uBlks' : Nat → Int32) (uUnts' : Nat → Int32) (uStos' : Nat → Int32) (uHis' : Nat → Int64) (uLos' : Nat → Int64) (mOpen' : Int32) (mLast' : Int32) (mSt' : Nat → Int32) (mFil' : Nat → Int32) (mSav' : Nat → Int32) (mCnt' : Nat → Int32) (mBlk' : Nat → Int32) (mSto' : Nat → Int32) (mUnt' : Nat → Int32) (mSiz' : Nat → Int32) (mSer' : Nat → Int32) (mAt' : Nat → Int32) (mHi' : Nat → Int64) (mLo' : Nat → Int64) (a w l : Int32), U_append n N uOpen uFill uSaved uSerial uA uW uSers uBlks uUnts uStos uHis uLos uSts uPlcs (nI b) (nI u) (nI x) y z = some (1, uOpen', uFill', uSaved', uSerial', a, w, uSers', uBlks', uUnts', uStos', uHis', uLos', uSts', uPlcs') ∧
      M_append mSegs mOpen mLast mD mA mL mW mSt mFil mSav mCnt mBlk mSto mUnt mSiz mSer mHi mLo mAt (nI b) (nI x) (nI u) y z = some (1, mOpen', mLast', mD, l, w, mSt', mFil', mSav', mCnt', mBlk', mSto', mUnt', mSiz', mSer', mHi', mLo', mAt') ∧
      Dk a w mA l w ∧ (uA = -1 → a = -1) ∧ (GI n op' fl' last' kl ko kf st' cn' un' sz' sr' bk' so' sav' pa' ka) ∧ (RU 0 N n op' fl' last' kl ko kf st' cn' un' sz' sr' bk' so' sav' pa' ka hi' lo' uOpen' uFill' uSaved' uSerial' cSerial cOpen cFill uSts' uPlcs' cPlcs uSers' uBlks' uUnts' uStos' uHis' uLos') ∧ (RM n op' fl' last' kl ko kf st' cn' un' sz' sr' bk' so' sav' pa' ka hi' lo' mSegs mOpen' mLast' mKLast mKOpen mKFill mSt' mFil' mSav' mCnt' mBlk' mSto' mUnt' mSiz' mSer' mAt' mKAt mHi' mLo') ∧ last' = last + 1 ∧ Fr n op fl u b st cn un sz bk so pa hi lo op' fl' st' cn' un' sz' bk' so' pa' hi' lo') ∨
    (∃ (v : Nat) (a w l : Int32) (S : Nat → Int32), U_append n N uOpen uFill uSaved uSerial uA uW uSers uBlks uUnts uStos uHis uLos uSts uPlcs (nI b) (nI u) (nI x) y z = some (0, uOpen, uFill, nI v, uSerial, a, w, uSers, uBlks, uUnts, uStos, uHis, uLos, uSts, uPlcs) ∧
      M_append mSegs mOpen mLast mD mA mL mW mSt mFil mSav mCnt mBlk mSto mUnt mSiz mSer mHi mLo mAt (nI b) (nI x) (nI u) y z = some (0, mOpen, mLast, 1, l, w, mSt, mFil, S, mCnt, mBlk, mSto, mUnt, mSiz, mSer, mHi, mLo, mAt) ∧
      Dk a w mA l w ∧ (GI n op fl last kl ko kf st cn un sz sr bk so (va_up sav op v) pa ka) ∧ (RU 0 N n op fl last kl ko kf st cn un sz sr bk so (va_up sav op v) pa ka hi lo uOpen uFill (nI v) uSerial cSerial cOpen cFill uSts uPlcs cPlcs uSers uBlks uUnts uStos uHis uLos) ∧ (RM n op fl last kl ko kf st cn un sz sr bk so (va_up sav op v) pa ka hi lo mSegs mOpen mLast mKLast mKOpen mKFill mSt mFil S mCnt mBlk mSto mUnt mSiz mSer mAt mKAt mHi mLo)) := by
  have g0 := g
  have hu0 := hu
  have hm0 := hm
  obtain ⟨⟨b1, b2, b3, b4, b5, b6, b7, b8, b9, b10⟩, ⟨c1, c2, c3, c4⟩, -, -, ⟨d5, -⟩, -⟩ := g0
  obtain ⟨u1, rfl, rfl, rfl, rfl, u6, u7, u8, u9, -⟩ := hu0
  obtain ⟨rfl, rfl, rfl, m4, m5, m6, m7, m8, -⟩ := hm0
  have hsub : (16 : Int32) - nI fl = nI (16 - fl) := pk_sub (a := 16) b4
  by_cases hf : fl + u ≤ 16
  · left
    have hc : nI u ≤ nI (16 - fl) := q_le (by omega) (by omega) (by omega)
    have eU := appU (uA := uA) (uW := uW) g hu u b x y z hf hu2 hb hx
    have eM := appM (mD := mD) (mL := mL) (mW := mW) g hm u b x y z hf hu2 hb hx
    have hw := hD.1
    subst hw
    refine ⟨_, _, _, _, _, _, _, _, _, _, _, _, _, _, _, _, _, _, _, _, _, _, _, _, _, _, _, _, _, _, _, _, _, _, _, _, _, _, _, _, uA, uW, mL, ?_, ?_, hD, fun e => e, GI_append g u b x hu2 hu6 hf hb hx hl, RU_app g (by omega) hu u b x hu6 hb y z, RM_app g (by omega) hm u b x y z, rfl, ?_⟩
    · unfold U_append; rw [hsub, if_pos hc, eU]
    · unfold M_append; rw [q_ck (by omega) (by omega), nI_clamp (by omega), m7, hsub, if_pos hc, eM]
    · refine ⟨fun _ => ⟨rfl, rfl⟩, fun q => absurd q (by omega), fun s hs h2 => ?_, fun c hc => up_n _ _ hc, ?_⟩
      · have hso : s ≠ op := fun e => by rw [e] at h2; omega
        refine ⟨h2, up_n _ _ hso, Ne.symm hso, fun k hk => ?_⟩
        have hk0 : k ≠ 8 * op + cn op := fun e => hso (by have := cn_lt g (by omega); omega)
        exact ⟨up_n _ _ hk0, up_n _ _ hk0, up_n _ _ hk0, up_n _ _ hk0, up_n _ _ hk0, up_n _ _ hk0⟩
      · rw [up_s]
        by_cases e : x = 1
        · rw [if_pos e]; right; have := cn_lt g (by omega); omega
        · rw [if_neg e]; left; rfl
  · have hfc : 1 ≤ fc st n := by omega
    have hc : ¬ nI u ≤ nI (16 - fl) := q_nle (by omega) (by omega) (by omega)
    obtain ⟨j, hj, j0, j1⟩ := fc_pos n hfc
    have hjo : j ≠ op := fun e => by rw [e] at j0; omega
    have eLU : U_lowestFree n uSts = some (nI j) := lowU b2 hj (by rw [u9 j hj, j0]; rfl) (fun i hi q => by rw [u9 i (by omega)] at q; exact j1 i hi ((nI_z (c1 i (by omega))).mp q))
    have eLM : M_lowestFree (nI n) (upd mSt op (2 : Int32)) = some (nI j) := lowM b2 hj (by rw [upd_n _ _ hjo, (m8 j hj).1, j0]; rfl) (fun i hi q => by
      by_cases e : i = op
      · subst e; rw [upd_s] at q; exact absurd q (by decide)
      · rw [upd_n _ _ e, (m8 i (by omega)).1] at q; exact j1 i hi ((nI_z (c1 i (by omega))).mp q))
    obtain ⟨v, a, w, l, S, r2, r3, r4, r5, r6, r7⟩ := save_ok (op := op) (by omega) b4 b5 m7 (m8 op b3).2.1 (mD := mD) hD
    rcases r7 with ⟨t1, t2, t3⟩ | ⟨t0, t2, t3⟩
    · left
      subst t1
      have g1' := GI_sav g v (Nat.le_refl _)
      have hu1 := RU_sav hu v
      have hm1 := RM_sav hm v S r3 r4
      have g2' := GI_open g1' j hj j0 (up_s _ _ _)
      have hu2' := RU_open g1' hu1 j hj j0
      have hm2 := RM_open hm1 j (upd S j (0 : Int32)) (upd mFil j (0 : Int32)) (upd mCnt j (0 : Int32)) (upd_s _ _ _) (fun s hs => upd_n _ _ hs) (upd_s _ _ _) (upd_s _ _ _) (fun s hs => upd_n _ _ hs)
      have eU := appU (uA := a) (uW := w) g2' hu2' u b x y z (by omega) hu2 hb hx
      have eM := appM (mD := mD) (mL := l) (mW := w) g2' hm2 u b x y z (by omega) hu2 hb hx
      refine ⟨_, _, _, _, _, _, _, _, _, _, _, _, _, _, _, _, _, _, _, _, _, _, _, _, _, _, _, _, _, _, _, _, _, _, _, _, _, _, _, _, a, w, l, ?_, ?_, r5, fun e => (r6 e).1, GI_append g2' u b x hu2 hu6 (by omega) hb hx hl, RU_app g2' (by omega) hu2' u b x hu6 hb y z, RM_app g2' (by omega) hm2 u b x y z, rfl, ?_⟩
      · unfold U_append
        rw [hsub, if_neg hc]
        unfold U_openNext
        rw [eLU, Option.bind_some, if_neg (q_nem1 (by omega)), t2, Option.bind_some, if_neg (show ¬ (1 : Int32) = 0 by decide), q_ck b3 (by omega), q_ck hj (by omega), nI_clamp (by omega), nI_clamp (by omega), Option.bind_some, if_neg (show ¬ (1 : Int32) = 0 by decide), eU]
      · unfold M_append
        rw [q_ck (by omega) (by omega), nI_clamp (by omega), m7, hsub, if_neg hc, t3, Option.bind_some, if_pos (show (0 : Int32) ≤ nI (v - sav op) from q_le (a := 0) (by omega) (by omega) (by omega)), q_ck (by omega) (by omega), eLM, Option.bind_some, q_ck (by omega) (by omega), q_ck (by omega) (by omega), q_ck (by omega) (by omega), q_ck (by omega) (by omega), nI_clamp (by omega), eM]
      · have h8 : va_up cn j 0 j < 8 := by rw [up_s]; omega
        refine ⟨fun q => absurd q (by omega), fun _ => ⟨by omega, ?_⟩, fun s hs h2 => ?_, fun c hc => up_n _ _ hc, ?_⟩
        · have x1 := fc_up (st := va_up st op 2) (j := j) (v := 1) n hj
          have x2 := fc_up (st := st) (j := op) (v := 2) n b3
          rw [up_n _ _ hjo, if_pos j0, if_neg (by omega)] at x1
          rw [if_neg (by omega), if_neg (by omega)] at x2
          omega
        · have hso : s ≠ op := fun e => by rw [e] at h2; omega
          have hsj : s ≠ j := fun e => by rw [e] at h2; omega
          refine ⟨by rw [up_n _ _ hsj, up_n _ _ hso]; exact h2, by rw [up_n _ _ hsj, up_n _ _ hsj], Ne.symm hsj, fun k hk => ?_⟩
          have hk0 : k ≠ 8 * j + va_up cn j 0 j := fun e => hsj (by omega)
          exact ⟨up_n _ _ hk0, up_n _ _ hk0, up_n _ _ hk0, up_n _ _ hk0, up_n _ _ hk0, up_n _ _ hk0⟩
        · rw [up_s]
          by_cases e : x = 1
          · rw [if_pos e]; right; omega
          · rw [if_neg e]; left; rfl
    · right
      refine ⟨v, a, w, l, S, ?_, ?_, r5, GI_sav g v r2, RU_sav hu v, RM_sav hm v S r3 r4⟩
      · unfold U_append
        rw [hsub, if_neg hc]
        unfold U_openNext
        rw [eLU, Option.bind_some, if_neg (q_nem1 (by omega)), t2, Option.bind_some, if_pos rfl, Option.bind_some, if_pos rfl]
      · unfold M_append
        rw [q_ck (by omega) (by omega), nI_clamp (by omega), m7, hsub, if_neg hc, t3, Option.bind_some, if_neg (show ¬ (0 : Int32) ≤ (-4 : Int32) by decide)]
