/-! class and model under the moves -/
theorem RU_sav {n : Nat} {op : Nat} {fl : Nat} {last : Nat} {kl : Nat} {ko : Nat} {kf : Nat} {st : Nat → Nat} {cn : Nat → Nat} {un : Nat → Nat} {sz : Nat → Nat} {sr : Nat → Nat} {bk : Nat → Nat} {so : Nat → Nat} {sav : Nat → Nat} {pa : Nat → Nat} {ka : Nat → Nat} {hi : Nat → Int64} {lo : Nat → Int64} {N : Nat} {uOpen : Int32} {uFill : Int32} {uSaved : Int32} {uSerial : Int32} {cSerial : Int32} {cOpen : Int32} {cFill : Int32} {uSts : Nat → Int32} {uPlcs : Nat → Int32} {cPlcs : Nat → Int32} {uSers : Nat → Int32} {uBlks : Nat → Int32} {uUnts : Nat → Int32} {uStos : Nat → Int32} {uHis : Nat → Int64} {uLos : Nat → Int64} (h : (RU 0 N n op fl last kl ko kf st cn un sz sr bk so sav pa ka hi lo uOpen uFill uSaved uSerial cSerial cOpen cFill uSts uPlcs cPlcs uSers uBlks uUnts uStos uHis uLos)) (v : Nat) : (RU 0 N n op fl last kl ko kf st cn un sz sr bk so (va_up sav op v) pa ka hi lo uOpen uFill (nI v) uSerial cSerial cOpen cFill uSts uPlcs cPlcs uSers uBlks uUnts uStos uHis uLos) := by
  obtain ⟨a1, a2, a3, a4, a5, a6, a7, a8, a9, a10, a11, a12, a13⟩ := h
  refine ⟨a1, a2, a3, by rw [up_s], a5, a6, a7, a8, a9, a10, a11, a12, fun p hp w h1 h2 => ?_⟩
  rw [a13 p hp w h1 h2]
  exact ⟨fun ⟨k, q1, q2, q3, _⟩ => ⟨k, q1, q2, q3, fun q => absurd q (by omega)⟩, fun ⟨k, q1, q2, q3, _⟩ => ⟨k, q1, q2, q3, fun q => absurd q (by omega)⟩⟩
theorem RM_sav {n : Nat} {op : Nat} {fl : Nat} {last : Nat} {kl : Nat} {ko : Nat} {kf : Nat} {st : Nat → Nat} {cn : Nat → Nat} {un : Nat → Nat} {sz : Nat → Nat} {sr : Nat → Nat} {bk : Nat → Nat} {so : Nat → Nat} {sav : Nat → Nat} {pa : Nat → Nat} {ka : Nat → Nat} {hi : Nat → Int64} {lo : Nat → Int64} {mSegs : Int32} {mOpen : Int32} {mLast : Int32} {mKLast : Int32} {mKOpen : Int32} {mKFill : Int32} {mSt : Nat → Int32} {mFil : Nat → Int32} {mSav : Nat → Int32} {mCnt : Nat → Int32} {mBlk : Nat → Int32} {mSto : Nat → Int32} {mUnt : Nat → Int32} {mSiz : Nat → Int32} {mSer : Nat → Int32} {mAt : Nat → Int32} {mKAt : Nat → Int32} {mHi : Nat → Int64} {mLo : Nat → Int64} (h : (RM n op fl last kl ko kf st cn un sz sr bk so sav pa ka hi lo mSegs mOpen mLast mKLast mKOpen mKFill mSt mFil mSav mCnt mBlk mSto mUnt mSiz mSer mAt mKAt mHi mLo)) (v : Nat) (S : Nat → Int32) (hS : S op = nI v) (hT : ∀ s, s ≠ op → S s = mSav s) : (RM n op fl last kl ko kf st cn un sz sr bk so (va_up sav op v) pa ka hi lo mSegs mOpen mLast mKLast mKOpen mKFill mSt mFil S mCnt mBlk mSto mUnt mSiz mSer mAt mKAt mHi mLo) := by
  obtain ⟨a1, a2, a3, a4, a5, a6, a7, a8, a9, a10⟩ := h
  refine ⟨a1, a2, a3, a4, a5, a6, a7, fun s hs => ?_, a9, a10⟩
  obtain ⟨b1, b2, b3⟩ := a8 s hs
  by_cases e : s = op
  · subst e; exact ⟨b1, by rw [up_s]; exact hS, b3⟩
  · exact ⟨b1, by rw [up_n _ _ e, hT s e]; exact b2, b3⟩
theorem RU_chk {n : Nat} {op : Nat} {fl : Nat} {last : Nat} {kl : Nat} {ko : Nat} {kf : Nat} {st : Nat → Nat} {cn : Nat → Nat} {un : Nat → Nat} {sz : Nat → Nat} {sr : Nat → Nat} {bk : Nat → Nat} {so : Nat → Nat} {sav : Nat → Nat} {pa : Nat → Nat} {ka : Nat → Nat} {hi : Nat → Int64} {lo : Nat → Int64} {N : Nat} {uOpen : Int32} {uFill : Int32} {uSaved : Int32} {uSerial : Int32} {cSerial : Int32} {cOpen : Int32} {cFill : Int32} {uSts : Nat → Int32} {uPlcs : Nat → Int32} {cPlcs : Nat → Int32} {uSers : Nat → Int32} {uBlks : Nat → Int32} {uUnts : Nat → Int32} {uStos : Nat → Int32} {uHis : Nat → Int64} {uLos : Nat → Int64} (h : (RU 0 N n op fl last kl ko kf st cn un sz sr bk so sav pa ka hi lo uOpen uFill uSaved uSerial cSerial cOpen cFill uSts uPlcs cPlcs uSers uBlks uUnts uStos uHis uLos)) (hkl : kl ≤ last) (P : Nat → Int32) (hP : ∀ b, b < 16 → P b = uPlcs b) : (RU 0 N n op fl last last op fl st cn un sz sr bk so sav pa pa hi lo uOpen uFill uSaved uSerial (nI last) (nI op) (nI fl) uSts uPlcs P uSers uBlks uUnts uStos uHis uLos) := by
  obtain ⟨a1, a2, a3, a4, a5, a6, a7, a8, a9, a10, a11, a12, a13⟩ := h
  exact ⟨a1, a2, a3, a4, a5, rfl, rfl, rfl, a9, fun b hb => ⟨(a10 b hb).1, by rw [hP b hb]; exact (a10 b hb).1⟩, a11, a12, fun p hp w h1 h2 => a13 p hp w (by omega) h2⟩
theorem RM_chk {n : Nat} {op : Nat} {fl : Nat} {last : Nat} {kl : Nat} {ko : Nat} {kf : Nat} {st : Nat → Nat} {cn : Nat → Nat} {un : Nat → Nat} {sz : Nat → Nat} {sr : Nat → Nat} {bk : Nat → Nat} {so : Nat → Nat} {sav : Nat → Nat} {pa : Nat → Nat} {ka : Nat → Nat} {hi : Nat → Int64} {lo : Nat → Int64} {mSegs : Int32} {mOpen : Int32} {mLast : Int32} {mKLast : Int32} {mKOpen : Int32} {mKFill : Int32} {mSt : Nat → Int32} {mFil : Nat → Int32} {mSav : Nat → Int32} {mCnt : Nat → Int32} {mBlk : Nat → Int32} {mSto : Nat → Int32} {mUnt : Nat → Int32} {mSiz : Nat → Int32} {mSer : Nat → Int32} {mAt : Nat → Int32} {mKAt : Nat → Int32} {mHi : Nat → Int64} {mLo : Nat → Int64} (h : (RM n op fl last kl ko kf st cn un sz sr bk so sav pa ka hi lo mSegs mOpen mLast mKLast mKOpen mKFill mSt mFil mSav mCnt mBlk mSto mUnt mSiz mSer mAt mKAt mHi mLo)) (P : Nat → Int32) (hP : ∀ b, b < 16 → P b = mAt b) : (RM n op fl last last op fl st cn un sz sr bk so sav pa pa hi lo mSegs mOpen mLast (nI last) (nI op) (nI fl) mSt mFil mSav mCnt mBlk mSto mUnt mSiz mSer mAt P mHi mLo) := by
  obtain ⟨a1, a2, a3, a4, a5, a6, a7, a8, a9, a10⟩ := h
  exact ⟨a1, a2, a3, rfl, rfl, rfl, a7, a8, a9, fun b hb => ⟨(a10 b hb).1, by rw [hP b hb]; exact (a10 b hb).1⟩⟩
theorem RU_open {n : Nat} {op : Nat} {fl : Nat} {last : Nat} {kl : Nat} {ko : Nat} {kf : Nat} {st : Nat → Nat} {cn : Nat → Nat} {un : Nat → Nat} {sz : Nat → Nat} {sr : Nat → Nat} {bk : Nat → Nat} {so : Nat → Nat} {sav : Nat → Nat} {pa : Nat → Nat} {ka : Nat → Nat} {hi : Nat → Int64} {lo : Nat → Int64} {N : Nat} {uOpen : Int32} {uFill : Int32} {uSaved : Int32} {uSerial : Int32} {cSerial : Int32} {cOpen : Int32} {cFill : Int32} {uSts : Nat → Int32} {uPlcs : Nat → Int32} {cPlcs : Nat → Int32} {uSers : Nat → Int32} {uBlks : Nat → Int32} {uUnts : Nat → Int32} {uStos : Nat → Int32} {uHis : Nat → Int64} {uLos : Nat → Int64} (g : (GI n op fl last kl ko kf st cn un sz sr bk so sav pa ka)) (h : (RU 0 N n op fl last kl ko kf st cn un sz sr bk so sav pa ka hi lo uOpen uFill uSaved uSerial cSerial cOpen cFill uSts uPlcs cPlcs uSers uBlks uUnts uStos uHis uLos)) (j : Nat) (hj : j < n) (h0 : st j = 0) : (RU 0 N n j 0 last kl ko kf (va_up (va_up st op 2) j 1) (va_up cn j 0) un sz sr bk so (va_up sav j 0) pa ka hi lo (nI j) ((0 : Int32)) ((0 : Int32)) uSerial cSerial cOpen cFill (upd (upd uSts op (2 : Int32)) j (1 : Int32)) uPlcs cPlcs uSers uBlks uUnts uStos uHis uLos) := by
  obtain ⟨a1, a2, a3, a4, a5, a6, a7, a8, a9, a10, a11, a12, a13⟩ := h
  refine ⟨a1, rfl, rfl, by rw [up_s]; rfl, a5, a6, a7, a8, fun s hs => ?_, a10, a11, fun k hk => a12 k (vld_open.mp hk).1, fun p hp w h1 h2 => ?_⟩
  · by_cases e : s = j
    · subst e; rw [upd_s, up_s]; rfl
    · rw [upd_n _ _ e, up_n _ _ e]
      by_cases e2 : s = op
      · subst e2; rw [upd_s, up_s]; rfl
      · rw [upd_n _ _ e2, up_n _ _ e2]; exact a9 s hs
  · rw [a13 p hp w h1 h2]
    constructor
    · rintro ⟨k, q1, q2, q3, _⟩
      refine ⟨k, vld_open.mpr ⟨q1, fun e => ?_⟩, q2, q3, fun q => absurd q (by omega)⟩
      have := g.2.2.2.2.2.1.1 k q1 (by rw [e]; exact h0)
      omega
    · rintro ⟨k, q1, q2, q3, _⟩
      exact ⟨k, (vld_open.mp q1).1, q2, q3, fun q => absurd q (by omega)⟩
theorem RM_open {n : Nat} {op : Nat} {fl : Nat} {last : Nat} {kl : Nat} {ko : Nat} {kf : Nat} {st : Nat → Nat} {cn : Nat → Nat} {un : Nat → Nat} {sz : Nat → Nat} {sr : Nat → Nat} {bk : Nat → Nat} {so : Nat → Nat} {sav : Nat → Nat} {pa : Nat → Nat} {ka : Nat → Nat} {hi : Nat → Int64} {lo : Nat → Int64} {mSegs : Int32} {mOpen : Int32} {mLast : Int32} {mKLast : Int32} {mKOpen : Int32} {mKFill : Int32} {mSt : Nat → Int32} {mFil : Nat → Int32} {mSav : Nat → Int32} {mCnt : Nat → Int32} {mBlk : Nat → Int32} {mSto : Nat → Int32} {mUnt : Nat → Int32} {mSiz : Nat → Int32} {mSer : Nat → Int32} {mAt : Nat → Int32} {mKAt : Nat → Int32} {mHi : Nat → Int64} {mLo : Nat → Int64} (h : (RM n op fl last kl ko kf st cn un sz sr bk so sav pa ka hi lo mSegs mOpen mLast mKLast mKOpen mKFill mSt mFil mSav mCnt mBlk mSto mUnt mSiz mSer mAt mKAt mHi mLo)) (j : Nat) (S F C : Nat → Int32) (hS : S j = nI 0) (hT : ∀ s, s ≠ j → S s = mSav s) (hF : F j = nI 0) (hC : C j = nI 0) (hD : ∀ s, s ≠ j → C s = mCnt s) : (RM n j 0 last kl ko kf (va_up (va_up st op 2) j 1) (va_up cn j 0) un sz sr bk so (va_up sav j 0) pa ka hi lo mSegs (nI j) mLast mKLast mKOpen mKFill (upd (upd mSt op (2 : Int32)) j (1 : Int32)) F S C mBlk mSto mUnt mSiz mSer mAt mKAt mHi mLo) := by
  obtain ⟨a1, a2, a3, a4, a5, a6, a7, a8, a9, a10⟩ := h
  refine ⟨a1, rfl, a3, a4, a5, a6, hF, fun s hs => ?_, fun k hk => a9 k (vld_open.mp hk).1, a10⟩
  obtain ⟨b1, b2, b3⟩ := a8 s hs
  by_cases e : s = j
  · subst e; rw [upd_s, up_s, up_s, up_s]; exact ⟨rfl, hS, hC⟩
  · rw [upd_n _ _ e, up_n _ _ e, up_n _ _ e, up_n _ _ e, hT s e, hD s e]
    refine ⟨?_, b2, b3⟩
    by_cases e2 : s = op
    · subst e2; rw [upd_s, up_s]; rfl
    · rw [upd_n _ _ e2, up_n _ _ e2]; exact b1
theorem updL_s (f : Nat → Int64) (k : Nat) (x : Int64) : vp_updL f k x k = x := by simp [vp_updL]
theorem updL_n (f : Nat → Int64) {k j : Nat} (x : Int64) (h : j ≠ k) : vp_updL f k x j = f j := by simp [vp_updL, h]
theorem pl_up (un : Nat → Nat) (k0 v : Nat) {k : Nat} (h : k ≠ k0) : pl (va_up un k0 v) k = pl un k := by unfold pl; rw [up_n _ _ h]
theorem pl_us (un : Nat → Nat) (k0 v : Nat) : pl (va_up un k0 v) k0 = 16 * (k0 / 8) + v := by unfold pl; rw [up_s]
theorem RM_app {n : Nat} {op : Nat} {fl : Nat} {last : Nat} {kl : Nat} {ko : Nat} {kf : Nat} {st : Nat → Nat} {cn : Nat → Nat} {un : Nat → Nat} {sz : Nat → Nat} {sr : Nat → Nat} {bk : Nat → Nat} {so : Nat → Nat} {sav : Nat → Nat} {pa : Nat → Nat} {ka : Nat → Nat} {hi : Nat → Int64} {lo : Nat → Int64} {mSegs : Int32} {mOpen : Int32} {mLast : Int32} {mKLast : Int32} {mKOpen : Int32} {mKFill : Int32} {mSt : Nat → Int32} {mFil : Nat → Int32} {mSav : Nat → Int32} {mCnt : Nat → Int32} {mBlk : Nat → Int32} {mSto : Nat → Int32} {mUnt : Nat → Int32} {mSiz : Nat → Int32} {mSer : Nat → Int32} {mAt : Nat → Int32} {mKAt : Nat → Int32} {mHi : Nat → Int64} {mLo : Nat → Int64} (g : (GI n op fl last kl ko kf st cn un sz sr bk so sav pa ka)) (hf : fl < 16) (h : (RM n op fl last kl ko kf st cn un sz sr bk so sav pa ka hi lo mSegs mOpen mLast mKLast mKOpen mKFill mSt mFil mSav mCnt mBlk mSto mUnt mSiz mSer mAt mKAt mHi mLo)) (u b x : Nat) (y z : Int64) :
    (RM n op (fl + u) (last + 1) kl ko kf st (va_up cn op (cn op + 1)) (va_up un (8 * op + cn op) fl) (va_up sz (8 * op + cn op) u) (va_up sr (8 * op + cn op) (last + 1)) (va_up bk (8 * op + cn op) b) (va_up so (8 * op + cn op) x) sav (va_up pa b (if x = 1 then 8 * op + cn op + 1 else 0)) ka (va_up hi (8 * op + cn op) y) (va_up lo (8 * op + cn op) z) mSegs mOpen (nI last + (1 : Int32)) mKLast mKOpen mKFill mSt (upd mFil op (nI fl + nI u)) mSav (upd mCnt op (nI (cn op) + (1 : Int32))) (upd mBlk (8 * op + cn op) (nI b)) (upd mSto (8 * op + cn op) (nI x)) (upd mUnt (8 * op + cn op) (nI fl)) (upd mSiz (8 * op + cn op) (nI u)) (upd mSer (8 * op + cn op) (nI last + (1 : Int32))) (upd mAt b (if x = 1 then nI (8 * op + cn op) else (-1 : Int32))) mKAt (vp_updL mHi (8 * op + cn op) y) (vp_updL mLo (8 * op + cn op) z)) := by
  have h8 := cn_lt g hf
  obtain ⟨⟨b1, b2, b3, b4, b5, b6, b7, b8, b9, b10⟩, -⟩ := g
  obtain ⟨a1, a2, a3, a4, a5, a6, a7, a8, a9, a10⟩ := h
  generalize hk0 : 8 * op + cn op = k0
  have hnv : ∀ k, vld n cn k → k ≠ k0 := fun k hk e => by unfold vld at hk; rw [e, ← hk0, show (8 * op + cn op) / 8 = op by omega] at hk; omega
  refine ⟨a1, a2, by rw [nI_1], a4, a5, a6, by rw [upd_s, nI_add], fun s hs => ?_, fun k hk => ?_, fun c hc => ?_⟩
  · obtain ⟨c1, c2, c3⟩ := a8 s hs
    by_cases e : s = op
    · subst e; exact ⟨c1, c2, by rw [upd_s, up_s, nI_1]⟩
    · exact ⟨c1, c2, by rw [upd_n _ _ e, up_n _ _ e]; exact c3⟩
  · rcases (vld_app b3 h8).mp hk with q | q
    · have e := hnv k q
      rw [upd_n _ _ e, upd_n _ _ e, upd_n _ _ e, upd_n _ _ e, upd_n _ _ e, updL_n _ _ e, updL_n _ _ e, up_n _ _ e, up_n _ _ e, up_n _ _ e, up_n _ _ e, up_n _ _ e, up_n _ _ e, up_n _ _ e]
      exact a9 k q
    · rw [hk0] at q; subst q
      rw [upd_s, upd_s, upd_s, upd_s, upd_s, updL_s, updL_s, up_s, up_s, up_s, up_s, up_s, up_s, up_s, nI_1]
      exact ⟨rfl, rfl, rfl, rfl, rfl, rfl, rfl⟩
  · by_cases e : c = b
    · subst e
      rw [upd_s, up_s]
      refine ⟨?_, (a10 c hc).2⟩
      by_cases e1 : x = 1
      · rw [if_pos e1, if_pos e1]; rfl
      · rw [if_neg e1, if_neg e1]; rfl
    · rw [upd_n _ _ e, up_n _ _ e]; exact a10 c hc
theorem RU_app {n : Nat} {op : Nat} {fl : Nat} {last : Nat} {kl : Nat} {ko : Nat} {kf : Nat} {st : Nat → Nat} {cn : Nat → Nat} {un : Nat → Nat} {sz : Nat → Nat} {sr : Nat → Nat} {bk : Nat → Nat} {so : Nat → Nat} {sav : Nat → Nat} {pa : Nat → Nat} {ka : Nat → Nat} {hi : Nat → Int64} {lo : Nat → Int64} {N : Nat} {uOpen : Int32} {uFill : Int32} {uSaved : Int32} {uSerial : Int32} {cSerial : Int32} {cOpen : Int32} {cFill : Int32} {uSts : Nat → Int32} {uPlcs : Nat → Int32} {cPlcs : Nat → Int32} {uSers : Nat → Int32} {uBlks : Nat → Int32} {uUnts : Nat → Int32} {uStos : Nat → Int32} {uHis : Nat → Int64} {uLos : Nat → Int64} (g : (GI n op fl last kl ko kf st cn un sz sr bk so sav pa ka)) (hf : fl < 16) (h : (RU 0 N n op fl last kl ko kf st cn un sz sr bk so sav pa ka hi lo uOpen uFill uSaved uSerial cSerial cOpen cFill uSts uPlcs cPlcs uSers uBlks uUnts uStos uHis uLos)) (u b x : Nat) (hu6 : u ≤ 6) (hb : b < 16) (y z : Int64) :
    (RU 0 N n op (fl + u) (last + 1) kl ko kf st (va_up cn op (cn op + 1)) (va_up un (8 * op + cn op) fl) (va_up sz (8 * op + cn op) u) (va_up sr (8 * op + cn op) (last + 1)) (va_up bk (8 * op + cn op) b) (va_up so (8 * op + cn op) x) sav (va_up pa b (if x = 1 then 8 * op + cn op + 1 else 0)) ka (va_up hi (8 * op + cn op) y) (va_up lo (8 * op + cn op) z) uOpen (nI fl + nI u) uSaved (nI last + (1 : Int32)) cSerial cOpen cFill uSts (upd uPlcs b (if x = 1 then nI (16 * op + fl) else (-1 : Int32))) cPlcs (upd uSers (16 * op + fl) (nI last + (1 : Int32))) (upd uBlks (16 * op + fl) (nI b)) (upd uUnts (16 * op + fl) (nI u)) (upd uStos (16 * op + fl) (nI x)) (vp_updL uHis (16 * op + fl) y) (vp_updL uLos (16 * op + fl) z)) := by
  have h8 := cn_lt g hf
  have g' := g
  obtain ⟨⟨b1, b2, b3, b4, b5, b6, b7, b8, b9, b10⟩, -, g3', g4', g5', -, -, g8', g9', -⟩ := g
  obtain ⟨a1, a2, a3, a4, a5, a6, a7, a8, a9, a10, a11, a12, a13⟩ := h
  generalize hk0 : 8 * op + cn op = k0
  have hk8 : k0 / 8 = op := by omega
  have hnv : ∀ k, vld n cn k → k ≠ k0 := fun k hk e => by unfold vld at hk; rw [e, ← hk0, show (8 * op + cn op) / 8 = op by omega] at hk; omega
  have hnp : ∀ k, vld n cn k → pl un k ≠ 16 * op + fl := fun k hk e => by
    have x1 := g3' k hk
    unfold pl at e
    have x2 := g5'.2 k hk (by omega)
    omega
  have hp0 : pl (va_up un k0 fl) k0 = 16 * op + fl := by rw [pl_us, hk8]
  refine ⟨a1, a2, by rw [nI_add], a4, by rw [nI_1], a6, a7, a8, a9, fun c hc => ?_, fun p hp => ?_, fun k hk => ?_, fun p hp w h1 h2 => ?_⟩
  · refine ⟨?_, ?_⟩
    · by_cases e : c = b
      · subst e
        rw [upd_s, up_s]
        by_cases e1 : x = 1
        · rw [if_pos e1, if_pos e1]
          show nI _ = nI (pl _ k0)
          rw [hp0]
        · rw [if_neg e1, if_neg e1]; rfl
      · rw [upd_n _ _ e, up_n _ _ e, (a10 c hc).1]
        rcases hz : pa c with _ | k
        · rfl
        · have := (g8' c hc (by omega)).1
          rw [hz, show k + 1 - 1 = k from rfl] at this
          show nI _ = nI _
          rw [pl_up un k0 fl (hnv _ this)]
    · rw [(a10 c hc).2]
      rcases hz : ka c with _ | k
      · rfl
      · have := (g9' c hc (by omega)).1
        rw [hz, show k + 1 - 1 = k from rfl] at this
        show nI _ = nI _
        rw [pl_up un k0 fl (hnv _ this)]
  · by_cases e : p = 16 * op + fl
    · subst e; rw [upd_s, upd_s]; exact ⟨⟨b, hb, rfl⟩, ⟨u, hu6, rfl⟩⟩
    · rw [upd_n _ _ e, upd_n _ _ e]; exact a11 p hp
  · rcases (vld_app b3 h8).mp hk with q | q
    · have e := hnv k q
      have e2 := hnp k q
      rw [pl_up un k0 fl e, upd_n _ _ e2, upd_n _ _ e2, upd_n _ _ e2, updL_n _ _ e2, updL_n _ _ e2, up_n _ _ e, up_n _ _ e, up_n _ _ e, up_n _ _ e, up_n _ _ e]
      exact a12 k q
    · rw [hk0] at q; subst q
      rw [hp0, upd_s, upd_s, upd_s, updL_s, updL_s, up_s, up_s, up_s, up_s, up_s]
      exact ⟨rfl, rfl, rfl, rfl, rfl⟩
  · by_cases e : p = 16 * op + fl
    · subst e
      rw [upd_s, nI_1]
      constructor
      · intro q
        have q2 : last + 1 = w := (nI_eq (by omega) h2).mp q
        exact ⟨k0, (vld_app b3 h8).mpr (Or.inr hk0.symm), hp0, by rw [up_s]; exact q2, fun q => absurd q (by omega)⟩
      · rintro ⟨k, q1, q2, q3, _⟩
        rcases (vld_app b3 h8).mp q1 with q | q
        · rw [pl_up un k0 fl (hnv k q)] at q2
          exact absurd q2 (hnp k q)
        · rw [hk0] at q; subst q
          rw [up_s] at q3
          rw [q3]
    · rw [upd_n _ _ e, a13 p hp w h1 h2]
      constructor
      · rintro ⟨k, q1, q2, q3, _⟩
        have en := hnv k q1
        exact ⟨k, (vld_app b3 h8).mpr (Or.inl q1), by rw [pl_up un k0 fl en]; exact q2, by rw [up_n _ _ en]; exact q3, fun q => absurd q (by omega)⟩
      · rintro ⟨k, q1, q2, q3, _⟩
        rcases (vld_app b3 h8).mp q1 with q | q
        · have en := hnv k q
          rw [pl_up un k0 fl en] at q2
          rw [up_n _ _ en] at q3
          exact ⟨k, q, q2, q3, fun q => absurd q (by omega)⟩
        · rw [hk0] at q; subst q
          rw [hp0] at q2
          exact absurd q2.symm e
theorem RU_free {n : Nat} {op : Nat} {fl : Nat} {last : Nat} {kl : Nat} {ko : Nat} {kf : Nat} {st : Nat → Nat} {cn : Nat → Nat} {un : Nat → Nat} {sz : Nat → Nat} {sr : Nat → Nat} {bk : Nat → Nat} {so : Nat → Nat} {sav : Nat → Nat} {pa : Nat → Nat} {ka : Nat → Nat} {hi : Nat → Int64} {lo : Nat → Int64} {N : Nat} {uOpen : Int32} {uFill : Int32} {uSaved : Int32} {uSerial : Int32} {cSerial : Int32} {cOpen : Int32} {cFill : Int32} {uSts : Nat → Int32} {uPlcs : Nat → Int32} {cPlcs : Nat → Int32} {uSers : Nat → Int32} {uBlks : Nat → Int32} {uUnts : Nat → Int32} {uStos : Nat → Int32} {uHis : Nat → Int64} {uLos : Nat → Int64} (h : (RU 0 N n op fl last kl ko kf st cn un sz sr bk so sav pa ka hi lo uOpen uFill uSaved uSerial cSerial cOpen cFill uSts uPlcs cPlcs uSers uBlks uUnts uStos uHis uLos)) (j : Nat) : (RU 0 N n op fl last kl ko kf (va_up st j 0) cn un sz sr bk so sav pa ka hi lo uOpen uFill uSaved uSerial cSerial cOpen cFill (upd uSts j (0 : Int32)) uPlcs cPlcs uSers uBlks uUnts uStos uHis uLos) := by
  obtain ⟨a1, a2, a3, a4, a5, a6, a7, a8, a9, a10, a11, a12, a13⟩ := h
  refine ⟨a1, a2, a3, a4, a5, a6, a7, a8, fun s hs => ?_, a10, a11, a12, a13⟩
  by_cases e : s = j
  · subst e; rw [upd_s, up_s]; rfl
  · rw [upd_n _ _ e, up_n _ _ e]; exact a9 s hs
theorem RM_free {n : Nat} {op : Nat} {fl : Nat} {last : Nat} {kl : Nat} {ko : Nat} {kf : Nat} {st : Nat → Nat} {cn : Nat → Nat} {un : Nat → Nat} {sz : Nat → Nat} {sr : Nat → Nat} {bk : Nat → Nat} {so : Nat → Nat} {sav : Nat → Nat} {pa : Nat → Nat} {ka : Nat → Nat} {hi : Nat → Int64} {lo : Nat → Int64} {mSegs : Int32} {mOpen : Int32} {mLast : Int32} {mKLast : Int32} {mKOpen : Int32} {mKFill : Int32} {mSt : Nat → Int32} {mFil : Nat → Int32} {mSav : Nat → Int32} {mCnt : Nat → Int32} {mBlk : Nat → Int32} {mSto : Nat → Int32} {mUnt : Nat → Int32} {mSiz : Nat → Int32} {mSer : Nat → Int32} {mAt : Nat → Int32} {mKAt : Nat → Int32} {mHi : Nat → Int64} {mLo : Nat → Int64} (h : (RM n op fl last kl ko kf st cn un sz sr bk so sav pa ka hi lo mSegs mOpen mLast mKLast mKOpen mKFill mSt mFil mSav mCnt mBlk mSto mUnt mSiz mSer mAt mKAt mHi mLo)) (j : Nat) : (RM n op fl last kl ko kf (va_up st j 0) cn un sz sr bk so sav pa ka hi lo mSegs mOpen mLast mKLast mKOpen mKFill (upd mSt j (0 : Int32)) mFil mSav mCnt mBlk mSto mUnt mSiz mSer mAt mKAt mHi mLo) := by
  obtain ⟨a1, a2, a3, a4, a5, a6, a7, a8, a9, a10⟩ := h
  refine ⟨a1, a2, a3, a4, a5, a6, a7, fun s hs => ?_, a9, a10⟩
  obtain ⟨b1, b2, b3⟩ := a8 s hs
  by_cases e : s = j
  · subst e; exact ⟨by rw [upd_s, up_s]; rfl, b2, b3⟩
  · exact ⟨by rw [upd_n _ _ e, up_n _ _ e]; exact b1, b2, b3⟩
