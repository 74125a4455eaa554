/-! the abstract state: segments of slots; what class and model hold of it -/
def vld (n : Nat) (cn : Nat → Nat) (k : Nat) : Prop := k / 8 < n ∧ k % 8 < cn (k / 8)
def enc : Nat → Int32
  | 0 => -1
  | k + 1 => nI k
def pl (un : Nat → Nat) (k : Nat) : Nat := 16 * (k / 8) + un k
def encU (un : Nat → Nat) : Nat → Int32
  | 0 => -1
  | k + 1 => nI (pl un k)
def g1 (n op fl last kl ko kf : Nat) (sav : Nat → Nat) : Prop := 4 ≤ n ∧ n ≤ 8 ∧ op < n ∧ fl ≤ 16 ∧ sav op ≤ fl ∧ kl ≤ last ∧ ko < n ∧ kf ≤ 16 ∧ last < 2 ^ 30 ∧ ∀ s, s < n → sav s ≤ 16
def g2 (n op ko : Nat) (st : Nat → Nat) : Prop := (∀ s, s < n → st s ≤ 2) ∧ st op = 1 ∧ (∀ s, s < n → st s = 1 → s = op) ∧ st ko ≠ 0
def g3 (n last : Nat) (cn un sz sr bk so : Nat → Nat) : Prop := ∀ k, vld n cn k → un k + sz k ≤ 16 ∧ 2 ≤ sz k ∧ sz k ≤ 6 ∧ bk k < 16 ∧ so k ≤ 1 ∧ sr k ≤ last ∧ 2 * (k % 8) ≤ un k
def g4 (n : Nat) (cn un sz sr : Nat → Nat) : Prop := ∀ k, k / 8 < n → k % 8 + 1 < cn (k / 8) → un k + sz k ≤ un (k + 1) ∧ sr k < sr (k + 1)
def g5 (n op fl : Nat) (cn un sz : Nat → Nat) : Prop := (∀ s, s < n → cn s ≤ 8) ∧ ∀ k, vld n cn k → k / 8 = op → un k + sz k ≤ fl
def g6 (n op kl : Nat) (st cn un sz sr sav : Nat → Nat) : Prop := (∀ k, vld n cn k → st (k / 8) = 0 → sr k ≤ kl) ∧ (∀ k, vld n cn k → k / 8 ≠ op → kl < sr k → un k + sz k ≤ sav (k / 8)) ∧ (∀ k j, vld n cn k → vld n cn j → k / 8 ≠ op → j / 8 = op → kl < sr k → kl < sr j → sr k < sr j)
def g7 (n last kl : Nat) (cn sr : Nat → Nat) : Prop := ∀ w, kl < w → w ≤ last → ∃ k, vld n cn k ∧ sr k = w
def g8 (n : Nat) (st cn bk so pa : Nat → Nat) : Prop := ∀ b, b < 16 → pa b ≠ 0 → vld n cn (pa b - 1) ∧ bk (pa b - 1) = b ∧ so (pa b - 1) = 1 ∧ st ((pa b - 1) / 8) ≠ 0
def g9 (n kl : Nat) (st cn sr bk so ka : Nat → Nat) : Prop := ∀ b, b < 16 → ka b ≠ 0 → vld n cn (ka b - 1) ∧ bk (ka b - 1) = b ∧ so (ka b - 1) = 1 ∧ st ((ka b - 1) / 8) ≠ 0 ∧ sr (ka b - 1) ≤ kl
def g10 (n kl ko kf : Nat) (cn un sz sr : Nat → Nat) : Prop := ∀ k, vld n cn k → k / 8 = ko → sr k ≤ kl → un k + sz k ≤ kf
def GI (n op fl last kl ko kf : Nat) (st cn un sz sr bk so sav pa ka : Nat → Nat) : Prop :=
  g1 n op fl last kl ko kf sav ∧ g2 n op ko st ∧ g3 n last cn un sz sr bk so ∧ g4 n cn un sz sr ∧ g5 n op fl cn un sz ∧ g6 n op kl st cn un sz sr sav ∧ g7 n last kl cn sr ∧ g8 n st cn bk so pa ∧ g9 n kl st cn sr bk so ka ∧ g10 n kl ko kf cn un sz sr
def rmS (n : Nat) (st cn sav : Nat → Nat) (mSt mSav mCnt : Nat → Int32) : Prop := ∀ s, s < n → mSt s = nI (st s) ∧ mSav s = nI (sav s) ∧ mCnt s = nI (cn s)
def rmK (n : Nat) (cn un sz sr bk so : Nat → Nat) (hi lo : Nat → Int64) (mBlk mSto mUnt mSiz mSer : Nat → Int32) (mHi mLo : Nat → Int64) : Prop := ∀ k, vld n cn k → mBlk k = nI (bk k) ∧ mSto k = nI (so k) ∧ mUnt k = nI (un k) ∧ mSiz k = nI (sz k) ∧ mSer k = nI (sr k) ∧ mHi k = hi k ∧ mLo k = lo k
def rmP (pa ka : Nat → Nat) (mAt mKAt : Nat → Int32) : Prop := ∀ b, b < 16 → mAt b = enc (pa b) ∧ mKAt b = enc (ka b)
def RM (n op fl last kl ko kf : Nat) (st cn un sz sr bk so sav pa ka : Nat → Nat) (hi lo : Nat → Int64) (mSegs mOpen mLast mKLast mKOpen mKFill : Int32) (mSt mFil mSav mCnt mBlk mSto mUnt mSiz mSer mAt mKAt : Nat → Int32) (mHi mLo : Nat → Int64) : Prop :=
  mSegs = nI n ∧ mOpen = nI op ∧ mLast = nI last ∧ mKLast = nI kl ∧ mKOpen = nI ko ∧ mKFill = nI kf ∧ mFil op = nI fl ∧ rmS n st cn sav mSt mSav mCnt ∧ rmK n cn un sz sr bk so hi lo mBlk mSto mUnt mSiz mSer mHi mLo ∧ rmP pa ka mAt mKAt
def ruP (un pa ka : Nat → Nat) (uPlcs cPlcs : Nat → Int32) : Prop := ∀ b, b < 16 → uPlcs b = encU un (pa b) ∧ cPlcs b = encU un (ka b)
def ruA (N : Nat) (uBlks uUnts : Nat → Int32) : Prop := ∀ p, p < N → (∃ b, b < 16 ∧ uBlks p = nI b) ∧ ∃ z, z ≤ 6 ∧ uUnts p = nI z
def ruK (n : Nat) (cn un sz bk so : Nat → Nat) (hi lo : Nat → Int64) (uBlks uUnts uStos : Nat → Int32) (uHis uLos : Nat → Int64) : Prop := ∀ k, vld n cn k → uBlks (pl un k) = nI (bk k) ∧ uUnts (pl un k) = nI (sz k) ∧ uStos (pl un k) = nI (so k) ∧ uHis (pl un k) = hi k ∧ uLos (pl un k) = lo k
def ruS (dn n N kl : Nat) (cn un sz sr sav : Nat → Nat) (uSers : Nat → Int32) : Prop := ∀ p, p < N → ∀ w, kl < w → w < 2 ^ 31 → (uSers p = nI w ↔ ∃ k, vld n cn k ∧ pl un k = p ∧ sr k = w ∧ (dn = 1 → un k + sz k ≤ sav (k / 8)))
def RU (dn N : Nat) (n op fl last kl ko kf : Nat) (st cn un sz sr bk so sav pa ka : Nat → Nat) (hi lo : Nat → Int64) (uOpen uFill uSaved uSerial cSerial cOpen cFill : Int32) (uSts uPlcs cPlcs uSers uBlks uUnts uStos : Nat → Int32) (uHis uLos : Nat → Int64) : Prop :=
  N = 16 * n ∧ uOpen = nI op ∧ uFill = nI fl ∧ uSaved = nI (sav op) ∧ uSerial = nI last ∧ cSerial = nI kl ∧ cOpen = nI ko ∧ cFill = nI kf ∧ (∀ s, s < n → uSts s = nI (st s)) ∧ ruP un pa ka uPlcs cPlcs ∧ ruA N uBlks uUnts ∧ ruK n cn un sz bk so hi lo uBlks uUnts uStos uHis uLos ∧ ruS dn n N kl cn un sz sr sav uSers
/-- the disk: armed or not, written -/
def Dk (uArmed uWritten mArmed mLeft mWritten : Int32) : Prop := uWritten = mWritten ∧ ((uArmed = -1 ∧ mArmed = 0) ∨ ∃ k, k ≤ 10000 ∧ uArmed = nI k ∧ mArmed = 1 ∧ mLeft = nI k)
theorem up_s {α : Type} (f : Nat → α) (k : Nat) (v : α) : va_up f k v k = v := va_up_self f k v
theorem up_n {α : Type} (f : Nat → α) {k j : Nat} (v : α) (h : j ≠ k) : va_up f k v j = f j := va_up_ne f v h
/-- places grow with slots -/
theorem g4_c {n : Nat} {cn un sz sr : Nat → Nat} (h : g4 n cn un sz sr) (s : Nat) (hs : s < n) : ∀ d c, c + d + 1 < cn s → cn s ≤ 8 → un (8 * s + c) + sz (8 * s + c) ≤ un (8 * s + (c + d + 1)) ∧ sr (8 * s + c) < sr (8 * s + (c + d + 1)) := by
  intro d
  induction d with
  | zero =>
    intro c hc h8
    have := h (8 * s + c) (by omega) (by rw [show (8 * s + c) / 8 = s by omega, show (8 * s + c) % 8 = c by omega]; omega)
    rw [show 8 * s + (c + 0 + 1) = 8 * s + c + 1 by omega]
    exact this
  | succ d ih =>
    intro c hc h8
    have h1 := ih c (by omega) h8
    have h2 := h (8 * s + (c + d + 1)) (by omega) (by rw [show (8 * s + (c + d + 1)) / 8 = s by omega, show (8 * s + (c + d + 1)) % 8 = c + d + 1 by omega]; omega)
    rw [show 8 * s + (c + (d + 1) + 1) = 8 * s + (c + d + 1) + 1 by omega]
    exact ⟨by omega, by omega⟩
theorem slot_lt {n : Nat} {cn un sz sr : Nat → Nat} (h : g4 n cn un sz sr) (h8 : ∀ s, s < n → cn s ≤ 8) {k j : Nat} (hk : vld n cn k) (hj : vld n cn j) (hs : k / 8 = j / 8) (hkj : k < j) : un k + sz k ≤ un j ∧ sr k < sr j := by
  obtain ⟨k1, k2⟩ := hk
  obtain ⟨j1, j2⟩ := hj
  have h9 := h8 (k / 8) k1
  rw [← hs] at j2
  have := g4_c h (k / 8) k1 (j % 8 - k % 8 - 1) (k % 8) (by omega) h9
  rw [show 8 * (k / 8) + k % 8 = k by omega, show 8 * (k / 8) + (k % 8 + (j % 8 - k % 8 - 1) + 1) = j by omega] at this
  exact this
/-- a slot is known by its place -/
theorem pl_inj {n op fl last : Nat} {cn un sz sr bk so : Nat → Nat} (h3 : g3 n last cn un sz sr bk so) (h4 : g4 n cn un sz sr) (h8 : ∀ s, s < n → cn s ≤ 8) {k j : Nat} (hk : vld n cn k) (hj : vld n cn j) (e : pl un k = pl un j) : k = j := by
  have a := h3 k hk
  have b := h3 j hj
  unfold pl at e
  have es : k / 8 = j / 8 := by omega
  rcases Nat.lt_trichotomy k j with h | h | h
  · have := slot_lt h4 h8 hk hj es h; omega
  · exact h
  · have := slot_lt h4 h8 hj hk es.symm h; omega
