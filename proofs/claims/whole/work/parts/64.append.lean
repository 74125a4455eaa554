/-! free segments, appending, going down -/
def fc (st : Nat → Nat) : Nat → Nat
  | 0 => 0
  | s + 1 => fc st s + (if st s = 0 then 1 else 0)
theorem fc_le (st : Nat → Nat) : ∀ n, fc st n ≤ n := by
  intro n
  induction n with
  | zero => exact Nat.le_refl _
  | succ n ih => rw [fc]; by_cases h : st n = 0 <;> simp [h] <;> omega
theorem nI_z {t : Nat} (h : t ≤ 2) : nI t = (0 : Int32) ↔ t = 0 := nI_eq (b := 0) (by omega) (by omega)
theorem freeU_L {n : Nat} (hn : n ≤ 8) {st : Nat → Nat} {S : Nat → Int32} (h1 : ∀ s, s < n → st s ≤ 2) (h2 : ∀ s, s < n → S s = nI (st s)) (K : Int32 → Int32 → Option Int32) : ∀ (d fuel i : Nat), i + d = n → d < fuel → U_freeSegments_L4 n S K fuel (nI (fc st i)) (nI i) = K (nI (fc st n)) (nI n) := by
  intro d
  induction d with
  | zero =>
    intro fuel i hi hf
    obtain ⟨f, rfl⟩ : ∃ f, fuel = f + 1 := ⟨fuel - 1, by omega⟩
    obtain rfl : i = n := by omega
    rw [U_freeSegments_L4, if_pos (q_le (by omega) (by omega) (Nat.le_refl _))]
  | succ d ih =>
    intro fuel i hi hf
    obtain ⟨f, rfl⟩ : ∃ f, fuel = f + 1 := ⟨fuel - 1, by omega⟩
    rw [U_freeSegments_L4, if_neg (q_nle (by omega) (by omega) (by omega)), q_ck (by omega) (by omega), nI_clamp (by omega), h2 i (by omega), nI_1, nI_1]
    have hh := ih f (i + 1) (by omega) (by omega)
    rw [fc] at hh
    by_cases e : st i = 0
    · rw [if_pos ((nI_z (h1 i (by omega))).mpr e)]
      rw [if_pos e] at hh; exact hh
    · rw [if_neg (fun q => e ((nI_z (h1 i (by omega))).mp q))]
      rw [if_neg e] at hh; exact hh
theorem freeM_L {n : Nat} (hn : n ≤ 8) {st : Nat → Nat} {S : Nat → Int32} (h1 : ∀ s, s < n → st s ≤ 2) (h2 : ∀ s, s < n → S s = nI (st s)) (K : Int32 → Int32 → Option Int32) : ∀ (d fuel i : Nat), i + d = n → d < fuel → M_free_L4 (nI n) S K fuel (nI (fc st i)) (nI i) = K (nI (fc st n)) (nI n) := by
  intro d
  induction d with
  | zero =>
    intro fuel i hi hf
    obtain ⟨f, rfl⟩ : ∃ f, fuel = f + 1 := ⟨fuel - 1, by omega⟩
    obtain rfl : i = n := by omega
    rw [M_free_L4, if_pos (q_le (by omega) (by omega) (Nat.le_refl _))]
  | succ d ih =>
    intro fuel i hi hf
    obtain ⟨f, rfl⟩ : ∃ f, fuel = f + 1 := ⟨fuel - 1, by omega⟩
    rw [M_free_L4, if_neg (q_nle (by omega) (by omega) (by omega)), q_ck (by omega) (by omega), nI_clamp (by omega), h2 i (by omega), nI_1, nI_1]
    have hh := ih f (i + 1) (by omega) (by omega)
    rw [fc] at hh
    by_cases e : st i = 0
    · rw [if_pos ((nI_z (h1 i (by omega))).mpr e)]
      rw [if_pos e] at hh; exact hh
    · rw [if_neg (fun q => e ((nI_z (h1 i (by omega))).mp q))]
      rw [if_neg e] at hh; exact hh
theorem freeU {n : Nat} (hn : n ≤ 8) {st : Nat → Nat} {S : Nat → Int32} (h1 : ∀ s, s < n → st s ≤ 2) (h2 : ∀ s, s < n → S s = nI (st s)) : U_freeSegments n S = some (nI (fc st n)) := by
  unfold U_freeSegments
  exact freeU_L hn h1 h2 _ n 300 0 (by omega) (by omega)
theorem freeM {n : Nat} (hn : n ≤ 8) {st : Nat → Nat} {S : Nat → Int32} (h1 : ∀ s, s < n → st s ≤ 2) (h2 : ∀ s, s < n → S s = nI (st s)) : M_free (nI n) S = some (nI (fc st n)) := by
  unfold M_free
  exact freeM_L hn h1 h2 _ n 300 0 (by omega) (by omega)
theorem fc_pos {st : Nat → Nat} : ∀ n, 1 ≤ fc st n → ∃ j, j < n ∧ st j = 0 ∧ ∀ i, i < j → st i ≠ 0 := by
  intro n
  induction n with
  | zero => intro h; exact absurd h (by show ¬ 1 ≤ 0; omega)
  | succ n ih =>
    intro h
    by_cases h1 : 1 ≤ fc st n
    · obtain ⟨j, a, b, c⟩ := ih h1; exact ⟨j, by omega, b, c⟩
    · have h0 : ∀ m, m ≤ n → fc st m = 0 := by
        intro m
        induction m with
        | zero => intro _; rfl
        | succ m ihm =>
          intro hm
          have mono : ∀ k, fc st (m + 1) ≤ fc st (m + 1 + k) := by
            intro k
            induction k with
            | zero => exact Nat.le_refl _
            | succ k ihk => exact Nat.le_trans ihk (Nat.le_add_right _ _)
          have := mono (n - (m + 1))
          rw [show m + 1 + (n - (m + 1)) = n by omega] at this
          omega
      have e : st n = 0 := by
        rw [fc] at h
        rcases Nat.eq_zero_or_pos (st n) with q | q
        · exact q
        · rw [if_neg (by omega)] at h; omega
      refine ⟨n, by omega, e, fun i hi q => ?_⟩
      have := h0 (i + 1) (by omega)
      rw [fc, if_pos q] at this
      omega
theorem lowU {n j : Nat} (hn : n ≤ 8) (hj : j < n) {S : Nat → Int32} (h0 : S j = 0) (h1 : ∀ i, i < j → S i ≠ 0) : U_lowestFree n S = some (nI j) := by
  unfold U_lowestFree
  suffices h : ∀ (d fuel i : Nat), i + d = j → d < fuel → ∀ K, U_lowestFree_L2 n S K fuel (nI i) = some (nI j) from h j 300 0 (by omega) (by omega) _
  intro d
  induction d with
  | zero =>
    intro fuel i hi hf K
    obtain ⟨f, rfl⟩ : ∃ f, fuel = f + 1 := ⟨fuel - 1, by omega⟩
    obtain rfl : i = j := by omega
    rw [U_lowestFree_L2, if_neg (q_nle (by omega) (by omega) (by omega)), q_ck hj (by omega), nI_clamp (by omega), if_pos h0]
  | succ d ih =>
    intro fuel i hi hf K
    obtain ⟨f, rfl⟩ : ∃ f, fuel = f + 1 := ⟨fuel - 1, by omega⟩
    rw [U_lowestFree_L2, if_neg (q_nle (by omega) (by omega) (by omega)), q_ck (by omega) (by omega), nI_clamp (by omega), if_neg (h1 i (by omega)), nI_1]
    exact ih f (i + 1) (by omega) (by omega) K
theorem lowM {n j : Nat} (hn : n ≤ 8) (hj : j < n) {S : Nat → Int32} (h0 : S j = 0) (h1 : ∀ i, i < j → S i ≠ 0) : M_lowestFree (nI n) S = some (nI j) := by
  unfold M_lowestFree
  have hs : nI n - (1 : Int32) = nI (n - 1) := pk_sub (b := 1) (by omega)
  suffices h : ∀ (d fuel i : Nat), i + d = j → d < fuel → M_lowestFree_L2 (nI n) S (fun x1_k2 => some x1_k2) fuel (nI i) = some (nI j) from h j 300 0 (by omega) (by omega)
  intro d
  induction d with
  | zero =>
    intro fuel i hi hf
    obtain ⟨f, rfl⟩ : ∃ f, fuel = f + 1 := ⟨fuel - 1, by omega⟩
    obtain rfl : i = j := by omega
    rw [M_lowestFree_L2, hs]
    by_cases e : n - 1 ≤ i
    · rw [if_pos (q_le (by omega) (by omega) e)]
    · rw [if_neg (q_nle (by omega) (by omega) (by omega)), q_ck (by omega) (by omega), nI_clamp (by omega), if_pos h0]
  | succ d ih =>
    intro fuel i hi hf
    obtain ⟨f, rfl⟩ : ∃ f, fuel = f + 1 := ⟨fuel - 1, by omega⟩
    rw [M_lowestFree_L2, hs, if_neg (q_nle (by omega) (by omega) (by omega)), q_ck (by omega) (by omega), nI_clamp (by omega), if_neg (h1 i (by omega)), nI_1]
    exact ih f (i + 1) (by omega) (by omega)
theorem nar01 {x : Nat} (h : x ≤ 1) : vp_nar .boolean (nI x) = nI x := by
  rcases (show x = 0 ∨ x = 1 by omega) with rfl | rfl <;> decide
theorem appU {n : Nat} {op : Nat} {fl : Nat} {last : Nat} {kl : Nat} {ko : Nat} {kf : Nat} {st : Nat → Nat} {cn : Nat → Nat} {un : Nat → Nat} {sz : Nat → Nat} {sr : Nat → Nat} {bk : Nat → Nat} {so : Nat → Nat} {sav : Nat → Nat} {pa : Nat → Nat} {ka : Nat → Nat} {hi : Nat → Int64} {lo : Nat → Int64} {N : Nat} {uOpen : Int32} {uFill : Int32} {uSaved : Int32} {uSerial : Int32} {cSerial : Int32} {cOpen : Int32} {cFill : Int32} {uSts : Nat → Int32} {uPlcs : Nat → Int32} {cPlcs : Nat → Int32} {uSers : Nat → Int32} {uBlks : Nat → Int32} {uUnts : Nat → Int32} {uStos : Nat → Int32} {uHis : Nat → Int64} {uLos : Nat → Int64} {uA uW : Int32} (g : (GI n op fl last kl ko kf st cn un sz sr bk so sav pa ka)) (h : (RU 0 N n op fl last kl ko kf st cn un sz sr bk so sav pa ka hi lo uOpen uFill uSaved uSerial cSerial cOpen cFill uSts uPlcs cPlcs uSers uBlks uUnts uStos uHis uLos)) (u b x : Nat) (y z : Int64) (hf : fl + u ≤ 16) (hu : 2 ≤ u) (hb : b < 16) (hx : x ≤ 1) :
    U_append_J20 N uOpen uFill uSaved uSerial uA uW uSers uBlks uUnts uStos uHis uLos uSts uPlcs (nI b) (nI u) (nI x) y z = some (1, uOpen, nI fl + nI u, uSaved, nI last + (1 : Int32), uA, uW, upd uSers (16 * op + fl) (nI last + (1 : Int32)), upd uBlks (16 * op + fl) (nI b), upd uUnts (16 * op + fl) (nI u), upd uStos (16 * op + fl) (nI x), vp_updL uHis (16 * op + fl) y, vp_updL uLos (16 * op + fl) z, uSts, upd uPlcs b (if x = 1 then nI (16 * op + fl) else (-1 : Int32))) := by
  obtain ⟨⟨b1, b2, b3, b4, b5, b6, b7, b8, b9, b10⟩, -⟩ := g
  obtain ⟨rfl, rfl, rfl, -, rfl, -⟩ := h
  have e : nI op * (16 : Int32) + nI fl = nI (16 * op + fl) := by
    rw [show (16 : Int32) = nI 16 from rfl, pk_mul, nI_add]; congr 1; omega
  unfold U_append_J20
  rw [e]
  simp only [q_ck (show 16 * op + fl < 16 * n by omega) (show 16 * n < 2 ^ 31 by omega), q_ck hb (show 16 < 2 ^ 31 by omega), nI_clamp (show 16 * op + fl < 2 ^ 31 by omega), nI_clamp (show b < 2 ^ 31 by omega), nar01 hx]
  rcases (show x = 0 ∨ x = 1 by omega) with rfl | rfl
  · rw [if_pos (by decide), if_neg (by decide)]
  · rw [if_neg (by decide), if_pos rfl]
theorem appM {n : Nat} {op : Nat} {fl : Nat} {last : Nat} {kl : Nat} {ko : Nat} {kf : Nat} {st : Nat → Nat} {cn : Nat → Nat} {un : Nat → Nat} {sz : Nat → Nat} {sr : Nat → Nat} {bk : Nat → Nat} {so : Nat → Nat} {sav : Nat → Nat} {pa : Nat → Nat} {ka : Nat → Nat} {hi : Nat → Int64} {lo : Nat → Int64} {mSegs : Int32} {mOpen : Int32} {mLast : Int32} {mKLast : Int32} {mKOpen : Int32} {mKFill : Int32} {mSt : Nat → Int32} {mFil : Nat → Int32} {mSav : Nat → Int32} {mCnt : Nat → Int32} {mBlk : Nat → Int32} {mSto : Nat → Int32} {mUnt : Nat → Int32} {mSiz : Nat → Int32} {mSer : Nat → Int32} {mAt : Nat → Int32} {mKAt : Nat → Int32} {mHi : Nat → Int64} {mLo : Nat → Int64} {mD mL mW : Int32} (g : (GI n op fl last kl ko kf st cn un sz sr bk so sav pa ka)) (h : (RM n op fl last kl ko kf st cn un sz sr bk so sav pa ka hi lo mSegs mOpen mLast mKLast mKOpen mKFill mSt mFil mSav mCnt mBlk mSto mUnt mSiz mSer mAt mKAt mHi mLo)) (u b x : Nat) (y z : Int64) (hf : fl + u ≤ 16) (hu : 2 ≤ u) (hb : b < 16) (hx : x ≤ 1) :
    M_append_J83 mOpen mLast mD mL mW mSt mFil mSav mCnt mBlk mSto mUnt mSiz mSer mHi mLo mAt (nI b) (nI x) (nI u) y z = some (1, mOpen, nI last + (1 : Int32), mD, mL, mW, mSt, upd mFil op (nI fl + nI u), mSav, upd mCnt op (nI (cn op) + (1 : Int32)), upd mBlk (8 * op + cn op) (nI b), upd mSto (8 * op + cn op) (nI x), upd mUnt (8 * op + cn op) (nI fl), upd mSiz (8 * op + cn op) (nI u), upd mSer (8 * op + cn op) (nI last + (1 : Int32)), vp_updL mHi (8 * op + cn op) y, vp_updL mLo (8 * op + cn op) z, upd mAt b (if x = 1 then nI (8 * op + cn op) else (-1 : Int32))) := by
  have h8 := cn_lt g (by omega)
  obtain ⟨⟨b1, b2, b3, b4, b5, b6, b7, b8, b9, b10⟩, -⟩ := g
  obtain ⟨rfl, rfl, rfl, -, -, -, m7, m8, -⟩ := h
  have hc := (m8 op b3).2.2
  have e : (8 : Int32) * nI op + nI (cn op) = nI (8 * op + cn op) := by
    rw [show (8 : Int32) = nI 8 from rfl, pk_mul, nI_add]
  unfold M_append_J83
  simp only [nI_clamp (show op < 2 ^ 31 by omega), hc, m7, e, q_ck (show 8 * op + cn op < 64 by omega) (show 64 < 2 ^ 31 by omega), q_ck (show op < 8 by omega) (show 8 < 2 ^ 31 by omega), q_ck hb (show 16 < 2 ^ 31 by omega), nI_clamp (show 8 * op + cn op < 2 ^ 31 by omega), nI_clamp (show b < 2 ^ 31 by omega), nar01 hx]
  rcases (show x = 0 ∨ x = 1 by omega) with rfl | rfl
  · rw [if_pos (by decide), if_neg (by decide)]
  · rw [if_neg (by decide), if_pos rfl]
/-- what going down forgets -/
def fg (Z : Nat → Nat) (op sv : Nat) (S : Nat → Int32) : Nat → Nat → Int32 := fun i p => if p / 16 = op ∧ p % 16 < i ∧ sv < p % 16 + Z p then 0 else S p
theorem fg_L {n op sv : Nat} (hn : n ≤ 8) (ho : op < n) (hsv : sv ≤ 16) {U S : Nat → Int32} {Z : Nat → Nat} (hU : ∀ p, p < 16 * n → U p = nI (Z p) ∧ Z p ≤ 6) (K : (Nat → Int32) → Int32 → Option (Nat → Int32)) : ∀ (d fuel i : Nat), i + d = 16 → d < fuel → R_forgetUnsaved_L8 (16 * n) U (nI sv) (nI (16 * op)) K fuel (fg Z op sv S i) (nI i) = K (fg Z op sv S 16) (nI 16) := by
  intro d
  induction d with
  | zero =>
    intro fuel i hi hf
    obtain ⟨f, rfl⟩ : ∃ f, fuel = f + 1 := ⟨fuel - 1, by omega⟩
    obtain rfl : i = 16 := by omega
    rw [R_forgetUnsaved_L8, if_pos (by decide)]
  | succ d ih =>
    intro fuel i hi hf
    obtain ⟨f, rfl⟩ : ∃ f, fuel = f + 1 := ⟨fuel - 1, by omega⟩
    obtain ⟨z1, z2⟩ := hU (16 * op + i) (by omega)
    rw [R_forgetUnsaved_L8, if_neg (show ¬ (16 : Int32) ≤ nI i from q_nle (a := 16) (by omega) (by omega) (by omega)), nI_add, q_ck (by omega) (by omega), nI_clamp (by omega), z1, nI_add, nI_1]
    have hh := ih f (i + 1) (by omega) (by omega)
    by_cases e : i + Z (16 * op + i) ≤ sv
    · rw [if_pos (q_le (by omega) (by omega) e)]
      rw [show fg Z op sv S (i + 1) = fg Z op sv S i from by
        funext p
        unfold fg
        by_cases c1 : p / 16 = op ∧ p % 16 < i ∧ sv < p % 16 + Z p
        · rw [if_pos c1, if_pos (by omega)]
        · rw [if_neg c1, if_neg]
          intro c2
          have : p = 16 * op + i := by omega
          subst this
          rw [show (16 * op + i) % 16 = i by omega] at c2
          omega] at hh
      exact hh
    · rw [if_neg (q_nle (by omega) (by omega) (by omega)), q_ck (by omega) (by omega)]
      rw [show fg Z op sv S (i + 1) = upd (fg Z op sv S i) (16 * op + i) (0 : Int32) from by
        funext p
        by_cases c : p = 16 * op + i
        · subst c
          rw [upd_s]
          unfold fg
          rw [if_pos (by rw [show (16 * op + i) % 16 = i by omega]; omega)]
        · rw [upd_n _ _ c]
          unfold fg
          by_cases c1 : p / 16 = op ∧ p % 16 < i ∧ sv < p % 16 + Z p
          · rw [if_pos c1, if_pos (by omega)]
          · rw [if_neg c1, if_neg (by omega)]] at hh
      exact hh
theorem down_ok {n : Nat} {op : Nat} {fl : Nat} {last : Nat} {kl : Nat} {ko : Nat} {kf : Nat} {st : Nat → Nat} {cn : Nat → Nat} {un : Nat → Nat} {sz : Nat → Nat} {sr : Nat → Nat} {bk : Nat → Nat} {so : Nat → Nat} {sav : Nat → Nat} {pa : Nat → Nat} {ka : Nat → Nat} {hi : Nat → Int64} {lo : Nat → Int64} {N : Nat} {uOpen : Int32} {uFill : Int32} {uSaved : Int32} {uSerial : Int32} {cSerial : Int32} {cOpen : Int32} {cFill : Int32} {uSts : Nat → Int32} {uPlcs : Nat → Int32} {cPlcs : Nat → Int32} {uSers : Nat → Int32} {uBlks : Nat → Int32} {uUnts : Nat → Int32} {uStos : Nat → Int32} {uHis : Nat → Int64} {uLos : Nat → Int64} {uDown : Int32} (g : (GI n op fl last kl ko kf st cn un sz sr bk so sav pa ka)) (h : (RU 0 N n op fl last kl ko kf st cn un sz sr bk so sav pa ka hi lo uOpen uFill uSaved uSerial cSerial cOpen cFill uSts uPlcs cPlcs uSers uBlks uUnts uStos uHis uLos)) : ∃ S, U_goDown N uOpen uSaved uDown uSers uUnts = some (-4, 1, S) ∧ (RU 1 N n op fl last kl ko kf st cn un sz sr bk so sav pa ka hi lo uOpen uFill uSaved uSerial cSerial cOpen cFill uSts uPlcs cPlcs S uBlks uUnts uStos uHis uLos) := by
  obtain ⟨⟨b1, b2, b3, b4, b5, b6, b7, b8, b9, b10⟩, -, g3', -, -, g6', -⟩ := g
  obtain ⟨rfl, rfl, rfl, rfl, a5, a6, a7, a8, a9, a10, a11, a12, a13⟩ := h
  have hZ : ∃ Z : Nat → Nat, ∀ p, p < 16 * n → uUnts p = nI (Z p) ∧ Z p ≤ 6 := ⟨fun p => (uUnts p).toNatClampNeg, fun p hp => by
    obtain ⟨-, z, z1, z2⟩ := a11 p hp
    show uUnts p = nI (uUnts p).toNatClampNeg ∧ (uUnts p).toNatClampNeg ≤ 6
    rw [z2, nI_clamp (by omega)]; exact ⟨rfl, z1⟩⟩
  obtain ⟨Z, hZ⟩ := hZ
  refine ⟨fg Z op (sav op) uSers 16, ?_, rfl, rfl, rfl, rfl, a5, a6, a7, a8, a9, a10, a11, a12, fun p hp w h1 h2 => ?_⟩
  · unfold U_goDown R_forgetUnsaved
    have h0 : fg Z op (sav op) uSers 0 = uSers := by
      funext p; unfold fg; rw [if_neg (by omega)]
    have := fg_L (K := fun uSers_k8 x4_k8 => some (uSers_k8)) b2 b3 (by omega : sav op ≤ 16) (S := uSers) hZ 16 300 0 (by omega) (by omega)
    rw [h0] at this
    rw [show nI op * (16 : Int32) = nI (16 * op) from by rw [show (16 : Int32) = nI 16 from rfl, pk_mul, Nat.mul_comm], show (0 : Int32) = nI 0 from rfl, this, Option.bind_some]
  · have hz : ∀ k, vld n cn k → pl un k = p → Z p = sz k ∧ p / 16 = k / 8 ∧ p % 16 = un k := fun k hk e => by
      have q1 := (a12 k hk).2.1
      have q2 := g3' k hk
      subst e
      rw [(hZ _ hp).1] at q1
      have q3 := (nI_eq (by have := (hZ _ hp).2; omega) (by omega)).mp q1
      refine ⟨q3, ?_, ?_⟩ <;> unfold pl <;> omega
    unfold fg
    by_cases c : p / 16 = op ∧ p % 16 < 16 ∧ sav op < p % 16 + Z p
    · rw [if_pos c]
      constructor
      · intro q; exact absurd q.symm (q_ne (b := 0) (by omega) (by omega) (by omega))
      · rintro ⟨k, q1, q2, q3, q4⟩
        obtain ⟨x1, x2, x3⟩ := hz k q1 q2
        have q5 := q4 rfl
        rw [← x2, c.1] at q5
        omega
    · rw [if_neg c, a13 p hp w h1 h2]
      constructor
      · rintro ⟨k, q1, q2, q3, _⟩
        refine ⟨k, q1, q2, q3, fun _ => ?_⟩
        obtain ⟨x1, x2, x3⟩ := hz k q1 q2
        by_cases e : k / 8 = op
        · rw [e]; omega
        · exact g6'.2.1 k q1 e (by omega)
      · rintro ⟨k, q1, q2, q3, _⟩
        exact ⟨k, q1, q2, q3, fun q => absurd q (by omega)⟩
