/-! recovery: finding, rolling -/
theorem php : ∀ (m q : Nat) (f : Nat → Nat), (∀ i, i < q → f i < m) → (∀ i j, i < q → j < q → f i = f j → i = j) → q ≤ m := by
  intro m
  induction m with
  | zero =>
    intro q f h1 _
    rcases Nat.eq_zero_or_pos q with h | h
    · omega
    · have := h1 0 h; omega
  | succ m ih =>
    intro q f h1 h2
    rcases Nat.eq_zero_or_pos q with h | h
    · omega
    · have := ih (q - 1) (fun i => if f (q - 1) < f i then f i - 1 else f i) (fun i hi => by
        have a := h1 i (by omega)
        have b := h1 (q - 1) (by omega)
        have c : f i ≠ f (q - 1) := fun e => by have := h2 i (q - 1) (by omega) (by omega) e; omega
        show (if f (q - 1) < f i then f i - 1 else f i) < m
        by_cases w : f (q - 1) < f i
        · rw [if_pos w]; omega
        · rw [if_neg w]; omega) (fun i j hi hj e => by
        have ci : f i ≠ f (q - 1) := fun e => by have := h2 i (q - 1) (by omega) (by omega) e; omega
        have cj : f j ≠ f (q - 1) := fun e => by have := h2 j (q - 1) (by omega) (by omega) e; omega
        have e : (if f (q - 1) < f i then f i - 1 else f i) = (if f (q - 1) < f j then f j - 1 else f j) := e
        refine h2 i j (by omega) (by omega) ?_
        by_cases w : f (q - 1) < f i
        · rw [if_pos w] at e
          by_cases w2 : f (q - 1) < f j
          · rw [if_pos w2] at e; omega
          · rw [if_neg w2] at e; omega
        · rw [if_neg w] at e
          by_cases w2 : f (q - 1) < f j
          · rw [if_pos w2] at e; omega
          · rw [if_neg w2] at e; omega)
      omega
theorem new_le {n last kl c : Nat} {cn sr : Nat → Nat} (h8 : ∀ s, s < n → cn s ≤ 8) (h : g7 n last kl cn sr) (hc : c ≤ last) : c - kl ≤ 8 * n := by
  have hex : ∀ i, ∃ k, i < c - kl → vld n cn k ∧ sr k = kl + 1 + i := fun i => by
    by_cases hi : i < c - kl
    · obtain ⟨k, k1, k2⟩ := h (kl + 1 + i) (by omega) (by omega)
      exact ⟨k, fun _ => ⟨k1, k2⟩⟩
    · exact ⟨0, fun q => absurd q hi⟩
  refine php (8 * n) (c - kl) (fun i => Classical.choose (hex i)) (fun i hi => ?_) (fun i j hi hj e => ?_)
  · have h2 := (Classical.choose_spec (hex i) hi).1.1
    show Classical.choose (hex i) < 8 * n
    generalize Classical.choose (hex i) = k at h2 ⊢
    have h3 : k / 8 < n := h2
    omega
  · have a := (Classical.choose_spec (hex i) hi).2
    have b := (Classical.choose_spec (hex j) hj).2
    have e : Classical.choose (hex i) = Classical.choose (hex j) := e
    rw [e, b] at a
    omega
theorem findU {N p0 : Nat} {S : Nat → Int32} {x : Int32} (hN : N ≤ 128) (hp : p0 < N) (h0 : S p0 = x) (h1 : ∀ p, p < p0 → S p ≠ x) : R_find N S x = some (nI p0) := by
  unfold R_find
  suffices h : ∀ (d fuel i : Nat), i + d = p0 → d < fuel → ∀ K, R_find_L2 N S x K fuel (nI i) = some (nI p0) from h p0 300 0 (by omega) (by omega) _
  intro d
  induction d with
  | zero =>
    intro fuel i hi hf K
    obtain ⟨f, rfl⟩ : ∃ f, fuel = f + 1 := ⟨fuel - 1, by omega⟩
    obtain rfl : i = p0 := by omega
    rw [R_find_L2, if_neg (q_nle (by omega) (by omega) (by omega)), q_ck hp (by omega), nI_clamp (by omega), if_pos h0]
  | succ d ih =>
    intro fuel i hi hf K
    obtain ⟨f, rfl⟩ : ∃ f, fuel = f + 1 := ⟨fuel - 1, by omega⟩
    rw [R_find_L2, if_neg (q_nle (by omega) (by omega) (by omega)), q_ck (by omega) (by omega), nI_clamp (by omega), if_neg (h1 i (by omega)), nI_1]
    exact ih f (i + 1) (by omega) (by omega) K
theorem findU0 {N : Nat} {S : Nat → Int32} {x : Int32} (hN : N ≤ 128) (h1 : ∀ p, p < N → S p ≠ x) : R_find N S x = some (-1) := by
  unfold R_find
  suffices h : ∀ (d fuel i : Nat), i + d = N → d < fuel → R_find_L2 N S x (fun x2_k2 => some (-1 : Int32)) fuel (nI i) = some (-1) from h N 300 0 (by omega) (by omega)
  intro d
  induction d with
  | zero =>
    intro fuel i hi hf
    obtain ⟨f, rfl⟩ : ∃ f, fuel = f + 1 := ⟨fuel - 1, by omega⟩
    obtain rfl : i = N := by omega
    rw [R_find_L2, if_pos (q_le (by omega) (by omega) (Nat.le_refl _))]
  | succ d ih =>
    intro fuel i hi hf
    obtain ⟨f, rfl⟩ : ∃ f, fuel = f + 1 := ⟨fuel - 1, by omega⟩
    rw [R_find_L2, if_neg (q_nle (by omega) (by omega) (by omega)), q_ck (by omega) (by omega), nI_clamp (by omega), if_neg (h1 i (by omega)), nI_1]
    exact ih f (i + 1) (by omega) (by omega)
def hit (un sz sr sav : Nat → Nat) (w k : Nat) : Prop := sr k = w ∧ un k + sz k ≤ sav (k / 8)
theorem findM15 {n w s : Nat} {cn un sz sr sav : Nat → Nat} {mSav mCnt mUnt mSiz mSer : Nat → Int32} (hn : n ≤ 8) (hs : s < n) (h8 : cn s ≤ 8) (hw : w < 2 ^ 31) (hsv : sav s ≤ 16) (e1 : mCnt s = nI (cn s)) (e2 : mSav s = nI (sav s)) (e3 : ∀ i, i < cn s → mUnt (8 * s + i) = nI (un (8 * s + i)) ∧ mSiz (8 * s + i) = nI (sz (8 * s + i)) ∧ mSer (8 * s + i) = nI (sr (8 * s + i)) ∧ un (8 * s + i) + sz (8 * s + i) ≤ 16 ∧ sr (8 * s + i) < 2 ^ 31) (K : Int32 → Option Int32) : ∀ (d fuel c : Nat), c + d = cn s → d < fuel →
    (∃ i, c ≤ i ∧ i < cn s ∧ hit un sz sr sav w (8 * s + i) ∧ (∀ j, c ≤ j → j < i → ¬ hit un sz sr sav w (8 * s + j)) ∧ M_find_L15 mSav mCnt mUnt mSiz mSer (nI w) (nI s) K fuel (nI (8 * s + c)) = some (nI (8 * s + i))) ∨
    ((∀ j, c ≤ j → j < cn s → ¬ hit un sz sr sav w (8 * s + j)) ∧ ∃ x, M_find_L15 mSav mCnt mUnt mSiz mSer (nI w) (nI s) K fuel (nI (8 * s + c)) = K x) := by
  intro d
  induction d with
  | zero =>
    intro fuel c hc hf
    obtain ⟨f, rfl⟩ : ∃ f, fuel = f + 1 := ⟨fuel - 1, by omega⟩
    obtain rfl : c = cn s := by omega
    right
    refine ⟨fun j h1 h2 => absurd h1 (by omega), nI (8 * s + cn s), ?_⟩
    rw [M_find_L15, q_ck (by omega) (by omega), nI_clamp (by omega), e1, show (8 : Int32) * nI s = nI (8 * s) from pk_mul 8 s, nI_add, if_pos (q_le (by omega) (by omega) (Nat.le_refl _))]
  | succ d ih =>
    intro fuel c hc hf
    obtain ⟨f, rfl⟩ : ∃ f, fuel = f + 1 := ⟨fuel - 1, by omega⟩
    obtain ⟨z1, z2, z3, z4, z5⟩ := e3 c (by omega)
    have hs8 : (8 * s + c) / 8 = s := by omega
    rw [M_find_L15, q_ck (by omega) (by omega), nI_clamp (by omega), e1, show (8 : Int32) * nI s = nI (8 * s) from pk_mul 8 s, nI_add, if_neg (q_nle (by omega) (by omega) (by omega)), q_ck (by omega) (by omega), nI_clamp (by omega), z3, nI_1]
    have hn' := ih f (c + 1) (by omega) (by omega)
    by_cases q1 : sr (8 * s + c) = w
    · rw [if_pos (by rw [q1]), q_ck (by omega) (by omega), q_ck (by omega) (by omega), q_ck (by omega) (by omega), e2, z1, z2, nI_add]
      by_cases q2 : sav s < un (8 * s + c) + sz (8 * s + c)
      · rw [if_pos (q_lt (by omega) (by omega) q2)]
        have hno : ¬ hit un sz sr sav w (8 * s + c) := fun q => by unfold hit at q; rw [hs8] at q; omega
        rcases hn' with ⟨i, i1, i2, i3, i4, i5⟩ | ⟨i1, i2⟩
        · left
          refine ⟨i, by omega, i2, i3, fun j j1 j2 => ?_, i5⟩
          rcases Nat.eq_or_lt_of_le j1 with e | e
          · subst e; exact hno
          · exact i4 j e j2
        · right
          refine ⟨fun j j1 j2 => ?_, i2⟩
          rcases Nat.eq_or_lt_of_le j1 with e | e
          · subst e; exact hno
          · exact i1 j e j2
      · rw [if_neg (q_nlt (by omega) (by omega) (by omega))]
        left
        exact ⟨c, Nat.le_refl _, by omega, ⟨q1, by rw [hs8]; omega⟩, fun j j1 j2 => absurd j1 (by omega), rfl⟩
    · rw [if_neg (q_ne z5 hw q1)]
      have hno : ¬ hit un sz sr sav w (8 * s + c) := fun q => q1 q.1
      rcases hn' with ⟨i, i1, i2, i3, i4, i5⟩ | ⟨i1, i2⟩
      · left
        refine ⟨i, by omega, i2, i3, fun j j1 j2 => ?_, i5⟩
        rcases Nat.eq_or_lt_of_le j1 with e | e
        · subst e; exact hno
        · exact i4 j e j2
      · right
        refine ⟨fun j j1 j2 => ?_, i2⟩
        rcases Nat.eq_or_lt_of_le j1 with e | e
        · subst e; exact hno
        · exact i1 j e j2
theorem findM {n w : Nat} {cn un sz sr sav : Nat → Nat} {mSav mCnt mUnt mSiz mSer : Nat → Int32} (hn : n ≤ 8) (h8 : ∀ s, s < n → cn s ≤ 8) (hw : w < 2 ^ 31) (hsv : ∀ s, s < n → sav s ≤ 16) (e1 : ∀ s, s < n → mCnt s = nI (cn s) ∧ mSav s = nI (sav s)) (e3 : ∀ k, vld n cn k → mUnt k = nI (un k) ∧ mSiz k = nI (sz k) ∧ mSer k = nI (sr k) ∧ un k + sz k ≤ 16 ∧ sr k < 2 ^ 31) :
    (∃ k, vld n cn k ∧ hit un sz sr sav w k ∧ (∀ j, vld n cn j → hit un sz sr sav w j → k ≤ j) ∧ M_find (nI n) mSav mCnt mUnt mSiz mSer (nI w) = some (nI k)) ∨
    ((∀ j, vld n cn j → ¬ hit un sz sr sav w j) ∧ M_find (nI n) mSav mCnt mUnt mSiz mSer (nI w) = some (-1)) := by
  unfold M_find
  suffices H : ∀ (d fuel s : Nat), s + d = n → d < fuel →
      (∃ k, vld n cn k ∧ hit un sz sr sav w k ∧ (∀ j, vld n cn j → s ≤ j / 8 → hit un sz sr sav w j → k ≤ j) ∧ M_find_L2 (nI n) mSav mCnt mUnt mSiz mSer (nI w) (fun x2_k2 => some (-1 : Int32)) fuel (nI s) = some (nI k)) ∨
      ((∀ j, vld n cn j → s ≤ j / 8 → ¬ hit un sz sr sav w j) ∧ M_find_L2 (nI n) mSav mCnt mUnt mSiz mSer (nI w) (fun x2_k2 => some (-1 : Int32)) fuel (nI s) = some (-1)) by
    rcases H n 300 0 (by omega) (by omega) with ⟨k, k1, k2, k3, k4⟩ | ⟨k1, k2⟩
    · exact Or.inl ⟨k, k1, k2, fun j j1 j2 => k3 j j1 (by omega) j2, k4⟩
    · exact Or.inr ⟨fun j j1 => k1 j j1 (by omega), k2⟩
  intro d
  induction d with
  | zero =>
    intro fuel s hs hf
    obtain ⟨f, rfl⟩ : ∃ f, fuel = f + 1 := ⟨fuel - 1, by omega⟩
    right
    refine ⟨fun j j1 j2 => ?_, ?_⟩
    · unfold vld at j1; omega
    · rw [M_find_L2, if_pos (q_le (by omega) (by omega) (by omega))]
  | succ d ih =>
    intro fuel s hs hf
    obtain ⟨f, rfl⟩ : ∃ f, fuel = f + 1 := ⟨fuel - 1, by omega⟩
    have hsn : s < n := by omega
    have hv : ∀ j, vld n cn j → j / 8 = s → ∃ i, i < cn s ∧ j = 8 * s + i := fun j hj e => ⟨j % 8, by unfold vld at hj; rw [e] at hj; exact hj.2, by omega⟩
    rw [M_find_L2, if_neg (q_nle (by omega) (by omega) (by omega)), show (8 : Int32) * nI s = nI (8 * s + 0) from pk_mul 8 s, nI_1]
    rcases findM15 hn hsn (h8 s hsn) hw (hsv s hsn) (e1 s hsn).1 (e1 s hsn).2 (fun i hi => e3 _ (vld_si hsn (h8 s hsn) hi)) (fun x3_k15 => M_find_L2 (nI n) mSav mCnt mUnt mSiz mSer (nI w) (fun x2_k2 => some (-1 : Int32)) f (nI (s + 1))) (cn s) 300 0 (by omega) (by have := h8 s hsn; omega) with ⟨i, i1, i2, i3, i4, i5⟩ | ⟨i1, x, i2⟩
    · left
      refine ⟨8 * s + i, vld_si hsn (h8 s hsn) i2, i3, fun j j1 j2 j3 => ?_, i5⟩
      by_cases e : j / 8 = s
      · obtain ⟨i', h1, rfl⟩ := hv j j1 e
        rcases Nat.lt_or_ge i' i with q | q
        · exact absurd j3 (i4 i' (by omega) q)
        · omega
      · have := h8 s hsn; omega
    · rw [i2]
      rcases ih f (s + 1) (by omega) (by omega) with ⟨k, k1, k2, k3, k4⟩ | ⟨k1, k2⟩
      · left
        refine ⟨k, k1, k2, fun j j1 j2 j3 => ?_, k4⟩
        by_cases e : j / 8 = s
        · obtain ⟨i', h1, rfl⟩ := hv j j1 e
          exact absurd j3 (i1 i' (by omega) h1)
        · exact k3 j j1 (by omega) j3
      · right
        refine ⟨fun j j1 j2 j3 => ?_, k2⟩
        by_cases e : j / 8 = s
        · obtain ⟨i', h1, rfl⟩ := hv j j1 e
          exact absurd j3 (i1 i' (by omega) h1)
        · exact k1 j j1 (by omega) j3
/-- a serial is found by both at the same record, or by neither -/
theorem find_ok {n : Nat} {op : Nat} {fl : Nat} {last : Nat} {kl : Nat} {ko : Nat} {kf : Nat} {st : Nat → Nat} {cn : Nat → Nat} {un : Nat → Nat} {sz : Nat → Nat} {sr : Nat → Nat} {bk : Nat → Nat} {so : Nat → Nat} {sav : Nat → Nat} {pa : Nat → Nat} {ka : Nat → Nat} {hi : Nat → Int64} {lo : Nat → Int64} {N : Nat} {uOpen : Int32} {uFill : Int32} {uSaved : Int32} {uSerial : Int32} {cSerial : Int32} {cOpen : Int32} {cFill : Int32} {uSts : Nat → Int32} {uPlcs : Nat → Int32} {cPlcs : Nat → Int32} {uSers : Nat → Int32} {uBlks : Nat → Int32} {uUnts : Nat → Int32} {uStos : Nat → Int32} {uHis : Nat → Int64} {uLos : Nat → Int64} {mSegs : Int32} {mOpen : Int32} {mLast : Int32} {mKLast : Int32} {mKOpen : Int32} {mKFill : Int32} {mSt : Nat → Int32} {mFil : Nat → Int32} {mSav : Nat → Int32} {mCnt : Nat → Int32} {mBlk : Nat → Int32} {mSto : Nat → Int32} {mUnt : Nat → Int32} {mSiz : Nat → Int32} {mSer : Nat → Int32} {mAt : Nat → Int32} {mKAt : Nat → Int32} {mHi : Nat → Int64} {mLo : Nat → Int64} (g : (GI n op fl last kl ko kf st cn un sz sr bk so sav pa ka)) (hu : (RU 1 N n op fl last kl ko kf st cn un sz sr bk so sav pa ka hi lo uOpen uFill uSaved uSerial cSerial cOpen cFill uSts uPlcs cPlcs uSers uBlks uUnts uStos uHis uLos)) (hm : (RM n op fl last kl ko kf st cn un sz sr bk so sav pa ka hi lo mSegs mOpen mLast mKLast mKOpen mKFill mSt mFil mSav mCnt mBlk mSto mUnt mSiz mSer mAt mKAt mHi mLo)) {w : Nat} (hw : kl < w) (hw2 : w < 2 ^ 31) : (∃ k, vld n cn k ∧ hit un sz sr sav w k ∧ R_find N uSers (nI w) = some (nI (pl un k)) ∧ M_find mSegs mSav mCnt mUnt mSiz mSer (nI w) = some (nI k)) ∨ ((∀ j, vld n cn j → ¬ hit un sz sr sav w j) ∧ R_find N uSers (nI w) = some (-1) ∧ M_find mSegs mSav mCnt mUnt mSiz mSer (nI w) = some (-1)) := by
  obtain ⟨⟨b1, b2, b3, b4, b5, b6, b7, b8, b9, b10⟩, -, g3', g4', g5', -⟩ := g
  obtain ⟨rfl, -, -, -, -, -, -, -, -, -, -, -, u13⟩ := hu
  obtain ⟨rfl, -, -, -, -, -, -, m8, m9, -⟩ := hm
  have plt : ∀ k, vld n cn k → pl un k < 16 * n := fun k hk => by have := g3' k hk; unfold pl; unfold vld at hk; omega
  have pmono : ∀ k j, vld n cn k → vld n cn j → k < j → pl un k < pl un j := fun k j hk hj h => by
    have x := g3' k hk
    unfold pl
    by_cases e : k / 8 = j / 8
    · have := (slot_lt g4' g5'.1 hk hj e h).1; omega
    · omega
  rcases findM (w := w) b2 g5'.1 hw2 b10 (fun s hs => ⟨(m8 s hs).2.2, (m8 s hs).2.1⟩) (fun k hk => ⟨(m9 k hk).2.2.1, (m9 k hk).2.2.2.1, (m9 k hk).2.2.2.2.1, (g3' k hk).1, by have := (g3' k hk).2.2.2.2.2.1; omega⟩) with ⟨k, k1, k2, k3, k4⟩ | ⟨k1, k2⟩
  · left
    refine ⟨k, k1, k2, findU (by omega) (plt k k1) ((u13 _ (plt k k1) w hw hw2).mpr ⟨k, k1, rfl, k2.1, fun _ => k2.2⟩) (fun p hp q => ?_), k4⟩
    obtain ⟨j, j1, j2, j3, j4⟩ := (u13 p (by have := plt k k1; omega) w hw hw2).mp q
    have := k3 j j1 ⟨j3, j4 rfl⟩
    rcases Nat.eq_or_lt_of_le this with e | e
    · subst e; omega
    · have := pmono k j k1 j1 e; omega
  · right
    refine ⟨k1, findU0 (by omega) (fun p hp q => ?_), k2⟩
    obtain ⟨j, j1, j2, j3, j4⟩ := (u13 p hp w hw hw2).mp q
    exact k1 j j1 ⟨j3, j4 rfl⟩
