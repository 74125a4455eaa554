/-! the cleaner: does what is live fit? class by units, model by slots -/
def fo (sz bk pa : Nat → Nat) : Nat → Nat → Nat → Nat → Nat
  | 0, _, _, o => o
  | d + 1, k, r, o => if pa (bk k) = k + 1 then (if sz k ≤ r then fo sz bk pa d (k + 1) (r - sz k) o else fo sz bk pa d (k + 1) (16 - sz k) (o + 1)) else fo sz bk pa d (k + 1) r o
theorem fo_o (sz bk pa : Nat → Nat) : ∀ d k r o, fo sz bk pa d k r (o + 1) = fo sz bk pa d k r o + 1 := by
  intro d
  induction d with
  | zero => intro k r o; rfl
  | succ d ih =>
    intro k r o
    rw [fo, fo]
    by_cases h1 : pa (bk k) = k + 1
    · rw [if_pos h1, if_pos h1]
      by_cases h2 : sz k ≤ r
      · rw [if_pos h2, if_pos h2]; exact ih _ _ _
      · rw [if_neg h2, if_neg h2]; exact ih _ _ _
    · rw [if_neg h1, if_neg h1]; exact ih _ _ _
theorem fo_c {sz bk pa sz' bk' pa' : Nat → Nat} : ∀ d k r o, (∀ j, k ≤ j → j < k + d → sz' j = sz j ∧ bk' j = bk j ∧ (pa' (bk j) = j + 1 ↔ pa (bk j) = j + 1)) → fo sz' bk' pa' d k r o = fo sz bk pa d k r o := by
  intro d
  induction d with
  | zero => intro k r o _; rfl
  | succ d ih =>
    intro k r o h
    obtain ⟨a, b, c⟩ := h k (Nat.le_refl _) (by omega)
    have hh := fun r o => ih (k + 1) r o (fun j h1 h2 => h j (by omega) (by omega))
    rw [fo, fo, a, b, hh, hh, hh]
    by_cases h1 : pa (bk k) = k + 1
    · rw [if_pos h1, if_pos (c.mpr h1)]
    · rw [if_neg h1, if_neg (fun q => h1 (c.mp q))]
def nx (cn un : Nat → Nat) (s c u : Nat) : Prop := c ≤ cn s ∧ (∀ i, i < c → un (8 * s + i) < u) ∧ ∀ i, c ≤ i → i < cn s → u ≤ un (8 * s + i)
theorem vld_si {n s c : Nat} {cn : Nat → Nat} (hs : s < n) (h8 : cn s ≤ 8) (hc : c < cn s) : vld n cn (8 * s + c) := ⟨by omega, by rw [show (8 * s + c) / 8 = s by omega]; omega⟩
/-- one unit of the class against the slots -/
theorem unit_step {n N : Nat} {cn un sz bk pa : Nat → Nat} {uBlks uUnts uPlcs mSiz mAt : Nat → Int32} (h : LV n N cn un sz bk pa uBlks uUnts uPlcs mSiz mAt) {s c u : Nat} (hs : s < n) (hu : u < 16) (hx : nx cn un s c u) :
    (c < cn s ∧ pl un (8 * s + c) = 16 * s + u ∧ nx cn un s (c + 1) (u + 1) ∧ ((pa (bk (8 * s + c)) = 8 * s + c + 1 ∧ U_isLive N uBlks uPlcs (nI (16 * s + u)) = some 1) ∨ (pa (bk (8 * s + c)) ≠ 8 * s + c + 1 ∧ U_isLive N uBlks uPlcs (nI (16 * s + u)) = some 0))) ∨
    (U_isLive N uBlks uPlcs (nI (16 * s + u)) = some 0 ∧ nx cn un s c (u + 1)) := by
  have h0 := h
  obtain ⟨a1, a2, a3, a4, a5, a6, a7, a8⟩ := h
  obtain ⟨x1, x2, x3⟩ := hx
  have h8 := a4 s hs
  have later : ∀ i, c < i → i < cn s → un (8 * s + c) + 2 ≤ un (8 * s + i) := fun i h1 h2 => by
    have v := vld_si hs h8 (show c < cn s by omega)
    have := a6 (8 * s + c) (8 * s + i) v (vld_si hs h8 h2) (by omega) (by omega)
    have := a5 _ v
    omega
  by_cases hc : c < cn s ∧ un (8 * s + c) = u
  · left
    obtain ⟨hc1, hc2⟩ := hc
    have v := vld_si hs h8 hc1
    have hpl : pl un (8 * s + c) = 16 * s + u := by unfold pl; omega
    refine ⟨hc1, hpl, ⟨by omega, fun i hi => ?_, fun i h1 h2 => ?_⟩, ?_⟩
    · rcases Nat.lt_or_ge i c with q | q
      · have := x2 i q; omega
      · obtain rfl : i = c := by omega
        omega
    · have := later i (by omega) h2; omega
    · rcases isLive_ok h0 (p := 16 * s + u) (by omega) with ⟨b, hb, hn, e1, e2⟩ | ⟨hn, e2⟩
      · left
        obtain ⟨v1, v2⟩ := (a8 b hb).2.2 hn
        have := LV_inj h0 v1 v (by rw [e1, hpl])
        refine ⟨?_, e2⟩
        rw [← this, v2]; omega
      · right
        refine ⟨fun q => ?_, e2⟩
        exact hn (bk (8 * s + c)) (a5 _ v).2.2.2.1 (by omega) (by rw [q]; exact hpl)
  · right
    refine ⟨?_, x1, fun i hi => by have := x2 i hi; omega, fun i h1 h2 => ?_⟩
    · rcases isLive_ok h0 (p := 16 * s + u) (by omega) with ⟨b, hb, hn, e1, e2⟩ | ⟨hn, e2⟩
      · exfalso
        obtain ⟨v1, v2⟩ := (a8 b hb).2.2 hn
        have x := a5 _ v1
        have v1' := v1
        unfold vld at v1'
        unfold pl at e1
        have es : (pa b - 1) / 8 = s := by omega
        have eu : un (pa b - 1) = u := by omega
        generalize hm : (pa b - 1) % 8 = i at v1'
        have ek : pa b - 1 = 8 * s + i := by omega
        rw [es] at v1'
        rw [ek] at eu
        rcases Nat.lt_or_ge i c with q | q
        · have := x2 i q; omega
        · rcases Nat.eq_or_lt_of_le q with q | q
          · subst q; exact hc ⟨v1'.2, eu⟩
          · have y := later i q v1'.2
            have z := x3 c (Nat.le_refl _) (by omega)
            omega
      · exact e2
    · have y := x3 i h1 h2
      rcases Nat.eq_or_lt_of_le h1 with q | q
      · subst q
        rcases Nat.eq_or_lt_of_le y with w | w
        · exact absurd ⟨h2, w.symm⟩ hc
        · omega
      · have y2 := later i q h2
        have z := x3 c (Nat.le_refl _) (by omega)
        omega
theorem sub1 (f o : Nat) : nI f - nI o + (-1 : Int32) = nI f - nI (o + 1) := by
  rw [← nI_1]
  grind
theorem neg_iff {f o : Nat} (hf : f < 2 ^ 30) (ho : o < 2 ^ 30) : nI f - nI o < (0 : Int32) ↔ f < o := by
  rw [Int32.lt_iff_toInt_lt, pk_sub_toInt hf ho]
  have : (0 : Int32).toInt = 0 := by decide
  omega
theorem latM {n : Nat} {cn bk so pa : Nat → Nat} {mBlk mSto mAt : Nat → Int32} {k : Nat} (hn : n ≤ 8) (h8 : ∀ s, s < n → cn s ≤ 8) (hk : vld n cn k) (hb : bk k < 16) (hso : so k ≤ 1) (e1 : mBlk k = nI (bk k)) (e2 : mSto k = nI (so k)) (e3 : mAt (bk k) = enc (pa (bk k))) (hp : pa (bk k) = k + 1 → so k = 1) (hv : pa (bk k) < 2 ^ 31) : (pa (bk k) = k + 1 ∧ M_isLatest mBlk mSto mAt (nI k) = some 1) ∨ (pa (bk k) ≠ k + 1 ∧ M_isLatest mBlk mSto mAt (nI k) = some 0) := by
  have hk64 : k < 64 := by unfold vld at hk; omega
  unfold M_isLatest
  rw [q_ck hk64 (by omega), q_ck hk64 (by omega), nI_clamp (by omega), e2, e1, q_ck hb (by omega), nI_clamp (by omega), e3]
  by_cases c : so k = 0
  · right
    exact ⟨fun q => by have := hp q; omega, by rw [if_pos (by rw [c]; rfl)]⟩
  · rw [if_neg (show ¬ nI (so k) = (0 : Int32) from q_ne (b := 0) (by omega) (by omega) c)]
    by_cases q : pa (bk k) = k + 1
    · left; exact ⟨q, by rw [q]; exact if_pos rfl⟩
    · right
      refine ⟨q, ?_⟩
      rw [if_neg]
      rcases hz : pa (bk k) with _ | j
      · exact fun w => q_nem1 (by omega) w.symm
      · intro w
        have := (nI_eq (by omega) (by omega)).mp (show nI j = nI k from w)
        omega
theorem fitsU {n N : Nat} {cn un sz bk pa st : Nat → Nat} {uBlks uUnts uPlcs mSiz mAt uSts : Nat → Int32} (h : LV n N cn un sz bk pa uBlks uUnts uPlcs mSiz mAt) (h2 : ∀ s, s < n → st s ≤ 2) (h3 : ∀ s, s < n → uSts s = nI (st s)) {s fl : Nat} (hs : s < n) (hfl : fl ≤ 16) : U_liveRecordsHaveRoom n N (nI fl) uBlks uUnts uSts uPlcs (nI s) = some (if fc st n < fo sz bk pa (cn s) (8 * s) (16 - fl) 0 then 0 else 1) := by
  have h0 := h
  obtain ⟨a1, a2, a3, a4, a5, a6, a7, a8⟩ := h
  have h8 := a4 s hs
  have hfc := fc_le st n
  unfold U_liveRecordsHaveRoom
  have e16 : nI s * (16 : Int32) = nI (16 * s) := by rw [show (16 : Int32) = nI 16 from rfl, pk_mul, Nat.mul_comm]
  rw [freeU a2 h2 h3, Option.bind_some, e16]
  suffices H : ∀ (d fuel u c r o : Nat), u + d = 16 → d < fuel → nx cn un s c u → r ≤ 16 → o ≤ c → U_liveRecordsHaveRoom_L19 N uBlks uUnts uPlcs (nI (16 * s)) (fun x3_k19 x4_k19 x5_k19 => if x3_k19 < (0 : Int32) then (some (0 : Int32)) else (some (1 : Int32))) fuel (nI (fc st n) - nI o) (nI (16 - r)) (nI (16 * s + u)) = some (if fc st n < fo sz bk pa (cn s - c) (8 * s + c) r o then 0 else 1) by
    have := H 16 300 0 0 (16 - fl) 0 (by omega) (by omega) ⟨by omega, fun i hi => absurd hi (by omega), fun i _ _ => by omega⟩ (by omega) (by omega)
    rw [show 16 - (16 - fl) = fl by omega, show nI (fc st n) - nI 0 = nI (fc st n) from pk_sub (by omega)] at this
    exact this
  intro d
  induction d with
  | zero =>
    intro fuel u c r o hu hf hx hr ho
    obtain ⟨f, rfl⟩ : ∃ f, fuel = f + 1 := ⟨fuel - 1, by omega⟩
    obtain rfl : u = 16 := by omega
    have hc : c = cn s := by
      rcases Nat.lt_or_ge c (cn s) with q | q
      · have y := hx.2.2 c (Nat.le_refl _) q
        have := a5 _ (vld_si hs h8 q)
        omega
      · have := hx.1; omega
    rw [U_liveRecordsHaveRoom_L19, show (16 : Int32) = nI 16 from rfl, nI_add, if_pos (q_le (by omega) (by omega) (Nat.le_refl _)), hc, Nat.sub_self, fo]
    by_cases q : fc st n < o
    · rw [if_pos ((neg_iff (by omega) (by omega)).mpr q), if_pos q]
    · rw [if_neg (fun w => q ((neg_iff (by omega) (by omega)).mp w)), if_neg q]
  | succ d ih =>
    intro fuel u c r o hu hf hx hr ho
    obtain ⟨f, rfl⟩ : ∃ f, fuel = f + 1 := ⟨fuel - 1, by omega⟩
    rw [U_liveRecordsHaveRoom_L19, show (16 : Int32) = nI 16 from rfl, nI_add, if_neg (q_nle (by omega) (by omega) (by omega)), nI_1]
    rcases unit_step h0 hs (by omega) hx with ⟨c1, c2, c3, c4⟩ | ⟨c1, c2⟩
    · have v := vld_si hs h8 c1
      have x := a5 _ v
      rw [show cn s - c = (cn s - (c + 1)) + 1 by omega, fo]
      rcases c4 with ⟨q1, q2⟩ | ⟨q1, q2⟩
      · rw [q2, Option.bind_some, if_neg (show ¬ (1 : Int32) = 0 by decide), q_ck (by omega) (by omega), q_ck (by omega) (by omega), q_ck (by omega) (by omega), nI_clamp (by omega), show uUnts (16 * s + u) = nI (sz (8 * s + c)) from by rw [← c2]; exact x.2.2.2.2.2.1, if_pos q1, pk_sub (by omega), show 16 - (16 - r) = r by omega]
        by_cases w : sz (8 * s + c) ≤ r
        · rw [if_pos (q_le (by omega) (by omega) w), if_pos w, nI_add, show 16 - r + sz (8 * s + c) = 16 - (r - sz (8 * s + c)) by omega]
          exact ih f (u + 1) (c + 1) (r - sz (8 * s + c)) o (by omega) (by omega) c3 (by omega) (by omega)
        · rw [if_neg (q_nle (by omega) (by omega) (by omega)), if_neg w, sub1, show (0 : Int32) + nI (sz (8 * s + c)) = nI (16 - (16 - sz (8 * s + c))) from by rw [show (0 : Int32) = nI 0 from rfl, nI_add]; congr 1; omega]
          exact ih f (u + 1) (c + 1) (16 - sz (8 * s + c)) (o + 1) (by omega) (by omega) c3 (by omega) (by omega)
      · rw [q2, Option.bind_some, if_pos rfl, if_neg q1]
        exact ih f (u + 1) (c + 1) _ o (by omega) (by omega) c3 (by omega) (by omega)
    · rw [c1, Option.bind_some, if_pos rfl]
      exact ih f (u + 1) c _ o (by omega) (by omega) c2 (by omega) (by omega)
theorem fitsM {n : Nat} {op : Nat} {fl : Nat} {last : Nat} {kl : Nat} {ko : Nat} {kf : Nat} {st : Nat → Nat} {cn : Nat → Nat} {un : Nat → Nat} {sz : Nat → Nat} {sr : Nat → Nat} {bk : Nat → Nat} {so : Nat → Nat} {sav : Nat → Nat} {pa : Nat → Nat} {ka : Nat → Nat} {hi : Nat → Int64} {lo : Nat → Int64} {mSegs : Int32} {mOpen : Int32} {mLast : Int32} {mKLast : Int32} {mKOpen : Int32} {mKFill : Int32} {mSt : Nat → Int32} {mFil : Nat → Int32} {mSav : Nat → Int32} {mCnt : Nat → Int32} {mBlk : Nat → Int32} {mSto : Nat → Int32} {mUnt : Nat → Int32} {mSiz : Nat → Int32} {mSer : Nat → Int32} {mAt : Nat → Int32} {mKAt : Nat → Int32} {mHi : Nat → Int64} {mLo : Nat → Int64} (g : (GI n op fl last kl ko kf st cn un sz sr bk so sav pa ka)) (hm : (RM n op fl last kl ko kf st cn un sz sr bk so sav pa ka hi lo mSegs mOpen mLast mKLast mKOpen mKFill mSt mFil mSav mCnt mBlk mSto mUnt mSiz mSer mAt mKAt mHi mLo)) {s : Nat} (hs : s < n) : M_fits mSegs mOpen mSt mFil mCnt mBlk mSto mSiz mAt (nI s) = some (if fc st n < fo sz bk pa (cn s) (8 * s) (16 - fl) 0 then 0 else 1) := by
  obtain ⟨⟨b1, b2, b3, b4, -⟩, ⟨c1, -⟩, g3', -, g5', -, -, g8', -⟩ := g
  obtain ⟨rfl, rfl, -, -, -, -, m7, m8, m9, m10⟩ := hm
  have h8 := g5'.1 s hs
  have hfc := fc_le st n
  unfold M_fits
  rw [q_ck (by omega) (by omega), freeM b2 c1 (fun s hs => (m8 s hs).1), Option.bind_some, nI_clamp (by omega), m7, show (16 : Int32) - nI fl = nI (16 - fl) from pk_sub (a := 16) b4, show (8 : Int32) * nI s = nI (8 * s) from pk_mul 8 s]
  suffices H : ∀ (d fuel c r o : Nat), c + d = cn s → d < fuel → r ≤ 16 → o ≤ c → M_fits_L24 mCnt mBlk mSto mSiz mAt (nI s) (fun x2_k24 x3_k24 x4_k24 => if x3_k24 < (0 : Int32) then (some (0 : Int32)) else (some (1 : Int32))) fuel (nI r) (nI (fc st n) - nI o) (nI (8 * s + c)) = some (if fc st n < fo sz bk pa d (8 * s + c) r o then 0 else 1) by
    have := H (cn s) 300 0 (16 - fl) 0 (by omega) (by omega) (by omega) (by omega)
    rw [show nI (fc st n) - nI 0 = nI (fc st n) from pk_sub (by omega)] at this
    exact this
  intro d
  induction d with
  | zero =>
    intro fuel c r o hc hf hr ho
    obtain ⟨f, rfl⟩ : ∃ f, fuel = f + 1 := ⟨fuel - 1, by omega⟩
    obtain rfl : c = cn s := by omega
    rw [M_fits_L24, q_ck (by omega) (by omega), nI_clamp (by omega), (m8 s hs).2.2, show (8 : Int32) * nI s = nI (8 * s) from pk_mul 8 s, nI_add, if_pos (q_le (by omega) (by omega) (Nat.le_refl _)), fo]
    by_cases q : fc st n < o
    · rw [if_pos ((neg_iff (by omega) (by omega)).mpr q), if_pos q]
    · rw [if_neg (fun w => q ((neg_iff (by omega) (by omega)).mp w)), if_neg q]
  | succ d ih =>
    intro fuel c r o hc hf hr ho
    obtain ⟨f, rfl⟩ : ∃ f, fuel = f + 1 := ⟨fuel - 1, by omega⟩
    have v := vld_si hs h8 (show c < cn s by omega)
    have x := g3' _ v
    obtain ⟨y1, y2, y3, y4, -⟩ := m9 _ v
    rw [M_fits_L24, q_ck (by omega) (by omega), nI_clamp (by omega), (m8 s hs).2.2, show (8 : Int32) * nI s = nI (8 * s) from pk_mul 8 s, nI_add, if_neg (q_nle (by omega) (by omega) (by omega)), nI_1, fo]
    have hlat := latM b2 g5'.1 v x.2.2.2.1 x.2.2.2.2.1 y1 y2 (m10 _ x.2.2.2.1).1 (fun q => by have := (g8' _ x.2.2.2.1 (by omega)).2.2.1; rw [q] at this; exact this) (by
      rcases Nat.eq_zero_or_pos (pa (bk (8 * s + c))) with q | q
      · omega
      · have := (g8' _ x.2.2.2.1 (by omega)).1; unfold vld at this; omega)
    rcases hlat with ⟨q1, q2⟩ | ⟨q1, q2⟩
    · rw [q2, Option.bind_some, if_neg (show ¬ (1 : Int32) = 0 by decide), q_ck (by omega) (by omega), q_ck (by omega) (by omega), q_ck (by omega) (by omega), nI_clamp (by omega), y4, if_pos q1]
      by_cases w : sz (8 * s + c) ≤ r
      · rw [if_pos (q_le (by omega) (by omega) w), if_pos w, pk_sub w]
        exact ih f (c + 1) _ o (by omega) (by omega) (by omega) (by omega)
      · rw [if_neg (q_nle (by omega) (by omega) (by omega)), if_neg w, sub1, show (16 : Int32) - nI (sz (8 * s + c)) = nI (16 - sz (8 * s + c)) from pk_sub (a := 16) (by omega)]
        exact ih f (c + 1) _ (o + 1) (by omega) (by omega) (by omega) (by omega)
    · rw [q2, Option.bind_some, if_pos rfl, if_neg q1]
      exact ih f (c + 1) _ o (by omega) (by omega) hr (by omega)
