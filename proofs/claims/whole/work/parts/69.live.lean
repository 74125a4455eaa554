/-! live units -/
def sm (f : Nat → Nat) : Nat → Nat
  | 0 => 0
  | b + 1 => sm f b + f b
theorem sm_ext {f g : Nat → Nat} : ∀ n, (∀ b, b < n → f b = g b) → sm f n = sm g n := by
  intro n
  induction n with
  | zero => intro _; rfl
  | succ n ih => intro h; rw [sm, sm, ih (fun b hb => h b (by omega)), h n (by omega)]
theorem sm_0 {f : Nat → Nat} : ∀ n, (∀ b, b < n → f b = 0) → sm f n = 0 := by
  intro n
  induction n with
  | zero => intro _; rfl
  | succ n ih => intro h; rw [sm, ih (fun b hb => h b (by omega)), h n (by omega)]
theorem sm_add {f g : Nat → Nat} : ∀ n, sm (fun b => f b + g b) n = sm f n + sm g n := by
  intro n
  induction n with
  | zero => rfl
  | succ n ih => rw [sm, sm, sm, ih]; omega
theorem sm_1 {f : Nat → Nat} {c : Nat} : ∀ n, c < n → (∀ b, b < n → b ≠ c → f b = 0) → sm f n = f c := by
  intro n
  induction n with
  | zero => intro h; omega
  | succ n ih =>
    intro h h0
    rw [sm]
    by_cases e : c = n
    · subst e; rw [sm_0 c (fun b hb => h0 b (by omega) (by omega))]; omega
    · rw [ih (by omega) (fun b hb hc => h0 b (by omega) hc), h0 n (by omega) (Ne.symm e), Nat.add_zero]
def lvf (sz pa : Nat → Nat) (s : Nat) : Nat → Nat := fun b => if pa b ≠ 0 ∧ (pa b - 1) / 8 = s then sz (pa b - 1) else 0
def lvc (un sz pa : Nat → Nat) (s u : Nat) : Nat → Nat := fun b => if pa b ≠ 0 ∧ (pa b - 1) / 8 = s ∧ un (pa b - 1) < u then sz (pa b - 1) else 0
def lv (sz pa : Nat → Nat) (s : Nat) : Nat := sm (lvf sz pa s) 16
/-- what live units rest on -/
def LV (n N : Nat) (cn un sz bk pa : Nat → Nat) (uBlks uUnts uPlcs mSiz mAt : Nat → Int32) : Prop :=
  4 ≤ n ∧ n ≤ 8 ∧ N = 16 * n ∧ (∀ s, s < n → cn s ≤ 8) ∧ (∀ k, vld n cn k → un k + sz k ≤ 16 ∧ 2 ≤ sz k ∧ sz k ≤ 6 ∧ bk k < 16 ∧ uBlks (pl un k) = nI (bk k) ∧ uUnts (pl un k) = nI (sz k) ∧ mSiz k = nI (sz k)) ∧
  (∀ k j, vld n cn k → vld n cn j → k / 8 = j / 8 → k < j → un k + sz k ≤ un j) ∧ (∀ p, p < N → ∃ b, b < 16 ∧ uBlks p = nI b) ∧
  (∀ b, b < 16 → uPlcs b = encU un (pa b) ∧ mAt b = enc (pa b) ∧ (pa b ≠ 0 → vld n cn (pa b - 1) ∧ bk (pa b - 1) = b))
theorem LV_inj {n N : Nat} {cn un sz bk pa : Nat → Nat} {uBlks uUnts uPlcs mSiz mAt : Nat → Int32} (h : LV n N cn un sz bk pa uBlks uUnts uPlcs mSiz mAt) {k j : Nat} (hk : vld n cn k) (hj : vld n cn j) (e : pl un k = pl un j) : k = j := by
  obtain ⟨a1, a2, a3, a4, a5, a6, -⟩ := h
  have x := a5 k hk
  have y := a5 j hj
  unfold pl at e
  have es : k / 8 = j / 8 := by omega
  rcases Nat.lt_trichotomy k j with q | q | q
  · have := a6 k j hk hj es q; omega
  · exact q
  · have := a6 j k hj hk es.symm q; omega
/-- a place is live just where a block's slot stands -/
theorem isLive_ok {n N : Nat} {cn un sz bk pa : Nat → Nat} {uBlks uUnts uPlcs mSiz mAt : Nat → Int32} (h : LV n N cn un sz bk pa uBlks uUnts uPlcs mSiz mAt) {p : Nat} (hp : p < N) : (∃ b, b < 16 ∧ pa b ≠ 0 ∧ pl un (pa b - 1) = p ∧ U_isLive N uBlks uPlcs (nI p) = some 1) ∨ ((∀ b, b < 16 → pa b ≠ 0 → pl un (pa b - 1) ≠ p) ∧ U_isLive N uBlks uPlcs (nI p) = some 0) := by
  have h0 := h
  obtain ⟨a1, a2, a3, a4, a5, a6, a7, a8⟩ := h
  obtain ⟨b, hb, e⟩ := a7 p hp
  have hN : N < 2 ^ 31 := by omega
  unfold U_isLive
  rw [q_ck hp hN, nI_clamp (by omega), e, q_ck hb (by omega), nI_clamp (by omega)]
  obtain ⟨c1, c2, c3⟩ := a8 b hb
  by_cases q : pa b ≠ 0 ∧ pl un (pa b - 1) = p
  · left
    refine ⟨b, hb, q.1, q.2, ?_⟩
    rw [if_pos]
    rw [c1]
    rcases hz : pa b with _ | k
    · exact absurd hz q.1
    · have := q.2; rw [hz] at this; show nI (pl un k) = nI p; rw [← this]; rfl
  · right
    refine ⟨fun c hc hn e2 => ?_, ?_⟩
    · obtain ⟨d1, d2, d3⟩ := a8 c hc
      obtain ⟨v1, v2⟩ := d3 hn
      have := (a5 _ v1).2.2.2.2.1
      rw [e2, e, v2] at this
      have : b = c := (nI_eq (by omega) (by omega)).mp this
      subst this
      exact q ⟨hn, e2⟩
    · rw [if_neg]
      rw [c1]
      rcases hz : pa b with _ | k
      · exact fun w => q_nem1 (by omega) w.symm
      · intro w
        obtain ⟨v1, v2⟩ := c3 (by omega)
        rw [hz, show k + 1 - 1 = k from rfl] at v1
        have x := a5 k v1
        have := (nI_eq (by unfold pl; unfold vld at v1; omega) (by omega)).mp (show nI (pl un k) = nI p from w)
        exact q ⟨by omega, by rw [hz]; exact this⟩
theorem lvc_step {n N : Nat} {cn un sz bk pa : Nat → Nat} {uBlks uUnts uPlcs mSiz mAt : Nat → Int32} (h : LV n N cn un sz bk pa uBlks uUnts uPlcs mSiz mAt) {s u : Nat} (hs : s < n) (hu : u < 16) :
    (∃ b, b < 16 ∧ pa b ≠ 0 ∧ pl un (pa b - 1) = 16 * s + u ∧ (pa b - 1) / 8 = s ∧ un (pa b - 1) = u ∧ sm (lvc un sz pa s (u + 1)) 16 = sm (lvc un sz pa s u) 16 + sz (pa b - 1) ∧ U_isLive N uBlks uPlcs (nI (16 * s + u)) = some 1 ∧ uUnts (16 * s + u) = nI (sz (pa b - 1))) ∨
    (sm (lvc un sz pa s (u + 1)) 16 = sm (lvc un sz pa s u) 16 ∧ U_isLive N uBlks uPlcs (nI (16 * s + u)) = some 0) := by
  have h0 := h
  obtain ⟨a1, a2, a3, a4, a5, a6, a7, a8⟩ := h
  have spl : ∀ b, b < 16 → lvc un sz pa s (u + 1) b = lvc un sz pa s u b + (if pa b ≠ 0 ∧ (pa b - 1) / 8 = s ∧ un (pa b - 1) = u then sz (pa b - 1) else 0) := by
    intro b hb
    unfold lvc
    by_cases c : pa b ≠ 0 ∧ (pa b - 1) / 8 = s
    · by_cases c1 : un (pa b - 1) < u
      · rw [if_pos (by omega), if_pos (by omega), if_neg (by omega)]; omega
      · by_cases c2 : un (pa b - 1) = u
        · rw [if_pos (by omega), if_neg (by omega), if_pos (by omega)]; omega
        · rw [if_neg (by omega), if_neg (by omega), if_neg (by omega)]
    · rw [if_neg (by omega), if_neg (by omega), if_neg (by omega)]
  have tot := sm_ext 16 spl
  rw [sm_add] at tot
  have hpl : ∀ k, vld n cn k → pl un k = 16 * s + u → k / 8 = s ∧ un k = u := fun k hk e => by
    have x := a5 k hk; unfold pl at e; omega
  rcases isLive_ok h0 (p := 16 * s + u) (by omega) with ⟨b, hb, hn, e1, e2⟩ | ⟨hn, e2⟩
  · left
    obtain ⟨v1, v2⟩ := (a8 b hb).2.2 hn
    obtain ⟨s1, s2⟩ := hpl _ v1 e1
    refine ⟨b, hb, hn, e1, s1, s2, ?_, e2, by rw [← e1]; exact (a5 _ v1).2.2.2.2.2.1⟩
    have one : sm (fun b => if pa b ≠ 0 ∧ (pa b - 1) / 8 = s ∧ un (pa b - 1) = u then sz (pa b - 1) else 0) 16 = sz (pa b - 1) := by
      rw [sm_1 (f := fun b => if pa b ≠ 0 ∧ (pa b - 1) / 8 = s ∧ un (pa b - 1) = u then sz (pa b - 1) else 0) (c := b) 16 hb ?_]
      · exact if_pos ⟨hn, s1, s2⟩
      intro c hc hcb
      refine if_neg ?_
      rintro ⟨q1, q2, q3⟩
      obtain ⟨w1, w2⟩ := (a8 c hc).2.2 q1
      have : pa c - 1 = pa b - 1 := LV_inj h0 w1 v1 (by unfold pl; rw [q2, q3, s1, s2])
      rw [this, v2] at w2
      exact hcb w2.symm
    rw [tot, one]
  · right
    refine ⟨?_, e2⟩
    rw [tot, sm_0 (f := fun b => if pa b ≠ 0 ∧ (pa b - 1) / 8 = s ∧ un (pa b - 1) = u then sz (pa b - 1) else 0) 16 (fun b hb => ?_)]
    · rfl
    · show (if _ then _ else _) = 0
      rw [if_neg]
      rintro ⟨q1, q2, q3⟩
      exact hn b hb q1 (by unfold pl; rw [q2, q3])
theorem lvc_le {n N : Nat} {cn un sz bk pa : Nat → Nat} {uBlks uUnts uPlcs mSiz mAt : Nat → Int32} (h : LV n N cn un sz bk pa uBlks uUnts uPlcs mSiz mAt) {s : Nat} (hs : s < n) : ∀ u, u ≤ 16 → sm (lvc un sz pa s u) 16 ≤ 16 ∧ ∀ k, vld n cn k → k / 8 = s → u ≤ un k → sm (lvc un sz pa s u) 16 ≤ un k := by
  intro u
  induction u with
  | zero =>
    intro _
    have : sm (lvc un sz pa s 0) 16 = 0 := sm_0 16 (fun b _ => by unfold lvc; rw [if_neg (by omega)])
    rw [this]
    exact ⟨by omega, fun _ _ _ _ => by omega⟩
  | succ u ih =>
    intro hu
    obtain ⟨i1, i2⟩ := ih (by omega)
    have h0 := h
    obtain ⟨a1, a2, a3, a4, a5, a6, a7, a8⟩ := h
    rcases lvc_step h0 hs (u := u) (by omega) with ⟨b, hb, hn, e1, e2, e3, e4, -⟩ | ⟨e, -⟩
    · obtain ⟨v1, v2⟩ := (a8 b hb).2.2 hn
      have q := i2 _ v1 e2 (by omega)
      have x := a5 _ v1
      rw [e4]
      refine ⟨by omega, fun k hk hk2 hk3 => ?_⟩
      rcases Nat.lt_or_ge (pa b - 1) k with w | w
      · have := a6 _ k v1 hk (by omega) w; omega
      · rcases Nat.eq_or_lt_of_le w with w | w
        · subst w; omega
        · have := a6 k _ hk v1 (by omega) w; omega
    · rw [e]
      exact ⟨i1, fun k hk hk2 hk3 => i2 k hk hk2 (by omega)⟩
theorem lvc_16 {n N : Nat} {cn un sz bk pa : Nat → Nat} {uBlks uUnts uPlcs mSiz mAt : Nat → Int32} (h : LV n N cn un sz bk pa uBlks uUnts uPlcs mSiz mAt) (s : Nat) : sm (lvc un sz pa s 16) 16 = lv sz pa s := by
  obtain ⟨a1, a2, a3, a4, a5, a6, a7, a8⟩ := h
  refine sm_ext 16 (fun b hb => ?_)
  unfold lvc lvf
  by_cases c : pa b ≠ 0 ∧ (pa b - 1) / 8 = s
  · have := a5 _ ((a8 b hb).2.2 c.1).1
    rw [if_pos (by omega), if_pos c]
  · rw [if_neg (by omega), if_neg c]
theorem lv_le {n N : Nat} {cn un sz bk pa : Nat → Nat} {uBlks uUnts uPlcs mSiz mAt : Nat → Int32} (h : LV n N cn un sz bk pa uBlks uUnts uPlcs mSiz mAt) {s : Nat} (hs : s < n) : lv sz pa s ≤ 16 := by
  rw [← lvc_16 h s]; exact (lvc_le h hs 16 (Nat.le_refl _)).1
theorem liveU {n N : Nat} {cn un sz bk pa : Nat → Nat} {uBlks uUnts uPlcs mSiz mAt : Nat → Int32} (h : LV n N cn un sz bk pa uBlks uUnts uPlcs mSiz mAt) {s : Nat} (hs : s < n) : U_liveUnits N uBlks uUnts uPlcs (nI s) = some (nI (lv sz pa s)) := by
  have h0 := h
  obtain ⟨a1, a2, a3, a4, a5, a6, a7, a8⟩ := h
  unfold U_liveUnits
  have e16 : nI s * (16 : Int32) = nI (16 * s) := by rw [show (16 : Int32) = nI 16 from rfl, pk_mul, Nat.mul_comm]
  rw [e16]
  suffices H : ∀ (d fuel u : Nat), u + d = 16 → d < fuel → ∀ K, U_liveUnits_L10 N uBlks uUnts uPlcs (nI (16 * s)) K fuel (nI (sm (lvc un sz pa s u) 16)) (nI (16 * s + u)) = K (nI (lv sz pa s)) (nI (16 * s + 16)) by
    have hz : sm (lvc un sz pa s 0) 16 = 0 := sm_0 16 (fun b _ => by unfold lvc; rw [if_neg (by omega)])
    have := H 16 300 0 (by omega) (by omega) (fun x3_k10 x4_k10 => some x3_k10)
    rw [hz] at this
    exact this
  intro d
  induction d with
  | zero =>
    intro fuel u hu hf K
    obtain ⟨f, rfl⟩ : ∃ f, fuel = f + 1 := ⟨fuel - 1, by omega⟩
    obtain rfl : u = 16 := by omega
    rw [U_liveUnits_L10, show (16 : Int32) = nI 16 from rfl, nI_add, if_pos (q_le (by omega) (by omega) (Nat.le_refl _)), lvc_16 h0]
  | succ d ih =>
    intro fuel u hu hf K
    obtain ⟨f, rfl⟩ : ∃ f, fuel = f + 1 := ⟨fuel - 1, by omega⟩
    rw [U_liveUnits_L10, show (16 : Int32) = nI 16 from rfl, nI_add, if_neg (q_nle (by omega) (by omega) (by omega)), nI_1]
    have hh := ih f (u + 1) (by omega) (by omega) K
    rcases lvc_step h0 hs (u := u) (by omega) with ⟨b, hb, hn, e1, e2, e3, e4, e5, e6⟩ | ⟨e4, e5⟩
    · rw [e5, Option.bind_some, if_neg (show ¬ (1 : Int32) = 0 by decide), q_ck (by omega) (by omega), nI_clamp (by omega), e6, nI_add]
      rw [e4] at hh
      exact hh
    · rw [e5, Option.bind_some, if_pos rfl]
      rw [e4] at hh
      exact hh
theorem liveM {n N : Nat} {cn un sz bk pa : Nat → Nat} {uBlks uUnts uPlcs mSiz mAt : Nat → Int32} (h : LV n N cn un sz bk pa uBlks uUnts uPlcs mSiz mAt) {s : Nat} (hs : s < n) : M_liveUnits mSiz mAt (nI s) = some (nI (lv sz pa s)) := by
  obtain ⟨a1, a2, a3, a4, a5, a6, a7, a8⟩ := h
  unfold M_liveUnits
  suffices H : ∀ (d fuel b : Nat), b + d = 16 → d < fuel → ∀ K, M_liveUnits_L4 mSiz mAt (nI s) K fuel (nI (sm (lvf sz pa s) b)) (nI b) = K (nI (lv sz pa s)) (nI 16) from H 16 300 0 (by omega) (by omega) _
  intro d
  induction d with
  | zero =>
    intro fuel b hb hf K
    obtain ⟨f, rfl⟩ : ∃ f, fuel = f + 1 := ⟨fuel - 1, by omega⟩
    obtain rfl : b = 16 := by omega
    rw [M_liveUnits_L4, if_pos (by decide)]
    rfl
  | succ d ih =>
    intro fuel b hb hf K
    obtain ⟨f, rfl⟩ : ∃ f, fuel = f + 1 := ⟨fuel - 1, by omega⟩
    rw [M_liveUnits_L4, if_neg (show ¬ (16 : Int32) ≤ nI b from q_nle (a := 16) (by omega) (by omega) (by omega)), q_ck (by omega) (by omega), nI_clamp (by omega), nI_1]
    have hh := ih f (b + 1) (by omega) (by omega) K
    rw [sm] at hh
    obtain ⟨c1, c2, c3⟩ := a8 b (by omega)
    rcases hz : pa b with _ | k
    · rw [c2, hz, if_pos (by decide)]
      rw [show lvf sz pa s b = 0 by unfold lvf; rw [if_neg (by omega)]] at hh
      exact hh
    · obtain ⟨v1, v2⟩ := c3 (by omega)
      rw [hz, show k + 1 - 1 = k from rfl] at v1
      have hk : k < 64 := by unfold vld at v1; omega
      rw [c2, hz, show enc (k + 1) = nI k from rfl, if_neg (nI_pos (by omega)), q_ck (by omega) (by omega), div8 hk]
      by_cases e : k / 8 = s
      · rw [if_pos (by rw [e]), q_ck (by omega) (by omega), q_ck hk (by omega), nI_clamp (by omega), (a5 k v1).2.2.2.2.2.2, nI_add]
        rw [show lvf sz pa s b = sz k by unfold lvf; rw [hz, if_pos (by omega)]; rfl] at hh
        exact hh
      · rw [if_neg (q_ne (by omega) (by omega) e)]
        rw [show lvf sz pa s b = 0 by unfold lvf; rw [hz, if_neg (by omega)]] at hh
        exact hh
theorem LV_of {n : Nat} {op : Nat} {fl : Nat} {last : Nat} {kl : Nat} {ko : Nat} {kf : Nat} {st : Nat → Nat} {cn : Nat → Nat} {un : Nat → Nat} {sz : Nat → Nat} {sr : Nat → Nat} {bk : Nat → Nat} {so : Nat → Nat} {sav : Nat → Nat} {pa : Nat → Nat} {ka : Nat → Nat} {hi : Nat → Int64} {lo : Nat → Int64} {N : Nat} {uOpen : Int32} {uFill : Int32} {uSaved : Int32} {uSerial : Int32} {cSerial : Int32} {cOpen : Int32} {cFill : Int32} {uSts : Nat → Int32} {uPlcs : Nat → Int32} {cPlcs : Nat → Int32} {uSers : Nat → Int32} {uBlks : Nat → Int32} {uUnts : Nat → Int32} {uStos : Nat → Int32} {uHis : Nat → Int64} {uLos : Nat → Int64} {mSegs : Int32} {mOpen : Int32} {mLast : Int32} {mKLast : Int32} {mKOpen : Int32} {mKFill : Int32} {mSt : Nat → Int32} {mFil : Nat → Int32} {mSav : Nat → Int32} {mCnt : Nat → Int32} {mBlk : Nat → Int32} {mSto : Nat → Int32} {mUnt : Nat → Int32} {mSiz : Nat → Int32} {mSer : Nat → Int32} {mAt : Nat → Int32} {mKAt : Nat → Int32} {mHi : Nat → Int64} {mLo : Nat → Int64} {dn : Nat} (g : (GI n op fl last kl ko kf st cn un sz sr bk so sav pa ka)) (hu : (RU dn N n op fl last kl ko kf st cn un sz sr bk so sav pa ka hi lo uOpen uFill uSaved uSerial cSerial cOpen cFill uSts uPlcs cPlcs uSers uBlks uUnts uStos uHis uLos)) (hm : (RM n op fl last kl ko kf st cn un sz sr bk so sav pa ka hi lo mSegs mOpen mLast mKLast mKOpen mKFill mSt mFil mSav mCnt mBlk mSto mUnt mSiz mSer mAt mKAt mHi mLo)) : LV n N cn un sz bk pa uBlks uUnts uPlcs mSiz mAt := by
  obtain ⟨⟨b1, b2, -⟩, -, g3', g4', g5', -, -, g8', -⟩ := g
  obtain ⟨u1, -, -, -, -, -, -, -, -, u10, u11, u12, -⟩ := hu
  obtain ⟨-, -, -, -, -, -, -, -, m9, m10⟩ := hm
  refine ⟨b1, b2, u1, g5'.1, fun k hk => ?_, fun k j hk hj e q => (slot_lt g4' g5'.1 hk hj e q).1, fun p hp => (u11 p hp).1, fun b hb => ⟨(u10 b hb).1, (m10 b hb).1, fun q => ⟨(g8' b hb q).1, (g8' b hb q).2.1⟩⟩⟩
  have x := g3' k hk
  exact ⟨x.1, x.2.1, x.2.2.1, x.2.2.2.1, (u12 k hk).1, (u12 k hk).2.1, (m9 k hk).2.2.2.1⟩
theorem st_live {lb : Nat} {n : Nat} {N : Nat} {uOpen : Int32} {uFill : Int32} {uSaved : Int32} {uSerial : Int32} {uDown : Int32} {uArmed : Int32} {uWritten : Int32} {uSize : Int32} {uBytes : Nat → Int32} {uForm : Nat → Int32} {uSers : Nat → Int32} {uBlks : Nat → Int32} {uUnts : Nat → Int32} {uStos : Nat → Int32} {uHis : Nat → Int64} {uLos : Nat → Int64} {cNumber : Int32} {cSerial : Int32} {cOpen : Int32} {cFill : Int32} {cPlcs : Nat → Int32} {uSts : Nat → Int32} {uPlcs : Nat → Int32} {mSegs : Int32} {mOpen : Int32} {mLast : Int32} {mKLast : Int32} {mKOpen : Int32} {mKFill : Int32} {mNumber : Int32} {mDown : Int32} {mArmed : Int32} {mLeft : Int32} {mWritten : Int32} {mFSize : Int32} {mSt : Nat → Int32} {mFil : Nat → Int32} {mSav : Nat → Int32} {mCnt : Nat → Int32} {mBlk : Nat → Int32} {mSto : Nat → Int32} {mUnt : Nat → Int32} {mSiz : Nat → Int32} {mSer : Nat → Int32} {mHi : Nat → Int64} {mLo : Nat → Int64} {mAt : Nat → Int32} {mKAt : Nat → Int32} {mByt : Nat → Int32} {mFrm : Nat → Int32} (h : (ST lb n N uOpen uFill uSaved uSerial uDown uArmed uWritten uBytes uSers uBlks uUnts uStos uHis uLos cNumber cSerial cOpen cFill cPlcs uSts uPlcs mSegs mOpen mLast mKLast mKOpen mKFill mNumber mDown mArmed mLeft mWritten mSt mFil mSav mCnt mBlk mSto mUnt mSiz mSer mHi mLo mAt mKAt mByt)) (x1 : Int32) : ∃ (r : Int32), U_live n N uDown uBlks uUnts uPlcs x1 = some r ∧ M_live mSegs mDown mSiz mAt x1 = some r ∧ (ST (lb + 16) n N uOpen uFill uSaved uSerial uDown uArmed uWritten uBytes uSers uBlks uUnts uStos uHis uLos cNumber cSerial cOpen cFill cPlcs uSts uPlcs mSegs mOpen mLast mKLast mKOpen mKFill mNumber mDown mArmed mLeft mWritten mSt mFil mSav mCnt mBlk mSto mUnt mSiz mSer mHi mLo mAt mKAt mByt) := by
  obtain ⟨dn, op, fl, last, kl, ko, kf, st, cn, un, sz, sr, bk, so, sav, pa, ka, hi, lo, h1, rfl, rfl, rfl, rfl, h6, g, hu, hm, hD⟩ := h
  have hst : (ST (lb + 16) n N uOpen uFill uSaved uSerial (nI dn) uArmed uWritten uBytes uSers uBlks uUnts uStos uHis uLos cNumber cSerial cOpen cFill cPlcs uSts uPlcs mSegs mOpen mLast mKLast mKOpen mKFill cNumber (nI dn) mArmed mLeft mWritten mSt mFil mSav mCnt mBlk mSto mUnt mSiz mSer mHi mLo mAt mKAt uBytes) := ⟨dn, op, fl, last, kl, ko, kf, st, cn, un, sz, sr, bk, so, sav, pa, ka, hi, lo, h1, rfl, rfl, rfl, rfl, by omega, g, hu, hm, hD⟩
  unfold U_live M_live
  by_cases e : dn = 0
  · subst e
    have L := LV_of g hu hm
    have hn8 : n ≤ 8 := g.1.2.1
    obtain ⟨m1, -⟩ := hm
    subst m1
    rcases iss_ok hn8 x1 with ⟨j, hj, rfl, hq, c1, c2⟩ | ⟨hq, c⟩
    · exact ⟨nI (lv sz pa j), by simp only [n00, c10, c00, cm10, cm20, cm30, cm40, l0m1, if_true, if_false, Option.bind_some, hq, liveU L hj], by simp only [n00, c10, c00, cm10, cm20, cm30, cm40, l0m1, if_true, if_false, Option.bind_some, eq_false c1, eq_true c2, liveM L hj], hst⟩
    · refine ⟨-1, by simp only [n00, c10, c00, cm10, cm20, cm30, cm40, l0m1, if_true, if_false, Option.bind_some, hq], ?_, hst⟩
      simp only [n00, c10, c00, cm10, cm20, cm30, cm40, l0m1, if_true, if_false, Option.bind_some]
      rcases c with c | c
      · rw [if_pos c]
      · rw [if_neg c]
        by_cases c0 : x1 < 0
        · rw [if_pos c0]
        · rw [if_neg c0]
  · have hd := eq_false (dn_0 h1 e)
    exact ⟨-4, by simp only [n00, c10, c00, cm10, cm20, cm30, cm40, l0m1, if_true, if_false, Option.bind_some, hd], by simp only [n00, c10, c00, cm10, cm20, cm30, cm40, l0m1, if_true, if_false, Option.bind_some, hd], hst⟩
/-- the segment to be cleaned, the same for both -/
theorem victim_ok {n N : Nat} {cn un sz bk pa st : Nat → Nat} {uBlks uUnts uPlcs mSiz mAt uSts mSt : Nat → Int32} (h : LV n N cn un sz bk pa uBlks uUnts uPlcs mSiz mAt) (h2 : ∀ s, s < n → st s ≤ 2 ∧ uSts s = nI (st s) ∧ mSt s = nI (st s)) :
    (U_closedWithFewestLive n N uBlks uUnts uSts uPlcs = some (-1) ∧ M_victim (nI n) mSt mSiz mAt = some (-1)) ∨ (∃ j, j < n ∧ st j = 2 ∧ U_closedWithFewestLive n N uBlks uUnts uSts uPlcs = some (nI j) ∧ M_victim (nI n) mSt mSiz mAt = some (nI j)) := by
  have hn8 : n ≤ 8 := h.2.1
  unfold U_closedWithFewestLive M_victim
  suffices H : ∀ (d f1 f2 i : Nat) (x y : Int32), i + d = n → d < f1 → d < f2 → ((x = -1 ∧ y = nI 17) ∨ ∃ j, j < n ∧ st j = 2 ∧ x = nI j ∧ y = nI (lv sz pa j)) →
      (U_closedWithFewestLive_L7 n N uBlks uUnts uSts uPlcs (fun x1_k7 x2_k7 x3_k7 => some x1_k7) f1 x y (nI i) = some (-1) ∧ M_victim_L4 (nI n) mSt mSiz mAt (fun x1_k4 x2_k4 => some x1_k4) f2 x (nI i) = some (-1)) ∨ (∃ j, j < n ∧ st j = 2 ∧ U_closedWithFewestLive_L7 n N uBlks uUnts uSts uPlcs (fun x1_k7 x2_k7 x3_k7 => some x1_k7) f1 x y (nI i) = some (nI j) ∧ M_victim_L4 (nI n) mSt mSiz mAt (fun x1_k4 x2_k4 => some x1_k4) f2 x (nI i) = some (nI j)) from
    H n 300 300 0 (-1) 17 (by omega) (by omega) (by omega) (Or.inl ⟨rfl, rfl⟩)
  intro d
  induction d with
  | zero =>
    intro f1 f2 i x y hi h1 h2' hxy
    obtain ⟨f, rfl⟩ : ∃ f, f1 = f + 1 := ⟨f1 - 1, by omega⟩
    obtain ⟨q, rfl⟩ : ∃ f, f2 = f + 1 := ⟨f2 - 1, by omega⟩
    obtain rfl : i = n := by omega
    rw [U_closedWithFewestLive_L7, M_victim_L4, if_pos (q_le (by omega) (by omega) (Nat.le_refl _)), if_pos (q_le (by omega) (by omega) (Nat.le_refl _))]
    rcases hxy with ⟨rfl, -⟩ | ⟨j, j1, j2, rfl, -⟩
    · exact Or.inl ⟨rfl, rfl⟩
    · exact Or.inr ⟨j, j1, j2, rfl, rfl⟩
  | succ d ih =>
    intro f1 f2 i x y hi h1 h2' hxy
    obtain ⟨f, rfl⟩ : ∃ f, f1 = f + 1 := ⟨f1 - 1, by omega⟩
    obtain ⟨q, rfl⟩ : ∃ f, f2 = f + 1 := ⟨f2 - 1, by omega⟩
    obtain ⟨z1, z2, z3⟩ := h2 i (by omega)
    have hl := lv_le h (s := i) (by omega)
    rw [U_closedWithFewestLive_L7, M_victim_L4, if_neg (q_nle (by omega) (by omega) (by omega)), if_neg (q_nle (by omega) (by omega) (by omega)), q_ck (by omega) (by omega), q_ck (by omega) (by omega), nI_clamp (by omega), z2, z3, nI_1]
    by_cases e : st i = 2
    · rw [if_pos (by rw [e]; rfl), if_pos (by rw [e]; rfl), liveU h (by omega), Option.bind_some, Option.bind_some, liveM h (by omega)]
      rcases hxy with ⟨rfl, rfl⟩ | ⟨j, j1, j2, rfl, rfl⟩
      · rw [if_neg (q_nle (by omega) (by omega) (by omega)), if_pos (by decide)]
        exact ih f q (i + 1) _ _ (by omega) (by omega) (by omega) (Or.inr ⟨i, by omega, e, rfl, rfl⟩)
      · have hj := lv_le h j1
        rw [if_neg (show ¬ nI j < (0 : Int32) from nI_pos (by omega)), Option.bind_some, liveM h j1, Option.bind_some]
        by_cases c : lv sz pa j ≤ lv sz pa i
        · rw [if_pos (q_le (by omega) (by omega) c), if_pos (q_le (by omega) (by omega) c)]
          exact ih f q (i + 1) _ _ (by omega) (by omega) (by omega) (Or.inr ⟨j, j1, j2, rfl, rfl⟩)
        · rw [if_neg (q_nle (by omega) (by omega) (by omega)), if_neg (q_nle (by omega) (by omega) (by omega))]
          exact ih f q (i + 1) _ _ (by omega) (by omega) (by omega) (Or.inr ⟨i, by omega, e, rfl, rfl⟩)
    · rw [if_neg (show ¬ nI (st i) = (2 : Int32) from q_ne (b := 2) (by omega) (by omega) e), if_neg (show ¬ nI (st i) = (2 : Int32) from q_ne (b := 2) (by omega) (by omega) e)]
      exact ih f q (i + 1) _ _ (by omega) (by omega) (by omega) hxy
