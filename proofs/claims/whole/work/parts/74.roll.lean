/-! recovery: rolling forward, sorting the segments -/
def RI (n : Nat) (cn un sz sr bk so : Nat → Nat) (c op fl : Nat) (pa : Nat → Nat) (uP mP : Nat → Int32) : Prop :=
  op < n ∧ fl ≤ 16 ∧ (∀ b, b < 16 → uP b = encU un (pa b) ∧ mP b = enc (pa b) ∧ (pa b ≠ 0 → vld n cn (pa b - 1) ∧ bk (pa b - 1) = b ∧ so (pa b - 1) = 1 ∧ sr (pa b - 1) ≤ c)) ∧ ∀ k, vld n cn k → k / 8 = op → sr k ≤ c → un k + sz k ≤ fl
theorem roll_L {n : Nat} {op : Nat} {fl : Nat} {last : Nat} {kl : Nat} {ko : Nat} {kf : Nat} {st : Nat → Nat} {cn : Nat → Nat} {un : Nat → Nat} {sz : Nat → Nat} {sr : Nat → Nat} {bk : Nat → Nat} {so : Nat → Nat} {sav : Nat → Nat} {pa : Nat → Nat} {ka : Nat → Nat} {hi : Nat → Int64} {lo : Nat → Int64} {N : Nat} {uOpen : Int32} {uFill : Int32} {uSaved : Int32} {uSerial : Int32} {cSerial : Int32} {cOpen : Int32} {cFill : Int32} {uSts : Nat → Int32} {uPlcs : Nat → Int32} {cPlcs : Nat → Int32} {uSers : Nat → Int32} {uBlks : Nat → Int32} {uUnts : Nat → Int32} {uStos : Nat → Int32} {uHis : Nat → Int64} {uLos : Nat → Int64} {mSegs : Int32} {mOpen : Int32} {mLast : Int32} {mKLast : Int32} {mKOpen : Int32} {mKFill : Int32} {mSt : Nat → Int32} {mFil : Nat → Int32} {mSav : Nat → Int32} {mCnt : Nat → Int32} {mBlk : Nat → Int32} {mSto : Nat → Int32} {mUnt : Nat → Int32} {mSiz : Nat → Int32} {mSer : Nat → Int32} {mAt : Nat → Int32} {mKAt : Nat → Int32} {mHi : Nat → Int64} {mLo : Nat → Int64} (g : (GI n op fl last kl ko kf st cn un sz sr bk so sav pa ka)) (hu : (RU 1 N n op fl last kl ko kf st cn un sz sr bk so sav pa ka hi lo uOpen uFill uSaved uSerial cSerial cOpen cFill uSts uPlcs cPlcs uSers uBlks uUnts uStos uHis uLos)) (hm : (RM n op fl last kl ko kf st cn un sz sr bk so sav pa ka hi lo mSegs mOpen mLast mKLast mKOpen mKFill mSt mFil mSav mCnt mBlk mSto mUnt mSiz mSer mAt mKAt mHi mLo)) : ∀ (d c0 fU fM op0 fl0 : Nat) (pa0 : Nat → Nat) (uP mP : Nat → Int32) (z : Int32), c0 + d = last → kl ≤ c0 → d < fU → d < fM → RI n cn un sz sr bk so c0 op0 fl0 pa0 uP mP → M_find mSegs mSav mCnt mUnt mSiz mSer (nI (c0 + 1)) = some z →
    ∃ (c1 op1 fl1 : Nat) (pa1 : Nat → Nat) (uP1 mP1 : Nat → Int32), c0 ≤ c1 ∧ c1 ≤ last ∧ RI n cn un sz sr bk so c1 op1 fl1 pa1 uP1 mP1 ∧ (∀ j, vld n cn j → ¬ hit un sz sr sav (c1 + 1) j) ∧
      (∀ K, U_rollForward_L4 N uSers uBlks uUnts uStos K fU (nI op0) (nI fl0) (nI c0) uP (nI (c0 - kl)) (nI (c0 - kl)) = K (nI op1) (nI fl1) (nI c1) uP1 (nI (c1 - kl)) (nI (c1 - kl))) ∧
      (∀ K, M_recover_L79 mSegs mSav mCnt mBlk mSto mUnt mSiz mSer K fM (nI op0) (nI c0) mP (nI fl0) (nI (c0 - kl)) z = K (nI op1) (nI c1) mP1 (nI fl1) (nI (c1 - kl)) (-1)) := by
  have g0 := g
  have hu0 := hu
  have hm0 := hm
  obtain ⟨⟨b1, b2, b3, b4, b5, b6, b7, b8, b9, b10⟩, -, g3', g4', g5', -, g7', -⟩ := g0
  obtain ⟨u1, -, -, -, -, -, -, -, -, -, -, u12, -⟩ := hu0
  obtain ⟨-, -, -, -, -, -, -, -, m9, -⟩ := hm0
  intro d
  induction d with
  | zero =>
    intro c0 fU fM op0 fl0 pa0 uP mP z hd hk h1 h2 hI hz
    obtain ⟨f, rfl⟩ : ∃ f, fU = f + 1 := ⟨fU - 1, by omega⟩
    obtain ⟨e, rfl⟩ : ∃ f, fM = f + 1 := ⟨fM - 1, by omega⟩
    have hq := new_le g5'.1 g7' (show c0 ≤ last by omega)
    rcases find_ok g hu hm (w := c0 + 1) (by omega) (by omega) with ⟨k, k1, k2, -⟩ | ⟨k1, k2, k3⟩
    · exfalso
      have := (g3' k k1).2.2.2.2.2.1
      have := k2.1
      omega
    · rw [k3] at hz
      cases hz
      refine ⟨c0, op0, fl0, pa0, uP, mP, Nat.le_refl _, by omega, hI, k1, fun K => ?_, fun K => ?_⟩
      · rw [U_rollForward_L4, if_neg (q_nle (by omega) (by omega) (by omega)), nI_1, k2, Option.bind_some, if_pos rfl]
      · rw [M_recover_L79, if_pos (by decide)]
  | succ d ih =>
    intro c0 fU fM op0 fl0 pa0 uP mP z hd hk h1 h2 hI hz
    obtain ⟨f, rfl⟩ : ∃ f, fU = f + 1 := ⟨fU - 1, by omega⟩
    obtain ⟨e, rfl⟩ : ∃ f, fM = f + 1 := ⟨fM - 1, by omega⟩
    have hq := new_le g5'.1 g7' (show c0 ≤ last by omega)
    rcases find_ok g hu hm (w := c0 + 1) (by omega) (by omega) with ⟨k, k1, k2, k3, k4⟩ | ⟨k1, k2, k3⟩
    · rw [k4] at hz
      cases hz
      have x := g3' k k1
      obtain ⟨y1, y2, y3, y4, y5, y6, y7⟩ := m9 k k1
      obtain ⟨z1, z2, z3, z4, z5⟩ := u12 k k1
      have hk64 : k < 64 := by unfold vld at k1; omega
      have hpl : pl un k < N := by rw [u1]; unfold pl; unfold vld at k1; omega
      have hN : N < 2 ^ 31 := by omega
      have hdiv : nI (pl un k) / (16 : Int32) = nI (k / 8) := by
        rw [show (16 : Int32) = nI 16 from rfl, pk_div (by omega) (by omega) (by omega)]; congr 1; unfold pl; omega
      have hrem : nI (pl un k) - nI (k / 8) * (16 : Int32) = nI (un k) := by
        rw [← hdiv, show (16 : Int32) = nI 16 from rfl, pk_rem (by omega) (by omega) (by omega)]; congr 1; unfold pl; omega
      have hz2 : ∃ z2, M_find mSegs mSav mCnt mUnt mSiz mSer (nI (c0 + 1 + 1)) = some z2 := by
        rcases find_ok g hu hm (w := c0 + 1 + 1) (by omega) (by omega) with ⟨_, _, _, _, w⟩ | ⟨_, _, w⟩
        · exact ⟨_, w⟩
        · exact ⟨_, w⟩
      obtain ⟨z2', hz2⟩ := hz2
      have hI2 : RI n cn un sz sr bk so (c0 + 1) (k / 8) (un k + sz k) (va_up pa0 (bk k) (if so k = 1 then k + 1 else 0)) (upd uP (bk k) (if so k = 1 then nI (pl un k) else (-1 : Int32))) (upd mP (bk k) (if so k = 1 then nI k else (-1 : Int32))) := by
        obtain ⟨i1, i2, i3, i4⟩ := hI
        refine ⟨k1.1, x.1, fun b hb => ?_, fun j j1 j2 j3 => ?_⟩
        · by_cases eb : b = bk k
          · subst eb
            rw [upd_s, upd_s, up_s]
            by_cases es : so k = 1
            · rw [if_pos es, if_pos es, if_pos es]
              exact ⟨rfl, rfl, fun _ => ⟨k1, rfl, es, by rw [show k + 1 - 1 = k from rfl]; have := k2.1; omega⟩⟩
            · rw [if_neg es, if_neg es, if_neg es]
              exact ⟨rfl, rfl, fun w => absurd rfl w⟩
          · rw [upd_n _ _ eb, upd_n _ _ eb, up_n _ _ eb]
            obtain ⟨w1, w2, w3⟩ := i3 b hb
            refine ⟨w1, w2, fun w => ?_⟩
            obtain ⟨v1, v2, v3, v4⟩ := w3 w
            exact ⟨v1, v2, v3, by omega⟩
        · have hs := k2.1
          rcases Nat.lt_trichotomy j k with w | w | w
          · have := (slot_lt g4' g5'.1 j1 k1 j2 w).1; omega
          · subst w; omega
          · have := (slot_lt g4' g5'.1 k1 j1 j2.symm w).2; omega
      have hdn : c0 + 1 - kl = c0 - kl + 1 := by omega
      obtain ⟨c1, op1, fl1, pa1, uP1, mP1, r1, r2, r3, r4, r5, r6⟩ := ih (c0 + 1) f e (k / 8) (un k + sz k) _ _ _ z2' (by omega) (by omega) (by omega) (by omega) hI2 hz2
      rw [hdn] at r5 r6
      refine ⟨c1, op1, fl1, pa1, uP1, mP1, by omega, r2, r3, r4, fun K => ?_, fun K => ?_⟩
      · rw [← r5 K, U_rollForward_L4, if_neg (q_nle (by omega) (by omega) (by omega)), nI_1, k3, Option.bind_some, if_neg (q_nem1 (by omega)), q_ck hpl hN, q_ck hpl hN, nI_clamp (by omega), z3, z1, q_ck x.2.2.2.1 (by omega), q_ck x.2.2.2.1 (by omega), q_ck hpl hN, q_ck hpl hN, nI_clamp (by omega), hdiv, hrem, z2, nI_add, nI_1]
        rcases (show so k = 0 ∨ so k = 1 by omega) with es | es
        · rw [es, if_pos nz0, if_neg (by omega)]
        · rw [es, if_neg (by decide), if_pos rfl]
      · rw [← r6 K, M_recover_L79, if_neg (show ¬ nI k < (0 : Int32) from nI_pos (by omega)), q_ck hk64 (by omega), q_ck hk64 (by omega), nI_clamp (by omega), y2, y1, q_ck x.2.2.2.1 (by omega), q_ck x.2.2.2.1 (by omega), q_ck hk64 (by omega), q_ck hk64 (by omega), q_ck hk64 (by omega), q_ck hk64 (by omega), nI_1, nI_1, hz2, Option.bind_some, Option.bind_some, nI_clamp (by omega), div8 hk64, y3, y4, nI_add, nI_1]
        rcases (show so k = 0 ∨ so k = 1 by omega) with es | es
        · rw [es, if_pos nz0, if_neg (by omega)]
        · rw [es, if_neg (by decide), if_pos rfl]
    · rw [k3] at hz
      cases hz
      refine ⟨c0, op0, fl0, pa0, uP, mP, Nat.le_refl _, by omega, hI, k1, fun K => ?_, fun K => ?_⟩
      · rw [U_rollForward_L4, if_neg (q_nle (by omega) (by omega) (by omega)), nI_1, k2, Option.bind_some, if_pos rfl]
      · rw [M_recover_L79, if_pos (by decide)]
theorem sortU_L {n N : Nat} {cn un sz bk pa : Nat → Nat} {uBlks uUnts uPlcs mSiz mAt : Nat → Int32} (h : LV n N cn un sz bk pa uBlks uUnts uPlcs mSiz mAt) : ∀ (d fuel i : Nat) (S : Nat → Int32), i + d = n → d < fuel → ∃ S', (∀ K, U_sortSegments_L2 n N uBlks uUnts uPlcs K fuel S (nI i) = K S' (nI n)) ∧ (∀ s, i ≤ s → s < n → S' s = nI (if lv sz pa s = 0 then 0 else 2)) ∧ ∀ s, s < i → S' s = S s := by
  have hn8 := h.2.1
  intro d
  induction d with
  | zero =>
    intro fuel i S hi hf
    obtain ⟨f, rfl⟩ : ∃ f, fuel = f + 1 := ⟨fuel - 1, by omega⟩
    obtain rfl : i = n := by omega
    exact ⟨S, fun K => by rw [U_sortSegments_L2, if_pos (q_le (by omega) (by omega) (Nat.le_refl _))], fun s s1 s2 => absurd s1 (by omega), fun _ _ => rfl⟩
  | succ d ih =>
    intro fuel i S hi hf
    obtain ⟨f, rfl⟩ : ∃ f, fuel = f + 1 := ⟨fuel - 1, by omega⟩
    have hl := lv_le h (s := i) (by omega)
    obtain ⟨S', r1, r2, r3⟩ := ih f (i + 1) (upd S i (nI (if lv sz pa i = 0 then 0 else 2))) (by omega) (by omega)
    refine ⟨S', fun K => ?_, fun s s1 s2 => ?_, fun s s1 => by rw [r3 s (by omega), upd_n _ _ (by omega)]⟩
    · rw [← r1 K, U_sortSegments_L2, if_neg (q_nle (by omega) (by omega) (by omega)), liveU h (by omega), Option.bind_some, q_ck (by omega) (by omega), q_ck (by omega) (by omega), nI_clamp (by omega), nI_1]
      by_cases e : lv sz pa i = 0
      · rw [if_pos e, if_pos (show nI (lv sz pa i) ≤ (0 : Int32) from q_le (b := 0) (by omega) (by omega) (by omega))]; rfl
      · rw [if_neg e, if_neg (show ¬ nI (lv sz pa i) ≤ (0 : Int32) from q_nle (b := 0) (by omega) (by omega) (by omega))]; rfl
    · rcases Nat.eq_or_lt_of_le s1 with q | q
      · subst q; rw [r3 i (by omega), upd_s]
      · exact r2 s q s2
def tr (sr : Nat → Nat) (s c1 : Nat) : Nat → Nat
  | 0 => 0
  | m + 1 => if sr (8 * s + m) ≤ c1 then m + 1 else tr sr s c1 m
theorem tr_le (sr : Nat → Nat) (s c1 : Nat) : ∀ m, tr sr s c1 m ≤ m := by
  intro m
  induction m with
  | zero => exact Nat.le_refl _
  | succ m ih =>
    rw [tr]
    by_cases h : sr (8 * s + m) ≤ c1
    · rw [if_pos h]; exact Nat.le_refl _
    · rw [if_neg h]; omega
theorem tr_iff {sr : Nat → Nat} {s c1 : Nat} : ∀ m, (∀ i j, i < j → j < m → sr (8 * s + i) < sr (8 * s + j)) → ∀ i, i < m → (i < tr sr s c1 m ↔ sr (8 * s + i) ≤ c1) := by
  intro m
  induction m with
  | zero => intro _ i hi; omega
  | succ m ih =>
    intro h i hi
    rw [tr]
    by_cases q : sr (8 * s + m) ≤ c1
    · rw [if_pos q]
      refine ⟨fun _ => ?_, fun _ => hi⟩
      by_cases e : i = m
      · subst e; exact q
      · have := h i m (by omega) (by omega); omega
    · rw [if_neg q]
      by_cases e : i = m
      · subst e
        have := tr_le sr s c1 i
        omega
      · exact ih (fun a b h1 h2 => h a b h1 (by omega)) i (by omega)
theorem trim_L {s c1 : Nat} {sr : Nat → Nat} {mSer : Nat → Int32} (hs : s < 8) (hc : c1 < 2 ^ 31) : ∀ (m fuel : Nat) (C : Nat → Int32), C s = nI m → m < fuel → m ≤ 8 → (∀ i, i < m → mSer (8 * s + i) = nI (sr (8 * s + i)) ∧ sr (8 * s + i) < 2 ^ 31) → ∃ C', (∀ K : (Nat → Int32) → Option (Int32 × Int32 × Int32 × Int32 × Int32 × Int32 × Int32 × Int32 × Int32 × Int32 × Int32 × (Nat → Int32) × (Nat → Int32) × (Nat → Int32) × (Nat → Int32) × (Nat → Int32) × (Nat → Int32)), M_recover_L169 (nI c1) mSer (nI s) K fuel C = K C') ∧ C' s = nI (tr sr s c1 m) ∧ ∀ j, j ≠ s → C' j = C j := by
  intro m
  induction m with
  | zero =>
    intro fuel C hC hf h8 hS
    obtain ⟨f, rfl⟩ : ∃ f, fuel = f + 1 := ⟨fuel - 1, by omega⟩
    exact ⟨C, fun K => by rw [M_recover_L169, q_ck hs (by omega), nI_clamp (by omega), hC, if_pos (by decide)], hC, fun _ _ => rfl⟩
  | succ m ih =>
    intro fuel C hC hf h8 hS
    obtain ⟨f, rfl⟩ : ∃ f, fuel = f + 1 := ⟨fuel - 1, by omega⟩
    obtain ⟨z1, z2⟩ := hS m (by omega)
    have hn : ¬ nI (m + 1) ≤ (0 : Int32) := q_nle (b := 0) (by omega) (by omega) (by omega)
    have hix : (8 : Int32) * nI s + nI (m + 1) - (1 : Int32) = nI (8 * s + m) := by
      rw [show (8 : Int32) = nI 8 from rfl, pk_mul, nI_add, show (1 : Int32) = nI 1 from rfl, pk_sub (by omega)]; congr 1
    by_cases q : sr (8 * s + m) ≤ c1
    · exact ⟨C, fun K => by rw [M_recover_L169, q_ck hs (by omega), nI_clamp (by omega), hC, if_neg hn, q_ck hs (by omega), hix, q_ck (by omega) (by omega), nI_clamp (by omega), z1, if_pos (q_le z2 hc q)], by rw [hC, tr, if_pos q], fun _ _ => rfl⟩
    · obtain ⟨C', r1, r2, r3⟩ := ih f (upd C s (nI (m + 1) - (1 : Int32))) (by rw [upd_s]; exact pk_sub (a := m + 1) (b := 1) (by omega)) (by omega) (by omega) (fun i hi => hS i (by omega))
      refine ⟨C', fun K => ?_, by rw [r2, tr, if_neg q], fun j hj => by rw [r3 j hj, upd_n _ _ hj]⟩
      rw [← r1 K, M_recover_L169, q_ck hs (by omega), nI_clamp (by omega), hC, if_neg hn, q_ck hs (by omega), hix, q_ck (by omega) (by omega), nI_clamp (by omega), z1, if_neg (q_nle z2 hc (by omega)), q_ck hs (by omega), q_ck hs (by omega)]
theorem sortM_L {n N c1 op1 : Nat} {cn un sz bk pa sr : Nat → Nat} {uBlks uUnts uPlcs mSiz mAt mSer : Nat → Int32} (h : LV n N cn un sz bk pa uBlks uUnts uPlcs mSiz mAt) (hc : c1 < 2 ^ 31) (ho : op1 < n) (hS : ∀ k, vld n cn k → mSer k = nI (sr k) ∧ sr k < 2 ^ 31) : ∀ (d fuel i : Nat) (S C : Nat → Int32), i + d = n → d < fuel → (∀ s, i ≤ s → s < n → C s = nI (cn s)) → ∃ S' C', (∃ x, ∀ K, M_recover_L160 (nI n) (nI op1) (nI c1) mSiz mSer mAt K fuel S C (nI i) = K S' C' x) ∧ (∀ s, i ≤ s → s < n → S' s = nI (if s = op1 then 1 else if lv sz pa s = 0 then 0 else 2) ∧ C' s = nI (tr sr s c1 (cn s))) ∧ ∀ s, s < i → S' s = S s ∧ C' s = C s := by
  have hn8 := h.2.1
  intro d
  induction d with
  | zero =>
    intro fuel i S C hi hf hC
    obtain ⟨f, rfl⟩ : ∃ f, fuel = f + 1 := ⟨fuel - 1, by omega⟩
    obtain rfl : i = n := by omega
    exact ⟨S, C, ⟨nI i, fun K => by rw [M_recover_L160, if_pos (q_le (by omega) (by omega) (Nat.le_refl _))]⟩, fun s s1 s2 => absurd s1 (by omega), fun _ _ => ⟨rfl, rfl⟩⟩
  | succ d ih =>
    intro fuel i S C hi hf hC
    obtain ⟨f, rfl⟩ : ∃ f, fuel = f + 1 := ⟨fuel - 1, by omega⟩
    have hl := lv_le h (s := i) (by omega)
    have h8 := h.2.2.2.1 i (by omega)
    obtain ⟨C1, t1, t2, t3⟩ := trim_L (s := i) (c1 := c1) (sr := sr) (mSer := mSer) (by omega) hc (cn i) 300 C (hC i (Nat.le_refl _) (by omega)) (by omega) h8 (fun j hj => hS _ (vld_si (by omega) h8 hj))
    obtain ⟨S', C', ⟨x, r1⟩, r2, r3⟩ := ih f (i + 1) (upd S i (nI (if i = op1 then 1 else if lv sz pa i = 0 then 0 else 2))) C1 (by omega) (by omega) (fun s s1 s2 => by rw [t3 s (by omega)]; exact hC s (by omega) s2)
    refine ⟨S', C', ⟨x, fun K => ?_⟩, fun s s1 s2 => ?_, fun s s1 => ?_⟩
    · rw [← r1 K, M_recover_L160, if_neg (q_nle (by omega) (by omega) (by omega)), t1]
      by_cases e : i = op1
      · rw [if_pos (by rw [e]), if_pos e, q_ck (by omega) (by omega), nI_clamp (by omega), nI_1]; rfl
      · rw [if_neg (q_ne (by omega) (by omega) e), if_neg e, liveM h (by omega), Option.bind_some, q_ck (by omega) (by omega), q_ck (by omega) (by omega), nI_clamp (by omega), nI_1]
        by_cases e2 : lv sz pa i = 0
        · rw [if_pos e2, if_pos (show nI (lv sz pa i) ≤ (0 : Int32) from q_le (b := 0) (by omega) (by omega) (by omega))]; rfl
        · rw [if_neg e2, if_neg (show ¬ nI (lv sz pa i) ≤ (0 : Int32) from q_nle (b := 0) (by omega) (by omega) (by omega))]; rfl
    · rcases Nat.eq_or_lt_of_le s1 with q | q
      · subst q
        obtain ⟨w1, w2⟩ := r3 i (by omega)
        rw [w1, w2, upd_s]
        exact ⟨rfl, t2⟩
      · exact r2 s q s2
    · obtain ⟨w1, w2⟩ := r3 s (by omega)
      rw [w1, w2, upd_n _ _ (by omega), t3 s (by omega)]
      exact ⟨rfl, rfl⟩
/-- the checkpoint at a recovery's end: the disk isn't armed, all is saved -/
theorem chk_un {op fl last : Nat} (ho : op < 8) (hfl : fl ≤ 16) {F S : Nat → Int32} (hF : F op = nI fl) (hS : S op = nI fl) (uW mL cN cS cO cF kL kO kF mD : Int32) (cP uP mAt kA : Nat → Int32) : ∃ (w l : Int32) (S' : Nat → Int32), Dk (-1) w 0 l w ∧ S' op = nI fl ∧ (∀ s, s ≠ op → S' s = S s) ∧
    U_makeCheckpoint (nI op) (nI fl) (nI fl) (nI last) (-1) uW cN cS cO cF cP uP = some (1, nI fl, -1, w, cN + 1, nI last, nI op, nI fl, va_cpy uP cP (0 : Int32).toNatClampNeg (0 : Int32).toNatClampNeg (16 : Int32).toNatClampNeg) ∧
    M_check (nI op) (nI last) kL kO kF cN mD 0 mL uW F S mAt kA = some (1, nI last, nI op, nI fl, cN + 1, mD, l, w, S', cpB mAt kA 0 0 16) := by
  have hD : Dk (-1) uW 0 mL uW := ⟨rfl, Or.inl ⟨rfl, rfl⟩⟩
  obtain ⟨v, a, w, l, S', r2, r3, r4, r5, r6, r7⟩ := save_ok ho hfl (Nat.le_refl _) hF hS (mD := mD) hD
  obtain ⟨ra, rfl⟩ := r6 rfl
  subst ra
  rcases r7 with ⟨-, t2, t3⟩ | ⟨t0, -⟩
  · obtain ⟨a', w', l', s1, s2, s3⟩ := chk_L (uS := nI v) (cN := cN) (cS := cS) (cO := cO) (cF := cF) (cP := cP) (kL := kL) (kO := kO) (kF := kF) (nm := cN) (mA := 0) (mD := mD) (S := S') (kA := kA) 20 0 300 300 (-1) w l w (by omega) (by omega) (by omega) r5
    have sa := s2 rfl
    subst sa
    rcases s3 with ⟨s4, s5⟩ | ⟨s0, -⟩
    · refine ⟨w', l', S', s1, r3, r4, ?_, ?_⟩
      · unfold U_makeCheckpoint
        rw [t2, Option.bind_some, if_neg (show ¬ (1 : Int32) = 0 by decide)]
        rw [show (0 : Int32) = nI 0 from rfl, s4]
      · unfold M_check
        rw [t3, Option.bind_some, if_pos (show (0 : Int32) ≤ nI (v - v) from q_le (a := 0) (by omega) (by omega) (by omega))]
        erw [s5, keep_L mAt _ 16 300 0 kA (by omega) (by omega)]
        rw [q_ck (by omega) (by omega), nI_clamp (by omega), hF]
    · exact absurd rfl s0
  · exact absurd rfl t0
theorem back_L (kA : Nat → Int32) (K : (Nat → Int32) → Int32 → Option (Int32 × Int32 × Int32 × Int32 × Int32 × Int32 × Int32 × Int32 × Int32 × Int32 × Int32 × (Nat → Int32) × (Nat → Int32) × (Nat → Int32) × (Nat → Int32) × (Nat → Int32) × (Nat → Int32))) : ∀ (d fuel k : Nat) (F : Nat → Int32), k + d = 16 → d < fuel → M_recover_L21 kA K fuel F (nI k) = K (cpB kA F k k d) (nI 16) := by
  intro d
  induction d with
  | zero =>
    intro fuel k F hk hf
    obtain ⟨f, rfl⟩ : ∃ f, fuel = f + 1 := ⟨fuel - 1, by omega⟩
    obtain rfl : k = 16 := by omega
    rw [M_recover_L21, if_pos (show (16 : Int32) ≤ nI 16 by decide), cpB_0]
  | succ d ih =>
    intro fuel k F hk hf
    obtain ⟨f, rfl⟩ : ∃ f, fuel = f + 1 := ⟨fuel - 1, by omega⟩
    rw [M_recover_L21, if_neg (show ¬ (16 : Int32) ≤ nI k from q_nle (a := 16) (by omega) (by omega) (by omega)), q_ck (by omega) (by omega), q_ck (by omega) (by omega), nI_clamp (by omega), nI_1, ih f (k + 1) _ (by omega) (by omega), cpB_s]
