/-! the abstract state's moves keep it well formed -/
theorem GI_sav {n : Nat} {op : Nat} {fl : Nat} {last : Nat} {kl : Nat} {ko : Nat} {kf : Nat} {st : Nat → Nat} {cn : Nat → Nat} {un : Nat → Nat} {sz : Nat → Nat} {sr : Nat → Nat} {bk : Nat → Nat} {so : Nat → Nat} {sav : Nat → Nat} {pa : Nat → Nat} {ka : Nat → Nat} (h : (GI n op fl last kl ko kf st cn un sz sr bk so sav pa ka)) (v : Nat) (hv : v ≤ fl) : (GI n op fl last kl ko kf st cn un sz sr bk so (va_up sav op v) pa ka) := by
  obtain ⟨a1, a2, a3, a4, a5, a6, a7, a8, a9, a10⟩ := h
  obtain ⟨b1, b2, b3, b4, b5, b6, b7, b8, b9, b10⟩ := a1
  refine ⟨⟨b1, b2, b3, b4, by rw [up_s]; exact hv, b6, b7, b8, b9, fun s hs => ?_⟩, a2, a3, a4, a5, ⟨a6.1, fun k hk ho hn => ?_, a6.2.2⟩, a7, a8, a9, a10⟩
  · by_cases e : s = op
    · subst e; rw [up_s]; omega
    · rw [up_n _ _ e]; exact b10 s hs
  · rw [up_n _ _ ho]; exact a6.2.1 k hk ho hn
theorem vld_open {n j k : Nat} {cn : Nat → Nat} : vld n (va_up cn j 0) k ↔ vld n cn k ∧ k / 8 ≠ j := by
  unfold vld
  by_cases e : k / 8 = j
  · rw [e, up_s]; omega
  · rw [up_n _ _ e]; omega
theorem GI_open {n : Nat} {op : Nat} {fl : Nat} {last : Nat} {kl : Nat} {ko : Nat} {kf : Nat} {st : Nat → Nat} {cn : Nat → Nat} {un : Nat → Nat} {sz : Nat → Nat} {sr : Nat → Nat} {bk : Nat → Nat} {so : Nat → Nat} {sav : Nat → Nat} {pa : Nat → Nat} {ka : Nat → Nat} (h : (GI n op fl last kl ko kf st cn un sz sr bk so sav pa ka)) (j : Nat) (hj : j < n) (h0 : st j = 0) (hs : sav op = fl) : (GI n j 0 last kl ko kf (va_up (va_up st op 2) j 1) (va_up cn j 0) un sz sr bk so (va_up sav j 0) pa ka) := by
  obtain ⟨a1, a2, a3, a4, a5, a6, a7, a8, a9, a10⟩ := h
  obtain ⟨b1, b2, b3, b4, b5, b6, b7, b8, b9, b10⟩ := a1
  obtain ⟨c1, c2, c3, c4⟩ := a2
  have hjo : j ≠ op := fun e => by rw [e] at h0; omega
  have hjk : j ≠ ko := fun e => by rw [e] at h0; omega
  have hst : ∀ s, s ≠ j → s ≠ op → va_up (va_up st op 2) j 1 s = st s := fun s x y => by rw [up_n _ _ x, up_n _ _ y]
  have hso : va_up (va_up st op 2) j 1 op = 2 := by rw [up_n _ _ (Ne.symm hjo), up_s]
  refine ⟨⟨b1, b2, hj, by omega, by rw [up_s]; omega, b6, b7, b8, b9, fun s hs => ?_⟩, ⟨fun s hs => ?_, up_s _ _ _, fun s hs h1 => ?_, ?_⟩, fun k hk => a3 k (vld_open.mp hk).1, fun k hk hc => ?_, ⟨fun s hs => ?_, fun k hk e => absurd e (vld_open.mp hk).2⟩, ⟨fun k hk h1 => ?_, fun k hk ho hn => ?_, fun k i hk hi _ e => absurd e (vld_open.mp hi).2⟩, fun w h1 h2 => ?_, fun b hb hp => ?_, fun b hb hp => ?_, fun k hk => a10 k (vld_open.mp hk).1⟩
  · by_cases e : s = j
    · subst e; rw [up_s]; omega
    · rw [up_n _ _ e]; exact b10 s hs
  · by_cases e : s = j
    · subst e; rw [up_s]; omega
    · by_cases e2 : s = op
      · subst e2; rw [hso]; omega
      · rw [hst s e e2]; exact c1 s hs
  · by_cases e : s = j
    · exact e
    · by_cases e2 : s = op
      · subst e2; rw [hso] at h1; omega
      · rw [hst s e e2] at h1; exact absurd (c3 s hs h1) e2
  · by_cases e2 : ko = op
    · rw [e2, hso]; omega
    · rw [hst ko (Ne.symm hjk) e2]; exact c4
  · by_cases e : k / 8 = j
    · rw [e, up_s] at hc; omega
    · rw [up_n _ _ e] at hc; exact a4 k hk hc
  · by_cases e : s = j
    · subst e; rw [up_s]; omega
    · rw [up_n _ _ e]; exact a5.1 s hs
  · obtain ⟨v1, v2⟩ := vld_open.mp hk
    by_cases e2 : k / 8 = op
    · rw [e2, hso] at h1; omega
    · rw [hst _ v2 e2] at h1; exact a6.1 k v1 h1
  · obtain ⟨v1, v2⟩ := vld_open.mp hk
    rw [up_n _ _ v2]
    by_cases e2 : k / 8 = op
    · rw [e2, hs]; exact a5.2 k v1 e2
    · exact a6.2.1 k v1 e2 hn
  · obtain ⟨k, v1, v2⟩ := a7 w h1 h2
    refine ⟨k, vld_open.mpr ⟨v1, fun e => ?_⟩, v2⟩
    have := a6.1 k v1 (by rw [e]; exact h0)
    omega
  · obtain ⟨d1, d2, d3, d4⟩ := a8 b hb hp
    have e : (pa b - 1) / 8 ≠ j := fun e => d4 (by rw [e]; exact h0)
    refine ⟨vld_open.mpr ⟨d1, e⟩, d2, d3, ?_⟩
    by_cases e2 : (pa b - 1) / 8 = op
    · rw [e2, hso]; omega
    · rw [hst _ e e2]; exact d4
  · obtain ⟨d1, d2, d3, d4, d5⟩ := a9 b hb hp
    have e : (ka b - 1) / 8 ≠ j := fun e => d4 (by rw [e]; exact h0)
    refine ⟨vld_open.mpr ⟨d1, e⟩, d2, d3, ?_, d5⟩
    by_cases e2 : (ka b - 1) / 8 = op
    · rw [e2, hso]; omega
    · rw [hst _ e e2]; exact d4
/-- there is a slot left where a record fits -/
theorem cn_lt {n : Nat} {op : Nat} {fl : Nat} {last : Nat} {kl : Nat} {ko : Nat} {kf : Nat} {st : Nat → Nat} {cn : Nat → Nat} {un : Nat → Nat} {sz : Nat → Nat} {sr : Nat → Nat} {bk : Nat → Nat} {so : Nat → Nat} {sav : Nat → Nat} {pa : Nat → Nat} {ka : Nat → Nat} (h : (GI n op fl last kl ko kf st cn un sz sr bk so sav pa ka)) (hf : fl < 16) : cn op < 8 := by
  obtain ⟨a1, a2, a3, a4, a5, a6, a7, a8, a9, a10⟩ := h
  obtain ⟨b1, b2, b3, b4, b5, b6, b7, b8, b9, b10⟩ := a1
  have h8 := a5.1 op b3
  rcases Nat.lt_or_ge (cn op) 8 with q | q
  · exact q
  · have hv : vld n cn (8 * op + 7) := ⟨by omega, by rw [show (8 * op + 7) / 8 = op by omega]; omega⟩
    have x := a3 _ hv
    have y := a5.2 _ hv (by omega)
    omega
theorem vld_app {n op k : Nat} {cn : Nat → Nat} (ho : op < n) (h8 : cn op < 8) : vld n (va_up cn op (cn op + 1)) k ↔ vld n cn k ∨ k = 8 * op + cn op := by
  unfold vld
  by_cases e : k / 8 = op
  · rw [e, up_s]; omega
  · rw [up_n _ _ e]; omega
theorem GI_append {n : Nat} {op : Nat} {fl : Nat} {last : Nat} {kl : Nat} {ko : Nat} {kf : Nat} {st : Nat → Nat} {cn : Nat → Nat} {un : Nat → Nat} {sz : Nat → Nat} {sr : Nat → Nat} {bk : Nat → Nat} {so : Nat → Nat} {sav : Nat → Nat} {pa : Nat → Nat} {ka : Nat → Nat} (h : (GI n op fl last kl ko kf st cn un sz sr bk so sav pa ka)) (u b x : Nat) (hu : 2 ≤ u) (hu6 : u ≤ 6) (hf : fl + u ≤ 16) (hb : b < 16) (hx : x ≤ 1) (hl : last + 1 < 2 ^ 30) :
    (GI n op (fl + u) (last + 1) kl ko kf st (va_up cn op (cn op + 1)) (va_up un (8 * op + cn op) fl) (va_up sz (8 * op + cn op) u) (va_up sr (8 * op + cn op) (last + 1)) (va_up bk (8 * op + cn op) b) (va_up so (8 * op + cn op) x) sav (va_up pa b (if x = 1 then 8 * op + cn op + 1 else 0)) ka) := by
  have h8 := cn_lt h (by omega)
  obtain ⟨a1, a2, a3, a4, a5, a6, a7, a8, a9, a10⟩ := h
  obtain ⟨b1, b2, b3, b4, b5, b6, b7, b8, b9, b10⟩ := a1
  generalize hk0 : 8 * op + cn op = k0
  have hnv : ∀ k, vld n cn k → k ≠ k0 := fun k hk e => by unfold vld at hk; rw [e, ← hk0, show (8 * op + cn op) / 8 = op by omega] at hk; omega
  have hv : ∀ k, vld n (va_up cn op (cn op + 1)) k → vld n cn k ∨ k = k0 := fun k hk => hk0 ▸ (vld_app b3 h8).mp hk
  have hvo : ∀ k, vld n cn k → vld n (va_up cn op (cn op + 1)) k := fun k hk => (vld_app b3 h8).mpr (Or.inl hk)
  have hv0 : vld n (va_up cn op (cn op + 1)) k0 := (vld_app b3 h8).mpr (Or.inr hk0.symm)
  have hk8 : k0 / 8 = op ∧ k0 % 8 = cn op := by omega
  have h2c : 2 * cn op ≤ fl := by
    rcases Nat.eq_zero_or_pos (cn op) with q | q
    · omega
    · have hw : vld n cn (8 * op + (cn op - 1)) := ⟨by omega, by rw [show (8 * op + (cn op - 1)) / 8 = op by omega]; omega⟩
      have x1 := a3 _ hw
      have y1 := a5.2 _ hw (by omega)
      omega
  refine ⟨⟨b1, b2, b3, by omega, by omega, by omega, b7, b8, hl, b10⟩, a2, fun k hk => ?_, fun k hk hc => ?_, ⟨fun s hs => ?_, fun k hk e => ?_⟩, ⟨fun k hk h1 => ?_, fun k hk ho hn => ?_, fun k i hk hi ho hi2 h1 h2 => ?_⟩, fun w h1 h2 => ?_, fun c hc hp => ?_, fun c hc hp => ?_, fun k hk e hs => ?_⟩
  · rcases hv k hk with q | q
    · have := a3 k q; have e := hnv k q
      rw [up_n _ _ e, up_n _ _ e, up_n _ _ e, up_n _ _ e, up_n _ _ e]; omega
    · subst q; rw [up_s, up_s, up_s, up_s, up_s]; omega
  · by_cases e : k / 8 = op
    · rw [e, up_s] at hc
      by_cases e2 : k + 1 = k0
      · have hw : vld n cn k := ⟨hk, by rw [e]; omega⟩
        have x1 := a5.2 k hw e
        have y1 := a3 k hw
        rw [e2, up_s, up_s, up_n _ _ (hnv k hw), up_n _ _ (hnv k hw), up_n _ _ (hnv k hw)]; omega
      · have hw : vld n cn k := ⟨hk, by rw [e]; omega⟩
        have q1 := hnv k hw
        rw [up_n _ _ q1, up_n _ _ q1, up_n _ _ e2, up_n _ _ q1, up_n _ _ e2]
        exact a4 k hk (by rw [e]; omega)
    · rw [up_n _ _ e] at hc
      have q1 : k ≠ k0 := by omega
      have q2 : k + 1 ≠ k0 := by
        have := a5.1 (k / 8) hk; omega
      rw [up_n _ _ q1, up_n _ _ q1, up_n _ _ q2, up_n _ _ q1, up_n _ _ q2]
      exact a4 k hk hc
  · by_cases e : s = op
    · subst e; rw [up_s]; omega
    · rw [up_n _ _ e]; exact a5.1 s hs
  · rcases hv k hk with q | q
    · have := a5.2 k q e; have e := hnv k q
      rw [up_n _ _ e, up_n _ _ e]; omega
    · subst q; rw [up_s, up_s]; omega
  · rcases hv k hk with q | q
    · rw [up_n _ _ (hnv k q)]; exact a6.1 k q h1
    · subst q; rw [hk8.1, a2.2.1] at h1; omega
  · rcases hv k hk with q | q
    · have e := hnv k q
      rw [up_n _ _ e] at hn
      rw [up_n _ _ e, up_n _ _ e]; exact a6.2.1 k q ho hn
    · subst q; exact absurd hk8.1 ho
  · rcases hv k hk with q | q
    · have e := hnv k q
      rw [up_n _ _ e] at h1
      rw [up_n _ _ e]
      rcases hv i hi with q2 | q2
      · have e2 := hnv i q2
        rw [up_n _ _ e2] at h2
        rw [up_n _ _ e2]; exact a6.2.2 k i q q2 ho hi2 h1 h2
      · subst q2; rw [up_s]; have := a3 k q; omega
    · subst q; exact absurd hk8.1 ho
  · by_cases e : w = last + 1
    · exact ⟨k0, hv0, by rw [up_s, e]⟩
    · obtain ⟨k, v1, v2⟩ := a7 w h1 (by omega)
      exact ⟨k, hvo k v1, by rw [up_n _ _ (hnv k v1)]; exact v2⟩
  · by_cases e : c = b
    · subst e
      rw [up_s] at hp ⊢
      by_cases e1 : x = 1
      · rw [if_pos e1, show k0 + 1 - 1 = k0 by omega, up_s, up_s, hk8.1]
        exact ⟨hv0, rfl, e1, by rw [a2.2.1]; omega⟩
      · rw [if_neg e1] at hp; exact absurd rfl hp
    · rw [up_n _ _ e] at hp ⊢
      obtain ⟨d1, d2, d3, d4⟩ := a8 c hc hp
      have q := hnv _ d1
      rw [up_n _ _ q, up_n _ _ q]
      exact ⟨hvo _ d1, d2, d3, d4⟩
  · obtain ⟨d1, d2, d3, d4, d5⟩ := a9 c hc hp
    have q := hnv _ d1
    rw [up_n _ _ q, up_n _ _ q, up_n _ _ q]
    exact ⟨hvo _ d1, d2, d3, d4, d5⟩
  · rcases hv k hk with q | q
    · have e2 := hnv k q
      rw [up_n _ _ e2] at hs
      rw [up_n _ _ e2, up_n _ _ e2]; exact a10 k q e hs
    · subst q; rw [up_s] at hs; omega
theorem GI_check {n : Nat} {op : Nat} {fl : Nat} {last : Nat} {kl : Nat} {ko : Nat} {kf : Nat} {st : Nat → Nat} {cn : Nat → Nat} {un : Nat → Nat} {sz : Nat → Nat} {sr : Nat → Nat} {bk : Nat → Nat} {so : Nat → Nat} {sav : Nat → Nat} {pa : Nat → Nat} {ka : Nat → Nat} (h : (GI n op fl last kl ko kf st cn un sz sr bk so sav pa ka)) : (GI n op fl last last op fl st cn un sz sr bk so sav pa pa) := by
  obtain ⟨a1, a2, a3, a4, a5, a6, a7, a8, a9, a10⟩ := h
  obtain ⟨b1, b2, b3, b4, b5, b6, b7, b8, b9, b10⟩ := a1
  obtain ⟨c1, c2, c3, c4⟩ := a2
  refine ⟨⟨b1, b2, b3, b4, b5, Nat.le_refl _, b3, b4, b9, b10⟩, ⟨c1, c2, c3, by omega⟩, a3, a4, a5, ⟨fun k hk _ => (a3 k hk).2.2.2.2.2.1, fun k hk _ hn => ?_, fun k j hk _ _ _ hn => ?_⟩, fun w h1 h2 => absurd h1 (by omega), a8, fun b hb hp => ?_, fun k hk e _ => a5.2 k hk e⟩
  · have := a3 k hk; omega
  · have := a3 k hk; omega
  · obtain ⟨d1, d2, d3, d4⟩ := a8 b hb hp
    exact ⟨d1, d2, d3, d4, (a3 _ d1).2.2.2.2.2.1⟩
theorem GI_free {n : Nat} {op : Nat} {fl : Nat} {last : Nat} {kl : Nat} {ko : Nat} {kf : Nat} {st : Nat → Nat} {cn : Nat → Nat} {un : Nat → Nat} {sz : Nat → Nat} {sr : Nat → Nat} {bk : Nat → Nat} {so : Nat → Nat} {sav : Nat → Nat} {pa : Nat → Nat} {ka : Nat → Nat} (h : (GI n op fl last kl ko kf st cn un sz sr bk so sav pa ka)) (j : Nat) (hj : j < n) (h2 : st j = 2) (hk : kl = last) (ho : ko = op) (hp : ∀ b, b < 16 → pa b ≠ 0 → (pa b - 1) / 8 ≠ j) (hq : ∀ b, b < 16 → ka b ≠ 0 → (ka b - 1) / 8 ≠ j) : (GI n op fl last kl ko kf (va_up st j 0) cn un sz sr bk so sav pa ka) := by
  obtain ⟨a1, a2, a3, a4, a5, a6, a7, a8, a9, a10⟩ := h
  obtain ⟨c1, c2, c3, c4⟩ := a2
  have hjo : j ≠ op := fun e => by rw [e] at h2; omega
  refine ⟨a1, ⟨fun s hs => ?_, by rw [up_n _ _ (Ne.symm hjo)]; exact c2, fun s hs h1 => ?_, by rw [ho, up_n _ _ (Ne.symm hjo)]; omega⟩, a3, a4, a5, ⟨fun k hv _ => by rw [hk]; exact (a3 k hv).2.2.2.2.2.1, a6.2.1, a6.2.2⟩, a7, fun b hb hz => ?_, fun b hb hz => ?_, a10⟩
  · by_cases e : s = j
    · subst e; rw [up_s]; omega
    · rw [up_n _ _ e]; exact c1 s hs
  · by_cases e : s = j
    · subst e; rw [up_s] at h1; omega
    · rw [up_n _ _ e] at h1; exact c3 s hs h1
  · obtain ⟨d1, d2, d3, d4⟩ := a8 b hb hz
    exact ⟨d1, d2, d3, by rw [up_n _ _ (hp b hb hz)]; exact d4⟩
  · obtain ⟨d1, d2, d3, d4, d5⟩ := a9 b hb hz
    exact ⟨d1, d2, d3, by rw [up_n _ _ (hq b hb hz)]; exact d4, d5⟩
