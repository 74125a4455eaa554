/-! the packing: pieces, class and model in step -/
def EvF (uF mF : Nat → Int32) (hd : Nat) : Prop := ∀ k, k < hd → uF k = mF k
def Lit (b mF : Nat → Int32) (hd bg i : Nat) : Prop := ∀ k, k < i - bg → mF (hd + 1 + k) = b (bg + k)
def Hd (hd bg : Nat) : Prop := hd ≤ bg ∨ (15 ≤ bg ∧ hd ≤ bg + 1)
theorem upd_s (f : Nat → Int32) (k : Nat) (x : Int32) : upd f k x k = x := by simp [upd]
theorem upd_n (f : Nat → Int32) {k j : Nat} (x : Int32) (h : j ≠ k) : upd f k x j = f j := by simp [upd, h]
/-- a literal in the model -/
theorem lit_next {b mF : Nat → Int32} {hd bg i : Nat} (hbi : bg ≤ i) (h : Lit b mF hd bg i) : Lit b (upd mF (hd + 1 + (i - bg)) (b i)) hd bg (i + 1) := by
  intro k hk
  by_cases e : k = i - bg
  · subst e
    rw [upd_s, show bg + (i - bg) = i by omega]
  · rw [upd_n _ _ (by omega)]
    exact h k (by omega)
theorem ev_up {uF mF : Nat → Int32} {hd k : Nat} {x : Int32} (hk : hd ≤ k) (h : EvF uF mF hd) : EvF uF (upd mF k x) hd := by
  intro j hj
  rw [upd_n _ _ (by omega)]
  exact h j hj
/-- a piece that has ended: header and literals stand in both forms -/
theorem ev_piece {b uF mF : Nat → Int32} {hd bg i : Nat} {x : Int32} (h : EvF uF mF hd) (hl : Lit b mF hd bg i) : EvF (cpB b (upd uF hd x) (hd + 1) bg (i - bg)) (upd mF hd x) (hd + 1 + (i - bg)) := by
  intro k hk
  unfold cpB
  by_cases h1 : hd + 1 ≤ k ∧ k < hd + 1 + (i - bg)
  · rw [if_pos h1, upd_n _ _ (by omega)]
    have := hl (k - (hd + 1)) (by omega)
    rw [show hd + 1 + (k - (hd + 1)) = k by omega] at this
    exact this.symm
  · rw [if_neg h1]
    by_cases h2 : k = hd
    · subst h2; rw [upd_s, upd_s]
    · rw [upd_n _ _ h2, upd_n _ _ h2]
      exact h k (by omega)
theorem ev_add {uF mF : Nat → Int32} {h : Nat} {x : Int32} (he : EvF uF mF h) : EvF (upd uF h x) (upd mF h x) (h + 1) := by
  intro k hk
  by_cases e : k = h
  · subst e; rw [upd_s, upd_s]
  · rw [upd_n _ _ e, upd_n _ _ e]; exact he k (by omega)
theorem upd_comm (f : Nat → Int32) {j k : Nat} (x y : Int32) (h : j ≠ k) : upd (upd f j x) k y = upd (upd f k y) j x := by
  funext q
  unfold upd
  by_cases h1 : q = k
  · subst h1; rw [if_pos rfl, if_neg (fun e => h e.symm), if_pos rfl]
  · rw [if_neg h1]
    by_cases h2 : q = j
    · rw [if_pos h2, if_pos h2]
    · rw [if_neg h2, if_neg h2, if_neg h1]
theorem lit_0 (b mF : Nat → Int32) (hd i : Nat) : Lit b mF hd i i := fun k hk => absurd hk (by omega)
theorem pieces (b : Nat → Int32) : ∀ (d i bg hd : Nat) (uF mF : Nat → Int32), i + d = 16 → bg ≤ i → i - bg ≤ 14 → Hd hd bg → EvF uF mF hd → Lit b mF hd bg i → ∀ (f1 f2 : Nat), d < f1 → d < f2 →
    ∃ (bg' hd' : Nat) (uF' mF' : Nat → Int32), bg' ≤ 16 ∧ 2 ≤ bg' ∧ Hd hd' bg' ∧ EvF uF' mF' hd' ∧ Lit b mF' hd' bg' 16 ∧
      (∀ K1, P_makePieces_L9 b K1 f1 (nI hd) uF (nI bg) (nI i) = K1 (nI hd') uF' (nI bg') (nI 16)) ∧
      (∀ K2, M_pack_L72 b K2 f2 mF (nI hd) (nI (hd + 1 + (i - bg))) (nI i) = K2 mF' (nI hd') (nI (hd' + 1 + (16 - bg'))) (nI 16)) := by
  intro d
  induction d using Nat.strongRecOn with
  | ind d ih =>
    intro i bg hd uF mF hid hbi hlit hH hE hL f1 f2 hf1 hf2
    obtain ⟨g1, rfl⟩ : ∃ f, f1 = f + 1 := ⟨f1 - 1, by omega⟩
    obtain ⟨g2, rfl⟩ : ∃ f, f2 = f + 1 := ⟨f2 - 1, by omega⟩
    have hH' : hd ≤ bg + 1 := by unfold Hd at hH; omega
    by_cases hd0 : d = 0
    · obtain rfl : i = 16 := by omega
      refine ⟨bg, hd, uF, mF, hbi, by omega, hH, hE, hL, fun K1 => ?_, fun K2 => ?_⟩
      · rw [P_makePieces_L9, if_pos (show (16 : Int32) ≤ nI 16 by decide)]
      · rw [M_pack_L72, if_pos (show (16 : Int32) ≤ nI 16 by decide)]
    · have hi16 : i < 16 := by omega
      have hn : ¬ (16 : Int32) ≤ nI i := q_nle (a := 16) (by omega) (by omega) hi16
      obtain ⟨m1, m2, m3⟩ := mmx_in b i i
      have hscan : ∀ K, M_pack_L88 b (nI i) K 300 (0 : Int32) (0 : Int32) (0 : Int32) = K (nI (mmx b i i).1) (nI (mmx b i i).2) (nI i) := fun K => scan_L b i (by omega) K i 300 0 (by omega) (by omega)
      by_cases hm : (mmx b i i).1 < 3
      · -- a literal
        have h3 : ¬ (3 : Int32) ≤ nI (mmx b i i).1 := q_nle (a := 3) (by omega) (by omega) hm
        have hsub : nI (i + 1) - nI bg = nI (i + 1 - bg) := pk_sub (by omega)
        have hsub2 : nI (hd + 1 + (i - bg)) - nI hd - (1 : Int32) + (1 : Int32) = nI (i + 1 - bg) := by
          rw [pk_sub (by omega), show (1 : Int32) = nI 1 from rfl, pk_sub (by omega), nI_add]
          congr 1; omega
        by_cases h15 : i + 1 - bg = 15
        · have hbg1 : bg ≤ 1 := by omega
          have hhd : hd ≤ bg := by unfold Hd at hH; omega
          have e15 : nI (i + 1 - bg) = (15 : Int32) := by rw [h15]; rfl
          obtain ⟨bg', hd', uF', mF', r1, r2, r3, r4, r5, r6, r7⟩ := ih (d - 1) (by omega) (i + 1) (i + 1) (hd + 16) (cpB b (upd uF hd (((16 : Int32) * (nI (i + 1) - nI bg)) + (0 : Int32))) (hd + 1) bg (i + 1 - bg)) (upd (upd mF (hd + 1 + (i - bg)) (b i)) hd (((16 : Int32) * (nI (i + 1) - nI bg)) + (0 : Int32))) (by omega) (Nat.le_refl _) (by omega) (by unfold Hd; omega)
            (by have := ev_piece (x := ((16 : Int32) * (nI (i + 1) - nI bg)) + (0 : Int32)) (ev_up (k := hd + 1 + (i - bg)) (x := b i) (by omega) hE) (lit_next hbi hL)
                rw [h15] at this ⊢
                exact this)
            (lit_0 _ _ _ _) g1 g2 (by omega) (by omega)
          refine ⟨bg', hd', uF', mF', r1, r2, r3, r4, r5, fun K1 => ?_, fun K2 => ?_⟩
          · rw [P_makePieces_L9, if_neg hn, long_ok b i (by omega), if_pos hm, Option.bind_some, if_pos rfl, nI_1, hsub, if_pos e15, end_ok b uF hd bg (i + 1) _ (by omega) (by omega) (by omega), Option.bind_some, show hd + 1 + (i + 1 - bg) = hd + 16 by omega]
            exact r6 K1
          · rw [M_pack_L72, if_neg hn, hscan, if_neg h3, q_ck (by omega) (by omega), q_ck (by omega) (by omega), if_neg h3, if_neg h3, hsub2, if_pos e15, q_ck (by omega) (by omega), nI_clamp (by omega), nI_clamp (by omega), nI_clamp (by omega), nI_1, nI_1, nI_1]
            have r8 := r7 K2
            rw [hsub] at r8
            rw [show hd + 1 + (i - bg) + 1 = hd + 16 by omega]
            rw [show hd + 16 + 1 + (i + 1 - (i + 1)) = hd + 16 + 1 by omega] at r8
            exact r8
        · have e15 : ¬ nI (i + 1 - bg) = (15 : Int32) := q_ne (b := 15) (by omega) (by omega) h15
          obtain ⟨bg', hd', uF', mF', r1, r2, r3, r4, r5, r6, r7⟩ := ih (d - 1) (by omega) (i + 1) bg hd uF (upd mF (hd + 1 + (i - bg)) (b i)) (by omega) (by omega) (by omega) hH (ev_up (by omega) hE) (lit_next hbi hL) g1 g2 (by omega) (by omega)
          refine ⟨bg', hd', uF', mF', r1, r2, r3, r4, r5, fun K1 => ?_, fun K2 => ?_⟩
          · rw [P_makePieces_L9, if_neg hn, long_ok b i (by omega), if_pos hm, Option.bind_some, if_pos rfl, nI_1, hsub, if_neg e15]
            exact r6 K1
          · rw [M_pack_L72, if_neg hn, hscan, if_neg h3, q_ck (by omega) (by omega), q_ck (by omega) (by omega), if_neg h3, hsub2, if_neg e15, nI_clamp (by omega), nI_clamp (by omega), nI_1, nI_1]
            have r8 := r7 K2
            rw [show hd + 1 + (i + 1 - bg) = hd + 1 + (i - bg) + 1 by omega] at r8
            exact r8
      · -- a match
        have hi0 : 0 < i := by
          rcases Nat.eq_zero_or_pos i with h | h
          · subst h; exact absurd (show (0 : Nat) < 3 by decide) hm
          · exact h
        obtain ⟨m4, m5⟩ := m3 hi0
        have h3 : (3 : Int32) ≤ nI (mmx b i i).1 := q_le (a := 3) (by omega) (by omega) (by omega)
        have hhd : hd ≤ bg := by unfold Hd at hH; omega
        have hx0 : ((16 : Int32) * (nI (hd + 1 + (i - bg)) - nI hd - (1 : Int32))) = ((16 : Int32) * (nI i - nI bg)) := by
          rw [pk_sub (by omega), show (1 : Int32) = nI 1 from rfl, pk_sub (by omega), pk_sub (by omega)]
          congr 2; omega
        generalize hX : ((16 : Int32) * (nI i - nI bg)) + (nI (mmx b i i).1 - (2 : Int32)) = X
        have hEp := ev_piece (x := X) hE hL
        have hEa := ev_add (x := nI i - nI (mmx b i i).2) hEp
        obtain ⟨bg', hd', uF', mF', r1, r2, r3, r4, r5, r6, r7⟩ := ih (d - (mmx b i i).1) (by omega) (i + (mmx b i i).1) (i + (mmx b i i).1) (hd + 1 + (i - bg) + 1) _ _ (by omega) (Nat.le_refl _) (by omega) (by unfold Hd; omega) hEa (lit_0 _ _ _ _) g1 g2 (by omega) (by omega)
        refine ⟨bg', hd', uF', mF', r1, r2, r3, r4, r5, fun K1 => ?_, fun K2 => ?_⟩
        · rw [P_makePieces_L9, if_neg hn, long_ok b i (by omega), if_neg hm, Option.bind_some, if_neg (q_nem1 (by omega)), same_ok b (by omega) (by omega), ← m5, Option.bind_some, end_ok b uF hd bg i _ (by omega) (by omega) (by omega), Option.bind_some, q_ck (by omega) (by omega), nI_clamp (by omega), nI_1, nI_add, hX]
          exact r6 K1
        · rw [M_pack_L72, if_neg hn, hscan, if_pos h3, q_ck (by omega) (by omega), if_pos h3, if_pos h3, q_ck (by omega) (by omega), nI_clamp (by omega), nI_clamp (by omega), nI_1, nI_1, nI_add, hx0, hX]
          have r8 := r7 K2
          rw [show hd + 1 + (i - bg) + 1 + 1 + (i + (mmx b i i).1 - (i + (mmx b i i).1)) = hd + 1 + (i - bg) + 1 + 1 by omega] at r8
          rw [upd_comm _ _ _ (by omega)]
          exact r8
