/-! the packing: runs of equal bytes, the longest match -/
def al (b : Nat → Int32) (j i : Nat) : Nat → Nat → Nat
  | 0, n => n
  | d + 1, n => if b (j + n) = b (i + n) then al b j i d (n + 1) else n
theorem al_le (b : Nat → Int32) (j i : Nat) : ∀ d n, al b j i d n ≤ n + d := by
  intro d
  induction d with
  | zero => intro n; exact Nat.le_refl _
  | succ d ih =>
    intro n
    rw [al]
    by_cases h : b (j + n) = b (i + n)
    · rw [if_pos h]; have := ih (n + 1); omega
    · rw [if_neg h]; omega
theorem same_L (b : Nat → Int32) (j i : Nat) (hji : j ≤ i) (K : Int32 → Option Int32) : ∀ (d fuel n : Nat), i + n + d = 16 → d < fuel → P_sameBytes_L2 b (nI j) (nI i) K fuel (nI n) = K (nI (al b j i d n)) := by
  intro d
  induction d with
  | zero =>
    intro fuel n hn hf
    obtain ⟨f, rfl⟩ : ∃ f, fuel = f + 1 := ⟨fuel - 1, by omega⟩
    rw [P_sameBytes_L2, nI_add, if_pos (show (16 : Int32) ≤ nI (i + n) from q_le (a := 16) (by omega) (by omega) (by omega))]
    rfl
  | succ d ih =>
    intro fuel n hn hf
    obtain ⟨f, rfl⟩ : ∃ f, fuel = f + 1 := ⟨fuel - 1, by omega⟩
    rw [P_sameBytes_L2, nI_add, nI_add, if_neg (show ¬ (16 : Int32) ≤ nI (i + n) from q_nle (a := 16) (by omega) (by omega) (by omega)), q_ck (by omega) (by omega), q_ck (by omega) (by omega), nI_clamp (by omega), nI_clamp (by omega), nI_1, al]
    by_cases hb : b (j + n) = b (i + n)
    · rw [if_pos hb, if_pos hb]; exact ih f (n + 1) (by omega) (by omega)
    · rw [if_neg hb, if_neg hb]
def sb (b : Nat → Int32) (j i : Nat) : Nat := al b j i (16 - i) 0
theorem sb_le (b : Nat → Int32) (j i : Nat) : sb b j i ≤ 16 - i := by
  have := al_le b j i (16 - i) 0
  unfold sb; omega
theorem same_ok (b : Nat → Int32) {j i : Nat} (hji : j ≤ i) (hi : i ≤ 16) : P_sameBytes b (nI j) (nI i) = some (nI (sb b j i)) := by
  unfold P_sameBytes
  exact same_L b j i hji _ (16 - i) 300 0 (by omega) (by omega)
theorem alike_eq : M_alike = P_sameBytes := by
  funext b x1 x2
  unfold M_alike P_sameBytes
  suffices h : ∀ K fuel x3, M_alike_L2 b x1 x2 K fuel x3 = P_sameBytes_L2 b x1 x2 K fuel x3 from h _ _ _
  intro K fuel
  induction fuel with
  | zero => intro x3; rfl
  | succ f ih =>
    intro x3
    rw [M_alike_L2, P_sameBytes_L2, ih]
theorem alike_ok (b : Nat → Int32) {j i : Nat} (hji : j ≤ i) (hi : i ≤ 16) : M_alike b (nI j) (nI i) = some (nI (sb b j i)) := by
  rw [alike_eq]; exact same_ok b hji hi
/-- the model's scan: best length and where, after the first c places -/
def mmx (b : Nat → Int32) (i : Nat) : Nat → Nat × Nat
  | 0 => (0, 0)
  | c + 1 => if sb b c i < (mmx b i c).1 then mmx b i c else (sb b c i, c)
theorem mmx_in (b : Nat → Int32) (i : Nat) : ∀ c, (mmx b i c).1 ≤ 16 - i ∧ (mmx b i c).2 ≤ c ∧ (0 < c → (mmx b i c).2 < c ∧ (mmx b i c).1 = sb b (mmx b i c).2 i) := by
  intro c
  induction c with
  | zero => exact ⟨Nat.zero_le _, Nat.le_refl _, fun h => absurd h (Nat.lt_irrefl 0)⟩
  | succ c ih =>
    rw [mmx]
    by_cases h : sb b c i < (mmx b i c).1
    · rw [if_pos h]
      refine ⟨ih.1, by omega, fun _ => ?_⟩
      by_cases hc : 0 < c
      · have := ih.2.2 hc; exact ⟨by omega, this.2⟩
      · have h0 : c = 0 := by omega
        subst h0
        exact absurd h (by show ¬ _ < 0; omega)
    · rw [if_neg h]
      exact ⟨sb_le b c i, by show c ≤ c + 1; omega, fun _ => ⟨by show c < c + 1; omega, rfl⟩⟩
theorem scan_L (b : Nat → Int32) (i : Nat) (hi : i ≤ 16) (K : Int32 → Int32 → Int32 → Option (Int32 × (Nat → Int32) × (Nat → Int32))) : ∀ (d fuel c : Nat), c + d = i → d < fuel → M_pack_L88 b (nI i) K fuel (nI (mmx b i c).1) (nI (mmx b i c).2) (nI c) = K (nI (mmx b i i).1) (nI (mmx b i i).2) (nI i) := by
  intro d
  induction d with
  | zero =>
    intro fuel c hc hf
    obtain ⟨f, rfl⟩ : ∃ f, fuel = f + 1 := ⟨fuel - 1, by omega⟩
    obtain rfl : c = i := by omega
    rw [M_pack_L88, if_pos (q_le (by omega) (by omega) (Nat.le_refl _))]
  | succ d ih =>
    intro fuel c hc hf
    obtain ⟨f, rfl⟩ : ∃ f, fuel = f + 1 := ⟨fuel - 1, by omega⟩
    have h1 := (mmx_in b i c).1
    have h2 := sb_le b c i
    rw [M_pack_L88, if_neg (q_nle (by omega) (by omega) (by omega)), alike_ok b (by omega) hi, Option.bind_some, nI_1]
    have hn := ih f (c + 1) (by omega) (by omega)
    rw [mmx] at hn
    by_cases h : sb b c i < (mmx b i c).1
    · rw [if_pos (q_lt (by omega) (by omega) h)]
      rw [if_pos h] at hn
      exact hn
    · rw [if_neg (q_nlt (by omega) (by omega) (by omega))]
      rw [if_neg h] at hn
      exact hn
/-- the class's search, downward -/
def lmf (b : Nat → Int32) (i : Nat) : Nat → Int32 × Nat → Int32 × Nat
  | 0, s => s
  | c + 1, s => if sb b c i ≤ s.2 then lmf b i c s else lmf b i c (nI c, sb b c i)
theorem lmf_eq (b : Nat → Int32) (i : Nat) : ∀ c s, lmf b i c s = if (mmx b i c).1 ≤ s.2 then s else (nI (mmx b i c).2, (mmx b i c).1) := by
  intro c
  induction c with
  | zero => intro s; rw [lmf, mmx, if_pos (Nat.zero_le _)]
  | succ c ih =>
    intro s
    rw [lmf, mmx, ih, ih]
    by_cases h1 : sb b c i ≤ s.2
    · rw [if_pos h1]
      by_cases h2 : sb b c i < (mmx b i c).1
      · rw [if_pos h2]
      · rw [if_neg h2, if_pos (by omega), if_pos (show sb b c i ≤ s.2 from h1)]
    · rw [if_neg h1]
      by_cases h2 : sb b c i < (mmx b i c).1
      · rw [if_pos h2, if_neg (by show ¬ _ ≤ sb b c i; omega), if_neg (by omega)]
      · rw [if_neg h2, if_pos (by show _ ≤ sb b c i; omega), if_neg (show ¬ sb b c i ≤ s.2 from h1)]
theorem long_L (b : Nat → Int32) (i : Nat) (hi : i ≤ 16) (K : Int32 → Int32 → Int32 → Option Int32) : ∀ (c fuel : Nat) (x : Int32) (g : Nat), c ≤ i → c < fuel → g ≤ 16 → P_longestMatch_L9 b (nI i) K fuel x (nI g) (nI c + (-1 : Int32)) = K (lmf b i c (x, g)).1 (nI (lmf b i c (x, g)).2) (-1 : Int32) := by
  intro c
  induction c with
  | zero =>
    intro fuel x g _ hf _
    obtain ⟨f, rfl⟩ : ∃ f, fuel = f + 1 := ⟨fuel - 1, by omega⟩
    rw [P_longestMatch_L9, if_pos (by decide), lmf]
    rfl
  | succ c ih =>
    intro fuel x g hc hf hg
    obtain ⟨f, rfl⟩ : ∃ f, fuel = f + 1 := ⟨fuel - 1, by omega⟩
    have h2 := sb_le b c i
    rw [pk_m1, P_longestMatch_L9, if_neg (nI_pos (by omega)), same_ok b (by omega) hi, Option.bind_some, lmf]
    by_cases h : sb b c i ≤ g
    · rw [if_pos (q_le (by omega) (by omega) h), if_pos h]
      exact ih f x g (by omega) (by omega) hg
    · rw [if_neg (q_nle (by omega) (by omega) (by omega)), if_neg h]
      exact ih f (nI c) (sb b c i) (by omega) (by omega) (by omega)
theorem long_ok (b : Nat → Int32) (i : Nat) (hi : i ≤ 16) : P_longestMatch b (nI i) = some (if (mmx b i i).1 < 3 then (-1 : Int32) else nI (mmx b i i).2) := by
  unfold P_longestMatch
  have e : nI i - (1 : Int32) = nI i + (-1 : Int32) := Int32.sub_eq_add_neg _ _
  rw [e, show (2 : Int32) = nI 2 from rfl, long_L b i hi _ i 300 _ 2 (Nat.le_refl _) (by omega) (by omega), lmf_eq]
  by_cases h : (mmx b i i).1 ≤ 2
  · rw [if_pos h, if_pos (by omega)]
  · rw [if_neg h, if_neg (by omega)]
/-- literals copied into the form -/
def cpB (b F : Nat → Int32) (sz x d : Nat) : Nat → Int32 := fun k => if sz ≤ k ∧ k < sz + d then b (x + (k - sz)) else F k
theorem cpB_0 (b F : Nat → Int32) (sz x : Nat) : cpB b F sz x 0 = F := by
  funext k
  unfold cpB
  rw [if_neg (by omega)]
theorem cpB_s (b F : Nat → Int32) (sz x d : Nat) : cpB b (upd F sz (b x)) (sz + 1) (x + 1) d = cpB b F sz x (d + 1) := by
  funext k
  unfold cpB upd
  by_cases h1 : sz + 1 ≤ k ∧ k < sz + 1 + d
  · rw [if_pos h1, if_pos (by omega), show x + 1 + (k - (sz + 1)) = x + (k - sz) by omega]
  · rw [if_neg h1]
    by_cases h2 : k = sz
    · subst h2
      rw [if_pos rfl, if_pos (by omega), Nat.sub_self]
      rfl
    · rw [if_neg h2, if_neg (by omega)]
theorem end_L (b : Nat → Int32) (e : Nat) (he : e ≤ 16) (K : Int32 → (Nat → Int32) → Int32 → Option (Int32 × (Nat → Int32))) : ∀ (d fuel sz x : Nat) (F : Nat → Int32), x + d = e → sz + d ≤ 18 → d < fuel → P_endPiece_L27 b (nI e) K fuel (nI sz) F (nI x) = K (nI (sz + d)) (cpB b F sz x d) (nI e) := by
  intro d
  induction d with
  | zero =>
    intro fuel sz x F hx hs hf
    obtain ⟨f, rfl⟩ : ∃ f, fuel = f + 1 := ⟨fuel - 1, by omega⟩
    obtain rfl : x = e := by omega
    rw [P_endPiece_L27, if_pos (q_le (by omega) (by omega) (Nat.le_refl _)), cpB_0]
    rfl
  | succ d ih =>
    intro fuel sz x F hx hs hf
    obtain ⟨f, rfl⟩ : ∃ f, fuel = f + 1 := ⟨fuel - 1, by omega⟩
    rw [P_endPiece_L27, if_neg (q_nle (by omega) (by omega) (by omega)), q_ck (by omega) (by omega), q_ck (by omega) (by omega), nI_clamp (by omega), nI_clamp (by omega), nI_1, nI_1, ih f (sz + 1) (x + 1) _ (by omega) (by omega) (by omega), cpB_s, show sz + 1 + d = sz + (d + 1) by omega]
theorem end_ok (b F : Nat → Int32) (hd bg e : Nat) (x3 : Int32) (h1 : bg ≤ e) (h2 : e ≤ 16) (h3 : hd + 1 + (e - bg) ≤ 18) : P_endPiece (nI hd) b F (nI bg) (nI e) x3 = some (nI (hd + 1 + (e - bg)), cpB b (upd F hd (((16 : Int32) * (nI e - nI bg)) + x3)) (hd + 1) bg (e - bg)) := by
  unfold P_endPiece
  rw [q_ck (by omega) (by omega), nI_1, nI_clamp (by omega), end_L b e h2 _ (e - bg) 300 (hd + 1) bg _ (by omega) (by omega) (by omega)]
