/-! the packing: bytes, and the whole -/
def uby (x : Int64) (i : Nat) : Int32 := ((((x.toUInt64 >>> (((56 : Int32) - ((8 : Int32) * nI i)).toInt64.toUInt64 &&& Int64.toUInt64 63)).toInt64).toInt32) &&& (255 : Int32))
def mby (x : Int64) (i : Nat) : Int32 := (((x >>> (((56 : Int32) - ((8 : Int32) * nI i)).toInt64 &&& 63)) &&& (255 : Int64)).toInt32)
def bw (f : Int64 → Nat → Int32) (hi lo : Int64) : Nat → Nat → (Nat → Int32) → Nat → Int32
  | 0, _, B => B
  | d + 1, i, B => bw f hi lo d (i + 1) (upd (upd B i (f hi i)) (8 + i) (f lo i))
theorem ubytes_L (hi lo : Int64) (K : (Nat → Int32) → Int32 → Option (Int32 × (Nat → Int32) × (Nat → Int32))) : ∀ (d fuel i : Nat) (B : Nat → Int32), i + d = 8 → d < fuel → P_pack_L3 hi lo K fuel B (nI i) = K (bw uby hi lo d i B) (nI 8) := by
  intro d
  induction d with
  | zero =>
    intro fuel i B hi8 hf
    obtain ⟨f, rfl⟩ : ∃ f, fuel = f + 1 := ⟨fuel - 1, by omega⟩
    obtain rfl : i = 8 := by omega
    rw [P_pack_L3, if_pos (show (8 : Int32) ≤ nI 8 by decide)]
    rfl
  | succ d ih =>
    intro fuel i B hi8 hf
    obtain ⟨f, rfl⟩ : ∃ f, fuel = f + 1 := ⟨fuel - 1, by omega⟩
    rw [P_pack_L3, if_neg (show ¬ (8 : Int32) ≤ nI i from q_nle (a := 8) (by omega) (by omega) (by omega)), q_ck (by omega) (by omega), show (8 : Int32) + nI i = nI (8 + i) from nI_add 8 i, q_ck (by omega) (by omega), nI_clamp (by omega), nI_clamp (by omega), nI_1]
    exact ih f (i + 1) _ (by omega) (by omega)
theorem mbytes_L (hi lo : Int64) (K : (Nat → Int32) → Int32 → Option (Int32 × (Nat → Int32) × (Nat → Int32))) : ∀ (d fuel i : Nat) (B : Nat → Int32), i + d = 8 → d < fuel → M_pack_L3 hi lo K fuel B (nI i) = K (bw mby hi lo d i B) (nI 8) := by
  intro d
  induction d with
  | zero =>
    intro fuel i B hi8 hf
    obtain ⟨f, rfl⟩ : ∃ f, fuel = f + 1 := ⟨fuel - 1, by omega⟩
    obtain rfl : i = 8 := by omega
    rw [M_pack_L3, if_pos (show (8 : Int32) ≤ nI 8 by decide)]
    rfl
  | succ d ih =>
    intro fuel i B hi8 hf
    obtain ⟨f, rfl⟩ : ∃ f, fuel = f + 1 := ⟨fuel - 1, by omega⟩
    rw [M_pack_L3, if_neg (show ¬ (8 : Int32) ≤ nI i from q_nle (a := 8) (by omega) (by omega) (by omega)), q_ck (by omega) (by omega), show (8 : Int32) + nI i = nI (8 + i) from nI_add 8 i, q_ck (by omega) (by omega), nI_clamp (by omega), nI_clamp (by omega), nI_1]
    exact ih f (i + 1) _ (by omega) (by omega)
theorem bw_congr {f g : Int64 → Nat → Int32} (hi lo : Int64) (h : ∀ x i, i < 8 → f x i = g x i) : ∀ (d i : Nat) (B : Nat → Int32), i + d ≤ 8 → bw f hi lo d i B = bw g hi lo d i B := by
  intro d
  induction d with
  | zero => intro i B _; rfl
  | succ d ih =>
    intro i B hd
    rw [bw, bw, h hi i (by omega), h lo i (by omega)]
    exact ih (i + 1) _ (by omega)
/-- a byte by the unsigned shift and by the signed one -/
theorem by_sh : ∀ i, i < 8 → (((56 : Int32) - ((8 : Int32) * nI i)).toInt64.toUInt64 &&& Int64.toUInt64 63) = UInt64.ofNat (56 - 8 * i) ∧ (((56 : Int32) - ((8 : Int32) * nI i)).toInt64 &&& 63) = Int64.ofNat (56 - 8 * i) := by decide +kernel
theorem by_k1 : ∀ i, i < 8 → ((UInt64.ofNat (56 - 8 * i)).toBitVec % 64).toNat = 56 - 8 * i := by decide +kernel
theorem by_k2 : ∀ i, i < 8 → ((Int64.ofNat (56 - 8 * i)).toBitVec.smod 64).toNat = 56 - 8 * i := by decide +kernel
theorem bv_by (X : BitVec 64) (s : Nat) (hs : s ≤ 56) : ((X >>> s).setWidth 32 &&& 255#32) = ((X.sshiftRight s) &&& 255#64).setWidth 32 := by
  apply BitVec.eq_of_getLsbD_eq
  intro j hj
  have e1 : (255#32).getLsbD j = decide (j < 8) := by
    rw [BitVec.getLsbD_ofNat, show 255 = 2 ^ 8 - 1 from rfl, Nat.testBit_two_pow_sub_one]
    by_cases h : j < 8 <;> simp [h]; omega
  have e2 : (255#64).getLsbD j = decide (j < 8) := by
    rw [BitVec.getLsbD_ofNat, show 255 = 2 ^ 8 - 1 from rfl, Nat.testBit_two_pow_sub_one]
    by_cases h : j < 8 <;> simp [h]; omega
  rw [BitVec.getLsbD_and, BitVec.getLsbD_setWidth, BitVec.getLsbD_setWidth, BitVec.getLsbD_and, BitVec.getLsbD_ushiftRight, BitVec.getLsbD_sshiftRight, e1, e2]
  by_cases h : j < 8
  · have h64 : s + j < 64 := by omega
    simp [h, h64, hj]
    omega
  · simp [h]
theorem by_eq (x : Int64) (i : Nat) (hi : i < 8) : uby x i = mby x i := by
  unfold uby mby
  rw [(by_sh i hi).1, (by_sh i hi).2]
  apply Int32.toBitVec_inj.mp
  rw [Int32.toBitVec_and, Int64.toBitVec_toInt32, UInt64.toBitVec_toInt64, UInt64.toBitVec_shiftRight, Int64.toBitVec_toUInt64, Int64.toBitVec_toInt32, Int64.toBitVec_and, Int64.toBitVec_shiftRight, BitVec.ushiftRight_eq', by_k1 i hi, BitVec.sshiftRight', by_k2 i hi, BitVec.signExtend_eq_setWidth_of_le _ (by omega), BitVec.signExtend_eq_setWidth_of_le _ (by omega)]
  exact bv_by x.toBitVec (56 - 8 * i) (by omega)
theorem copy_L (b : Nat → Int32) (K : (Nat → Int32) → Int32 → Option (Int32 × (Nat → Int32) × (Nat → Int32))) : ∀ (d fuel k : Nat) (F : Nat → Int32), k + d = 16 → d < fuel → M_pack_L295 b K fuel F (nI k) = K (cpB b F k k d) (nI 16) := by
  intro d
  induction d with
  | zero =>
    intro fuel k F hk hf
    obtain ⟨f, rfl⟩ : ∃ f, fuel = f + 1 := ⟨fuel - 1, by omega⟩
    obtain rfl : k = 16 := by omega
    rw [M_pack_L295, if_pos (show (16 : Int32) ≤ nI 16 by decide), cpB_0]
  | succ d ih =>
    intro fuel k F hk hf
    obtain ⟨f, rfl⟩ : ∃ f, fuel = f + 1 := ⟨fuel - 1, by omega⟩
    rw [M_pack_L295, if_neg (show ¬ (16 : Int32) ≤ nI k from q_nle (a := 16) (by omega) (by omega) (by omega)), q_ck (by omega) (by omega), q_ck (by omega) (by omega), nI_clamp (by omega), nI_1, ih f (k + 1) _ (by omega) (by omega), cpB_s]
/-- class and model pack alike -/
theorem pack_ok (us ms : Int32) (B uF mF : Nat → Int32) (hi lo : Int64) : ∃ (sz : Nat) (B' uF' mF' : Nat → Int32), sz ≤ 16 ∧ P_pack us B uF hi lo = some (nI sz, B', uF') ∧ M_pack ms B mF hi lo = some (nI sz, B', mF') ∧ EvF uF' mF' sz := by
  unfold P_pack M_pack
  rw [show (0 : Int32) = nI 0 from rfl, ubytes_L hi lo _ 8 300 0 B (by omega) (by omega), mbytes_L hi lo _ 8 300 0 B (by omega) (by omega), bw_congr (f := uby) (g := mby) hi lo by_eq 8 0 B (by omega)]
  generalize bw mby hi lo 8 0 B = b
  obtain ⟨bg, hd, uF', mF', r1, r2, r3, r4, r5, r6, r7⟩ := pieces b 16 0 0 0 uF mF (by omega) (Nat.le_refl _) (by omega) (Or.inl (Nat.le_refl _)) (fun k hk => absurd hk (by omega)) (fun k hk => absurd hk (by omega)) 300 300 (by omega) (by omega)
  have r3' : hd ≤ 17 ∧ hd ≤ bg + 1 := by unfold Hd at r3; omega
  obtain ⟨r3', r3a⟩ := r3'
  unfold P_makePieces
  have e1 : nI 1 = nI (0 + 1 + (0 - 0)) := rfl
  rw [show (1 : Int32) = nI 1 from rfl, e1, show (0 : Int32) = nI 0 from rfl, r6, r7]
  have hcpM : ∀ F : Nat → Int32, M_pack_L295 b (fun mFrm_k295 x8_k295 => some ((16 : Int32), b, mFrm_k295)) 300 F (nI 0) = some (nI 16, b, cpB b F 0 0 16) := fun F => copy_L b _ 16 300 0 F (by omega) (by omega)
  have hend : nI (hd + 1 + (16 - bg)) - nI hd = nI (1 + (16 - bg)) := by rw [pk_sub (by omega)]; congr 1; omega
  have hev : ∀ F G : Nat → Int32, EvF (va_cpy b F (nI 0).toNatClampNeg (nI 0).toNatClampNeg (16 : Int32).toNatClampNeg) (cpB b G 0 0 16) 16 := by
    intro F G k hk
    show va_cpy b F 0 0 16 k = _
    rw [pk_cpy_in (by omega) (by omega)]
    unfold cpB
    rw [if_pos (by omega)]
  rw [q_ck (by omega) (by omega), hend]
  by_cases hb : bg = 16
  · subst hb
    rw [if_pos (show (16 : Int32) ≤ nI 16 by decide), Option.bind_some, if_pos (show nI (1 + (16 - 16)) ≤ nI (0 + 1 + (0 - 0)) by decide)]
    by_cases h16 : hd < 16
    · rw [if_pos (show (nI hd, uF').1 < (16 : Int32) from q_lt (b := 16) (by omega) (by omega) h16), if_neg (show ¬ (16 : Int32) ≤ nI hd from q_nle (a := 16) (by omega) (by omega) h16)]
      exact ⟨hd, _, _, _, by omega, rfl, rfl, by rw [nI_clamp (by omega)]; exact ev_up (Nat.le_refl _) r4⟩
    · rw [if_neg (show ¬ (nI hd, uF').1 < (16 : Int32) from q_nlt (b := 16) (by omega) (by omega) (by omega)), if_pos (show (16 : Int32) ≤ nI hd from q_le (a := 16) (by omega) (by omega) (by omega)), hcpM]
      exact ⟨16, _, _, _, Nat.le_refl _, rfl, rfl, hev _ _⟩
  · have hE : P_endPiece (nI hd) b uF' (nI bg) (16 : Int32) (nI 0) = some (nI (hd + 1 + (16 - bg)), cpB b (upd uF' hd (((16 : Int32) * (nI 16 - nI bg)) + nI 0)) (hd + 1) bg (16 - bg)) := end_ok b uF' hd bg 16 (nI 0) (by omega) (by omega) (by omega)
    have hx : ((16 : Int32) * (nI 16 - nI bg)) + nI 0 = (16 : Int32) * (nI (1 + (16 - bg)) - nI (0 + 1 + (0 - 0))) := by
      rw [pk_sub (by omega), pk_sub (by omega), show nI 0 = (0 : Int32) from rfl, Int32.add_zero]
      congr 2; omega
    have hev2 := ev_piece (x := (16 : Int32) * (nI (1 + (16 - bg)) - nI (0 + 1 + (0 - 0)))) r4 r5
    rw [if_neg (show ¬ (16 : Int32) ≤ nI bg from q_nle (a := 16) (by omega) (by omega) (by omega)), hE, Option.bind_some, Option.bind_some, hx, if_neg (show ¬ nI (1 + (16 - bg)) ≤ nI (0 + 1 + (0 - 0)) from q_nle (b := 1) (by omega) (by omega) (by omega))]
    dsimp only
    by_cases h16 : hd + 1 + (16 - bg) < 16
    · rw [if_pos (show nI (hd + 1 + (16 - bg)) < (16 : Int32) from q_lt (b := 16) (by omega) (by omega) h16), if_neg (show ¬ (16 : Int32) ≤ nI (hd + 1 + (16 - bg)) from q_nle (a := 16) (by omega) (by omega) h16)]
      exact ⟨hd + 1 + (16 - bg), _, _, _, by omega, rfl, rfl, by rw [nI_clamp (by omega)]; exact hev2⟩
    · rw [if_neg (show ¬ nI (hd + 1 + (16 - bg)) < (16 : Int32) from q_nlt (b := 16) (by omega) (by omega) (by omega)), if_pos (show (16 : Int32) ≤ nI (hd + 1 + (16 - bg)) from q_le (a := 16) (by omega) (by omega) (by omega)), hcpM]
      exact ⟨16, _, _, _, Nat.le_refl _, rfl, rfl, hev _ _⟩
