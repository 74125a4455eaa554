/-! numbers -/
theorem q_ck {α : Type} {k n : Nat} {x : Option α} (h : k < n) (hn : n < 2 ^ 31) : ck (nI k) n x = x := ck_ok (vp_in_nI h hn)
theorem q_lt {a b : Nat} (ha : a < 2 ^ 31) (hb : b < 2 ^ 31) (h : a < b) : nI a < nI b := (nI_ltI ha hb).mpr h
theorem q_nlt {a b : Nat} (ha : a < 2 ^ 31) (hb : b < 2 ^ 31) (h : b ≤ a) : ¬ nI a < nI b := fun q => by have := (nI_ltI ha hb).mp q; omega
theorem q_le {a b : Nat} (ha : a < 2 ^ 31) (hb : b < 2 ^ 31) (h : a ≤ b) : nI a ≤ nI b := (nI_leI ha hb).mpr h
theorem q_nle {a b : Nat} (ha : a < 2 ^ 31) (hb : b < 2 ^ 31) (h : b < a) : ¬ nI a ≤ nI b := fun q => by have := (nI_leI ha hb).mp q; omega
theorem q_ne {a b : Nat} (ha : a < 2 ^ 31) (hb : b < 2 ^ 31) (h : a ≠ b) : ¬ nI a = nI b := fun q => h ((nI_eq ha hb).mp q)
theorem q_nem1 {a : Nat} (ha : a < 2 ^ 31) : ¬ nI a = (-1 : Int32) := fun q => by
  have h1 := congrArg Int32.toInt q
  rw [nI_toInt ha] at h1
  have h2 : (-1 : Int32).toInt = -1 := by decide
  rw [h2] at h1
  omega
/-- the law's count of segments, both ways -/
theorem cnt_n (x : Int32) : ∃ n : Nat, 4 ≤ n ∧ n ≤ 8 ∧ cnt x = nI n ∧ (if (4 : Int32) ≤ x then (if x ≤ (8 : Int32) then x else (8 : Int32)) else (4 : Int32)) = nI n := by
  unfold cnt
  have e4 : (4 : Int32).toInt = 4 := by decide
  have e8 : (8 : Int32).toInt = 8 := by decide
  by_cases h1 : x < (8 : Int32)
  · rw [if_pos h1]
    have h1' := Int32.lt_iff_toInt_lt.mp h1
    by_cases h2 : (4 : Int32) < x
    · rw [if_pos h2]
      have h2' := Int32.lt_iff_toInt_lt.mp h2
      have h3 : (4 : Int32) ≤ x := Int32.le_iff_toInt_le.mpr (by omega)
      have h4 : x ≤ (8 : Int32) := Int32.le_iff_toInt_le.mpr (by omega)
      rw [if_pos h3, if_pos h4]
      obtain ⟨j, hj, rfl⟩ := nI_of (x := x) (fun q => by have := Int32.lt_iff_toInt_lt.mp q; have e0 : (0 : Int32).toInt = 0 := (by decide); omega)
      have ej := nI_toInt hj
      exact ⟨j, by omega, by omega, rfl, rfl⟩
    · rw [if_neg h2]
      have h2' : ¬ (4 : Int32).toInt < x.toInt := fun q => h2 (Int32.lt_iff_toInt_lt.mpr q)
      by_cases h3 : (4 : Int32) ≤ x
      · have h3' := Int32.le_iff_toInt_le.mp h3
        have h4 : x ≤ (8 : Int32) := Int32.le_iff_toInt_le.mpr (by omega)
        rw [if_pos h3, if_pos h4]
        have h5 : x = (4 : Int32) := Int32.toInt_inj.mp (by omega)
        exact ⟨4, by omega, by omega, rfl, by rw [h5]; rfl⟩
      · rw [if_neg h3]
        exact ⟨4, by omega, by omega, rfl, rfl⟩
  · rw [if_neg h1]
    have h1' : ¬ x.toInt < (8 : Int32).toInt := fun q => h1 (Int32.lt_iff_toInt_lt.mpr q)
    have h3 : (4 : Int32) ≤ x := Int32.le_iff_toInt_le.mpr (by omega)
    rw [if_pos (show (4 : Int32) < (8 : Int32) by decide), if_pos h3]
    by_cases h4 : x ≤ (8 : Int32)
    · rw [if_pos h4]
      have h4' := Int32.le_iff_toInt_le.mp h4
      have h5 : x = (8 : Int32) := Int32.toInt_inj.mp (by omega)
      exact ⟨8, by omega, by omega, rfl, by rw [h5]; rfl⟩
    · rw [if_neg h4]
      exact ⟨8, by omega, by omega, rfl, rfl⟩
