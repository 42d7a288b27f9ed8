theorem zz_neg (n : Int32) (k : Nat) (hk : k < 2 ^ 31) (h0 : ¬ n < 0) (h1 : n < nI k) : ∃ j : Nat, j < k ∧ n = nI j := by
  have a0 : ¬ n.toInt < (0 : Int32).toInt := fun h => h0 (Int32.lt_iff_toInt_lt.mpr h)
  have a1 : n.toInt < (nI k).toInt := Int32.lt_iff_toInt_lt.mp h1
  rw [nI_toInt hk] at a1
  rw [Int32.toInt_zero] at a0
  refine ⟨n.toInt.toNat, by omega, Int32.toInt_inj.mp ?_⟩
  rw [nI_toInt (by omega)]
  omega
theorem zz_lab (n : Int32) : n < 0 ∨ (¬ n < 0 ∧ ¬ n ≤ 2) ∨ n = 0 ∨ n = 1 ∨ n = 2 := by
  by_cases h1 : n < 0
  · exact Or.inl h1
  · by_cases h2 : n ≤ 2
    · obtain ⟨j, hj, e⟩ := zz_neg n 3 (by decide) h1 (by
        have a2 : n.toInt ≤ (2 : Int32).toInt := Int32.le_iff_toInt_le.mp h2
        refine Int32.lt_iff_toInt_lt.mpr ?_
        rw [nI_toInt (by decide)]
        have e2 : (2 : Int32).toInt = 2 := by decide
        rw [e2] at a2
        omega)
      match j, hj with
      | 0, _ => exact Or.inr (Or.inr (Or.inl e))
      | 1, _ => exact Or.inr (Or.inr (Or.inr (Or.inl e)))
      | 2, _ => exact Or.inr (Or.inr (Or.inr (Or.inr e)))
      | j + 3, h => exact absurd h (by omega)
    · exact Or.inr (Or.inl ⟨h1, h2⟩)
theorem zz_hsh (w i : Int32) : (¬ w = 1 ∧ ¬ w = 2) ∨ (w = 1 ∧ i < 0) ∨ (w = 1 ∧ ¬ i < 0 ∧ ¬ i < 20) ∨ (w = 1 ∧ ∃ j : Nat, j < 20 ∧ i = nI j) ∨ (w = 2 ∧ i < 0) ∨ (w = 2 ∧ ¬ i < 0 ∧ ¬ i < 32) ∨ (w = 2 ∧ ∃ j : Nat, j < 32 ∧ i = nI j) := by
  by_cases h1 : w = 1
  · by_cases h2 : i < 0
    · exact Or.inr (Or.inl ⟨h1, h2⟩)
    · by_cases h3 : i < 20
      · exact Or.inr (Or.inr (Or.inr (Or.inl ⟨h1, zz_neg i 20 (by decide) h2 h3⟩)))
      · exact Or.inr (Or.inr (Or.inl ⟨h1, h2, h3⟩))
  · by_cases h4 : w = 2
    · by_cases h2 : i < 0
      · exact Or.inr (Or.inr (Or.inr (Or.inr (Or.inl ⟨h4, h2⟩))))
      · by_cases h3 : i < 32
        · exact Or.inr (Or.inr (Or.inr (Or.inr (Or.inr (Or.inr ⟨h4, zz_neg i 32 (by decide) h2 h3⟩)))))
        · exact Or.inr (Or.inr (Or.inr (Or.inr (Or.inr (Or.inl ⟨h4, h2, h3⟩)))))
    · exact Or.inl ⟨h1, h4⟩
theorem zz_time (t : Int64) : lg_cmp t 0 < 0 ∨ (¬ lg_cmp t 0 < 0 ∧ 0 < lg_cmp t 4294967295) ∨ (¬ lg_cmp t 0 < 0 ∧ ¬ 0 < lg_cmp t 4294967295) := by
  by_cases h1 : lg_cmp t 0 < 0
  · exact Or.inl h1
  · by_cases h2 : 0 < lg_cmp t 4294967295
    · exact Or.inr (Or.inl ⟨h1, h2⟩)
    · exact Or.inr (Or.inr ⟨h1, h2⟩)
theorem zz_add8 (n : Int32) : n < 1 ∨ (¬ n < 1 ∧ 8 < n) ∨ n = 1 ∨ n = 2 ∨ n = 3 ∨ n = 4 ∨ n = 5 ∨ n = 6 ∨ n = 7 ∨ n = 8 := by
  by_cases h1 : n < 1
  · exact Or.inl h1
  · by_cases h2 : 8 < n
    · exact Or.inr (Or.inl ⟨h1, h2⟩)
    · have a1 : ¬ n.toInt < (1 : Int32).toInt := fun h => h1 (Int32.lt_iff_toInt_lt.mpr h)
      have a2 : ¬ (8 : Int32).toInt < n.toInt := fun h => h2 (Int32.lt_iff_toInt_lt.mpr h)
      have e1 : (1 : Int32).toInt = 1 := by decide
      have e8 : (8 : Int32).toInt = 8 := by decide
      rw [e1] at a1
      rw [e8] at a2
      have a3 : n.toInt = 1 ∨ n.toInt = 2 ∨ n.toInt = 3 ∨ n.toInt = 4 ∨ n.toInt = 5 ∨ n.toInt = 6 ∨ n.toInt = 7 ∨ n.toInt = 8 := by omega
      refine Or.inr (Or.inr ?_)
      rcases a3 with h | h | h | h | h | h | h | h
      · exact Or.inl (Int32.toInt_inj.mp h)
      · exact Or.inr (Or.inl (Int32.toInt_inj.mp h))
      · exact Or.inr (Or.inr (Or.inl (Int32.toInt_inj.mp h)))
      · exact Or.inr (Or.inr (Or.inr (Or.inl (Int32.toInt_inj.mp h))))
      · exact Or.inr (Or.inr (Or.inr (Or.inr (Or.inl (Int32.toInt_inj.mp h)))))
      · exact Or.inr (Or.inr (Or.inr (Or.inr (Or.inr (Or.inl (Int32.toInt_inj.mp h))))))
      · exact Or.inr (Or.inr (Or.inr (Or.inr (Or.inr (Or.inr (Or.inl (Int32.toInt_inj.mp h)))))))
      · exact Or.inr (Or.inr (Or.inr (Or.inr (Or.inr (Or.inr (Or.inr (Int32.toInt_inj.mp h)))))))
