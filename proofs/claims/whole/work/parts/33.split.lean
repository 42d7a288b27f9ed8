theorem zz_time (t : Int64) : lg_cmp t 0 < 0 ∨ (¬ lg_cmp t 0 < 0 ∧ 0 < lg_cmp t 4294967295) ∨ (¬ lg_cmp t 0 < 0 ∧ ¬ 0 < lg_cmp t 4294967295) := by
  by_cases h1 : lg_cmp t 0 < 0
  · exact Or.inl h1
  · by_cases h2 : 0 < lg_cmp t 4294967295
    · exact Or.inr (Or.inl ⟨h1, h2⟩)
    · exact Or.inr (Or.inr ⟨h1, h2⟩)
theorem zz_add8 (n : Int32) : n < 1 ∨ (¬ n < 1 ∧ 8 < n) ∨ n = 1 ∨ n = 2 ∨ n = 3 ∨ n = 4 ∨ n = 5 ∨ n = 6 ∨ n = 7 ∨ n = 8 := by
  by_cases h1 : n < 1
  · exact Or.inl h1
  · by_cases h2 : 8 < n
    · exact Or.inr (Or.inl ⟨h1, h2⟩)
    · have a1 : ¬ n.toInt < (1 : Int32).toInt := fun h => h1 (Int32.lt_iff_toInt_lt.mpr h)
      have a2 : ¬ (8 : Int32).toInt < n.toInt := fun h => h2 (Int32.lt_iff_toInt_lt.mpr h)
      have e1 : (1 : Int32).toInt = 1 := by decide
      have e8 : (8 : Int32).toInt = 8 := by decide
      rw [e1] at a1
      rw [e8] at a2
      have a3 : n.toInt = 1 ∨ n.toInt = 2 ∨ n.toInt = 3 ∨ n.toInt = 4 ∨ n.toInt = 5 ∨ n.toInt = 6 ∨ n.toInt = 7 ∨ n.toInt = 8 := by omega
      refine Or.inr (Or.inr ?_)
      rcases a3 with h | h | h | h | h | h | h | h
      · exact Or.inl (Int32.toInt_inj.mp h)
      · exact Or.inr (Or.inl (Int32.toInt_inj.mp h))
      · exact Or.inr (Or.inr (Or.inl (Int32.toInt_inj.mp h)))
      · exact Or.inr (Or.inr (Or.inr (Or.inl (Int32.toInt_inj.mp h))))
      · exact Or.inr (Or.inr (Or.inr (Or.inr (Or.inl (Int32.toInt_inj.mp h)))))
      · exact Or.inr (Or.inr (Or.inr (Or.inr (Or.inr (Or.inl (Int32.toInt_inj.mp h))))))
      · exact Or.inr (Or.inr (Or.inr (Or.inr (Or.inr (Or.inr (Or.inl (Int32.toInt_inj.mp h)))))))
      · exact Or.inr (Or.inr (Or.inr (Or.inr (Or.inr (Or.inr (Or.inr (Int32.toInt_inj.mp h)))))))
