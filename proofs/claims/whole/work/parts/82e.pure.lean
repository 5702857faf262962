theorem p_pk30 (s l b r w d p : Int32) (fo ca : Nat → Int32) (s' l' b' r' w' d' p' : Int32) (fo' ca' side kind near far free : Nat → Int32) (k : Nat) (hk : k < 30) :
    r_pack s l b r w d p fo ca side kind near far free k = r_pack s' l' b' r' w' d' p' fo' ca' side kind near far free k := by
  unfold r_pack
  by_cases h1 : k < 6
  · rw [if_pos h1, if_pos h1]
  by_cases h2 : k < 12
  · rw [if_neg h1, if_neg h1, if_pos h2, if_pos h2]
  by_cases h3 : k < 18
  · rw [if_neg h1, if_neg h1, if_neg h2, if_neg h2, if_pos h3, if_pos h3]
  by_cases h4 : k < 24
  · rw [if_neg h1, if_neg h1, if_neg h2, if_neg h2, if_neg h3, if_neg h3, if_pos h4, if_pos h4]
  · rw [if_neg h1, if_neg h1, if_neg h2, if_neg h2, if_neg h3, if_neg h3, if_neg h4, if_neg h4, if_pos hk, if_pos hk]
theorem p_in9 {x : Int32} (h0 : 0 ≤ x) (h1 : x ≤ 9) : x = 0 ∨ x = 1 ∨ x = 2 ∨ x = 3 ∨ x = 4 ∨ x = 5 ∨ x = 6 ∨ x = 7 ∨ x = 8 ∨ x = 9 := by
  obtain ⟨n, rfl⟩ := pe_nat 9 h0 h1 (by decide)
  exact (by decide : ∀ n : Fin 10, Int32.ofNat n = 0 ∨ Int32.ofNat n = 1 ∨ Int32.ofNat n = 2 ∨ Int32.ofNat n = 3 ∨ Int32.ofNat n = 4 ∨ Int32.ofNat n = 5 ∨ Int32.ofNat n = 6 ∨ Int32.ofNat n = 7 ∨ Int32.ofNat n = 8 ∨ Int32.ofNat n = 9) n
