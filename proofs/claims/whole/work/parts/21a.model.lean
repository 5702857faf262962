theorem fd_is {L a q : Int32} {f : Nat → Int32} {r u : Int32} (h : m_A a L) (e : (r, u) = f_X5_is L a f q) : m_A u L ∧ ((r = 0 ∧ u = a ∧ (a = L ∨ ¬ f a.toNatClampNeg = q)) ∨ (r = 1 ∧ u = a + 1 ∧ ¬ a = L ∧ f a.toNatClampNeg = q)) := by
  unfold f_X5_is at e
  split at e
  · rename_i h1
    obtain ⟨rfl, rfl⟩ := Prod.mk.inj e
    exact ⟨h, Or.inl ⟨rfl, rfl, Or.inl h1⟩⟩
  · rename_i h1
    split at e
    · rename_i h2
      obtain ⟨rfl, rfl⟩ := Prod.mk.inj e
      exact ⟨h.succn h1, Or.inr ⟨rfl, rfl, h1, h2⟩⟩
    · rename_i h2
      obtain ⟨rfl, rfl⟩ := Prod.mk.inj e
      exact ⟨h, Or.inl ⟨rfl, rfl, Or.inr h2⟩⟩
theorem fd_isv {L a q : Int32} {f : Nat → Int32} {r u : Int32} (h : m_A a L) (e : (r, u) = f_X5_is L a f q) (c : ¬ r = 0) : vp_in (u - 1) 96 := by
  obtain ⟨-, ⟨h1, -⟩ | ⟨h1, h2, h3, -⟩⟩ := fd_is h e
  · exact absurd h1 c
  · have z : u - 1 = a := by rw [h2, Int32.add_sub_cancel]
    rw [z]
    exact h.vin h3
theorem g_vin2 {x : Int32} (h0 : 0 ≤ x) (h1 : ¬ 1 < x) : vp_in x 2 := by
  have a := Int32.le_iff_toInt_le.mp h0
  have b := Int32.le_iff_toInt_le.mp (Int32.not_lt.mp h1)
  have z0 : (0 : Int32).toInt = 0 := by decide
  have z1 : (1 : Int32).toInt = 1 := by decide
  rw [vp_in_iff]
  omega
theorem g_tnn {x y : Int32} (hx : 0 ≤ x) (hy : 0 ≤ y) (h : x.toNatClampNeg = y.toNatClampNeg) : x = y := by
  have a := Int32.le_iff_toInt_le.mp hx
  have b := Int32.le_iff_toInt_le.mp hy
  have z : (0 : Int32).toInt = 0 := by decide
  apply Int32.toInt_inj.mp
  have e1 : x.toInt = (x.toNatClampNeg : Int) := by rw [Int32.toNatClampNeg]; omega
  have e2 : y.toInt = (y.toNatClampNeg : Int) := by rw [Int32.toNatClampNeg]; omega
  omega
/-- a digit -/
theorem g_dig {x : Int32} (h1 : ¬ x < 48) (h2 : x ≤ 57) : 0 ≤ x - 48 ∧ x - 48 ≤ 9 := by
  have a := Int32.le_iff_toInt_le.mp (Int32.not_lt.mp h1)
  have b := Int32.le_iff_toInt_le.mp h2
  have z0 : (0 : Int32).toInt = 0 := by decide
  have z1 : (48 : Int32).toInt = 48 := by decide
  have z2 : (57 : Int32).toInt = 57 := by decide
  have z3 : (9 : Int32).toInt = 9 := by decide
  rw [Int32.le_iff_toInt_le, Int32.le_iff_toInt_le, g_subI (by omega) (by omega), z1]
  omega
theorem fd_digits {L a p m : Int32} {f g : Nat → Int32} {r : Int32} {u : Int32 × (Nat → Int32)} (h : m_A a L) (hp : 0 ≤ p) (hm : p + m ≤ 4) (e : (r, u) = f_X5_digits L a f g p m) :
    m_A u.1 L ∧ a ≤ u.1 ∧ (r = 0 ∨ (r = 1 ∧ ∀ k : Int32, p ≤ k → k < p + m → (0 ≤ u.2 k.toNatClampNeg ∧ u.2 k.toNatClampNeg ≤ 9))) := by
  have key : ∀ (n : Nat) (v3 b : Int32) (w : Nat → Int32), ((p + m : Int32).toInt - v3.toInt).toNat < n → p ≤ v3 → m_A b L → a ≤ b → (∀ k : Int32, p ≤ k → k < v3 → (0 ≤ w k.toNatClampNeg ∧ w k.toNatClampNeg ≤ 9)) →
      ∀ (r : Int32) (u : Int32 × (Nat → Int32)), (r, u) = L_X5_digits_2 p m L f (fun v3_2 c_at_2 c_value_2 => (1, c_at_2, c_value_2)) n v3 b w →
      m_A u.1 L ∧ a ≤ u.1 ∧ (r = 0 ∨ (r = 1 ∧ ∀ k : Int32, p ≤ k → k < p + m → (0 ≤ u.2 k.toNatClampNeg ∧ u.2 k.toNatClampNeg ≤ 9))) := by
    intro n
    induction n with
    | zero => intro v3 b w hn; exact absurd hn (Nat.not_lt_zero _)
    | succ n ih =>
      intro v3 b w hn hv hb hab hw r u e
      rw [L_X5_digits_2.eq_2] at e
      by_cases c1 : p + m ≤ v3
      · rw [if_pos c1] at e
        obtain ⟨rfl, rfl⟩ := Prod.mk.inj e
        exact ⟨hb, hab, Or.inr ⟨rfl, fun k h1 h2 => hw k h1 (by
          have x1 := Int32.lt_iff_toInt_lt.mp h2
          have x2 := Int32.le_iff_toInt_le.mp c1
          rw [Int32.lt_iff_toInt_lt]; omega)⟩⟩
      · rw [if_neg c1] at e
        by_cases c2 : b = L
        · rw [if_pos c2] at e
          obtain ⟨rfl, rfl⟩ := Prod.mk.inj e
          exact ⟨hb, hab, Or.inl rfl⟩
        · rw [if_neg c2] at e
          by_cases c3 : f b.toNatClampNeg < 48
          · rw [if_pos c3] at e
            obtain ⟨rfl, rfl⟩ := Prod.mk.inj e
            exact ⟨hb, hab, Or.inl rfl⟩
          · rw [if_neg c3] at e
            by_cases c4 : f b.toNatClampNeg ≤ 57
            · rw [if_pos c4] at e
              have hv0 : 0 ≤ v3 := Int32.le_trans hp hv
              have i1 := g_inc c1
              have i2 := g_inc (g_neLe hb.2.1 c2)
              refine ih (v3 + 1) (b + 1) _ (g_upm c1 hn) ?_ (hb.succn c2) ?_ ?_ r u e
              · have x1 := Int32.le_iff_toInt_le.mp hv
                rw [Int32.le_iff_toInt_le]; omega
              · have x1 := Int32.le_iff_toInt_le.mp hab
                rw [Int32.le_iff_toInt_le]; omega
              · intro k h1 h2
                by_cases hk : k = v3
                · subst hk
                  simp only [upd, if_true]
                  exact g_dig c3 c4
                · have hne : ¬ k.toNatClampNeg = v3.toNatClampNeg := fun q => hk (g_tnn (Int32.le_trans hp h1) hv0 q)
                  simp only [upd, if_neg hne]
                  refine hw k h1 ?_
                  have x1 := Int32.lt_iff_toInt_lt.mp h2
                  have x2 : ¬ k.toInt = v3.toInt := fun q => hk (Int32.toInt_inj.mp q)
                  rw [Int32.lt_iff_toInt_lt]; omega
            · rw [if_neg c4] at e
              obtain ⟨rfl, rfl⟩ := Prod.mk.inj e
              exact ⟨hb, hab, Or.inl rfl⟩
  exact key _ p a g (Nat.lt_succ_self _) (Int32.le_refl _) h (Int32.le_refl _) (fun k h1 h2 => absurd h2 (Int32.not_lt.mpr h1)) r u e
theorem fd_dv {P : Prop} {r : Int32} {Q : Int32 → Prop} (h : r = 0 ∨ (r = 1 ∧ ∀ k, Q k)) (c : ¬ r = 0) : ∀ k, Q k := (h.resolve_left c).2
