theorem m_Psucc {P : Int32} (h : m_P P) (c : ¬ P = 6) : m_P (P + 1) := by
  obtain ⟨j, hj, rfl⟩ := h.of
  have key : ∀ j : Nat, j < 7 → ¬ nI j = 6 → (0 ≤ nI j + 1 ∧ nI j + 1 ≤ 6) := by decide
  exact key j hj c
theorem fd_ltle {x y z : Int32} (h : x < y) (h2 : y ≤ z) : x < z := by
  have a := Int32.lt_iff_toInt_lt.mp h
  have b := Int32.le_iff_toInt_le.mp h2
  rw [Int32.lt_iff_toInt_lt]; omega
theorem fd_lts {x y L : Int32} (h : x ≤ y) (c : ¬ L ≤ y) : x < y + 1 := by
  obtain ⟨a, b⟩ := g_inc c
  have d := Int32.le_iff_toInt_le.mp h
  rw [Int32.lt_iff_toInt_lt]; omega
theorem fd_isl {x L a q : Int32} {f : Nat → Int32} {r u : Int32} (hx : x ≤ a) (h : m_A a L) (e : (r, u) = f_X5_is L a f q) (c : ¬ r = 0) : x < u := by
  obtain ⟨-, ⟨h1, -⟩ | ⟨h1, h2, h3, -⟩⟩ := fd_is h e
  · exact absurd h1 c
  · rw [h2]; exact fd_lts hx (g_neLe h.2.1 h3)
theorem fd_ise {x L a q : Int32} {f : Nat → Int32} {r u : Int32} (hx : x ≤ a) (h : m_A a L) (e : (r, u) = f_X5_is L a f q) : x ≤ u := by
  obtain ⟨-, ⟨h1, h2, -⟩ | ⟨h1, h2, h3, -⟩⟩ := fd_is h e
  · rw [h2]; exact hx
  · rw [h2]; exact Int32.le_of_lt (fd_lts hx (g_neLe h.2.1 h3))
theorem fd_ise2 {x L a q : Int32} {f : Nat → Int32} {r u : Int32} (hx : x < a) (h : m_A a L) (e : (r, u) = f_X5_is L a f q) : x < u := by
  obtain ⟨-, ⟨h1, h2, -⟩ | ⟨h1, h2, h3, -⟩⟩ := fd_is h e
  · rw [h2]; exact hx
  · rw [h2]; exact fd_lts (Int32.le_of_lt hx) (g_neLe h.2.1 h3)
/-- what digits reads doesn't hang on what stood in its numbers -/
theorem fd_dgi {L a p m : Int32} {f g g2 : Nat → Int32} {r r2 : Int32} {u : Int32 × (Nat → Int32)} {a2 : Int32} {w2 : Nat → Int32} (e : (r, u) = f_X5_digits L a f g p m) (e2 : (r2, (a2, w2)) = f_X5_digits L a f g2 p m) : r2 = r ∧ a2 = u.1 := by
  have key : ∀ (n : Nat) (v b : Int32) (w x : Nat → Int32), (L_X5_digits_2 p m L f (fun v3_2 c_at_2 c_value_2 => (1, c_at_2, c_value_2)) n v b w).1 = (L_X5_digits_2 p m L f (fun v3_2 c_at_2 c_value_2 => (1, c_at_2, c_value_2)) n v b x).1 ∧ (L_X5_digits_2 p m L f (fun v3_2 c_at_2 c_value_2 => (1, c_at_2, c_value_2)) n v b w).2.1 = (L_X5_digits_2 p m L f (fun v3_2 c_at_2 c_value_2 => (1, c_at_2, c_value_2)) n v b x).2.1 := by
    intro n
    induction n with
    | zero => intro v b w x; exact ⟨rfl, rfl⟩
    | succ n ih =>
      intro v b w x
      rw [L_X5_digits_2.eq_2, L_X5_digits_2.eq_2]
      by_cases c1 : p + m ≤ v
      · rw [if_pos c1, if_pos c1]; exact ⟨rfl, rfl⟩
      · rw [if_neg c1, if_neg c1]
        by_cases c2 : b = L
        · rw [if_pos c2, if_pos c2]; exact ⟨rfl, rfl⟩
        · rw [if_neg c2, if_neg c2]
          by_cases c3 : f b.toNatClampNeg < 48
          · rw [if_pos c3, if_pos c3]; exact ⟨rfl, rfl⟩
          · rw [if_neg c3, if_neg c3]
            by_cases c4 : f b.toNatClampNeg ≤ 57
            · rw [if_pos c4, if_pos c4]; exact ih _ _ _ _
            · rw [if_neg c4, if_neg c4]; exact ⟨rfl, rfl⟩
  have k := key ((((p + m) : Int32).toInt - (p : Int32).toInt).toNat + 1) p a g2 g
  have e1 : f_X5_digits L a f g p m = L_X5_digits_2 p m L f (fun v3_2 c_at_2 c_value_2 => (1, c_at_2, c_value_2)) ((((p + m) : Int32).toInt - (p : Int32).toInt).toNat + 1) p a g := rfl
  have e3 : f_X5_digits L a f g2 p m = L_X5_digits_2 p m L f (fun v3_2 c_at_2 c_value_2 => (1, c_at_2, c_value_2)) ((((p + m) : Int32).toInt - (p : Int32).toInt).toNat + 1) p a g2 := rfl
  rw [← e1, ← e3, ← e, ← e2] at k
  exact k
/-- what a statement reads: its answer and where it ends, tells left out -/
def m_y (c_letters c_at : Int32) (c_letter : Nat → Int32) : Int32 × (Int32) × (Int32) × (Int32) × (Int32) × (Int32) × (Int32) × (Int32) × (Int32) × (Nat → Int32) × (Nat → Int32) × (Nat → Int32) × (Nat → Int32) × (Nat → Int32) × (Nat → Int32) × (Nat → Int32) × (Nat → Int32) := f_X5_statement 0 0 0 0 0 0 0 c_letters c_at (fun _ => 0) (fun _ => 0) (fun _ => 0) (fun _ => 0) (fun _ => 0) (fun _ => 0) (fun _ => 0) c_letter (fun _ => 0) 0
def m_at (z : Int32 × (Int32) × (Int32) × (Int32) × (Int32) × (Int32) × (Int32) × (Int32) × (Int32) × (Nat → Int32) × (Nat → Int32) × (Nat → Int32) × (Nat → Int32) × (Nat → Int32) × (Nat → Int32) × (Nat → Int32) × (Nat → Int32)) : Int32 := z.2.2.2.2.2.2.2.2.1
def m_pl (z : Int32 × (Int32) × (Int32) × (Int32) × (Int32) × (Int32) × (Int32) × (Int32) × (Int32) × (Nat → Int32) × (Nat → Int32) × (Nat → Int32) × (Nat → Int32) × (Nat → Int32) × (Nat → Int32) × (Nat → Int32) × (Nat → Int32)) : Int32 := z.2.2.2.2.2.2.2.1
def m_ST (c_letters c_at p1 : Int32) (z y : Int32 × (Int32) × (Int32) × (Int32) × (Int32) × (Int32) × (Int32) × (Int32) × (Int32) × (Nat → Int32) × (Nat → Int32) × (Nat → Int32) × (Nat → Int32) × (Nat → Int32) × (Nat → Int32) × (Nat → Int32) × (Nat → Int32)) : Prop := m_A (m_at z) c_letters ∧ c_at ≤ m_at z ∧ m_P (m_pl z) ∧ m_at z = m_at y ∧ (p1 = 0 → z.1 = y.1) ∧ (y.1 = 1 → (z.1 = 0 ∨ z.1 = 1) ∧ c_at < m_at z) ∧ (¬ y.1 = 1 → z.1 = y.1)
set_option maxHeartbeats 4000000 in
set_option maxRecDepth 100000 in
theorem fd_st {c_seconds : Int32} {c_lead : Int32} {c_ball : Int32} {c_rebound : Int32} {c_law : Int32} {c_draw : Int32} {c_players : Int32} {c_letters : Int32} {c_at : Int32} {c_fouls : Nat → Int32} {c_calls : Nat → Int32} {c_side : Nat → Int32} {c_kind : Nat → Int32} {c_near : Nat → Int32} {c_far : Nat → Int32} {c_free : Nat → Int32} {c_letter : Nat → Int32} {c_value : Nat → Int32} {p1 : Int32} {z : Int32 × (Int32) × (Int32) × (Int32) × (Int32) × (Int32) × (Int32) × (Int32) × (Int32) × (Nat → Int32) × (Nat → Int32) × (Nat → Int32) × (Nat → Int32) × (Nat → Int32) × (Nat → Int32) × (Nat → Int32) × (Nat → Int32)} (ha : m_A c_at c_letters) (hp : m_P c_players) (e : z = f_X5_statement c_seconds c_lead c_ball c_rebound c_law c_draw c_players c_letters c_at c_fouls c_calls c_side c_kind c_near c_far c_free c_letter c_value p1) : m_ST c_letters c_at p1 z (m_y c_letters c_at c_letter) := by
  have heq := e.trans (f_X5_statement.eq_def c_seconds c_lead c_ball c_rebound c_law c_draw c_players c_letters c_at c_fouls c_calls c_side c_kind c_near c_far c_free c_letter c_value p1)
  obtain ⟨y, hy⟩ : ∃ y, y = m_y c_letters c_at c_letter := ⟨_, rfl⟩
  rw [← hy]
  have heqy := hy.trans (f_X5_statement.eq_def 0 0 0 0 0 0 0 c_letters c_at (fun _ => 0) (fun _ => 0) (fun _ => 0) (fun _ => 0) (fun _ => 0) (fun _ => 0) (fun _ => 0) c_letter (fun _ => 0) 0)
  obtain ⟨r3, u3, hw3⟩ : ∃ r u, (r, u) = f_X5_is c_letters c_at c_letter (112 : Int32) := ⟨_, _, rfl⟩
  have heq := g_let2 heq hw3
  have heqy := g_let2 heqy hw3
  have hd3 := fd_is ha hw3
  have ha3 := hd3.1
  by_cases c6 : r3 = 0
  · have heq := heq.trans (if_pos c6)
    have heqy := heqy.trans (if_pos c6)
    obtain ⟨r198, u198, hw198⟩ : ∃ r u, (r, u) = f_X5_is c_letters u3 c_letter (99 : Int32) := ⟨_, _, rfl⟩
    have heq := g_let2 heq hw198
    have heqy := g_let2 heqy hw198
    have hd198 := fd_is ha3 hw198
    have ha198 := hd198.1
    by_cases c201 : r198 = 0
    · have heq := heq.trans (if_pos c201)
      have heqy := heqy.trans (if_pos c201)
      obtain ⟨r269, u269, hw269⟩ : ∃ r u, (r, u) = f_X5_is c_letters u198 c_letter (108 : Int32) := ⟨_, _, rfl⟩
      have heq := g_let2 heq hw269
      have heqy := g_let2 heqy hw269
      have hd269 := fd_is ha198 hw269
      have ha269 := hd269.1
      by_cases c272 : r269 = 0
      · have heq := heq.trans (if_pos c272)
        have heqy := heqy.trans (if_pos c272)
        obtain ⟨r359, u359, hw359⟩ : ∃ r u, (r, u) = f_X5_is c_letters u269 c_letter (102 : Int32) := ⟨_, _, rfl⟩
        have heq := g_let2 heq hw359
        have heqy := g_let2 heqy hw359
        have hd359 := fd_is ha269 hw359
        have ha359 := hd359.1
        by_cases c362 : r359 = 0
        · have heq := heq.trans (if_pos c362)
          have heqy := heqy.trans (if_pos c362)
          obtain ⟨r368, u368, hw368⟩ : ∃ r u, (r, u) = f_X5_is c_letters u359 c_letter (111 : Int32) := ⟨_, _, rfl⟩
          have heq := g_let2 heq hw368
          have heqy := g_let2 heqy hw368
          have hd368 := fd_is ha359 hw368
          have ha368 := hd368.1
          by_cases c371 : r368 = 0
          · have heq := heq.trans (if_pos c371)
            have heqy := heqy.trans (if_pos c371)
            by_cases c494 : c_letters ≤ u368
            · have heq := heq.trans (if_pos c494)
              have heqy := heqy.trans (if_pos c494)
              rw [heq, heqy]
              exact ⟨ha368, (fd_ise (fd_ise (fd_ise (fd_ise (fd_ise (Int32.le_refl _) ha hw3) ha3 hw198) ha198 hw269) ha269 hw359) ha359 hw368), hp, rfl, fun _ => rfl, fun q => absurd (show (-1 : Int32) = 1 from q) (by decide), fun _ => rfl⟩
            · have heq := heq.trans (if_neg c494)
              have heqy := heqy.trans (if_neg c494)
              by_cases c514 : c_letter u368.toNatClampNeg = 98
              · have heq := heq.trans (if_pos c514)
                have heqy := heqy.trans (if_pos c514)
                obtain ⟨r550, u550, hw550⟩ : ∃ r u, (r, u) = f_X5_digits c_letters (u368 + 1) c_letter c_value (0 : Int32) (1 : Int32) := ⟨_, _, rfl⟩
                have heq := g_let2 heq hw550
                obtain ⟨ry550, uy550, hy550⟩ : ∃ r u, (r, u) = f_X5_digits c_letters (u368 + 1) c_letter (fun _ => 0) (0 : Int32) (1 : Int32) := ⟨_, _, rfl⟩
                have heqy := g_let2 heqy hy550
                obtain ⟨ay550, wy550⟩ := uy550
                obtain ⟨e1, e2⟩ := fd_dgi hw550 hy550
                have e1 := e1.symm
                subst e1
                subst e2
                have hd550 := fd_digits (ha368.succ c494) (by decide) (by decide) hw550
                have ha550 := hd550.1
                by_cases c553 : r550 = 0
                · have heq := heq.trans (if_pos c553)
                  have heqy := heqy.trans (if_pos c553)
                  rw [heq, heqy]
                  exact ⟨ha550, (Int32.le_of_lt (fd_ltle (fd_lts (fd_ise (fd_ise (fd_ise (fd_ise (fd_ise (Int32.le_refl _) ha hw3) ha3 hw198) ha198 hw269) ha269 hw359) ha359 hw368) c494) hd550.2.1)), hp, rfl, fun _ => rfl, fun q => absurd (show (-1 : Int32) = 1 from q) (by decide), fun _ => rfl⟩
                · have heq := heq.trans (if_neg c553)
                  have heqy := heqy.trans (if_neg c553)
                  by_cases c559 : p1 = 0
                  · have heq := heq.trans (if_pos c559)
                    have heqy := heqy.trans (if_pos rfl)
                    rw [heq, heqy]
                    exact ⟨ha550, (Int32.le_of_lt (fd_ltle (fd_lts (fd_ise (fd_ise (fd_ise (fd_ise (fd_ise (Int32.le_refl _) ha hw3) ha3 hw198) ha198 hw269) ha269 hw359) ha359 hw368) c494) hd550.2.1)), hp, rfl, fun _ => rfl, fun _ => ⟨Or.inr rfl, (fd_ltle (fd_lts (fd_ise (fd_ise (fd_ise (fd_ise (fd_ise (Int32.le_refl _) ha hw3) ha3 hw198) ha198 hw269) ha269 hw359) ha359 hw368) c494) hd550.2.1)⟩, fun q => absurd rfl q⟩
                  · have heq := heq.trans (if_neg c559)
                    have heqy := heqy.trans (if_pos rfl)
                    by_cases c592 : u550.2 (0 : Int32).toNatClampNeg ≤ 1
                    · have heq := heq.trans (if_pos c592)
                      rw [heq, heqy]
                      exact ⟨ha550, (Int32.le_of_lt (fd_ltle (fd_lts (fd_ise (fd_ise (fd_ise (fd_ise (fd_ise (Int32.le_refl _) ha hw3) ha3 hw198) ha198 hw269) ha269 hw359) ha359 hw368) c494) hd550.2.1)), hp, rfl, fun q => absurd q c559, fun _ => ⟨Or.inr rfl, (fd_ltle (fd_lts (fd_ise (fd_ise (fd_ise (fd_ise (fd_ise (Int32.le_refl _) ha hw3) ha3 hw198) ha198 hw269) ha269 hw359) ha359 hw368) c494) hd550.2.1)⟩, fun q => absurd rfl q⟩
                    · have heq := heq.trans (if_neg c592)
                      rw [heq, heqy]
                      exact ⟨ha550, (Int32.le_of_lt (fd_ltle (fd_lts (fd_ise (fd_ise (fd_ise (fd_ise (fd_ise (Int32.le_refl _) ha hw3) ha3 hw198) ha198 hw269) ha269 hw359) ha359 hw368) c494) hd550.2.1)), hp, rfl, fun q => absurd q c559, fun _ => ⟨Or.inl rfl, (fd_ltle (fd_lts (fd_ise (fd_ise (fd_ise (fd_ise (fd_ise (Int32.le_refl _) ha hw3) ha3 hw198) ha198 hw269) ha269 hw359) ha359 hw368) c494) hd550.2.1)⟩, fun q => absurd rfl q⟩
              · have heq := heq.trans (if_neg c514)
                have heqy := heqy.trans (if_neg c514)
                by_cases c520 : c_letter u368.toNatClampNeg = 114
                · have heq := heq.trans (if_pos c520)
                  have heqy := heqy.trans (if_pos c520)
                  obtain ⟨r550, u550, hw550⟩ : ∃ r u, (r, u) = f_X5_digits c_letters (u368 + 1) c_letter c_value (0 : Int32) (1 : Int32) := ⟨_, _, rfl⟩
                  have heq := g_let2 heq hw550
                  obtain ⟨ry550, uy550, hy550⟩ : ∃ r u, (r, u) = f_X5_digits c_letters (u368 + 1) c_letter (fun _ => 0) (0 : Int32) (1 : Int32) := ⟨_, _, rfl⟩
                  have heqy := g_let2 heqy hy550
                  obtain ⟨ay550, wy550⟩ := uy550
                  obtain ⟨e1, e2⟩ := fd_dgi hw550 hy550
                  have e1 := e1.symm
                  subst e1
                  subst e2
                  have hd550 := fd_digits (ha368.succ c494) (by decide) (by decide) hw550
                  have ha550 := hd550.1
                  by_cases c553 : r550 = 0
                  · have heq := heq.trans (if_pos c553)
                    have heqy := heqy.trans (if_pos c553)
                    rw [heq, heqy]
                    exact ⟨ha550, (Int32.le_of_lt (fd_ltle (fd_lts (fd_ise (fd_ise (fd_ise (fd_ise (fd_ise (Int32.le_refl _) ha hw3) ha3 hw198) ha198 hw269) ha269 hw359) ha359 hw368) c494) hd550.2.1)), hp, rfl, fun _ => rfl, fun q => absurd (show (-1 : Int32) = 1 from q) (by decide), fun _ => rfl⟩
                  · have heq := heq.trans (if_neg c553)
                    have heqy := heqy.trans (if_neg c553)
                    by_cases c559 : p1 = 0
                    · have heq := heq.trans (if_pos c559)
                      have heqy := heqy.trans (if_pos rfl)
                      rw [heq, heqy]
                      exact ⟨ha550, (Int32.le_of_lt (fd_ltle (fd_lts (fd_ise (fd_ise (fd_ise (fd_ise (fd_ise (Int32.le_refl _) ha hw3) ha3 hw198) ha198 hw269) ha269 hw359) ha359 hw368) c494) hd550.2.1)), hp, rfl, fun _ => rfl, fun _ => ⟨Or.inr rfl, (fd_ltle (fd_lts (fd_ise (fd_ise (fd_ise (fd_ise (fd_ise (Int32.le_refl _) ha hw3) ha3 hw198) ha198 hw269) ha269 hw359) ha359 hw368) c494) hd550.2.1)⟩, fun q => absurd rfl q⟩
                    · have heq := heq.trans (if_neg c559)
                      have heqy := heqy.trans (if_pos rfl)
                      by_cases c592 : u550.2 (0 : Int32).toNatClampNeg ≤ 9
                      · have heq := heq.trans (if_pos c592)
                        rw [heq, heqy]
                        exact ⟨ha550, (Int32.le_of_lt (fd_ltle (fd_lts (fd_ise (fd_ise (fd_ise (fd_ise (fd_ise (Int32.le_refl _) ha hw3) ha3 hw198) ha198 hw269) ha269 hw359) ha359 hw368) c494) hd550.2.1)), hp, rfl, fun q => absurd q c559, fun _ => ⟨Or.inr rfl, (fd_ltle (fd_lts (fd_ise (fd_ise (fd_ise (fd_ise (fd_ise (Int32.le_refl _) ha hw3) ha3 hw198) ha198 hw269) ha269 hw359) ha359 hw368) c494) hd550.2.1)⟩, fun q => absurd rfl q⟩
                      · have heq := heq.trans (if_neg c592)
                        rw [heq, heqy]
                        exact ⟨ha550, (Int32.le_of_lt (fd_ltle (fd_lts (fd_ise (fd_ise (fd_ise (fd_ise (fd_ise (Int32.le_refl _) ha hw3) ha3 hw198) ha198 hw269) ha269 hw359) ha359 hw368) c494) hd550.2.1)), hp, rfl, fun q => absurd q c559, fun _ => ⟨Or.inl rfl, (fd_ltle (fd_lts (fd_ise (fd_ise (fd_ise (fd_ise (fd_ise (Int32.le_refl _) ha hw3) ha3 hw198) ha198 hw269) ha269 hw359) ha359 hw368) c494) hd550.2.1)⟩, fun q => absurd rfl q⟩
                · have heq := heq.trans (if_neg c520)
                  have heqy := heqy.trans (if_neg c520)
                  by_cases c526 : c_letter u368.toNatClampNeg = 119
                  · have heq := heq.trans (if_pos c526)
                    have heqy := heqy.trans (if_pos c526)
                    obtain ⟨r550, u550, hw550⟩ : ∃ r u, (r, u) = f_X5_digits c_letters (u368 + 1) c_letter c_value (0 : Int32) (1 : Int32) := ⟨_, _, rfl⟩
                    have heq := g_let2 heq hw550
                    obtain ⟨ry550, uy550, hy550⟩ : ∃ r u, (r, u) = f_X5_digits c_letters (u368 + 1) c_letter (fun _ => 0) (0 : Int32) (1 : Int32) := ⟨_, _, rfl⟩
                    have heqy := g_let2 heqy hy550
                    obtain ⟨ay550, wy550⟩ := uy550
                    obtain ⟨e1, e2⟩ := fd_dgi hw550 hy550
                    have e1 := e1.symm
                    subst e1
                    subst e2
                    have hd550 := fd_digits (ha368.succ c494) (by decide) (by decide) hw550
                    have ha550 := hd550.1
                    by_cases c553 : r550 = 0
                    · have heq := heq.trans (if_pos c553)
                      have heqy := heqy.trans (if_pos c553)
                      rw [heq, heqy]
                      exact ⟨ha550, (Int32.le_of_lt (fd_ltle (fd_lts (fd_ise (fd_ise (fd_ise (fd_ise (fd_ise (Int32.le_refl _) ha hw3) ha3 hw198) ha198 hw269) ha269 hw359) ha359 hw368) c494) hd550.2.1)), hp, rfl, fun _ => rfl, fun q => absurd (show (-1 : Int32) = 1 from q) (by decide), fun _ => rfl⟩
                    · have heq := heq.trans (if_neg c553)
                      have heqy := heqy.trans (if_neg c553)
                      by_cases c559 : p1 = 0
                      · have heq := heq.trans (if_pos c559)
                        have heqy := heqy.trans (if_pos rfl)
                        rw [heq, heqy]
                        exact ⟨ha550, (Int32.le_of_lt (fd_ltle (fd_lts (fd_ise (fd_ise (fd_ise (fd_ise (fd_ise (Int32.le_refl _) ha hw3) ha3 hw198) ha198 hw269) ha269 hw359) ha359 hw368) c494) hd550.2.1)), hp, rfl, fun _ => rfl, fun _ => ⟨Or.inr rfl, (fd_ltle (fd_lts (fd_ise (fd_ise (fd_ise (fd_ise (fd_ise (Int32.le_refl _) ha hw3) ha3 hw198) ha198 hw269) ha269 hw359) ha359 hw368) c494) hd550.2.1)⟩, fun q => absurd rfl q⟩
                      · have heq := heq.trans (if_neg c559)
                        have heqy := heqy.trans (if_pos rfl)
                        by_cases c592 : u550.2 (0 : Int32).toNatClampNeg ≤ 3
                        · have heq := heq.trans (if_pos c592)
                          rw [heq, heqy]
                          exact ⟨ha550, (Int32.le_of_lt (fd_ltle (fd_lts (fd_ise (fd_ise (fd_ise (fd_ise (fd_ise (Int32.le_refl _) ha hw3) ha3 hw198) ha198 hw269) ha269 hw359) ha359 hw368) c494) hd550.2.1)), hp, rfl, fun q => absurd q c559, fun _ => ⟨Or.inr rfl, (fd_ltle (fd_lts (fd_ise (fd_ise (fd_ise (fd_ise (fd_ise (Int32.le_refl _) ha hw3) ha3 hw198) ha198 hw269) ha269 hw359) ha359 hw368) c494) hd550.2.1)⟩, fun q => absurd rfl q⟩
                        · have heq := heq.trans (if_neg c592)
                          rw [heq, heqy]
                          exact ⟨ha550, (Int32.le_of_lt (fd_ltle (fd_lts (fd_ise (fd_ise (fd_ise (fd_ise (fd_ise (Int32.le_refl _) ha hw3) ha3 hw198) ha198 hw269) ha269 hw359) ha359 hw368) c494) hd550.2.1)), hp, rfl, fun q => absurd q c559, fun _ => ⟨Or.inl rfl, (fd_ltle (fd_lts (fd_ise (fd_ise (fd_ise (fd_ise (fd_ise (Int32.le_refl _) ha hw3) ha3 hw198) ha198 hw269) ha269 hw359) ha359 hw368) c494) hd550.2.1)⟩, fun q => absurd rfl q⟩
                  · have heq := heq.trans (if_neg c526)
                    have heqy := heqy.trans (if_neg c526)
                    by_cases c532 : c_letter u368.toNatClampNeg = 100
                    · have heq := heq.trans (if_pos c532)
                      have heqy := heqy.trans (if_pos c532)
                      obtain ⟨r550, u550, hw550⟩ : ∃ r u, (r, u) = f_X5_digits c_letters (u368 + 1) c_letter c_value (0 : Int32) (1 : Int32) := ⟨_, _, rfl⟩
                      have heq := g_let2 heq hw550
                      obtain ⟨ry550, uy550, hy550⟩ : ∃ r u, (r, u) = f_X5_digits c_letters (u368 + 1) c_letter (fun _ => 0) (0 : Int32) (1 : Int32) := ⟨_, _, rfl⟩
                      have heqy := g_let2 heqy hy550
                      obtain ⟨ay550, wy550⟩ := uy550
                      obtain ⟨e1, e2⟩ := fd_dgi hw550 hy550
                      have e1 := e1.symm
                      subst e1
                      subst e2
                      have hd550 := fd_digits (ha368.succ c494) (by decide) (by decide) hw550
                      have ha550 := hd550.1
                      by_cases c553 : r550 = 0
                      · have heq := heq.trans (if_pos c553)
                        have heqy := heqy.trans (if_pos c553)
                        rw [heq, heqy]
                        exact ⟨ha550, (Int32.le_of_lt (fd_ltle (fd_lts (fd_ise (fd_ise (fd_ise (fd_ise (fd_ise (Int32.le_refl _) ha hw3) ha3 hw198) ha198 hw269) ha269 hw359) ha359 hw368) c494) hd550.2.1)), hp, rfl, fun _ => rfl, fun q => absurd (show (-1 : Int32) = 1 from q) (by decide), fun _ => rfl⟩
                      · have heq := heq.trans (if_neg c553)
                        have heqy := heqy.trans (if_neg c553)
                        by_cases c559 : p1 = 0
                        · have heq := heq.trans (if_pos c559)
                          have heqy := heqy.trans (if_pos rfl)
                          rw [heq, heqy]
                          exact ⟨ha550, (Int32.le_of_lt (fd_ltle (fd_lts (fd_ise (fd_ise (fd_ise (fd_ise (fd_ise (Int32.le_refl _) ha hw3) ha3 hw198) ha198 hw269) ha269 hw359) ha359 hw368) c494) hd550.2.1)), hp, rfl, fun _ => rfl, fun _ => ⟨Or.inr rfl, (fd_ltle (fd_lts (fd_ise (fd_ise (fd_ise (fd_ise (fd_ise (Int32.le_refl _) ha hw3) ha3 hw198) ha198 hw269) ha269 hw359) ha359 hw368) c494) hd550.2.1)⟩, fun q => absurd rfl q⟩
                        · have heq := heq.trans (if_neg c559)
                          have heqy := heqy.trans (if_pos rfl)
                          by_cases c592 : u550.2 (0 : Int32).toNatClampNeg ≤ 9
                          · have heq := heq.trans (if_pos c592)
                            rw [heq, heqy]
                            exact ⟨ha550, (Int32.le_of_lt (fd_ltle (fd_lts (fd_ise (fd_ise (fd_ise (fd_ise (fd_ise (Int32.le_refl _) ha hw3) ha3 hw198) ha198 hw269) ha269 hw359) ha359 hw368) c494) hd550.2.1)), hp, rfl, fun q => absurd q c559, fun _ => ⟨Or.inr rfl, (fd_ltle (fd_lts (fd_ise (fd_ise (fd_ise (fd_ise (fd_ise (Int32.le_refl _) ha hw3) ha3 hw198) ha198 hw269) ha269 hw359) ha359 hw368) c494) hd550.2.1)⟩, fun q => absurd rfl q⟩
                          · have heq := heq.trans (if_neg c592)
                            rw [heq, heqy]
                            exact ⟨ha550, (Int32.le_of_lt (fd_ltle (fd_lts (fd_ise (fd_ise (fd_ise (fd_ise (fd_ise (Int32.le_refl _) ha hw3) ha3 hw198) ha198 hw269) ha269 hw359) ha359 hw368) c494) hd550.2.1)), hp, rfl, fun q => absurd q c559, fun _ => ⟨Or.inl rfl, (fd_ltle (fd_lts (fd_ise (fd_ise (fd_ise (fd_ise (fd_ise (Int32.le_refl _) ha hw3) ha3 hw198) ha198 hw269) ha269 hw359) ha359 hw368) c494) hd550.2.1)⟩, fun q => absurd rfl q⟩
                    · have heq := heq.trans (if_neg c532)
                      have heqy := heqy.trans (if_neg c532)
                      rw [heq, heqy]
                      exact ⟨ha368, (fd_ise (fd_ise (fd_ise (fd_ise (fd_ise (Int32.le_refl _) ha hw3) ha3 hw198) ha198 hw269) ha269 hw359) ha359 hw368), hp, rfl, fun _ => rfl, fun q => absurd (show (-1 : Int32) = 1 from q) (by decide), fun _ => rfl⟩
          · have heq := heq.trans (if_neg c371)
            have heqy := heqy.trans (if_neg c371)
            by_cases c387 : c_letter (u368 - 1).toNatClampNeg = 102
            · have heq := heq.trans (if_pos c387)
              have heqy := heqy.trans (if_pos c387)
              obtain ⟨r399, u399, hw399⟩ : ∃ r u, (r, u) = f_X5_digits c_letters u368 c_letter c_value (0 : Int32) (2 : Int32) := ⟨_, _, rfl⟩
              have heq := g_let2 heq hw399
              obtain ⟨ry399, uy399, hy399⟩ : ∃ r u, (r, u) = f_X5_digits c_letters u368 c_letter (fun _ => 0) (0 : Int32) (2 : Int32) := ⟨_, _, rfl⟩
              have heqy := g_let2 heqy hy399
              obtain ⟨ay399, wy399⟩ := uy399
              obtain ⟨e1, e2⟩ := fd_dgi hw399 hy399
              have e1 := e1.symm
              subst e1
              subst e2
              have hd399 := fd_digits ha368 (by decide) (by decide) hw399
              have ha399 := hd399.1
              by_cases c402 : r399 = 0
              · have heq := heq.trans (if_pos c402)
                have heqy := heqy.trans (if_pos c402)
                rw [heq, heqy]
                exact ⟨ha399, (Int32.le_of_lt (fd_ltle (fd_isl (fd_ise (fd_ise (fd_ise (fd_ise (Int32.le_refl _) ha hw3) ha3 hw198) ha198 hw269) ha269 hw359) ha359 hw368 c371) hd399.2.1)), hp, rfl, fun _ => rfl, fun q => absurd (show (-1 : Int32) = 1 from q) (by decide), fun _ => rfl⟩
              · have heq := heq.trans (if_neg c402)
                have heqy := heqy.trans (if_neg c402)
                by_cases c408 : p1 = 0
                · have heq := heq.trans (if_pos c408)
                  have heqy := heqy.trans (if_pos rfl)
                  rw [heq, heqy]
                  exact ⟨ha399, (Int32.le_of_lt (fd_ltle (fd_isl (fd_ise (fd_ise (fd_ise (fd_ise (Int32.le_refl _) ha hw3) ha3 hw198) ha198 hw269) ha269 hw359) ha359 hw368 c371) hd399.2.1)), hp, rfl, fun _ => rfl, fun _ => ⟨Or.inr rfl, (fd_ltle (fd_isl (fd_ise (fd_ise (fd_ise (fd_ise (Int32.le_refl _) ha hw3) ha3 hw198) ha198 hw269) ha269 hw359) ha359 hw368 c371) hd399.2.1)⟩, fun q => absurd rfl q⟩
                · have heq := heq.trans (if_neg c408)
                  have heqy := heqy.trans (if_pos rfl)
                  by_cases c420 : 1 < u399.2 (0 : Int32).toNatClampNeg
                  · have heq := heq.trans (if_pos c420)
                    rw [heq, heqy]
                    exact ⟨ha399, (Int32.le_of_lt (fd_ltle (fd_isl (fd_ise (fd_ise (fd_ise (fd_ise (Int32.le_refl _) ha hw3) ha3 hw198) ha198 hw269) ha269 hw359) ha359 hw368 c371) hd399.2.1)), hp, rfl, fun q => absurd q c408, fun _ => ⟨Or.inl rfl, (fd_ltle (fd_isl (fd_ise (fd_ise (fd_ise (fd_ise (Int32.le_refl _) ha hw3) ha3 hw198) ha198 hw269) ha269 hw359) ha359 hw368 c371) hd399.2.1)⟩, fun q => absurd rfl q⟩
                  · have heq := heq.trans (if_neg c420)
                    by_cases c438 : u399.2 (1 : Int32).toNatClampNeg ≤ 5
                    · have heq := heq.trans (if_pos c438)
                      rw [heq, heqy]
                      exact ⟨ha399, (Int32.le_of_lt (fd_ltle (fd_isl (fd_ise (fd_ise (fd_ise (fd_ise (Int32.le_refl _) ha hw3) ha3 hw198) ha198 hw269) ha269 hw359) ha359 hw368 c371) hd399.2.1)), hp, rfl, fun q => absurd q c408, fun _ => ⟨Or.inr rfl, (fd_ltle (fd_isl (fd_ise (fd_ise (fd_ise (fd_ise (Int32.le_refl _) ha hw3) ha3 hw198) ha198 hw269) ha269 hw359) ha359 hw368 c371) hd399.2.1)⟩, fun q => absurd rfl q⟩
                    · have heq := heq.trans (if_neg c438)
                      rw [heq, heqy]
                      exact ⟨ha399, (Int32.le_of_lt (fd_ltle (fd_isl (fd_ise (fd_ise (fd_ise (fd_ise (Int32.le_refl _) ha hw3) ha3 hw198) ha198 hw269) ha269 hw359) ha359 hw368 c371) hd399.2.1)), hp, rfl, fun q => absurd q c408, fun _ => ⟨Or.inl rfl, (fd_ltle (fd_isl (fd_ise (fd_ise (fd_ise (fd_ise (Int32.le_refl _) ha hw3) ha3 hw198) ha198 hw269) ha269 hw359) ha359 hw368 c371) hd399.2.1)⟩, fun q => absurd rfl q⟩
            · have heq := heq.trans (if_neg c387)
              have heqy := heqy.trans (if_neg c387)
              obtain ⟨r399, u399, hw399⟩ : ∃ r u, (r, u) = f_X5_digits c_letters u368 c_letter c_value (0 : Int32) (2 : Int32) := ⟨_, _, rfl⟩
              have heq := g_let2 heq hw399
              obtain ⟨ry399, uy399, hy399⟩ : ∃ r u, (r, u) = f_X5_digits c_letters u368 c_letter (fun _ => 0) (0 : Int32) (2 : Int32) := ⟨_, _, rfl⟩
              have heqy := g_let2 heqy hy399
              obtain ⟨ay399, wy399⟩ := uy399
              obtain ⟨e1, e2⟩ := fd_dgi hw399 hy399
              have e1 := e1.symm
              subst e1
              subst e2
              have hd399 := fd_digits ha368 (by decide) (by decide) hw399
              have ha399 := hd399.1
              by_cases c402 : r399 = 0
              · have heq := heq.trans (if_pos c402)
                have heqy := heqy.trans (if_pos c402)
                rw [heq, heqy]
                exact ⟨ha399, (Int32.le_of_lt (fd_ltle (fd_isl (fd_ise (fd_ise (fd_ise (fd_ise (Int32.le_refl _) ha hw3) ha3 hw198) ha198 hw269) ha269 hw359) ha359 hw368 c371) hd399.2.1)), hp, rfl, fun _ => rfl, fun q => absurd (show (-1 : Int32) = 1 from q) (by decide), fun _ => rfl⟩
              · have heq := heq.trans (if_neg c402)
                have heqy := heqy.trans (if_neg c402)
                by_cases c408 : p1 = 0
                · have heq := heq.trans (if_pos c408)
                  have heqy := heqy.trans (if_pos rfl)
                  rw [heq, heqy]
                  exact ⟨ha399, (Int32.le_of_lt (fd_ltle (fd_isl (fd_ise (fd_ise (fd_ise (fd_ise (Int32.le_refl _) ha hw3) ha3 hw198) ha198 hw269) ha269 hw359) ha359 hw368 c371) hd399.2.1)), hp, rfl, fun _ => rfl, fun _ => ⟨Or.inr rfl, (fd_ltle (fd_isl (fd_ise (fd_ise (fd_ise (fd_ise (Int32.le_refl _) ha hw3) ha3 hw198) ha198 hw269) ha269 hw359) ha359 hw368 c371) hd399.2.1)⟩, fun q => absurd rfl q⟩
                · have heq := heq.trans (if_neg c408)
                  have heqy := heqy.trans (if_pos rfl)
                  by_cases c420 : 1 < u399.2 (0 : Int32).toNatClampNeg
                  · have heq := heq.trans (if_pos c420)
                    rw [heq, heqy]
                    exact ⟨ha399, (Int32.le_of_lt (fd_ltle (fd_isl (fd_ise (fd_ise (fd_ise (fd_ise (Int32.le_refl _) ha hw3) ha3 hw198) ha198 hw269) ha269 hw359) ha359 hw368 c371) hd399.2.1)), hp, rfl, fun q => absurd q c408, fun _ => ⟨Or.inl rfl, (fd_ltle (fd_isl (fd_ise (fd_ise (fd_ise (fd_ise (Int32.le_refl _) ha hw3) ha3 hw198) ha198 hw269) ha269 hw359) ha359 hw368 c371) hd399.2.1)⟩, fun q => absurd rfl q⟩
                  · have heq := heq.trans (if_neg c420)
                    by_cases c438 : u399.2 (1 : Int32).toNatClampNeg ≤ 2
                    · have heq := heq.trans (if_pos c438)
                      rw [heq, heqy]
                      exact ⟨ha399, (Int32.le_of_lt (fd_ltle (fd_isl (fd_ise (fd_ise (fd_ise (fd_ise (Int32.le_refl _) ha hw3) ha3 hw198) ha198 hw269) ha269 hw359) ha359 hw368 c371) hd399.2.1)), hp, rfl, fun q => absurd q c408, fun _ => ⟨Or.inr rfl, (fd_ltle (fd_isl (fd_ise (fd_ise (fd_ise (fd_ise (Int32.le_refl _) ha hw3) ha3 hw198) ha198 hw269) ha269 hw359) ha359 hw368 c371) hd399.2.1)⟩, fun q => absurd rfl q⟩
                    · have heq := heq.trans (if_neg c438)
                      rw [heq, heqy]
                      exact ⟨ha399, (Int32.le_of_lt (fd_ltle (fd_isl (fd_ise (fd_ise (fd_ise (fd_ise (Int32.le_refl _) ha hw3) ha3 hw198) ha198 hw269) ha269 hw359) ha359 hw368 c371) hd399.2.1)), hp, rfl, fun q => absurd q c408, fun _ => ⟨Or.inl rfl, (fd_ltle (fd_isl (fd_ise (fd_ise (fd_ise (fd_ise (Int32.le_refl _) ha hw3) ha3 hw198) ha198 hw269) ha269 hw359) ha359 hw368 c371) hd399.2.1)⟩, fun q => absurd rfl q⟩
        · have heq := heq.trans (if_neg c362)
          have heqy := heqy.trans (if_neg c362)
          by_cases c387 : c_letter (u359 - 1).toNatClampNeg = 102
          · have heq := heq.trans (if_pos c387)
            have heqy := heqy.trans (if_pos c387)
            obtain ⟨r399, u399, hw399⟩ : ∃ r u, (r, u) = f_X5_digits c_letters u359 c_letter c_value (0 : Int32) (2 : Int32) := ⟨_, _, rfl⟩
            have heq := g_let2 heq hw399
            obtain ⟨ry399, uy399, hy399⟩ : ∃ r u, (r, u) = f_X5_digits c_letters u359 c_letter (fun _ => 0) (0 : Int32) (2 : Int32) := ⟨_, _, rfl⟩
            have heqy := g_let2 heqy hy399
            obtain ⟨ay399, wy399⟩ := uy399
            obtain ⟨e1, e2⟩ := fd_dgi hw399 hy399
            have e1 := e1.symm
            subst e1
            subst e2
            have hd399 := fd_digits ha359 (by decide) (by decide) hw399
            have ha399 := hd399.1
            by_cases c402 : r399 = 0
            · have heq := heq.trans (if_pos c402)
              have heqy := heqy.trans (if_pos c402)
              rw [heq, heqy]
              exact ⟨ha399, (Int32.le_of_lt (fd_ltle (fd_isl (fd_ise (fd_ise (fd_ise (Int32.le_refl _) ha hw3) ha3 hw198) ha198 hw269) ha269 hw359 c362) hd399.2.1)), hp, rfl, fun _ => rfl, fun q => absurd (show (-1 : Int32) = 1 from q) (by decide), fun _ => rfl⟩
            · have heq := heq.trans (if_neg c402)
              have heqy := heqy.trans (if_neg c402)
              by_cases c408 : p1 = 0
              · have heq := heq.trans (if_pos c408)
                have heqy := heqy.trans (if_pos rfl)
                rw [heq, heqy]
                exact ⟨ha399, (Int32.le_of_lt (fd_ltle (fd_isl (fd_ise (fd_ise (fd_ise (Int32.le_refl _) ha hw3) ha3 hw198) ha198 hw269) ha269 hw359 c362) hd399.2.1)), hp, rfl, fun _ => rfl, fun _ => ⟨Or.inr rfl, (fd_ltle (fd_isl (fd_ise (fd_ise (fd_ise (Int32.le_refl _) ha hw3) ha3 hw198) ha198 hw269) ha269 hw359 c362) hd399.2.1)⟩, fun q => absurd rfl q⟩
              · have heq := heq.trans (if_neg c408)
                have heqy := heqy.trans (if_pos rfl)
                by_cases c420 : 1 < u399.2 (0 : Int32).toNatClampNeg
                · have heq := heq.trans (if_pos c420)
                  rw [heq, heqy]
                  exact ⟨ha399, (Int32.le_of_lt (fd_ltle (fd_isl (fd_ise (fd_ise (fd_ise (Int32.le_refl _) ha hw3) ha3 hw198) ha198 hw269) ha269 hw359 c362) hd399.2.1)), hp, rfl, fun q => absurd q c408, fun _ => ⟨Or.inl rfl, (fd_ltle (fd_isl (fd_ise (fd_ise (fd_ise (Int32.le_refl _) ha hw3) ha3 hw198) ha198 hw269) ha269 hw359 c362) hd399.2.1)⟩, fun q => absurd rfl q⟩
                · have heq := heq.trans (if_neg c420)
                  by_cases c438 : u399.2 (1 : Int32).toNatClampNeg ≤ 5
                  · have heq := heq.trans (if_pos c438)
                    rw [heq, heqy]
                    exact ⟨ha399, (Int32.le_of_lt (fd_ltle (fd_isl (fd_ise (fd_ise (fd_ise (Int32.le_refl _) ha hw3) ha3 hw198) ha198 hw269) ha269 hw359 c362) hd399.2.1)), hp, rfl, fun q => absurd q c408, fun _ => ⟨Or.inr rfl, (fd_ltle (fd_isl (fd_ise (fd_ise (fd_ise (Int32.le_refl _) ha hw3) ha3 hw198) ha198 hw269) ha269 hw359 c362) hd399.2.1)⟩, fun q => absurd rfl q⟩
                  · have heq := heq.trans (if_neg c438)
                    rw [heq, heqy]
                    exact ⟨ha399, (Int32.le_of_lt (fd_ltle (fd_isl (fd_ise (fd_ise (fd_ise (Int32.le_refl _) ha hw3) ha3 hw198) ha198 hw269) ha269 hw359 c362) hd399.2.1)), hp, rfl, fun q => absurd q c408, fun _ => ⟨Or.inl rfl, (fd_ltle (fd_isl (fd_ise (fd_ise (fd_ise (Int32.le_refl _) ha hw3) ha3 hw198) ha198 hw269) ha269 hw359 c362) hd399.2.1)⟩, fun q => absurd rfl q⟩
          · have heq := heq.trans (if_neg c387)
            have heqy := heqy.trans (if_neg c387)
            obtain ⟨r399, u399, hw399⟩ : ∃ r u, (r, u) = f_X5_digits c_letters u359 c_letter c_value (0 : Int32) (2 : Int32) := ⟨_, _, rfl⟩
            have heq := g_let2 heq hw399
            obtain ⟨ry399, uy399, hy399⟩ : ∃ r u, (r, u) = f_X5_digits c_letters u359 c_letter (fun _ => 0) (0 : Int32) (2 : Int32) := ⟨_, _, rfl⟩
            have heqy := g_let2 heqy hy399
            obtain ⟨ay399, wy399⟩ := uy399
            obtain ⟨e1, e2⟩ := fd_dgi hw399 hy399
            have e1 := e1.symm
            subst e1
            subst e2
            have hd399 := fd_digits ha359 (by decide) (by decide) hw399
            have ha399 := hd399.1
            by_cases c402 : r399 = 0
            · have heq := heq.trans (if_pos c402)
              have heqy := heqy.trans (if_pos c402)
              rw [heq, heqy]
              exact ⟨ha399, (Int32.le_of_lt (fd_ltle (fd_isl (fd_ise (fd_ise (fd_ise (Int32.le_refl _) ha hw3) ha3 hw198) ha198 hw269) ha269 hw359 c362) hd399.2.1)), hp, rfl, fun _ => rfl, fun q => absurd (show (-1 : Int32) = 1 from q) (by decide), fun _ => rfl⟩
            · have heq := heq.trans (if_neg c402)
              have heqy := heqy.trans (if_neg c402)
              by_cases c408 : p1 = 0
              · have heq := heq.trans (if_pos c408)
                have heqy := heqy.trans (if_pos rfl)
                rw [heq, heqy]
                exact ⟨ha399, (Int32.le_of_lt (fd_ltle (fd_isl (fd_ise (fd_ise (fd_ise (Int32.le_refl _) ha hw3) ha3 hw198) ha198 hw269) ha269 hw359 c362) hd399.2.1)), hp, rfl, fun _ => rfl, fun _ => ⟨Or.inr rfl, (fd_ltle (fd_isl (fd_ise (fd_ise (fd_ise (Int32.le_refl _) ha hw3) ha3 hw198) ha198 hw269) ha269 hw359 c362) hd399.2.1)⟩, fun q => absurd rfl q⟩
              · have heq := heq.trans (if_neg c408)
                have heqy := heqy.trans (if_pos rfl)
                by_cases c420 : 1 < u399.2 (0 : Int32).toNatClampNeg
                · have heq := heq.trans (if_pos c420)
                  rw [heq, heqy]
                  exact ⟨ha399, (Int32.le_of_lt (fd_ltle (fd_isl (fd_ise (fd_ise (fd_ise (Int32.le_refl _) ha hw3) ha3 hw198) ha198 hw269) ha269 hw359 c362) hd399.2.1)), hp, rfl, fun q => absurd q c408, fun _ => ⟨Or.inl rfl, (fd_ltle (fd_isl (fd_ise (fd_ise (fd_ise (Int32.le_refl _) ha hw3) ha3 hw198) ha198 hw269) ha269 hw359 c362) hd399.2.1)⟩, fun q => absurd rfl q⟩
                · have heq := heq.trans (if_neg c420)
                  by_cases c438 : u399.2 (1 : Int32).toNatClampNeg ≤ 2
                  · have heq := heq.trans (if_pos c438)
                    rw [heq, heqy]
                    exact ⟨ha399, (Int32.le_of_lt (fd_ltle (fd_isl (fd_ise (fd_ise (fd_ise (Int32.le_refl _) ha hw3) ha3 hw198) ha198 hw269) ha269 hw359 c362) hd399.2.1)), hp, rfl, fun q => absurd q c408, fun _ => ⟨Or.inr rfl, (fd_ltle (fd_isl (fd_ise (fd_ise (fd_ise (Int32.le_refl _) ha hw3) ha3 hw198) ha198 hw269) ha269 hw359 c362) hd399.2.1)⟩, fun q => absurd rfl q⟩
                  · have heq := heq.trans (if_neg c438)
                    rw [heq, heqy]
                    exact ⟨ha399, (Int32.le_of_lt (fd_ltle (fd_isl (fd_ise (fd_ise (fd_ise (Int32.le_refl _) ha hw3) ha3 hw198) ha198 hw269) ha269 hw359 c362) hd399.2.1)), hp, rfl, fun q => absurd q c408, fun _ => ⟨Or.inl rfl, (fd_ltle (fd_isl (fd_ise (fd_ise (fd_ise (Int32.le_refl _) ha hw3) ha3 hw198) ha198 hw269) ha269 hw359 c362) hd399.2.1)⟩, fun q => absurd rfl q⟩
      · have heq := heq.trans (if_neg c272)
        have heqy := heqy.trans (if_neg c272)
        obtain ⟨r278, u278, hw278⟩ : ∃ r u, (r, u) = f_X5_is c_letters u269 c_letter (45 : Int32) := ⟨_, _, rfl⟩
        have heq := g_let2 heq hw278
        have heqy := g_let2 heqy hw278
        have hd278 := fd_is ha269 hw278
        have ha278 := hd278.1
        by_cases c283 : r278 = 0
        · have heq := heq.trans (if_pos c283)
          have heqy := heqy.trans (if_pos c283)
          obtain ⟨r289, u289, hw289⟩ : ∃ r u, (r, u) = f_X5_is c_letters u278 c_letter (43 : Int32) := ⟨_, _, rfl⟩
          have heq := g_let2 heq hw289
          have heqy := g_let2 heqy hw289
          have hd289 := fd_is ha278 hw289
          have ha289 := hd289.1
          by_cases c292 : r289 = 0
          · have heq := heq.trans (if_pos c292)
            have heqy := heqy.trans (if_pos c292)
            rw [heq, heqy]
            exact ⟨ha289, (Int32.le_of_lt (fd_ise2 (fd_ise2 (fd_isl (fd_ise (fd_ise (Int32.le_refl _) ha hw3) ha3 hw198) ha198 hw269 c272) ha269 hw278) ha278 hw289)), hp, rfl, fun _ => rfl, fun q => absurd (show (-1 : Int32) = 1 from q) (by decide), fun _ => rfl⟩
          · have heq := heq.trans (if_neg c292)
            have heqy := heqy.trans (if_neg c292)
            obtain ⟨r298, u298, hw298⟩ : ∃ r u, (r, u) = f_X5_digits c_letters u289 c_letter c_value (0 : Int32) (1 : Int32) := ⟨_, _, rfl⟩
            have heq := g_let2 heq hw298
            obtain ⟨ry298, uy298, hy298⟩ : ∃ r u, (r, u) = f_X5_digits c_letters u289 c_letter (fun _ => 0) (0 : Int32) (1 : Int32) := ⟨_, _, rfl⟩
            have heqy := g_let2 heqy hy298
            obtain ⟨ay298, wy298⟩ := uy298
            obtain ⟨e1, e2⟩ := fd_dgi hw298 hy298
            have e1 := e1.symm
            subst e1
            subst e2
            have hd298 := fd_digits ha289 (by decide) (by decide) hw298
            have ha298 := hd298.1
            by_cases c301 : r298 = 0
            · have heq := heq.trans (if_pos c301)
              have heqy := heqy.trans (if_pos c301)
              rw [heq, heqy]
              exact ⟨ha298, (Int32.le_of_lt (fd_ltle (fd_isl (Int32.le_of_lt (fd_ise2 (fd_isl (fd_ise (fd_ise (Int32.le_refl _) ha hw3) ha3 hw198) ha198 hw269 c272) ha269 hw278)) ha278 hw289 c292) hd298.2.1)), hp, rfl, fun _ => rfl, fun q => absurd (show (-1 : Int32) = 1 from q) (by decide), fun _ => rfl⟩
            · have heq := heq.trans (if_neg c301)
              have heqy := heqy.trans (if_neg c301)
              by_cases c307 : p1 = 0
              · have heq := heq.trans (if_pos c307)
                have heqy := heqy.trans (if_pos rfl)
                rw [heq, heqy]
                exact ⟨ha298, (Int32.le_of_lt (fd_ltle (fd_isl (Int32.le_of_lt (fd_ise2 (fd_isl (fd_ise (fd_ise (Int32.le_refl _) ha hw3) ha3 hw198) ha198 hw269 c272) ha269 hw278)) ha278 hw289 c292) hd298.2.1)), hp, rfl, fun _ => rfl, fun _ => ⟨Or.inr rfl, (fd_ltle (fd_isl (Int32.le_of_lt (fd_ise2 (fd_isl (fd_ise (fd_ise (Int32.le_refl _) ha hw3) ha3 hw198) ha198 hw269 c272) ha269 hw278)) ha278 hw289 c292) hd298.2.1)⟩, fun q => absurd rfl q⟩
              · have heq := heq.trans (if_neg c307)
                have heqy := heqy.trans (if_pos rfl)
                by_cases c320 : u298.2 (0 : Int32).toNatClampNeg ≤ 6
                · have heq := heq.trans (if_pos c320)
                  rw [heq, heqy]
                  exact ⟨ha298, (Int32.le_of_lt (fd_ltle (fd_isl (Int32.le_of_lt (fd_ise2 (fd_isl (fd_ise (fd_ise (Int32.le_refl _) ha hw3) ha3 hw198) ha198 hw269 c272) ha269 hw278)) ha278 hw289 c292) hd298.2.1)), hp, rfl, fun q => absurd q c307, fun _ => ⟨Or.inr rfl, (fd_ltle (fd_isl (Int32.le_of_lt (fd_ise2 (fd_isl (fd_ise (fd_ise (Int32.le_refl _) ha hw3) ha3 hw198) ha198 hw269 c272) ha269 hw278)) ha278 hw289 c292) hd298.2.1)⟩, fun q => absurd rfl q⟩
                · have heq := heq.trans (if_neg c320)
                  rw [heq, heqy]
                  exact ⟨ha298, (Int32.le_of_lt (fd_ltle (fd_isl (Int32.le_of_lt (fd_ise2 (fd_isl (fd_ise (fd_ise (Int32.le_refl _) ha hw3) ha3 hw198) ha198 hw269 c272) ha269 hw278)) ha278 hw289 c292) hd298.2.1)), hp, rfl, fun q => absurd q c307, fun _ => ⟨Or.inl rfl, (fd_ltle (fd_isl (Int32.le_of_lt (fd_ise2 (fd_isl (fd_ise (fd_ise (Int32.le_refl _) ha hw3) ha3 hw198) ha198 hw269 c272) ha269 hw278)) ha278 hw289 c292) hd298.2.1)⟩, fun q => absurd rfl q⟩
        · have heq := heq.trans (if_neg c283)
          have heqy := heqy.trans (if_neg c283)
          obtain ⟨r298, u298, hw298⟩ : ∃ r u, (r, u) = f_X5_digits c_letters u278 c_letter c_value (0 : Int32) (1 : Int32) := ⟨_, _, rfl⟩
          have heq := g_let2 heq hw298
          obtain ⟨ry298, uy298, hy298⟩ : ∃ r u, (r, u) = f_X5_digits c_letters u278 c_letter (fun _ => 0) (0 : Int32) (1 : Int32) := ⟨_, _, rfl⟩
          have heqy := g_let2 heqy hy298
          obtain ⟨ay298, wy298⟩ := uy298
          obtain ⟨e1, e2⟩ := fd_dgi hw298 hy298
          have e1 := e1.symm
          subst e1
          subst e2
          have hd298 := fd_digits ha278 (by decide) (by decide) hw298
          have ha298 := hd298.1
          by_cases c301 : r298 = 0
          · have heq := heq.trans (if_pos c301)
            have heqy := heqy.trans (if_pos c301)
            rw [heq, heqy]
            exact ⟨ha298, (Int32.le_of_lt (fd_ltle (fd_isl (Int32.le_of_lt (fd_isl (fd_ise (fd_ise (Int32.le_refl _) ha hw3) ha3 hw198) ha198 hw269 c272)) ha269 hw278 c283) hd298.2.1)), hp, rfl, fun _ => rfl, fun q => absurd (show (-1 : Int32) = 1 from q) (by decide), fun _ => rfl⟩
          · have heq := heq.trans (if_neg c301)
            have heqy := heqy.trans (if_neg c301)
            by_cases c307 : p1 = 0
            · have heq := heq.trans (if_pos c307)
              have heqy := heqy.trans (if_pos rfl)
              rw [heq, heqy]
              exact ⟨ha298, (Int32.le_of_lt (fd_ltle (fd_isl (Int32.le_of_lt (fd_isl (fd_ise (fd_ise (Int32.le_refl _) ha hw3) ha3 hw198) ha198 hw269 c272)) ha269 hw278 c283) hd298.2.1)), hp, rfl, fun _ => rfl, fun _ => ⟨Or.inr rfl, (fd_ltle (fd_isl (Int32.le_of_lt (fd_isl (fd_ise (fd_ise (Int32.le_refl _) ha hw3) ha3 hw198) ha198 hw269 c272)) ha269 hw278 c283) hd298.2.1)⟩, fun q => absurd rfl q⟩
            · have heq := heq.trans (if_neg c307)
              have heqy := heqy.trans (if_pos rfl)
              by_cases c320 : u298.2 (0 : Int32).toNatClampNeg ≤ 6
              · have heq := heq.trans (if_pos c320)
                rw [heq, heqy]
                exact ⟨ha298, (Int32.le_of_lt (fd_ltle (fd_isl (Int32.le_of_lt (fd_isl (fd_ise (fd_ise (Int32.le_refl _) ha hw3) ha3 hw198) ha198 hw269 c272)) ha269 hw278 c283) hd298.2.1)), hp, rfl, fun q => absurd q c307, fun _ => ⟨Or.inr rfl, (fd_ltle (fd_isl (Int32.le_of_lt (fd_isl (fd_ise (fd_ise (Int32.le_refl _) ha hw3) ha3 hw198) ha198 hw269 c272)) ha269 hw278 c283) hd298.2.1)⟩, fun q => absurd rfl q⟩
              · have heq := heq.trans (if_neg c320)
                rw [heq, heqy]
                exact ⟨ha298, (Int32.le_of_lt (fd_ltle (fd_isl (Int32.le_of_lt (fd_isl (fd_ise (fd_ise (Int32.le_refl _) ha hw3) ha3 hw198) ha198 hw269 c272)) ha269 hw278 c283) hd298.2.1)), hp, rfl, fun q => absurd q c307, fun _ => ⟨Or.inl rfl, (fd_ltle (fd_isl (Int32.le_of_lt (fd_isl (fd_ise (fd_ise (Int32.le_refl _) ha hw3) ha3 hw198) ha198 hw269 c272)) ha269 hw278 c283) hd298.2.1)⟩, fun q => absurd rfl q⟩
    · have heq := heq.trans (if_neg c201)
      have heqy := heqy.trans (if_neg c201)
      obtain ⟨r207, u207, hw207⟩ : ∃ r u, (r, u) = f_X5_digits c_letters u198 c_letter c_value (0 : Int32) (2 : Int32) := ⟨_, _, rfl⟩
      have heq := g_let2 heq hw207
      obtain ⟨ry207, uy207, hy207⟩ : ∃ r u, (r, u) = f_X5_digits c_letters u198 c_letter (fun _ => 0) (0 : Int32) (2 : Int32) := ⟨_, _, rfl⟩
      have heqy := g_let2 heqy hy207
      obtain ⟨ay207, wy207⟩ := uy207
      obtain ⟨e1, e2⟩ := fd_dgi hw207 hy207
      have e1 := e1.symm
      subst e1
      subst e2
      have hd207 := fd_digits ha198 (by decide) (by decide) hw207
      have ha207 := hd207.1
      by_cases c210 : r207 = 0
      · have heq := heq.trans (if_pos c210)
        have heqy := heqy.trans (if_pos c210)
        rw [heq, heqy]
        exact ⟨ha207, (Int32.le_of_lt (fd_ltle (fd_isl (fd_ise (Int32.le_refl _) ha hw3) ha3 hw198 c201) hd207.2.1)), hp, rfl, fun _ => rfl, fun q => absurd (show (-1 : Int32) = 1 from q) (by decide), fun _ => rfl⟩
      · have heq := heq.trans (if_neg c210)
        have heqy := heqy.trans (if_neg c210)
        by_cases c216 : p1 = 0
        · have heq := heq.trans (if_pos c216)
          have heqy := heqy.trans (if_pos rfl)
          rw [heq, heqy]
          exact ⟨ha207, (Int32.le_of_lt (fd_ltle (fd_isl (fd_ise (Int32.le_refl _) ha hw3) ha3 hw198 c201) hd207.2.1)), hp, rfl, fun _ => rfl, fun _ => ⟨Or.inr rfl, (fd_ltle (fd_isl (fd_ise (Int32.le_refl _) ha hw3) ha3 hw198 c201) hd207.2.1)⟩, fun q => absurd rfl q⟩
        · have heq := heq.trans (if_neg c216)
          have heqy := heqy.trans (if_pos rfl)
          by_cases c239 : (10 * (u207.2 (0 : Int32).toNatClampNeg)) + (u207.2 (1 : Int32).toNatClampNeg) ≤ 24
          · have heq := heq.trans (if_pos c239)
            rw [heq, heqy]
            exact ⟨ha207, (Int32.le_of_lt (fd_ltle (fd_isl (fd_ise (Int32.le_refl _) ha hw3) ha3 hw198 c201) hd207.2.1)), hp, rfl, fun q => absurd q c216, fun _ => ⟨Or.inr rfl, (fd_ltle (fd_isl (fd_ise (Int32.le_refl _) ha hw3) ha3 hw198 c201) hd207.2.1)⟩, fun q => absurd rfl q⟩
          · have heq := heq.trans (if_neg c239)
            rw [heq, heqy]
            exact ⟨ha207, (Int32.le_of_lt (fd_ltle (fd_isl (fd_ise (Int32.le_refl _) ha hw3) ha3 hw198 c201) hd207.2.1)), hp, rfl, fun q => absurd q c216, fun _ => ⟨Or.inl rfl, (fd_ltle (fd_isl (fd_ise (Int32.le_refl _) ha hw3) ha3 hw198 c201) hd207.2.1)⟩, fun q => absurd rfl q⟩
  · have heq := heq.trans (if_neg c6)
    have heqy := heqy.trans (if_neg c6)
    obtain ⟨r12, u12, hw12⟩ : ∃ r u, (r, u) = f_X5_digits c_letters u3 c_letter c_value (0 : Int32) (1 : Int32) := ⟨_, _, rfl⟩
    have heq := g_let2 heq hw12
    obtain ⟨ry12, uy12, hy12⟩ : ∃ r u, (r, u) = f_X5_digits c_letters u3 c_letter (fun _ => 0) (0 : Int32) (1 : Int32) := ⟨_, _, rfl⟩
    have heqy := g_let2 heqy hy12
    obtain ⟨ay12, wy12⟩ := uy12
    obtain ⟨e1, e2⟩ := fd_dgi hw12 hy12
    have e1 := e1.symm
    subst e1
    subst e2
    have hd12 := fd_digits ha3 (by decide) (by decide) hw12
    have ha12 := hd12.1
    by_cases c15 : r12 = 0
    · have heq := heq.trans (if_pos c15)
      have heqy := heqy.trans (if_pos c15)
      rw [heq, heqy]
      exact ⟨ha12, (Int32.le_of_lt (fd_ltle (fd_isl (Int32.le_refl _) ha hw3 c6) hd12.2.1)), hp, rfl, fun _ => rfl, fun q => absurd (show (-1 : Int32) = 1 from q) (by decide), fun _ => rfl⟩
    · have heq := heq.trans (if_neg c15)
      have heqy := heqy.trans (if_neg c15)
      by_cases c28 : c_letters ≤ u12.1
      · have heq := heq.trans (if_pos c28)
        have heqy := heqy.trans (if_pos c28)
        rw [heq, heqy]
        exact ⟨ha12, (Int32.le_of_lt (fd_ltle (fd_isl (Int32.le_refl _) ha hw3 c6) hd12.2.1)), hp, rfl, fun _ => rfl, fun q => absurd (show (-1 : Int32) = 1 from q) (by decide), fun _ => rfl⟩
      · have heq := heq.trans (if_neg c28)
        have heqy := heqy.trans (if_neg c28)
        by_cases c40 : c_letter u12.1.toNatClampNeg ≤ 0
        · have heq := heq.trans (if_pos c40)
          have heqy := heqy.trans (if_pos c40)
          rw [heq, heqy]
          exact ⟨ha12, (Int32.le_of_lt (fd_ltle (fd_isl (Int32.le_refl _) ha hw3 c6) hd12.2.1)), hp, rfl, fun _ => rfl, fun q => absurd (show (-1 : Int32) = 1 from q) (by decide), fun _ => rfl⟩
        · have heq := heq.trans (if_neg c40)
          have heqy := heqy.trans (if_neg c40)
          obtain ⟨r54, hw54⟩ : ∃ r, r = f_J0_indexOf_0f7a4 5 (c_letter u12.1.toNatClampNeg) := ⟨_, rfl⟩
          have heq := g_let heq hw54
          have heqy := g_let heqy hw54
          by_cases c63 : 0 ≤ r54
          · have heq := heq.trans (if_pos c63)
            have heqy := heqy.trans (if_pos c63)
            obtain ⟨r81, u81, hw81⟩ : ∃ r u, (r, u) = f_X5_digits c_letters (u12.1 + 1) c_letter u12.2 (1 : Int32) (3 : Int32) := ⟨_, _, rfl⟩
            have heq := g_let2 heq hw81
            obtain ⟨ry81, uy81, hy81⟩ : ∃ r u, (r, u) = f_X5_digits c_letters (u12.1 + 1) c_letter wy12 (1 : Int32) (3 : Int32) := ⟨_, _, rfl⟩
            have heqy := g_let2 heqy hy81
            obtain ⟨ay81, wy81⟩ := uy81
            obtain ⟨e1, e2⟩ := fd_dgi hw81 hy81
            have e1 := e1.symm
            subst e1
            subst e2
            have hd81 := fd_digits (ha12.succ c28) (by decide) (by decide) hw81
            have ha81 := hd81.1
            by_cases c84 : r81 = 0
            · have heq := heq.trans (if_pos c84)
              have heqy := heqy.trans (if_pos c84)
              rw [heq, heqy]
              exact ⟨ha81, (Int32.le_of_lt (fd_ltle (fd_lts (Int32.le_of_lt (fd_ltle (fd_isl (Int32.le_refl _) ha hw3 c6) hd12.2.1)) c28) hd81.2.1)), hp, rfl, fun _ => rfl, fun q => absurd (show (-1 : Int32) = 1 from q) (by decide), fun _ => rfl⟩
            · have heq := heq.trans (if_neg c84)
              have heqy := heqy.trans (if_neg c84)
              by_cases c90 : p1 = 0
              · have heq := heq.trans (if_pos c90)
                have heqy := heqy.trans (if_pos rfl)
                rw [heq, heqy]
                exact ⟨ha81, (Int32.le_of_lt (fd_ltle (fd_lts (Int32.le_of_lt (fd_ltle (fd_isl (Int32.le_refl _) ha hw3 c6) hd12.2.1)) c28) hd81.2.1)), hp, rfl, fun _ => rfl, fun _ => ⟨Or.inr rfl, (fd_ltle (fd_lts (Int32.le_of_lt (fd_ltle (fd_isl (Int32.le_refl _) ha hw3 c6) hd12.2.1)) c28) hd81.2.1)⟩, fun q => absurd rfl q⟩
              · have heq := heq.trans (if_neg c90)
                have heqy := heqy.trans (if_pos rfl)
                by_cases c102 : 1 < u81.2 (0 : Int32).toNatClampNeg
                · have heq := heq.trans (if_pos c102)
                  rw [heq, heqy]
                  exact ⟨ha81, (Int32.le_of_lt (fd_ltle (fd_lts (Int32.le_of_lt (fd_ltle (fd_isl (Int32.le_refl _) ha hw3 c6) hd12.2.1)) c28) hd81.2.1)), hp, rfl, fun q => absurd q c90, fun _ => ⟨Or.inl rfl, (fd_ltle (fd_lts (Int32.le_of_lt (fd_ltle (fd_isl (Int32.le_refl _) ha hw3 c6) hd12.2.1)) c28) hd81.2.1)⟩, fun q => absurd rfl q⟩
                · have heq := heq.trans (if_neg c102)
                  by_cases c111 : c_players = 6
                  · have heq := heq.trans (if_pos c111)
                    rw [heq, heqy]
                    exact ⟨ha81, (Int32.le_of_lt (fd_ltle (fd_lts (Int32.le_of_lt (fd_ltle (fd_isl (Int32.le_refl _) ha hw3 c6) hd12.2.1)) c28) hd81.2.1)), hp, rfl, fun q => absurd q c90, fun _ => ⟨Or.inl rfl, (fd_ltle (fd_lts (Int32.le_of_lt (fd_ltle (fd_isl (Int32.le_refl _) ha hw3 c6) hd12.2.1)) c28) hd81.2.1)⟩, fun q => absurd rfl q⟩
                  · have heq := heq.trans (if_neg c111)
                    rw [heq, heqy]
                    exact ⟨ha81, (Int32.le_of_lt (fd_ltle (fd_lts (Int32.le_of_lt (fd_ltle (fd_isl (Int32.le_refl _) ha hw3 c6) hd12.2.1)) c28) hd81.2.1)), (m_Psucc hp c111), rfl, fun q => absurd q c90, fun _ => ⟨Or.inr rfl, (fd_ltle (fd_lts (Int32.le_of_lt (fd_ltle (fd_isl (Int32.le_refl _) ha hw3 c6) hd12.2.1)) c28) hd81.2.1)⟩, fun q => absurd rfl q⟩
          · have heq := heq.trans (if_neg c63)
            have heqy := heqy.trans (if_neg c63)
            rw [heq, heqy]
            exact ⟨ha12, (Int32.le_of_lt (fd_ltle (fd_isl (Int32.le_refl _) ha hw3 c6) hd12.2.1)), hp, rfl, fun _ => rfl, fun q => absurd (show (-1 : Int32) = 1 from q) (by decide), fun _ => rfl⟩
