theorem p_oi {a : Nat} (h : a < 1000) : (Int32.ofNat a).toInt = (a : Int) := Int32.toInt_ofNat_of_lt (by omega)
theorem p_ole {a b : Nat} (ha : a < 1000) (hb : b < 1000) : (Int32.ofNat a ≤ Int32.ofNat b) ↔ a ≤ b := by
  rw [Int32.le_iff_toInt_le, p_oi ha, p_oi hb]; omega
theorem p_olt {a b : Nat} (ha : a < 1000) (hb : b < 1000) : (Int32.ofNat a < Int32.ofNat b) ↔ a < b := by
  rw [Int32.lt_iff_toInt_lt, p_oi ha, p_oi hb]; omega
theorem p_oeq {a b : Nat} (ha : a < 1000) (hb : b < 1000) : (Int32.ofNat a = Int32.ofNat b) ↔ a = b := by
  refine ⟨fun h => ?_, fun h => by rw [h]⟩
  have h2 := congrArg Int32.toInt h
  rw [p_oi ha, p_oi hb] at h2; omega
theorem p_oad (a b : Nat) : Int32.ofNat a + Int32.ofNat b = Int32.ofNat (a + b) := (Int32.ofNat_add a b).symm
theorem p_oa1 (a : Nat) : Int32.ofNat a + 1 = Int32.ofNat (a + 1) := p_oad a 1
theorem p_on {a : Nat} (h : a < 1000) : (Int32.ofNat a).toNatClampNeg = a := by
  show (Int32.ofNat a).toInt.toNat = a
  rw [p_oi h]; omega
theorem p_o0 {a : Nat} (h : a < 1000) : ¬ Int32.ofNat a < 0 := by
  rw [Int32.lt_iff_toInt_lt, p_oi h, (by decide : (0 : Int32).toInt = 0)]; omega
/-- how far letters go on as a shape tells, and whether to its end -/
def p_go (N : Nat) (sg : Nat → Int32) : List Int32 → Nat → Bool × Nat
  | [], i => (true, i)
  | x :: L, i => if i < N then (if f_X2_fits x (sg i) = 0 then (false, i) else p_go N sg L (i + 1)) else (false, i)
theorem p_go_n (N : Nat) (sg : Nat → Int32) (i : Nat) : p_go N sg [] i = (true, i) := rfl
theorem p_go_c (N : Nat) (sg : Nat → Int32) (x : Int32) (L : List Int32) (i : Nat) : p_go N sg (x :: L) i = if i < N then (if f_X2_fits x (sg i) = 0 then (false, i) else p_go N sg L (i + 1)) else (false, i) := rfl
theorem p_go_app (N : Nat) (sg : Nat → Int32) : ∀ (L M : List Int32) (i : Nat), p_go N sg (L ++ M) i = if (p_go N sg L i).1 = true then p_go N sg M (p_go N sg L i).2 else (false, (p_go N sg L i).2)
  | [], M, i => by
      rw [p_go_n, List.nil_append, if_pos rfl]
  | x :: L, M, i => by
      rw [List.cons_append, p_go_c, p_go_c]
      by_cases h : i < N
      · rw [if_pos h, if_pos h]
        by_cases h2 : f_X2_fits x (sg i) = 0
        · rw [if_pos h2, if_pos h2, if_neg (show ¬ (false = true) by decide)]
        · rw [if_neg h2, if_neg h2]; exact p_go_app N sg L M (i + 1)
      · rw [if_neg h, if_neg h, if_neg (show ¬ (false = true) by decide)]
theorem p_go_le (N : Nat) (sg : Nat → Int32) : ∀ (L : List Int32) (i : Nat), i ≤ N → i ≤ (p_go N sg L i).2 ∧ (p_go N sg L i).2 ≤ N
  | [], i, h => ⟨Nat.le_refl _, h⟩
  | x :: L, i, h => by
      rw [p_go_c]
      by_cases h1 : i < N
      · rw [if_pos h1]
        by_cases h2 : f_X2_fits x (sg i) = 0
        · rw [if_pos h2]; exact ⟨Nat.le_refl _, h⟩
        · rw [if_neg h2]
          have g := p_go_le N sg L (i + 1) (by omega)
          exact ⟨by omega, g.2⟩
      · rw [if_neg h1]; exact ⟨Nat.le_refl _, h⟩
theorem p_go_true (N : Nat) (sg : Nat → Int32) : ∀ (L : List Int32) (i : Nat), (p_go N sg L i).1 = true → (p_go N sg L i).2 = i + L.length
  | [], i, _ => rfl
  | x :: L, i, h => by
      rw [p_go_c] at h ⊢
      by_cases h1 : i < N
      · rw [if_pos h1] at h ⊢
        by_cases h2 : f_X2_fits x (sg i) = 0
        · rw [if_pos h2] at h; exact absurd (show false = true from h) (by decide)
        · rw [if_neg h2] at h ⊢
          rw [p_go_true N sg L (i + 1) h, List.length_cons]; omega
      · rw [if_neg h1] at h; exact absurd (show false = true from h) (by decide)
/-- its first sign stands and fits -/
theorem p_go_hd (N : Nat) (sg : Nat → Int32) (x : Int32) (L : List Int32) (i : Nat) (h : (p_go N sg (x :: L) i).1 = true) : i < N ∧ ¬ f_X2_fits x (sg i) = 0 ∧ p_go N sg (x :: L) i = p_go N sg L (i + 1) := by
  rw [p_go_c] at h ⊢
  by_cases h1 : i < N
  · rw [if_pos h1] at h ⊢
    by_cases h2 : f_X2_fits x (sg i) = 0
    · rw [if_pos h2] at h; exact absurd (show false = true from h) (by decide)
    · rw [if_neg h2]; exact ⟨h1, h2, rfl⟩
  · rw [if_neg h1] at h; exact absurd (show false = true from h) (by decide)
theorem p_fd (x : Int32) : (f_X2_fits 100 x = 0 ∧ ¬ (48 ≤ x ∧ x ≤ 57)) ∨ (f_X2_fits 100 x = 1 ∧ 48 ≤ x ∧ x ≤ 57) := by
  unfold f_X2_fits
  rw [if_pos (rfl : (100 : Int32) = 100)]
  by_cases a : x < 48
  · rw [if_pos a]; exact Or.inl ⟨rfl, fun h => absurd a (Int32.not_lt.2 h.1)⟩
  · by_cases b : 57 < x
    · rw [if_neg a, if_pos b]; exact Or.inl ⟨rfl, fun h => absurd b (Int32.not_lt.2 h.2)⟩
    · rw [if_neg a, if_neg b]; exact Or.inr ⟨rfl, Int32.not_lt.1 a, Int32.not_lt.1 b⟩
/-- a digit -/
theorem p_dd {x : Int32} (h : ¬ f_X2_fits 100 x = 0) : ∃ n : Fin 10, x - 48 = Int32.ofNat n := by
  rcases p_fd x with ⟨a, -⟩ | ⟨-, a, b⟩
  · exact absurd a h
  · obtain ⟨n, hn⟩ := pe_nat 57 (Int32.le_trans (by decide) a) b (by decide)
    rw [hn] at a ⊢
    obtain ⟨k, hk⟩ := (by decide : ∀ n : Fin 58, 48 ≤ Int32.ofNat n → ∃ k : Fin 10, Int32.ofNat n - 48 = Int32.ofNat k) n a
    exact ⟨k, hk⟩
theorem p_f59 (x : Int32) : f_X2_fits 59 x = if x = 59 then 1 else 0 := by
  unfold f_X2_fits
  rw [if_neg (by decide), if_neg (by decide), if_neg (by decide)]
theorem p_digL (N : Nat) (hN : N ≤ 96) (sg : Nat → Int32) (a j : Nat) (haj : a + j ≤ 4) : ∀ (m i : Nat) (va : Nat → Int32), m ≤ j → i ≤ N →
    ∃ V', L_X5_digits_2 (Int32.ofNat a) (Int32.ofNat j) (Int32.ofNat N) sg (fun v3_2 c_at_2 c_value_2 => (1, c_at_2, c_value_2)) (m + 1) (Int32.ofNat (a + j - m)) (Int32.ofNat i) va = ((if (p_go N sg (List.replicate m 100) i).1 = true then 1 else 0), Int32.ofNat (p_go N sg (List.replicate m 100) i).2, V') ∧
      ((p_go N sg (List.replicate m 100) i).1 = true → ∀ t : Nat, t < m → V' (a + j - m + t) = sg (i + t) - 48) ∧ ∀ u : Nat, u < a + j - m → V' u = va u
  | 0, i, va, hm, hi => by
      refine ⟨va, ?_, fun _ t ht => absurd ht (by omega), fun _ _ => rfl⟩
      rw [L_X5_digits_2, p_oad, if_pos (by rw [p_ole (by omega) (by omega)]; omega), List.replicate_zero, p_go_n, if_pos rfl]
  | m + 1, i, va, hm, hi => by
      have x1 : ¬ (Int32.ofNat (a + j) ≤ Int32.ofNat (a + j - (m + 1))) := by rw [p_ole (by omega) (by omega)]; omega
      have x2 : Int32.ofNat (a + j - (m + 1)) + 1 = Int32.ofNat (a + j - m) := by
        rw [p_oa1, show a + j - (m + 1) + 1 = a + j - m by omega]
      rw [L_X5_digits_2, p_oad, if_neg x1, List.replicate_succ, p_go_c]
      by_cases hl : i < N
      · have x3 : ¬ Int32.ofNat i = Int32.ofNat N := by rw [p_oeq (by omega) (by omega)]; omega
        have x4 : (Int32.ofNat i).toNatClampNeg = i := p_on (by omega)
        have x5 : (Int32.ofNat (a + j - (m + 1))).toNatClampNeg = a + j - (m + 1) := p_on (by omega)
        rw [if_neg x3, if_pos hl, x4, x5, x2, p_oa1 i]
        rcases p_fd (sg i) with ⟨z1, z2⟩ | ⟨z1, z2, z3⟩
        · rw [if_pos z1]
          refine ⟨va, ?_, fun h => absurd (show false = true from h) (by decide), fun _ _ => rfl⟩
          by_cases w : sg i < 48
          · rw [if_pos w, if_neg (show ¬ (false = true) by decide)]
          · rw [if_neg w, if_neg (fun w2 => z2 ⟨Int32.not_lt.1 w, w2⟩), if_neg (show ¬ (false = true) by decide)]
        · rw [if_neg (show ¬ f_X2_fits 100 (sg i) = 0 by rw [z1]; decide), if_neg (Int32.not_lt.2 z2), if_pos z3]
          obtain ⟨V', h1, h2, h3⟩ := p_digL N hN sg a j haj m (i + 1) (upd va (a + j - (m + 1)) (sg i - 48)) (by omega) (by omega)
          refine ⟨V', h1, fun h t ht => ?_, fun u hu => ?_⟩
          · cases t with
            | zero =>
              rw [Nat.add_zero, Nat.add_zero, h3 _ (by omega), p_upd_same]
              all_goals rfl
            | succ t =>
              have g := h2 h t (by omega)
              rw [show a + j - (m + 1) + (t + 1) = a + j - m + t by omega, g, show i + 1 + t = i + (t + 1) by omega]
          · rw [h3 u (by omega), p_upd_ne _ _ (by omega)]
      · have e : i = N := by omega
        subst e
        rw [if_pos rfl, if_neg hl]
        refine ⟨va, ?_, fun h => absurd (show false = true from h) (by decide), fun _ _ => rfl⟩
        rw [if_neg (show ¬ (false = true) by decide)]
theorem p_dig (N : Nat) (hN : N ≤ 96) (sg : Nat → Int32) (a j i : Nat) (va : Nat → Int32) (haj : a + j ≤ 4) (hi : i ≤ N) :
    ∃ V', f_X5_digits (Int32.ofNat N) (Int32.ofNat i) sg va (Int32.ofNat a) (Int32.ofNat j) = ((if (p_go N sg (List.replicate j 100) i).1 = true then 1 else 0), Int32.ofNat (p_go N sg (List.replicate j 100) i).2, V') ∧
      ((p_go N sg (List.replicate j 100) i).1 = true → ∀ t : Nat, t < j → V' (a + t) = sg (i + t) - 48) ∧ ∀ u : Nat, u < a → V' u = va u := by
  obtain ⟨V', h1, h2, h3⟩ := p_digL N hN sg a j haj j i va (Nat.le_refl _) hi
  rw [show a + j - j = a by omega] at h1 h2 h3
  refine ⟨V', ?_, h2, h3⟩
  unfold f_X5_digits
  rw [show ((Int32.ofNat a + Int32.ofNat j).toInt - (Int32.ofNat a).toInt).toNat + 1 = j + 1 by rw [p_oad, p_oi (by omega), p_oi (by omega)]; omega]
  exact h1
theorem p_is1 {N i : Nat} (hN : N ≤ 96) (hi : i < N) {sg : Nat → Int32} {c : Int32} (h : sg i = c) : f_X5_is (Int32.ofNat N) (Int32.ofNat i) sg c = (1, Int32.ofNat (i + 1)) := by
  unfold f_X5_is
  rw [if_neg (by rw [p_oeq (by omega) (by omega)]; omega), p_on (by omega), if_pos h, p_oa1]
theorem p_is0 {N i : Nat} (hN : N ≤ 96) (hi : i < N) {sg : Nat → Int32} {c : Int32} (h : ¬ sg i = c) : f_X5_is (Int32.ofNat N) (Int32.ofNat i) sg c = (0, Int32.ofNat i) := by
  unfold f_X5_is
  rw [if_neg (by rw [p_oeq (by omega) (by omega)]; omega), p_on (by omega), if_neg h]
theorem p_isN (N : Nat) (sg : Nat → Int32) (c : Int32) : f_X5_is (Int32.ofNat N) (Int32.ofNat N) sg c = (0, Int32.ofNat N) := by
  unfold f_X5_is
  rw [if_pos rfl]
theorem p_tn : (0 : Int32).toNatClampNeg = 0 ∧ (1 : Int32).toNatClampNeg = 1 ∧ (2 : Int32).toNatClampNeg = 2 ∧ (3 : Int32).toNatClampNeg = 3 := by decide
theorem p_ix5 {x : Int32} (h : r_in x 255) : (x ≤ 0 → f_X2_kind x = -1) ∧ f_J0_indexOf_0f7a4 5 x = f_X2_kind x ∧ (f_X2_kind x < 0 ∨ r_in (f_X2_kind x) 5) := by
  obtain ⟨n, rfl⟩ := pe_nat 255 h.1 h.2 (by decide)
  clear h
  unfold r_in
  revert n; decide +kernel
theorem p_f107 (x : Int32) : f_X2_fits 107 x = if f_X2_kind x < 0 then 0 else 1 := by
  unfold f_X2_fits
  rw [if_neg (by decide), if_pos rfl, p_lt]
theorem p_f115 (x : Int32) : f_X2_fits 115 x = if x = 43 then 1 else (if x = 45 then 1 else 0) := by
  unfold f_X2_fits
  rw [if_neg (by decide), if_neg (by decide), if_pos rfl]


theorem p_s99 {N i : Nat} (hN : N ≤ 96) (hi : i < N) {sg va : Nat → Int32} {s l b rb lw dr pl : Int32} {fo ca sd kd nr fr fe : Nat → Int32} (hc : sg i = 99) :
    ∃ V', (¬ (p_go N sg (List.replicate 2 100) (i + 1)).1 = true → ∀ p1 : Int32, f_X5_statement s l b rb lw dr pl (Int32.ofNat N) (Int32.ofNat i) fo ca sd kd nr fr fe sg va p1 = ((-1), s, l, b, rb, lw, dr, pl, Int32.ofNat (p_go N sg (List.replicate 2 100) (i + 1)).2, fo, ca, sd, kd, nr, fr, fe, V')) ∧
      ((p_go N sg (List.replicate 2 100) (i + 1)).1 = true → f_X5_statement s l b rb lw dr pl (Int32.ofNat N) (Int32.ofNat i) fo ca sd kd nr fr fe sg va 0 = (1, s, l, b, rb, lw, dr, pl, Int32.ofNat (p_go N sg (List.replicate 2 100) (i + 1)).2, fo, ca, sd, kd, nr, fr, fe, V') ∧ f_X5_statement s l b rb lw dr pl (Int32.ofNat N) (Int32.ofNat i) fo ca sd kd nr fr fe sg va 1 = (if (10 * V' 0) + V' 1 ≤ 24 then (1, (10 * V' 0) + V' 1, l, b, rb, lw, dr, pl, Int32.ofNat (p_go N sg (List.replicate 2 100) (i + 1)).2, fo, ca, sd, kd, nr, fr, fe, V') else (0, s, l, b, rb, lw, dr, pl, Int32.ofNat (p_go N sg (List.replicate 2 100) (i + 1)).2, fo, ca, sd, kd, nr, fr, fe, V')) ∧ V' 0 = sg (i + 1) - 48 ∧ V' 1 = sg (i + 2) - 48) := by
  have hNi : ¬ Int32.ofNat N ≤ Int32.ofNat i := by rw [p_ole (by omega) (by omega)]; omega
  have hat : (Int32.ofNat i).toNatClampNeg = i := p_on (by omega)
  obtain ⟨V', d1, d2, -⟩ := p_dig N hN sg 0 2 (i + 1) va (by omega) (by omega)
  have d1 : f_X5_digits (Int32.ofNat N) (Int32.ofNat (i + 1)) sg va (0 : Int32) (2 : Int32) = _ := d1
  obtain ⟨z0, z1, -⟩ := p_tn
  refine ⟨V', fun hB p1 => ?_, fun hB => ⟨?_, ?_, ?_⟩⟩
  · rw [if_neg hB] at d1
    unfold f_X5_statement
    rw [p_is0 (c := 112) hN hi (by rw [hc]; decide), p_lt2, if_pos (rfl : (0 : Int32) = 0), p_is1 hN hi hc, p_lt2, if_neg (by decide : ¬ (1 : Int32) = 0), d1, p_lt2, if_pos (rfl : (0 : Int32) = 0)]
    all_goals rfl
  · rw [if_pos hB] at d1
    unfold f_X5_statement
    rw [p_is0 (c := 112) hN hi (by rw [hc]; decide), p_lt2, if_pos (rfl : (0 : Int32) = 0), p_is1 hN hi hc, p_lt2, if_neg (by decide : ¬ (1 : Int32) = 0), d1, p_lt2, if_neg (by decide : ¬ (1 : Int32) = 0), if_pos (rfl : (0 : Int32) = 0)]
    all_goals rfl
  · rw [if_pos hB] at d1
    unfold f_X5_statement
    rw [p_is0 (c := 112) hN hi (by rw [hc]; decide), p_lt2, if_pos (rfl : (0 : Int32) = 0), p_is1 hN hi hc, p_lt2, if_neg (by decide : ¬ (1 : Int32) = 0), d1, p_lt2, if_neg (by decide : ¬ (1 : Int32) = 0), if_neg (by decide : ¬ (1 : Int32) = 0), z0, z1]
    all_goals rfl
  · have g := d2 hB
    exact ⟨g 0 (by omega), g 1 (by omega)⟩

theorem p_bk {i : Nat} (h : i < 900) : Int32.ofNat (i + 1) - 1 = Int32.ofNat i := by
  rw [← p_oa1, Int32.add_sub_cancel]

theorem p_s102 {N i : Nat} (hN : N ≤ 96) (hi : i < N) {sg va : Nat → Int32} {s l b rb lw dr pl : Int32} {fo ca sd kd nr fr fe : Nat → Int32} (hc : sg i = 102) :
    ∃ V', (¬ (p_go N sg (List.replicate 2 100) (i + 1)).1 = true → ∀ p1 : Int32, f_X5_statement s l b rb lw dr pl (Int32.ofNat N) (Int32.ofNat i) fo ca sd kd nr fr fe sg va p1 = ((-1), s, l, b, rb, lw, dr, pl, Int32.ofNat (p_go N sg (List.replicate 2 100) (i + 1)).2, fo, ca, sd, kd, nr, fr, fe, V')) ∧
      ((p_go N sg (List.replicate 2 100) (i + 1)).1 = true → f_X5_statement s l b rb lw dr pl (Int32.ofNat N) (Int32.ofNat i) fo ca sd kd nr fr fe sg va 0 = (1, s, l, b, rb, lw, dr, pl, Int32.ofNat (p_go N sg (List.replicate 2 100) (i + 1)).2, fo, ca, sd, kd, nr, fr, fe, V') ∧ f_X5_statement s l b rb lw dr pl (Int32.ofNat N) (Int32.ofNat i) fo ca sd kd nr fr fe sg va 1 = (if 1 < V' 0 then (0, s, l, b, rb, lw, dr, pl, Int32.ofNat (p_go N sg (List.replicate 2 100) (i + 1)).2, fo, ca, sd, kd, nr, fr, fe, V') else (if V' 1 ≤ 5 then (1, s, l, b, rb, lw, dr, pl, Int32.ofNat (p_go N sg (List.replicate 2 100) (i + 1)).2, upd fo (V' 0).toNatClampNeg (V' 1), ca, sd, kd, nr, fr, fe, V') else (0, s, l, b, rb, lw, dr, pl, Int32.ofNat (p_go N sg (List.replicate 2 100) (i + 1)).2, fo, ca, sd, kd, nr, fr, fe, V'))) ∧ V' 0 = sg (i + 1) - 48 ∧ V' 1 = sg (i + 2) - 48) := by
  have hNi : ¬ Int32.ofNat N ≤ Int32.ofNat i := by rw [p_ole (by omega) (by omega)]; omega
  have hat : (Int32.ofNat i).toNatClampNeg = i := p_on (by omega)
  obtain ⟨V', d1, d2, -⟩ := p_dig N hN sg 0 2 (i + 1) va (by omega) (by omega)
  have d1 : f_X5_digits (Int32.ofNat N) (Int32.ofNat (i + 1)) sg va (0 : Int32) (2 : Int32) = _ := d1
  obtain ⟨z0, z1, -⟩ := p_tn
  refine ⟨V', fun hB p1 => ?_, fun hB => ⟨?_, ?_, ?_⟩⟩
  · rw [if_neg hB] at d1
    unfold f_X5_statement
    rw [p_is0 (c := 112) hN hi (by rw [hc]; decide), p_lt2, if_pos (rfl : (0 : Int32) = 0), p_is0 (c := 99) hN hi (by rw [hc]; decide), p_lt2, if_pos (rfl : (0 : Int32) = 0), p_is0 (c := 108) hN hi (by rw [hc]; decide), p_lt2, if_pos (rfl : (0 : Int32) = 0), p_is1 hN hi hc, p_lt2, if_neg (by decide : ¬ (1 : Int32) = 0), p_bk (by omega : i < 900), hat, if_pos hc, d1, p_lt2, if_pos (rfl : (0 : Int32) = 0)]
    all_goals rfl
  · rw [if_pos hB] at d1
    unfold f_X5_statement
    rw [p_is0 (c := 112) hN hi (by rw [hc]; decide), p_lt2, if_pos (rfl : (0 : Int32) = 0), p_is0 (c := 99) hN hi (by rw [hc]; decide), p_lt2, if_pos (rfl : (0 : Int32) = 0), p_is0 (c := 108) hN hi (by rw [hc]; decide), p_lt2, if_pos (rfl : (0 : Int32) = 0), p_is1 hN hi hc, p_lt2, if_neg (by decide : ¬ (1 : Int32) = 0), p_bk (by omega : i < 900), hat, if_pos hc, d1, p_lt2, if_neg (by decide : ¬ (1 : Int32) = 0), if_pos (rfl : (0 : Int32) = 0)]
    all_goals rfl
  · rw [if_pos hB] at d1
    unfold f_X5_statement
    rw [p_is0 (c := 112) hN hi (by rw [hc]; decide), p_lt2, if_pos (rfl : (0 : Int32) = 0), p_is0 (c := 99) hN hi (by rw [hc]; decide), p_lt2, if_pos (rfl : (0 : Int32) = 0), p_is0 (c := 108) hN hi (by rw [hc]; decide), p_lt2, if_pos (rfl : (0 : Int32) = 0), p_is1 hN hi hc, p_lt2, if_neg (by decide : ¬ (1 : Int32) = 0), p_bk (by omega : i < 900), hat, if_pos hc, d1, p_lt2, if_neg (by decide : ¬ (1 : Int32) = 0), if_neg (by decide : ¬ (1 : Int32) = 0), z0, z1]
    all_goals rfl
  · have g := d2 hB
    exact ⟨g 0 (by omega), g 1 (by omega)⟩

theorem p_s111 {N i : Nat} (hN : N ≤ 96) (hi : i < N) {sg va : Nat → Int32} {s l b rb lw dr pl : Int32} {fo ca sd kd nr fr fe : Nat → Int32} (hc : sg i = 111) :
    ∃ V', (¬ (p_go N sg (List.replicate 2 100) (i + 1)).1 = true → ∀ p1 : Int32, f_X5_statement s l b rb lw dr pl (Int32.ofNat N) (Int32.ofNat i) fo ca sd kd nr fr fe sg va p1 = ((-1), s, l, b, rb, lw, dr, pl, Int32.ofNat (p_go N sg (List.replicate 2 100) (i + 1)).2, fo, ca, sd, kd, nr, fr, fe, V')) ∧
      ((p_go N sg (List.replicate 2 100) (i + 1)).1 = true → f_X5_statement s l b rb lw dr pl (Int32.ofNat N) (Int32.ofNat i) fo ca sd kd nr fr fe sg va 0 = (1, s, l, b, rb, lw, dr, pl, Int32.ofNat (p_go N sg (List.replicate 2 100) (i + 1)).2, fo, ca, sd, kd, nr, fr, fe, V') ∧ f_X5_statement s l b rb lw dr pl (Int32.ofNat N) (Int32.ofNat i) fo ca sd kd nr fr fe sg va 1 = (if 1 < V' 0 then (0, s, l, b, rb, lw, dr, pl, Int32.ofNat (p_go N sg (List.replicate 2 100) (i + 1)).2, fo, ca, sd, kd, nr, fr, fe, V') else (if V' 1 ≤ 2 then (1, s, l, b, rb, lw, dr, pl, Int32.ofNat (p_go N sg (List.replicate 2 100) (i + 1)).2, fo, upd ca (V' 0).toNatClampNeg (V' 1), sd, kd, nr, fr, fe, V') else (0, s, l, b, rb, lw, dr, pl, Int32.ofNat (p_go N sg (List.replicate 2 100) (i + 1)).2, fo, ca, sd, kd, nr, fr, fe, V'))) ∧ V' 0 = sg (i + 1) - 48 ∧ V' 1 = sg (i + 2) - 48) := by
  have hNi : ¬ Int32.ofNat N ≤ Int32.ofNat i := by rw [p_ole (by omega) (by omega)]; omega
  have hat : (Int32.ofNat i).toNatClampNeg = i := p_on (by omega)
  obtain ⟨V', d1, d2, -⟩ := p_dig N hN sg 0 2 (i + 1) va (by omega) (by omega)
  have d1 : f_X5_digits (Int32.ofNat N) (Int32.ofNat (i + 1)) sg va (0 : Int32) (2 : Int32) = _ := d1
  obtain ⟨z0, z1, -⟩ := p_tn
  refine ⟨V', fun hB p1 => ?_, fun hB => ⟨?_, ?_, ?_⟩⟩
  · rw [if_neg hB] at d1
    unfold f_X5_statement
    rw [p_is0 (c := 112) hN hi (by rw [hc]; decide), p_lt2, if_pos (rfl : (0 : Int32) = 0), p_is0 (c := 99) hN hi (by rw [hc]; decide), p_lt2, if_pos (rfl : (0 : Int32) = 0), p_is0 (c := 108) hN hi (by rw [hc]; decide), p_lt2, if_pos (rfl : (0 : Int32) = 0), p_is0 (c := 102) hN hi (by rw [hc]; decide), p_lt2, if_pos (rfl : (0 : Int32) = 0), p_is1 hN hi hc, p_lt2, if_neg (by decide : ¬ (1 : Int32) = 0), p_bk (by omega : i < 900), hat, if_neg (by rw [hc]; decide : ¬ sg i = 102), d1, p_lt2, if_pos (rfl : (0 : Int32) = 0)]
    all_goals rfl
  · rw [if_pos hB] at d1
    unfold f_X5_statement
    rw [p_is0 (c := 112) hN hi (by rw [hc]; decide), p_lt2, if_pos (rfl : (0 : Int32) = 0), p_is0 (c := 99) hN hi (by rw [hc]; decide), p_lt2, if_pos (rfl : (0 : Int32) = 0), p_is0 (c := 108) hN hi (by rw [hc]; decide), p_lt2, if_pos (rfl : (0 : Int32) = 0), p_is0 (c := 102) hN hi (by rw [hc]; decide), p_lt2, if_pos (rfl : (0 : Int32) = 0), p_is1 hN hi hc, p_lt2, if_neg (by decide : ¬ (1 : Int32) = 0), p_bk (by omega : i < 900), hat, if_neg (by rw [hc]; decide : ¬ sg i = 102), d1, p_lt2, if_neg (by decide : ¬ (1 : Int32) = 0), if_pos (rfl : (0 : Int32) = 0)]
    all_goals rfl
  · rw [if_pos hB] at d1
    unfold f_X5_statement
    rw [p_is0 (c := 112) hN hi (by rw [hc]; decide), p_lt2, if_pos (rfl : (0 : Int32) = 0), p_is0 (c := 99) hN hi (by rw [hc]; decide), p_lt2, if_pos (rfl : (0 : Int32) = 0), p_is0 (c := 108) hN hi (by rw [hc]; decide), p_lt2, if_pos (rfl : (0 : Int32) = 0), p_is0 (c := 102) hN hi (by rw [hc]; decide), p_lt2, if_pos (rfl : (0 : Int32) = 0), p_is1 hN hi hc, p_lt2, if_neg (by decide : ¬ (1 : Int32) = 0), p_bk (by omega : i < 900), hat, if_neg (by rw [hc]; decide : ¬ sg i = 102), d1, p_lt2, if_neg (by decide : ¬ (1 : Int32) = 0), if_neg (by decide : ¬ (1 : Int32) = 0), z0, z1]
    all_goals rfl
  · have g := d2 hB
    exact ⟨g 0 (by omega), g 1 (by omega)⟩

theorem p_s98 {N i : Nat} (hN : N ≤ 96) (hi : i < N) {sg va : Nat → Int32} {s l b rb lw dr pl : Int32} {fo ca sd kd nr fr fe : Nat → Int32} (hc : sg i = 98) :
    ∃ V', (¬ (p_go N sg (List.replicate 1 100) (i + 1)).1 = true → ∀ p1 : Int32, f_X5_statement s l b rb lw dr pl (Int32.ofNat N) (Int32.ofNat i) fo ca sd kd nr fr fe sg va p1 = ((-1), s, l, b, rb, lw, dr, pl, Int32.ofNat (p_go N sg (List.replicate 1 100) (i + 1)).2, fo, ca, sd, kd, nr, fr, fe, V')) ∧
      ((p_go N sg (List.replicate 1 100) (i + 1)).1 = true → f_X5_statement s l b rb lw dr pl (Int32.ofNat N) (Int32.ofNat i) fo ca sd kd nr fr fe sg va 0 = (1, s, l, b, rb, lw, dr, pl, Int32.ofNat (p_go N sg (List.replicate 1 100) (i + 1)).2, fo, ca, sd, kd, nr, fr, fe, V') ∧ f_X5_statement s l b rb lw dr pl (Int32.ofNat N) (Int32.ofNat i) fo ca sd kd nr fr fe sg va 1 = (if V' 0 ≤ 1 then (1, s, l, V' 0, rb, lw, dr, pl, Int32.ofNat (p_go N sg (List.replicate 1 100) (i + 1)).2, fo, ca, sd, kd, nr, fr, fe, V') else (0, s, l, b, rb, lw, dr, pl, Int32.ofNat (p_go N sg (List.replicate 1 100) (i + 1)).2, fo, ca, sd, kd, nr, fr, fe, V')) ∧ V' 0 = sg (i + 1) - 48) := by
  have hNi : ¬ Int32.ofNat N ≤ Int32.ofNat i := by rw [p_ole (by omega) (by omega)]; omega
  have hat : (Int32.ofNat i).toNatClampNeg = i := p_on (by omega)
  obtain ⟨V', d1, d2, -⟩ := p_dig N hN sg 0 1 (i + 1) va (by omega) (by omega)
  have d1 : f_X5_digits (Int32.ofNat N) (Int32.ofNat (i + 1)) sg va (0 : Int32) (1 : Int32) = _ := d1
  obtain ⟨z0, z1, -⟩ := p_tn
  refine ⟨V', fun hB p1 => ?_, fun hB => ⟨?_, ?_, ?_⟩⟩
  · rw [if_neg hB] at d1
    unfold f_X5_statement
    rw [p_is0 (c := 112) hN hi (by rw [hc]; decide), p_lt2, if_pos (rfl : (0 : Int32) = 0), p_is0 (c := 99) hN hi (by rw [hc]; decide), p_lt2, if_pos (rfl : (0 : Int32) = 0), p_is0 (c := 108) hN hi (by rw [hc]; decide), p_lt2, if_pos (rfl : (0 : Int32) = 0), p_is0 (c := 102) hN hi (by rw [hc]; decide), p_lt2, if_pos (rfl : (0 : Int32) = 0), p_is0 (c := 111) hN hi (by rw [hc]; decide), p_lt2, if_pos (rfl : (0 : Int32) = 0), if_neg hNi, hat, if_pos hc, p_oa1 i, d1, p_lt2, if_pos (rfl : (0 : Int32) = 0)]
    all_goals rfl
  · rw [if_pos hB] at d1
    unfold f_X5_statement
    rw [p_is0 (c := 112) hN hi (by rw [hc]; decide), p_lt2, if_pos (rfl : (0 : Int32) = 0), p_is0 (c := 99) hN hi (by rw [hc]; decide), p_lt2, if_pos (rfl : (0 : Int32) = 0), p_is0 (c := 108) hN hi (by rw [hc]; decide), p_lt2, if_pos (rfl : (0 : Int32) = 0), p_is0 (c := 102) hN hi (by rw [hc]; decide), p_lt2, if_pos (rfl : (0 : Int32) = 0), p_is0 (c := 111) hN hi (by rw [hc]; decide), p_lt2, if_pos (rfl : (0 : Int32) = 0), if_neg hNi, hat, if_pos hc, p_oa1 i, d1, p_lt2, if_neg (by decide : ¬ (1 : Int32) = 0), if_pos (rfl : (0 : Int32) = 0)]
    all_goals rfl
  · rw [if_pos hB] at d1
    unfold f_X5_statement
    rw [p_is0 (c := 112) hN hi (by rw [hc]; decide), p_lt2, if_pos (rfl : (0 : Int32) = 0), p_is0 (c := 99) hN hi (by rw [hc]; decide), p_lt2, if_pos (rfl : (0 : Int32) = 0), p_is0 (c := 108) hN hi (by rw [hc]; decide), p_lt2, if_pos (rfl : (0 : Int32) = 0), p_is0 (c := 102) hN hi (by rw [hc]; decide), p_lt2, if_pos (rfl : (0 : Int32) = 0), p_is0 (c := 111) hN hi (by rw [hc]; decide), p_lt2, if_pos (rfl : (0 : Int32) = 0), if_neg hNi, hat, if_pos hc, p_oa1 i, d1, p_lt2, if_neg (by decide : ¬ (1 : Int32) = 0), if_neg (by decide : ¬ (1 : Int32) = 0), z0]
    all_goals rfl
  · have g := d2 hB
    exact g 0 (by omega)

theorem p_s114 {N i : Nat} (hN : N ≤ 96) (hi : i < N) {sg va : Nat → Int32} {s l b rb lw dr pl : Int32} {fo ca sd kd nr fr fe : Nat → Int32} (hc : sg i = 114) :
    ∃ V', (¬ (p_go N sg (List.replicate 1 100) (i + 1)).1 = true → ∀ p1 : Int32, f_X5_statement s l b rb lw dr pl (Int32.ofNat N) (Int32.ofNat i) fo ca sd kd nr fr fe sg va p1 = ((-1), s, l, b, rb, lw, dr, pl, Int32.ofNat (p_go N sg (List.replicate 1 100) (i + 1)).2, fo, ca, sd, kd, nr, fr, fe, V')) ∧
      ((p_go N sg (List.replicate 1 100) (i + 1)).1 = true → f_X5_statement s l b rb lw dr pl (Int32.ofNat N) (Int32.ofNat i) fo ca sd kd nr fr fe sg va 0 = (1, s, l, b, rb, lw, dr, pl, Int32.ofNat (p_go N sg (List.replicate 1 100) (i + 1)).2, fo, ca, sd, kd, nr, fr, fe, V') ∧ f_X5_statement s l b rb lw dr pl (Int32.ofNat N) (Int32.ofNat i) fo ca sd kd nr fr fe sg va 1 = (if V' 0 ≤ 9 then (1, s, l, b, V' 0, lw, dr, pl, Int32.ofNat (p_go N sg (List.replicate 1 100) (i + 1)).2, fo, ca, sd, kd, nr, fr, fe, V') else (0, s, l, b, rb, lw, dr, pl, Int32.ofNat (p_go N sg (List.replicate 1 100) (i + 1)).2, fo, ca, sd, kd, nr, fr, fe, V')) ∧ V' 0 = sg (i + 1) - 48) := by
  have hNi : ¬ Int32.ofNat N ≤ Int32.ofNat i := by rw [p_ole (by omega) (by omega)]; omega
  have hat : (Int32.ofNat i).toNatClampNeg = i := p_on (by omega)
  obtain ⟨V', d1, d2, -⟩ := p_dig N hN sg 0 1 (i + 1) va (by omega) (by omega)
  have d1 : f_X5_digits (Int32.ofNat N) (Int32.ofNat (i + 1)) sg va (0 : Int32) (1 : Int32) = _ := d1
  obtain ⟨z0, z1, -⟩ := p_tn
  refine ⟨V', fun hB p1 => ?_, fun hB => ⟨?_, ?_, ?_⟩⟩
  · rw [if_neg hB] at d1
    unfold f_X5_statement
    rw [p_is0 (c := 112) hN hi (by rw [hc]; decide), p_lt2, if_pos (rfl : (0 : Int32) = 0), p_is0 (c := 99) hN hi (by rw [hc]; decide), p_lt2, if_pos (rfl : (0 : Int32) = 0), p_is0 (c := 108) hN hi (by rw [hc]; decide), p_lt2, if_pos (rfl : (0 : Int32) = 0), p_is0 (c := 102) hN hi (by rw [hc]; decide), p_lt2, if_pos (rfl : (0 : Int32) = 0), p_is0 (c := 111) hN hi (by rw [hc]; decide), p_lt2, if_pos (rfl : (0 : Int32) = 0), if_neg hNi, hat, if_neg (by rw [hc]; decide : ¬ sg i = 98), if_pos hc, p_oa1 i, d1, p_lt2, if_pos (rfl : (0 : Int32) = 0)]
    all_goals rfl
  · rw [if_pos hB] at d1
    unfold f_X5_statement
    rw [p_is0 (c := 112) hN hi (by rw [hc]; decide), p_lt2, if_pos (rfl : (0 : Int32) = 0), p_is0 (c := 99) hN hi (by rw [hc]; decide), p_lt2, if_pos (rfl : (0 : Int32) = 0), p_is0 (c := 108) hN hi (by rw [hc]; decide), p_lt2, if_pos (rfl : (0 : Int32) = 0), p_is0 (c := 102) hN hi (by rw [hc]; decide), p_lt2, if_pos (rfl : (0 : Int32) = 0), p_is0 (c := 111) hN hi (by rw [hc]; decide), p_lt2, if_pos (rfl : (0 : Int32) = 0), if_neg hNi, hat, if_neg (by rw [hc]; decide : ¬ sg i = 98), if_pos hc, p_oa1 i, d1, p_lt2, if_neg (by decide : ¬ (1 : Int32) = 0), if_pos (rfl : (0 : Int32) = 0)]
    all_goals rfl
  · rw [if_pos hB] at d1
    unfold f_X5_statement
    rw [p_is0 (c := 112) hN hi (by rw [hc]; decide), p_lt2, if_pos (rfl : (0 : Int32) = 0), p_is0 (c := 99) hN hi (by rw [hc]; decide), p_lt2, if_pos (rfl : (0 : Int32) = 0), p_is0 (c := 108) hN hi (by rw [hc]; decide), p_lt2, if_pos (rfl : (0 : Int32) = 0), p_is0 (c := 102) hN hi (by rw [hc]; decide), p_lt2, if_pos (rfl : (0 : Int32) = 0), p_is0 (c := 111) hN hi (by rw [hc]; decide), p_lt2, if_pos (rfl : (0 : Int32) = 0), if_neg hNi, hat, if_neg (by rw [hc]; decide : ¬ sg i = 98), if_pos hc, p_oa1 i, d1, p_lt2, if_neg (by decide : ¬ (1 : Int32) = 0), if_neg (by decide : ¬ (1 : Int32) = 0), z0]
    all_goals rfl
  · have g := d2 hB
    exact g 0 (by omega)

theorem p_s119 {N i : Nat} (hN : N ≤ 96) (hi : i < N) {sg va : Nat → Int32} {s l b rb lw dr pl : Int32} {fo ca sd kd nr fr fe : Nat → Int32} (hc : sg i = 119) :
    ∃ V', (¬ (p_go N sg (List.replicate 1 100) (i + 1)).1 = true → ∀ p1 : Int32, f_X5_statement s l b rb lw dr pl (Int32.ofNat N) (Int32.ofNat i) fo ca sd kd nr fr fe sg va p1 = ((-1), s, l, b, rb, lw, dr, pl, Int32.ofNat (p_go N sg (List.replicate 1 100) (i + 1)).2, fo, ca, sd, kd, nr, fr, fe, V')) ∧
      ((p_go N sg (List.replicate 1 100) (i + 1)).1 = true → f_X5_statement s l b rb lw dr pl (Int32.ofNat N) (Int32.ofNat i) fo ca sd kd nr fr fe sg va 0 = (1, s, l, b, rb, lw, dr, pl, Int32.ofNat (p_go N sg (List.replicate 1 100) (i + 1)).2, fo, ca, sd, kd, nr, fr, fe, V') ∧ f_X5_statement s l b rb lw dr pl (Int32.ofNat N) (Int32.ofNat i) fo ca sd kd nr fr fe sg va 1 = (if V' 0 ≤ 3 then (1, s, l, b, rb, V' 0, dr, pl, Int32.ofNat (p_go N sg (List.replicate 1 100) (i + 1)).2, fo, ca, sd, kd, nr, fr, fe, V') else (0, s, l, b, rb, lw, dr, pl, Int32.ofNat (p_go N sg (List.replicate 1 100) (i + 1)).2, fo, ca, sd, kd, nr, fr, fe, V')) ∧ V' 0 = sg (i + 1) - 48) := by
  have hNi : ¬ Int32.ofNat N ≤ Int32.ofNat i := by rw [p_ole (by omega) (by omega)]; omega
  have hat : (Int32.ofNat i).toNatClampNeg = i := p_on (by omega)
  obtain ⟨V', d1, d2, -⟩ := p_dig N hN sg 0 1 (i + 1) va (by omega) (by omega)
  have d1 : f_X5_digits (Int32.ofNat N) (Int32.ofNat (i + 1)) sg va (0 : Int32) (1 : Int32) = _ := d1
  obtain ⟨z0, z1, -⟩ := p_tn
  refine ⟨V', fun hB p1 => ?_, fun hB => ⟨?_, ?_, ?_⟩⟩
  · rw [if_neg hB] at d1
    unfold f_X5_statement
    rw [p_is0 (c := 112) hN hi (by rw [hc]; decide), p_lt2, if_pos (rfl : (0 : Int32) = 0), p_is0 (c := 99) hN hi (by rw [hc]; decide), p_lt2, if_pos (rfl : (0 : Int32) = 0), p_is0 (c := 108) hN hi (by rw [hc]; decide), p_lt2, if_pos (rfl : (0 : Int32) = 0), p_is0 (c := 102) hN hi (by rw [hc]; decide), p_lt2, if_pos (rfl : (0 : Int32) = 0), p_is0 (c := 111) hN hi (by rw [hc]; decide), p_lt2, if_pos (rfl : (0 : Int32) = 0), if_neg hNi, hat, if_neg (by rw [hc]; decide : ¬ sg i = 98), if_neg (by rw [hc]; decide : ¬ sg i = 114), if_pos hc, p_oa1 i, d1, p_lt2, if_pos (rfl : (0 : Int32) = 0)]
    all_goals rfl
  · rw [if_pos hB] at d1
    unfold f_X5_statement
    rw [p_is0 (c := 112) hN hi (by rw [hc]; decide), p_lt2, if_pos (rfl : (0 : Int32) = 0), p_is0 (c := 99) hN hi (by rw [hc]; decide), p_lt2, if_pos (rfl : (0 : Int32) = 0), p_is0 (c := 108) hN hi (by rw [hc]; decide), p_lt2, if_pos (rfl : (0 : Int32) = 0), p_is0 (c := 102) hN hi (by rw [hc]; decide), p_lt2, if_pos (rfl : (0 : Int32) = 0), p_is0 (c := 111) hN hi (by rw [hc]; decide), p_lt2, if_pos (rfl : (0 : Int32) = 0), if_neg hNi, hat, if_neg (by rw [hc]; decide : ¬ sg i = 98), if_neg (by rw [hc]; decide : ¬ sg i = 114), if_pos hc, p_oa1 i, d1, p_lt2, if_neg (by decide : ¬ (1 : Int32) = 0), if_pos (rfl : (0 : Int32) = 0)]
    all_goals rfl
  · rw [if_pos hB] at d1
    unfold f_X5_statement
    rw [p_is0 (c := 112) hN hi (by rw [hc]; decide), p_lt2, if_pos (rfl : (0 : Int32) = 0), p_is0 (c := 99) hN hi (by rw [hc]; decide), p_lt2, if_pos (rfl : (0 : Int32) = 0), p_is0 (c := 108) hN hi (by rw [hc]; decide), p_lt2, if_pos (rfl : (0 : Int32) = 0), p_is0 (c := 102) hN hi (by rw [hc]; decide), p_lt2, if_pos (rfl : (0 : Int32) = 0), p_is0 (c := 111) hN hi (by rw [hc]; decide), p_lt2, if_pos (rfl : (0 : Int32) = 0), if_neg hNi, hat, if_neg (by rw [hc]; decide : ¬ sg i = 98), if_neg (by rw [hc]; decide : ¬ sg i = 114), if_pos hc, p_oa1 i, d1, p_lt2, if_neg (by decide : ¬ (1 : Int32) = 0), if_neg (by decide : ¬ (1 : Int32) = 0), z0]
    all_goals rfl
  · have g := d2 hB
    exact g 0 (by omega)

theorem p_s100 {N i : Nat} (hN : N ≤ 96) (hi : i < N) {sg va : Nat → Int32} {s l b rb lw dr pl : Int32} {fo ca sd kd nr fr fe : Nat → Int32} (hc : sg i = 100) :
    ∃ V', (¬ (p_go N sg (List.replicate 1 100) (i + 1)).1 = true → ∀ p1 : Int32, f_X5_statement s l b rb lw dr pl (Int32.ofNat N) (Int32.ofNat i) fo ca sd kd nr fr fe sg va p1 = ((-1), s, l, b, rb, lw, dr, pl, Int32.ofNat (p_go N sg (List.replicate 1 100) (i + 1)).2, fo, ca, sd, kd, nr, fr, fe, V')) ∧
      ((p_go N sg (List.replicate 1 100) (i + 1)).1 = true → f_X5_statement s l b rb lw dr pl (Int32.ofNat N) (Int32.ofNat i) fo ca sd kd nr fr fe sg va 0 = (1, s, l, b, rb, lw, dr, pl, Int32.ofNat (p_go N sg (List.replicate 1 100) (i + 1)).2, fo, ca, sd, kd, nr, fr, fe, V') ∧ f_X5_statement s l b rb lw dr pl (Int32.ofNat N) (Int32.ofNat i) fo ca sd kd nr fr fe sg va 1 = (if V' 0 ≤ 9 then (1, s, l, b, rb, lw, V' 0, pl, Int32.ofNat (p_go N sg (List.replicate 1 100) (i + 1)).2, fo, ca, sd, kd, nr, fr, fe, V') else (0, s, l, b, rb, lw, dr, pl, Int32.ofNat (p_go N sg (List.replicate 1 100) (i + 1)).2, fo, ca, sd, kd, nr, fr, fe, V')) ∧ V' 0 = sg (i + 1) - 48) := by
  have hNi : ¬ Int32.ofNat N ≤ Int32.ofNat i := by rw [p_ole (by omega) (by omega)]; omega
  have hat : (Int32.ofNat i).toNatClampNeg = i := p_on (by omega)
  obtain ⟨V', d1, d2, -⟩ := p_dig N hN sg 0 1 (i + 1) va (by omega) (by omega)
  have d1 : f_X5_digits (Int32.ofNat N) (Int32.ofNat (i + 1)) sg va (0 : Int32) (1 : Int32) = _ := d1
  obtain ⟨z0, z1, -⟩ := p_tn
  refine ⟨V', fun hB p1 => ?_, fun hB => ⟨?_, ?_, ?_⟩⟩
  · rw [if_neg hB] at d1
    unfold f_X5_statement
    rw [p_is0 (c := 112) hN hi (by rw [hc]; decide), p_lt2, if_pos (rfl : (0 : Int32) = 0), p_is0 (c := 99) hN hi (by rw [hc]; decide), p_lt2, if_pos (rfl : (0 : Int32) = 0), p_is0 (c := 108) hN hi (by rw [hc]; decide), p_lt2, if_pos (rfl : (0 : Int32) = 0), p_is0 (c := 102) hN hi (by rw [hc]; decide), p_lt2, if_pos (rfl : (0 : Int32) = 0), p_is0 (c := 111) hN hi (by rw [hc]; decide), p_lt2, if_pos (rfl : (0 : Int32) = 0), if_neg hNi, hat, if_neg (by rw [hc]; decide : ¬ sg i = 98), if_neg (by rw [hc]; decide : ¬ sg i = 114), if_neg (by rw [hc]; decide : ¬ sg i = 119), if_pos hc, p_oa1 i, d1, p_lt2, if_pos (rfl : (0 : Int32) = 0)]
    all_goals rfl
  · rw [if_pos hB] at d1
    unfold f_X5_statement
    rw [p_is0 (c := 112) hN hi (by rw [hc]; decide), p_lt2, if_pos (rfl : (0 : Int32) = 0), p_is0 (c := 99) hN hi (by rw [hc]; decide), p_lt2, if_pos (rfl : (0 : Int32) = 0), p_is0 (c := 108) hN hi (by rw [hc]; decide), p_lt2, if_pos (rfl : (0 : Int32) = 0), p_is0 (c := 102) hN hi (by rw [hc]; decide), p_lt2, if_pos (rfl : (0 : Int32) = 0), p_is0 (c := 111) hN hi (by rw [hc]; decide), p_lt2, if_pos (rfl : (0 : Int32) = 0), if_neg hNi, hat, if_neg (by rw [hc]; decide : ¬ sg i = 98), if_neg (by rw [hc]; decide : ¬ sg i = 114), if_neg (by rw [hc]; decide : ¬ sg i = 119), if_pos hc, p_oa1 i, d1, p_lt2, if_neg (by decide : ¬ (1 : Int32) = 0), if_pos (rfl : (0 : Int32) = 0)]
    all_goals rfl
  · rw [if_pos hB] at d1
    unfold f_X5_statement
    rw [p_is0 (c := 112) hN hi (by rw [hc]; decide), p_lt2, if_pos (rfl : (0 : Int32) = 0), p_is0 (c := 99) hN hi (by rw [hc]; decide), p_lt2, if_pos (rfl : (0 : Int32) = 0), p_is0 (c := 108) hN hi (by rw [hc]; decide), p_lt2, if_pos (rfl : (0 : Int32) = 0), p_is0 (c := 102) hN hi (by rw [hc]; decide), p_lt2, if_pos (rfl : (0 : Int32) = 0), p_is0 (c := 111) hN hi (by rw [hc]; decide), p_lt2, if_pos (rfl : (0 : Int32) = 0), if_neg hNi, hat, if_neg (by rw [hc]; decide : ¬ sg i = 98), if_neg (by rw [hc]; decide : ¬ sg i = 114), if_neg (by rw [hc]; decide : ¬ sg i = 119), if_pos hc, p_oa1 i, d1, p_lt2, if_neg (by decide : ¬ (1 : Int32) = 0), if_neg (by decide : ¬ (1 : Int32) = 0), z0]
    all_goals rfl
  · have g := d2 hB
    exact g 0 (by omega)

theorem p_s108 {N i : Nat} (hN : N ≤ 96) (hi : i < N) {sg va : Nat → Int32} {s l b rb lw dr pl : Int32} {fo ca sd kd nr fr fe : Nat → Int32} (hc : sg i = 108) :
    ∃ V', (¬ (p_go N sg [115, 100] (i + 1)).1 = true → ∀ p1 : Int32, f_X5_statement s l b rb lw dr pl (Int32.ofNat N) (Int32.ofNat i) fo ca sd kd nr fr fe sg va p1 = ((-1), s, l, b, rb, lw, dr, pl, Int32.ofNat (p_go N sg [115, 100] (i + 1)).2, fo, ca, sd, kd, nr, fr, fe, V')) ∧
      ((p_go N sg [115, 100] (i + 1)).1 = true → f_X5_statement s l b rb lw dr pl (Int32.ofNat N) (Int32.ofNat i) fo ca sd kd nr fr fe sg va 0 = (1, s, l, b, rb, lw, dr, pl, Int32.ofNat (p_go N sg [115, 100] (i + 1)).2, fo, ca, sd, kd, nr, fr, fe, V') ∧ f_X5_statement s l b rb lw dr pl (Int32.ofNat N) (Int32.ofNat i) fo ca sd kd nr fr fe sg va 1 = (if V' 0 ≤ 6 then (1, s, (if sg (i + 1) = 45 then 6 - V' 0 else 6 + V' 0), b, rb, lw, dr, pl, Int32.ofNat (p_go N sg [115, 100] (i + 1)).2, fo, ca, sd, kd, nr, fr, fe, V') else (0, s, l, b, rb, lw, dr, pl, Int32.ofNat (p_go N sg [115, 100] (i + 1)).2, fo, ca, sd, kd, nr, fr, fe, V')) ∧ V' 0 = sg (i + 2) - 48) := by
  have hNi : ¬ Int32.ofNat N ≤ Int32.ofNat i := by rw [p_ole (by omega) (by omega)]; omega
  have hat : (Int32.ofNat i).toNatClampNeg = i := p_on (by omega)
  obtain ⟨z0, z1, -⟩ := p_tn
  by_cases h1 : i + 1 < N
  · by_cases s1 : sg (i + 1) = 45
    · obtain ⟨V', d1, d2, -⟩ := p_dig N hN sg 0 1 (i + 1 + 1) va (by omega) (by omega)
      have d1 : f_X5_digits (Int32.ofNat N) (Int32.ofNat (i + 1 + 1)) sg va (0 : Int32) (1 : Int32) = _ := d1
      have eB : (p_go N sg [115, 100] (i + 1)) = p_go N sg (List.replicate 1 100) (i + 1 + 1) := by
        rw [p_go_c, if_pos h1, if_neg (by rw [p_f115, s1]; decide)]; rfl
      rw [eB]
      refine ⟨V', fun hB p1 => ?_, fun hB => ⟨?_, ?_, d2 hB 0 (by omega)⟩⟩
      · rw [if_neg hB] at d1
        unfold f_X5_statement
        rw [p_is0 (c := 112) hN hi (by rw [hc]; decide), p_lt2, if_pos (rfl : (0 : Int32) = 0), p_is0 (c := 99) hN hi (by rw [hc]; decide), p_lt2, if_pos (rfl : (0 : Int32) = 0), p_is1 hN hi hc, p_lt2, if_neg (by decide : ¬ (1 : Int32) = 0), p_is1 (i := i + 1) hN h1 s1, p_lt2, if_neg (by decide : ¬ (1 : Int32) = 0), d1, p_lt2, if_pos (rfl : (0 : Int32) = 0)]
        all_goals rfl
      · rw [if_pos hB] at d1
        unfold f_X5_statement
        rw [p_is0 (c := 112) hN hi (by rw [hc]; decide), p_lt2, if_pos (rfl : (0 : Int32) = 0), p_is0 (c := 99) hN hi (by rw [hc]; decide), p_lt2, if_pos (rfl : (0 : Int32) = 0), p_is1 hN hi hc, p_lt2, if_neg (by decide : ¬ (1 : Int32) = 0), p_is1 (i := i + 1) hN h1 s1, p_lt2, if_neg (by decide : ¬ (1 : Int32) = 0), d1, p_lt2, if_neg (by decide : ¬ (1 : Int32) = 0), if_pos (rfl : (0 : Int32) = 0)]
        all_goals rfl
      · rw [if_pos hB] at d1
        unfold f_X5_statement
        rw [p_is0 (c := 112) hN hi (by rw [hc]; decide), p_lt2, if_pos (rfl : (0 : Int32) = 0), p_is0 (c := 99) hN hi (by rw [hc]; decide), p_lt2, if_pos (rfl : (0 : Int32) = 0), p_is1 hN hi hc, p_lt2, if_neg (by decide : ¬ (1 : Int32) = 0), p_is1 (i := i + 1) hN h1 s1, p_lt2, if_neg (by decide : ¬ (1 : Int32) = 0), d1, p_lt2, if_neg (by decide : ¬ (1 : Int32) = 0), if_neg (by decide : ¬ (1 : Int32) = 0), z0, if_pos s1]
        all_goals rfl
    · by_cases s2 : sg (i + 1) = 43
      · clear s1
        have s1 := s2
        obtain ⟨V', d1, d2, -⟩ := p_dig N hN sg 0 1 (i + 1 + 1) va (by omega) (by omega)
        have d1 : f_X5_digits (Int32.ofNat N) (Int32.ofNat (i + 1 + 1)) sg va (0 : Int32) (1 : Int32) = _ := d1
        have eB : (p_go N sg [115, 100] (i + 1)) = p_go N sg (List.replicate 1 100) (i + 1 + 1) := by
          rw [p_go_c, if_pos h1, if_neg (by rw [p_f115, s1]; decide)]; rfl
        rw [eB]
        refine ⟨V', fun hB p1 => ?_, fun hB => ⟨?_, ?_, d2 hB 0 (by omega)⟩⟩
        · rw [if_neg hB] at d1
          unfold f_X5_statement
          rw [p_is0 (c := 112) hN hi (by rw [hc]; decide), p_lt2, if_pos (rfl : (0 : Int32) = 0), p_is0 (c := 99) hN hi (by rw [hc]; decide), p_lt2, if_pos (rfl : (0 : Int32) = 0), p_is1 hN hi hc, p_lt2, if_neg (by decide : ¬ (1 : Int32) = 0), p_is0 (i := i + 1) (c := 45) hN h1 (by rw [s1]; decide), p_lt2, if_pos (rfl : (0 : Int32) = 0), p_is1 (i := i + 1) hN h1 s1, p_lt2, if_neg (by decide : ¬ (1 : Int32) = 0), d1, p_lt2, if_pos (rfl : (0 : Int32) = 0)]
          all_goals rfl
        · rw [if_pos hB] at d1
          unfold f_X5_statement
          rw [p_is0 (c := 112) hN hi (by rw [hc]; decide), p_lt2, if_pos (rfl : (0 : Int32) = 0), p_is0 (c := 99) hN hi (by rw [hc]; decide), p_lt2, if_pos (rfl : (0 : Int32) = 0), p_is1 hN hi hc, p_lt2, if_neg (by decide : ¬ (1 : Int32) = 0), p_is0 (i := i + 1) (c := 45) hN h1 (by rw [s1]; decide), p_lt2, if_pos (rfl : (0 : Int32) = 0), p_is1 (i := i + 1) hN h1 s1, p_lt2, if_neg (by decide : ¬ (1 : Int32) = 0), d1, p_lt2, if_neg (by decide : ¬ (1 : Int32) = 0), if_pos (rfl : (0 : Int32) = 0)]
          all_goals rfl
        · rw [if_pos hB] at d1
          unfold f_X5_statement
          rw [p_is0 (c := 112) hN hi (by rw [hc]; decide), p_lt2, if_pos (rfl : (0 : Int32) = 0), p_is0 (c := 99) hN hi (by rw [hc]; decide), p_lt2, if_pos (rfl : (0 : Int32) = 0), p_is1 hN hi hc, p_lt2, if_neg (by decide : ¬ (1 : Int32) = 0), p_is0 (i := i + 1) (c := 45) hN h1 (by rw [s1]; decide), p_lt2, if_pos (rfl : (0 : Int32) = 0), p_is1 (i := i + 1) hN h1 s1, p_lt2, if_neg (by decide : ¬ (1 : Int32) = 0), d1, p_lt2, if_neg (by decide : ¬ (1 : Int32) = 0), if_neg (by decide : ¬ (1 : Int32) = 0), z0, if_neg (by rw [s1]; decide : ¬ sg (i + 1) = 45)]
          all_goals rfl
      · have eB : (p_go N sg [115, 100] (i + 1)) = (false, i + 1) := by
          rw [p_go_c, if_pos h1, if_pos (by rw [p_f115, if_neg s2, if_neg s1])]
        rw [eB]
        refine ⟨va, fun _ p1 => ?_, fun h => absurd (show false = true from h) (by decide)⟩
        unfold f_X5_statement
        rw [p_is0 (c := 112) hN hi (by rw [hc]; decide), p_lt2, if_pos (rfl : (0 : Int32) = 0), p_is0 (c := 99) hN hi (by rw [hc]; decide), p_lt2, if_pos (rfl : (0 : Int32) = 0), p_is1 hN hi hc, p_lt2, if_neg (by decide : ¬ (1 : Int32) = 0), p_is0 (i := i + 1) (c := 45) hN h1 s1, p_lt2, if_pos (rfl : (0 : Int32) = 0), p_is0 (i := i + 1) (c := 43) hN h1 s2, p_lt2, if_pos (rfl : (0 : Int32) = 0)]
        all_goals rfl
  · have e : i + 1 = N := by omega
    have eB : (p_go N sg [115, 100] (i + 1)) = (false, i + 1) := by
      rw [p_go_c, if_neg h1]
    rw [eB]
    refine ⟨va, fun _ p1 => ?_, fun h => absurd (show false = true from h) (by decide)⟩
    unfold f_X5_statement
    rw [p_is0 (c := 112) hN hi (by rw [hc]; decide), p_lt2, if_pos (rfl : (0 : Int32) = 0), p_is0 (c := 99) hN hi (by rw [hc]; decide), p_lt2, if_pos (rfl : (0 : Int32) = 0), p_is1 hN hi hc, p_lt2, if_neg (by decide : ¬ (1 : Int32) = 0), show Int32.ofNat (i + 1) = Int32.ofNat N by rw [e], p_isN, p_lt2, if_pos (rfl : (0 : Int32) = 0), p_isN, p_lt2, if_pos (rfl : (0 : Int32) = 0)]
    all_goals rfl

theorem p_s112 {N i : Nat} (hN : N ≤ 96) (hi : i < N) {sg va : Nat → Int32} {s l b rb lw dr pl : Int32} {fo ca sd kd nr fr fe : Nat → Int32} (hsg : ∀ k : Nat, k < N → r_in (sg k) 255) (hc : sg i = 112) :
    ∃ V', (¬ (p_go N sg [100, 107, 100, 100, 100] (i + 1)).1 = true → ∀ p1 : Int32, f_X5_statement s l b rb lw dr pl (Int32.ofNat N) (Int32.ofNat i) fo ca sd kd nr fr fe sg va p1 = ((-1), s, l, b, rb, lw, dr, pl, Int32.ofNat (p_go N sg [100, 107, 100, 100, 100] (i + 1)).2, fo, ca, sd, kd, nr, fr, fe, V')) ∧
      ((p_go N sg [100, 107, 100, 100, 100] (i + 1)).1 = true → f_X5_statement s l b rb lw dr pl (Int32.ofNat N) (Int32.ofNat i) fo ca sd kd nr fr fe sg va 0 = (1, s, l, b, rb, lw, dr, pl, Int32.ofNat (p_go N sg [100, 107, 100, 100, 100] (i + 1)).2, fo, ca, sd, kd, nr, fr, fe, V') ∧ f_X5_statement s l b rb lw dr pl (Int32.ofNat N) (Int32.ofNat i) fo ca sd kd nr fr fe sg va 1 = (if 1 < V' 0 then (0, s, l, b, rb, lw, dr, pl, Int32.ofNat (p_go N sg [100, 107, 100, 100, 100] (i + 1)).2, fo, ca, sd, kd, nr, fr, fe, V') else (if pl = 6 then (0, s, l, b, rb, lw, dr, pl, Int32.ofNat (p_go N sg [100, 107, 100, 100, 100] (i + 1)).2, fo, ca, sd, kd, nr, fr, fe, V') else (1, s, l, b, rb, lw, dr, pl + 1, Int32.ofNat (p_go N sg [100, 107, 100, 100, 100] (i + 1)).2, fo, ca, upd sd pl.toNatClampNeg (V' 0), upd kd pl.toNatClampNeg (f_X2_kind (sg (i + 2))), upd nr pl.toNatClampNeg (V' 1), upd fr pl.toNatClampNeg (V' 2), upd fe pl.toNatClampNeg (V' 3), V'))) ∧ V' 0 = sg (i + 1) - 48 ∧ V' 1 = sg (i + 3) - 48 ∧ V' 2 = sg (i + 4) - 48 ∧ V' 3 = sg (i + 5) - 48) := by
  have hNi : ¬ Int32.ofNat N ≤ Int32.ofNat i := by rw [p_ole (by omega) (by omega)]; omega
  have hat : (Int32.ofNat i).toNatClampNeg = i := p_on (by omega)
  obtain ⟨z0, z1, z2, z3⟩ := p_tn
  obtain ⟨V1, d1, d2, -⟩ := p_dig N hN sg 0 1 (i + 1) va (by omega) (by omega)
  have d1 : f_X5_digits (Int32.ofNat N) (Int32.ofNat (i + 1)) sg va (0 : Int32) (1 : Int32) = _ := d1
  have ap := p_go_app N sg (List.replicate 1 100) [107, 100, 100, 100] (i + 1)
  have ap : (p_go N sg [100, 107, 100, 100, 100] (i + 1)) = _ := ap
  by_cases hA : (p_go N sg (List.replicate 1 100) (i + 1)).1 = true
  · have k1 := p_go_true N sg (List.replicate 1 100) (i + 1) hA
    rw [if_pos hA] at d1 ap
    have k1 : (p_go N sg (List.replicate 1 100) (i + 1)).2 = i + 2 := k1
    rw [k1] at d1 ap
    have d2 := d2 hA 0 (by omega)
    by_cases h2 : i + 2 < N
    · have hN2 : ¬ Int32.ofNat N ≤ Int32.ofNat (i + 2) := by rw [p_ole (by omega) (by omega)]; omega
      have hat2 : (Int32.ofNat (i + 2)).toNatClampNeg = i + 2 := p_on (by omega)
      obtain ⟨x1, x2, x3⟩ := p_ix5 (hsg (i + 2) h2)
      rw [p_go_c N sg 107 [100, 100, 100] (i + 2), if_pos h2] at ap
      by_cases hk : f_X2_kind (sg (i + 2)) < 0
      · rw [if_pos (by rw [p_f107, if_pos hk])] at ap
        rw [ap]
        refine ⟨V1, fun _ p1 => ?_, fun h => absurd (show false = true from h) (by decide)⟩
        unfold f_X5_statement
        rw [p_is1 hN hi hc, p_lt2, if_neg (by decide : ¬ (1 : Int32) = 0), d1, p_lt2, if_neg (by decide : ¬ (1 : Int32) = 0), if_neg hN2, hat2]
        by_cases h0 : sg (i + 2) ≤ 0
        · rw [if_pos h0]
        · rw [if_neg h0, p_lt, x2, if_neg (Int32.not_le.2 hk)]
      · rw [if_neg (by rw [p_f107, if_neg hk]; decide)] at ap
        have h0 : ¬ sg (i + 2) ≤ 0 := fun h => hk (by rw [x1 h]; decide)
        obtain ⟨V2, g1, g2, g3⟩ := p_dig N hN sg 1 3 (i + 2 + 1) V1 (by omega) (by omega)
        have g1 : f_X5_digits (Int32.ofNat N) (Int32.ofNat (i + 2 + 1)) sg V1 (1 : Int32) (3 : Int32) = _ := g1
        have ap : (p_go N sg [100, 107, 100, 100, 100] (i + 1)) = p_go N sg (List.replicate 3 100) (i + 2 + 1) := ap
        rw [ap]
        refine ⟨V2, fun hB p1 => ?_, fun hB => ⟨?_, ?_, ?_⟩⟩
        · rw [if_neg hB] at g1
          unfold f_X5_statement
          rw [p_is1 hN hi hc, p_lt2, if_neg (by decide : ¬ (1 : Int32) = 0), d1, p_lt2, if_neg (by decide : ¬ (1 : Int32) = 0), if_neg hN2, hat2, if_neg h0, p_lt, x2, if_pos (Int32.not_lt.1 hk), p_oa1 (i + 2), g1, p_lt2, if_pos (rfl : (0 : Int32) = 0)]
          all_goals rfl
        · rw [if_pos hB] at g1
          unfold f_X5_statement
          rw [p_is1 hN hi hc, p_lt2, if_neg (by decide : ¬ (1 : Int32) = 0), d1, p_lt2, if_neg (by decide : ¬ (1 : Int32) = 0), if_neg hN2, hat2, if_neg h0, p_lt, x2, if_pos (Int32.not_lt.1 hk), p_oa1 (i + 2), g1, p_lt2, if_neg (by decide : ¬ (1 : Int32) = 0), if_pos (rfl : (0 : Int32) = 0)]
          all_goals rfl
        · rw [if_pos hB] at g1
          unfold f_X5_statement
          rw [p_is1 hN hi hc, p_lt2, if_neg (by decide : ¬ (1 : Int32) = 0), d1, p_lt2, if_neg (by decide : ¬ (1 : Int32) = 0), if_neg hN2, hat2, if_neg h0, p_lt, x2, if_pos (Int32.not_lt.1 hk), p_oa1 (i + 2), g1, p_lt2, if_neg (by decide : ¬ (1 : Int32) = 0), if_neg (by decide : ¬ (1 : Int32) = 0), z0, z1, z2, z3]
          all_goals rfl
        · have w := g2 hB
          exact ⟨(g3 0 (by omega)).trans d2, w 0 (by omega), w 1 (by omega), w 2 (by omega)⟩
    · rw [p_go_c N sg 107 [100, 100, 100] (i + 2), if_neg h2] at ap
      rw [ap]
      refine ⟨V1, fun _ p1 => ?_, fun h => absurd (show false = true from h) (by decide)⟩
      have hN2 : Int32.ofNat N ≤ Int32.ofNat (i + 2) := by rw [p_ole (by omega) (by omega)]; omega
      unfold f_X5_statement
      rw [p_is1 hN hi hc, p_lt2, if_neg (by decide : ¬ (1 : Int32) = 0), d1, p_lt2, if_neg (by decide : ¬ (1 : Int32) = 0), if_pos hN2]
      all_goals rfl
  · rw [if_neg hA] at d1 ap
    rw [ap]
    refine ⟨V1, fun _ p1 => ?_, fun h => absurd (show false = true from h) (by decide)⟩
    unfold f_X5_statement
    rw [p_is1 hN hi hc, p_lt2, if_neg (by decide : ¬ (1 : Int32) = 0), d1, p_lt2, if_pos (rfl : (0 : Int32) = 0)]
    all_goals rfl

theorem p_s0 {N i : Nat} (hN : N ≤ 96) (hi : i < N) {sg va : Nat → Int32} {s l b rb lw dr pl : Int32} {fo ca sd kd nr fr fe : Nat → Int32} (h0 : f_X2_shape (sg i) = 0) (p1 : Int32) : f_X5_statement s l b rb lw dr pl (Int32.ofNat N) (Int32.ofNat i) fo ca sd kd nr fr fe sg va p1 = ((-1), s, l, b, rb, lw, dr, pl, Int32.ofNat i, fo, ca, sd, kd, nr, fr, fe, va) := by
  have hNi : ¬ Int32.ofNat N ≤ Int32.ofNat i := by rw [p_ole (by omega) (by omega)]; omega
  have hat : (Int32.ofNat i).toNatClampNeg = i := p_on (by omega)
  obtain ⟨n98, n99, n100, n102, n108, n111, n112, n114, n119⟩ : ¬ sg i = 98 ∧ ¬ sg i = 99 ∧ ¬ sg i = 100 ∧ ¬ sg i = 102 ∧ ¬ sg i = 108 ∧ ¬ sg i = 111 ∧ ¬ sg i = 112 ∧ ¬ sg i = 114 ∧ ¬ sg i = 119 := by
    refine ⟨?_, ?_, ?_, ?_, ?_, ?_, ?_, ?_, ?_⟩ <;> (intro h; rw [h] at h0; exact absurd h0 (by decide))
  unfold f_X5_statement
  rw [p_is0 (c := 112) hN hi n112, p_lt2, if_pos (rfl : (0 : Int32) = 0), p_is0 (c := 99) hN hi n99, p_lt2, if_pos (rfl : (0 : Int32) = 0), p_is0 (c := 108) hN hi n108, p_lt2, if_pos (rfl : (0 : Int32) = 0), p_is0 (c := 102) hN hi n102, p_lt2, if_pos (rfl : (0 : Int32) = 0), p_is0 (c := 111) hN hi n111, p_lt2, if_pos (rfl : (0 : Int32) = 0), if_neg hNi, hat, if_neg n98, if_neg n114, if_neg n119, if_neg n100]
  all_goals rfl
theorem p_sN {N : Nat} (hN : N ≤ 96) {sg va : Nat → Int32} {s l b rb lw dr pl : Int32} {fo ca sd kd nr fr fe : Nat → Int32} (p1 : Int32) : f_X5_statement s l b rb lw dr pl (Int32.ofNat N) (Int32.ofNat N) fo ca sd kd nr fr fe sg va p1 = ((-1), s, l, b, rb, lw, dr, pl, Int32.ofNat N, fo, ca, sd, kd, nr, fr, fe, va) := by
  unfold f_X5_statement
  rw [p_isN, p_lt2, if_pos (rfl : (0 : Int32) = 0), p_isN, p_lt2, if_pos (rfl : (0 : Int32) = 0), p_isN, p_lt2, if_pos (rfl : (0 : Int32) = 0), p_isN, p_lt2, if_pos (rfl : (0 : Int32) = 0), p_isN, p_lt2, if_pos (rfl : (0 : Int32) = 0), if_pos (Int32.le_refl _)]
  all_goals rfl
/-- what a statement's first letter asks behind it, but ";" -/
def p_B (c : Int32) : List Int32 := (g_sByt.getD (f_X2_shape c) []).dropLast
theorem p_shs (x : Int32) : (x = 98 ∧ f_X2_shape x = 4) ∨ (x = 99 ∧ f_X2_shape x = 2) ∨ (x = 100 ∧ f_X2_shape x = 4) ∨ (x = 102 ∧ f_X2_shape x = 2) ∨ (x = 108 ∧ f_X2_shape x = 3) ∨ (x = 111 ∧ f_X2_shape x = 2) ∨ (x = 112 ∧ f_X2_shape x = 1) ∨ (x = 114 ∧ f_X2_shape x = 4) ∨ (x = 119 ∧ f_X2_shape x = 4) ∨ f_X2_shape x = 0 := by
  unfold f_X2_shape
  by_cases h98 : x = 98
  · rw [if_pos h98]; exact Or.inl ⟨h98, rfl⟩
  by_cases h99 : x = 99
  · rw [if_neg h98, if_pos h99]; exact Or.inr (Or.inl ⟨h99, rfl⟩)
  by_cases h100 : x = 100
  · rw [if_neg h98, if_neg h99, if_pos h100]; exact Or.inr (Or.inr (Or.inl ⟨h100, rfl⟩))
  by_cases h102 : x = 102
  · rw [if_neg h98, if_neg h99, if_neg h100, if_pos h102]; exact Or.inr (Or.inr (Or.inr (Or.inl ⟨h102, rfl⟩)))
  by_cases h108 : x = 108
  · rw [if_neg h98, if_neg h99, if_neg h100, if_neg h102, if_pos h108]; exact Or.inr (Or.inr (Or.inr (Or.inr (Or.inl ⟨h108, rfl⟩))))
  by_cases h111 : x = 111
  · rw [if_neg h98, if_neg h99, if_neg h100, if_neg h102, if_neg h108, if_pos h111]; exact Or.inr (Or.inr (Or.inr (Or.inr (Or.inr (Or.inl ⟨h111, rfl⟩)))))
  by_cases h112 : x = 112
  · rw [if_neg h98, if_neg h99, if_neg h100, if_neg h102, if_neg h108, if_neg h111, if_pos h112]; exact Or.inr (Or.inr (Or.inr (Or.inr (Or.inr (Or.inr (Or.inl ⟨h112, rfl⟩))))))
  by_cases h114 : x = 114
  · rw [if_neg h98, if_neg h99, if_neg h100, if_neg h102, if_neg h108, if_neg h111, if_neg h112, if_pos h114]; exact Or.inr (Or.inr (Or.inr (Or.inr (Or.inr (Or.inr (Or.inr (Or.inl ⟨h114, rfl⟩)))))))
  by_cases h119 : x = 119
  · rw [if_neg h98, if_neg h99, if_neg h100, if_neg h102, if_neg h108, if_neg h111, if_neg h112, if_neg h114, if_pos h119]; exact Or.inr (Or.inr (Or.inr (Or.inr (Or.inr (Or.inr (Or.inr (Or.inr (Or.inl ⟨h119, rfl⟩))))))))
  · rw [if_neg h98, if_neg h99, if_neg h100, if_neg h102, if_neg h108, if_neg h111, if_neg h112, if_neg h114, if_neg h119]; exact Or.inr (Or.inr (Or.inr (Or.inr (Or.inr (Or.inr (Or.inr (Or.inr (Or.inr rfl))))))))
/-- a statement read for its form alone -/
theorem p_sF {N i : Nat} (hN : N ≤ 96) (hi : i < N) {sg va : Nat → Int32} {s l b rb lw dr pl : Int32} {fo ca sd kd nr fr fe : Nat → Int32} (hsg : ∀ k : Nat, k < N → r_in (sg k) 255) (h0 : ¬ f_X2_shape (sg i) = 0) :
    ∃ V', f_X5_statement s l b rb lw dr pl (Int32.ofNat N) (Int32.ofNat i) fo ca sd kd nr fr fe sg va 0 = ((if (p_go N sg (p_B (sg i)) (i + 1)).1 = true then 1 else -1), s, l, b, rb, lw, dr, pl, Int32.ofNat (p_go N sg (p_B (sg i)) (i + 1)).2, fo, ca, sd, kd, nr, fr, fe, V') := by
  rcases p_shs (sg i) with ⟨hc, e⟩ | ⟨hc, e⟩ | ⟨hc, e⟩ | ⟨hc, e⟩ | ⟨hc, e⟩ | ⟨hc, e⟩ | ⟨hc, e⟩ | ⟨hc, e⟩ | ⟨hc, e⟩ | e
  · obtain ⟨V', h1, h2⟩ := p_s98 hN hi (va := va) (s := s) (l := l) (b := b) (rb := rb) (lw := lw) (dr := dr) (pl := pl) (fo := fo) (ca := ca) (sd := sd) (kd := kd) (nr := nr) (fr := fr) (fe := fe) hc
    have eB : p_B (sg i) = List.replicate 1 100 := by rw [hc]; decide
    rw [eB]
    refine ⟨V', ?_⟩
    by_cases hB : (p_go N sg (List.replicate 1 100) (i + 1)).1 = true
    · rw [if_pos hB]; exact (h2 hB).1
    · rw [if_neg hB]; exact h1 hB 0
  · obtain ⟨V', h1, h2⟩ := p_s99 hN hi (va := va) (s := s) (l := l) (b := b) (rb := rb) (lw := lw) (dr := dr) (pl := pl) (fo := fo) (ca := ca) (sd := sd) (kd := kd) (nr := nr) (fr := fr) (fe := fe) hc
    have eB : p_B (sg i) = List.replicate 2 100 := by rw [hc]; decide
    rw [eB]
    refine ⟨V', ?_⟩
    by_cases hB : (p_go N sg (List.replicate 2 100) (i + 1)).1 = true
    · rw [if_pos hB]; exact (h2 hB).1
    · rw [if_neg hB]; exact h1 hB 0
  · obtain ⟨V', h1, h2⟩ := p_s100 hN hi (va := va) (s := s) (l := l) (b := b) (rb := rb) (lw := lw) (dr := dr) (pl := pl) (fo := fo) (ca := ca) (sd := sd) (kd := kd) (nr := nr) (fr := fr) (fe := fe) hc
    have eB : p_B (sg i) = List.replicate 1 100 := by rw [hc]; decide
    rw [eB]
    refine ⟨V', ?_⟩
    by_cases hB : (p_go N sg (List.replicate 1 100) (i + 1)).1 = true
    · rw [if_pos hB]; exact (h2 hB).1
    · rw [if_neg hB]; exact h1 hB 0
  · obtain ⟨V', h1, h2⟩ := p_s102 hN hi (va := va) (s := s) (l := l) (b := b) (rb := rb) (lw := lw) (dr := dr) (pl := pl) (fo := fo) (ca := ca) (sd := sd) (kd := kd) (nr := nr) (fr := fr) (fe := fe) hc
    have eB : p_B (sg i) = List.replicate 2 100 := by rw [hc]; decide
    rw [eB]
    refine ⟨V', ?_⟩
    by_cases hB : (p_go N sg (List.replicate 2 100) (i + 1)).1 = true
    · rw [if_pos hB]; exact (h2 hB).1
    · rw [if_neg hB]; exact h1 hB 0
  · obtain ⟨V', h1, h2⟩ := p_s108 hN hi (va := va) (s := s) (l := l) (b := b) (rb := rb) (lw := lw) (dr := dr) (pl := pl) (fo := fo) (ca := ca) (sd := sd) (kd := kd) (nr := nr) (fr := fr) (fe := fe) hc
    have eB : p_B (sg i) = [115, 100] := by rw [hc]; decide
    rw [eB]
    refine ⟨V', ?_⟩
    by_cases hB : (p_go N sg ([115, 100]) (i + 1)).1 = true
    · rw [if_pos hB]; exact (h2 hB).1
    · rw [if_neg hB]; exact h1 hB 0
  · obtain ⟨V', h1, h2⟩ := p_s111 hN hi (va := va) (s := s) (l := l) (b := b) (rb := rb) (lw := lw) (dr := dr) (pl := pl) (fo := fo) (ca := ca) (sd := sd) (kd := kd) (nr := nr) (fr := fr) (fe := fe) hc
    have eB : p_B (sg i) = List.replicate 2 100 := by rw [hc]; decide
    rw [eB]
    refine ⟨V', ?_⟩
    by_cases hB : (p_go N sg (List.replicate 2 100) (i + 1)).1 = true
    · rw [if_pos hB]; exact (h2 hB).1
    · rw [if_neg hB]; exact h1 hB 0
  · obtain ⟨V', h1, h2⟩ := p_s112 hN hi (va := va) (s := s) (l := l) (b := b) (rb := rb) (lw := lw) (dr := dr) (pl := pl) (fo := fo) (ca := ca) (sd := sd) (kd := kd) (nr := nr) (fr := fr) (fe := fe) hsg hc
    have eB : p_B (sg i) = [100, 107, 100, 100, 100] := by rw [hc]; decide
    rw [eB]
    refine ⟨V', ?_⟩
    by_cases hB : (p_go N sg ([100, 107, 100, 100, 100]) (i + 1)).1 = true
    · rw [if_pos hB]; exact (h2 hB).1
    · rw [if_neg hB]; exact h1 hB 0
  · obtain ⟨V', h1, h2⟩ := p_s114 hN hi (va := va) (s := s) (l := l) (b := b) (rb := rb) (lw := lw) (dr := dr) (pl := pl) (fo := fo) (ca := ca) (sd := sd) (kd := kd) (nr := nr) (fr := fr) (fe := fe) hc
    have eB : p_B (sg i) = List.replicate 1 100 := by rw [hc]; decide
    rw [eB]
    refine ⟨V', ?_⟩
    by_cases hB : (p_go N sg (List.replicate 1 100) (i + 1)).1 = true
    · rw [if_pos hB]; exact (h2 hB).1
    · rw [if_neg hB]; exact h1 hB 0
  · obtain ⟨V', h1, h2⟩ := p_s119 hN hi (va := va) (s := s) (l := l) (b := b) (rb := rb) (lw := lw) (dr := dr) (pl := pl) (fo := fo) (ca := ca) (sd := sd) (kd := kd) (nr := nr) (fr := fr) (fe := fe) hc
    have eB : p_B (sg i) = List.replicate 1 100 := by rw [hc]; decide
    rw [eB]
    refine ⟨V', ?_⟩
    by_cases hB : (p_go N sg (List.replicate 1 100) (i + 1)).1 = true
    · rw [if_pos hB]; exact (h2 hB).1
    · rw [if_neg hB]; exact h1 hB 0
  · exact absurd e h0
