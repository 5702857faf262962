theorem pe_nat {x : Int32} (N : Nat) (h0 : 0 ≤ x) (h1 : x ≤ Int32.ofNat N) (hN : N < 2147483648) : ∃ n : Fin (N + 1), x = Int32.ofNat n := by
  have a : 0 ≤ x.toInt := by have := Int32.le_iff_toInt_le.1 h0; simpa using this
  have b : x.toInt ≤ N := by
    have := Int32.le_iff_toInt_le.1 h1
    rw [Int32.toInt_ofNat_of_lt (by simpa using hN)] at this; exact this
  refine ⟨⟨x.toInt.toNat, by omega⟩, ?_⟩
  apply Int32.toInt.inj
  rw [Int32.toInt_ofNat_of_lt (by show x.toInt.toNat < 2 ^ 31; omega)]
  show x.toInt = ((x.toInt.toNat : Nat) : Int)
  omega
theorem pe_t {x : Int32} (h : r_in x 9) : ∃ n : Fin 10, x = Int32.ofNat n := pe_nat 9 h.1 h.2 (by decide)
theorem pe_s {x : Int32} (h : m_Sec x) : ∃ n : Fin 25, x = Int32.ofNat n := pe_nat 24 h.1 h.2 (by decide)
theorem pe_l {x : Int32} (h : m_Ld x) : ∃ n : Fin 13, x = Int32.ofNat n := pe_nat 12 h.1 h.2 (by decide)
theorem pe_b {x : Int32} (h : m_Bl x) : x = 0 ∨ x = 1 := by
  obtain ⟨n, rfl⟩ := pe_nat 1 h.1 h.2 (by decide); exact (by decide : ∀ n : Fin 2, Int32.ofNat n = 0 ∨ Int32.ofNat n = 1) n
-- the mixing
def p_V (x : Int32) : Prop := 0 ≤ x ∧ x ≤ 1000000000
theorem p_mix_int {t x y : Int32} (ht : r_in t 10) (hx : p_V x) (hy : p_V y) :
    (((t.toInt64 * x.toInt64) + (((10 - t).toInt64) * y.toInt64)) / (10 : Int64)).toInt = (t.toInt * x.toInt + (10 - t.toInt) * y.toInt) / 10 := by
  obtain ⟨n, rfl⟩ := pe_nat 10 ht.1 ht.2 (by decide)
  have hx1 := Int32.le_iff_toInt_le.1 hx.1
  have hx2 := Int32.le_iff_toInt_le.1 hx.2
  have hy1 := Int32.le_iff_toInt_le.1 hy.1
  have hy2 := Int32.le_iff_toInt_le.1 hy.2
  have e0 : (0 : Int32).toInt = 0 := by decide
  have e1 : (1000000000 : Int32).toInt = 1000000000 := by decide
  rw [e0] at hx1 hy1
  rw [e1] at hx2 hy2
  have en : (Int32.ofNat n).toInt = n := (by decide : ∀ n : Fin 11, (Int32.ofNat n).toInt = n) n
  have em : (10 - Int32.ofNat n).toInt = 10 - (n : Int) := (by decide : ∀ n : Fin 11, (10 - Int32.ofNat n).toInt = 10 - (n : Int)) n
  have hn : (n : Int) ≤ 10 := by have := n.isLt; omega
  have A : (0 : Int) ≤ n * x.toInt := Int.mul_nonneg (by omega) hx1
  have A2 : (n : Int) * x.toInt ≤ 10 * 1000000000 := Int.mul_le_mul (by omega) hx2 hx1 (by omega)
  have B : (0 : Int) ≤ (10 - (n : Int)) * y.toInt := Int.mul_nonneg (by omega) hy1
  have B2 : (10 - (n : Int)) * y.toInt ≤ 10 * 1000000000 := Int.mul_le_mul (by omega) hy2 hy1 (by omega)
  rw [Int64.toInt_div, Int64.toInt_add, Int64.toInt_mul, Int64.toInt_mul]
  simp only [Int32.toInt_toInt64, en, em]
  have e10 : (10 : Int64).toInt = 10 := by decide
  rw [e10, Int.bmod_eq_of_le (n := (n : Int) * x.toInt) (by omega) (by omega), Int.bmod_eq_of_le (n := (10 - (n : Int)) * y.toInt) (by omega) (by omega), Int.bmod_eq_of_le (n := _ + _) (by omega) (by omega), Int.bmod_eq_of_le]
  · exact Int.tdiv_eq_ediv_of_nonneg (by omega)
  · have := Int.tdiv_eq_ediv_of_nonneg (a := (n : Int) * x.toInt + (10 - (n : Int)) * y.toInt) (b := 10) (by omega); omega
  · have := Int.tdiv_eq_ediv_of_nonneg (a := (n : Int) * x.toInt + (10 - (n : Int)) * y.toInt) (b := 10) (by omega); omega
theorem p_V_int {x : Int32} : p_V x ↔ 0 ≤ x.toInt ∧ x.toInt ≤ 1000000000 := by
  have e0 : (0 : Int32).toInt = 0 := by decide
  have e1 : (1000000000 : Int32).toInt = 1000000000 := by decide
  unfold p_V; rw [Int32.le_iff_toInt_le, Int32.le_iff_toInt_le, e0, e1]
theorem p_in_int {x : Int32} (N : Nat) (hN : N < 2147483648) : r_in x (Int32.ofNat N) ↔ 0 ≤ x.toInt ∧ x.toInt ≤ N := by
  have e0 : (0 : Int32).toInt = 0 := by decide
  unfold r_in; rw [Int32.le_iff_toInt_le, Int32.le_iff_toInt_le, e0, Int32.toInt_ofNat_of_lt (by simpa using hN)]
theorem p_mixI {t x y : Int} (ht : 0 ≤ t ∧ t ≤ 10) (hx : 0 ≤ x ∧ x ≤ 1000000000) (hy : 0 ≤ y ∧ y ≤ 1000000000) :
    0 ≤ (t * x + (10 - t) * y) / 10 ∧ (t * x + (10 - t) * y) / 10 ≤ 1000000000 := by
  have A : (0 : Int) ≤ t * x := Int.mul_nonneg (by omega) hx.1
  have A2 : t * x ≤ t * 1000000000 := Int.mul_le_mul_of_nonneg_left hx.2 (by omega)
  have B : (0 : Int) ≤ (10 - t) * y := Int.mul_nonneg (by omega) hy.1
  have B2 : (10 - t) * y ≤ (10 - t) * 1000000000 := Int.mul_le_mul_of_nonneg_left hy.2 (by omega)
  constructor <;> omega
theorem p_t10 {t : Int32} (ht : r_in t 9) : r_in t 10 := ⟨ht.1, Int32.le_trans ht.2 (by decide)⟩
theorem p_mix64 {t x y : Int32} (ht : r_in t 10) (hx : p_V x) (hy : p_V y) :
    (((t.toInt64 * x.toInt64) + (((10 - t).toInt64) * y.toInt64)) / (10 : Int64)) = (f_X4_mix t x y).toInt64 := by
  have h := p_mix_int ht hx hy
  have hr := p_mixI ((p_in_int 10 (by decide)).1 ht) (p_V_int.1 hx) (p_V_int.1 hy)
  apply Int64.toInt.inj
  rw [Int32.toInt_toInt64]
  unfold f_X4_mix
  rw [Int64.toInt_toInt32, Int.bmod_eq_of_le]
  · rw [h]; omega
  · rw [h]; omega
theorem p_mix_toInt {t x y : Int32} (ht : r_in t 10) (hx : p_V x) (hy : p_V y) :
    (f_X4_mix t x y).toInt = (t.toInt * x.toInt + (10 - t.toInt) * y.toInt) / 10 := by
  rw [← Int32.toInt_toInt64, ← p_mix64 ht hx hy, p_mix_int ht hx hy]
theorem p_mix_V {t x y : Int32} (ht : r_in t 10) (hx : p_V x) (hy : p_V y) : p_V (f_X4_mix t x y) := by
  rw [p_V_int, p_mix_toInt ht hx hy]
  exact p_mixI ((p_in_int 10 (by decide)).1 ht) (p_V_int.1 hx) (p_V_int.1 hy)
theorem p_mix_same {t x : Int32} (ht : r_in t 10) (hx : p_V x) : f_X4_mix t x x = x := by
  apply Int32.toInt.inj
  rw [p_mix_toInt ht hx hx, ← Int.add_mul]
  have : t.toInt + (10 - t.toInt) = 10 := by omega
  rw [this]; omega
theorem p_ten {r : Int32} (h : r_in r 9) : (10 : Int64) - r.toInt64 = (10 - r).toInt64 := by
  obtain ⟨n, rfl⟩ := pe_t h
  exact (by decide : ∀ n : Fin 10, (10 : Int64) - (Int32.ofNat n).toInt64 = (10 - Int32.ofNat n).toInt64) n
/-- the reference's shot in one -/
theorem p_nest {t r h x y : Int32} (ht : r_in t 10) (hr : r_in r 9) (hh : p_V h) (hx : p_V x) (hy : p_V y) :
    (((t.toInt64 * h.toInt64) + (((10 - t).toInt64) * (((r.toInt64 * x.toInt64) + (((10 : Int64) - r.toInt64) * y.toInt64)) / (10 : Int64)))) / (10 : Int64)).toInt32 = f_X4_mix t h (f_X4_mix r x y) := by
  rw [p_ten hr, p_mix64 (p_t10 hr) hx hy]; rfl
theorem p_fact (facts : Nat → Int32) (n : Fin 6) (w : Fin 5) : f_X3_fact facts (Int32.ofNat n) (Int32.ofNat w) = facts (5 * n + w) := by
  have h1 := (by decide : ∀ n : Fin 6, ∀ w : Fin 5, ¬ (Int32.ofNat n * 5 + Int32.ofNat w < 0)) n w
  have h2 := (by decide : ∀ n : Fin 6, ∀ w : Fin 5, (Int32.ofNat n * 5 + Int32.ofNat w < 30)) n w
  have h3 := (by decide : ∀ n : Fin 6, ∀ w : Fin 5, (Int32.ofNat n * 5 + Int32.ofNat w).toNatClampNeg = 5 * n.val + w.val) n w
  unfold f_X3_fact
  rw [if_neg h1, if_pos h2, h3]
theorem p_nat (n : Fin 31) : (Int32.ofNat n).toNatClampNeg = n.val := (by decide : ∀ n : Fin 31, (Int32.ofNat n).toNatClampNeg = n.val) n
theorem p_nat6 (n : Fin 6) : (Int32.ofNat n).toNatClampNeg = n.val := p_nat ⟨n.val, by omega⟩
/-- what the class's squad tells of a player is what the reference's arrays tell -/
def p_P (facts side kind near far free : Nat → Int32) (p : Nat) : Prop :=
  (facts (5 * p) = side p ∧ facts (5 * p + 1) = kind p ∧ facts (5 * p + 2) = near p ∧ facts (5 * p + 3) = far p ∧ facts (5 * p + 4) = free p) ∧ (r_in (side p) 1 ∧ r_in (kind p) 5 ∧ r_in (near p) 9 ∧ r_in (far p) 9 ∧ r_in (free p) 9)
def p_G (c g : Int32) : Prop := (c = 0 ∧ g = 0) ∨ (c = 1 ∧ g = 3) ∨ (c = 2 ∧ g = 1) ∨ (c = 3 ∧ g = 2)
def p_LR (size : Int32) (facts changes : Nat → Int32) (players : Int32) (side kind near far free guard : Nat → Int32) : Prop :=
  size = players ∧ m_P players ∧ (∀ p : Nat, p < 6 → p_P facts side kind near far free p) ∧ ∀ p : Nat, p < 6 → p_G (changes p) (guard p)
theorem pe_k {x : Int32} (h : r_in x 5) : ∃ n : Fin 6, x = Int32.ofNat n := pe_nat 5 h.1 h.2 (by decide)
theorem p_tn0 {facts side kind near far free : Nat → Int32} (n : Fin 6) (s : Int32) (h : p_P facts side kind near far free n) :
    f_X3_tenths facts (Int32.ofNat n) 0 s = f_X5_tenths kind near far free (Int32.ofNat n) 0 s ∧ r_in (f_X5_tenths kind near far free (Int32.ofNat n) 0 s) 9 := by
  have a1 := p_fact facts n 1
  have a2 := p_fact facts n 2
  unfold f_X3_tenths f_X5_tenths g_lt
  simp only [p_nat6]
  have b1 : f_X3_fact facts (Int32.ofNat n) 1 = kind n := by rw [← h.1.2.1]; exact a1
  have b2 : f_X3_fact facts (Int32.ofNat n) (2 + 0) = near n := by rw [← h.1.2.2.1]; exact a2
  rw [b1, b2]
  obtain ⟨k, hk⟩ := pe_k h.2.2.1
  obtain ⟨t, ht⟩ := pe_t h.2.2.2.1
  rw [hk, ht]
  unfold r_in g_minf g_maxf
  by_cases hs : s ≤ 9
  all_goals
    simp only [hs, if_true, if_false, (by decide : ¬ (0 : Int32) = 1), (by decide : ¬ (1 : Int32) = 0), (by decide : ¬ (2 : Int32) = 0), (by decide : ¬ (2 : Int32) = 1)]
    clear hk ht a1 a2 b1 b2 hs
    revert k t
    decide
theorem p_tn1 {facts side kind near far free : Nat → Int32} (n : Fin 6) (s : Int32) (h : p_P facts side kind near far free n) :
    f_X3_tenths facts (Int32.ofNat n) 1 s = f_X5_tenths kind near far free (Int32.ofNat n) 1 s ∧ r_in (f_X5_tenths kind near far free (Int32.ofNat n) 1 s) 9 := by
  have a1 := p_fact facts n 1
  have a2 := p_fact facts n 3
  unfold f_X3_tenths f_X5_tenths g_lt
  simp only [p_nat6]
  have b1 : f_X3_fact facts (Int32.ofNat n) 1 = kind n := by rw [← h.1.2.1]; exact a1
  have b2 : f_X3_fact facts (Int32.ofNat n) (2 + 1) = far n := by rw [← h.1.2.2.2.1]; exact a2
  rw [b1, b2]
  obtain ⟨k, hk⟩ := pe_k h.2.2.1
  obtain ⟨t, ht⟩ := pe_t h.2.2.2.2.1
  rw [hk, ht]
  unfold r_in g_minf g_maxf
  by_cases hs : s ≤ 9
  all_goals
    simp only [hs, if_true, if_false, (by decide : ¬ (0 : Int32) = 1), (by decide : ¬ (1 : Int32) = 0), (by decide : ¬ (2 : Int32) = 0), (by decide : ¬ (2 : Int32) = 1)]
    clear hk ht a1 a2 b1 b2 hs
    revert k t
    decide
theorem p_tn2 {facts side kind near far free : Nat → Int32} (n : Fin 6) (s : Int32) (h : p_P facts side kind near far free n) :
    f_X3_tenths facts (Int32.ofNat n) 2 s = f_X5_tenths kind near far free (Int32.ofNat n) 2 s ∧ r_in (f_X5_tenths kind near far free (Int32.ofNat n) 2 s) 9 := by
  have a1 := p_fact facts n 1
  have a2 := p_fact facts n 4
  unfold f_X3_tenths f_X5_tenths g_lt
  simp only [p_nat6]
  have b1 : f_X3_fact facts (Int32.ofNat n) 1 = kind n := by rw [← h.1.2.1]; exact a1
  have b2 : f_X3_fact facts (Int32.ofNat n) (2 + 2) = free n := by rw [← h.1.2.2.2.2]; exact a2
  rw [b1, b2]
  obtain ⟨k, hk⟩ := pe_k h.2.2.1
  obtain ⟨t, ht⟩ := pe_t h.2.2.2.2.2
  rw [hk, ht]
  unfold r_in g_minf g_maxf
  by_cases hs : s ≤ 9
  all_goals
    simp only [hs, if_true, if_false, (by decide : ¬ (0 : Int32) = 1), (by decide : ¬ (1 : Int32) = 0), (by decide : ¬ (2 : Int32) = 0), (by decide : ¬ (2 : Int32) = 1)]
    clear hk ht a1 a2 b1 b2 hs
    revert k t
    decide
theorem p_chg (changes : Nat → Int32) (n : Fin 6) : f_X1_changeOf changes (Int32.ofNat n) = changes n := by
  have h1 := (by decide : ∀ n : Fin 6, ¬ (Int32.ofNat n < 0)) n
  have h2 := (by decide : ∀ n : Fin 6, (Int32.ofNat n < 6)) n
  unfold f_X1_changeOf
  rw [if_neg h1, if_pos h2, p_nat6]
/-- the tenths of a shot by the reference's words -/
def p_tt (kind near far free guard : Nat → Int32) (p c s : Int32) : Int32 :=
  if c = 0 then f_X5_odds kind near far free guard p 0 s else if c = 2 then f_X5_odds kind near far free guard p 1 s / 2 else f_X5_odds kind near far free guard p 1 s
theorem p_od {facts side kind near far free changes guard : Nat → Int32} (n : Fin 6) (s : Int32) (c : Fin 3) (h : p_P facts side kind near far free n) (hg : p_G (changes n) (guard n)) :
    f_X1_tenths facts changes (Int32.ofNat n) (Int32.ofNat c) s = p_tt kind near far free guard (Int32.ofNat n) (Int32.ofNat c) s ∧ r_in (p_tt kind near far free guard (Int32.ofNat n) (Int32.ofNat c) s) 9 := by
  obtain ⟨e0, r0⟩ := p_tn0 n s h
  obtain ⟨e1, r1⟩ := p_tn1 n s h
  unfold f_X1_tenths p_tt f_X5_odds g_lt
  simp only [p_chg, p_nat6]
  rw [e0, e1]
  obtain ⟨t, ht⟩ := pe_t r0
  obtain ⟨u, hu⟩ := pe_t r1
  rw [ht, hu]
  clear ht hu e0 e1 r0 r1 h
  unfold r_in g_minf
  rcases hg with ⟨hc, hg⟩ | ⟨hc, hg⟩ | ⟨hc, hg⟩ | ⟨hc, hg⟩
  all_goals
    rw [hc, hg]
    clear hc hg
    revert c t u
    decide

theorem p_lt {a b : Type} (e : a) (f : a → b) : g_lt e f = f e := (Eq.refl (g_lt e f)).trans (by exact rfl)
theorem p_lt2 {a b d : Type} (e : a × b) (f : a → b → d) : g_lt2 e f = f e.1 e.2 := (Eq.refl (g_lt2 e f)).trans (by exact rfl)
def p_ix (s l b : Int32) : Nat := (((26 * s) + (2 * l)) + b).toNatClampNeg
theorem pe_S {s l b : Int32} (h : m_S s l b) : ∃ (n : Fin 25) (k : Fin 13) (j : Fin 2), s = Int32.ofNat n ∧ l = Int32.ofNat k ∧ b = Int32.ofNat j := by
  obtain ⟨n, hn⟩ := pe_s h.1
  obtain ⟨k, hk⟩ := pe_l h.2.1
  obtain ⟨j, hj⟩ := pe_nat 1 h.2.2.1 h.2.2.2 (by decide)
  exact ⟨n, k, j, hn, hk, hj⟩
theorem p_ixn (n : Fin 25) (k : Fin 13) (j : Fin 2) : p_ix (Int32.ofNat n) (Int32.ofNat k) (Int32.ofNat j) = 26 * n.val + 2 * k.val + j.val := by
  have h1 := (by decide +kernel : ∀ n : Fin 25, ∀ k : Fin 13, ∀ j : Fin 2, (((26 * Int32.ofNat n) + (2 * Int32.ofNat k)) + Int32.ofNat j).toNatClampNeg = 26 * n.val + 2 * k.val + j.val) n k j
  exact h1
theorem p_mk (n : Fin 25) (k : Fin 13) (j : Fin 2) : m_S (Int32.ofNat n) (Int32.ofNat k) (Int32.ofNat j) :=
  ⟨(by decide : ∀ n : Fin 25, 0 ≤ Int32.ofNat n ∧ Int32.ofNat n ≤ 24) n, (by decide : ∀ n : Fin 13, 0 ≤ Int32.ofNat n ∧ Int32.ofNat n ≤ 12) k, (by decide : ∀ n : Fin 2, 0 ≤ Int32.ofNat n ∧ Int32.ofNat n ≤ 1) j⟩
theorem p_ix_inj {s l b s' l' b' : Int32} (h : m_S s l b) (h' : m_S s' l' b') (e : p_ix s l b = p_ix s' l' b') : s = s' ∧ l = l' ∧ b = b' := by
  obtain ⟨n, k, j, rfl, rfl, rfl⟩ := pe_S h
  obtain ⟨n', k', j', rfl, rfl, rfl⟩ := pe_S h'
  rw [p_ixn, p_ixn] at e
  have a := n.isLt; have b := k.isLt; have c := j.isLt; have a' := n'.isLt; have b' := k'.isLt; have c' := j'.isLt
  have e1 : n = n' := Fin.ext (by omega)
  have e2 : k = k' := Fin.ext (by omega)
  have e3 : j = j' := Fin.ext (by omega)
  subst e1; subst e2; subst e3; exact ⟨rfl, rfl, rfl⟩
theorem p_place {s l b : Int32} (h : m_S s l b) : f_X1_placeOf s l b = ((26 * s) + (2 * l)) + b ∧ ¬ (((26 * s) + (2 * l)) + b < 0) ∧ ((26 * s) + (2 * l)) + b < 650 := by
  obtain ⟨n, k, j, rfl, rfl, rfl⟩ := pe_S h
  exact (by decide +kernel : ∀ n : Fin 25, ∀ k : Fin 13, ∀ j : Fin 2, f_X1_placeOf (Int32.ofNat n) (Int32.ofNat k) (Int32.ofNat j) = ((26 * (Int32.ofNat n)) + (2 * Int32.ofNat k)) + Int32.ofNat j ∧ ¬ (((26 * (Int32.ofNat n)) + (2 * Int32.ofNat k)) + Int32.ofNat j < 0) ∧ ((26 * (Int32.ofNat n)) + (2 * Int32.ofNat k)) + Int32.ofNat j < 650) n k j
theorem p_at (V : Nat → Int32) {s l b : Int32} (h : m_S s l b) : f_X1_valueAt V s l b = V (p_ix s l b) := by
  obtain ⟨h1, h2, h3⟩ := p_place h
  unfold f_X1_valueAt
  simp only [↓p_lt, h1]; rw [if_neg h2, if_pos h3]; rfl
theorem p_bt (V : Nat → Int32) {s l b : Int32} (h : m_S s l b) : f_X1_bestAt V s l b = V (p_ix s l b) := by
  obtain ⟨h1, h2, h3⟩ := p_place h
  unfold f_X1_bestAt
  simp only [↓p_lt, h1]; rw [if_neg h2, if_pos h3]; rfl
theorem p_put (V B : Nat → Int32) {s l b v x : Int32} (h : m_S s l b) : f_X1_put V B (f_X1_placeOf s l b) v x = (upd V (p_ix s l b) v, upd B (p_ix s l b) x) := by
  obtain ⟨h1, h2, h3⟩ := p_place h
  unfold f_X1_put
  rw [h1, if_neg h2, if_neg (Int32.not_le.2 h3)]; rfl
theorem p_vof (W : Nat → Int32) (s l b : Int32) : f_X5_valueOf W s l b = W (p_ix s l b) := rfl
def p_Ag (V W : Nat → Int32) (s : Int32) : Prop := ∀ s' l' b', m_S s' l' b' → s' < s → V (p_ix s' l' b') = W (p_ix s' l' b') ∧ p_V (W (p_ix s' l' b'))
def p_Z (draw : Int32) (W : Nat → Int32) : Prop := ∀ l b, m_S 0 l b → W (p_ix 0 l b) = f_X5_atEnd draw l
theorem p_end (draw l : Int32) : f_X1_valueOfEnd draw l = f_X5_atEnd draw l := by
  unfold f_X1_valueOfEnd f_X5_atEnd; rw [Int32.mul_comm]
theorem p_end_V {draw l : Int32} (h : r_in draw 9) : p_V (f_X5_atEnd draw l) := by
  obtain ⟨n, rfl⟩ := pe_t h
  clear h
  unfold f_X5_atEnd p_V
  by_cases h1 : l ≤ 6
  · by_cases h2 : l = 6
    · simp only [h1, h2, if_true]; revert n; decide
    · simp only [h1, h2, if_true, if_false]; decide
  · simp only [h1, if_false]; decide
theorem p_b1 {b : Int32} (h : m_Bl b) : m_Bl (1 - b) := by
  rcases pe_b h with rfl | rfl <;> exact ⟨by decide, by decide⟩
theorem p_hl (l : Fin 13) : f_X4_heldLead (Int32.ofNat l + 2) = g_minf 12 (Int32.ofNat l + 2) ∧ f_X4_heldLead (Int32.ofNat l + 3) = g_minf 12 (Int32.ofNat l + 3) ∧ f_X4_heldLead (Int32.ofNat l - 2) = g_maxf 0 (Int32.ofNat l - 2) ∧ f_X4_heldLead (Int32.ofNat l - 3) = g_maxf 0 (Int32.ofNat l - 3) := by
  revert l; decide
theorem p_hv (x : Int32) : m_Ld (f_X4_heldLead x) := by
  unfold f_X4_heldLead m_Ld
  by_cases h : 0 ≤ x
  · by_cases h2 : x ≤ 12
    · simp only [h, h2, if_true, true_and]
    · simp only [h, h2, if_true, if_false]; decide
  · simp only [h, if_false]; decide
theorem p_lb (law c l b : Int32) : m_Ld (f_X1_leadBehind law c l b) := by
  unfold f_X1_leadBehind
  simp only [↓p_lt]
  repeat' split
  all_goals exact p_hv _


theorem p_sb0 {s : Int32} (h : m_Sec s) (ht : 4 ≤ s) : m_Sec (s - 4) ∧ s - 4 < s ∧ m_Sec (s - 1) ∧ s - 1 < s ∧ g_maxf 0 (s - 4) = s - 4 := by
  obtain ⟨n, rfl⟩ := pe_s h
  clear h
  unfold m_Sec g_maxf
  revert ht; revert n; decide
theorem p_sc0 {s : Int32} (h : m_Sec s) (ht : ¬ 4 ≤ s) : g_maxf 0 (s - 4) = 0 := by
  obtain ⟨n, rfl⟩ := pe_s h
  clear h
  unfold g_maxf
  revert ht; revert n; decide
theorem p_ss0 {law s : Int32} (h : m_Sec s) (ht : 4 ≤ s) : m_Sec (f_X1_secondsBehindHit law 0 s) ∧ f_X1_secondsBehindHit law 0 s < s := by
  obtain ⟨h1, h2, h3, h4, h5⟩ := p_sb0 h ht
  unfold f_X1_secondsBehindHit
  simp only [↓p_lt, (by decide : f_X4_takes 0 = 4)]
  by_cases hl : law = 2
  · simp only [hl, if_true]; exact ⟨h3, h4⟩
  · simp only [hl, if_false]; exact ⟨h1, h2⟩
theorem p_shot0 {rebound law draw p s l b : Int32} {kind near far free guard V W : Nat → Int32} (hr : r_in rebound 9) (hd : r_in draw 9)
    (hS : m_S s l b) (h0 : 0 < s) (hT : r_in (p_tt kind near far free guard p 0 s) 9) (hA : p_Ag V W s) (hZ : p_Z draw W) :
    f_X4_mix (p_tt kind near far free guard p 0 s) (f_X1_valueBehindHit law draw V 0 s l b) (f_X1_valueBehindMiss rebound V 0 s l b) = f_X5_ofShot rebound law draw kind near far free guard W p 0 s l b
      ∧ p_V (f_X5_ofShot rebound law draw kind near far free guard W p 0 s l b) := by
  have tk : f_X4_takes 0 = 4 := by decide
  have tk5 : f_X5_takes 0 = 4 := by decide
  obtain ⟨T, eT⟩ : ∃ T, T = p_tt kind near far free guard p 0 s := ⟨_, rfl⟩
  have hb1 := p_b1 hS.2.2
  by_cases ht : 4 ≤ s
  · obtain ⟨h1, h2, h3, h4, h5⟩ := p_sb0 hS.1 ht
    obtain ⟨g1, g2⟩ := p_ss0 (law := law) hS.1 ht
    have aH := hA _ (f_X1_leadBehind law 0 l b) (1 - b) ⟨g1, p_lb _ _ _ _, hb1⟩ g2
    have aX := hA (s - 4) l b ⟨h1, hS.2⟩ h2
    have aY := hA (s - 4) l (1 - b) ⟨h1, hS.2.1, hb1⟩ h2
    have eh : f_X1_valueBehindHit law draw V 0 s l b = W (p_ix (f_X1_secondsBehindHit law 0 s) (f_X1_leadBehind law 0 l b) (1 - b)) := by
      unfold f_X1_valueBehindHit
      simp only [↓p_lt, tk]; rw [if_pos ht, p_at V ⟨g1, p_lb _ _ _ _, hb1⟩, aH.1]
    have em : f_X1_valueBehindMiss rebound V 0 s l b = f_X4_mix rebound (W (p_ix (s - 4) l b)) (W (p_ix (s - 4) l (1 - b))) := by
      unfold f_X1_valueBehindMiss
      simp only [↓p_lt, tk]; rw [h5, p_at V ⟨h1, hS.2⟩, p_at V ⟨h1, hS.2.1, hb1⟩, aX.1, aY.1]
    have ef : f_X5_ofShot rebound law draw kind near far free guard W p 0 s l b = f_X4_mix (p_tt kind near far free guard p 0 s) (W (p_ix (f_X1_secondsBehindHit law 0 s) (f_X1_leadBehind law 0 l b) (1 - b))) (f_X4_mix rebound (W (p_ix (s - 4) l b)) (W (p_ix (s - 4) l (1 - b)))) := by
      rw [← p_nest (p_t10 hT) hr aH.2 aX.2 aY.2]
      obtain ⟨k, hk⟩ := pe_l hS.2.1
      obtain ⟨e1, e2, e3, e4⟩ := p_hl k
      rw [← hk] at e1 e2 e3 e4
      unfold f_X5_ofShot f_X1_secondsBehindHit f_X1_leadBehind p_tt
      simp only [↓p_lt, tk, tk5, p_vof, e1, e2, e3, e4]
      by_cases l2 : law = 2
      · rcases pe_b hS.2.2 with hb | hb <;> simp only [hb, l2, ht, if_true, if_false, (by decide : ¬ (0 : Int32) = 1), (by decide : ¬ (1 : Int32) = 0), (by decide : ¬ (2 : Int32) = 0), (by decide : ¬ (2 : Int32) = 1), (by decide : ¬ (1 : Int32) = 2), (by decide : ¬ (0 : Int32) = 2), (by decide : ¬ (2 : Int32) = 3)]
      · by_cases l3 : law = 3
        · rcases pe_b hS.2.2 with hb | hb <;> simp only [hb, l3, ht, if_true, if_false, (by decide : ¬ (0 : Int32) = 1), (by decide : ¬ (1 : Int32) = 0), (by decide : ¬ (2 : Int32) = 0), (by decide : ¬ (2 : Int32) = 1), (by decide : ¬ (1 : Int32) = 2), (by decide : ¬ (0 : Int32) = 2), (by decide : ¬ (3 : Int32) = 2)]
        · rcases pe_b hS.2.2 with hb | hb <;> simp only [hb, l2, l3, ht, if_true, if_false, (by decide : ¬ (0 : Int32) = 1), (by decide : ¬ (1 : Int32) = 0), (by decide : ¬ (2 : Int32) = 0), (by decide : ¬ (2 : Int32) = 1), (by decide : ¬ (1 : Int32) = 2), (by decide : ¬ (0 : Int32) = 2)]
    rw [eh, em, ef]
    exact ⟨rfl, p_mix_V (p_t10 hT) aH.2 (p_mix_V (p_t10 hr) aX.2 aY.2)⟩
  · have ez := p_sc0 hS.1 ht
    have z0 : m_Sec 0 := ⟨by decide, by decide⟩
    have aX := hA 0 l b ⟨z0, hS.2⟩ h0
    have aY := hA 0 l (1 - b) ⟨z0, hS.2.1, hb1⟩ h0
    have eh : f_X1_valueBehindHit law draw V 0 s l b = f_X5_atEnd draw l := by
      unfold f_X1_valueBehindHit
      simp only [↓p_lt, tk]; rw [if_neg ht, p_end]
    have em : f_X1_valueBehindMiss rebound V 0 s l b = f_X5_atEnd draw l := by
      unfold f_X1_valueBehindMiss
      simp only [↓p_lt, tk]; rw [ez, p_at V ⟨z0, hS.2⟩, p_at V ⟨z0, hS.2.1, hb1⟩, aX.1, aY.1, hZ _ _ ⟨z0, hS.2⟩, hZ _ _ ⟨z0, hS.2.1, hb1⟩]
      exact p_mix_same (p_t10 hr) (p_end_V hd)
    have ef : f_X5_ofShot rebound law draw kind near far free guard W p 0 s l b = f_X5_atEnd draw l := by
      unfold f_X5_ofShot
      simp only [↓p_lt, tk5]; rw [if_neg ht]
    rw [eh, em, ef]
    exact ⟨p_mix_same (p_t10 hT) (p_end_V hd), p_end_V hd⟩


theorem p_sb1 {s : Int32} (h : m_Sec s) (ht : 3 ≤ s) : m_Sec (s - 3) ∧ s - 3 < s ∧ m_Sec (s - 1) ∧ s - 1 < s ∧ g_maxf 0 (s - 3) = s - 3 := by
  obtain ⟨n, rfl⟩ := pe_s h
  clear h
  unfold m_Sec g_maxf
  revert ht; revert n; decide
theorem p_sc1 {s : Int32} (h : m_Sec s) (ht : ¬ 3 ≤ s) : g_maxf 0 (s - 3) = 0 := by
  obtain ⟨n, rfl⟩ := pe_s h
  clear h
  unfold g_maxf
  revert ht; revert n; decide
theorem p_ss1 {law s : Int32} (h : m_Sec s) (ht : 3 ≤ s) : m_Sec (f_X1_secondsBehindHit law 1 s) ∧ f_X1_secondsBehindHit law 1 s < s := by
  obtain ⟨h1, h2, h3, h4, h5⟩ := p_sb1 h ht
  unfold f_X1_secondsBehindHit
  simp only [↓p_lt, (by decide : f_X4_takes 1 = 3)]
  by_cases hl : law = 2
  · simp only [hl, if_true]; exact ⟨h3, h4⟩
  · simp only [hl, if_false]; exact ⟨h1, h2⟩
theorem p_shot1 {rebound law draw p s l b : Int32} {kind near far free guard V W : Nat → Int32} (hr : r_in rebound 9) (hd : r_in draw 9)
    (hS : m_S s l b) (h0 : 0 < s) (hT : r_in (p_tt kind near far free guard p 1 s) 9) (hA : p_Ag V W s) (hZ : p_Z draw W) :
    f_X4_mix (p_tt kind near far free guard p 1 s) (f_X1_valueBehindHit law draw V 1 s l b) (f_X1_valueBehindMiss rebound V 1 s l b) = f_X5_ofShot rebound law draw kind near far free guard W p 1 s l b
      ∧ p_V (f_X5_ofShot rebound law draw kind near far free guard W p 1 s l b) := by
  have tk : f_X4_takes 1 = 3 := by decide
  have tk5 : f_X5_takes 1 = 3 := by decide
  obtain ⟨T, eT⟩ : ∃ T, T = p_tt kind near far free guard p 1 s := ⟨_, rfl⟩
  have hb1 := p_b1 hS.2.2
  by_cases ht : 3 ≤ s
  · obtain ⟨h1, h2, h3, h4, h5⟩ := p_sb1 hS.1 ht
    obtain ⟨g1, g2⟩ := p_ss1 (law := law) hS.1 ht
    have aH := hA _ (f_X1_leadBehind law 1 l b) (1 - b) ⟨g1, p_lb _ _ _ _, hb1⟩ g2
    have aX := hA (s - 3) l b ⟨h1, hS.2⟩ h2
    have aY := hA (s - 3) l (1 - b) ⟨h1, hS.2.1, hb1⟩ h2
    have eh : f_X1_valueBehindHit law draw V 1 s l b = W (p_ix (f_X1_secondsBehindHit law 1 s) (f_X1_leadBehind law 1 l b) (1 - b)) := by
      unfold f_X1_valueBehindHit
      simp only [↓p_lt, tk]; rw [if_pos ht, p_at V ⟨g1, p_lb _ _ _ _, hb1⟩, aH.1]
    have em : f_X1_valueBehindMiss rebound V 1 s l b = f_X4_mix rebound (W (p_ix (s - 3) l b)) (W (p_ix (s - 3) l (1 - b))) := by
      unfold f_X1_valueBehindMiss
      simp only [↓p_lt, tk]; rw [h5, p_at V ⟨h1, hS.2⟩, p_at V ⟨h1, hS.2.1, hb1⟩, aX.1, aY.1]
    have ef : f_X5_ofShot rebound law draw kind near far free guard W p 1 s l b = f_X4_mix (p_tt kind near far free guard p 1 s) (W (p_ix (f_X1_secondsBehindHit law 1 s) (f_X1_leadBehind law 1 l b) (1 - b))) (f_X4_mix rebound (W (p_ix (s - 3) l b)) (W (p_ix (s - 3) l (1 - b)))) := by
      rw [← p_nest (p_t10 hT) hr aH.2 aX.2 aY.2]
      obtain ⟨k, hk⟩ := pe_l hS.2.1
      obtain ⟨e1, e2, e3, e4⟩ := p_hl k
      rw [← hk] at e1 e2 e3 e4
      unfold f_X5_ofShot f_X1_secondsBehindHit f_X1_leadBehind p_tt
      simp only [↓p_lt, tk, tk5, p_vof, e1, e2, e3, e4]
      by_cases l2 : law = 2
      · rcases pe_b hS.2.2 with hb | hb <;> simp only [hb, l2, ht, if_true, if_false, (by decide : ¬ (0 : Int32) = 1), (by decide : ¬ (1 : Int32) = 0), (by decide : ¬ (2 : Int32) = 0), (by decide : ¬ (2 : Int32) = 1), (by decide : ¬ (1 : Int32) = 2), (by decide : ¬ (0 : Int32) = 2), (by decide : ¬ (2 : Int32) = 3)]
      · by_cases l3 : law = 3
        · rcases pe_b hS.2.2 with hb | hb <;> simp only [hb, l3, ht, if_true, if_false, (by decide : ¬ (0 : Int32) = 1), (by decide : ¬ (1 : Int32) = 0), (by decide : ¬ (2 : Int32) = 0), (by decide : ¬ (2 : Int32) = 1), (by decide : ¬ (1 : Int32) = 2), (by decide : ¬ (0 : Int32) = 2), (by decide : ¬ (3 : Int32) = 2)]
        · rcases pe_b hS.2.2 with hb | hb <;> simp only [hb, l2, l3, ht, if_true, if_false, (by decide : ¬ (0 : Int32) = 1), (by decide : ¬ (1 : Int32) = 0), (by decide : ¬ (2 : Int32) = 0), (by decide : ¬ (2 : Int32) = 1), (by decide : ¬ (1 : Int32) = 2), (by decide : ¬ (0 : Int32) = 2)]
    rw [eh, em, ef]
    exact ⟨rfl, p_mix_V (p_t10 hT) aH.2 (p_mix_V (p_t10 hr) aX.2 aY.2)⟩
  · have ez := p_sc1 hS.1 ht
    have z0 : m_Sec 0 := ⟨by decide, by decide⟩
    have aX := hA 0 l b ⟨z0, hS.2⟩ h0
    have aY := hA 0 l (1 - b) ⟨z0, hS.2.1, hb1⟩ h0
    have eh : f_X1_valueBehindHit law draw V 1 s l b = f_X5_atEnd draw l := by
      unfold f_X1_valueBehindHit
      simp only [↓p_lt, tk]; rw [if_neg ht, p_end]
    have em : f_X1_valueBehindMiss rebound V 1 s l b = f_X5_atEnd draw l := by
      unfold f_X1_valueBehindMiss
      simp only [↓p_lt, tk]; rw [ez, p_at V ⟨z0, hS.2⟩, p_at V ⟨z0, hS.2.1, hb1⟩, aX.1, aY.1, hZ _ _ ⟨z0, hS.2⟩, hZ _ _ ⟨z0, hS.2.1, hb1⟩]
      exact p_mix_same (p_t10 hr) (p_end_V hd)
    have ef : f_X5_ofShot rebound law draw kind near far free guard W p 1 s l b = f_X5_atEnd draw l := by
      unfold f_X5_ofShot
      simp only [↓p_lt, tk5]; rw [if_neg ht]
    rw [eh, em, ef]
    exact ⟨p_mix_same (p_t10 hT) (p_end_V hd), p_end_V hd⟩


theorem p_sb2 {s : Int32} (h : m_Sec s) (ht : 1 ≤ s) : m_Sec (s - 1) ∧ s - 1 < s ∧ m_Sec (s - 1) ∧ s - 1 < s ∧ g_maxf 0 (s - 1) = s - 1 := by
  obtain ⟨n, rfl⟩ := pe_s h
  clear h
  unfold m_Sec g_maxf
  revert ht; revert n; decide
theorem p_sc2 {s : Int32} (h : m_Sec s) (ht : ¬ 1 ≤ s) : g_maxf 0 (s - 1) = 0 := by
  obtain ⟨n, rfl⟩ := pe_s h
  clear h
  unfold g_maxf
  revert ht; revert n; decide
theorem p_ss2 {law s : Int32} (h : m_Sec s) (ht : 1 ≤ s) : m_Sec (f_X1_secondsBehindHit law 2 s) ∧ f_X1_secondsBehindHit law 2 s < s := by
  obtain ⟨h1, h2, h3, h4, h5⟩ := p_sb2 h ht
  unfold f_X1_secondsBehindHit
  simp only [↓p_lt, (by decide : f_X4_takes 2 = 1)]
  by_cases hl : law = 2
  · simp only [hl, if_true]; exact ⟨h3, h4⟩
  · simp only [hl, if_false]; exact ⟨h1, h2⟩
theorem p_shot2 {rebound law draw p s l b : Int32} {kind near far free guard V W : Nat → Int32} (hr : r_in rebound 9) (hd : r_in draw 9)
    (hS : m_S s l b) (h0 : 0 < s) (hT : r_in (p_tt kind near far free guard p 2 s) 9) (hA : p_Ag V W s) (hZ : p_Z draw W) :
    f_X4_mix (p_tt kind near far free guard p 2 s) (f_X1_valueBehindHit law draw V 2 s l b) (f_X1_valueBehindMiss rebound V 2 s l b) = f_X5_ofShot rebound law draw kind near far free guard W p 2 s l b
      ∧ p_V (f_X5_ofShot rebound law draw kind near far free guard W p 2 s l b) := by
  have tk : f_X4_takes 2 = 1 := by decide
  have tk5 : f_X5_takes 2 = 1 := by decide
  obtain ⟨T, eT⟩ : ∃ T, T = p_tt kind near far free guard p 2 s := ⟨_, rfl⟩
  have hb1 := p_b1 hS.2.2
  by_cases ht : 1 ≤ s
  · obtain ⟨h1, h2, h3, h4, h5⟩ := p_sb2 hS.1 ht
    obtain ⟨g1, g2⟩ := p_ss2 (law := law) hS.1 ht
    have aH := hA _ (f_X1_leadBehind law 2 l b) (1 - b) ⟨g1, p_lb _ _ _ _, hb1⟩ g2
    have aX := hA (s - 1) l b ⟨h1, hS.2⟩ h2
    have aY := hA (s - 1) l (1 - b) ⟨h1, hS.2.1, hb1⟩ h2
    have eh : f_X1_valueBehindHit law draw V 2 s l b = W (p_ix (f_X1_secondsBehindHit law 2 s) (f_X1_leadBehind law 2 l b) (1 - b)) := by
      unfold f_X1_valueBehindHit
      simp only [↓p_lt, tk]; rw [if_pos ht, p_at V ⟨g1, p_lb _ _ _ _, hb1⟩, aH.1]
    have em : f_X1_valueBehindMiss rebound V 2 s l b = f_X4_mix rebound (W (p_ix (s - 1) l b)) (W (p_ix (s - 1) l (1 - b))) := by
      unfold f_X1_valueBehindMiss
      simp only [↓p_lt, tk]; rw [h5, p_at V ⟨h1, hS.2⟩, p_at V ⟨h1, hS.2.1, hb1⟩, aX.1, aY.1]
    have ef : f_X5_ofShot rebound law draw kind near far free guard W p 2 s l b = f_X4_mix (p_tt kind near far free guard p 2 s) (W (p_ix (f_X1_secondsBehindHit law 2 s) (f_X1_leadBehind law 2 l b) (1 - b))) (f_X4_mix rebound (W (p_ix (s - 1) l b)) (W (p_ix (s - 1) l (1 - b)))) := by
      rw [← p_nest (p_t10 hT) hr aH.2 aX.2 aY.2]
      obtain ⟨k, hk⟩ := pe_l hS.2.1
      obtain ⟨e1, e2, e3, e4⟩ := p_hl k
      rw [← hk] at e1 e2 e3 e4
      unfold f_X5_ofShot f_X1_secondsBehindHit f_X1_leadBehind p_tt
      simp only [↓p_lt, tk, tk5, p_vof, e1, e2, e3, e4]
      by_cases l2 : law = 2
      · rcases pe_b hS.2.2 with hb | hb <;> simp only [hb, l2, ht, if_true, if_false, (by decide : ¬ (0 : Int32) = 1), (by decide : ¬ (1 : Int32) = 0), (by decide : ¬ (2 : Int32) = 0), (by decide : ¬ (2 : Int32) = 1), (by decide : ¬ (1 : Int32) = 2), (by decide : ¬ (0 : Int32) = 2), (by decide : ¬ (2 : Int32) = 3)]
      · by_cases l3 : law = 3
        · rcases pe_b hS.2.2 with hb | hb <;> simp only [hb, l3, ht, if_true, if_false, (by decide : ¬ (0 : Int32) = 1), (by decide : ¬ (1 : Int32) = 0), (by decide : ¬ (2 : Int32) = 0), (by decide : ¬ (2 : Int32) = 1), (by decide : ¬ (1 : Int32) = 2), (by decide : ¬ (0 : Int32) = 2), (by decide : ¬ (3 : Int32) = 2)]
        · rcases pe_b hS.2.2 with hb | hb <;> simp only [hb, l2, l3, ht, if_true, if_false, (by decide : ¬ (0 : Int32) = 1), (by decide : ¬ (1 : Int32) = 0), (by decide : ¬ (2 : Int32) = 0), (by decide : ¬ (2 : Int32) = 1), (by decide : ¬ (1 : Int32) = 2), (by decide : ¬ (0 : Int32) = 2)]
    rw [eh, em, ef]
    exact ⟨rfl, p_mix_V (p_t10 hT) aH.2 (p_mix_V (p_t10 hr) aX.2 aY.2)⟩
  · have ez := p_sc2 hS.1 ht
    have z0 : m_Sec 0 := ⟨by decide, by decide⟩
    have aX := hA 0 l b ⟨z0, hS.2⟩ h0
    have aY := hA 0 l (1 - b) ⟨z0, hS.2.1, hb1⟩ h0
    have eh : f_X1_valueBehindHit law draw V 2 s l b = f_X5_atEnd draw l := by
      unfold f_X1_valueBehindHit
      simp only [↓p_lt, tk]; rw [if_neg ht, p_end]
    have em : f_X1_valueBehindMiss rebound V 2 s l b = f_X5_atEnd draw l := by
      unfold f_X1_valueBehindMiss
      simp only [↓p_lt, tk]; rw [ez, p_at V ⟨z0, hS.2⟩, p_at V ⟨z0, hS.2.1, hb1⟩, aX.1, aY.1, hZ _ _ ⟨z0, hS.2⟩, hZ _ _ ⟨z0, hS.2.1, hb1⟩]
      exact p_mix_same (p_t10 hr) (p_end_V hd)
    have ef : f_X5_ofShot rebound law draw kind near far free guard W p 2 s l b = f_X5_atEnd draw l := by
      unfold f_X5_ofShot
      simp only [↓p_lt, tk5]; rw [if_neg ht]
    rw [eh, em, ef]
    exact ⟨p_mix_same (p_t10 hT) (p_end_V hd), p_end_V hd⟩
/-- the class's step, from the last to the first; (value, best) -/
def p_sC (b : Int32) (q a : Int32 × Int32) : Int32 × Int32 :=
  if b = 0 then (if q.2 < a.1 then a else (q.2, q.1)) else (if a.1 < q.2 then a else (q.2, q.1))
/-- the reference's step, from the first to the last; (best, value) -/
def p_sR (b : Int32) (a q : Int32 × Int32) : Int32 × Int32 :=
  if a.1 < 0 then q else if b = 0 then (if a.2 < q.2 then q else a) else (if q.2 < a.2 then q else a)
def p_fR (b h : Int32) (a : Int32 × Int32) : Int32 × Int32 :=
  if a.1 < 0 then (h, 93) else if b = 0 then (if h ≤ a.2 then (a.2, a.1) else (h, 93)) else (if a.2 ≤ h then (a.2, a.1) else (h, 93))
theorem p_fold (b h : Int32) : ∀ (L : List (Int32 × Int32)) (a : Int32 × Int32), 0 ≤ a.1 → (∀ q ∈ L, 0 ≤ q.1) →
    p_fR b h (L.foldl (p_sR b) a) = p_sC b a (L.foldr (p_sC b) (h, 93))
  | [], a, ha, _ => by
      have h0 : ¬ a.1 < 0 := Int32.not_lt.2 ha
      show p_fR b h a = p_sC b a (h, 93)
      by_cases hb : b = 0
      · by_cases h1 : a.2 < h
        · simp only [p_fR, p_sC, if_neg h0, hb, if_true, if_pos h1, if_neg (Int32.not_le.2 h1)]
        · simp only [p_fR, p_sC, if_neg h0, hb, if_true, if_neg h1, if_pos (Int32.not_lt.1 h1)]
      · by_cases h1 : h < a.2
        · simp only [p_fR, p_sC, if_neg h0, hb, if_false, if_pos h1, if_neg (Int32.not_le.2 h1)]
        · simp only [p_fR, p_sC, if_neg h0, hb, if_false, if_neg h1, if_pos (Int32.not_lt.1 h1)]
  | q :: L, a, ha, hL => by
      have h0 : ¬ a.1 < 0 := Int32.not_lt.2 ha
      have hq : 0 ≤ q.1 := hL q (List.mem_cons_self ..)
      have hL' : ∀ x ∈ L, 0 ≤ x.1 := fun x hx => hL x (List.mem_cons_of_mem _ hx)
      have ihq := p_fold b h L q hq hL'
      have iha := p_fold b h L a ha hL'
      simp only [List.foldl_cons, List.foldr_cons]
      obtain ⟨F, hF⟩ : ∃ F, F = L.foldr (p_sC b) (h, 93) := ⟨_, rfl⟩
      rw [← hF] at ihq iha ⊢
      by_cases hb : b = 0
      · by_cases h1 : a.2 < q.2
        · have e1 : p_sR b a q = q := by simp only [p_sR, if_neg h0, hb, if_true, if_pos h1]
          rw [e1, ihq]
          by_cases h2 : q.2 < F.1
          · have h3 : a.2 < F.1 := Int32.lt_trans h1 h2
            simp only [p_sC, hb, if_true, if_pos h2, if_pos h3]
          · simp only [p_sC, hb, if_true, if_neg h2, if_pos h1]
        · have e1 : p_sR b a q = a := by simp only [p_sR, if_neg h0, hb, if_true, if_neg h1]
          rw [e1, iha]
          by_cases h2 : q.2 < F.1
          · simp only [p_sC, hb, if_true, if_pos h2]
          · have h3 : ¬ a.2 < F.1 := Int32.not_lt.2 (Int32.le_trans (Int32.not_lt.1 h2) (Int32.not_lt.1 h1))
            simp only [p_sC, hb, if_true, if_neg h2, if_neg h1, if_neg h3]
      · by_cases h1 : q.2 < a.2
        · have e1 : p_sR b a q = q := by simp only [p_sR, if_neg h0, hb, if_false, if_pos h1]
          rw [e1, ihq]
          by_cases h2 : F.1 < q.2
          · have h3 : F.1 < a.2 := Int32.lt_trans h2 h1
            simp only [p_sC, hb, if_false, if_pos h2, if_pos h3]
          · simp only [p_sC, hb, if_false, if_neg h2, if_pos h1]
        · have e1 : p_sR b a q = a := by simp only [p_sR, if_neg h0, hb, if_false, if_neg h1]
          rw [e1, iha]
          by_cases h2 : F.1 < q.2
          · simp only [p_sC, hb, if_false, if_pos h2]
          · have h3 : ¬ F.1 < a.2 := Int32.not_lt.2 (Int32.le_trans (Int32.not_lt.1 h1) (Int32.not_lt.1 h2))
            simp only [p_sC, hb, if_false, if_neg h2, if_neg h1, if_neg h3]
theorem p_fold0 (b h : Int32) (L : List (Int32 × Int32)) (hL : ∀ q ∈ L, 0 ≤ q.1) :
    p_fR b h (L.foldl (p_sR b) ((-1), 0)) = L.foldr (p_sC b) (h, 93) := by
  cases L with
  | nil =>
    show p_fR b h ((-1), 0) = (h, 93)
    simp only [p_fR, (by decide : ((-1 : Int32) < 0)), if_true]
  | cons q L =>
    have e : p_sR b ((-1), 0) q = q := by simp only [p_sR, (by decide : ((-1 : Int32) < 0)), if_true]
    rw [List.foldl_cons, e, List.foldr_cons]
    exact p_fold b h L q (hL q (List.mem_cons_self ..)) (fun x hx => hL x (List.mem_cons_of_mem _ hx))
/-- the shots of a player who plays -/
def p_cd (sh : Nat → Nat → Int32) (pl : Nat → Bool) (p : Nat) : List (Int32 × Int32) :=
  if pl p = true then [(10 * Int32.ofNat p + 0, sh p 0), (10 * Int32.ofNat p + 1, sh p 1), (10 * Int32.ofNat p + 2, sh p 2)] else []
def p_Cd (sh : Nat → Nat → Int32) (pl : Nat → Bool) (i n : Nat) : List (Int32 × Int32) := (List.range' i n).flatMap (p_cd sh pl)
theorem p_Cd_cons (sh : Nat → Nat → Int32) (pl : Nat → Bool) (i n : Nat) : p_Cd sh pl i (n + 1) = p_cd sh pl i ++ p_Cd sh pl (i + 1) n := by
  unfold p_Cd; rw [List.range'_succ, List.flatMap_cons]
theorem p_Cd_snoc (sh : Nat → Nat → Int32) (pl : Nat → Bool) (n : Nat) : p_Cd sh pl 0 (n + 1) = p_Cd sh pl 0 n ++ p_cd sh pl n := by
  unfold p_Cd; rw [List.range'_concat, List.flatMap_append]; simp
theorem p_cd_code (sh : Nat → Nat → Int32) (pl : Nat → Bool) (p : Nat) (hp : p < 6) : ∀ q ∈ p_cd sh pl p, ∃ c : Fin 3, pl p = true ∧ q = (10 * Int32.ofNat p + Int32.ofNat c, sh p c) := by
  intro q hq
  unfold p_cd at hq
  by_cases h : pl p = true
  · rw [if_pos h] at hq
    simp only [List.mem_cons, List.not_mem_nil, or_false] at hq
    rcases hq with rfl | rfl | rfl
    · exact ⟨0, h, rfl⟩
    · exact ⟨1, h, rfl⟩
    · exact ⟨2, h, rfl⟩
  · rw [if_neg h] at hq; simp at hq
theorem p_Cd_code (sh : Nat → Nat → Int32) (pl : Nat → Bool) (n : Nat) (hn : n ≤ 6) : ∀ q ∈ p_Cd sh pl 0 n, ∃ (p : Fin 6) (c : Fin 3), p.val < n ∧ pl p = true ∧ q = (10 * Int32.ofNat p + Int32.ofNat c, sh p c) := by
  intro q hq
  unfold p_Cd at hq
  obtain ⟨p, hp, hq⟩ := List.mem_flatMap.1 hq
  have hp' : p < n := by have := (List.mem_range'_1.1 hp).2; omega
  obtain ⟨c, h1, h2⟩ := p_cd_code sh pl p (by omega) q hq
  exact ⟨⟨p, by omega⟩, c, hp', h1, h2⟩
theorem p_code0 (p : Fin 6) (c : Fin 3) : 0 ≤ 10 * Int32.ofNat p + Int32.ofNat c ∧ ¬ (10 * Int32.ofNat p + Int32.ofNat c = 93) ∧ (10 * Int32.ofNat p + Int32.ofNat c) / 10 = Int32.ofNat p ∧ g_remf (10 * Int32.ofNat p + Int32.ofNat c) 10 = Int32.ofNat c ∧ (Int32.ofNat p * 10) + Int32.ofNat c = 10 * Int32.ofNat p + Int32.ofNat c := by
  unfold g_remf; revert p c; decide
/-- what the fold leaves is one of them, or the start -/
theorem p_foldr_mem (b : Int32) (z : Int32 × Int32) : ∀ L : List (Int32 × Int32), L.foldr (p_sC b) z = z ∨ ∃ q ∈ L, L.foldr (p_sC b) z = (q.2, q.1)
  | [] => Or.inl rfl
  | q :: L => by
      rw [List.foldr_cons]
      have ih := p_foldr_mem b z L
      have step : p_sC b q (L.foldr (p_sC b) z) = L.foldr (p_sC b) z ∨ p_sC b q (L.foldr (p_sC b) z) = (q.2, q.1) := by
        unfold p_sC
        repeat' split
        all_goals first | exact Or.inl rfl | exact Or.inr rfl
      rcases step with h | h
      · rw [h]
        rcases ih with ih | ⟨x, hx, ih⟩
        · exact Or.inl ih
        · exact Or.inr ⟨x, List.mem_cons_of_mem _ hx, ih⟩
      · exact Or.inr ⟨q, List.mem_cons_self .., h⟩
section
variable (rebound law draw players : Int32) (side kind near far free guard W : Nat → Int32)
/-- a shot's value, and who plays, by the reference -/
def p_sh (s l b : Int32) (p c : Nat) : Int32 := f_X5_ofShot rebound law draw kind near far free guard W (Int32.ofNat p) (Int32.ofNat c) s l b
def p_pl (b : Int32) (p : Nat) : Bool := !decide (f_X5_plays side guard (Int32.ofNat p) b = 0)
theorem p_st34 (s l b p : Int32) (K : Int32 → Int32 → Int32 → Int32) (n : Nat) (a : Int32 × Int32) (c : Int32) (hc : ¬ 3 ≤ c) :
    L_X5_choice_34 s l b p rebound law draw players side kind near far free guard W K (n + 1) a.1 a.2 c =
    L_X5_choice_34 s l b p rebound law draw players side kind near far free guard W K n (p_sR b a ((10 * p) + c, f_X5_ofShot rebound law draw kind near far free guard W p c s l b)).1 (p_sR b a ((10 * p) + c, f_X5_ofShot rebound law draw kind near far free guard W p c s l b)).2 (c + 1) := by
  rw [L_X5_choice_34, if_neg hc, p_lt]
  unfold p_sR
  by_cases h1 : a.1 < 0
  · rw [if_pos h1, if_pos h1]
  · rw [if_neg h1, if_neg h1]
    by_cases hb : b = 0
    · rw [if_pos hb, if_pos hb]
      by_cases h2 : a.2 < f_X5_ofShot rebound law draw kind near far free guard W p c s l b
      · rw [if_pos h2, if_pos h2]
      · rw [if_neg h2, if_neg h2]
    · rw [if_neg hb, if_neg hb]
      by_cases h2 : f_X5_ofShot rebound law draw kind near far free guard W p c s l b < a.2
      · rw [if_pos h2, if_pos h2]
      · rw [if_neg h2, if_neg h2]
theorem p_in34 (s l b : Int32) (p : Nat) (K : Int32 → Int32 → Int32 → Int32) (a : Int32 × Int32) (hp : p_pl side guard b p = true) :
    L_X5_choice_34 s l b (Int32.ofNat p) rebound law draw players side kind near far free guard W K 4 a.1 a.2 0 =
    K ((p_cd (p_sh rebound law draw kind near far free guard W s l b) (p_pl side guard b) p).foldl (p_sR b) a).1 ((p_cd (p_sh rebound law draw kind near far free guard W s l b) (p_pl side guard b) p).foldl (p_sR b) a).2 3 := by
  rw [p_st34 _ _ _ _ _ _ _ _ _ _ _ s l b (Int32.ofNat p) K 3 a 0 (by decide), p_st34 _ _ _ _ _ _ _ _ _ _ _ s l b (Int32.ofNat p) K 2 _ (0 + 1) (by decide), p_st34 _ _ _ _ _ _ _ _ _ _ _ s l b (Int32.ofNat p) K 1 _ (0 + 1 + 1) (by decide), L_X5_choice_34, if_pos (by decide)]
  unfold p_cd
  rw [if_pos hp]
  rfl
theorem p_out9 (s l b : Int32) (m : Nat) (hm : m ≤ 6) (hpl : players = Int32.ofNat m) (K : Int32 → Int32 → Int32 → Int32) : ∀ (k p : Nat) (a : Int32 × Int32), p + k = m →
    L_X5_choice_9 s l b rebound law draw players side kind near far free guard W K (k + 1) a.1 a.2 (Int32.ofNat p) =
    K ((p_Cd (p_sh rebound law draw kind near far free guard W s l b) (p_pl side guard b) p k).foldl (p_sR b) a).1 ((p_Cd (p_sh rebound law draw kind near far free guard W s l b) (p_pl side guard b) p k).foldl (p_sR b) a).2 (Int32.ofNat m)
  | 0, p, a, h => by
      have e : p = m := by omega
      subst e
      rw [L_X5_choice_9, hpl, if_pos (Int32.le_refl _)]
      rfl
  | k + 1, p, a, h => by
      have e1 : ¬ players ≤ Int32.ofNat p := by
        rw [hpl]
        exact (by decide : ∀ m p : Fin 7, p.val < m.val → ¬ Int32.ofNat m ≤ Int32.ofNat p) ⟨m, by omega⟩ ⟨p, by omega⟩ (by show p < m; omega)
      have e2 : Int32.ofNat p + 1 = Int32.ofNat (p + 1) := (by decide : ∀ p : Fin 7, Int32.ofNat p + 1 = Int32.ofNat (p.val + 1)) ⟨p, by omega⟩
      rw [L_X5_choice_9, if_neg e1, p_lt, p_Cd_cons, List.foldl_append]
      by_cases hr : f_X5_plays side guard (Int32.ofNat p) b = 0
      · have ep : p_cd (p_sh rebound law draw kind near far free guard W s l b) (p_pl side guard b) p = [] := by
          unfold p_cd p_pl; rw [if_neg]; simp [hr]
        rw [if_pos hr, e2, p_out9 s l b m hm hpl K k (p + 1) a (by omega), ep]; rfl
      · rw [if_neg hr, (by decide : ((3 : Int32).toInt - (0 : Int32).toInt).toNat + 1 = 4), p_in34 _ _ _ _ _ _ _ _ _ _ _ s l b p _ a (by unfold p_pl; simp [hr]), e2]
        exact p_out9 s l b m hm hpl K k (p + 1) _ (by omega)
/-- the reference's choice and its value, by the class's fold -/
theorem p_choice (s l b : Int32) (m : Nat) (hm : m ≤ 6) (hpl : players = Int32.ofNat m) :
    (f_X5_ofChoice rebound law draw kind near far free guard W (f_X5_choice rebound law draw players side kind near far free guard W s l b) s l b, f_X5_choice rebound law draw players side kind near far free guard W s l b) =
    (p_Cd (p_sh rebound law draw kind near far free guard W s l b) (p_pl side guard b) 0 m).foldr (p_sC b) (f_X5_ofHold draw W s l b, 93) := by
  obtain ⟨Cd, hCd⟩ : ∃ z, z = p_Cd (p_sh rebound law draw kind near far free guard W s l b) (p_pl side guard b) 0 m := ⟨_, rfl⟩
  have hc := p_Cd_code (p_sh rebound law draw kind near far free guard W s l b) (p_pl side guard b) m hm
  rw [← hCd] at hc ⊢
  have hf := p_fold0 b (f_X5_ofHold draw W s l b) Cd (fun q hq => by
    obtain ⟨p, c, h1, h2, h3⟩ := hc q hq
    rw [h3]; exact (p_code0 p c).1)
  have e1 : f_X5_choice rebound law draw players side kind near far free guard W s l b = (p_fR b (f_X5_ofHold draw W s l b) (Cd.foldl (p_sR b) ((-1), 0))).2 := by
    unfold f_X5_choice
    have ef : ((players : Int32).toInt - (0 : Int32).toInt).toNat + 1 = m + 1 := by
      rw [hpl]; exact (by decide : ∀ m : Fin 7, ((Int32.ofNat m).toInt - (0 : Int32).toInt).toNat + 1 = m.val + 1) ⟨m, by omega⟩
    rw [ef]
    have h9 := p_out9 rebound law draw players side kind near far free guard W s l b m hm hpl (fun v4_9 v5_9 v6_9 => g_lt (f_X5_ofHold draw W s l b) (fun r112 => (if v4_9 < 0 then 93 else (if b = 0 then (if r112 ≤ v5_9 then v4_9 else 93) else (if v5_9 ≤ r112 then v4_9 else 93))))) m 0 ((-1), 0) (by omega)
    rw [← hCd] at h9
    refine h9.trans ?_
    rw [p_lt]
    unfold p_fR
    repeat' split
    all_goals rfl
  rw [hf] at e1
  rw [e1]
  rcases p_foldr_mem b (f_X5_ofHold draw W s l b, 93) Cd with h | ⟨q, hq, h⟩
  · rw [h]
    unfold f_X5_ofChoice
    rw [if_pos rfl, p_lt]
  · rw [h]
    obtain ⟨p, c, h1, h2, h3⟩ := hc q hq
    obtain ⟨g1, g2, g3, g4, g5⟩ := p_code0 p c
    rw [h3]
    unfold f_X5_ofChoice
    rw [if_neg g2, p_lt, g3, g4]; rfl
end
theorem p_cd_congr {sh sh' : Nat → Nat → Int32} {pl pl' : Nat → Bool} {p : Nat} (h1 : pl p = pl' p) (h2 : pl p = true → ∀ c, c < 3 → sh p c = sh' p c) : p_cd sh pl p = p_cd sh' pl' p := by
  unfold p_cd
  rw [← h1]
  by_cases h : pl p = true
  · rw [if_pos h, if_pos h, h2 h 0 (by omega), h2 h 1 (by omega), h2 h 2 (by omega)]
  · rw [if_neg h, if_neg h]
theorem p_Cd_congr {sh sh' : Nat → Nat → Int32} {pl pl' : Nat → Bool} : ∀ (n : Nat), (∀ p, p < n → pl p = pl' p) → (∀ p, p < n → pl p = true → ∀ c, c < 3 → sh p c = sh' p c) → p_Cd sh pl 0 n = p_Cd sh' pl' 0 n
  | 0, _, _ => rfl
  | n + 1, h1, h2 => by
      rw [p_Cd_snoc, p_Cd_snoc, p_Cd_congr n (fun p hp => h1 p (by omega)) (fun p hp => h2 p (by omega)), p_cd_congr (h1 n (by omega)) (h2 n (by omega))]
section
variable (reb law draw size : Int32) (facts changes V B rowT hitV missV : Nat → Int32)
def p_shC (p c : Nat) : Int32 := f_X1_valueInRow rowT hitV missV (Int32.ofNat p) (Int32.ofNat c)
def p_plC (b : Int32) (p : Nat) : Bool := decide (f_X3_fact facts (Int32.ofNat p) 0 = b ∧ ¬ f_X1_changeOf changes (Int32.ofNat p) = 1)
theorem p_st150 (s l b pl v7 : Int32) (K : Int32 → Int32 → Int32 → (Nat → Int32) × (Nat → Int32) × (Nat → Int32) × (Nat → Int32)) (n : Nat) (a : Int32 × Int32) (c : Int32) (hc : ¬ c < 0) :
    L_X1_solveState_150 s l b pl v7 1 reb law draw size facts changes V B rowT hitV missV K (n + 1) a.1 a.2 c =
    L_X1_solveState_150 s l b pl v7 1 reb law draw size facts changes V B rowT hitV missV K n (p_sC b ((v7 * 10) + c, f_X1_valueInRow rowT hitV missV v7 c) a).1 (p_sC b ((v7 * 10) + c, f_X1_valueInRow rowT hitV missV v7 c) a).2 (c + (-1)) := by
  rw [L_X1_solveState_150, if_neg hc, if_neg (by decide), p_lt]
  unfold p_sC
  by_cases hb : b = 0
  · rw [if_pos hb, if_pos hb]
    by_cases h2 : f_X1_valueInRow rowT hitV missV v7 c < a.1
    · rw [if_pos h2, if_pos h2]
    · rw [if_neg h2, if_neg h2]
  · rw [if_neg hb, if_neg hb]
    by_cases h2 : a.1 < f_X1_valueInRow rowT hitV missV v7 c
    · rw [if_pos h2, if_pos h2]
    · rw [if_neg h2, if_neg h2]
theorem p_in150 (s l b pl : Int32) (p : Nat) (hp6 : p < 6) (K : Int32 → Int32 → Int32 → (Nat → Int32) × (Nat → Int32) × (Nat → Int32) × (Nat → Int32)) (a : Int32 × Int32) (hp : p_plC facts changes b p = true) :
    L_X1_solveState_150 s l b pl (Int32.ofNat p) 1 reb law draw size facts changes V B rowT hitV missV K 4 a.1 a.2 2 =
    K ((p_cd (p_shC rowT hitV missV) (p_plC facts changes b) p).foldr (p_sC b) a).1 ((p_cd (p_shC rowT hitV missV) (p_plC facts changes b) p).foldr (p_sC b) a).2 (-1) := by
  have c0 := (p_code0 ⟨p, hp6⟩ 0).2.2.2.2
  have c1 := (p_code0 ⟨p, hp6⟩ 1).2.2.2.2
  have c2 := (p_code0 ⟨p, hp6⟩ 2).2.2.2.2
  rw [p_st150 _ _ _ _ _ _ _ _ _ _ _ s l b pl (Int32.ofNat p) K 3 a 2 (by decide), p_st150 _ _ _ _ _ _ _ _ _ _ _ s l b pl (Int32.ofNat p) K 2 _ (2 + (-1)) (by decide), p_st150 _ _ _ _ _ _ _ _ _ _ _ s l b pl (Int32.ofNat p) K 1 _ (2 + (-1) + (-1)) (by decide), L_X1_solveState_150, if_pos (by decide)]
  rw [(by decide : (2 : Int32) + (-1) = 1), (by decide : (1 : Int32) + (-1) = 0)]
  unfold p_cd
  rw [if_pos hp]
  simp only [List.foldr_cons, List.foldr_nil]
  have d0 : Int32.ofNat p * 10 + 0 = 10 * Int32.ofNat p + 0 := c0
  have d1 : Int32.ofNat p * 10 + 1 = 10 * Int32.ofNat p + 1 := c1
  have d2 : Int32.ofNat p * 10 + 2 = 10 * Int32.ofNat p + 2 := c2
  rw [d0, d1, d2]; rfl
theorem p_in150n (s l b pl v7 : Int32) (K : Int32 → Int32 → Int32 → (Nat → Int32) × (Nat → Int32) × (Nat → Int32) × (Nat → Int32)) (v w : Int32) :
    L_X1_solveState_150 s l b pl v7 0 reb law draw size facts changes V B rowT hitV missV K 4 v w 2 = K v w 2 := by
  rw [L_X1_solveState_150, if_neg (by decide), if_pos rfl]
theorem p_out111 (s l b pl : Int32) (K : Int32 → Int32 → Int32 → (Nat → Int32) × (Nat → Int32) × (Nat → Int32) × (Nat → Int32)) : ∀ (k : Nat) (a : Int32 × Int32), k ≤ 6 →
    L_X1_solveState_111 s l b pl reb law draw size facts changes V B rowT hitV missV K (k + 1) a.1 a.2 (Int32.ofNat k - 1) =
    K ((p_Cd (p_shC rowT hitV missV) (p_plC facts changes b) 0 k).foldr (p_sC b) a).1 ((p_Cd (p_shC rowT hitV missV) (p_plC facts changes b) 0 k).foldr (p_sC b) a).2 (-1)
  | 0, a, h => by
      rw [L_X1_solveState_111, if_pos (by decide)]; rfl
  | k + 1, a, h => by
      have e1 : Int32.ofNat (k + 1) - 1 = Int32.ofNat k := (by decide : ∀ p : Fin 6, Int32.ofNat (p.val + 1) - 1 = Int32.ofNat p) ⟨k, by omega⟩
      have e2 : ¬ Int32.ofNat k < 0 := (by decide : ∀ p : Fin 6, ¬ Int32.ofNat p < 0) ⟨k, by omega⟩
      have e3 : Int32.ofNat k + (-1) = Int32.ofNat k - 1 := (by decide : ∀ p : Fin 6, Int32.ofNat p + (-1) = Int32.ofNat p - 1) ⟨k, by omega⟩
      rw [e1, L_X1_solveState_111, if_neg e2, p_lt, p_Cd_snoc, List.foldr_append, (by decide : ((2 : Int32).toInt + 1).toNat + 1 = 4)]
      by_cases h1 : f_X3_fact facts (Int32.ofNat k) 0 = b
      · rw [if_pos h1, p_lt]
        by_cases h2 : f_X1_changeOf changes (Int32.ofNat k) = 1
        · have ep : p_cd (p_shC rowT hitV missV) (p_plC facts changes b) k = [] := by
            unfold p_cd p_plC; rw [if_neg]; simp [h2]
          rw [if_pos h2, p_in150n, e3, ep]
          exact p_out111 s l b pl K k a (by omega)
        · rw [if_neg h2, p_in150 _ _ _ _ _ _ _ _ _ _ _ s l b pl k (by omega) _ a (by unfold p_plC; simp [h1, h2]), e3]
          exact p_out111 s l b pl K k _ (by omega)
      · have ep : p_cd (p_shC rowT hitV missV) (p_plC facts changes b) k = [] := by
          unfold p_cd p_plC; rw [if_neg]; simp [h1]
        rw [if_neg h1, p_in150n, e3, ep]
        exact p_out111 s l b pl K k a (by omega)
/-- hit and miss values of the three choices -/
def p_hv3 (f : Int32 → Int32) (h : Nat → Int32) : Nat → Int32 := upd (upd (upd h 0 (f 0)) 1 (f 1)) 2 (f 2)
theorem p_hv3_at (f : Int32 → Int32) (h : Nat → Int32) (c : Fin 3) : p_hv3 f h c = f (Int32.ofNat c) := by
  unfold p_hv3 upd
  match c with
  | ⟨0, _⟩ => rfl
  | ⟨1, _⟩ => rfl
  | ⟨2, _⟩ => rfl
theorem p_fill34 (s l b pl : Int32) (K : Int32 → (Nat → Int32) → (Nat → Int32) → (Nat → Int32) × (Nat → Int32) × (Nat → Int32) × (Nat → Int32)) :
    L_X1_solveState_34 s l b pl reb law draw size facts changes V B rowT K 4 0 hitV missV =
    K 3 (p_hv3 (fun c => f_X1_valueBehindHit law draw V c s l b) hitV) (p_hv3 (fun c => f_X1_valueBehindMiss reb V c s l b) missV) := by
  rw [L_X1_solveState_34, if_neg (by decide), p_lt, p_lt, L_X1_solveState_34, if_neg (by decide), p_lt, p_lt, L_X1_solveState_34, if_neg (by decide), p_lt, p_lt, L_X1_solveState_34, if_pos (by decide)]
  rfl
/-- one state, by the fold -/
def p_best (s l b : Int32) (m : Nat) : Int32 × Int32 :=
  (p_Cd (p_shC rowT (p_hv3 (fun c => f_X1_valueBehindHit law draw V c s l b) hitV) (p_hv3 (fun c => f_X1_valueBehindMiss reb V c s l b) missV)) (p_plC facts changes b) 0 m).foldr (p_sC b) (f_X1_valueAt V (g_maxf 0 (s - 5)) l b, 93)
theorem p_state (s l b : Int32) (hS : m_S s l b) (m : Nat) (hm : m ≤ 6) (hsz : size = Int32.ofNat m) (h0 : f_X1_isOver law s l = 0) :
    ∃ hv mv, f_X1_solveState reb law draw size facts changes V B rowT hitV missV s l b =
      (upd V (p_ix s l b) (p_best reb law draw facts changes V rowT hitV missV s l b m).1, upd B (p_ix s l b) (p_best reb law draw facts changes V rowT hitV missV s l b m).2, hv, mv) := by
  refine ⟨p_hv3 (fun c => f_X1_valueBehindHit law draw V c s l b) hitV, p_hv3 (fun c => f_X1_valueBehindMiss reb V c s l b) missV, ?_⟩
  unfold f_X1_solveState
  rw [p_lt, p_lt, if_pos h0, (by decide : ((3 : Int32).toInt - (0 : Int32).toInt).toNat + 1 = 4), p_fill34, p_lt, p_lt, (by decide : f_X4_takes 3 = 5)]
  have ef : (((size - 1) : Int32).toInt + 1).toNat + 1 = m + 1 := by
    rw [hsz]; exact (by decide : ∀ m : Fin 7, (((Int32.ofNat m - 1) : Int32).toInt + 1).toNat + 1 = m.val + 1) ⟨m, by omega⟩
  have h := p_out111 reb law draw size facts changes V B rowT (p_hv3 (fun c => f_X1_valueBehindHit law draw V c s l b) hitV) (p_hv3 (fun c => f_X1_valueBehindMiss reb V c s l b) missV) s l b (f_X1_placeOf s l b)
    (fun v5_111 v6_111 v7_111 => g_lt (f_X1_put V B (f_X1_placeOf s l b) v5_111 v6_111) (fun u224 => (u224.1, u224.2, p_hv3 (fun c => f_X1_valueBehindHit law draw V c s l b) hitV, p_hv3 (fun c => f_X1_valueBehindMiss reb V c s l b) missV))) m (f_X1_valueAt V (g_maxf 0 (s - 5)) l b, 93) hm
  rw [← hsz] at h
  rw [ef]
  refine h.trans ?_
  rw [p_lt, p_put V B hS]
  rfl
theorem p_over (s l b : Int32) (hS : m_S s l b) (h0 : ¬ f_X1_isOver law s l = 0) :
    f_X1_solveState reb law draw size facts changes V B rowT hitV missV s l b = (upd V (p_ix s l b) (f_X5_atEnd draw l), upd B (p_ix s l b) (-9), hitV, missV) := by
  unfold f_X1_solveState
  rw [p_lt, p_lt, if_neg h0, p_lt, p_lt, p_end, p_put V B hS]
end
theorem p_inrow (rowT hv mv : Nat → Int32) (p : Fin 6) (c : Fin 3) : f_X1_valueInRow rowT hv mv (Int32.ofNat p) (Int32.ofNat c) = f_X4_mix (rowT (3 * p + c)) (hv c) (mv c) := by
  have h := (by decide : ∀ (p : Fin 6) (c : Fin 3), ¬ ((Int32.ofNat p * 3) + Int32.ofNat c < 0) ∧ ¬ (18 ≤ (Int32.ofNat p * 3) + Int32.ofNat c) ∧ ¬ (Int32.ofNat c < 0) ∧ Int32.ofNat c < 3 ∧ ((Int32.ofNat p * 3) + Int32.ofNat c).toNatClampNeg = 3 * p.val + c.val ∧ (Int32.ofNat c).toNatClampNeg = c.val) p c
  unfold f_X1_valueInRow
  rw [if_neg h.1, if_neg h.2.1, if_neg h.2.2.1, if_pos h.2.2.2.1, p_lt, h.2.2.2.2.1, h.2.2.2.2.2]
theorem p_isOver {s l : Int32} (law : Int32) (hs : m_Sec s) (hl : m_Ld l) : f_X1_isOver law s l = f_X5_ended law s l := by
  obtain ⟨n, rfl⟩ := pe_s hs
  obtain ⟨k, rfl⟩ := pe_l hl
  unfold f_X1_isOver f_X5_ended
  have e1 := (by decide : ∀ n : Fin 25, (Int32.ofNat n ≤ 0) = (Int32.ofNat n = 0)) n
  by_cases h0 : Int32.ofNat n = 0
  · rw [if_pos h0, if_pos (by rw [h0]; decide)]
  · rw [if_neg h0, if_neg (fun h => h0 (e1 ▸ h))]
    by_cases h1 : law = 1
    · rw [if_pos h1, if_pos h1]
      exact (by unfold g_absf; decide : ∀ k : Fin 13, (if g_absf (Int32.ofNat k - 6) < 3 then (0 : Int32) else 1) = (if 8 < Int32.ofNat k then 1 else (if 4 ≤ Int32.ofNat k then 0 else 1))) k
    · rw [if_neg h1, if_neg h1]
theorem p_pos {s : Int32} (hs : m_Sec s) (h : ¬ s = 0) : 0 < s := by
  obtain ⟨n, rfl⟩ := pe_s hs
  clear hs; revert h; revert n; decide
theorem p_hold5 {s : Int32} (hs : m_Sec s) : (5 ≤ s → m_Sec (s - 5) ∧ s - 5 < s ∧ g_maxf 0 (s - 5) = s - 5) ∧ (¬ 5 ≤ s → g_maxf 0 (s - 5) = 0) := by
  obtain ⟨n, rfl⟩ := pe_s hs
  clear hs; unfold m_Sec g_maxf; revert n; decide
theorem p_end0 {law s l : Int32} (h : f_X5_ended law s l = 0) : ¬ s = 0 := by
  intro h0; unfold f_X5_ended at h; rw [if_pos h0] at h; exact absurd h (by decide)
section
variable {reb law draw size players : Int32} {facts changes V B rowT hitV missV side kind near far free guard W : Nat → Int32}
theorem p_shotc {p s l b : Int32} (c : Fin 3) (hr : r_in reb 9) (hd : r_in draw 9)
    (hS : m_S s l b) (h0 : 0 < s) (hT : r_in (p_tt kind near far free guard p (Int32.ofNat c) s) 9) (hA : p_Ag V W s) (hZ : p_Z draw W) :
    f_X4_mix (p_tt kind near far free guard p (Int32.ofNat c) s) (f_X1_valueBehindHit law draw V (Int32.ofNat c) s l b) (f_X1_valueBehindMiss reb V (Int32.ofNat c) s l b) = f_X5_ofShot reb law draw kind near far free guard W p (Int32.ofNat c) s l b
      ∧ p_V (f_X5_ofShot reb law draw kind near far free guard W p (Int32.ofNat c) s l b) :=
  match c with
  | ⟨0, _⟩ => p_shot0 hr hd hS h0 hT hA hZ
  | ⟨1, _⟩ => p_shot1 hr hd hS h0 hT hA hZ
  | ⟨2, _⟩ => p_shot2 hr hd hS h0 hT hA hZ
theorem p_holdEq {s l b : Int32} (hS : m_S s l b) (h0 : 0 < s) (hd : r_in draw 9) (hA : p_Ag V W s) (hZ : p_Z draw W) :
    f_X1_valueAt V (g_maxf 0 (s - 5)) l b = f_X5_ofHold draw W s l b ∧ p_V (f_X5_ofHold draw W s l b) := by
  obtain ⟨h5, h6⟩ := p_hold5 hS.1
  unfold f_X5_ofHold
  by_cases h : 5 ≤ s
  · obtain ⟨g1, g2, g3⟩ := h5 h
    have a := hA _ l b ⟨g1, hS.2⟩ g2
    rw [if_pos h, p_lt, g3, p_at V ⟨g1, hS.2⟩, p_vof]
    exact a
  · have z0 : m_Sec 0 := ⟨by decide, by decide⟩
    have a := hA 0 l b ⟨z0, hS.2⟩ h0
    rw [if_neg h, p_lt, h6 h, p_at V ⟨z0, hS.2⟩, a.1, hZ l b ⟨z0, hS.2⟩]
    exact ⟨rfl, p_end_V hd⟩
/-- one state of the class is the reference's state -/
theorem p_st1 {s l b : Int32} (hL : p_LR size facts changes players side kind near far free guard) (hr : r_in reb 9) (hd : r_in draw 9)
    (hS : m_S s l b) (hT : ∀ (p : Fin 6) (c : Fin 3), rowT (3 * p + c) = f_X1_tenths facts changes (Int32.ofNat p) (Int32.ofNat c) s) (hA : p_Ag V W s) (hZ : 0 < s → p_Z draw W) :
    (∃ hv mv, f_X1_solveState reb law draw size facts changes V B rowT hitV missV s l b =
      (upd V (p_ix s l b) (m_val reb law draw players side kind near far free guard W s l b), upd B (p_ix s l b) (m_bst reb law draw players side kind near far free guard W s l b), hv, mv)) ∧
    p_V (m_val reb law draw players side kind near far free guard W s l b) := by
  obtain ⟨hsz, hP, hp, hg⟩ := hL
  obtain ⟨m', hm'⟩ := pe_nat 6 hP.1 hP.2 (by decide)
  obtain ⟨m, hm⟩ : ∃ m : Nat, m = m'.val := ⟨_, rfl⟩
  have hm6 : m ≤ 6 := by have := m'.isLt; omega
  rw [← hm] at hm'
  have ho := p_isOver law hS.1 hS.2.1
  unfold m_val m_bst
  by_cases h0 : f_X5_ended law s l = 0
  · have h1 := p_pos hS.1 (p_end0 h0)
    have hZ1 := hZ h1
    rw [if_pos h0, if_pos h0]
    obtain ⟨hv, mv, hst⟩ := p_state reb law draw size facts changes V B rowT hitV missV s l b hS m hm6 (hsz.trans hm') (ho.trans h0)
    have hc := p_choice reb law draw players side kind near far free guard W s l b m hm6 hm'
    obtain ⟨ehold, vhold⟩ := p_holdEq (l := l) (b := b) hS h1 hd hA hZ1
    have hsh : ∀ (p : Fin 6) (c : Fin 3), p_shC rowT (p_hv3 (fun c => f_X1_valueBehindHit law draw V c s l b) hitV) (p_hv3 (fun c => f_X1_valueBehindMiss reb V c s l b) missV) p c = p_sh reb law draw kind near far free guard W s l b p c ∧ p_V (p_sh reb law draw kind near far free guard W s l b p c) := by
      intro p c
      unfold p_shC p_sh
      obtain ⟨e1, e2⟩ := p_od p s c (hp p p.isLt) (hg p p.isLt)
      rw [p_inrow, p_hv3_at, p_hv3_at, hT, e1]
      exact p_shotc c hr hd hS h1 e2 hA hZ1
    have hpl : ∀ p : Fin 6, p_plC facts changes b p = p_pl side guard b p := by
      intro p
      have f0 : f_X3_fact facts (Int32.ofNat p) 0 = side p := by rw [← (hp p p.isLt).1.1]; exact p_fact facts p 0
      unfold p_plC p_pl f_X5_plays
      rw [f0, p_chg, p_nat6]
      by_cases hs : side p = b
      · rcases hg p p.isLt with ⟨hc, hg⟩ | ⟨hc, hg⟩ | ⟨hc, hg⟩ | ⟨hc, hg⟩ <;> rw [hc, hg, if_pos hs] <;> simp [hs]
      · rw [if_neg hs]; simp [hs]
    have hCd : p_Cd (p_shC rowT (p_hv3 (fun c => f_X1_valueBehindHit law draw V c s l b) hitV) (p_hv3 (fun c => f_X1_valueBehindMiss reb V c s l b) missV)) (p_plC facts changes b) 0 m = p_Cd (p_sh reb law draw kind near far free guard W s l b) (p_pl side guard b) 0 m :=
      p_Cd_congr m (fun p h => hpl ⟨p, by omega⟩) (fun p h _ c hc => (hsh ⟨p, by omega⟩ ⟨c, hc⟩).1)
    have hb : p_best reb law draw facts changes V rowT hitV missV s l b m = (f_X5_ofChoice reb law draw kind near far free guard W (f_X5_choice reb law draw players side kind near far free guard W s l b) s l b, f_X5_choice reb law draw players side kind near far free guard W s l b) := by
      unfold p_best
      rw [hCd, ehold, hc]
    refine ⟨⟨hv, mv, ?_⟩, ?_⟩
    · rw [hst, hb]
    · have e1 : f_X5_ofChoice reb law draw kind near far free guard W (f_X5_choice reb law draw players side kind near far free guard W s l b) s l b = ((p_Cd (p_sh reb law draw kind near far free guard W s l b) (p_pl side guard b) 0 m).foldr (p_sC b) (f_X5_ofHold draw W s l b, 93)).1 := by rw [← hc]
      rw [e1]
      rcases p_foldr_mem b (f_X5_ofHold draw W s l b, 93) (p_Cd (p_sh reb law draw kind near far free guard W s l b) (p_pl side guard b) 0 m) with h | ⟨q, hq, h⟩
      · rw [h]; exact vhold
      · rw [h]
        obtain ⟨p, c, _, _, h3⟩ := p_Cd_code _ _ m hm6 q hq
        rw [h3]; exact (hsh p c).2
  · rw [if_neg h0, if_neg h0]
    refine ⟨⟨hitV, missV, ?_⟩, p_end_V hd⟩
    exact p_over reb law draw size facts changes V B rowT hitV missV s l b hS (by rw [ho]; exact h0)
end
theorem p_ltn (n k : Fin 26) : Int32.ofNat n < Int32.ofNat k ↔ n.val < k.val :=
  (by decide : ∀ n k : Fin 26, Int32.ofNat n < Int32.ofNat k ↔ n.val < k.val) n k
theorem p_upd_same (f : Nat → Int32) (k : Nat) (x : Int32) : upd f k x k = x := by unfold upd; rw [if_pos rfl]
theorem p_upd_ne (f : Nat → Int32) {k j : Nat} (x : Int32) (h : ¬ j = k) : upd f k x j = f j := by unfold upd; rw [if_neg h]
theorem p_slt {s t : Int32} (h : s < t) : ¬ s = t := fun e => by subst e; exact Int32.lt_irrefl h
theorem p_end1 (law l : Int32) : ¬ f_X5_ended law 0 l = 0 := by unfold f_X5_ended; rw [if_pos rfl]; decide
section
variable {reb law draw size players : Int32} {facts changes side kind near far free guard : Nat → Int32}
theorem p_val0 (W : Nat → Int32) (l b : Int32) : m_val reb law draw players side kind near far free guard W 0 l b = f_X5_atEnd draw l := by
  unfold m_val; rw [if_neg (p_end1 law l)]
theorem p_cong {V W : Nat → Int32} {s l b : Int32} (hL : p_LR size facts changes players side kind near far free guard) (hr : r_in reb 9) (hd : r_in draw 9)
    (hS : m_S s l b) (hA : p_Ag V W s) (hZ : 0 < s → p_Z draw W) :
    m_val reb law draw players side kind near far free guard V s l b = m_val reb law draw players side kind near far free guard W s l b ∧ m_bst reb law draw players side kind near far free guard V s l b = m_bst reb law draw players side kind near far free guard W s l b := by
  obtain ⟨rowT, hT⟩ : ∃ rowT : Nat → Int32, ∀ (p : Fin 6) (c : Fin 3), rowT (3 * p + c) = f_X1_tenths facts changes (Int32.ofNat p) (Int32.ofNat c) s := by
    refine ⟨fun k => f_X1_tenths facts changes (Int32.ofNat (k / 3)) (Int32.ofNat (k % 3)) s, fun p c => ?_⟩
    have e1 : (3 * p.val + c.val) / 3 = p.val := by have := c.isLt; omega
    have e2 : (3 * p.val + c.val) % 3 = c.val := by have := c.isLt; omega
    show f_X1_tenths facts changes (Int32.ofNat ((3 * p.val + c.val) / 3)) (Int32.ofNat ((3 * p.val + c.val) % 3)) s = _
    rw [e1, e2]
  have hAV : p_Ag V V s := fun s' l' b' h1 h2 => ⟨rfl, by rw [(hA s' l' b' h1 h2).1]; exact (hA s' l' b' h1 h2).2⟩
  have hZV : 0 < s → p_Z draw V := fun h l' b' h' => by rw [(hA 0 l' b' h' h).1]; exact hZ h l' b' h'
  obtain ⟨⟨a1, a2, ea⟩, _⟩ := p_st1 (law := law) (B := V) (hitV := V) (missV := V) hL hr hd hS hT hA hZ
  obtain ⟨⟨b1, b2, eb⟩, _⟩ := p_st1 (law := law) (B := V) (hitV := V) (missV := V) hL hr hd hS hT hAV hZV
  have e := eb.symm.trans ea
  have g1 := congrArg (fun z => z.1 (p_ix s l b)) e
  have g2 := congrArg (fun z => z.2.1 (p_ix s l b)) e
  simp only [p_upd_same] at g1 g2
  exact ⟨g1, g2⟩
theorem p_cval {W : Nat → Int32} {s l b : Int32} (hL : p_LR size facts changes players side kind near far free guard) (hr : r_in reb 9) (hd : r_in draw 9)
    (hS : m_S s l b) (hA : p_Ag W W s) (hZ : 0 < s → p_Z draw W) : p_V (m_val reb law draw players side kind near far free guard W s l b) := by
  obtain ⟨rowT, hT⟩ : ∃ rowT : Nat → Int32, ∀ (p : Fin 6) (c : Fin 3), rowT (3 * p + c) = f_X1_tenths facts changes (Int32.ofNat p) (Int32.ofNat c) s := by
    refine ⟨fun k => f_X1_tenths facts changes (Int32.ofNat (k / 3)) (Int32.ofNat (k % 3)) s, fun p c => ?_⟩
    have e1 : (3 * p.val + c.val) / 3 = p.val := by have := c.isLt; omega
    have e2 : (3 * p.val + c.val) % 3 = c.val := by have := c.isLt; omega
    show f_X1_tenths facts changes (Int32.ofNat ((3 * p.val + c.val) / 3)) (Int32.ofNat ((3 * p.val + c.val) % 3)) s = _
    rw [e1, e2]
  exact (p_st1 (law := law) (B := W) (hitV := W) (missV := W) hL hr hd hS hT hA hZ).2
theorem p_SolZ {W B : Nat → Int32} {n : Int32} (h : r_Sol reb law draw players side kind near far free guard W B n) (hn : 0 < n) : p_Z draw W :=
  fun l b hS => by rw [← p_val0 (reb := reb) (law := law) (players := players) (side := side) (kind := kind) (near := near) (far := far) (free := free) (guard := guard) W l b]; exact (h.2.2 0 l b hS hn).1
/-- the values of what is solved are in range -/
theorem p_SolAg {W B : Nat → Int32} {n : Int32} (hL : p_LR size facts changes players side kind near far free guard) (hr : r_in reb 9) (hd : r_in draw 9)
    (h : r_Sol reb law draw players side kind near far free guard W B n) : p_Ag W W n := by
  have key : ∀ k : Nat, ∀ (s : Fin 25) (l b : Int32), s.val < k → m_S (Int32.ofNat s) l b → Int32.ofNat s < n → p_V (W (p_ix (Int32.ofNat s) l b)) := by
    intro k
    induction k with
    | zero => intro s l b h1; omega
    | succ k ih =>
      intro s l b h1 hS hlt
      rw [show W (p_ix (Int32.ofNat s) l b) = _ from (h.2.2 _ l b hS hlt).1]
      refine p_cval hL hr hd hS ?_ (fun h0 => p_SolZ h (Int32.lt_trans h0 hlt))
      intro s' l' b' hS' hlt'
      obtain ⟨n', hn'⟩ := pe_s hS'.1
      subst hn'
      have hv := (p_ltn ⟨n'.val, by omega⟩ ⟨s.val, by omega⟩).1 hlt'
      exact ⟨rfl, ih n' l' b' (by simp only at hv; omega) hS' (Int32.lt_trans hlt' hlt)⟩
  intro s l b hS hlt
  obtain ⟨n', hn'⟩ := pe_s hS.1
  subst hn'
  exact ⟨rfl, key 25 n' l b n'.isLt hS hlt⟩
/-- what is solved is solved in one way -/
theorem p_uniq {V W B C : Nat → Int32} {n k : Int32} (hL : p_LR size facts changes players side kind near far free guard) (hr : r_in reb 9) (hd : r_in draw 9)
    (h : r_Sol reb law draw players side kind near far free guard V B n) (h' : r_Sol reb law draw players side kind near far free guard W C k) :
    ∀ s l b, m_S s l b → s < n → s < k → V (p_ix s l b) = W (p_ix s l b) ∧ B (p_ix s l b) = C (p_ix s l b) := by
  have hW := p_SolAg hL hr hd h'
  have key : ∀ j : Nat, ∀ (s : Fin 25) (l b : Int32), s.val < j → m_S (Int32.ofNat s) l b → Int32.ofNat s < n → Int32.ofNat s < k → V (p_ix (Int32.ofNat s) l b) = W (p_ix (Int32.ofNat s) l b) ∧ B (p_ix (Int32.ofNat s) l b) = C (p_ix (Int32.ofNat s) l b) := by
    intro j
    induction j with
    | zero => intro s l b h1; omega
    | succ j ih =>
      intro s l b h1 hS hn hk
      have e1 := h.2.2 _ l b hS hn
      have e2 := h'.2.2 _ l b hS hk
      have hA : p_Ag V W (Int32.ofNat s) := by
        intro s' l' b' hS' hlt'
        obtain ⟨n', hn'⟩ := pe_s hS'.1
        subst hn'
        have hv := (p_ltn ⟨n'.val, by omega⟩ ⟨s.val, by omega⟩).1 hlt'
        exact ⟨(ih n' l' b' (by simp only at hv; omega) hS' (Int32.lt_trans hlt' hn) (Int32.lt_trans hlt' hk)).1, (hW _ l' b' hS' (Int32.lt_trans hlt' hk)).2⟩
      have hc := p_cong (law := law) hL hr hd hS hA (fun h0 => p_SolZ h' (Int32.lt_trans h0 hk))
      exact ⟨(show V (p_ix _ l b) = _ from e1.1).trans (hc.1.trans (show W (p_ix _ l b) = _ from e2.1).symm), (show B (p_ix _ l b) = _ from e1.2).trans (hc.2.trans (show C (p_ix _ l b) = _ from e2.2).symm)⟩
  intro s l b hS hn hk
  obtain ⟨n', hn'⟩ := pe_s hS.1
  subst hn'
  exact key 25 n' l b n'.isLt hS hn hk
def p_Row (reb law draw players : Int32) (side kind near far free guard W B : Nat → Int32) (s : Int32) (D : Int32 → Int32 → Prop) : Prop :=
  r_Sol reb law draw players side kind near far free guard W B s ∧ ∀ l b, m_S s l b → D l b → W (p_ix s l b) = m_val reb law draw players side kind near far free guard W s l b ∧ B (p_ix s l b) = m_bst reb law draw players side kind near far free guard W s l b
theorem p_put1 {W B : Nat → Int32} {s l b : Int32} {D : Int32 → Int32 → Prop} (hL : p_LR size facts changes players side kind near far free guard) (hr : r_in reb 9) (hd : r_in draw 9)
    (h : p_Row reb law draw players side kind near far free guard W B s D) (hS : m_S s l b) :
    p_Row reb law draw players side kind near far free guard (upd W (p_ix s l b) (m_val reb law draw players side kind near far free guard W s l b)) (upd B (p_ix s l b) (m_bst reb law draw players side kind near far free guard W s l b)) s (fun l' b' => D l' b' ∨ (l' = l ∧ b' = b)) := by
  obtain ⟨h1, h2⟩ := h
  have hW := p_SolAg hL hr hd h1
  obtain ⟨x, hx⟩ : ∃ x, x = m_val reb law draw players side kind near far free guard W s l b := ⟨_, rfl⟩
  obtain ⟨y, hy⟩ : ∃ y, y = m_bst reb law draw players side kind near far free guard W s l b := ⟨_, rfl⟩
  rw [← hx, ← hy]
  have hne : ∀ s' l' b', m_S s' l' b' → s' < s → ¬ p_ix s' l' b' = p_ix s l b := fun s' l' b' hS' hlt e => p_slt hlt (p_ix_inj hS' hS e).1
  have hA : ∀ t, t ≤ s → p_Ag (upd W (p_ix s l b) x) W t := by
    intro t ht s' l' b' hS' hlt'
    have hlt := Int32.lt_of_lt_of_le hlt' ht
    exact ⟨p_upd_ne _ _ (hne s' l' b' hS' hlt), (hW s' l' b' hS' hlt).2⟩
  have hc : ∀ t l' b', m_S t l' b' → t ≤ s → m_val reb law draw players side kind near far free guard (upd W (p_ix s l b) x) t l' b' = m_val reb law draw players side kind near far free guard W t l' b' ∧ m_bst reb law draw players side kind near far free guard (upd W (p_ix s l b) x) t l' b' = m_bst reb law draw players side kind near far free guard W t l' b' :=
    fun t l' b' hS' ht => p_cong hL hr hd hS' (hA t ht) (fun h0 => p_SolZ h1 (Int32.lt_of_lt_of_le h0 ht))
  refine ⟨⟨h1.1, h1.2.1, fun s' l' b' hS' hlt => ?_⟩, fun l' b' hS' hD => ?_⟩
  · have e := h1.2.2 s' l' b' hS' hlt
    have c := hc s' l' b' hS' (Int32.le_of_lt hlt)
    rw [c.1, c.2]
    exact ⟨(p_upd_ne _ _ (hne s' l' b' hS' hlt)).trans e.1, (p_upd_ne _ _ (hne s' l' b' hS' hlt)).trans e.2⟩
  · have c := hc s l' b' hS' (Int32.le_refl _)
    rw [c.1, c.2]
    by_cases he : p_ix s l' b' = p_ix s l b
    · obtain ⟨_, el, eb⟩ := p_ix_inj hS' hS he
      subst el; subst eb
      rw [p_upd_same, p_upd_same]; exact ⟨hx, hy⟩
    · rcases hD with hD | ⟨rfl, rfl⟩
      · rw [p_upd_ne _ _ he, p_upd_ne _ _ he]; exact h2 l' b' hS' hD
      · exact absurd rfl he
theorem p_next {W B : Nat → Int32} {s : Int32} {D : Int32 → Int32 → Prop} (hs : m_Sec s) (hD : ∀ l b, m_S s l b → D l b) (h : p_Row reb law draw players side kind near far free guard W B s D) :
    r_Sol reb law draw players side kind near far free guard W B (s + 1) := by
  obtain ⟨h1, h2⟩ := h
  have hb : 0 ≤ s + 1 ∧ s + 1 ≤ 25 := by
    obtain ⟨n, rfl⟩ := pe_s hs
    exact (by decide : ∀ n : Fin 25, 0 ≤ Int32.ofNat n + 1 ∧ Int32.ofNat n + 1 ≤ 25) n
  refine ⟨hb.1, hb.2, fun s' l b hS hlt => ?_⟩
  by_cases he : s' = s
  · subst he; exact h2 l b hS (hD l b hS)
  · refine h1.2.2 s' l b hS ?_
    obtain ⟨n, rfl⟩ := pe_s hs
    obtain ⟨k, rfl⟩ := pe_s hS.1
    clear hS hb h1 h2 hD hs
    revert hlt he; revert n k; decide
end
theorem p_fillL (s : Int32) (facts changes : Nat → Int32) (K : Int32 → (Nat → Int32) → (Nat → Int32)) : ∀ (j i : Nat) (R : Nat → Int32), i + j = 18 →
    ∃ R', L_X1_fillTenths_2 s facts changes K (j + 1) (Int32.ofNat i) R = K 18 R' ∧ ∀ k : Nat, k < 18 → (i ≤ k → R' k = f_X1_tenths facts changes (Int32.ofNat (k / 3)) (Int32.ofNat (k % 3)) s) ∧ (k < i → R' k = R k)
  | 0, i, R, h => by
      have e : i = 18 := by omega
      subst e
      refine ⟨R, ?_, fun k hk => ⟨fun h => by omega, fun _ => rfl⟩⟩
      rw [L_X1_fillTenths_2, if_pos (by decide)]; rfl
  | j + 1, i, R, h => by
      have hi : i < 18 := by omega
      have e := (by unfold g_remf; decide : ∀ i : Fin 18, ¬ 18 ≤ Int32.ofNat i ∧ Int32.ofNat i / 3 = Int32.ofNat (i.val / 3) ∧ g_remf (Int32.ofNat i) 3 = Int32.ofNat (i.val % 3) ∧ Int32.ofNat i + 1 = Int32.ofNat (i.val + 1) ∧ (Int32.ofNat i).toNatClampNeg = i.val) ⟨i, hi⟩
      obtain ⟨e1, e2, e3, e4, e5⟩ := e
      rw [L_X1_fillTenths_2, if_neg e1, p_lt, e2, e3, e4, e5]
      obtain ⟨R', h1, h2⟩ := p_fillL s facts changes K j (i + 1) (upd R i (f_X1_tenths facts changes (Int32.ofNat (i / 3)) (Int32.ofNat (i % 3)) s)) (by omega)
      refine ⟨R', h1, fun k hk => ⟨fun hik => ?_, fun hki => ?_⟩⟩
      · by_cases hk2 : k = i
        · subst hk2; rw [(h2 k hk).2 (by omega), p_upd_same]
        · exact (h2 k hk).1 (by omega)
      · rw [(h2 k hk).2 (by omega), p_upd_ne _ _ (by omega)]
theorem p_fill (s : Int32) (facts changes R : Nat → Int32) : ∀ (p : Fin 6) (c : Fin 3), f_X1_fillTenths facts changes R s (3 * p + c) = f_X1_tenths facts changes (Int32.ofNat p) (Int32.ofNat c) s := by
  intro p c
  unfold f_X1_fillTenths
  obtain ⟨R', h1, h2⟩ := p_fillL s facts changes (fun _ z => z) 18 0 R (by omega)
  have e1 : (3 * p.val + c.val) / 3 = p.val := by have := c.isLt; omega
  have e2 : (3 * p.val + c.val) % 3 = c.val := by have := c.isLt; omega
  have h3 := (h2 (3 * p.val + c.val) (by have := p.isLt; have := c.isLt; omega)).1 (by omega)
  rw [e1, e2] at h3
  exact (congrFun h1 _).trans h3
section
variable {reb law draw size players : Int32} {facts changes side kind near far free guard : Nat → Int32}
theorem p_lead25 (hL : p_LR size facts changes players side kind near far free guard) (hr : r_in reb 9) (hd : r_in draw 9) (v1 v2 sr s : Int32) (hs : m_Sec s) (rowT : Nat → Int32)
    (hT : ∀ (p : Fin 6) (c : Fin 3), rowT (3 * p + c) = f_X1_tenths facts changes (Int32.ofNat p) (Int32.ofNat c) s)
    (K : Int32 → (Nat → Int32) → (Nat → Int32) → (Nat → Int32) → (Nat → Int32) → Int32 × (Nat → Int32) × (Nat → Int32) × (Nat → Int32) × (Nat → Int32) × (Nat → Int32)) :
    ∀ (j i : Nat) (V B hv mv : Nat → Int32), i + j = 13 → p_Row reb law draw players side kind near far free guard V B s (fun l _ => l < Int32.ofNat i) →
    ∃ V' B' hv' mv', L_X1_solveTo_25 v1 v2 s reb law draw sr size facts changes rowT K (j + 1) (Int32.ofNat i) V B hv mv = K 13 V' B' hv' mv' ∧ r_Sol reb law draw players side kind near far free guard V' B' (s + 1)
  | 0, i, V, B, hv, mv, h, hI => by
      have e : i = 13 := by omega
      subst e
      refine ⟨V, B, hv, mv, ?_, p_next hs (fun l b hS => ?_) hI⟩
      · rw [L_X1_solveTo_25, if_pos (by decide)]; rfl
      · exact Int32.lt_of_le_of_lt hS.2.1.2 (by decide)
  | j + 1, i, V, B, hv, mv, h, hI => by
      have hi : i < 13 := by omega
      obtain ⟨e1, e2⟩ := (by decide : ∀ i : Fin 13, ¬ 12 < Int32.ofNat i ∧ Int32.ofNat i + 1 = Int32.ofNat (i.val + 1)) ⟨i, hi⟩
      have hl : m_Ld (Int32.ofNat i) := (by decide : ∀ n : Fin 13, 0 ≤ Int32.ofNat n ∧ Int32.ofNat n ≤ 12) ⟨i, hi⟩
      have hS0 : m_S s (Int32.ofNat i) 0 := ⟨hs, hl, by decide, by decide⟩
      have hS1 : m_S s (Int32.ofNat i) 1 := ⟨hs, hl, by decide, by decide⟩
      rw [L_X1_solveTo_25, if_neg e1, p_lt, p_lt]
      obtain ⟨a1, a2, ea⟩ := (p_st1 (law := law) (B := B) (hitV := hv) (missV := mv) hL hr hd hS0 hT (p_SolAg hL hr hd hI.1) (fun h0 => p_SolZ hI.1 h0)).1
      have hI1 := p_put1 hL hr hd hI hS0
      obtain ⟨b1, b2, eb⟩ := (p_st1 (law := law) (B := upd B (p_ix s (Int32.ofNat i) 0) (m_bst reb law draw players side kind near far free guard V s (Int32.ofNat i) 0)) (hitV := a1) (missV := a2) hL hr hd hS1 hT (p_SolAg hL hr hd hI1.1) (fun h0 => p_SolZ hI1.1 h0)).1
      have hI2 := p_put1 hL hr hd hI1 hS1
      rw [ea]
      dsimp only
      rw [eb]
      dsimp only
      rw [e2]
      refine p_lead25 hL hr hd v1 v2 sr s hs rowT hT K j (i + 1) _ _ _ _ (by omega) ⟨hI2.1, fun l b hS hlt => hI2.2 l b hS ?_⟩
      by_cases he : l = Int32.ofNat i
      · rcases pe_b hS.2.2 with hb | hb
        · exact Or.inl (Or.inr ⟨he, hb⟩)
        · exact Or.inr ⟨he, hb⟩
      · refine Or.inl (Or.inl ?_)
        obtain ⟨k, rfl⟩ := pe_l hS.2.1
        have h3 := (p_ltn ⟨k.val, by omega⟩ ⟨i + 1, by omega⟩).1 hlt
        refine (p_ltn ⟨k.val, by omega⟩ ⟨i, by omega⟩).2 ?_
        have h4 : ¬ k.val = i := fun e => he (by rw [e])
        simp only at h3 ⊢; omega
theorem p_rows12 (hL : p_LR size facts changes players side kind near far free guard) (hr : r_in reb 9) (hd : r_in draw 9) (v1 : Int32) (t : Nat) (ht : t ≤ 24)
    (K : Int32 → Int32 → (Nat → Int32) → (Nat → Int32) → (Nat → Int32) → (Nat → Int32) → (Nat → Int32) → Int32 × (Nat → Int32) × (Nat → Int32) × (Nat → Int32) × (Nat → Int32) × (Nat → Int32)) :
    ∀ (j i : Nat) (V B rT hv mv : Nat → Int32), i + j = t + 1 → r_Sol reb law draw players side kind near far free guard V B (Int32.ofNat i) →
    ∃ V' B' rT' hv' mv', L_X1_solveTo_12 v1 (Int32.ofNat t) reb law draw size facts changes K (j + 1) (Int32.ofNat i) (Int32.ofNat i) V B rT hv mv = K (Int32.ofNat (t + 1)) (Int32.ofNat (t + 1)) V' B' rT' hv' mv' ∧ r_Sol reb law draw players side kind near far free guard V' B' (Int32.ofNat (t + 1))
  | 0, i, V, B, rT, hv, mv, h, hI => by
      have e : i = t + 1 := by omega
      subst e
      refine ⟨V, B, rT, hv, mv, ?_, hI⟩
      rw [L_X1_solveTo_12, if_pos ((p_ltn ⟨t, by omega⟩ ⟨t + 1, by omega⟩).2 (by simp only; omega))]
  | j + 1, i, V, B, rT, hv, mv, h, hI => by
      have hi : i ≤ t := by omega
      have e1 : ¬ Int32.ofNat t < Int32.ofNat i := fun h => by have := (p_ltn ⟨t, by omega⟩ ⟨i, by omega⟩).1 h; simp only at this; omega
      have e2 : Int32.ofNat i + 1 = Int32.ofNat (i + 1) := (by decide : ∀ i : Fin 25, Int32.ofNat i + 1 = Int32.ofNat (i.val + 1)) ⟨i, by omega⟩
      have hs : m_Sec (Int32.ofNat i) := (by decide : ∀ n : Fin 25, 0 ≤ Int32.ofNat n ∧ Int32.ofNat n ≤ 24) ⟨i, by omega⟩
      rw [L_X1_solveTo_12, if_neg e1, p_lt, (by decide : ((12 : Int32).toInt - (0 : Int32).toInt + 1).toNat + 1 = 14)]
      obtain ⟨V', B', hv', mv', g1, g2⟩ := p_lead25 (law := law) hL hr hd v1 (Int32.ofNat t) (Int32.ofNat i) (Int32.ofNat i) hs (f_X1_fillTenths facts changes rT (Int32.ofNat i)) (p_fill (Int32.ofNat i) facts changes rT)
        (fun v4_25 c_values_25 c_bests_25 c_hitValues_25 c_missValues_25 => L_X1_solveTo_12 v1 (Int32.ofNat t) reb law draw size facts changes K (j + 1) (Int32.ofNat i + 1) (Int32.ofNat i + 1) c_values_25 c_bests_25 (f_X1_fillTenths facts changes rT (Int32.ofNat i)) c_hitValues_25 c_missValues_25) 13 0 V B hv mv (by omega)
        ⟨hI, fun l b hS hlt => absurd hlt (Int32.not_lt.2 hS.2.1.1)⟩
      have g3 : Int32.ofNat 0 = 0 := rfl
      rw [g3] at g1
      rw [g1, e2]
      rw [e2] at g2
      exact p_rows12 hL hr hd v1 t ht K j (i + 1) V' B' _ hv' mv' (by omega) g2
/-- the class solves to some seconds -/
theorem p_solveTo (hL : p_LR size facts changes players side kind near far free guard) (hr : r_in reb 9) (hd : r_in draw 9) {n s : Int32} (hs : m_Sec s) {V B : Nat → Int32} (rT hv mv : Nat → Int32)
    (hI : r_Sol reb law draw players side kind near far free guard V B n) :
    ∃ n' V' B' rT' hv' mv', f_X1_solveTo reb law draw n size facts changes V B rT hv mv s = (n', V', B', rT', hv', mv') ∧ r_Sol reb law draw players side kind near far free guard V' B' n' ∧ s < n' := by
  obtain ⟨t, rfl⟩ := pe_s hs
  obtain ⟨i, rfl⟩ := pe_nat 25 hI.1 hI.2.1 (by decide)
  have e1 : g_minf (Int32.ofNat t) 24 = Int32.ofNat t := (by unfold g_minf; decide : ∀ t : Fin 25, g_minf (Int32.ofNat t) 24 = Int32.ofNat t) t
  unfold f_X1_solveTo
  rw [e1]
  have et := t.isLt
  have ei := i.isLt
  have ef : ((Int32.ofNat t).toInt - (Int32.ofNat i).toInt + 1).toNat + 1 = (t.val + 1 - i.val) + 1 := by
    have a1 : (Int32.ofNat t).toInt = t.val := (by decide : ∀ t : Fin 26, (Int32.ofNat t).toInt = t.val) ⟨t.val, by omega⟩
    have a2 : (Int32.ofNat i).toInt = i.val := (by decide : ∀ t : Fin 26, (Int32.ofNat t).toInt = t.val) i
    rw [a1, a2]; omega
  rw [ef]
  by_cases hti : i.val ≤ t.val
  · obtain ⟨V', B', rT', hv', mv', g1, g2⟩ := p_rows12 (law := law) hL hr hd (Int32.ofNat t) t.val (by omega) (fun v3_12 c_solvedRows_12 c_values_12 c_bests_12 c_rowTenths_12 c_hitValues_12 c_missValues_12 => (c_solvedRows_12, c_values_12, c_bests_12, c_rowTenths_12, c_hitValues_12, c_missValues_12)) (t.val + 1 - i.val) i.val V B rT hv mv (by omega) hI
    exact ⟨_, V', B', rT', hv', mv', g1, g2, (p_ltn ⟨t.val, by omega⟩ ⟨t.val + 1, by omega⟩).2 (by simp only; omega)⟩
  · have hlt := (p_ltn ⟨t.val, by omega⟩ i).2 (by simp only; omega)
    refine ⟨Int32.ofNat i, V, B, rT, hv, mv, ?_, hI, hlt⟩
    rw [L_X1_solveTo_12, if_pos hlt]
end
section
variable {reb law draw size players : Int32} {facts changes side kind near far free guard : Nat → Int32}
theorem p_one (W : Nat → Int32) (s l b : Int32) (K : Int32 → Nat → Int32) : 
    g_lt (f_X5_ended law s l) (fun r40 => (if r40 = 0 then g_lt (f_X5_choice reb law draw players side kind near far free guard W s l b) (fun r59 => g_lt (f_X5_ofChoice reb law draw kind near far free guard W r59 s l b) (fun r65 => K r65)) else g_lt (f_X5_atEnd draw l) (fun r48 => K r48))) = K (m_val reb law draw players side kind near far free guard W s l b) := by
  rw [p_lt]
  unfold m_val
  by_cases h : f_X5_ended law s l = 0
  · rw [if_pos h, if_pos h, p_lt, p_lt]
  · rw [if_neg h, if_neg h, p_lt]
theorem p_ref18 (hL : p_LR size facts changes players side kind near far free guard) (hr : r_in reb 9) (hd : r_in draw 9) (s l : Int32) (hs : m_Sec s) (hl : m_Ld l)
    (K : Int32 → (Nat → Int32) → (Nat → Int32)) (W B : Nat → Int32) (D : Int32 → Int32 → Prop) (hI : p_Row reb law draw players side kind near far free guard W B s D) :
    ∃ W' B', L_X5_solve_18 s l reb law draw players side kind near far free guard K 3 0 W = K 2 W' ∧ p_Row reb law draw players side kind near far free guard W' B' s (fun l' b' => (D l' b' ∨ (l' = l ∧ b' = 0)) ∨ (l' = l ∧ b' = 1)) := by
  have hS0 : m_S s l 0 := ⟨hs, hl, by decide, by decide⟩
  have hS1 : m_S s l 1 := ⟨hs, hl, by decide, by decide⟩
  have hI1 := p_put1 hL hr hd hI hS0
  have hI2 := p_put1 hL hr hd hI1 hS1
  refine ⟨_, _, ?_, hI2⟩
  rw [L_X5_solve_18, if_neg (by decide)]
  refine (p_one W s l 0 _).trans ?_
  rw [(by decide : (0 : Int32) + 1 = 1), L_X5_solve_18, if_neg (by decide)]
  refine (p_one _ s l 1 _).trans ?_
  rw [(by decide : (1 : Int32) + 1 = 2), L_X5_solve_18, if_pos (by decide)]
  rfl
theorem p_ref10 (hL : p_LR size facts changes players side kind near far free guard) (hr : r_in reb 9) (hd : r_in draw 9) (s : Int32) (hs : m_Sec s)
    (K : Int32 → (Nat → Int32) → (Nat → Int32)) : ∀ (j i : Nat) (W B : Nat → Int32), i + j = 13 → p_Row reb law draw players side kind near far free guard W B s (fun l _ => l < Int32.ofNat i) →
    ∃ W' B', L_X5_solve_10 s reb law draw players side kind near far free guard K (j + 1) (Int32.ofNat i) W = K 13 W' ∧ r_Sol reb law draw players side kind near far free guard W' B' (s + 1)
  | 0, i, W, B, h, hI => by
      have e : i = 13 := by omega
      subst e
      refine ⟨W, B, ?_, p_next hs (fun l b hS => Int32.lt_of_le_of_lt hS.2.1.2 (by decide)) hI⟩
      rw [L_X5_solve_10, if_pos (by decide)]; rfl
  | j + 1, i, W, B, h, hI => by
      have hi : i < 13 := by omega
      obtain ⟨e1, e2⟩ := (by decide : ∀ i : Fin 13, ¬ 13 ≤ Int32.ofNat i ∧ Int32.ofNat i + 1 = Int32.ofNat (i.val + 1)) ⟨i, hi⟩
      have hl : m_Ld (Int32.ofNat i) := (by decide : ∀ n : Fin 13, 0 ≤ Int32.ofNat n ∧ Int32.ofNat n ≤ 12) ⟨i, hi⟩
      rw [L_X5_solve_10, if_neg e1, (by decide : ((2 : Int32).toInt - (0 : Int32).toInt).toNat + 1 = 3)]
      obtain ⟨W', B', g1, g2⟩ := p_ref18 hL hr hd s (Int32.ofNat i) hs hl (fun v3_18 c_worth_18 => L_X5_solve_10 s reb law draw players side kind near far free guard K (j + 1) (Int32.ofNat i + 1) c_worth_18) W B _ hI
      rw [g1, e2]
      refine p_ref10 hL hr hd s hs K j (i + 1) W' B' (by omega) ⟨g2.1, fun l b hS hlt => g2.2 l b hS ?_⟩
      by_cases he : l = Int32.ofNat i
      · rcases pe_b hS.2.2 with hb | hb
        · exact Or.inl (Or.inr ⟨he, hb⟩)
        · exact Or.inr ⟨he, hb⟩
      · refine Or.inl (Or.inl ?_)
        obtain ⟨k, rfl⟩ := pe_l hS.2.1
        have h3 := (p_ltn ⟨k.val, by omega⟩ ⟨i + 1, by omega⟩).1 hlt
        refine (p_ltn ⟨k.val, by omega⟩ ⟨i, by omega⟩).2 ?_
        have h4 : ¬ k.val = i := fun e => he (by rw [e])
        simp only at h3 ⊢; omega
theorem p_ref2 (hL : p_LR size facts changes players side kind near far free guard) (hr : r_in reb 9) (hd : r_in draw 9)
    (K : Int32 → (Nat → Int32) → (Nat → Int32)) : ∀ (j i : Nat) (W B : Nat → Int32), i + j = 25 → r_Sol reb law draw players side kind near far free guard W B (Int32.ofNat i) →
    ∃ W' B', L_X5_solve_2 reb law draw players side kind near far free guard K (j + 1) (Int32.ofNat i) W = K 25 W' ∧ r_Sol reb law draw players side kind near far free guard W' B' 25
  | 0, i, W, B, h, hI => by
      have e : i = 25 := by omega
      subst e
      refine ⟨W, B, ?_, hI⟩
      rw [L_X5_solve_2, if_pos (by decide)]; rfl
  | j + 1, i, W, B, h, hI => by
      have hi : i < 25 := by omega
      obtain ⟨e1, e2⟩ := (by decide : ∀ i : Fin 25, ¬ 25 ≤ Int32.ofNat i ∧ Int32.ofNat i + 1 = Int32.ofNat (i.val + 1)) ⟨i, hi⟩
      have hs : m_Sec (Int32.ofNat i) := (by decide : ∀ n : Fin 25, 0 ≤ Int32.ofNat n ∧ Int32.ofNat n ≤ 24) ⟨i, hi⟩
      rw [L_X5_solve_2, if_neg e1, (by decide : ((13 : Int32).toInt - (0 : Int32).toInt).toNat + 1 = 14)]
      obtain ⟨W', B', g1, g2⟩ := p_ref10 hL hr hd (Int32.ofNat i) hs (fun v2_10 c_worth_10 => L_X5_solve_2 reb law draw players side kind near far free guard K (j + 1) (Int32.ofNat i + 1) c_worth_10) 13 0 W B (by omega) ⟨hI, fun l b hS hlt => absurd hlt (Int32.not_lt.2 hS.2.1.1)⟩
      have g3 : Int32.ofNat 0 = 0 := rfl
      rw [g3] at g1
      rw [g1, e2]
      rw [e2] at g2
      exact p_ref2 hL hr hd K j (i + 1) W' B' (by omega) g2
/-- the reference solves all -/
theorem p_solve (hL : p_LR size facts changes players side kind near far free guard) (hr : r_in reb 9) (hd : r_in draw 9) (W : Nat → Int32) :
    ∃ B, r_Sol reb law draw players side kind near far free guard (f_X5_solve reb law draw players side kind near far free guard W) B 25 := by
  unfold f_X5_solve
  obtain ⟨W', B', g1, g2⟩ := p_ref2 (law := law) hL hr hd (fun _ z => z) 25 0 W W (by omega) ⟨by decide, by decide, fun s l b hS hlt => absurd hlt (Int32.not_lt.2 hS.1.1)⟩
  have g3 : Int32.ofNat 0 = 0 := rfl
  rw [g3] at g1
  refine ⟨B', ?_⟩
  rw [show ((25 : Int32).toInt - (0 : Int32).toInt).toNat + 1 = 26 from by decide]
  rw [show L_X5_solve_2 reb law draw players side kind near far free guard (fun v1_2 c_worth_2 => c_worth_2) 26 0 W = W' from g1]
  exact g2
/-- the class's values and bests are the reference's -/
theorem p_agree (hL : p_LR size facts changes players side kind near far free guard) (hr : r_in reb 9) (hd : r_in draw 9) {V B : Nat → Int32} {n : Int32} (W : Nat → Int32)
    (h : r_Sol reb law draw players side kind near far free guard V B n) {s l b : Int32} (hS : m_S s l b) (hn : s < n) :
    f_X1_valueAt V s l b = f_X5_valueOf (f_X5_solve reb law draw players side kind near far free guard W) s l b ∧
    f_X1_bestAt B s l b = m_bst reb law draw players side kind near far free guard (f_X5_solve reb law draw players side kind near far free guard W) s l b ∧
    p_V (f_X5_valueOf (f_X5_solve reb law draw players side kind near far free guard W) s l b) := by
  obtain ⟨C, hC⟩ := p_solve (law := law) hL hr hd W
  have h25 : s < 25 := Int32.lt_of_le_of_lt hS.1.2 (by decide)
  have hu := p_uniq hL hr hd h hC s l b hS hn h25
  rw [p_at V hS, p_bt B hS, p_vof]
  exact ⟨hu.1, hu.2.trans (show C (p_ix s l b) = _ from (hC.2.2 s l b hS h25).2), (p_SolAg hL hr hd hC s l b hS h25).2⟩
end
