def m_Sec (x : Int32) : Prop := 0 ≤ x ∧ x ≤ 24
def m_Ld (x : Int32) : Prop := 0 ≤ x ∧ x ≤ 12
def m_Bl (x : Int32) : Prop := 0 ≤ x ∧ x ≤ 1
def m_S (s l b : Int32) : Prop := m_Sec s ∧ m_Ld l ∧ m_Bl b
def m_P (x : Int32) : Prop := 0 ≤ x ∧ x ≤ 6
def m_I (x : Int32) : Prop := 0 ≤ x ∧ x < 6
/-- a small number, by its place -/
theorem m_le {x N : Int32} (n : Nat) (hN : N.toInt = (n : Int)) (hn : n < 1000) (h : 0 ≤ x ∧ x ≤ N) : ∃ j : Nat, j < n + 1 ∧ x = nI j := by
  have a := Int32.le_iff_toInt_le.mp h.1
  have b := Int32.le_iff_toInt_le.mp h.2
  have z : (0 : Int32).toInt = 0 := by decide
  exact vp_in_of (vp_in_iff.mpr ⟨by omega, by omega⟩) (by omega)
theorem m_Sec.of {x : Int32} (h : m_Sec x) : ∃ j : Nat, j < 25 ∧ x = nI j := m_le 24 (by decide) (by decide) h
theorem m_Ld.of {x : Int32} (h : m_Ld x) : ∃ j : Nat, j < 13 ∧ x = nI j := m_le 12 (by decide) (by decide) h
theorem m_Bl.of {x : Int32} (h : m_Bl x) : ∃ j : Nat, j < 2 ∧ x = nI j := m_le 1 (by decide) (by decide) h
theorem m_P.of {x : Int32} (h : m_P x) : ∃ j : Nat, j < 7 ∧ x = nI j := m_le 6 (by decide) (by decide) h
theorem m_I.of {x : Int32} (h : m_I x) : ∃ j : Nat, j < 6 ∧ x = nI j := by
  have a := Int32.le_iff_toInt_le.mp h.1
  have b := Int32.lt_iff_toInt_lt.mp h.2
  have z : (0 : Int32).toInt = 0 := by decide
  have w : (6 : Int32).toInt = 6 := by decide
  exact vp_in_of (vp_in_iff.mpr ⟨by omega, by omega⟩) (by omega)
theorem m_I.vin {x : Int32} (h : m_I x) : vp_in x 6 := g_vin (by decide) h.1 h.2
theorem m_iP {x P : Int32} (h0 : 0 ≤ x) (c : ¬ P ≤ x) (hp : m_P P) : m_I x := ⟨h0, g_ltQ c hp.2⟩
theorem m_bl1 {b : Int32} (h : m_Bl b) : m_Bl (1 - b) := by
  obtain ⟨j, hj, rfl⟩ := h.of
  have : ∀ j : Nat, j < 2 → (0 ≤ 1 - nI j ∧ 1 - nI j ≤ 1) := by decide
  exact this j hj
theorem m_ldp2 {l : Int32} (h : m_Ld l) : m_Ld (g_minf 12 (l + 2)) := by
  obtain ⟨j, hj, rfl⟩ := h.of
  have : ∀ j : Nat, j < 13 → (0 ≤ g_minf 12 (nI j + 2) ∧ g_minf 12 (nI j + 2) ≤ 12) := by decide
  exact this j hj
theorem m_ldp3 {l : Int32} (h : m_Ld l) : m_Ld (g_minf 12 (l + 3)) := by
  obtain ⟨j, hj, rfl⟩ := h.of
  have : ∀ j : Nat, j < 13 → (0 ≤ g_minf 12 (nI j + 3) ∧ g_minf 12 (nI j + 3) ≤ 12) := by decide
  exact this j hj
theorem m_ldm2 {l : Int32} (h : m_Ld l) : m_Ld (g_maxf 0 (l - 2)) := by
  obtain ⟨j, hj, rfl⟩ := h.of
  have : ∀ j : Nat, j < 13 → (0 ≤ g_maxf 0 (nI j - 2) ∧ g_maxf 0 (nI j - 2) ≤ 12) := by decide
  exact this j hj
theorem m_ldm3 {l : Int32} (h : m_Ld l) : m_Ld (g_maxf 0 (l - 3)) := by
  obtain ⟨j, hj, rfl⟩ := h.of
  have : ∀ j : Nat, j < 13 → (0 ≤ g_maxf 0 (nI j - 3) ∧ g_maxf 0 (nI j - 3) ≤ 12) := by decide
  exact this j hj
theorem m_ldmm (x : Int32) : m_Ld (g_maxf 0 (g_minf 12 x)) := by
  unfold m_Ld g_maxf g_minf
  have z : (0 : Int32).toInt = 0 := by decide
  have w : (12 : Int32).toInt = 12 := by decide
  by_cases h2 : x < 12
  · rw [if_pos h2]
    by_cases h1 : 0 < x
    · rw [if_pos h1]
      have a := Int32.lt_iff_toInt_lt.mp h1
      have b := Int32.lt_iff_toInt_lt.mp h2
      rw [Int32.le_iff_toInt_le, Int32.le_iff_toInt_le]
      omega
    · rw [if_neg h1]
      decide
  · rw [if_neg h2]
    decide
theorem m_ld1 {l : Int32} (h : m_Ld l) (c : ¬ l = 12) : m_Ld (l + 1) := by
  obtain ⟨j, hj, rfl⟩ := h.of
  have : ∀ j : Nat, j < 13 → ¬ nI j = 12 → (0 ≤ nI j + 1 ∧ nI j + 1 ≤ 12) := by decide
  exact this j hj c
theorem m_sec5 {s : Int32} (h : m_Sec s) (c : ¬ s < 5) : m_Sec (s - 5) := by
  obtain ⟨j, hj, rfl⟩ := h.of
  have : ∀ j : Nat, j < 25 → ¬ nI j < 5 → (0 ≤ nI j - 5 ∧ nI j - 5 ≤ 24) := by decide
  exact this j hj c
theorem m_sec5' {s : Int32} (h : m_Sec s) (c : 5 ≤ s) : m_Sec (s - 5) := m_sec5 h (Int32.not_lt.mpr c)
theorem m_secm {s : Int32} (h : m_Sec s) (c : ¬ s = 0) : m_Sec (s - 1) := by
  obtain ⟨j, hj, rfl⟩ := h.of
  have : ∀ j : Nat, j < 25 → ¬ nI j = 0 → (0 ≤ nI j - 1 ∧ nI j - 1 ≤ 24) := by decide
  exact this j hj c
theorem m_secp {s : Int32} (h0 : 0 ≤ s) (c : ¬ 24 ≤ s) : m_Sec (s + 1) := by
  obtain ⟨j, hj, rfl⟩ := m_Sec.of ⟨h0, Int32.le_of_lt (Int32.not_le.mp c)⟩
  have : ∀ j : Nat, j < 25 → ¬ 24 ≤ nI j → (0 ≤ nI j + 1 ∧ nI j + 1 ≤ 24) := by decide
  exact this j hj c

def f_X5_takes (p0 : Int32) : Int32 :=
  (if p0 = 0 then 4 else (if p0 = 1 then 3 else (if p0 = 2 then 1 else 5)))
set_option maxHeartbeats 4000000 in
set_option maxRecDepth 100000 in
theorem k_X5_takes (l : Launch) (D : va_G) (cI : ClassId) (kA kV : Nat → Nat) (p0 : Int32) :
    g_MI l D cI kA kV yX5_takes wsX5_takes { frames := 0, cells := 0, slots := 0, locals := 0 } [.int p0] [] (fun u : Unit => []) (fun (r : Int32) (u : Unit) => r = f_X5_takes p0) := by
  obtain ⟨XX, hXX⟩ : ∃ z, z = f_X5_takes p0 := ⟨_, rfl⟩
  have heq := hXX.trans (f_X5_takes.eq_def p0)
  refine g_startI (lv := [(0, .int p0)]) RX5 rfl rfl rfl (Nat.le_of_ble_eq_true rfl) rfl (fun p e s m args below meth c AA QQ hAA hQQ X hr hmn => ?_)
  refine g_iload_n X 0 rfl rfl dX5_takes_0 ?_
  refine g_if_ne X 8 dX5_takes_1 (by decide) (fun c1 => ?_) (fun c1 => ?_)
  · have heq := heq.trans (if_neg c1)
    refine g_iload_n X 0 rfl rfl dX5_takes_8 ?_
    refine g_iconst (v := 1) X (by decide) dX5_takes_9 ?_
    refine g_icmp_ne X 17 dX5_takes_10 (by decide) (fun c10 => ?_) (fun c10 => ?_)
    · have heq := heq.trans (if_neg c10)
      refine g_iload_n X 0 rfl rfl dX5_takes_17 ?_
      refine g_iconst (v := 2) X (by decide) dX5_takes_18 ?_
      refine g_icmp_ne X 26 dX5_takes_19 (by decide) (fun c19 => ?_) (fun c19 => ?_)
      · have heq := heq.trans (if_neg c19)
        refine g_iconst (v := 5) X (by decide) dX5_takes_26 ?_
        exact g_iret X hAA hQQ () (heq.symm.trans hXX) [] rfl rfl hr dX5_takes_27
      · have heq := heq.trans (if_pos c19)
        refine g_iconst (v := 1) X (by decide) dX5_takes_22 ?_
        refine g_goto (tgt := 27) X (by decide) dX5_takes_23 ?_
        exact g_iret X hAA hQQ () (heq.symm.trans hXX) [] rfl rfl hr dX5_takes_27
    · have heq := heq.trans (if_pos c10)
      refine g_iconst (v := 3) X (by decide) dX5_takes_13 ?_
      refine g_goto (tgt := 27) X (by decide) dX5_takes_14 ?_
      exact g_iret X hAA hQQ () (heq.symm.trans hXX) [] rfl rfl hr dX5_takes_27
  · have heq := heq.trans (if_pos c1)
    refine g_iconst (v := 4) X (by decide) dX5_takes_4 ?_
    refine g_goto (tgt := 27) X (by decide) dX5_takes_5 ?_
    exact g_iret X hAA hQQ () (heq.symm.trans hXX) [] rfl rfl hr dX5_takes_27

theorem fd_takes (c : Int32) : f_X5_takes c = 4 ∨ f_X5_takes c = 3 ∨ f_X5_takes c = 1 ∨ f_X5_takes c = 5 := by
  unfold f_X5_takes
  repeat' split
  · exact Or.inl rfl
  · exact Or.inr (Or.inl rfl)
  · exact Or.inr (Or.inr (Or.inl rfl))
  · exact Or.inr (Or.inr (Or.inr rfl))
theorem m_secT {s r r' ch : Int32} (h : m_Sec s) (hw : r = f_X5_takes ch) (hw' : r' = f_X5_takes ch) (c : r' ≤ s) : m_Sec (s - r) := by
  rw [← hw'] at hw
  subst hw
  have t := fd_takes ch
  rw [← hw'] at t
  obtain ⟨j, hj, rfl⟩ := h.of
  have key : ∀ j : Nat, j < 25 → ∀ q ∈ ([4, 3, 1, 5] : List Int32), q ≤ nI j → (0 ≤ nI j - q ∧ nI j - q ≤ 24) := by decide
  rcases t with t | t | t | t <;> rw [t] at c ⊢ <;> exact key j hj _ (by decide) c
theorem m_sec1T {s r' ch : Int32} (h : m_Sec s) (hw' : r' = f_X5_takes ch) (c : r' ≤ s) : m_Sec (s - 1) := by
  have t := fd_takes ch
  rw [← hw'] at t
  obtain ⟨j, hj, rfl⟩ := h.of
  have key : ∀ j : Nat, j < 25 → ∀ q ∈ ([4, 3, 1, 5] : List Int32), q ≤ nI j → (0 ≤ nI j - 1 ∧ nI j - 1 ≤ 24) := by decide
  rcases t with t | t | t | t <;> rw [t] at c <;> exact key j hj _ (by decide) c
theorem m_worth {s l b : Int32} (h : m_S s l b) : vp_in (((26 * s) + (2 * l)) + b) 650 := by
  obtain ⟨h1, h2, h3⟩ := h
  obtain ⟨j, hj, rfl⟩ := h1.of
  obtain ⟨k, hk, rfl⟩ := h2.of
  obtain ⟨q, hq, rfl⟩ := h3.of
  have key : ∀ j : Nat, j < 25 → ∀ k : Nat, k < 13 → ∀ q : Nat, q < 2 → (decide (0 ≤ (((26 * nI j) + (2 * nI k)) + nI q).toInt) && decide ((((26 * nI j) + (2 * nI k)) + nI q).toInt < ((650 : Nat) : Int))) = true := by decide +kernel
  exact g_vinL (key j hj k hk q hq)
theorem fd_one {P x r : Int32} (hp : m_P P) (hw : r = f_X5_isOne P x) (c : ¬ r = 0) : m_I x := by
  have e : r = (if x < 0 then 0 else (if P - 1 < x then 0 else 1)) := hw
  by_cases h0 : x < 0
  · rw [if_pos h0] at e; exact absurd e c
  · rw [if_neg h0] at e
    by_cases h1 : P - 1 < x
    · rw [if_pos h1] at e; exact absurd e c
    · refine ⟨g_n0 h0, ?_⟩
      obtain ⟨j, hj, rfl⟩ := hp.of
      have b := Int32.le_iff_toInt_le.mp (Int32.not_lt.mp h1)
      have key : ∀ j : Nat, j < 7 → (nI j - 1).toInt ≤ 5 := by decide
      have k := key j hj
      have w : (6 : Int32).toInt = 6 := by decide
      rw [Int32.lt_iff_toInt_lt]
      omega

theorem hi_X5_tenths_X5 : ∀ w ∈ wsX50, w ∈ wsX5_tenths := fun w h => List.mem_cons_of_mem _ (List.mem_append_right _ (h))
def f_X5_tenths (c_kind : Nat → Int32) (c_near : Nat → Int32) (c_far : Nat → Int32) (c_free : Nat → Int32) (p1 : Int32) (p2 : Int32) (p3 : Int32) : Int32 :=
  (if p2 = 0 then (if c_kind p1.toNatClampNeg = 1 then g_minf (9 : Int32) ((c_near p1.toNatClampNeg) + 1) else (if c_kind p1.toNatClampNeg = 2 then g_maxf (0 : Int32) ((c_near p1.toNatClampNeg) - 1) else (if c_kind p1.toNatClampNeg = 3 then g_minf (9 : Int32) ((c_near p1.toNatClampNeg) + 2) else (if c_kind p1.toNatClampNeg = 4 then (if p3 ≤ 9 then g_maxf (0 : Int32) ((c_near p1.toNatClampNeg) - 1) else c_near p1.toNatClampNeg) else (if c_kind p1.toNatClampNeg = 5 then g_minf (9 : Int32) ((c_near p1.toNatClampNeg) + 1) else c_near p1.toNatClampNeg))))) else (if p2 = 1 then (if c_kind p1.toNatClampNeg = 1 then g_minf (9 : Int32) ((c_far p1.toNatClampNeg) + 1) else (if c_kind p1.toNatClampNeg = 2 then g_maxf (0 : Int32) ((c_far p1.toNatClampNeg) - 1) else (if c_kind p1.toNatClampNeg = 3 then 0 else (if c_kind p1.toNatClampNeg = 4 then (if p3 ≤ 9 then g_maxf (0 : Int32) ((c_far p1.toNatClampNeg) - 1) else c_far p1.toNatClampNeg) else (if c_kind p1.toNatClampNeg = 5 then (g_minf (9 : Int32) ((c_far p1.toNatClampNeg) + 1)) / 2 else c_far p1.toNatClampNeg))))) else (if c_kind p1.toNatClampNeg = 1 then g_minf (9 : Int32) ((c_free p1.toNatClampNeg) + 1) else (if c_kind p1.toNatClampNeg = 2 then g_maxf (0 : Int32) ((c_free p1.toNatClampNeg) - 1) else (if c_kind p1.toNatClampNeg = 3 then c_free p1.toNatClampNeg else (if c_kind p1.toNatClampNeg = 4 then (if p3 ≤ 9 then g_maxf (0 : Int32) ((c_free p1.toNatClampNeg) - 1) else c_free p1.toNatClampNeg) else (if c_kind p1.toNatClampNeg = 5 then c_free p1.toNatClampNeg else c_free p1.toNatClampNeg)))))))
set_option maxHeartbeats 4000000 in
set_option maxRecDepth 100000 in
theorem k_X5_tenths (l : Launch) (D : va_G) (cI : ClassId) (kA kV : Nat → Nat) (a_ a_fouls a_calls a_side a_kind a_near a_far a_free a_letter a_value a_row a_refusals a_image a_ahead a_guard a_worth : Nat) (c_seconds : Int32) (c_lead : Int32) (c_ball : Int32) (c_rebound : Int32) (c_law : Int32) (c_draw : Int32) (c_players : Int32) (c_letters : Int32) (c_at : Int32) (c_inRow : Int32) (c_imaged : Int32) (c_kind : Nat → Int32) (c_near : Nat → Int32) (c_far : Nat → Int32) (c_free : Nat → Int32) (p1 : Int32) (p2 : Int32) (p3 : Int32) (hi : m_I p1) :
    g_MI l D cI kA kV yX5_tenths wsX5_tenths { frames := 1, cells := 0, slots := 0, locals := 17 } [.ref a_, .int p1, .int p2, .int p3] [(a_, .inr (5, [.int c_seconds, .int c_lead, .int c_ball, .ref a_fouls, .ref a_calls, .int c_rebound, .int c_law, .int c_draw, .int c_players, .ref a_side, .ref a_kind, .ref a_near, .ref a_far, .ref a_free, .int c_letters, .ref a_letter, .int c_at, .ref a_value, .int c_inRow, .ref a_row, .ref a_refusals, .int c_imaged, .ref a_image, .ref a_ahead, .ref a_guard, .ref a_worth])), (a_kind, .inl (cI, 6, .inl c_kind)), (a_near, .inl (cI, 6, .inl c_near)), (a_far, .inl (cI, 6, .inl c_far)), (a_free, .inl (cI, 6, .inl c_free))] (fun u : Unit => [(a_, .inr (5, [.int c_seconds, .int c_lead, .int c_ball, .ref a_fouls, .ref a_calls, .int c_rebound, .int c_law, .int c_draw, .int c_players, .ref a_side, .ref a_kind, .ref a_near, .ref a_far, .ref a_free, .int c_letters, .ref a_letter, .int c_at, .ref a_value, .int c_inRow, .ref a_row, .ref a_refusals, .int c_imaged, .ref a_image, .ref a_ahead, .ref a_guard, .ref a_worth])), (a_kind, .inl (cI, 6, .inl c_kind)), (a_near, .inl (cI, 6, .inl c_near)), (a_far, .inl (cI, 6, .inl c_far)), (a_free, .inl (cI, 6, .inl c_free))]) (fun (r : Int32) (u : Unit) => r = f_X5_tenths c_kind c_near c_far c_free p1 p2 p3) := by
  obtain ⟨XX, hXX⟩ : ∃ z, z = f_X5_tenths c_kind c_near c_far c_free p1 p2 p3 := ⟨_, rfl⟩
  have heq := hXX.trans (f_X5_tenths.eq_def c_kind c_near c_far c_free p1 p2 p3)
  refine g_startI (lv := [(0, .ref a_), (1, .int p1), (2, .int p2), (3, .int p3)]) RX5 rfl rfl rfl (Nat.le_of_ble_eq_true rfl) rfl (fun p e s m args below meth c AA QQ hAA hQQ X hr hmn => ?_)
  refine g_iload_n X 2 rfl rfl dX5_tenths_0 ?_
  refine g_if_ne X 13 dX5_tenths_1 (by decide) (fun c1 => ?_) (fun c1 => ?_)
  · have heq := heq.trans (if_neg c1)
    refine g_iload_n X 2 rfl rfl dX5_tenths_13 ?_
    refine g_iconst (v := 1) X (by decide) dX5_tenths_14 ?_
    refine g_icmp_ne X 27 dX5_tenths_15 (by decide) (fun c15 => ?_) (fun c15 => ?_)
    · have heq := heq.trans (if_neg c15)
      refine g_aload_n X 0 rfl rfl dX5_tenths_27 ?_
      refine g_get (C := RX5) (T := TX5) (N := 26) (ci := 5) X hi_X5_tenths_X5 0 rfl rfl 13 (by decide) (X.2.2.2.2.1 (.fieldLink RX5 28 "NineteenSecondsLeftModel" "free" "[I") (List.mem_of_getElem? (i := 3) rfl)) rfl rfl dX5_tenths_28 ?_
      refine g_iload_n X 1 rfl rfl dX5_tenths_31 ?_
      refine g_iald X 4 rfl hi.vin dX5_tenths_32 ?_
      refine g_istore (lv' := [(4, .int (c_free p1.toNatClampNeg)), (0, .ref a_), (1, .int p1), (2, .int p2), (3, .int p3)]) X (by decide) rfl dX5_tenths_33 ?_
      refine g_aload_n X 1 rfl rfl dX5_tenths_35 ?_
      refine g_get (C := RX5) (T := TX5) (N := 26) (ci := 5) X hi_X5_tenths_X5 0 rfl rfl 10 (by decide) (X.2.2.2.2.1 (.fieldLink RX5 19 "NineteenSecondsLeftModel" "kind" "[I") (List.mem_of_getElem? (i := 4) rfl)) rfl rfl dX5_tenths_36 ?_
      refine g_iload_n X 2 rfl rfl dX5_tenths_39 ?_
      refine g_iald X 1 rfl hi.vin dX5_tenths_40 ?_
      by_cases s41_0 : c_kind p1.toNatClampNeg = 1
      · refine g_tsHit (k := 1) X 76 dX5_tenths_41 s41_0 (by decide) (by decide) rfl (by decide) ?_
        have heq := heq.trans (if_pos s41_0)
        refine g_bipush (v := 9) X (by decide) dX5_tenths_76 ?_
        refine g_iload X 0 rfl dX5_tenths_78 ?_
        refine g_iconst (v := 1) X (by decide) dX5_tenths_80 ?_
        refine g_iadd X dX5_tenths_81 ?_
        refine g_mmin X (X.2.2.2.2.1 (.methodLink RX5 118 Lib.Math.min.name) (List.mem_of_getElem? (i := 5) rfl)) (X.2.2.2.2.1 (.static Lib.Math.min.name) (List.mem_of_getElem? (i := 6) rfl)) (X.2.2.2.2.1 (.initialized "java/lang/Math") (List.mem_of_getElem? (i := 7) rfl)) (X.2.2.2.2.1 (.code Lib.Math.min.name Lib.Math.min.code 2 (some .int)) (List.mem_of_getElem? (i := 8) rfl)) (Nat.le_of_ble_eq_true rfl) (Nat.le_of_ble_eq_true rfl) (Nat.le_of_ble_eq_true rfl) (Nat.le_of_ble_eq_true rfl) dX5_tenths_82 ?_
        exact g_iret X hAA hQQ () (heq.symm.trans hXX) [0, 1, 2, 3, 4] rfl rfl hr dX5_tenths_85
      have heq := heq.trans (if_neg s41_0)
      by_cases s41_1 : c_kind p1.toNatClampNeg = 2
      · refine g_tsHit (k := 2) X 86 dX5_tenths_41 s41_1 (by decide) (by decide) rfl (by decide) ?_
        have heq := heq.trans (if_pos s41_1)
        refine g_iconst (v := 0) X (by decide) dX5_tenths_86 ?_
        refine g_iload X 0 rfl dX5_tenths_87 ?_
        refine g_iconst (v := 1) X (by decide) dX5_tenths_89 ?_
        refine g_isub X dX5_tenths_90 ?_
        refine g_mmax X (X.2.2.2.2.1 (.methodLink RX5 124 Lib.Math.max.name) (List.mem_of_getElem? (i := 9) rfl)) (X.2.2.2.2.1 (.static Lib.Math.max.name) (List.mem_of_getElem? (i := 10) rfl)) (X.2.2.2.2.1 (.initialized "java/lang/Math") (List.mem_of_getElem? (i := 7) rfl)) (X.2.2.2.2.1 (.code Lib.Math.max.name Lib.Math.max.code 2 (some .int)) (List.mem_of_getElem? (i := 11) rfl)) (Nat.le_of_ble_eq_true rfl) (Nat.le_of_ble_eq_true rfl) (Nat.le_of_ble_eq_true rfl) (Nat.le_of_ble_eq_true rfl) dX5_tenths_91 ?_
        exact g_iret X hAA hQQ () (heq.symm.trans hXX) [0, 1, 2, 3, 4] rfl rfl hr dX5_tenths_94
      have heq := heq.trans (if_neg s41_1)
      by_cases s41_2 : c_kind p1.toNatClampNeg = 3
      · refine g_tsHit (k := 3) X 95 dX5_tenths_41 s41_2 (by decide) (by decide) rfl (by decide) ?_
        have heq := heq.trans (if_pos s41_2)
        refine g_iload_n X 3 rfl rfl dX5_tenths_95 ?_
        refine g_if_ne X 111 dX5_tenths_96 (by decide) (fun c96 => ?_) (fun c96 => absurd c96 c1)
        refine g_iload_n X 3 rfl rfl dX5_tenths_111 ?_
        refine g_iconst (v := 1) X (by decide) dX5_tenths_112 ?_
        refine g_icmp_ne X 120 dX5_tenths_113 (by decide) (fun c113 => ?_) (fun c113 => absurd c113 c15)
        refine g_iload X 0 rfl dX5_tenths_120 ?_
        exact g_iret X hAA hQQ () (heq.symm.trans hXX) [0, 1, 2, 3, 4] rfl rfl hr dX5_tenths_122
      have heq := heq.trans (if_neg s41_2)
      by_cases s41_3 : c_kind p1.toNatClampNeg = 4
      · refine g_tsHit (k := 4) X 123 dX5_tenths_41 s41_3 (by decide) (by decide) rfl (by decide) ?_
        have heq := heq.trans (if_pos s41_3)
        refine g_iload_n X 4 rfl rfl dX5_tenths_123 ?_
        refine g_bipush (v := 9) X (by decide) dX5_tenths_124 ?_
        refine g_icmp_le X 134 dX5_tenths_126 (by decide) (fun c126 => ?_) (fun c126 => ?_)
        · have heq := heq.trans (if_pos c126)
          refine g_iconst (v := 0) X (by decide) dX5_tenths_134 ?_
          refine g_iload X 0 rfl dX5_tenths_135 ?_
          refine g_iconst (v := 1) X (by decide) dX5_tenths_137 ?_
          refine g_isub X dX5_tenths_138 ?_
          refine g_mmax X (X.2.2.2.2.1 (.methodLink RX5 124 Lib.Math.max.name) (List.mem_of_getElem? (i := 9) rfl)) (X.2.2.2.2.1 (.static Lib.Math.max.name) (List.mem_of_getElem? (i := 10) rfl)) (X.2.2.2.2.1 (.initialized "java/lang/Math") (List.mem_of_getElem? (i := 7) rfl)) (X.2.2.2.2.1 (.code Lib.Math.max.name Lib.Math.max.code 2 (some .int)) (List.mem_of_getElem? (i := 11) rfl)) (Nat.le_of_ble_eq_true rfl) (Nat.le_of_ble_eq_true rfl) (Nat.le_of_ble_eq_true rfl) (Nat.le_of_ble_eq_true rfl) dX5_tenths_139 ?_
          exact g_iret X hAA hQQ () (heq.symm.trans hXX) [0, 1, 2, 3, 4] rfl rfl hr dX5_tenths_142
        · have heq := heq.trans (if_neg c126)
          refine g_iload X 0 rfl dX5_tenths_129 ?_
          refine g_goto (tgt := 142) X (by decide) dX5_tenths_131 ?_
          exact g_iret X hAA hQQ () (heq.symm.trans hXX) [0, 1, 2, 3, 4] rfl rfl hr dX5_tenths_142
      have heq := heq.trans (if_neg s41_3)
      by_cases s41_4 : c_kind p1.toNatClampNeg = 5
      · refine g_tsHit (k := 5) X 143 dX5_tenths_41 s41_4 (by decide) (by decide) rfl (by decide) ?_
        have heq := heq.trans (if_pos s41_4)
        refine g_iload_n X 3 rfl rfl dX5_tenths_143 ?_
        refine g_if_ne X 159 dX5_tenths_144 (by decide) (fun c144 => ?_) (fun c144 => absurd c144 c1)
        refine g_iload_n X 3 rfl rfl dX5_tenths_159 ?_
        refine g_iconst (v := 1) X (by decide) dX5_tenths_160 ?_
        refine g_icmp_ne X 178 dX5_tenths_161 (by decide) (fun c161 => ?_) (fun c161 => absurd c161 c15)
        refine g_iload X 0 rfl dX5_tenths_178 ?_
        exact g_iret X hAA hQQ () (heq.symm.trans hXX) [0, 1, 2, 3, 4] rfl rfl hr dX5_tenths_180
      have heq := heq.trans (if_neg s41_4)
      refine g_tsDef X 181 [1, 2, 3, 4, 5] dX5_tenths_41 (g_neC s41_0 (g_neC s41_1 (g_neC s41_2 (g_neC s41_3 (g_ne1 s41_4))))) (by decide) (by decide) (by decide) ?_
      refine g_iload X 0 rfl dX5_tenths_181 ?_
      exact g_iret X hAA hQQ () (heq.symm.trans hXX) [0, 1, 2, 3, 4] rfl rfl hr dX5_tenths_183
    · have heq := heq.trans (if_pos c15)
      refine g_aload_n X 0 rfl rfl dX5_tenths_18 ?_
      refine g_get (C := RX5) (T := TX5) (N := 26) (ci := 5) X hi_X5_tenths_X5 0 rfl rfl 12 (by decide) (X.2.2.2.2.1 (.fieldLink RX5 25 "NineteenSecondsLeftModel" "far" "[I") (List.mem_of_getElem? (i := 2) rfl)) rfl rfl dX5_tenths_19 ?_
      refine g_iload_n X 1 rfl rfl dX5_tenths_22 ?_
      refine g_iald X 3 rfl hi.vin dX5_tenths_23 ?_
      refine g_goto (tgt := 33) X (by decide) dX5_tenths_24 ?_
      refine g_istore (lv' := [(4, .int (c_far p1.toNatClampNeg)), (0, .ref a_), (1, .int p1), (2, .int p2), (3, .int p3)]) X (by decide) rfl dX5_tenths_33 ?_
      refine g_aload_n X 1 rfl rfl dX5_tenths_35 ?_
      refine g_get (C := RX5) (T := TX5) (N := 26) (ci := 5) X hi_X5_tenths_X5 0 rfl rfl 10 (by decide) (X.2.2.2.2.1 (.fieldLink RX5 19 "NineteenSecondsLeftModel" "kind" "[I") (List.mem_of_getElem? (i := 4) rfl)) rfl rfl dX5_tenths_36 ?_
      refine g_iload_n X 2 rfl rfl dX5_tenths_39 ?_
      refine g_iald X 1 rfl hi.vin dX5_tenths_40 ?_
      by_cases s41_0 : c_kind p1.toNatClampNeg = 1
      · refine g_tsHit (k := 1) X 76 dX5_tenths_41 s41_0 (by decide) (by decide) rfl (by decide) ?_
        have heq := heq.trans (if_pos s41_0)
        refine g_bipush (v := 9) X (by decide) dX5_tenths_76 ?_
        refine g_iload X 0 rfl dX5_tenths_78 ?_
        refine g_iconst (v := 1) X (by decide) dX5_tenths_80 ?_
        refine g_iadd X dX5_tenths_81 ?_
        refine g_mmin X (X.2.2.2.2.1 (.methodLink RX5 118 Lib.Math.min.name) (List.mem_of_getElem? (i := 5) rfl)) (X.2.2.2.2.1 (.static Lib.Math.min.name) (List.mem_of_getElem? (i := 6) rfl)) (X.2.2.2.2.1 (.initialized "java/lang/Math") (List.mem_of_getElem? (i := 7) rfl)) (X.2.2.2.2.1 (.code Lib.Math.min.name Lib.Math.min.code 2 (some .int)) (List.mem_of_getElem? (i := 8) rfl)) (Nat.le_of_ble_eq_true rfl) (Nat.le_of_ble_eq_true rfl) (Nat.le_of_ble_eq_true rfl) (Nat.le_of_ble_eq_true rfl) dX5_tenths_82 ?_
        exact g_iret X hAA hQQ () (heq.symm.trans hXX) [0, 1, 2, 3, 4] rfl rfl hr dX5_tenths_85
      have heq := heq.trans (if_neg s41_0)
      by_cases s41_1 : c_kind p1.toNatClampNeg = 2
      · refine g_tsHit (k := 2) X 86 dX5_tenths_41 s41_1 (by decide) (by decide) rfl (by decide) ?_
        have heq := heq.trans (if_pos s41_1)
        refine g_iconst (v := 0) X (by decide) dX5_tenths_86 ?_
        refine g_iload X 0 rfl dX5_tenths_87 ?_
        refine g_iconst (v := 1) X (by decide) dX5_tenths_89 ?_
        refine g_isub X dX5_tenths_90 ?_
        refine g_mmax X (X.2.2.2.2.1 (.methodLink RX5 124 Lib.Math.max.name) (List.mem_of_getElem? (i := 9) rfl)) (X.2.2.2.2.1 (.static Lib.Math.max.name) (List.mem_of_getElem? (i := 10) rfl)) (X.2.2.2.2.1 (.initialized "java/lang/Math") (List.mem_of_getElem? (i := 7) rfl)) (X.2.2.2.2.1 (.code Lib.Math.max.name Lib.Math.max.code 2 (some .int)) (List.mem_of_getElem? (i := 11) rfl)) (Nat.le_of_ble_eq_true rfl) (Nat.le_of_ble_eq_true rfl) (Nat.le_of_ble_eq_true rfl) (Nat.le_of_ble_eq_true rfl) dX5_tenths_91 ?_
        exact g_iret X hAA hQQ () (heq.symm.trans hXX) [0, 1, 2, 3, 4] rfl rfl hr dX5_tenths_94
      have heq := heq.trans (if_neg s41_1)
      by_cases s41_2 : c_kind p1.toNatClampNeg = 3
      · refine g_tsHit (k := 3) X 95 dX5_tenths_41 s41_2 (by decide) (by decide) rfl (by decide) ?_
        have heq := heq.trans (if_pos s41_2)
        refine g_iload_n X 3 rfl rfl dX5_tenths_95 ?_
        refine g_if_ne X 111 dX5_tenths_96 (by decide) (fun c96 => ?_) (fun c96 => absurd c96 c1)
        refine g_iload_n X 3 rfl rfl dX5_tenths_111 ?_
        refine g_iconst (v := 1) X (by decide) dX5_tenths_112 ?_
        refine g_icmp_ne X 120 dX5_tenths_113 (by decide) (fun c113 => absurd c15 c113) (fun c113 => ?_)
        refine g_iconst (v := 0) X (by decide) dX5_tenths_116 ?_
        refine g_goto (tgt := 122) X (by decide) dX5_tenths_117 ?_
        exact g_iret X hAA hQQ () (heq.symm.trans hXX) [0, 1, 2, 3, 4] rfl rfl hr dX5_tenths_122
      have heq := heq.trans (if_neg s41_2)
      by_cases s41_3 : c_kind p1.toNatClampNeg = 4
      · refine g_tsHit (k := 4) X 123 dX5_tenths_41 s41_3 (by decide) (by decide) rfl (by decide) ?_
        have heq := heq.trans (if_pos s41_3)
        refine g_iload_n X 4 rfl rfl dX5_tenths_123 ?_
        refine g_bipush (v := 9) X (by decide) dX5_tenths_124 ?_
        refine g_icmp_le X 134 dX5_tenths_126 (by decide) (fun c126 => ?_) (fun c126 => ?_)
        · have heq := heq.trans (if_pos c126)
          refine g_iconst (v := 0) X (by decide) dX5_tenths_134 ?_
          refine g_iload X 0 rfl dX5_tenths_135 ?_
          refine g_iconst (v := 1) X (by decide) dX5_tenths_137 ?_
          refine g_isub X dX5_tenths_138 ?_
          refine g_mmax X (X.2.2.2.2.1 (.methodLink RX5 124 Lib.Math.max.name) (List.mem_of_getElem? (i := 9) rfl)) (X.2.2.2.2.1 (.static Lib.Math.max.name) (List.mem_of_getElem? (i := 10) rfl)) (X.2.2.2.2.1 (.initialized "java/lang/Math") (List.mem_of_getElem? (i := 7) rfl)) (X.2.2.2.2.1 (.code Lib.Math.max.name Lib.Math.max.code 2 (some .int)) (List.mem_of_getElem? (i := 11) rfl)) (Nat.le_of_ble_eq_true rfl) (Nat.le_of_ble_eq_true rfl) (Nat.le_of_ble_eq_true rfl) (Nat.le_of_ble_eq_true rfl) dX5_tenths_139 ?_
          exact g_iret X hAA hQQ () (heq.symm.trans hXX) [0, 1, 2, 3, 4] rfl rfl hr dX5_tenths_142
        · have heq := heq.trans (if_neg c126)
          refine g_iload X 0 rfl dX5_tenths_129 ?_
          refine g_goto (tgt := 142) X (by decide) dX5_tenths_131 ?_
          exact g_iret X hAA hQQ () (heq.symm.trans hXX) [0, 1, 2, 3, 4] rfl rfl hr dX5_tenths_142
      have heq := heq.trans (if_neg s41_3)
      by_cases s41_4 : c_kind p1.toNatClampNeg = 5
      · refine g_tsHit (k := 5) X 143 dX5_tenths_41 s41_4 (by decide) (by decide) rfl (by decide) ?_
        have heq := heq.trans (if_pos s41_4)
        refine g_iload_n X 3 rfl rfl dX5_tenths_143 ?_
        refine g_if_ne X 159 dX5_tenths_144 (by decide) (fun c144 => ?_) (fun c144 => absurd c144 c1)
        refine g_iload_n X 3 rfl rfl dX5_tenths_159 ?_
        refine g_iconst (v := 1) X (by decide) dX5_tenths_160 ?_
        refine g_icmp_ne X 178 dX5_tenths_161 (by decide) (fun c161 => absurd c15 c161) (fun c161 => ?_)
        refine g_bipush (v := 9) X (by decide) dX5_tenths_164 ?_
        refine g_iload X 0 rfl dX5_tenths_166 ?_
        refine g_iconst (v := 1) X (by decide) dX5_tenths_168 ?_
        refine g_iadd X dX5_tenths_169 ?_
        refine g_mmin X (X.2.2.2.2.1 (.methodLink RX5 118 Lib.Math.min.name) (List.mem_of_getElem? (i := 5) rfl)) (X.2.2.2.2.1 (.static Lib.Math.min.name) (List.mem_of_getElem? (i := 6) rfl)) (X.2.2.2.2.1 (.initialized "java/lang/Math") (List.mem_of_getElem? (i := 7) rfl)) (X.2.2.2.2.1 (.code Lib.Math.min.name Lib.Math.min.code 2 (some .int)) (List.mem_of_getElem? (i := 8) rfl)) (Nat.le_of_ble_eq_true rfl) (Nat.le_of_ble_eq_true rfl) (Nat.le_of_ble_eq_true rfl) (Nat.le_of_ble_eq_true rfl) dX5_tenths_170 ?_
        refine g_iconst (v := 2) X (by decide) dX5_tenths_173 ?_
        refine g_idiv X (by decide) dX5_tenths_174 ?_
        refine g_goto (tgt := 180) X (by decide) dX5_tenths_175 ?_
        exact g_iret X hAA hQQ () (heq.symm.trans hXX) [0, 1, 2, 3, 4] rfl rfl hr dX5_tenths_180
      have heq := heq.trans (if_neg s41_4)
      refine g_tsDef X 181 [1, 2, 3, 4, 5] dX5_tenths_41 (g_neC s41_0 (g_neC s41_1 (g_neC s41_2 (g_neC s41_3 (g_ne1 s41_4))))) (by decide) (by decide) (by decide) ?_
      refine g_iload X 0 rfl dX5_tenths_181 ?_
      exact g_iret X hAA hQQ () (heq.symm.trans hXX) [0, 1, 2, 3, 4] rfl rfl hr dX5_tenths_183
  · have heq := heq.trans (if_pos c1)
    refine g_aload_n X 0 rfl rfl dX5_tenths_4 ?_
    refine g_get (C := RX5) (T := TX5) (N := 26) (ci := 5) X hi_X5_tenths_X5 0 rfl rfl 11 (by decide) (X.2.2.2.2.1 (.fieldLink RX5 22 "NineteenSecondsLeftModel" "near" "[I") (List.mem_of_getElem? (i := 1) rfl)) rfl rfl dX5_tenths_5 ?_
    refine g_iload_n X 1 rfl rfl dX5_tenths_8 ?_
    refine g_iald X 2 rfl hi.vin dX5_tenths_9 ?_
    refine g_goto (tgt := 33) X (by decide) dX5_tenths_10 ?_
    refine g_istore (lv' := [(4, .int (c_near p1.toNatClampNeg)), (0, .ref a_), (1, .int p1), (2, .int p2), (3, .int p3)]) X (by decide) rfl dX5_tenths_33 ?_
    refine g_aload_n X 1 rfl rfl dX5_tenths_35 ?_
    refine g_get (C := RX5) (T := TX5) (N := 26) (ci := 5) X hi_X5_tenths_X5 0 rfl rfl 10 (by decide) (X.2.2.2.2.1 (.fieldLink RX5 19 "NineteenSecondsLeftModel" "kind" "[I") (List.mem_of_getElem? (i := 4) rfl)) rfl rfl dX5_tenths_36 ?_
    refine g_iload_n X 2 rfl rfl dX5_tenths_39 ?_
    refine g_iald X 1 rfl hi.vin dX5_tenths_40 ?_
    by_cases s41_0 : c_kind p1.toNatClampNeg = 1
    · refine g_tsHit (k := 1) X 76 dX5_tenths_41 s41_0 (by decide) (by decide) rfl (by decide) ?_
      have heq := heq.trans (if_pos s41_0)
      refine g_bipush (v := 9) X (by decide) dX5_tenths_76 ?_
      refine g_iload X 0 rfl dX5_tenths_78 ?_
      refine g_iconst (v := 1) X (by decide) dX5_tenths_80 ?_
      refine g_iadd X dX5_tenths_81 ?_
      refine g_mmin X (X.2.2.2.2.1 (.methodLink RX5 118 Lib.Math.min.name) (List.mem_of_getElem? (i := 5) rfl)) (X.2.2.2.2.1 (.static Lib.Math.min.name) (List.mem_of_getElem? (i := 6) rfl)) (X.2.2.2.2.1 (.initialized "java/lang/Math") (List.mem_of_getElem? (i := 7) rfl)) (X.2.2.2.2.1 (.code Lib.Math.min.name Lib.Math.min.code 2 (some .int)) (List.mem_of_getElem? (i := 8) rfl)) (Nat.le_of_ble_eq_true rfl) (Nat.le_of_ble_eq_true rfl) (Nat.le_of_ble_eq_true rfl) (Nat.le_of_ble_eq_true rfl) dX5_tenths_82 ?_
      exact g_iret X hAA hQQ () (heq.symm.trans hXX) [0, 1, 2, 3, 4] rfl rfl hr dX5_tenths_85
    have heq := heq.trans (if_neg s41_0)
    by_cases s41_1 : c_kind p1.toNatClampNeg = 2
    · refine g_tsHit (k := 2) X 86 dX5_tenths_41 s41_1 (by decide) (by decide) rfl (by decide) ?_
      have heq := heq.trans (if_pos s41_1)
      refine g_iconst (v := 0) X (by decide) dX5_tenths_86 ?_
      refine g_iload X 0 rfl dX5_tenths_87 ?_
      refine g_iconst (v := 1) X (by decide) dX5_tenths_89 ?_
      refine g_isub X dX5_tenths_90 ?_
      refine g_mmax X (X.2.2.2.2.1 (.methodLink RX5 124 Lib.Math.max.name) (List.mem_of_getElem? (i := 9) rfl)) (X.2.2.2.2.1 (.static Lib.Math.max.name) (List.mem_of_getElem? (i := 10) rfl)) (X.2.2.2.2.1 (.initialized "java/lang/Math") (List.mem_of_getElem? (i := 7) rfl)) (X.2.2.2.2.1 (.code Lib.Math.max.name Lib.Math.max.code 2 (some .int)) (List.mem_of_getElem? (i := 11) rfl)) (Nat.le_of_ble_eq_true rfl) (Nat.le_of_ble_eq_true rfl) (Nat.le_of_ble_eq_true rfl) (Nat.le_of_ble_eq_true rfl) dX5_tenths_91 ?_
      exact g_iret X hAA hQQ () (heq.symm.trans hXX) [0, 1, 2, 3, 4] rfl rfl hr dX5_tenths_94
    have heq := heq.trans (if_neg s41_1)
    by_cases s41_2 : c_kind p1.toNatClampNeg = 3
    · refine g_tsHit (k := 3) X 95 dX5_tenths_41 s41_2 (by decide) (by decide) rfl (by decide) ?_
      have heq := heq.trans (if_pos s41_2)
      refine g_iload_n X 3 rfl rfl dX5_tenths_95 ?_
      refine g_if_ne X 111 dX5_tenths_96 (by decide) (fun c96 => absurd c1 c96) (fun c96 => ?_)
      refine g_bipush (v := 9) X (by decide) dX5_tenths_99 ?_
      refine g_iload X 0 rfl dX5_tenths_101 ?_
      refine g_iconst (v := 2) X (by decide) dX5_tenths_103 ?_
      refine g_iadd X dX5_tenths_104 ?_
      refine g_mmin X (X.2.2.2.2.1 (.methodLink RX5 118 Lib.Math.min.name) (List.mem_of_getElem? (i := 5) rfl)) (X.2.2.2.2.1 (.static Lib.Math.min.name) (List.mem_of_getElem? (i := 6) rfl)) (X.2.2.2.2.1 (.initialized "java/lang/Math") (List.mem_of_getElem? (i := 7) rfl)) (X.2.2.2.2.1 (.code Lib.Math.min.name Lib.Math.min.code 2 (some .int)) (List.mem_of_getElem? (i := 8) rfl)) (Nat.le_of_ble_eq_true rfl) (Nat.le_of_ble_eq_true rfl) (Nat.le_of_ble_eq_true rfl) (Nat.le_of_ble_eq_true rfl) dX5_tenths_105 ?_
      refine g_goto (tgt := 122) X (by decide) dX5_tenths_108 ?_
      exact g_iret X hAA hQQ () (heq.symm.trans hXX) [0, 1, 2, 3, 4] rfl rfl hr dX5_tenths_122
    have heq := heq.trans (if_neg s41_2)
    by_cases s41_3 : c_kind p1.toNatClampNeg = 4
    · refine g_tsHit (k := 4) X 123 dX5_tenths_41 s41_3 (by decide) (by decide) rfl (by decide) ?_
      have heq := heq.trans (if_pos s41_3)
      refine g_iload_n X 4 rfl rfl dX5_tenths_123 ?_
      refine g_bipush (v := 9) X (by decide) dX5_tenths_124 ?_
      refine g_icmp_le X 134 dX5_tenths_126 (by decide) (fun c126 => ?_) (fun c126 => ?_)
      · have heq := heq.trans (if_pos c126)
        refine g_iconst (v := 0) X (by decide) dX5_tenths_134 ?_
        refine g_iload X 0 rfl dX5_tenths_135 ?_
        refine g_iconst (v := 1) X (by decide) dX5_tenths_137 ?_
        refine g_isub X dX5_tenths_138 ?_
        refine g_mmax X (X.2.2.2.2.1 (.methodLink RX5 124 Lib.Math.max.name) (List.mem_of_getElem? (i := 9) rfl)) (X.2.2.2.2.1 (.static Lib.Math.max.name) (List.mem_of_getElem? (i := 10) rfl)) (X.2.2.2.2.1 (.initialized "java/lang/Math") (List.mem_of_getElem? (i := 7) rfl)) (X.2.2.2.2.1 (.code Lib.Math.max.name Lib.Math.max.code 2 (some .int)) (List.mem_of_getElem? (i := 11) rfl)) (Nat.le_of_ble_eq_true rfl) (Nat.le_of_ble_eq_true rfl) (Nat.le_of_ble_eq_true rfl) (Nat.le_of_ble_eq_true rfl) dX5_tenths_139 ?_
        exact g_iret X hAA hQQ () (heq.symm.trans hXX) [0, 1, 2, 3, 4] rfl rfl hr dX5_tenths_142
      · have heq := heq.trans (if_neg c126)
        refine g_iload X 0 rfl dX5_tenths_129 ?_
        refine g_goto (tgt := 142) X (by decide) dX5_tenths_131 ?_
        exact g_iret X hAA hQQ () (heq.symm.trans hXX) [0, 1, 2, 3, 4] rfl rfl hr dX5_tenths_142
    have heq := heq.trans (if_neg s41_3)
    by_cases s41_4 : c_kind p1.toNatClampNeg = 5
    · refine g_tsHit (k := 5) X 143 dX5_tenths_41 s41_4 (by decide) (by decide) rfl (by decide) ?_
      have heq := heq.trans (if_pos s41_4)
      refine g_iload_n X 3 rfl rfl dX5_tenths_143 ?_
      refine g_if_ne X 159 dX5_tenths_144 (by decide) (fun c144 => absurd c1 c144) (fun c144 => ?_)
      refine g_bipush (v := 9) X (by decide) dX5_tenths_147 ?_
      refine g_iload X 0 rfl dX5_tenths_149 ?_
      refine g_iconst (v := 1) X (by decide) dX5_tenths_151 ?_
      refine g_iadd X dX5_tenths_152 ?_
      refine g_mmin X (X.2.2.2.2.1 (.methodLink RX5 118 Lib.Math.min.name) (List.mem_of_getElem? (i := 5) rfl)) (X.2.2.2.2.1 (.static Lib.Math.min.name) (List.mem_of_getElem? (i := 6) rfl)) (X.2.2.2.2.1 (.initialized "java/lang/Math") (List.mem_of_getElem? (i := 7) rfl)) (X.2.2.2.2.1 (.code Lib.Math.min.name Lib.Math.min.code 2 (some .int)) (List.mem_of_getElem? (i := 8) rfl)) (Nat.le_of_ble_eq_true rfl) (Nat.le_of_ble_eq_true rfl) (Nat.le_of_ble_eq_true rfl) (Nat.le_of_ble_eq_true rfl) dX5_tenths_153 ?_
      refine g_goto (tgt := 180) X (by decide) dX5_tenths_156 ?_
      exact g_iret X hAA hQQ () (heq.symm.trans hXX) [0, 1, 2, 3, 4] rfl rfl hr dX5_tenths_180
    have heq := heq.trans (if_neg s41_4)
    refine g_tsDef X 181 [1, 2, 3, 4, 5] dX5_tenths_41 (g_neC s41_0 (g_neC s41_1 (g_neC s41_2 (g_neC s41_3 (g_ne1 s41_4))))) (by decide) (by decide) (by decide) ?_
    refine g_iload X 0 rfl dX5_tenths_181 ?_
    exact g_iret X hAA hQQ () (heq.symm.trans hXX) [0, 1, 2, 3, 4] rfl rfl hr dX5_tenths_183

theorem hi_X5_odds_X5 : ∀ w ∈ wsX50, w ∈ wsX5_odds := fun w h => List.mem_cons_of_mem _ (List.mem_append_right _ (h))
def f_X5_odds (c_kind : Nat → Int32) (c_near : Nat → Int32) (c_far : Nat → Int32) (c_free : Nat → Int32) (c_guard : Nat → Int32) (p1 : Int32) (p2 : Int32) (p3 : Int32) : Int32 :=
  g_lt (f_X5_tenths c_kind c_near c_far c_free p1 p2 p3) (fun r4 => (if c_guard p1.toNatClampNeg = 1 then g_minf (9 : Int32) (r4 + 1) else (if c_guard p1.toNatClampNeg = 2 then r4 / 2 else r4)))
set_option maxHeartbeats 4000000 in
set_option maxRecDepth 100000 in
theorem k_X5_odds (l : Launch) (D : va_G) (cI : ClassId) (kA kV : Nat → Nat) (a_ a_fouls a_calls a_side a_kind a_near a_far a_free a_letter a_value a_row a_refusals a_image a_ahead a_guard a_worth : Nat) (c_seconds : Int32) (c_lead : Int32) (c_ball : Int32) (c_rebound : Int32) (c_law : Int32) (c_draw : Int32) (c_players : Int32) (c_letters : Int32) (c_at : Int32) (c_inRow : Int32) (c_imaged : Int32) (c_kind : Nat → Int32) (c_near : Nat → Int32) (c_far : Nat → Int32) (c_free : Nat → Int32) (c_guard : Nat → Int32) (p1 : Int32) (p2 : Int32) (p3 : Int32) (hi : m_I p1) :
    g_MI l D cI kA kV yX5_odds wsX5_odds { frames := 2, cells := 0, slots := 0, locals := 41 } [.ref a_, .int p1, .int p2, .int p3] [(a_, .inr (5, [.int c_seconds, .int c_lead, .int c_ball, .ref a_fouls, .ref a_calls, .int c_rebound, .int c_law, .int c_draw, .int c_players, .ref a_side, .ref a_kind, .ref a_near, .ref a_far, .ref a_free, .int c_letters, .ref a_letter, .int c_at, .ref a_value, .int c_inRow, .ref a_row, .ref a_refusals, .int c_imaged, .ref a_image, .ref a_ahead, .ref a_guard, .ref a_worth])), (a_kind, .inl (cI, 6, .inl c_kind)), (a_near, .inl (cI, 6, .inl c_near)), (a_far, .inl (cI, 6, .inl c_far)), (a_free, .inl (cI, 6, .inl c_free)), (a_guard, .inl (cI, 6, .inl c_guard))] (fun u : Unit => [(a_, .inr (5, [.int c_seconds, .int c_lead, .int c_ball, .ref a_fouls, .ref a_calls, .int c_rebound, .int c_law, .int c_draw, .int c_players, .ref a_side, .ref a_kind, .ref a_near, .ref a_far, .ref a_free, .int c_letters, .ref a_letter, .int c_at, .ref a_value, .int c_inRow, .ref a_row, .ref a_refusals, .int c_imaged, .ref a_image, .ref a_ahead, .ref a_guard, .ref a_worth])), (a_kind, .inl (cI, 6, .inl c_kind)), (a_near, .inl (cI, 6, .inl c_near)), (a_far, .inl (cI, 6, .inl c_far)), (a_free, .inl (cI, 6, .inl c_free)), (a_guard, .inl (cI, 6, .inl c_guard))]) (fun (r : Int32) (u : Unit) => r = f_X5_odds c_kind c_near c_far c_free c_guard p1 p2 p3) := by
  obtain ⟨XX, hXX⟩ : ∃ z, z = f_X5_odds c_kind c_near c_far c_free c_guard p1 p2 p3 := ⟨_, rfl⟩
  have heq := hXX.trans (f_X5_odds.eq_def c_kind c_near c_far c_free c_guard p1 p2 p3)
  refine g_startI (lv := [(0, .ref a_), (1, .int p1), (2, .int p2), (3, .int p3)]) RX5 rfl rfl rfl (Nat.le_of_ble_eq_true rfl) rfl (fun p e s m args below meth c AA QQ hAA hQQ X hr hmn => ?_)
  refine g_aload_n X 0 rfl rfl dX5_odds_0 ?_
  refine g_iload_n X 1 rfl rfl dX5_odds_1 ?_
  refine g_iload_n X 2 rfl rfl dX5_odds_2 ?_
  refine g_iload_n X 3 rfl rfl dX5_odds_3 ?_
  refine g_callVi (C := RX5) (T := TX5) (N := 26) (ci := 5) (As := [.int p1, .int p2, .int p3]) (st := []) (wr := [(a_guard, .inl (cI, 6, .inl c_guard))]) X (k_X5_tenths l D cI kA kV a_ a_fouls a_calls a_side a_kind a_near a_far a_free a_letter a_value a_row a_refusals a_image a_ahead a_guard a_worth c_seconds c_lead c_ball c_rebound c_law c_draw c_players c_letters c_at c_inRow c_imaged c_kind c_near c_far c_free p1 p2 p3 hi) (cwV 3 X.2.2.2.2.1 gX5_odds_X5_tenths rfl rfl rfl (by decide +kernel) ⟨Nat.le_of_ble_eq_true rfl, Nat.le_of_ble_eq_true rfl⟩) 0 rfl rfl [0, 1, 2, 3, 4] [5] rfl rfl rfl rfl (by decide) rfl (Nat.le_of_ble_eq_true rfl) ⟨Nat.le_of_ble_eq_true rfl, Nat.le_of_ble_eq_true rfl⟩ dX5_odds_4 rfl (fun r4 u4 hw4 => ?_)
  refine g_eqs (ws' := [(a_guard, .inl (cI, 6, .inl c_guard)), (a_, .inr (5, [.int c_seconds, .int c_lead, .int c_ball, .ref a_fouls, .ref a_calls, .int c_rebound, .int c_law, .int c_draw, .int c_players, .ref a_side, .ref a_kind, .ref a_near, .ref a_far, .ref a_free, .int c_letters, .ref a_letter, .int c_at, .ref a_value, .int c_inRow, .ref a_row, .ref a_refusals, .int c_imaged, .ref a_image, .ref a_ahead, .ref a_guard, .ref a_worth])), (a_kind, .inl (cI, 6, .inl c_kind)), (a_near, .inl (cI, 6, .inl c_near)), (a_far, .inl (cI, 6, .inl c_far)), (a_free, .inl (cI, 6, .inl c_free))]) rfl ?_
  have heq := g_let heq hw4
  refine g_istore (lv' := [(4, .int r4), (0, .ref a_), (1, .int p1), (2, .int p2), (3, .int p3)]) X (by decide) rfl dX5_odds_7 ?_
  refine g_aload_n X 1 rfl rfl dX5_odds_9 ?_
  refine g_get (C := RX5) (T := TX5) (N := 26) (ci := 5) X hi_X5_odds_X5 1 rfl rfl 24 (by decide) (X.2.2.2.2.1 (.fieldLink RX5 49 "NineteenSecondsLeftModel" "guard" "[I") (List.mem_of_getElem? (i := 1) rfl)) rfl rfl dX5_odds_10 ?_
  refine g_iload_n X 2 rfl rfl dX5_odds_13 ?_
  refine g_iald X 0 rfl hi.vin dX5_odds_14 ?_
  refine g_iconst (v := 1) X (by decide) dX5_odds_15 ?_
  refine g_icmp_ne X 31 dX5_odds_16 (by decide) (fun c16 => ?_) (fun c16 => ?_)
  · have heq := heq.trans (if_neg c16)
    refine g_aload_n X 1 rfl rfl dX5_odds_31 ?_
    refine g_get (C := RX5) (T := TX5) (N := 26) (ci := 5) X hi_X5_odds_X5 1 rfl rfl 24 (by decide) (X.2.2.2.2.1 (.fieldLink RX5 49 "NineteenSecondsLeftModel" "guard" "[I") (List.mem_of_getElem? (i := 1) rfl)) rfl rfl dX5_odds_32 ?_
    refine g_iload_n X 2 rfl rfl dX5_odds_35 ?_
    refine g_iald X 0 rfl hi.vin dX5_odds_36 ?_
    refine g_iconst (v := 2) X (by decide) dX5_odds_37 ?_
    refine g_icmp_ne X 48 dX5_odds_38 (by decide) (fun c38 => ?_) (fun c38 => ?_)
    · have heq := heq.trans (if_neg c38)
      refine g_iload X 0 rfl dX5_odds_48 ?_
      exact g_iret X hAA hQQ () (heq.symm.trans hXX) [1, 2, 3, 4, 5, 0] rfl rfl hr dX5_odds_50
    · have heq := heq.trans (if_pos c38)
      refine g_iload X 0 rfl dX5_odds_41 ?_
      refine g_iconst (v := 2) X (by decide) dX5_odds_43 ?_
      refine g_idiv X (by decide) dX5_odds_44 ?_
      refine g_goto (tgt := 50) X (by decide) dX5_odds_45 ?_
      exact g_iret X hAA hQQ () (heq.symm.trans hXX) [1, 2, 3, 4, 5, 0] rfl rfl hr dX5_odds_50
  · have heq := heq.trans (if_pos c16)
    refine g_bipush (v := 9) X (by decide) dX5_odds_19 ?_
    refine g_iload X 0 rfl dX5_odds_21 ?_
    refine g_iconst (v := 1) X (by decide) dX5_odds_23 ?_
    refine g_iadd X dX5_odds_24 ?_
    refine g_mmin X (X.2.2.2.2.1 (.methodLink RX5 118 Lib.Math.min.name) (List.mem_of_getElem? (i := 2) rfl)) (X.2.2.2.2.1 (.static Lib.Math.min.name) (List.mem_of_getElem? (i := 3) rfl)) (X.2.2.2.2.1 (.initialized "java/lang/Math") (List.mem_of_getElem? (i := 4) rfl)) (X.2.2.2.2.1 (.code Lib.Math.min.name Lib.Math.min.code 2 (some .int)) (List.mem_of_getElem? (i := 5) rfl)) (Nat.le_of_ble_eq_true rfl) (Nat.le_of_ble_eq_true rfl) (Nat.le_of_ble_eq_true rfl) (Nat.le_of_ble_eq_true rfl) dX5_odds_25 ?_
    refine g_goto (tgt := 50) X (by decide) dX5_odds_28 ?_
    exact g_iret X hAA hQQ () (heq.symm.trans hXX) [1, 2, 3, 4, 5, 0] rfl rfl hr dX5_odds_50

theorem hi_X5_player_X5 : ∀ w ∈ wsX50, w ∈ wsX5_player := fun w h => List.mem_cons_of_mem _ (List.mem_append_right _ (h))
def f_X5_player (c_players : Int32) (c_side : Nat → Int32) (c_kind : Nat → Int32) (c_near : Nat → Int32) (c_far : Nat → Int32) (c_free : Nat → Int32) (c_refusals : Nat → Int32) (p1 : Int32) (p2 : Int32) : Int32 × (Nat → Int32) :=
  g_lt (f_X5_isOne c_players p1) (fun r2 => (if r2 = 0 then g_lt2 (f_X5_no c_refusals ((-1) : Int32)) (fun r10 u10 => (r10, u10)) else (if p2 = 0 then (c_side p1.toNatClampNeg, c_refusals) else (if p2 = 1 then (c_kind p1.toNatClampNeg, c_refusals) else (if p2 = 2 then (c_near p1.toNatClampNeg, c_refusals) else (if p2 = 3 then (c_far p1.toNatClampNeg, c_refusals) else (if p2 = 4 then (c_free p1.toNatClampNeg, c_refusals) else g_lt2 (f_X5_no c_refusals ((-2) : Int32)) (fun r86 u86 => (r86, u86)))))))))
set_option maxHeartbeats 4000000 in
set_option maxRecDepth 100000 in
theorem k_X5_player (l : Launch) (D : va_G) (cI : ClassId) (kA kV : Nat → Nat) (a_ a_fouls a_calls a_side a_kind a_near a_far a_free a_letter a_value a_row a_refusals a_image a_ahead a_guard a_worth : Nat) (c_seconds : Int32) (c_lead : Int32) (c_ball : Int32) (c_rebound : Int32) (c_law : Int32) (c_draw : Int32) (c_players : Int32) (c_letters : Int32) (c_at : Int32) (c_inRow : Int32) (c_imaged : Int32) (c_side : Nat → Int32) (c_kind : Nat → Int32) (c_near : Nat → Int32) (c_far : Nat → Int32) (c_free : Nat → Int32) (c_refusals : Nat → Int32) (p1 : Int32) (p2 : Int32) (hp : m_P c_players) :
    g_MI l D cI kA kV yX5_player wsX5_player { frames := 2, cells := 0, slots := 0, locals := 43 } [.ref a_, .int p1, .int p2] [(a_, .inr (5, [.int c_seconds, .int c_lead, .int c_ball, .ref a_fouls, .ref a_calls, .int c_rebound, .int c_law, .int c_draw, .int c_players, .ref a_side, .ref a_kind, .ref a_near, .ref a_far, .ref a_free, .int c_letters, .ref a_letter, .int c_at, .ref a_value, .int c_inRow, .ref a_row, .ref a_refusals, .int c_imaged, .ref a_image, .ref a_ahead, .ref a_guard, .ref a_worth])), (a_side, .inl (cI, 6, .inl c_side)), (a_kind, .inl (cI, 6, .inl c_kind)), (a_near, .inl (cI, 6, .inl c_near)), (a_far, .inl (cI, 6, .inl c_far)), (a_free, .inl (cI, 6, .inl c_free)), (a_refusals, .inl (cI, 7, .inl c_refusals))] (fun u : (Nat → Int32) => [(a_, .inr (5, [.int c_seconds, .int c_lead, .int c_ball, .ref a_fouls, .ref a_calls, .int c_rebound, .int c_law, .int c_draw, .int c_players, .ref a_side, .ref a_kind, .ref a_near, .ref a_far, .ref a_free, .int c_letters, .ref a_letter, .int c_at, .ref a_value, .int c_inRow, .ref a_row, .ref a_refusals, .int c_imaged, .ref a_image, .ref a_ahead, .ref a_guard, .ref a_worth])), (a_side, .inl (cI, 6, .inl c_side)), (a_kind, .inl (cI, 6, .inl c_kind)), (a_near, .inl (cI, 6, .inl c_near)), (a_far, .inl (cI, 6, .inl c_far)), (a_free, .inl (cI, 6, .inl c_free)), (a_refusals, .inl (cI, 7, .inl u))]) (fun (r : Int32) (u : (Nat → Int32)) => (r, u) = f_X5_player c_players c_side c_kind c_near c_far c_free c_refusals p1 p2) := by
  obtain ⟨XX, hXX⟩ : ∃ z, z = f_X5_player c_players c_side c_kind c_near c_far c_free c_refusals p1 p2 := ⟨_, rfl⟩
  have heq := hXX.trans (f_X5_player.eq_def c_players c_side c_kind c_near c_far c_free c_refusals p1 p2)
  refine g_startI (lv := [(0, .ref a_), (1, .int p1), (2, .int p2)]) RX5 rfl rfl rfl (Nat.le_of_ble_eq_true rfl) rfl (fun p e s m args below meth c AA QQ hAA hQQ X hr hmn => ?_)
  refine g_aload_n X 0 rfl rfl dX5_player_0 ?_
  refine g_iload_n X 1 rfl rfl dX5_player_1 ?_
  refine g_callVi (C := RX5) (T := TX5) (N := 26) (ci := 5) (As := [.int p1]) (st := []) (wr := [(a_side, .inl (cI, 6, .inl c_side)), (a_kind, .inl (cI, 6, .inl c_kind)), (a_near, .inl (cI, 6, .inl c_near)), (a_far, .inl (cI, 6, .inl c_far)), (a_free, .inl (cI, 6, .inl c_free)), (a_refusals, .inl (cI, 7, .inl c_refusals))]) X (k_X5_isOne l D cI kA kV a_ a_fouls a_calls a_side a_kind a_near a_far a_free a_letter a_value a_row a_refusals a_image a_ahead a_guard a_worth c_seconds c_lead c_ball c_rebound c_law c_draw c_players c_letters c_at c_inRow c_imaged p1) (cwV 1 X.2.2.2.2.1 gX5_player_X5_isOne rfl rfl rfl (by decide +kernel) ⟨Nat.le_of_ble_eq_true rfl, Nat.le_of_ble_eq_true rfl⟩) 0 rfl rfl [0] [1, 2, 3, 4, 5, 6] rfl rfl rfl rfl (by decide) rfl (Nat.le_of_ble_eq_true rfl) ⟨Nat.le_of_ble_eq_true rfl, Nat.le_of_ble_eq_true rfl⟩ dX5_player_2 rfl (fun r2 u2 hw2 => ?_)
  refine g_eqs (ws' := [(a_side, .inl (cI, 6, .inl c_side)), (a_kind, .inl (cI, 6, .inl c_kind)), (a_near, .inl (cI, 6, .inl c_near)), (a_far, .inl (cI, 6, .inl c_far)), (a_free, .inl (cI, 6, .inl c_free)), (a_refusals, .inl (cI, 7, .inl c_refusals)), (a_, .inr (5, [.int c_seconds, .int c_lead, .int c_ball, .ref a_fouls, .ref a_calls, .int c_rebound, .int c_law, .int c_draw, .int c_players, .ref a_side, .ref a_kind, .ref a_near, .ref a_far, .ref a_free, .int c_letters, .ref a_letter, .int c_at, .ref a_value, .int c_inRow, .ref a_row, .ref a_refusals, .int c_imaged, .ref a_image, .ref a_ahead, .ref a_guard, .ref a_worth]))]) rfl ?_
  have heq := g_let heq hw2
  refine g_if_ne X 14 dX5_player_5 (by decide) (fun c5 => ?_) (fun c5 => ?_)
  · have heq := heq.trans (if_neg c5)
    refine g_iload_n X 2 rfl rfl dX5_player_14 ?_
    by_cases s15_0 : p2 = 0
    · refine g_tsHit (k := 0) X 48 dX5_player_15 s15_0 (by decide) (by decide) rfl (by decide) ?_
      have heq := heq.trans (if_pos s15_0)
      refine g_aload_n X 0 rfl rfl dX5_player_48 ?_
      refine g_get (C := RX5) (T := TX5) (N := 26) (ci := 5) X hi_X5_player_X5 6 rfl rfl 9 (by decide) (X.2.2.2.2.1 (.fieldLink RX5 16 "NineteenSecondsLeftModel" "side" "[I") (List.mem_of_getElem? (i := 1) rfl)) rfl rfl dX5_player_49 ?_
      refine g_iload_n X 1 rfl rfl dX5_player_52 ?_
      refine g_iald X 0 rfl (fd_one hp hw2 c5).vin dX5_player_53 ?_
      exact g_iret X hAA hQQ c_refusals (heq.symm.trans hXX) [6, 0, 1, 2, 3, 4, 5] rfl rfl hr dX5_player_54
    have heq := heq.trans (if_neg s15_0)
    by_cases s15_1 : p2 = 1
    · refine g_tsHit (k := 1) X 55 dX5_player_15 s15_1 (by decide) (by decide) rfl (by decide) ?_
      have heq := heq.trans (if_pos s15_1)
      refine g_aload_n X 0 rfl rfl dX5_player_55 ?_
      refine g_get (C := RX5) (T := TX5) (N := 26) (ci := 5) X hi_X5_player_X5 6 rfl rfl 10 (by decide) (X.2.2.2.2.1 (.fieldLink RX5 19 "NineteenSecondsLeftModel" "kind" "[I") (List.mem_of_getElem? (i := 2) rfl)) rfl rfl dX5_player_56 ?_
      refine g_iload_n X 1 rfl rfl dX5_player_59 ?_
      refine g_iald X 1 rfl (fd_one hp hw2 c5).vin dX5_player_60 ?_
      exact g_iret X hAA hQQ c_refusals (heq.symm.trans hXX) [6, 0, 1, 2, 3, 4, 5] rfl rfl hr dX5_player_61
    have heq := heq.trans (if_neg s15_1)
    by_cases s15_2 : p2 = 2
    · refine g_tsHit (k := 2) X 62 dX5_player_15 s15_2 (by decide) (by decide) rfl (by decide) ?_
      have heq := heq.trans (if_pos s15_2)
      refine g_aload_n X 0 rfl rfl dX5_player_62 ?_
      refine g_get (C := RX5) (T := TX5) (N := 26) (ci := 5) X hi_X5_player_X5 6 rfl rfl 11 (by decide) (X.2.2.2.2.1 (.fieldLink RX5 22 "NineteenSecondsLeftModel" "near" "[I") (List.mem_of_getElem? (i := 3) rfl)) rfl rfl dX5_player_63 ?_
      refine g_iload_n X 1 rfl rfl dX5_player_66 ?_
      refine g_iald X 2 rfl (fd_one hp hw2 c5).vin dX5_player_67 ?_
      exact g_iret X hAA hQQ c_refusals (heq.symm.trans hXX) [6, 0, 1, 2, 3, 4, 5] rfl rfl hr dX5_player_68
    have heq := heq.trans (if_neg s15_2)
    by_cases s15_3 : p2 = 3
    · refine g_tsHit (k := 3) X 69 dX5_player_15 s15_3 (by decide) (by decide) rfl (by decide) ?_
      have heq := heq.trans (if_pos s15_3)
      refine g_aload_n X 0 rfl rfl dX5_player_69 ?_
      refine g_get (C := RX5) (T := TX5) (N := 26) (ci := 5) X hi_X5_player_X5 6 rfl rfl 12 (by decide) (X.2.2.2.2.1 (.fieldLink RX5 25 "NineteenSecondsLeftModel" "far" "[I") (List.mem_of_getElem? (i := 4) rfl)) rfl rfl dX5_player_70 ?_
      refine g_iload_n X 1 rfl rfl dX5_player_73 ?_
      refine g_iald X 3 rfl (fd_one hp hw2 c5).vin dX5_player_74 ?_
      exact g_iret X hAA hQQ c_refusals (heq.symm.trans hXX) [6, 0, 1, 2, 3, 4, 5] rfl rfl hr dX5_player_75
    have heq := heq.trans (if_neg s15_3)
    by_cases s15_4 : p2 = 4
    · refine g_tsHit (k := 4) X 76 dX5_player_15 s15_4 (by decide) (by decide) rfl (by decide) ?_
      have heq := heq.trans (if_pos s15_4)
      refine g_aload_n X 0 rfl rfl dX5_player_76 ?_
      refine g_get (C := RX5) (T := TX5) (N := 26) (ci := 5) X hi_X5_player_X5 6 rfl rfl 13 (by decide) (X.2.2.2.2.1 (.fieldLink RX5 28 "NineteenSecondsLeftModel" "free" "[I") (List.mem_of_getElem? (i := 5) rfl)) rfl rfl dX5_player_77 ?_
      refine g_iload_n X 1 rfl rfl dX5_player_80 ?_
      refine g_iald X 4 rfl (fd_one hp hw2 c5).vin dX5_player_81 ?_
      exact g_iret X hAA hQQ c_refusals (heq.symm.trans hXX) [6, 0, 1, 2, 3, 4, 5] rfl rfl hr dX5_player_82
    have heq := heq.trans (if_neg s15_4)
    refine g_tsDef X 83 [0, 1, 2, 3, 4] dX5_player_15 (g_neC s15_0 (g_neC s15_1 (g_neC s15_2 (g_neC s15_3 (g_ne1 s15_4))))) (by decide) (by decide) (by decide) ?_
    refine g_aload_n X 0 rfl rfl dX5_player_83 ?_
    refine g_bipush (v := (-2)) X (by decide) dX5_player_84 ?_
    refine g_callVi (C := RX5) (T := TX5) (N := 26) (ci := 5) (As := [.int (-2)]) (st := []) (wr := [(a_side, .inl (cI, 6, .inl c_side)), (a_kind, .inl (cI, 6, .inl c_kind)), (a_near, .inl (cI, 6, .inl c_near)), (a_far, .inl (cI, 6, .inl c_far)), (a_free, .inl (cI, 6, .inl c_free))]) X (k_X5_no l D cI kA kV a_ a_fouls a_calls a_side a_kind a_near a_far a_free a_letter a_value a_row a_refusals a_image a_ahead a_guard a_worth c_seconds c_lead c_ball c_rebound c_law c_draw c_players c_letters c_at c_inRow c_imaged c_refusals (-2) (by decide) (by decide)) (cwV 1 X.2.2.2.2.1 gX5_player_X5_no rfl rfl rfl (by decide +kernel) ⟨Nat.le_of_ble_eq_true rfl, Nat.le_of_ble_eq_true rfl⟩) 6 rfl rfl [6, 5] [0, 1, 2, 3, 4] rfl rfl rfl rfl (by decide) rfl (Nat.le_of_ble_eq_true rfl) ⟨Nat.le_of_ble_eq_true rfl, Nat.le_of_ble_eq_true rfl⟩ dX5_player_86 rfl (fun r86 u86 hw86 => ?_)
    refine g_eqs (ws' := [(a_side, .inl (cI, 6, .inl c_side)), (a_kind, .inl (cI, 6, .inl c_kind)), (a_near, .inl (cI, 6, .inl c_near)), (a_far, .inl (cI, 6, .inl c_far)), (a_free, .inl (cI, 6, .inl c_free)), (a_, .inr (5, [.int c_seconds, .int c_lead, .int c_ball, .ref a_fouls, .ref a_calls, .int c_rebound, .int c_law, .int c_draw, .int c_players, .ref a_side, .ref a_kind, .ref a_near, .ref a_far, .ref a_free, .int c_letters, .ref a_letter, .int c_at, .ref a_value, .int c_inRow, .ref a_row, .ref a_refusals, .int c_imaged, .ref a_image, .ref a_ahead, .ref a_guard, .ref a_worth])), (a_refusals, .inl (cI, 7, .inl u86))]) rfl ?_
    have heq := g_let2 heq hw86
    exact g_iret X hAA hQQ u86 (heq.symm.trans hXX) [5, 0, 1, 2, 3, 4, 6] rfl rfl hr dX5_player_89
  · have heq := heq.trans (if_pos c5)
    refine g_aload_n X 0 rfl rfl dX5_player_8 ?_
    refine g_iconst (v := (-1)) X (by decide) dX5_player_9 ?_
    refine g_callVi (C := RX5) (T := TX5) (N := 26) (ci := 5) (As := [.int (-1)]) (st := []) (wr := [(a_side, .inl (cI, 6, .inl c_side)), (a_kind, .inl (cI, 6, .inl c_kind)), (a_near, .inl (cI, 6, .inl c_near)), (a_far, .inl (cI, 6, .inl c_far)), (a_free, .inl (cI, 6, .inl c_free))]) X (k_X5_no l D cI kA kV a_ a_fouls a_calls a_side a_kind a_near a_far a_free a_letter a_value a_row a_refusals a_image a_ahead a_guard a_worth c_seconds c_lead c_ball c_rebound c_law c_draw c_players c_letters c_at c_inRow c_imaged c_refusals (-1) (by decide) (by decide)) (cwV 1 X.2.2.2.2.1 gX5_player_X5_no rfl rfl rfl (by decide +kernel) ⟨Nat.le_of_ble_eq_true rfl, Nat.le_of_ble_eq_true rfl⟩) 6 rfl rfl [6, 5] [0, 1, 2, 3, 4] rfl rfl rfl rfl (by decide) rfl (Nat.le_of_ble_eq_true rfl) ⟨Nat.le_of_ble_eq_true rfl, Nat.le_of_ble_eq_true rfl⟩ dX5_player_10 rfl (fun r10 u10 hw10 => ?_)
    refine g_eqs (ws' := [(a_side, .inl (cI, 6, .inl c_side)), (a_kind, .inl (cI, 6, .inl c_kind)), (a_near, .inl (cI, 6, .inl c_near)), (a_far, .inl (cI, 6, .inl c_far)), (a_free, .inl (cI, 6, .inl c_free)), (a_, .inr (5, [.int c_seconds, .int c_lead, .int c_ball, .ref a_fouls, .ref a_calls, .int c_rebound, .int c_law, .int c_draw, .int c_players, .ref a_side, .ref a_kind, .ref a_near, .ref a_far, .ref a_free, .int c_letters, .ref a_letter, .int c_at, .ref a_value, .int c_inRow, .ref a_row, .ref a_refusals, .int c_imaged, .ref a_image, .ref a_ahead, .ref a_guard, .ref a_worth])), (a_refusals, .inl (cI, 7, .inl u10))]) rfl ?_
    have heq := g_let2 heq hw10
    exact g_iret X hAA hQQ u10 (heq.symm.trans hXX) [5, 0, 1, 2, 3, 4, 6] rfl rfl hr dX5_player_13

def f_X5_hits (c_players : Int32) (c_kind : Nat → Int32) (c_near : Nat → Int32) (c_far : Nat → Int32) (c_free : Nat → Int32) (c_refusals : Nat → Int32) (p1 : Int32) (p2 : Int32) (p3 : Int32) : Int32 × (Nat → Int32) :=
  g_lt (f_X5_isOne c_players p1) (fun r2 => (if r2 = 0 then g_lt2 (f_X5_no c_refusals ((-1) : Int32)) (fun r10 u10 => (r10, u10)) else g_lt (f_X5_within p2 (0 : Int32) (2 : Int32)) (fun r17 => (if r17 = 0 then g_lt2 (f_X5_no c_refusals ((-2) : Int32)) (fun r26 u26 => (r26, u26)) else (if 0 ≤ p3 then (if p3 ≤ 24 then g_lt (f_X5_tenths c_kind c_near c_far c_free p1 p2 p3) (fun r60 => (r60, c_refusals)) else g_lt2 (f_X5_no c_refusals ((-6) : Int32)) (fun r50 u50 => (r50, u50))) else g_lt2 (f_X5_no c_refusals ((-4) : Int32)) (fun r37 u37 => (r37, u37)))))))
set_option maxHeartbeats 4000000 in
set_option maxRecDepth 100000 in
theorem k_X5_hits (l : Launch) (D : va_G) (cI : ClassId) (kA kV : Nat → Nat) (a_ a_fouls a_calls a_side a_kind a_near a_far a_free a_letter a_value a_row a_refusals a_image a_ahead a_guard a_worth : Nat) (c_seconds : Int32) (c_lead : Int32) (c_ball : Int32) (c_rebound : Int32) (c_law : Int32) (c_draw : Int32) (c_players : Int32) (c_letters : Int32) (c_at : Int32) (c_inRow : Int32) (c_imaged : Int32) (c_kind : Nat → Int32) (c_near : Nat → Int32) (c_far : Nat → Int32) (c_free : Nat → Int32) (c_refusals : Nat → Int32) (p1 : Int32) (p2 : Int32) (p3 : Int32) (hp : m_P c_players) :
    g_MI l D cI kA kV yX5_hits wsX5_hits { frames := 2, cells := 0, slots := 0, locals := 43 } [.ref a_, .int p1, .int p2, .int p3] [(a_, .inr (5, [.int c_seconds, .int c_lead, .int c_ball, .ref a_fouls, .ref a_calls, .int c_rebound, .int c_law, .int c_draw, .int c_players, .ref a_side, .ref a_kind, .ref a_near, .ref a_far, .ref a_free, .int c_letters, .ref a_letter, .int c_at, .ref a_value, .int c_inRow, .ref a_row, .ref a_refusals, .int c_imaged, .ref a_image, .ref a_ahead, .ref a_guard, .ref a_worth])), (a_kind, .inl (cI, 6, .inl c_kind)), (a_near, .inl (cI, 6, .inl c_near)), (a_far, .inl (cI, 6, .inl c_far)), (a_free, .inl (cI, 6, .inl c_free)), (a_refusals, .inl (cI, 7, .inl c_refusals))] (fun u : (Nat → Int32) => [(a_, .inr (5, [.int c_seconds, .int c_lead, .int c_ball, .ref a_fouls, .ref a_calls, .int c_rebound, .int c_law, .int c_draw, .int c_players, .ref a_side, .ref a_kind, .ref a_near, .ref a_far, .ref a_free, .int c_letters, .ref a_letter, .int c_at, .ref a_value, .int c_inRow, .ref a_row, .ref a_refusals, .int c_imaged, .ref a_image, .ref a_ahead, .ref a_guard, .ref a_worth])), (a_kind, .inl (cI, 6, .inl c_kind)), (a_near, .inl (cI, 6, .inl c_near)), (a_far, .inl (cI, 6, .inl c_far)), (a_free, .inl (cI, 6, .inl c_free)), (a_refusals, .inl (cI, 7, .inl u))]) (fun (r : Int32) (u : (Nat → Int32)) => (r, u) = f_X5_hits c_players c_kind c_near c_far c_free c_refusals p1 p2 p3) := by
  obtain ⟨XX, hXX⟩ : ∃ z, z = f_X5_hits c_players c_kind c_near c_far c_free c_refusals p1 p2 p3 := ⟨_, rfl⟩
  have heq := hXX.trans (f_X5_hits.eq_def c_players c_kind c_near c_far c_free c_refusals p1 p2 p3)
  refine g_startI (lv := [(0, .ref a_), (1, .int p1), (2, .int p2), (3, .int p3)]) RX5 rfl rfl rfl (Nat.le_of_ble_eq_true rfl) rfl (fun p e s m args below meth c AA QQ hAA hQQ X hr hmn => ?_)
  refine g_aload_n X 0 rfl rfl dX5_hits_0 ?_
  refine g_iload_n X 1 rfl rfl dX5_hits_1 ?_
  refine g_callVi (C := RX5) (T := TX5) (N := 26) (ci := 5) (As := [.int p1]) (st := []) (wr := [(a_kind, .inl (cI, 6, .inl c_kind)), (a_near, .inl (cI, 6, .inl c_near)), (a_far, .inl (cI, 6, .inl c_far)), (a_free, .inl (cI, 6, .inl c_free)), (a_refusals, .inl (cI, 7, .inl c_refusals))]) X (k_X5_isOne l D cI kA kV a_ a_fouls a_calls a_side a_kind a_near a_far a_free a_letter a_value a_row a_refusals a_image a_ahead a_guard a_worth c_seconds c_lead c_ball c_rebound c_law c_draw c_players c_letters c_at c_inRow c_imaged p1) (cwV 1 X.2.2.2.2.1 gX5_hits_X5_isOne rfl rfl rfl (by decide +kernel) ⟨Nat.le_of_ble_eq_true rfl, Nat.le_of_ble_eq_true rfl⟩) 0 rfl rfl [0] [1, 2, 3, 4, 5] rfl rfl rfl rfl (by decide) rfl (Nat.le_of_ble_eq_true rfl) ⟨Nat.le_of_ble_eq_true rfl, Nat.le_of_ble_eq_true rfl⟩ dX5_hits_2 rfl (fun r2 u2 hw2 => ?_)
  refine g_eqs (ws' := [(a_kind, .inl (cI, 6, .inl c_kind)), (a_near, .inl (cI, 6, .inl c_near)), (a_far, .inl (cI, 6, .inl c_far)), (a_free, .inl (cI, 6, .inl c_free)), (a_refusals, .inl (cI, 7, .inl c_refusals)), (a_, .inr (5, [.int c_seconds, .int c_lead, .int c_ball, .ref a_fouls, .ref a_calls, .int c_rebound, .int c_law, .int c_draw, .int c_players, .ref a_side, .ref a_kind, .ref a_near, .ref a_far, .ref a_free, .int c_letters, .ref a_letter, .int c_at, .ref a_value, .int c_inRow, .ref a_row, .ref a_refusals, .int c_imaged, .ref a_image, .ref a_ahead, .ref a_guard, .ref a_worth]))]) rfl ?_
  have heq := g_let heq hw2
  refine g_if_ne X 14 dX5_hits_5 (by decide) (fun c5 => ?_) (fun c5 => ?_)
  · have heq := heq.trans (if_neg c5)
    refine g_iload_n X 2 rfl rfl dX5_hits_14 ?_
    refine g_iconst (v := 0) X (by decide) dX5_hits_15 ?_
    refine g_iconst (v := 2) X (by decide) dX5_hits_16 ?_
    refine g_callSi (As := [.int p2, .int 0, .int 2]) (st := []) (wr := [(a_kind, .inl (cI, 6, .inl c_kind)), (a_near, .inl (cI, 6, .inl c_near)), (a_far, .inl (cI, 6, .inl c_far)), (a_free, .inl (cI, 6, .inl c_free)), (a_refusals, .inl (cI, 7, .inl c_refusals)), (a_, .inr (5, [.int c_seconds, .int c_lead, .int c_ball, .ref a_fouls, .ref a_calls, .int c_rebound, .int c_law, .int c_draw, .int c_players, .ref a_side, .ref a_kind, .ref a_near, .ref a_far, .ref a_free, .int c_letters, .ref a_letter, .int c_at, .ref a_value, .int c_inRow, .ref a_row, .ref a_refusals, .int c_imaged, .ref a_image, .ref a_ahead, .ref a_guard, .ref a_worth]))]) X (k_X5_within l D cI kA kV p2 0 2) (va_cwS 3 X.2.2.2.2.1 gX5_hits_X5_within rfl rfl rfl (by decide +kernel) ⟨Nat.le_of_ble_eq_true rfl, Nat.le_of_ble_eq_true rfl⟩) [] [0, 1, 2, 3, 4, 5] rfl rfl rfl rfl (by decide) rfl (Nat.le_of_ble_eq_true rfl) ⟨Nat.le_of_ble_eq_true rfl, Nat.le_of_ble_eq_true rfl⟩ dX5_hits_17 rfl (fun r17 u17 hw17 => ?_)
    refine g_eqs (ws' := [(a_kind, .inl (cI, 6, .inl c_kind)), (a_near, .inl (cI, 6, .inl c_near)), (a_far, .inl (cI, 6, .inl c_far)), (a_free, .inl (cI, 6, .inl c_free)), (a_refusals, .inl (cI, 7, .inl c_refusals)), (a_, .inr (5, [.int c_seconds, .int c_lead, .int c_ball, .ref a_fouls, .ref a_calls, .int c_rebound, .int c_law, .int c_draw, .int c_players, .ref a_side, .ref a_kind, .ref a_near, .ref a_far, .ref a_free, .int c_letters, .ref a_letter, .int c_at, .ref a_value, .int c_inRow, .ref a_row, .ref a_refusals, .int c_imaged, .ref a_image, .ref a_ahead, .ref a_guard, .ref a_worth]))]) rfl ?_
    have heq := g_let heq hw17
    refine g_if_ne X 30 dX5_hits_20 (by decide) (fun c20 => ?_) (fun c20 => ?_)
    · have heq := heq.trans (if_neg c20)
      refine g_iload_n X 3 rfl rfl dX5_hits_30 ?_
      refine g_if_ge X 41 dX5_hits_31 (by decide) (fun c31 => ?_) (fun c31 => ?_)
      · have heq := heq.trans (if_pos c31)
        refine g_iload_n X 3 rfl rfl dX5_hits_41 ?_
        refine g_bipush (v := 24) X (by decide) dX5_hits_42 ?_
        refine g_icmp_le X 56 dX5_hits_44 (by decide) (fun c44 => ?_) (fun c44 => ?_)
        · have heq := heq.trans (if_pos c44)
          refine g_aload_n X 0 rfl rfl dX5_hits_56 ?_
          refine g_iload_n X 1 rfl rfl dX5_hits_57 ?_
          refine g_iload_n X 2 rfl rfl dX5_hits_58 ?_
          refine g_iload_n X 3 rfl rfl dX5_hits_59 ?_
          refine g_callVi (C := RX5) (T := TX5) (N := 26) (ci := 5) (As := [.int p1, .int p2, .int p3]) (st := []) (wr := [(a_refusals, .inl (cI, 7, .inl c_refusals))]) X (k_X5_tenths l D cI kA kV a_ a_fouls a_calls a_side a_kind a_near a_far a_free a_letter a_value a_row a_refusals a_image a_ahead a_guard a_worth c_seconds c_lead c_ball c_rebound c_law c_draw c_players c_letters c_at c_inRow c_imaged c_kind c_near c_far c_free p1 p2 p3 (fd_one hp hw2 c5)) (cwV 3 X.2.2.2.2.1 gX5_hits_X5_tenths rfl rfl rfl (by decide +kernel) ⟨Nat.le_of_ble_eq_true rfl, Nat.le_of_ble_eq_true rfl⟩) 5 rfl rfl [5, 0, 1, 2, 3] [4] rfl rfl rfl rfl (by decide) rfl (Nat.le_of_ble_eq_true rfl) ⟨Nat.le_of_ble_eq_true rfl, Nat.le_of_ble_eq_true rfl⟩ dX5_hits_60 rfl (fun r60 u60 hw60 => ?_)
          refine g_eqs (ws' := [(a_refusals, .inl (cI, 7, .inl c_refusals)), (a_, .inr (5, [.int c_seconds, .int c_lead, .int c_ball, .ref a_fouls, .ref a_calls, .int c_rebound, .int c_law, .int c_draw, .int c_players, .ref a_side, .ref a_kind, .ref a_near, .ref a_far, .ref a_free, .int c_letters, .ref a_letter, .int c_at, .ref a_value, .int c_inRow, .ref a_row, .ref a_refusals, .int c_imaged, .ref a_image, .ref a_ahead, .ref a_guard, .ref a_worth])), (a_kind, .inl (cI, 6, .inl c_kind)), (a_near, .inl (cI, 6, .inl c_near)), (a_far, .inl (cI, 6, .inl c_far)), (a_free, .inl (cI, 6, .inl c_free))]) rfl ?_
          have heq := g_let heq hw60
          exact g_iret X hAA hQQ c_refusals (heq.symm.trans hXX) [1, 2, 3, 4, 5, 0] rfl rfl hr dX5_hits_63
        · have heq := heq.trans (if_neg c44)
          refine g_aload_n X 0 rfl rfl dX5_hits_47 ?_
          refine g_bipush (v := (-6)) X (by decide) dX5_hits_48 ?_
          refine g_callVi (C := RX5) (T := TX5) (N := 26) (ci := 5) (As := [.int (-6)]) (st := []) (wr := [(a_kind, .inl (cI, 6, .inl c_kind)), (a_near, .inl (cI, 6, .inl c_near)), (a_far, .inl (cI, 6, .inl c_far)), (a_free, .inl (cI, 6, .inl c_free))]) X (k_X5_no l D cI kA kV a_ a_fouls a_calls a_side a_kind a_near a_far a_free a_letter a_value a_row a_refusals a_image a_ahead a_guard a_worth c_seconds c_lead c_ball c_rebound c_law c_draw c_players c_letters c_at c_inRow c_imaged c_refusals (-6) (by decide) (by decide)) (cwV 1 X.2.2.2.2.1 gX5_hits_X5_no rfl rfl rfl (by decide +kernel) ⟨Nat.le_of_ble_eq_true rfl, Nat.le_of_ble_eq_true rfl⟩) 5 rfl rfl [5, 4] [0, 1, 2, 3] rfl rfl rfl rfl (by decide) rfl (Nat.le_of_ble_eq_true rfl) ⟨Nat.le_of_ble_eq_true rfl, Nat.le_of_ble_eq_true rfl⟩ dX5_hits_50 rfl (fun r50 u50 hw50 => ?_)
          refine g_eqs (ws' := [(a_kind, .inl (cI, 6, .inl c_kind)), (a_near, .inl (cI, 6, .inl c_near)), (a_far, .inl (cI, 6, .inl c_far)), (a_free, .inl (cI, 6, .inl c_free)), (a_, .inr (5, [.int c_seconds, .int c_lead, .int c_ball, .ref a_fouls, .ref a_calls, .int c_rebound, .int c_law, .int c_draw, .int c_players, .ref a_side, .ref a_kind, .ref a_near, .ref a_far, .ref a_free, .int c_letters, .ref a_letter, .int c_at, .ref a_value, .int c_inRow, .ref a_row, .ref a_refusals, .int c_imaged, .ref a_image, .ref a_ahead, .ref a_guard, .ref a_worth])), (a_refusals, .inl (cI, 7, .inl u50))]) rfl ?_
          have heq := g_let2 heq hw50
          refine g_goto (tgt := 63) X (by decide) dX5_hits_53 ?_
          exact g_iret X hAA hQQ u50 (heq.symm.trans hXX) [4, 0, 1, 2, 3, 5] rfl rfl hr dX5_hits_63
      · have heq := heq.trans (if_neg c31)
        refine g_aload_n X 0 rfl rfl dX5_hits_34 ?_
        refine g_bipush (v := (-4)) X (by decide) dX5_hits_35 ?_
        refine g_callVi (C := RX5) (T := TX5) (N := 26) (ci := 5) (As := [.int (-4)]) (st := []) (wr := [(a_kind, .inl (cI, 6, .inl c_kind)), (a_near, .inl (cI, 6, .inl c_near)), (a_far, .inl (cI, 6, .inl c_far)), (a_free, .inl (cI, 6, .inl c_free))]) X (k_X5_no l D cI kA kV a_ a_fouls a_calls a_side a_kind a_near a_far a_free a_letter a_value a_row a_refusals a_image a_ahead a_guard a_worth c_seconds c_lead c_ball c_rebound c_law c_draw c_players c_letters c_at c_inRow c_imaged c_refusals (-4) (by decide) (by decide)) (cwV 1 X.2.2.2.2.1 gX5_hits_X5_no rfl rfl rfl (by decide +kernel) ⟨Nat.le_of_ble_eq_true rfl, Nat.le_of_ble_eq_true rfl⟩) 5 rfl rfl [5, 4] [0, 1, 2, 3] rfl rfl rfl rfl (by decide) rfl (Nat.le_of_ble_eq_true rfl) ⟨Nat.le_of_ble_eq_true rfl, Nat.le_of_ble_eq_true rfl⟩ dX5_hits_37 rfl (fun r37 u37 hw37 => ?_)
        refine g_eqs (ws' := [(a_kind, .inl (cI, 6, .inl c_kind)), (a_near, .inl (cI, 6, .inl c_near)), (a_far, .inl (cI, 6, .inl c_far)), (a_free, .inl (cI, 6, .inl c_free)), (a_, .inr (5, [.int c_seconds, .int c_lead, .int c_ball, .ref a_fouls, .ref a_calls, .int c_rebound, .int c_law, .int c_draw, .int c_players, .ref a_side, .ref a_kind, .ref a_near, .ref a_far, .ref a_free, .int c_letters, .ref a_letter, .int c_at, .ref a_value, .int c_inRow, .ref a_row, .ref a_refusals, .int c_imaged, .ref a_image, .ref a_ahead, .ref a_guard, .ref a_worth])), (a_refusals, .inl (cI, 7, .inl u37))]) rfl ?_
        have heq := g_let2 heq hw37
        exact g_iret X hAA hQQ u37 (heq.symm.trans hXX) [4, 0, 1, 2, 3, 5] rfl rfl hr dX5_hits_40
    · have heq := heq.trans (if_pos c20)
      refine g_aload_n X 0 rfl rfl dX5_hits_23 ?_
      refine g_bipush (v := (-2)) X (by decide) dX5_hits_24 ?_
      refine g_callVi (C := RX5) (T := TX5) (N := 26) (ci := 5) (As := [.int (-2)]) (st := []) (wr := [(a_kind, .inl (cI, 6, .inl c_kind)), (a_near, .inl (cI, 6, .inl c_near)), (a_far, .inl (cI, 6, .inl c_far)), (a_free, .inl (cI, 6, .inl c_free))]) X (k_X5_no l D cI kA kV a_ a_fouls a_calls a_side a_kind a_near a_far a_free a_letter a_value a_row a_refusals a_image a_ahead a_guard a_worth c_seconds c_lead c_ball c_rebound c_law c_draw c_players c_letters c_at c_inRow c_imaged c_refusals (-2) (by decide) (by decide)) (cwV 1 X.2.2.2.2.1 gX5_hits_X5_no rfl rfl rfl (by decide +kernel) ⟨Nat.le_of_ble_eq_true rfl, Nat.le_of_ble_eq_true rfl⟩) 5 rfl rfl [5, 4] [0, 1, 2, 3] rfl rfl rfl rfl (by decide) rfl (Nat.le_of_ble_eq_true rfl) ⟨Nat.le_of_ble_eq_true rfl, Nat.le_of_ble_eq_true rfl⟩ dX5_hits_26 rfl (fun r26 u26 hw26 => ?_)
      refine g_eqs (ws' := [(a_kind, .inl (cI, 6, .inl c_kind)), (a_near, .inl (cI, 6, .inl c_near)), (a_far, .inl (cI, 6, .inl c_far)), (a_free, .inl (cI, 6, .inl c_free)), (a_, .inr (5, [.int c_seconds, .int c_lead, .int c_ball, .ref a_fouls, .ref a_calls, .int c_rebound, .int c_law, .int c_draw, .int c_players, .ref a_side, .ref a_kind, .ref a_near, .ref a_far, .ref a_free, .int c_letters, .ref a_letter, .int c_at, .ref a_value, .int c_inRow, .ref a_row, .ref a_refusals, .int c_imaged, .ref a_image, .ref a_ahead, .ref a_guard, .ref a_worth])), (a_refusals, .inl (cI, 7, .inl u26))]) rfl ?_
      have heq := g_let2 heq hw26
      exact g_iret X hAA hQQ u26 (heq.symm.trans hXX) [4, 0, 1, 2, 3, 5] rfl rfl hr dX5_hits_29
  · have heq := heq.trans (if_pos c5)
    refine g_aload_n X 0 rfl rfl dX5_hits_8 ?_
    refine g_iconst (v := (-1)) X (by decide) dX5_hits_9 ?_
    refine g_callVi (C := RX5) (T := TX5) (N := 26) (ci := 5) (As := [.int (-1)]) (st := []) (wr := [(a_kind, .inl (cI, 6, .inl c_kind)), (a_near, .inl (cI, 6, .inl c_near)), (a_far, .inl (cI, 6, .inl c_far)), (a_free, .inl (cI, 6, .inl c_free))]) X (k_X5_no l D cI kA kV a_ a_fouls a_calls a_side a_kind a_near a_far a_free a_letter a_value a_row a_refusals a_image a_ahead a_guard a_worth c_seconds c_lead c_ball c_rebound c_law c_draw c_players c_letters c_at c_inRow c_imaged c_refusals (-1) (by decide) (by decide)) (cwV 1 X.2.2.2.2.1 gX5_hits_X5_no rfl rfl rfl (by decide +kernel) ⟨Nat.le_of_ble_eq_true rfl, Nat.le_of_ble_eq_true rfl⟩) 5 rfl rfl [5, 4] [0, 1, 2, 3] rfl rfl rfl rfl (by decide) rfl (Nat.le_of_ble_eq_true rfl) ⟨Nat.le_of_ble_eq_true rfl, Nat.le_of_ble_eq_true rfl⟩ dX5_hits_10 rfl (fun r10 u10 hw10 => ?_)
    refine g_eqs (ws' := [(a_kind, .inl (cI, 6, .inl c_kind)), (a_near, .inl (cI, 6, .inl c_near)), (a_far, .inl (cI, 6, .inl c_far)), (a_free, .inl (cI, 6, .inl c_free)), (a_, .inr (5, [.int c_seconds, .int c_lead, .int c_ball, .ref a_fouls, .ref a_calls, .int c_rebound, .int c_law, .int c_draw, .int c_players, .ref a_side, .ref a_kind, .ref a_near, .ref a_far, .ref a_free, .int c_letters, .ref a_letter, .int c_at, .ref a_value, .int c_inRow, .ref a_row, .ref a_refusals, .int c_imaged, .ref a_image, .ref a_ahead, .ref a_guard, .ref a_worth])), (a_refusals, .inl (cI, 7, .inl u10))]) rfl ?_
    have heq := g_let2 heq hw10
    exact g_iret X hAA hQQ u10 (heq.symm.trans hXX) [4, 0, 1, 2, 3, 5] rfl rfl hr dX5_hits_13

theorem hi_X5_set_X5 : ∀ w ∈ wsX50, w ∈ wsX5_set := fun w h => List.mem_cons_of_mem _ (List.mem_append_right _ (h))
def f_X5_set (c_seconds : Int32) (c_lead : Int32) (c_ball : Int32) (c_rebound : Int32) (c_law : Int32) (c_draw : Int32) (c_fouls : Nat → Int32) (c_calls : Nat → Int32) (c_refusals : Nat → Int32) (p1 : Int32) (p2 : Int32) : Int32 × (Int32) × (Int32) × (Int32) × (Int32) × (Int32) × (Int32) × (Nat → Int32) × (Nat → Int32) × (Nat → Int32) :=
  g_lt (f_X5_within p1 (0 : Int32) (9 : Int32)) (fun r4 => (if r4 = 0 then g_lt2 (f_X5_no c_refusals ((-2) : Int32)) (fun r13 u13 => (r13, c_seconds, c_lead, c_ball, c_rebound, c_law, c_draw, c_fouls, c_calls, u13)) else (if 0 ≤ p2 then (if p1 = 0 then (if p2 ≤ 24 then (c_seconds, p2, c_lead, c_ball, c_rebound, c_law, c_draw, c_fouls, c_calls, c_refusals) else g_lt2 (f_X5_no c_refusals ((-6) : Int32)) (fun r96 u96 => (r96, c_seconds, c_lead, c_ball, c_rebound, c_law, c_draw, c_fouls, c_calls, u96))) else (if p1 = 1 then (if p2 ≤ 12 then (c_lead, c_seconds, p2, c_ball, c_rebound, c_law, c_draw, c_fouls, c_calls, c_refusals) else g_lt2 (f_X5_no c_refusals ((-6) : Int32)) (fun r96 u96 => (r96, c_seconds, c_lead, c_ball, c_rebound, c_law, c_draw, c_fouls, c_calls, u96))) else (if p1 = 2 then (if p2 ≤ 1 then (c_ball, c_seconds, c_lead, p2, c_rebound, c_law, c_draw, c_fouls, c_calls, c_refusals) else g_lt2 (f_X5_no c_refusals ((-6) : Int32)) (fun r96 u96 => (r96, c_seconds, c_lead, c_ball, c_rebound, c_law, c_draw, c_fouls, c_calls, u96))) else (if 5 ≤ p1 then (if 7 ≤ p1 then (if p1 = 8 then (if p2 ≤ 3 then (c_law, c_seconds, c_lead, c_ball, c_rebound, p2, c_draw, c_fouls, c_calls, c_refusals) else g_lt2 (f_X5_no c_refusals ((-6) : Int32)) (fun r96 u96 => (r96, c_seconds, c_lead, c_ball, c_rebound, c_law, c_draw, c_fouls, c_calls, u96))) else (if p2 ≤ 9 then (if p1 = 3 then (c_fouls (p1 - 3).toNatClampNeg, c_seconds, c_lead, c_ball, c_rebound, c_law, c_draw, upd c_fouls (p1 - 3).toNatClampNeg p2, c_calls, c_refusals) else (if p1 = 4 then (c_fouls (p1 - 3).toNatClampNeg, c_seconds, c_lead, c_ball, c_rebound, c_law, c_draw, upd c_fouls (p1 - 3).toNatClampNeg p2, c_calls, c_refusals) else (if p1 = 5 then (c_calls (p1 - 5).toNatClampNeg, c_seconds, c_lead, c_ball, c_rebound, c_law, c_draw, c_fouls, upd c_calls (p1 - 5).toNatClampNeg p2, c_refusals) else (if p1 = 6 then (c_calls (p1 - 5).toNatClampNeg, c_seconds, c_lead, c_ball, c_rebound, c_law, c_draw, c_fouls, upd c_calls (p1 - 5).toNatClampNeg p2, c_refusals) else (if p1 = 7 then (c_rebound, c_seconds, c_lead, c_ball, p2, c_law, c_draw, c_fouls, c_calls, c_refusals) else (c_draw, c_seconds, c_lead, c_ball, c_rebound, c_law, p2, c_fouls, c_calls, c_refusals)))))) else g_lt2 (f_X5_no c_refusals ((-6) : Int32)) (fun r96 u96 => (r96, c_seconds, c_lead, c_ball, c_rebound, c_law, c_draw, c_fouls, c_calls, u96)))) else (if p2 ≤ 2 then (if p1 = 3 then (c_fouls (p1 - 3).toNatClampNeg, c_seconds, c_lead, c_ball, c_rebound, c_law, c_draw, upd c_fouls (p1 - 3).toNatClampNeg p2, c_calls, c_refusals) else (if p1 = 4 then (c_fouls (p1 - 3).toNatClampNeg, c_seconds, c_lead, c_ball, c_rebound, c_law, c_draw, upd c_fouls (p1 - 3).toNatClampNeg p2, c_calls, c_refusals) else (if p1 = 5 then (c_calls (p1 - 5).toNatClampNeg, c_seconds, c_lead, c_ball, c_rebound, c_law, c_draw, c_fouls, upd c_calls (p1 - 5).toNatClampNeg p2, c_refusals) else (if p1 = 6 then (c_calls (p1 - 5).toNatClampNeg, c_seconds, c_lead, c_ball, c_rebound, c_law, c_draw, c_fouls, upd c_calls (p1 - 5).toNatClampNeg p2, c_refusals) else (if p1 = 7 then (c_rebound, c_seconds, c_lead, c_ball, p2, c_law, c_draw, c_fouls, c_calls, c_refusals) else (if p1 = 8 then (c_law, c_seconds, c_lead, c_ball, c_rebound, p2, c_draw, c_fouls, c_calls, c_refusals) else (c_draw, c_seconds, c_lead, c_ball, c_rebound, c_law, p2, c_fouls, c_calls, c_refusals))))))) else g_lt2 (f_X5_no c_refusals ((-6) : Int32)) (fun r96 u96 => (r96, c_seconds, c_lead, c_ball, c_rebound, c_law, c_draw, c_fouls, c_calls, u96)))) else (if p2 ≤ 5 then (if p1 = 3 then (c_fouls (p1 - 3).toNatClampNeg, c_seconds, c_lead, c_ball, c_rebound, c_law, c_draw, upd c_fouls (p1 - 3).toNatClampNeg p2, c_calls, c_refusals) else (if p1 = 4 then (c_fouls (p1 - 3).toNatClampNeg, c_seconds, c_lead, c_ball, c_rebound, c_law, c_draw, upd c_fouls (p1 - 3).toNatClampNeg p2, c_calls, c_refusals) else (if p1 = 5 then (c_calls (p1 - 5).toNatClampNeg, c_seconds, c_lead, c_ball, c_rebound, c_law, c_draw, c_fouls, upd c_calls (p1 - 5).toNatClampNeg p2, c_refusals) else (if p1 = 6 then (c_calls (p1 - 5).toNatClampNeg, c_seconds, c_lead, c_ball, c_rebound, c_law, c_draw, c_fouls, upd c_calls (p1 - 5).toNatClampNeg p2, c_refusals) else (if p1 = 7 then (c_rebound, c_seconds, c_lead, c_ball, p2, c_law, c_draw, c_fouls, c_calls, c_refusals) else (if p1 = 8 then (c_law, c_seconds, c_lead, c_ball, c_rebound, p2, c_draw, c_fouls, c_calls, c_refusals) else (c_draw, c_seconds, c_lead, c_ball, c_rebound, c_law, p2, c_fouls, c_calls, c_refusals))))))) else g_lt2 (f_X5_no c_refusals ((-6) : Int32)) (fun r96 u96 => (r96, c_seconds, c_lead, c_ball, c_rebound, c_law, c_draw, c_fouls, c_calls, u96))))))) else g_lt2 (f_X5_no c_refusals ((-4) : Int32)) (fun r24 u24 => (r24, c_seconds, c_lead, c_ball, c_rebound, c_law, c_draw, c_fouls, c_calls, u24)))))
set_option maxHeartbeats 4000000 in
set_option maxRecDepth 100000 in
theorem k_X5_set (l : Launch) (D : va_G) (cI : ClassId) (kA kV : Nat → Nat) (a_ a_fouls a_calls a_side a_kind a_near a_far a_free a_letter a_value a_row a_refusals a_image a_ahead a_guard a_worth : Nat) (c_seconds : Int32) (c_lead : Int32) (c_ball : Int32) (c_rebound : Int32) (c_law : Int32) (c_draw : Int32) (c_players : Int32) (c_letters : Int32) (c_at : Int32) (c_inRow : Int32) (c_imaged : Int32) (c_fouls : Nat → Int32) (c_calls : Nat → Int32) (c_refusals : Nat → Int32) (p1 : Int32) (p2 : Int32) :
    g_MI l D cI kA kV yX5_set wsX5_set { frames := 1, cells := 0, slots := 0, locals := 22 } [.ref a_, .int p1, .int p2] [(a_, .inr (5, [.int c_seconds, .int c_lead, .int c_ball, .ref a_fouls, .ref a_calls, .int c_rebound, .int c_law, .int c_draw, .int c_players, .ref a_side, .ref a_kind, .ref a_near, .ref a_far, .ref a_free, .int c_letters, .ref a_letter, .int c_at, .ref a_value, .int c_inRow, .ref a_row, .ref a_refusals, .int c_imaged, .ref a_image, .ref a_ahead, .ref a_guard, .ref a_worth])), (a_fouls, .inl (cI, 2, .inl c_fouls)), (a_calls, .inl (cI, 2, .inl c_calls)), (a_refusals, .inl (cI, 7, .inl c_refusals))] (fun u : (Int32) × (Int32) × (Int32) × (Int32) × (Int32) × (Int32) × (Nat → Int32) × (Nat → Int32) × (Nat → Int32) => [(a_, .inr (5, [.int u.1, .int u.2.1, .int u.2.2.1, .ref a_fouls, .ref a_calls, .int u.2.2.2.1, .int u.2.2.2.2.1, .int u.2.2.2.2.2.1, .int c_players, .ref a_side, .ref a_kind, .ref a_near, .ref a_far, .ref a_free, .int c_letters, .ref a_letter, .int c_at, .ref a_value, .int c_inRow, .ref a_row, .ref a_refusals, .int c_imaged, .ref a_image, .ref a_ahead, .ref a_guard, .ref a_worth])), (a_fouls, .inl (cI, 2, .inl u.2.2.2.2.2.2.1)), (a_calls, .inl (cI, 2, .inl u.2.2.2.2.2.2.2.1)), (a_refusals, .inl (cI, 7, .inl u.2.2.2.2.2.2.2.2))]) (fun (r : Int32) (u : (Int32) × (Int32) × (Int32) × (Int32) × (Int32) × (Int32) × (Nat → Int32) × (Nat → Int32) × (Nat → Int32)) => (r, u) = f_X5_set c_seconds c_lead c_ball c_rebound c_law c_draw c_fouls c_calls c_refusals p1 p2) := by
  obtain ⟨XX, hXX⟩ : ∃ z, z = f_X5_set c_seconds c_lead c_ball c_rebound c_law c_draw c_fouls c_calls c_refusals p1 p2 := ⟨_, rfl⟩
  have heq := hXX.trans (f_X5_set.eq_def c_seconds c_lead c_ball c_rebound c_law c_draw c_fouls c_calls c_refusals p1 p2)
  refine g_startI (lv := [(0, .ref a_), (1, .int p1), (2, .int p2)]) RX5 rfl rfl rfl (Nat.le_of_ble_eq_true rfl) rfl (fun p e s m args below meth c AA QQ hAA hQQ X hr hmn => ?_)
  refine g_iload_n X 1 rfl rfl dX5_set_0 ?_
  refine g_iconst (v := 0) X (by decide) dX5_set_1 ?_
  refine g_bipush (v := 9) X (by decide) dX5_set_2 ?_
  refine g_callSi (As := [.int p1, .int 0, .int 9]) (st := []) (wr := [(a_, .inr (5, [.int c_seconds, .int c_lead, .int c_ball, .ref a_fouls, .ref a_calls, .int c_rebound, .int c_law, .int c_draw, .int c_players, .ref a_side, .ref a_kind, .ref a_near, .ref a_far, .ref a_free, .int c_letters, .ref a_letter, .int c_at, .ref a_value, .int c_inRow, .ref a_row, .ref a_refusals, .int c_imaged, .ref a_image, .ref a_ahead, .ref a_guard, .ref a_worth])), (a_fouls, .inl (cI, 2, .inl c_fouls)), (a_calls, .inl (cI, 2, .inl c_calls)), (a_refusals, .inl (cI, 7, .inl c_refusals))]) X (k_X5_within l D cI kA kV p1 0 9) (va_cwS 3 X.2.2.2.2.1 gX5_set_X5_within rfl rfl rfl (by decide +kernel) ⟨Nat.le_of_ble_eq_true rfl, Nat.le_of_ble_eq_true rfl⟩) [] [0, 1, 2, 3] rfl rfl rfl rfl (by decide) rfl (Nat.le_of_ble_eq_true rfl) ⟨Nat.le_of_ble_eq_true rfl, Nat.le_of_ble_eq_true rfl⟩ dX5_set_4 rfl (fun r4 u4 hw4 => ?_)
  refine g_eqs (ws' := [(a_, .inr (5, [.int c_seconds, .int c_lead, .int c_ball, .ref a_fouls, .ref a_calls, .int c_rebound, .int c_law, .int c_draw, .int c_players, .ref a_side, .ref a_kind, .ref a_near, .ref a_far, .ref a_free, .int c_letters, .ref a_letter, .int c_at, .ref a_value, .int c_inRow, .ref a_row, .ref a_refusals, .int c_imaged, .ref a_image, .ref a_ahead, .ref a_guard, .ref a_worth])), (a_fouls, .inl (cI, 2, .inl c_fouls)), (a_calls, .inl (cI, 2, .inl c_calls)), (a_refusals, .inl (cI, 7, .inl c_refusals))]) rfl ?_
  have heq := g_let heq hw4
  refine g_if_ne X 17 dX5_set_7 (by decide) (fun c7 => ?_) (fun c7 => ?_)
  · have heq := heq.trans (if_neg c7)
    refine g_iload_n X 2 rfl rfl dX5_set_17 ?_
    refine g_if_ge X 28 dX5_set_18 (by decide) (fun c18 => ?_) (fun c18 => ?_)
    · have heq := heq.trans (if_pos c18)
      refine g_iload_n X 1 rfl rfl dX5_set_28 ?_
      refine g_if_ne X 37 dX5_set_29 (by decide) (fun c29 => ?_) (fun c29 => ?_)
      · have heq := heq.trans (if_neg c29)
        refine g_iload_n X 1 rfl rfl dX5_set_37 ?_
        refine g_iconst (v := 1) X (by decide) dX5_set_38 ?_
        refine g_icmp_ne X 47 dX5_set_39 (by decide) (fun c39 => ?_) (fun c39 => ?_)
        · have heq := heq.trans (if_neg c39)
          refine g_iload_n X 1 rfl rfl dX5_set_47 ?_
          refine g_iconst (v := 2) X (by decide) dX5_set_48 ?_
          refine g_icmp_ne X 56 dX5_set_49 (by decide) (fun c49 => ?_) (fun c49 => ?_)
          · have heq := heq.trans (if_neg c49)
            refine g_iload_n X 1 rfl rfl dX5_set_56 ?_
            refine g_iconst (v := 5) X (by decide) dX5_set_57 ?_
            refine g_icmp_ge X 65 dX5_set_58 (by decide) (fun c58 => ?_) (fun c58 => ?_)
            · have heq := heq.trans (if_pos c58)
              refine g_iload_n X 1 rfl rfl dX5_set_65 ?_
              refine g_bipush (v := 7) X (by decide) dX5_set_66 ?_
              refine g_icmp_ge X 75 dX5_set_68 (by decide) (fun c68 => ?_) (fun c68 => ?_)
              · have heq := heq.trans (if_pos c68)
                refine g_iload_n X 1 rfl rfl dX5_set_75 ?_
                refine g_bipush (v := 8) X (by decide) dX5_set_76 ?_
                refine g_icmp_ne X 85 dX5_set_78 (by decide) (fun c78 => ?_) (fun c78 => ?_)
                · have heq := heq.trans (if_neg c78)
                  refine g_bipush (v := 9) X (by decide) dX5_set_85 ?_
                  refine g_istore_n (lv' := [(3, .int 9), (0, .ref a_), (1, .int p1), (2, .int p2)]) X rfl (by decide) rfl dX5_set_87 ?_
                  refine g_iload_n X 3 rfl rfl dX5_set_88 ?_
                  refine g_iload_n X 0 rfl rfl dX5_set_89 ?_
                  refine g_icmp_le X 100 dX5_set_90 (by decide) (fun c90 => ?_) (fun c90 => ?_)
                  · have heq := heq.trans (if_pos c90)
                    refine g_iload_n X 2 rfl rfl dX5_set_100 ?_
                    by_cases s101_3 : p1 = 3
                    · refine g_tsHit (k := 3) X 194 dX5_set_101 s101_3 (by decide) (by decide) rfl (by decide) ?_
                      have heq := heq.trans (if_pos s101_3)
                      refine g_aload_n X 1 rfl rfl dX5_set_194 ?_
                      refine g_get (C := RX5) (T := TX5) (N := 26) (ci := 5) X hi_X5_set_X5 0 rfl rfl 3 (by decide) (X.2.2.2.2.1 (.fieldLink RX5 7 "NineteenSecondsLeftModel" "fouls" "[I") (List.mem_of_getElem? (i := 4) rfl)) rfl rfl dX5_set_195 ?_
                      refine g_iload_n X 2 rfl rfl dX5_set_198 ?_
                      refine g_iconst (v := 3) X (by decide) dX5_set_199 ?_
                      refine g_isub X dX5_set_200 ?_
                      refine g_iald X 1 rfl (by rw [s101_3]; exact g_vinL (by decide)) dX5_set_201 ?_
                      refine g_istore (lv' := [(4, .int (c_fouls (p1 - 3).toNatClampNeg)), (3, .int 9), (0, .ref a_), (1, .int p1), (2, .int p2)]) X (by decide) rfl dX5_set_202 ?_
                      refine g_aload_n X 2 rfl rfl dX5_set_204 ?_
                      refine g_get (C := RX5) (T := TX5) (N := 26) (ci := 5) X hi_X5_set_X5 0 rfl rfl 3 (by decide) (X.2.2.2.2.1 (.fieldLink RX5 7 "NineteenSecondsLeftModel" "fouls" "[I") (List.mem_of_getElem? (i := 4) rfl)) rfl rfl dX5_set_205 ?_
                      refine g_iload_n X 3 rfl rfl dX5_set_208 ?_
                      refine g_iconst (v := 3) X (by decide) dX5_set_209 ?_
                      refine g_isub X dX5_set_210 ?_
                      refine g_iload_n X 4 rfl rfl dX5_set_211 ?_
                      refine g_iast (ws' := [(a_, .inr (5, [.int c_seconds, .int c_lead, .int c_ball, .ref a_fouls, .ref a_calls, .int c_rebound, .int c_law, .int c_draw, .int c_players, .ref a_side, .ref a_kind, .ref a_near, .ref a_far, .ref a_free, .int c_letters, .ref a_letter, .int c_at, .ref a_value, .int c_inRow, .ref a_row, .ref a_refusals, .int c_imaged, .ref a_image, .ref a_ahead, .ref a_guard, .ref a_worth])), (a_fouls, .inl (cI, 2, .inl (upd c_fouls (p1 - 3).toNatClampNeg p2))), (a_calls, .inl (cI, 2, .inl c_calls)), (a_refusals, .inl (cI, 7, .inl c_refusals))]) X 1 rfl (by rw [s101_3]; exact g_vinL (by decide)) dX5_set_212 rfl ?_
                      refine g_iload X 0 rfl dX5_set_213 ?_
                      exact g_iret X hAA hQQ (c_seconds, c_lead, c_ball, c_rebound, c_law, c_draw, upd c_fouls (p1 - 3).toNatClampNeg p2, c_calls, c_refusals) (heq.symm.trans hXX) [0, 1, 2, 3] rfl rfl hr dX5_set_215
                    have heq := heq.trans (if_neg s101_3)
                    by_cases s101_4 : p1 = 4
                    · refine g_tsHit (k := 4) X 194 dX5_set_101 s101_4 (by decide) (by decide) rfl (by decide) ?_
                      have heq := heq.trans (if_pos s101_4)
                      refine g_aload_n X 1 rfl rfl dX5_set_194 ?_
                      refine g_get (C := RX5) (T := TX5) (N := 26) (ci := 5) X hi_X5_set_X5 0 rfl rfl 3 (by decide) (X.2.2.2.2.1 (.fieldLink RX5 7 "NineteenSecondsLeftModel" "fouls" "[I") (List.mem_of_getElem? (i := 4) rfl)) rfl rfl dX5_set_195 ?_
                      refine g_iload_n X 2 rfl rfl dX5_set_198 ?_
                      refine g_iconst (v := 3) X (by decide) dX5_set_199 ?_
                      refine g_isub X dX5_set_200 ?_
                      refine g_iald X 1 rfl (by rw [s101_4]; exact g_vinL (by decide)) dX5_set_201 ?_
                      refine g_istore (lv' := [(4, .int (c_fouls (p1 - 3).toNatClampNeg)), (3, .int 9), (0, .ref a_), (1, .int p1), (2, .int p2)]) X (by decide) rfl dX5_set_202 ?_
                      refine g_aload_n X 2 rfl rfl dX5_set_204 ?_
                      refine g_get (C := RX5) (T := TX5) (N := 26) (ci := 5) X hi_X5_set_X5 0 rfl rfl 3 (by decide) (X.2.2.2.2.1 (.fieldLink RX5 7 "NineteenSecondsLeftModel" "fouls" "[I") (List.mem_of_getElem? (i := 4) rfl)) rfl rfl dX5_set_205 ?_
                      refine g_iload_n X 3 rfl rfl dX5_set_208 ?_
                      refine g_iconst (v := 3) X (by decide) dX5_set_209 ?_
                      refine g_isub X dX5_set_210 ?_
                      refine g_iload_n X 4 rfl rfl dX5_set_211 ?_
                      refine g_iast (ws' := [(a_, .inr (5, [.int c_seconds, .int c_lead, .int c_ball, .ref a_fouls, .ref a_calls, .int c_rebound, .int c_law, .int c_draw, .int c_players, .ref a_side, .ref a_kind, .ref a_near, .ref a_far, .ref a_free, .int c_letters, .ref a_letter, .int c_at, .ref a_value, .int c_inRow, .ref a_row, .ref a_refusals, .int c_imaged, .ref a_image, .ref a_ahead, .ref a_guard, .ref a_worth])), (a_fouls, .inl (cI, 2, .inl (upd c_fouls (p1 - 3).toNatClampNeg p2))), (a_calls, .inl (cI, 2, .inl c_calls)), (a_refusals, .inl (cI, 7, .inl c_refusals))]) X 1 rfl (by rw [s101_4]; exact g_vinL (by decide)) dX5_set_212 rfl ?_
                      refine g_iload X 0 rfl dX5_set_213 ?_
                      exact g_iret X hAA hQQ (c_seconds, c_lead, c_ball, c_rebound, c_law, c_draw, upd c_fouls (p1 - 3).toNatClampNeg p2, c_calls, c_refusals) (heq.symm.trans hXX) [0, 1, 2, 3] rfl rfl hr dX5_set_215
                    have heq := heq.trans (if_neg s101_4)
                    by_cases s101_5 : p1 = 5
                    · refine g_tsHit (k := 5) X 216 dX5_set_101 s101_5 (by decide) (by decide) rfl (by decide) ?_
                      have heq := heq.trans (if_pos s101_5)
                      refine g_aload_n X 1 rfl rfl dX5_set_216 ?_
                      refine g_get (C := RX5) (T := TX5) (N := 26) (ci := 5) X hi_X5_set_X5 0 rfl rfl 4 (by decide) (X.2.2.2.2.1 (.fieldLink RX5 13 "NineteenSecondsLeftModel" "calls" "[I") (List.mem_of_getElem? (i := 5) rfl)) rfl rfl dX5_set_217 ?_
                      refine g_iload_n X 2 rfl rfl dX5_set_220 ?_
                      refine g_iconst (v := 5) X (by decide) dX5_set_221 ?_
                      refine g_isub X dX5_set_222 ?_
                      refine g_iald X 2 rfl (by rw [s101_5]; exact g_vinL (by decide)) dX5_set_223 ?_
                      refine g_istore (lv' := [(4, .int (c_calls (p1 - 5).toNatClampNeg)), (3, .int 9), (0, .ref a_), (1, .int p1), (2, .int p2)]) X (by decide) rfl dX5_set_224 ?_
                      refine g_aload_n X 2 rfl rfl dX5_set_226 ?_
                      refine g_get (C := RX5) (T := TX5) (N := 26) (ci := 5) X hi_X5_set_X5 0 rfl rfl 4 (by decide) (X.2.2.2.2.1 (.fieldLink RX5 13 "NineteenSecondsLeftModel" "calls" "[I") (List.mem_of_getElem? (i := 5) rfl)) rfl rfl dX5_set_227 ?_
                      refine g_iload_n X 3 rfl rfl dX5_set_230 ?_
                      refine g_iconst (v := 5) X (by decide) dX5_set_231 ?_
                      refine g_isub X dX5_set_232 ?_
                      refine g_iload_n X 4 rfl rfl dX5_set_233 ?_
                      refine g_iast (ws' := [(a_, .inr (5, [.int c_seconds, .int c_lead, .int c_ball, .ref a_fouls, .ref a_calls, .int c_rebound, .int c_law, .int c_draw, .int c_players, .ref a_side, .ref a_kind, .ref a_near, .ref a_far, .ref a_free, .int c_letters, .ref a_letter, .int c_at, .ref a_value, .int c_inRow, .ref a_row, .ref a_refusals, .int c_imaged, .ref a_image, .ref a_ahead, .ref a_guard, .ref a_worth])), (a_fouls, .inl (cI, 2, .inl c_fouls)), (a_calls, .inl (cI, 2, .inl (upd c_calls (p1 - 5).toNatClampNeg p2))), (a_refusals, .inl (cI, 7, .inl c_refusals))]) X 2 rfl (by rw [s101_5]; exact g_vinL (by decide)) dX5_set_234 rfl ?_
                      refine g_iload X 0 rfl dX5_set_235 ?_
                      exact g_iret X hAA hQQ (c_seconds, c_lead, c_ball, c_rebound, c_law, c_draw, c_fouls, upd c_calls (p1 - 5).toNatClampNeg p2, c_refusals) (heq.symm.trans hXX) [0, 1, 2, 3] rfl rfl hr dX5_set_237
                    have heq := heq.trans (if_neg s101_5)
                    by_cases s101_6 : p1 = 6
                    · refine g_tsHit (k := 6) X 216 dX5_set_101 s101_6 (by decide) (by decide) rfl (by decide) ?_
                      have heq := heq.trans (if_pos s101_6)
                      refine g_aload_n X 1 rfl rfl dX5_set_216 ?_
                      refine g_get (C := RX5) (T := TX5) (N := 26) (ci := 5) X hi_X5_set_X5 0 rfl rfl 4 (by decide) (X.2.2.2.2.1 (.fieldLink RX5 13 "NineteenSecondsLeftModel" "calls" "[I") (List.mem_of_getElem? (i := 5) rfl)) rfl rfl dX5_set_217 ?_
                      refine g_iload_n X 2 rfl rfl dX5_set_220 ?_
                      refine g_iconst (v := 5) X (by decide) dX5_set_221 ?_
                      refine g_isub X dX5_set_222 ?_
                      refine g_iald X 2 rfl (by rw [s101_6]; exact g_vinL (by decide)) dX5_set_223 ?_
                      refine g_istore (lv' := [(4, .int (c_calls (p1 - 5).toNatClampNeg)), (3, .int 9), (0, .ref a_), (1, .int p1), (2, .int p2)]) X (by decide) rfl dX5_set_224 ?_
                      refine g_aload_n X 2 rfl rfl dX5_set_226 ?_
                      refine g_get (C := RX5) (T := TX5) (N := 26) (ci := 5) X hi_X5_set_X5 0 rfl rfl 4 (by decide) (X.2.2.2.2.1 (.fieldLink RX5 13 "NineteenSecondsLeftModel" "calls" "[I") (List.mem_of_getElem? (i := 5) rfl)) rfl rfl dX5_set_227 ?_
                      refine g_iload_n X 3 rfl rfl dX5_set_230 ?_
                      refine g_iconst (v := 5) X (by decide) dX5_set_231 ?_
                      refine g_isub X dX5_set_232 ?_
                      refine g_iload_n X 4 rfl rfl dX5_set_233 ?_
                      refine g_iast (ws' := [(a_, .inr (5, [.int c_seconds, .int c_lead, .int c_ball, .ref a_fouls, .ref a_calls, .int c_rebound, .int c_law, .int c_draw, .int c_players, .ref a_side, .ref a_kind, .ref a_near, .ref a_far, .ref a_free, .int c_letters, .ref a_letter, .int c_at, .ref a_value, .int c_inRow, .ref a_row, .ref a_refusals, .int c_imaged, .ref a_image, .ref a_ahead, .ref a_guard, .ref a_worth])), (a_fouls, .inl (cI, 2, .inl c_fouls)), (a_calls, .inl (cI, 2, .inl (upd c_calls (p1 - 5).toNatClampNeg p2))), (a_refusals, .inl (cI, 7, .inl c_refusals))]) X 2 rfl (by rw [s101_6]; exact g_vinL (by decide)) dX5_set_234 rfl ?_
                      refine g_iload X 0 rfl dX5_set_235 ?_
                      exact g_iret X hAA hQQ (c_seconds, c_lead, c_ball, c_rebound, c_law, c_draw, c_fouls, upd c_calls (p1 - 5).toNatClampNeg p2, c_refusals) (heq.symm.trans hXX) [0, 1, 2, 3] rfl rfl hr dX5_set_237
                    have heq := heq.trans (if_neg s101_6)
                    by_cases s101_7 : p1 = 7
                    · refine g_tsHit (k := 7) X 238 dX5_set_101 s101_7 (by decide) (by decide) rfl (by decide) ?_
                      have heq := heq.trans (if_pos s101_7)
                      refine g_aload_n X 1 rfl rfl dX5_set_238 ?_
                      refine g_get (C := RX5) (T := TX5) (N := 26) (ci := 5) X hi_X5_set_X5 0 rfl rfl 5 (by decide) (X.2.2.2.2.1 (.fieldLink RX5 62 "NineteenSecondsLeftModel" "rebound" "I") (List.mem_of_getElem? (i := 6) rfl)) rfl rfl dX5_set_239 ?_
                      refine g_istore (lv' := [(4, .int c_rebound), (3, .int 9), (0, .ref a_), (1, .int p1), (2, .int p2)]) X (by decide) rfl dX5_set_242 ?_
                      refine g_aload_n X 2 rfl rfl dX5_set_244 ?_
                      refine g_iload_n X 4 rfl rfl dX5_set_245 ?_
                      refine g_put (C := RX5) (T := TX5) (N := 26) (ci := 5) (ws' := [(a_, .inr (5, [.int c_seconds, .int c_lead, .int c_ball, .ref a_fouls, .ref a_calls, .int p2, .int c_law, .int c_draw, .int c_players, .ref a_side, .ref a_kind, .ref a_near, .ref a_far, .ref a_free, .int c_letters, .ref a_letter, .int c_at, .ref a_value, .int c_inRow, .ref a_row, .ref a_refusals, .int c_imaged, .ref a_image, .ref a_ahead, .ref a_guard, .ref a_worth])), (a_fouls, .inl (cI, 2, .inl c_fouls)), (a_calls, .inl (cI, 2, .inl c_calls)), (a_refusals, .inl (cI, 7, .inl c_refusals))]) X hi_X5_set_X5 tyX5 tyX5_ok nmX5 0 rfl rfl 5 (by decide) (X.2.2.2.2.1 (.fieldLink RX5 62 "NineteenSecondsLeftModel" "rebound" "I") (List.mem_of_getElem? (i := 6) rfl)) rfl rfl rfl rfl (Nat.le_of_ble_eq_true rfl) dX5_set_246 rfl ?_
                      refine g_iload X 0 rfl dX5_set_249 ?_
                      exact g_iret X hAA hQQ (c_seconds, c_lead, c_ball, p2, c_law, c_draw, c_fouls, c_calls, c_refusals) (heq.symm.trans hXX) [0, 1, 2, 3] rfl rfl hr dX5_set_251
                    have heq := heq.trans (if_neg s101_7)
                    refine g_tsDef X 266 [0, 1, 2, 3, 4, 5, 6, 7, 8] dX5_set_101 (g_neC c29 (g_neC c39 (g_neC c49 (g_neC s101_3 (g_neC s101_4 (g_neC s101_5 (g_neC s101_6 (g_neC s101_7 (g_ne1 c78))))))))) (by decide) (by decide) (by decide) ?_
                    refine g_aload_n X 1 rfl rfl dX5_set_266 ?_
                    refine g_get (C := RX5) (T := TX5) (N := 26) (ci := 5) X hi_X5_set_X5 0 rfl rfl 7 (by decide) (X.2.2.2.2.1 (.fieldLink RX5 65 "NineteenSecondsLeftModel" "draw" "I") (List.mem_of_getElem? (i := 8) rfl)) rfl rfl dX5_set_267 ?_
                    refine g_istore (lv' := [(4, .int c_draw), (3, .int 9), (0, .ref a_), (1, .int p1), (2, .int p2)]) X (by decide) rfl dX5_set_270 ?_
                    refine g_aload_n X 2 rfl rfl dX5_set_272 ?_
                    refine g_iload_n X 4 rfl rfl dX5_set_273 ?_
                    refine g_put (C := RX5) (T := TX5) (N := 26) (ci := 5) (ws' := [(a_, .inr (5, [.int c_seconds, .int c_lead, .int c_ball, .ref a_fouls, .ref a_calls, .int c_rebound, .int c_law, .int p2, .int c_players, .ref a_side, .ref a_kind, .ref a_near, .ref a_far, .ref a_free, .int c_letters, .ref a_letter, .int c_at, .ref a_value, .int c_inRow, .ref a_row, .ref a_refusals, .int c_imaged, .ref a_image, .ref a_ahead, .ref a_guard, .ref a_worth])), (a_fouls, .inl (cI, 2, .inl c_fouls)), (a_calls, .inl (cI, 2, .inl c_calls)), (a_refusals, .inl (cI, 7, .inl c_refusals))]) X hi_X5_set_X5 tyX5 tyX5_ok nmX5 0 rfl rfl 7 (by decide) (X.2.2.2.2.1 (.fieldLink RX5 65 "NineteenSecondsLeftModel" "draw" "I") (List.mem_of_getElem? (i := 8) rfl)) rfl rfl rfl rfl (Nat.le_of_ble_eq_true rfl) dX5_set_274 rfl ?_
                    refine g_iload X 0 rfl dX5_set_277 ?_
                    exact g_iret X hAA hQQ (c_seconds, c_lead, c_ball, c_rebound, c_law, p2, c_fouls, c_calls, c_refusals) (heq.symm.trans hXX) [0, 1, 2, 3] rfl rfl hr dX5_set_279
                  · have heq := heq.trans (if_neg c90)
                    refine g_aload_n X 1 rfl rfl dX5_set_93 ?_
                    refine g_bipush (v := (-6)) X (by decide) dX5_set_94 ?_
                    refine g_callVi (C := RX5) (T := TX5) (N := 26) (ci := 5) (As := [.int (-6)]) (st := []) (wr := [(a_fouls, .inl (cI, 2, .inl c_fouls)), (a_calls, .inl (cI, 2, .inl c_calls))]) X (k_X5_no l D cI kA kV a_ a_fouls a_calls a_side a_kind a_near a_far a_free a_letter a_value a_row a_refusals a_image a_ahead a_guard a_worth c_seconds c_lead c_ball c_rebound c_law c_draw c_players c_letters c_at c_inRow c_imaged c_refusals (-6) (by decide) (by decide)) (cwV 1 X.2.2.2.2.1 gX5_set_X5_no rfl rfl rfl (by decide +kernel) ⟨Nat.le_of_ble_eq_true rfl, Nat.le_of_ble_eq_true rfl⟩) 0 rfl rfl [0, 3] [1, 2] rfl rfl rfl rfl (by decide) rfl (Nat.le_of_ble_eq_true rfl) ⟨Nat.le_of_ble_eq_true rfl, Nat.le_of_ble_eq_true rfl⟩ dX5_set_96 rfl (fun r96 u96 hw96 => ?_)
                    refine g_eqs (ws' := [(a_fouls, .inl (cI, 2, .inl c_fouls)), (a_calls, .inl (cI, 2, .inl c_calls)), (a_, .inr (5, [.int c_seconds, .int c_lead, .int c_ball, .ref a_fouls, .ref a_calls, .int c_rebound, .int c_law, .int c_draw, .int c_players, .ref a_side, .ref a_kind, .ref a_near, .ref a_far, .ref a_free, .int c_letters, .ref a_letter, .int c_at, .ref a_value, .int c_inRow, .ref a_row, .ref a_refusals, .int c_imaged, .ref a_image, .ref a_ahead, .ref a_guard, .ref a_worth])), (a_refusals, .inl (cI, 7, .inl u96))]) rfl ?_
                    have heq := g_let2 heq hw96
                    exact g_iret X hAA hQQ (c_seconds, c_lead, c_ball, c_rebound, c_law, c_draw, c_fouls, c_calls, u96) (heq.symm.trans hXX) [2, 0, 1, 3] rfl rfl hr dX5_set_99
                · have heq := heq.trans (if_pos c78)
                  refine g_iconst (v := 3) X (by decide) dX5_set_81 ?_
                  refine g_goto (tgt := 87) X (by decide) dX5_set_82 ?_
                  refine g_istore_n (lv' := [(3, .int 3), (0, .ref a_), (1, .int p1), (2, .int p2)]) X rfl (by decide) rfl dX5_set_87 ?_
                  refine g_iload_n X 3 rfl rfl dX5_set_88 ?_
                  refine g_iload_n X 0 rfl rfl dX5_set_89 ?_
                  refine g_icmp_le X 100 dX5_set_90 (by decide) (fun c90 => ?_) (fun c90 => ?_)
                  · have heq := heq.trans (if_pos c90)
                    refine g_iload_n X 2 rfl rfl dX5_set_100 ?_
                    refine g_tsHit (k := 8) X 252 dX5_set_101 c78 (by decide) (by decide) rfl (by decide) ?_
                    refine g_aload_n X 1 rfl rfl dX5_set_252 ?_
                    refine g_get (C := RX5) (T := TX5) (N := 26) (ci := 5) X hi_X5_set_X5 0 rfl rfl 6 (by decide) (X.2.2.2.2.1 (.fieldLink RX5 104 "NineteenSecondsLeftModel" "law" "I") (List.mem_of_getElem? (i := 7) rfl)) rfl rfl dX5_set_253 ?_
                    refine g_istore (lv' := [(4, .int c_law), (3, .int 3), (0, .ref a_), (1, .int p1), (2, .int p2)]) X (by decide) rfl dX5_set_256 ?_
                    refine g_aload_n X 2 rfl rfl dX5_set_258 ?_
                    refine g_iload_n X 4 rfl rfl dX5_set_259 ?_
                    refine g_put (C := RX5) (T := TX5) (N := 26) (ci := 5) (ws' := [(a_, .inr (5, [.int c_seconds, .int c_lead, .int c_ball, .ref a_fouls, .ref a_calls, .int c_rebound, .int p2, .int c_draw, .int c_players, .ref a_side, .ref a_kind, .ref a_near, .ref a_far, .ref a_free, .int c_letters, .ref a_letter, .int c_at, .ref a_value, .int c_inRow, .ref a_row, .ref a_refusals, .int c_imaged, .ref a_image, .ref a_ahead, .ref a_guard, .ref a_worth])), (a_fouls, .inl (cI, 2, .inl c_fouls)), (a_calls, .inl (cI, 2, .inl c_calls)), (a_refusals, .inl (cI, 7, .inl c_refusals))]) X hi_X5_set_X5 tyX5 tyX5_ok nmX5 0 rfl rfl 6 (by decide) (X.2.2.2.2.1 (.fieldLink RX5 104 "NineteenSecondsLeftModel" "law" "I") (List.mem_of_getElem? (i := 7) rfl)) rfl rfl rfl rfl (Nat.le_of_ble_eq_true rfl) dX5_set_260 rfl ?_
                    refine g_iload X 0 rfl dX5_set_263 ?_
                    exact g_iret X hAA hQQ (c_seconds, c_lead, c_ball, c_rebound, p2, c_draw, c_fouls, c_calls, c_refusals) (heq.symm.trans hXX) [0, 1, 2, 3] rfl rfl hr dX5_set_265
                  · have heq := heq.trans (if_neg c90)
                    refine g_aload_n X 1 rfl rfl dX5_set_93 ?_
                    refine g_bipush (v := (-6)) X (by decide) dX5_set_94 ?_
                    refine g_callVi (C := RX5) (T := TX5) (N := 26) (ci := 5) (As := [.int (-6)]) (st := []) (wr := [(a_fouls, .inl (cI, 2, .inl c_fouls)), (a_calls, .inl (cI, 2, .inl c_calls))]) X (k_X5_no l D cI kA kV a_ a_fouls a_calls a_side a_kind a_near a_far a_free a_letter a_value a_row a_refusals a_image a_ahead a_guard a_worth c_seconds c_lead c_ball c_rebound c_law c_draw c_players c_letters c_at c_inRow c_imaged c_refusals (-6) (by decide) (by decide)) (cwV 1 X.2.2.2.2.1 gX5_set_X5_no rfl rfl rfl (by decide +kernel) ⟨Nat.le_of_ble_eq_true rfl, Nat.le_of_ble_eq_true rfl⟩) 0 rfl rfl [0, 3] [1, 2] rfl rfl rfl rfl (by decide) rfl (Nat.le_of_ble_eq_true rfl) ⟨Nat.le_of_ble_eq_true rfl, Nat.le_of_ble_eq_true rfl⟩ dX5_set_96 rfl (fun r96 u96 hw96 => ?_)
                    refine g_eqs (ws' := [(a_fouls, .inl (cI, 2, .inl c_fouls)), (a_calls, .inl (cI, 2, .inl c_calls)), (a_, .inr (5, [.int c_seconds, .int c_lead, .int c_ball, .ref a_fouls, .ref a_calls, .int c_rebound, .int c_law, .int c_draw, .int c_players, .ref a_side, .ref a_kind, .ref a_near, .ref a_far, .ref a_free, .int c_letters, .ref a_letter, .int c_at, .ref a_value, .int c_inRow, .ref a_row, .ref a_refusals, .int c_imaged, .ref a_image, .ref a_ahead, .ref a_guard, .ref a_worth])), (a_refusals, .inl (cI, 7, .inl u96))]) rfl ?_
                    have heq := g_let2 heq hw96
                    exact g_iret X hAA hQQ (c_seconds, c_lead, c_ball, c_rebound, c_law, c_draw, c_fouls, c_calls, u96) (heq.symm.trans hXX) [2, 0, 1, 3] rfl rfl hr dX5_set_99
              · have heq := heq.trans (if_neg c68)
                refine g_iconst (v := 2) X (by decide) dX5_set_71 ?_
                refine g_goto (tgt := 87) X (by decide) dX5_set_72 ?_
                refine g_istore_n (lv' := [(3, .int 2), (0, .ref a_), (1, .int p1), (2, .int p2)]) X rfl (by decide) rfl dX5_set_87 ?_
                refine g_iload_n X 3 rfl rfl dX5_set_88 ?_
                refine g_iload_n X 0 rfl rfl dX5_set_89 ?_
                refine g_icmp_le X 100 dX5_set_90 (by decide) (fun c90 => ?_) (fun c90 => ?_)
                · have heq := heq.trans (if_pos c90)
                  refine g_iload_n X 2 rfl rfl dX5_set_100 ?_
                  by_cases s101_3 : p1 = 3
                  · refine g_tsHit (k := 3) X 194 dX5_set_101 s101_3 (by decide) (by decide) rfl (by decide) ?_
                    have heq := heq.trans (if_pos s101_3)
                    refine g_aload_n X 1 rfl rfl dX5_set_194 ?_
                    refine g_get (C := RX5) (T := TX5) (N := 26) (ci := 5) X hi_X5_set_X5 0 rfl rfl 3 (by decide) (X.2.2.2.2.1 (.fieldLink RX5 7 "NineteenSecondsLeftModel" "fouls" "[I") (List.mem_of_getElem? (i := 4) rfl)) rfl rfl dX5_set_195 ?_
                    refine g_iload_n X 2 rfl rfl dX5_set_198 ?_
                    refine g_iconst (v := 3) X (by decide) dX5_set_199 ?_
                    refine g_isub X dX5_set_200 ?_
                    refine g_iald X 1 rfl (by rw [s101_3]; exact g_vinL (by decide)) dX5_set_201 ?_
                    refine g_istore (lv' := [(4, .int (c_fouls (p1 - 3).toNatClampNeg)), (3, .int 2), (0, .ref a_), (1, .int p1), (2, .int p2)]) X (by decide) rfl dX5_set_202 ?_
                    refine g_aload_n X 2 rfl rfl dX5_set_204 ?_
                    refine g_get (C := RX5) (T := TX5) (N := 26) (ci := 5) X hi_X5_set_X5 0 rfl rfl 3 (by decide) (X.2.2.2.2.1 (.fieldLink RX5 7 "NineteenSecondsLeftModel" "fouls" "[I") (List.mem_of_getElem? (i := 4) rfl)) rfl rfl dX5_set_205 ?_
                    refine g_iload_n X 3 rfl rfl dX5_set_208 ?_
                    refine g_iconst (v := 3) X (by decide) dX5_set_209 ?_
                    refine g_isub X dX5_set_210 ?_
                    refine g_iload_n X 4 rfl rfl dX5_set_211 ?_
                    refine g_iast (ws' := [(a_, .inr (5, [.int c_seconds, .int c_lead, .int c_ball, .ref a_fouls, .ref a_calls, .int c_rebound, .int c_law, .int c_draw, .int c_players, .ref a_side, .ref a_kind, .ref a_near, .ref a_far, .ref a_free, .int c_letters, .ref a_letter, .int c_at, .ref a_value, .int c_inRow, .ref a_row, .ref a_refusals, .int c_imaged, .ref a_image, .ref a_ahead, .ref a_guard, .ref a_worth])), (a_fouls, .inl (cI, 2, .inl (upd c_fouls (p1 - 3).toNatClampNeg p2))), (a_calls, .inl (cI, 2, .inl c_calls)), (a_refusals, .inl (cI, 7, .inl c_refusals))]) X 1 rfl (by rw [s101_3]; exact g_vinL (by decide)) dX5_set_212 rfl ?_
                    refine g_iload X 0 rfl dX5_set_213 ?_
                    exact g_iret X hAA hQQ (c_seconds, c_lead, c_ball, c_rebound, c_law, c_draw, upd c_fouls (p1 - 3).toNatClampNeg p2, c_calls, c_refusals) (heq.symm.trans hXX) [0, 1, 2, 3] rfl rfl hr dX5_set_215
                  have heq := heq.trans (if_neg s101_3)
                  by_cases s101_4 : p1 = 4
                  · refine g_tsHit (k := 4) X 194 dX5_set_101 s101_4 (by decide) (by decide) rfl (by decide) ?_
                    have heq := heq.trans (if_pos s101_4)
                    refine g_aload_n X 1 rfl rfl dX5_set_194 ?_
                    refine g_get (C := RX5) (T := TX5) (N := 26) (ci := 5) X hi_X5_set_X5 0 rfl rfl 3 (by decide) (X.2.2.2.2.1 (.fieldLink RX5 7 "NineteenSecondsLeftModel" "fouls" "[I") (List.mem_of_getElem? (i := 4) rfl)) rfl rfl dX5_set_195 ?_
                    refine g_iload_n X 2 rfl rfl dX5_set_198 ?_
                    refine g_iconst (v := 3) X (by decide) dX5_set_199 ?_
                    refine g_isub X dX5_set_200 ?_
                    refine g_iald X 1 rfl (by rw [s101_4]; exact g_vinL (by decide)) dX5_set_201 ?_
                    refine g_istore (lv' := [(4, .int (c_fouls (p1 - 3).toNatClampNeg)), (3, .int 2), (0, .ref a_), (1, .int p1), (2, .int p2)]) X (by decide) rfl dX5_set_202 ?_
                    refine g_aload_n X 2 rfl rfl dX5_set_204 ?_
                    refine g_get (C := RX5) (T := TX5) (N := 26) (ci := 5) X hi_X5_set_X5 0 rfl rfl 3 (by decide) (X.2.2.2.2.1 (.fieldLink RX5 7 "NineteenSecondsLeftModel" "fouls" "[I") (List.mem_of_getElem? (i := 4) rfl)) rfl rfl dX5_set_205 ?_
                    refine g_iload_n X 3 rfl rfl dX5_set_208 ?_
                    refine g_iconst (v := 3) X (by decide) dX5_set_209 ?_
                    refine g_isub X dX5_set_210 ?_
                    refine g_iload_n X 4 rfl rfl dX5_set_211 ?_
                    refine g_iast (ws' := [(a_, .inr (5, [.int c_seconds, .int c_lead, .int c_ball, .ref a_fouls, .ref a_calls, .int c_rebound, .int c_law, .int c_draw, .int c_players, .ref a_side, .ref a_kind, .ref a_near, .ref a_far, .ref a_free, .int c_letters, .ref a_letter, .int c_at, .ref a_value, .int c_inRow, .ref a_row, .ref a_refusals, .int c_imaged, .ref a_image, .ref a_ahead, .ref a_guard, .ref a_worth])), (a_fouls, .inl (cI, 2, .inl (upd c_fouls (p1 - 3).toNatClampNeg p2))), (a_calls, .inl (cI, 2, .inl c_calls)), (a_refusals, .inl (cI, 7, .inl c_refusals))]) X 1 rfl (by rw [s101_4]; exact g_vinL (by decide)) dX5_set_212 rfl ?_
                    refine g_iload X 0 rfl dX5_set_213 ?_
                    exact g_iret X hAA hQQ (c_seconds, c_lead, c_ball, c_rebound, c_law, c_draw, upd c_fouls (p1 - 3).toNatClampNeg p2, c_calls, c_refusals) (heq.symm.trans hXX) [0, 1, 2, 3] rfl rfl hr dX5_set_215
                  have heq := heq.trans (if_neg s101_4)
                  by_cases s101_5 : p1 = 5
                  · refine g_tsHit (k := 5) X 216 dX5_set_101 s101_5 (by decide) (by decide) rfl (by decide) ?_
                    have heq := heq.trans (if_pos s101_5)
                    refine g_aload_n X 1 rfl rfl dX5_set_216 ?_
                    refine g_get (C := RX5) (T := TX5) (N := 26) (ci := 5) X hi_X5_set_X5 0 rfl rfl 4 (by decide) (X.2.2.2.2.1 (.fieldLink RX5 13 "NineteenSecondsLeftModel" "calls" "[I") (List.mem_of_getElem? (i := 5) rfl)) rfl rfl dX5_set_217 ?_
                    refine g_iload_n X 2 rfl rfl dX5_set_220 ?_
                    refine g_iconst (v := 5) X (by decide) dX5_set_221 ?_
                    refine g_isub X dX5_set_222 ?_
                    refine g_iald X 2 rfl (by rw [s101_5]; exact g_vinL (by decide)) dX5_set_223 ?_
                    refine g_istore (lv' := [(4, .int (c_calls (p1 - 5).toNatClampNeg)), (3, .int 2), (0, .ref a_), (1, .int p1), (2, .int p2)]) X (by decide) rfl dX5_set_224 ?_
                    refine g_aload_n X 2 rfl rfl dX5_set_226 ?_
                    refine g_get (C := RX5) (T := TX5) (N := 26) (ci := 5) X hi_X5_set_X5 0 rfl rfl 4 (by decide) (X.2.2.2.2.1 (.fieldLink RX5 13 "NineteenSecondsLeftModel" "calls" "[I") (List.mem_of_getElem? (i := 5) rfl)) rfl rfl dX5_set_227 ?_
                    refine g_iload_n X 3 rfl rfl dX5_set_230 ?_
                    refine g_iconst (v := 5) X (by decide) dX5_set_231 ?_
                    refine g_isub X dX5_set_232 ?_
                    refine g_iload_n X 4 rfl rfl dX5_set_233 ?_
                    refine g_iast (ws' := [(a_, .inr (5, [.int c_seconds, .int c_lead, .int c_ball, .ref a_fouls, .ref a_calls, .int c_rebound, .int c_law, .int c_draw, .int c_players, .ref a_side, .ref a_kind, .ref a_near, .ref a_far, .ref a_free, .int c_letters, .ref a_letter, .int c_at, .ref a_value, .int c_inRow, .ref a_row, .ref a_refusals, .int c_imaged, .ref a_image, .ref a_ahead, .ref a_guard, .ref a_worth])), (a_fouls, .inl (cI, 2, .inl c_fouls)), (a_calls, .inl (cI, 2, .inl (upd c_calls (p1 - 5).toNatClampNeg p2))), (a_refusals, .inl (cI, 7, .inl c_refusals))]) X 2 rfl (by rw [s101_5]; exact g_vinL (by decide)) dX5_set_234 rfl ?_
                    refine g_iload X 0 rfl dX5_set_235 ?_
                    exact g_iret X hAA hQQ (c_seconds, c_lead, c_ball, c_rebound, c_law, c_draw, c_fouls, upd c_calls (p1 - 5).toNatClampNeg p2, c_refusals) (heq.symm.trans hXX) [0, 1, 2, 3] rfl rfl hr dX5_set_237
                  have heq := heq.trans (if_neg s101_5)
                  by_cases s101_6 : p1 = 6
                  · refine g_tsHit (k := 6) X 216 dX5_set_101 s101_6 (by decide) (by decide) rfl (by decide) ?_
                    have heq := heq.trans (if_pos s101_6)
                    refine g_aload_n X 1 rfl rfl dX5_set_216 ?_
                    refine g_get (C := RX5) (T := TX5) (N := 26) (ci := 5) X hi_X5_set_X5 0 rfl rfl 4 (by decide) (X.2.2.2.2.1 (.fieldLink RX5 13 "NineteenSecondsLeftModel" "calls" "[I") (List.mem_of_getElem? (i := 5) rfl)) rfl rfl dX5_set_217 ?_
                    refine g_iload_n X 2 rfl rfl dX5_set_220 ?_
                    refine g_iconst (v := 5) X (by decide) dX5_set_221 ?_
                    refine g_isub X dX5_set_222 ?_
                    refine g_iald X 2 rfl (by rw [s101_6]; exact g_vinL (by decide)) dX5_set_223 ?_
                    refine g_istore (lv' := [(4, .int (c_calls (p1 - 5).toNatClampNeg)), (3, .int 2), (0, .ref a_), (1, .int p1), (2, .int p2)]) X (by decide) rfl dX5_set_224 ?_
                    refine g_aload_n X 2 rfl rfl dX5_set_226 ?_
                    refine g_get (C := RX5) (T := TX5) (N := 26) (ci := 5) X hi_X5_set_X5 0 rfl rfl 4 (by decide) (X.2.2.2.2.1 (.fieldLink RX5 13 "NineteenSecondsLeftModel" "calls" "[I") (List.mem_of_getElem? (i := 5) rfl)) rfl rfl dX5_set_227 ?_
                    refine g_iload_n X 3 rfl rfl dX5_set_230 ?_
                    refine g_iconst (v := 5) X (by decide) dX5_set_231 ?_
                    refine g_isub X dX5_set_232 ?_
                    refine g_iload_n X 4 rfl rfl dX5_set_233 ?_
                    refine g_iast (ws' := [(a_, .inr (5, [.int c_seconds, .int c_lead, .int c_ball, .ref a_fouls, .ref a_calls, .int c_rebound, .int c_law, .int c_draw, .int c_players, .ref a_side, .ref a_kind, .ref a_near, .ref a_far, .ref a_free, .int c_letters, .ref a_letter, .int c_at, .ref a_value, .int c_inRow, .ref a_row, .ref a_refusals, .int c_imaged, .ref a_image, .ref a_ahead, .ref a_guard, .ref a_worth])), (a_fouls, .inl (cI, 2, .inl c_fouls)), (a_calls, .inl (cI, 2, .inl (upd c_calls (p1 - 5).toNatClampNeg p2))), (a_refusals, .inl (cI, 7, .inl c_refusals))]) X 2 rfl (by rw [s101_6]; exact g_vinL (by decide)) dX5_set_234 rfl ?_
                    refine g_iload X 0 rfl dX5_set_235 ?_
                    exact g_iret X hAA hQQ (c_seconds, c_lead, c_ball, c_rebound, c_law, c_draw, c_fouls, upd c_calls (p1 - 5).toNatClampNeg p2, c_refusals) (heq.symm.trans hXX) [0, 1, 2, 3] rfl rfl hr dX5_set_237
                  have heq := heq.trans (if_neg s101_6)
                  by_cases s101_7 : p1 = 7
                  · refine g_tsHit (k := 7) X 238 dX5_set_101 s101_7 (by decide) (by decide) rfl (by decide) ?_
                    have heq := heq.trans (if_pos s101_7)
                    refine g_aload_n X 1 rfl rfl dX5_set_238 ?_
                    refine g_get (C := RX5) (T := TX5) (N := 26) (ci := 5) X hi_X5_set_X5 0 rfl rfl 5 (by decide) (X.2.2.2.2.1 (.fieldLink RX5 62 "NineteenSecondsLeftModel" "rebound" "I") (List.mem_of_getElem? (i := 6) rfl)) rfl rfl dX5_set_239 ?_
                    refine g_istore (lv' := [(4, .int c_rebound), (3, .int 2), (0, .ref a_), (1, .int p1), (2, .int p2)]) X (by decide) rfl dX5_set_242 ?_
                    refine g_aload_n X 2 rfl rfl dX5_set_244 ?_
                    refine g_iload_n X 4 rfl rfl dX5_set_245 ?_
                    refine g_put (C := RX5) (T := TX5) (N := 26) (ci := 5) (ws' := [(a_, .inr (5, [.int c_seconds, .int c_lead, .int c_ball, .ref a_fouls, .ref a_calls, .int p2, .int c_law, .int c_draw, .int c_players, .ref a_side, .ref a_kind, .ref a_near, .ref a_far, .ref a_free, .int c_letters, .ref a_letter, .int c_at, .ref a_value, .int c_inRow, .ref a_row, .ref a_refusals, .int c_imaged, .ref a_image, .ref a_ahead, .ref a_guard, .ref a_worth])), (a_fouls, .inl (cI, 2, .inl c_fouls)), (a_calls, .inl (cI, 2, .inl c_calls)), (a_refusals, .inl (cI, 7, .inl c_refusals))]) X hi_X5_set_X5 tyX5 tyX5_ok nmX5 0 rfl rfl 5 (by decide) (X.2.2.2.2.1 (.fieldLink RX5 62 "NineteenSecondsLeftModel" "rebound" "I") (List.mem_of_getElem? (i := 6) rfl)) rfl rfl rfl rfl (Nat.le_of_ble_eq_true rfl) dX5_set_246 rfl ?_
                    refine g_iload X 0 rfl dX5_set_249 ?_
                    exact g_iret X hAA hQQ (c_seconds, c_lead, c_ball, p2, c_law, c_draw, c_fouls, c_calls, c_refusals) (heq.symm.trans hXX) [0, 1, 2, 3] rfl rfl hr dX5_set_251
                  have heq := heq.trans (if_neg s101_7)
                  by_cases s101_8 : p1 = 8
                  · refine g_tsHit (k := 8) X 252 dX5_set_101 s101_8 (by decide) (by decide) rfl (by decide) ?_
                    have heq := heq.trans (if_pos s101_8)
                    refine g_aload_n X 1 rfl rfl dX5_set_252 ?_
                    refine g_get (C := RX5) (T := TX5) (N := 26) (ci := 5) X hi_X5_set_X5 0 rfl rfl 6 (by decide) (X.2.2.2.2.1 (.fieldLink RX5 104 "NineteenSecondsLeftModel" "law" "I") (List.mem_of_getElem? (i := 7) rfl)) rfl rfl dX5_set_253 ?_
                    refine g_istore (lv' := [(4, .int c_law), (3, .int 2), (0, .ref a_), (1, .int p1), (2, .int p2)]) X (by decide) rfl dX5_set_256 ?_
                    refine g_aload_n X 2 rfl rfl dX5_set_258 ?_
                    refine g_iload_n X 4 rfl rfl dX5_set_259 ?_
                    refine g_put (C := RX5) (T := TX5) (N := 26) (ci := 5) (ws' := [(a_, .inr (5, [.int c_seconds, .int c_lead, .int c_ball, .ref a_fouls, .ref a_calls, .int c_rebound, .int p2, .int c_draw, .int c_players, .ref a_side, .ref a_kind, .ref a_near, .ref a_far, .ref a_free, .int c_letters, .ref a_letter, .int c_at, .ref a_value, .int c_inRow, .ref a_row, .ref a_refusals, .int c_imaged, .ref a_image, .ref a_ahead, .ref a_guard, .ref a_worth])), (a_fouls, .inl (cI, 2, .inl c_fouls)), (a_calls, .inl (cI, 2, .inl c_calls)), (a_refusals, .inl (cI, 7, .inl c_refusals))]) X hi_X5_set_X5 tyX5 tyX5_ok nmX5 0 rfl rfl 6 (by decide) (X.2.2.2.2.1 (.fieldLink RX5 104 "NineteenSecondsLeftModel" "law" "I") (List.mem_of_getElem? (i := 7) rfl)) rfl rfl rfl rfl (Nat.le_of_ble_eq_true rfl) dX5_set_260 rfl ?_
                    refine g_iload X 0 rfl dX5_set_263 ?_
                    exact g_iret X hAA hQQ (c_seconds, c_lead, c_ball, c_rebound, p2, c_draw, c_fouls, c_calls, c_refusals) (heq.symm.trans hXX) [0, 1, 2, 3] rfl rfl hr dX5_set_265
                  have heq := heq.trans (if_neg s101_8)
                  refine g_tsDef X 266 [0, 1, 2, 3, 4, 5, 6, 7, 8] dX5_set_101 (g_neC c29 (g_neC c39 (g_neC c49 (g_neC s101_3 (g_neC s101_4 (g_neC s101_5 (g_neC s101_6 (g_neC s101_7 (g_ne1 s101_8))))))))) (by decide) (by decide) (by decide) ?_
                  refine g_aload_n X 1 rfl rfl dX5_set_266 ?_
                  refine g_get (C := RX5) (T := TX5) (N := 26) (ci := 5) X hi_X5_set_X5 0 rfl rfl 7 (by decide) (X.2.2.2.2.1 (.fieldLink RX5 65 "NineteenSecondsLeftModel" "draw" "I") (List.mem_of_getElem? (i := 8) rfl)) rfl rfl dX5_set_267 ?_
                  refine g_istore (lv' := [(4, .int c_draw), (3, .int 2), (0, .ref a_), (1, .int p1), (2, .int p2)]) X (by decide) rfl dX5_set_270 ?_
                  refine g_aload_n X 2 rfl rfl dX5_set_272 ?_
                  refine g_iload_n X 4 rfl rfl dX5_set_273 ?_
                  refine g_put (C := RX5) (T := TX5) (N := 26) (ci := 5) (ws' := [(a_, .inr (5, [.int c_seconds, .int c_lead, .int c_ball, .ref a_fouls, .ref a_calls, .int c_rebound, .int c_law, .int p2, .int c_players, .ref a_side, .ref a_kind, .ref a_near, .ref a_far, .ref a_free, .int c_letters, .ref a_letter, .int c_at, .ref a_value, .int c_inRow, .ref a_row, .ref a_refusals, .int c_imaged, .ref a_image, .ref a_ahead, .ref a_guard, .ref a_worth])), (a_fouls, .inl (cI, 2, .inl c_fouls)), (a_calls, .inl (cI, 2, .inl c_calls)), (a_refusals, .inl (cI, 7, .inl c_refusals))]) X hi_X5_set_X5 tyX5 tyX5_ok nmX5 0 rfl rfl 7 (by decide) (X.2.2.2.2.1 (.fieldLink RX5 65 "NineteenSecondsLeftModel" "draw" "I") (List.mem_of_getElem? (i := 8) rfl)) rfl rfl rfl rfl (Nat.le_of_ble_eq_true rfl) dX5_set_274 rfl ?_
                  refine g_iload X 0 rfl dX5_set_277 ?_
                  exact g_iret X hAA hQQ (c_seconds, c_lead, c_ball, c_rebound, c_law, p2, c_fouls, c_calls, c_refusals) (heq.symm.trans hXX) [0, 1, 2, 3] rfl rfl hr dX5_set_279
                · have heq := heq.trans (if_neg c90)
                  refine g_aload_n X 1 rfl rfl dX5_set_93 ?_
                  refine g_bipush (v := (-6)) X (by decide) dX5_set_94 ?_
                  refine g_callVi (C := RX5) (T := TX5) (N := 26) (ci := 5) (As := [.int (-6)]) (st := []) (wr := [(a_fouls, .inl (cI, 2, .inl c_fouls)), (a_calls, .inl (cI, 2, .inl c_calls))]) X (k_X5_no l D cI kA kV a_ a_fouls a_calls a_side a_kind a_near a_far a_free a_letter a_value a_row a_refusals a_image a_ahead a_guard a_worth c_seconds c_lead c_ball c_rebound c_law c_draw c_players c_letters c_at c_inRow c_imaged c_refusals (-6) (by decide) (by decide)) (cwV 1 X.2.2.2.2.1 gX5_set_X5_no rfl rfl rfl (by decide +kernel) ⟨Nat.le_of_ble_eq_true rfl, Nat.le_of_ble_eq_true rfl⟩) 0 rfl rfl [0, 3] [1, 2] rfl rfl rfl rfl (by decide) rfl (Nat.le_of_ble_eq_true rfl) ⟨Nat.le_of_ble_eq_true rfl, Nat.le_of_ble_eq_true rfl⟩ dX5_set_96 rfl (fun r96 u96 hw96 => ?_)
                  refine g_eqs (ws' := [(a_fouls, .inl (cI, 2, .inl c_fouls)), (a_calls, .inl (cI, 2, .inl c_calls)), (a_, .inr (5, [.int c_seconds, .int c_lead, .int c_ball, .ref a_fouls, .ref a_calls, .int c_rebound, .int c_law, .int c_draw, .int c_players, .ref a_side, .ref a_kind, .ref a_near, .ref a_far, .ref a_free, .int c_letters, .ref a_letter, .int c_at, .ref a_value, .int c_inRow, .ref a_row, .ref a_refusals, .int c_imaged, .ref a_image, .ref a_ahead, .ref a_guard, .ref a_worth])), (a_refusals, .inl (cI, 7, .inl u96))]) rfl ?_
                  have heq := g_let2 heq hw96
                  exact g_iret X hAA hQQ (c_seconds, c_lead, c_ball, c_rebound, c_law, c_draw, c_fouls, c_calls, u96) (heq.symm.trans hXX) [2, 0, 1, 3] rfl rfl hr dX5_set_99
            · have heq := heq.trans (if_neg c58)
              refine g_iconst (v := 5) X (by decide) dX5_set_61 ?_
              refine g_goto (tgt := 87) X (by decide) dX5_set_62 ?_
              refine g_istore_n (lv' := [(3, .int 5), (0, .ref a_), (1, .int p1), (2, .int p2)]) X rfl (by decide) rfl dX5_set_87 ?_
              refine g_iload_n X 3 rfl rfl dX5_set_88 ?_
              refine g_iload_n X 0 rfl rfl dX5_set_89 ?_
              refine g_icmp_le X 100 dX5_set_90 (by decide) (fun c90 => ?_) (fun c90 => ?_)
              · have heq := heq.trans (if_pos c90)
                refine g_iload_n X 2 rfl rfl dX5_set_100 ?_
                by_cases s101_3 : p1 = 3
                · refine g_tsHit (k := 3) X 194 dX5_set_101 s101_3 (by decide) (by decide) rfl (by decide) ?_
                  have heq := heq.trans (if_pos s101_3)
                  refine g_aload_n X 1 rfl rfl dX5_set_194 ?_
                  refine g_get (C := RX5) (T := TX5) (N := 26) (ci := 5) X hi_X5_set_X5 0 rfl rfl 3 (by decide) (X.2.2.2.2.1 (.fieldLink RX5 7 "NineteenSecondsLeftModel" "fouls" "[I") (List.mem_of_getElem? (i := 4) rfl)) rfl rfl dX5_set_195 ?_
                  refine g_iload_n X 2 rfl rfl dX5_set_198 ?_
                  refine g_iconst (v := 3) X (by decide) dX5_set_199 ?_
                  refine g_isub X dX5_set_200 ?_
                  refine g_iald X 1 rfl (by rw [s101_3]; exact g_vinL (by decide)) dX5_set_201 ?_
                  refine g_istore (lv' := [(4, .int (c_fouls (p1 - 3).toNatClampNeg)), (3, .int 5), (0, .ref a_), (1, .int p1), (2, .int p2)]) X (by decide) rfl dX5_set_202 ?_
                  refine g_aload_n X 2 rfl rfl dX5_set_204 ?_
                  refine g_get (C := RX5) (T := TX5) (N := 26) (ci := 5) X hi_X5_set_X5 0 rfl rfl 3 (by decide) (X.2.2.2.2.1 (.fieldLink RX5 7 "NineteenSecondsLeftModel" "fouls" "[I") (List.mem_of_getElem? (i := 4) rfl)) rfl rfl dX5_set_205 ?_
                  refine g_iload_n X 3 rfl rfl dX5_set_208 ?_
                  refine g_iconst (v := 3) X (by decide) dX5_set_209 ?_
                  refine g_isub X dX5_set_210 ?_
                  refine g_iload_n X 4 rfl rfl dX5_set_211 ?_
                  refine g_iast (ws' := [(a_, .inr (5, [.int c_seconds, .int c_lead, .int c_ball, .ref a_fouls, .ref a_calls, .int c_rebound, .int c_law, .int c_draw, .int c_players, .ref a_side, .ref a_kind, .ref a_near, .ref a_far, .ref a_free, .int c_letters, .ref a_letter, .int c_at, .ref a_value, .int c_inRow, .ref a_row, .ref a_refusals, .int c_imaged, .ref a_image, .ref a_ahead, .ref a_guard, .ref a_worth])), (a_fouls, .inl (cI, 2, .inl (upd c_fouls (p1 - 3).toNatClampNeg p2))), (a_calls, .inl (cI, 2, .inl c_calls)), (a_refusals, .inl (cI, 7, .inl c_refusals))]) X 1 rfl (by rw [s101_3]; exact g_vinL (by decide)) dX5_set_212 rfl ?_
                  refine g_iload X 0 rfl dX5_set_213 ?_
                  exact g_iret X hAA hQQ (c_seconds, c_lead, c_ball, c_rebound, c_law, c_draw, upd c_fouls (p1 - 3).toNatClampNeg p2, c_calls, c_refusals) (heq.symm.trans hXX) [0, 1, 2, 3] rfl rfl hr dX5_set_215
                have heq := heq.trans (if_neg s101_3)
                by_cases s101_4 : p1 = 4
                · refine g_tsHit (k := 4) X 194 dX5_set_101 s101_4 (by decide) (by decide) rfl (by decide) ?_
                  have heq := heq.trans (if_pos s101_4)
                  refine g_aload_n X 1 rfl rfl dX5_set_194 ?_
                  refine g_get (C := RX5) (T := TX5) (N := 26) (ci := 5) X hi_X5_set_X5 0 rfl rfl 3 (by decide) (X.2.2.2.2.1 (.fieldLink RX5 7 "NineteenSecondsLeftModel" "fouls" "[I") (List.mem_of_getElem? (i := 4) rfl)) rfl rfl dX5_set_195 ?_
                  refine g_iload_n X 2 rfl rfl dX5_set_198 ?_
                  refine g_iconst (v := 3) X (by decide) dX5_set_199 ?_
                  refine g_isub X dX5_set_200 ?_
                  refine g_iald X 1 rfl (by rw [s101_4]; exact g_vinL (by decide)) dX5_set_201 ?_
                  refine g_istore (lv' := [(4, .int (c_fouls (p1 - 3).toNatClampNeg)), (3, .int 5), (0, .ref a_), (1, .int p1), (2, .int p2)]) X (by decide) rfl dX5_set_202 ?_
                  refine g_aload_n X 2 rfl rfl dX5_set_204 ?_
                  refine g_get (C := RX5) (T := TX5) (N := 26) (ci := 5) X hi_X5_set_X5 0 rfl rfl 3 (by decide) (X.2.2.2.2.1 (.fieldLink RX5 7 "NineteenSecondsLeftModel" "fouls" "[I") (List.mem_of_getElem? (i := 4) rfl)) rfl rfl dX5_set_205 ?_
                  refine g_iload_n X 3 rfl rfl dX5_set_208 ?_
                  refine g_iconst (v := 3) X (by decide) dX5_set_209 ?_
                  refine g_isub X dX5_set_210 ?_
                  refine g_iload_n X 4 rfl rfl dX5_set_211 ?_
                  refine g_iast (ws' := [(a_, .inr (5, [.int c_seconds, .int c_lead, .int c_ball, .ref a_fouls, .ref a_calls, .int c_rebound, .int c_law, .int c_draw, .int c_players, .ref a_side, .ref a_kind, .ref a_near, .ref a_far, .ref a_free, .int c_letters, .ref a_letter, .int c_at, .ref a_value, .int c_inRow, .ref a_row, .ref a_refusals, .int c_imaged, .ref a_image, .ref a_ahead, .ref a_guard, .ref a_worth])), (a_fouls, .inl (cI, 2, .inl (upd c_fouls (p1 - 3).toNatClampNeg p2))), (a_calls, .inl (cI, 2, .inl c_calls)), (a_refusals, .inl (cI, 7, .inl c_refusals))]) X 1 rfl (by rw [s101_4]; exact g_vinL (by decide)) dX5_set_212 rfl ?_
                  refine g_iload X 0 rfl dX5_set_213 ?_
                  exact g_iret X hAA hQQ (c_seconds, c_lead, c_ball, c_rebound, c_law, c_draw, upd c_fouls (p1 - 3).toNatClampNeg p2, c_calls, c_refusals) (heq.symm.trans hXX) [0, 1, 2, 3] rfl rfl hr dX5_set_215
                have heq := heq.trans (if_neg s101_4)
                by_cases s101_5 : p1 = 5
                · refine g_tsHit (k := 5) X 216 dX5_set_101 s101_5 (by decide) (by decide) rfl (by decide) ?_
                  have heq := heq.trans (if_pos s101_5)
                  refine g_aload_n X 1 rfl rfl dX5_set_216 ?_
                  refine g_get (C := RX5) (T := TX5) (N := 26) (ci := 5) X hi_X5_set_X5 0 rfl rfl 4 (by decide) (X.2.2.2.2.1 (.fieldLink RX5 13 "NineteenSecondsLeftModel" "calls" "[I") (List.mem_of_getElem? (i := 5) rfl)) rfl rfl dX5_set_217 ?_
                  refine g_iload_n X 2 rfl rfl dX5_set_220 ?_
                  refine g_iconst (v := 5) X (by decide) dX5_set_221 ?_
                  refine g_isub X dX5_set_222 ?_
                  refine g_iald X 2 rfl (by rw [s101_5]; exact g_vinL (by decide)) dX5_set_223 ?_
                  refine g_istore (lv' := [(4, .int (c_calls (p1 - 5).toNatClampNeg)), (3, .int 5), (0, .ref a_), (1, .int p1), (2, .int p2)]) X (by decide) rfl dX5_set_224 ?_
                  refine g_aload_n X 2 rfl rfl dX5_set_226 ?_
                  refine g_get (C := RX5) (T := TX5) (N := 26) (ci := 5) X hi_X5_set_X5 0 rfl rfl 4 (by decide) (X.2.2.2.2.1 (.fieldLink RX5 13 "NineteenSecondsLeftModel" "calls" "[I") (List.mem_of_getElem? (i := 5) rfl)) rfl rfl dX5_set_227 ?_
                  refine g_iload_n X 3 rfl rfl dX5_set_230 ?_
                  refine g_iconst (v := 5) X (by decide) dX5_set_231 ?_
                  refine g_isub X dX5_set_232 ?_
                  refine g_iload_n X 4 rfl rfl dX5_set_233 ?_
                  refine g_iast (ws' := [(a_, .inr (5, [.int c_seconds, .int c_lead, .int c_ball, .ref a_fouls, .ref a_calls, .int c_rebound, .int c_law, .int c_draw, .int c_players, .ref a_side, .ref a_kind, .ref a_near, .ref a_far, .ref a_free, .int c_letters, .ref a_letter, .int c_at, .ref a_value, .int c_inRow, .ref a_row, .ref a_refusals, .int c_imaged, .ref a_image, .ref a_ahead, .ref a_guard, .ref a_worth])), (a_fouls, .inl (cI, 2, .inl c_fouls)), (a_calls, .inl (cI, 2, .inl (upd c_calls (p1 - 5).toNatClampNeg p2))), (a_refusals, .inl (cI, 7, .inl c_refusals))]) X 2 rfl (by rw [s101_5]; exact g_vinL (by decide)) dX5_set_234 rfl ?_
                  refine g_iload X 0 rfl dX5_set_235 ?_
                  exact g_iret X hAA hQQ (c_seconds, c_lead, c_ball, c_rebound, c_law, c_draw, c_fouls, upd c_calls (p1 - 5).toNatClampNeg p2, c_refusals) (heq.symm.trans hXX) [0, 1, 2, 3] rfl rfl hr dX5_set_237
                have heq := heq.trans (if_neg s101_5)
                by_cases s101_6 : p1 = 6
                · refine g_tsHit (k := 6) X 216 dX5_set_101 s101_6 (by decide) (by decide) rfl (by decide) ?_
                  have heq := heq.trans (if_pos s101_6)
                  refine g_aload_n X 1 rfl rfl dX5_set_216 ?_
                  refine g_get (C := RX5) (T := TX5) (N := 26) (ci := 5) X hi_X5_set_X5 0 rfl rfl 4 (by decide) (X.2.2.2.2.1 (.fieldLink RX5 13 "NineteenSecondsLeftModel" "calls" "[I") (List.mem_of_getElem? (i := 5) rfl)) rfl rfl dX5_set_217 ?_
                  refine g_iload_n X 2 rfl rfl dX5_set_220 ?_
                  refine g_iconst (v := 5) X (by decide) dX5_set_221 ?_
                  refine g_isub X dX5_set_222 ?_
                  refine g_iald X 2 rfl (by rw [s101_6]; exact g_vinL (by decide)) dX5_set_223 ?_
                  refine g_istore (lv' := [(4, .int (c_calls (p1 - 5).toNatClampNeg)), (3, .int 5), (0, .ref a_), (1, .int p1), (2, .int p2)]) X (by decide) rfl dX5_set_224 ?_
                  refine g_aload_n X 2 rfl rfl dX5_set_226 ?_
                  refine g_get (C := RX5) (T := TX5) (N := 26) (ci := 5) X hi_X5_set_X5 0 rfl rfl 4 (by decide) (X.2.2.2.2.1 (.fieldLink RX5 13 "NineteenSecondsLeftModel" "calls" "[I") (List.mem_of_getElem? (i := 5) rfl)) rfl rfl dX5_set_227 ?_
                  refine g_iload_n X 3 rfl rfl dX5_set_230 ?_
                  refine g_iconst (v := 5) X (by decide) dX5_set_231 ?_
                  refine g_isub X dX5_set_232 ?_
                  refine g_iload_n X 4 rfl rfl dX5_set_233 ?_
                  refine g_iast (ws' := [(a_, .inr (5, [.int c_seconds, .int c_lead, .int c_ball, .ref a_fouls, .ref a_calls, .int c_rebound, .int c_law, .int c_draw, .int c_players, .ref a_side, .ref a_kind, .ref a_near, .ref a_far, .ref a_free, .int c_letters, .ref a_letter, .int c_at, .ref a_value, .int c_inRow, .ref a_row, .ref a_refusals, .int c_imaged, .ref a_image, .ref a_ahead, .ref a_guard, .ref a_worth])), (a_fouls, .inl (cI, 2, .inl c_fouls)), (a_calls, .inl (cI, 2, .inl (upd c_calls (p1 - 5).toNatClampNeg p2))), (a_refusals, .inl (cI, 7, .inl c_refusals))]) X 2 rfl (by rw [s101_6]; exact g_vinL (by decide)) dX5_set_234 rfl ?_
                  refine g_iload X 0 rfl dX5_set_235 ?_
                  exact g_iret X hAA hQQ (c_seconds, c_lead, c_ball, c_rebound, c_law, c_draw, c_fouls, upd c_calls (p1 - 5).toNatClampNeg p2, c_refusals) (heq.symm.trans hXX) [0, 1, 2, 3] rfl rfl hr dX5_set_237
                have heq := heq.trans (if_neg s101_6)
                by_cases s101_7 : p1 = 7
                · refine g_tsHit (k := 7) X 238 dX5_set_101 s101_7 (by decide) (by decide) rfl (by decide) ?_
                  have heq := heq.trans (if_pos s101_7)
                  refine g_aload_n X 1 rfl rfl dX5_set_238 ?_
                  refine g_get (C := RX5) (T := TX5) (N := 26) (ci := 5) X hi_X5_set_X5 0 rfl rfl 5 (by decide) (X.2.2.2.2.1 (.fieldLink RX5 62 "NineteenSecondsLeftModel" "rebound" "I") (List.mem_of_getElem? (i := 6) rfl)) rfl rfl dX5_set_239 ?_
                  refine g_istore (lv' := [(4, .int c_rebound), (3, .int 5), (0, .ref a_), (1, .int p1), (2, .int p2)]) X (by decide) rfl dX5_set_242 ?_
                  refine g_aload_n X 2 rfl rfl dX5_set_244 ?_
                  refine g_iload_n X 4 rfl rfl dX5_set_245 ?_
                  refine g_put (C := RX5) (T := TX5) (N := 26) (ci := 5) (ws' := [(a_, .inr (5, [.int c_seconds, .int c_lead, .int c_ball, .ref a_fouls, .ref a_calls, .int p2, .int c_law, .int c_draw, .int c_players, .ref a_side, .ref a_kind, .ref a_near, .ref a_far, .ref a_free, .int c_letters, .ref a_letter, .int c_at, .ref a_value, .int c_inRow, .ref a_row, .ref a_refusals, .int c_imaged, .ref a_image, .ref a_ahead, .ref a_guard, .ref a_worth])), (a_fouls, .inl (cI, 2, .inl c_fouls)), (a_calls, .inl (cI, 2, .inl c_calls)), (a_refusals, .inl (cI, 7, .inl c_refusals))]) X hi_X5_set_X5 tyX5 tyX5_ok nmX5 0 rfl rfl 5 (by decide) (X.2.2.2.2.1 (.fieldLink RX5 62 "NineteenSecondsLeftModel" "rebound" "I") (List.mem_of_getElem? (i := 6) rfl)) rfl rfl rfl rfl (Nat.le_of_ble_eq_true rfl) dX5_set_246 rfl ?_
                  refine g_iload X 0 rfl dX5_set_249 ?_
                  exact g_iret X hAA hQQ (c_seconds, c_lead, c_ball, p2, c_law, c_draw, c_fouls, c_calls, c_refusals) (heq.symm.trans hXX) [0, 1, 2, 3] rfl rfl hr dX5_set_251
                have heq := heq.trans (if_neg s101_7)
                by_cases s101_8 : p1 = 8
                · refine g_tsHit (k := 8) X 252 dX5_set_101 s101_8 (by decide) (by decide) rfl (by decide) ?_
                  have heq := heq.trans (if_pos s101_8)
                  refine g_aload_n X 1 rfl rfl dX5_set_252 ?_
                  refine g_get (C := RX5) (T := TX5) (N := 26) (ci := 5) X hi_X5_set_X5 0 rfl rfl 6 (by decide) (X.2.2.2.2.1 (.fieldLink RX5 104 "NineteenSecondsLeftModel" "law" "I") (List.mem_of_getElem? (i := 7) rfl)) rfl rfl dX5_set_253 ?_
                  refine g_istore (lv' := [(4, .int c_law), (3, .int 5), (0, .ref a_), (1, .int p1), (2, .int p2)]) X (by decide) rfl dX5_set_256 ?_
                  refine g_aload_n X 2 rfl rfl dX5_set_258 ?_
                  refine g_iload_n X 4 rfl rfl dX5_set_259 ?_
                  refine g_put (C := RX5) (T := TX5) (N := 26) (ci := 5) (ws' := [(a_, .inr (5, [.int c_seconds, .int c_lead, .int c_ball, .ref a_fouls, .ref a_calls, .int c_rebound, .int p2, .int c_draw, .int c_players, .ref a_side, .ref a_kind, .ref a_near, .ref a_far, .ref a_free, .int c_letters, .ref a_letter, .int c_at, .ref a_value, .int c_inRow, .ref a_row, .ref a_refusals, .int c_imaged, .ref a_image, .ref a_ahead, .ref a_guard, .ref a_worth])), (a_fouls, .inl (cI, 2, .inl c_fouls)), (a_calls, .inl (cI, 2, .inl c_calls)), (a_refusals, .inl (cI, 7, .inl c_refusals))]) X hi_X5_set_X5 tyX5 tyX5_ok nmX5 0 rfl rfl 6 (by decide) (X.2.2.2.2.1 (.fieldLink RX5 104 "NineteenSecondsLeftModel" "law" "I") (List.mem_of_getElem? (i := 7) rfl)) rfl rfl rfl rfl (Nat.le_of_ble_eq_true rfl) dX5_set_260 rfl ?_
                  refine g_iload X 0 rfl dX5_set_263 ?_
                  exact g_iret X hAA hQQ (c_seconds, c_lead, c_ball, c_rebound, p2, c_draw, c_fouls, c_calls, c_refusals) (heq.symm.trans hXX) [0, 1, 2, 3] rfl rfl hr dX5_set_265
                have heq := heq.trans (if_neg s101_8)
                refine g_tsDef X 266 [0, 1, 2, 3, 4, 5, 6, 7, 8] dX5_set_101 (g_neC c29 (g_neC c39 (g_neC c49 (g_neC s101_3 (g_neC s101_4 (g_neC s101_5 (g_neC s101_6 (g_neC s101_7 (g_ne1 s101_8))))))))) (by decide) (by decide) (by decide) ?_
                refine g_aload_n X 1 rfl rfl dX5_set_266 ?_
                refine g_get (C := RX5) (T := TX5) (N := 26) (ci := 5) X hi_X5_set_X5 0 rfl rfl 7 (by decide) (X.2.2.2.2.1 (.fieldLink RX5 65 "NineteenSecondsLeftModel" "draw" "I") (List.mem_of_getElem? (i := 8) rfl)) rfl rfl dX5_set_267 ?_
                refine g_istore (lv' := [(4, .int c_draw), (3, .int 5), (0, .ref a_), (1, .int p1), (2, .int p2)]) X (by decide) rfl dX5_set_270 ?_
                refine g_aload_n X 2 rfl rfl dX5_set_272 ?_
                refine g_iload_n X 4 rfl rfl dX5_set_273 ?_
                refine g_put (C := RX5) (T := TX5) (N := 26) (ci := 5) (ws' := [(a_, .inr (5, [.int c_seconds, .int c_lead, .int c_ball, .ref a_fouls, .ref a_calls, .int c_rebound, .int c_law, .int p2, .int c_players, .ref a_side, .ref a_kind, .ref a_near, .ref a_far, .ref a_free, .int c_letters, .ref a_letter, .int c_at, .ref a_value, .int c_inRow, .ref a_row, .ref a_refusals, .int c_imaged, .ref a_image, .ref a_ahead, .ref a_guard, .ref a_worth])), (a_fouls, .inl (cI, 2, .inl c_fouls)), (a_calls, .inl (cI, 2, .inl c_calls)), (a_refusals, .inl (cI, 7, .inl c_refusals))]) X hi_X5_set_X5 tyX5 tyX5_ok nmX5 0 rfl rfl 7 (by decide) (X.2.2.2.2.1 (.fieldLink RX5 65 "NineteenSecondsLeftModel" "draw" "I") (List.mem_of_getElem? (i := 8) rfl)) rfl rfl rfl rfl (Nat.le_of_ble_eq_true rfl) dX5_set_274 rfl ?_
                refine g_iload X 0 rfl dX5_set_277 ?_
                exact g_iret X hAA hQQ (c_seconds, c_lead, c_ball, c_rebound, c_law, p2, c_fouls, c_calls, c_refusals) (heq.symm.trans hXX) [0, 1, 2, 3] rfl rfl hr dX5_set_279
              · have heq := heq.trans (if_neg c90)
                refine g_aload_n X 1 rfl rfl dX5_set_93 ?_
                refine g_bipush (v := (-6)) X (by decide) dX5_set_94 ?_
                refine g_callVi (C := RX5) (T := TX5) (N := 26) (ci := 5) (As := [.int (-6)]) (st := []) (wr := [(a_fouls, .inl (cI, 2, .inl c_fouls)), (a_calls, .inl (cI, 2, .inl c_calls))]) X (k_X5_no l D cI kA kV a_ a_fouls a_calls a_side a_kind a_near a_far a_free a_letter a_value a_row a_refusals a_image a_ahead a_guard a_worth c_seconds c_lead c_ball c_rebound c_law c_draw c_players c_letters c_at c_inRow c_imaged c_refusals (-6) (by decide) (by decide)) (cwV 1 X.2.2.2.2.1 gX5_set_X5_no rfl rfl rfl (by decide +kernel) ⟨Nat.le_of_ble_eq_true rfl, Nat.le_of_ble_eq_true rfl⟩) 0 rfl rfl [0, 3] [1, 2] rfl rfl rfl rfl (by decide) rfl (Nat.le_of_ble_eq_true rfl) ⟨Nat.le_of_ble_eq_true rfl, Nat.le_of_ble_eq_true rfl⟩ dX5_set_96 rfl (fun r96 u96 hw96 => ?_)
                refine g_eqs (ws' := [(a_fouls, .inl (cI, 2, .inl c_fouls)), (a_calls, .inl (cI, 2, .inl c_calls)), (a_, .inr (5, [.int c_seconds, .int c_lead, .int c_ball, .ref a_fouls, .ref a_calls, .int c_rebound, .int c_law, .int c_draw, .int c_players, .ref a_side, .ref a_kind, .ref a_near, .ref a_far, .ref a_free, .int c_letters, .ref a_letter, .int c_at, .ref a_value, .int c_inRow, .ref a_row, .ref a_refusals, .int c_imaged, .ref a_image, .ref a_ahead, .ref a_guard, .ref a_worth])), (a_refusals, .inl (cI, 7, .inl u96))]) rfl ?_
                have heq := g_let2 heq hw96
                exact g_iret X hAA hQQ (c_seconds, c_lead, c_ball, c_rebound, c_law, c_draw, c_fouls, c_calls, u96) (heq.symm.trans hXX) [2, 0, 1, 3] rfl rfl hr dX5_set_99
          · have heq := heq.trans (if_pos c49)
            refine g_iconst (v := 1) X (by decide) dX5_set_52 ?_
            refine g_goto (tgt := 87) X (by decide) dX5_set_53 ?_
            refine g_istore_n (lv' := [(3, .int 1), (0, .ref a_), (1, .int p1), (2, .int p2)]) X rfl (by decide) rfl dX5_set_87 ?_
            refine g_iload_n X 3 rfl rfl dX5_set_88 ?_
            refine g_iload_n X 0 rfl rfl dX5_set_89 ?_
            refine g_icmp_le X 100 dX5_set_90 (by decide) (fun c90 => ?_) (fun c90 => ?_)
            · have heq := heq.trans (if_pos c90)
              refine g_iload_n X 2 rfl rfl dX5_set_100 ?_
              refine g_tsHit (k := 2) X 180 dX5_set_101 c49 (by decide) (by decide) rfl (by decide) ?_
              refine g_aload_n X 1 rfl rfl dX5_set_180 ?_
              refine g_get (C := RX5) (T := TX5) (N := 26) (ci := 5) X hi_X5_set_X5 0 rfl rfl 2 (by decide) (X.2.2.2.2.1 (.fieldLink RX5 101 "NineteenSecondsLeftModel" "ball" "I") (List.mem_of_getElem? (i := 3) rfl)) rfl rfl dX5_set_181 ?_
              refine g_istore (lv' := [(4, .int c_ball), (3, .int 1), (0, .ref a_), (1, .int p1), (2, .int p2)]) X (by decide) rfl dX5_set_184 ?_
              refine g_aload_n X 2 rfl rfl dX5_set_186 ?_
              refine g_iload_n X 4 rfl rfl dX5_set_187 ?_
              refine g_put (C := RX5) (T := TX5) (N := 26) (ci := 5) (ws' := [(a_, .inr (5, [.int c_seconds, .int c_lead, .int p2, .ref a_fouls, .ref a_calls, .int c_rebound, .int c_law, .int c_draw, .int c_players, .ref a_side, .ref a_kind, .ref a_near, .ref a_far, .ref a_free, .int c_letters, .ref a_letter, .int c_at, .ref a_value, .int c_inRow, .ref a_row, .ref a_refusals, .int c_imaged, .ref a_image, .ref a_ahead, .ref a_guard, .ref a_worth])), (a_fouls, .inl (cI, 2, .inl c_fouls)), (a_calls, .inl (cI, 2, .inl c_calls)), (a_refusals, .inl (cI, 7, .inl c_refusals))]) X hi_X5_set_X5 tyX5 tyX5_ok nmX5 0 rfl rfl 2 (by decide) (X.2.2.2.2.1 (.fieldLink RX5 101 "NineteenSecondsLeftModel" "ball" "I") (List.mem_of_getElem? (i := 3) rfl)) rfl rfl rfl rfl (Nat.le_of_ble_eq_true rfl) dX5_set_188 rfl ?_
              refine g_iload X 0 rfl dX5_set_191 ?_
              exact g_iret X hAA hQQ (c_seconds, c_lead, p2, c_rebound, c_law, c_draw, c_fouls, c_calls, c_refusals) (heq.symm.trans hXX) [0, 1, 2, 3] rfl rfl hr dX5_set_193
            · have heq := heq.trans (if_neg c90)
              refine g_aload_n X 1 rfl rfl dX5_set_93 ?_
              refine g_bipush (v := (-6)) X (by decide) dX5_set_94 ?_
              refine g_callVi (C := RX5) (T := TX5) (N := 26) (ci := 5) (As := [.int (-6)]) (st := []) (wr := [(a_fouls, .inl (cI, 2, .inl c_fouls)), (a_calls, .inl (cI, 2, .inl c_calls))]) X (k_X5_no l D cI kA kV a_ a_fouls a_calls a_side a_kind a_near a_far a_free a_letter a_value a_row a_refusals a_image a_ahead a_guard a_worth c_seconds c_lead c_ball c_rebound c_law c_draw c_players c_letters c_at c_inRow c_imaged c_refusals (-6) (by decide) (by decide)) (cwV 1 X.2.2.2.2.1 gX5_set_X5_no rfl rfl rfl (by decide +kernel) ⟨Nat.le_of_ble_eq_true rfl, Nat.le_of_ble_eq_true rfl⟩) 0 rfl rfl [0, 3] [1, 2] rfl rfl rfl rfl (by decide) rfl (Nat.le_of_ble_eq_true rfl) ⟨Nat.le_of_ble_eq_true rfl, Nat.le_of_ble_eq_true rfl⟩ dX5_set_96 rfl (fun r96 u96 hw96 => ?_)
              refine g_eqs (ws' := [(a_fouls, .inl (cI, 2, .inl c_fouls)), (a_calls, .inl (cI, 2, .inl c_calls)), (a_, .inr (5, [.int c_seconds, .int c_lead, .int c_ball, .ref a_fouls, .ref a_calls, .int c_rebound, .int c_law, .int c_draw, .int c_players, .ref a_side, .ref a_kind, .ref a_near, .ref a_far, .ref a_free, .int c_letters, .ref a_letter, .int c_at, .ref a_value, .int c_inRow, .ref a_row, .ref a_refusals, .int c_imaged, .ref a_image, .ref a_ahead, .ref a_guard, .ref a_worth])), (a_refusals, .inl (cI, 7, .inl u96))]) rfl ?_
              have heq := g_let2 heq hw96
              exact g_iret X hAA hQQ (c_seconds, c_lead, c_ball, c_rebound, c_law, c_draw, c_fouls, c_calls, u96) (heq.symm.trans hXX) [2, 0, 1, 3] rfl rfl hr dX5_set_99
        · have heq := heq.trans (if_pos c39)
          refine g_bipush (v := 12) X (by decide) dX5_set_42 ?_
          refine g_goto (tgt := 87) X (by decide) dX5_set_44 ?_
          refine g_istore_n (lv' := [(3, .int 12), (0, .ref a_), (1, .int p1), (2, .int p2)]) X rfl (by decide) rfl dX5_set_87 ?_
          refine g_iload_n X 3 rfl rfl dX5_set_88 ?_
          refine g_iload_n X 0 rfl rfl dX5_set_89 ?_
          refine g_icmp_le X 100 dX5_set_90 (by decide) (fun c90 => ?_) (fun c90 => ?_)
          · have heq := heq.trans (if_pos c90)
            refine g_iload_n X 2 rfl rfl dX5_set_100 ?_
            refine g_tsHit (k := 1) X 166 dX5_set_101 c39 (by decide) (by decide) rfl (by decide) ?_
            refine g_aload_n X 1 rfl rfl dX5_set_166 ?_
            refine g_get (C := RX5) (T := TX5) (N := 26) (ci := 5) X hi_X5_set_X5 0 rfl rfl 1 (by decide) (X.2.2.2.2.1 (.fieldLink RX5 59 "NineteenSecondsLeftModel" "lead" "I") (List.mem_of_getElem? (i := 2) rfl)) rfl rfl dX5_set_167 ?_
            refine g_istore (lv' := [(4, .int c_lead), (3, .int 12), (0, .ref a_), (1, .int p1), (2, .int p2)]) X (by decide) rfl dX5_set_170 ?_
            refine g_aload_n X 2 rfl rfl dX5_set_172 ?_
            refine g_iload_n X 4 rfl rfl dX5_set_173 ?_
            refine g_put (C := RX5) (T := TX5) (N := 26) (ci := 5) (ws' := [(a_, .inr (5, [.int c_seconds, .int p2, .int c_ball, .ref a_fouls, .ref a_calls, .int c_rebound, .int c_law, .int c_draw, .int c_players, .ref a_side, .ref a_kind, .ref a_near, .ref a_far, .ref a_free, .int c_letters, .ref a_letter, .int c_at, .ref a_value, .int c_inRow, .ref a_row, .ref a_refusals, .int c_imaged, .ref a_image, .ref a_ahead, .ref a_guard, .ref a_worth])), (a_fouls, .inl (cI, 2, .inl c_fouls)), (a_calls, .inl (cI, 2, .inl c_calls)), (a_refusals, .inl (cI, 7, .inl c_refusals))]) X hi_X5_set_X5 tyX5 tyX5_ok nmX5 0 rfl rfl 1 (by decide) (X.2.2.2.2.1 (.fieldLink RX5 59 "NineteenSecondsLeftModel" "lead" "I") (List.mem_of_getElem? (i := 2) rfl)) rfl rfl rfl rfl (Nat.le_of_ble_eq_true rfl) dX5_set_174 rfl ?_
            refine g_iload X 0 rfl dX5_set_177 ?_
            exact g_iret X hAA hQQ (c_seconds, p2, c_ball, c_rebound, c_law, c_draw, c_fouls, c_calls, c_refusals) (heq.symm.trans hXX) [0, 1, 2, 3] rfl rfl hr dX5_set_179
          · have heq := heq.trans (if_neg c90)
            refine g_aload_n X 1 rfl rfl dX5_set_93 ?_
            refine g_bipush (v := (-6)) X (by decide) dX5_set_94 ?_
            refine g_callVi (C := RX5) (T := TX5) (N := 26) (ci := 5) (As := [.int (-6)]) (st := []) (wr := [(a_fouls, .inl (cI, 2, .inl c_fouls)), (a_calls, .inl (cI, 2, .inl c_calls))]) X (k_X5_no l D cI kA kV a_ a_fouls a_calls a_side a_kind a_near a_far a_free a_letter a_value a_row a_refusals a_image a_ahead a_guard a_worth c_seconds c_lead c_ball c_rebound c_law c_draw c_players c_letters c_at c_inRow c_imaged c_refusals (-6) (by decide) (by decide)) (cwV 1 X.2.2.2.2.1 gX5_set_X5_no rfl rfl rfl (by decide +kernel) ⟨Nat.le_of_ble_eq_true rfl, Nat.le_of_ble_eq_true rfl⟩) 0 rfl rfl [0, 3] [1, 2] rfl rfl rfl rfl (by decide) rfl (Nat.le_of_ble_eq_true rfl) ⟨Nat.le_of_ble_eq_true rfl, Nat.le_of_ble_eq_true rfl⟩ dX5_set_96 rfl (fun r96 u96 hw96 => ?_)
            refine g_eqs (ws' := [(a_fouls, .inl (cI, 2, .inl c_fouls)), (a_calls, .inl (cI, 2, .inl c_calls)), (a_, .inr (5, [.int c_seconds, .int c_lead, .int c_ball, .ref a_fouls, .ref a_calls, .int c_rebound, .int c_law, .int c_draw, .int c_players, .ref a_side, .ref a_kind, .ref a_near, .ref a_far, .ref a_free, .int c_letters, .ref a_letter, .int c_at, .ref a_value, .int c_inRow, .ref a_row, .ref a_refusals, .int c_imaged, .ref a_image, .ref a_ahead, .ref a_guard, .ref a_worth])), (a_refusals, .inl (cI, 7, .inl u96))]) rfl ?_
            have heq := g_let2 heq hw96
            exact g_iret X hAA hQQ (c_seconds, c_lead, c_ball, c_rebound, c_law, c_draw, c_fouls, c_calls, u96) (heq.symm.trans hXX) [2, 0, 1, 3] rfl rfl hr dX5_set_99
      · have heq := heq.trans (if_pos c29)
        refine g_bipush (v := 24) X (by decide) dX5_set_32 ?_
        refine g_goto (tgt := 87) X (by decide) dX5_set_34 ?_
        refine g_istore_n (lv' := [(3, .int 24), (0, .ref a_), (1, .int p1), (2, .int p2)]) X rfl (by decide) rfl dX5_set_87 ?_
        refine g_iload_n X 3 rfl rfl dX5_set_88 ?_
        refine g_iload_n X 0 rfl rfl dX5_set_89 ?_
        refine g_icmp_le X 100 dX5_set_90 (by decide) (fun c90 => ?_) (fun c90 => ?_)
        · have heq := heq.trans (if_pos c90)
          refine g_iload_n X 2 rfl rfl dX5_set_100 ?_
          refine g_tsHit (k := 0) X 152 dX5_set_101 c29 (by decide) (by decide) rfl (by decide) ?_
          refine g_aload_n X 1 rfl rfl dX5_set_152 ?_
          refine g_get (C := RX5) (T := TX5) (N := 26) (ci := 5) X hi_X5_set_X5 0 rfl rfl 0 (by decide) (X.2.2.2.2.1 (.fieldLink RX5 55 "NineteenSecondsLeftModel" "seconds" "I") (List.mem_of_getElem? (i := 1) rfl)) rfl rfl dX5_set_153 ?_
          refine g_istore (lv' := [(4, .int c_seconds), (3, .int 24), (0, .ref a_), (1, .int p1), (2, .int p2)]) X (by decide) rfl dX5_set_156 ?_
          refine g_aload_n X 2 rfl rfl dX5_set_158 ?_
          refine g_iload_n X 4 rfl rfl dX5_set_159 ?_
          refine g_put (C := RX5) (T := TX5) (N := 26) (ci := 5) (ws' := [(a_, .inr (5, [.int p2, .int c_lead, .int c_ball, .ref a_fouls, .ref a_calls, .int c_rebound, .int c_law, .int c_draw, .int c_players, .ref a_side, .ref a_kind, .ref a_near, .ref a_far, .ref a_free, .int c_letters, .ref a_letter, .int c_at, .ref a_value, .int c_inRow, .ref a_row, .ref a_refusals, .int c_imaged, .ref a_image, .ref a_ahead, .ref a_guard, .ref a_worth])), (a_fouls, .inl (cI, 2, .inl c_fouls)), (a_calls, .inl (cI, 2, .inl c_calls)), (a_refusals, .inl (cI, 7, .inl c_refusals))]) X hi_X5_set_X5 tyX5 tyX5_ok nmX5 0 rfl rfl 0 (by decide) (X.2.2.2.2.1 (.fieldLink RX5 55 "NineteenSecondsLeftModel" "seconds" "I") (List.mem_of_getElem? (i := 1) rfl)) rfl rfl rfl rfl (Nat.le_of_ble_eq_true rfl) dX5_set_160 rfl ?_
          refine g_iload X 0 rfl dX5_set_163 ?_
          exact g_iret X hAA hQQ (p2, c_lead, c_ball, c_rebound, c_law, c_draw, c_fouls, c_calls, c_refusals) (heq.symm.trans hXX) [0, 1, 2, 3] rfl rfl hr dX5_set_165
        · have heq := heq.trans (if_neg c90)
          refine g_aload_n X 1 rfl rfl dX5_set_93 ?_
          refine g_bipush (v := (-6)) X (by decide) dX5_set_94 ?_
          refine g_callVi (C := RX5) (T := TX5) (N := 26) (ci := 5) (As := [.int (-6)]) (st := []) (wr := [(a_fouls, .inl (cI, 2, .inl c_fouls)), (a_calls, .inl (cI, 2, .inl c_calls))]) X (k_X5_no l D cI kA kV a_ a_fouls a_calls a_side a_kind a_near a_far a_free a_letter a_value a_row a_refusals a_image a_ahead a_guard a_worth c_seconds c_lead c_ball c_rebound c_law c_draw c_players c_letters c_at c_inRow c_imaged c_refusals (-6) (by decide) (by decide)) (cwV 1 X.2.2.2.2.1 gX5_set_X5_no rfl rfl rfl (by decide +kernel) ⟨Nat.le_of_ble_eq_true rfl, Nat.le_of_ble_eq_true rfl⟩) 0 rfl rfl [0, 3] [1, 2] rfl rfl rfl rfl (by decide) rfl (Nat.le_of_ble_eq_true rfl) ⟨Nat.le_of_ble_eq_true rfl, Nat.le_of_ble_eq_true rfl⟩ dX5_set_96 rfl (fun r96 u96 hw96 => ?_)
          refine g_eqs (ws' := [(a_fouls, .inl (cI, 2, .inl c_fouls)), (a_calls, .inl (cI, 2, .inl c_calls)), (a_, .inr (5, [.int c_seconds, .int c_lead, .int c_ball, .ref a_fouls, .ref a_calls, .int c_rebound, .int c_law, .int c_draw, .int c_players, .ref a_side, .ref a_kind, .ref a_near, .ref a_far, .ref a_free, .int c_letters, .ref a_letter, .int c_at, .ref a_value, .int c_inRow, .ref a_row, .ref a_refusals, .int c_imaged, .ref a_image, .ref a_ahead, .ref a_guard, .ref a_worth])), (a_refusals, .inl (cI, 7, .inl u96))]) rfl ?_
          have heq := g_let2 heq hw96
          exact g_iret X hAA hQQ (c_seconds, c_lead, c_ball, c_rebound, c_law, c_draw, c_fouls, c_calls, u96) (heq.symm.trans hXX) [2, 0, 1, 3] rfl rfl hr dX5_set_99
    · have heq := heq.trans (if_neg c18)
      refine g_aload_n X 0 rfl rfl dX5_set_21 ?_
      refine g_bipush (v := (-4)) X (by decide) dX5_set_22 ?_
      refine g_callVi (C := RX5) (T := TX5) (N := 26) (ci := 5) (As := [.int (-4)]) (st := []) (wr := [(a_fouls, .inl (cI, 2, .inl c_fouls)), (a_calls, .inl (cI, 2, .inl c_calls))]) X (k_X5_no l D cI kA kV a_ a_fouls a_calls a_side a_kind a_near a_far a_free a_letter a_value a_row a_refusals a_image a_ahead a_guard a_worth c_seconds c_lead c_ball c_rebound c_law c_draw c_players c_letters c_at c_inRow c_imaged c_refusals (-4) (by decide) (by decide)) (cwV 1 X.2.2.2.2.1 gX5_set_X5_no rfl rfl rfl (by decide +kernel) ⟨Nat.le_of_ble_eq_true rfl, Nat.le_of_ble_eq_true rfl⟩) 0 rfl rfl [0, 3] [1, 2] rfl rfl rfl rfl (by decide) rfl (Nat.le_of_ble_eq_true rfl) ⟨Nat.le_of_ble_eq_true rfl, Nat.le_of_ble_eq_true rfl⟩ dX5_set_24 rfl (fun r24 u24 hw24 => ?_)
      refine g_eqs (ws' := [(a_fouls, .inl (cI, 2, .inl c_fouls)), (a_calls, .inl (cI, 2, .inl c_calls)), (a_, .inr (5, [.int c_seconds, .int c_lead, .int c_ball, .ref a_fouls, .ref a_calls, .int c_rebound, .int c_law, .int c_draw, .int c_players, .ref a_side, .ref a_kind, .ref a_near, .ref a_far, .ref a_free, .int c_letters, .ref a_letter, .int c_at, .ref a_value, .int c_inRow, .ref a_row, .ref a_refusals, .int c_imaged, .ref a_image, .ref a_ahead, .ref a_guard, .ref a_worth])), (a_refusals, .inl (cI, 7, .inl u24))]) rfl ?_
      have heq := g_let2 heq hw24
      exact g_iret X hAA hQQ (c_seconds, c_lead, c_ball, c_rebound, c_law, c_draw, c_fouls, c_calls, u24) (heq.symm.trans hXX) [2, 0, 1, 3] rfl rfl hr dX5_set_27
  · have heq := heq.trans (if_pos c7)
    refine g_aload_n X 0 rfl rfl dX5_set_10 ?_
    refine g_bipush (v := (-2)) X (by decide) dX5_set_11 ?_
    refine g_callVi (C := RX5) (T := TX5) (N := 26) (ci := 5) (As := [.int (-2)]) (st := []) (wr := [(a_fouls, .inl (cI, 2, .inl c_fouls)), (a_calls, .inl (cI, 2, .inl c_calls))]) X (k_X5_no l D cI kA kV a_ a_fouls a_calls a_side a_kind a_near a_far a_free a_letter a_value a_row a_refusals a_image a_ahead a_guard a_worth c_seconds c_lead c_ball c_rebound c_law c_draw c_players c_letters c_at c_inRow c_imaged c_refusals (-2) (by decide) (by decide)) (cwV 1 X.2.2.2.2.1 gX5_set_X5_no rfl rfl rfl (by decide +kernel) ⟨Nat.le_of_ble_eq_true rfl, Nat.le_of_ble_eq_true rfl⟩) 0 rfl rfl [0, 3] [1, 2] rfl rfl rfl rfl (by decide) rfl (Nat.le_of_ble_eq_true rfl) ⟨Nat.le_of_ble_eq_true rfl, Nat.le_of_ble_eq_true rfl⟩ dX5_set_13 rfl (fun r13 u13 hw13 => ?_)
    refine g_eqs (ws' := [(a_fouls, .inl (cI, 2, .inl c_fouls)), (a_calls, .inl (cI, 2, .inl c_calls)), (a_, .inr (5, [.int c_seconds, .int c_lead, .int c_ball, .ref a_fouls, .ref a_calls, .int c_rebound, .int c_law, .int c_draw, .int c_players, .ref a_side, .ref a_kind, .ref a_near, .ref a_far, .ref a_free, .int c_letters, .ref a_letter, .int c_at, .ref a_value, .int c_inRow, .ref a_row, .ref a_refusals, .int c_imaged, .ref a_image, .ref a_ahead, .ref a_guard, .ref a_worth])), (a_refusals, .inl (cI, 7, .inl u13))]) rfl ?_
    have heq := g_let2 heq hw13
    exact g_iret X hAA hQQ (c_seconds, c_lead, c_ball, c_rebound, c_law, c_draw, c_fouls, c_calls, u13) (heq.symm.trans hXX) [2, 0, 1, 3] rfl rfl hr dX5_set_16

theorem hi_X5_ended_X5 : ∀ w ∈ wsX50, w ∈ wsX5_ended := fun w h => List.mem_cons_of_mem _ (List.mem_append_right _ (h))
def f_X5_ended (c_law : Int32) (p1 : Int32) (p2 : Int32) : Int32 :=
  (if p1 = 0 then 1 else (if c_law = 1 then (if 8 < p2 then 1 else (if 4 ≤ p2 then 0 else 1)) else 0))
set_option maxHeartbeats 4000000 in
set_option maxRecDepth 100000 in
theorem k_X5_ended (l : Launch) (D : va_G) (cI : ClassId) (kA kV : Nat → Nat) (a_ a_fouls a_calls a_side a_kind a_near a_far a_free a_letter a_value a_row a_refusals a_image a_ahead a_guard a_worth : Nat) (c_seconds : Int32) (c_lead : Int32) (c_ball : Int32) (c_rebound : Int32) (c_law : Int32) (c_draw : Int32) (c_players : Int32) (c_letters : Int32) (c_at : Int32) (c_inRow : Int32) (c_imaged : Int32) (p1 : Int32) (p2 : Int32) :
    g_MI l D cI kA kV yX5_ended wsX5_ended { frames := 0, cells := 0, slots := 0, locals := 0 } [.ref a_, .int p1, .int p2] [(a_, .inr (5, [.int c_seconds, .int c_lead, .int c_ball, .ref a_fouls, .ref a_calls, .int c_rebound, .int c_law, .int c_draw, .int c_players, .ref a_side, .ref a_kind, .ref a_near, .ref a_far, .ref a_free, .int c_letters, .ref a_letter, .int c_at, .ref a_value, .int c_inRow, .ref a_row, .ref a_refusals, .int c_imaged, .ref a_image, .ref a_ahead, .ref a_guard, .ref a_worth]))] (fun u : Unit => [(a_, .inr (5, [.int c_seconds, .int c_lead, .int c_ball, .ref a_fouls, .ref a_calls, .int c_rebound, .int c_law, .int c_draw, .int c_players, .ref a_side, .ref a_kind, .ref a_near, .ref a_far, .ref a_free, .int c_letters, .ref a_letter, .int c_at, .ref a_value, .int c_inRow, .ref a_row, .ref a_refusals, .int c_imaged, .ref a_image, .ref a_ahead, .ref a_guard, .ref a_worth]))]) (fun (r : Int32) (u : Unit) => r = f_X5_ended c_law p1 p2) := by
  obtain ⟨XX, hXX⟩ : ∃ z, z = f_X5_ended c_law p1 p2 := ⟨_, rfl⟩
  have heq := hXX.trans (f_X5_ended.eq_def c_law p1 p2)
  refine g_startI (lv := [(0, .ref a_), (1, .int p1), (2, .int p2)]) RX5 rfl rfl rfl (Nat.le_of_ble_eq_true rfl) rfl (fun p e s m args below meth c AA QQ hAA hQQ X hr hmn => ?_)
  refine g_iload_n X 1 rfl rfl dX5_ended_0 ?_
  refine g_if_eq X 23 dX5_ended_1 (by decide) (fun c1 => ?_) (fun c1 => ?_)
  · have heq := heq.trans (if_pos c1)
    refine g_iconst (v := 1) X (by decide) dX5_ended_23 ?_
    refine g_goto (tgt := 28) X (by decide) dX5_ended_24 ?_
    exact g_zret X hAA hQQ () (heq.symm.trans hXX) [0] rfl rfl hr rfl dX5_ended_28
  · have heq := heq.trans (if_neg c1)
    refine g_aload_n X 0 rfl rfl dX5_ended_4 ?_
    refine g_get (C := RX5) (T := TX5) (N := 26) (ci := 5) X hi_X5_ended_X5 0 rfl rfl 6 (by decide) (X.2.2.2.2.1 (.fieldLink RX5 104 "NineteenSecondsLeftModel" "law" "I") (List.mem_of_getElem? (i := 1) rfl)) rfl rfl dX5_ended_5 ?_
    refine g_iconst (v := 1) X (by decide) dX5_ended_8 ?_
    refine g_icmp_ne X 27 dX5_ended_9 (by decide) (fun c9 => ?_) (fun c9 => ?_)
    · have heq := heq.trans (if_neg c9)
      refine g_iconst (v := 0) X (by decide) dX5_ended_27 ?_
      exact g_zret X hAA hQQ () (heq.symm.trans hXX) [0] rfl rfl hr rfl dX5_ended_28
    · have heq := heq.trans (if_pos c9)
      refine g_iload_n X 2 rfl rfl dX5_ended_12 ?_
      refine g_bipush (v := 8) X (by decide) dX5_ended_13 ?_
      refine g_icmp_gt X 23 dX5_ended_15 (by decide) (fun c15 => ?_) (fun c15 => ?_)
      · have heq := heq.trans (if_pos c15)
        refine g_iconst (v := 1) X (by decide) dX5_ended_23 ?_
        refine g_goto (tgt := 28) X (by decide) dX5_ended_24 ?_
        exact g_zret X hAA hQQ () (heq.symm.trans hXX) [0] rfl rfl hr rfl dX5_ended_28
      · have heq := heq.trans (if_neg c15)
        refine g_iload_n X 2 rfl rfl dX5_ended_18 ?_
        refine g_iconst (v := 4) X (by decide) dX5_ended_19 ?_
        refine g_icmp_ge X 27 dX5_ended_20 (by decide) (fun c20 => ?_) (fun c20 => ?_)
        · have heq := heq.trans (if_pos c20)
          refine g_iconst (v := 0) X (by decide) dX5_ended_27 ?_
          exact g_zret X hAA hQQ () (heq.symm.trans hXX) [0] rfl rfl hr rfl dX5_ended_28
        · have heq := heq.trans (if_neg c20)
          refine g_iconst (v := 1) X (by decide) dX5_ended_23 ?_
          refine g_goto (tgt := 28) X (by decide) dX5_ended_24 ?_
          exact g_zret X hAA hQQ () (heq.symm.trans hXX) [0] rfl rfl hr rfl dX5_ended_28

theorem hi_X5_atEnd_X5 : ∀ w ∈ wsX50, w ∈ wsX5_atEnd := fun w h => List.mem_cons_of_mem _ (List.mem_append_right _ (h))
def f_X5_atEnd (c_draw : Int32) (p1 : Int32) : Int32 :=
  (if p1 ≤ 6 then (if p1 = 6 then 100000000 * c_draw else 0) else 1000000000)
set_option maxHeartbeats 4000000 in
set_option maxRecDepth 100000 in
theorem k_X5_atEnd (l : Launch) (D : va_G) (cI : ClassId) (kA kV : Nat → Nat) (a_ a_fouls a_calls a_side a_kind a_near a_far a_free a_letter a_value a_row a_refusals a_image a_ahead a_guard a_worth : Nat) (c_seconds : Int32) (c_lead : Int32) (c_ball : Int32) (c_rebound : Int32) (c_law : Int32) (c_draw : Int32) (c_players : Int32) (c_letters : Int32) (c_at : Int32) (c_inRow : Int32) (c_imaged : Int32) (p1 : Int32) :
    g_MI l D cI kA kV yX5_atEnd wsX5_atEnd { frames := 0, cells := 0, slots := 0, locals := 0 } [.ref a_, .int p1] [(a_, .inr (5, [.int c_seconds, .int c_lead, .int c_ball, .ref a_fouls, .ref a_calls, .int c_rebound, .int c_law, .int c_draw, .int c_players, .ref a_side, .ref a_kind, .ref a_near, .ref a_far, .ref a_free, .int c_letters, .ref a_letter, .int c_at, .ref a_value, .int c_inRow, .ref a_row, .ref a_refusals, .int c_imaged, .ref a_image, .ref a_ahead, .ref a_guard, .ref a_worth]))] (fun u : Unit => [(a_, .inr (5, [.int c_seconds, .int c_lead, .int c_ball, .ref a_fouls, .ref a_calls, .int c_rebound, .int c_law, .int c_draw, .int c_players, .ref a_side, .ref a_kind, .ref a_near, .ref a_far, .ref a_free, .int c_letters, .ref a_letter, .int c_at, .ref a_value, .int c_inRow, .ref a_row, .ref a_refusals, .int c_imaged, .ref a_image, .ref a_ahead, .ref a_guard, .ref a_worth]))]) (fun (r : Int32) (u : Unit) => r = f_X5_atEnd c_draw p1) := by
  obtain ⟨XX, hXX⟩ : ∃ z, z = f_X5_atEnd c_draw p1 := ⟨_, rfl⟩
  have heq := hXX.trans (f_X5_atEnd.eq_def c_draw p1)
  refine g_startI (lv := [(0, .ref a_), (1, .int p1)]) RX5 rfl rfl rfl (Nat.le_of_ble_eq_true rfl) rfl (fun p e s m args below meth c AA QQ hAA hQQ X hr hmn => ?_)
  refine g_iload_n X 1 rfl rfl dX5_atEnd_0 ?_
  refine g_bipush (v := 6) X (by decide) dX5_atEnd_1 ?_
  refine g_icmp_le X 11 dX5_atEnd_3 (by decide) (fun c3 => ?_) (fun c3 => ?_)
  · have heq := heq.trans (if_pos c3)
    refine g_iload_n X 1 rfl rfl dX5_atEnd_11 ?_
    refine g_bipush (v := 6) X (by decide) dX5_atEnd_12 ?_
    refine g_icmp_ne X 27 dX5_atEnd_14 (by decide) (fun c14 => ?_) (fun c14 => ?_)
    · have heq := heq.trans (if_neg c14)
      refine g_iconst (v := 0) X (by decide) dX5_atEnd_27 ?_
      exact g_iret X hAA hQQ () (heq.symm.trans hXX) [0] rfl rfl hr dX5_atEnd_28
    · have heq := heq.trans (if_pos c14)
      refine g_ldc (v := 100000000) X (X.2.2.2.2.1 (.constant RX5 135 (100000000)) (List.mem_of_getElem? (i := 2) rfl)) dX5_atEnd_17 ?_
      refine g_aload_n X 0 rfl rfl dX5_atEnd_19 ?_
      refine g_get (C := RX5) (T := TX5) (N := 26) (ci := 5) X hi_X5_atEnd_X5 0 rfl rfl 7 (by decide) (X.2.2.2.2.1 (.fieldLink RX5 65 "NineteenSecondsLeftModel" "draw" "I") (List.mem_of_getElem? (i := 3) rfl)) rfl rfl dX5_atEnd_20 ?_
      refine g_imul X dX5_atEnd_23 ?_
      refine g_goto (tgt := 28) X (by decide) dX5_atEnd_24 ?_
      exact g_iret X hAA hQQ () (heq.symm.trans hXX) [0] rfl rfl hr dX5_atEnd_28
  · have heq := heq.trans (if_neg c3)
    refine g_ldc (v := 1000000000) X (X.2.2.2.2.1 (.constant RX5 134 (1000000000)) (List.mem_of_getElem? (i := 1) rfl)) dX5_atEnd_6 ?_
    refine g_goto (tgt := 28) X (by decide) dX5_atEnd_8 ?_
    exact g_iret X hAA hQQ () (heq.symm.trans hXX) [0] rfl rfl hr dX5_atEnd_28

theorem hi_X5_valueOf_X5 : ∀ w ∈ wsX50, w ∈ wsX5_valueOf := fun w h => List.mem_cons_of_mem _ (List.mem_append_right _ (h))
def f_X5_valueOf (c_worth : Nat → Int32) (p1 : Int32) (p2 : Int32) (p3 : Int32) : Int32 :=
  c_worth (((26 * p1) + (2 * p2)) + p3).toNatClampNeg
set_option maxHeartbeats 4000000 in
set_option maxRecDepth 100000 in
theorem k_X5_valueOf (l : Launch) (D : va_G) (cI : ClassId) (kA kV : Nat → Nat) (a_ a_fouls a_calls a_side a_kind a_near a_far a_free a_letter a_value a_row a_refusals a_image a_ahead a_guard a_worth : Nat) (c_seconds : Int32) (c_lead : Int32) (c_ball : Int32) (c_rebound : Int32) (c_law : Int32) (c_draw : Int32) (c_players : Int32) (c_letters : Int32) (c_at : Int32) (c_inRow : Int32) (c_imaged : Int32) (c_worth : Nat → Int32) (p1 : Int32) (p2 : Int32) (p3 : Int32) (hs : m_S p1 p2 p3) :
    g_MI l D cI kA kV yX5_valueOf wsX5_valueOf { frames := 0, cells := 0, slots := 0, locals := 0 } [.ref a_, .int p1, .int p2, .int p3] [(a_, .inr (5, [.int c_seconds, .int c_lead, .int c_ball, .ref a_fouls, .ref a_calls, .int c_rebound, .int c_law, .int c_draw, .int c_players, .ref a_side, .ref a_kind, .ref a_near, .ref a_far, .ref a_free, .int c_letters, .ref a_letter, .int c_at, .ref a_value, .int c_inRow, .ref a_row, .ref a_refusals, .int c_imaged, .ref a_image, .ref a_ahead, .ref a_guard, .ref a_worth])), (a_worth, .inl (cI, 650, .inl c_worth))] (fun u : Unit => [(a_, .inr (5, [.int c_seconds, .int c_lead, .int c_ball, .ref a_fouls, .ref a_calls, .int c_rebound, .int c_law, .int c_draw, .int c_players, .ref a_side, .ref a_kind, .ref a_near, .ref a_far, .ref a_free, .int c_letters, .ref a_letter, .int c_at, .ref a_value, .int c_inRow, .ref a_row, .ref a_refusals, .int c_imaged, .ref a_image, .ref a_ahead, .ref a_guard, .ref a_worth])), (a_worth, .inl (cI, 650, .inl c_worth))]) (fun (r : Int32) (u : Unit) => r = f_X5_valueOf c_worth p1 p2 p3) := by
  obtain ⟨XX, hXX⟩ : ∃ z, z = f_X5_valueOf c_worth p1 p2 p3 := ⟨_, rfl⟩
  have heq := hXX.trans (f_X5_valueOf.eq_def c_worth p1 p2 p3)
  refine g_startI (lv := [(0, .ref a_), (1, .int p1), (2, .int p2), (3, .int p3)]) RX5 rfl rfl rfl (Nat.le_of_ble_eq_true rfl) rfl (fun p e s m args below meth c AA QQ hAA hQQ X hr hmn => ?_)
  refine g_aload_n X 0 rfl rfl dX5_valueOf_0 ?_
  refine g_get (C := RX5) (T := TX5) (N := 26) (ci := 5) X hi_X5_valueOf_X5 0 rfl rfl 25 (by decide) (X.2.2.2.2.1 (.fieldLink RX5 52 "NineteenSecondsLeftModel" "worth" "[I") (List.mem_of_getElem? (i := 1) rfl)) rfl rfl dX5_valueOf_1 ?_
  refine g_bipush (v := 26) X (by decide) dX5_valueOf_4 ?_
  refine g_iload_n X 1 rfl rfl dX5_valueOf_6 ?_
  refine g_imul X dX5_valueOf_7 ?_
  refine g_iconst (v := 2) X (by decide) dX5_valueOf_8 ?_
  refine g_iload_n X 2 rfl rfl dX5_valueOf_9 ?_
  refine g_imul X dX5_valueOf_10 ?_
  refine g_iadd X dX5_valueOf_11 ?_
  refine g_iload_n X 3 rfl rfl dX5_valueOf_12 ?_
  refine g_iadd X dX5_valueOf_13 ?_
  refine g_iald X 1 rfl (m_worth hs) dX5_valueOf_14 ?_
  exact g_iret X hAA hQQ () (heq.symm.trans hXX) [0, 1] rfl rfl hr dX5_valueOf_15

theorem hi_X5_ofShot_X5 : ∀ w ∈ wsX50, w ∈ wsX5_ofShot := fun w h => List.mem_cons_of_mem _ (List.mem_append_right _ (h))
def f_X5_ofShot (c_rebound : Int32) (c_law : Int32) (c_draw : Int32) (c_kind : Nat → Int32) (c_near : Nat → Int32) (c_far : Nat → Int32) (c_free : Nat → Int32) (c_guard : Nat → Int32) (c_worth : Nat → Int32) (p1 : Int32) (p2 : Int32) (p3 : Int32) (p4 : Int32) (p5 : Int32) : Int32 :=
  g_lt (f_X5_takes p2) (fun r1 => (if r1 ≤ p3 then (if p2 = 0 then g_lt (f_X5_odds c_kind c_near c_far c_free c_guard p1 (0 : Int32) p3) (fun r27 => (if p5 = 0 then g_lt (f_X5_takes p2) (fun r93 => (if c_law = 2 then g_lt (f_X5_valueOf c_worth (p3 - 1) (g_minf (12 : Int32) (p4 + 2)) (1 - p5)) (fun r122 => g_lt (f_X5_valueOf c_worth (p3 - r93) p4 p5) (fun r140 => g_lt (f_X5_valueOf c_worth (p3 - r93) p4 (1 - p5)) (fun r163 => (((r27.toInt64 * r122.toInt64) + (((10 - r27).toInt64) * (((c_rebound.toInt64 * r140.toInt64) + (((10 : Int64) - c_rebound.toInt64) * r163.toInt64)) / (10 : Int64)))) / (10 : Int64)).toInt32))) else g_lt (f_X5_valueOf c_worth (p3 - r93) (g_minf (12 : Int32) (p4 + 2)) (1 - p5)) (fun r122 => g_lt (f_X5_valueOf c_worth (p3 - r93) p4 p5) (fun r140 => g_lt (f_X5_valueOf c_worth (p3 - r93) p4 (1 - p5)) (fun r163 => (((r27.toInt64 * r122.toInt64) + (((10 - r27).toInt64) * (((c_rebound.toInt64 * r140.toInt64) + (((10 : Int64) - c_rebound.toInt64) * r163.toInt64)) / (10 : Int64)))) / (10 : Int64)).toInt32))))) else g_lt (f_X5_takes p2) (fun r93 => (if c_law = 2 then g_lt (f_X5_valueOf c_worth (p3 - 1) (g_maxf (0 : Int32) (p4 - 2)) (1 - p5)) (fun r122 => g_lt (f_X5_valueOf c_worth (p3 - r93) p4 p5) (fun r140 => g_lt (f_X5_valueOf c_worth (p3 - r93) p4 (1 - p5)) (fun r163 => (((r27.toInt64 * r122.toInt64) + (((10 - r27).toInt64) * (((c_rebound.toInt64 * r140.toInt64) + (((10 : Int64) - c_rebound.toInt64) * r163.toInt64)) / (10 : Int64)))) / (10 : Int64)).toInt32))) else g_lt (f_X5_valueOf c_worth (p3 - r93) (g_maxf (0 : Int32) (p4 - 2)) (1 - p5)) (fun r122 => g_lt (f_X5_valueOf c_worth (p3 - r93) p4 p5) (fun r140 => g_lt (f_X5_valueOf c_worth (p3 - r93) p4 (1 - p5)) (fun r163 => (((r27.toInt64 * r122.toInt64) + (((10 - r27).toInt64) * (((c_rebound.toInt64 * r140.toInt64) + (((10 : Int64) - c_rebound.toInt64) * r163.toInt64)) / (10 : Int64)))) / (10 : Int64)).toInt32))))))) else g_lt (f_X5_odds c_kind c_near c_far c_free c_guard p1 (1 : Int32) p3) (fun r27 => (if p2 = 2 then (if c_law = 3 then (if p5 = 0 then g_lt (f_X5_takes p2) (fun r93 => g_lt (f_X5_valueOf c_worth (p3 - r93) (g_minf (12 : Int32) (p4 + 2)) (1 - p5)) (fun r122 => g_lt (f_X5_valueOf c_worth (p3 - r93) p4 p5) (fun r140 => g_lt (f_X5_valueOf c_worth (p3 - r93) p4 (1 - p5)) (fun r163 => (((((r27 / 2).toInt64) * r122.toInt64) + (((10 - (r27 / 2)).toInt64) * (((c_rebound.toInt64 * r140.toInt64) + (((10 : Int64) - c_rebound.toInt64) * r163.toInt64)) / (10 : Int64)))) / (10 : Int64)).toInt32)))) else g_lt (f_X5_takes p2) (fun r93 => g_lt (f_X5_valueOf c_worth (p3 - r93) (g_maxf (0 : Int32) (p4 - 2)) (1 - p5)) (fun r122 => g_lt (f_X5_valueOf c_worth (p3 - r93) p4 p5) (fun r140 => g_lt (f_X5_valueOf c_worth (p3 - r93) p4 (1 - p5)) (fun r163 => (((((r27 / 2).toInt64) * r122.toInt64) + (((10 - (r27 / 2)).toInt64) * (((c_rebound.toInt64 * r140.toInt64) + (((10 : Int64) - c_rebound.toInt64) * r163.toInt64)) / (10 : Int64)))) / (10 : Int64)).toInt32))))) else (if p5 = 0 then g_lt (f_X5_takes p2) (fun r93 => (if c_law = 2 then g_lt (f_X5_valueOf c_worth (p3 - 1) (g_minf (12 : Int32) (p4 + 3)) (1 - p5)) (fun r122 => g_lt (f_X5_valueOf c_worth (p3 - r93) p4 p5) (fun r140 => g_lt (f_X5_valueOf c_worth (p3 - r93) p4 (1 - p5)) (fun r163 => (((((r27 / 2).toInt64) * r122.toInt64) + (((10 - (r27 / 2)).toInt64) * (((c_rebound.toInt64 * r140.toInt64) + (((10 : Int64) - c_rebound.toInt64) * r163.toInt64)) / (10 : Int64)))) / (10 : Int64)).toInt32))) else g_lt (f_X5_valueOf c_worth (p3 - r93) (g_minf (12 : Int32) (p4 + 3)) (1 - p5)) (fun r122 => g_lt (f_X5_valueOf c_worth (p3 - r93) p4 p5) (fun r140 => g_lt (f_X5_valueOf c_worth (p3 - r93) p4 (1 - p5)) (fun r163 => (((((r27 / 2).toInt64) * r122.toInt64) + (((10 - (r27 / 2)).toInt64) * (((c_rebound.toInt64 * r140.toInt64) + (((10 : Int64) - c_rebound.toInt64) * r163.toInt64)) / (10 : Int64)))) / (10 : Int64)).toInt32))))) else g_lt (f_X5_takes p2) (fun r93 => (if c_law = 2 then g_lt (f_X5_valueOf c_worth (p3 - 1) (g_maxf (0 : Int32) (p4 - 3)) (1 - p5)) (fun r122 => g_lt (f_X5_valueOf c_worth (p3 - r93) p4 p5) (fun r140 => g_lt (f_X5_valueOf c_worth (p3 - r93) p4 (1 - p5)) (fun r163 => (((((r27 / 2).toInt64) * r122.toInt64) + (((10 - (r27 / 2)).toInt64) * (((c_rebound.toInt64 * r140.toInt64) + (((10 : Int64) - c_rebound.toInt64) * r163.toInt64)) / (10 : Int64)))) / (10 : Int64)).toInt32))) else g_lt (f_X5_valueOf c_worth (p3 - r93) (g_maxf (0 : Int32) (p4 - 3)) (1 - p5)) (fun r122 => g_lt (f_X5_valueOf c_worth (p3 - r93) p4 p5) (fun r140 => g_lt (f_X5_valueOf c_worth (p3 - r93) p4 (1 - p5)) (fun r163 => (((((r27 / 2).toInt64) * r122.toInt64) + (((10 - (r27 / 2)).toInt64) * (((c_rebound.toInt64 * r140.toInt64) + (((10 : Int64) - c_rebound.toInt64) * r163.toInt64)) / (10 : Int64)))) / (10 : Int64)).toInt32))))))) else (if c_law = 3 then (if p5 = 0 then g_lt (f_X5_takes p2) (fun r93 => g_lt (f_X5_valueOf c_worth (p3 - r93) (g_minf (12 : Int32) (p4 + 2)) (1 - p5)) (fun r122 => g_lt (f_X5_valueOf c_worth (p3 - r93) p4 p5) (fun r140 => g_lt (f_X5_valueOf c_worth (p3 - r93) p4 (1 - p5)) (fun r163 => (((r27.toInt64 * r122.toInt64) + (((10 - r27).toInt64) * (((c_rebound.toInt64 * r140.toInt64) + (((10 : Int64) - c_rebound.toInt64) * r163.toInt64)) / (10 : Int64)))) / (10 : Int64)).toInt32)))) else g_lt (f_X5_takes p2) (fun r93 => g_lt (f_X5_valueOf c_worth (p3 - r93) (g_maxf (0 : Int32) (p4 - 2)) (1 - p5)) (fun r122 => g_lt (f_X5_valueOf c_worth (p3 - r93) p4 p5) (fun r140 => g_lt (f_X5_valueOf c_worth (p3 - r93) p4 (1 - p5)) (fun r163 => (((r27.toInt64 * r122.toInt64) + (((10 - r27).toInt64) * (((c_rebound.toInt64 * r140.toInt64) + (((10 : Int64) - c_rebound.toInt64) * r163.toInt64)) / (10 : Int64)))) / (10 : Int64)).toInt32))))) else (if p5 = 0 then g_lt (f_X5_takes p2) (fun r93 => (if c_law = 2 then g_lt (f_X5_valueOf c_worth (p3 - 1) (g_minf (12 : Int32) (p4 + 3)) (1 - p5)) (fun r122 => g_lt (f_X5_valueOf c_worth (p3 - r93) p4 p5) (fun r140 => g_lt (f_X5_valueOf c_worth (p3 - r93) p4 (1 - p5)) (fun r163 => (((r27.toInt64 * r122.toInt64) + (((10 - r27).toInt64) * (((c_rebound.toInt64 * r140.toInt64) + (((10 : Int64) - c_rebound.toInt64) * r163.toInt64)) / (10 : Int64)))) / (10 : Int64)).toInt32))) else g_lt (f_X5_valueOf c_worth (p3 - r93) (g_minf (12 : Int32) (p4 + 3)) (1 - p5)) (fun r122 => g_lt (f_X5_valueOf c_worth (p3 - r93) p4 p5) (fun r140 => g_lt (f_X5_valueOf c_worth (p3 - r93) p4 (1 - p5)) (fun r163 => (((r27.toInt64 * r122.toInt64) + (((10 - r27).toInt64) * (((c_rebound.toInt64 * r140.toInt64) + (((10 : Int64) - c_rebound.toInt64) * r163.toInt64)) / (10 : Int64)))) / (10 : Int64)).toInt32))))) else g_lt (f_X5_takes p2) (fun r93 => (if c_law = 2 then g_lt (f_X5_valueOf c_worth (p3 - 1) (g_maxf (0 : Int32) (p4 - 3)) (1 - p5)) (fun r122 => g_lt (f_X5_valueOf c_worth (p3 - r93) p4 p5) (fun r140 => g_lt (f_X5_valueOf c_worth (p3 - r93) p4 (1 - p5)) (fun r163 => (((r27.toInt64 * r122.toInt64) + (((10 - r27).toInt64) * (((c_rebound.toInt64 * r140.toInt64) + (((10 : Int64) - c_rebound.toInt64) * r163.toInt64)) / (10 : Int64)))) / (10 : Int64)).toInt32))) else g_lt (f_X5_valueOf c_worth (p3 - r93) (g_maxf (0 : Int32) (p4 - 3)) (1 - p5)) (fun r122 => g_lt (f_X5_valueOf c_worth (p3 - r93) p4 p5) (fun r140 => g_lt (f_X5_valueOf c_worth (p3 - r93) p4 (1 - p5)) (fun r163 => (((r27.toInt64 * r122.toInt64) + (((10 - r27).toInt64) * (((c_rebound.toInt64 * r140.toInt64) + (((10 : Int64) - c_rebound.toInt64) * r163.toInt64)) / (10 : Int64)))) / (10 : Int64)).toInt32)))))))))) else g_lt (f_X5_atEnd c_draw p4) (fun r11 => r11)))
set_option maxHeartbeats 4000000 in
set_option maxRecDepth 100000 in
theorem k_X5_ofShot (l : Launch) (D : va_G) (cI : ClassId) (kA kV : Nat → Nat) (a_ a_fouls a_calls a_side a_kind a_near a_far a_free a_letter a_value a_row a_refusals a_image a_ahead a_guard a_worth : Nat) (c_seconds : Int32) (c_lead : Int32) (c_ball : Int32) (c_rebound : Int32) (c_law : Int32) (c_draw : Int32) (c_players : Int32) (c_letters : Int32) (c_at : Int32) (c_inRow : Int32) (c_imaged : Int32) (c_kind : Nat → Int32) (c_near : Nat → Int32) (c_far : Nat → Int32) (c_free : Nat → Int32) (c_guard : Nat → Int32) (c_worth : Nat → Int32) (p1 : Int32) (p2 : Int32) (p3 : Int32) (p4 : Int32) (p5 : Int32) (hi : m_I p1) (hs : m_S p3 p4 p5) :
    g_MI l D cI kA kV yX5_ofShot wsX5_ofShot { frames := 3, cells := 0, slots := 0, locals := 65 } [.ref a_, .int p1, .int p2, .int p3, .int p4, .int p5] [(a_, .inr (5, [.int c_seconds, .int c_lead, .int c_ball, .ref a_fouls, .ref a_calls, .int c_rebound, .int c_law, .int c_draw, .int c_players, .ref a_side, .ref a_kind, .ref a_near, .ref a_far, .ref a_free, .int c_letters, .ref a_letter, .int c_at, .ref a_value, .int c_inRow, .ref a_row, .ref a_refusals, .int c_imaged, .ref a_image, .ref a_ahead, .ref a_guard, .ref a_worth])), (a_kind, .inl (cI, 6, .inl c_kind)), (a_near, .inl (cI, 6, .inl c_near)), (a_far, .inl (cI, 6, .inl c_far)), (a_free, .inl (cI, 6, .inl c_free)), (a_guard, .inl (cI, 6, .inl c_guard)), (a_worth, .inl (cI, 650, .inl c_worth))] (fun u : Unit => [(a_, .inr (5, [.int c_seconds, .int c_lead, .int c_ball, .ref a_fouls, .ref a_calls, .int c_rebound, .int c_law, .int c_draw, .int c_players, .ref a_side, .ref a_kind, .ref a_near, .ref a_far, .ref a_free, .int c_letters, .ref a_letter, .int c_at, .ref a_value, .int c_inRow, .ref a_row, .ref a_refusals, .int c_imaged, .ref a_image, .ref a_ahead, .ref a_guard, .ref a_worth])), (a_kind, .inl (cI, 6, .inl c_kind)), (a_near, .inl (cI, 6, .inl c_near)), (a_far, .inl (cI, 6, .inl c_far)), (a_free, .inl (cI, 6, .inl c_free)), (a_guard, .inl (cI, 6, .inl c_guard)), (a_worth, .inl (cI, 650, .inl c_worth))]) (fun (r : Int32) (u : Unit) => r = f_X5_ofShot c_rebound c_law c_draw c_kind c_near c_far c_free c_guard c_worth p1 p2 p3 p4 p5) := by
  obtain ⟨XX, hXX⟩ : ∃ z, z = f_X5_ofShot c_rebound c_law c_draw c_kind c_near c_far c_free c_guard c_worth p1 p2 p3 p4 p5 := ⟨_, rfl⟩
  have heq := hXX.trans (f_X5_ofShot.eq_def c_rebound c_law c_draw c_kind c_near c_far c_free c_guard c_worth p1 p2 p3 p4 p5)
  refine g_startI (lv := [(0, .ref a_), (1, .int p1), (2, .int p2), (3, .int p3), (4, .int p4), (5, .int p5)]) RX5 rfl rfl rfl (Nat.le_of_ble_eq_true rfl) rfl (fun p e s m args below meth c AA QQ hAA hQQ X hr hmn => ?_)
  refine g_iload_n X 2 rfl rfl dX5_ofShot_0 ?_
  refine g_callSi (As := [.int p2]) (st := []) (wr := [(a_, .inr (5, [.int c_seconds, .int c_lead, .int c_ball, .ref a_fouls, .ref a_calls, .int c_rebound, .int c_law, .int c_draw, .int c_players, .ref a_side, .ref a_kind, .ref a_near, .ref a_far, .ref a_free, .int c_letters, .ref a_letter, .int c_at, .ref a_value, .int c_inRow, .ref a_row, .ref a_refusals, .int c_imaged, .ref a_image, .ref a_ahead, .ref a_guard, .ref a_worth])), (a_kind, .inl (cI, 6, .inl c_kind)), (a_near, .inl (cI, 6, .inl c_near)), (a_far, .inl (cI, 6, .inl c_far)), (a_free, .inl (cI, 6, .inl c_free)), (a_guard, .inl (cI, 6, .inl c_guard)), (a_worth, .inl (cI, 650, .inl c_worth))]) X (k_X5_takes l D cI kA kV p2) (va_cwS 1 X.2.2.2.2.1 gX5_ofShot_X5_takes rfl rfl rfl (by decide +kernel) ⟨Nat.le_of_ble_eq_true rfl, Nat.le_of_ble_eq_true rfl⟩) [] [0, 1, 2, 3, 4, 5, 6] rfl rfl rfl rfl (by decide) rfl (Nat.le_of_ble_eq_true rfl) ⟨Nat.le_of_ble_eq_true rfl, Nat.le_of_ble_eq_true rfl⟩ dX5_ofShot_1 rfl (fun r1 u1 hw1 => ?_)
  refine g_eqs (ws' := [(a_, .inr (5, [.int c_seconds, .int c_lead, .int c_ball, .ref a_fouls, .ref a_calls, .int c_rebound, .int c_law, .int c_draw, .int c_players, .ref a_side, .ref a_kind, .ref a_near, .ref a_far, .ref a_free, .int c_letters, .ref a_letter, .int c_at, .ref a_value, .int c_inRow, .ref a_row, .ref a_refusals, .int c_imaged, .ref a_image, .ref a_ahead, .ref a_guard, .ref a_worth])), (a_kind, .inl (cI, 6, .inl c_kind)), (a_near, .inl (cI, 6, .inl c_near)), (a_far, .inl (cI, 6, .inl c_far)), (a_free, .inl (cI, 6, .inl c_free)), (a_guard, .inl (cI, 6, .inl c_guard)), (a_worth, .inl (cI, 650, .inl c_worth))]) rfl ?_
  have heq := g_let heq hw1
  refine g_iload_n X 3 rfl rfl dX5_ofShot_4 ?_
  refine g_icmp_le X 15 dX5_ofShot_5 (by decide) (fun c5 => ?_) (fun c5 => ?_)
  · have heq := heq.trans (if_pos c5)
    refine g_aload_n X 0 rfl rfl dX5_ofShot_15 ?_
    refine g_iload_n X 1 rfl rfl dX5_ofShot_16 ?_
    refine g_iload_n X 2 rfl rfl dX5_ofShot_17 ?_
    refine g_if_ne X 25 dX5_ofShot_18 (by decide) (fun c18 => ?_) (fun c18 => ?_)
    · have heq := heq.trans (if_neg c18)
      refine g_iconst (v := 1) X (by decide) dX5_ofShot_25 ?_
      refine g_iload_n X 3 rfl rfl dX5_ofShot_26 ?_
      refine g_callVi (C := RX5) (T := TX5) (N := 26) (ci := 5) (As := [.int p1, .int 1, .int p3]) (st := []) (wr := [(a_worth, .inl (cI, 650, .inl c_worth))]) X (k_X5_odds l D cI kA kV a_ a_fouls a_calls a_side a_kind a_near a_far a_free a_letter a_value a_row a_refusals a_image a_ahead a_guard a_worth c_seconds c_lead c_ball c_rebound c_law c_draw c_players c_letters c_at c_inRow c_imaged c_kind c_near c_far c_free c_guard p1 1 p3 hi) (cwV 3 X.2.2.2.2.1 gX5_ofShot_X5_odds rfl rfl rfl (by decide +kernel) ⟨Nat.le_of_ble_eq_true rfl, Nat.le_of_ble_eq_true rfl⟩) 0 rfl rfl [0, 1, 2, 3, 4, 5] [6] rfl rfl rfl rfl (by decide) rfl (Nat.le_of_ble_eq_true rfl) ⟨Nat.le_of_ble_eq_true rfl, Nat.le_of_ble_eq_true rfl⟩ dX5_ofShot_27 rfl (fun r27 u27 hw27 => ?_)
      refine g_eqs (ws' := [(a_worth, .inl (cI, 650, .inl c_worth)), (a_, .inr (5, [.int c_seconds, .int c_lead, .int c_ball, .ref a_fouls, .ref a_calls, .int c_rebound, .int c_law, .int c_draw, .int c_players, .ref a_side, .ref a_kind, .ref a_near, .ref a_far, .ref a_free, .int c_letters, .ref a_letter, .int c_at, .ref a_value, .int c_inRow, .ref a_row, .ref a_refusals, .int c_imaged, .ref a_image, .ref a_ahead, .ref a_guard, .ref a_worth])), (a_kind, .inl (cI, 6, .inl c_kind)), (a_near, .inl (cI, 6, .inl c_near)), (a_far, .inl (cI, 6, .inl c_far)), (a_free, .inl (cI, 6, .inl c_free)), (a_guard, .inl (cI, 6, .inl c_guard))]) rfl ?_
      have heq := g_let heq hw27
      refine g_istore (lv' := [(6, .int r27), (0, .ref a_), (1, .int p1), (2, .int p2), (3, .int p3), (4, .int p4), (5, .int p5)]) X (by decide) rfl dX5_ofShot_30 ?_
      refine g_iload_n X 3 rfl rfl dX5_ofShot_32 ?_
      refine g_iconst (v := 2) X (by decide) dX5_ofShot_33 ?_
      refine g_icmp_ne X 43 dX5_ofShot_34 (by decide) (fun c34 => ?_) (fun c34 => ?_)
      · have heq := heq.trans (if_neg c34)
        refine g_iload_n X 3 rfl rfl dX5_ofShot_43 ?_
        refine g_if_eq X 55 dX5_ofShot_44 (by decide) (fun c44 => absurd c44 c18) (fun c44 => ?_)
        refine g_aload_n X 1 rfl rfl dX5_ofShot_47 ?_
        refine g_get (C := RX5) (T := TX5) (N := 26) (ci := 5) X hi_X5_ofShot_X5 1 rfl rfl 6 (by decide) (X.2.2.2.2.1 (.fieldLink RX5 104 "NineteenSecondsLeftModel" "law" "I") (List.mem_of_getElem? (i := 1) rfl)) rfl rfl dX5_ofShot_48 ?_
        refine g_iconst (v := 3) X (by decide) dX5_ofShot_51 ?_
        refine g_icmp_ne X 59 dX5_ofShot_52 (by decide) (fun c52 => ?_) (fun c52 => ?_)
        · have heq := heq.trans (if_neg c52)
          refine g_iconst (v := 3) X (by decide) dX5_ofShot_59 ?_
          refine g_istore (lv' := [(7, .int 3), (6, .int r27), (0, .ref a_), (1, .int p1), (2, .int p2), (3, .int p3), (4, .int p4), (5, .int p5)]) X (by decide) rfl dX5_ofShot_60 ?_
          refine g_iload X 7 rfl dX5_ofShot_62 ?_
          refine g_if_ne X 80 dX5_ofShot_64 (by decide) (fun c64 => ?_) (fun c64 => ?_)
          · have heq := heq.trans (if_neg c64)
            refine g_iconst (v := 0) X (by decide) dX5_ofShot_80 ?_
            refine g_iload X 6 rfl dX5_ofShot_81 ?_
            refine g_iload X 0 rfl dX5_ofShot_83 ?_
            refine g_isub X dX5_ofShot_85 ?_
            refine g_mmax X (X.2.2.2.2.1 (.methodLink RX5 124 Lib.Math.max.name) (List.mem_of_getElem? (i := 6) rfl)) (X.2.2.2.2.1 (.static Lib.Math.max.name) (List.mem_of_getElem? (i := 7) rfl)) (X.2.2.2.2.1 (.initialized "java/lang/Math") (List.mem_of_getElem? (i := 4) rfl)) (X.2.2.2.2.1 (.code Lib.Math.max.name Lib.Math.max.code 2 (some .int)) (List.mem_of_getElem? (i := 8) rfl)) (Nat.le_of_ble_eq_true rfl) (Nat.le_of_ble_eq_true rfl) (Nat.le_of_ble_eq_true rfl) (Nat.le_of_ble_eq_true rfl) dX5_ofShot_86 ?_
            refine g_istore (lv' := [(8, .int (g_maxf (0 : Int32) (p4 - 3))), (7, .int 3), (6, .int r27), (0, .ref a_), (1, .int p1), (2, .int p2), (3, .int p3), (4, .int p4), (5, .int p5)]) X (by decide) rfl dX5_ofShot_89 ?_
            refine g_iload_n X 6 rfl rfl dX5_ofShot_91 ?_
            refine g_iload_n X 5 rfl rfl dX5_ofShot_92 ?_
            refine g_callSi (As := [.int p2]) (st := [.int p3]) (wr := [(a_worth, .inl (cI, 650, .inl c_worth)), (a_, .inr (5, [.int c_seconds, .int c_lead, .int c_ball, .ref a_fouls, .ref a_calls, .int c_rebound, .int c_law, .int c_draw, .int c_players, .ref a_side, .ref a_kind, .ref a_near, .ref a_far, .ref a_free, .int c_letters, .ref a_letter, .int c_at, .ref a_value, .int c_inRow, .ref a_row, .ref a_refusals, .int c_imaged, .ref a_image, .ref a_ahead, .ref a_guard, .ref a_worth])), (a_kind, .inl (cI, 6, .inl c_kind)), (a_near, .inl (cI, 6, .inl c_near)), (a_far, .inl (cI, 6, .inl c_far)), (a_free, .inl (cI, 6, .inl c_free)), (a_guard, .inl (cI, 6, .inl c_guard))]) X (k_X5_takes l D cI kA kV p2) (va_cwS 1 X.2.2.2.2.1 gX5_ofShot_X5_takes rfl rfl rfl (by decide +kernel) ⟨Nat.le_of_ble_eq_true rfl, Nat.le_of_ble_eq_true rfl⟩) [] [0, 1, 2, 3, 4, 5, 6] rfl rfl rfl rfl (by decide) rfl (Nat.le_of_ble_eq_true rfl) ⟨Nat.le_of_ble_eq_true rfl, Nat.le_of_ble_eq_true rfl⟩ dX5_ofShot_93 rfl (fun r93 u93 hw93 => ?_)
            refine g_eqs (ws' := [(a_worth, .inl (cI, 650, .inl c_worth)), (a_, .inr (5, [.int c_seconds, .int c_lead, .int c_ball, .ref a_fouls, .ref a_calls, .int c_rebound, .int c_law, .int c_draw, .int c_players, .ref a_side, .ref a_kind, .ref a_near, .ref a_far, .ref a_free, .int c_letters, .ref a_letter, .int c_at, .ref a_value, .int c_inRow, .ref a_row, .ref a_refusals, .int c_imaged, .ref a_image, .ref a_ahead, .ref a_guard, .ref a_worth])), (a_kind, .inl (cI, 6, .inl c_kind)), (a_near, .inl (cI, 6, .inl c_near)), (a_far, .inl (cI, 6, .inl c_far)), (a_free, .inl (cI, 6, .inl c_free)), (a_guard, .inl (cI, 6, .inl c_guard))]) rfl ?_
            have heq := g_let heq hw93
            refine g_isub X dX5_ofShot_96 ?_
            refine g_istore (lv' := [(9, .int (p3 - r93)), (8, .int (g_maxf (0 : Int32) (p4 - 3))), (7, .int 3), (6, .int r27), (0, .ref a_), (1, .int p1), (2, .int p2), (3, .int p3), (4, .int p4), (5, .int p5)]) X (by decide) rfl dX5_ofShot_97 ?_
            refine g_aload_n X 4 rfl rfl dX5_ofShot_99 ?_
            refine g_aload_n X 4 rfl rfl dX5_ofShot_100 ?_
            refine g_get (C := RX5) (T := TX5) (N := 26) (ci := 5) X hi_X5_ofShot_X5 1 rfl rfl 6 (by decide) (X.2.2.2.2.1 (.fieldLink RX5 104 "NineteenSecondsLeftModel" "law" "I") (List.mem_of_getElem? (i := 1) rfl)) rfl rfl dX5_ofShot_101 ?_
            refine g_iconst (v := 2) X (by decide) dX5_ofShot_104 ?_
            refine g_icmp_ne X 114 dX5_ofShot_105 (by decide) (fun c105 => ?_) (fun c105 => ?_)
            · have heq := heq.trans (if_neg c105)
              refine g_iload X 0 rfl dX5_ofShot_114 ?_
              refine g_iload X 1 rfl dX5_ofShot_116 ?_
              refine g_iconst (v := 1) X (by decide) dX5_ofShot_118 ?_
              refine g_iload X 9 rfl dX5_ofShot_119 ?_
              refine g_isub X dX5_ofShot_121 ?_
              refine g_callVi (C := RX5) (T := TX5) (N := 26) (ci := 5) (As := [.int (p3 - r93), .int (g_maxf (0 : Int32) (p4 - 3)), .int (1 - p5)]) (st := []) (wr := [(a_kind, .inl (cI, 6, .inl c_kind)), (a_near, .inl (cI, 6, .inl c_near)), (a_far, .inl (cI, 6, .inl c_far)), (a_free, .inl (cI, 6, .inl c_free)), (a_guard, .inl (cI, 6, .inl c_guard))]) X (k_X5_valueOf l D cI kA kV a_ a_fouls a_calls a_side a_kind a_near a_far a_free a_letter a_value a_row a_refusals a_image a_ahead a_guard a_worth c_seconds c_lead c_ball c_rebound c_law c_draw c_players c_letters c_at c_inRow c_imaged c_worth (p3 - r93) (g_maxf (0 : Int32) (p4 - 3)) (1 - p5) ⟨(m_secT hs.1 hw93 hw1 c5), (m_ldm3 hs.2.1), (m_bl1 hs.2.2)⟩) (cwV 3 X.2.2.2.2.1 gX5_ofShot_X5_valueOf rfl rfl rfl (by decide +kernel) ⟨Nat.le_of_ble_eq_true rfl, Nat.le_of_ble_eq_true rfl⟩) 1 rfl rfl [1, 0] [2, 3, 4, 5, 6] rfl rfl rfl rfl (by decide) rfl (Nat.le_of_ble_eq_true rfl) ⟨Nat.le_of_ble_eq_true rfl, Nat.le_of_ble_eq_true rfl⟩ dX5_ofShot_122 rfl (fun r122 u122 hw122 => ?_)
              refine g_eqs (ws' := [(a_kind, .inl (cI, 6, .inl c_kind)), (a_near, .inl (cI, 6, .inl c_near)), (a_far, .inl (cI, 6, .inl c_far)), (a_free, .inl (cI, 6, .inl c_free)), (a_guard, .inl (cI, 6, .inl c_guard)), (a_, .inr (5, [.int c_seconds, .int c_lead, .int c_ball, .ref a_fouls, .ref a_calls, .int c_rebound, .int c_law, .int c_draw, .int c_players, .ref a_side, .ref a_kind, .ref a_near, .ref a_far, .ref a_free, .int c_letters, .ref a_letter, .int c_at, .ref a_value, .int c_inRow, .ref a_row, .ref a_refusals, .int c_imaged, .ref a_image, .ref a_ahead, .ref a_guard, .ref a_worth])), (a_worth, .inl (cI, 650, .inl c_worth))]) rfl ?_
              have heq := g_let heq hw122
              refine g_i2l X dX5_ofShot_125 ?_
              refine g_lstore (lv' := [(10, .long r122.toInt64), (9, .int (p3 - r93)), (8, .int (g_maxf (0 : Int32) (p4 - 3))), (7, .int 3), (6, .int r27), (0, .ref a_), (1, .int p1), (2, .int p2), (3, .int p3), (4, .int p4), (5, .int p5)]) X (by decide) rfl dX5_ofShot_126 ?_
              refine g_aload_n X 5 rfl rfl dX5_ofShot_128 ?_
              refine g_get (C := RX5) (T := TX5) (N := 26) (ci := 5) X hi_X5_ofShot_X5 5 rfl rfl 5 (by decide) (X.2.2.2.2.1 (.fieldLink RX5 62 "NineteenSecondsLeftModel" "rebound" "I") (List.mem_of_getElem? (i := 9) rfl)) rfl rfl dX5_ofShot_129 ?_
              refine g_i2l X dX5_ofShot_132 ?_
              refine g_aload_n X 5 rfl rfl dX5_ofShot_133 ?_
              refine g_iload X 1 rfl dX5_ofShot_134 ?_
              refine g_iload X 9 rfl dX5_ofShot_136 ?_
              refine g_iload X 10 rfl dX5_ofShot_138 ?_
              refine g_callVi (C := RX5) (T := TX5) (N := 26) (ci := 5) (As := [.int (p3 - r93), .int p4, .int p5]) (st := [.long c_rebound.toInt64]) (wr := [(a_kind, .inl (cI, 6, .inl c_kind)), (a_near, .inl (cI, 6, .inl c_near)), (a_far, .inl (cI, 6, .inl c_far)), (a_free, .inl (cI, 6, .inl c_free)), (a_guard, .inl (cI, 6, .inl c_guard))]) X (k_X5_valueOf l D cI kA kV a_ a_fouls a_calls a_side a_kind a_near a_far a_free a_letter a_value a_row a_refusals a_image a_ahead a_guard a_worth c_seconds c_lead c_ball c_rebound c_law c_draw c_players c_letters c_at c_inRow c_imaged c_worth (p3 - r93) p4 p5 ⟨(m_secT hs.1 hw93 hw1 c5), hs.2.1, hs.2.2⟩) (cwV 3 X.2.2.2.2.1 gX5_ofShot_X5_valueOf rfl rfl rfl (by decide +kernel) ⟨Nat.le_of_ble_eq_true rfl, Nat.le_of_ble_eq_true rfl⟩) 5 rfl rfl [5, 6] [0, 1, 2, 3, 4] rfl rfl rfl rfl (by decide) rfl (Nat.le_of_ble_eq_true rfl) ⟨Nat.le_of_ble_eq_true rfl, Nat.le_of_ble_eq_true rfl⟩ dX5_ofShot_140 rfl (fun r140 u140 hw140 => ?_)
              refine g_eqs (ws' := [(a_kind, .inl (cI, 6, .inl c_kind)), (a_near, .inl (cI, 6, .inl c_near)), (a_far, .inl (cI, 6, .inl c_far)), (a_free, .inl (cI, 6, .inl c_free)), (a_guard, .inl (cI, 6, .inl c_guard)), (a_, .inr (5, [.int c_seconds, .int c_lead, .int c_ball, .ref a_fouls, .ref a_calls, .int c_rebound, .int c_law, .int c_draw, .int c_players, .ref a_side, .ref a_kind, .ref a_near, .ref a_far, .ref a_free, .int c_letters, .ref a_letter, .int c_at, .ref a_value, .int c_inRow, .ref a_row, .ref a_refusals, .int c_imaged, .ref a_image, .ref a_ahead, .ref a_guard, .ref a_worth])), (a_worth, .inl (cI, 650, .inl c_worth))]) rfl ?_
              have heq := g_let heq hw140
              refine g_i2l X dX5_ofShot_143 ?_
              refine g_lmul X dX5_ofShot_144 ?_
              refine g_ldc2 (v := 10) X (X.2.2.2.2.1 (.constantLong RX5 148 (10)) (List.mem_of_getElem? (i := 10) rfl)) dX5_ofShot_145 ?_
              refine g_aload_n X 5 rfl rfl dX5_ofShot_148 ?_
              refine g_get (C := RX5) (T := TX5) (N := 26) (ci := 5) X hi_X5_ofShot_X5 5 rfl rfl 5 (by decide) (X.2.2.2.2.1 (.fieldLink RX5 62 "NineteenSecondsLeftModel" "rebound" "I") (List.mem_of_getElem? (i := 9) rfl)) rfl rfl dX5_ofShot_149 ?_
              refine g_i2l X dX5_ofShot_152 ?_
              refine g_lsub X dX5_ofShot_153 ?_
              refine g_aload_n X 5 rfl rfl dX5_ofShot_154 ?_
              refine g_iload X 1 rfl dX5_ofShot_155 ?_
              refine g_iload X 9 rfl dX5_ofShot_157 ?_
              refine g_iconst (v := 1) X (by decide) dX5_ofShot_159 ?_
              refine g_iload X 10 rfl dX5_ofShot_160 ?_
              refine g_isub X dX5_ofShot_162 ?_
              refine g_callVi (C := RX5) (T := TX5) (N := 26) (ci := 5) (As := [.int (p3 - r93), .int p4, .int (1 - p5)]) (st := [.long ((10 : Int64) - c_rebound.toInt64), .long (c_rebound.toInt64 * r140.toInt64)]) (wr := [(a_kind, .inl (cI, 6, .inl c_kind)), (a_near, .inl (cI, 6, .inl c_near)), (a_far, .inl (cI, 6, .inl c_far)), (a_free, .inl (cI, 6, .inl c_free)), (a_guard, .inl (cI, 6, .inl c_guard))]) X (k_X5_valueOf l D cI kA kV a_ a_fouls a_calls a_side a_kind a_near a_far a_free a_letter a_value a_row a_refusals a_image a_ahead a_guard a_worth c_seconds c_lead c_ball c_rebound c_law c_draw c_players c_letters c_at c_inRow c_imaged c_worth (p3 - r93) p4 (1 - p5) ⟨(m_secT hs.1 hw93 hw1 c5), hs.2.1, (m_bl1 hs.2.2)⟩) (cwV 3 X.2.2.2.2.1 gX5_ofShot_X5_valueOf rfl rfl rfl (by decide +kernel) ⟨Nat.le_of_ble_eq_true rfl, Nat.le_of_ble_eq_true rfl⟩) 5 rfl rfl [5, 6] [0, 1, 2, 3, 4] rfl rfl rfl rfl (by decide) rfl (Nat.le_of_ble_eq_true rfl) ⟨Nat.le_of_ble_eq_true rfl, Nat.le_of_ble_eq_true rfl⟩ dX5_ofShot_163 rfl (fun r163 u163 hw163 => ?_)
              refine g_eqs (ws' := [(a_kind, .inl (cI, 6, .inl c_kind)), (a_near, .inl (cI, 6, .inl c_near)), (a_far, .inl (cI, 6, .inl c_far)), (a_free, .inl (cI, 6, .inl c_free)), (a_guard, .inl (cI, 6, .inl c_guard)), (a_, .inr (5, [.int c_seconds, .int c_lead, .int c_ball, .ref a_fouls, .ref a_calls, .int c_rebound, .int c_law, .int c_draw, .int c_players, .ref a_side, .ref a_kind, .ref a_near, .ref a_far, .ref a_free, .int c_letters, .ref a_letter, .int c_at, .ref a_value, .int c_inRow, .ref a_row, .ref a_refusals, .int c_imaged, .ref a_image, .ref a_ahead, .ref a_guard, .ref a_worth])), (a_worth, .inl (cI, 650, .inl c_worth))]) rfl ?_
              have heq := g_let heq hw163
              refine g_i2l X dX5_ofShot_166 ?_
              refine g_lmul X dX5_ofShot_167 ?_
              refine g_ladd X dX5_ofShot_168 ?_
              refine g_ldc2 (v := 10) X (X.2.2.2.2.1 (.constantLong RX5 148 (10)) (List.mem_of_getElem? (i := 10) rfl)) dX5_ofShot_169 ?_
              refine g_ldiv X (by decide) dX5_ofShot_172 ?_
              refine g_lstore (lv' := [(12, .long (((c_rebound.toInt64 * r140.toInt64) + (((10 : Int64) - c_rebound.toInt64) * r163.toInt64)) / (10 : Int64))), (10, .long r122.toInt64), (9, .int (p3 - r93)), (8, .int (g_maxf (0 : Int32) (p4 - 3))), (7, .int 3), (6, .int r27), (0, .ref a_), (1, .int p1), (2, .int p2), (3, .int p3), (4, .int p4), (5, .int p5)]) X (by decide) rfl dX5_ofShot_173 ?_
              refine g_iload X 5 rfl dX5_ofShot_175 ?_
              refine g_i2l X dX5_ofShot_177 ?_
              refine g_lload X 1 rfl dX5_ofShot_178 ?_
              refine g_lmul X dX5_ofShot_180 ?_
              refine g_bipush (v := 10) X (by decide) dX5_ofShot_181 ?_
              refine g_iload X 5 rfl dX5_ofShot_183 ?_
              refine g_isub X dX5_ofShot_185 ?_
              refine g_i2l X dX5_ofShot_186 ?_
              refine g_lload X 0 rfl dX5_ofShot_187 ?_
              refine g_lmul X dX5_ofShot_189 ?_
              refine g_ladd X dX5_ofShot_190 ?_
              refine g_ldc2 (v := 10) X (X.2.2.2.2.1 (.constantLong RX5 148 (10)) (List.mem_of_getElem? (i := 10) rfl)) dX5_ofShot_191 ?_
              refine g_ldiv X (by decide) dX5_ofShot_194 ?_
              refine g_l2i X dX5_ofShot_195 ?_
              exact g_iret X hAA hQQ () (heq.symm.trans hXX) [5, 0, 1, 2, 3, 4, 6] rfl rfl hr dX5_ofShot_196
            · have heq := heq.trans (if_pos c105)
              refine g_iload_n X 7 rfl rfl dX5_ofShot_108 ?_
              refine g_iconst (v := 1) X (by decide) dX5_ofShot_109 ?_
              refine g_isub X dX5_ofShot_110 ?_
              refine g_goto (tgt := 116) X (by decide) dX5_ofShot_111 ?_
              refine g_iload X 1 rfl dX5_ofShot_116 ?_
              refine g_iconst (v := 1) X (by decide) dX5_ofShot_118 ?_
              refine g_iload X 9 rfl dX5_ofShot_119 ?_
              refine g_isub X dX5_ofShot_121 ?_
              refine g_callVi (C := RX5) (T := TX5) (N := 26) (ci := 5) (As := [.int (p3 - 1), .int (g_maxf (0 : Int32) (p4 - 3)), .int (1 - p5)]) (st := []) (wr := [(a_kind, .inl (cI, 6, .inl c_kind)), (a_near, .inl (cI, 6, .inl c_near)), (a_far, .inl (cI, 6, .inl c_far)), (a_free, .inl (cI, 6, .inl c_free)), (a_guard, .inl (cI, 6, .inl c_guard))]) X (k_X5_valueOf l D cI kA kV a_ a_fouls a_calls a_side a_kind a_near a_far a_free a_letter a_value a_row a_refusals a_image a_ahead a_guard a_worth c_seconds c_lead c_ball c_rebound c_law c_draw c_players c_letters c_at c_inRow c_imaged c_worth (p3 - 1) (g_maxf (0 : Int32) (p4 - 3)) (1 - p5) ⟨(m_sec1T hs.1 hw1 c5), (m_ldm3 hs.2.1), (m_bl1 hs.2.2)⟩) (cwV 3 X.2.2.2.2.1 gX5_ofShot_X5_valueOf rfl rfl rfl (by decide +kernel) ⟨Nat.le_of_ble_eq_true rfl, Nat.le_of_ble_eq_true rfl⟩) 1 rfl rfl [1, 0] [2, 3, 4, 5, 6] rfl rfl rfl rfl (by decide) rfl (Nat.le_of_ble_eq_true rfl) ⟨Nat.le_of_ble_eq_true rfl, Nat.le_of_ble_eq_true rfl⟩ dX5_ofShot_122 rfl (fun r122 u122 hw122 => ?_)
              refine g_eqs (ws' := [(a_kind, .inl (cI, 6, .inl c_kind)), (a_near, .inl (cI, 6, .inl c_near)), (a_far, .inl (cI, 6, .inl c_far)), (a_free, .inl (cI, 6, .inl c_free)), (a_guard, .inl (cI, 6, .inl c_guard)), (a_, .inr (5, [.int c_seconds, .int c_lead, .int c_ball, .ref a_fouls, .ref a_calls, .int c_rebound, .int c_law, .int c_draw, .int c_players, .ref a_side, .ref a_kind, .ref a_near, .ref a_far, .ref a_free, .int c_letters, .ref a_letter, .int c_at, .ref a_value, .int c_inRow, .ref a_row, .ref a_refusals, .int c_imaged, .ref a_image, .ref a_ahead, .ref a_guard, .ref a_worth])), (a_worth, .inl (cI, 650, .inl c_worth))]) rfl ?_
              have heq := g_let heq hw122
              refine g_i2l X dX5_ofShot_125 ?_
              refine g_lstore (lv' := [(10, .long r122.toInt64), (9, .int (p3 - r93)), (8, .int (g_maxf (0 : Int32) (p4 - 3))), (7, .int 3), (6, .int r27), (0, .ref a_), (1, .int p1), (2, .int p2), (3, .int p3), (4, .int p4), (5, .int p5)]) X (by decide) rfl dX5_ofShot_126 ?_
              refine g_aload_n X 5 rfl rfl dX5_ofShot_128 ?_
              refine g_get (C := RX5) (T := TX5) (N := 26) (ci := 5) X hi_X5_ofShot_X5 5 rfl rfl 5 (by decide) (X.2.2.2.2.1 (.fieldLink RX5 62 "NineteenSecondsLeftModel" "rebound" "I") (List.mem_of_getElem? (i := 9) rfl)) rfl rfl dX5_ofShot_129 ?_
              refine g_i2l X dX5_ofShot_132 ?_
              refine g_aload_n X 5 rfl rfl dX5_ofShot_133 ?_
              refine g_iload X 1 rfl dX5_ofShot_134 ?_
              refine g_iload X 9 rfl dX5_ofShot_136 ?_
              refine g_iload X 10 rfl dX5_ofShot_138 ?_
              refine g_callVi (C := RX5) (T := TX5) (N := 26) (ci := 5) (As := [.int (p3 - r93), .int p4, .int p5]) (st := [.long c_rebound.toInt64]) (wr := [(a_kind, .inl (cI, 6, .inl c_kind)), (a_near, .inl (cI, 6, .inl c_near)), (a_far, .inl (cI, 6, .inl c_far)), (a_free, .inl (cI, 6, .inl c_free)), (a_guard, .inl (cI, 6, .inl c_guard))]) X (k_X5_valueOf l D cI kA kV a_ a_fouls a_calls a_side a_kind a_near a_far a_free a_letter a_value a_row a_refusals a_image a_ahead a_guard a_worth c_seconds c_lead c_ball c_rebound c_law c_draw c_players c_letters c_at c_inRow c_imaged c_worth (p3 - r93) p4 p5 ⟨(m_secT hs.1 hw93 hw1 c5), hs.2.1, hs.2.2⟩) (cwV 3 X.2.2.2.2.1 gX5_ofShot_X5_valueOf rfl rfl rfl (by decide +kernel) ⟨Nat.le_of_ble_eq_true rfl, Nat.le_of_ble_eq_true rfl⟩) 5 rfl rfl [5, 6] [0, 1, 2, 3, 4] rfl rfl rfl rfl (by decide) rfl (Nat.le_of_ble_eq_true rfl) ⟨Nat.le_of_ble_eq_true rfl, Nat.le_of_ble_eq_true rfl⟩ dX5_ofShot_140 rfl (fun r140 u140 hw140 => ?_)
              refine g_eqs (ws' := [(a_kind, .inl (cI, 6, .inl c_kind)), (a_near, .inl (cI, 6, .inl c_near)), (a_far, .inl (cI, 6, .inl c_far)), (a_free, .inl (cI, 6, .inl c_free)), (a_guard, .inl (cI, 6, .inl c_guard)), (a_, .inr (5, [.int c_seconds, .int c_lead, .int c_ball, .ref a_fouls, .ref a_calls, .int c_rebound, .int c_law, .int c_draw, .int c_players, .ref a_side, .ref a_kind, .ref a_near, .ref a_far, .ref a_free, .int c_letters, .ref a_letter, .int c_at, .ref a_value, .int c_inRow, .ref a_row, .ref a_refusals, .int c_imaged, .ref a_image, .ref a_ahead, .ref a_guard, .ref a_worth])), (a_worth, .inl (cI, 650, .inl c_worth))]) rfl ?_
              have heq := g_let heq hw140
              refine g_i2l X dX5_ofShot_143 ?_
              refine g_lmul X dX5_ofShot_144 ?_
              refine g_ldc2 (v := 10) X (X.2.2.2.2.1 (.constantLong RX5 148 (10)) (List.mem_of_getElem? (i := 10) rfl)) dX5_ofShot_145 ?_
              refine g_aload_n X 5 rfl rfl dX5_ofShot_148 ?_
              refine g_get (C := RX5) (T := TX5) (N := 26) (ci := 5) X hi_X5_ofShot_X5 5 rfl rfl 5 (by decide) (X.2.2.2.2.1 (.fieldLink RX5 62 "NineteenSecondsLeftModel" "rebound" "I") (List.mem_of_getElem? (i := 9) rfl)) rfl rfl dX5_ofShot_149 ?_
              refine g_i2l X dX5_ofShot_152 ?_
              refine g_lsub X dX5_ofShot_153 ?_
              refine g_aload_n X 5 rfl rfl dX5_ofShot_154 ?_
              refine g_iload X 1 rfl dX5_ofShot_155 ?_
              refine g_iload X 9 rfl dX5_ofShot_157 ?_
              refine g_iconst (v := 1) X (by decide) dX5_ofShot_159 ?_
              refine g_iload X 10 rfl dX5_ofShot_160 ?_
              refine g_isub X dX5_ofShot_162 ?_
              refine g_callVi (C := RX5) (T := TX5) (N := 26) (ci := 5) (As := [.int (p3 - r93), .int p4, .int (1 - p5)]) (st := [.long ((10 : Int64) - c_rebound.toInt64), .long (c_rebound.toInt64 * r140.toInt64)]) (wr := [(a_kind, .inl (cI, 6, .inl c_kind)), (a_near, .inl (cI, 6, .inl c_near)), (a_far, .inl (cI, 6, .inl c_far)), (a_free, .inl (cI, 6, .inl c_free)), (a_guard, .inl (cI, 6, .inl c_guard))]) X (k_X5_valueOf l D cI kA kV a_ a_fouls a_calls a_side a_kind a_near a_far a_free a_letter a_value a_row a_refusals a_image a_ahead a_guard a_worth c_seconds c_lead c_ball c_rebound c_law c_draw c_players c_letters c_at c_inRow c_imaged c_worth (p3 - r93) p4 (1 - p5) ⟨(m_secT hs.1 hw93 hw1 c5), hs.2.1, (m_bl1 hs.2.2)⟩) (cwV 3 X.2.2.2.2.1 gX5_ofShot_X5_valueOf rfl rfl rfl (by decide +kernel) ⟨Nat.le_of_ble_eq_true rfl, Nat.le_of_ble_eq_true rfl⟩) 5 rfl rfl [5, 6] [0, 1, 2, 3, 4] rfl rfl rfl rfl (by decide) rfl (Nat.le_of_ble_eq_true rfl) ⟨Nat.le_of_ble_eq_true rfl, Nat.le_of_ble_eq_true rfl⟩ dX5_ofShot_163 rfl (fun r163 u163 hw163 => ?_)
              refine g_eqs (ws' := [(a_kind, .inl (cI, 6, .inl c_kind)), (a_near, .inl (cI, 6, .inl c_near)), (a_far, .inl (cI, 6, .inl c_far)), (a_free, .inl (cI, 6, .inl c_free)), (a_guard, .inl (cI, 6, .inl c_guard)), (a_, .inr (5, [.int c_seconds, .int c_lead, .int c_ball, .ref a_fouls, .ref a_calls, .int c_rebound, .int c_law, .int c_draw, .int c_players, .ref a_side, .ref a_kind, .ref a_near, .ref a_far, .ref a_free, .int c_letters, .ref a_letter, .int c_at, .ref a_value, .int c_inRow, .ref a_row, .ref a_refusals, .int c_imaged, .ref a_image, .ref a_ahead, .ref a_guard, .ref a_worth])), (a_worth, .inl (cI, 650, .inl c_worth))]) rfl ?_
              have heq := g_let heq hw163
              refine g_i2l X dX5_ofShot_166 ?_
              refine g_lmul X dX5_ofShot_167 ?_
              refine g_ladd X dX5_ofShot_168 ?_
              refine g_ldc2 (v := 10) X (X.2.2.2.2.1 (.constantLong RX5 148 (10)) (List.mem_of_getElem? (i := 10) rfl)) dX5_ofShot_169 ?_
              refine g_ldiv X (by decide) dX5_ofShot_172 ?_
              refine g_lstore (lv' := [(12, .long (((c_rebound.toInt64 * r140.toInt64) + (((10 : Int64) - c_rebound.toInt64) * r163.toInt64)) / (10 : Int64))), (10, .long r122.toInt64), (9, .int (p3 - r93)), (8, .int (g_maxf (0 : Int32) (p4 - 3))), (7, .int 3), (6, .int r27), (0, .ref a_), (1, .int p1), (2, .int p2), (3, .int p3), (4, .int p4), (5, .int p5)]) X (by decide) rfl dX5_ofShot_173 ?_
              refine g_iload X 5 rfl dX5_ofShot_175 ?_
              refine g_i2l X dX5_ofShot_177 ?_
              refine g_lload X 1 rfl dX5_ofShot_178 ?_
              refine g_lmul X dX5_ofShot_180 ?_
              refine g_bipush (v := 10) X (by decide) dX5_ofShot_181 ?_
              refine g_iload X 5 rfl dX5_ofShot_183 ?_
              refine g_isub X dX5_ofShot_185 ?_
              refine g_i2l X dX5_ofShot_186 ?_
              refine g_lload X 0 rfl dX5_ofShot_187 ?_
              refine g_lmul X dX5_ofShot_189 ?_
              refine g_ladd X dX5_ofShot_190 ?_
              refine g_ldc2 (v := 10) X (X.2.2.2.2.1 (.constantLong RX5 148 (10)) (List.mem_of_getElem? (i := 10) rfl)) dX5_ofShot_191 ?_
              refine g_ldiv X (by decide) dX5_ofShot_194 ?_
              refine g_l2i X dX5_ofShot_195 ?_
              exact g_iret X hAA hQQ () (heq.symm.trans hXX) [5, 0, 1, 2, 3, 4, 6] rfl rfl hr dX5_ofShot_196
          · have heq := heq.trans (if_pos c64)
            refine g_bipush (v := 12) X (by decide) dX5_ofShot_67 ?_
            refine g_iload X 6 rfl dX5_ofShot_69 ?_
            refine g_iload X 0 rfl dX5_ofShot_71 ?_
            refine g_iadd X dX5_ofShot_73 ?_
            refine g_mmin X (X.2.2.2.2.1 (.methodLink RX5 118 Lib.Math.min.name) (List.mem_of_getElem? (i := 2) rfl)) (X.2.2.2.2.1 (.static Lib.Math.min.name) (List.mem_of_getElem? (i := 3) rfl)) (X.2.2.2.2.1 (.initialized "java/lang/Math") (List.mem_of_getElem? (i := 4) rfl)) (X.2.2.2.2.1 (.code Lib.Math.min.name Lib.Math.min.code 2 (some .int)) (List.mem_of_getElem? (i := 5) rfl)) (Nat.le_of_ble_eq_true rfl) (Nat.le_of_ble_eq_true rfl) (Nat.le_of_ble_eq_true rfl) (Nat.le_of_ble_eq_true rfl) dX5_ofShot_74 ?_
            refine g_goto (tgt := 89) X (by decide) dX5_ofShot_77 ?_
            refine g_istore (lv' := [(8, .int (g_minf (12 : Int32) (p4 + 3))), (7, .int 3), (6, .int r27), (0, .ref a_), (1, .int p1), (2, .int p2), (3, .int p3), (4, .int p4), (5, .int p5)]) X (by decide) rfl dX5_ofShot_89 ?_
            refine g_iload_n X 6 rfl rfl dX5_ofShot_91 ?_
            refine g_iload_n X 5 rfl rfl dX5_ofShot_92 ?_
            refine g_callSi (As := [.int p2]) (st := [.int p3]) (wr := [(a_worth, .inl (cI, 650, .inl c_worth)), (a_, .inr (5, [.int c_seconds, .int c_lead, .int c_ball, .ref a_fouls, .ref a_calls, .int c_rebound, .int c_law, .int c_draw, .int c_players, .ref a_side, .ref a_kind, .ref a_near, .ref a_far, .ref a_free, .int c_letters, .ref a_letter, .int c_at, .ref a_value, .int c_inRow, .ref a_row, .ref a_refusals, .int c_imaged, .ref a_image, .ref a_ahead, .ref a_guard, .ref a_worth])), (a_kind, .inl (cI, 6, .inl c_kind)), (a_near, .inl (cI, 6, .inl c_near)), (a_far, .inl (cI, 6, .inl c_far)), (a_free, .inl (cI, 6, .inl c_free)), (a_guard, .inl (cI, 6, .inl c_guard))]) X (k_X5_takes l D cI kA kV p2) (va_cwS 1 X.2.2.2.2.1 gX5_ofShot_X5_takes rfl rfl rfl (by decide +kernel) ⟨Nat.le_of_ble_eq_true rfl, Nat.le_of_ble_eq_true rfl⟩) [] [0, 1, 2, 3, 4, 5, 6] rfl rfl rfl rfl (by decide) rfl (Nat.le_of_ble_eq_true rfl) ⟨Nat.le_of_ble_eq_true rfl, Nat.le_of_ble_eq_true rfl⟩ dX5_ofShot_93 rfl (fun r93 u93 hw93 => ?_)
            refine g_eqs (ws' := [(a_worth, .inl (cI, 650, .inl c_worth)), (a_, .inr (5, [.int c_seconds, .int c_lead, .int c_ball, .ref a_fouls, .ref a_calls, .int c_rebound, .int c_law, .int c_draw, .int c_players, .ref a_side, .ref a_kind, .ref a_near, .ref a_far, .ref a_free, .int c_letters, .ref a_letter, .int c_at, .ref a_value, .int c_inRow, .ref a_row, .ref a_refusals, .int c_imaged, .ref a_image, .ref a_ahead, .ref a_guard, .ref a_worth])), (a_kind, .inl (cI, 6, .inl c_kind)), (a_near, .inl (cI, 6, .inl c_near)), (a_far, .inl (cI, 6, .inl c_far)), (a_free, .inl (cI, 6, .inl c_free)), (a_guard, .inl (cI, 6, .inl c_guard))]) rfl ?_
            have heq := g_let heq hw93
            refine g_isub X dX5_ofShot_96 ?_
            refine g_istore (lv' := [(9, .int (p3 - r93)), (8, .int (g_minf (12 : Int32) (p4 + 3))), (7, .int 3), (6, .int r27), (0, .ref a_), (1, .int p1), (2, .int p2), (3, .int p3), (4, .int p4), (5, .int p5)]) X (by decide) rfl dX5_ofShot_97 ?_
            refine g_aload_n X 4 rfl rfl dX5_ofShot_99 ?_
            refine g_aload_n X 4 rfl rfl dX5_ofShot_100 ?_
            refine g_get (C := RX5) (T := TX5) (N := 26) (ci := 5) X hi_X5_ofShot_X5 1 rfl rfl 6 (by decide) (X.2.2.2.2.1 (.fieldLink RX5 104 "NineteenSecondsLeftModel" "law" "I") (List.mem_of_getElem? (i := 1) rfl)) rfl rfl dX5_ofShot_101 ?_
            refine g_iconst (v := 2) X (by decide) dX5_ofShot_104 ?_
            refine g_icmp_ne X 114 dX5_ofShot_105 (by decide) (fun c105 => ?_) (fun c105 => ?_)
            · have heq := heq.trans (if_neg c105)
              refine g_iload X 0 rfl dX5_ofShot_114 ?_
              refine g_iload X 1 rfl dX5_ofShot_116 ?_
              refine g_iconst (v := 1) X (by decide) dX5_ofShot_118 ?_
              refine g_iload X 9 rfl dX5_ofShot_119 ?_
              refine g_isub X dX5_ofShot_121 ?_
              refine g_callVi (C := RX5) (T := TX5) (N := 26) (ci := 5) (As := [.int (p3 - r93), .int (g_minf (12 : Int32) (p4 + 3)), .int (1 - p5)]) (st := []) (wr := [(a_kind, .inl (cI, 6, .inl c_kind)), (a_near, .inl (cI, 6, .inl c_near)), (a_far, .inl (cI, 6, .inl c_far)), (a_free, .inl (cI, 6, .inl c_free)), (a_guard, .inl (cI, 6, .inl c_guard))]) X (k_X5_valueOf l D cI kA kV a_ a_fouls a_calls a_side a_kind a_near a_far a_free a_letter a_value a_row a_refusals a_image a_ahead a_guard a_worth c_seconds c_lead c_ball c_rebound c_law c_draw c_players c_letters c_at c_inRow c_imaged c_worth (p3 - r93) (g_minf (12 : Int32) (p4 + 3)) (1 - p5) ⟨(m_secT hs.1 hw93 hw1 c5), (m_ldp3 hs.2.1), (m_bl1 hs.2.2)⟩) (cwV 3 X.2.2.2.2.1 gX5_ofShot_X5_valueOf rfl rfl rfl (by decide +kernel) ⟨Nat.le_of_ble_eq_true rfl, Nat.le_of_ble_eq_true rfl⟩) 1 rfl rfl [1, 0] [2, 3, 4, 5, 6] rfl rfl rfl rfl (by decide) rfl (Nat.le_of_ble_eq_true rfl) ⟨Nat.le_of_ble_eq_true rfl, Nat.le_of_ble_eq_true rfl⟩ dX5_ofShot_122 rfl (fun r122 u122 hw122 => ?_)
              refine g_eqs (ws' := [(a_kind, .inl (cI, 6, .inl c_kind)), (a_near, .inl (cI, 6, .inl c_near)), (a_far, .inl (cI, 6, .inl c_far)), (a_free, .inl (cI, 6, .inl c_free)), (a_guard, .inl (cI, 6, .inl c_guard)), (a_, .inr (5, [.int c_seconds, .int c_lead, .int c_ball, .ref a_fouls, .ref a_calls, .int c_rebound, .int c_law, .int c_draw, .int c_players, .ref a_side, .ref a_kind, .ref a_near, .ref a_far, .ref a_free, .int c_letters, .ref a_letter, .int c_at, .ref a_value, .int c_inRow, .ref a_row, .ref a_refusals, .int c_imaged, .ref a_image, .ref a_ahead, .ref a_guard, .ref a_worth])), (a_worth, .inl (cI, 650, .inl c_worth))]) rfl ?_
              have heq := g_let heq hw122
              refine g_i2l X dX5_ofShot_125 ?_
              refine g_lstore (lv' := [(10, .long r122.toInt64), (9, .int (p3 - r93)), (8, .int (g_minf (12 : Int32) (p4 + 3))), (7, .int 3), (6, .int r27), (0, .ref a_), (1, .int p1), (2, .int p2), (3, .int p3), (4, .int p4), (5, .int p5)]) X (by decide) rfl dX5_ofShot_126 ?_
              refine g_aload_n X 5 rfl rfl dX5_ofShot_128 ?_
              refine g_get (C := RX5) (T := TX5) (N := 26) (ci := 5) X hi_X5_ofShot_X5 5 rfl rfl 5 (by decide) (X.2.2.2.2.1 (.fieldLink RX5 62 "NineteenSecondsLeftModel" "rebound" "I") (List.mem_of_getElem? (i := 9) rfl)) rfl rfl dX5_ofShot_129 ?_
              refine g_i2l X dX5_ofShot_132 ?_
              refine g_aload_n X 5 rfl rfl dX5_ofShot_133 ?_
              refine g_iload X 1 rfl dX5_ofShot_134 ?_
              refine g_iload X 9 rfl dX5_ofShot_136 ?_
              refine g_iload X 10 rfl dX5_ofShot_138 ?_
              refine g_callVi (C := RX5) (T := TX5) (N := 26) (ci := 5) (As := [.int (p3 - r93), .int p4, .int p5]) (st := [.long c_rebound.toInt64]) (wr := [(a_kind, .inl (cI, 6, .inl c_kind)), (a_near, .inl (cI, 6, .inl c_near)), (a_far, .inl (cI, 6, .inl c_far)), (a_free, .inl (cI, 6, .inl c_free)), (a_guard, .inl (cI, 6, .inl c_guard))]) X (k_X5_valueOf l D cI kA kV a_ a_fouls a_calls a_side a_kind a_near a_far a_free a_letter a_value a_row a_refusals a_image a_ahead a_guard a_worth c_seconds c_lead c_ball c_rebound c_law c_draw c_players c_letters c_at c_inRow c_imaged c_worth (p3 - r93) p4 p5 ⟨(m_secT hs.1 hw93 hw1 c5), hs.2.1, hs.2.2⟩) (cwV 3 X.2.2.2.2.1 gX5_ofShot_X5_valueOf rfl rfl rfl (by decide +kernel) ⟨Nat.le_of_ble_eq_true rfl, Nat.le_of_ble_eq_true rfl⟩) 5 rfl rfl [5, 6] [0, 1, 2, 3, 4] rfl rfl rfl rfl (by decide) rfl (Nat.le_of_ble_eq_true rfl) ⟨Nat.le_of_ble_eq_true rfl, Nat.le_of_ble_eq_true rfl⟩ dX5_ofShot_140 rfl (fun r140 u140 hw140 => ?_)
              refine g_eqs (ws' := [(a_kind, .inl (cI, 6, .inl c_kind)), (a_near, .inl (cI, 6, .inl c_near)), (a_far, .inl (cI, 6, .inl c_far)), (a_free, .inl (cI, 6, .inl c_free)), (a_guard, .inl (cI, 6, .inl c_guard)), (a_, .inr (5, [.int c_seconds, .int c_lead, .int c_ball, .ref a_fouls, .ref a_calls, .int c_rebound, .int c_law, .int c_draw, .int c_players, .ref a_side, .ref a_kind, .ref a_near, .ref a_far, .ref a_free, .int c_letters, .ref a_letter, .int c_at, .ref a_value, .int c_inRow, .ref a_row, .ref a_refusals, .int c_imaged, .ref a_image, .ref a_ahead, .ref a_guard, .ref a_worth])), (a_worth, .inl (cI, 650, .inl c_worth))]) rfl ?_
              have heq := g_let heq hw140
              refine g_i2l X dX5_ofShot_143 ?_
              refine g_lmul X dX5_ofShot_144 ?_
              refine g_ldc2 (v := 10) X (X.2.2.2.2.1 (.constantLong RX5 148 (10)) (List.mem_of_getElem? (i := 10) rfl)) dX5_ofShot_145 ?_
              refine g_aload_n X 5 rfl rfl dX5_ofShot_148 ?_
              refine g_get (C := RX5) (T := TX5) (N := 26) (ci := 5) X hi_X5_ofShot_X5 5 rfl rfl 5 (by decide) (X.2.2.2.2.1 (.fieldLink RX5 62 "NineteenSecondsLeftModel" "rebound" "I") (List.mem_of_getElem? (i := 9) rfl)) rfl rfl dX5_ofShot_149 ?_
              refine g_i2l X dX5_ofShot_152 ?_
              refine g_lsub X dX5_ofShot_153 ?_
              refine g_aload_n X 5 rfl rfl dX5_ofShot_154 ?_
              refine g_iload X 1 rfl dX5_ofShot_155 ?_
              refine g_iload X 9 rfl dX5_ofShot_157 ?_
              refine g_iconst (v := 1) X (by decide) dX5_ofShot_159 ?_
              refine g_iload X 10 rfl dX5_ofShot_160 ?_
              refine g_isub X dX5_ofShot_162 ?_
              refine g_callVi (C := RX5) (T := TX5) (N := 26) (ci := 5) (As := [.int (p3 - r93), .int p4, .int (1 - p5)]) (st := [.long ((10 : Int64) - c_rebound.toInt64), .long (c_rebound.toInt64 * r140.toInt64)]) (wr := [(a_kind, .inl (cI, 6, .inl c_kind)), (a_near, .inl (cI, 6, .inl c_near)), (a_far, .inl (cI, 6, .inl c_far)), (a_free, .inl (cI, 6, .inl c_free)), (a_guard, .inl (cI, 6, .inl c_guard))]) X (k_X5_valueOf l D cI kA kV a_ a_fouls a_calls a_side a_kind a_near a_far a_free a_letter a_value a_row a_refusals a_image a_ahead a_guard a_worth c_seconds c_lead c_ball c_rebound c_law c_draw c_players c_letters c_at c_inRow c_imaged c_worth (p3 - r93) p4 (1 - p5) ⟨(m_secT hs.1 hw93 hw1 c5), hs.2.1, (m_bl1 hs.2.2)⟩) (cwV 3 X.2.2.2.2.1 gX5_ofShot_X5_valueOf rfl rfl rfl (by decide +kernel) ⟨Nat.le_of_ble_eq_true rfl, Nat.le_of_ble_eq_true rfl⟩) 5 rfl rfl [5, 6] [0, 1, 2, 3, 4] rfl rfl rfl rfl (by decide) rfl (Nat.le_of_ble_eq_true rfl) ⟨Nat.le_of_ble_eq_true rfl, Nat.le_of_ble_eq_true rfl⟩ dX5_ofShot_163 rfl (fun r163 u163 hw163 => ?_)
              refine g_eqs (ws' := [(a_kind, .inl (cI, 6, .inl c_kind)), (a_near, .inl (cI, 6, .inl c_near)), (a_far, .inl (cI, 6, .inl c_far)), (a_free, .inl (cI, 6, .inl c_free)), (a_guard, .inl (cI, 6, .inl c_guard)), (a_, .inr (5, [.int c_seconds, .int c_lead, .int c_ball, .ref a_fouls, .ref a_calls, .int c_rebound, .int c_law, .int c_draw, .int c_players, .ref a_side, .ref a_kind, .ref a_near, .ref a_far, .ref a_free, .int c_letters, .ref a_letter, .int c_at, .ref a_value, .int c_inRow, .ref a_row, .ref a_refusals, .int c_imaged, .ref a_image, .ref a_ahead, .ref a_guard, .ref a_worth])), (a_worth, .inl (cI, 650, .inl c_worth))]) rfl ?_
              have heq := g_let heq hw163
              refine g_i2l X dX5_ofShot_166 ?_
              refine g_lmul X dX5_ofShot_167 ?_
              refine g_ladd X dX5_ofShot_168 ?_
              refine g_ldc2 (v := 10) X (X.2.2.2.2.1 (.constantLong RX5 148 (10)) (List.mem_of_getElem? (i := 10) rfl)) dX5_ofShot_169 ?_
              refine g_ldiv X (by decide) dX5_ofShot_172 ?_
              refine g_lstore (lv' := [(12, .long (((c_rebound.toInt64 * r140.toInt64) + (((10 : Int64) - c_rebound.toInt64) * r163.toInt64)) / (10 : Int64))), (10, .long r122.toInt64), (9, .int (p3 - r93)), (8, .int (g_minf (12 : Int32) (p4 + 3))), (7, .int 3), (6, .int r27), (0, .ref a_), (1, .int p1), (2, .int p2), (3, .int p3), (4, .int p4), (5, .int p5)]) X (by decide) rfl dX5_ofShot_173 ?_
              refine g_iload X 5 rfl dX5_ofShot_175 ?_
              refine g_i2l X dX5_ofShot_177 ?_
              refine g_lload X 1 rfl dX5_ofShot_178 ?_
              refine g_lmul X dX5_ofShot_180 ?_
              refine g_bipush (v := 10) X (by decide) dX5_ofShot_181 ?_
              refine g_iload X 5 rfl dX5_ofShot_183 ?_
              refine g_isub X dX5_ofShot_185 ?_
              refine g_i2l X dX5_ofShot_186 ?_
              refine g_lload X 0 rfl dX5_ofShot_187 ?_
              refine g_lmul X dX5_ofShot_189 ?_
              refine g_ladd X dX5_ofShot_190 ?_
              refine g_ldc2 (v := 10) X (X.2.2.2.2.1 (.constantLong RX5 148 (10)) (List.mem_of_getElem? (i := 10) rfl)) dX5_ofShot_191 ?_
              refine g_ldiv X (by decide) dX5_ofShot_194 ?_
              refine g_l2i X dX5_ofShot_195 ?_
              exact g_iret X hAA hQQ () (heq.symm.trans hXX) [5, 0, 1, 2, 3, 4, 6] rfl rfl hr dX5_ofShot_196
            · have heq := heq.trans (if_pos c105)
              refine g_iload_n X 7 rfl rfl dX5_ofShot_108 ?_
              refine g_iconst (v := 1) X (by decide) dX5_ofShot_109 ?_
              refine g_isub X dX5_ofShot_110 ?_
              refine g_goto (tgt := 116) X (by decide) dX5_ofShot_111 ?_
              refine g_iload X 1 rfl dX5_ofShot_116 ?_
              refine g_iconst (v := 1) X (by decide) dX5_ofShot_118 ?_
              refine g_iload X 9 rfl dX5_ofShot_119 ?_
              refine g_isub X dX5_ofShot_121 ?_
              refine g_callVi (C := RX5) (T := TX5) (N := 26) (ci := 5) (As := [.int (p3 - 1), .int (g_minf (12 : Int32) (p4 + 3)), .int (1 - p5)]) (st := []) (wr := [(a_kind, .inl (cI, 6, .inl c_kind)), (a_near, .inl (cI, 6, .inl c_near)), (a_far, .inl (cI, 6, .inl c_far)), (a_free, .inl (cI, 6, .inl c_free)), (a_guard, .inl (cI, 6, .inl c_guard))]) X (k_X5_valueOf l D cI kA kV a_ a_fouls a_calls a_side a_kind a_near a_far a_free a_letter a_value a_row a_refusals a_image a_ahead a_guard a_worth c_seconds c_lead c_ball c_rebound c_law c_draw c_players c_letters c_at c_inRow c_imaged c_worth (p3 - 1) (g_minf (12 : Int32) (p4 + 3)) (1 - p5) ⟨(m_sec1T hs.1 hw1 c5), (m_ldp3 hs.2.1), (m_bl1 hs.2.2)⟩) (cwV 3 X.2.2.2.2.1 gX5_ofShot_X5_valueOf rfl rfl rfl (by decide +kernel) ⟨Nat.le_of_ble_eq_true rfl, Nat.le_of_ble_eq_true rfl⟩) 1 rfl rfl [1, 0] [2, 3, 4, 5, 6] rfl rfl rfl rfl (by decide) rfl (Nat.le_of_ble_eq_true rfl) ⟨Nat.le_of_ble_eq_true rfl, Nat.le_of_ble_eq_true rfl⟩ dX5_ofShot_122 rfl (fun r122 u122 hw122 => ?_)
              refine g_eqs (ws' := [(a_kind, .inl (cI, 6, .inl c_kind)), (a_near, .inl (cI, 6, .inl c_near)), (a_far, .inl (cI, 6, .inl c_far)), (a_free, .inl (cI, 6, .inl c_free)), (a_guard, .inl (cI, 6, .inl c_guard)), (a_, .inr (5, [.int c_seconds, .int c_lead, .int c_ball, .ref a_fouls, .ref a_calls, .int c_rebound, .int c_law, .int c_draw, .int c_players, .ref a_side, .ref a_kind, .ref a_near, .ref a_far, .ref a_free, .int c_letters, .ref a_letter, .int c_at, .ref a_value, .int c_inRow, .ref a_row, .ref a_refusals, .int c_imaged, .ref a_image, .ref a_ahead, .ref a_guard, .ref a_worth])), (a_worth, .inl (cI, 650, .inl c_worth))]) rfl ?_
              have heq := g_let heq hw122
              refine g_i2l X dX5_ofShot_125 ?_
              refine g_lstore (lv' := [(10, .long r122.toInt64), (9, .int (p3 - r93)), (8, .int (g_minf (12 : Int32) (p4 + 3))), (7, .int 3), (6, .int r27), (0, .ref a_), (1, .int p1), (2, .int p2), (3, .int p3), (4, .int p4), (5, .int p5)]) X (by decide) rfl dX5_ofShot_126 ?_
              refine g_aload_n X 5 rfl rfl dX5_ofShot_128 ?_
              refine g_get (C := RX5) (T := TX5) (N := 26) (ci := 5) X hi_X5_ofShot_X5 5 rfl rfl 5 (by decide) (X.2.2.2.2.1 (.fieldLink RX5 62 "NineteenSecondsLeftModel" "rebound" "I") (List.mem_of_getElem? (i := 9) rfl)) rfl rfl dX5_ofShot_129 ?_
              refine g_i2l X dX5_ofShot_132 ?_
              refine g_aload_n X 5 rfl rfl dX5_ofShot_133 ?_
              refine g_iload X 1 rfl dX5_ofShot_134 ?_
              refine g_iload X 9 rfl dX5_ofShot_136 ?_
              refine g_iload X 10 rfl dX5_ofShot_138 ?_
              refine g_callVi (C := RX5) (T := TX5) (N := 26) (ci := 5) (As := [.int (p3 - r93), .int p4, .int p5]) (st := [.long c_rebound.toInt64]) (wr := [(a_kind, .inl (cI, 6, .inl c_kind)), (a_near, .inl (cI, 6, .inl c_near)), (a_far, .inl (cI, 6, .inl c_far)), (a_free, .inl (cI, 6, .inl c_free)), (a_guard, .inl (cI, 6, .inl c_guard))]) X (k_X5_valueOf l D cI kA kV a_ a_fouls a_calls a_side a_kind a_near a_far a_free a_letter a_value a_row a_refusals a_image a_ahead a_guard a_worth c_seconds c_lead c_ball c_rebound c_law c_draw c_players c_letters c_at c_inRow c_imaged c_worth (p3 - r93) p4 p5 ⟨(m_secT hs.1 hw93 hw1 c5), hs.2.1, hs.2.2⟩) (cwV 3 X.2.2.2.2.1 gX5_ofShot_X5_valueOf rfl rfl rfl (by decide +kernel) ⟨Nat.le_of_ble_eq_true rfl, Nat.le_of_ble_eq_true rfl⟩) 5 rfl rfl [5, 6] [0, 1, 2, 3, 4] rfl rfl rfl rfl (by decide) rfl (Nat.le_of_ble_eq_true rfl) ⟨Nat.le_of_ble_eq_true rfl, Nat.le_of_ble_eq_true rfl⟩ dX5_ofShot_140 rfl (fun r140 u140 hw140 => ?_)
              refine g_eqs (ws' := [(a_kind, .inl (cI, 6, .inl c_kind)), (a_near, .inl (cI, 6, .inl c_near)), (a_far, .inl (cI, 6, .inl c_far)), (a_free, .inl (cI, 6, .inl c_free)), (a_guard, .inl (cI, 6, .inl c_guard)), (a_, .inr (5, [.int c_seconds, .int c_lead, .int c_ball, .ref a_fouls, .ref a_calls, .int c_rebound, .int c_law, .int c_draw, .int c_players, .ref a_side, .ref a_kind, .ref a_near, .ref a_far, .ref a_free, .int c_letters, .ref a_letter, .int c_at, .ref a_value, .int c_inRow, .ref a_row, .ref a_refusals, .int c_imaged, .ref a_image, .ref a_ahead, .ref a_guard, .ref a_worth])), (a_worth, .inl (cI, 650, .inl c_worth))]) rfl ?_
              have heq := g_let heq hw140
              refine g_i2l X dX5_ofShot_143 ?_
              refine g_lmul X dX5_ofShot_144 ?_
              refine g_ldc2 (v := 10) X (X.2.2.2.2.1 (.constantLong RX5 148 (10)) (List.mem_of_getElem? (i := 10) rfl)) dX5_ofShot_145 ?_
              refine g_aload_n X 5 rfl rfl dX5_ofShot_148 ?_
              refine g_get (C := RX5) (T := TX5) (N := 26) (ci := 5) X hi_X5_ofShot_X5 5 rfl rfl 5 (by decide) (X.2.2.2.2.1 (.fieldLink RX5 62 "NineteenSecondsLeftModel" "rebound" "I") (List.mem_of_getElem? (i := 9) rfl)) rfl rfl dX5_ofShot_149 ?_
              refine g_i2l X dX5_ofShot_152 ?_
              refine g_lsub X dX5_ofShot_153 ?_
              refine g_aload_n X 5 rfl rfl dX5_ofShot_154 ?_
              refine g_iload X 1 rfl dX5_ofShot_155 ?_
              refine g_iload X 9 rfl dX5_ofShot_157 ?_
              refine g_iconst (v := 1) X (by decide) dX5_ofShot_159 ?_
              refine g_iload X 10 rfl dX5_ofShot_160 ?_
              refine g_isub X dX5_ofShot_162 ?_
              refine g_callVi (C := RX5) (T := TX5) (N := 26) (ci := 5) (As := [.int (p3 - r93), .int p4, .int (1 - p5)]) (st := [.long ((10 : Int64) - c_rebound.toInt64), .long (c_rebound.toInt64 * r140.toInt64)]) (wr := [(a_kind, .inl (cI, 6, .inl c_kind)), (a_near, .inl (cI, 6, .inl c_near)), (a_far, .inl (cI, 6, .inl c_far)), (a_free, .inl (cI, 6, .inl c_free)), (a_guard, .inl (cI, 6, .inl c_guard))]) X (k_X5_valueOf l D cI kA kV a_ a_fouls a_calls a_side a_kind a_near a_far a_free a_letter a_value a_row a_refusals a_image a_ahead a_guard a_worth c_seconds c_lead c_ball c_rebound c_law c_draw c_players c_letters c_at c_inRow c_imaged c_worth (p3 - r93) p4 (1 - p5) ⟨(m_secT hs.1 hw93 hw1 c5), hs.2.1, (m_bl1 hs.2.2)⟩) (cwV 3 X.2.2.2.2.1 gX5_ofShot_X5_valueOf rfl rfl rfl (by decide +kernel) ⟨Nat.le_of_ble_eq_true rfl, Nat.le_of_ble_eq_true rfl⟩) 5 rfl rfl [5, 6] [0, 1, 2, 3, 4] rfl rfl rfl rfl (by decide) rfl (Nat.le_of_ble_eq_true rfl) ⟨Nat.le_of_ble_eq_true rfl, Nat.le_of_ble_eq_true rfl⟩ dX5_ofShot_163 rfl (fun r163 u163 hw163 => ?_)
              refine g_eqs (ws' := [(a_kind, .inl (cI, 6, .inl c_kind)), (a_near, .inl (cI, 6, .inl c_near)), (a_far, .inl (cI, 6, .inl c_far)), (a_free, .inl (cI, 6, .inl c_free)), (a_guard, .inl (cI, 6, .inl c_guard)), (a_, .inr (5, [.int c_seconds, .int c_lead, .int c_ball, .ref a_fouls, .ref a_calls, .int c_rebound, .int c_law, .int c_draw, .int c_players, .ref a_side, .ref a_kind, .ref a_near, .ref a_far, .ref a_free, .int c_letters, .ref a_letter, .int c_at, .ref a_value, .int c_inRow, .ref a_row, .ref a_refusals, .int c_imaged, .ref a_image, .ref a_ahead, .ref a_guard, .ref a_worth])), (a_worth, .inl (cI, 650, .inl c_worth))]) rfl ?_
              have heq := g_let heq hw163
              refine g_i2l X dX5_ofShot_166 ?_
              refine g_lmul X dX5_ofShot_167 ?_
              refine g_ladd X dX5_ofShot_168 ?_
              refine g_ldc2 (v := 10) X (X.2.2.2.2.1 (.constantLong RX5 148 (10)) (List.mem_of_getElem? (i := 10) rfl)) dX5_ofShot_169 ?_
              refine g_ldiv X (by decide) dX5_ofShot_172 ?_
              refine g_lstore (lv' := [(12, .long (((c_rebound.toInt64 * r140.toInt64) + (((10 : Int64) - c_rebound.toInt64) * r163.toInt64)) / (10 : Int64))), (10, .long r122.toInt64), (9, .int (p3 - r93)), (8, .int (g_minf (12 : Int32) (p4 + 3))), (7, .int 3), (6, .int r27), (0, .ref a_), (1, .int p1), (2, .int p2), (3, .int p3), (4, .int p4), (5, .int p5)]) X (by decide) rfl dX5_ofShot_173 ?_
              refine g_iload X 5 rfl dX5_ofShot_175 ?_
              refine g_i2l X dX5_ofShot_177 ?_
              refine g_lload X 1 rfl dX5_ofShot_178 ?_
              refine g_lmul X dX5_ofShot_180 ?_
              refine g_bipush (v := 10) X (by decide) dX5_ofShot_181 ?_
              refine g_iload X 5 rfl dX5_ofShot_183 ?_
              refine g_isub X dX5_ofShot_185 ?_
              refine g_i2l X dX5_ofShot_186 ?_
              refine g_lload X 0 rfl dX5_ofShot_187 ?_
              refine g_lmul X dX5_ofShot_189 ?_
              refine g_ladd X dX5_ofShot_190 ?_
              refine g_ldc2 (v := 10) X (X.2.2.2.2.1 (.constantLong RX5 148 (10)) (List.mem_of_getElem? (i := 10) rfl)) dX5_ofShot_191 ?_
              refine g_ldiv X (by decide) dX5_ofShot_194 ?_
              refine g_l2i X dX5_ofShot_195 ?_
              exact g_iret X hAA hQQ () (heq.symm.trans hXX) [5, 0, 1, 2, 3, 4, 6] rfl rfl hr dX5_ofShot_196
        · have heq := heq.trans (if_pos c52)
          refine g_iconst (v := 2) X (by decide) dX5_ofShot_55 ?_
          refine g_goto (tgt := 60) X (by decide) dX5_ofShot_56 ?_
          refine g_istore (lv' := [(7, .int 2), (6, .int r27), (0, .ref a_), (1, .int p1), (2, .int p2), (3, .int p3), (4, .int p4), (5, .int p5)]) X (by decide) rfl dX5_ofShot_60 ?_
          refine g_iload X 7 rfl dX5_ofShot_62 ?_
          refine g_if_ne X 80 dX5_ofShot_64 (by decide) (fun c64 => ?_) (fun c64 => ?_)
          · have heq := heq.trans (if_neg c64)
            refine g_iconst (v := 0) X (by decide) dX5_ofShot_80 ?_
            refine g_iload X 6 rfl dX5_ofShot_81 ?_
            refine g_iload X 0 rfl dX5_ofShot_83 ?_
            refine g_isub X dX5_ofShot_85 ?_
            refine g_mmax X (X.2.2.2.2.1 (.methodLink RX5 124 Lib.Math.max.name) (List.mem_of_getElem? (i := 6) rfl)) (X.2.2.2.2.1 (.static Lib.Math.max.name) (List.mem_of_getElem? (i := 7) rfl)) (X.2.2.2.2.1 (.initialized "java/lang/Math") (List.mem_of_getElem? (i := 4) rfl)) (X.2.2.2.2.1 (.code Lib.Math.max.name Lib.Math.max.code 2 (some .int)) (List.mem_of_getElem? (i := 8) rfl)) (Nat.le_of_ble_eq_true rfl) (Nat.le_of_ble_eq_true rfl) (Nat.le_of_ble_eq_true rfl) (Nat.le_of_ble_eq_true rfl) dX5_ofShot_86 ?_
            refine g_istore (lv' := [(8, .int (g_maxf (0 : Int32) (p4 - 2))), (7, .int 2), (6, .int r27), (0, .ref a_), (1, .int p1), (2, .int p2), (3, .int p3), (4, .int p4), (5, .int p5)]) X (by decide) rfl dX5_ofShot_89 ?_
            refine g_iload_n X 6 rfl rfl dX5_ofShot_91 ?_
            refine g_iload_n X 5 rfl rfl dX5_ofShot_92 ?_
            refine g_callSi (As := [.int p2]) (st := [.int p3]) (wr := [(a_worth, .inl (cI, 650, .inl c_worth)), (a_, .inr (5, [.int c_seconds, .int c_lead, .int c_ball, .ref a_fouls, .ref a_calls, .int c_rebound, .int c_law, .int c_draw, .int c_players, .ref a_side, .ref a_kind, .ref a_near, .ref a_far, .ref a_free, .int c_letters, .ref a_letter, .int c_at, .ref a_value, .int c_inRow, .ref a_row, .ref a_refusals, .int c_imaged, .ref a_image, .ref a_ahead, .ref a_guard, .ref a_worth])), (a_kind, .inl (cI, 6, .inl c_kind)), (a_near, .inl (cI, 6, .inl c_near)), (a_far, .inl (cI, 6, .inl c_far)), (a_free, .inl (cI, 6, .inl c_free)), (a_guard, .inl (cI, 6, .inl c_guard))]) X (k_X5_takes l D cI kA kV p2) (va_cwS 1 X.2.2.2.2.1 gX5_ofShot_X5_takes rfl rfl rfl (by decide +kernel) ⟨Nat.le_of_ble_eq_true rfl, Nat.le_of_ble_eq_true rfl⟩) [] [0, 1, 2, 3, 4, 5, 6] rfl rfl rfl rfl (by decide) rfl (Nat.le_of_ble_eq_true rfl) ⟨Nat.le_of_ble_eq_true rfl, Nat.le_of_ble_eq_true rfl⟩ dX5_ofShot_93 rfl (fun r93 u93 hw93 => ?_)
            refine g_eqs (ws' := [(a_worth, .inl (cI, 650, .inl c_worth)), (a_, .inr (5, [.int c_seconds, .int c_lead, .int c_ball, .ref a_fouls, .ref a_calls, .int c_rebound, .int c_law, .int c_draw, .int c_players, .ref a_side, .ref a_kind, .ref a_near, .ref a_far, .ref a_free, .int c_letters, .ref a_letter, .int c_at, .ref a_value, .int c_inRow, .ref a_row, .ref a_refusals, .int c_imaged, .ref a_image, .ref a_ahead, .ref a_guard, .ref a_worth])), (a_kind, .inl (cI, 6, .inl c_kind)), (a_near, .inl (cI, 6, .inl c_near)), (a_far, .inl (cI, 6, .inl c_far)), (a_free, .inl (cI, 6, .inl c_free)), (a_guard, .inl (cI, 6, .inl c_guard))]) rfl ?_
            have heq := g_let heq hw93
            refine g_isub X dX5_ofShot_96 ?_
            refine g_istore (lv' := [(9, .int (p3 - r93)), (8, .int (g_maxf (0 : Int32) (p4 - 2))), (7, .int 2), (6, .int r27), (0, .ref a_), (1, .int p1), (2, .int p2), (3, .int p3), (4, .int p4), (5, .int p5)]) X (by decide) rfl dX5_ofShot_97 ?_
            refine g_aload_n X 4 rfl rfl dX5_ofShot_99 ?_
            refine g_aload_n X 4 rfl rfl dX5_ofShot_100 ?_
            refine g_get (C := RX5) (T := TX5) (N := 26) (ci := 5) X hi_X5_ofShot_X5 1 rfl rfl 6 (by decide) (X.2.2.2.2.1 (.fieldLink RX5 104 "NineteenSecondsLeftModel" "law" "I") (List.mem_of_getElem? (i := 1) rfl)) rfl rfl dX5_ofShot_101 ?_
            refine g_iconst (v := 2) X (by decide) dX5_ofShot_104 ?_
            refine g_icmp_ne X 114 dX5_ofShot_105 (by decide) (fun c105 => ?_) (fun c105 => absurd (c52.symm.trans c105) (by decide))
            refine g_iload X 0 rfl dX5_ofShot_114 ?_
            refine g_iload X 1 rfl dX5_ofShot_116 ?_
            refine g_iconst (v := 1) X (by decide) dX5_ofShot_118 ?_
            refine g_iload X 9 rfl dX5_ofShot_119 ?_
            refine g_isub X dX5_ofShot_121 ?_
            refine g_callVi (C := RX5) (T := TX5) (N := 26) (ci := 5) (As := [.int (p3 - r93), .int (g_maxf (0 : Int32) (p4 - 2)), .int (1 - p5)]) (st := []) (wr := [(a_kind, .inl (cI, 6, .inl c_kind)), (a_near, .inl (cI, 6, .inl c_near)), (a_far, .inl (cI, 6, .inl c_far)), (a_free, .inl (cI, 6, .inl c_free)), (a_guard, .inl (cI, 6, .inl c_guard))]) X (k_X5_valueOf l D cI kA kV a_ a_fouls a_calls a_side a_kind a_near a_far a_free a_letter a_value a_row a_refusals a_image a_ahead a_guard a_worth c_seconds c_lead c_ball c_rebound c_law c_draw c_players c_letters c_at c_inRow c_imaged c_worth (p3 - r93) (g_maxf (0 : Int32) (p4 - 2)) (1 - p5) ⟨(m_secT hs.1 hw93 hw1 c5), (m_ldm2 hs.2.1), (m_bl1 hs.2.2)⟩) (cwV 3 X.2.2.2.2.1 gX5_ofShot_X5_valueOf rfl rfl rfl (by decide +kernel) ⟨Nat.le_of_ble_eq_true rfl, Nat.le_of_ble_eq_true rfl⟩) 1 rfl rfl [1, 0] [2, 3, 4, 5, 6] rfl rfl rfl rfl (by decide) rfl (Nat.le_of_ble_eq_true rfl) ⟨Nat.le_of_ble_eq_true rfl, Nat.le_of_ble_eq_true rfl⟩ dX5_ofShot_122 rfl (fun r122 u122 hw122 => ?_)
            refine g_eqs (ws' := [(a_kind, .inl (cI, 6, .inl c_kind)), (a_near, .inl (cI, 6, .inl c_near)), (a_far, .inl (cI, 6, .inl c_far)), (a_free, .inl (cI, 6, .inl c_free)), (a_guard, .inl (cI, 6, .inl c_guard)), (a_, .inr (5, [.int c_seconds, .int c_lead, .int c_ball, .ref a_fouls, .ref a_calls, .int c_rebound, .int c_law, .int c_draw, .int c_players, .ref a_side, .ref a_kind, .ref a_near, .ref a_far, .ref a_free, .int c_letters, .ref a_letter, .int c_at, .ref a_value, .int c_inRow, .ref a_row, .ref a_refusals, .int c_imaged, .ref a_image, .ref a_ahead, .ref a_guard, .ref a_worth])), (a_worth, .inl (cI, 650, .inl c_worth))]) rfl ?_
            have heq := g_let heq hw122
            refine g_i2l X dX5_ofShot_125 ?_
            refine g_lstore (lv' := [(10, .long r122.toInt64), (9, .int (p3 - r93)), (8, .int (g_maxf (0 : Int32) (p4 - 2))), (7, .int 2), (6, .int r27), (0, .ref a_), (1, .int p1), (2, .int p2), (3, .int p3), (4, .int p4), (5, .int p5)]) X (by decide) rfl dX5_ofShot_126 ?_
            refine g_aload_n X 5 rfl rfl dX5_ofShot_128 ?_
            refine g_get (C := RX5) (T := TX5) (N := 26) (ci := 5) X hi_X5_ofShot_X5 5 rfl rfl 5 (by decide) (X.2.2.2.2.1 (.fieldLink RX5 62 "NineteenSecondsLeftModel" "rebound" "I") (List.mem_of_getElem? (i := 9) rfl)) rfl rfl dX5_ofShot_129 ?_
            refine g_i2l X dX5_ofShot_132 ?_
            refine g_aload_n X 5 rfl rfl dX5_ofShot_133 ?_
            refine g_iload X 1 rfl dX5_ofShot_134 ?_
            refine g_iload X 9 rfl dX5_ofShot_136 ?_
            refine g_iload X 10 rfl dX5_ofShot_138 ?_
            refine g_callVi (C := RX5) (T := TX5) (N := 26) (ci := 5) (As := [.int (p3 - r93), .int p4, .int p5]) (st := [.long c_rebound.toInt64]) (wr := [(a_kind, .inl (cI, 6, .inl c_kind)), (a_near, .inl (cI, 6, .inl c_near)), (a_far, .inl (cI, 6, .inl c_far)), (a_free, .inl (cI, 6, .inl c_free)), (a_guard, .inl (cI, 6, .inl c_guard))]) X (k_X5_valueOf l D cI kA kV a_ a_fouls a_calls a_side a_kind a_near a_far a_free a_letter a_value a_row a_refusals a_image a_ahead a_guard a_worth c_seconds c_lead c_ball c_rebound c_law c_draw c_players c_letters c_at c_inRow c_imaged c_worth (p3 - r93) p4 p5 ⟨(m_secT hs.1 hw93 hw1 c5), hs.2.1, hs.2.2⟩) (cwV 3 X.2.2.2.2.1 gX5_ofShot_X5_valueOf rfl rfl rfl (by decide +kernel) ⟨Nat.le_of_ble_eq_true rfl, Nat.le_of_ble_eq_true rfl⟩) 5 rfl rfl [5, 6] [0, 1, 2, 3, 4] rfl rfl rfl rfl (by decide) rfl (Nat.le_of_ble_eq_true rfl) ⟨Nat.le_of_ble_eq_true rfl, Nat.le_of_ble_eq_true rfl⟩ dX5_ofShot_140 rfl (fun r140 u140 hw140 => ?_)
            refine g_eqs (ws' := [(a_kind, .inl (cI, 6, .inl c_kind)), (a_near, .inl (cI, 6, .inl c_near)), (a_far, .inl (cI, 6, .inl c_far)), (a_free, .inl (cI, 6, .inl c_free)), (a_guard, .inl (cI, 6, .inl c_guard)), (a_, .inr (5, [.int c_seconds, .int c_lead, .int c_ball, .ref a_fouls, .ref a_calls, .int c_rebound, .int c_law, .int c_draw, .int c_players, .ref a_side, .ref a_kind, .ref a_near, .ref a_far, .ref a_free, .int c_letters, .ref a_letter, .int c_at, .ref a_value, .int c_inRow, .ref a_row, .ref a_refusals, .int c_imaged, .ref a_image, .ref a_ahead, .ref a_guard, .ref a_worth])), (a_worth, .inl (cI, 650, .inl c_worth))]) rfl ?_
            have heq := g_let heq hw140
            refine g_i2l X dX5_ofShot_143 ?_
            refine g_lmul X dX5_ofShot_144 ?_
            refine g_ldc2 (v := 10) X (X.2.2.2.2.1 (.constantLong RX5 148 (10)) (List.mem_of_getElem? (i := 10) rfl)) dX5_ofShot_145 ?_
            refine g_aload_n X 5 rfl rfl dX5_ofShot_148 ?_
            refine g_get (C := RX5) (T := TX5) (N := 26) (ci := 5) X hi_X5_ofShot_X5 5 rfl rfl 5 (by decide) (X.2.2.2.2.1 (.fieldLink RX5 62 "NineteenSecondsLeftModel" "rebound" "I") (List.mem_of_getElem? (i := 9) rfl)) rfl rfl dX5_ofShot_149 ?_
            refine g_i2l X dX5_ofShot_152 ?_
            refine g_lsub X dX5_ofShot_153 ?_
            refine g_aload_n X 5 rfl rfl dX5_ofShot_154 ?_
            refine g_iload X 1 rfl dX5_ofShot_155 ?_
            refine g_iload X 9 rfl dX5_ofShot_157 ?_
            refine g_iconst (v := 1) X (by decide) dX5_ofShot_159 ?_
            refine g_iload X 10 rfl dX5_ofShot_160 ?_
            refine g_isub X dX5_ofShot_162 ?_
            refine g_callVi (C := RX5) (T := TX5) (N := 26) (ci := 5) (As := [.int (p3 - r93), .int p4, .int (1 - p5)]) (st := [.long ((10 : Int64) - c_rebound.toInt64), .long (c_rebound.toInt64 * r140.toInt64)]) (wr := [(a_kind, .inl (cI, 6, .inl c_kind)), (a_near, .inl (cI, 6, .inl c_near)), (a_far, .inl (cI, 6, .inl c_far)), (a_free, .inl (cI, 6, .inl c_free)), (a_guard, .inl (cI, 6, .inl c_guard))]) X (k_X5_valueOf l D cI kA kV a_ a_fouls a_calls a_side a_kind a_near a_far a_free a_letter a_value a_row a_refusals a_image a_ahead a_guard a_worth c_seconds c_lead c_ball c_rebound c_law c_draw c_players c_letters c_at c_inRow c_imaged c_worth (p3 - r93) p4 (1 - p5) ⟨(m_secT hs.1 hw93 hw1 c5), hs.2.1, (m_bl1 hs.2.2)⟩) (cwV 3 X.2.2.2.2.1 gX5_ofShot_X5_valueOf rfl rfl rfl (by decide +kernel) ⟨Nat.le_of_ble_eq_true rfl, Nat.le_of_ble_eq_true rfl⟩) 5 rfl rfl [5, 6] [0, 1, 2, 3, 4] rfl rfl rfl rfl (by decide) rfl (Nat.le_of_ble_eq_true rfl) ⟨Nat.le_of_ble_eq_true rfl, Nat.le_of_ble_eq_true rfl⟩ dX5_ofShot_163 rfl (fun r163 u163 hw163 => ?_)
            refine g_eqs (ws' := [(a_kind, .inl (cI, 6, .inl c_kind)), (a_near, .inl (cI, 6, .inl c_near)), (a_far, .inl (cI, 6, .inl c_far)), (a_free, .inl (cI, 6, .inl c_free)), (a_guard, .inl (cI, 6, .inl c_guard)), (a_, .inr (5, [.int c_seconds, .int c_lead, .int c_ball, .ref a_fouls, .ref a_calls, .int c_rebound, .int c_law, .int c_draw, .int c_players, .ref a_side, .ref a_kind, .ref a_near, .ref a_far, .ref a_free, .int c_letters, .ref a_letter, .int c_at, .ref a_value, .int c_inRow, .ref a_row, .ref a_refusals, .int c_imaged, .ref a_image, .ref a_ahead, .ref a_guard, .ref a_worth])), (a_worth, .inl (cI, 650, .inl c_worth))]) rfl ?_
            have heq := g_let heq hw163
            refine g_i2l X dX5_ofShot_166 ?_
            refine g_lmul X dX5_ofShot_167 ?_
            refine g_ladd X dX5_ofShot_168 ?_
            refine g_ldc2 (v := 10) X (X.2.2.2.2.1 (.constantLong RX5 148 (10)) (List.mem_of_getElem? (i := 10) rfl)) dX5_ofShot_169 ?_
            refine g_ldiv X (by decide) dX5_ofShot_172 ?_
            refine g_lstore (lv' := [(12, .long (((c_rebound.toInt64 * r140.toInt64) + (((10 : Int64) - c_rebound.toInt64) * r163.toInt64)) / (10 : Int64))), (10, .long r122.toInt64), (9, .int (p3 - r93)), (8, .int (g_maxf (0 : Int32) (p4 - 2))), (7, .int 2), (6, .int r27), (0, .ref a_), (1, .int p1), (2, .int p2), (3, .int p3), (4, .int p4), (5, .int p5)]) X (by decide) rfl dX5_ofShot_173 ?_
            refine g_iload X 5 rfl dX5_ofShot_175 ?_
            refine g_i2l X dX5_ofShot_177 ?_
            refine g_lload X 1 rfl dX5_ofShot_178 ?_
            refine g_lmul X dX5_ofShot_180 ?_
            refine g_bipush (v := 10) X (by decide) dX5_ofShot_181 ?_
            refine g_iload X 5 rfl dX5_ofShot_183 ?_
            refine g_isub X dX5_ofShot_185 ?_
            refine g_i2l X dX5_ofShot_186 ?_
            refine g_lload X 0 rfl dX5_ofShot_187 ?_
            refine g_lmul X dX5_ofShot_189 ?_
            refine g_ladd X dX5_ofShot_190 ?_
            refine g_ldc2 (v := 10) X (X.2.2.2.2.1 (.constantLong RX5 148 (10)) (List.mem_of_getElem? (i := 10) rfl)) dX5_ofShot_191 ?_
            refine g_ldiv X (by decide) dX5_ofShot_194 ?_
            refine g_l2i X dX5_ofShot_195 ?_
            exact g_iret X hAA hQQ () (heq.symm.trans hXX) [5, 0, 1, 2, 3, 4, 6] rfl rfl hr dX5_ofShot_196
          · have heq := heq.trans (if_pos c64)
            refine g_bipush (v := 12) X (by decide) dX5_ofShot_67 ?_
            refine g_iload X 6 rfl dX5_ofShot_69 ?_
            refine g_iload X 0 rfl dX5_ofShot_71 ?_
            refine g_iadd X dX5_ofShot_73 ?_
            refine g_mmin X (X.2.2.2.2.1 (.methodLink RX5 118 Lib.Math.min.name) (List.mem_of_getElem? (i := 2) rfl)) (X.2.2.2.2.1 (.static Lib.Math.min.name) (List.mem_of_getElem? (i := 3) rfl)) (X.2.2.2.2.1 (.initialized "java/lang/Math") (List.mem_of_getElem? (i := 4) rfl)) (X.2.2.2.2.1 (.code Lib.Math.min.name Lib.Math.min.code 2 (some .int)) (List.mem_of_getElem? (i := 5) rfl)) (Nat.le_of_ble_eq_true rfl) (Nat.le_of_ble_eq_true rfl) (Nat.le_of_ble_eq_true rfl) (Nat.le_of_ble_eq_true rfl) dX5_ofShot_74 ?_
            refine g_goto (tgt := 89) X (by decide) dX5_ofShot_77 ?_
            refine g_istore (lv' := [(8, .int (g_minf (12 : Int32) (p4 + 2))), (7, .int 2), (6, .int r27), (0, .ref a_), (1, .int p1), (2, .int p2), (3, .int p3), (4, .int p4), (5, .int p5)]) X (by decide) rfl dX5_ofShot_89 ?_
            refine g_iload_n X 6 rfl rfl dX5_ofShot_91 ?_
            refine g_iload_n X 5 rfl rfl dX5_ofShot_92 ?_
            refine g_callSi (As := [.int p2]) (st := [.int p3]) (wr := [(a_worth, .inl (cI, 650, .inl c_worth)), (a_, .inr (5, [.int c_seconds, .int c_lead, .int c_ball, .ref a_fouls, .ref a_calls, .int c_rebound, .int c_law, .int c_draw, .int c_players, .ref a_side, .ref a_kind, .ref a_near, .ref a_far, .ref a_free, .int c_letters, .ref a_letter, .int c_at, .ref a_value, .int c_inRow, .ref a_row, .ref a_refusals, .int c_imaged, .ref a_image, .ref a_ahead, .ref a_guard, .ref a_worth])), (a_kind, .inl (cI, 6, .inl c_kind)), (a_near, .inl (cI, 6, .inl c_near)), (a_far, .inl (cI, 6, .inl c_far)), (a_free, .inl (cI, 6, .inl c_free)), (a_guard, .inl (cI, 6, .inl c_guard))]) X (k_X5_takes l D cI kA kV p2) (va_cwS 1 X.2.2.2.2.1 gX5_ofShot_X5_takes rfl rfl rfl (by decide +kernel) ⟨Nat.le_of_ble_eq_true rfl, Nat.le_of_ble_eq_true rfl⟩) [] [0, 1, 2, 3, 4, 5, 6] rfl rfl rfl rfl (by decide) rfl (Nat.le_of_ble_eq_true rfl) ⟨Nat.le_of_ble_eq_true rfl, Nat.le_of_ble_eq_true rfl⟩ dX5_ofShot_93 rfl (fun r93 u93 hw93 => ?_)
            refine g_eqs (ws' := [(a_worth, .inl (cI, 650, .inl c_worth)), (a_, .inr (5, [.int c_seconds, .int c_lead, .int c_ball, .ref a_fouls, .ref a_calls, .int c_rebound, .int c_law, .int c_draw, .int c_players, .ref a_side, .ref a_kind, .ref a_near, .ref a_far, .ref a_free, .int c_letters, .ref a_letter, .int c_at, .ref a_value, .int c_inRow, .ref a_row, .ref a_refusals, .int c_imaged, .ref a_image, .ref a_ahead, .ref a_guard, .ref a_worth])), (a_kind, .inl (cI, 6, .inl c_kind)), (a_near, .inl (cI, 6, .inl c_near)), (a_far, .inl (cI, 6, .inl c_far)), (a_free, .inl (cI, 6, .inl c_free)), (a_guard, .inl (cI, 6, .inl c_guard))]) rfl ?_
            have heq := g_let heq hw93
            refine g_isub X dX5_ofShot_96 ?_
            refine g_istore (lv' := [(9, .int (p3 - r93)), (8, .int (g_minf (12 : Int32) (p4 + 2))), (7, .int 2), (6, .int r27), (0, .ref a_), (1, .int p1), (2, .int p2), (3, .int p3), (4, .int p4), (5, .int p5)]) X (by decide) rfl dX5_ofShot_97 ?_
            refine g_aload_n X 4 rfl rfl dX5_ofShot_99 ?_
            refine g_aload_n X 4 rfl rfl dX5_ofShot_100 ?_
            refine g_get (C := RX5) (T := TX5) (N := 26) (ci := 5) X hi_X5_ofShot_X5 1 rfl rfl 6 (by decide) (X.2.2.2.2.1 (.fieldLink RX5 104 "NineteenSecondsLeftModel" "law" "I") (List.mem_of_getElem? (i := 1) rfl)) rfl rfl dX5_ofShot_101 ?_
            refine g_iconst (v := 2) X (by decide) dX5_ofShot_104 ?_
            refine g_icmp_ne X 114 dX5_ofShot_105 (by decide) (fun c105 => ?_) (fun c105 => absurd (c52.symm.trans c105) (by decide))
            refine g_iload X 0 rfl dX5_ofShot_114 ?_
            refine g_iload X 1 rfl dX5_ofShot_116 ?_
            refine g_iconst (v := 1) X (by decide) dX5_ofShot_118 ?_
            refine g_iload X 9 rfl dX5_ofShot_119 ?_
            refine g_isub X dX5_ofShot_121 ?_
            refine g_callVi (C := RX5) (T := TX5) (N := 26) (ci := 5) (As := [.int (p3 - r93), .int (g_minf (12 : Int32) (p4 + 2)), .int (1 - p5)]) (st := []) (wr := [(a_kind, .inl (cI, 6, .inl c_kind)), (a_near, .inl (cI, 6, .inl c_near)), (a_far, .inl (cI, 6, .inl c_far)), (a_free, .inl (cI, 6, .inl c_free)), (a_guard, .inl (cI, 6, .inl c_guard))]) X (k_X5_valueOf l D cI kA kV a_ a_fouls a_calls a_side a_kind a_near a_far a_free a_letter a_value a_row a_refusals a_image a_ahead a_guard a_worth c_seconds c_lead c_ball c_rebound c_law c_draw c_players c_letters c_at c_inRow c_imaged c_worth (p3 - r93) (g_minf (12 : Int32) (p4 + 2)) (1 - p5) ⟨(m_secT hs.1 hw93 hw1 c5), (m_ldp2 hs.2.1), (m_bl1 hs.2.2)⟩) (cwV 3 X.2.2.2.2.1 gX5_ofShot_X5_valueOf rfl rfl rfl (by decide +kernel) ⟨Nat.le_of_ble_eq_true rfl, Nat.le_of_ble_eq_true rfl⟩) 1 rfl rfl [1, 0] [2, 3, 4, 5, 6] rfl rfl rfl rfl (by decide) rfl (Nat.le_of_ble_eq_true rfl) ⟨Nat.le_of_ble_eq_true rfl, Nat.le_of_ble_eq_true rfl⟩ dX5_ofShot_122 rfl (fun r122 u122 hw122 => ?_)
            refine g_eqs (ws' := [(a_kind, .inl (cI, 6, .inl c_kind)), (a_near, .inl (cI, 6, .inl c_near)), (a_far, .inl (cI, 6, .inl c_far)), (a_free, .inl (cI, 6, .inl c_free)), (a_guard, .inl (cI, 6, .inl c_guard)), (a_, .inr (5, [.int c_seconds, .int c_lead, .int c_ball, .ref a_fouls, .ref a_calls, .int c_rebound, .int c_law, .int c_draw, .int c_players, .ref a_side, .ref a_kind, .ref a_near, .ref a_far, .ref a_free, .int c_letters, .ref a_letter, .int c_at, .ref a_value, .int c_inRow, .ref a_row, .ref a_refusals, .int c_imaged, .ref a_image, .ref a_ahead, .ref a_guard, .ref a_worth])), (a_worth, .inl (cI, 650, .inl c_worth))]) rfl ?_
            have heq := g_let heq hw122
            refine g_i2l X dX5_ofShot_125 ?_
            refine g_lstore (lv' := [(10, .long r122.toInt64), (9, .int (p3 - r93)), (8, .int (g_minf (12 : Int32) (p4 + 2))), (7, .int 2), (6, .int r27), (0, .ref a_), (1, .int p1), (2, .int p2), (3, .int p3), (4, .int p4), (5, .int p5)]) X (by decide) rfl dX5_ofShot_126 ?_
            refine g_aload_n X 5 rfl rfl dX5_ofShot_128 ?_
            refine g_get (C := RX5) (T := TX5) (N := 26) (ci := 5) X hi_X5_ofShot_X5 5 rfl rfl 5 (by decide) (X.2.2.2.2.1 (.fieldLink RX5 62 "NineteenSecondsLeftModel" "rebound" "I") (List.mem_of_getElem? (i := 9) rfl)) rfl rfl dX5_ofShot_129 ?_
            refine g_i2l X dX5_ofShot_132 ?_
            refine g_aload_n X 5 rfl rfl dX5_ofShot_133 ?_
            refine g_iload X 1 rfl dX5_ofShot_134 ?_
            refine g_iload X 9 rfl dX5_ofShot_136 ?_
            refine g_iload X 10 rfl dX5_ofShot_138 ?_
            refine g_callVi (C := RX5) (T := TX5) (N := 26) (ci := 5) (As := [.int (p3 - r93), .int p4, .int p5]) (st := [.long c_rebound.toInt64]) (wr := [(a_kind, .inl (cI, 6, .inl c_kind)), (a_near, .inl (cI, 6, .inl c_near)), (a_far, .inl (cI, 6, .inl c_far)), (a_free, .inl (cI, 6, .inl c_free)), (a_guard, .inl (cI, 6, .inl c_guard))]) X (k_X5_valueOf l D cI kA kV a_ a_fouls a_calls a_side a_kind a_near a_far a_free a_letter a_value a_row a_refusals a_image a_ahead a_guard a_worth c_seconds c_lead c_ball c_rebound c_law c_draw c_players c_letters c_at c_inRow c_imaged c_worth (p3 - r93) p4 p5 ⟨(m_secT hs.1 hw93 hw1 c5), hs.2.1, hs.2.2⟩) (cwV 3 X.2.2.2.2.1 gX5_ofShot_X5_valueOf rfl rfl rfl (by decide +kernel) ⟨Nat.le_of_ble_eq_true rfl, Nat.le_of_ble_eq_true rfl⟩) 5 rfl rfl [5, 6] [0, 1, 2, 3, 4] rfl rfl rfl rfl (by decide) rfl (Nat.le_of_ble_eq_true rfl) ⟨Nat.le_of_ble_eq_true rfl, Nat.le_of_ble_eq_true rfl⟩ dX5_ofShot_140 rfl (fun r140 u140 hw140 => ?_)
            refine g_eqs (ws' := [(a_kind, .inl (cI, 6, .inl c_kind)), (a_near, .inl (cI, 6, .inl c_near)), (a_far, .inl (cI, 6, .inl c_far)), (a_free, .inl (cI, 6, .inl c_free)), (a_guard, .inl (cI, 6, .inl c_guard)), (a_, .inr (5, [.int c_seconds, .int c_lead, .int c_ball, .ref a_fouls, .ref a_calls, .int c_rebound, .int c_law, .int c_draw, .int c_players, .ref a_side, .ref a_kind, .ref a_near, .ref a_far, .ref a_free, .int c_letters, .ref a_letter, .int c_at, .ref a_value, .int c_inRow, .ref a_row, .ref a_refusals, .int c_imaged, .ref a_image, .ref a_ahead, .ref a_guard, .ref a_worth])), (a_worth, .inl (cI, 650, .inl c_worth))]) rfl ?_
            have heq := g_let heq hw140
            refine g_i2l X dX5_ofShot_143 ?_
            refine g_lmul X dX5_ofShot_144 ?_
            refine g_ldc2 (v := 10) X (X.2.2.2.2.1 (.constantLong RX5 148 (10)) (List.mem_of_getElem? (i := 10) rfl)) dX5_ofShot_145 ?_
            refine g_aload_n X 5 rfl rfl dX5_ofShot_148 ?_
            refine g_get (C := RX5) (T := TX5) (N := 26) (ci := 5) X hi_X5_ofShot_X5 5 rfl rfl 5 (by decide) (X.2.2.2.2.1 (.fieldLink RX5 62 "NineteenSecondsLeftModel" "rebound" "I") (List.mem_of_getElem? (i := 9) rfl)) rfl rfl dX5_ofShot_149 ?_
            refine g_i2l X dX5_ofShot_152 ?_
            refine g_lsub X dX5_ofShot_153 ?_
            refine g_aload_n X 5 rfl rfl dX5_ofShot_154 ?_
            refine g_iload X 1 rfl dX5_ofShot_155 ?_
            refine g_iload X 9 rfl dX5_ofShot_157 ?_
            refine g_iconst (v := 1) X (by decide) dX5_ofShot_159 ?_
            refine g_iload X 10 rfl dX5_ofShot_160 ?_
            refine g_isub X dX5_ofShot_162 ?_
            refine g_callVi (C := RX5) (T := TX5) (N := 26) (ci := 5) (As := [.int (p3 - r93), .int p4, .int (1 - p5)]) (st := [.long ((10 : Int64) - c_rebound.toInt64), .long (c_rebound.toInt64 * r140.toInt64)]) (wr := [(a_kind, .inl (cI, 6, .inl c_kind)), (a_near, .inl (cI, 6, .inl c_near)), (a_far, .inl (cI, 6, .inl c_far)), (a_free, .inl (cI, 6, .inl c_free)), (a_guard, .inl (cI, 6, .inl c_guard))]) X (k_X5_valueOf l D cI kA kV a_ a_fouls a_calls a_side a_kind a_near a_far a_free a_letter a_value a_row a_refusals a_image a_ahead a_guard a_worth c_seconds c_lead c_ball c_rebound c_law c_draw c_players c_letters c_at c_inRow c_imaged c_worth (p3 - r93) p4 (1 - p5) ⟨(m_secT hs.1 hw93 hw1 c5), hs.2.1, (m_bl1 hs.2.2)⟩) (cwV 3 X.2.2.2.2.1 gX5_ofShot_X5_valueOf rfl rfl rfl (by decide +kernel) ⟨Nat.le_of_ble_eq_true rfl, Nat.le_of_ble_eq_true rfl⟩) 5 rfl rfl [5, 6] [0, 1, 2, 3, 4] rfl rfl rfl rfl (by decide) rfl (Nat.le_of_ble_eq_true rfl) ⟨Nat.le_of_ble_eq_true rfl, Nat.le_of_ble_eq_true rfl⟩ dX5_ofShot_163 rfl (fun r163 u163 hw163 => ?_)
            refine g_eqs (ws' := [(a_kind, .inl (cI, 6, .inl c_kind)), (a_near, .inl (cI, 6, .inl c_near)), (a_far, .inl (cI, 6, .inl c_far)), (a_free, .inl (cI, 6, .inl c_free)), (a_guard, .inl (cI, 6, .inl c_guard)), (a_, .inr (5, [.int c_seconds, .int c_lead, .int c_ball, .ref a_fouls, .ref a_calls, .int c_rebound, .int c_law, .int c_draw, .int c_players, .ref a_side, .ref a_kind, .ref a_near, .ref a_far, .ref a_free, .int c_letters, .ref a_letter, .int c_at, .ref a_value, .int c_inRow, .ref a_row, .ref a_refusals, .int c_imaged, .ref a_image, .ref a_ahead, .ref a_guard, .ref a_worth])), (a_worth, .inl (cI, 650, .inl c_worth))]) rfl ?_
            have heq := g_let heq hw163
            refine g_i2l X dX5_ofShot_166 ?_
            refine g_lmul X dX5_ofShot_167 ?_
            refine g_ladd X dX5_ofShot_168 ?_
            refine g_ldc2 (v := 10) X (X.2.2.2.2.1 (.constantLong RX5 148 (10)) (List.mem_of_getElem? (i := 10) rfl)) dX5_ofShot_169 ?_
            refine g_ldiv X (by decide) dX5_ofShot_172 ?_
            refine g_lstore (lv' := [(12, .long (((c_rebound.toInt64 * r140.toInt64) + (((10 : Int64) - c_rebound.toInt64) * r163.toInt64)) / (10 : Int64))), (10, .long r122.toInt64), (9, .int (p3 - r93)), (8, .int (g_minf (12 : Int32) (p4 + 2))), (7, .int 2), (6, .int r27), (0, .ref a_), (1, .int p1), (2, .int p2), (3, .int p3), (4, .int p4), (5, .int p5)]) X (by decide) rfl dX5_ofShot_173 ?_
            refine g_iload X 5 rfl dX5_ofShot_175 ?_
            refine g_i2l X dX5_ofShot_177 ?_
            refine g_lload X 1 rfl dX5_ofShot_178 ?_
            refine g_lmul X dX5_ofShot_180 ?_
            refine g_bipush (v := 10) X (by decide) dX5_ofShot_181 ?_
            refine g_iload X 5 rfl dX5_ofShot_183 ?_
            refine g_isub X dX5_ofShot_185 ?_
            refine g_i2l X dX5_ofShot_186 ?_
            refine g_lload X 0 rfl dX5_ofShot_187 ?_
            refine g_lmul X dX5_ofShot_189 ?_
            refine g_ladd X dX5_ofShot_190 ?_
            refine g_ldc2 (v := 10) X (X.2.2.2.2.1 (.constantLong RX5 148 (10)) (List.mem_of_getElem? (i := 10) rfl)) dX5_ofShot_191 ?_
            refine g_ldiv X (by decide) dX5_ofShot_194 ?_
            refine g_l2i X dX5_ofShot_195 ?_
            exact g_iret X hAA hQQ () (heq.symm.trans hXX) [5, 0, 1, 2, 3, 4, 6] rfl rfl hr dX5_ofShot_196
      · have heq := heq.trans (if_pos c34)
        refine g_iload X 0 rfl dX5_ofShot_37 ?_
        refine g_iconst (v := 2) X (by decide) dX5_ofShot_39 ?_
        refine g_idiv X (by decide) dX5_ofShot_40 ?_
        refine g_istore (lv' := [(6, .int (r27 / 2)), (0, .ref a_), (1, .int p1), (2, .int p2), (3, .int p3), (4, .int p4), (5, .int p5)]) X (by decide) rfl dX5_ofShot_41 ?_
        refine g_iload_n X 3 rfl rfl dX5_ofShot_43 ?_
        refine g_if_eq X 55 dX5_ofShot_44 (by decide) (fun c44 => absurd c44 c18) (fun c44 => ?_)
        refine g_aload_n X 1 rfl rfl dX5_ofShot_47 ?_
        refine g_get (C := RX5) (T := TX5) (N := 26) (ci := 5) X hi_X5_ofShot_X5 1 rfl rfl 6 (by decide) (X.2.2.2.2.1 (.fieldLink RX5 104 "NineteenSecondsLeftModel" "law" "I") (List.mem_of_getElem? (i := 1) rfl)) rfl rfl dX5_ofShot_48 ?_
        refine g_iconst (v := 3) X (by decide) dX5_ofShot_51 ?_
        refine g_icmp_ne X 59 dX5_ofShot_52 (by decide) (fun c52 => ?_) (fun c52 => ?_)
        · have heq := heq.trans (if_neg c52)
          refine g_iconst (v := 3) X (by decide) dX5_ofShot_59 ?_
          refine g_istore (lv' := [(7, .int 3), (6, .int (r27 / 2)), (0, .ref a_), (1, .int p1), (2, .int p2), (3, .int p3), (4, .int p4), (5, .int p5)]) X (by decide) rfl dX5_ofShot_60 ?_
          refine g_iload X 7 rfl dX5_ofShot_62 ?_
          refine g_if_ne X 80 dX5_ofShot_64 (by decide) (fun c64 => ?_) (fun c64 => ?_)
          · have heq := heq.trans (if_neg c64)
            refine g_iconst (v := 0) X (by decide) dX5_ofShot_80 ?_
            refine g_iload X 6 rfl dX5_ofShot_81 ?_
            refine g_iload X 0 rfl dX5_ofShot_83 ?_
            refine g_isub X dX5_ofShot_85 ?_
            refine g_mmax X (X.2.2.2.2.1 (.methodLink RX5 124 Lib.Math.max.name) (List.mem_of_getElem? (i := 6) rfl)) (X.2.2.2.2.1 (.static Lib.Math.max.name) (List.mem_of_getElem? (i := 7) rfl)) (X.2.2.2.2.1 (.initialized "java/lang/Math") (List.mem_of_getElem? (i := 4) rfl)) (X.2.2.2.2.1 (.code Lib.Math.max.name Lib.Math.max.code 2 (some .int)) (List.mem_of_getElem? (i := 8) rfl)) (Nat.le_of_ble_eq_true rfl) (Nat.le_of_ble_eq_true rfl) (Nat.le_of_ble_eq_true rfl) (Nat.le_of_ble_eq_true rfl) dX5_ofShot_86 ?_
            refine g_istore (lv' := [(8, .int (g_maxf (0 : Int32) (p4 - 3))), (7, .int 3), (6, .int (r27 / 2)), (0, .ref a_), (1, .int p1), (2, .int p2), (3, .int p3), (4, .int p4), (5, .int p5)]) X (by decide) rfl dX5_ofShot_89 ?_
            refine g_iload_n X 6 rfl rfl dX5_ofShot_91 ?_
            refine g_iload_n X 5 rfl rfl dX5_ofShot_92 ?_
            refine g_callSi (As := [.int p2]) (st := [.int p3]) (wr := [(a_worth, .inl (cI, 650, .inl c_worth)), (a_, .inr (5, [.int c_seconds, .int c_lead, .int c_ball, .ref a_fouls, .ref a_calls, .int c_rebound, .int c_law, .int c_draw, .int c_players, .ref a_side, .ref a_kind, .ref a_near, .ref a_far, .ref a_free, .int c_letters, .ref a_letter, .int c_at, .ref a_value, .int c_inRow, .ref a_row, .ref a_refusals, .int c_imaged, .ref a_image, .ref a_ahead, .ref a_guard, .ref a_worth])), (a_kind, .inl (cI, 6, .inl c_kind)), (a_near, .inl (cI, 6, .inl c_near)), (a_far, .inl (cI, 6, .inl c_far)), (a_free, .inl (cI, 6, .inl c_free)), (a_guard, .inl (cI, 6, .inl c_guard))]) X (k_X5_takes l D cI kA kV p2) (va_cwS 1 X.2.2.2.2.1 gX5_ofShot_X5_takes rfl rfl rfl (by decide +kernel) ⟨Nat.le_of_ble_eq_true rfl, Nat.le_of_ble_eq_true rfl⟩) [] [0, 1, 2, 3, 4, 5, 6] rfl rfl rfl rfl (by decide) rfl (Nat.le_of_ble_eq_true rfl) ⟨Nat.le_of_ble_eq_true rfl, Nat.le_of_ble_eq_true rfl⟩ dX5_ofShot_93 rfl (fun r93 u93 hw93 => ?_)
            refine g_eqs (ws' := [(a_worth, .inl (cI, 650, .inl c_worth)), (a_, .inr (5, [.int c_seconds, .int c_lead, .int c_ball, .ref a_fouls, .ref a_calls, .int c_rebound, .int c_law, .int c_draw, .int c_players, .ref a_side, .ref a_kind, .ref a_near, .ref a_far, .ref a_free, .int c_letters, .ref a_letter, .int c_at, .ref a_value, .int c_inRow, .ref a_row, .ref a_refusals, .int c_imaged, .ref a_image, .ref a_ahead, .ref a_guard, .ref a_worth])), (a_kind, .inl (cI, 6, .inl c_kind)), (a_near, .inl (cI, 6, .inl c_near)), (a_far, .inl (cI, 6, .inl c_far)), (a_free, .inl (cI, 6, .inl c_free)), (a_guard, .inl (cI, 6, .inl c_guard))]) rfl ?_
            have heq := g_let heq hw93
            refine g_isub X dX5_ofShot_96 ?_
            refine g_istore (lv' := [(9, .int (p3 - r93)), (8, .int (g_maxf (0 : Int32) (p4 - 3))), (7, .int 3), (6, .int (r27 / 2)), (0, .ref a_), (1, .int p1), (2, .int p2), (3, .int p3), (4, .int p4), (5, .int p5)]) X (by decide) rfl dX5_ofShot_97 ?_
            refine g_aload_n X 4 rfl rfl dX5_ofShot_99 ?_
            refine g_aload_n X 4 rfl rfl dX5_ofShot_100 ?_
            refine g_get (C := RX5) (T := TX5) (N := 26) (ci := 5) X hi_X5_ofShot_X5 1 rfl rfl 6 (by decide) (X.2.2.2.2.1 (.fieldLink RX5 104 "NineteenSecondsLeftModel" "law" "I") (List.mem_of_getElem? (i := 1) rfl)) rfl rfl dX5_ofShot_101 ?_
            refine g_iconst (v := 2) X (by decide) dX5_ofShot_104 ?_
            refine g_icmp_ne X 114 dX5_ofShot_105 (by decide) (fun c105 => ?_) (fun c105 => ?_)
            · have heq := heq.trans (if_neg c105)
              refine g_iload X 0 rfl dX5_ofShot_114 ?_
              refine g_iload X 1 rfl dX5_ofShot_116 ?_
              refine g_iconst (v := 1) X (by decide) dX5_ofShot_118 ?_
              refine g_iload X 9 rfl dX5_ofShot_119 ?_
              refine g_isub X dX5_ofShot_121 ?_
              refine g_callVi (C := RX5) (T := TX5) (N := 26) (ci := 5) (As := [.int (p3 - r93), .int (g_maxf (0 : Int32) (p4 - 3)), .int (1 - p5)]) (st := []) (wr := [(a_kind, .inl (cI, 6, .inl c_kind)), (a_near, .inl (cI, 6, .inl c_near)), (a_far, .inl (cI, 6, .inl c_far)), (a_free, .inl (cI, 6, .inl c_free)), (a_guard, .inl (cI, 6, .inl c_guard))]) X (k_X5_valueOf l D cI kA kV a_ a_fouls a_calls a_side a_kind a_near a_far a_free a_letter a_value a_row a_refusals a_image a_ahead a_guard a_worth c_seconds c_lead c_ball c_rebound c_law c_draw c_players c_letters c_at c_inRow c_imaged c_worth (p3 - r93) (g_maxf (0 : Int32) (p4 - 3)) (1 - p5) ⟨(m_secT hs.1 hw93 hw1 c5), (m_ldm3 hs.2.1), (m_bl1 hs.2.2)⟩) (cwV 3 X.2.2.2.2.1 gX5_ofShot_X5_valueOf rfl rfl rfl (by decide +kernel) ⟨Nat.le_of_ble_eq_true rfl, Nat.le_of_ble_eq_true rfl⟩) 1 rfl rfl [1, 0] [2, 3, 4, 5, 6] rfl rfl rfl rfl (by decide) rfl (Nat.le_of_ble_eq_true rfl) ⟨Nat.le_of_ble_eq_true rfl, Nat.le_of_ble_eq_true rfl⟩ dX5_ofShot_122 rfl (fun r122 u122 hw122 => ?_)
              refine g_eqs (ws' := [(a_kind, .inl (cI, 6, .inl c_kind)), (a_near, .inl (cI, 6, .inl c_near)), (a_far, .inl (cI, 6, .inl c_far)), (a_free, .inl (cI, 6, .inl c_free)), (a_guard, .inl (cI, 6, .inl c_guard)), (a_, .inr (5, [.int c_seconds, .int c_lead, .int c_ball, .ref a_fouls, .ref a_calls, .int c_rebound, .int c_law, .int c_draw, .int c_players, .ref a_side, .ref a_kind, .ref a_near, .ref a_far, .ref a_free, .int c_letters, .ref a_letter, .int c_at, .ref a_value, .int c_inRow, .ref a_row, .ref a_refusals, .int c_imaged, .ref a_image, .ref a_ahead, .ref a_guard, .ref a_worth])), (a_worth, .inl (cI, 650, .inl c_worth))]) rfl ?_
              have heq := g_let heq hw122
              refine g_i2l X dX5_ofShot_125 ?_
              refine g_lstore (lv' := [(10, .long r122.toInt64), (9, .int (p3 - r93)), (8, .int (g_maxf (0 : Int32) (p4 - 3))), (7, .int 3), (6, .int (r27 / 2)), (0, .ref a_), (1, .int p1), (2, .int p2), (3, .int p3), (4, .int p4), (5, .int p5)]) X (by decide) rfl dX5_ofShot_126 ?_
              refine g_aload_n X 5 rfl rfl dX5_ofShot_128 ?_
              refine g_get (C := RX5) (T := TX5) (N := 26) (ci := 5) X hi_X5_ofShot_X5 5 rfl rfl 5 (by decide) (X.2.2.2.2.1 (.fieldLink RX5 62 "NineteenSecondsLeftModel" "rebound" "I") (List.mem_of_getElem? (i := 9) rfl)) rfl rfl dX5_ofShot_129 ?_
              refine g_i2l X dX5_ofShot_132 ?_
              refine g_aload_n X 5 rfl rfl dX5_ofShot_133 ?_
              refine g_iload X 1 rfl dX5_ofShot_134 ?_
              refine g_iload X 9 rfl dX5_ofShot_136 ?_
              refine g_iload X 10 rfl dX5_ofShot_138 ?_
              refine g_callVi (C := RX5) (T := TX5) (N := 26) (ci := 5) (As := [.int (p3 - r93), .int p4, .int p5]) (st := [.long c_rebound.toInt64]) (wr := [(a_kind, .inl (cI, 6, .inl c_kind)), (a_near, .inl (cI, 6, .inl c_near)), (a_far, .inl (cI, 6, .inl c_far)), (a_free, .inl (cI, 6, .inl c_free)), (a_guard, .inl (cI, 6, .inl c_guard))]) X (k_X5_valueOf l D cI kA kV a_ a_fouls a_calls a_side a_kind a_near a_far a_free a_letter a_value a_row a_refusals a_image a_ahead a_guard a_worth c_seconds c_lead c_ball c_rebound c_law c_draw c_players c_letters c_at c_inRow c_imaged c_worth (p3 - r93) p4 p5 ⟨(m_secT hs.1 hw93 hw1 c5), hs.2.1, hs.2.2⟩) (cwV 3 X.2.2.2.2.1 gX5_ofShot_X5_valueOf rfl rfl rfl (by decide +kernel) ⟨Nat.le_of_ble_eq_true rfl, Nat.le_of_ble_eq_true rfl⟩) 5 rfl rfl [5, 6] [0, 1, 2, 3, 4] rfl rfl rfl rfl (by decide) rfl (Nat.le_of_ble_eq_true rfl) ⟨Nat.le_of_ble_eq_true rfl, Nat.le_of_ble_eq_true rfl⟩ dX5_ofShot_140 rfl (fun r140 u140 hw140 => ?_)
              refine g_eqs (ws' := [(a_kind, .inl (cI, 6, .inl c_kind)), (a_near, .inl (cI, 6, .inl c_near)), (a_far, .inl (cI, 6, .inl c_far)), (a_free, .inl (cI, 6, .inl c_free)), (a_guard, .inl (cI, 6, .inl c_guard)), (a_, .inr (5, [.int c_seconds, .int c_lead, .int c_ball, .ref a_fouls, .ref a_calls, .int c_rebound, .int c_law, .int c_draw, .int c_players, .ref a_side, .ref a_kind, .ref a_near, .ref a_far, .ref a_free, .int c_letters, .ref a_letter, .int c_at, .ref a_value, .int c_inRow, .ref a_row, .ref a_refusals, .int c_imaged, .ref a_image, .ref a_ahead, .ref a_guard, .ref a_worth])), (a_worth, .inl (cI, 650, .inl c_worth))]) rfl ?_
              have heq := g_let heq hw140
              refine g_i2l X dX5_ofShot_143 ?_
              refine g_lmul X dX5_ofShot_144 ?_
              refine g_ldc2 (v := 10) X (X.2.2.2.2.1 (.constantLong RX5 148 (10)) (List.mem_of_getElem? (i := 10) rfl)) dX5_ofShot_145 ?_
              refine g_aload_n X 5 rfl rfl dX5_ofShot_148 ?_
              refine g_get (C := RX5) (T := TX5) (N := 26) (ci := 5) X hi_X5_ofShot_X5 5 rfl rfl 5 (by decide) (X.2.2.2.2.1 (.fieldLink RX5 62 "NineteenSecondsLeftModel" "rebound" "I") (List.mem_of_getElem? (i := 9) rfl)) rfl rfl dX5_ofShot_149 ?_
              refine g_i2l X dX5_ofShot_152 ?_
              refine g_lsub X dX5_ofShot_153 ?_
              refine g_aload_n X 5 rfl rfl dX5_ofShot_154 ?_
              refine g_iload X 1 rfl dX5_ofShot_155 ?_
              refine g_iload X 9 rfl dX5_ofShot_157 ?_
              refine g_iconst (v := 1) X (by decide) dX5_ofShot_159 ?_
              refine g_iload X 10 rfl dX5_ofShot_160 ?_
              refine g_isub X dX5_ofShot_162 ?_
              refine g_callVi (C := RX5) (T := TX5) (N := 26) (ci := 5) (As := [.int (p3 - r93), .int p4, .int (1 - p5)]) (st := [.long ((10 : Int64) - c_rebound.toInt64), .long (c_rebound.toInt64 * r140.toInt64)]) (wr := [(a_kind, .inl (cI, 6, .inl c_kind)), (a_near, .inl (cI, 6, .inl c_near)), (a_far, .inl (cI, 6, .inl c_far)), (a_free, .inl (cI, 6, .inl c_free)), (a_guard, .inl (cI, 6, .inl c_guard))]) X (k_X5_valueOf l D cI kA kV a_ a_fouls a_calls a_side a_kind a_near a_far a_free a_letter a_value a_row a_refusals a_image a_ahead a_guard a_worth c_seconds c_lead c_ball c_rebound c_law c_draw c_players c_letters c_at c_inRow c_imaged c_worth (p3 - r93) p4 (1 - p5) ⟨(m_secT hs.1 hw93 hw1 c5), hs.2.1, (m_bl1 hs.2.2)⟩) (cwV 3 X.2.2.2.2.1 gX5_ofShot_X5_valueOf rfl rfl rfl (by decide +kernel) ⟨Nat.le_of_ble_eq_true rfl, Nat.le_of_ble_eq_true rfl⟩) 5 rfl rfl [5, 6] [0, 1, 2, 3, 4] rfl rfl rfl rfl (by decide) rfl (Nat.le_of_ble_eq_true rfl) ⟨Nat.le_of_ble_eq_true rfl, Nat.le_of_ble_eq_true rfl⟩ dX5_ofShot_163 rfl (fun r163 u163 hw163 => ?_)
              refine g_eqs (ws' := [(a_kind, .inl (cI, 6, .inl c_kind)), (a_near, .inl (cI, 6, .inl c_near)), (a_far, .inl (cI, 6, .inl c_far)), (a_free, .inl (cI, 6, .inl c_free)), (a_guard, .inl (cI, 6, .inl c_guard)), (a_, .inr (5, [.int c_seconds, .int c_lead, .int c_ball, .ref a_fouls, .ref a_calls, .int c_rebound, .int c_law, .int c_draw, .int c_players, .ref a_side, .ref a_kind, .ref a_near, .ref a_far, .ref a_free, .int c_letters, .ref a_letter, .int c_at, .ref a_value, .int c_inRow, .ref a_row, .ref a_refusals, .int c_imaged, .ref a_image, .ref a_ahead, .ref a_guard, .ref a_worth])), (a_worth, .inl (cI, 650, .inl c_worth))]) rfl ?_
              have heq := g_let heq hw163
              refine g_i2l X dX5_ofShot_166 ?_
              refine g_lmul X dX5_ofShot_167 ?_
              refine g_ladd X dX5_ofShot_168 ?_
              refine g_ldc2 (v := 10) X (X.2.2.2.2.1 (.constantLong RX5 148 (10)) (List.mem_of_getElem? (i := 10) rfl)) dX5_ofShot_169 ?_
              refine g_ldiv X (by decide) dX5_ofShot_172 ?_
              refine g_lstore (lv' := [(12, .long (((c_rebound.toInt64 * r140.toInt64) + (((10 : Int64) - c_rebound.toInt64) * r163.toInt64)) / (10 : Int64))), (10, .long r122.toInt64), (9, .int (p3 - r93)), (8, .int (g_maxf (0 : Int32) (p4 - 3))), (7, .int 3), (6, .int (r27 / 2)), (0, .ref a_), (1, .int p1), (2, .int p2), (3, .int p3), (4, .int p4), (5, .int p5)]) X (by decide) rfl dX5_ofShot_173 ?_
              refine g_iload X 5 rfl dX5_ofShot_175 ?_
              refine g_i2l X dX5_ofShot_177 ?_
              refine g_lload X 1 rfl dX5_ofShot_178 ?_
              refine g_lmul X dX5_ofShot_180 ?_
              refine g_bipush (v := 10) X (by decide) dX5_ofShot_181 ?_
              refine g_iload X 5 rfl dX5_ofShot_183 ?_
              refine g_isub X dX5_ofShot_185 ?_
              refine g_i2l X dX5_ofShot_186 ?_
              refine g_lload X 0 rfl dX5_ofShot_187 ?_
              refine g_lmul X dX5_ofShot_189 ?_
              refine g_ladd X dX5_ofShot_190 ?_
              refine g_ldc2 (v := 10) X (X.2.2.2.2.1 (.constantLong RX5 148 (10)) (List.mem_of_getElem? (i := 10) rfl)) dX5_ofShot_191 ?_
              refine g_ldiv X (by decide) dX5_ofShot_194 ?_
              refine g_l2i X dX5_ofShot_195 ?_
              exact g_iret X hAA hQQ () (heq.symm.trans hXX) [5, 0, 1, 2, 3, 4, 6] rfl rfl hr dX5_ofShot_196
            · have heq := heq.trans (if_pos c105)
              refine g_iload_n X 7 rfl rfl dX5_ofShot_108 ?_
              refine g_iconst (v := 1) X (by decide) dX5_ofShot_109 ?_
              refine g_isub X dX5_ofShot_110 ?_
              refine g_goto (tgt := 116) X (by decide) dX5_ofShot_111 ?_
              refine g_iload X 1 rfl dX5_ofShot_116 ?_
              refine g_iconst (v := 1) X (by decide) dX5_ofShot_118 ?_
              refine g_iload X 9 rfl dX5_ofShot_119 ?_
              refine g_isub X dX5_ofShot_121 ?_
              refine g_callVi (C := RX5) (T := TX5) (N := 26) (ci := 5) (As := [.int (p3 - 1), .int (g_maxf (0 : Int32) (p4 - 3)), .int (1 - p5)]) (st := []) (wr := [(a_kind, .inl (cI, 6, .inl c_kind)), (a_near, .inl (cI, 6, .inl c_near)), (a_far, .inl (cI, 6, .inl c_far)), (a_free, .inl (cI, 6, .inl c_free)), (a_guard, .inl (cI, 6, .inl c_guard))]) X (k_X5_valueOf l D cI kA kV a_ a_fouls a_calls a_side a_kind a_near a_far a_free a_letter a_value a_row a_refusals a_image a_ahead a_guard a_worth c_seconds c_lead c_ball c_rebound c_law c_draw c_players c_letters c_at c_inRow c_imaged c_worth (p3 - 1) (g_maxf (0 : Int32) (p4 - 3)) (1 - p5) ⟨(m_sec1T hs.1 hw1 c5), (m_ldm3 hs.2.1), (m_bl1 hs.2.2)⟩) (cwV 3 X.2.2.2.2.1 gX5_ofShot_X5_valueOf rfl rfl rfl (by decide +kernel) ⟨Nat.le_of_ble_eq_true rfl, Nat.le_of_ble_eq_true rfl⟩) 1 rfl rfl [1, 0] [2, 3, 4, 5, 6] rfl rfl rfl rfl (by decide) rfl (Nat.le_of_ble_eq_true rfl) ⟨Nat.le_of_ble_eq_true rfl, Nat.le_of_ble_eq_true rfl⟩ dX5_ofShot_122 rfl (fun r122 u122 hw122 => ?_)
              refine g_eqs (ws' := [(a_kind, .inl (cI, 6, .inl c_kind)), (a_near, .inl (cI, 6, .inl c_near)), (a_far, .inl (cI, 6, .inl c_far)), (a_free, .inl (cI, 6, .inl c_free)), (a_guard, .inl (cI, 6, .inl c_guard)), (a_, .inr (5, [.int c_seconds, .int c_lead, .int c_ball, .ref a_fouls, .ref a_calls, .int c_rebound, .int c_law, .int c_draw, .int c_players, .ref a_side, .ref a_kind, .ref a_near, .ref a_far, .ref a_free, .int c_letters, .ref a_letter, .int c_at, .ref a_value, .int c_inRow, .ref a_row, .ref a_refusals, .int c_imaged, .ref a_image, .ref a_ahead, .ref a_guard, .ref a_worth])), (a_worth, .inl (cI, 650, .inl c_worth))]) rfl ?_
              have heq := g_let heq hw122
              refine g_i2l X dX5_ofShot_125 ?_
              refine g_lstore (lv' := [(10, .long r122.toInt64), (9, .int (p3 - r93)), (8, .int (g_maxf (0 : Int32) (p4 - 3))), (7, .int 3), (6, .int (r27 / 2)), (0, .ref a_), (1, .int p1), (2, .int p2), (3, .int p3), (4, .int p4), (5, .int p5)]) X (by decide) rfl dX5_ofShot_126 ?_
              refine g_aload_n X 5 rfl rfl dX5_ofShot_128 ?_
              refine g_get (C := RX5) (T := TX5) (N := 26) (ci := 5) X hi_X5_ofShot_X5 5 rfl rfl 5 (by decide) (X.2.2.2.2.1 (.fieldLink RX5 62 "NineteenSecondsLeftModel" "rebound" "I") (List.mem_of_getElem? (i := 9) rfl)) rfl rfl dX5_ofShot_129 ?_
              refine g_i2l X dX5_ofShot_132 ?_
              refine g_aload_n X 5 rfl rfl dX5_ofShot_133 ?_
              refine g_iload X 1 rfl dX5_ofShot_134 ?_
              refine g_iload X 9 rfl dX5_ofShot_136 ?_
              refine g_iload X 10 rfl dX5_ofShot_138 ?_
              refine g_callVi (C := RX5) (T := TX5) (N := 26) (ci := 5) (As := [.int (p3 - r93), .int p4, .int p5]) (st := [.long c_rebound.toInt64]) (wr := [(a_kind, .inl (cI, 6, .inl c_kind)), (a_near, .inl (cI, 6, .inl c_near)), (a_far, .inl (cI, 6, .inl c_far)), (a_free, .inl (cI, 6, .inl c_free)), (a_guard, .inl (cI, 6, .inl c_guard))]) X (k_X5_valueOf l D cI kA kV a_ a_fouls a_calls a_side a_kind a_near a_far a_free a_letter a_value a_row a_refusals a_image a_ahead a_guard a_worth c_seconds c_lead c_ball c_rebound c_law c_draw c_players c_letters c_at c_inRow c_imaged c_worth (p3 - r93) p4 p5 ⟨(m_secT hs.1 hw93 hw1 c5), hs.2.1, hs.2.2⟩) (cwV 3 X.2.2.2.2.1 gX5_ofShot_X5_valueOf rfl rfl rfl (by decide +kernel) ⟨Nat.le_of_ble_eq_true rfl, Nat.le_of_ble_eq_true rfl⟩) 5 rfl rfl [5, 6] [0, 1, 2, 3, 4] rfl rfl rfl rfl (by decide) rfl (Nat.le_of_ble_eq_true rfl) ⟨Nat.le_of_ble_eq_true rfl, Nat.le_of_ble_eq_true rfl⟩ dX5_ofShot_140 rfl (fun r140 u140 hw140 => ?_)
              refine g_eqs (ws' := [(a_kind, .inl (cI, 6, .inl c_kind)), (a_near, .inl (cI, 6, .inl c_near)), (a_far, .inl (cI, 6, .inl c_far)), (a_free, .inl (cI, 6, .inl c_free)), (a_guard, .inl (cI, 6, .inl c_guard)), (a_, .inr (5, [.int c_seconds, .int c_lead, .int c_ball, .ref a_fouls, .ref a_calls, .int c_rebound, .int c_law, .int c_draw, .int c_players, .ref a_side, .ref a_kind, .ref a_near, .ref a_far, .ref a_free, .int c_letters, .ref a_letter, .int c_at, .ref a_value, .int c_inRow, .ref a_row, .ref a_refusals, .int c_imaged, .ref a_image, .ref a_ahead, .ref a_guard, .ref a_worth])), (a_worth, .inl (cI, 650, .inl c_worth))]) rfl ?_
              have heq := g_let heq hw140
              refine g_i2l X dX5_ofShot_143 ?_
              refine g_lmul X dX5_ofShot_144 ?_
              refine g_ldc2 (v := 10) X (X.2.2.2.2.1 (.constantLong RX5 148 (10)) (List.mem_of_getElem? (i := 10) rfl)) dX5_ofShot_145 ?_
              refine g_aload_n X 5 rfl rfl dX5_ofShot_148 ?_
              refine g_get (C := RX5) (T := TX5) (N := 26) (ci := 5) X hi_X5_ofShot_X5 5 rfl rfl 5 (by decide) (X.2.2.2.2.1 (.fieldLink RX5 62 "NineteenSecondsLeftModel" "rebound" "I") (List.mem_of_getElem? (i := 9) rfl)) rfl rfl dX5_ofShot_149 ?_
              refine g_i2l X dX5_ofShot_152 ?_
              refine g_lsub X dX5_ofShot_153 ?_
              refine g_aload_n X 5 rfl rfl dX5_ofShot_154 ?_
              refine g_iload X 1 rfl dX5_ofShot_155 ?_
              refine g_iload X 9 rfl dX5_ofShot_157 ?_
              refine g_iconst (v := 1) X (by decide) dX5_ofShot_159 ?_
              refine g_iload X 10 rfl dX5_ofShot_160 ?_
              refine g_isub X dX5_ofShot_162 ?_
              refine g_callVi (C := RX5) (T := TX5) (N := 26) (ci := 5) (As := [.int (p3 - r93), .int p4, .int (1 - p5)]) (st := [.long ((10 : Int64) - c_rebound.toInt64), .long (c_rebound.toInt64 * r140.toInt64)]) (wr := [(a_kind, .inl (cI, 6, .inl c_kind)), (a_near, .inl (cI, 6, .inl c_near)), (a_far, .inl (cI, 6, .inl c_far)), (a_free, .inl (cI, 6, .inl c_free)), (a_guard, .inl (cI, 6, .inl c_guard))]) X (k_X5_valueOf l D cI kA kV a_ a_fouls a_calls a_side a_kind a_near a_far a_free a_letter a_value a_row a_refusals a_image a_ahead a_guard a_worth c_seconds c_lead c_ball c_rebound c_law c_draw c_players c_letters c_at c_inRow c_imaged c_worth (p3 - r93) p4 (1 - p5) ⟨(m_secT hs.1 hw93 hw1 c5), hs.2.1, (m_bl1 hs.2.2)⟩) (cwV 3 X.2.2.2.2.1 gX5_ofShot_X5_valueOf rfl rfl rfl (by decide +kernel) ⟨Nat.le_of_ble_eq_true rfl, Nat.le_of_ble_eq_true rfl⟩) 5 rfl rfl [5, 6] [0, 1, 2, 3, 4] rfl rfl rfl rfl (by decide) rfl (Nat.le_of_ble_eq_true rfl) ⟨Nat.le_of_ble_eq_true rfl, Nat.le_of_ble_eq_true rfl⟩ dX5_ofShot_163 rfl (fun r163 u163 hw163 => ?_)
              refine g_eqs (ws' := [(a_kind, .inl (cI, 6, .inl c_kind)), (a_near, .inl (cI, 6, .inl c_near)), (a_far, .inl (cI, 6, .inl c_far)), (a_free, .inl (cI, 6, .inl c_free)), (a_guard, .inl (cI, 6, .inl c_guard)), (a_, .inr (5, [.int c_seconds, .int c_lead, .int c_ball, .ref a_fouls, .ref a_calls, .int c_rebound, .int c_law, .int c_draw, .int c_players, .ref a_side, .ref a_kind, .ref a_near, .ref a_far, .ref a_free, .int c_letters, .ref a_letter, .int c_at, .ref a_value, .int c_inRow, .ref a_row, .ref a_refusals, .int c_imaged, .ref a_image, .ref a_ahead, .ref a_guard, .ref a_worth])), (a_worth, .inl (cI, 650, .inl c_worth))]) rfl ?_
              have heq := g_let heq hw163
              refine g_i2l X dX5_ofShot_166 ?_
              refine g_lmul X dX5_ofShot_167 ?_
              refine g_ladd X dX5_ofShot_168 ?_
              refine g_ldc2 (v := 10) X (X.2.2.2.2.1 (.constantLong RX5 148 (10)) (List.mem_of_getElem? (i := 10) rfl)) dX5_ofShot_169 ?_
              refine g_ldiv X (by decide) dX5_ofShot_172 ?_
              refine g_lstore (lv' := [(12, .long (((c_rebound.toInt64 * r140.toInt64) + (((10 : Int64) - c_rebound.toInt64) * r163.toInt64)) / (10 : Int64))), (10, .long r122.toInt64), (9, .int (p3 - r93)), (8, .int (g_maxf (0 : Int32) (p4 - 3))), (7, .int 3), (6, .int (r27 / 2)), (0, .ref a_), (1, .int p1), (2, .int p2), (3, .int p3), (4, .int p4), (5, .int p5)]) X (by decide) rfl dX5_ofShot_173 ?_
              refine g_iload X 5 rfl dX5_ofShot_175 ?_
              refine g_i2l X dX5_ofShot_177 ?_
              refine g_lload X 1 rfl dX5_ofShot_178 ?_
              refine g_lmul X dX5_ofShot_180 ?_
              refine g_bipush (v := 10) X (by decide) dX5_ofShot_181 ?_
              refine g_iload X 5 rfl dX5_ofShot_183 ?_
              refine g_isub X dX5_ofShot_185 ?_
              refine g_i2l X dX5_ofShot_186 ?_
              refine g_lload X 0 rfl dX5_ofShot_187 ?_
              refine g_lmul X dX5_ofShot_189 ?_
              refine g_ladd X dX5_ofShot_190 ?_
              refine g_ldc2 (v := 10) X (X.2.2.2.2.1 (.constantLong RX5 148 (10)) (List.mem_of_getElem? (i := 10) rfl)) dX5_ofShot_191 ?_
              refine g_ldiv X (by decide) dX5_ofShot_194 ?_
              refine g_l2i X dX5_ofShot_195 ?_
              exact g_iret X hAA hQQ () (heq.symm.trans hXX) [5, 0, 1, 2, 3, 4, 6] rfl rfl hr dX5_ofShot_196
          · have heq := heq.trans (if_pos c64)
            refine g_bipush (v := 12) X (by decide) dX5_ofShot_67 ?_
            refine g_iload X 6 rfl dX5_ofShot_69 ?_
            refine g_iload X 0 rfl dX5_ofShot_71 ?_
            refine g_iadd X dX5_ofShot_73 ?_
            refine g_mmin X (X.2.2.2.2.1 (.methodLink RX5 118 Lib.Math.min.name) (List.mem_of_getElem? (i := 2) rfl)) (X.2.2.2.2.1 (.static Lib.Math.min.name) (List.mem_of_getElem? (i := 3) rfl)) (X.2.2.2.2.1 (.initialized "java/lang/Math") (List.mem_of_getElem? (i := 4) rfl)) (X.2.2.2.2.1 (.code Lib.Math.min.name Lib.Math.min.code 2 (some .int)) (List.mem_of_getElem? (i := 5) rfl)) (Nat.le_of_ble_eq_true rfl) (Nat.le_of_ble_eq_true rfl) (Nat.le_of_ble_eq_true rfl) (Nat.le_of_ble_eq_true rfl) dX5_ofShot_74 ?_
            refine g_goto (tgt := 89) X (by decide) dX5_ofShot_77 ?_
            refine g_istore (lv' := [(8, .int (g_minf (12 : Int32) (p4 + 3))), (7, .int 3), (6, .int (r27 / 2)), (0, .ref a_), (1, .int p1), (2, .int p2), (3, .int p3), (4, .int p4), (5, .int p5)]) X (by decide) rfl dX5_ofShot_89 ?_
            refine g_iload_n X 6 rfl rfl dX5_ofShot_91 ?_
            refine g_iload_n X 5 rfl rfl dX5_ofShot_92 ?_
            refine g_callSi (As := [.int p2]) (st := [.int p3]) (wr := [(a_worth, .inl (cI, 650, .inl c_worth)), (a_, .inr (5, [.int c_seconds, .int c_lead, .int c_ball, .ref a_fouls, .ref a_calls, .int c_rebound, .int c_law, .int c_draw, .int c_players, .ref a_side, .ref a_kind, .ref a_near, .ref a_far, .ref a_free, .int c_letters, .ref a_letter, .int c_at, .ref a_value, .int c_inRow, .ref a_row, .ref a_refusals, .int c_imaged, .ref a_image, .ref a_ahead, .ref a_guard, .ref a_worth])), (a_kind, .inl (cI, 6, .inl c_kind)), (a_near, .inl (cI, 6, .inl c_near)), (a_far, .inl (cI, 6, .inl c_far)), (a_free, .inl (cI, 6, .inl c_free)), (a_guard, .inl (cI, 6, .inl c_guard))]) X (k_X5_takes l D cI kA kV p2) (va_cwS 1 X.2.2.2.2.1 gX5_ofShot_X5_takes rfl rfl rfl (by decide +kernel) ⟨Nat.le_of_ble_eq_true rfl, Nat.le_of_ble_eq_true rfl⟩) [] [0, 1, 2, 3, 4, 5, 6] rfl rfl rfl rfl (by decide) rfl (Nat.le_of_ble_eq_true rfl) ⟨Nat.le_of_ble_eq_true rfl, Nat.le_of_ble_eq_true rfl⟩ dX5_ofShot_93 rfl (fun r93 u93 hw93 => ?_)
            refine g_eqs (ws' := [(a_worth, .inl (cI, 650, .inl c_worth)), (a_, .inr (5, [.int c_seconds, .int c_lead, .int c_ball, .ref a_fouls, .ref a_calls, .int c_rebound, .int c_law, .int c_draw, .int c_players, .ref a_side, .ref a_kind, .ref a_near, .ref a_far, .ref a_free, .int c_letters, .ref a_letter, .int c_at, .ref a_value, .int c_inRow, .ref a_row, .ref a_refusals, .int c_imaged, .ref a_image, .ref a_ahead, .ref a_guard, .ref a_worth])), (a_kind, .inl (cI, 6, .inl c_kind)), (a_near, .inl (cI, 6, .inl c_near)), (a_far, .inl (cI, 6, .inl c_far)), (a_free, .inl (cI, 6, .inl c_free)), (a_guard, .inl (cI, 6, .inl c_guard))]) rfl ?_
            have heq := g_let heq hw93
            refine g_isub X dX5_ofShot_96 ?_
            refine g_istore (lv' := [(9, .int (p3 - r93)), (8, .int (g_minf (12 : Int32) (p4 + 3))), (7, .int 3), (6, .int (r27 / 2)), (0, .ref a_), (1, .int p1), (2, .int p2), (3, .int p3), (4, .int p4), (5, .int p5)]) X (by decide) rfl dX5_ofShot_97 ?_
            refine g_aload_n X 4 rfl rfl dX5_ofShot_99 ?_
            refine g_aload_n X 4 rfl rfl dX5_ofShot_100 ?_
            refine g_get (C := RX5) (T := TX5) (N := 26) (ci := 5) X hi_X5_ofShot_X5 1 rfl rfl 6 (by decide) (X.2.2.2.2.1 (.fieldLink RX5 104 "NineteenSecondsLeftModel" "law" "I") (List.mem_of_getElem? (i := 1) rfl)) rfl rfl dX5_ofShot_101 ?_
            refine g_iconst (v := 2) X (by decide) dX5_ofShot_104 ?_
            refine g_icmp_ne X 114 dX5_ofShot_105 (by decide) (fun c105 => ?_) (fun c105 => ?_)
            · have heq := heq.trans (if_neg c105)
              refine g_iload X 0 rfl dX5_ofShot_114 ?_
              refine g_iload X 1 rfl dX5_ofShot_116 ?_
              refine g_iconst (v := 1) X (by decide) dX5_ofShot_118 ?_
              refine g_iload X 9 rfl dX5_ofShot_119 ?_
              refine g_isub X dX5_ofShot_121 ?_
              refine g_callVi (C := RX5) (T := TX5) (N := 26) (ci := 5) (As := [.int (p3 - r93), .int (g_minf (12 : Int32) (p4 + 3)), .int (1 - p5)]) (st := []) (wr := [(a_kind, .inl (cI, 6, .inl c_kind)), (a_near, .inl (cI, 6, .inl c_near)), (a_far, .inl (cI, 6, .inl c_far)), (a_free, .inl (cI, 6, .inl c_free)), (a_guard, .inl (cI, 6, .inl c_guard))]) X (k_X5_valueOf l D cI kA kV a_ a_fouls a_calls a_side a_kind a_near a_far a_free a_letter a_value a_row a_refusals a_image a_ahead a_guard a_worth c_seconds c_lead c_ball c_rebound c_law c_draw c_players c_letters c_at c_inRow c_imaged c_worth (p3 - r93) (g_minf (12 : Int32) (p4 + 3)) (1 - p5) ⟨(m_secT hs.1 hw93 hw1 c5), (m_ldp3 hs.2.1), (m_bl1 hs.2.2)⟩) (cwV 3 X.2.2.2.2.1 gX5_ofShot_X5_valueOf rfl rfl rfl (by decide +kernel) ⟨Nat.le_of_ble_eq_true rfl, Nat.le_of_ble_eq_true rfl⟩) 1 rfl rfl [1, 0] [2, 3, 4, 5, 6] rfl rfl rfl rfl (by decide) rfl (Nat.le_of_ble_eq_true rfl) ⟨Nat.le_of_ble_eq_true rfl, Nat.le_of_ble_eq_true rfl⟩ dX5_ofShot_122 rfl (fun r122 u122 hw122 => ?_)
              refine g_eqs (ws' := [(a_kind, .inl (cI, 6, .inl c_kind)), (a_near, .inl (cI, 6, .inl c_near)), (a_far, .inl (cI, 6, .inl c_far)), (a_free, .inl (cI, 6, .inl c_free)), (a_guard, .inl (cI, 6, .inl c_guard)), (a_, .inr (5, [.int c_seconds, .int c_lead, .int c_ball, .ref a_fouls, .ref a_calls, .int c_rebound, .int c_law, .int c_draw, .int c_players, .ref a_side, .ref a_kind, .ref a_near, .ref a_far, .ref a_free, .int c_letters, .ref a_letter, .int c_at, .ref a_value, .int c_inRow, .ref a_row, .ref a_refusals, .int c_imaged, .ref a_image, .ref a_ahead, .ref a_guard, .ref a_worth])), (a_worth, .inl (cI, 650, .inl c_worth))]) rfl ?_
              have heq := g_let heq hw122
              refine g_i2l X dX5_ofShot_125 ?_
              refine g_lstore (lv' := [(10, .long r122.toInt64), (9, .int (p3 - r93)), (8, .int (g_minf (12 : Int32) (p4 + 3))), (7, .int 3), (6, .int (r27 / 2)), (0, .ref a_), (1, .int p1), (2, .int p2), (3, .int p3), (4, .int p4), (5, .int p5)]) X (by decide) rfl dX5_ofShot_126 ?_
              refine g_aload_n X 5 rfl rfl dX5_ofShot_128 ?_
              refine g_get (C := RX5) (T := TX5) (N := 26) (ci := 5) X hi_X5_ofShot_X5 5 rfl rfl 5 (by decide) (X.2.2.2.2.1 (.fieldLink RX5 62 "NineteenSecondsLeftModel" "rebound" "I") (List.mem_of_getElem? (i := 9) rfl)) rfl rfl dX5_ofShot_129 ?_
              refine g_i2l X dX5_ofShot_132 ?_
              refine g_aload_n X 5 rfl rfl dX5_ofShot_133 ?_
              refine g_iload X 1 rfl dX5_ofShot_134 ?_
              refine g_iload X 9 rfl dX5_ofShot_136 ?_
              refine g_iload X 10 rfl dX5_ofShot_138 ?_
              refine g_callVi (C := RX5) (T := TX5) (N := 26) (ci := 5) (As := [.int (p3 - r93), .int p4, .int p5]) (st := [.long c_rebound.toInt64]) (wr := [(a_kind, .inl (cI, 6, .inl c_kind)), (a_near, .inl (cI, 6, .inl c_near)), (a_far, .inl (cI, 6, .inl c_far)), (a_free, .inl (cI, 6, .inl c_free)), (a_guard, .inl (cI, 6, .inl c_guard))]) X (k_X5_valueOf l D cI kA kV a_ a_fouls a_calls a_side a_kind a_near a_far a_free a_letter a_value a_row a_refusals a_image a_ahead a_guard a_worth c_seconds c_lead c_ball c_rebound c_law c_draw c_players c_letters c_at c_inRow c_imaged c_worth (p3 - r93) p4 p5 ⟨(m_secT hs.1 hw93 hw1 c5), hs.2.1, hs.2.2⟩) (cwV 3 X.2.2.2.2.1 gX5_ofShot_X5_valueOf rfl rfl rfl (by decide +kernel) ⟨Nat.le_of_ble_eq_true rfl, Nat.le_of_ble_eq_true rfl⟩) 5 rfl rfl [5, 6] [0, 1, 2, 3, 4] rfl rfl rfl rfl (by decide) rfl (Nat.le_of_ble_eq_true rfl) ⟨Nat.le_of_ble_eq_true rfl, Nat.le_of_ble_eq_true rfl⟩ dX5_ofShot_140 rfl (fun r140 u140 hw140 => ?_)
              refine g_eqs (ws' := [(a_kind, .inl (cI, 6, .inl c_kind)), (a_near, .inl (cI, 6, .inl c_near)), (a_far, .inl (cI, 6, .inl c_far)), (a_free, .inl (cI, 6, .inl c_free)), (a_guard, .inl (cI, 6, .inl c_guard)), (a_, .inr (5, [.int c_seconds, .int c_lead, .int c_ball, .ref a_fouls, .ref a_calls, .int c_rebound, .int c_law, .int c_draw, .int c_players, .ref a_side, .ref a_kind, .ref a_near, .ref a_far, .ref a_free, .int c_letters, .ref a_letter, .int c_at, .ref a_value, .int c_inRow, .ref a_row, .ref a_refusals, .int c_imaged, .ref a_image, .ref a_ahead, .ref a_guard, .ref a_worth])), (a_worth, .inl (cI, 650, .inl c_worth))]) rfl ?_
              have heq := g_let heq hw140
              refine g_i2l X dX5_ofShot_143 ?_
              refine g_lmul X dX5_ofShot_144 ?_
              refine g_ldc2 (v := 10) X (X.2.2.2.2.1 (.constantLong RX5 148 (10)) (List.mem_of_getElem? (i := 10) rfl)) dX5_ofShot_145 ?_
              refine g_aload_n X 5 rfl rfl dX5_ofShot_148 ?_
              refine g_get (C := RX5) (T := TX5) (N := 26) (ci := 5) X hi_X5_ofShot_X5 5 rfl rfl 5 (by decide) (X.2.2.2.2.1 (.fieldLink RX5 62 "NineteenSecondsLeftModel" "rebound" "I") (List.mem_of_getElem? (i := 9) rfl)) rfl rfl dX5_ofShot_149 ?_
              refine g_i2l X dX5_ofShot_152 ?_
              refine g_lsub X dX5_ofShot_153 ?_
              refine g_aload_n X 5 rfl rfl dX5_ofShot_154 ?_
              refine g_iload X 1 rfl dX5_ofShot_155 ?_
              refine g_iload X 9 rfl dX5_ofShot_157 ?_
              refine g_iconst (v := 1) X (by decide) dX5_ofShot_159 ?_
              refine g_iload X 10 rfl dX5_ofShot_160 ?_
              refine g_isub X dX5_ofShot_162 ?_
              refine g_callVi (C := RX5) (T := TX5) (N := 26) (ci := 5) (As := [.int (p3 - r93), .int p4, .int (1 - p5)]) (st := [.long ((10 : Int64) - c_rebound.toInt64), .long (c_rebound.toInt64 * r140.toInt64)]) (wr := [(a_kind, .inl (cI, 6, .inl c_kind)), (a_near, .inl (cI, 6, .inl c_near)), (a_far, .inl (cI, 6, .inl c_far)), (a_free, .inl (cI, 6, .inl c_free)), (a_guard, .inl (cI, 6, .inl c_guard))]) X (k_X5_valueOf l D cI kA kV a_ a_fouls a_calls a_side a_kind a_near a_far a_free a_letter a_value a_row a_refusals a_image a_ahead a_guard a_worth c_seconds c_lead c_ball c_rebound c_law c_draw c_players c_letters c_at c_inRow c_imaged c_worth (p3 - r93) p4 (1 - p5) ⟨(m_secT hs.1 hw93 hw1 c5), hs.2.1, (m_bl1 hs.2.2)⟩) (cwV 3 X.2.2.2.2.1 gX5_ofShot_X5_valueOf rfl rfl rfl (by decide +kernel) ⟨Nat.le_of_ble_eq_true rfl, Nat.le_of_ble_eq_true rfl⟩) 5 rfl rfl [5, 6] [0, 1, 2, 3, 4] rfl rfl rfl rfl (by decide) rfl (Nat.le_of_ble_eq_true rfl) ⟨Nat.le_of_ble_eq_true rfl, Nat.le_of_ble_eq_true rfl⟩ dX5_ofShot_163 rfl (fun r163 u163 hw163 => ?_)
              refine g_eqs (ws' := [(a_kind, .inl (cI, 6, .inl c_kind)), (a_near, .inl (cI, 6, .inl c_near)), (a_far, .inl (cI, 6, .inl c_far)), (a_free, .inl (cI, 6, .inl c_free)), (a_guard, .inl (cI, 6, .inl c_guard)), (a_, .inr (5, [.int c_seconds, .int c_lead, .int c_ball, .ref a_fouls, .ref a_calls, .int c_rebound, .int c_law, .int c_draw, .int c_players, .ref a_side, .ref a_kind, .ref a_near, .ref a_far, .ref a_free, .int c_letters, .ref a_letter, .int c_at, .ref a_value, .int c_inRow, .ref a_row, .ref a_refusals, .int c_imaged, .ref a_image, .ref a_ahead, .ref a_guard, .ref a_worth])), (a_worth, .inl (cI, 650, .inl c_worth))]) rfl ?_
              have heq := g_let heq hw163
              refine g_i2l X dX5_ofShot_166 ?_
              refine g_lmul X dX5_ofShot_167 ?_
              refine g_ladd X dX5_ofShot_168 ?_
              refine g_ldc2 (v := 10) X (X.2.2.2.2.1 (.constantLong RX5 148 (10)) (List.mem_of_getElem? (i := 10) rfl)) dX5_ofShot_169 ?_
              refine g_ldiv X (by decide) dX5_ofShot_172 ?_
              refine g_lstore (lv' := [(12, .long (((c_rebound.toInt64 * r140.toInt64) + (((10 : Int64) - c_rebound.toInt64) * r163.toInt64)) / (10 : Int64))), (10, .long r122.toInt64), (9, .int (p3 - r93)), (8, .int (g_minf (12 : Int32) (p4 + 3))), (7, .int 3), (6, .int (r27 / 2)), (0, .ref a_), (1, .int p1), (2, .int p2), (3, .int p3), (4, .int p4), (5, .int p5)]) X (by decide) rfl dX5_ofShot_173 ?_
              refine g_iload X 5 rfl dX5_ofShot_175 ?_
              refine g_i2l X dX5_ofShot_177 ?_
              refine g_lload X 1 rfl dX5_ofShot_178 ?_
              refine g_lmul X dX5_ofShot_180 ?_
              refine g_bipush (v := 10) X (by decide) dX5_ofShot_181 ?_
              refine g_iload X 5 rfl dX5_ofShot_183 ?_
              refine g_isub X dX5_ofShot_185 ?_
              refine g_i2l X dX5_ofShot_186 ?_
              refine g_lload X 0 rfl dX5_ofShot_187 ?_
              refine g_lmul X dX5_ofShot_189 ?_
              refine g_ladd X dX5_ofShot_190 ?_
              refine g_ldc2 (v := 10) X (X.2.2.2.2.1 (.constantLong RX5 148 (10)) (List.mem_of_getElem? (i := 10) rfl)) dX5_ofShot_191 ?_
              refine g_ldiv X (by decide) dX5_ofShot_194 ?_
              refine g_l2i X dX5_ofShot_195 ?_
              exact g_iret X hAA hQQ () (heq.symm.trans hXX) [5, 0, 1, 2, 3, 4, 6] rfl rfl hr dX5_ofShot_196
            · have heq := heq.trans (if_pos c105)
              refine g_iload_n X 7 rfl rfl dX5_ofShot_108 ?_
              refine g_iconst (v := 1) X (by decide) dX5_ofShot_109 ?_
              refine g_isub X dX5_ofShot_110 ?_
              refine g_goto (tgt := 116) X (by decide) dX5_ofShot_111 ?_
              refine g_iload X 1 rfl dX5_ofShot_116 ?_
              refine g_iconst (v := 1) X (by decide) dX5_ofShot_118 ?_
              refine g_iload X 9 rfl dX5_ofShot_119 ?_
              refine g_isub X dX5_ofShot_121 ?_
              refine g_callVi (C := RX5) (T := TX5) (N := 26) (ci := 5) (As := [.int (p3 - 1), .int (g_minf (12 : Int32) (p4 + 3)), .int (1 - p5)]) (st := []) (wr := [(a_kind, .inl (cI, 6, .inl c_kind)), (a_near, .inl (cI, 6, .inl c_near)), (a_far, .inl (cI, 6, .inl c_far)), (a_free, .inl (cI, 6, .inl c_free)), (a_guard, .inl (cI, 6, .inl c_guard))]) X (k_X5_valueOf l D cI kA kV a_ a_fouls a_calls a_side a_kind a_near a_far a_free a_letter a_value a_row a_refusals a_image a_ahead a_guard a_worth c_seconds c_lead c_ball c_rebound c_law c_draw c_players c_letters c_at c_inRow c_imaged c_worth (p3 - 1) (g_minf (12 : Int32) (p4 + 3)) (1 - p5) ⟨(m_sec1T hs.1 hw1 c5), (m_ldp3 hs.2.1), (m_bl1 hs.2.2)⟩) (cwV 3 X.2.2.2.2.1 gX5_ofShot_X5_valueOf rfl rfl rfl (by decide +kernel) ⟨Nat.le_of_ble_eq_true rfl, Nat.le_of_ble_eq_true rfl⟩) 1 rfl rfl [1, 0] [2, 3, 4, 5, 6] rfl rfl rfl rfl (by decide) rfl (Nat.le_of_ble_eq_true rfl) ⟨Nat.le_of_ble_eq_true rfl, Nat.le_of_ble_eq_true rfl⟩ dX5_ofShot_122 rfl (fun r122 u122 hw122 => ?_)
              refine g_eqs (ws' := [(a_kind, .inl (cI, 6, .inl c_kind)), (a_near, .inl (cI, 6, .inl c_near)), (a_far, .inl (cI, 6, .inl c_far)), (a_free, .inl (cI, 6, .inl c_free)), (a_guard, .inl (cI, 6, .inl c_guard)), (a_, .inr (5, [.int c_seconds, .int c_lead, .int c_ball, .ref a_fouls, .ref a_calls, .int c_rebound, .int c_law, .int c_draw, .int c_players, .ref a_side, .ref a_kind, .ref a_near, .ref a_far, .ref a_free, .int c_letters, .ref a_letter, .int c_at, .ref a_value, .int c_inRow, .ref a_row, .ref a_refusals, .int c_imaged, .ref a_image, .ref a_ahead, .ref a_guard, .ref a_worth])), (a_worth, .inl (cI, 650, .inl c_worth))]) rfl ?_
              have heq := g_let heq hw122
              refine g_i2l X dX5_ofShot_125 ?_
              refine g_lstore (lv' := [(10, .long r122.toInt64), (9, .int (p3 - r93)), (8, .int (g_minf (12 : Int32) (p4 + 3))), (7, .int 3), (6, .int (r27 / 2)), (0, .ref a_), (1, .int p1), (2, .int p2), (3, .int p3), (4, .int p4), (5, .int p5)]) X (by decide) rfl dX5_ofShot_126 ?_
              refine g_aload_n X 5 rfl rfl dX5_ofShot_128 ?_
              refine g_get (C := RX5) (T := TX5) (N := 26) (ci := 5) X hi_X5_ofShot_X5 5 rfl rfl 5 (by decide) (X.2.2.2.2.1 (.fieldLink RX5 62 "NineteenSecondsLeftModel" "rebound" "I") (List.mem_of_getElem? (i := 9) rfl)) rfl rfl dX5_ofShot_129 ?_
              refine g_i2l X dX5_ofShot_132 ?_
              refine g_aload_n X 5 rfl rfl dX5_ofShot_133 ?_
              refine g_iload X 1 rfl dX5_ofShot_134 ?_
              refine g_iload X 9 rfl dX5_ofShot_136 ?_
              refine g_iload X 10 rfl dX5_ofShot_138 ?_
              refine g_callVi (C := RX5) (T := TX5) (N := 26) (ci := 5) (As := [.int (p3 - r93), .int p4, .int p5]) (st := [.long c_rebound.toInt64]) (wr := [(a_kind, .inl (cI, 6, .inl c_kind)), (a_near, .inl (cI, 6, .inl c_near)), (a_far, .inl (cI, 6, .inl c_far)), (a_free, .inl (cI, 6, .inl c_free)), (a_guard, .inl (cI, 6, .inl c_guard))]) X (k_X5_valueOf l D cI kA kV a_ a_fouls a_calls a_side a_kind a_near a_far a_free a_letter a_value a_row a_refusals a_image a_ahead a_guard a_worth c_seconds c_lead c_ball c_rebound c_law c_draw c_players c_letters c_at c_inRow c_imaged c_worth (p3 - r93) p4 p5 ⟨(m_secT hs.1 hw93 hw1 c5), hs.2.1, hs.2.2⟩) (cwV 3 X.2.2.2.2.1 gX5_ofShot_X5_valueOf rfl rfl rfl (by decide +kernel) ⟨Nat.le_of_ble_eq_true rfl, Nat.le_of_ble_eq_true rfl⟩) 5 rfl rfl [5, 6] [0, 1, 2, 3, 4] rfl rfl rfl rfl (by decide) rfl (Nat.le_of_ble_eq_true rfl) ⟨Nat.le_of_ble_eq_true rfl, Nat.le_of_ble_eq_true rfl⟩ dX5_ofShot_140 rfl (fun r140 u140 hw140 => ?_)
              refine g_eqs (ws' := [(a_kind, .inl (cI, 6, .inl c_kind)), (a_near, .inl (cI, 6, .inl c_near)), (a_far, .inl (cI, 6, .inl c_far)), (a_free, .inl (cI, 6, .inl c_free)), (a_guard, .inl (cI, 6, .inl c_guard)), (a_, .inr (5, [.int c_seconds, .int c_lead, .int c_ball, .ref a_fouls, .ref a_calls, .int c_rebound, .int c_law, .int c_draw, .int c_players, .ref a_side, .ref a_kind, .ref a_near, .ref a_far, .ref a_free, .int c_letters, .ref a_letter, .int c_at, .ref a_value, .int c_inRow, .ref a_row, .ref a_refusals, .int c_imaged, .ref a_image, .ref a_ahead, .ref a_guard, .ref a_worth])), (a_worth, .inl (cI, 650, .inl c_worth))]) rfl ?_
              have heq := g_let heq hw140
              refine g_i2l X dX5_ofShot_143 ?_
              refine g_lmul X dX5_ofShot_144 ?_
              refine g_ldc2 (v := 10) X (X.2.2.2.2.1 (.constantLong RX5 148 (10)) (List.mem_of_getElem? (i := 10) rfl)) dX5_ofShot_145 ?_
              refine g_aload_n X 5 rfl rfl dX5_ofShot_148 ?_
              refine g_get (C := RX5) (T := TX5) (N := 26) (ci := 5) X hi_X5_ofShot_X5 5 rfl rfl 5 (by decide) (X.2.2.2.2.1 (.fieldLink RX5 62 "NineteenSecondsLeftModel" "rebound" "I") (List.mem_of_getElem? (i := 9) rfl)) rfl rfl dX5_ofShot_149 ?_
              refine g_i2l X dX5_ofShot_152 ?_
              refine g_lsub X dX5_ofShot_153 ?_
              refine g_aload_n X 5 rfl rfl dX5_ofShot_154 ?_
              refine g_iload X 1 rfl dX5_ofShot_155 ?_
              refine g_iload X 9 rfl dX5_ofShot_157 ?_
              refine g_iconst (v := 1) X (by decide) dX5_ofShot_159 ?_
              refine g_iload X 10 rfl dX5_ofShot_160 ?_
              refine g_isub X dX5_ofShot_162 ?_
              refine g_callVi (C := RX5) (T := TX5) (N := 26) (ci := 5) (As := [.int (p3 - r93), .int p4, .int (1 - p5)]) (st := [.long ((10 : Int64) - c_rebound.toInt64), .long (c_rebound.toInt64 * r140.toInt64)]) (wr := [(a_kind, .inl (cI, 6, .inl c_kind)), (a_near, .inl (cI, 6, .inl c_near)), (a_far, .inl (cI, 6, .inl c_far)), (a_free, .inl (cI, 6, .inl c_free)), (a_guard, .inl (cI, 6, .inl c_guard))]) X (k_X5_valueOf l D cI kA kV a_ a_fouls a_calls a_side a_kind a_near a_far a_free a_letter a_value a_row a_refusals a_image a_ahead a_guard a_worth c_seconds c_lead c_ball c_rebound c_law c_draw c_players c_letters c_at c_inRow c_imaged c_worth (p3 - r93) p4 (1 - p5) ⟨(m_secT hs.1 hw93 hw1 c5), hs.2.1, (m_bl1 hs.2.2)⟩) (cwV 3 X.2.2.2.2.1 gX5_ofShot_X5_valueOf rfl rfl rfl (by decide +kernel) ⟨Nat.le_of_ble_eq_true rfl, Nat.le_of_ble_eq_true rfl⟩) 5 rfl rfl [5, 6] [0, 1, 2, 3, 4] rfl rfl rfl rfl (by decide) rfl (Nat.le_of_ble_eq_true rfl) ⟨Nat.le_of_ble_eq_true rfl, Nat.le_of_ble_eq_true rfl⟩ dX5_ofShot_163 rfl (fun r163 u163 hw163 => ?_)
              refine g_eqs (ws' := [(a_kind, .inl (cI, 6, .inl c_kind)), (a_near, .inl (cI, 6, .inl c_near)), (a_far, .inl (cI, 6, .inl c_far)), (a_free, .inl (cI, 6, .inl c_free)), (a_guard, .inl (cI, 6, .inl c_guard)), (a_, .inr (5, [.int c_seconds, .int c_lead, .int c_ball, .ref a_fouls, .ref a_calls, .int c_rebound, .int c_law, .int c_draw, .int c_players, .ref a_side, .ref a_kind, .ref a_near, .ref a_far, .ref a_free, .int c_letters, .ref a_letter, .int c_at, .ref a_value, .int c_inRow, .ref a_row, .ref a_refusals, .int c_imaged, .ref a_image, .ref a_ahead, .ref a_guard, .ref a_worth])), (a_worth, .inl (cI, 650, .inl c_worth))]) rfl ?_
              have heq := g_let heq hw163
              refine g_i2l X dX5_ofShot_166 ?_
              refine g_lmul X dX5_ofShot_167 ?_
              refine g_ladd X dX5_ofShot_168 ?_
              refine g_ldc2 (v := 10) X (X.2.2.2.2.1 (.constantLong RX5 148 (10)) (List.mem_of_getElem? (i := 10) rfl)) dX5_ofShot_169 ?_
              refine g_ldiv X (by decide) dX5_ofShot_172 ?_
              refine g_lstore (lv' := [(12, .long (((c_rebound.toInt64 * r140.toInt64) + (((10 : Int64) - c_rebound.toInt64) * r163.toInt64)) / (10 : Int64))), (10, .long r122.toInt64), (9, .int (p3 - r93)), (8, .int (g_minf (12 : Int32) (p4 + 3))), (7, .int 3), (6, .int (r27 / 2)), (0, .ref a_), (1, .int p1), (2, .int p2), (3, .int p3), (4, .int p4), (5, .int p5)]) X (by decide) rfl dX5_ofShot_173 ?_
              refine g_iload X 5 rfl dX5_ofShot_175 ?_
              refine g_i2l X dX5_ofShot_177 ?_
              refine g_lload X 1 rfl dX5_ofShot_178 ?_
              refine g_lmul X dX5_ofShot_180 ?_
              refine g_bipush (v := 10) X (by decide) dX5_ofShot_181 ?_
              refine g_iload X 5 rfl dX5_ofShot_183 ?_
              refine g_isub X dX5_ofShot_185 ?_
              refine g_i2l X dX5_ofShot_186 ?_
              refine g_lload X 0 rfl dX5_ofShot_187 ?_
              refine g_lmul X dX5_ofShot_189 ?_
              refine g_ladd X dX5_ofShot_190 ?_
              refine g_ldc2 (v := 10) X (X.2.2.2.2.1 (.constantLong RX5 148 (10)) (List.mem_of_getElem? (i := 10) rfl)) dX5_ofShot_191 ?_
              refine g_ldiv X (by decide) dX5_ofShot_194 ?_
              refine g_l2i X dX5_ofShot_195 ?_
              exact g_iret X hAA hQQ () (heq.symm.trans hXX) [5, 0, 1, 2, 3, 4, 6] rfl rfl hr dX5_ofShot_196
        · have heq := heq.trans (if_pos c52)
          refine g_iconst (v := 2) X (by decide) dX5_ofShot_55 ?_
          refine g_goto (tgt := 60) X (by decide) dX5_ofShot_56 ?_
          refine g_istore (lv' := [(7, .int 2), (6, .int (r27 / 2)), (0, .ref a_), (1, .int p1), (2, .int p2), (3, .int p3), (4, .int p4), (5, .int p5)]) X (by decide) rfl dX5_ofShot_60 ?_
          refine g_iload X 7 rfl dX5_ofShot_62 ?_
          refine g_if_ne X 80 dX5_ofShot_64 (by decide) (fun c64 => ?_) (fun c64 => ?_)
          · have heq := heq.trans (if_neg c64)
            refine g_iconst (v := 0) X (by decide) dX5_ofShot_80 ?_
            refine g_iload X 6 rfl dX5_ofShot_81 ?_
            refine g_iload X 0 rfl dX5_ofShot_83 ?_
            refine g_isub X dX5_ofShot_85 ?_
            refine g_mmax X (X.2.2.2.2.1 (.methodLink RX5 124 Lib.Math.max.name) (List.mem_of_getElem? (i := 6) rfl)) (X.2.2.2.2.1 (.static Lib.Math.max.name) (List.mem_of_getElem? (i := 7) rfl)) (X.2.2.2.2.1 (.initialized "java/lang/Math") (List.mem_of_getElem? (i := 4) rfl)) (X.2.2.2.2.1 (.code Lib.Math.max.name Lib.Math.max.code 2 (some .int)) (List.mem_of_getElem? (i := 8) rfl)) (Nat.le_of_ble_eq_true rfl) (Nat.le_of_ble_eq_true rfl) (Nat.le_of_ble_eq_true rfl) (Nat.le_of_ble_eq_true rfl) dX5_ofShot_86 ?_
            refine g_istore (lv' := [(8, .int (g_maxf (0 : Int32) (p4 - 2))), (7, .int 2), (6, .int (r27 / 2)), (0, .ref a_), (1, .int p1), (2, .int p2), (3, .int p3), (4, .int p4), (5, .int p5)]) X (by decide) rfl dX5_ofShot_89 ?_
            refine g_iload_n X 6 rfl rfl dX5_ofShot_91 ?_
            refine g_iload_n X 5 rfl rfl dX5_ofShot_92 ?_
            refine g_callSi (As := [.int p2]) (st := [.int p3]) (wr := [(a_worth, .inl (cI, 650, .inl c_worth)), (a_, .inr (5, [.int c_seconds, .int c_lead, .int c_ball, .ref a_fouls, .ref a_calls, .int c_rebound, .int c_law, .int c_draw, .int c_players, .ref a_side, .ref a_kind, .ref a_near, .ref a_far, .ref a_free, .int c_letters, .ref a_letter, .int c_at, .ref a_value, .int c_inRow, .ref a_row, .ref a_refusals, .int c_imaged, .ref a_image, .ref a_ahead, .ref a_guard, .ref a_worth])), (a_kind, .inl (cI, 6, .inl c_kind)), (a_near, .inl (cI, 6, .inl c_near)), (a_far, .inl (cI, 6, .inl c_far)), (a_free, .inl (cI, 6, .inl c_free)), (a_guard, .inl (cI, 6, .inl c_guard))]) X (k_X5_takes l D cI kA kV p2) (va_cwS 1 X.2.2.2.2.1 gX5_ofShot_X5_takes rfl rfl rfl (by decide +kernel) ⟨Nat.le_of_ble_eq_true rfl, Nat.le_of_ble_eq_true rfl⟩) [] [0, 1, 2, 3, 4, 5, 6] rfl rfl rfl rfl (by decide) rfl (Nat.le_of_ble_eq_true rfl) ⟨Nat.le_of_ble_eq_true rfl, Nat.le_of_ble_eq_true rfl⟩ dX5_ofShot_93 rfl (fun r93 u93 hw93 => ?_)
            refine g_eqs (ws' := [(a_worth, .inl (cI, 650, .inl c_worth)), (a_, .inr (5, [.int c_seconds, .int c_lead, .int c_ball, .ref a_fouls, .ref a_calls, .int c_rebound, .int c_law, .int c_draw, .int c_players, .ref a_side, .ref a_kind, .ref a_near, .ref a_far, .ref a_free, .int c_letters, .ref a_letter, .int c_at, .ref a_value, .int c_inRow, .ref a_row, .ref a_refusals, .int c_imaged, .ref a_image, .ref a_ahead, .ref a_guard, .ref a_worth])), (a_kind, .inl (cI, 6, .inl c_kind)), (a_near, .inl (cI, 6, .inl c_near)), (a_far, .inl (cI, 6, .inl c_far)), (a_free, .inl (cI, 6, .inl c_free)), (a_guard, .inl (cI, 6, .inl c_guard))]) rfl ?_
            have heq := g_let heq hw93
            refine g_isub X dX5_ofShot_96 ?_
            refine g_istore (lv' := [(9, .int (p3 - r93)), (8, .int (g_maxf (0 : Int32) (p4 - 2))), (7, .int 2), (6, .int (r27 / 2)), (0, .ref a_), (1, .int p1), (2, .int p2), (3, .int p3), (4, .int p4), (5, .int p5)]) X (by decide) rfl dX5_ofShot_97 ?_
            refine g_aload_n X 4 rfl rfl dX5_ofShot_99 ?_
            refine g_aload_n X 4 rfl rfl dX5_ofShot_100 ?_
            refine g_get (C := RX5) (T := TX5) (N := 26) (ci := 5) X hi_X5_ofShot_X5 1 rfl rfl 6 (by decide) (X.2.2.2.2.1 (.fieldLink RX5 104 "NineteenSecondsLeftModel" "law" "I") (List.mem_of_getElem? (i := 1) rfl)) rfl rfl dX5_ofShot_101 ?_
            refine g_iconst (v := 2) X (by decide) dX5_ofShot_104 ?_
            refine g_icmp_ne X 114 dX5_ofShot_105 (by decide) (fun c105 => ?_) (fun c105 => absurd (c52.symm.trans c105) (by decide))
            refine g_iload X 0 rfl dX5_ofShot_114 ?_
            refine g_iload X 1 rfl dX5_ofShot_116 ?_
            refine g_iconst (v := 1) X (by decide) dX5_ofShot_118 ?_
            refine g_iload X 9 rfl dX5_ofShot_119 ?_
            refine g_isub X dX5_ofShot_121 ?_
            refine g_callVi (C := RX5) (T := TX5) (N := 26) (ci := 5) (As := [.int (p3 - r93), .int (g_maxf (0 : Int32) (p4 - 2)), .int (1 - p5)]) (st := []) (wr := [(a_kind, .inl (cI, 6, .inl c_kind)), (a_near, .inl (cI, 6, .inl c_near)), (a_far, .inl (cI, 6, .inl c_far)), (a_free, .inl (cI, 6, .inl c_free)), (a_guard, .inl (cI, 6, .inl c_guard))]) X (k_X5_valueOf l D cI kA kV a_ a_fouls a_calls a_side a_kind a_near a_far a_free a_letter a_value a_row a_refusals a_image a_ahead a_guard a_worth c_seconds c_lead c_ball c_rebound c_law c_draw c_players c_letters c_at c_inRow c_imaged c_worth (p3 - r93) (g_maxf (0 : Int32) (p4 - 2)) (1 - p5) ⟨(m_secT hs.1 hw93 hw1 c5), (m_ldm2 hs.2.1), (m_bl1 hs.2.2)⟩) (cwV 3 X.2.2.2.2.1 gX5_ofShot_X5_valueOf rfl rfl rfl (by decide +kernel) ⟨Nat.le_of_ble_eq_true rfl, Nat.le_of_ble_eq_true rfl⟩) 1 rfl rfl [1, 0] [2, 3, 4, 5, 6] rfl rfl rfl rfl (by decide) rfl (Nat.le_of_ble_eq_true rfl) ⟨Nat.le_of_ble_eq_true rfl, Nat.le_of_ble_eq_true rfl⟩ dX5_ofShot_122 rfl (fun r122 u122 hw122 => ?_)
            refine g_eqs (ws' := [(a_kind, .inl (cI, 6, .inl c_kind)), (a_near, .inl (cI, 6, .inl c_near)), (a_far, .inl (cI, 6, .inl c_far)), (a_free, .inl (cI, 6, .inl c_free)), (a_guard, .inl (cI, 6, .inl c_guard)), (a_, .inr (5, [.int c_seconds, .int c_lead, .int c_ball, .ref a_fouls, .ref a_calls, .int c_rebound, .int c_law, .int c_draw, .int c_players, .ref a_side, .ref a_kind, .ref a_near, .ref a_far, .ref a_free, .int c_letters, .ref a_letter, .int c_at, .ref a_value, .int c_inRow, .ref a_row, .ref a_refusals, .int c_imaged, .ref a_image, .ref a_ahead, .ref a_guard, .ref a_worth])), (a_worth, .inl (cI, 650, .inl c_worth))]) rfl ?_
            have heq := g_let heq hw122
            refine g_i2l X dX5_ofShot_125 ?_
            refine g_lstore (lv' := [(10, .long r122.toInt64), (9, .int (p3 - r93)), (8, .int (g_maxf (0 : Int32) (p4 - 2))), (7, .int 2), (6, .int (r27 / 2)), (0, .ref a_), (1, .int p1), (2, .int p2), (3, .int p3), (4, .int p4), (5, .int p5)]) X (by decide) rfl dX5_ofShot_126 ?_
            refine g_aload_n X 5 rfl rfl dX5_ofShot_128 ?_
            refine g_get (C := RX5) (T := TX5) (N := 26) (ci := 5) X hi_X5_ofShot_X5 5 rfl rfl 5 (by decide) (X.2.2.2.2.1 (.fieldLink RX5 62 "NineteenSecondsLeftModel" "rebound" "I") (List.mem_of_getElem? (i := 9) rfl)) rfl rfl dX5_ofShot_129 ?_
            refine g_i2l X dX5_ofShot_132 ?_
            refine g_aload_n X 5 rfl rfl dX5_ofShot_133 ?_
            refine g_iload X 1 rfl dX5_ofShot_134 ?_
            refine g_iload X 9 rfl dX5_ofShot_136 ?_
            refine g_iload X 10 rfl dX5_ofShot_138 ?_
            refine g_callVi (C := RX5) (T := TX5) (N := 26) (ci := 5) (As := [.int (p3 - r93), .int p4, .int p5]) (st := [.long c_rebound.toInt64]) (wr := [(a_kind, .inl (cI, 6, .inl c_kind)), (a_near, .inl (cI, 6, .inl c_near)), (a_far, .inl (cI, 6, .inl c_far)), (a_free, .inl (cI, 6, .inl c_free)), (a_guard, .inl (cI, 6, .inl c_guard))]) X (k_X5_valueOf l D cI kA kV a_ a_fouls a_calls a_side a_kind a_near a_far a_free a_letter a_value a_row a_refusals a_image a_ahead a_guard a_worth c_seconds c_lead c_ball c_rebound c_law c_draw c_players c_letters c_at c_inRow c_imaged c_worth (p3 - r93) p4 p5 ⟨(m_secT hs.1 hw93 hw1 c5), hs.2.1, hs.2.2⟩) (cwV 3 X.2.2.2.2.1 gX5_ofShot_X5_valueOf rfl rfl rfl (by decide +kernel) ⟨Nat.le_of_ble_eq_true rfl, Nat.le_of_ble_eq_true rfl⟩) 5 rfl rfl [5, 6] [0, 1, 2, 3, 4] rfl rfl rfl rfl (by decide) rfl (Nat.le_of_ble_eq_true rfl) ⟨Nat.le_of_ble_eq_true rfl, Nat.le_of_ble_eq_true rfl⟩ dX5_ofShot_140 rfl (fun r140 u140 hw140 => ?_)
            refine g_eqs (ws' := [(a_kind, .inl (cI, 6, .inl c_kind)), (a_near, .inl (cI, 6, .inl c_near)), (a_far, .inl (cI, 6, .inl c_far)), (a_free, .inl (cI, 6, .inl c_free)), (a_guard, .inl (cI, 6, .inl c_guard)), (a_, .inr (5, [.int c_seconds, .int c_lead, .int c_ball, .ref a_fouls, .ref a_calls, .int c_rebound, .int c_law, .int c_draw, .int c_players, .ref a_side, .ref a_kind, .ref a_near, .ref a_far, .ref a_free, .int c_letters, .ref a_letter, .int c_at, .ref a_value, .int c_inRow, .ref a_row, .ref a_refusals, .int c_imaged, .ref a_image, .ref a_ahead, .ref a_guard, .ref a_worth])), (a_worth, .inl (cI, 650, .inl c_worth))]) rfl ?_
            have heq := g_let heq hw140
            refine g_i2l X dX5_ofShot_143 ?_
            refine g_lmul X dX5_ofShot_144 ?_
            refine g_ldc2 (v := 10) X (X.2.2.2.2.1 (.constantLong RX5 148 (10)) (List.mem_of_getElem? (i := 10) rfl)) dX5_ofShot_145 ?_
            refine g_aload_n X 5 rfl rfl dX5_ofShot_148 ?_
            refine g_get (C := RX5) (T := TX5) (N := 26) (ci := 5) X hi_X5_ofShot_X5 5 rfl rfl 5 (by decide) (X.2.2.2.2.1 (.fieldLink RX5 62 "NineteenSecondsLeftModel" "rebound" "I") (List.mem_of_getElem? (i := 9) rfl)) rfl rfl dX5_ofShot_149 ?_
            refine g_i2l X dX5_ofShot_152 ?_
            refine g_lsub X dX5_ofShot_153 ?_
            refine g_aload_n X 5 rfl rfl dX5_ofShot_154 ?_
            refine g_iload X 1 rfl dX5_ofShot_155 ?_
            refine g_iload X 9 rfl dX5_ofShot_157 ?_
            refine g_iconst (v := 1) X (by decide) dX5_ofShot_159 ?_
            refine g_iload X 10 rfl dX5_ofShot_160 ?_
            refine g_isub X dX5_ofShot_162 ?_
            refine g_callVi (C := RX5) (T := TX5) (N := 26) (ci := 5) (As := [.int (p3 - r93), .int p4, .int (1 - p5)]) (st := [.long ((10 : Int64) - c_rebound.toInt64), .long (c_rebound.toInt64 * r140.toInt64)]) (wr := [(a_kind, .inl (cI, 6, .inl c_kind)), (a_near, .inl (cI, 6, .inl c_near)), (a_far, .inl (cI, 6, .inl c_far)), (a_free, .inl (cI, 6, .inl c_free)), (a_guard, .inl (cI, 6, .inl c_guard))]) X (k_X5_valueOf l D cI kA kV a_ a_fouls a_calls a_side a_kind a_near a_far a_free a_letter a_value a_row a_refusals a_image a_ahead a_guard a_worth c_seconds c_lead c_ball c_rebound c_law c_draw c_players c_letters c_at c_inRow c_imaged c_worth (p3 - r93) p4 (1 - p5) ⟨(m_secT hs.1 hw93 hw1 c5), hs.2.1, (m_bl1 hs.2.2)⟩) (cwV 3 X.2.2.2.2.1 gX5_ofShot_X5_valueOf rfl rfl rfl (by decide +kernel) ⟨Nat.le_of_ble_eq_true rfl, Nat.le_of_ble_eq_true rfl⟩) 5 rfl rfl [5, 6] [0, 1, 2, 3, 4] rfl rfl rfl rfl (by decide) rfl (Nat.le_of_ble_eq_true rfl) ⟨Nat.le_of_ble_eq_true rfl, Nat.le_of_ble_eq_true rfl⟩ dX5_ofShot_163 rfl (fun r163 u163 hw163 => ?_)
            refine g_eqs (ws' := [(a_kind, .inl (cI, 6, .inl c_kind)), (a_near, .inl (cI, 6, .inl c_near)), (a_far, .inl (cI, 6, .inl c_far)), (a_free, .inl (cI, 6, .inl c_free)), (a_guard, .inl (cI, 6, .inl c_guard)), (a_, .inr (5, [.int c_seconds, .int c_lead, .int c_ball, .ref a_fouls, .ref a_calls, .int c_rebound, .int c_law, .int c_draw, .int c_players, .ref a_side, .ref a_kind, .ref a_near, .ref a_far, .ref a_free, .int c_letters, .ref a_letter, .int c_at, .ref a_value, .int c_inRow, .ref a_row, .ref a_refusals, .int c_imaged, .ref a_image, .ref a_ahead, .ref a_guard, .ref a_worth])), (a_worth, .inl (cI, 650, .inl c_worth))]) rfl ?_
            have heq := g_let heq hw163
            refine g_i2l X dX5_ofShot_166 ?_
            refine g_lmul X dX5_ofShot_167 ?_
            refine g_ladd X dX5_ofShot_168 ?_
            refine g_ldc2 (v := 10) X (X.2.2.2.2.1 (.constantLong RX5 148 (10)) (List.mem_of_getElem? (i := 10) rfl)) dX5_ofShot_169 ?_
            refine g_ldiv X (by decide) dX5_ofShot_172 ?_
            refine g_lstore (lv' := [(12, .long (((c_rebound.toInt64 * r140.toInt64) + (((10 : Int64) - c_rebound.toInt64) * r163.toInt64)) / (10 : Int64))), (10, .long r122.toInt64), (9, .int (p3 - r93)), (8, .int (g_maxf (0 : Int32) (p4 - 2))), (7, .int 2), (6, .int (r27 / 2)), (0, .ref a_), (1, .int p1), (2, .int p2), (3, .int p3), (4, .int p4), (5, .int p5)]) X (by decide) rfl dX5_ofShot_173 ?_
            refine g_iload X 5 rfl dX5_ofShot_175 ?_
            refine g_i2l X dX5_ofShot_177 ?_
            refine g_lload X 1 rfl dX5_ofShot_178 ?_
            refine g_lmul X dX5_ofShot_180 ?_
            refine g_bipush (v := 10) X (by decide) dX5_ofShot_181 ?_
            refine g_iload X 5 rfl dX5_ofShot_183 ?_
            refine g_isub X dX5_ofShot_185 ?_
            refine g_i2l X dX5_ofShot_186 ?_
            refine g_lload X 0 rfl dX5_ofShot_187 ?_
            refine g_lmul X dX5_ofShot_189 ?_
            refine g_ladd X dX5_ofShot_190 ?_
            refine g_ldc2 (v := 10) X (X.2.2.2.2.1 (.constantLong RX5 148 (10)) (List.mem_of_getElem? (i := 10) rfl)) dX5_ofShot_191 ?_
            refine g_ldiv X (by decide) dX5_ofShot_194 ?_
            refine g_l2i X dX5_ofShot_195 ?_
            exact g_iret X hAA hQQ () (heq.symm.trans hXX) [5, 0, 1, 2, 3, 4, 6] rfl rfl hr dX5_ofShot_196
          · have heq := heq.trans (if_pos c64)
            refine g_bipush (v := 12) X (by decide) dX5_ofShot_67 ?_
            refine g_iload X 6 rfl dX5_ofShot_69 ?_
            refine g_iload X 0 rfl dX5_ofShot_71 ?_
            refine g_iadd X dX5_ofShot_73 ?_
            refine g_mmin X (X.2.2.2.2.1 (.methodLink RX5 118 Lib.Math.min.name) (List.mem_of_getElem? (i := 2) rfl)) (X.2.2.2.2.1 (.static Lib.Math.min.name) (List.mem_of_getElem? (i := 3) rfl)) (X.2.2.2.2.1 (.initialized "java/lang/Math") (List.mem_of_getElem? (i := 4) rfl)) (X.2.2.2.2.1 (.code Lib.Math.min.name Lib.Math.min.code 2 (some .int)) (List.mem_of_getElem? (i := 5) rfl)) (Nat.le_of_ble_eq_true rfl) (Nat.le_of_ble_eq_true rfl) (Nat.le_of_ble_eq_true rfl) (Nat.le_of_ble_eq_true rfl) dX5_ofShot_74 ?_
            refine g_goto (tgt := 89) X (by decide) dX5_ofShot_77 ?_
            refine g_istore (lv' := [(8, .int (g_minf (12 : Int32) (p4 + 2))), (7, .int 2), (6, .int (r27 / 2)), (0, .ref a_), (1, .int p1), (2, .int p2), (3, .int p3), (4, .int p4), (5, .int p5)]) X (by decide) rfl dX5_ofShot_89 ?_
            refine g_iload_n X 6 rfl rfl dX5_ofShot_91 ?_
            refine g_iload_n X 5 rfl rfl dX5_ofShot_92 ?_
            refine g_callSi (As := [.int p2]) (st := [.int p3]) (wr := [(a_worth, .inl (cI, 650, .inl c_worth)), (a_, .inr (5, [.int c_seconds, .int c_lead, .int c_ball, .ref a_fouls, .ref a_calls, .int c_rebound, .int c_law, .int c_draw, .int c_players, .ref a_side, .ref a_kind, .ref a_near, .ref a_far, .ref a_free, .int c_letters, .ref a_letter, .int c_at, .ref a_value, .int c_inRow, .ref a_row, .ref a_refusals, .int c_imaged, .ref a_image, .ref a_ahead, .ref a_guard, .ref a_worth])), (a_kind, .inl (cI, 6, .inl c_kind)), (a_near, .inl (cI, 6, .inl c_near)), (a_far, .inl (cI, 6, .inl c_far)), (a_free, .inl (cI, 6, .inl c_free)), (a_guard, .inl (cI, 6, .inl c_guard))]) X (k_X5_takes l D cI kA kV p2) (va_cwS 1 X.2.2.2.2.1 gX5_ofShot_X5_takes rfl rfl rfl (by decide +kernel) ⟨Nat.le_of_ble_eq_true rfl, Nat.le_of_ble_eq_true rfl⟩) [] [0, 1, 2, 3, 4, 5, 6] rfl rfl rfl rfl (by decide) rfl (Nat.le_of_ble_eq_true rfl) ⟨Nat.le_of_ble_eq_true rfl, Nat.le_of_ble_eq_true rfl⟩ dX5_ofShot_93 rfl (fun r93 u93 hw93 => ?_)
            refine g_eqs (ws' := [(a_worth, .inl (cI, 650, .inl c_worth)), (a_, .inr (5, [.int c_seconds, .int c_lead, .int c_ball, .ref a_fouls, .ref a_calls, .int c_rebound, .int c_law, .int c_draw, .int c_players, .ref a_side, .ref a_kind, .ref a_near, .ref a_far, .ref a_free, .int c_letters, .ref a_letter, .int c_at, .ref a_value, .int c_inRow, .ref a_row, .ref a_refusals, .int c_imaged, .ref a_image, .ref a_ahead, .ref a_guard, .ref a_worth])), (a_kind, .inl (cI, 6, .inl c_kind)), (a_near, .inl (cI, 6, .inl c_near)), (a_far, .inl (cI, 6, .inl c_far)), (a_free, .inl (cI, 6, .inl c_free)), (a_guard, .inl (cI, 6, .inl c_guard))]) rfl ?_
            have heq := g_let heq hw93
            refine g_isub X dX5_ofShot_96 ?_
            refine g_istore (lv' := [(9, .int (p3 - r93)), (8, .int (g_minf (12 : Int32) (p4 + 2))), (7, .int 2), (6, .int (r27 / 2)), (0, .ref a_), (1, .int p1), (2, .int p2), (3, .int p3), (4, .int p4), (5, .int p5)]) X (by decide) rfl dX5_ofShot_97 ?_
            refine g_aload_n X 4 rfl rfl dX5_ofShot_99 ?_
            refine g_aload_n X 4 rfl rfl dX5_ofShot_100 ?_
            refine g_get (C := RX5) (T := TX5) (N := 26) (ci := 5) X hi_X5_ofShot_X5 1 rfl rfl 6 (by decide) (X.2.2.2.2.1 (.fieldLink RX5 104 "NineteenSecondsLeftModel" "law" "I") (List.mem_of_getElem? (i := 1) rfl)) rfl rfl dX5_ofShot_101 ?_
            refine g_iconst (v := 2) X (by decide) dX5_ofShot_104 ?_
            refine g_icmp_ne X 114 dX5_ofShot_105 (by decide) (fun c105 => ?_) (fun c105 => absurd (c52.symm.trans c105) (by decide))
            refine g_iload X 0 rfl dX5_ofShot_114 ?_
            refine g_iload X 1 rfl dX5_ofShot_116 ?_
            refine g_iconst (v := 1) X (by decide) dX5_ofShot_118 ?_
            refine g_iload X 9 rfl dX5_ofShot_119 ?_
            refine g_isub X dX5_ofShot_121 ?_
            refine g_callVi (C := RX5) (T := TX5) (N := 26) (ci := 5) (As := [.int (p3 - r93), .int (g_minf (12 : Int32) (p4 + 2)), .int (1 - p5)]) (st := []) (wr := [(a_kind, .inl (cI, 6, .inl c_kind)), (a_near, .inl (cI, 6, .inl c_near)), (a_far, .inl (cI, 6, .inl c_far)), (a_free, .inl (cI, 6, .inl c_free)), (a_guard, .inl (cI, 6, .inl c_guard))]) X (k_X5_valueOf l D cI kA kV a_ a_fouls a_calls a_side a_kind a_near a_far a_free a_letter a_value a_row a_refusals a_image a_ahead a_guard a_worth c_seconds c_lead c_ball c_rebound c_law c_draw c_players c_letters c_at c_inRow c_imaged c_worth (p3 - r93) (g_minf (12 : Int32) (p4 + 2)) (1 - p5) ⟨(m_secT hs.1 hw93 hw1 c5), (m_ldp2 hs.2.1), (m_bl1 hs.2.2)⟩) (cwV 3 X.2.2.2.2.1 gX5_ofShot_X5_valueOf rfl rfl rfl (by decide +kernel) ⟨Nat.le_of_ble_eq_true rfl, Nat.le_of_ble_eq_true rfl⟩) 1 rfl rfl [1, 0] [2, 3, 4, 5, 6] rfl rfl rfl rfl (by decide) rfl (Nat.le_of_ble_eq_true rfl) ⟨Nat.le_of_ble_eq_true rfl, Nat.le_of_ble_eq_true rfl⟩ dX5_ofShot_122 rfl (fun r122 u122 hw122 => ?_)
            refine g_eqs (ws' := [(a_kind, .inl (cI, 6, .inl c_kind)), (a_near, .inl (cI, 6, .inl c_near)), (a_far, .inl (cI, 6, .inl c_far)), (a_free, .inl (cI, 6, .inl c_free)), (a_guard, .inl (cI, 6, .inl c_guard)), (a_, .inr (5, [.int c_seconds, .int c_lead, .int c_ball, .ref a_fouls, .ref a_calls, .int c_rebound, .int c_law, .int c_draw, .int c_players, .ref a_side, .ref a_kind, .ref a_near, .ref a_far, .ref a_free, .int c_letters, .ref a_letter, .int c_at, .ref a_value, .int c_inRow, .ref a_row, .ref a_refusals, .int c_imaged, .ref a_image, .ref a_ahead, .ref a_guard, .ref a_worth])), (a_worth, .inl (cI, 650, .inl c_worth))]) rfl ?_
            have heq := g_let heq hw122
            refine g_i2l X dX5_ofShot_125 ?_
            refine g_lstore (lv' := [(10, .long r122.toInt64), (9, .int (p3 - r93)), (8, .int (g_minf (12 : Int32) (p4 + 2))), (7, .int 2), (6, .int (r27 / 2)), (0, .ref a_), (1, .int p1), (2, .int p2), (3, .int p3), (4, .int p4), (5, .int p5)]) X (by decide) rfl dX5_ofShot_126 ?_
            refine g_aload_n X 5 rfl rfl dX5_ofShot_128 ?_
            refine g_get (C := RX5) (T := TX5) (N := 26) (ci := 5) X hi_X5_ofShot_X5 5 rfl rfl 5 (by decide) (X.2.2.2.2.1 (.fieldLink RX5 62 "NineteenSecondsLeftModel" "rebound" "I") (List.mem_of_getElem? (i := 9) rfl)) rfl rfl dX5_ofShot_129 ?_
            refine g_i2l X dX5_ofShot_132 ?_
            refine g_aload_n X 5 rfl rfl dX5_ofShot_133 ?_
            refine g_iload X 1 rfl dX5_ofShot_134 ?_
            refine g_iload X 9 rfl dX5_ofShot_136 ?_
            refine g_iload X 10 rfl dX5_ofShot_138 ?_
            refine g_callVi (C := RX5) (T := TX5) (N := 26) (ci := 5) (As := [.int (p3 - r93), .int p4, .int p5]) (st := [.long c_rebound.toInt64]) (wr := [(a_kind, .inl (cI, 6, .inl c_kind)), (a_near, .inl (cI, 6, .inl c_near)), (a_far, .inl (cI, 6, .inl c_far)), (a_free, .inl (cI, 6, .inl c_free)), (a_guard, .inl (cI, 6, .inl c_guard))]) X (k_X5_valueOf l D cI kA kV a_ a_fouls a_calls a_side a_kind a_near a_far a_free a_letter a_value a_row a_refusals a_image a_ahead a_guard a_worth c_seconds c_lead c_ball c_rebound c_law c_draw c_players c_letters c_at c_inRow c_imaged c_worth (p3 - r93) p4 p5 ⟨(m_secT hs.1 hw93 hw1 c5), hs.2.1, hs.2.2⟩) (cwV 3 X.2.2.2.2.1 gX5_ofShot_X5_valueOf rfl rfl rfl (by decide +kernel) ⟨Nat.le_of_ble_eq_true rfl, Nat.le_of_ble_eq_true rfl⟩) 5 rfl rfl [5, 6] [0, 1, 2, 3, 4] rfl rfl rfl rfl (by decide) rfl (Nat.le_of_ble_eq_true rfl) ⟨Nat.le_of_ble_eq_true rfl, Nat.le_of_ble_eq_true rfl⟩ dX5_ofShot_140 rfl (fun r140 u140 hw140 => ?_)
            refine g_eqs (ws' := [(a_kind, .inl (cI, 6, .inl c_kind)), (a_near, .inl (cI, 6, .inl c_near)), (a_far, .inl (cI, 6, .inl c_far)), (a_free, .inl (cI, 6, .inl c_free)), (a_guard, .inl (cI, 6, .inl c_guard)), (a_, .inr (5, [.int c_seconds, .int c_lead, .int c_ball, .ref a_fouls, .ref a_calls, .int c_rebound, .int c_law, .int c_draw, .int c_players, .ref a_side, .ref a_kind, .ref a_near, .ref a_far, .ref a_free, .int c_letters, .ref a_letter, .int c_at, .ref a_value, .int c_inRow, .ref a_row, .ref a_refusals, .int c_imaged, .ref a_image, .ref a_ahead, .ref a_guard, .ref a_worth])), (a_worth, .inl (cI, 650, .inl c_worth))]) rfl ?_
            have heq := g_let heq hw140
            refine g_i2l X dX5_ofShot_143 ?_
            refine g_lmul X dX5_ofShot_144 ?_
            refine g_ldc2 (v := 10) X (X.2.2.2.2.1 (.constantLong RX5 148 (10)) (List.mem_of_getElem? (i := 10) rfl)) dX5_ofShot_145 ?_
            refine g_aload_n X 5 rfl rfl dX5_ofShot_148 ?_
            refine g_get (C := RX5) (T := TX5) (N := 26) (ci := 5) X hi_X5_ofShot_X5 5 rfl rfl 5 (by decide) (X.2.2.2.2.1 (.fieldLink RX5 62 "NineteenSecondsLeftModel" "rebound" "I") (List.mem_of_getElem? (i := 9) rfl)) rfl rfl dX5_ofShot_149 ?_
            refine g_i2l X dX5_ofShot_152 ?_
            refine g_lsub X dX5_ofShot_153 ?_
            refine g_aload_n X 5 rfl rfl dX5_ofShot_154 ?_
            refine g_iload X 1 rfl dX5_ofShot_155 ?_
            refine g_iload X 9 rfl dX5_ofShot_157 ?_
            refine g_iconst (v := 1) X (by decide) dX5_ofShot_159 ?_
            refine g_iload X 10 rfl dX5_ofShot_160 ?_
            refine g_isub X dX5_ofShot_162 ?_
            refine g_callVi (C := RX5) (T := TX5) (N := 26) (ci := 5) (As := [.int (p3 - r93), .int p4, .int (1 - p5)]) (st := [.long ((10 : Int64) - c_rebound.toInt64), .long (c_rebound.toInt64 * r140.toInt64)]) (wr := [(a_kind, .inl (cI, 6, .inl c_kind)), (a_near, .inl (cI, 6, .inl c_near)), (a_far, .inl (cI, 6, .inl c_far)), (a_free, .inl (cI, 6, .inl c_free)), (a_guard, .inl (cI, 6, .inl c_guard))]) X (k_X5_valueOf l D cI kA kV a_ a_fouls a_calls a_side a_kind a_near a_far a_free a_letter a_value a_row a_refusals a_image a_ahead a_guard a_worth c_seconds c_lead c_ball c_rebound c_law c_draw c_players c_letters c_at c_inRow c_imaged c_worth (p3 - r93) p4 (1 - p5) ⟨(m_secT hs.1 hw93 hw1 c5), hs.2.1, (m_bl1 hs.2.2)⟩) (cwV 3 X.2.2.2.2.1 gX5_ofShot_X5_valueOf rfl rfl rfl (by decide +kernel) ⟨Nat.le_of_ble_eq_true rfl, Nat.le_of_ble_eq_true rfl⟩) 5 rfl rfl [5, 6] [0, 1, 2, 3, 4] rfl rfl rfl rfl (by decide) rfl (Nat.le_of_ble_eq_true rfl) ⟨Nat.le_of_ble_eq_true rfl, Nat.le_of_ble_eq_true rfl⟩ dX5_ofShot_163 rfl (fun r163 u163 hw163 => ?_)
            refine g_eqs (ws' := [(a_kind, .inl (cI, 6, .inl c_kind)), (a_near, .inl (cI, 6, .inl c_near)), (a_far, .inl (cI, 6, .inl c_far)), (a_free, .inl (cI, 6, .inl c_free)), (a_guard, .inl (cI, 6, .inl c_guard)), (a_, .inr (5, [.int c_seconds, .int c_lead, .int c_ball, .ref a_fouls, .ref a_calls, .int c_rebound, .int c_law, .int c_draw, .int c_players, .ref a_side, .ref a_kind, .ref a_near, .ref a_far, .ref a_free, .int c_letters, .ref a_letter, .int c_at, .ref a_value, .int c_inRow, .ref a_row, .ref a_refusals, .int c_imaged, .ref a_image, .ref a_ahead, .ref a_guard, .ref a_worth])), (a_worth, .inl (cI, 650, .inl c_worth))]) rfl ?_
            have heq := g_let heq hw163
            refine g_i2l X dX5_ofShot_166 ?_
            refine g_lmul X dX5_ofShot_167 ?_
            refine g_ladd X dX5_ofShot_168 ?_
            refine g_ldc2 (v := 10) X (X.2.2.2.2.1 (.constantLong RX5 148 (10)) (List.mem_of_getElem? (i := 10) rfl)) dX5_ofShot_169 ?_
            refine g_ldiv X (by decide) dX5_ofShot_172 ?_
            refine g_lstore (lv' := [(12, .long (((c_rebound.toInt64 * r140.toInt64) + (((10 : Int64) - c_rebound.toInt64) * r163.toInt64)) / (10 : Int64))), (10, .long r122.toInt64), (9, .int (p3 - r93)), (8, .int (g_minf (12 : Int32) (p4 + 2))), (7, .int 2), (6, .int (r27 / 2)), (0, .ref a_), (1, .int p1), (2, .int p2), (3, .int p3), (4, .int p4), (5, .int p5)]) X (by decide) rfl dX5_ofShot_173 ?_
            refine g_iload X 5 rfl dX5_ofShot_175 ?_
            refine g_i2l X dX5_ofShot_177 ?_
            refine g_lload X 1 rfl dX5_ofShot_178 ?_
            refine g_lmul X dX5_ofShot_180 ?_
            refine g_bipush (v := 10) X (by decide) dX5_ofShot_181 ?_
            refine g_iload X 5 rfl dX5_ofShot_183 ?_
            refine g_isub X dX5_ofShot_185 ?_
            refine g_i2l X dX5_ofShot_186 ?_
            refine g_lload X 0 rfl dX5_ofShot_187 ?_
            refine g_lmul X dX5_ofShot_189 ?_
            refine g_ladd X dX5_ofShot_190 ?_
            refine g_ldc2 (v := 10) X (X.2.2.2.2.1 (.constantLong RX5 148 (10)) (List.mem_of_getElem? (i := 10) rfl)) dX5_ofShot_191 ?_
            refine g_ldiv X (by decide) dX5_ofShot_194 ?_
            refine g_l2i X dX5_ofShot_195 ?_
            exact g_iret X hAA hQQ () (heq.symm.trans hXX) [5, 0, 1, 2, 3, 4, 6] rfl rfl hr dX5_ofShot_196
    · have heq := heq.trans (if_pos c18)
      refine g_iconst (v := 0) X (by decide) dX5_ofShot_21 ?_
      refine g_goto (tgt := 26) X (by decide) dX5_ofShot_22 ?_
      refine g_iload_n X 3 rfl rfl dX5_ofShot_26 ?_
      refine g_callVi (C := RX5) (T := TX5) (N := 26) (ci := 5) (As := [.int p1, .int 0, .int p3]) (st := []) (wr := [(a_worth, .inl (cI, 650, .inl c_worth))]) X (k_X5_odds l D cI kA kV a_ a_fouls a_calls a_side a_kind a_near a_far a_free a_letter a_value a_row a_refusals a_image a_ahead a_guard a_worth c_seconds c_lead c_ball c_rebound c_law c_draw c_players c_letters c_at c_inRow c_imaged c_kind c_near c_far c_free c_guard p1 0 p3 hi) (cwV 3 X.2.2.2.2.1 gX5_ofShot_X5_odds rfl rfl rfl (by decide +kernel) ⟨Nat.le_of_ble_eq_true rfl, Nat.le_of_ble_eq_true rfl⟩) 0 rfl rfl [0, 1, 2, 3, 4, 5] [6] rfl rfl rfl rfl (by decide) rfl (Nat.le_of_ble_eq_true rfl) ⟨Nat.le_of_ble_eq_true rfl, Nat.le_of_ble_eq_true rfl⟩ dX5_ofShot_27 rfl (fun r27 u27 hw27 => ?_)
      refine g_eqs (ws' := [(a_worth, .inl (cI, 650, .inl c_worth)), (a_, .inr (5, [.int c_seconds, .int c_lead, .int c_ball, .ref a_fouls, .ref a_calls, .int c_rebound, .int c_law, .int c_draw, .int c_players, .ref a_side, .ref a_kind, .ref a_near, .ref a_far, .ref a_free, .int c_letters, .ref a_letter, .int c_at, .ref a_value, .int c_inRow, .ref a_row, .ref a_refusals, .int c_imaged, .ref a_image, .ref a_ahead, .ref a_guard, .ref a_worth])), (a_kind, .inl (cI, 6, .inl c_kind)), (a_near, .inl (cI, 6, .inl c_near)), (a_far, .inl (cI, 6, .inl c_far)), (a_free, .inl (cI, 6, .inl c_free)), (a_guard, .inl (cI, 6, .inl c_guard))]) rfl ?_
      have heq := g_let heq hw27
      refine g_istore (lv' := [(6, .int r27), (0, .ref a_), (1, .int p1), (2, .int p2), (3, .int p3), (4, .int p4), (5, .int p5)]) X (by decide) rfl dX5_ofShot_30 ?_
      refine g_iload_n X 3 rfl rfl dX5_ofShot_32 ?_
      refine g_iconst (v := 2) X (by decide) dX5_ofShot_33 ?_
      refine g_icmp_ne X 43 dX5_ofShot_34 (by decide) (fun c34 => ?_) (fun c34 => absurd (c18.symm.trans c34) (by decide))
      refine g_iload_n X 3 rfl rfl dX5_ofShot_43 ?_
      refine g_if_eq X 55 dX5_ofShot_44 (by decide) (fun c44 => ?_) (fun c44 => absurd c18 c44)
      refine g_iconst (v := 2) X (by decide) dX5_ofShot_55 ?_
      refine g_goto (tgt := 60) X (by decide) dX5_ofShot_56 ?_
      refine g_istore (lv' := [(7, .int 2), (6, .int r27), (0, .ref a_), (1, .int p1), (2, .int p2), (3, .int p3), (4, .int p4), (5, .int p5)]) X (by decide) rfl dX5_ofShot_60 ?_
      refine g_iload X 7 rfl dX5_ofShot_62 ?_
      refine g_if_ne X 80 dX5_ofShot_64 (by decide) (fun c64 => ?_) (fun c64 => ?_)
      · have heq := heq.trans (if_neg c64)
        refine g_iconst (v := 0) X (by decide) dX5_ofShot_80 ?_
        refine g_iload X 6 rfl dX5_ofShot_81 ?_
        refine g_iload X 0 rfl dX5_ofShot_83 ?_
        refine g_isub X dX5_ofShot_85 ?_
        refine g_mmax X (X.2.2.2.2.1 (.methodLink RX5 124 Lib.Math.max.name) (List.mem_of_getElem? (i := 6) rfl)) (X.2.2.2.2.1 (.static Lib.Math.max.name) (List.mem_of_getElem? (i := 7) rfl)) (X.2.2.2.2.1 (.initialized "java/lang/Math") (List.mem_of_getElem? (i := 4) rfl)) (X.2.2.2.2.1 (.code Lib.Math.max.name Lib.Math.max.code 2 (some .int)) (List.mem_of_getElem? (i := 8) rfl)) (Nat.le_of_ble_eq_true rfl) (Nat.le_of_ble_eq_true rfl) (Nat.le_of_ble_eq_true rfl) (Nat.le_of_ble_eq_true rfl) dX5_ofShot_86 ?_
        refine g_istore (lv' := [(8, .int (g_maxf (0 : Int32) (p4 - 2))), (7, .int 2), (6, .int r27), (0, .ref a_), (1, .int p1), (2, .int p2), (3, .int p3), (4, .int p4), (5, .int p5)]) X (by decide) rfl dX5_ofShot_89 ?_
        refine g_iload_n X 6 rfl rfl dX5_ofShot_91 ?_
        refine g_iload_n X 5 rfl rfl dX5_ofShot_92 ?_
        refine g_callSi (As := [.int p2]) (st := [.int p3]) (wr := [(a_worth, .inl (cI, 650, .inl c_worth)), (a_, .inr (5, [.int c_seconds, .int c_lead, .int c_ball, .ref a_fouls, .ref a_calls, .int c_rebound, .int c_law, .int c_draw, .int c_players, .ref a_side, .ref a_kind, .ref a_near, .ref a_far, .ref a_free, .int c_letters, .ref a_letter, .int c_at, .ref a_value, .int c_inRow, .ref a_row, .ref a_refusals, .int c_imaged, .ref a_image, .ref a_ahead, .ref a_guard, .ref a_worth])), (a_kind, .inl (cI, 6, .inl c_kind)), (a_near, .inl (cI, 6, .inl c_near)), (a_far, .inl (cI, 6, .inl c_far)), (a_free, .inl (cI, 6, .inl c_free)), (a_guard, .inl (cI, 6, .inl c_guard))]) X (k_X5_takes l D cI kA kV p2) (va_cwS 1 X.2.2.2.2.1 gX5_ofShot_X5_takes rfl rfl rfl (by decide +kernel) ⟨Nat.le_of_ble_eq_true rfl, Nat.le_of_ble_eq_true rfl⟩) [] [0, 1, 2, 3, 4, 5, 6] rfl rfl rfl rfl (by decide) rfl (Nat.le_of_ble_eq_true rfl) ⟨Nat.le_of_ble_eq_true rfl, Nat.le_of_ble_eq_true rfl⟩ dX5_ofShot_93 rfl (fun r93 u93 hw93 => ?_)
        refine g_eqs (ws' := [(a_worth, .inl (cI, 650, .inl c_worth)), (a_, .inr (5, [.int c_seconds, .int c_lead, .int c_ball, .ref a_fouls, .ref a_calls, .int c_rebound, .int c_law, .int c_draw, .int c_players, .ref a_side, .ref a_kind, .ref a_near, .ref a_far, .ref a_free, .int c_letters, .ref a_letter, .int c_at, .ref a_value, .int c_inRow, .ref a_row, .ref a_refusals, .int c_imaged, .ref a_image, .ref a_ahead, .ref a_guard, .ref a_worth])), (a_kind, .inl (cI, 6, .inl c_kind)), (a_near, .inl (cI, 6, .inl c_near)), (a_far, .inl (cI, 6, .inl c_far)), (a_free, .inl (cI, 6, .inl c_free)), (a_guard, .inl (cI, 6, .inl c_guard))]) rfl ?_
        have heq := g_let heq hw93
        refine g_isub X dX5_ofShot_96 ?_
        refine g_istore (lv' := [(9, .int (p3 - r93)), (8, .int (g_maxf (0 : Int32) (p4 - 2))), (7, .int 2), (6, .int r27), (0, .ref a_), (1, .int p1), (2, .int p2), (3, .int p3), (4, .int p4), (5, .int p5)]) X (by decide) rfl dX5_ofShot_97 ?_
        refine g_aload_n X 4 rfl rfl dX5_ofShot_99 ?_
        refine g_aload_n X 4 rfl rfl dX5_ofShot_100 ?_
        refine g_get (C := RX5) (T := TX5) (N := 26) (ci := 5) X hi_X5_ofShot_X5 1 rfl rfl 6 (by decide) (X.2.2.2.2.1 (.fieldLink RX5 104 "NineteenSecondsLeftModel" "law" "I") (List.mem_of_getElem? (i := 1) rfl)) rfl rfl dX5_ofShot_101 ?_
        refine g_iconst (v := 2) X (by decide) dX5_ofShot_104 ?_
        refine g_icmp_ne X 114 dX5_ofShot_105 (by decide) (fun c105 => ?_) (fun c105 => ?_)
        · have heq := heq.trans (if_neg c105)
          refine g_iload X 0 rfl dX5_ofShot_114 ?_
          refine g_iload X 1 rfl dX5_ofShot_116 ?_
          refine g_iconst (v := 1) X (by decide) dX5_ofShot_118 ?_
          refine g_iload X 9 rfl dX5_ofShot_119 ?_
          refine g_isub X dX5_ofShot_121 ?_
          refine g_callVi (C := RX5) (T := TX5) (N := 26) (ci := 5) (As := [.int (p3 - r93), .int (g_maxf (0 : Int32) (p4 - 2)), .int (1 - p5)]) (st := []) (wr := [(a_kind, .inl (cI, 6, .inl c_kind)), (a_near, .inl (cI, 6, .inl c_near)), (a_far, .inl (cI, 6, .inl c_far)), (a_free, .inl (cI, 6, .inl c_free)), (a_guard, .inl (cI, 6, .inl c_guard))]) X (k_X5_valueOf l D cI kA kV a_ a_fouls a_calls a_side a_kind a_near a_far a_free a_letter a_value a_row a_refusals a_image a_ahead a_guard a_worth c_seconds c_lead c_ball c_rebound c_law c_draw c_players c_letters c_at c_inRow c_imaged c_worth (p3 - r93) (g_maxf (0 : Int32) (p4 - 2)) (1 - p5) ⟨(m_secT hs.1 hw93 hw1 c5), (m_ldm2 hs.2.1), (m_bl1 hs.2.2)⟩) (cwV 3 X.2.2.2.2.1 gX5_ofShot_X5_valueOf rfl rfl rfl (by decide +kernel) ⟨Nat.le_of_ble_eq_true rfl, Nat.le_of_ble_eq_true rfl⟩) 1 rfl rfl [1, 0] [2, 3, 4, 5, 6] rfl rfl rfl rfl (by decide) rfl (Nat.le_of_ble_eq_true rfl) ⟨Nat.le_of_ble_eq_true rfl, Nat.le_of_ble_eq_true rfl⟩ dX5_ofShot_122 rfl (fun r122 u122 hw122 => ?_)
          refine g_eqs (ws' := [(a_kind, .inl (cI, 6, .inl c_kind)), (a_near, .inl (cI, 6, .inl c_near)), (a_far, .inl (cI, 6, .inl c_far)), (a_free, .inl (cI, 6, .inl c_free)), (a_guard, .inl (cI, 6, .inl c_guard)), (a_, .inr (5, [.int c_seconds, .int c_lead, .int c_ball, .ref a_fouls, .ref a_calls, .int c_rebound, .int c_law, .int c_draw, .int c_players, .ref a_side, .ref a_kind, .ref a_near, .ref a_far, .ref a_free, .int c_letters, .ref a_letter, .int c_at, .ref a_value, .int c_inRow, .ref a_row, .ref a_refusals, .int c_imaged, .ref a_image, .ref a_ahead, .ref a_guard, .ref a_worth])), (a_worth, .inl (cI, 650, .inl c_worth))]) rfl ?_
          have heq := g_let heq hw122
          refine g_i2l X dX5_ofShot_125 ?_
          refine g_lstore (lv' := [(10, .long r122.toInt64), (9, .int (p3 - r93)), (8, .int (g_maxf (0 : Int32) (p4 - 2))), (7, .int 2), (6, .int r27), (0, .ref a_), (1, .int p1), (2, .int p2), (3, .int p3), (4, .int p4), (5, .int p5)]) X (by decide) rfl dX5_ofShot_126 ?_
          refine g_aload_n X 5 rfl rfl dX5_ofShot_128 ?_
          refine g_get (C := RX5) (T := TX5) (N := 26) (ci := 5) X hi_X5_ofShot_X5 5 rfl rfl 5 (by decide) (X.2.2.2.2.1 (.fieldLink RX5 62 "NineteenSecondsLeftModel" "rebound" "I") (List.mem_of_getElem? (i := 9) rfl)) rfl rfl dX5_ofShot_129 ?_
          refine g_i2l X dX5_ofShot_132 ?_
          refine g_aload_n X 5 rfl rfl dX5_ofShot_133 ?_
          refine g_iload X 1 rfl dX5_ofShot_134 ?_
          refine g_iload X 9 rfl dX5_ofShot_136 ?_
          refine g_iload X 10 rfl dX5_ofShot_138 ?_
          refine g_callVi (C := RX5) (T := TX5) (N := 26) (ci := 5) (As := [.int (p3 - r93), .int p4, .int p5]) (st := [.long c_rebound.toInt64]) (wr := [(a_kind, .inl (cI, 6, .inl c_kind)), (a_near, .inl (cI, 6, .inl c_near)), (a_far, .inl (cI, 6, .inl c_far)), (a_free, .inl (cI, 6, .inl c_free)), (a_guard, .inl (cI, 6, .inl c_guard))]) X (k_X5_valueOf l D cI kA kV a_ a_fouls a_calls a_side a_kind a_near a_far a_free a_letter a_value a_row a_refusals a_image a_ahead a_guard a_worth c_seconds c_lead c_ball c_rebound c_law c_draw c_players c_letters c_at c_inRow c_imaged c_worth (p3 - r93) p4 p5 ⟨(m_secT hs.1 hw93 hw1 c5), hs.2.1, hs.2.2⟩) (cwV 3 X.2.2.2.2.1 gX5_ofShot_X5_valueOf rfl rfl rfl (by decide +kernel) ⟨Nat.le_of_ble_eq_true rfl, Nat.le_of_ble_eq_true rfl⟩) 5 rfl rfl [5, 6] [0, 1, 2, 3, 4] rfl rfl rfl rfl (by decide) rfl (Nat.le_of_ble_eq_true rfl) ⟨Nat.le_of_ble_eq_true rfl, Nat.le_of_ble_eq_true rfl⟩ dX5_ofShot_140 rfl (fun r140 u140 hw140 => ?_)
          refine g_eqs (ws' := [(a_kind, .inl (cI, 6, .inl c_kind)), (a_near, .inl (cI, 6, .inl c_near)), (a_far, .inl (cI, 6, .inl c_far)), (a_free, .inl (cI, 6, .inl c_free)), (a_guard, .inl (cI, 6, .inl c_guard)), (a_, .inr (5, [.int c_seconds, .int c_lead, .int c_ball, .ref a_fouls, .ref a_calls, .int c_rebound, .int c_law, .int c_draw, .int c_players, .ref a_side, .ref a_kind, .ref a_near, .ref a_far, .ref a_free, .int c_letters, .ref a_letter, .int c_at, .ref a_value, .int c_inRow, .ref a_row, .ref a_refusals, .int c_imaged, .ref a_image, .ref a_ahead, .ref a_guard, .ref a_worth])), (a_worth, .inl (cI, 650, .inl c_worth))]) rfl ?_
          have heq := g_let heq hw140
          refine g_i2l X dX5_ofShot_143 ?_
          refine g_lmul X dX5_ofShot_144 ?_
          refine g_ldc2 (v := 10) X (X.2.2.2.2.1 (.constantLong RX5 148 (10)) (List.mem_of_getElem? (i := 10) rfl)) dX5_ofShot_145 ?_
          refine g_aload_n X 5 rfl rfl dX5_ofShot_148 ?_
          refine g_get (C := RX5) (T := TX5) (N := 26) (ci := 5) X hi_X5_ofShot_X5 5 rfl rfl 5 (by decide) (X.2.2.2.2.1 (.fieldLink RX5 62 "NineteenSecondsLeftModel" "rebound" "I") (List.mem_of_getElem? (i := 9) rfl)) rfl rfl dX5_ofShot_149 ?_
          refine g_i2l X dX5_ofShot_152 ?_
          refine g_lsub X dX5_ofShot_153 ?_
          refine g_aload_n X 5 rfl rfl dX5_ofShot_154 ?_
          refine g_iload X 1 rfl dX5_ofShot_155 ?_
          refine g_iload X 9 rfl dX5_ofShot_157 ?_
          refine g_iconst (v := 1) X (by decide) dX5_ofShot_159 ?_
          refine g_iload X 10 rfl dX5_ofShot_160 ?_
          refine g_isub X dX5_ofShot_162 ?_
          refine g_callVi (C := RX5) (T := TX5) (N := 26) (ci := 5) (As := [.int (p3 - r93), .int p4, .int (1 - p5)]) (st := [.long ((10 : Int64) - c_rebound.toInt64), .long (c_rebound.toInt64 * r140.toInt64)]) (wr := [(a_kind, .inl (cI, 6, .inl c_kind)), (a_near, .inl (cI, 6, .inl c_near)), (a_far, .inl (cI, 6, .inl c_far)), (a_free, .inl (cI, 6, .inl c_free)), (a_guard, .inl (cI, 6, .inl c_guard))]) X (k_X5_valueOf l D cI kA kV a_ a_fouls a_calls a_side a_kind a_near a_far a_free a_letter a_value a_row a_refusals a_image a_ahead a_guard a_worth c_seconds c_lead c_ball c_rebound c_law c_draw c_players c_letters c_at c_inRow c_imaged c_worth (p3 - r93) p4 (1 - p5) ⟨(m_secT hs.1 hw93 hw1 c5), hs.2.1, (m_bl1 hs.2.2)⟩) (cwV 3 X.2.2.2.2.1 gX5_ofShot_X5_valueOf rfl rfl rfl (by decide +kernel) ⟨Nat.le_of_ble_eq_true rfl, Nat.le_of_ble_eq_true rfl⟩) 5 rfl rfl [5, 6] [0, 1, 2, 3, 4] rfl rfl rfl rfl (by decide) rfl (Nat.le_of_ble_eq_true rfl) ⟨Nat.le_of_ble_eq_true rfl, Nat.le_of_ble_eq_true rfl⟩ dX5_ofShot_163 rfl (fun r163 u163 hw163 => ?_)
          refine g_eqs (ws' := [(a_kind, .inl (cI, 6, .inl c_kind)), (a_near, .inl (cI, 6, .inl c_near)), (a_far, .inl (cI, 6, .inl c_far)), (a_free, .inl (cI, 6, .inl c_free)), (a_guard, .inl (cI, 6, .inl c_guard)), (a_, .inr (5, [.int c_seconds, .int c_lead, .int c_ball, .ref a_fouls, .ref a_calls, .int c_rebound, .int c_law, .int c_draw, .int c_players, .ref a_side, .ref a_kind, .ref a_near, .ref a_far, .ref a_free, .int c_letters, .ref a_letter, .int c_at, .ref a_value, .int c_inRow, .ref a_row, .ref a_refusals, .int c_imaged, .ref a_image, .ref a_ahead, .ref a_guard, .ref a_worth])), (a_worth, .inl (cI, 650, .inl c_worth))]) rfl ?_
          have heq := g_let heq hw163
          refine g_i2l X dX5_ofShot_166 ?_
          refine g_lmul X dX5_ofShot_167 ?_
          refine g_ladd X dX5_ofShot_168 ?_
          refine g_ldc2 (v := 10) X (X.2.2.2.2.1 (.constantLong RX5 148 (10)) (List.mem_of_getElem? (i := 10) rfl)) dX5_ofShot_169 ?_
          refine g_ldiv X (by decide) dX5_ofShot_172 ?_
          refine g_lstore (lv' := [(12, .long (((c_rebound.toInt64 * r140.toInt64) + (((10 : Int64) - c_rebound.toInt64) * r163.toInt64)) / (10 : Int64))), (10, .long r122.toInt64), (9, .int (p3 - r93)), (8, .int (g_maxf (0 : Int32) (p4 - 2))), (7, .int 2), (6, .int r27), (0, .ref a_), (1, .int p1), (2, .int p2), (3, .int p3), (4, .int p4), (5, .int p5)]) X (by decide) rfl dX5_ofShot_173 ?_
          refine g_iload X 5 rfl dX5_ofShot_175 ?_
          refine g_i2l X dX5_ofShot_177 ?_
          refine g_lload X 1 rfl dX5_ofShot_178 ?_
          refine g_lmul X dX5_ofShot_180 ?_
          refine g_bipush (v := 10) X (by decide) dX5_ofShot_181 ?_
          refine g_iload X 5 rfl dX5_ofShot_183 ?_
          refine g_isub X dX5_ofShot_185 ?_
          refine g_i2l X dX5_ofShot_186 ?_
          refine g_lload X 0 rfl dX5_ofShot_187 ?_
          refine g_lmul X dX5_ofShot_189 ?_
          refine g_ladd X dX5_ofShot_190 ?_
          refine g_ldc2 (v := 10) X (X.2.2.2.2.1 (.constantLong RX5 148 (10)) (List.mem_of_getElem? (i := 10) rfl)) dX5_ofShot_191 ?_
          refine g_ldiv X (by decide) dX5_ofShot_194 ?_
          refine g_l2i X dX5_ofShot_195 ?_
          exact g_iret X hAA hQQ () (heq.symm.trans hXX) [5, 0, 1, 2, 3, 4, 6] rfl rfl hr dX5_ofShot_196
        · have heq := heq.trans (if_pos c105)
          refine g_iload_n X 7 rfl rfl dX5_ofShot_108 ?_
          refine g_iconst (v := 1) X (by decide) dX5_ofShot_109 ?_
          refine g_isub X dX5_ofShot_110 ?_
          refine g_goto (tgt := 116) X (by decide) dX5_ofShot_111 ?_
          refine g_iload X 1 rfl dX5_ofShot_116 ?_
          refine g_iconst (v := 1) X (by decide) dX5_ofShot_118 ?_
          refine g_iload X 9 rfl dX5_ofShot_119 ?_
          refine g_isub X dX5_ofShot_121 ?_
          refine g_callVi (C := RX5) (T := TX5) (N := 26) (ci := 5) (As := [.int (p3 - 1), .int (g_maxf (0 : Int32) (p4 - 2)), .int (1 - p5)]) (st := []) (wr := [(a_kind, .inl (cI, 6, .inl c_kind)), (a_near, .inl (cI, 6, .inl c_near)), (a_far, .inl (cI, 6, .inl c_far)), (a_free, .inl (cI, 6, .inl c_free)), (a_guard, .inl (cI, 6, .inl c_guard))]) X (k_X5_valueOf l D cI kA kV a_ a_fouls a_calls a_side a_kind a_near a_far a_free a_letter a_value a_row a_refusals a_image a_ahead a_guard a_worth c_seconds c_lead c_ball c_rebound c_law c_draw c_players c_letters c_at c_inRow c_imaged c_worth (p3 - 1) (g_maxf (0 : Int32) (p4 - 2)) (1 - p5) ⟨(m_sec1T hs.1 hw1 c5), (m_ldm2 hs.2.1), (m_bl1 hs.2.2)⟩) (cwV 3 X.2.2.2.2.1 gX5_ofShot_X5_valueOf rfl rfl rfl (by decide +kernel) ⟨Nat.le_of_ble_eq_true rfl, Nat.le_of_ble_eq_true rfl⟩) 1 rfl rfl [1, 0] [2, 3, 4, 5, 6] rfl rfl rfl rfl (by decide) rfl (Nat.le_of_ble_eq_true rfl) ⟨Nat.le_of_ble_eq_true rfl, Nat.le_of_ble_eq_true rfl⟩ dX5_ofShot_122 rfl (fun r122 u122 hw122 => ?_)
          refine g_eqs (ws' := [(a_kind, .inl (cI, 6, .inl c_kind)), (a_near, .inl (cI, 6, .inl c_near)), (a_far, .inl (cI, 6, .inl c_far)), (a_free, .inl (cI, 6, .inl c_free)), (a_guard, .inl (cI, 6, .inl c_guard)), (a_, .inr (5, [.int c_seconds, .int c_lead, .int c_ball, .ref a_fouls, .ref a_calls, .int c_rebound, .int c_law, .int c_draw, .int c_players, .ref a_side, .ref a_kind, .ref a_near, .ref a_far, .ref a_free, .int c_letters, .ref a_letter, .int c_at, .ref a_value, .int c_inRow, .ref a_row, .ref a_refusals, .int c_imaged, .ref a_image, .ref a_ahead, .ref a_guard, .ref a_worth])), (a_worth, .inl (cI, 650, .inl c_worth))]) rfl ?_
          have heq := g_let heq hw122
          refine g_i2l X dX5_ofShot_125 ?_
          refine g_lstore (lv' := [(10, .long r122.toInt64), (9, .int (p3 - r93)), (8, .int (g_maxf (0 : Int32) (p4 - 2))), (7, .int 2), (6, .int r27), (0, .ref a_), (1, .int p1), (2, .int p2), (3, .int p3), (4, .int p4), (5, .int p5)]) X (by decide) rfl dX5_ofShot_126 ?_
          refine g_aload_n X 5 rfl rfl dX5_ofShot_128 ?_
          refine g_get (C := RX5) (T := TX5) (N := 26) (ci := 5) X hi_X5_ofShot_X5 5 rfl rfl 5 (by decide) (X.2.2.2.2.1 (.fieldLink RX5 62 "NineteenSecondsLeftModel" "rebound" "I") (List.mem_of_getElem? (i := 9) rfl)) rfl rfl dX5_ofShot_129 ?_
          refine g_i2l X dX5_ofShot_132 ?_
          refine g_aload_n X 5 rfl rfl dX5_ofShot_133 ?_
          refine g_iload X 1 rfl dX5_ofShot_134 ?_
          refine g_iload X 9 rfl dX5_ofShot_136 ?_
          refine g_iload X 10 rfl dX5_ofShot_138 ?_
          refine g_callVi (C := RX5) (T := TX5) (N := 26) (ci := 5) (As := [.int (p3 - r93), .int p4, .int p5]) (st := [.long c_rebound.toInt64]) (wr := [(a_kind, .inl (cI, 6, .inl c_kind)), (a_near, .inl (cI, 6, .inl c_near)), (a_far, .inl (cI, 6, .inl c_far)), (a_free, .inl (cI, 6, .inl c_free)), (a_guard, .inl (cI, 6, .inl c_guard))]) X (k_X5_valueOf l D cI kA kV a_ a_fouls a_calls a_side a_kind a_near a_far a_free a_letter a_value a_row a_refusals a_image a_ahead a_guard a_worth c_seconds c_lead c_ball c_rebound c_law c_draw c_players c_letters c_at c_inRow c_imaged c_worth (p3 - r93) p4 p5 ⟨(m_secT hs.1 hw93 hw1 c5), hs.2.1, hs.2.2⟩) (cwV 3 X.2.2.2.2.1 gX5_ofShot_X5_valueOf rfl rfl rfl (by decide +kernel) ⟨Nat.le_of_ble_eq_true rfl, Nat.le_of_ble_eq_true rfl⟩) 5 rfl rfl [5, 6] [0, 1, 2, 3, 4] rfl rfl rfl rfl (by decide) rfl (Nat.le_of_ble_eq_true rfl) ⟨Nat.le_of_ble_eq_true rfl, Nat.le_of_ble_eq_true rfl⟩ dX5_ofShot_140 rfl (fun r140 u140 hw140 => ?_)
          refine g_eqs (ws' := [(a_kind, .inl (cI, 6, .inl c_kind)), (a_near, .inl (cI, 6, .inl c_near)), (a_far, .inl (cI, 6, .inl c_far)), (a_free, .inl (cI, 6, .inl c_free)), (a_guard, .inl (cI, 6, .inl c_guard)), (a_, .inr (5, [.int c_seconds, .int c_lead, .int c_ball, .ref a_fouls, .ref a_calls, .int c_rebound, .int c_law, .int c_draw, .int c_players, .ref a_side, .ref a_kind, .ref a_near, .ref a_far, .ref a_free, .int c_letters, .ref a_letter, .int c_at, .ref a_value, .int c_inRow, .ref a_row, .ref a_refusals, .int c_imaged, .ref a_image, .ref a_ahead, .ref a_guard, .ref a_worth])), (a_worth, .inl (cI, 650, .inl c_worth))]) rfl ?_
          have heq := g_let heq hw140
          refine g_i2l X dX5_ofShot_143 ?_
          refine g_lmul X dX5_ofShot_144 ?_
          refine g_ldc2 (v := 10) X (X.2.2.2.2.1 (.constantLong RX5 148 (10)) (List.mem_of_getElem? (i := 10) rfl)) dX5_ofShot_145 ?_
          refine g_aload_n X 5 rfl rfl dX5_ofShot_148 ?_
          refine g_get (C := RX5) (T := TX5) (N := 26) (ci := 5) X hi_X5_ofShot_X5 5 rfl rfl 5 (by decide) (X.2.2.2.2.1 (.fieldLink RX5 62 "NineteenSecondsLeftModel" "rebound" "I") (List.mem_of_getElem? (i := 9) rfl)) rfl rfl dX5_ofShot_149 ?_
          refine g_i2l X dX5_ofShot_152 ?_
          refine g_lsub X dX5_ofShot_153 ?_
          refine g_aload_n X 5 rfl rfl dX5_ofShot_154 ?_
          refine g_iload X 1 rfl dX5_ofShot_155 ?_
          refine g_iload X 9 rfl dX5_ofShot_157 ?_
          refine g_iconst (v := 1) X (by decide) dX5_ofShot_159 ?_
          refine g_iload X 10 rfl dX5_ofShot_160 ?_
          refine g_isub X dX5_ofShot_162 ?_
          refine g_callVi (C := RX5) (T := TX5) (N := 26) (ci := 5) (As := [.int (p3 - r93), .int p4, .int (1 - p5)]) (st := [.long ((10 : Int64) - c_rebound.toInt64), .long (c_rebound.toInt64 * r140.toInt64)]) (wr := [(a_kind, .inl (cI, 6, .inl c_kind)), (a_near, .inl (cI, 6, .inl c_near)), (a_far, .inl (cI, 6, .inl c_far)), (a_free, .inl (cI, 6, .inl c_free)), (a_guard, .inl (cI, 6, .inl c_guard))]) X (k_X5_valueOf l D cI kA kV a_ a_fouls a_calls a_side a_kind a_near a_far a_free a_letter a_value a_row a_refusals a_image a_ahead a_guard a_worth c_seconds c_lead c_ball c_rebound c_law c_draw c_players c_letters c_at c_inRow c_imaged c_worth (p3 - r93) p4 (1 - p5) ⟨(m_secT hs.1 hw93 hw1 c5), hs.2.1, (m_bl1 hs.2.2)⟩) (cwV 3 X.2.2.2.2.1 gX5_ofShot_X5_valueOf rfl rfl rfl (by decide +kernel) ⟨Nat.le_of_ble_eq_true rfl, Nat.le_of_ble_eq_true rfl⟩) 5 rfl rfl [5, 6] [0, 1, 2, 3, 4] rfl rfl rfl rfl (by decide) rfl (Nat.le_of_ble_eq_true rfl) ⟨Nat.le_of_ble_eq_true rfl, Nat.le_of_ble_eq_true rfl⟩ dX5_ofShot_163 rfl (fun r163 u163 hw163 => ?_)
          refine g_eqs (ws' := [(a_kind, .inl (cI, 6, .inl c_kind)), (a_near, .inl (cI, 6, .inl c_near)), (a_far, .inl (cI, 6, .inl c_far)), (a_free, .inl (cI, 6, .inl c_free)), (a_guard, .inl (cI, 6, .inl c_guard)), (a_, .inr (5, [.int c_seconds, .int c_lead, .int c_ball, .ref a_fouls, .ref a_calls, .int c_rebound, .int c_law, .int c_draw, .int c_players, .ref a_side, .ref a_kind, .ref a_near, .ref a_far, .ref a_free, .int c_letters, .ref a_letter, .int c_at, .ref a_value, .int c_inRow, .ref a_row, .ref a_refusals, .int c_imaged, .ref a_image, .ref a_ahead, .ref a_guard, .ref a_worth])), (a_worth, .inl (cI, 650, .inl c_worth))]) rfl ?_
          have heq := g_let heq hw163
          refine g_i2l X dX5_ofShot_166 ?_
          refine g_lmul X dX5_ofShot_167 ?_
          refine g_ladd X dX5_ofShot_168 ?_
          refine g_ldc2 (v := 10) X (X.2.2.2.2.1 (.constantLong RX5 148 (10)) (List.mem_of_getElem? (i := 10) rfl)) dX5_ofShot_169 ?_
          refine g_ldiv X (by decide) dX5_ofShot_172 ?_
          refine g_lstore (lv' := [(12, .long (((c_rebound.toInt64 * r140.toInt64) + (((10 : Int64) - c_rebound.toInt64) * r163.toInt64)) / (10 : Int64))), (10, .long r122.toInt64), (9, .int (p3 - r93)), (8, .int (g_maxf (0 : Int32) (p4 - 2))), (7, .int 2), (6, .int r27), (0, .ref a_), (1, .int p1), (2, .int p2), (3, .int p3), (4, .int p4), (5, .int p5)]) X (by decide) rfl dX5_ofShot_173 ?_
          refine g_iload X 5 rfl dX5_ofShot_175 ?_
          refine g_i2l X dX5_ofShot_177 ?_
          refine g_lload X 1 rfl dX5_ofShot_178 ?_
          refine g_lmul X dX5_ofShot_180 ?_
          refine g_bipush (v := 10) X (by decide) dX5_ofShot_181 ?_
          refine g_iload X 5 rfl dX5_ofShot_183 ?_
          refine g_isub X dX5_ofShot_185 ?_
          refine g_i2l X dX5_ofShot_186 ?_
          refine g_lload X 0 rfl dX5_ofShot_187 ?_
          refine g_lmul X dX5_ofShot_189 ?_
          refine g_ladd X dX5_ofShot_190 ?_
          refine g_ldc2 (v := 10) X (X.2.2.2.2.1 (.constantLong RX5 148 (10)) (List.mem_of_getElem? (i := 10) rfl)) dX5_ofShot_191 ?_
          refine g_ldiv X (by decide) dX5_ofShot_194 ?_
          refine g_l2i X dX5_ofShot_195 ?_
          exact g_iret X hAA hQQ () (heq.symm.trans hXX) [5, 0, 1, 2, 3, 4, 6] rfl rfl hr dX5_ofShot_196
      · have heq := heq.trans (if_pos c64)
        refine g_bipush (v := 12) X (by decide) dX5_ofShot_67 ?_
        refine g_iload X 6 rfl dX5_ofShot_69 ?_
        refine g_iload X 0 rfl dX5_ofShot_71 ?_
        refine g_iadd X dX5_ofShot_73 ?_
        refine g_mmin X (X.2.2.2.2.1 (.methodLink RX5 118 Lib.Math.min.name) (List.mem_of_getElem? (i := 2) rfl)) (X.2.2.2.2.1 (.static Lib.Math.min.name) (List.mem_of_getElem? (i := 3) rfl)) (X.2.2.2.2.1 (.initialized "java/lang/Math") (List.mem_of_getElem? (i := 4) rfl)) (X.2.2.2.2.1 (.code Lib.Math.min.name Lib.Math.min.code 2 (some .int)) (List.mem_of_getElem? (i := 5) rfl)) (Nat.le_of_ble_eq_true rfl) (Nat.le_of_ble_eq_true rfl) (Nat.le_of_ble_eq_true rfl) (Nat.le_of_ble_eq_true rfl) dX5_ofShot_74 ?_
        refine g_goto (tgt := 89) X (by decide) dX5_ofShot_77 ?_
        refine g_istore (lv' := [(8, .int (g_minf (12 : Int32) (p4 + 2))), (7, .int 2), (6, .int r27), (0, .ref a_), (1, .int p1), (2, .int p2), (3, .int p3), (4, .int p4), (5, .int p5)]) X (by decide) rfl dX5_ofShot_89 ?_
        refine g_iload_n X 6 rfl rfl dX5_ofShot_91 ?_
        refine g_iload_n X 5 rfl rfl dX5_ofShot_92 ?_
        refine g_callSi (As := [.int p2]) (st := [.int p3]) (wr := [(a_worth, .inl (cI, 650, .inl c_worth)), (a_, .inr (5, [.int c_seconds, .int c_lead, .int c_ball, .ref a_fouls, .ref a_calls, .int c_rebound, .int c_law, .int c_draw, .int c_players, .ref a_side, .ref a_kind, .ref a_near, .ref a_far, .ref a_free, .int c_letters, .ref a_letter, .int c_at, .ref a_value, .int c_inRow, .ref a_row, .ref a_refusals, .int c_imaged, .ref a_image, .ref a_ahead, .ref a_guard, .ref a_worth])), (a_kind, .inl (cI, 6, .inl c_kind)), (a_near, .inl (cI, 6, .inl c_near)), (a_far, .inl (cI, 6, .inl c_far)), (a_free, .inl (cI, 6, .inl c_free)), (a_guard, .inl (cI, 6, .inl c_guard))]) X (k_X5_takes l D cI kA kV p2) (va_cwS 1 X.2.2.2.2.1 gX5_ofShot_X5_takes rfl rfl rfl (by decide +kernel) ⟨Nat.le_of_ble_eq_true rfl, Nat.le_of_ble_eq_true rfl⟩) [] [0, 1, 2, 3, 4, 5, 6] rfl rfl rfl rfl (by decide) rfl (Nat.le_of_ble_eq_true rfl) ⟨Nat.le_of_ble_eq_true rfl, Nat.le_of_ble_eq_true rfl⟩ dX5_ofShot_93 rfl (fun r93 u93 hw93 => ?_)
        refine g_eqs (ws' := [(a_worth, .inl (cI, 650, .inl c_worth)), (a_, .inr (5, [.int c_seconds, .int c_lead, .int c_ball, .ref a_fouls, .ref a_calls, .int c_rebound, .int c_law, .int c_draw, .int c_players, .ref a_side, .ref a_kind, .ref a_near, .ref a_far, .ref a_free, .int c_letters, .ref a_letter, .int c_at, .ref a_value, .int c_inRow, .ref a_row, .ref a_refusals, .int c_imaged, .ref a_image, .ref a_ahead, .ref a_guard, .ref a_worth])), (a_kind, .inl (cI, 6, .inl c_kind)), (a_near, .inl (cI, 6, .inl c_near)), (a_far, .inl (cI, 6, .inl c_far)), (a_free, .inl (cI, 6, .inl c_free)), (a_guard, .inl (cI, 6, .inl c_guard))]) rfl ?_
        have heq := g_let heq hw93
        refine g_isub X dX5_ofShot_96 ?_
        refine g_istore (lv' := [(9, .int (p3 - r93)), (8, .int (g_minf (12 : Int32) (p4 + 2))), (7, .int 2), (6, .int r27), (0, .ref a_), (1, .int p1), (2, .int p2), (3, .int p3), (4, .int p4), (5, .int p5)]) X (by decide) rfl dX5_ofShot_97 ?_
        refine g_aload_n X 4 rfl rfl dX5_ofShot_99 ?_
        refine g_aload_n X 4 rfl rfl dX5_ofShot_100 ?_
        refine g_get (C := RX5) (T := TX5) (N := 26) (ci := 5) X hi_X5_ofShot_X5 1 rfl rfl 6 (by decide) (X.2.2.2.2.1 (.fieldLink RX5 104 "NineteenSecondsLeftModel" "law" "I") (List.mem_of_getElem? (i := 1) rfl)) rfl rfl dX5_ofShot_101 ?_
        refine g_iconst (v := 2) X (by decide) dX5_ofShot_104 ?_
        refine g_icmp_ne X 114 dX5_ofShot_105 (by decide) (fun c105 => ?_) (fun c105 => ?_)
        · have heq := heq.trans (if_neg c105)
          refine g_iload X 0 rfl dX5_ofShot_114 ?_
          refine g_iload X 1 rfl dX5_ofShot_116 ?_
          refine g_iconst (v := 1) X (by decide) dX5_ofShot_118 ?_
          refine g_iload X 9 rfl dX5_ofShot_119 ?_
          refine g_isub X dX5_ofShot_121 ?_
          refine g_callVi (C := RX5) (T := TX5) (N := 26) (ci := 5) (As := [.int (p3 - r93), .int (g_minf (12 : Int32) (p4 + 2)), .int (1 - p5)]) (st := []) (wr := [(a_kind, .inl (cI, 6, .inl c_kind)), (a_near, .inl (cI, 6, .inl c_near)), (a_far, .inl (cI, 6, .inl c_far)), (a_free, .inl (cI, 6, .inl c_free)), (a_guard, .inl (cI, 6, .inl c_guard))]) X (k_X5_valueOf l D cI kA kV a_ a_fouls a_calls a_side a_kind a_near a_far a_free a_letter a_value a_row a_refusals a_image a_ahead a_guard a_worth c_seconds c_lead c_ball c_rebound c_law c_draw c_players c_letters c_at c_inRow c_imaged c_worth (p3 - r93) (g_minf (12 : Int32) (p4 + 2)) (1 - p5) ⟨(m_secT hs.1 hw93 hw1 c5), (m_ldp2 hs.2.1), (m_bl1 hs.2.2)⟩) (cwV 3 X.2.2.2.2.1 gX5_ofShot_X5_valueOf rfl rfl rfl (by decide +kernel) ⟨Nat.le_of_ble_eq_true rfl, Nat.le_of_ble_eq_true rfl⟩) 1 rfl rfl [1, 0] [2, 3, 4, 5, 6] rfl rfl rfl rfl (by decide) rfl (Nat.le_of_ble_eq_true rfl) ⟨Nat.le_of_ble_eq_true rfl, Nat.le_of_ble_eq_true rfl⟩ dX5_ofShot_122 rfl (fun r122 u122 hw122 => ?_)
          refine g_eqs (ws' := [(a_kind, .inl (cI, 6, .inl c_kind)), (a_near, .inl (cI, 6, .inl c_near)), (a_far, .inl (cI, 6, .inl c_far)), (a_free, .inl (cI, 6, .inl c_free)), (a_guard, .inl (cI, 6, .inl c_guard)), (a_, .inr (5, [.int c_seconds, .int c_lead, .int c_ball, .ref a_fouls, .ref a_calls, .int c_rebound, .int c_law, .int c_draw, .int c_players, .ref a_side, .ref a_kind, .ref a_near, .ref a_far, .ref a_free, .int c_letters, .ref a_letter, .int c_at, .ref a_value, .int c_inRow, .ref a_row, .ref a_refusals, .int c_imaged, .ref a_image, .ref a_ahead, .ref a_guard, .ref a_worth])), (a_worth, .inl (cI, 650, .inl c_worth))]) rfl ?_
          have heq := g_let heq hw122
          refine g_i2l X dX5_ofShot_125 ?_
          refine g_lstore (lv' := [(10, .long r122.toInt64), (9, .int (p3 - r93)), (8, .int (g_minf (12 : Int32) (p4 + 2))), (7, .int 2), (6, .int r27), (0, .ref a_), (1, .int p1), (2, .int p2), (3, .int p3), (4, .int p4), (5, .int p5)]) X (by decide) rfl dX5_ofShot_126 ?_
          refine g_aload_n X 5 rfl rfl dX5_ofShot_128 ?_
          refine g_get (C := RX5) (T := TX5) (N := 26) (ci := 5) X hi_X5_ofShot_X5 5 rfl rfl 5 (by decide) (X.2.2.2.2.1 (.fieldLink RX5 62 "NineteenSecondsLeftModel" "rebound" "I") (List.mem_of_getElem? (i := 9) rfl)) rfl rfl dX5_ofShot_129 ?_
          refine g_i2l X dX5_ofShot_132 ?_
          refine g_aload_n X 5 rfl rfl dX5_ofShot_133 ?_
          refine g_iload X 1 rfl dX5_ofShot_134 ?_
          refine g_iload X 9 rfl dX5_ofShot_136 ?_
          refine g_iload X 10 rfl dX5_ofShot_138 ?_
          refine g_callVi (C := RX5) (T := TX5) (N := 26) (ci := 5) (As := [.int (p3 - r93), .int p4, .int p5]) (st := [.long c_rebound.toInt64]) (wr := [(a_kind, .inl (cI, 6, .inl c_kind)), (a_near, .inl (cI, 6, .inl c_near)), (a_far, .inl (cI, 6, .inl c_far)), (a_free, .inl (cI, 6, .inl c_free)), (a_guard, .inl (cI, 6, .inl c_guard))]) X (k_X5_valueOf l D cI kA kV a_ a_fouls a_calls a_side a_kind a_near a_far a_free a_letter a_value a_row a_refusals a_image a_ahead a_guard a_worth c_seconds c_lead c_ball c_rebound c_law c_draw c_players c_letters c_at c_inRow c_imaged c_worth (p3 - r93) p4 p5 ⟨(m_secT hs.1 hw93 hw1 c5), hs.2.1, hs.2.2⟩) (cwV 3 X.2.2.2.2.1 gX5_ofShot_X5_valueOf rfl rfl rfl (by decide +kernel) ⟨Nat.le_of_ble_eq_true rfl, Nat.le_of_ble_eq_true rfl⟩) 5 rfl rfl [5, 6] [0, 1, 2, 3, 4] rfl rfl rfl rfl (by decide) rfl (Nat.le_of_ble_eq_true rfl) ⟨Nat.le_of_ble_eq_true rfl, Nat.le_of_ble_eq_true rfl⟩ dX5_ofShot_140 rfl (fun r140 u140 hw140 => ?_)
          refine g_eqs (ws' := [(a_kind, .inl (cI, 6, .inl c_kind)), (a_near, .inl (cI, 6, .inl c_near)), (a_far, .inl (cI, 6, .inl c_far)), (a_free, .inl (cI, 6, .inl c_free)), (a_guard, .inl (cI, 6, .inl c_guard)), (a_, .inr (5, [.int c_seconds, .int c_lead, .int c_ball, .ref a_fouls, .ref a_calls, .int c_rebound, .int c_law, .int c_draw, .int c_players, .ref a_side, .ref a_kind, .ref a_near, .ref a_far, .ref a_free, .int c_letters, .ref a_letter, .int c_at, .ref a_value, .int c_inRow, .ref a_row, .ref a_refusals, .int c_imaged, .ref a_image, .ref a_ahead, .ref a_guard, .ref a_worth])), (a_worth, .inl (cI, 650, .inl c_worth))]) rfl ?_
          have heq := g_let heq hw140
          refine g_i2l X dX5_ofShot_143 ?_
          refine g_lmul X dX5_ofShot_144 ?_
          refine g_ldc2 (v := 10) X (X.2.2.2.2.1 (.constantLong RX5 148 (10)) (List.mem_of_getElem? (i := 10) rfl)) dX5_ofShot_145 ?_
          refine g_aload_n X 5 rfl rfl dX5_ofShot_148 ?_
          refine g_get (C := RX5) (T := TX5) (N := 26) (ci := 5) X hi_X5_ofShot_X5 5 rfl rfl 5 (by decide) (X.2.2.2.2.1 (.fieldLink RX5 62 "NineteenSecondsLeftModel" "rebound" "I") (List.mem_of_getElem? (i := 9) rfl)) rfl rfl dX5_ofShot_149 ?_
          refine g_i2l X dX5_ofShot_152 ?_
          refine g_lsub X dX5_ofShot_153 ?_
          refine g_aload_n X 5 rfl rfl dX5_ofShot_154 ?_
          refine g_iload X 1 rfl dX5_ofShot_155 ?_
          refine g_iload X 9 rfl dX5_ofShot_157 ?_
          refine g_iconst (v := 1) X (by decide) dX5_ofShot_159 ?_
          refine g_iload X 10 rfl dX5_ofShot_160 ?_
          refine g_isub X dX5_ofShot_162 ?_
          refine g_callVi (C := RX5) (T := TX5) (N := 26) (ci := 5) (As := [.int (p3 - r93), .int p4, .int (1 - p5)]) (st := [.long ((10 : Int64) - c_rebound.toInt64), .long (c_rebound.toInt64 * r140.toInt64)]) (wr := [(a_kind, .inl (cI, 6, .inl c_kind)), (a_near, .inl (cI, 6, .inl c_near)), (a_far, .inl (cI, 6, .inl c_far)), (a_free, .inl (cI, 6, .inl c_free)), (a_guard, .inl (cI, 6, .inl c_guard))]) X (k_X5_valueOf l D cI kA kV a_ a_fouls a_calls a_side a_kind a_near a_far a_free a_letter a_value a_row a_refusals a_image a_ahead a_guard a_worth c_seconds c_lead c_ball c_rebound c_law c_draw c_players c_letters c_at c_inRow c_imaged c_worth (p3 - r93) p4 (1 - p5) ⟨(m_secT hs.1 hw93 hw1 c5), hs.2.1, (m_bl1 hs.2.2)⟩) (cwV 3 X.2.2.2.2.1 gX5_ofShot_X5_valueOf rfl rfl rfl (by decide +kernel) ⟨Nat.le_of_ble_eq_true rfl, Nat.le_of_ble_eq_true rfl⟩) 5 rfl rfl [5, 6] [0, 1, 2, 3, 4] rfl rfl rfl rfl (by decide) rfl (Nat.le_of_ble_eq_true rfl) ⟨Nat.le_of_ble_eq_true rfl, Nat.le_of_ble_eq_true rfl⟩ dX5_ofShot_163 rfl (fun r163 u163 hw163 => ?_)
          refine g_eqs (ws' := [(a_kind, .inl (cI, 6, .inl c_kind)), (a_near, .inl (cI, 6, .inl c_near)), (a_far, .inl (cI, 6, .inl c_far)), (a_free, .inl (cI, 6, .inl c_free)), (a_guard, .inl (cI, 6, .inl c_guard)), (a_, .inr (5, [.int c_seconds, .int c_lead, .int c_ball, .ref a_fouls, .ref a_calls, .int c_rebound, .int c_law, .int c_draw, .int c_players, .ref a_side, .ref a_kind, .ref a_near, .ref a_far, .ref a_free, .int c_letters, .ref a_letter, .int c_at, .ref a_value, .int c_inRow, .ref a_row, .ref a_refusals, .int c_imaged, .ref a_image, .ref a_ahead, .ref a_guard, .ref a_worth])), (a_worth, .inl (cI, 650, .inl c_worth))]) rfl ?_
          have heq := g_let heq hw163
          refine g_i2l X dX5_ofShot_166 ?_
          refine g_lmul X dX5_ofShot_167 ?_
          refine g_ladd X dX5_ofShot_168 ?_
          refine g_ldc2 (v := 10) X (X.2.2.2.2.1 (.constantLong RX5 148 (10)) (List.mem_of_getElem? (i := 10) rfl)) dX5_ofShot_169 ?_
          refine g_ldiv X (by decide) dX5_ofShot_172 ?_
          refine g_lstore (lv' := [(12, .long (((c_rebound.toInt64 * r140.toInt64) + (((10 : Int64) - c_rebound.toInt64) * r163.toInt64)) / (10 : Int64))), (10, .long r122.toInt64), (9, .int (p3 - r93)), (8, .int (g_minf (12 : Int32) (p4 + 2))), (7, .int 2), (6, .int r27), (0, .ref a_), (1, .int p1), (2, .int p2), (3, .int p3), (4, .int p4), (5, .int p5)]) X (by decide) rfl dX5_ofShot_173 ?_
          refine g_iload X 5 rfl dX5_ofShot_175 ?_
          refine g_i2l X dX5_ofShot_177 ?_
          refine g_lload X 1 rfl dX5_ofShot_178 ?_
          refine g_lmul X dX5_ofShot_180 ?_
          refine g_bipush (v := 10) X (by decide) dX5_ofShot_181 ?_
          refine g_iload X 5 rfl dX5_ofShot_183 ?_
          refine g_isub X dX5_ofShot_185 ?_
          refine g_i2l X dX5_ofShot_186 ?_
          refine g_lload X 0 rfl dX5_ofShot_187 ?_
          refine g_lmul X dX5_ofShot_189 ?_
          refine g_ladd X dX5_ofShot_190 ?_
          refine g_ldc2 (v := 10) X (X.2.2.2.2.1 (.constantLong RX5 148 (10)) (List.mem_of_getElem? (i := 10) rfl)) dX5_ofShot_191 ?_
          refine g_ldiv X (by decide) dX5_ofShot_194 ?_
          refine g_l2i X dX5_ofShot_195 ?_
          exact g_iret X hAA hQQ () (heq.symm.trans hXX) [5, 0, 1, 2, 3, 4, 6] rfl rfl hr dX5_ofShot_196
        · have heq := heq.trans (if_pos c105)
          refine g_iload_n X 7 rfl rfl dX5_ofShot_108 ?_
          refine g_iconst (v := 1) X (by decide) dX5_ofShot_109 ?_
          refine g_isub X dX5_ofShot_110 ?_
          refine g_goto (tgt := 116) X (by decide) dX5_ofShot_111 ?_
          refine g_iload X 1 rfl dX5_ofShot_116 ?_
          refine g_iconst (v := 1) X (by decide) dX5_ofShot_118 ?_
          refine g_iload X 9 rfl dX5_ofShot_119 ?_
          refine g_isub X dX5_ofShot_121 ?_
          refine g_callVi (C := RX5) (T := TX5) (N := 26) (ci := 5) (As := [.int (p3 - 1), .int (g_minf (12 : Int32) (p4 + 2)), .int (1 - p5)]) (st := []) (wr := [(a_kind, .inl (cI, 6, .inl c_kind)), (a_near, .inl (cI, 6, .inl c_near)), (a_far, .inl (cI, 6, .inl c_far)), (a_free, .inl (cI, 6, .inl c_free)), (a_guard, .inl (cI, 6, .inl c_guard))]) X (k_X5_valueOf l D cI kA kV a_ a_fouls a_calls a_side a_kind a_near a_far a_free a_letter a_value a_row a_refusals a_image a_ahead a_guard a_worth c_seconds c_lead c_ball c_rebound c_law c_draw c_players c_letters c_at c_inRow c_imaged c_worth (p3 - 1) (g_minf (12 : Int32) (p4 + 2)) (1 - p5) ⟨(m_sec1T hs.1 hw1 c5), (m_ldp2 hs.2.1), (m_bl1 hs.2.2)⟩) (cwV 3 X.2.2.2.2.1 gX5_ofShot_X5_valueOf rfl rfl rfl (by decide +kernel) ⟨Nat.le_of_ble_eq_true rfl, Nat.le_of_ble_eq_true rfl⟩) 1 rfl rfl [1, 0] [2, 3, 4, 5, 6] rfl rfl rfl rfl (by decide) rfl (Nat.le_of_ble_eq_true rfl) ⟨Nat.le_of_ble_eq_true rfl, Nat.le_of_ble_eq_true rfl⟩ dX5_ofShot_122 rfl (fun r122 u122 hw122 => ?_)
          refine g_eqs (ws' := [(a_kind, .inl (cI, 6, .inl c_kind)), (a_near, .inl (cI, 6, .inl c_near)), (a_far, .inl (cI, 6, .inl c_far)), (a_free, .inl (cI, 6, .inl c_free)), (a_guard, .inl (cI, 6, .inl c_guard)), (a_, .inr (5, [.int c_seconds, .int c_lead, .int c_ball, .ref a_fouls, .ref a_calls, .int c_rebound, .int c_law, .int c_draw, .int c_players, .ref a_side, .ref a_kind, .ref a_near, .ref a_far, .ref a_free, .int c_letters, .ref a_letter, .int c_at, .ref a_value, .int c_inRow, .ref a_row, .ref a_refusals, .int c_imaged, .ref a_image, .ref a_ahead, .ref a_guard, .ref a_worth])), (a_worth, .inl (cI, 650, .inl c_worth))]) rfl ?_
          have heq := g_let heq hw122
          refine g_i2l X dX5_ofShot_125 ?_
          refine g_lstore (lv' := [(10, .long r122.toInt64), (9, .int (p3 - r93)), (8, .int (g_minf (12 : Int32) (p4 + 2))), (7, .int 2), (6, .int r27), (0, .ref a_), (1, .int p1), (2, .int p2), (3, .int p3), (4, .int p4), (5, .int p5)]) X (by decide) rfl dX5_ofShot_126 ?_
          refine g_aload_n X 5 rfl rfl dX5_ofShot_128 ?_
          refine g_get (C := RX5) (T := TX5) (N := 26) (ci := 5) X hi_X5_ofShot_X5 5 rfl rfl 5 (by decide) (X.2.2.2.2.1 (.fieldLink RX5 62 "NineteenSecondsLeftModel" "rebound" "I") (List.mem_of_getElem? (i := 9) rfl)) rfl rfl dX5_ofShot_129 ?_
          refine g_i2l X dX5_ofShot_132 ?_
          refine g_aload_n X 5 rfl rfl dX5_ofShot_133 ?_
          refine g_iload X 1 rfl dX5_ofShot_134 ?_
          refine g_iload X 9 rfl dX5_ofShot_136 ?_
          refine g_iload X 10 rfl dX5_ofShot_138 ?_
          refine g_callVi (C := RX5) (T := TX5) (N := 26) (ci := 5) (As := [.int (p3 - r93), .int p4, .int p5]) (st := [.long c_rebound.toInt64]) (wr := [(a_kind, .inl (cI, 6, .inl c_kind)), (a_near, .inl (cI, 6, .inl c_near)), (a_far, .inl (cI, 6, .inl c_far)), (a_free, .inl (cI, 6, .inl c_free)), (a_guard, .inl (cI, 6, .inl c_guard))]) X (k_X5_valueOf l D cI kA kV a_ a_fouls a_calls a_side a_kind a_near a_far a_free a_letter a_value a_row a_refusals a_image a_ahead a_guard a_worth c_seconds c_lead c_ball c_rebound c_law c_draw c_players c_letters c_at c_inRow c_imaged c_worth (p3 - r93) p4 p5 ⟨(m_secT hs.1 hw93 hw1 c5), hs.2.1, hs.2.2⟩) (cwV 3 X.2.2.2.2.1 gX5_ofShot_X5_valueOf rfl rfl rfl (by decide +kernel) ⟨Nat.le_of_ble_eq_true rfl, Nat.le_of_ble_eq_true rfl⟩) 5 rfl rfl [5, 6] [0, 1, 2, 3, 4] rfl rfl rfl rfl (by decide) rfl (Nat.le_of_ble_eq_true rfl) ⟨Nat.le_of_ble_eq_true rfl, Nat.le_of_ble_eq_true rfl⟩ dX5_ofShot_140 rfl (fun r140 u140 hw140 => ?_)
          refine g_eqs (ws' := [(a_kind, .inl (cI, 6, .inl c_kind)), (a_near, .inl (cI, 6, .inl c_near)), (a_far, .inl (cI, 6, .inl c_far)), (a_free, .inl (cI, 6, .inl c_free)), (a_guard, .inl (cI, 6, .inl c_guard)), (a_, .inr (5, [.int c_seconds, .int c_lead, .int c_ball, .ref a_fouls, .ref a_calls, .int c_rebound, .int c_law, .int c_draw, .int c_players, .ref a_side, .ref a_kind, .ref a_near, .ref a_far, .ref a_free, .int c_letters, .ref a_letter, .int c_at, .ref a_value, .int c_inRow, .ref a_row, .ref a_refusals, .int c_imaged, .ref a_image, .ref a_ahead, .ref a_guard, .ref a_worth])), (a_worth, .inl (cI, 650, .inl c_worth))]) rfl ?_
          have heq := g_let heq hw140
          refine g_i2l X dX5_ofShot_143 ?_
          refine g_lmul X dX5_ofShot_144 ?_
          refine g_ldc2 (v := 10) X (X.2.2.2.2.1 (.constantLong RX5 148 (10)) (List.mem_of_getElem? (i := 10) rfl)) dX5_ofShot_145 ?_
          refine g_aload_n X 5 rfl rfl dX5_ofShot_148 ?_
          refine g_get (C := RX5) (T := TX5) (N := 26) (ci := 5) X hi_X5_ofShot_X5 5 rfl rfl 5 (by decide) (X.2.2.2.2.1 (.fieldLink RX5 62 "NineteenSecondsLeftModel" "rebound" "I") (List.mem_of_getElem? (i := 9) rfl)) rfl rfl dX5_ofShot_149 ?_
          refine g_i2l X dX5_ofShot_152 ?_
          refine g_lsub X dX5_ofShot_153 ?_
          refine g_aload_n X 5 rfl rfl dX5_ofShot_154 ?_
          refine g_iload X 1 rfl dX5_ofShot_155 ?_
          refine g_iload X 9 rfl dX5_ofShot_157 ?_
          refine g_iconst (v := 1) X (by decide) dX5_ofShot_159 ?_
          refine g_iload X 10 rfl dX5_ofShot_160 ?_
          refine g_isub X dX5_ofShot_162 ?_
          refine g_callVi (C := RX5) (T := TX5) (N := 26) (ci := 5) (As := [.int (p3 - r93), .int p4, .int (1 - p5)]) (st := [.long ((10 : Int64) - c_rebound.toInt64), .long (c_rebound.toInt64 * r140.toInt64)]) (wr := [(a_kind, .inl (cI, 6, .inl c_kind)), (a_near, .inl (cI, 6, .inl c_near)), (a_far, .inl (cI, 6, .inl c_far)), (a_free, .inl (cI, 6, .inl c_free)), (a_guard, .inl (cI, 6, .inl c_guard))]) X (k_X5_valueOf l D cI kA kV a_ a_fouls a_calls a_side a_kind a_near a_far a_free a_letter a_value a_row a_refusals a_image a_ahead a_guard a_worth c_seconds c_lead c_ball c_rebound c_law c_draw c_players c_letters c_at c_inRow c_imaged c_worth (p3 - r93) p4 (1 - p5) ⟨(m_secT hs.1 hw93 hw1 c5), hs.2.1, (m_bl1 hs.2.2)⟩) (cwV 3 X.2.2.2.2.1 gX5_ofShot_X5_valueOf rfl rfl rfl (by decide +kernel) ⟨Nat.le_of_ble_eq_true rfl, Nat.le_of_ble_eq_true rfl⟩) 5 rfl rfl [5, 6] [0, 1, 2, 3, 4] rfl rfl rfl rfl (by decide) rfl (Nat.le_of_ble_eq_true rfl) ⟨Nat.le_of_ble_eq_true rfl, Nat.le_of_ble_eq_true rfl⟩ dX5_ofShot_163 rfl (fun r163 u163 hw163 => ?_)
          refine g_eqs (ws' := [(a_kind, .inl (cI, 6, .inl c_kind)), (a_near, .inl (cI, 6, .inl c_near)), (a_far, .inl (cI, 6, .inl c_far)), (a_free, .inl (cI, 6, .inl c_free)), (a_guard, .inl (cI, 6, .inl c_guard)), (a_, .inr (5, [.int c_seconds, .int c_lead, .int c_ball, .ref a_fouls, .ref a_calls, .int c_rebound, .int c_law, .int c_draw, .int c_players, .ref a_side, .ref a_kind, .ref a_near, .ref a_far, .ref a_free, .int c_letters, .ref a_letter, .int c_at, .ref a_value, .int c_inRow, .ref a_row, .ref a_refusals, .int c_imaged, .ref a_image, .ref a_ahead, .ref a_guard, .ref a_worth])), (a_worth, .inl (cI, 650, .inl c_worth))]) rfl ?_
          have heq := g_let heq hw163
          refine g_i2l X dX5_ofShot_166 ?_
          refine g_lmul X dX5_ofShot_167 ?_
          refine g_ladd X dX5_ofShot_168 ?_
          refine g_ldc2 (v := 10) X (X.2.2.2.2.1 (.constantLong RX5 148 (10)) (List.mem_of_getElem? (i := 10) rfl)) dX5_ofShot_169 ?_
          refine g_ldiv X (by decide) dX5_ofShot_172 ?_
          refine g_lstore (lv' := [(12, .long (((c_rebound.toInt64 * r140.toInt64) + (((10 : Int64) - c_rebound.toInt64) * r163.toInt64)) / (10 : Int64))), (10, .long r122.toInt64), (9, .int (p3 - r93)), (8, .int (g_minf (12 : Int32) (p4 + 2))), (7, .int 2), (6, .int r27), (0, .ref a_), (1, .int p1), (2, .int p2), (3, .int p3), (4, .int p4), (5, .int p5)]) X (by decide) rfl dX5_ofShot_173 ?_
          refine g_iload X 5 rfl dX5_ofShot_175 ?_
          refine g_i2l X dX5_ofShot_177 ?_
          refine g_lload X 1 rfl dX5_ofShot_178 ?_
          refine g_lmul X dX5_ofShot_180 ?_
          refine g_bipush (v := 10) X (by decide) dX5_ofShot_181 ?_
          refine g_iload X 5 rfl dX5_ofShot_183 ?_
          refine g_isub X dX5_ofShot_185 ?_
          refine g_i2l X dX5_ofShot_186 ?_
          refine g_lload X 0 rfl dX5_ofShot_187 ?_
          refine g_lmul X dX5_ofShot_189 ?_
          refine g_ladd X dX5_ofShot_190 ?_
          refine g_ldc2 (v := 10) X (X.2.2.2.2.1 (.constantLong RX5 148 (10)) (List.mem_of_getElem? (i := 10) rfl)) dX5_ofShot_191 ?_
          refine g_ldiv X (by decide) dX5_ofShot_194 ?_
          refine g_l2i X dX5_ofShot_195 ?_
          exact g_iret X hAA hQQ () (heq.symm.trans hXX) [5, 0, 1, 2, 3, 4, 6] rfl rfl hr dX5_ofShot_196
  · have heq := heq.trans (if_neg c5)
    refine g_aload_n X 0 rfl rfl dX5_ofShot_8 ?_
    refine g_iload X 4 rfl dX5_ofShot_9 ?_
    refine g_callVi (C := RX5) (T := TX5) (N := 26) (ci := 5) (As := [.int p4]) (st := []) (wr := [(a_kind, .inl (cI, 6, .inl c_kind)), (a_near, .inl (cI, 6, .inl c_near)), (a_far, .inl (cI, 6, .inl c_far)), (a_free, .inl (cI, 6, .inl c_free)), (a_guard, .inl (cI, 6, .inl c_guard)), (a_worth, .inl (cI, 650, .inl c_worth))]) X (k_X5_atEnd l D cI kA kV a_ a_fouls a_calls a_side a_kind a_near a_far a_free a_letter a_value a_row a_refusals a_image a_ahead a_guard a_worth c_seconds c_lead c_ball c_rebound c_law c_draw c_players c_letters c_at c_inRow c_imaged p4) (cwV 1 X.2.2.2.2.1 gX5_ofShot_X5_atEnd rfl rfl rfl (by decide +kernel) ⟨Nat.le_of_ble_eq_true rfl, Nat.le_of_ble_eq_true rfl⟩) 0 rfl rfl [0] [1, 2, 3, 4, 5, 6] rfl rfl rfl rfl (by decide) rfl (Nat.le_of_ble_eq_true rfl) ⟨Nat.le_of_ble_eq_true rfl, Nat.le_of_ble_eq_true rfl⟩ dX5_ofShot_11 rfl (fun r11 u11 hw11 => ?_)
    refine g_eqs (ws' := [(a_kind, .inl (cI, 6, .inl c_kind)), (a_near, .inl (cI, 6, .inl c_near)), (a_far, .inl (cI, 6, .inl c_far)), (a_free, .inl (cI, 6, .inl c_free)), (a_guard, .inl (cI, 6, .inl c_guard)), (a_worth, .inl (cI, 650, .inl c_worth)), (a_, .inr (5, [.int c_seconds, .int c_lead, .int c_ball, .ref a_fouls, .ref a_calls, .int c_rebound, .int c_law, .int c_draw, .int c_players, .ref a_side, .ref a_kind, .ref a_near, .ref a_far, .ref a_free, .int c_letters, .ref a_letter, .int c_at, .ref a_value, .int c_inRow, .ref a_row, .ref a_refusals, .int c_imaged, .ref a_image, .ref a_ahead, .ref a_guard, .ref a_worth]))]) rfl ?_
    have heq := g_let heq hw11
    exact g_iret X hAA hQQ () (heq.symm.trans hXX) [6, 0, 1, 2, 3, 4, 5] rfl rfl hr dX5_ofShot_14

def f_X5_ofHold (c_draw : Int32) (c_worth : Nat → Int32) (p1 : Int32) (p2 : Int32) (p3 : Int32) : Int32 :=
  (if 5 ≤ p1 then g_lt (f_X5_valueOf c_worth (p1 - 5) p2 p3) (fun r19 => r19) else g_lt (f_X5_atEnd c_draw p2) (fun r7 => r7))
set_option maxHeartbeats 4000000 in
set_option maxRecDepth 100000 in
theorem k_X5_ofHold (l : Launch) (D : va_G) (cI : ClassId) (kA kV : Nat → Nat) (a_ a_fouls a_calls a_side a_kind a_near a_far a_free a_letter a_value a_row a_refusals a_image a_ahead a_guard a_worth : Nat) (c_seconds : Int32) (c_lead : Int32) (c_ball : Int32) (c_rebound : Int32) (c_law : Int32) (c_draw : Int32) (c_players : Int32) (c_letters : Int32) (c_at : Int32) (c_inRow : Int32) (c_imaged : Int32) (c_worth : Nat → Int32) (p1 : Int32) (p2 : Int32) (p3 : Int32) (hs : m_S p1 p2 p3) :
    g_MI l D cI kA kV yX5_ofHold wsX5_ofHold { frames := 1, cells := 0, slots := 0, locals := 23 } [.ref a_, .int p1, .int p2, .int p3] [(a_, .inr (5, [.int c_seconds, .int c_lead, .int c_ball, .ref a_fouls, .ref a_calls, .int c_rebound, .int c_law, .int c_draw, .int c_players, .ref a_side, .ref a_kind, .ref a_near, .ref a_far, .ref a_free, .int c_letters, .ref a_letter, .int c_at, .ref a_value, .int c_inRow, .ref a_row, .ref a_refusals, .int c_imaged, .ref a_image, .ref a_ahead, .ref a_guard, .ref a_worth])), (a_worth, .inl (cI, 650, .inl c_worth))] (fun u : Unit => [(a_, .inr (5, [.int c_seconds, .int c_lead, .int c_ball, .ref a_fouls, .ref a_calls, .int c_rebound, .int c_law, .int c_draw, .int c_players, .ref a_side, .ref a_kind, .ref a_near, .ref a_far, .ref a_free, .int c_letters, .ref a_letter, .int c_at, .ref a_value, .int c_inRow, .ref a_row, .ref a_refusals, .int c_imaged, .ref a_image, .ref a_ahead, .ref a_guard, .ref a_worth])), (a_worth, .inl (cI, 650, .inl c_worth))]) (fun (r : Int32) (u : Unit) => r = f_X5_ofHold c_draw c_worth p1 p2 p3) := by
  obtain ⟨XX, hXX⟩ : ∃ z, z = f_X5_ofHold c_draw c_worth p1 p2 p3 := ⟨_, rfl⟩
  have heq := hXX.trans (f_X5_ofHold.eq_def c_draw c_worth p1 p2 p3)
  refine g_startI (lv := [(0, .ref a_), (1, .int p1), (2, .int p2), (3, .int p3)]) RX5 rfl rfl rfl (Nat.le_of_ble_eq_true rfl) rfl (fun p e s m args below meth c AA QQ hAA hQQ X hr hmn => ?_)
  refine g_iload_n X 1 rfl rfl dX5_ofHold_0 ?_
  refine g_iconst (v := 5) X (by decide) dX5_ofHold_1 ?_
  refine g_icmp_ge X 13 dX5_ofHold_2 (by decide) (fun c2 => ?_) (fun c2 => ?_)
  · have heq := heq.trans (if_pos c2)
    refine g_aload_n X 0 rfl rfl dX5_ofHold_13 ?_
    refine g_iload_n X 1 rfl rfl dX5_ofHold_14 ?_
    refine g_iconst (v := 5) X (by decide) dX5_ofHold_15 ?_
    refine g_isub X dX5_ofHold_16 ?_
    refine g_iload_n X 2 rfl rfl dX5_ofHold_17 ?_
    refine g_iload_n X 3 rfl rfl dX5_ofHold_18 ?_
    refine g_callVi (C := RX5) (T := TX5) (N := 26) (ci := 5) (As := [.int (p1 - 5), .int p2, .int p3]) (st := []) (wr := ([] : va_W)) X (k_X5_valueOf l D cI kA kV a_ a_fouls a_calls a_side a_kind a_near a_far a_free a_letter a_value a_row a_refusals a_image a_ahead a_guard a_worth c_seconds c_lead c_ball c_rebound c_law c_draw c_players c_letters c_at c_inRow c_imaged c_worth (p1 - 5) p2 p3 ⟨(m_sec5' hs.1 c2), hs.2.1, hs.2.2⟩) (cwV 3 X.2.2.2.2.1 gX5_ofHold_X5_valueOf rfl rfl rfl (by decide +kernel) ⟨Nat.le_of_ble_eq_true rfl, Nat.le_of_ble_eq_true rfl⟩) 0 rfl rfl [0, 1] [] rfl rfl rfl rfl (by decide) rfl (Nat.le_of_ble_eq_true rfl) ⟨Nat.le_of_ble_eq_true rfl, Nat.le_of_ble_eq_true rfl⟩ dX5_ofHold_19 rfl (fun r19 u19 hw19 => ?_)
    have heq := g_let heq hw19
    exact g_iret X hAA hQQ () (heq.symm.trans hXX) [0, 1] rfl rfl hr dX5_ofHold_22
  · have heq := heq.trans (if_neg c2)
    refine g_aload_n X 0 rfl rfl dX5_ofHold_5 ?_
    refine g_iload_n X 2 rfl rfl dX5_ofHold_6 ?_
    refine g_callVi (C := RX5) (T := TX5) (N := 26) (ci := 5) (As := [.int p2]) (st := []) (wr := [(a_worth, .inl (cI, 650, .inl c_worth))]) X (k_X5_atEnd l D cI kA kV a_ a_fouls a_calls a_side a_kind a_near a_far a_free a_letter a_value a_row a_refusals a_image a_ahead a_guard a_worth c_seconds c_lead c_ball c_rebound c_law c_draw c_players c_letters c_at c_inRow c_imaged p2) (cwV 1 X.2.2.2.2.1 gX5_ofHold_X5_atEnd rfl rfl rfl (by decide +kernel) ⟨Nat.le_of_ble_eq_true rfl, Nat.le_of_ble_eq_true rfl⟩) 0 rfl rfl [0] [1] rfl rfl rfl rfl (by decide) rfl (Nat.le_of_ble_eq_true rfl) ⟨Nat.le_of_ble_eq_true rfl, Nat.le_of_ble_eq_true rfl⟩ dX5_ofHold_7 rfl (fun r7 u7 hw7 => ?_)
    refine g_eqs (ws' := [(a_worth, .inl (cI, 650, .inl c_worth)), (a_, .inr (5, [.int c_seconds, .int c_lead, .int c_ball, .ref a_fouls, .ref a_calls, .int c_rebound, .int c_law, .int c_draw, .int c_players, .ref a_side, .ref a_kind, .ref a_near, .ref a_far, .ref a_free, .int c_letters, .ref a_letter, .int c_at, .ref a_value, .int c_inRow, .ref a_row, .ref a_refusals, .int c_imaged, .ref a_image, .ref a_ahead, .ref a_guard, .ref a_worth]))]) rfl ?_
    have heq := g_let heq hw7
    refine g_goto (tgt := 22) X (by decide) dX5_ofHold_10 ?_
    exact g_iret X hAA hQQ () (heq.symm.trans hXX) [1, 0] rfl rfl hr dX5_ofHold_22

theorem hi_X5_plays_X5 : ∀ w ∈ wsX50, w ∈ wsX5_plays := fun w h => List.mem_cons_of_mem _ (List.mem_append_right _ (h))
def f_X5_plays (c_side : Nat → Int32) (c_guard : Nat → Int32) (p1 : Int32) (p2 : Int32) : Int32 :=
  (if c_side p1.toNatClampNeg = p2 then (if c_guard p1.toNatClampNeg = 3 then 0 else 1) else 0)
set_option maxHeartbeats 4000000 in
set_option maxRecDepth 100000 in
theorem k_X5_plays (l : Launch) (D : va_G) (cI : ClassId) (kA kV : Nat → Nat) (a_ a_fouls a_calls a_side a_kind a_near a_far a_free a_letter a_value a_row a_refusals a_image a_ahead a_guard a_worth : Nat) (c_seconds : Int32) (c_lead : Int32) (c_ball : Int32) (c_rebound : Int32) (c_law : Int32) (c_draw : Int32) (c_players : Int32) (c_letters : Int32) (c_at : Int32) (c_inRow : Int32) (c_imaged : Int32) (c_side : Nat → Int32) (c_guard : Nat → Int32) (p1 : Int32) (p2 : Int32) (hi : m_I p1) :
    g_MI l D cI kA kV yX5_plays wsX5_plays { frames := 0, cells := 0, slots := 0, locals := 0 } [.ref a_, .int p1, .int p2] [(a_, .inr (5, [.int c_seconds, .int c_lead, .int c_ball, .ref a_fouls, .ref a_calls, .int c_rebound, .int c_law, .int c_draw, .int c_players, .ref a_side, .ref a_kind, .ref a_near, .ref a_far, .ref a_free, .int c_letters, .ref a_letter, .int c_at, .ref a_value, .int c_inRow, .ref a_row, .ref a_refusals, .int c_imaged, .ref a_image, .ref a_ahead, .ref a_guard, .ref a_worth])), (a_side, .inl (cI, 6, .inl c_side)), (a_guard, .inl (cI, 6, .inl c_guard))] (fun u : Unit => [(a_, .inr (5, [.int c_seconds, .int c_lead, .int c_ball, .ref a_fouls, .ref a_calls, .int c_rebound, .int c_law, .int c_draw, .int c_players, .ref a_side, .ref a_kind, .ref a_near, .ref a_far, .ref a_free, .int c_letters, .ref a_letter, .int c_at, .ref a_value, .int c_inRow, .ref a_row, .ref a_refusals, .int c_imaged, .ref a_image, .ref a_ahead, .ref a_guard, .ref a_worth])), (a_side, .inl (cI, 6, .inl c_side)), (a_guard, .inl (cI, 6, .inl c_guard))]) (fun (r : Int32) (u : Unit) => r = f_X5_plays c_side c_guard p1 p2) := by
  obtain ⟨XX, hXX⟩ : ∃ z, z = f_X5_plays c_side c_guard p1 p2 := ⟨_, rfl⟩
  have heq := hXX.trans (f_X5_plays.eq_def c_side c_guard p1 p2)
  refine g_startI (lv := [(0, .ref a_), (1, .int p1), (2, .int p2)]) RX5 rfl rfl rfl (Nat.le_of_ble_eq_true rfl) rfl (fun p e s m args below meth c AA QQ hAA hQQ X hr hmn => ?_)
  refine g_aload_n X 0 rfl rfl dX5_plays_0 ?_
  refine g_get (C := RX5) (T := TX5) (N := 26) (ci := 5) X hi_X5_plays_X5 0 rfl rfl 9 (by decide) (X.2.2.2.2.1 (.fieldLink RX5 16 "NineteenSecondsLeftModel" "side" "[I") (List.mem_of_getElem? (i := 1) rfl)) rfl rfl dX5_plays_1 ?_
  refine g_iload_n X 1 rfl rfl dX5_plays_4 ?_
  refine g_iald X 1 rfl hi.vin dX5_plays_5 ?_
  refine g_iload_n X 2 rfl rfl dX5_plays_6 ?_
  refine g_icmp_ne X 24 dX5_plays_7 (by decide) (fun c7 => ?_) (fun c7 => ?_)
  · have heq := heq.trans (if_neg c7)
    refine g_iconst (v := 0) X (by decide) dX5_plays_24 ?_
    exact g_zret X hAA hQQ () (heq.symm.trans hXX) [0, 1, 2] rfl rfl hr rfl dX5_plays_25
  · have heq := heq.trans (if_pos c7)
    refine g_aload_n X 0 rfl rfl dX5_plays_10 ?_
    refine g_get (C := RX5) (T := TX5) (N := 26) (ci := 5) X hi_X5_plays_X5 0 rfl rfl 24 (by decide) (X.2.2.2.2.1 (.fieldLink RX5 49 "NineteenSecondsLeftModel" "guard" "[I") (List.mem_of_getElem? (i := 2) rfl)) rfl rfl dX5_plays_11 ?_
    refine g_iload_n X 1 rfl rfl dX5_plays_14 ?_
    refine g_iald X 2 rfl hi.vin dX5_plays_15 ?_
    refine g_iconst (v := 3) X (by decide) dX5_plays_16 ?_
    refine g_icmp_eq X 24 dX5_plays_17 (by decide) (fun c17 => ?_) (fun c17 => ?_)
    · have heq := heq.trans (if_pos c17)
      refine g_iconst (v := 0) X (by decide) dX5_plays_24 ?_
      exact g_zret X hAA hQQ () (heq.symm.trans hXX) [0, 1, 2] rfl rfl hr rfl dX5_plays_25
    · have heq := heq.trans (if_neg c17)
      refine g_iconst (v := 1) X (by decide) dX5_plays_20 ?_
      refine g_goto (tgt := 25) X (by decide) dX5_plays_21 ?_
      exact g_zret X hAA hQQ () (heq.symm.trans hXX) [0, 1, 2] rfl rfl hr rfl dX5_plays_25

theorem hi_X5_choice_X5 : ∀ w ∈ wsX50, w ∈ wsX5_choice := fun w h => List.mem_cons_of_mem _ (List.mem_append_right _ (h))
def L_X5_choice_34 (v1 : Int32) (v2 : Int32) (v3 : Int32) (v6 : Int32) (c_rebound : Int32) (c_law : Int32) (c_draw : Int32) (c_players : Int32) (c_side : Nat → Int32) (c_kind : Nat → Int32) (c_near : Nat → Int32) (c_far : Nat → Int32) (c_free : Nat → Int32) (c_guard : Nat → Int32) (c_worth : Nat → Int32) (K : (Int32) → (Int32) → (Int32) → Int32) : Nat → (Int32) → (Int32) → (Int32) → Int32
  | 0, v4_34, v5_34, v7_34 => K v4_34 v5_34 v7_34
  | n + 1, v4_34, v5_34, v7_34 => (if 3 ≤ v7_34 then K v4_34 v5_34 v7_34 else g_lt (f_X5_ofShot c_rebound c_law c_draw c_kind c_near c_far c_free c_guard c_worth v6 v7_34 v1 v2 v3) (fun r48 => (if v4_34 < 0 then L_X5_choice_34 v1 v2 v3 v6 c_rebound c_law c_draw c_players c_side c_kind c_near c_far c_free c_guard c_worth K n ((10 * v6) + v7_34) r48 (v7_34 + 1) else (if v3 = 0 then (if v5_34 < r48 then L_X5_choice_34 v1 v2 v3 v6 c_rebound c_law c_draw c_players c_side c_kind c_near c_far c_free c_guard c_worth K n ((10 * v6) + v7_34) r48 (v7_34 + 1) else L_X5_choice_34 v1 v2 v3 v6 c_rebound c_law c_draw c_players c_side c_kind c_near c_far c_free c_guard c_worth K n v4_34 v5_34 (v7_34 + 1)) else (if r48 < v5_34 then L_X5_choice_34 v1 v2 v3 v6 c_rebound c_law c_draw c_players c_side c_kind c_near c_far c_free c_guard c_worth K n ((10 * v6) + v7_34) r48 (v7_34 + 1) else L_X5_choice_34 v1 v2 v3 v6 c_rebound c_law c_draw c_players c_side c_kind c_near c_far c_free c_guard c_worth K n v4_34 v5_34 (v7_34 + 1))))))
def L_X5_choice_9 (v1 : Int32) (v2 : Int32) (v3 : Int32) (c_rebound : Int32) (c_law : Int32) (c_draw : Int32) (c_players : Int32) (c_side : Nat → Int32) (c_kind : Nat → Int32) (c_near : Nat → Int32) (c_far : Nat → Int32) (c_free : Nat → Int32) (c_guard : Nat → Int32) (c_worth : Nat → Int32) (K : (Int32) → (Int32) → (Int32) → Int32) : Nat → (Int32) → (Int32) → (Int32) → Int32
  | 0, v4_9, v5_9, v6_9 => K v4_9 v5_9 v6_9
  | n + 1, v4_9, v5_9, v6_9 => (if c_players ≤ v6_9 then K v4_9 v5_9 v6_9 else g_lt (f_X5_plays c_side c_guard v6_9 v3) (fun r22 => (if r22 = 0 then L_X5_choice_9 v1 v2 v3 c_rebound c_law c_draw c_players c_side c_kind c_near c_far c_free c_guard c_worth K n v4_9 v5_9 (v6_9 + 1) else L_X5_choice_34 v1 v2 v3 v6_9 c_rebound c_law c_draw c_players c_side c_kind c_near c_far c_free c_guard c_worth (fun v4_34 v5_34 v7_34 => L_X5_choice_9 v1 v2 v3 c_rebound c_law c_draw c_players c_side c_kind c_near c_far c_free c_guard c_worth K n v4_34 v5_34 (v6_9 + 1)) (((3 : Int32).toInt - (0 : Int32).toInt).toNat + 1) v4_9 v5_9 0)))
def f_X5_choice (c_rebound : Int32) (c_law : Int32) (c_draw : Int32) (c_players : Int32) (c_side : Nat → Int32) (c_kind : Nat → Int32) (c_near : Nat → Int32) (c_far : Nat → Int32) (c_free : Nat → Int32) (c_guard : Nat → Int32) (c_worth : Nat → Int32) (p1 : Int32) (p2 : Int32) (p3 : Int32) : Int32 :=
  L_X5_choice_9 p1 p2 p3 c_rebound c_law c_draw c_players c_side c_kind c_near c_far c_free c_guard c_worth (fun v4_9 v5_9 v6_9 => g_lt (f_X5_ofHold c_draw c_worth p1 p2 p3) (fun r112 => (if v4_9 < 0 then 93 else (if p3 = 0 then (if r112 ≤ v5_9 then v4_9 else 93) else (if v5_9 ≤ r112 then v4_9 else 93))))) (((c_players : Int32).toInt - (0 : Int32).toInt).toNat + 1) (-1) 0 0
set_option maxHeartbeats 4000000 in
set_option maxRecDepth 100000 in
theorem k_X5_choice (l : Launch) (D : va_G) (cI : ClassId) (kA kV : Nat → Nat) (a_ a_fouls a_calls a_side a_kind a_near a_far a_free a_letter a_value a_row a_refusals a_image a_ahead a_guard a_worth : Nat) (c_seconds : Int32) (c_lead : Int32) (c_ball : Int32) (c_rebound : Int32) (c_law : Int32) (c_draw : Int32) (c_players : Int32) (c_letters : Int32) (c_at : Int32) (c_inRow : Int32) (c_imaged : Int32) (c_side : Nat → Int32) (c_kind : Nat → Int32) (c_near : Nat → Int32) (c_far : Nat → Int32) (c_free : Nat → Int32) (c_guard : Nat → Int32) (c_worth : Nat → Int32) (p1 : Int32) (p2 : Int32) (p3 : Int32) (hp : m_P c_players) (hs : m_S p1 p2 p3) :
    g_MI l D cI kA kV yX5_choice wsX5_choice { frames := 4, cells := 0, slots := 0, locals := 98 } [.ref a_, .int p1, .int p2, .int p3] [(a_, .inr (5, [.int c_seconds, .int c_lead, .int c_ball, .ref a_fouls, .ref a_calls, .int c_rebound, .int c_law, .int c_draw, .int c_players, .ref a_side, .ref a_kind, .ref a_near, .ref a_far, .ref a_free, .int c_letters, .ref a_letter, .int c_at, .ref a_value, .int c_inRow, .ref a_row, .ref a_refusals, .int c_imaged, .ref a_image, .ref a_ahead, .ref a_guard, .ref a_worth])), (a_side, .inl (cI, 6, .inl c_side)), (a_kind, .inl (cI, 6, .inl c_kind)), (a_near, .inl (cI, 6, .inl c_near)), (a_far, .inl (cI, 6, .inl c_far)), (a_free, .inl (cI, 6, .inl c_free)), (a_guard, .inl (cI, 6, .inl c_guard)), (a_worth, .inl (cI, 650, .inl c_worth))] (fun u : Unit => [(a_, .inr (5, [.int c_seconds, .int c_lead, .int c_ball, .ref a_fouls, .ref a_calls, .int c_rebound, .int c_law, .int c_draw, .int c_players, .ref a_side, .ref a_kind, .ref a_near, .ref a_far, .ref a_free, .int c_letters, .ref a_letter, .int c_at, .ref a_value, .int c_inRow, .ref a_row, .ref a_refusals, .int c_imaged, .ref a_image, .ref a_ahead, .ref a_guard, .ref a_worth])), (a_side, .inl (cI, 6, .inl c_side)), (a_kind, .inl (cI, 6, .inl c_kind)), (a_near, .inl (cI, 6, .inl c_near)), (a_far, .inl (cI, 6, .inl c_far)), (a_free, .inl (cI, 6, .inl c_free)), (a_guard, .inl (cI, 6, .inl c_guard)), (a_worth, .inl (cI, 650, .inl c_worth))]) (fun (r : Int32) (u : Unit) => r = f_X5_choice c_rebound c_law c_draw c_players c_side c_kind c_near c_far c_free c_guard c_worth p1 p2 p3) := by
  obtain ⟨XX, hXX⟩ : ∃ z, z = f_X5_choice c_rebound c_law c_draw c_players c_side c_kind c_near c_far c_free c_guard c_worth p1 p2 p3 := ⟨_, rfl⟩
  have heq := hXX.trans (f_X5_choice.eq_def c_rebound c_law c_draw c_players c_side c_kind c_near c_far c_free c_guard c_worth p1 p2 p3)
  refine g_startI (lv := [(0, .ref a_), (1, .int p1), (2, .int p2), (3, .int p3)]) RX5 rfl rfl rfl (Nat.le_of_ble_eq_true rfl) rfl (fun p e s m args below meth c AA QQ hAA hQQ X hr hmn => ?_)
  refine g_iconst (v := (-1)) X (by decide) dX5_choice_0 ?_
  refine g_istore (lv' := [(4, .int (-1)), (0, .ref a_), (1, .int p1), (2, .int p2), (3, .int p3)]) X (by decide) rfl dX5_choice_1 ?_
  refine g_iconst (v := 0) X (by decide) dX5_choice_3 ?_
  refine g_istore (lv' := [(5, .int 0), (4, .int (-1)), (0, .ref a_), (1, .int p1), (2, .int p2), (3, .int p3)]) X (by decide) rfl dX5_choice_4 ?_
  refine g_iconst (v := 0) X (by decide) dX5_choice_6 ?_
  refine g_istore (lv' := [(6, .int 0), (5, .int 0), (4, .int (-1)), (0, .ref a_), (1, .int p1), (2, .int p2), (3, .int p3)]) X (by decide) rfl dX5_choice_7 ?_
  have lp9 : ∀ (K : (Int32) → (Int32) → (Int32) → Int32), (∀ (v4_9 : Int32) (v5_9 : Int32) (v6_9 : Int32), XX = K v4_9 v5_9 v6_9 → GG p l e { frames := 4, cells := 0, slots := 0, locals := 98 } s m args below meth c D AA 0 0 QQ 9 [(a_, .inr (5, [.int c_seconds, .int c_lead, .int c_ball, .ref a_fouls, .ref a_calls, .int c_rebound, .int c_law, .int c_draw, .int c_players, .ref a_side, .ref a_kind, .ref a_near, .ref a_far, .ref a_free, .int c_letters, .ref a_letter, .int c_at, .ref a_value, .int c_inRow, .ref a_row, .ref a_refusals, .int c_imaged, .ref a_image, .ref a_ahead, .ref a_guard, .ref a_worth])), (a_side, .inl (cI, 6, .inl c_side)), (a_kind, .inl (cI, 6, .inl c_kind)), (a_near, .inl (cI, 6, .inl c_near)), (a_far, .inl (cI, 6, .inl c_far)), (a_free, .inl (cI, 6, .inl c_free)), (a_guard, .inl (cI, 6, .inl c_guard)), (a_worth, .inl (cI, 650, .inl c_worth))] [(6, .int v6_9), (5, .int v5_9), (4, .int v4_9), (0, .ref a_), (1, .int p1), (2, .int p2), (3, .int p3)] 108 []) → ∀ (n : Nat) (v4_9 : Int32) (v5_9 : Int32) (v6_9 : Int32), ((c_players : Int32).toInt - (v6_9 : Int32).toInt).toNat < n → 0 ≤ v6_9 → XX = L_X5_choice_9 p1 p2 p3 c_rebound c_law c_draw c_players c_side c_kind c_near c_far c_free c_guard c_worth K n v4_9 v5_9 v6_9 → GG p l e { frames := 4, cells := 0, slots := 0, locals := 98 } s m args below meth c D AA 0 0 QQ 9 [(a_, .inr (5, [.int c_seconds, .int c_lead, .int c_ball, .ref a_fouls, .ref a_calls, .int c_rebound, .int c_law, .int c_draw, .int c_players, .ref a_side, .ref a_kind, .ref a_near, .ref a_far, .ref a_free, .int c_letters, .ref a_letter, .int c_at, .ref a_value, .int c_inRow, .ref a_row, .ref a_refusals, .int c_imaged, .ref a_image, .ref a_ahead, .ref a_guard, .ref a_worth])), (a_side, .inl (cI, 6, .inl c_side)), (a_kind, .inl (cI, 6, .inl c_kind)), (a_near, .inl (cI, 6, .inl c_near)), (a_far, .inl (cI, 6, .inl c_far)), (a_free, .inl (cI, 6, .inl c_free)), (a_guard, .inl (cI, 6, .inl c_guard)), (a_worth, .inl (cI, 650, .inl c_worth))] [(6, .int v6_9), (5, .int v5_9), (4, .int v4_9), (0, .ref a_), (1, .int p1), (2, .int p2), (3, .int p3)] 9 [] := by
    intro K hK n
    induction n with
    | zero => intro v4_9 v5_9 v6_9 hm9; exact absurd hm9 (Nat.not_lt_zero _)
    | succ n ih9 =>
      intro v4_9 v5_9 v6_9 hm9 hv9_0 heq
      have heq := heq.trans (L_X5_choice_9.eq_2 _ _ _ _ _ _ _ _ _ _ _ _ _ _ _ _ _ _ _ )
      refine g_iload X 0 rfl dX5_choice_9 ?_
      refine g_aload_n X 3 rfl rfl dX5_choice_11 ?_
      refine g_get (C := RX5) (T := TX5) (N := 26) (ci := 5) X hi_X5_choice_X5 0 rfl rfl 8 (by decide) (X.2.2.2.2.1 (.fieldLink RX5 73 "NineteenSecondsLeftModel" "players" "I") (List.mem_of_getElem? (i := 1) rfl)) rfl rfl dX5_choice_12 ?_
      refine g_icmp_ge X 108 dX5_choice_15 (by decide) (fun c15 => ?_) (fun c15 => ?_)
      · have heq := heq.trans (if_pos c15)
        exact hK v4_9 v5_9 v6_9 heq
      · have heq := heq.trans (if_neg c15)
        refine g_aload_n X 3 rfl rfl dX5_choice_18 ?_
        refine g_iload X 0 rfl dX5_choice_19 ?_
        refine g_iload_n X 6 rfl rfl dX5_choice_21 ?_
        refine g_callVi (C := RX5) (T := TX5) (N := 26) (ci := 5) (As := [.int v6_9, .int p3]) (st := []) (wr := [(a_kind, .inl (cI, 6, .inl c_kind)), (a_near, .inl (cI, 6, .inl c_near)), (a_far, .inl (cI, 6, .inl c_far)), (a_free, .inl (cI, 6, .inl c_free)), (a_worth, .inl (cI, 650, .inl c_worth))]) X (k_X5_plays l D cI kA kV a_ a_fouls a_calls a_side a_kind a_near a_far a_free a_letter a_value a_row a_refusals a_image a_ahead a_guard a_worth c_seconds c_lead c_ball c_rebound c_law c_draw c_players c_letters c_at c_inRow c_imaged c_side c_guard v6_9 p3 (m_iP hv9_0 c15 hp)) (cwV 2 X.2.2.2.2.1 gX5_choice_X5_plays rfl rfl rfl (by decide +kernel) ⟨Nat.le_of_ble_eq_true rfl, Nat.le_of_ble_eq_true rfl⟩) 0 rfl rfl [0, 1, 6] [2, 3, 4, 5, 7] rfl rfl rfl rfl (by decide) rfl (Nat.le_of_ble_eq_true rfl) ⟨Nat.le_of_ble_eq_true rfl, Nat.le_of_ble_eq_true rfl⟩ dX5_choice_22 rfl (fun r22 u22 hw22 => ?_)
        refine g_eqs (ws' := [(a_kind, .inl (cI, 6, .inl c_kind)), (a_near, .inl (cI, 6, .inl c_near)), (a_far, .inl (cI, 6, .inl c_far)), (a_free, .inl (cI, 6, .inl c_free)), (a_worth, .inl (cI, 650, .inl c_worth)), (a_, .inr (5, [.int c_seconds, .int c_lead, .int c_ball, .ref a_fouls, .ref a_calls, .int c_rebound, .int c_law, .int c_draw, .int c_players, .ref a_side, .ref a_kind, .ref a_near, .ref a_far, .ref a_free, .int c_letters, .ref a_letter, .int c_at, .ref a_value, .int c_inRow, .ref a_row, .ref a_refusals, .int c_imaged, .ref a_image, .ref a_ahead, .ref a_guard, .ref a_worth])), (a_side, .inl (cI, 6, .inl c_side)), (a_guard, .inl (cI, 6, .inl c_guard))]) rfl ?_
        have heq := g_let heq hw22
        refine g_if_ne X 31 dX5_choice_25 (by decide) (fun c25 => ?_) (fun c25 => ?_)
        · have heq := heq.trans (if_neg c25)
          refine g_iconst (v := 0) X (by decide) dX5_choice_31 ?_
          refine g_istore (lv' := [(7, .int 0), (6, .int v6_9), (5, .int v5_9), (4, .int v4_9), (0, .ref a_), (1, .int p1), (2, .int p2), (3, .int p3)]) X (by decide) rfl dX5_choice_32 ?_
          have lp34 : ∀ (K : (Int32) → (Int32) → (Int32) → Int32), (∀ (v4_34 : Int32) (v5_34 : Int32) (v7_34 : Int32), XX = K v4_34 v5_34 v7_34 → GG p l e { frames := 4, cells := 0, slots := 0, locals := 98 } s m args below meth c D AA 0 0 QQ 9 [(a_kind, .inl (cI, 6, .inl c_kind)), (a_near, .inl (cI, 6, .inl c_near)), (a_far, .inl (cI, 6, .inl c_far)), (a_free, .inl (cI, 6, .inl c_free)), (a_worth, .inl (cI, 650, .inl c_worth)), (a_, .inr (5, [.int c_seconds, .int c_lead, .int c_ball, .ref a_fouls, .ref a_calls, .int c_rebound, .int c_law, .int c_draw, .int c_players, .ref a_side, .ref a_kind, .ref a_near, .ref a_far, .ref a_free, .int c_letters, .ref a_letter, .int c_at, .ref a_value, .int c_inRow, .ref a_row, .ref a_refusals, .int c_imaged, .ref a_image, .ref a_ahead, .ref a_guard, .ref a_worth])), (a_side, .inl (cI, 6, .inl c_side)), (a_guard, .inl (cI, 6, .inl c_guard))] [(7, .int v7_34), (6, .int v6_9), (5, .int v5_34), (4, .int v4_34), (0, .ref a_), (1, .int p1), (2, .int p2), (3, .int p3)] 102 []) → ∀ (n : Nat) (v4_34 : Int32) (v5_34 : Int32) (v7_34 : Int32), ((3 : Int32).toInt - (v7_34 : Int32).toInt).toNat < n → 0 ≤ v7_34 → XX = L_X5_choice_34 p1 p2 p3 v6_9 c_rebound c_law c_draw c_players c_side c_kind c_near c_far c_free c_guard c_worth K n v4_34 v5_34 v7_34 → GG p l e { frames := 4, cells := 0, slots := 0, locals := 98 } s m args below meth c D AA 0 0 QQ 9 [(a_kind, .inl (cI, 6, .inl c_kind)), (a_near, .inl (cI, 6, .inl c_near)), (a_far, .inl (cI, 6, .inl c_far)), (a_free, .inl (cI, 6, .inl c_free)), (a_worth, .inl (cI, 650, .inl c_worth)), (a_, .inr (5, [.int c_seconds, .int c_lead, .int c_ball, .ref a_fouls, .ref a_calls, .int c_rebound, .int c_law, .int c_draw, .int c_players, .ref a_side, .ref a_kind, .ref a_near, .ref a_far, .ref a_free, .int c_letters, .ref a_letter, .int c_at, .ref a_value, .int c_inRow, .ref a_row, .ref a_refusals, .int c_imaged, .ref a_image, .ref a_ahead, .ref a_guard, .ref a_worth])), (a_side, .inl (cI, 6, .inl c_side)), (a_guard, .inl (cI, 6, .inl c_guard))] [(7, .int v7_34), (6, .int v6_9), (5, .int v5_34), (4, .int v4_34), (0, .ref a_), (1, .int p1), (2, .int p2), (3, .int p3)] 34 [] := by
            intro K hK n
            induction n with
            | zero => intro v4_34 v5_34 v7_34 hm34; exact absurd hm34 (Nat.not_lt_zero _)
            | succ n ih34 =>
              intro v4_34 v5_34 v7_34 hm34 hv34_0 heq
              have heq := heq.trans (L_X5_choice_34.eq_2 _ _ _ _ _ _ _ _ _ _ _ _ _ _ _ _ _ _ _ _ )
              refine g_iload X 0 rfl dX5_choice_34 ?_
              refine g_iconst (v := 3) X (by decide) dX5_choice_36 ?_
              refine g_icmp_ge X 102 dX5_choice_37 (by decide) (fun c37 => ?_) (fun c37 => ?_)
              · have heq := heq.trans (if_pos c37)
                exact hK v4_34 v5_34 v7_34 heq
              · have heq := heq.trans (if_neg c37)
                refine g_aload_n X 4 rfl rfl dX5_choice_40 ?_
                refine g_iload X 1 rfl dX5_choice_41 ?_
                refine g_iload X 0 rfl dX5_choice_43 ?_
                refine g_iload_n X 5 rfl rfl dX5_choice_45 ?_
                refine g_iload_n X 6 rfl rfl dX5_choice_46 ?_
                refine g_iload_n X 7 rfl rfl dX5_choice_47 ?_
                refine g_callVi (C := RX5) (T := TX5) (N := 26) (ci := 5) (As := [.int v6_9, .int v7_34, .int p1, .int p2, .int p3]) (st := []) (wr := [(a_side, .inl (cI, 6, .inl c_side))]) X (k_X5_ofShot l D cI kA kV a_ a_fouls a_calls a_side a_kind a_near a_far a_free a_letter a_value a_row a_refusals a_image a_ahead a_guard a_worth c_seconds c_lead c_ball c_rebound c_law c_draw c_players c_letters c_at c_inRow c_imaged c_kind c_near c_far c_free c_guard c_worth v6_9 v7_34 p1 p2 p3 (m_iP hv9_0 c15 hp) ⟨hs.1, hs.2.1, hs.2.2⟩) (cwV 5 X.2.2.2.2.1 gX5_choice_X5_ofShot rfl rfl rfl (by decide +kernel) ⟨Nat.le_of_ble_eq_true rfl, Nat.le_of_ble_eq_true rfl⟩) 5 rfl rfl [5, 0, 1, 2, 3, 7, 4] [6] rfl rfl rfl rfl (by decide) rfl (Nat.le_of_ble_eq_true rfl) ⟨Nat.le_of_ble_eq_true rfl, Nat.le_of_ble_eq_true rfl⟩ dX5_choice_48 rfl (fun r48 u48 hw48 => ?_)
                refine g_eqs (ws' := [(a_side, .inl (cI, 6, .inl c_side)), (a_, .inr (5, [.int c_seconds, .int c_lead, .int c_ball, .ref a_fouls, .ref a_calls, .int c_rebound, .int c_law, .int c_draw, .int c_players, .ref a_side, .ref a_kind, .ref a_near, .ref a_far, .ref a_free, .int c_letters, .ref a_letter, .int c_at, .ref a_value, .int c_inRow, .ref a_row, .ref a_refusals, .int c_imaged, .ref a_image, .ref a_ahead, .ref a_guard, .ref a_worth])), (a_kind, .inl (cI, 6, .inl c_kind)), (a_near, .inl (cI, 6, .inl c_near)), (a_far, .inl (cI, 6, .inl c_far)), (a_free, .inl (cI, 6, .inl c_free)), (a_guard, .inl (cI, 6, .inl c_guard)), (a_worth, .inl (cI, 650, .inl c_worth))]) rfl ?_
                have heq := g_let heq hw48
                refine g_istore (lv' := [(8, .int r48), (7, .int v7_34), (6, .int v6_9), (5, .int v5_34), (4, .int v4_34), (0, .ref a_), (1, .int p1), (2, .int p2), (3, .int p3)]) X (by decide) rfl dX5_choice_51 ?_
                refine g_iload X 4 rfl dX5_choice_53 ?_
                refine g_if_lt X 82 dX5_choice_55 (by decide) (fun c55 => ?_) (fun c55 => ?_)
                · have heq := heq.trans (if_pos c55)
                  refine g_bipush (v := 10) X (by decide) dX5_choice_82 ?_
                  refine g_iload X 2 rfl dX5_choice_84 ?_
                  refine g_imul X dX5_choice_86 ?_
                  refine g_iload X 1 rfl dX5_choice_87 ?_
                  refine g_iadd X dX5_choice_89 ?_
                  refine g_istore (lv' := [(4, .int ((10 * v6_9) + v7_34)), (8, .int r48), (7, .int v7_34), (6, .int v6_9), (5, .int v5_34), (0, .ref a_), (1, .int p1), (2, .int p2), (3, .int p3)]) X (by decide) rfl dX5_choice_90 ?_
                  refine g_iload X 1 rfl dX5_choice_92 ?_
                  refine g_istore (lv' := [(5, .int r48), (4, .int ((10 * v6_9) + v7_34)), (8, .int r48), (7, .int v7_34), (6, .int v6_9), (0, .ref a_), (1, .int p1), (2, .int p2), (3, .int p3)]) X (by decide) rfl dX5_choice_94 ?_
                  refine g_iinc (v := v7_34 + 1) (lv' := [(7, .int (v7_34 + 1)), (5, .int r48), (4, .int ((10 * v6_9) + v7_34)), (8, .int r48), (6, .int v6_9), (0, .ref a_), (1, .int p1), (2, .int p2), (3, .int p3)]) X 3 rfl rfl (by decide) rfl dX5_choice_96 ?_
                  refine g_goto (tgt := 34) X (by decide) dX5_choice_99 ?_
                  refine g_lpick (lv' := [(7, .int (v7_34 + 1)), (6, .int v6_9), (5, .int r48), (4, .int ((10 * v6_9) + v7_34)), (0, .ref a_), (1, .int p1), (2, .int p2), (3, .int p3)]) [0, 4, 1, 2, 5, 6, 7, 8] rfl ?_
                  refine g_wsub (ws' := [(a_kind, .inl (cI, 6, .inl c_kind)), (a_near, .inl (cI, 6, .inl c_near)), (a_far, .inl (cI, 6, .inl c_far)), (a_free, .inl (cI, 6, .inl c_free)), (a_worth, .inl (cI, 650, .inl c_worth)), (a_, .inr (5, [.int c_seconds, .int c_lead, .int c_ball, .ref a_fouls, .ref a_calls, .int c_rebound, .int c_law, .int c_draw, .int c_players, .ref a_side, .ref a_kind, .ref a_near, .ref a_far, .ref a_free, .int c_letters, .ref a_letter, .int c_at, .ref a_value, .int c_inRow, .ref a_row, .ref a_refusals, .int c_imaged, .ref a_image, .ref a_ahead, .ref a_guard, .ref a_worth])), (a_side, .inl (cI, 6, .inl c_side)), (a_guard, .inl (cI, 6, .inl c_guard))]) [2, 3, 4, 5, 7, 1, 0, 6] rfl rfl ?_
                  exact ih34 ((10 * v6_9) + v7_34) r48 (v7_34 + 1) (g_upm c37 hm34) (g_up0 hv34_0 c37) heq
                · have heq := heq.trans (if_neg c55)
                  refine g_iload_n X 8 rfl rfl dX5_choice_58 ?_
                  refine g_if_ne X 72 dX5_choice_59 (by decide) (fun c59 => ?_) (fun c59 => ?_)
                  · have heq := heq.trans (if_neg c59)
                    refine g_iload X 0 rfl dX5_choice_72 ?_
                    refine g_iload X 3 rfl dX5_choice_74 ?_
                    refine g_icmp_lt X 82 dX5_choice_76 (by decide) (fun c76 => ?_) (fun c76 => ?_)
                    · have heq := heq.trans (if_pos c76)
                      refine g_bipush (v := 10) X (by decide) dX5_choice_82 ?_
                      refine g_iload X 2 rfl dX5_choice_84 ?_
                      refine g_imul X dX5_choice_86 ?_
                      refine g_iload X 1 rfl dX5_choice_87 ?_
                      refine g_iadd X dX5_choice_89 ?_
                      refine g_istore (lv' := [(4, .int ((10 * v6_9) + v7_34)), (8, .int r48), (7, .int v7_34), (6, .int v6_9), (5, .int v5_34), (0, .ref a_), (1, .int p1), (2, .int p2), (3, .int p3)]) X (by decide) rfl dX5_choice_90 ?_
                      refine g_iload X 1 rfl dX5_choice_92 ?_
                      refine g_istore (lv' := [(5, .int r48), (4, .int ((10 * v6_9) + v7_34)), (8, .int r48), (7, .int v7_34), (6, .int v6_9), (0, .ref a_), (1, .int p1), (2, .int p2), (3, .int p3)]) X (by decide) rfl dX5_choice_94 ?_
                      refine g_iinc (v := v7_34 + 1) (lv' := [(7, .int (v7_34 + 1)), (5, .int r48), (4, .int ((10 * v6_9) + v7_34)), (8, .int r48), (6, .int v6_9), (0, .ref a_), (1, .int p1), (2, .int p2), (3, .int p3)]) X 3 rfl rfl (by decide) rfl dX5_choice_96 ?_
                      refine g_goto (tgt := 34) X (by decide) dX5_choice_99 ?_
                      refine g_lpick (lv' := [(7, .int (v7_34 + 1)), (6, .int v6_9), (5, .int r48), (4, .int ((10 * v6_9) + v7_34)), (0, .ref a_), (1, .int p1), (2, .int p2), (3, .int p3)]) [0, 4, 1, 2, 5, 6, 7, 8] rfl ?_
                      refine g_wsub (ws' := [(a_kind, .inl (cI, 6, .inl c_kind)), (a_near, .inl (cI, 6, .inl c_near)), (a_far, .inl (cI, 6, .inl c_far)), (a_free, .inl (cI, 6, .inl c_free)), (a_worth, .inl (cI, 650, .inl c_worth)), (a_, .inr (5, [.int c_seconds, .int c_lead, .int c_ball, .ref a_fouls, .ref a_calls, .int c_rebound, .int c_law, .int c_draw, .int c_players, .ref a_side, .ref a_kind, .ref a_near, .ref a_far, .ref a_free, .int c_letters, .ref a_letter, .int c_at, .ref a_value, .int c_inRow, .ref a_row, .ref a_refusals, .int c_imaged, .ref a_image, .ref a_ahead, .ref a_guard, .ref a_worth])), (a_side, .inl (cI, 6, .inl c_side)), (a_guard, .inl (cI, 6, .inl c_guard))]) [2, 3, 4, 5, 7, 1, 0, 6] rfl rfl ?_
                      exact ih34 ((10 * v6_9) + v7_34) r48 (v7_34 + 1) (g_upm c37 hm34) (g_up0 hv34_0 c37) heq
                    · have heq := heq.trans (if_neg c76)
                      refine g_goto (tgt := 96) X (by decide) dX5_choice_79 ?_
                      refine g_iinc (v := v7_34 + 1) (lv' := [(7, .int (v7_34 + 1)), (8, .int r48), (6, .int v6_9), (5, .int v5_34), (4, .int v4_34), (0, .ref a_), (1, .int p1), (2, .int p2), (3, .int p3)]) X 1 rfl rfl (by decide) rfl dX5_choice_96 ?_
                      refine g_goto (tgt := 34) X (by decide) dX5_choice_99 ?_
                      refine g_lpick (lv' := [(7, .int (v7_34 + 1)), (6, .int v6_9), (5, .int v5_34), (4, .int v4_34), (0, .ref a_), (1, .int p1), (2, .int p2), (3, .int p3)]) [0, 2, 3, 4, 5, 6, 7, 8] rfl ?_
                      refine g_wsub (ws' := [(a_kind, .inl (cI, 6, .inl c_kind)), (a_near, .inl (cI, 6, .inl c_near)), (a_far, .inl (cI, 6, .inl c_far)), (a_free, .inl (cI, 6, .inl c_free)), (a_worth, .inl (cI, 650, .inl c_worth)), (a_, .inr (5, [.int c_seconds, .int c_lead, .int c_ball, .ref a_fouls, .ref a_calls, .int c_rebound, .int c_law, .int c_draw, .int c_players, .ref a_side, .ref a_kind, .ref a_near, .ref a_far, .ref a_free, .int c_letters, .ref a_letter, .int c_at, .ref a_value, .int c_inRow, .ref a_row, .ref a_refusals, .int c_imaged, .ref a_image, .ref a_ahead, .ref a_guard, .ref a_worth])), (a_side, .inl (cI, 6, .inl c_side)), (a_guard, .inl (cI, 6, .inl c_guard))]) [2, 3, 4, 5, 7, 1, 0, 6] rfl rfl ?_
                      exact ih34 v4_34 v5_34 (v7_34 + 1) (g_upm c37 hm34) (g_up0 hv34_0 c37) heq
                  · have heq := heq.trans (if_pos c59)
                    refine g_iload X 0 rfl dX5_choice_62 ?_
                    refine g_iload X 3 rfl dX5_choice_64 ?_
                    refine g_icmp_gt X 82 dX5_choice_66 (by decide) (fun c66 => ?_) (fun c66 => ?_)
                    · have heq := heq.trans (if_pos c66)
                      refine g_bipush (v := 10) X (by decide) dX5_choice_82 ?_
                      refine g_iload X 2 rfl dX5_choice_84 ?_
                      refine g_imul X dX5_choice_86 ?_
                      refine g_iload X 1 rfl dX5_choice_87 ?_
                      refine g_iadd X dX5_choice_89 ?_
                      refine g_istore (lv' := [(4, .int ((10 * v6_9) + v7_34)), (8, .int r48), (7, .int v7_34), (6, .int v6_9), (5, .int v5_34), (0, .ref a_), (1, .int p1), (2, .int p2), (3, .int p3)]) X (by decide) rfl dX5_choice_90 ?_
                      refine g_iload X 1 rfl dX5_choice_92 ?_
                      refine g_istore (lv' := [(5, .int r48), (4, .int ((10 * v6_9) + v7_34)), (8, .int r48), (7, .int v7_34), (6, .int v6_9), (0, .ref a_), (1, .int p1), (2, .int p2), (3, .int p3)]) X (by decide) rfl dX5_choice_94 ?_
                      refine g_iinc (v := v7_34 + 1) (lv' := [(7, .int (v7_34 + 1)), (5, .int r48), (4, .int ((10 * v6_9) + v7_34)), (8, .int r48), (6, .int v6_9), (0, .ref a_), (1, .int p1), (2, .int p2), (3, .int p3)]) X 3 rfl rfl (by decide) rfl dX5_choice_96 ?_
                      refine g_goto (tgt := 34) X (by decide) dX5_choice_99 ?_
                      refine g_lpick (lv' := [(7, .int (v7_34 + 1)), (6, .int v6_9), (5, .int r48), (4, .int ((10 * v6_9) + v7_34)), (0, .ref a_), (1, .int p1), (2, .int p2), (3, .int p3)]) [0, 4, 1, 2, 5, 6, 7, 8] rfl ?_
                      refine g_wsub (ws' := [(a_kind, .inl (cI, 6, .inl c_kind)), (a_near, .inl (cI, 6, .inl c_near)), (a_far, .inl (cI, 6, .inl c_far)), (a_free, .inl (cI, 6, .inl c_free)), (a_worth, .inl (cI, 650, .inl c_worth)), (a_, .inr (5, [.int c_seconds, .int c_lead, .int c_ball, .ref a_fouls, .ref a_calls, .int c_rebound, .int c_law, .int c_draw, .int c_players, .ref a_side, .ref a_kind, .ref a_near, .ref a_far, .ref a_free, .int c_letters, .ref a_letter, .int c_at, .ref a_value, .int c_inRow, .ref a_row, .ref a_refusals, .int c_imaged, .ref a_image, .ref a_ahead, .ref a_guard, .ref a_worth])), (a_side, .inl (cI, 6, .inl c_side)), (a_guard, .inl (cI, 6, .inl c_guard))]) [2, 3, 4, 5, 7, 1, 0, 6] rfl rfl ?_
                      exact ih34 ((10 * v6_9) + v7_34) r48 (v7_34 + 1) (g_upm c37 hm34) (g_up0 hv34_0 c37) heq
                    · have heq := heq.trans (if_neg c66)
                      refine g_goto (tgt := 96) X (by decide) dX5_choice_69 ?_
                      refine g_iinc (v := v7_34 + 1) (lv' := [(7, .int (v7_34 + 1)), (8, .int r48), (6, .int v6_9), (5, .int v5_34), (4, .int v4_34), (0, .ref a_), (1, .int p1), (2, .int p2), (3, .int p3)]) X 1 rfl rfl (by decide) rfl dX5_choice_96 ?_
                      refine g_goto (tgt := 34) X (by decide) dX5_choice_99 ?_
                      refine g_lpick (lv' := [(7, .int (v7_34 + 1)), (6, .int v6_9), (5, .int v5_34), (4, .int v4_34), (0, .ref a_), (1, .int p1), (2, .int p2), (3, .int p3)]) [0, 2, 3, 4, 5, 6, 7, 8] rfl ?_
                      refine g_wsub (ws' := [(a_kind, .inl (cI, 6, .inl c_kind)), (a_near, .inl (cI, 6, .inl c_near)), (a_far, .inl (cI, 6, .inl c_far)), (a_free, .inl (cI, 6, .inl c_free)), (a_worth, .inl (cI, 650, .inl c_worth)), (a_, .inr (5, [.int c_seconds, .int c_lead, .int c_ball, .ref a_fouls, .ref a_calls, .int c_rebound, .int c_law, .int c_draw, .int c_players, .ref a_side, .ref a_kind, .ref a_near, .ref a_far, .ref a_free, .int c_letters, .ref a_letter, .int c_at, .ref a_value, .int c_inRow, .ref a_row, .ref a_refusals, .int c_imaged, .ref a_image, .ref a_ahead, .ref a_guard, .ref a_worth])), (a_side, .inl (cI, 6, .inl c_side)), (a_guard, .inl (cI, 6, .inl c_guard))]) [2, 3, 4, 5, 7, 1, 0, 6] rfl rfl ?_
                      exact ih34 v4_34 v5_34 (v7_34 + 1) (g_upm c37 hm34) (g_up0 hv34_0 c37) heq
          refine lp34 _ (fun v4_34 v5_34 v7_34 heq => ?_) _ v4_9 v5_9 0 (Nat.lt_succ_self _) (by decide) heq
          refine g_iinc (v := v6_9 + 1) (lv' := [(6, .int (v6_9 + 1)), (7, .int v7_34), (5, .int v5_34), (4, .int v4_34), (0, .ref a_), (1, .int p1), (2, .int p2), (3, .int p3)]) X 1 rfl rfl (by decide) rfl dX5_choice_102 ?_
          refine g_goto (tgt := 9) X (by decide) dX5_choice_105 ?_
          refine g_lpick (lv' := [(6, .int (v6_9 + 1)), (5, .int v5_34), (4, .int v4_34), (0, .ref a_), (1, .int p1), (2, .int p2), (3, .int p3)]) [0, 2, 3, 4, 5, 6, 7] rfl ?_
          refine g_wsub (ws' := [(a_, .inr (5, [.int c_seconds, .int c_lead, .int c_ball, .ref a_fouls, .ref a_calls, .int c_rebound, .int c_law, .int c_draw, .int c_players, .ref a_side, .ref a_kind, .ref a_near, .ref a_far, .ref a_free, .int c_letters, .ref a_letter, .int c_at, .ref a_value, .int c_inRow, .ref a_row, .ref a_refusals, .int c_imaged, .ref a_image, .ref a_ahead, .ref a_guard, .ref a_worth])), (a_side, .inl (cI, 6, .inl c_side)), (a_kind, .inl (cI, 6, .inl c_kind)), (a_near, .inl (cI, 6, .inl c_near)), (a_far, .inl (cI, 6, .inl c_far)), (a_free, .inl (cI, 6, .inl c_free)), (a_guard, .inl (cI, 6, .inl c_guard)), (a_worth, .inl (cI, 650, .inl c_worth))]) [5, 6, 0, 1, 2, 3, 7, 4] rfl rfl ?_
          exact ih9 v4_34 v5_34 (v6_9 + 1) (g_upm c15 hm9) (g_up0 hv9_0 c15) heq
        · have heq := heq.trans (if_pos c25)
          refine g_goto (tgt := 102) X (by decide) dX5_choice_28 ?_
          refine g_iinc (v := v6_9 + 1) (lv' := [(6, .int (v6_9 + 1)), (5, .int v5_9), (4, .int v4_9), (0, .ref a_), (1, .int p1), (2, .int p2), (3, .int p3)]) X 0 rfl rfl (by decide) rfl dX5_choice_102 ?_
          refine g_goto (tgt := 9) X (by decide) dX5_choice_105 ?_
          refine g_wsub (ws' := [(a_, .inr (5, [.int c_seconds, .int c_lead, .int c_ball, .ref a_fouls, .ref a_calls, .int c_rebound, .int c_law, .int c_draw, .int c_players, .ref a_side, .ref a_kind, .ref a_near, .ref a_far, .ref a_free, .int c_letters, .ref a_letter, .int c_at, .ref a_value, .int c_inRow, .ref a_row, .ref a_refusals, .int c_imaged, .ref a_image, .ref a_ahead, .ref a_guard, .ref a_worth])), (a_side, .inl (cI, 6, .inl c_side)), (a_kind, .inl (cI, 6, .inl c_kind)), (a_near, .inl (cI, 6, .inl c_near)), (a_far, .inl (cI, 6, .inl c_far)), (a_free, .inl (cI, 6, .inl c_free)), (a_guard, .inl (cI, 6, .inl c_guard)), (a_worth, .inl (cI, 650, .inl c_worth))]) [5, 6, 0, 1, 2, 3, 7, 4] rfl rfl ?_
          exact ih9 v4_9 v5_9 (v6_9 + 1) (g_upm c15 hm9) (g_up0 hv9_0 c15) heq
  refine lp9 _ (fun v4_9 v5_9 v6_9 heq => ?_) _ (-1) 0 0 (Nat.lt_succ_self _) (by decide) heq
  refine g_aload_n X 3 rfl rfl dX5_choice_108 ?_
  refine g_iload_n X 4 rfl rfl dX5_choice_109 ?_
  refine g_iload_n X 5 rfl rfl dX5_choice_110 ?_
  refine g_iload_n X 6 rfl rfl dX5_choice_111 ?_
  refine g_callVi (C := RX5) (T := TX5) (N := 26) (ci := 5) (As := [.int p1, .int p2, .int p3]) (st := []) (wr := [(a_side, .inl (cI, 6, .inl c_side)), (a_kind, .inl (cI, 6, .inl c_kind)), (a_near, .inl (cI, 6, .inl c_near)), (a_far, .inl (cI, 6, .inl c_far)), (a_free, .inl (cI, 6, .inl c_free)), (a_guard, .inl (cI, 6, .inl c_guard))]) X (k_X5_ofHold l D cI kA kV a_ a_fouls a_calls a_side a_kind a_near a_far a_free a_letter a_value a_row a_refusals a_image a_ahead a_guard a_worth c_seconds c_lead c_ball c_rebound c_law c_draw c_players c_letters c_at c_inRow c_imaged c_worth p1 p2 p3 ⟨hs.1, hs.2.1, hs.2.2⟩) (cwV 3 X.2.2.2.2.1 gX5_choice_X5_ofHold rfl rfl rfl (by decide +kernel) ⟨Nat.le_of_ble_eq_true rfl, Nat.le_of_ble_eq_true rfl⟩) 0 rfl rfl [0, 7] [1, 2, 3, 4, 5, 6] rfl rfl rfl rfl (by decide) rfl (Nat.le_of_ble_eq_true rfl) ⟨Nat.le_of_ble_eq_true rfl, Nat.le_of_ble_eq_true rfl⟩ dX5_choice_112 rfl (fun r112 u112 hw112 => ?_)
  refine g_eqs (ws' := [(a_side, .inl (cI, 6, .inl c_side)), (a_kind, .inl (cI, 6, .inl c_kind)), (a_near, .inl (cI, 6, .inl c_near)), (a_far, .inl (cI, 6, .inl c_far)), (a_free, .inl (cI, 6, .inl c_free)), (a_guard, .inl (cI, 6, .inl c_guard)), (a_, .inr (5, [.int c_seconds, .int c_lead, .int c_ball, .ref a_fouls, .ref a_calls, .int c_rebound, .int c_law, .int c_draw, .int c_players, .ref a_side, .ref a_kind, .ref a_near, .ref a_far, .ref a_free, .int c_letters, .ref a_letter, .int c_at, .ref a_value, .int c_inRow, .ref a_row, .ref a_refusals, .int c_imaged, .ref a_image, .ref a_ahead, .ref a_guard, .ref a_worth])), (a_worth, .inl (cI, 650, .inl c_worth))]) rfl ?_
  have heq := g_let heq hw112
  refine g_istore (lv' := [(6, .int r112), (5, .int v5_9), (4, .int v4_9), (0, .ref a_), (1, .int p1), (2, .int p2), (3, .int p3)]) X (by decide) rfl dX5_choice_115 ?_
  refine g_iload X 2 rfl dX5_choice_117 ?_
  refine g_if_lt X 143 dX5_choice_119 (by decide) (fun c119 => ?_) (fun c119 => ?_)
  · have heq := heq.trans (if_pos c119)
    refine g_bipush (v := 93) X (by decide) dX5_choice_143 ?_
    refine g_goto (tgt := 150) X (by decide) dX5_choice_145 ?_
    exact g_iret X hAA hQQ () (heq.symm.trans hXX) [6, 0, 1, 2, 3, 4, 5, 7] rfl rfl hr dX5_choice_150
  · have heq := heq.trans (if_neg c119)
    refine g_iload_n X 6 rfl rfl dX5_choice_122 ?_
    refine g_if_ne X 136 dX5_choice_123 (by decide) (fun c123 => ?_) (fun c123 => ?_)
    · have heq := heq.trans (if_neg c123)
      refine g_iload X 0 rfl dX5_choice_136 ?_
      refine g_iload X 1 rfl dX5_choice_138 ?_
      refine g_icmp_ge X 148 dX5_choice_140 (by decide) (fun c140 => ?_) (fun c140 => ?_)
      · have heq := heq.trans (if_pos c140)
        refine g_iload X 2 rfl dX5_choice_148 ?_
        exact g_iret X hAA hQQ () (heq.symm.trans hXX) [6, 0, 1, 2, 3, 4, 5, 7] rfl rfl hr dX5_choice_150
      · have heq := heq.trans (if_neg c140)
        refine g_bipush (v := 93) X (by decide) dX5_choice_143 ?_
        refine g_goto (tgt := 150) X (by decide) dX5_choice_145 ?_
        exact g_iret X hAA hQQ () (heq.symm.trans hXX) [6, 0, 1, 2, 3, 4, 5, 7] rfl rfl hr dX5_choice_150
    · have heq := heq.trans (if_pos c123)
      refine g_iload X 0 rfl dX5_choice_126 ?_
      refine g_iload X 1 rfl dX5_choice_128 ?_
      refine g_icmp_le X 148 dX5_choice_130 (by decide) (fun c130 => ?_) (fun c130 => ?_)
      · have heq := heq.trans (if_pos c130)
        refine g_iload X 2 rfl dX5_choice_148 ?_
        exact g_iret X hAA hQQ () (heq.symm.trans hXX) [6, 0, 1, 2, 3, 4, 5, 7] rfl rfl hr dX5_choice_150
      · have heq := heq.trans (if_neg c130)
        refine g_goto (tgt := 143) X (by decide) dX5_choice_133 ?_
        refine g_bipush (v := 93) X (by decide) dX5_choice_143 ?_
        refine g_goto (tgt := 150) X (by decide) dX5_choice_145 ?_
        exact g_iret X hAA hQQ () (heq.symm.trans hXX) [6, 0, 1, 2, 3, 4, 5, 7] rfl rfl hr dX5_choice_150

def f_X5_ofChoice (c_rebound : Int32) (c_law : Int32) (c_draw : Int32) (c_kind : Nat → Int32) (c_near : Nat → Int32) (c_far : Nat → Int32) (c_free : Nat → Int32) (c_guard : Nat → Int32) (c_worth : Nat → Int32) (p1 : Int32) (p2 : Int32) (p3 : Int32) (p4 : Int32) : Int32 :=
  (if p1 = 93 then g_lt (f_X5_ofHold c_draw c_worth p2 p3 p4) (fun r11 => r11) else g_lt (f_X5_ofShot c_rebound c_law c_draw c_kind c_near c_far c_free c_guard c_worth (p1 / 10) (g_remf p1 (10 : Int32)) p2 p3 p4) (fun r30 => r30))
set_option maxHeartbeats 4000000 in
set_option maxRecDepth 100000 in
theorem k_X5_ofChoice (l : Launch) (D : va_G) (cI : ClassId) (kA kV : Nat → Nat) (a_ a_fouls a_calls a_side a_kind a_near a_far a_free a_letter a_value a_row a_refusals a_image a_ahead a_guard a_worth : Nat) (c_seconds : Int32) (c_lead : Int32) (c_ball : Int32) (c_rebound : Int32) (c_law : Int32) (c_draw : Int32) (c_players : Int32) (c_letters : Int32) (c_at : Int32) (c_inRow : Int32) (c_imaged : Int32) (c_kind : Nat → Int32) (c_near : Nat → Int32) (c_far : Nat → Int32) (c_free : Nat → Int32) (c_guard : Nat → Int32) (c_worth : Nat → Int32) (p1 : Int32) (p2 : Int32) (p3 : Int32) (p4 : Int32) (hc : p1 = 93 ∨ m_I (p1 / 10)) (hs : m_S p2 p3 p4) :
    g_MI l D cI kA kV yX5_ofChoice wsX5_ofChoice { frames := 4, cells := 0, slots := 0, locals := 98 } [.ref a_, .int p1, .int p2, .int p3, .int p4] [(a_, .inr (5, [.int c_seconds, .int c_lead, .int c_ball, .ref a_fouls, .ref a_calls, .int c_rebound, .int c_law, .int c_draw, .int c_players, .ref a_side, .ref a_kind, .ref a_near, .ref a_far, .ref a_free, .int c_letters, .ref a_letter, .int c_at, .ref a_value, .int c_inRow, .ref a_row, .ref a_refusals, .int c_imaged, .ref a_image, .ref a_ahead, .ref a_guard, .ref a_worth])), (a_kind, .inl (cI, 6, .inl c_kind)), (a_near, .inl (cI, 6, .inl c_near)), (a_far, .inl (cI, 6, .inl c_far)), (a_free, .inl (cI, 6, .inl c_free)), (a_guard, .inl (cI, 6, .inl c_guard)), (a_worth, .inl (cI, 650, .inl c_worth))] (fun u : Unit => [(a_, .inr (5, [.int c_seconds, .int c_lead, .int c_ball, .ref a_fouls, .ref a_calls, .int c_rebound, .int c_law, .int c_draw, .int c_players, .ref a_side, .ref a_kind, .ref a_near, .ref a_far, .ref a_free, .int c_letters, .ref a_letter, .int c_at, .ref a_value, .int c_inRow, .ref a_row, .ref a_refusals, .int c_imaged, .ref a_image, .ref a_ahead, .ref a_guard, .ref a_worth])), (a_kind, .inl (cI, 6, .inl c_kind)), (a_near, .inl (cI, 6, .inl c_near)), (a_far, .inl (cI, 6, .inl c_far)), (a_free, .inl (cI, 6, .inl c_free)), (a_guard, .inl (cI, 6, .inl c_guard)), (a_worth, .inl (cI, 650, .inl c_worth))]) (fun (r : Int32) (u : Unit) => r = f_X5_ofChoice c_rebound c_law c_draw c_kind c_near c_far c_free c_guard c_worth p1 p2 p3 p4) := by
  obtain ⟨XX, hXX⟩ : ∃ z, z = f_X5_ofChoice c_rebound c_law c_draw c_kind c_near c_far c_free c_guard c_worth p1 p2 p3 p4 := ⟨_, rfl⟩
  have heq := hXX.trans (f_X5_ofChoice.eq_def c_rebound c_law c_draw c_kind c_near c_far c_free c_guard c_worth p1 p2 p3 p4)
  refine g_startI (lv := [(0, .ref a_), (1, .int p1), (2, .int p2), (3, .int p3), (4, .int p4)]) RX5 rfl rfl rfl (Nat.le_of_ble_eq_true rfl) rfl (fun p e s m args below meth c AA QQ hAA hQQ X hr hmn => ?_)
  refine g_iload_n X 1 rfl rfl dX5_ofChoice_0 ?_
  refine g_bipush (v := 93) X (by decide) dX5_ofChoice_1 ?_
  refine g_icmp_ne X 17 dX5_ofChoice_3 (by decide) (fun c3 => ?_) (fun c3 => ?_)
  · have heq := heq.trans (if_neg c3)
    refine g_aload_n X 0 rfl rfl dX5_ofChoice_17 ?_
    refine g_iload_n X 1 rfl rfl dX5_ofChoice_18 ?_
    refine g_bipush (v := 10) X (by decide) dX5_ofChoice_19 ?_
    refine g_idiv X (by decide) dX5_ofChoice_21 ?_
    refine g_iload_n X 1 rfl rfl dX5_ofChoice_22 ?_
    refine g_bipush (v := 10) X (by decide) dX5_ofChoice_23 ?_
    refine g_irem X (by decide) dX5_ofChoice_25 ?_
    refine g_iload_n X 2 rfl rfl dX5_ofChoice_26 ?_
    refine g_iload_n X 3 rfl rfl dX5_ofChoice_27 ?_
    refine g_iload X 4 rfl dX5_ofChoice_28 ?_
    refine g_callVi (C := RX5) (T := TX5) (N := 26) (ci := 5) (As := [.int (p1 / 10), .int (g_remf p1 (10 : Int32)), .int p2, .int p3, .int p4]) (st := []) (wr := ([] : va_W)) X (k_X5_ofShot l D cI kA kV a_ a_fouls a_calls a_side a_kind a_near a_far a_free a_letter a_value a_row a_refusals a_image a_ahead a_guard a_worth c_seconds c_lead c_ball c_rebound c_law c_draw c_players c_letters c_at c_inRow c_imaged c_kind c_near c_far c_free c_guard c_worth (p1 / 10) (g_remf p1 (10 : Int32)) p2 p3 p4 (hc.resolve_left c3) ⟨hs.1, hs.2.1, hs.2.2⟩) (cwV 5 X.2.2.2.2.1 gX5_ofChoice_X5_ofShot rfl rfl rfl (by decide +kernel) ⟨Nat.le_of_ble_eq_true rfl, Nat.le_of_ble_eq_true rfl⟩) 0 rfl rfl [0, 1, 2, 3, 4, 5, 6] [] rfl rfl rfl rfl (by decide) rfl (Nat.le_of_ble_eq_true rfl) ⟨Nat.le_of_ble_eq_true rfl, Nat.le_of_ble_eq_true rfl⟩ dX5_ofChoice_30 rfl (fun r30 u30 hw30 => ?_)
    have heq := g_let heq hw30
    exact g_iret X hAA hQQ () (heq.symm.trans hXX) [0, 1, 2, 3, 4, 5, 6] rfl rfl hr dX5_ofChoice_33
  · have heq := heq.trans (if_pos c3)
    refine g_aload_n X 0 rfl rfl dX5_ofChoice_6 ?_
    refine g_iload_n X 2 rfl rfl dX5_ofChoice_7 ?_
    refine g_iload_n X 3 rfl rfl dX5_ofChoice_8 ?_
    refine g_iload X 4 rfl dX5_ofChoice_9 ?_
    refine g_callVi (C := RX5) (T := TX5) (N := 26) (ci := 5) (As := [.int p2, .int p3, .int p4]) (st := []) (wr := [(a_kind, .inl (cI, 6, .inl c_kind)), (a_near, .inl (cI, 6, .inl c_near)), (a_far, .inl (cI, 6, .inl c_far)), (a_free, .inl (cI, 6, .inl c_free)), (a_guard, .inl (cI, 6, .inl c_guard))]) X (k_X5_ofHold l D cI kA kV a_ a_fouls a_calls a_side a_kind a_near a_far a_free a_letter a_value a_row a_refusals a_image a_ahead a_guard a_worth c_seconds c_lead c_ball c_rebound c_law c_draw c_players c_letters c_at c_inRow c_imaged c_worth p2 p3 p4 ⟨hs.1, hs.2.1, hs.2.2⟩) (cwV 3 X.2.2.2.2.1 gX5_ofChoice_X5_ofHold rfl rfl rfl (by decide +kernel) ⟨Nat.le_of_ble_eq_true rfl, Nat.le_of_ble_eq_true rfl⟩) 0 rfl rfl [0, 6] [1, 2, 3, 4, 5] rfl rfl rfl rfl (by decide) rfl (Nat.le_of_ble_eq_true rfl) ⟨Nat.le_of_ble_eq_true rfl, Nat.le_of_ble_eq_true rfl⟩ dX5_ofChoice_11 rfl (fun r11 u11 hw11 => ?_)
    refine g_eqs (ws' := [(a_kind, .inl (cI, 6, .inl c_kind)), (a_near, .inl (cI, 6, .inl c_near)), (a_far, .inl (cI, 6, .inl c_far)), (a_free, .inl (cI, 6, .inl c_free)), (a_guard, .inl (cI, 6, .inl c_guard)), (a_, .inr (5, [.int c_seconds, .int c_lead, .int c_ball, .ref a_fouls, .ref a_calls, .int c_rebound, .int c_law, .int c_draw, .int c_players, .ref a_side, .ref a_kind, .ref a_near, .ref a_far, .ref a_free, .int c_letters, .ref a_letter, .int c_at, .ref a_value, .int c_inRow, .ref a_row, .ref a_refusals, .int c_imaged, .ref a_image, .ref a_ahead, .ref a_guard, .ref a_worth])), (a_worth, .inl (cI, 650, .inl c_worth))]) rfl ?_
    have heq := g_let heq hw11
    refine g_goto (tgt := 33) X (by decide) dX5_ofChoice_14 ?_
    exact g_iret X hAA hQQ () (heq.symm.trans hXX) [5, 0, 1, 2, 3, 4, 6] rfl rfl hr dX5_ofChoice_33

def f_X5_noState (p1 : Int32) (p2 : Int32) (p3 : Int32) : Int32 :=
  (if p1 < 0 then (-4) else (if p2 < 0 then (-4) else (if 0 ≤ p3 then (if 24 < p1 then (-6) else (if 12 < p2 then (-6) else (if p3 ≤ 1 then 0 else (-6)))) else (-4))))
set_option maxHeartbeats 4000000 in
set_option maxRecDepth 100000 in
theorem k_X5_noState (l : Launch) (D : va_G) (cI : ClassId) (kA kV : Nat → Nat) (a_ : Nat) (p1 : Int32) (p2 : Int32) (p3 : Int32) :
    g_MI l D cI kA kV yX5_noState wsX5_noState { frames := 0, cells := 0, slots := 0, locals := 0 } [.ref a_, .int p1, .int p2, .int p3] [] (fun u : Unit => []) (fun (r : Int32) (u : Unit) => r = f_X5_noState p1 p2 p3) := by
  obtain ⟨XX, hXX⟩ : ∃ z, z = f_X5_noState p1 p2 p3 := ⟨_, rfl⟩
  have heq := hXX.trans (f_X5_noState.eq_def p1 p2 p3)
  refine g_startI (lv := [(0, .ref a_), (1, .int p1), (2, .int p2), (3, .int p3)]) RX5 rfl rfl rfl (Nat.le_of_ble_eq_true rfl) rfl (fun p e s m args below meth c AA QQ hAA hQQ X hr hmn => ?_)
  refine g_iload_n X 1 rfl rfl dX5_noState_0 ?_
  refine g_if_lt X 12 dX5_noState_1 (by decide) (fun c1 => ?_) (fun c1 => ?_)
  · have heq := heq.trans (if_pos c1)
    refine g_bipush (v := (-4)) X (by decide) dX5_noState_12 ?_
    exact g_iret X hAA hQQ () (heq.symm.trans hXX) [] rfl rfl hr dX5_noState_14
  · have heq := heq.trans (if_neg c1)
    refine g_iload_n X 2 rfl rfl dX5_noState_4 ?_
    refine g_if_lt X 12 dX5_noState_5 (by decide) (fun c5 => ?_) (fun c5 => ?_)
    · have heq := heq.trans (if_pos c5)
      refine g_bipush (v := (-4)) X (by decide) dX5_noState_12 ?_
      exact g_iret X hAA hQQ () (heq.symm.trans hXX) [] rfl rfl hr dX5_noState_14
    · have heq := heq.trans (if_neg c5)
      refine g_iload_n X 3 rfl rfl dX5_noState_8 ?_
      refine g_if_ge X 15 dX5_noState_9 (by decide) (fun c9 => ?_) (fun c9 => ?_)
      · have heq := heq.trans (if_pos c9)
        refine g_iload_n X 1 rfl rfl dX5_noState_15 ?_
        refine g_bipush (v := 24) X (by decide) dX5_noState_16 ?_
        refine g_icmp_gt X 32 dX5_noState_18 (by decide) (fun c18 => ?_) (fun c18 => ?_)
        · have heq := heq.trans (if_pos c18)
          refine g_bipush (v := (-6)) X (by decide) dX5_noState_32 ?_
          refine g_goto (tgt := 38) X (by decide) dX5_noState_34 ?_
          exact g_iret X hAA hQQ () (heq.symm.trans hXX) [] rfl rfl hr dX5_noState_38
        · have heq := heq.trans (if_neg c18)
          refine g_iload_n X 2 rfl rfl dX5_noState_21 ?_
          refine g_bipush (v := 12) X (by decide) dX5_noState_22 ?_
          refine g_icmp_gt X 32 dX5_noState_24 (by decide) (fun c24 => ?_) (fun c24 => ?_)
          · have heq := heq.trans (if_pos c24)
            refine g_bipush (v := (-6)) X (by decide) dX5_noState_32 ?_
            refine g_goto (tgt := 38) X (by decide) dX5_noState_34 ?_
            exact g_iret X hAA hQQ () (heq.symm.trans hXX) [] rfl rfl hr dX5_noState_38
          · have heq := heq.trans (if_neg c24)
            refine g_iload_n X 3 rfl rfl dX5_noState_27 ?_
            refine g_iconst (v := 1) X (by decide) dX5_noState_28 ?_
            refine g_icmp_le X 37 dX5_noState_29 (by decide) (fun c29 => ?_) (fun c29 => ?_)
            · have heq := heq.trans (if_pos c29)
              refine g_iconst (v := 0) X (by decide) dX5_noState_37 ?_
              exact g_iret X hAA hQQ () (heq.symm.trans hXX) [] rfl rfl hr dX5_noState_38
            · have heq := heq.trans (if_neg c29)
              refine g_bipush (v := (-6)) X (by decide) dX5_noState_32 ?_
              refine g_goto (tgt := 38) X (by decide) dX5_noState_34 ?_
              exact g_iret X hAA hQQ () (heq.symm.trans hXX) [] rfl rfl hr dX5_noState_38
      · have heq := heq.trans (if_neg c9)
        refine g_bipush (v := (-4)) X (by decide) dX5_noState_12 ?_
        exact g_iret X hAA hQQ () (heq.symm.trans hXX) [] rfl rfl hr dX5_noState_14

theorem fd_nost {a b d r : Int32} (hw : r = f_X5_noState a b d) (c : ¬ r < 0) : m_S a b d := by
  unfold f_X5_noState at hw
  repeat' split at hw
  all_goals first
    | exact absurd (show r < 0 from by rw [hw]; decide) c
    | (rename_i h1 h2 h3 h4 h5 h6; exact ⟨⟨g_n0 h1, Int32.not_lt.mp h4⟩, ⟨g_n0 h2, Int32.not_lt.mp h5⟩, ⟨h3, h6⟩⟩)
theorem fd_nostN {a b d r : Int32} (hw : r = f_X5_noState a b d) (c : r < 0) : 0 ≤ -r ∧ -r < 7 := by
  unfold f_X5_noState at hw
  repeat' split at hw
  all_goals first
    | (rw [hw]; decide)
    | exact absurd c (by rw [hw]; decide)

theorem hi_X5_noPair_X5 : ∀ w ∈ wsX50, w ∈ wsX5_noPair := fun w h => List.mem_cons_of_mem _ (List.mem_append_right _ (h))
def f_X5_noPair (c_players : Int32) (c_side : Nat → Int32) (p1 : Int32) (p2 : Int32) : Int32 :=
  g_lt (f_X5_isOne c_players p1) (fun r2 => (if r2 = 0 then (-1) else g_lt (f_X5_isOne c_players p2) (fun r10 => (if r10 = 0 then (-1) else (if p1 = p2 then (-1) else (if c_side p1.toNatClampNeg = 1 then (-3) else (if c_side p2.toNatClampNeg = 1 then (-3) else 0)))))))
set_option maxHeartbeats 4000000 in
set_option maxRecDepth 100000 in
theorem k_X5_noPair (l : Launch) (D : va_G) (cI : ClassId) (kA kV : Nat → Nat) (a_ a_fouls a_calls a_side a_kind a_near a_far a_free a_letter a_value a_row a_refusals a_image a_ahead a_guard a_worth : Nat) (c_seconds : Int32) (c_lead : Int32) (c_ball : Int32) (c_rebound : Int32) (c_law : Int32) (c_draw : Int32) (c_players : Int32) (c_letters : Int32) (c_at : Int32) (c_inRow : Int32) (c_imaged : Int32) (c_side : Nat → Int32) (p1 : Int32) (p2 : Int32) (hp : m_P c_players) :
    g_MI l D cI kA kV yX5_noPair wsX5_noPair { frames := 2, cells := 0, slots := 0, locals := 43 } [.ref a_, .int p1, .int p2] [(a_, .inr (5, [.int c_seconds, .int c_lead, .int c_ball, .ref a_fouls, .ref a_calls, .int c_rebound, .int c_law, .int c_draw, .int c_players, .ref a_side, .ref a_kind, .ref a_near, .ref a_far, .ref a_free, .int c_letters, .ref a_letter, .int c_at, .ref a_value, .int c_inRow, .ref a_row, .ref a_refusals, .int c_imaged, .ref a_image, .ref a_ahead, .ref a_guard, .ref a_worth])), (a_side, .inl (cI, 6, .inl c_side))] (fun u : Unit => [(a_, .inr (5, [.int c_seconds, .int c_lead, .int c_ball, .ref a_fouls, .ref a_calls, .int c_rebound, .int c_law, .int c_draw, .int c_players, .ref a_side, .ref a_kind, .ref a_near, .ref a_far, .ref a_free, .int c_letters, .ref a_letter, .int c_at, .ref a_value, .int c_inRow, .ref a_row, .ref a_refusals, .int c_imaged, .ref a_image, .ref a_ahead, .ref a_guard, .ref a_worth])), (a_side, .inl (cI, 6, .inl c_side))]) (fun (r : Int32) (u : Unit) => r = f_X5_noPair c_players c_side p1 p2) := by
  obtain ⟨XX, hXX⟩ : ∃ z, z = f_X5_noPair c_players c_side p1 p2 := ⟨_, rfl⟩
  have heq := hXX.trans (f_X5_noPair.eq_def c_players c_side p1 p2)
  refine g_startI (lv := [(0, .ref a_), (1, .int p1), (2, .int p2)]) RX5 rfl rfl rfl (Nat.le_of_ble_eq_true rfl) rfl (fun p e s m args below meth c AA QQ hAA hQQ X hr hmn => ?_)
  refine g_aload_n X 0 rfl rfl dX5_noPair_0 ?_
  refine g_iload_n X 1 rfl rfl dX5_noPair_1 ?_
  refine g_callVi (C := RX5) (T := TX5) (N := 26) (ci := 5) (As := [.int p1]) (st := []) (wr := [(a_side, .inl (cI, 6, .inl c_side))]) X (k_X5_isOne l D cI kA kV a_ a_fouls a_calls a_side a_kind a_near a_far a_free a_letter a_value a_row a_refusals a_image a_ahead a_guard a_worth c_seconds c_lead c_ball c_rebound c_law c_draw c_players c_letters c_at c_inRow c_imaged p1) (cwV 1 X.2.2.2.2.1 gX5_noPair_X5_isOne rfl rfl rfl (by decide +kernel) ⟨Nat.le_of_ble_eq_true rfl, Nat.le_of_ble_eq_true rfl⟩) 0 rfl rfl [0] [1] rfl rfl rfl rfl (by decide) rfl (Nat.le_of_ble_eq_true rfl) ⟨Nat.le_of_ble_eq_true rfl, Nat.le_of_ble_eq_true rfl⟩ dX5_noPair_2 rfl (fun r2 u2 hw2 => ?_)
  refine g_eqs (ws' := [(a_side, .inl (cI, 6, .inl c_side)), (a_, .inr (5, [.int c_seconds, .int c_lead, .int c_ball, .ref a_fouls, .ref a_calls, .int c_rebound, .int c_law, .int c_draw, .int c_players, .ref a_side, .ref a_kind, .ref a_near, .ref a_far, .ref a_free, .int c_letters, .ref a_letter, .int c_at, .ref a_value, .int c_inRow, .ref a_row, .ref a_refusals, .int c_imaged, .ref a_image, .ref a_ahead, .ref a_guard, .ref a_worth]))]) rfl ?_
  have heq := g_let heq hw2
  refine g_if_eq X 21 dX5_noPair_5 (by decide) (fun c5 => ?_) (fun c5 => ?_)
  · have heq := heq.trans (if_pos c5)
    refine g_iconst (v := (-1)) X (by decide) dX5_noPair_21 ?_
    exact g_iret X hAA hQQ () (heq.symm.trans hXX) [1, 0] rfl rfl hr dX5_noPair_22
  · have heq := heq.trans (if_neg c5)
    refine g_aload_n X 0 rfl rfl dX5_noPair_8 ?_
    refine g_iload_n X 2 rfl rfl dX5_noPair_9 ?_
    refine g_callVi (C := RX5) (T := TX5) (N := 26) (ci := 5) (As := [.int p2]) (st := []) (wr := [(a_side, .inl (cI, 6, .inl c_side))]) X (k_X5_isOne l D cI kA kV a_ a_fouls a_calls a_side a_kind a_near a_far a_free a_letter a_value a_row a_refusals a_image a_ahead a_guard a_worth c_seconds c_lead c_ball c_rebound c_law c_draw c_players c_letters c_at c_inRow c_imaged p2) (cwV 1 X.2.2.2.2.1 gX5_noPair_X5_isOne rfl rfl rfl (by decide +kernel) ⟨Nat.le_of_ble_eq_true rfl, Nat.le_of_ble_eq_true rfl⟩) 1 rfl rfl [1] [0] rfl rfl rfl rfl (by decide) rfl (Nat.le_of_ble_eq_true rfl) ⟨Nat.le_of_ble_eq_true rfl, Nat.le_of_ble_eq_true rfl⟩ dX5_noPair_10 rfl (fun r10 u10 hw10 => ?_)
    refine g_eqs (ws' := [(a_side, .inl (cI, 6, .inl c_side)), (a_, .inr (5, [.int c_seconds, .int c_lead, .int c_ball, .ref a_fouls, .ref a_calls, .int c_rebound, .int c_law, .int c_draw, .int c_players, .ref a_side, .ref a_kind, .ref a_near, .ref a_far, .ref a_free, .int c_letters, .ref a_letter, .int c_at, .ref a_value, .int c_inRow, .ref a_row, .ref a_refusals, .int c_imaged, .ref a_image, .ref a_ahead, .ref a_guard, .ref a_worth]))]) rfl ?_
    have heq := g_let heq hw10
    refine g_if_eq X 21 dX5_noPair_13 (by decide) (fun c13 => ?_) (fun c13 => ?_)
    · have heq := heq.trans (if_pos c13)
      refine g_iconst (v := (-1)) X (by decide) dX5_noPair_21 ?_
      exact g_iret X hAA hQQ () (heq.symm.trans hXX) [1, 0] rfl rfl hr dX5_noPair_22
    · have heq := heq.trans (if_neg c13)
      refine g_iload_n X 1 rfl rfl dX5_noPair_16 ?_
      refine g_iload_n X 2 rfl rfl dX5_noPair_17 ?_
      refine g_icmp_ne X 23 dX5_noPair_18 (by decide) (fun c18 => ?_) (fun c18 => ?_)
      · have heq := heq.trans (if_neg c18)
        refine g_aload_n X 0 rfl rfl dX5_noPair_23 ?_
        refine g_get (C := RX5) (T := TX5) (N := 26) (ci := 5) X hi_X5_noPair_X5 1 rfl rfl 9 (by decide) (X.2.2.2.2.1 (.fieldLink RX5 16 "NineteenSecondsLeftModel" "side" "[I") (List.mem_of_getElem? (i := 1) rfl)) rfl rfl dX5_noPair_24 ?_
        refine g_iload_n X 1 rfl rfl dX5_noPair_27 ?_
        refine g_iald X 0 rfl (fd_one hp hw2 c5).vin dX5_noPair_28 ?_
        refine g_iconst (v := 1) X (by decide) dX5_noPair_29 ?_
        refine g_icmp_eq X 43 dX5_noPair_30 (by decide) (fun c30 => ?_) (fun c30 => ?_)
        · have heq := heq.trans (if_pos c30)
          refine g_bipush (v := (-3)) X (by decide) dX5_noPair_43 ?_
          refine g_goto (tgt := 49) X (by decide) dX5_noPair_45 ?_
          exact g_iret X hAA hQQ () (heq.symm.trans hXX) [1, 0] rfl rfl hr dX5_noPair_49
        · have heq := heq.trans (if_neg c30)
          refine g_aload_n X 0 rfl rfl dX5_noPair_33 ?_
          refine g_get (C := RX5) (T := TX5) (N := 26) (ci := 5) X hi_X5_noPair_X5 1 rfl rfl 9 (by decide) (X.2.2.2.2.1 (.fieldLink RX5 16 "NineteenSecondsLeftModel" "side" "[I") (List.mem_of_getElem? (i := 1) rfl)) rfl rfl dX5_noPair_34 ?_
          refine g_iload_n X 2 rfl rfl dX5_noPair_37 ?_
          refine g_iald X 0 rfl (fd_one hp hw10 c13).vin dX5_noPair_38 ?_
          refine g_iconst (v := 1) X (by decide) dX5_noPair_39 ?_
          refine g_icmp_ne X 48 dX5_noPair_40 (by decide) (fun c40 => ?_) (fun c40 => ?_)
          · have heq := heq.trans (if_neg c40)
            refine g_iconst (v := 0) X (by decide) dX5_noPair_48 ?_
            exact g_iret X hAA hQQ () (heq.symm.trans hXX) [1, 0] rfl rfl hr dX5_noPair_49
          · have heq := heq.trans (if_pos c40)
            refine g_bipush (v := (-3)) X (by decide) dX5_noPair_43 ?_
            refine g_goto (tgt := 49) X (by decide) dX5_noPair_45 ?_
            exact g_iret X hAA hQQ () (heq.symm.trans hXX) [1, 0] rfl rfl hr dX5_noPair_49
      · have heq := heq.trans (if_pos c18)
        refine g_iconst (v := (-1)) X (by decide) dX5_noPair_21 ?_
        exact g_iret X hAA hQQ () (heq.symm.trans hXX) [1, 0] rfl rfl hr dX5_noPair_22

theorem g_leN {x N M : Int32} (hN : N.toInt + 1 = M.toInt) (c : ¬ M ≤ x) : x ≤ N := by
  have a := Int32.lt_iff_toInt_lt.mp (Int32.not_le.mp c)
  rw [Int32.le_iff_toInt_le]
  omega
theorem fd_pair {P a b r : Int32} {f : Nat → Int32} (hp : m_P P) (hw : r = f_X5_noPair P f a b) (c : ¬ r < 0) : m_I a ∧ m_I b := by
  have e : r = (if f_X5_isOne P a = 0 then (-1) else (if f_X5_isOne P b = 0 then (-1) else (if a = b then (-1) else (if f a.toNatClampNeg = 1 then (-3) else (if f b.toNatClampNeg = 1 then (-3) else 0))))) := hw
  by_cases h1 : f_X5_isOne P a = 0
  · rw [if_pos h1] at e; exact absurd (show r < 0 from by rw [e]; decide) c
  · rw [if_neg h1] at e
    by_cases h2 : f_X5_isOne P b = 0
    · rw [if_pos h2] at e; exact absurd (show r < 0 from by rw [e]; decide) c
    · exact ⟨fd_one hp rfl h1, fd_one hp rfl h2⟩
theorem fd_pairN {P a b r : Int32} {f : Nat → Int32} (hw : r = f_X5_noPair P f a b) (c : r < 0) : 0 ≤ -r ∧ -r < 7 := by
  have e : r = (if f_X5_isOne P a = 0 then (-1) else (if f_X5_isOne P b = 0 then (-1) else (if a = b then (-1) else (if f a.toNatClampNeg = 1 then (-3) else (if f b.toNatClampNeg = 1 then (-3) else 0))))) := hw
  repeat' split at e
  all_goals first
    | (rw [e]; decide)
    | exact absurd c (by rw [e]; decide)
