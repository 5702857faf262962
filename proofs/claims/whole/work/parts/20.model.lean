theorem g_vinQ {x B N : Int32} {n : Nat} (hN : N.toInt = (n : Int)) (h0 : 0 ≤ x) (h1 : ¬ B ≤ x) (hB : B ≤ N) : vp_in x n := by
  have b := Int32.le_iff_toInt_le.mp hB
  have a := Int32.lt_iff_toInt_lt.mp (Int32.not_le.mp h1)
  have c := Int32.le_iff_toInt_le.mp h0
  have z : (0 : Int32).toInt = 0 := by decide
  rw [vp_in_iff]
  omega
theorem g_vinNe {x N : Int32} {n : Nat} (hN : N.toInt = (n : Int)) (h0 : 0 ≤ x) (h1 : x ≤ N) (h2 : ¬ x = N) : vp_in x n := by
  have b := Int32.le_iff_toInt_le.mp h1
  have c := Int32.le_iff_toInt_le.mp h0
  have z : (0 : Int32).toInt = 0 := by decide
  have d : ¬ x.toInt = N.toInt := fun q => h2 (Int32.toInt_inj.mp q)
  rw [vp_in_iff]
  omega
theorem g_neLe {x N : Int32} (h1 : x ≤ N) (h2 : ¬ x = N) : ¬ N ≤ x := by
  have b := Int32.le_iff_toInt_le.mp h1
  have d : ¬ x.toInt = N.toInt := fun q => h2 (Int32.toInt_inj.mp q)
  rw [Int32.le_iff_toInt_le]
  omega
theorem g_le1 {i B : Int32} (h : ¬ B ≤ i) : i + 1 ≤ B := by
  obtain ⟨a, b⟩ := g_inc h
  rw [Int32.le_iff_toInt_le]
  omega
theorem g_ltQ {x B N : Int32} (h1 : ¬ B ≤ x) (hB : B ≤ N) : x < N := by
  have b := Int32.le_iff_toInt_le.mp hB
  have a := Int32.lt_iff_toInt_lt.mp (Int32.not_le.mp h1)
  rw [Int32.lt_iff_toInt_lt]
  omega
theorem g_leT {x y z : Int32} (h1 : x ≤ y) (h2 : y ≤ z) : x ≤ z := Int32.le_trans h1 h2
/-- the statement's numbers, while letters are read -/
def m_A (at' letters : Int32) : Prop := 0 ≤ at' ∧ at' ≤ letters ∧ letters ≤ 96
theorem m_A.vin {a L : Int32} (h : m_A a L) (h3 : ¬ a = L) : vp_in a 96 := g_vinQ (by decide) h.1 (g_neLe h.2.1 h3) h.2.2
theorem m_A.vinl {a L : Int32} (h : m_A a L) (h3 : ¬ L ≤ a) : vp_in a 96 := g_vinQ (by decide) h.1 h3 h.2.2
theorem m_A.succ {a L : Int32} (h : m_A a L) (h3 : ¬ L ≤ a) : m_A (a + 1) L := ⟨g_up0 h.1 h3, g_le1 h3, h.2.2⟩
theorem m_A.succn {a L : Int32} (h : m_A a L) (h3 : ¬ a = L) : m_A (a + 1) L := h.succ (g_neLe h.2.1 h3)

theorem hi_X5_no_X5 : ∀ w ∈ wsX50, w ∈ wsX5_no := fun w h => List.mem_cons_of_mem _ (List.mem_append_right _ (h))
def f_X5_no (c_refusals : Nat → Int32) (p1 : Int32) : Int32 × (Nat → Int32) :=
  (p1, upd c_refusals (-p1).toNatClampNeg ((c_refusals (-p1).toNatClampNeg) + 1))
set_option maxHeartbeats 4000000 in
set_option maxRecDepth 100000 in
theorem k_X5_no (l : Launch) (D : va_G) (cI : ClassId) (kA kV : Nat → Nat) (a_ a_fouls a_calls a_side a_kind a_near a_far a_free a_letter a_value a_row a_refusals a_image a_ahead a_guard a_worth : Nat) (c_seconds : Int32) (c_lead : Int32) (c_ball : Int32) (c_rebound : Int32) (c_law : Int32) (c_draw : Int32) (c_players : Int32) (c_letters : Int32) (c_at : Int32) (c_inRow : Int32) (c_imaged : Int32) (c_refusals : Nat → Int32) (p1 : Int32) (hlo : 0 ≤ -p1) (hhi : -p1 < 7) :
    g_MI l D cI kA kV yX5_no wsX5_no { frames := 0, cells := 0, slots := 0, locals := 0 } [.ref a_, .int p1] [(a_, .inr (5, [.int c_seconds, .int c_lead, .int c_ball, .ref a_fouls, .ref a_calls, .int c_rebound, .int c_law, .int c_draw, .int c_players, .ref a_side, .ref a_kind, .ref a_near, .ref a_far, .ref a_free, .int c_letters, .ref a_letter, .int c_at, .ref a_value, .int c_inRow, .ref a_row, .ref a_refusals, .int c_imaged, .ref a_image, .ref a_ahead, .ref a_guard, .ref a_worth])), (a_refusals, .inl (cI, 7, .inl c_refusals))] (fun u : (Nat → Int32) => [(a_, .inr (5, [.int c_seconds, .int c_lead, .int c_ball, .ref a_fouls, .ref a_calls, .int c_rebound, .int c_law, .int c_draw, .int c_players, .ref a_side, .ref a_kind, .ref a_near, .ref a_far, .ref a_free, .int c_letters, .ref a_letter, .int c_at, .ref a_value, .int c_inRow, .ref a_row, .ref a_refusals, .int c_imaged, .ref a_image, .ref a_ahead, .ref a_guard, .ref a_worth])), (a_refusals, .inl (cI, 7, .inl u))]) (fun (r : Int32) (u : (Nat → Int32)) => (r, u) = f_X5_no c_refusals p1) := by
  obtain ⟨XX, hXX⟩ : ∃ z, z = f_X5_no c_refusals p1 := ⟨_, rfl⟩
  have heq := hXX.trans (f_X5_no.eq_def c_refusals p1)
  refine g_startI (lv := [(0, .ref a_), (1, .int p1)]) RX5 rfl rfl rfl (Nat.le_of_ble_eq_true rfl) rfl (fun p e s m args below meth c AA QQ hAA hQQ X hr hmn => ?_)
  refine g_aload_n X 0 rfl rfl dX5_no_0 ?_
  refine g_get (C := RX5) (T := TX5) (N := 26) (ci := 5) X hi_X5_no_X5 0 rfl rfl 20 (by decide) (X.2.2.2.2.1 (.fieldLink RX5 40 "NineteenSecondsLeftModel" "refusals" "[I") (List.mem_of_getElem? (i := 1) rfl)) rfl rfl dX5_no_1 ?_
  refine g_iload_n X 1 rfl rfl dX5_no_4 ?_
  refine g_ineg X dX5_no_5 ?_
  refine g_dup2 X rfl rfl dX5_no_6 ?_
  refine g_iald X 1 rfl (g_vin (by decide) hlo hhi) dX5_no_7 ?_
  refine g_iconst (v := 1) X (by decide) dX5_no_8 ?_
  refine g_iadd X dX5_no_9 ?_
  refine g_iast (ws' := [(a_, .inr (5, [.int c_seconds, .int c_lead, .int c_ball, .ref a_fouls, .ref a_calls, .int c_rebound, .int c_law, .int c_draw, .int c_players, .ref a_side, .ref a_kind, .ref a_near, .ref a_far, .ref a_free, .int c_letters, .ref a_letter, .int c_at, .ref a_value, .int c_inRow, .ref a_row, .ref a_refusals, .int c_imaged, .ref a_image, .ref a_ahead, .ref a_guard, .ref a_worth])), (a_refusals, .inl (cI, 7, .inl (upd c_refusals (-p1).toNatClampNeg ((c_refusals (-p1).toNatClampNeg) + 1))))]) X 1 rfl (g_vin (by decide) hlo hhi) dX5_no_10 rfl ?_
  refine g_iload_n X 1 rfl rfl dX5_no_11 ?_
  exact g_iret X hAA hQQ (upd c_refusals (-p1).toNatClampNeg ((c_refusals (-p1).toNatClampNeg) + 1)) (heq.symm.trans hXX) [0, 1] rfl rfl hr dX5_no_12

def f_X5_noFar (c_refusals : Nat → Int32) (p1 : Int32) : Int32 × (Nat → Int32) :=
  g_lt2 (f_X5_no c_refusals p1) (fun r4 u4 => (2000000000 - r4, u4))
set_option maxHeartbeats 4000000 in
set_option maxRecDepth 100000 in
theorem k_X5_noFar (l : Launch) (D : va_G) (cI : ClassId) (kA kV : Nat → Nat) (a_ a_fouls a_calls a_side a_kind a_near a_far a_free a_letter a_value a_row a_refusals a_image a_ahead a_guard a_worth : Nat) (c_seconds : Int32) (c_lead : Int32) (c_ball : Int32) (c_rebound : Int32) (c_law : Int32) (c_draw : Int32) (c_players : Int32) (c_letters : Int32) (c_at : Int32) (c_inRow : Int32) (c_imaged : Int32) (c_refusals : Nat → Int32) (p1 : Int32) (hlo : 0 ≤ -p1) (hhi : -p1 < 7) :
    g_MI l D cI kA kV yX5_noFar wsX5_noFar { frames := 1, cells := 0, slots := 0, locals := 21 } [.ref a_, .int p1] [(a_, .inr (5, [.int c_seconds, .int c_lead, .int c_ball, .ref a_fouls, .ref a_calls, .int c_rebound, .int c_law, .int c_draw, .int c_players, .ref a_side, .ref a_kind, .ref a_near, .ref a_far, .ref a_free, .int c_letters, .ref a_letter, .int c_at, .ref a_value, .int c_inRow, .ref a_row, .ref a_refusals, .int c_imaged, .ref a_image, .ref a_ahead, .ref a_guard, .ref a_worth])), (a_refusals, .inl (cI, 7, .inl c_refusals))] (fun u : (Nat → Int32) => [(a_, .inr (5, [.int c_seconds, .int c_lead, .int c_ball, .ref a_fouls, .ref a_calls, .int c_rebound, .int c_law, .int c_draw, .int c_players, .ref a_side, .ref a_kind, .ref a_near, .ref a_far, .ref a_free, .int c_letters, .ref a_letter, .int c_at, .ref a_value, .int c_inRow, .ref a_row, .ref a_refusals, .int c_imaged, .ref a_image, .ref a_ahead, .ref a_guard, .ref a_worth])), (a_refusals, .inl (cI, 7, .inl u))]) (fun (r : Int32) (u : (Nat → Int32)) => (r, u) = f_X5_noFar c_refusals p1) := by
  obtain ⟨XX, hXX⟩ : ∃ z, z = f_X5_noFar c_refusals p1 := ⟨_, rfl⟩
  have heq := hXX.trans (f_X5_noFar.eq_def c_refusals p1)
  refine g_startI (lv := [(0, .ref a_), (1, .int p1)]) RX5 rfl rfl rfl (Nat.le_of_ble_eq_true rfl) rfl (fun p e s m args below meth c AA QQ hAA hQQ X hr hmn => ?_)
  refine g_ldc (v := 2000000000) X (X.2.2.2.2.1 (.constant RX5 68 (2000000000)) (List.mem_of_getElem? (i := 1) rfl)) dX5_noFar_0 ?_
  refine g_aload_n X 0 rfl rfl dX5_noFar_2 ?_
  refine g_iload_n X 1 rfl rfl dX5_noFar_3 ?_
  refine g_callVi (C := RX5) (T := TX5) (N := 26) (ci := 5) (As := [.int p1]) (st := [.int 2000000000]) (wr := ([] : va_W)) X (k_X5_no l D cI kA kV a_ a_fouls a_calls a_side a_kind a_near a_far a_free a_letter a_value a_row a_refusals a_image a_ahead a_guard a_worth c_seconds c_lead c_ball c_rebound c_law c_draw c_players c_letters c_at c_inRow c_imaged c_refusals p1 hlo hhi) (cwV 1 X.2.2.2.2.1 gX5_noFar_X5_no rfl rfl rfl (by decide +kernel) ⟨Nat.le_of_ble_eq_true rfl, Nat.le_of_ble_eq_true rfl⟩) 0 rfl rfl [0, 1] [] rfl rfl rfl rfl (by decide) rfl (Nat.le_of_ble_eq_true rfl) ⟨Nat.le_of_ble_eq_true rfl, Nat.le_of_ble_eq_true rfl⟩ dX5_noFar_4 rfl (fun r4 u4 hw4 => ?_)
  refine g_eqs (ws' := [(a_, .inr (5, [.int c_seconds, .int c_lead, .int c_ball, .ref a_fouls, .ref a_calls, .int c_rebound, .int c_law, .int c_draw, .int c_players, .ref a_side, .ref a_kind, .ref a_near, .ref a_far, .ref a_free, .int c_letters, .ref a_letter, .int c_at, .ref a_value, .int c_inRow, .ref a_row, .ref a_refusals, .int c_imaged, .ref a_image, .ref a_ahead, .ref a_guard, .ref a_worth])), (a_refusals, .inl (cI, 7, .inl u4))]) rfl ?_
  have heq := g_let2 heq hw4
  refine g_isub X dX5_noFar_7 ?_
  exact g_iret X hAA hQQ u4 (heq.symm.trans hXX) [0, 1] rfl rfl hr dX5_noFar_8

def f_X5_within (p0 : Int32) (p1 : Int32) (p2 : Int32) : Int32 :=
  (if p0 < p1 then 0 else (if p2 < p0 then 0 else 1))
set_option maxHeartbeats 4000000 in
set_option maxRecDepth 100000 in
theorem k_X5_within (l : Launch) (D : va_G) (cI : ClassId) (kA kV : Nat → Nat) (p0 : Int32) (p1 : Int32) (p2 : Int32) :
    g_MI l D cI kA kV yX5_within wsX5_within { frames := 0, cells := 0, slots := 0, locals := 0 } [.int p0, .int p1, .int p2] [] (fun u : Unit => []) (fun (r : Int32) (u : Unit) => r = f_X5_within p0 p1 p2) := by
  obtain ⟨XX, hXX⟩ : ∃ z, z = f_X5_within p0 p1 p2 := ⟨_, rfl⟩
  have heq := hXX.trans (f_X5_within.eq_def p0 p1 p2)
  refine g_startI (lv := [(0, .int p0), (1, .int p1), (2, .int p2)]) RX5 rfl rfl rfl (Nat.le_of_ble_eq_true rfl) rfl (fun p e s m args below meth c AA QQ hAA hQQ X hr hmn => ?_)
  refine g_iload_n X 0 rfl rfl dX5_within_0 ?_
  refine g_iload_n X 1 rfl rfl dX5_within_1 ?_
  refine g_icmp_lt X 14 dX5_within_2 (by decide) (fun c2 => ?_) (fun c2 => ?_)
  · have heq := heq.trans (if_pos c2)
    refine g_iconst (v := 0) X (by decide) dX5_within_14 ?_
    exact g_zret X hAA hQQ () (heq.symm.trans hXX) [] rfl rfl hr rfl dX5_within_15
  · have heq := heq.trans (if_neg c2)
    refine g_iload_n X 0 rfl rfl dX5_within_5 ?_
    refine g_iload_n X 2 rfl rfl dX5_within_6 ?_
    refine g_icmp_gt X 14 dX5_within_7 (by decide) (fun c7 => ?_) (fun c7 => ?_)
    · have heq := heq.trans (if_pos c7)
      refine g_iconst (v := 0) X (by decide) dX5_within_14 ?_
      exact g_zret X hAA hQQ () (heq.symm.trans hXX) [] rfl rfl hr rfl dX5_within_15
    · have heq := heq.trans (if_neg c7)
      refine g_iconst (v := 1) X (by decide) dX5_within_10 ?_
      refine g_goto (tgt := 15) X (by decide) dX5_within_11 ?_
      exact g_zret X hAA hQQ () (heq.symm.trans hXX) [] rfl rfl hr rfl dX5_within_15

theorem fb_X5_within (a b c : Int32) : f_X5_within a b c = 0 ∨ f_X5_within a b c = 1 := by
  unfold f_X5_within
  repeat' split
  all_goals first | exact Or.inl rfl | exact Or.inr rfl

theorem hi_X5_isOne_X5 : ∀ w ∈ wsX50, w ∈ wsX5_isOne := fun w h => List.mem_cons_of_mem _ (List.mem_append_right _ (h))
def f_X5_isOne (c_players : Int32) (p1 : Int32) : Int32 :=
  g_lt (f_X5_within p1 (0 : Int32) (c_players - 1)) (fun r8 => r8)
set_option maxHeartbeats 4000000 in
set_option maxRecDepth 100000 in
theorem k_X5_isOne (l : Launch) (D : va_G) (cI : ClassId) (kA kV : Nat → Nat) (a_ a_fouls a_calls a_side a_kind a_near a_far a_free a_letter a_value a_row a_refusals a_image a_ahead a_guard a_worth : Nat) (c_seconds : Int32) (c_lead : Int32) (c_ball : Int32) (c_rebound : Int32) (c_law : Int32) (c_draw : Int32) (c_players : Int32) (c_letters : Int32) (c_at : Int32) (c_inRow : Int32) (c_imaged : Int32) (p1 : Int32) :
    g_MI l D cI kA kV yX5_isOne wsX5_isOne { frames := 1, cells := 0, slots := 0, locals := 22 } [.ref a_, .int p1] [(a_, .inr (5, [.int c_seconds, .int c_lead, .int c_ball, .ref a_fouls, .ref a_calls, .int c_rebound, .int c_law, .int c_draw, .int c_players, .ref a_side, .ref a_kind, .ref a_near, .ref a_far, .ref a_free, .int c_letters, .ref a_letter, .int c_at, .ref a_value, .int c_inRow, .ref a_row, .ref a_refusals, .int c_imaged, .ref a_image, .ref a_ahead, .ref a_guard, .ref a_worth]))] (fun u : Unit => [(a_, .inr (5, [.int c_seconds, .int c_lead, .int c_ball, .ref a_fouls, .ref a_calls, .int c_rebound, .int c_law, .int c_draw, .int c_players, .ref a_side, .ref a_kind, .ref a_near, .ref a_far, .ref a_free, .int c_letters, .ref a_letter, .int c_at, .ref a_value, .int c_inRow, .ref a_row, .ref a_refusals, .int c_imaged, .ref a_image, .ref a_ahead, .ref a_guard, .ref a_worth]))]) (fun (r : Int32) (u : Unit) => r = f_X5_isOne c_players p1) := by
  obtain ⟨XX, hXX⟩ : ∃ z, z = f_X5_isOne c_players p1 := ⟨_, rfl⟩
  have heq := hXX.trans (f_X5_isOne.eq_def c_players p1)
  refine g_startI (lv := [(0, .ref a_), (1, .int p1)]) RX5 rfl rfl rfl (Nat.le_of_ble_eq_true rfl) rfl (fun p e s m args below meth c AA QQ hAA hQQ X hr hmn => ?_)
  refine g_iload_n X 1 rfl rfl dX5_isOne_0 ?_
  refine g_iconst (v := 0) X (by decide) dX5_isOne_1 ?_
  refine g_aload_n X 0 rfl rfl dX5_isOne_2 ?_
  refine g_get (C := RX5) (T := TX5) (N := 26) (ci := 5) X hi_X5_isOne_X5 0 rfl rfl 8 (by decide) (X.2.2.2.2.1 (.fieldLink RX5 73 "NineteenSecondsLeftModel" "players" "I") (List.mem_of_getElem? (i := 1) rfl)) rfl rfl dX5_isOne_3 ?_
  refine g_iconst (v := 1) X (by decide) dX5_isOne_6 ?_
  refine g_isub X dX5_isOne_7 ?_
  refine g_callSi (As := [.int p1, .int 0, .int (c_players - 1)]) (st := []) (wr := [(a_, .inr (5, [.int c_seconds, .int c_lead, .int c_ball, .ref a_fouls, .ref a_calls, .int c_rebound, .int c_law, .int c_draw, .int c_players, .ref a_side, .ref a_kind, .ref a_near, .ref a_far, .ref a_free, .int c_letters, .ref a_letter, .int c_at, .ref a_value, .int c_inRow, .ref a_row, .ref a_refusals, .int c_imaged, .ref a_image, .ref a_ahead, .ref a_guard, .ref a_worth]))]) X (k_X5_within l D cI kA kV p1 0 (c_players - 1)) (va_cwS 3 X.2.2.2.2.1 gX5_isOne_X5_within rfl rfl rfl (by decide +kernel) ⟨Nat.le_of_ble_eq_true rfl, Nat.le_of_ble_eq_true rfl⟩) [] [0] rfl rfl rfl rfl (by decide) rfl (Nat.le_of_ble_eq_true rfl) ⟨Nat.le_of_ble_eq_true rfl, Nat.le_of_ble_eq_true rfl⟩ dX5_isOne_8 rfl (fun r8 u8 hw8 => ?_)
  refine g_eqs (ws' := [(a_, .inr (5, [.int c_seconds, .int c_lead, .int c_ball, .ref a_fouls, .ref a_calls, .int c_rebound, .int c_law, .int c_draw, .int c_players, .ref a_side, .ref a_kind, .ref a_near, .ref a_far, .ref a_free, .int c_letters, .ref a_letter, .int c_at, .ref a_value, .int c_inRow, .ref a_row, .ref a_refusals, .int c_imaged, .ref a_image, .ref a_ahead, .ref a_guard, .ref a_worth]))]) rfl ?_
  have heq := g_let heq hw8
  exact g_zret X hAA hQQ () (heq.symm.trans hXX) [0] rfl rfl hr (g_znar (by rw [hw8]; exact fb_X5_within _ _ _)) dX5_isOne_11

theorem hi_X5_letter_X5 : ∀ w ∈ wsX50, w ∈ wsX5_letter := fun w h => List.mem_cons_of_mem _ (List.mem_append_right _ (h))
def f_X5_letter (c_letters : Int32) (c_letter : Nat → Int32) (c_refusals : Nat → Int32) (p1 : Int32) : Int32 × (Int32) × (Nat → Int32) × (Nat → Int32) :=
  (if 0 ≤ p1 then (if 255 < p1 then g_lt2 (f_X5_no c_refusals ((-6) : Int32)) (fun r30 u30 => (r30, c_letters, c_letter, u30)) else (if c_letters = 96 then g_lt2 (f_X5_no c_refusals ((-6) : Int32)) (fun r30 u30 => (r30, c_letters, c_letter, u30)) else ((c_letters + 1), (c_letters + 1), upd c_letter c_letters.toNatClampNeg p1, c_refusals))) else g_lt2 (f_X5_no c_refusals ((-4) : Int32)) (fun r7 u7 => (r7, c_letters, c_letter, u7)))
set_option maxHeartbeats 4000000 in
set_option maxRecDepth 100000 in
theorem k_X5_letter (l : Launch) (D : va_G) (cI : ClassId) (kA kV : Nat → Nat) (a_ a_fouls a_calls a_side a_kind a_near a_far a_free a_letter a_value a_row a_refusals a_image a_ahead a_guard a_worth : Nat) (c_seconds : Int32) (c_lead : Int32) (c_ball : Int32) (c_rebound : Int32) (c_law : Int32) (c_draw : Int32) (c_players : Int32) (c_letters : Int32) (c_at : Int32) (c_inRow : Int32) (c_imaged : Int32) (c_letter : Nat → Int32) (c_refusals : Nat → Int32) (p1 : Int32) (hl0 : 0 ≤ c_letters) (hl1 : c_letters ≤ 96) :
    g_MI l D cI kA kV yX5_letter wsX5_letter { frames := 1, cells := 0, slots := 0, locals := 21 } [.ref a_, .int p1] [(a_, .inr (5, [.int c_seconds, .int c_lead, .int c_ball, .ref a_fouls, .ref a_calls, .int c_rebound, .int c_law, .int c_draw, .int c_players, .ref a_side, .ref a_kind, .ref a_near, .ref a_far, .ref a_free, .int c_letters, .ref a_letter, .int c_at, .ref a_value, .int c_inRow, .ref a_row, .ref a_refusals, .int c_imaged, .ref a_image, .ref a_ahead, .ref a_guard, .ref a_worth])), (a_letter, .inl (cI, 96, .inl c_letter)), (a_refusals, .inl (cI, 7, .inl c_refusals))] (fun u : (Int32) × (Nat → Int32) × (Nat → Int32) => [(a_, .inr (5, [.int c_seconds, .int c_lead, .int c_ball, .ref a_fouls, .ref a_calls, .int c_rebound, .int c_law, .int c_draw, .int c_players, .ref a_side, .ref a_kind, .ref a_near, .ref a_far, .ref a_free, .int u.1, .ref a_letter, .int c_at, .ref a_value, .int c_inRow, .ref a_row, .ref a_refusals, .int c_imaged, .ref a_image, .ref a_ahead, .ref a_guard, .ref a_worth])), (a_letter, .inl (cI, 96, .inl u.2.1)), (a_refusals, .inl (cI, 7, .inl u.2.2))]) (fun (r : Int32) (u : (Int32) × (Nat → Int32) × (Nat → Int32)) => (r, u) = f_X5_letter c_letters c_letter c_refusals p1) := by
  obtain ⟨XX, hXX⟩ : ∃ z, z = f_X5_letter c_letters c_letter c_refusals p1 := ⟨_, rfl⟩
  have heq := hXX.trans (f_X5_letter.eq_def c_letters c_letter c_refusals p1)
  refine g_startI (lv := [(0, .ref a_), (1, .int p1)]) RX5 rfl rfl rfl (Nat.le_of_ble_eq_true rfl) rfl (fun p e s m args below meth c AA QQ hAA hQQ X hr hmn => ?_)
  refine g_iload_n X 1 rfl rfl dX5_letter_0 ?_
  refine g_if_ge X 11 dX5_letter_1 (by decide) (fun c1 => ?_) (fun c1 => ?_)
  · have heq := heq.trans (if_pos c1)
    refine g_iload_n X 1 rfl rfl dX5_letter_11 ?_
    refine g_sipush (v := 255) X (by decide) dX5_letter_12 ?_
    refine g_icmp_gt X 27 dX5_letter_15 (by decide) (fun c15 => ?_) (fun c15 => ?_)
    · have heq := heq.trans (if_pos c15)
      refine g_aload_n X 0 rfl rfl dX5_letter_27 ?_
      refine g_bipush (v := (-6)) X (by decide) dX5_letter_28 ?_
      refine g_callVi (C := RX5) (T := TX5) (N := 26) (ci := 5) (As := [.int (-6)]) (st := []) (wr := [(a_letter, .inl (cI, 96, .inl c_letter))]) X (k_X5_no l D cI kA kV a_ a_fouls a_calls a_side a_kind a_near a_far a_free a_letter a_value a_row a_refusals a_image a_ahead a_guard a_worth c_seconds c_lead c_ball c_rebound c_law c_draw c_players c_letters c_at c_inRow c_imaged c_refusals (-6) (by decide) (by decide)) (cwV 1 X.2.2.2.2.1 gX5_letter_X5_no rfl rfl rfl (by decide +kernel) ⟨Nat.le_of_ble_eq_true rfl, Nat.le_of_ble_eq_true rfl⟩) 0 rfl rfl [0, 2] [1] rfl rfl rfl rfl (by decide) rfl (Nat.le_of_ble_eq_true rfl) ⟨Nat.le_of_ble_eq_true rfl, Nat.le_of_ble_eq_true rfl⟩ dX5_letter_30 rfl (fun r30 u30 hw30 => ?_)
      refine g_eqs (ws' := [(a_letter, .inl (cI, 96, .inl c_letter)), (a_, .inr (5, [.int c_seconds, .int c_lead, .int c_ball, .ref a_fouls, .ref a_calls, .int c_rebound, .int c_law, .int c_draw, .int c_players, .ref a_side, .ref a_kind, .ref a_near, .ref a_far, .ref a_free, .int c_letters, .ref a_letter, .int c_at, .ref a_value, .int c_inRow, .ref a_row, .ref a_refusals, .int c_imaged, .ref a_image, .ref a_ahead, .ref a_guard, .ref a_worth])), (a_refusals, .inl (cI, 7, .inl u30))]) rfl ?_
      have heq := g_let2 heq hw30
      exact g_iret X hAA hQQ (c_letters, c_letter, u30) (heq.symm.trans hXX) [1, 0, 2] rfl rfl hr dX5_letter_33
    · have heq := heq.trans (if_neg c15)
      refine g_aload_n X 0 rfl rfl dX5_letter_18 ?_
      refine g_get (C := RX5) (T := TX5) (N := 26) (ci := 5) X hi_X5_letter_X5 0 rfl rfl 14 (by decide) (X.2.2.2.2.1 (.fieldLink RX5 80 "NineteenSecondsLeftModel" "letters" "I") (List.mem_of_getElem? (i := 1) rfl)) rfl rfl dX5_letter_19 ?_
      refine g_bipush (v := 96) X (by decide) dX5_letter_22 ?_
      refine g_icmp_ne X 34 dX5_letter_24 (by decide) (fun c24 => ?_) (fun c24 => ?_)
      · have heq := heq.trans (if_neg c24)
        refine g_aload_n X 0 rfl rfl dX5_letter_34 ?_
        refine g_get (C := RX5) (T := TX5) (N := 26) (ci := 5) X hi_X5_letter_X5 0 rfl rfl 15 (by decide) (X.2.2.2.2.1 (.fieldLink RX5 31 "NineteenSecondsLeftModel" "letter" "[I") (List.mem_of_getElem? (i := 2) rfl)) rfl rfl dX5_letter_35 ?_
        refine g_aload_n X 0 rfl rfl dX5_letter_38 ?_
        refine g_dup X rfl dX5_letter_39 ?_
        refine g_get (C := RX5) (T := TX5) (N := 26) (ci := 5) X hi_X5_letter_X5 0 rfl rfl 14 (by decide) (X.2.2.2.2.1 (.fieldLink RX5 80 "NineteenSecondsLeftModel" "letters" "I") (List.mem_of_getElem? (i := 1) rfl)) rfl rfl dX5_letter_40 ?_
        refine g_dup_x1 X rfl rfl dX5_letter_43 ?_
        refine g_iconst (v := 1) X (by decide) dX5_letter_44 ?_
        refine g_iadd X dX5_letter_45 ?_
        refine g_put (C := RX5) (T := TX5) (N := 26) (ci := 5) (ws' := [(a_, .inr (5, [.int c_seconds, .int c_lead, .int c_ball, .ref a_fouls, .ref a_calls, .int c_rebound, .int c_law, .int c_draw, .int c_players, .ref a_side, .ref a_kind, .ref a_near, .ref a_far, .ref a_free, .int (c_letters + 1), .ref a_letter, .int c_at, .ref a_value, .int c_inRow, .ref a_row, .ref a_refusals, .int c_imaged, .ref a_image, .ref a_ahead, .ref a_guard, .ref a_worth])), (a_letter, .inl (cI, 96, .inl c_letter)), (a_refusals, .inl (cI, 7, .inl c_refusals))]) X hi_X5_letter_X5 tyX5 tyX5_ok nmX5 0 rfl rfl 14 (by decide) (X.2.2.2.2.1 (.fieldLink RX5 80 "NineteenSecondsLeftModel" "letters" "I") (List.mem_of_getElem? (i := 1) rfl)) rfl rfl rfl rfl (Nat.le_of_ble_eq_true rfl) dX5_letter_46 rfl ?_
        refine g_iload_n X 1 rfl rfl dX5_letter_49 ?_
        refine g_iast (ws' := [(a_, .inr (5, [.int c_seconds, .int c_lead, .int c_ball, .ref a_fouls, .ref a_calls, .int c_rebound, .int c_law, .int c_draw, .int c_players, .ref a_side, .ref a_kind, .ref a_near, .ref a_far, .ref a_free, .int (c_letters + 1), .ref a_letter, .int c_at, .ref a_value, .int c_inRow, .ref a_row, .ref a_refusals, .int c_imaged, .ref a_image, .ref a_ahead, .ref a_guard, .ref a_worth])), (a_letter, .inl (cI, 96, .inl (upd c_letter c_letters.toNatClampNeg p1))), (a_refusals, .inl (cI, 7, .inl c_refusals))]) X 1 rfl (g_vinNe (by decide) hl0 hl1 c24) dX5_letter_50 rfl ?_
        refine g_aload_n X 0 rfl rfl dX5_letter_51 ?_
        refine g_get (C := RX5) (T := TX5) (N := 26) (ci := 5) X hi_X5_letter_X5 0 rfl rfl 14 (by decide) (X.2.2.2.2.1 (.fieldLink RX5 80 "NineteenSecondsLeftModel" "letters" "I") (List.mem_of_getElem? (i := 1) rfl)) rfl rfl dX5_letter_52 ?_
        exact g_iret X hAA hQQ ((c_letters + 1), upd c_letter c_letters.toNatClampNeg p1, c_refusals) (heq.symm.trans hXX) [0, 1, 2] rfl rfl hr dX5_letter_55
      · have heq := heq.trans (if_pos c24)
        refine g_aload_n X 0 rfl rfl dX5_letter_27 ?_
        refine g_bipush (v := (-6)) X (by decide) dX5_letter_28 ?_
        refine g_callVi (C := RX5) (T := TX5) (N := 26) (ci := 5) (As := [.int (-6)]) (st := []) (wr := [(a_letter, .inl (cI, 96, .inl c_letter))]) X (k_X5_no l D cI kA kV a_ a_fouls a_calls a_side a_kind a_near a_far a_free a_letter a_value a_row a_refusals a_image a_ahead a_guard a_worth c_seconds c_lead c_ball c_rebound c_law c_draw c_players c_letters c_at c_inRow c_imaged c_refusals (-6) (by decide) (by decide)) (cwV 1 X.2.2.2.2.1 gX5_letter_X5_no rfl rfl rfl (by decide +kernel) ⟨Nat.le_of_ble_eq_true rfl, Nat.le_of_ble_eq_true rfl⟩) 0 rfl rfl [0, 2] [1] rfl rfl rfl rfl (by decide) rfl (Nat.le_of_ble_eq_true rfl) ⟨Nat.le_of_ble_eq_true rfl, Nat.le_of_ble_eq_true rfl⟩ dX5_letter_30 rfl (fun r30 u30 hw30 => ?_)
        refine g_eqs (ws' := [(a_letter, .inl (cI, 96, .inl c_letter)), (a_, .inr (5, [.int c_seconds, .int c_lead, .int c_ball, .ref a_fouls, .ref a_calls, .int c_rebound, .int c_law, .int c_draw, .int c_players, .ref a_side, .ref a_kind, .ref a_near, .ref a_far, .ref a_free, .int c_letters, .ref a_letter, .int c_at, .ref a_value, .int c_inRow, .ref a_row, .ref a_refusals, .int c_imaged, .ref a_image, .ref a_ahead, .ref a_guard, .ref a_worth])), (a_refusals, .inl (cI, 7, .inl u30))]) rfl ?_
        have heq := g_let2 heq hw30
        exact g_iret X hAA hQQ (c_letters, c_letter, u30) (heq.symm.trans hXX) [1, 0, 2] rfl rfl hr dX5_letter_33
  · have heq := heq.trans (if_neg c1)
    refine g_aload_n X 0 rfl rfl dX5_letter_4 ?_
    refine g_bipush (v := (-4)) X (by decide) dX5_letter_5 ?_
    refine g_callVi (C := RX5) (T := TX5) (N := 26) (ci := 5) (As := [.int (-4)]) (st := []) (wr := [(a_letter, .inl (cI, 96, .inl c_letter))]) X (k_X5_no l D cI kA kV a_ a_fouls a_calls a_side a_kind a_near a_far a_free a_letter a_value a_row a_refusals a_image a_ahead a_guard a_worth c_seconds c_lead c_ball c_rebound c_law c_draw c_players c_letters c_at c_inRow c_imaged c_refusals (-4) (by decide) (by decide)) (cwV 1 X.2.2.2.2.1 gX5_letter_X5_no rfl rfl rfl (by decide +kernel) ⟨Nat.le_of_ble_eq_true rfl, Nat.le_of_ble_eq_true rfl⟩) 0 rfl rfl [0, 2] [1] rfl rfl rfl rfl (by decide) rfl (Nat.le_of_ble_eq_true rfl) ⟨Nat.le_of_ble_eq_true rfl, Nat.le_of_ble_eq_true rfl⟩ dX5_letter_7 rfl (fun r7 u7 hw7 => ?_)
    refine g_eqs (ws' := [(a_letter, .inl (cI, 96, .inl c_letter)), (a_, .inr (5, [.int c_seconds, .int c_lead, .int c_ball, .ref a_fouls, .ref a_calls, .int c_rebound, .int c_law, .int c_draw, .int c_players, .ref a_side, .ref a_kind, .ref a_near, .ref a_far, .ref a_free, .int c_letters, .ref a_letter, .int c_at, .ref a_value, .int c_inRow, .ref a_row, .ref a_refusals, .int c_imaged, .ref a_image, .ref a_ahead, .ref a_guard, .ref a_worth])), (a_refusals, .inl (cI, 7, .inl u7))]) rfl ?_
    have heq := g_let2 heq hw7
    exact g_iret X hAA hQQ (c_letters, c_letter, u7) (heq.symm.trans hXX) [1, 0, 2] rfl rfl hr dX5_letter_10

theorem hi_X5_is_X5 : ∀ w ∈ wsX50, w ∈ wsX5_is := fun w h => List.mem_cons_of_mem _ (List.mem_append_right _ (h))
def f_X5_is (c_letters : Int32) (c_at : Int32) (c_letter : Nat → Int32) (p1 : Int32) : Int32 × (Int32) :=
  (if c_at = c_letters then (0, c_at) else (if c_letter c_at.toNatClampNeg = p1 then (1, (c_at + 1)) else (0, c_at)))
set_option maxHeartbeats 4000000 in
set_option maxRecDepth 100000 in
theorem k_X5_is (l : Launch) (D : va_G) (cI : ClassId) (kA kV : Nat → Nat) (a_ a_fouls a_calls a_side a_kind a_near a_far a_free a_letter a_value a_row a_refusals a_image a_ahead a_guard a_worth : Nat) (c_seconds : Int32) (c_lead : Int32) (c_ball : Int32) (c_rebound : Int32) (c_law : Int32) (c_draw : Int32) (c_players : Int32) (c_letters : Int32) (c_at : Int32) (c_inRow : Int32) (c_imaged : Int32) (c_letter : Nat → Int32) (p1 : Int32) (ha : m_A c_at c_letters) :
    g_MI l D cI kA kV yX5_is wsX5_is { frames := 0, cells := 0, slots := 0, locals := 0 } [.ref a_, .int p1] [(a_, .inr (5, [.int c_seconds, .int c_lead, .int c_ball, .ref a_fouls, .ref a_calls, .int c_rebound, .int c_law, .int c_draw, .int c_players, .ref a_side, .ref a_kind, .ref a_near, .ref a_far, .ref a_free, .int c_letters, .ref a_letter, .int c_at, .ref a_value, .int c_inRow, .ref a_row, .ref a_refusals, .int c_imaged, .ref a_image, .ref a_ahead, .ref a_guard, .ref a_worth])), (a_letter, .inl (cI, 96, .inl c_letter))] (fun u : (Int32) => [(a_, .inr (5, [.int c_seconds, .int c_lead, .int c_ball, .ref a_fouls, .ref a_calls, .int c_rebound, .int c_law, .int c_draw, .int c_players, .ref a_side, .ref a_kind, .ref a_near, .ref a_far, .ref a_free, .int c_letters, .ref a_letter, .int u, .ref a_value, .int c_inRow, .ref a_row, .ref a_refusals, .int c_imaged, .ref a_image, .ref a_ahead, .ref a_guard, .ref a_worth])), (a_letter, .inl (cI, 96, .inl c_letter))]) (fun (r : Int32) (u : (Int32)) => (r, u) = f_X5_is c_letters c_at c_letter p1) := by
  obtain ⟨XX, hXX⟩ : ∃ z, z = f_X5_is c_letters c_at c_letter p1 := ⟨_, rfl⟩
  have heq := hXX.trans (f_X5_is.eq_def c_letters c_at c_letter p1)
  refine g_startI (lv := [(0, .ref a_), (1, .int p1)]) RX5 rfl rfl rfl (Nat.le_of_ble_eq_true rfl) rfl (fun p e s m args below meth c AA QQ hAA hQQ X hr hmn => ?_)
  refine g_aload_n X 0 rfl rfl dX5_is_0 ?_
  refine g_get (C := RX5) (T := TX5) (N := 26) (ci := 5) X hi_X5_is_X5 0 rfl rfl 16 (by decide) (X.2.2.2.2.1 (.fieldLink RX5 83 "NineteenSecondsLeftModel" "at" "I") (List.mem_of_getElem? (i := 1) rfl)) rfl rfl dX5_is_1 ?_
  refine g_aload_n X 0 rfl rfl dX5_is_4 ?_
  refine g_get (C := RX5) (T := TX5) (N := 26) (ci := 5) X hi_X5_is_X5 0 rfl rfl 14 (by decide) (X.2.2.2.2.1 (.fieldLink RX5 80 "NineteenSecondsLeftModel" "letters" "I") (List.mem_of_getElem? (i := 2) rfl)) rfl rfl dX5_is_5 ?_
  refine g_icmp_eq X 24 dX5_is_8 (by decide) (fun c8 => ?_) (fun c8 => ?_)
  · have heq := heq.trans (if_pos c8)
    refine g_iconst (v := 0) X (by decide) dX5_is_24 ?_
    exact g_zret X hAA hQQ c_at (heq.symm.trans hXX) [0, 1] rfl rfl hr rfl dX5_is_25
  · have heq := heq.trans (if_neg c8)
    refine g_aload_n X 0 rfl rfl dX5_is_11 ?_
    refine g_get (C := RX5) (T := TX5) (N := 26) (ci := 5) X hi_X5_is_X5 0 rfl rfl 15 (by decide) (X.2.2.2.2.1 (.fieldLink RX5 31 "NineteenSecondsLeftModel" "letter" "[I") (List.mem_of_getElem? (i := 3) rfl)) rfl rfl dX5_is_12 ?_
    refine g_aload_n X 0 rfl rfl dX5_is_15 ?_
    refine g_get (C := RX5) (T := TX5) (N := 26) (ci := 5) X hi_X5_is_X5 0 rfl rfl 16 (by decide) (X.2.2.2.2.1 (.fieldLink RX5 83 "NineteenSecondsLeftModel" "at" "I") (List.mem_of_getElem? (i := 1) rfl)) rfl rfl dX5_is_16 ?_
    refine g_iald X 1 rfl (ha.vin c8) dX5_is_19 ?_
    refine g_iload_n X 1 rfl rfl dX5_is_20 ?_
    refine g_icmp_eq X 26 dX5_is_21 (by decide) (fun c21 => ?_) (fun c21 => ?_)
    · have heq := heq.trans (if_pos c21)
      refine g_aload_n X 0 rfl rfl dX5_is_26 ?_
      refine g_dup X rfl dX5_is_27 ?_
      refine g_get (C := RX5) (T := TX5) (N := 26) (ci := 5) X hi_X5_is_X5 0 rfl rfl 16 (by decide) (X.2.2.2.2.1 (.fieldLink RX5 83 "NineteenSecondsLeftModel" "at" "I") (List.mem_of_getElem? (i := 1) rfl)) rfl rfl dX5_is_28 ?_
      refine g_iconst (v := 1) X (by decide) dX5_is_31 ?_
      refine g_iadd X dX5_is_32 ?_
      refine g_put (C := RX5) (T := TX5) (N := 26) (ci := 5) (ws' := [(a_, .inr (5, [.int c_seconds, .int c_lead, .int c_ball, .ref a_fouls, .ref a_calls, .int c_rebound, .int c_law, .int c_draw, .int c_players, .ref a_side, .ref a_kind, .ref a_near, .ref a_far, .ref a_free, .int c_letters, .ref a_letter, .int (c_at + 1), .ref a_value, .int c_inRow, .ref a_row, .ref a_refusals, .int c_imaged, .ref a_image, .ref a_ahead, .ref a_guard, .ref a_worth])), (a_letter, .inl (cI, 96, .inl c_letter))]) X hi_X5_is_X5 tyX5 tyX5_ok nmX5 0 rfl rfl 16 (by decide) (X.2.2.2.2.1 (.fieldLink RX5 83 "NineteenSecondsLeftModel" "at" "I") (List.mem_of_getElem? (i := 1) rfl)) rfl rfl rfl rfl (Nat.le_of_ble_eq_true rfl) dX5_is_33 rfl ?_
      refine g_iconst (v := 1) X (by decide) dX5_is_36 ?_
      exact g_zret X hAA hQQ (c_at + 1) (heq.symm.trans hXX) [0, 1] rfl rfl hr rfl dX5_is_37
    · have heq := heq.trans (if_neg c21)
      refine g_iconst (v := 0) X (by decide) dX5_is_24 ?_
      exact g_zret X hAA hQQ c_at (heq.symm.trans hXX) [0, 1] rfl rfl hr rfl dX5_is_25

theorem hi_X5_digits_X5 : ∀ w ∈ wsX50, w ∈ wsX5_digits := fun w h => List.mem_cons_of_mem _ (List.mem_append_right _ (h))
def L_X5_digits_2 (v1 : Int32) (v2 : Int32) (c_letters : Int32) (c_letter : Nat → Int32) (K : (Int32) → (Int32) → (Nat → Int32) → Int32 × (Int32) × (Nat → Int32)) : Nat → (Int32) → (Int32) → (Nat → Int32) → Int32 × (Int32) × (Nat → Int32)
  | 0, v3_2, c_at_2, c_value_2 => K v3_2 c_at_2 c_value_2
  | n + 1, v3_2, c_at_2, c_value_2 => (if v1 + v2 ≤ v3_2 then K v3_2 c_at_2 c_value_2 else (if c_at_2 = c_letters then (0, c_at_2, c_value_2) else (if c_letter c_at_2.toNatClampNeg < 48 then (0, c_at_2, c_value_2) else (if c_letter c_at_2.toNatClampNeg ≤ 57 then L_X5_digits_2 v1 v2 c_letters c_letter K n (v3_2 + 1) (c_at_2 + 1) (upd c_value_2 v3_2.toNatClampNeg ((c_letter c_at_2.toNatClampNeg) - 48)) else (0, c_at_2, c_value_2)))))
def f_X5_digits (c_letters : Int32) (c_at : Int32) (c_letter : Nat → Int32) (c_value : Nat → Int32) (p1 : Int32) (p2 : Int32) : Int32 × (Int32) × (Nat → Int32) :=
  L_X5_digits_2 p1 p2 c_letters c_letter (fun v3_2 c_at_2 c_value_2 => (1, c_at_2, c_value_2)) ((((p1 + p2) : Int32).toInt - (p1 : Int32).toInt).toNat + 1) p1 c_at c_value
set_option maxHeartbeats 4000000 in
set_option maxRecDepth 100000 in
theorem k_X5_digits (l : Launch) (D : va_G) (cI : ClassId) (kA kV : Nat → Nat) (a_ a_fouls a_calls a_side a_kind a_near a_far a_free a_letter a_value a_row a_refusals a_image a_ahead a_guard a_worth : Nat) (c_seconds : Int32) (c_lead : Int32) (c_ball : Int32) (c_rebound : Int32) (c_law : Int32) (c_draw : Int32) (c_players : Int32) (c_letters : Int32) (c_at : Int32) (c_inRow : Int32) (c_imaged : Int32) (c_letter : Nat → Int32) (c_value : Nat → Int32) (p1 : Int32) (p2 : Int32) (ha : m_A c_at c_letters) (hf0 : 0 ≤ p1) (hf1 : p1 + p2 ≤ 4) :
    g_MI l D cI kA kV yX5_digits wsX5_digits { frames := 0, cells := 0, slots := 0, locals := 0 } [.ref a_, .int p1, .int p2] [(a_, .inr (5, [.int c_seconds, .int c_lead, .int c_ball, .ref a_fouls, .ref a_calls, .int c_rebound, .int c_law, .int c_draw, .int c_players, .ref a_side, .ref a_kind, .ref a_near, .ref a_far, .ref a_free, .int c_letters, .ref a_letter, .int c_at, .ref a_value, .int c_inRow, .ref a_row, .ref a_refusals, .int c_imaged, .ref a_image, .ref a_ahead, .ref a_guard, .ref a_worth])), (a_letter, .inl (cI, 96, .inl c_letter)), (a_value, .inl (cI, 4, .inl c_value))] (fun u : (Int32) × (Nat → Int32) => [(a_, .inr (5, [.int c_seconds, .int c_lead, .int c_ball, .ref a_fouls, .ref a_calls, .int c_rebound, .int c_law, .int c_draw, .int c_players, .ref a_side, .ref a_kind, .ref a_near, .ref a_far, .ref a_free, .int c_letters, .ref a_letter, .int u.1, .ref a_value, .int c_inRow, .ref a_row, .ref a_refusals, .int c_imaged, .ref a_image, .ref a_ahead, .ref a_guard, .ref a_worth])), (a_letter, .inl (cI, 96, .inl c_letter)), (a_value, .inl (cI, 4, .inl u.2))]) (fun (r : Int32) (u : (Int32) × (Nat → Int32)) => (r, u) = f_X5_digits c_letters c_at c_letter c_value p1 p2) := by
  obtain ⟨XX, hXX⟩ : ∃ z, z = f_X5_digits c_letters c_at c_letter c_value p1 p2 := ⟨_, rfl⟩
  have heq := hXX.trans (f_X5_digits.eq_def c_letters c_at c_letter c_value p1 p2)
  refine g_startI (lv := [(0, .ref a_), (1, .int p1), (2, .int p2)]) RX5 rfl rfl rfl (Nat.le_of_ble_eq_true rfl) rfl (fun p e s m args below meth c AA QQ hAA hQQ X hr hmn => ?_)
  refine g_iload_n X 1 rfl rfl dX5_digits_0 ?_
  refine g_istore_n (lv' := [(3, .int p1), (0, .ref a_), (1, .int p1), (2, .int p2)]) X rfl (by decide) rfl dX5_digits_1 ?_
  have lp2 : ∀ (K : (Int32) → (Int32) → (Nat → Int32) → Int32 × (Int32) × (Nat → Int32)), (∀ (v3_2 : Int32) (c_at_2 : Int32) (c_value_2 : Nat → Int32), XX = K v3_2 c_at_2 c_value_2 → GG p l e { frames := 0, cells := 0, slots := 0, locals := 0 } s m args below meth c D AA 0 0 QQ 4 [(a_, .inr (5, [.int c_seconds, .int c_lead, .int c_ball, .ref a_fouls, .ref a_calls, .int c_rebound, .int c_law, .int c_draw, .int c_players, .ref a_side, .ref a_kind, .ref a_near, .ref a_far, .ref a_free, .int c_letters, .ref a_letter, .int c_at_2, .ref a_value, .int c_inRow, .ref a_row, .ref a_refusals, .int c_imaged, .ref a_image, .ref a_ahead, .ref a_guard, .ref a_worth])), (a_letter, .inl (cI, 96, .inl c_letter)), (a_value, .inl (cI, 4, .inl c_value_2))] [(3, .int v3_2), (0, .ref a_), (1, .int p1), (2, .int p2)] 81 []) → ∀ (n : Nat) (v3_2 : Int32) (c_at_2 : Int32) (c_value_2 : Nat → Int32), (((p1 + p2) : Int32).toInt - (v3_2 : Int32).toInt).toNat < n → 0 ≤ v3_2 → m_A c_at_2 c_letters → XX = L_X5_digits_2 p1 p2 c_letters c_letter K n v3_2 c_at_2 c_value_2 → GG p l e { frames := 0, cells := 0, slots := 0, locals := 0 } s m args below meth c D AA 0 0 QQ 4 [(a_, .inr (5, [.int c_seconds, .int c_lead, .int c_ball, .ref a_fouls, .ref a_calls, .int c_rebound, .int c_law, .int c_draw, .int c_players, .ref a_side, .ref a_kind, .ref a_near, .ref a_far, .ref a_free, .int c_letters, .ref a_letter, .int c_at_2, .ref a_value, .int c_inRow, .ref a_row, .ref a_refusals, .int c_imaged, .ref a_image, .ref a_ahead, .ref a_guard, .ref a_worth])), (a_letter, .inl (cI, 96, .inl c_letter)), (a_value, .inl (cI, 4, .inl c_value_2))] [(3, .int v3_2), (0, .ref a_), (1, .int p1), (2, .int p2)] 2 [] := by
    intro K hK n
    induction n with
    | zero => intro v3_2 c_at_2 c_value_2 hm2; exact absurd hm2 (Nat.not_lt_zero _)
    | succ n ih2 =>
      intro v3_2 c_at_2 c_value_2 hm2 hv2_0 hv2_1 heq
      have heq := heq.trans (L_X5_digits_2.eq_2 _ _ _ _ _ _ _ _ _ )
      refine g_iload_n X 0 rfl rfl dX5_digits_2 ?_
      refine g_iload_n X 2 rfl rfl dX5_digits_3 ?_
      refine g_iload_n X 3 rfl rfl dX5_digits_4 ?_
      refine g_iadd X dX5_digits_5 ?_
      refine g_icmp_ge X 81 dX5_digits_6 (by decide) (fun c6 => ?_) (fun c6 => ?_)
      · have heq := heq.trans (if_pos c6)
        exact hK v3_2 c_at_2 c_value_2 heq
      · have heq := heq.trans (if_neg c6)
        refine g_aload_n X 1 rfl rfl dX5_digits_9 ?_
        refine g_get (C := RX5) (T := TX5) (N := 26) (ci := 5) X hi_X5_digits_X5 0 rfl rfl 16 (by decide) (X.2.2.2.2.1 (.fieldLink RX5 83 "NineteenSecondsLeftModel" "at" "I") (List.mem_of_getElem? (i := 1) rfl)) rfl rfl dX5_digits_10 ?_
        refine g_aload_n X 1 rfl rfl dX5_digits_13 ?_
        refine g_get (C := RX5) (T := TX5) (N := 26) (ci := 5) X hi_X5_digits_X5 0 rfl rfl 14 (by decide) (X.2.2.2.2.1 (.fieldLink RX5 80 "NineteenSecondsLeftModel" "letters" "I") (List.mem_of_getElem? (i := 2) rfl)) rfl rfl dX5_digits_14 ?_
        refine g_icmp_eq X 48 dX5_digits_17 (by decide) (fun c17 => ?_) (fun c17 => ?_)
        · have heq := heq.trans (if_pos c17)
          refine g_iconst (v := 0) X (by decide) dX5_digits_48 ?_
          exact g_zret X hAA hQQ (c_at_2, c_value_2) (heq.symm.trans hXX) [0, 1, 2] rfl rfl hr rfl dX5_digits_49
        · have heq := heq.trans (if_neg c17)
          refine g_aload_n X 1 rfl rfl dX5_digits_20 ?_
          refine g_get (C := RX5) (T := TX5) (N := 26) (ci := 5) X hi_X5_digits_X5 0 rfl rfl 15 (by decide) (X.2.2.2.2.1 (.fieldLink RX5 31 "NineteenSecondsLeftModel" "letter" "[I") (List.mem_of_getElem? (i := 3) rfl)) rfl rfl dX5_digits_21 ?_
          refine g_aload_n X 1 rfl rfl dX5_digits_24 ?_
          refine g_get (C := RX5) (T := TX5) (N := 26) (ci := 5) X hi_X5_digits_X5 0 rfl rfl 16 (by decide) (X.2.2.2.2.1 (.fieldLink RX5 83 "NineteenSecondsLeftModel" "at" "I") (List.mem_of_getElem? (i := 1) rfl)) rfl rfl dX5_digits_25 ?_
          refine g_iald X 1 rfl (hv2_1.vin c17) dX5_digits_28 ?_
          refine g_bipush (v := 48) X (by decide) dX5_digits_29 ?_
          refine g_icmp_lt X 48 dX5_digits_31 (by decide) (fun c31 => ?_) (fun c31 => ?_)
          · have heq := heq.trans (if_pos c31)
            refine g_iconst (v := 0) X (by decide) dX5_digits_48 ?_
            exact g_zret X hAA hQQ (c_at_2, c_value_2) (heq.symm.trans hXX) [0, 1, 2] rfl rfl hr rfl dX5_digits_49
          · have heq := heq.trans (if_neg c31)
            refine g_aload_n X 1 rfl rfl dX5_digits_34 ?_
            refine g_get (C := RX5) (T := TX5) (N := 26) (ci := 5) X hi_X5_digits_X5 0 rfl rfl 15 (by decide) (X.2.2.2.2.1 (.fieldLink RX5 31 "NineteenSecondsLeftModel" "letter" "[I") (List.mem_of_getElem? (i := 3) rfl)) rfl rfl dX5_digits_35 ?_
            refine g_aload_n X 1 rfl rfl dX5_digits_38 ?_
            refine g_get (C := RX5) (T := TX5) (N := 26) (ci := 5) X hi_X5_digits_X5 0 rfl rfl 16 (by decide) (X.2.2.2.2.1 (.fieldLink RX5 83 "NineteenSecondsLeftModel" "at" "I") (List.mem_of_getElem? (i := 1) rfl)) rfl rfl dX5_digits_39 ?_
            refine g_iald X 1 rfl (hv2_1.vin c17) dX5_digits_42 ?_
            refine g_bipush (v := 57) X (by decide) dX5_digits_43 ?_
            refine g_icmp_le X 50 dX5_digits_45 (by decide) (fun c45 => ?_) (fun c45 => ?_)
            · have heq := heq.trans (if_pos c45)
              refine g_aload_n X 1 rfl rfl dX5_digits_50 ?_
              refine g_get (C := RX5) (T := TX5) (N := 26) (ci := 5) X hi_X5_digits_X5 0 rfl rfl 17 (by decide) (X.2.2.2.2.1 (.fieldLink RX5 34 "NineteenSecondsLeftModel" "value" "[I") (List.mem_of_getElem? (i := 4) rfl)) rfl rfl dX5_digits_51 ?_
              refine g_iload_n X 0 rfl rfl dX5_digits_54 ?_
              refine g_aload_n X 1 rfl rfl dX5_digits_55 ?_
              refine g_get (C := RX5) (T := TX5) (N := 26) (ci := 5) X hi_X5_digits_X5 0 rfl rfl 15 (by decide) (X.2.2.2.2.1 (.fieldLink RX5 31 "NineteenSecondsLeftModel" "letter" "[I") (List.mem_of_getElem? (i := 3) rfl)) rfl rfl dX5_digits_56 ?_
              refine g_aload_n X 1 rfl rfl dX5_digits_59 ?_
              refine g_dup X rfl dX5_digits_60 ?_
              refine g_get (C := RX5) (T := TX5) (N := 26) (ci := 5) X hi_X5_digits_X5 0 rfl rfl 16 (by decide) (X.2.2.2.2.1 (.fieldLink RX5 83 "NineteenSecondsLeftModel" "at" "I") (List.mem_of_getElem? (i := 1) rfl)) rfl rfl dX5_digits_61 ?_
              refine g_dup_x1 X rfl rfl dX5_digits_64 ?_
              refine g_iconst (v := 1) X (by decide) dX5_digits_65 ?_
              refine g_iadd X dX5_digits_66 ?_
              refine g_put (C := RX5) (T := TX5) (N := 26) (ci := 5) (ws' := [(a_, .inr (5, [.int c_seconds, .int c_lead, .int c_ball, .ref a_fouls, .ref a_calls, .int c_rebound, .int c_law, .int c_draw, .int c_players, .ref a_side, .ref a_kind, .ref a_near, .ref a_far, .ref a_free, .int c_letters, .ref a_letter, .int (c_at_2 + 1), .ref a_value, .int c_inRow, .ref a_row, .ref a_refusals, .int c_imaged, .ref a_image, .ref a_ahead, .ref a_guard, .ref a_worth])), (a_letter, .inl (cI, 96, .inl c_letter)), (a_value, .inl (cI, 4, .inl c_value_2))]) X hi_X5_digits_X5 tyX5 tyX5_ok nmX5 0 rfl rfl 16 (by decide) (X.2.2.2.2.1 (.fieldLink RX5 83 "NineteenSecondsLeftModel" "at" "I") (List.mem_of_getElem? (i := 1) rfl)) rfl rfl rfl rfl (Nat.le_of_ble_eq_true rfl) dX5_digits_67 rfl ?_
              refine g_iald X 1 rfl (hv2_1.vin c17) dX5_digits_70 ?_
              refine g_bipush (v := 48) X (by decide) dX5_digits_71 ?_
              refine g_isub X dX5_digits_73 ?_
              refine g_iast (ws' := [(a_, .inr (5, [.int c_seconds, .int c_lead, .int c_ball, .ref a_fouls, .ref a_calls, .int c_rebound, .int c_law, .int c_draw, .int c_players, .ref a_side, .ref a_kind, .ref a_near, .ref a_far, .ref a_free, .int c_letters, .ref a_letter, .int (c_at_2 + 1), .ref a_value, .int c_inRow, .ref a_row, .ref a_refusals, .int c_imaged, .ref a_image, .ref a_ahead, .ref a_guard, .ref a_worth])), (a_letter, .inl (cI, 96, .inl c_letter)), (a_value, .inl (cI, 4, .inl (upd c_value_2 v3_2.toNatClampNeg ((c_letter c_at_2.toNatClampNeg) - 48))))]) X 2 rfl (g_vinQ (by decide) hv2_0 c6 hf1) dX5_digits_74 rfl ?_
              refine g_iinc (v := v3_2 + 1) (lv' := [(3, .int (v3_2 + 1)), (0, .ref a_), (1, .int p1), (2, .int p2)]) X 0 rfl rfl (by decide) rfl dX5_digits_75 ?_
              refine g_goto (tgt := 2) X (by decide) dX5_digits_78 ?_
              exact ih2 (v3_2 + 1) (c_at_2 + 1) (upd c_value_2 v3_2.toNatClampNeg ((c_letter c_at_2.toNatClampNeg) - 48)) (g_upm c6 hm2) (g_up0 hv2_0 c6) (hv2_1.succn c17) heq
            · have heq := heq.trans (if_neg c45)
              refine g_iconst (v := 0) X (by decide) dX5_digits_48 ?_
              exact g_zret X hAA hQQ (c_at_2, c_value_2) (heq.symm.trans hXX) [0, 1, 2] rfl rfl hr rfl dX5_digits_49
  refine lp2 _ (fun v3_2 c_at_2 c_value_2 heq => ?_) _ p1 c_at c_value (Nat.lt_succ_self _) hf0 ha heq
  refine g_iconst (v := 1) X (by decide) dX5_digits_81 ?_
  exact g_zret X hAA hQQ (c_at_2, c_value_2) (heq.symm.trans hXX) [0, 1, 2] rfl rfl hr rfl dX5_digits_82
