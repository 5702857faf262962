theorem p_ours0 (m : Nat) (hm : m ≤ 6) (side : Nat → Int32) (hs : ∀ q : Nat, q < m → ¬ side q = 0) : f_X5_ours (Int32.ofNat m) side = 0 := by
  have key : ∀ (k p : Nat) (v : Int32), p + k = m → L_X5_ours_4 (Int32.ofNat m) side (fun v1_4 v2_4 => v1_4) (k + 1) v (Int32.ofNat p) = v := by
    intro k
    induction k with
    | zero =>
      intro p v h
      rw [L_X5_ours_4, if_pos (by rw [show p = m by omega]; exact Int32.le_refl _)]
    | succ k ih =>
      intro p v h
      obtain ⟨e1, e2, e3⟩ := p_bd m p hm (by omega)
      rw [L_X5_ours_4, if_neg e1, e3, if_neg (hs p (by omega)), e2]
      exact ih (p + 1) v (by omega)
  unfold f_X5_ours
  rw [p_fu m hm]
  exact key m 0 0 (by omega)
theorem p_oursN (m : Nat) (hm : m ≤ 6) (side : Nat → Int32) (hs : ∀ q : Nat, q < m → side q = 0) : f_X5_ours (Int32.ofNat m) side = Int32.ofNat m := by
  have key : ∀ (k p : Nat) (v : Nat), p + k = m → v = p → L_X5_ours_4 (Int32.ofNat m) side (fun v1_4 v2_4 => v1_4) (k + 1) (Int32.ofNat v) (Int32.ofNat p) = Int32.ofNat (v + k) := by
    intro k
    induction k with
    | zero =>
      intro p v h hv
      rw [L_X5_ours_4, if_pos (by rw [show p = m by omega]; exact Int32.le_refl _), Nat.add_zero]
    | succ k ih =>
      intro p v h hv
      subst hv
      obtain ⟨e1, e2, e3⟩ := p_bd m v hm (by omega)
      rw [L_X5_ours_4, if_neg e1, e3, if_pos (hs v (by omega)), e2]
      rw [ih (v + 1) (v + 1) (by omega) rfl, show v + 1 + k = v + (k + 1) by omega]
  unfold f_X5_ours
  rw [p_fu m hm]
  have := key m 0 0 (by omega) rfl
  rw [Nat.zero_add] at this
  exact this
/-- ours and theirs are all -/
theorem p_both {size players : Int32} {facts side kind near far free : Nat → Int32} (h : size = players) (hP : m_P players) (hp : ∀ p : Nat, p < 6 → p_P facts side kind near far free p) :
    f_X3_ofSide size facts 1 + f_X5_ours players side = players := by
  subst h
  obtain ⟨m, rfl⟩ := pe_nat 6 hP.1 hP.2 (by decide)
  have key : ∀ (k p : Nat) (v w : Int32), p + k = m.val → L_X3_ofSide_4 1 (Int32.ofNat m) facts (fun v2_4 v3_4 => v2_4) (k + 1) v (Int32.ofNat p) + L_X5_ours_4 (Int32.ofNat m) side (fun v1_4 v2_4 => v1_4) (k + 1) w (Int32.ofNat p) = (v + w) + Int32.ofNat k := by
    intro k
    induction k with
    | zero =>
      intro p v w h
      have e : Int32.ofNat m ≤ Int32.ofNat p := by rw [show p = m.val by omega]; exact Int32.le_refl _
      rw [L_X3_ofSide_4, L_X5_ours_4, if_pos e, if_pos e, (by decide : Int32.ofNat 0 = 0), Int32.add_zero]
    | succ k ih =>
      intro p v w h
      have hm := m.isLt
      obtain ⟨e1, e2, e3⟩ := p_bd m.val p (by omega) (by omega)
      have f0 : f_X3_fact facts (Int32.ofNat p) 0 = side p := by rw [← (hp p (by omega)).1.1]; exact p_fact facts ⟨p, by omega⟩ 0
      have ek : Int32.ofNat (k + 1) = 1 + Int32.ofNat k := (by decide : ∀ k : Fin 7, Int32.ofNat (k.val + 1) = 1 + Int32.ofNat k) ⟨k, by omega⟩
      rw [L_X3_ofSide_4, L_X5_ours_4, if_neg e1, if_neg e1, p_lt, f0, e3, e2]
      rcases pe_b (hp p (by omega)).2.1 with hs | hs
      · rw [if_neg (by rw [hs]; decide), if_pos hs, ih (p + 1) _ _ (by omega), ek, Int32.add_zero, ← Int32.add_assoc v w 1, Int32.add_assoc (v + w) 1]
      · rw [if_pos hs, if_neg (by rw [hs]; decide), ih (p + 1) _ _ (by omega), ek, show v + 1 + w = v + w + 1 by rw [Int32.add_assoc, Int32.add_comm 1 w, ← Int32.add_assoc], Int32.add_assoc]
  unfold f_X3_ofSide f_X5_ours
  have ef := p_fu m.val (by have := m.isLt; omega)
  have k0 := key m.val 0 0 0 (by omega)
  rw [show Int32.ofNat 0 = (0 : Int32) from rfl] at k0
  rw [ef, k0, Int32.add_zero, Int32.zero_add]
theorem p_th {size players : Int32} {facts side kind near far free : Nat → Int32} (h : size = players) (hP : m_P players) (hp : ∀ p : Nat, p < 6 → p_P facts side kind near far free p) :
    (f_X3_ofSide size facts 1 = 0 ∧ f_X5_ours players side = players) ∨ (¬ f_X3_ofSide size facts 1 = 0 ∧ ¬ f_X5_ours players side = players) := by
  have hb := p_both h hP hp
  by_cases a : f_X3_ofSide size facts 1 = 0
  · rw [a, Int32.zero_add] at hb; exact Or.inl ⟨a, hb⟩
  · refine Or.inr ⟨a, fun b => a ?_⟩
    rw [b] at hb
    have := congrArg (fun z => z - players) hb
    simp only [Int32.add_sub_cancel, Int32.sub_self] at this
    exact this
theorem p_i0 (i : Nat) (hi : i < 6) : 0 ≤ Int32.ofNat i ∧ ¬ Int32.ofNat i = -9 := (by decide : ∀ i : Fin 6, 0 ≤ Int32.ofNat i ∧ ¬ Int32.ofNat i = -9) ⟨i, hi⟩
theorem p_n9 {a : Int32} (h : 0 ≤ a) : ¬ a = -9 := fun e => by rw [e] at h; exact absurd h (by decide)


set_option maxRecDepth 100000 in
set_option maxHeartbeats 1000000 in
theorem p_whomL {c_isKept : Int32} {c_numbersSize : Int32} {c_now_told : Nat → Int32} {c_now_squad_size : Int32} {c_now_squad_facts : Nat → Int32} {c_kept_told : Nat → Int32} {c_kept_squad_size : Int32} {c_kept_squad_facts : Nat → Int32} {c_letters_size : Int32} {c_letters_signs : Nat → Int32} {c_numbers : Nat → Int32} {c_refusals : Nat → Int32} {c_lamp_reboundTenths : Int32} {c_lamp_lawInForce : Int32} {c_lamp_drawTenths : Int32} {c_lamp_solvedRows : Int32} {c_lamp_squad_size : Int32} {c_lamp_squad_facts : Nat → Int32} {c_lamp_changes : Nat → Int32} {c_lamp_values : Nat → Int32} {c_lamp_bests : Nat → Int32} {d_seconds : Int32} {d_lead : Int32} {d_ball : Int32} {d_rebound : Int32} {d_law : Int32} {d_draw : Int32} {d_players : Int32} {d_letters : Int32} {d_inRow : Int32} {d_imaged : Int32} {d_fouls : Nat → Int32} {d_calls : Nat → Int32} {d_side : Nat → Int32} {d_kind : Nat → Int32} {d_near : Nat → Int32} {d_far : Nat → Int32} {d_free : Nat → Int32} {d_letter : Nat → Int32} {d_row : Nat → Int32} {d_refusals : Nat → Int32} {d_image : Nat → Int32} {d_guard : Nat → Int32} (hR : Rel c_isKept c_numbersSize c_now_told c_now_squad_size c_now_squad_facts c_kept_told c_kept_squad_size c_kept_squad_facts c_letters_size c_letters_signs c_numbers c_refusals c_lamp_reboundTenths c_lamp_lawInForce c_lamp_drawTenths c_lamp_solvedRows c_lamp_squad_size c_lamp_squad_facts c_lamp_changes c_lamp_values c_lamp_bests d_seconds d_lead d_ball d_rebound d_law d_draw d_players d_letters d_inRow d_imaged d_fouls d_calls d_side d_kind d_near d_far d_free d_letter d_row d_refusals d_image d_guard) (v1 : Int32) (R R' W0 : Nat → Int32) (m : Nat) (hm : m ≤ 6) (hpl : d_players = Int32.ofNat m) (h0 : f_X5_ended d_law d_seconds d_lead = 0) (K : Int32 → Int32 → Int32 → Int32 → (Nat → Int32) → (Nat → Int32) → (Nat → Int32) → (Nat → Int32) → (Nat → Int32) → Int32 × (Nat → Int32) × Int32 × (Nat → Int32) × (Nat → Int32) × (Nat → Int32) × (Nat → Int32) × (Nat → Int32)) (K' : Int32 → Int32 → Int32 → Int32 × (Nat → Int32) × (Nat → Int32)) : ∀ (j i : Nat) (a a' x n : Int32) (V B rT hv mv : Nat → Int32), i + j = m → ((a = -9 ∧ a' = -1 ∧ ∀ q : Nat, q < i → d_side q = 0) ∨ (a = a' ∧ 0 ≤ a)) → r_Sol d_rebound d_law d_draw d_players d_side d_kind d_near d_far d_free d_guard V B n →
    ∃ b b' y n' V' B' rT' hv' mv', L_X4_whom_52 v1 c_now_told c_now_squad_size c_now_squad_facts R c_lamp_reboundTenths c_lamp_lawInForce c_lamp_drawTenths c_lamp_squad_size c_lamp_squad_facts c_lamp_changes K (j + 1) a x (Int32.ofNat i) n V B rT hv mv = K b y (Int32.ofNat m) n' V' B' rT' hv' mv' ∧
      L_X5_whom_52 v1 d_seconds d_lead d_ball d_rebound d_law d_draw d_players d_fouls d_side d_kind d_near d_far d_free R' d_guard (f_X5_solve d_rebound d_law d_draw d_players d_side d_kind d_near d_far d_free d_guard W0) K' (j + 1) a' x (Int32.ofNat i) = K' b' y (Int32.ofNat m) ∧ r_Sol d_rebound d_law d_draw d_players d_side d_kind d_near d_far d_free d_guard V' B' n' ∧ ((b = -9 ∧ b' = -1 ∧ ∀ q : Nat, q < m → d_side q = 0) ∨ (b = b' ∧ 0 ≤ b))
  | 0, i, a, a', x, n, V, B, rT, hv, mv, h, ha, hs => by
      have e : i = m := by omega
      subst e
      have hsz := (r_sq hR).1
      refine ⟨a, a', x, n, V, B, rT, hv, mv, ?_, ?_, hs, ha⟩
      · rw [L_X4_whom_52, if_pos (by rw [hsz, hpl]; exact Int32.le_refl _)]
      · rw [L_X5_whom_52, if_pos (by rw [hpl]; exact Int32.le_refl _)]
  | j + 1, i, a, a', x, n, V, B, rT, hv, mv, h, ha, hs => by
      obtain ⟨hsz, hp⟩ := r_sq hR
      obtain ⟨e1, e2, e3⟩ := p_bd m i hm (by omega)
      have hi : i < 6 := by omega
      have f := hp i hi
      have f0 : f_X3_fact c_now_squad_facts (Int32.ofNat i) 0 = d_side i := by rw [← f.1.1]; exact p_fact c_now_squad_facts ⟨i, hi⟩ 0
      obtain ⟨t0, -⟩ := r_told hR
      obtain ⟨k0, -⟩ := p_t0 c_now_told
      obtain ⟨hS, -⟩ := r_rng hR
      have g4 : ¬ c_now_squad_size ≤ Int32.ofNat i := by rw [hsz, hpl]; exact e1
      have g5 : ¬ d_players ≤ Int32.ofNat i := by rw [hpl]; exact e1
      rw [L_X4_whom_52, L_X5_whom_52, if_neg g4, if_neg g5, p_lt, f0, e3]
      rcases pe_b f.2.1 with hq | hq
      · rw [if_neg (by rw [hq]; decide), if_pos hq, e2]
        refine p_whomL hR v1 R R' W0 m hm hpl h0 K K' j (i + 1) a a' x n V B rT hv mv (by omega) (ha.imp (fun z => ⟨z.1, z.2.1, fun q hq' => ?_⟩) id) hs
        rcases Nat.lt_succ_iff_lt_or_eq.1 hq' with hl | he
        · exact z.2.2 q hl
        · rw [he]; exact hq
      · have hs1 := p_sec1 hS.1 (p_end0 h0)
        obtain ⟨n1, V1, B1, rT1, hv1, mv1, g1, g2, -⟩ := p_two hR rT hv mv W0 hs ⟨i, hi⟩ (d_seconds - 1) 0 (-1) hs1.1 hs1.2 ⟨by decide, by decide⟩ (Or.inr ⟨hq, rfl⟩)
        dsimp only at g1
        obtain ⟨i0, i9⟩ := p_i0 i hi
        rw [if_pos hq, if_neg (by rw [hq]; decide), p_lt, k0, t0, g1, p_lt2, p_lt, e2]
        dsimp only
        rcases ha with ⟨ha1, ha2, -⟩ | ⟨ha1, ha2⟩
        · rw [if_pos ha1, if_pos (by rw [ha2]; decide)]
          exact p_whomL hR v1 R R' W0 m hm hpl h0 K K' j (i + 1) (Int32.ofNat i) (Int32.ofNat i) _ n1 V1 B1 rT1 hv1 mv1 (by omega) (Or.inr ⟨rfl, i0⟩) g2
        · rw [if_neg (p_n9 ha2), if_neg (show ¬ a' < 0 by rw [← ha1]; exact Int32.not_lt.2 ha2)]
          by_cases hx : f_X5_twoFree d_seconds d_lead d_kind d_near d_far d_free (f_X5_solve d_rebound d_law d_draw d_players d_side d_kind d_near d_far d_free d_guard W0) (Int32.ofNat i) (d_seconds - 1) (-1) 0 ≤ x
          · rw [if_pos hx, if_neg (Int32.not_lt.2 hx)]
            exact p_whomL hR v1 R R' W0 m hm hpl h0 K K' j (i + 1) a a' x n1 V1 B1 rT1 hv1 mv1 (by omega) (Or.inr ⟨ha1, ha2⟩) g2
          · rw [if_neg hx, if_pos (Int32.not_le.1 hx)]
            exact p_whomL hR v1 R R' W0 m hm hpl h0 K K' j (i + 1) (Int32.ofNat i) (Int32.ofNat i) _ n1 V1 B1 rT1 hv1 mv1 (by omega) (Or.inr ⟨rfl, i0⟩) g2


theorem p_shotN {c_isKept : Int32} {c_numbersSize : Int32} {c_now_told : Nat → Int32} {c_now_squad_size : Int32} {c_now_squad_facts : Nat → Int32} {c_kept_told : Nat → Int32} {c_kept_squad_size : Int32} {c_kept_squad_facts : Nat → Int32} {c_letters_size : Int32} {c_letters_signs : Nat → Int32} {c_numbers : Nat → Int32} {c_refusals : Nat → Int32} {c_lamp_reboundTenths : Int32} {c_lamp_lawInForce : Int32} {c_lamp_drawTenths : Int32} {c_lamp_solvedRows : Int32} {c_lamp_squad_size : Int32} {c_lamp_squad_facts : Nat → Int32} {c_lamp_changes : Nat → Int32} {c_lamp_values : Nat → Int32} {c_lamp_bests : Nat → Int32} {d_seconds : Int32} {d_lead : Int32} {d_ball : Int32} {d_rebound : Int32} {d_law : Int32} {d_draw : Int32} {d_players : Int32} {d_letters : Int32} {d_inRow : Int32} {d_imaged : Int32} {d_fouls : Nat → Int32} {d_calls : Nat → Int32} {d_side : Nat → Int32} {d_kind : Nat → Int32} {d_near : Nat → Int32} {d_far : Nat → Int32} {d_free : Nat → Int32} {d_letter : Nat → Int32} {d_row : Nat → Int32} {d_refusals : Nat → Int32} {d_image : Nat → Int32} {d_guard : Nat → Int32} (hR : Rel c_isKept c_numbersSize c_now_told c_now_squad_size c_now_squad_facts c_kept_told c_kept_squad_size c_kept_squad_facts c_letters_size c_letters_signs c_numbers c_refusals c_lamp_reboundTenths c_lamp_lawInForce c_lamp_drawTenths c_lamp_solvedRows c_lamp_squad_size c_lamp_squad_facts c_lamp_changes c_lamp_values c_lamp_bests d_seconds d_lead d_ball d_rebound d_law d_draw d_players d_letters d_inRow d_imaged d_fouls d_calls d_side d_kind d_near d_far d_free d_letter d_row d_refusals d_image d_guard) (W0 : Nat → Int32) {n : Int32} {V B : Nat → Int32} (hs : r_Sol d_rebound d_law d_draw d_players d_side d_kind d_near d_far d_free d_guard V B n) (hlt : d_seconds < n) (h0 : f_X5_ended d_law d_seconds d_lead = 0) (q : Fin 6) (c : Fin 3) :
    f_X1_valueOfShot c_lamp_reboundTenths c_lamp_lawInForce c_lamp_drawTenths c_lamp_squad_facts c_lamp_changes V (Int32.ofNat q) (Int32.ofNat c) d_seconds d_lead = f_X5_ofShot d_rebound d_law d_draw d_kind d_near d_far d_free d_guard (f_X5_solve d_rebound d_law d_draw d_players d_side d_kind d_near d_far d_free d_guard W0) (Int32.ofNat q) (Int32.ofNat c) d_seconds d_lead 0 ∧
      p_V (f_X5_ofShot d_rebound d_law d_draw d_kind d_near d_far d_free d_guard (f_X5_solve d_rebound d_law d_draw d_players d_side d_kind d_near d_far d_free d_guard W0) (Int32.ofNat q) (Int32.ofNat c) d_seconds d_lead 0) := by
  obtain ⟨a1, a2, a3⟩ := r_par hR
  obtain ⟨hS, -, hr, -, hd⟩ := r_rng hR
  have hL := r_LR hR
  obtain ⟨C, hC⟩ := p_solve (law := d_law) hL hr hd W0
  have hsp := p_pos hS.1 (p_end0 h0)
  have hS0 : m_S d_seconds d_lead 0 := ⟨hS.1, hS.2.1, by decide, by decide⟩
  have hZ : p_Z d_draw (f_X5_solve d_rebound d_law d_draw d_players d_side d_kind d_near d_far d_free d_guard W0) := p_SolZ hC (by decide)
  have hA : p_Ag V (f_X5_solve d_rebound d_law d_draw d_players d_side d_kind d_near d_far d_free d_guard W0) d_seconds := fun s' l' b' h1 h2 => by
    have ag := p_agree hL hr hd W0 hs h1 (Int32.lt_trans h2 hlt)
    rw [p_at V h1, p_vof] at ag
    exact ⟨ag.1, ag.2.2⟩
  have od := p_od (changes := c_lamp_changes) (guard := d_guard) q d_seconds c (hL.2.2.1 q q.isLt) (hL.2.2.2 q q.isLt)
  have sc := p_shotc (reb := d_rebound) (law := d_law) (p := Int32.ofNat q) c hr hd hS0 hsp od.2 hA hZ
  refine ⟨?_, sc.2⟩
  unfold f_X1_valueOfShot
  rw [p_lt, p_lt, p_lt, p_lt, a1, a2, a3, od.1]
  exact sc.1


def p_mx (side sh : Nat → Int32) : Nat → Nat → Int32 → Int32
  | 0, _, a => a
  | j + 1, i, a => p_mx side sh j (i + 1) (if side i = 0 then g_maxf a (sh i) else a)
theorem p_mx0 (side sh : Nat → Int32) (h : ∀ q : Nat, q < 6 → p_V (sh q)) : ∀ (j i : Nat), i + j ≤ 6 → (∃ q : Nat, i ≤ q ∧ q < i + j ∧ side q = 0) → p_mx side sh j i 0 = p_mx side sh j i (-1)
  | 0, i, _, ⟨q, h1, h2, _⟩ => absurd h1 (by omega)
  | j + 1, i, hj, ⟨q, h1, h2, h3⟩ => by
      rw [p_mx, p_mx]
      by_cases hs : side i = 0
      · rw [if_pos hs, if_pos hs]
        have hv := (h i (by omega)).1
        have e1 : g_maxf 0 (sh i) = sh i := by
          unfold g_maxf
          by_cases z : 0 < sh i
          · rw [if_pos z]
          · rw [if_neg z]; exact Int32.le_antisymm hv (Int32.not_lt.1 z)
        have e2 : g_maxf (-1) (sh i) = sh i := by
          unfold g_maxf
          rw [if_pos (Int32.lt_of_lt_of_le (by decide) hv)]
        rw [e1, e2]
      · rw [if_neg hs, if_neg hs]
        refine p_mx0 side sh h j (i + 1) (by omega) ⟨q, ?_, by omega, h3⟩
        have : ¬ q = i := fun e => hs (by rw [← e]; exact h3)
        omega
set_option maxRecDepth 100000 in
set_option maxHeartbeats 1000000 in
theorem p_bestL {c_isKept : Int32} {c_numbersSize : Int32} {c_now_told : Nat → Int32} {c_now_squad_size : Int32} {c_now_squad_facts : Nat → Int32} {c_kept_told : Nat → Int32} {c_kept_squad_size : Int32} {c_kept_squad_facts : Nat → Int32} {c_letters_size : Int32} {c_letters_signs : Nat → Int32} {c_numbers : Nat → Int32} {c_refusals : Nat → Int32} {c_lamp_reboundTenths : Int32} {c_lamp_lawInForce : Int32} {c_lamp_drawTenths : Int32} {c_lamp_solvedRows : Int32} {c_lamp_squad_size : Int32} {c_lamp_squad_facts : Nat → Int32} {c_lamp_changes : Nat → Int32} {c_lamp_values : Nat → Int32} {c_lamp_bests : Nat → Int32} {d_seconds : Int32} {d_lead : Int32} {d_ball : Int32} {d_rebound : Int32} {d_law : Int32} {d_draw : Int32} {d_players : Int32} {d_letters : Int32} {d_inRow : Int32} {d_imaged : Int32} {d_fouls : Nat → Int32} {d_calls : Nat → Int32} {d_side : Nat → Int32} {d_kind : Nat → Int32} {d_near : Nat → Int32} {d_far : Nat → Int32} {d_free : Nat → Int32} {d_letter : Nat → Int32} {d_row : Nat → Int32} {d_refusals : Nat → Int32} {d_image : Nat → Int32} {d_guard : Nat → Int32} (hR : Rel c_isKept c_numbersSize c_now_told c_now_squad_size c_now_squad_facts c_kept_told c_kept_squad_size c_kept_squad_facts c_letters_size c_letters_signs c_numbers c_refusals c_lamp_reboundTenths c_lamp_lawInForce c_lamp_drawTenths c_lamp_solvedRows c_lamp_squad_size c_lamp_squad_facts c_lamp_changes c_lamp_values c_lamp_bests d_seconds d_lead d_ball d_rebound d_law d_draw d_players d_letters d_inRow d_imaged d_fouls d_calls d_side d_kind d_near d_far d_free d_letter d_row d_refusals d_image d_guard) (W0 : Nat → Int32) (m : Nat) (hm : m ≤ 6) (hpl : d_players = Int32.ofNat m) {n : Int32} {V B : Nat → Int32} (hs : r_Sol d_rebound d_law d_draw d_players d_side d_kind d_near d_far d_free d_guard V B n) (hlt : d_seconds < n) (h0 : f_X5_ended d_law d_seconds d_lead = 0) (c : Fin 3) (rT hv mv : Nat → Int32) (K : Int32 → Int32 → Int32 × Int32 × (Nat → Int32) × (Nat → Int32) × (Nat → Int32) × (Nat → Int32) × (Nat → Int32)) : ∀ (j i : Nat) (a : Int32), i + j = m →
    L_X4_bestOfOurs_22 (Int32.ofNat c) d_seconds c_now_told c_now_squad_size c_now_squad_facts c_lamp_reboundTenths c_lamp_lawInForce c_lamp_drawTenths n c_lamp_squad_size c_lamp_squad_facts c_lamp_changes V B rT hv mv K (j + 1) a (Int32.ofNat i) = K (p_mx d_side (fun q => f_X5_ofShot d_rebound d_law d_draw d_kind d_near d_far d_free d_guard (f_X5_solve d_rebound d_law d_draw d_players d_side d_kind d_near d_far d_free d_guard W0) (Int32.ofNat q) (Int32.ofNat c) d_seconds d_lead 0) j i a) (Int32.ofNat m)
  | 0, i, a, h => by
      have e : i = m := by omega
      subst e
      have hsz := (r_sq hR).1
      rw [L_X4_bestOfOurs_22, if_pos (by rw [hsz, hpl]; exact Int32.le_refl _)]; rfl
  | j + 1, i, a, h => by
      obtain ⟨hsz, hp⟩ := r_sq hR
      obtain ⟨e1, e2, e3⟩ := p_bd m i hm (by omega)
      have hi : i < 6 := by omega
      have f := hp i hi
      have f0 : f_X3_fact c_now_squad_facts (Int32.ofNat i) 0 = d_side i := by rw [← f.1.1]; exact p_fact c_now_squad_facts ⟨i, hi⟩ 0
      obtain ⟨t0, t1, -⟩ := r_told hR
      obtain ⟨k0, k1, -⟩ := p_t0 c_now_told
      have g4 : ¬ c_now_squad_size ≤ Int32.ofNat i := by rw [hsz, hpl]; exact e1
      have sN := (p_shotN hR W0 hs hlt h0 ⟨i, hi⟩ c).1
      dsimp only at sN
      rw [L_X4_bestOfOurs_22, if_neg g4, p_lt, f0, p_mx]
      by_cases hq : d_side i = 0
      · rw [if_pos hq, if_pos hq, p_lt, k1, t1, p_lt, sN, e2]
        exact p_bestL hR W0 m hm hpl hs hlt h0 c rT hv mv K j (i + 1) _ (by omega)
      · rw [if_neg hq, if_neg hq, e2]
        exact p_bestL hR W0 m hm hpl hs hlt h0 c rT hv mv K j (i + 1) _ (by omega)
theorem p_twoL (sec lead ball rb lw dr : Int32) (side kind near far free R guard W : Nat → Int32) (m : Nat) (hm : m ≤ 6) (hs : ∀ p : Nat, p < 6 → r_in (side p) 1) (K : Int32 → Int32 → Int32 → Int32 × (Nat → Int32) × (Nat → Int32)) : ∀ (j i : Nat) (a b : Int32), i + j = m →
    L_X5_twoOrThree_47 sec lead ball rb lw dr (Int32.ofNat m) side kind near far free R guard W K (j + 1) a b (Int32.ofNat i) = K (p_mx side (fun q => f_X5_ofShot rb lw dr kind near far free guard W (Int32.ofNat q) (Int32.ofNat (0 : Fin 3)) sec lead 0) j i a) (p_mx side (fun q => f_X5_ofShot rb lw dr kind near far free guard W (Int32.ofNat q) (Int32.ofNat (1 : Fin 3)) sec lead 0) j i b) (Int32.ofNat m)
  | 0, i, a, b, h => by
      have e : i = m := by omega
      subst e
      rw [L_X5_twoOrThree_47, if_pos (Int32.le_refl _)]; rfl
  | j + 1, i, a, b, h => by
      obtain ⟨e1, e2, e3⟩ := p_bd m i hm (by omega)
      rw [L_X5_twoOrThree_47, if_neg e1, e3, p_mx, p_mx, e2]
      rcases pe_b (hs i (by omega)) with hq | hq
      · rw [if_neg (by rw [hq]; decide), if_pos hq, if_pos hq, p_lt, p_lt]
        exact p_twoL sec lead ball rb lw dr side kind near far free R guard W m hm hs K j (i + 1) _ _ (by omega)
      · rw [if_pos hq, if_neg (by rw [hq]; decide), if_neg (by rw [hq]; decide)]
        exact p_twoL sec lead ball rb lw dr side kind near far free R guard W m hm hs K j (i + 1) _ _ (by omega)
theorem p_isOurs (m : Nat) (hm : m ≤ 6) (side : Nat → Int32) (h : ¬ f_X5_ours (Int32.ofNat m) side = 0) : ∃ q : Nat, 0 ≤ q ∧ q < 0 + m ∧ side q = 0 := by
  by_cases e : ∃ q : Nat, q < m ∧ side q = 0
  · obtain ⟨q, h1, h2⟩ := e; exact ⟨q, by omega, by omega, h2⟩
  · exact absurd (p_ours0 m hm side (fun q hq hs => e ⟨q, hq, hs⟩)) h
