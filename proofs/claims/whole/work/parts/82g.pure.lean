/-- the other lamp after it is started, by any guards of the told -/
theorem p_LRz {c_isKept : Int32} {c_numbersSize : Int32} {c_now_told : Nat → Int32} {c_now_squad_size : Int32} {c_now_squad_facts : Nat → Int32} {c_kept_told : Nat → Int32} {c_kept_squad_size : Int32} {c_kept_squad_facts : Nat → Int32} {c_letters_size : Int32} {c_letters_signs : Nat → Int32} {c_numbers : Nat → Int32} {c_refusals : Nat → Int32} {c_lamp_reboundTenths : Int32} {c_lamp_lawInForce : Int32} {c_lamp_drawTenths : Int32} {c_lamp_solvedRows : Int32} {c_lamp_squad_size : Int32} {c_lamp_squad_facts : Nat → Int32} {c_lamp_changes : Nat → Int32} {c_lamp_values : Nat → Int32} {c_lamp_bests : Nat → Int32} {d_seconds : Int32} {d_lead : Int32} {d_ball : Int32} {d_rebound : Int32} {d_law : Int32} {d_draw : Int32} {d_players : Int32} {d_letters : Int32} {d_inRow : Int32} {d_imaged : Int32} {d_fouls : Nat → Int32} {d_calls : Nat → Int32} {d_side : Nat → Int32} {d_kind : Nat → Int32} {d_near : Nat → Int32} {d_far : Nat → Int32} {d_free : Nat → Int32} {d_letter : Nat → Int32} {d_row : Nat → Int32} {d_refusals : Nat → Int32} {d_image : Nat → Int32} {d_guard : Nat → Int32} (hR : Rel c_isKept c_numbersSize c_now_told c_now_squad_size c_now_squad_facts c_kept_told c_kept_squad_size c_kept_squad_facts c_letters_size c_letters_signs c_numbers c_refusals c_lamp_reboundTenths c_lamp_lawInForce c_lamp_drawTenths c_lamp_solvedRows c_lamp_squad_size c_lamp_squad_facts c_lamp_changes c_lamp_values c_lamp_bests d_seconds d_lead d_ball d_rebound d_law d_draw d_players d_letters d_inRow d_imaged d_fouls d_calls d_side d_kind d_near d_far d_free d_letter d_row d_refusals d_image d_guard) (facts C' G : Nat → Int32) (hC : ∀ p : Nat, p < 6 → C' p = 0) (hG : ∀ p : Nat, p < 6 → G p = 0) :
    p_LR c_now_squad_size (g_cpy c_now_squad_facts facts 30) C' d_players d_side d_kind d_near d_far d_free G := by
  have h := p_LRs hR facts C' hC
  exact ⟨h.1, h.2.1, h.2.2.1, fun p hp => Or.inl ⟨hC p hp, hG p hp⟩⟩
theorem p_gz (G : Nat → Int32) (q : Nat) (x : Int32) (h : ∀ p : Nat, p < 6 → G p = 0) : ∀ p : Nat, p < 6 → upd (upd G q x) q 0 p = 0 := by
  intro p hp
  by_cases e : p = q
  · subst e; exact p_upd_same _ _ _
  · rw [p_upd_ne _ _ e, p_upd_ne _ _ e]; exact h p hp


set_option maxRecDepth 100000 in
set_option maxHeartbeats 1000000 in
theorem p_onL {c_isKept : Int32} {c_numbersSize : Int32} {c_now_told : Nat → Int32} {c_now_squad_size : Int32} {c_now_squad_facts : Nat → Int32} {c_kept_told : Nat → Int32} {c_kept_squad_size : Int32} {c_kept_squad_facts : Nat → Int32} {c_letters_size : Int32} {c_letters_signs : Nat → Int32} {c_numbers : Nat → Int32} {c_refusals : Nat → Int32} {c_lamp_reboundTenths : Int32} {c_lamp_lawInForce : Int32} {c_lamp_drawTenths : Int32} {c_lamp_solvedRows : Int32} {c_lamp_squad_size : Int32} {c_lamp_squad_facts : Nat → Int32} {c_lamp_changes : Nat → Int32} {c_lamp_values : Nat → Int32} {c_lamp_bests : Nat → Int32} {d_seconds : Int32} {d_lead : Int32} {d_ball : Int32} {d_rebound : Int32} {d_law : Int32} {d_draw : Int32} {d_players : Int32} {d_letters : Int32} {d_inRow : Int32} {d_imaged : Int32} {d_fouls : Nat → Int32} {d_calls : Nat → Int32} {d_side : Nat → Int32} {d_kind : Nat → Int32} {d_near : Nat → Int32} {d_far : Nat → Int32} {d_free : Nat → Int32} {d_letter : Nat → Int32} {d_row : Nat → Int32} {d_refusals : Nat → Int32} {d_image : Nat → Int32} {d_guard : Nat → Int32} (hR : Rel c_isKept c_numbersSize c_now_told c_now_squad_size c_now_squad_facts c_kept_told c_kept_squad_size c_kept_squad_facts c_letters_size c_letters_signs c_numbers c_refusals c_lamp_reboundTenths c_lamp_lawInForce c_lamp_drawTenths c_lamp_solvedRows c_lamp_squad_size c_lamp_squad_facts c_lamp_changes c_lamp_values c_lamp_bests d_seconds d_lead d_ball d_rebound d_law d_draw d_players d_letters d_inRow d_imaged d_fouls d_calls d_side d_kind d_near d_far d_free d_letter d_row d_refusals d_image d_guard) (m : Nat) (hm : m ≤ 6) (hpl : d_players = Int32.ofNat m) : ∀ (j i : Nat) (a a' x x' : Int32) (o1 o2 o3 o4 o5 : Int32) (o6 o7 o8 o9 o10 o11 o12 : Nat → Int32) (G W : Nat → Int32), i + j = m → ((a = -9 ∧ x' = -1 ∧ ∀ q : Nat, q < i → ¬ d_side q = 0) ∨ (a = a' ∧ 0 ≤ a ∧ x = x')) → (∀ p : Nat, p < 6 → G p = 0) →
    ∃ b b' u G' W', L_X4_on_25 c_now_told c_now_squad_size c_now_squad_facts (fun v1_25 v2_25 v3_25 z1 z2 z3 z4 z5 z6 z7 z8 z9 z10 z11 z12 => (v1_25, z1, z2, z3, z4, z5, z6, z7, z8, z9, z10, z11, z12)) (j + 1) a x (Int32.ofNat i) o1 o2 o3 o4 o5 o6 o7 o8 o9 o10 o11 o12 = (b, u) ∧
      L_X5_on_17 d_seconds d_lead d_ball d_rebound d_law d_draw d_players d_side d_kind d_near d_far d_free (fun v1_17 v2_17 v3_17 c_guard_17 c_worth_17 => (v1_17, c_guard_17, c_worth_17)) (j + 1) a' x' (Int32.ofNat i) G W = (b', G', W') ∧ (∀ p : Nat, p < 6 → G' p = 0) ∧ ((∀ q : Nat, q < m → ¬ d_side q = 0) ∨ b = b')
  | 0, i, a, a', x, x', o1, o2, o3, o4, o5, o6, o7, o8, o9, o10, o11, o12, G, W, h, ha, hG => by
      have e : i = m := by omega
      subst e
      have hsz := (r_sq hR).1
      refine ⟨a, a', (o1, o2, o3, o4, o5, o6, o7, o8, o9, o10, o11, o12), G, W, ?_, ?_, hG, ha.imp (fun z => z.2.2) (fun z => z.1)⟩
      · rw [L_X4_on_25, if_pos (by rw [hsz, hpl]; exact Int32.le_refl _)]
      · rw [L_X5_on_17, if_pos (by rw [hpl]; exact Int32.le_refl _)]
  | j + 1, i, a, a', x, x', o1, o2, o3, o4, o5, o6, o7, o8, o9, o10, o11, o12, G, W, h, ha, hG => by
      obtain ⟨hsz, hp⟩ := r_sq hR
      obtain ⟨e1, e2, e3⟩ := p_bd m i hm (by omega)
      have hi : i < 6 := by omega
      have f := hp i hi
      have f0 : f_X3_fact c_now_squad_facts (Int32.ofNat i) 0 = d_side i := by rw [← f.1.1]; exact p_fact c_now_squad_facts ⟨i, hi⟩ 0
      obtain ⟨hS, hP, hr, hlw, hd⟩ := r_rng hR
      obtain ⟨t0, t1, t2, t3, t4, t5, t6, t7, t8, t9⟩ := r_told hR
      have g4 : ¬ c_now_squad_size ≤ Int32.ofNat i := by rw [hsz, hpl]; exact e1
      have g5 : ¬ d_players ≤ Int32.ofNat i := by rw [hpl]; exact e1
      rw [L_X4_on_25, L_X5_on_17, if_neg g4, if_neg g5, p_lt, f0, e3]
      rcases pe_b f.2.1 with hq | hq
      · obtain ⟨C1, s1, z1⟩ := p_start o1 o2 o3 o4 o5 o6 o7 c_now_told c_now_squad_size c_now_squad_facts
        rw [t7, t8, t9] at s1
        have hL := p_LRg (p_LRz hR o6 C1 G z1 hG) i (c := 1) (g := 3) (Or.inr (Or.inl ⟨rfl, rfl⟩))
        obtain ⟨n1, V1, B1, rT1, hv1, mv1, g1, x1⟩ := p_nowO (reb := d_rebound) (law := d_law) (draw := d_draw) hL hr hd hS t0 t1 t2 o8 o9 o10 o11 o12 W
        have c0 : f_X1_change C1 (Int32.ofNat i) 1 = upd C1 i 1 := p_chg2 C1 ⟨i, hi⟩ 1
        obtain ⟨i0, i9⟩ := p_i0 i hi
        have hG2 := p_gz G i 3 hG
        rw [if_pos hq, if_neg (by rw [hq]; decide), p_lt, s1, p_lt]
        dsimp only
        rw [c0, g1, p_lt2, show f_X5_now d_seconds d_lead d_ball d_rebound d_law d_draw d_players d_side d_kind d_near d_far d_free (upd G i 3) W = (f_X5_valueOf (f_X5_solve d_rebound d_law d_draw d_players d_side d_kind d_near d_far d_free (upd G i 3) W) d_seconds d_lead d_ball, f_X5_solve d_rebound d_law d_draw d_players d_side d_kind d_near d_far d_free (upd G i 3) W) by unfold f_X5_now; rw [p_lt, p_lt], p_lt2, e2]
        dsimp only
        rcases ha with ⟨ha1, ha2, -⟩ | ⟨ha1, ha2, ha3⟩
        · rw [if_pos ha1, if_pos (Int32.lt_of_lt_of_le (by rw [ha2]; decide) x1.1)]
          exact p_onL hR m hm hpl j (i + 1) (Int32.ofNat i) (Int32.ofNat i) _ _ _ _ _ _ _ _ _ _ _ _ _ _ _ _ (by omega) (Or.inr ⟨rfl, i0, rfl⟩) hG2
        · rw [if_neg (p_n9 ha2)]
          by_cases hx : f_X5_valueOf (f_X5_solve d_rebound d_law d_draw d_players d_side d_kind d_near d_far d_free (upd G i 3) W) d_seconds d_lead d_ball ≤ x
          · rw [if_pos hx, if_neg (by rw [← ha3]; exact Int32.not_lt.2 hx)]
            exact p_onL hR m hm hpl j (i + 1) a a' x x' _ _ _ _ _ _ _ _ _ _ _ _ _ _ (by omega) (Or.inr ⟨ha1, ha2, ha3⟩) hG2
          · rw [if_neg hx, if_pos (by rw [← ha3]; exact Int32.not_le.1 hx)]
            exact p_onL hR m hm hpl j (i + 1) (Int32.ofNat i) (Int32.ofNat i) _ _ _ _ _ _ _ _ _ _ _ _ _ _ _ _ (by omega) (Or.inr ⟨rfl, i0, rfl⟩) hG2
      · rw [if_neg (by rw [hq]; decide), if_pos hq, e2]
        refine p_onL hR m hm hpl j (i + 1) a a' x x' o1 o2 o3 o4 o5 o6 o7 o8 o9 o10 o11 o12 G W (by omega) (ha.imp (fun z => ⟨z.1, z.2.1, fun q hq' => ?_⟩) id) hG
        rcases Nat.lt_succ_iff_lt_or_eq.1 hq' with hl | he
        · exact z.2.2 q hl
        · rw [he, hq]; decide


/-- another NEAR of a player -/
theorem p_LRn {size players : Int32} {facts C side kind near far free G near2 : Nat → Int32} (h : p_LR size facts C players side kind near far free G) (q : Nat) {v : Int32} (hv : r_in v 9) (h1 : near2 q = v) (h2 : ∀ k : Nat, ¬ k = q → near2 k = near k) :
    p_LR size (upd facts (5 * q + 2) v) C players side kind near2 far free G := by
  refine ⟨h.1, h.2.1, fun p hp => ?_, h.2.2.2⟩
  have f := h.2.2.1 p hp
  unfold p_P
  rw [p_upd_ne facts v (k := 5 * q + 2) (j := 5 * p) (by omega), p_upd_ne facts v (k := 5 * q + 2) (j := 5 * p + 1) (by omega), p_upd_ne facts v (k := 5 * q + 2) (j := 5 * p + 3) (by omega), p_upd_ne facts v (k := 5 * q + 2) (j := 5 * p + 4) (by omega)]
  by_cases e : p = q
  · subst e
    rw [p_upd_same, h1]
    exact ⟨⟨f.1.1, f.1.2.1, rfl, f.1.2.2.2⟩, f.2.1, f.2.2.1, hv, f.2.2.2.2⟩
  · rw [p_upd_ne facts v (k := 5 * q + 2) (j := 5 * p + 2) (by omega), h2 p e]
    exact f
theorem p_cN (facts : Nat → Int32) (q : Fin 6) (v : Int32) : f_X1_changeNear facts (Int32.ofNat q) v = upd facts (5 * q.val + 2) v := by
  obtain ⟨e1, e2, e3⟩ := (by decide : ∀ q : Fin 6, ¬ ((Int32.ofNat q) * 5) + 2 < 0 ∧ ¬ 30 ≤ ((Int32.ofNat q) * 5) + 2 ∧ (((Int32.ofNat q) * 5) + 2).toNatClampNeg = 5 * q.val + 2) q
  unfold f_X1_changeNear f_X3_change
  rw [p_lt, if_neg e1, if_neg e2, e3]


set_option maxRecDepth 100000 in
set_option maxHeartbeats 1000000 in
theorem p_goodL {c_isKept : Int32} {c_numbersSize : Int32} {c_now_told : Nat → Int32} {c_now_squad_size : Int32} {c_now_squad_facts : Nat → Int32} {c_kept_told : Nat → Int32} {c_kept_squad_size : Int32} {c_kept_squad_facts : Nat → Int32} {c_letters_size : Int32} {c_letters_signs : Nat → Int32} {c_numbers : Nat → Int32} {c_refusals : Nat → Int32} {c_lamp_reboundTenths : Int32} {c_lamp_lawInForce : Int32} {c_lamp_drawTenths : Int32} {c_lamp_solvedRows : Int32} {c_lamp_squad_size : Int32} {c_lamp_squad_facts : Nat → Int32} {c_lamp_changes : Nat → Int32} {c_lamp_values : Nat → Int32} {c_lamp_bests : Nat → Int32} {d_seconds : Int32} {d_lead : Int32} {d_ball : Int32} {d_rebound : Int32} {d_law : Int32} {d_draw : Int32} {d_players : Int32} {d_letters : Int32} {d_inRow : Int32} {d_imaged : Int32} {d_fouls : Nat → Int32} {d_calls : Nat → Int32} {d_side : Nat → Int32} {d_kind : Nat → Int32} {d_near : Nat → Int32} {d_far : Nat → Int32} {d_free : Nat → Int32} {d_letter : Nat → Int32} {d_row : Nat → Int32} {d_refusals : Nat → Int32} {d_image : Nat → Int32} {d_guard : Nat → Int32} (hR : Rel c_isKept c_numbersSize c_now_told c_now_squad_size c_now_squad_facts c_kept_told c_kept_squad_size c_kept_squad_facts c_letters_size c_letters_signs c_numbers c_refusals c_lamp_reboundTenths c_lamp_lawInForce c_lamp_drawTenths c_lamp_solvedRows c_lamp_squad_size c_lamp_squad_facts c_lamp_changes c_lamp_values c_lamp_bests d_seconds d_lead d_ball d_rebound d_law d_draw d_players d_letters d_inRow d_imaged d_fouls d_calls d_side d_kind d_near d_far d_free d_letter d_row d_refusals d_image d_guard) (q r : Fin 6) (v3 v3' v4 v5 n : Int32) (R R' V B rT hv mv : Nat → Int32) : ∀ (j i : Nat) (o1 o2 o3 o4 o5 : Int32) (o6 o7 o8 o9 o10 o11 o12 : Nat → Int32) (N G W : Nat → Int32), i + j = 10 → (∀ k : Nat, ¬ k = q.val → N k = d_near k) → (∀ p : Nat, p < 6 → G p = 0) →
    ∃ b z N' G' W', L_X4_howGood_26 (Int32.ofNat q) (Int32.ofNat r) v3 v4 c_now_told c_now_squad_size c_now_squad_facts R c_lamp_reboundTenths c_lamp_lawInForce c_lamp_drawTenths n c_lamp_squad_size c_lamp_squad_facts c_lamp_changes V B rT hv mv (fun v5_26 z1 z2 z3 z4 z5 z6 z7 z8 z9 z10 z11 z12 => ((-9), R, n, V, B, rT, hv, mv, z1, z2, z3, z4, z5, z6, z7, z8, z9, z10, z11, z12)) (j + 1) (Int32.ofNat i) o1 o2 o3 o4 o5 o6 o7 o8 o9 o10 o11 o12 = (b, R, n, V, B, rT, hv, mv, z) ∧
      L_X5_howGood_38 (Int32.ofNat q) (Int32.ofNat r) v3' v4 v5 d_seconds d_lead d_ball d_rebound d_law d_draw d_players d_side d_kind d_far d_free R' (fun v6_38 v7_38 c_near_38 c_guard_38 c_worth_38 => (v6_38, upd c_near_38 q.val v5, R', c_guard_38, c_worth_38)) (j + 1) (-9) (Int32.ofNat i) N G W = (b, upd N' q.val v5, R', G', W') ∧ (∀ k : Nat, ¬ k = q.val → N' k = d_near k) ∧ ∀ p : Nat, p < 6 → G' p = 0
  | 0, i, o1, o2, o3, o4, o5, o6, o7, o8, o9, o10, o11, o12, N, G, W, h, hN, hG => by
      have e : i = 10 := by omega
      subst e
      refine ⟨-9, (o1, o2, o3, o4, o5, o6, o7, o8, o9, o10, o11, o12), N, G, W, ?_, ?_, hN, hG⟩
      · rw [L_X4_howGood_26, if_pos (by decide)]
      · rw [L_X5_howGood_38, if_pos (by decide)]
  | j + 1, i, o1, o2, o3, o4, o5, o6, o7, o8, o9, o10, o11, o12, N, G, W, h, hN, hG => by
      have hi : i < 10 := by omega
      obtain ⟨e1, e2, e3, e4, e5⟩ := (show ∀ i : Fin 10, ¬ 9 < Int32.ofNat i ∧ ¬ 10 ≤ Int32.ofNat i ∧ Int32.ofNat i + 1 = Int32.ofNat (i.val + 1) ∧ r_in (Int32.ofNat i) 9 ∧ 0 ≤ Int32.ofNat i by unfold r_in; decide) ⟨i, hi⟩
      obtain ⟨hS, hP, hr, hlw, hd⟩ := r_rng hR
      obtain ⟨t0, t1, t2, t3, t4, t5, t6, t7, t8, t9⟩ := r_told hR
      obtain ⟨C1, s1, z1⟩ := p_start o1 o2 o3 o4 o5 o6 o7 c_now_told c_now_squad_size c_now_squad_facts
      rw [t7, t8, t9] at s1
      have hL0 := p_LRn (near2 := upd N q.val (Int32.ofNat i)) (p_LRz hR o6 C1 G z1 hG) q.val e4 (p_upd_same _ _ _) (fun k hk => by rw [p_upd_ne _ _ hk]; exact hN k hk)
      have hL := p_LRg (p_LRg hL0 q (c := 2) (g := 1) (Or.inr (Or.inr (Or.inl ⟨rfl, rfl⟩)))) r (c := 3) (g := 2) (Or.inr (Or.inr (Or.inr ⟨rfl, rfl⟩)))
      obtain ⟨n1, V1, B1, rT1, hv1, mv1, g1, x1⟩ := p_nowO (reb := d_rebound) (law := d_law) (draw := d_draw) hL hr hd hS t0 t1 t2 o8 o9 o10 o11 o12 W
      have sd : f_X4_startDouble c_now_told c_now_squad_size c_now_squad_facts o1 o2 o3 o4 o5 o6 o7 (Int32.ofNat q) (Int32.ofNat r) = (d_rebound, d_law, d_draw, 0, c_now_squad_size, g_cpy c_now_squad_facts o6 30, upd (upd C1 q 2) r 3) := by
        unfold f_X4_startDouble
        rw [p_lt, s1, p_lt, p_chg2, p_lt, p_chg2]
      have gn : f_X5_guardedNow d_seconds d_lead d_ball d_rebound d_law d_draw d_players d_side d_kind (upd N q.val (Int32.ofNat i)) d_far d_free G W (Int32.ofNat q) (Int32.ofNat r) = (f_X5_valueOf (f_X5_solve d_rebound d_law d_draw d_players d_side d_kind (upd N q.val (Int32.ofNat i)) d_far d_free (upd (upd G q 1) r 2) W) d_seconds d_lead d_ball, f_X5_asTold (upd (upd G q 1) r 2), f_X5_solve d_rebound d_law d_draw d_players d_side d_kind (upd N q.val (Int32.ofNat i)) d_far d_free (upd (upd G q 1) r 2) W) := by
        unfold f_X5_guardedNow f_X5_now
        rw [p_nat6, p_nat6, p_lt, p_lt, p_lt2, p_lt]
      rw [L_X4_howGood_26, L_X5_howGood_38, if_neg e1, if_neg e2, if_neg (by decide : ¬ (0 : Int32) ≤ -9), p_nat6, gn, p_lt2, p_lt, sd, p_lt]
      dsimp only
      rw [p_cN, g1, p_lt2, e3]
      dsimp only
      by_cases hx : f_X5_valueOf (f_X5_solve d_rebound d_law d_draw d_players d_side d_kind (upd N q.val (Int32.ofNat i)) d_far d_free (upd (upd G q 1) r 2) W) d_seconds d_lead d_ball < v4
      · rw [if_pos hx, if_pos hx]
        exact p_goodL hR q r v3 v3' v4 v5 n R R' V B rT hv mv j (i + 1) _ _ _ _ _ _ _ _ _ _ _ _ (upd N q.val (Int32.ofNat i)) _ _ (by omega) (fun k hk => by rw [p_upd_ne _ _ hk]; exact hN k hk) (p_as _)
      · rw [if_neg hx, if_neg hx, L_X5_howGood_38, if_pos e5, ite_self]
        exact ⟨_, _, _, _, _, rfl, rfl, fun k hk => by rw [p_upd_ne _ _ hk]; exact hN k hk, p_as _⟩
