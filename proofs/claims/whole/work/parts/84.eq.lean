set_option maxRecDepth 100000 in
set_option maxHeartbeats 1000000 in
theorem eq_letter {c_isKept : Int32} {c_numbersSize : Int32} {c_now_told : Nat → Int32} {c_now_squad_size : Int32} {c_now_squad_facts : Nat → Int32} {c_kept_told : Nat → Int32} {c_kept_squad_size : Int32} {c_kept_squad_facts : Nat → Int32} {c_letters_size : Int32} {c_letters_signs : Nat → Int32} {c_numbers : Nat → Int32} {c_refusals : Nat → Int32} {c_lamp_reboundTenths : Int32} {c_lamp_lawInForce : Int32} {c_lamp_drawTenths : Int32} {c_lamp_solvedRows : Int32} {c_lamp_squad_size : Int32} {c_lamp_squad_facts : Nat → Int32} {c_lamp_changes : Nat → Int32} {c_lamp_values : Nat → Int32} {c_lamp_bests : Nat → Int32} {d_seconds : Int32} {d_lead : Int32} {d_ball : Int32} {d_rebound : Int32} {d_law : Int32} {d_draw : Int32} {d_players : Int32} {d_letters : Int32} {d_inRow : Int32} {d_imaged : Int32} {d_fouls : Nat → Int32} {d_calls : Nat → Int32} {d_side : Nat → Int32} {d_kind : Nat → Int32} {d_near : Nat → Int32} {d_far : Nat → Int32} {d_free : Nat → Int32} {d_letter : Nat → Int32} {d_row : Nat → Int32} {d_refusals : Nat → Int32} {d_image : Nat → Int32} {d_guard : Nat → Int32}  {p1 : Int32} {r1 r2 : Int32} {u1 : (Int32) × (Nat → Int32) × (Nat → Int32)} {u2 : (Int32) × (Nat → Int32) × (Nat → Int32)}  (hR : Rel c_isKept c_numbersSize c_now_told c_now_squad_size c_now_squad_facts c_kept_told c_kept_squad_size c_kept_squad_facts c_letters_size c_letters_signs c_numbers c_refusals c_lamp_reboundTenths c_lamp_lawInForce c_lamp_drawTenths c_lamp_solvedRows c_lamp_squad_size c_lamp_squad_facts c_lamp_changes c_lamp_values c_lamp_bests d_seconds d_lead d_ball d_rebound d_law d_draw d_players d_letters d_inRow d_imaged d_fouls d_calls d_side d_kind d_near d_far d_free d_letter d_row d_refusals d_image d_guard) (e1 : (r1, u1) = f_X4_letter c_letters_size c_letters_signs c_refusals p1) (e2 : (r2, u2) = f_X5_letter d_letters d_letter d_refusals p1) : r1 = r2 ∧ Rel c_isKept c_numbersSize c_now_told c_now_squad_size c_now_squad_facts c_kept_told c_kept_squad_size c_kept_squad_facts u1.1 u1.2.1 c_numbers u1.2.2 c_lamp_reboundTenths c_lamp_lawInForce c_lamp_drawTenths c_lamp_solvedRows c_lamp_squad_size c_lamp_squad_facts c_lamp_changes c_lamp_values c_lamp_bests d_seconds d_lead d_ball d_rebound d_law d_draw d_players u2.1 d_inRow d_imaged d_fouls d_calls d_side d_kind d_near d_far d_free u2.2.1 d_row u2.2.2 d_image d_guard := by
  obtain ⟨hs, hA, hg⟩ := hR.2.2.2.1
  have hA0 := hA.2.1
  have hA1 := hA.2.2
  rcases p_out p1 255 with ⟨b1, b2, o1⟩ | ⟨b1, b2, o1⟩ | ⟨b1, o1⟩
  · by_cases hc : d_letters = 96
    · have hc1 : ¬ d_letters < 96 := by rw [hc]; decide
      obtain ⟨U, U', q1, q2, q3⟩ := p_no (r_ref hR) (x := -6) 6 (by decide) (by decide)
      unfold f_X4_letter at e1
      rw [p_lt, if_pos o1, p_lt, if_neg (by unfold f_X2_isFull; rw [hs, if_neg hc1]; decide), q1, p_lt2] at e1
      unfold f_X5_letter at e2
      rw [if_pos b1, if_neg (Int32.not_lt.2 b2), if_pos hc, q2, p_lt2] at e2
      obtain ⟨rfl, rfl⟩ := Prod.mk.inj e1
      obtain ⟨rfl, rfl⟩ := Prod.mk.inj e2
      exact ⟨rfl, r_up hR q3 (r_sol hR)⟩
    · obtain ⟨nn, hnn⟩ := pe_nat 96 hA0 hA1 (by decide)
      have hc2 : d_letters < 96 := by
        rw [hnn] at hc ⊢; exact (by decide : ∀ n : Fin (96 + 1), ¬ Int32.ofNat n = 96 → Int32.ofNat n < 96) nn hc
      have hadd : f_X2_add c_letters_size c_letters_signs p1 = (c_letters_size + 1, c_letters_size + 1, upd c_letters_signs c_letters_size.toNatClampNeg p1) := by
        unfold f_X2_add; rw [hs, if_neg (Int32.not_lt.2 hA0), if_neg (Int32.not_le.2 hc2)]
      unfold f_X4_letter at e1
      rw [p_lt, if_pos o1, p_lt, if_pos (by unfold f_X2_isFull; rw [hs, if_pos hc2]), hadd, p_lt2] at e1
      unfold f_X5_letter at e2
      rw [if_pos b1, if_neg (Int32.not_lt.2 b2), if_neg hc] at e2
      obtain ⟨rfl, rfl⟩ := Prod.mk.inj e1
      obtain ⟨rfl, rfl⟩ := Prod.mk.inj e2
      have hb : 0 ≤ d_letters + 1 ∧ d_letters + 1 ≤ 96 ∧ d_letters.toNatClampNeg = nn.val ∧ (d_letters + 1).toNatClampNeg = nn.val + 1 := by
        rw [hnn] at hc2 ⊢
        exact (by decide : ∀ n : Fin (96 + 1), Int32.ofNat n < 96 → 0 ≤ Int32.ofNat n + 1 ∧ Int32.ofNat n + 1 ≤ 96 ∧ (Int32.ofNat n).toNatClampNeg = n.val ∧ (Int32.ofNat n + 1).toNatClampNeg = n.val + 1) nn hc2
      refine ⟨by rw [hs], ?_⟩
      obtain ⟨h1, h2, h3, h4, h5, h6, h7, h8⟩ := hR
      have new : c_letters_size + 1 = d_letters + 1 ∧ m_A 0 (d_letters + 1) ∧ ∀ k : Nat, k < (d_letters + 1).toNatClampNeg → upd c_letters_signs c_letters_size.toNatClampNeg p1 k = upd d_letter d_letters.toNatClampNeg p1 k ∧ r_in (upd d_letter d_letters.toNatClampNeg p1 k) 255 := by
        refine ⟨by rw [hs], ⟨by decide, hb.1, hb.2.1⟩, fun k hk => ?_⟩
        rw [hs]
        by_cases hkn : k = d_letters.toNatClampNeg
        · rw [hkn, p_upd_same, p_upd_same]; exact ⟨rfl, b1, b2⟩
        · rw [p_upd_ne _ _ hkn, p_upd_ne _ _ hkn]
          refine hg k ?_
          rw [hb.2.2.2] at hk; rw [hb.2.2.1] at hkn ⊢; omega
      exact ⟨h1, h2, h3, new, h5, h6, h7, h8⟩
  · obtain ⟨U, U', q1, q2, q3⟩ := p_no (r_ref hR) (x := -6) 6 (by decide) (by decide)
    unfold f_X4_letter at e1
    rw [p_lt, o1, if_neg (by decide), q1, p_lt2] at e1
    unfold f_X5_letter at e2
    rw [if_pos b1, if_pos (Int32.not_le.1 b2), q2, p_lt2] at e2
    obtain ⟨rfl, rfl⟩ := Prod.mk.inj e1
    obtain ⟨rfl, rfl⟩ := Prod.mk.inj e2
    exact ⟨rfl, r_up hR q3 (r_sol hR)⟩
  · obtain ⟨U, U', q1, q2, q3⟩ := p_no (r_ref hR) (x := -4) 4 (by decide) (by decide)
    unfold f_X4_letter at e1
    rw [p_lt, o1, if_neg (by decide), q1, p_lt2] at e1
    unfold f_X5_letter at e2
    rw [if_neg b1, q2, p_lt2] at e2
    obtain ⟨rfl, rfl⟩ := Prod.mk.inj e1
    obtain ⟨rfl, rfl⟩ := Prod.mk.inj e2
    exact ⟨rfl, r_up hR q3 (r_sol hR)⟩
set_option maxRecDepth 100000 in
set_option maxHeartbeats 1000000 in
theorem eq_hall {c_isKept : Int32} {c_numbersSize : Int32} {c_now_told : Nat → Int32} {c_now_squad_size : Int32} {c_now_squad_facts : Nat → Int32} {c_kept_told : Nat → Int32} {c_kept_squad_size : Int32} {c_kept_squad_facts : Nat → Int32} {c_letters_size : Int32} {c_letters_signs : Nat → Int32} {c_numbers : Nat → Int32} {c_refusals : Nat → Int32} {c_lamp_reboundTenths : Int32} {c_lamp_lawInForce : Int32} {c_lamp_drawTenths : Int32} {c_lamp_solvedRows : Int32} {c_lamp_squad_size : Int32} {c_lamp_squad_facts : Nat → Int32} {c_lamp_changes : Nat → Int32} {c_lamp_values : Nat → Int32} {c_lamp_bests : Nat → Int32} {d_seconds : Int32} {d_lead : Int32} {d_ball : Int32} {d_rebound : Int32} {d_law : Int32} {d_draw : Int32} {d_players : Int32} {d_letters : Int32} {d_inRow : Int32} {d_imaged : Int32} {d_fouls : Nat → Int32} {d_calls : Nat → Int32} {d_side : Nat → Int32} {d_kind : Nat → Int32} {d_near : Nat → Int32} {d_far : Nat → Int32} {d_free : Nat → Int32} {d_letter : Nat → Int32} {d_row : Nat → Int32} {d_refusals : Nat → Int32} {d_image : Nat → Int32} {d_guard : Nat → Int32} {c_letters_statements : Int32} {c_letters_starts : Nat → Int32} {d_at : Int32} {d_value : Nat → Int32} {d_ahead : Nat → Int32}  {r1 r2 : Int32} {u1 : (Nat → Int32) × (Int32) × (Nat → Int32) × (Int32) × (Int32) × (Nat → Int32) × (Int32) × (Int32) × (Int32) × (Int32) × (Int32) × (Nat → Int32) × (Nat → Int32)} {u2 : (Int32) × (Int32) × (Int32) × (Int32) × (Int32) × (Int32) × (Int32) × (Int32) × (Int32) × (Nat → Int32) × (Nat → Int32) × (Nat → Int32) × (Nat → Int32) × (Nat → Int32) × (Nat → Int32) × (Nat → Int32) × (Nat → Int32) × (Nat → Int32)}  (hR : Rel c_isKept c_numbersSize c_now_told c_now_squad_size c_now_squad_facts c_kept_told c_kept_squad_size c_kept_squad_facts c_letters_size c_letters_signs c_numbers c_refusals c_lamp_reboundTenths c_lamp_lawInForce c_lamp_drawTenths c_lamp_solvedRows c_lamp_squad_size c_lamp_squad_facts c_lamp_changes c_lamp_values c_lamp_bests d_seconds d_lead d_ball d_rebound d_law d_draw d_players d_letters d_inRow d_imaged d_fouls d_calls d_side d_kind d_near d_far d_free d_letter d_row d_refusals d_image d_guard) (e1 : (r1, u1) = f_X4_hall c_now_told c_now_squad_size c_now_squad_facts c_letters_size c_letters_statements c_letters_signs c_letters_starts c_lamp_reboundTenths c_lamp_lawInForce c_lamp_drawTenths c_lamp_solvedRows c_lamp_squad_size c_lamp_squad_facts c_lamp_changes) (e2 : (r2, u2) = f_X5_hall d_seconds d_lead d_ball d_rebound d_law d_draw d_players d_letters d_at d_fouls d_calls d_side d_kind d_near d_far d_free d_letter d_value d_ahead) : r1 = r2 ∧ Rel c_isKept c_numbersSize u1.1 u1.2.1 u1.2.2.1 c_kept_told c_kept_squad_size c_kept_squad_facts u1.2.2.2.1 c_letters_signs c_numbers c_refusals u1.2.2.2.2.2.2.1 u1.2.2.2.2.2.2.2.1 u1.2.2.2.2.2.2.2.2.1 u1.2.2.2.2.2.2.2.2.2.1 u1.2.2.2.2.2.2.2.2.2.2.1 u1.2.2.2.2.2.2.2.2.2.2.2.1 u1.2.2.2.2.2.2.2.2.2.2.2.2 c_lamp_values c_lamp_bests u2.1 u2.2.1 u2.2.2.1 u2.2.2.2.1 u2.2.2.2.2.1 u2.2.2.2.2.2.1 u2.2.2.2.2.2.2.1 u2.2.2.2.2.2.2.2.1 d_inRow d_imaged u2.2.2.2.2.2.2.2.2.2.1 u2.2.2.2.2.2.2.2.2.2.2.1 u2.2.2.2.2.2.2.2.2.2.2.2.1 u2.2.2.2.2.2.2.2.2.2.2.2.2.1 u2.2.2.2.2.2.2.2.2.2.2.2.2.2.1 u2.2.2.2.2.2.2.2.2.2.2.2.2.2.2.1 u2.2.2.2.2.2.2.2.2.2.2.2.2.2.2.2.1 d_letter d_row d_refusals d_image d_guard := by
  obtain ⟨hS, hP, hr, hlw, hd⟩ := r_rng hR
  obtain ⟨t0, t1, t2, t3, t4, t5, t6, t7, t8, t9⟩ := r_told hR
  obtain ⟨hz, hA, hg⟩ := hR.2.2.2.1
  obtain ⟨N', hN'⟩ := pe_nat 96 hA.2.1 hA.2.2 (by decide)
  have hN : N'.val ≤ 96 := by have := N'.isLt; omega
  have hNn : d_letters.toNatClampNeg = N'.val := by rw [hN']; exact p_on (by omega)
  rw [hNn] at hg
  have hsg : ∀ k : Nat, k < N'.val → r_in (d_letter k) 255 := fun k hk => (hg k hk).2
  have hs : ∀ k : Nat, k < N'.val → c_letters_signs k = d_letter k := fun k hk => (hg k hk).1
  have hz' : c_letters_size = Int32.ofNat N'.val := hz.trans hN'
  have fN : ((Int32.ofNat N'.val).toInt - (0 : Int32).toInt).toNat = N'.val := by rw [p_oi (by omega), (by decide : (0 : Int32).toInt = 0)]; omega
  have hsz : c_now_squad_size = d_players := hR.1.1
  have cl : ∀ x : Int32, f_X2_clear x = 0 := fun _ => rfl
  have F := p_formL hN hs hsg d_ahead (fun v1_7 d_seconds_7 d_lead_7 d_ball_7 d_rebound_7 d_law_7 d_draw_7 d_players_7 d_at_7 d_fouls_7 d_calls_7 d_side_7 d_kind_7 d_near_7 d_far_7 d_free_7 d_value_7 => (if v1_7 = 0 then ((-1000) - d_at_7, d_seconds_7, d_lead_7, d_ball_7, d_rebound_7, d_law_7, d_draw_7, d_players_7, 0, d_at_7, d_fouls_7, d_calls_7, d_side_7, d_kind_7, d_near_7, d_far_7, d_free_7, d_value_7, d_ahead) else g_lt (f_X5_keep d_seconds_7 d_lead_7 d_ball_7 d_rebound_7 d_law_7 d_draw_7 d_players_7 d_fouls_7 d_calls_7 d_side_7 d_kind_7 d_near_7 d_far_7 d_free_7 d_ahead) (fun u76 => L_X5_hall_86 v1_7 (Int32.ofNat N'.val) d_letter u76 (fun v2_86 d_seconds_86 d_lead_86 d_ball_86 d_rebound_86 d_law_86 d_draw_86 d_players_86 d_at_86 d_fouls_86 d_calls_86 d_side_86 d_kind_86 d_near_86 d_far_86 d_free_86 d_value_86 => (v2_86, d_seconds_86, d_lead_86, d_ball_86, d_rebound_86, d_law_86, d_draw_86, d_players_86, 0, d_at_86, d_fouls_86, d_calls_86, d_side_86, d_kind_86, d_near_86, d_far_86, d_free_86, d_value_86, u76)) ((((Int32.ofNat N'.val) : Int32).toInt - (0 : Int32).toInt).toNat + 1) 0 d_seconds_7 d_lead_7 d_ball_7 d_rebound_7 d_law_7 d_draw_7 d_players_7 0 d_fouls_7 d_calls_7 d_side_7 d_kind_7 d_near_7 d_far_7 d_free_7 d_value_7))) (s := d_seconds) (l := d_lead) (b := d_ball) (rb := d_rebound) (lw := d_law) (dr := d_draw) (pl := d_players) (fo := d_fouls) (ca := d_calls) (sd := d_side) (kd := d_kind) (nr := d_near) (fr := d_far) (fe := d_free) (N'.val + 1) 0 0 (fun _ => 0) 0 c_letters_starts d_value (N'.val + 1) (N'.val * 2 + 1 + 1) (by omega) (by omega) (by omega) rfl rfl (fun k hk => absurd hk (by omega)) (by omega) (fun k hk => absurd hk (by omega)) (by omega) (by omega)
  have zz : Int32.ofNat 0 = (0 : Int32) := rfl
  have z6 : Int32.ofNat (g_sByt.getD (0 : Fin 6).val []).length = (0 : Int32) := by decide
  have z5 : ((0 : Fin 6) : Nat) = 0 := rfl
  rw [z6, zz, z5, fN] at F
  rw [hN'] at e2
  unfold f_X5_hall at e2
  rw [fN, if_neg (by decide : ¬ (1 : Int32) = 0)] at e2
  unfold f_X4_hall f_X2_fault f_X2_placeOfForm at e1
  rw [hz', fN] at e1
  have new0 : (0 : Int32) = 0 ∧ m_A 0 0 ∧ ∀ k : Nat, k < (0 : Int32).toNatClampNeg → c_letters_signs k = d_letter k ∧ r_in (d_letter k) 255 := ⟨rfl, ⟨by decide, by decide, by decide⟩, fun k hk => absurd hk (by rw [(by decide : (0 : Int32).toNatClampNeg = 0)]; omega)⟩
  rcases F with ⟨k, st', starts', V', hk, q4, q5⟩ | ⟨M, S, starts', V', hM, q4, q5, hS0, hSM, hch, hst⟩
  · have e2' := e2.trans q5
    have q4' : L_X2_placeOfForm_12 (Int32.ofNat N'.val) c_letters_signs _ (N'.val + 1) 0 0 0 0 c_letters_starts = (Int32.ofNat k, st', starts') := q4
    rw [q4', p_lt2, p_lt2, if_neg (p_o0 (by omega))] at e1
    rw [if_neg (show ¬ (-1000) - Int32.ofNat k = 0 from (by decide : ∀ k : Fin 97, ¬ (-1000) - Int32.ofNat k.val = 0) ⟨k, by omega⟩), p_lt, cl] at e1
    rw [if_pos (rfl : (0 : Int32) = 0)] at e2'
    obtain ⟨rfl, rfl⟩ := Prod.mk.inj e1
    obtain ⟨rfl, rfl⟩ := Prod.mk.inj e2'
    obtain ⟨h1, h2, h3, h4, h5, h6, h7, h8⟩ := hR
    exact ⟨rfl, h1, h2, h3, new0, h5, h6, h7, h8⟩
  · have e2' := e2.trans q5
    have q4' : L_X2_placeOfForm_12 (Int32.ofNat N'.val) c_letters_signs _ (N'.val + 1) 0 0 0 0 c_letters_starts = (-1, Int32.ofNat M, starts') := q4
    rw [q4', p_lt2, p_lt2, if_pos (by decide : (-1 : Int32) < 0)] at e1
    rw [if_neg (by decide : ¬ (1 : Int32) = 0), p_lt] at e2'
    have hkp := p_keep d_seconds d_lead d_ball d_rebound d_law d_draw d_players d_fouls d_calls d_side d_kind d_near d_far d_free d_ahead
    obtain ⟨o, ho⟩ : ∃ o, o = f_X5_keep d_seconds d_lead d_ball d_rebound d_law d_draw d_players d_fouls d_calls d_side d_kind d_near d_far d_free d_ahead := ⟨_, rfl⟩
    rw [← ho] at hkp e2'
    have fM : ((Int32.ofNat M).toInt - (0 : Int32).toInt).toNat = M := by rw [p_oi (by omega), (by decide : (0 : Int32).toInt = 0)]; omega
    have G := p_rangeL hN hs hsg M hM S hch hSM hst c_now_squad_size 1 o (fun v2_86 d_seconds_86 d_lead_86 d_ball_86 d_rebound_86 d_law_86 d_draw_86 d_players_86 d_at_86 d_fouls_86 d_calls_86 d_side_86 d_kind_86 d_near_86 d_far_86 d_free_86 d_value_86 => (v2_86, d_seconds_86, d_lead_86, d_ball_86, d_rebound_86, d_law_86, d_draw_86, d_players_86, 0, d_at_86, d_fouls_86, d_calls_86, d_side_86, d_kind_86, d_near_86, d_far_86, d_free_86, d_value_86, o)) M 0 (M + 1) (M + 1) (N'.val + 1) d_seconds d_lead d_ball d_rebound d_law d_draw d_players c_now_squad_size d_fouls d_calls d_side d_kind d_near d_far d_free V' c_now_told c_now_squad_facts (by omega) (by omega) (by omega) (by omega) hR.1 hR.2.1
    rw [hS0, zz] at G
    rcases G with ⟨k0, at', fo', ca', a', b', c', d', e', W', hk0, g7, g86, gp⟩ | ⟨s', l', b', rb', lw', dr', pl', sz', fo', ca', sd', kd', nr', fr', fe', W', told', facts', g7, g2, g86, gH, gO⟩
    · have e2'' := e2'.trans g86
      have pr : f_X2_placeOfRange (Int32.ofNat N'.val) (Int32.ofNat M) c_letters_signs starts' c_now_squad_size = Int32.ofNat k0 := by
        unfold f_X2_placeOfRange
        rw [fM, hsz]
        rw [hsz] at g7
        exact g7
      rw [pr, p_lt, if_neg (p_o0 (by omega))] at e1
      rw [if_neg (show ¬ (-2000) - Int32.ofNat k0 = 0 from (by decide : ∀ k : Fin 97, ¬ (-2000) - Int32.ofNat k.val = 0) ⟨k0, by omega⟩), p_lt, cl] at e1
      have o31 : o 31 = d_seconds := (hkp 31 (by omega)).symm
      have o32 : o 32 = d_lead := (hkp 32 (by omega)).symm
      have o33 : o 33 = d_ball := (hkp 33 (by omega)).symm
      have o38 : o 38 = d_rebound := (hkp 38 (by omega)).symm
      have o39 : o 39 = d_law := (hkp 39 (by omega)).symm
      have o40 : o 40 = d_draw := (hkp 40 (by omega)).symm
      have o30 : o 30 = d_players := (hkp 30 (by omega)).symm
      rw [o31, o32, o33, o38, o39, o40, o30] at e2'' gp
      have pk2 : ∀ k : Nat, k < 41 → r_pack d_seconds d_lead d_ball d_rebound d_law d_draw d_players d_fouls d_calls d_side d_kind d_near d_far d_free k = r_pack d_seconds d_lead d_ball d_rebound d_law d_draw d_players fo' ca' a' b' c' d' e' k := fun k hk => (hkp k hk).trans (gp k hk)
      have hL := r_LR hR
      have hL' : p_LR c_lamp_squad_size c_lamp_squad_facts c_lamp_changes d_players a' b' c' d' e' d_guard := by
        refine ⟨hL.1, hL.2.1, fun p hp => ?_, hL.2.2.2⟩
        have f := hL.2.2.1 p hp
        obtain ⟨y1, y2, y3, y4, y5⟩ := p_pk d_seconds d_lead d_ball d_rebound d_law d_draw d_players d_fouls d_calls d_side d_kind d_near d_far d_free p hp
        obtain ⟨x1, x2, x3, x4, x5⟩ := p_pk d_seconds d_lead d_ball d_rebound d_law d_draw d_players fo' ca' a' b' c' d' e' p hp
        have z1 : a' p = d_side p := by rw [← x1, ← y1, pk2 p (by omega)]
        have z2 : b' p = d_kind p := by rw [← x2, ← y2, pk2 (6 + p) (by omega)]
        have z3 : c' p = d_near p := by rw [← x3, ← y3, pk2 (12 + p) (by omega)]
        have z4 : d' p = d_far p := by rw [← x4, ← y4, pk2 (18 + p) (by omega)]
        have z5 : e' p = d_free p := by rw [← x5, ← y5, pk2 (24 + p) (by omega)]
        unfold p_P
        rw [z1, z2, z3, z4, z5]
        exact f
      have hSol := p_Sol_arr hL hL' hr hd (r_sol hR)
      obtain ⟨rfl, rfl⟩ := Prod.mk.inj e1
      obtain ⟨rfl, rfl⟩ := Prod.mk.inj e2''
      obtain ⟨h1, h2, h3, h4, h5, h6, h7, h8⟩ := hR
      exact ⟨rfl, p_HAc pk2 h1, p_OKc pk2 h2, h3, new0, h5, h6, h7, h8.1, h8.2.1, h8.2.2.1, h8.2.2.2.1, h8.2.2.2.2.1, h8.2.2.2.2.2.1, hSol⟩
    · have e2'' := e2'.trans g86
      have pr : f_X2_placeOfRange (Int32.ofNat N'.val) (Int32.ofNat M) c_letters_signs starts' c_now_squad_size = -1 := by
        unfold f_X2_placeOfRange
        rw [fM, hsz]
        rw [hsz] at g7
        exact g7
      have ta : f_X2_tellAll (Int32.ofNat N'.val) (Int32.ofNat M) c_letters_signs starts' c_now_told c_now_squad_size c_now_squad_facts = (Int32.ofNat M, told', sz', facts') := by
        unfold f_X2_tellAll
        rw [fM]
        exact g2
      obtain ⟨C1, s1, z1⟩ := p_start c_lamp_reboundTenths c_lamp_lawInForce c_lamp_drawTenths c_lamp_solvedRows c_lamp_squad_size c_lamp_squad_facts c_lamp_changes told' sz' facts'
      rw [pr, p_lt, if_pos (by decide : (-1 : Int32) < 0), if_pos (rfl : (0 : Int32) = 0), ta, p_lt2, p_lt, s1, p_lt, cl] at e1
      obtain ⟨rfl, rfl⟩ := Prod.mk.inj e1
      obtain ⟨rfl, rfl⟩ := Prod.mk.inj e2''
      obtain ⟨h1, h2, h3, h4, h5, h6, h7, h8⟩ := hR
      exact ⟨rfl, gH, gO, h3, new0, h5, h6, h7, gH.2.1 7 (by omega), gH.2.1 8 (by omega), gH.2.1 9 (by omega), gH.1, fun k hk => by show g_cpy facts' c_lamp_squad_facts 30 k = _; unfold g_cpy; rw [if_pos hk], z1, p_Sol0 _ _ _ _ _ _ _ _ _ _ _ _⟩
set_option maxRecDepth 100000 in
set_option maxHeartbeats 1000000 in
theorem eq_player {c_isKept : Int32} {c_numbersSize : Int32} {c_now_told : Nat → Int32} {c_now_squad_size : Int32} {c_now_squad_facts : Nat → Int32} {c_kept_told : Nat → Int32} {c_kept_squad_size : Int32} {c_kept_squad_facts : Nat → Int32} {c_letters_size : Int32} {c_letters_signs : Nat → Int32} {c_numbers : Nat → Int32} {c_refusals : Nat → Int32} {c_lamp_reboundTenths : Int32} {c_lamp_lawInForce : Int32} {c_lamp_drawTenths : Int32} {c_lamp_solvedRows : Int32} {c_lamp_squad_size : Int32} {c_lamp_squad_facts : Nat → Int32} {c_lamp_changes : Nat → Int32} {c_lamp_values : Nat → Int32} {c_lamp_bests : Nat → Int32} {d_seconds : Int32} {d_lead : Int32} {d_ball : Int32} {d_rebound : Int32} {d_law : Int32} {d_draw : Int32} {d_players : Int32} {d_letters : Int32} {d_inRow : Int32} {d_imaged : Int32} {d_fouls : Nat → Int32} {d_calls : Nat → Int32} {d_side : Nat → Int32} {d_kind : Nat → Int32} {d_near : Nat → Int32} {d_far : Nat → Int32} {d_free : Nat → Int32} {d_letter : Nat → Int32} {d_row : Nat → Int32} {d_refusals : Nat → Int32} {d_image : Nat → Int32} {d_guard : Nat → Int32}  {p1 : Int32} {p2 : Int32} {r1 r2 : Int32} {u1 : (Nat → Int32)} {u2 : (Nat → Int32)}  (hR : Rel c_isKept c_numbersSize c_now_told c_now_squad_size c_now_squad_facts c_kept_told c_kept_squad_size c_kept_squad_facts c_letters_size c_letters_signs c_numbers c_refusals c_lamp_reboundTenths c_lamp_lawInForce c_lamp_drawTenths c_lamp_solvedRows c_lamp_squad_size c_lamp_squad_facts c_lamp_changes c_lamp_values c_lamp_bests d_seconds d_lead d_ball d_rebound d_law d_draw d_players d_letters d_inRow d_imaged d_fouls d_calls d_side d_kind d_near d_far d_free d_letter d_row d_refusals d_image d_guard) (e1 : (r1, u1) = f_X4_player c_now_squad_size c_now_squad_facts c_refusals p1 p2) (e2 : (r2, u2) = f_X5_player d_players d_side d_kind d_near d_far d_free d_refusals p1 p2) : r1 = r2 ∧ Rel c_isKept c_numbersSize c_now_told c_now_squad_size c_now_squad_facts c_kept_told c_kept_squad_size c_kept_squad_facts c_letters_size c_letters_signs c_numbers u1 c_lamp_reboundTenths c_lamp_lawInForce c_lamp_drawTenths c_lamp_solvedRows c_lamp_squad_size c_lamp_squad_facts c_lamp_changes c_lamp_values c_lamp_bests d_seconds d_lead d_ball d_rebound d_law d_draw d_players d_letters d_inRow d_imaged d_fouls d_calls d_side d_kind d_near d_far d_free d_letter d_row u2 d_image d_guard := by
  obtain ⟨hsz, hp⟩ := r_sq hR
  obtain ⟨-, hP, -⟩ := r_rng hR
  rcases p_has hsz hP p1 with ⟨q, rfl, hq, o1, o2⟩ | ⟨o1, o2⟩
  · have hne : ∀ x : Int32, (p2 = x) ∨ ¬ p2 = x := fun x => Classical.em _
    have f := hp q q.isLt
    by_cases w : 0 ≤ p2 ∧ p2 ≤ 4
    · rcases p_five w.1 w.2 with rfl | rfl | rfl | rfl | rfl
      · have ff : f_X3_fact c_now_squad_facts (Int32.ofNat q) 0 = c_now_squad_facts (5 * q + 0) := p_fact c_now_squad_facts q 0
        unfold f_X4_player at e1
        rw [p_lt, o1, if_neg (by decide), if_neg (by decide), if_pos (by decide), p_lt, ff] at e1
        unfold f_X5_player at e2
        rw [p_lt, o2, if_neg (by decide), p_nat6, if_pos (by decide)] at e2
        obtain ⟨rfl, rfl⟩ := Prod.mk.inj e1
        obtain ⟨rfl, rfl⟩ := Prod.mk.inj e2
        exact ⟨f.1.1, hR⟩
      · have ff : f_X3_fact c_now_squad_facts (Int32.ofNat q) 1 = c_now_squad_facts (5 * q + 1) := p_fact c_now_squad_facts q 1
        unfold f_X4_player at e1
        rw [p_lt, o1, if_neg (by decide), if_neg (by decide), if_pos (by decide), p_lt, ff] at e1
        unfold f_X5_player at e2
        rw [p_lt, o2, if_neg (by decide), p_nat6, if_neg (by decide), if_pos (by decide)] at e2
        obtain ⟨rfl, rfl⟩ := Prod.mk.inj e1
        obtain ⟨rfl, rfl⟩ := Prod.mk.inj e2
        exact ⟨f.1.2.1, hR⟩
      · have ff : f_X3_fact c_now_squad_facts (Int32.ofNat q) 2 = c_now_squad_facts (5 * q + 2) := p_fact c_now_squad_facts q 2
        unfold f_X4_player at e1
        rw [p_lt, o1, if_neg (by decide), if_neg (by decide), if_pos (by decide), p_lt, ff] at e1
        unfold f_X5_player at e2
        rw [p_lt, o2, if_neg (by decide), p_nat6, if_neg (by decide), if_neg (by decide), if_pos (by decide)] at e2
        obtain ⟨rfl, rfl⟩ := Prod.mk.inj e1
        obtain ⟨rfl, rfl⟩ := Prod.mk.inj e2
        exact ⟨f.1.2.2.1, hR⟩
      · have ff : f_X3_fact c_now_squad_facts (Int32.ofNat q) 3 = c_now_squad_facts (5 * q + 3) := p_fact c_now_squad_facts q 3
        unfold f_X4_player at e1
        rw [p_lt, o1, if_neg (by decide), if_neg (by decide), if_pos (by decide), p_lt, ff] at e1
        unfold f_X5_player at e2
        rw [p_lt, o2, if_neg (by decide), p_nat6, if_neg (by decide), if_neg (by decide), if_neg (by decide), if_pos (by decide)] at e2
        obtain ⟨rfl, rfl⟩ := Prod.mk.inj e1
        obtain ⟨rfl, rfl⟩ := Prod.mk.inj e2
        exact ⟨f.1.2.2.2.1, hR⟩
      · have ff : f_X3_fact c_now_squad_facts (Int32.ofNat q) 4 = c_now_squad_facts (5 * q + 4) := p_fact c_now_squad_facts q 4
        unfold f_X4_player at e1
        rw [p_lt, o1, if_neg (by decide), if_neg (by decide), if_pos (by decide), p_lt, ff] at e1
        unfold f_X5_player at e2
        rw [p_lt, o2, if_neg (by decide), p_nat6, if_neg (by decide), if_neg (by decide), if_neg (by decide), if_neg (by decide), if_pos (by decide)] at e2
        obtain ⟨rfl, rfl⟩ := Prod.mk.inj e1
        obtain ⟨rfl, rfl⟩ := Prod.mk.inj e2
        exact ⟨f.1.2.2.2.2, hR⟩
    · have hn : ¬ p2 = 0 ∧ ¬ p2 = 1 ∧ ¬ p2 = 2 ∧ ¬ p2 = 3 ∧ ¬ p2 = 4 := by
        refine ⟨?_, ?_, ?_, ?_, ?_⟩ <;> (intro h; subst h; exact w (by decide))
      obtain ⟨U, U', q1, q2, q3⟩ := p_no (r_ref hR) (x := -2) 2 (by decide) (by decide)
      have g1 : f_X4_player c_now_squad_size c_now_squad_facts c_refusals (Int32.ofNat q) p2 = (-2, U) := by
        unfold f_X4_player
        rw [p_lt, o1, if_neg (by decide)]
        by_cases a : p2 < 0
        · rw [if_pos a, q1, p_lt2]
        · rw [if_neg a, if_neg (fun h => w ⟨Int32.not_lt.1 a, by rw [Int32.lt_iff_toInt_lt, (by decide : (5 : Int32).toInt = 5)] at h; rw [Int32.le_iff_toInt_le, (by decide : (4 : Int32).toInt = 4)]; omega⟩), q1, p_lt2]
      rw [g1] at e1
      unfold f_X5_player at e2
      rw [p_lt, o2, if_neg (by decide), if_neg hn.1, if_neg hn.2.1, if_neg hn.2.2.1, if_neg hn.2.2.2.1, if_neg hn.2.2.2.2, q2, p_lt2] at e2
      obtain ⟨rfl, rfl⟩ := Prod.mk.inj e1
      obtain ⟨rfl, rfl⟩ := Prod.mk.inj e2
      exact ⟨rfl, r_up hR q3 (r_sol hR)⟩
  · obtain ⟨U, U', q1, q2, q3⟩ := p_no (r_ref hR) (x := -1) 1 (by decide) (by decide)
    unfold f_X4_player at e1
    rw [p_lt, if_pos o1, q1, p_lt2] at e1
    unfold f_X5_player at e2
    rw [p_lt, if_pos o2, q2, p_lt2] at e2
    obtain ⟨rfl, rfl⟩ := Prod.mk.inj e1
    obtain ⟨rfl, rfl⟩ := Prod.mk.inj e2
    exact ⟨rfl, r_up hR q3 (r_sol hR)⟩
set_option maxRecDepth 100000 in
set_option maxHeartbeats 1000000 in
theorem eq_hits {c_isKept : Int32} {c_numbersSize : Int32} {c_now_told : Nat → Int32} {c_now_squad_size : Int32} {c_now_squad_facts : Nat → Int32} {c_kept_told : Nat → Int32} {c_kept_squad_size : Int32} {c_kept_squad_facts : Nat → Int32} {c_letters_size : Int32} {c_letters_signs : Nat → Int32} {c_numbers : Nat → Int32} {c_refusals : Nat → Int32} {c_lamp_reboundTenths : Int32} {c_lamp_lawInForce : Int32} {c_lamp_drawTenths : Int32} {c_lamp_solvedRows : Int32} {c_lamp_squad_size : Int32} {c_lamp_squad_facts : Nat → Int32} {c_lamp_changes : Nat → Int32} {c_lamp_values : Nat → Int32} {c_lamp_bests : Nat → Int32} {d_seconds : Int32} {d_lead : Int32} {d_ball : Int32} {d_rebound : Int32} {d_law : Int32} {d_draw : Int32} {d_players : Int32} {d_letters : Int32} {d_inRow : Int32} {d_imaged : Int32} {d_fouls : Nat → Int32} {d_calls : Nat → Int32} {d_side : Nat → Int32} {d_kind : Nat → Int32} {d_near : Nat → Int32} {d_far : Nat → Int32} {d_free : Nat → Int32} {d_letter : Nat → Int32} {d_row : Nat → Int32} {d_refusals : Nat → Int32} {d_image : Nat → Int32} {d_guard : Nat → Int32}  {p1 : Int32} {p2 : Int32} {p3 : Int32} {r1 r2 : Int32} {u1 : (Nat → Int32)} {u2 : (Nat → Int32)}  (hR : Rel c_isKept c_numbersSize c_now_told c_now_squad_size c_now_squad_facts c_kept_told c_kept_squad_size c_kept_squad_facts c_letters_size c_letters_signs c_numbers c_refusals c_lamp_reboundTenths c_lamp_lawInForce c_lamp_drawTenths c_lamp_solvedRows c_lamp_squad_size c_lamp_squad_facts c_lamp_changes c_lamp_values c_lamp_bests d_seconds d_lead d_ball d_rebound d_law d_draw d_players d_letters d_inRow d_imaged d_fouls d_calls d_side d_kind d_near d_far d_free d_letter d_row d_refusals d_image d_guard) (e1 : (r1, u1) = f_X4_hits c_now_squad_size c_now_squad_facts c_refusals p1 p2 p3) (e2 : (r2, u2) = f_X5_hits d_players d_kind d_near d_far d_free d_refusals p1 p2 p3) : r1 = r2 ∧ Rel c_isKept c_numbersSize c_now_told c_now_squad_size c_now_squad_facts c_kept_told c_kept_squad_size c_kept_squad_facts c_letters_size c_letters_signs c_numbers u1 c_lamp_reboundTenths c_lamp_lawInForce c_lamp_drawTenths c_lamp_solvedRows c_lamp_squad_size c_lamp_squad_facts c_lamp_changes c_lamp_values c_lamp_bests d_seconds d_lead d_ball d_rebound d_law d_draw d_players d_letters d_inRow d_imaged d_fouls d_calls d_side d_kind d_near d_far d_free d_letter d_row u2 d_image d_guard := by
  obtain ⟨hsz, hp⟩ := r_sq hR
  obtain ⟨-, hP, -⟩ := r_rng hR
  rcases p_has hsz hP p1 with ⟨q, rfl, hq, o1, o2⟩ | ⟨o1, o2⟩
  · have f := hp q q.isLt
    by_cases w0 : p2 < 0
    · obtain ⟨U, U', q1, q2, q3⟩ := p_no (r_ref hR) (x := -2) 2 (by decide) (by decide)
      unfold f_X4_hits at e1
      rw [p_lt, o1, if_neg (by decide), if_pos w0, q1, p_lt2] at e1
      unfold f_X5_hits at e2
      rw [p_lt, o2, if_neg (by decide), p_lt, show f_X5_within p2 0 2 = 0 by unfold f_X5_within; rw [if_pos w0], if_pos rfl, q2, p_lt2] at e2
      obtain ⟨rfl, rfl⟩ := Prod.mk.inj e1
      obtain ⟨rfl, rfl⟩ := Prod.mk.inj e2
      exact ⟨rfl, r_up hR q3 (r_sol hR)⟩
    by_cases w2 : p2 ≤ 2
    · obtain ⟨c, hc⟩ := pe_nat 2 (Int32.not_lt.1 w0) w2 (by decide)
      have wi : f_X5_within p2 0 2 = 1 := by unfold f_X5_within; rw [if_neg w0, if_neg (Int32.not_lt.2 w2)]
      rcases p_out p3 24 with ⟨b1, b2, o3⟩ | ⟨b1, b2, o3⟩ | ⟨b1, o3⟩
      · have ht : f_X3_tenths c_now_squad_facts (Int32.ofNat q) p2 p3 = f_X5_tenths d_kind d_near d_far d_free (Int32.ofNat q) p2 p3 := by
          rw [hc]
          match c with
          | ⟨0, _⟩ => exact (p_tn0 q p3 f).1
          | ⟨1, _⟩ => exact (p_tn1 q p3 f).1
          | ⟨2, _⟩ => exact (p_tn2 q p3 f).1
        unfold f_X4_hits at e1
        rw [p_lt, o1, if_neg (by decide), if_neg w0, if_pos w2, p_lt, if_pos o3, p_lt, ht] at e1
        unfold f_X5_hits at e2
        rw [p_lt, o2, if_neg (by decide), p_lt, wi, if_neg (by decide), if_pos b1, if_pos b2, p_lt] at e2
        obtain ⟨rfl, rfl⟩ := Prod.mk.inj e1
        obtain ⟨rfl, rfl⟩ := Prod.mk.inj e2
        exact ⟨rfl, hR⟩
      · obtain ⟨U, U', q1, q2, q3⟩ := p_no (r_ref hR) (x := -6) 6 (by decide) (by decide)
        unfold f_X4_hits at e1
        rw [p_lt, o1, if_neg (by decide), if_neg w0, if_pos w2, p_lt, o3, if_neg (by decide), q1, p_lt2] at e1
        unfold f_X5_hits at e2
        rw [p_lt, o2, if_neg (by decide), p_lt, wi, if_neg (by decide), if_pos b1, if_neg b2, q2, p_lt2] at e2
        obtain ⟨rfl, rfl⟩ := Prod.mk.inj e1
        obtain ⟨rfl, rfl⟩ := Prod.mk.inj e2
        exact ⟨rfl, r_up hR q3 (r_sol hR)⟩
      · obtain ⟨U, U', q1, q2, q3⟩ := p_no (r_ref hR) (x := -4) 4 (by decide) (by decide)
        unfold f_X4_hits at e1
        rw [p_lt, o1, if_neg (by decide), if_neg w0, if_pos w2, p_lt, o3, if_neg (by decide), q1, p_lt2] at e1
        unfold f_X5_hits at e2
        rw [p_lt, o2, if_neg (by decide), p_lt, wi, if_neg (by decide), if_neg b1, q2, p_lt2] at e2
        obtain ⟨rfl, rfl⟩ := Prod.mk.inj e1
        obtain ⟨rfl, rfl⟩ := Prod.mk.inj e2
        exact ⟨rfl, r_up hR q3 (r_sol hR)⟩
    · obtain ⟨U, U', q1, q2, q3⟩ := p_no (r_ref hR) (x := -2) 2 (by decide) (by decide)
      unfold f_X4_hits at e1
      rw [p_lt, o1, if_neg (by decide), if_neg w0, if_neg w2, q1, p_lt2] at e1
      unfold f_X5_hits at e2
      rw [p_lt, o2, if_neg (by decide), p_lt, show f_X5_within p2 0 2 = 0 by unfold f_X5_within; rw [if_neg w0, if_pos (Int32.not_le.1 w2)], if_pos rfl, q2, p_lt2] at e2
      obtain ⟨rfl, rfl⟩ := Prod.mk.inj e1
      obtain ⟨rfl, rfl⟩ := Prod.mk.inj e2
      exact ⟨rfl, r_up hR q3 (r_sol hR)⟩
  · obtain ⟨U, U', q1, q2, q3⟩ := p_no (r_ref hR) (x := -1) 1 (by decide) (by decide)
    unfold f_X4_hits at e1
    rw [p_lt, if_pos o1, q1, p_lt2] at e1
    unfold f_X5_hits at e2
    rw [p_lt, if_pos o2, q2, p_lt2] at e2
    obtain ⟨rfl, rfl⟩ := Prod.mk.inj e1
    obtain ⟨rfl, rfl⟩ := Prod.mk.inj e2
    exact ⟨rfl, r_up hR q3 (r_sol hR)⟩
set_option maxRecDepth 100000 in
set_option maxHeartbeats 1000000 in
theorem eq_set {c_isKept : Int32} {c_numbersSize : Int32} {c_now_told : Nat → Int32} {c_now_squad_size : Int32} {c_now_squad_facts : Nat → Int32} {c_kept_told : Nat → Int32} {c_kept_squad_size : Int32} {c_kept_squad_facts : Nat → Int32} {c_letters_size : Int32} {c_letters_signs : Nat → Int32} {c_numbers : Nat → Int32} {c_refusals : Nat → Int32} {c_lamp_reboundTenths : Int32} {c_lamp_lawInForce : Int32} {c_lamp_drawTenths : Int32} {c_lamp_solvedRows : Int32} {c_lamp_squad_size : Int32} {c_lamp_squad_facts : Nat → Int32} {c_lamp_changes : Nat → Int32} {c_lamp_values : Nat → Int32} {c_lamp_bests : Nat → Int32} {d_seconds : Int32} {d_lead : Int32} {d_ball : Int32} {d_rebound : Int32} {d_law : Int32} {d_draw : Int32} {d_players : Int32} {d_letters : Int32} {d_inRow : Int32} {d_imaged : Int32} {d_fouls : Nat → Int32} {d_calls : Nat → Int32} {d_side : Nat → Int32} {d_kind : Nat → Int32} {d_near : Nat → Int32} {d_far : Nat → Int32} {d_free : Nat → Int32} {d_letter : Nat → Int32} {d_row : Nat → Int32} {d_refusals : Nat → Int32} {d_image : Nat → Int32} {d_guard : Nat → Int32}  {p1 : Int32} {p2 : Int32} {r1 r2 : Int32} {u1 : (Nat → Int32) × (Nat → Int32) × (Int32) × (Int32) × (Int32) × (Int32) × (Int32) × (Nat → Int32) × (Nat → Int32)} {u2 : (Int32) × (Int32) × (Int32) × (Int32) × (Int32) × (Int32) × (Nat → Int32) × (Nat → Int32) × (Nat → Int32)}  (hR : Rel c_isKept c_numbersSize c_now_told c_now_squad_size c_now_squad_facts c_kept_told c_kept_squad_size c_kept_squad_facts c_letters_size c_letters_signs c_numbers c_refusals c_lamp_reboundTenths c_lamp_lawInForce c_lamp_drawTenths c_lamp_solvedRows c_lamp_squad_size c_lamp_squad_facts c_lamp_changes c_lamp_values c_lamp_bests d_seconds d_lead d_ball d_rebound d_law d_draw d_players d_letters d_inRow d_imaged d_fouls d_calls d_side d_kind d_near d_far d_free d_letter d_row d_refusals d_image d_guard) (e1 : (r1, u1) = f_X4_set c_now_told c_now_squad_size c_now_squad_facts c_refusals c_lamp_reboundTenths c_lamp_lawInForce c_lamp_drawTenths c_lamp_solvedRows c_lamp_squad_size c_lamp_squad_facts c_lamp_changes p1 p2) (e2 : (r2, u2) = f_X5_set d_seconds d_lead d_ball d_rebound d_law d_draw d_fouls d_calls d_refusals p1 p2) : r1 = r2 ∧ Rel c_isKept c_numbersSize u1.1 c_now_squad_size c_now_squad_facts c_kept_told c_kept_squad_size c_kept_squad_facts c_letters_size c_letters_signs c_numbers u1.2.1 u1.2.2.1 u1.2.2.2.1 u1.2.2.2.2.1 u1.2.2.2.2.2.1 u1.2.2.2.2.2.2.1 u1.2.2.2.2.2.2.2.1 u1.2.2.2.2.2.2.2.2 c_lamp_values c_lamp_bests u2.1 u2.2.1 u2.2.2.1 u2.2.2.2.1 u2.2.2.2.2.1 u2.2.2.2.2.2.1 d_players d_letters d_inRow d_imaged u2.2.2.2.2.2.2.1 u2.2.2.2.2.2.2.2.1 d_side d_kind d_near d_far d_free d_letter d_row u2.2.2.2.2.2.2.2.2 d_image d_guard := by
  have HT0 := r_told hR
  have HT : ∀ k : Nat, k < 10 → c_now_told k = r_pack d_seconds d_lead d_ball d_rebound d_law d_draw d_players d_fouls d_calls d_side d_kind d_near d_far d_free (31 + k) := hR.1.2.1
  have hR0 := hR
  obtain ⟨h1, h2, h3, h4, h5, h6, h7, h8⟩ := hR0
  obtain ⟨O1, O2, O3, O4, O5, O6⟩ := h2
  by_cases w0 : p1 < 0
  · obtain ⟨U, U', q1, q2, q3⟩ := p_no (r_ref hR) (x := -2) 2 (by decide) (by decide)
    unfold f_X4_set at e1
    rw [if_pos w0, q1, p_lt2] at e1
    unfold f_X5_set at e2
    rw [p_lt, show f_X5_within p1 0 9 = 0 by unfold f_X5_within; rw [if_pos w0], if_pos rfl, q2, p_lt2] at e2
    obtain ⟨rfl, rfl⟩ := Prod.mk.inj e1
    obtain ⟨rfl, rfl⟩ := Prod.mk.inj e2
    exact ⟨rfl, r_up hR q3 (r_sol hR)⟩
  by_cases w9 : p1 ≤ 9
  · rcases p_in9 (Int32.not_lt.1 w0) w9 with rfl | rfl | rfl | rfl | rfl | rfl | rfl | rfl | rfl | rfl
    · have gt : g_tabG.getD (0 : Int32).toNatClampNeg 0 = 24 := by decide
      rcases p_out p2 24 with ⟨b1, b2, o1⟩ | ⟨b1, b2, o1⟩ | ⟨b1, o1⟩
      · have tl : f_X0_tell c_now_told 0 p2 = upd c_now_told 0 p2 := rfl
        have to : f_X0_told c_now_told 0 = d_seconds := (show f_X0_told c_now_told 0 = c_now_told 0 from rfl).trans (HT 0 (by omega))
        have f2 : f_X5_set d_seconds d_lead d_ball d_rebound d_law d_draw d_fouls d_calls d_refusals 0 p2 = (d_seconds, p2, d_lead, d_ball, d_rebound, d_law, d_draw, d_fouls, d_calls, d_refusals) := by
          unfold f_X5_set
          simp only [p_lt, (by decide : (0 : Int32) = 0), (by decide : ¬ (0 : Int32) = 1), (by decide : ¬ (0 : Int32) = 2), (by decide : ¬ (0 : Int32) = 3), (by decide : ¬ (0 : Int32) = 4), (by decide : ¬ (0 : Int32) = 5), (by decide : ¬ (0 : Int32) = 6), (by decide : ¬ (0 : Int32) = 7), (by decide : ¬ (0 : Int32) = 8), (by decide : ¬ (5 : Int32) ≤ 0), (by decide : ¬ (7 : Int32) ≤ 0), show f_X5_within 0 0 9 = 1 from by decide, (by decide : ¬ (1 : Int32) = 0), (by decide : ((0 : Int32) - 3).toNatClampNeg = 0), (by decide : ((0 : Int32) - 5).toNatClampNeg = 0), b1, b2, if_true, if_false]
        rw [f2] at e2
        unfold f_X4_set at e1
        rw [if_neg (by decide), if_pos (by decide), gt, p_lt, if_pos o1, p_lt, to, p_lt, tl] at e1
        have nH : r_HA (upd c_now_told 0 p2) c_now_squad_size c_now_squad_facts (r_pack p2 d_lead d_ball d_rebound d_law d_draw d_players d_fouls d_calls d_side d_kind d_near d_far d_free) := by
          refine ⟨h1.1, fun k hk => ?_, fun p hp j hj => (h1.2.2 p hp j hj).trans (p_pk30 _ _ _ _ _ _ _ _ _ _ _ _ _ _ _ _ _ _ _ _ _ _ _ _ (by omega))⟩
          obtain ⟨q, hq⟩ : ∃ q : Fin 10, q.val = k := ⟨⟨k, hk⟩, rfl⟩
          subst hq
          match q with
          | ⟨0, _⟩ => rfl
          | ⟨1, _⟩ => exact HT 1 (by omega)
          | ⟨2, _⟩ => exact HT 2 (by omega)
          | ⟨3, _⟩ => exact HT 3 (by omega)
          | ⟨4, _⟩ => exact HT 4 (by omega)
          | ⟨5, _⟩ => exact HT 5 (by omega)
          | ⟨6, _⟩ => exact HT 6 (by omega)
          | ⟨7, _⟩ => exact HT 7 (by omega)
          | ⟨8, _⟩ => exact HT 8 (by omega)
          | ⟨9, _⟩ => exact HT 9 (by omega)
        have nO : r_OK (r_pack p2 d_lead d_ball d_rebound d_law d_draw d_players d_fouls d_calls d_side d_kind d_near d_far d_free) := by
          refine ⟨⟨⟨b1, b2⟩, O1.2⟩, O2, O3, O4, O5, fun p hp => ?_⟩
          have g := O6 p hp
          have pk := fun k (hk : k < 30) => p_pk30 d_seconds d_lead d_ball d_rebound d_law d_draw d_players d_fouls d_calls p2 d_lead d_ball d_rebound d_law d_draw d_players d_fouls d_calls d_side d_kind d_near d_far d_free k hk
          rw [pk p (by omega), pk (6 + p) (by omega), pk (12 + p) (by omega), pk (18 + p) (by omega), pk (24 + p) (by omega)] at g
          exact g
        rw [if_pos (by decide)] at e1
        obtain ⟨rfl, rfl⟩ := Prod.mk.inj e1
        obtain ⟨rfl, rfl⟩ := Prod.mk.inj e2
        exact ⟨rfl, nH, nO, h3, h4, h5, h6, h7, h8⟩
      · obtain ⟨U, U', q1, q2, q3⟩ := p_no (r_ref hR) (x := -6) 6 (by decide) (by decide)
        have f2 : f_X5_set d_seconds d_lead d_ball d_rebound d_law d_draw d_fouls d_calls d_refusals 0 p2 = (-6, d_seconds, d_lead, d_ball, d_rebound, d_law, d_draw, d_fouls, d_calls, U') := by
          unfold f_X5_set
          simp only [p_lt, p_lt2, (by decide : (0 : Int32) = 0), (by decide : ¬ (0 : Int32) = 1), (by decide : ¬ (0 : Int32) = 2), (by decide : ¬ (0 : Int32) = 3), (by decide : ¬ (0 : Int32) = 4), (by decide : ¬ (0 : Int32) = 5), (by decide : ¬ (0 : Int32) = 6), (by decide : ¬ (0 : Int32) = 7), (by decide : ¬ (0 : Int32) = 8), (by decide : ¬ (5 : Int32) ≤ 0), (by decide : ¬ (7 : Int32) ≤ 0), show f_X5_within 0 0 9 = 1 from by decide, (by decide : ¬ (1 : Int32) = 0), (by decide : ((0 : Int32) - 3).toNatClampNeg = 0), (by decide : ((0 : Int32) - 5).toNatClampNeg = 0), b1, b2, q2, if_true, if_false]
        rw [f2] at e2
        unfold f_X4_set at e1
        rw [if_neg (by decide), if_pos (by decide), gt, p_lt, o1, if_neg (by decide), q1, p_lt2] at e1
        obtain ⟨rfl, rfl⟩ := Prod.mk.inj e1
        obtain ⟨rfl, rfl⟩ := Prod.mk.inj e2
        exact ⟨rfl, r_up hR q3 (r_sol hR)⟩
      · obtain ⟨U, U', q1, q2, q3⟩ := p_no (r_ref hR) (x := -4) 4 (by decide) (by decide)
        have f2 : f_X5_set d_seconds d_lead d_ball d_rebound d_law d_draw d_fouls d_calls d_refusals 0 p2 = (-4, d_seconds, d_lead, d_ball, d_rebound, d_law, d_draw, d_fouls, d_calls, U') := by
          unfold f_X5_set
          simp only [p_lt, p_lt2, (by decide : (0 : Int32) = 0), (by decide : ¬ (0 : Int32) = 1), (by decide : ¬ (0 : Int32) = 2), (by decide : ¬ (0 : Int32) = 3), (by decide : ¬ (0 : Int32) = 4), (by decide : ¬ (0 : Int32) = 5), (by decide : ¬ (0 : Int32) = 6), (by decide : ¬ (0 : Int32) = 7), (by decide : ¬ (0 : Int32) = 8), (by decide : ¬ (5 : Int32) ≤ 0), (by decide : ¬ (7 : Int32) ≤ 0), show f_X5_within 0 0 9 = 1 from by decide, (by decide : ¬ (1 : Int32) = 0), (by decide : ((0 : Int32) - 3).toNatClampNeg = 0), (by decide : ((0 : Int32) - 5).toNatClampNeg = 0), b1, q2, if_true, if_false]
        rw [f2] at e2
        unfold f_X4_set at e1
        rw [if_neg (by decide), if_pos (by decide), gt, p_lt, o1, if_neg (by decide), q1, p_lt2] at e1
        obtain ⟨rfl, rfl⟩ := Prod.mk.inj e1
        obtain ⟨rfl, rfl⟩ := Prod.mk.inj e2
        exact ⟨rfl, r_up hR q3 (r_sol hR)⟩
    · have gt : g_tabG.getD (1 : Int32).toNatClampNeg 0 = 12 := by decide
      rcases p_out p2 12 with ⟨b1, b2, o1⟩ | ⟨b1, b2, o1⟩ | ⟨b1, o1⟩
      · have tl : f_X0_tell c_now_told 1 p2 = upd c_now_told 1 p2 := rfl
        have to : f_X0_told c_now_told 1 = d_lead := (show f_X0_told c_now_told 1 = c_now_told 1 from rfl).trans (HT 1 (by omega))
        have f2 : f_X5_set d_seconds d_lead d_ball d_rebound d_law d_draw d_fouls d_calls d_refusals 1 p2 = (d_lead, d_seconds, p2, d_ball, d_rebound, d_law, d_draw, d_fouls, d_calls, d_refusals) := by
          unfold f_X5_set
          simp only [p_lt, (by decide : ¬ (1 : Int32) = 0), (by decide : (1 : Int32) = 1), (by decide : ¬ (1 : Int32) = 2), (by decide : ¬ (1 : Int32) = 3), (by decide : ¬ (1 : Int32) = 4), (by decide : ¬ (1 : Int32) = 5), (by decide : ¬ (1 : Int32) = 6), (by decide : ¬ (1 : Int32) = 7), (by decide : ¬ (1 : Int32) = 8), (by decide : ¬ (5 : Int32) ≤ 1), (by decide : ¬ (7 : Int32) ≤ 1), show f_X5_within 1 0 9 = 1 from by decide, (by decide : ¬ (1 : Int32) = 0), (by decide : ((1 : Int32) - 3).toNatClampNeg = 0), (by decide : ((1 : Int32) - 5).toNatClampNeg = 0), b1, b2, if_true, if_false]
        rw [f2] at e2
        unfold f_X4_set at e1
        rw [if_neg (by decide), if_pos (by decide), gt, p_lt, if_pos o1, p_lt, to, p_lt, tl] at e1
        have nH : r_HA (upd c_now_told 1 p2) c_now_squad_size c_now_squad_facts (r_pack d_seconds p2 d_ball d_rebound d_law d_draw d_players d_fouls d_calls d_side d_kind d_near d_far d_free) := by
          refine ⟨h1.1, fun k hk => ?_, fun p hp j hj => (h1.2.2 p hp j hj).trans (p_pk30 _ _ _ _ _ _ _ _ _ _ _ _ _ _ _ _ _ _ _ _ _ _ _ _ (by omega))⟩
          obtain ⟨q, hq⟩ : ∃ q : Fin 10, q.val = k := ⟨⟨k, hk⟩, rfl⟩
          subst hq
          match q with
          | ⟨0, _⟩ => exact HT 0 (by omega)
          | ⟨1, _⟩ => rfl
          | ⟨2, _⟩ => exact HT 2 (by omega)
          | ⟨3, _⟩ => exact HT 3 (by omega)
          | ⟨4, _⟩ => exact HT 4 (by omega)
          | ⟨5, _⟩ => exact HT 5 (by omega)
          | ⟨6, _⟩ => exact HT 6 (by omega)
          | ⟨7, _⟩ => exact HT 7 (by omega)
          | ⟨8, _⟩ => exact HT 8 (by omega)
          | ⟨9, _⟩ => exact HT 9 (by omega)
        have nO : r_OK (r_pack d_seconds p2 d_ball d_rebound d_law d_draw d_players d_fouls d_calls d_side d_kind d_near d_far d_free) := by
          refine ⟨⟨O1.1, ⟨b1, b2⟩, O1.2.2⟩, O2, O3, O4, O5, fun p hp => ?_⟩
          have g := O6 p hp
          have pk := fun k (hk : k < 30) => p_pk30 d_seconds d_lead d_ball d_rebound d_law d_draw d_players d_fouls d_calls d_seconds p2 d_ball d_rebound d_law d_draw d_players d_fouls d_calls d_side d_kind d_near d_far d_free k hk
          rw [pk p (by omega), pk (6 + p) (by omega), pk (12 + p) (by omega), pk (18 + p) (by omega), pk (24 + p) (by omega)] at g
          exact g
        rw [if_pos (by decide)] at e1
        obtain ⟨rfl, rfl⟩ := Prod.mk.inj e1
        obtain ⟨rfl, rfl⟩ := Prod.mk.inj e2
        exact ⟨rfl, nH, nO, h3, h4, h5, h6, h7, h8⟩
      · obtain ⟨U, U', q1, q2, q3⟩ := p_no (r_ref hR) (x := -6) 6 (by decide) (by decide)
        have f2 : f_X5_set d_seconds d_lead d_ball d_rebound d_law d_draw d_fouls d_calls d_refusals 1 p2 = (-6, d_seconds, d_lead, d_ball, d_rebound, d_law, d_draw, d_fouls, d_calls, U') := by
          unfold f_X5_set
          simp only [p_lt, p_lt2, (by decide : ¬ (1 : Int32) = 0), (by decide : (1 : Int32) = 1), (by decide : ¬ (1 : Int32) = 2), (by decide : ¬ (1 : Int32) = 3), (by decide : ¬ (1 : Int32) = 4), (by decide : ¬ (1 : Int32) = 5), (by decide : ¬ (1 : Int32) = 6), (by decide : ¬ (1 : Int32) = 7), (by decide : ¬ (1 : Int32) = 8), (by decide : ¬ (5 : Int32) ≤ 1), (by decide : ¬ (7 : Int32) ≤ 1), show f_X5_within 1 0 9 = 1 from by decide, (by decide : ¬ (1 : Int32) = 0), (by decide : ((1 : Int32) - 3).toNatClampNeg = 0), (by decide : ((1 : Int32) - 5).toNatClampNeg = 0), b1, b2, q2, if_true, if_false]
        rw [f2] at e2
        unfold f_X4_set at e1
        rw [if_neg (by decide), if_pos (by decide), gt, p_lt, o1, if_neg (by decide), q1, p_lt2] at e1
        obtain ⟨rfl, rfl⟩ := Prod.mk.inj e1
        obtain ⟨rfl, rfl⟩ := Prod.mk.inj e2
        exact ⟨rfl, r_up hR q3 (r_sol hR)⟩
      · obtain ⟨U, U', q1, q2, q3⟩ := p_no (r_ref hR) (x := -4) 4 (by decide) (by decide)
        have f2 : f_X5_set d_seconds d_lead d_ball d_rebound d_law d_draw d_fouls d_calls d_refusals 1 p2 = (-4, d_seconds, d_lead, d_ball, d_rebound, d_law, d_draw, d_fouls, d_calls, U') := by
          unfold f_X5_set
          simp only [p_lt, p_lt2, (by decide : ¬ (1 : Int32) = 0), (by decide : (1 : Int32) = 1), (by decide : ¬ (1 : Int32) = 2), (by decide : ¬ (1 : Int32) = 3), (by decide : ¬ (1 : Int32) = 4), (by decide : ¬ (1 : Int32) = 5), (by decide : ¬ (1 : Int32) = 6), (by decide : ¬ (1 : Int32) = 7), (by decide : ¬ (1 : Int32) = 8), (by decide : ¬ (5 : Int32) ≤ 1), (by decide : ¬ (7 : Int32) ≤ 1), show f_X5_within 1 0 9 = 1 from by decide, (by decide : ¬ (1 : Int32) = 0), (by decide : ((1 : Int32) - 3).toNatClampNeg = 0), (by decide : ((1 : Int32) - 5).toNatClampNeg = 0), b1, q2, if_true, if_false]
        rw [f2] at e2
        unfold f_X4_set at e1
        rw [if_neg (by decide), if_pos (by decide), gt, p_lt, o1, if_neg (by decide), q1, p_lt2] at e1
        obtain ⟨rfl, rfl⟩ := Prod.mk.inj e1
        obtain ⟨rfl, rfl⟩ := Prod.mk.inj e2
        exact ⟨rfl, r_up hR q3 (r_sol hR)⟩
    · have gt : g_tabG.getD (2 : Int32).toNatClampNeg 0 = 1 := by decide
      rcases p_out p2 1 with ⟨b1, b2, o1⟩ | ⟨b1, b2, o1⟩ | ⟨b1, o1⟩
      · have tl : f_X0_tell c_now_told 2 p2 = upd c_now_told 2 p2 := rfl
        have to : f_X0_told c_now_told 2 = d_ball := (show f_X0_told c_now_told 2 = c_now_told 2 from rfl).trans (HT 2 (by omega))
        have f2 : f_X5_set d_seconds d_lead d_ball d_rebound d_law d_draw d_fouls d_calls d_refusals 2 p2 = (d_ball, d_seconds, d_lead, p2, d_rebound, d_law, d_draw, d_fouls, d_calls, d_refusals) := by
          unfold f_X5_set
          simp only [p_lt, (by decide : ¬ (2 : Int32) = 0), (by decide : ¬ (2 : Int32) = 1), (by decide : (2 : Int32) = 2), (by decide : ¬ (2 : Int32) = 3), (by decide : ¬ (2 : Int32) = 4), (by decide : ¬ (2 : Int32) = 5), (by decide : ¬ (2 : Int32) = 6), (by decide : ¬ (2 : Int32) = 7), (by decide : ¬ (2 : Int32) = 8), (by decide : ¬ (5 : Int32) ≤ 2), (by decide : ¬ (7 : Int32) ≤ 2), show f_X5_within 2 0 9 = 1 from by decide, (by decide : ¬ (1 : Int32) = 0), (by decide : ((2 : Int32) - 3).toNatClampNeg = 0), (by decide : ((2 : Int32) - 5).toNatClampNeg = 0), b1, b2, if_true, if_false]
        rw [f2] at e2
        unfold f_X4_set at e1
        rw [if_neg (by decide), if_pos (by decide), gt, p_lt, if_pos o1, p_lt, to, p_lt, tl] at e1
        have nH : r_HA (upd c_now_told 2 p2) c_now_squad_size c_now_squad_facts (r_pack d_seconds d_lead p2 d_rebound d_law d_draw d_players d_fouls d_calls d_side d_kind d_near d_far d_free) := by
          refine ⟨h1.1, fun k hk => ?_, fun p hp j hj => (h1.2.2 p hp j hj).trans (p_pk30 _ _ _ _ _ _ _ _ _ _ _ _ _ _ _ _ _ _ _ _ _ _ _ _ (by omega))⟩
          obtain ⟨q, hq⟩ : ∃ q : Fin 10, q.val = k := ⟨⟨k, hk⟩, rfl⟩
          subst hq
          match q with
          | ⟨0, _⟩ => exact HT 0 (by omega)
          | ⟨1, _⟩ => exact HT 1 (by omega)
          | ⟨2, _⟩ => rfl
          | ⟨3, _⟩ => exact HT 3 (by omega)
          | ⟨4, _⟩ => exact HT 4 (by omega)
          | ⟨5, _⟩ => exact HT 5 (by omega)
          | ⟨6, _⟩ => exact HT 6 (by omega)
          | ⟨7, _⟩ => exact HT 7 (by omega)
          | ⟨8, _⟩ => exact HT 8 (by omega)
          | ⟨9, _⟩ => exact HT 9 (by omega)
        have nO : r_OK (r_pack d_seconds d_lead p2 d_rebound d_law d_draw d_players d_fouls d_calls d_side d_kind d_near d_far d_free) := by
          refine ⟨⟨O1.1, O1.2.1, b1, b2⟩, O2, O3, O4, O5, fun p hp => ?_⟩
          have g := O6 p hp
          have pk := fun k (hk : k < 30) => p_pk30 d_seconds d_lead d_ball d_rebound d_law d_draw d_players d_fouls d_calls d_seconds d_lead p2 d_rebound d_law d_draw d_players d_fouls d_calls d_side d_kind d_near d_far d_free k hk
          rw [pk p (by omega), pk (6 + p) (by omega), pk (12 + p) (by omega), pk (18 + p) (by omega), pk (24 + p) (by omega)] at g
          exact g
        rw [if_pos (by decide)] at e1
        obtain ⟨rfl, rfl⟩ := Prod.mk.inj e1
        obtain ⟨rfl, rfl⟩ := Prod.mk.inj e2
        exact ⟨rfl, nH, nO, h3, h4, h5, h6, h7, h8⟩
      · obtain ⟨U, U', q1, q2, q3⟩ := p_no (r_ref hR) (x := -6) 6 (by decide) (by decide)
        have f2 : f_X5_set d_seconds d_lead d_ball d_rebound d_law d_draw d_fouls d_calls d_refusals 2 p2 = (-6, d_seconds, d_lead, d_ball, d_rebound, d_law, d_draw, d_fouls, d_calls, U') := by
          unfold f_X5_set
          simp only [p_lt, p_lt2, (by decide : ¬ (2 : Int32) = 0), (by decide : ¬ (2 : Int32) = 1), (by decide : (2 : Int32) = 2), (by decide : ¬ (2 : Int32) = 3), (by decide : ¬ (2 : Int32) = 4), (by decide : ¬ (2 : Int32) = 5), (by decide : ¬ (2 : Int32) = 6), (by decide : ¬ (2 : Int32) = 7), (by decide : ¬ (2 : Int32) = 8), (by decide : ¬ (5 : Int32) ≤ 2), (by decide : ¬ (7 : Int32) ≤ 2), show f_X5_within 2 0 9 = 1 from by decide, (by decide : ¬ (1 : Int32) = 0), (by decide : ((2 : Int32) - 3).toNatClampNeg = 0), (by decide : ((2 : Int32) - 5).toNatClampNeg = 0), b1, b2, q2, if_true, if_false]
        rw [f2] at e2
        unfold f_X4_set at e1
        rw [if_neg (by decide), if_pos (by decide), gt, p_lt, o1, if_neg (by decide), q1, p_lt2] at e1
        obtain ⟨rfl, rfl⟩ := Prod.mk.inj e1
        obtain ⟨rfl, rfl⟩ := Prod.mk.inj e2
        exact ⟨rfl, r_up hR q3 (r_sol hR)⟩
      · obtain ⟨U, U', q1, q2, q3⟩ := p_no (r_ref hR) (x := -4) 4 (by decide) (by decide)
        have f2 : f_X5_set d_seconds d_lead d_ball d_rebound d_law d_draw d_fouls d_calls d_refusals 2 p2 = (-4, d_seconds, d_lead, d_ball, d_rebound, d_law, d_draw, d_fouls, d_calls, U') := by
          unfold f_X5_set
          simp only [p_lt, p_lt2, (by decide : ¬ (2 : Int32) = 0), (by decide : ¬ (2 : Int32) = 1), (by decide : (2 : Int32) = 2), (by decide : ¬ (2 : Int32) = 3), (by decide : ¬ (2 : Int32) = 4), (by decide : ¬ (2 : Int32) = 5), (by decide : ¬ (2 : Int32) = 6), (by decide : ¬ (2 : Int32) = 7), (by decide : ¬ (2 : Int32) = 8), (by decide : ¬ (5 : Int32) ≤ 2), (by decide : ¬ (7 : Int32) ≤ 2), show f_X5_within 2 0 9 = 1 from by decide, (by decide : ¬ (1 : Int32) = 0), (by decide : ((2 : Int32) - 3).toNatClampNeg = 0), (by decide : ((2 : Int32) - 5).toNatClampNeg = 0), b1, q2, if_true, if_false]
        rw [f2] at e2
        unfold f_X4_set at e1
        rw [if_neg (by decide), if_pos (by decide), gt, p_lt, o1, if_neg (by decide), q1, p_lt2] at e1
        obtain ⟨rfl, rfl⟩ := Prod.mk.inj e1
        obtain ⟨rfl, rfl⟩ := Prod.mk.inj e2
        exact ⟨rfl, r_up hR q3 (r_sol hR)⟩
    · have gt : g_tabG.getD (3 : Int32).toNatClampNeg 0 = 5 := by decide
      rcases p_out p2 5 with ⟨b1, b2, o1⟩ | ⟨b1, b2, o1⟩ | ⟨b1, o1⟩
      · have tl : f_X0_tell c_now_told 3 p2 = upd c_now_told 3 p2 := rfl
        have to : f_X0_told c_now_told 3 = d_fouls 0 := (show f_X0_told c_now_told 3 = c_now_told 3 from rfl).trans (HT 3 (by omega))
        have f2 : f_X5_set d_seconds d_lead d_ball d_rebound d_law d_draw d_fouls d_calls d_refusals 3 p2 = (d_fouls 0, d_seconds, d_lead, d_ball, d_rebound, d_law, d_draw, (upd d_fouls 0 p2), d_calls, d_refusals) := by
          unfold f_X5_set
          simp only [p_lt, (by decide : ¬ (3 : Int32) = 0), (by decide : ¬ (3 : Int32) = 1), (by decide : ¬ (3 : Int32) = 2), (by decide : (3 : Int32) = 3), (by decide : ¬ (3 : Int32) = 4), (by decide : ¬ (3 : Int32) = 5), (by decide : ¬ (3 : Int32) = 6), (by decide : ¬ (3 : Int32) = 7), (by decide : ¬ (3 : Int32) = 8), (by decide : ¬ (5 : Int32) ≤ 3), (by decide : ¬ (7 : Int32) ≤ 3), show f_X5_within 3 0 9 = 1 from by decide, (by decide : ¬ (1 : Int32) = 0), (by decide : ((3 : Int32) - 3).toNatClampNeg = 0), (by decide : ((3 : Int32) - 5).toNatClampNeg = 0), b1, b2, if_true, if_false]
        rw [f2] at e2
        unfold f_X4_set at e1
        rw [if_neg (by decide), if_pos (by decide), gt, p_lt, if_pos o1, p_lt, to, p_lt, tl] at e1
        have nH : r_HA (upd c_now_told 3 p2) c_now_squad_size c_now_squad_facts (r_pack d_seconds d_lead d_ball d_rebound d_law d_draw d_players (upd d_fouls 0 p2) d_calls d_side d_kind d_near d_far d_free) := by
          refine ⟨h1.1, fun k hk => ?_, fun p hp j hj => (h1.2.2 p hp j hj).trans (p_pk30 _ _ _ _ _ _ _ _ _ _ _ _ _ _ _ _ _ _ _ _ _ _ _ _ (by omega))⟩
          obtain ⟨q, hq⟩ : ∃ q : Fin 10, q.val = k := ⟨⟨k, hk⟩, rfl⟩
          subst hq
          match q with
          | ⟨0, _⟩ => exact HT 0 (by omega)
          | ⟨1, _⟩ => exact HT 1 (by omega)
          | ⟨2, _⟩ => exact HT 2 (by omega)
          | ⟨3, _⟩ => rfl
          | ⟨4, _⟩ => exact HT 4 (by omega)
          | ⟨5, _⟩ => exact HT 5 (by omega)
          | ⟨6, _⟩ => exact HT 6 (by omega)
          | ⟨7, _⟩ => exact HT 7 (by omega)
          | ⟨8, _⟩ => exact HT 8 (by omega)
          | ⟨9, _⟩ => exact HT 9 (by omega)
        have nO : r_OK (r_pack d_seconds d_lead d_ball d_rebound d_law d_draw d_players (upd d_fouls 0 p2) d_calls d_side d_kind d_near d_far d_free) := by
          refine ⟨O1, O2, O3, O4, O5, fun p hp => ?_⟩
          have g := O6 p hp
          have pk := fun k (hk : k < 30) => p_pk30 d_seconds d_lead d_ball d_rebound d_law d_draw d_players d_fouls d_calls d_seconds d_lead d_ball d_rebound d_law d_draw d_players (upd d_fouls 0 p2) d_calls d_side d_kind d_near d_far d_free k hk
          rw [pk p (by omega), pk (6 + p) (by omega), pk (12 + p) (by omega), pk (18 + p) (by omega), pk (24 + p) (by omega)] at g
          exact g
        rw [if_pos (by decide)] at e1
        obtain ⟨rfl, rfl⟩ := Prod.mk.inj e1
        obtain ⟨rfl, rfl⟩ := Prod.mk.inj e2
        exact ⟨rfl, nH, nO, h3, h4, h5, h6, h7, h8⟩
      · obtain ⟨U, U', q1, q2, q3⟩ := p_no (r_ref hR) (x := -6) 6 (by decide) (by decide)
        have f2 : f_X5_set d_seconds d_lead d_ball d_rebound d_law d_draw d_fouls d_calls d_refusals 3 p2 = (-6, d_seconds, d_lead, d_ball, d_rebound, d_law, d_draw, d_fouls, d_calls, U') := by
          unfold f_X5_set
          simp only [p_lt, p_lt2, (by decide : ¬ (3 : Int32) = 0), (by decide : ¬ (3 : Int32) = 1), (by decide : ¬ (3 : Int32) = 2), (by decide : (3 : Int32) = 3), (by decide : ¬ (3 : Int32) = 4), (by decide : ¬ (3 : Int32) = 5), (by decide : ¬ (3 : Int32) = 6), (by decide : ¬ (3 : Int32) = 7), (by decide : ¬ (3 : Int32) = 8), (by decide : ¬ (5 : Int32) ≤ 3), (by decide : ¬ (7 : Int32) ≤ 3), show f_X5_within 3 0 9 = 1 from by decide, (by decide : ¬ (1 : Int32) = 0), (by decide : ((3 : Int32) - 3).toNatClampNeg = 0), (by decide : ((3 : Int32) - 5).toNatClampNeg = 0), b1, b2, q2, if_true, if_false]
        rw [f2] at e2
        unfold f_X4_set at e1
        rw [if_neg (by decide), if_pos (by decide), gt, p_lt, o1, if_neg (by decide), q1, p_lt2] at e1
        obtain ⟨rfl, rfl⟩ := Prod.mk.inj e1
        obtain ⟨rfl, rfl⟩ := Prod.mk.inj e2
        exact ⟨rfl, r_up hR q3 (r_sol hR)⟩
      · obtain ⟨U, U', q1, q2, q3⟩ := p_no (r_ref hR) (x := -4) 4 (by decide) (by decide)
        have f2 : f_X5_set d_seconds d_lead d_ball d_rebound d_law d_draw d_fouls d_calls d_refusals 3 p2 = (-4, d_seconds, d_lead, d_ball, d_rebound, d_law, d_draw, d_fouls, d_calls, U') := by
          unfold f_X5_set
          simp only [p_lt, p_lt2, (by decide : ¬ (3 : Int32) = 0), (by decide : ¬ (3 : Int32) = 1), (by decide : ¬ (3 : Int32) = 2), (by decide : (3 : Int32) = 3), (by decide : ¬ (3 : Int32) = 4), (by decide : ¬ (3 : Int32) = 5), (by decide : ¬ (3 : Int32) = 6), (by decide : ¬ (3 : Int32) = 7), (by decide : ¬ (3 : Int32) = 8), (by decide : ¬ (5 : Int32) ≤ 3), (by decide : ¬ (7 : Int32) ≤ 3), show f_X5_within 3 0 9 = 1 from by decide, (by decide : ¬ (1 : Int32) = 0), (by decide : ((3 : Int32) - 3).toNatClampNeg = 0), (by decide : ((3 : Int32) - 5).toNatClampNeg = 0), b1, q2, if_true, if_false]
        rw [f2] at e2
        unfold f_X4_set at e1
        rw [if_neg (by decide), if_pos (by decide), gt, p_lt, o1, if_neg (by decide), q1, p_lt2] at e1
        obtain ⟨rfl, rfl⟩ := Prod.mk.inj e1
        obtain ⟨rfl, rfl⟩ := Prod.mk.inj e2
        exact ⟨rfl, r_up hR q3 (r_sol hR)⟩
    · have gt : g_tabG.getD (4 : Int32).toNatClampNeg 0 = 5 := by decide
      rcases p_out p2 5 with ⟨b1, b2, o1⟩ | ⟨b1, b2, o1⟩ | ⟨b1, o1⟩
      · have tl : f_X0_tell c_now_told 4 p2 = upd c_now_told 4 p2 := rfl
        have to : f_X0_told c_now_told 4 = d_fouls 1 := (show f_X0_told c_now_told 4 = c_now_told 4 from rfl).trans (HT 4 (by omega))
        have f2 : f_X5_set d_seconds d_lead d_ball d_rebound d_law d_draw d_fouls d_calls d_refusals 4 p2 = (d_fouls 1, d_seconds, d_lead, d_ball, d_rebound, d_law, d_draw, (upd d_fouls 1 p2), d_calls, d_refusals) := by
          unfold f_X5_set
          simp only [p_lt, (by decide : ¬ (4 : Int32) = 0), (by decide : ¬ (4 : Int32) = 1), (by decide : ¬ (4 : Int32) = 2), (by decide : ¬ (4 : Int32) = 3), (by decide : (4 : Int32) = 4), (by decide : ¬ (4 : Int32) = 5), (by decide : ¬ (4 : Int32) = 6), (by decide : ¬ (4 : Int32) = 7), (by decide : ¬ (4 : Int32) = 8), (by decide : ¬ (5 : Int32) ≤ 4), (by decide : ¬ (7 : Int32) ≤ 4), show f_X5_within 4 0 9 = 1 from by decide, (by decide : ¬ (1 : Int32) = 0), (by decide : ((4 : Int32) - 3).toNatClampNeg = 1), (by decide : ((4 : Int32) - 5).toNatClampNeg = 0), b1, b2, if_true, if_false]
        rw [f2] at e2
        unfold f_X4_set at e1
        rw [if_neg (by decide), if_pos (by decide), gt, p_lt, if_pos o1, p_lt, to, p_lt, tl] at e1
        have nH : r_HA (upd c_now_told 4 p2) c_now_squad_size c_now_squad_facts (r_pack d_seconds d_lead d_ball d_rebound d_law d_draw d_players (upd d_fouls 1 p2) d_calls d_side d_kind d_near d_far d_free) := by
          refine ⟨h1.1, fun k hk => ?_, fun p hp j hj => (h1.2.2 p hp j hj).trans (p_pk30 _ _ _ _ _ _ _ _ _ _ _ _ _ _ _ _ _ _ _ _ _ _ _ _ (by omega))⟩
          obtain ⟨q, hq⟩ : ∃ q : Fin 10, q.val = k := ⟨⟨k, hk⟩, rfl⟩
          subst hq
          match q with
          | ⟨0, _⟩ => exact HT 0 (by omega)
          | ⟨1, _⟩ => exact HT 1 (by omega)
          | ⟨2, _⟩ => exact HT 2 (by omega)
          | ⟨3, _⟩ => exact HT 3 (by omega)
          | ⟨4, _⟩ => rfl
          | ⟨5, _⟩ => exact HT 5 (by omega)
          | ⟨6, _⟩ => exact HT 6 (by omega)
          | ⟨7, _⟩ => exact HT 7 (by omega)
          | ⟨8, _⟩ => exact HT 8 (by omega)
          | ⟨9, _⟩ => exact HT 9 (by omega)
        have nO : r_OK (r_pack d_seconds d_lead d_ball d_rebound d_law d_draw d_players (upd d_fouls 1 p2) d_calls d_side d_kind d_near d_far d_free) := by
          refine ⟨O1, O2, O3, O4, O5, fun p hp => ?_⟩
          have g := O6 p hp
          have pk := fun k (hk : k < 30) => p_pk30 d_seconds d_lead d_ball d_rebound d_law d_draw d_players d_fouls d_calls d_seconds d_lead d_ball d_rebound d_law d_draw d_players (upd d_fouls 1 p2) d_calls d_side d_kind d_near d_far d_free k hk
          rw [pk p (by omega), pk (6 + p) (by omega), pk (12 + p) (by omega), pk (18 + p) (by omega), pk (24 + p) (by omega)] at g
          exact g
        rw [if_pos (by decide)] at e1
        obtain ⟨rfl, rfl⟩ := Prod.mk.inj e1
        obtain ⟨rfl, rfl⟩ := Prod.mk.inj e2
        exact ⟨rfl, nH, nO, h3, h4, h5, h6, h7, h8⟩
      · obtain ⟨U, U', q1, q2, q3⟩ := p_no (r_ref hR) (x := -6) 6 (by decide) (by decide)
        have f2 : f_X5_set d_seconds d_lead d_ball d_rebound d_law d_draw d_fouls d_calls d_refusals 4 p2 = (-6, d_seconds, d_lead, d_ball, d_rebound, d_law, d_draw, d_fouls, d_calls, U') := by
          unfold f_X5_set
          simp only [p_lt, p_lt2, (by decide : ¬ (4 : Int32) = 0), (by decide : ¬ (4 : Int32) = 1), (by decide : ¬ (4 : Int32) = 2), (by decide : ¬ (4 : Int32) = 3), (by decide : (4 : Int32) = 4), (by decide : ¬ (4 : Int32) = 5), (by decide : ¬ (4 : Int32) = 6), (by decide : ¬ (4 : Int32) = 7), (by decide : ¬ (4 : Int32) = 8), (by decide : ¬ (5 : Int32) ≤ 4), (by decide : ¬ (7 : Int32) ≤ 4), show f_X5_within 4 0 9 = 1 from by decide, (by decide : ¬ (1 : Int32) = 0), (by decide : ((4 : Int32) - 3).toNatClampNeg = 1), (by decide : ((4 : Int32) - 5).toNatClampNeg = 0), b1, b2, q2, if_true, if_false]
        rw [f2] at e2
        unfold f_X4_set at e1
        rw [if_neg (by decide), if_pos (by decide), gt, p_lt, o1, if_neg (by decide), q1, p_lt2] at e1
        obtain ⟨rfl, rfl⟩ := Prod.mk.inj e1
        obtain ⟨rfl, rfl⟩ := Prod.mk.inj e2
        exact ⟨rfl, r_up hR q3 (r_sol hR)⟩
      · obtain ⟨U, U', q1, q2, q3⟩ := p_no (r_ref hR) (x := -4) 4 (by decide) (by decide)
        have f2 : f_X5_set d_seconds d_lead d_ball d_rebound d_law d_draw d_fouls d_calls d_refusals 4 p2 = (-4, d_seconds, d_lead, d_ball, d_rebound, d_law, d_draw, d_fouls, d_calls, U') := by
          unfold f_X5_set
          simp only [p_lt, p_lt2, (by decide : ¬ (4 : Int32) = 0), (by decide : ¬ (4 : Int32) = 1), (by decide : ¬ (4 : Int32) = 2), (by decide : ¬ (4 : Int32) = 3), (by decide : (4 : Int32) = 4), (by decide : ¬ (4 : Int32) = 5), (by decide : ¬ (4 : Int32) = 6), (by decide : ¬ (4 : Int32) = 7), (by decide : ¬ (4 : Int32) = 8), (by decide : ¬ (5 : Int32) ≤ 4), (by decide : ¬ (7 : Int32) ≤ 4), show f_X5_within 4 0 9 = 1 from by decide, (by decide : ¬ (1 : Int32) = 0), (by decide : ((4 : Int32) - 3).toNatClampNeg = 1), (by decide : ((4 : Int32) - 5).toNatClampNeg = 0), b1, q2, if_true, if_false]
        rw [f2] at e2
        unfold f_X4_set at e1
        rw [if_neg (by decide), if_pos (by decide), gt, p_lt, o1, if_neg (by decide), q1, p_lt2] at e1
        obtain ⟨rfl, rfl⟩ := Prod.mk.inj e1
        obtain ⟨rfl, rfl⟩ := Prod.mk.inj e2
        exact ⟨rfl, r_up hR q3 (r_sol hR)⟩
    · have gt : g_tabG.getD (5 : Int32).toNatClampNeg 0 = 2 := by decide
      rcases p_out p2 2 with ⟨b1, b2, o1⟩ | ⟨b1, b2, o1⟩ | ⟨b1, o1⟩
      · have tl : f_X0_tell c_now_told 5 p2 = upd c_now_told 5 p2 := rfl
        have to : f_X0_told c_now_told 5 = d_calls 0 := (show f_X0_told c_now_told 5 = c_now_told 5 from rfl).trans (HT 5 (by omega))
        have f2 : f_X5_set d_seconds d_lead d_ball d_rebound d_law d_draw d_fouls d_calls d_refusals 5 p2 = (d_calls 0, d_seconds, d_lead, d_ball, d_rebound, d_law, d_draw, d_fouls, (upd d_calls 0 p2), d_refusals) := by
          unfold f_X5_set
          simp only [p_lt, (by decide : ¬ (5 : Int32) = 0), (by decide : ¬ (5 : Int32) = 1), (by decide : ¬ (5 : Int32) = 2), (by decide : ¬ (5 : Int32) = 3), (by decide : ¬ (5 : Int32) = 4), (by decide : (5 : Int32) = 5), (by decide : ¬ (5 : Int32) = 6), (by decide : ¬ (5 : Int32) = 7), (by decide : ¬ (5 : Int32) = 8), (by decide : (5 : Int32) ≤ 5), (by decide : ¬ (7 : Int32) ≤ 5), show f_X5_within 5 0 9 = 1 from by decide, (by decide : ¬ (1 : Int32) = 0), (by decide : ((5 : Int32) - 3).toNatClampNeg = 2), (by decide : ((5 : Int32) - 5).toNatClampNeg = 0), b1, b2, if_true, if_false]
        rw [f2] at e2
        unfold f_X4_set at e1
        rw [if_neg (by decide), if_pos (by decide), gt, p_lt, if_pos o1, p_lt, to, p_lt, tl] at e1
        have nH : r_HA (upd c_now_told 5 p2) c_now_squad_size c_now_squad_facts (r_pack d_seconds d_lead d_ball d_rebound d_law d_draw d_players d_fouls (upd d_calls 0 p2) d_side d_kind d_near d_far d_free) := by
          refine ⟨h1.1, fun k hk => ?_, fun p hp j hj => (h1.2.2 p hp j hj).trans (p_pk30 _ _ _ _ _ _ _ _ _ _ _ _ _ _ _ _ _ _ _ _ _ _ _ _ (by omega))⟩
          obtain ⟨q, hq⟩ : ∃ q : Fin 10, q.val = k := ⟨⟨k, hk⟩, rfl⟩
          subst hq
          match q with
          | ⟨0, _⟩ => exact HT 0 (by omega)
          | ⟨1, _⟩ => exact HT 1 (by omega)
          | ⟨2, _⟩ => exact HT 2 (by omega)
          | ⟨3, _⟩ => exact HT 3 (by omega)
          | ⟨4, _⟩ => exact HT 4 (by omega)
          | ⟨5, _⟩ => rfl
          | ⟨6, _⟩ => exact HT 6 (by omega)
          | ⟨7, _⟩ => exact HT 7 (by omega)
          | ⟨8, _⟩ => exact HT 8 (by omega)
          | ⟨9, _⟩ => exact HT 9 (by omega)
        have nO : r_OK (r_pack d_seconds d_lead d_ball d_rebound d_law d_draw d_players d_fouls (upd d_calls 0 p2) d_side d_kind d_near d_far d_free) := by
          refine ⟨O1, O2, O3, O4, O5, fun p hp => ?_⟩
          have g := O6 p hp
          have pk := fun k (hk : k < 30) => p_pk30 d_seconds d_lead d_ball d_rebound d_law d_draw d_players d_fouls d_calls d_seconds d_lead d_ball d_rebound d_law d_draw d_players d_fouls (upd d_calls 0 p2) d_side d_kind d_near d_far d_free k hk
          rw [pk p (by omega), pk (6 + p) (by omega), pk (12 + p) (by omega), pk (18 + p) (by omega), pk (24 + p) (by omega)] at g
          exact g
        rw [if_pos (by decide)] at e1
        obtain ⟨rfl, rfl⟩ := Prod.mk.inj e1
        obtain ⟨rfl, rfl⟩ := Prod.mk.inj e2
        exact ⟨rfl, nH, nO, h3, h4, h5, h6, h7, h8⟩
      · obtain ⟨U, U', q1, q2, q3⟩ := p_no (r_ref hR) (x := -6) 6 (by decide) (by decide)
        have f2 : f_X5_set d_seconds d_lead d_ball d_rebound d_law d_draw d_fouls d_calls d_refusals 5 p2 = (-6, d_seconds, d_lead, d_ball, d_rebound, d_law, d_draw, d_fouls, d_calls, U') := by
          unfold f_X5_set
          simp only [p_lt, p_lt2, (by decide : ¬ (5 : Int32) = 0), (by decide : ¬ (5 : Int32) = 1), (by decide : ¬ (5 : Int32) = 2), (by decide : ¬ (5 : Int32) = 3), (by decide : ¬ (5 : Int32) = 4), (by decide : (5 : Int32) = 5), (by decide : ¬ (5 : Int32) = 6), (by decide : ¬ (5 : Int32) = 7), (by decide : ¬ (5 : Int32) = 8), (by decide : (5 : Int32) ≤ 5), (by decide : ¬ (7 : Int32) ≤ 5), show f_X5_within 5 0 9 = 1 from by decide, (by decide : ¬ (1 : Int32) = 0), (by decide : ((5 : Int32) - 3).toNatClampNeg = 2), (by decide : ((5 : Int32) - 5).toNatClampNeg = 0), b1, b2, q2, if_true, if_false]
        rw [f2] at e2
        unfold f_X4_set at e1
        rw [if_neg (by decide), if_pos (by decide), gt, p_lt, o1, if_neg (by decide), q1, p_lt2] at e1
        obtain ⟨rfl, rfl⟩ := Prod.mk.inj e1
        obtain ⟨rfl, rfl⟩ := Prod.mk.inj e2
        exact ⟨rfl, r_up hR q3 (r_sol hR)⟩
      · obtain ⟨U, U', q1, q2, q3⟩ := p_no (r_ref hR) (x := -4) 4 (by decide) (by decide)
        have f2 : f_X5_set d_seconds d_lead d_ball d_rebound d_law d_draw d_fouls d_calls d_refusals 5 p2 = (-4, d_seconds, d_lead, d_ball, d_rebound, d_law, d_draw, d_fouls, d_calls, U') := by
          unfold f_X5_set
          simp only [p_lt, p_lt2, (by decide : ¬ (5 : Int32) = 0), (by decide : ¬ (5 : Int32) = 1), (by decide : ¬ (5 : Int32) = 2), (by decide : ¬ (5 : Int32) = 3), (by decide : ¬ (5 : Int32) = 4), (by decide : (5 : Int32) = 5), (by decide : ¬ (5 : Int32) = 6), (by decide : ¬ (5 : Int32) = 7), (by decide : ¬ (5 : Int32) = 8), (by decide : (5 : Int32) ≤ 5), (by decide : ¬ (7 : Int32) ≤ 5), show f_X5_within 5 0 9 = 1 from by decide, (by decide : ¬ (1 : Int32) = 0), (by decide : ((5 : Int32) - 3).toNatClampNeg = 2), (by decide : ((5 : Int32) - 5).toNatClampNeg = 0), b1, q2, if_true, if_false]
        rw [f2] at e2
        unfold f_X4_set at e1
        rw [if_neg (by decide), if_pos (by decide), gt, p_lt, o1, if_neg (by decide), q1, p_lt2] at e1
        obtain ⟨rfl, rfl⟩ := Prod.mk.inj e1
        obtain ⟨rfl, rfl⟩ := Prod.mk.inj e2
        exact ⟨rfl, r_up hR q3 (r_sol hR)⟩
    · have gt : g_tabG.getD (6 : Int32).toNatClampNeg 0 = 2 := by decide
      rcases p_out p2 2 with ⟨b1, b2, o1⟩ | ⟨b1, b2, o1⟩ | ⟨b1, o1⟩
      · have tl : f_X0_tell c_now_told 6 p2 = upd c_now_told 6 p2 := rfl
        have to : f_X0_told c_now_told 6 = d_calls 1 := (show f_X0_told c_now_told 6 = c_now_told 6 from rfl).trans (HT 6 (by omega))
        have f2 : f_X5_set d_seconds d_lead d_ball d_rebound d_law d_draw d_fouls d_calls d_refusals 6 p2 = (d_calls 1, d_seconds, d_lead, d_ball, d_rebound, d_law, d_draw, d_fouls, (upd d_calls 1 p2), d_refusals) := by
          unfold f_X5_set
          simp only [p_lt, (by decide : ¬ (6 : Int32) = 0), (by decide : ¬ (6 : Int32) = 1), (by decide : ¬ (6 : Int32) = 2), (by decide : ¬ (6 : Int32) = 3), (by decide : ¬ (6 : Int32) = 4), (by decide : ¬ (6 : Int32) = 5), (by decide : (6 : Int32) = 6), (by decide : ¬ (6 : Int32) = 7), (by decide : ¬ (6 : Int32) = 8), (by decide : (5 : Int32) ≤ 6), (by decide : ¬ (7 : Int32) ≤ 6), show f_X5_within 6 0 9 = 1 from by decide, (by decide : ¬ (1 : Int32) = 0), (by decide : ((6 : Int32) - 3).toNatClampNeg = 3), (by decide : ((6 : Int32) - 5).toNatClampNeg = 1), b1, b2, if_true, if_false]
        rw [f2] at e2
        unfold f_X4_set at e1
        rw [if_neg (by decide), if_pos (by decide), gt, p_lt, if_pos o1, p_lt, to, p_lt, tl] at e1
        have nH : r_HA (upd c_now_told 6 p2) c_now_squad_size c_now_squad_facts (r_pack d_seconds d_lead d_ball d_rebound d_law d_draw d_players d_fouls (upd d_calls 1 p2) d_side d_kind d_near d_far d_free) := by
          refine ⟨h1.1, fun k hk => ?_, fun p hp j hj => (h1.2.2 p hp j hj).trans (p_pk30 _ _ _ _ _ _ _ _ _ _ _ _ _ _ _ _ _ _ _ _ _ _ _ _ (by omega))⟩
          obtain ⟨q, hq⟩ : ∃ q : Fin 10, q.val = k := ⟨⟨k, hk⟩, rfl⟩
          subst hq
          match q with
          | ⟨0, _⟩ => exact HT 0 (by omega)
          | ⟨1, _⟩ => exact HT 1 (by omega)
          | ⟨2, _⟩ => exact HT 2 (by omega)
          | ⟨3, _⟩ => exact HT 3 (by omega)
          | ⟨4, _⟩ => exact HT 4 (by omega)
          | ⟨5, _⟩ => exact HT 5 (by omega)
          | ⟨6, _⟩ => rfl
          | ⟨7, _⟩ => exact HT 7 (by omega)
          | ⟨8, _⟩ => exact HT 8 (by omega)
          | ⟨9, _⟩ => exact HT 9 (by omega)
        have nO : r_OK (r_pack d_seconds d_lead d_ball d_rebound d_law d_draw d_players d_fouls (upd d_calls 1 p2) d_side d_kind d_near d_far d_free) := by
          refine ⟨O1, O2, O3, O4, O5, fun p hp => ?_⟩
          have g := O6 p hp
          have pk := fun k (hk : k < 30) => p_pk30 d_seconds d_lead d_ball d_rebound d_law d_draw d_players d_fouls d_calls d_seconds d_lead d_ball d_rebound d_law d_draw d_players d_fouls (upd d_calls 1 p2) d_side d_kind d_near d_far d_free k hk
          rw [pk p (by omega), pk (6 + p) (by omega), pk (12 + p) (by omega), pk (18 + p) (by omega), pk (24 + p) (by omega)] at g
          exact g
        rw [if_pos (by decide)] at e1
        obtain ⟨rfl, rfl⟩ := Prod.mk.inj e1
        obtain ⟨rfl, rfl⟩ := Prod.mk.inj e2
        exact ⟨rfl, nH, nO, h3, h4, h5, h6, h7, h8⟩
      · obtain ⟨U, U', q1, q2, q3⟩ := p_no (r_ref hR) (x := -6) 6 (by decide) (by decide)
        have f2 : f_X5_set d_seconds d_lead d_ball d_rebound d_law d_draw d_fouls d_calls d_refusals 6 p2 = (-6, d_seconds, d_lead, d_ball, d_rebound, d_law, d_draw, d_fouls, d_calls, U') := by
          unfold f_X5_set
          simp only [p_lt, p_lt2, (by decide : ¬ (6 : Int32) = 0), (by decide : ¬ (6 : Int32) = 1), (by decide : ¬ (6 : Int32) = 2), (by decide : ¬ (6 : Int32) = 3), (by decide : ¬ (6 : Int32) = 4), (by decide : ¬ (6 : Int32) = 5), (by decide : (6 : Int32) = 6), (by decide : ¬ (6 : Int32) = 7), (by decide : ¬ (6 : Int32) = 8), (by decide : (5 : Int32) ≤ 6), (by decide : ¬ (7 : Int32) ≤ 6), show f_X5_within 6 0 9 = 1 from by decide, (by decide : ¬ (1 : Int32) = 0), (by decide : ((6 : Int32) - 3).toNatClampNeg = 3), (by decide : ((6 : Int32) - 5).toNatClampNeg = 1), b1, b2, q2, if_true, if_false]
        rw [f2] at e2
        unfold f_X4_set at e1
        rw [if_neg (by decide), if_pos (by decide), gt, p_lt, o1, if_neg (by decide), q1, p_lt2] at e1
        obtain ⟨rfl, rfl⟩ := Prod.mk.inj e1
        obtain ⟨rfl, rfl⟩ := Prod.mk.inj e2
        exact ⟨rfl, r_up hR q3 (r_sol hR)⟩
      · obtain ⟨U, U', q1, q2, q3⟩ := p_no (r_ref hR) (x := -4) 4 (by decide) (by decide)
        have f2 : f_X5_set d_seconds d_lead d_ball d_rebound d_law d_draw d_fouls d_calls d_refusals 6 p2 = (-4, d_seconds, d_lead, d_ball, d_rebound, d_law, d_draw, d_fouls, d_calls, U') := by
          unfold f_X5_set
          simp only [p_lt, p_lt2, (by decide : ¬ (6 : Int32) = 0), (by decide : ¬ (6 : Int32) = 1), (by decide : ¬ (6 : Int32) = 2), (by decide : ¬ (6 : Int32) = 3), (by decide : ¬ (6 : Int32) = 4), (by decide : ¬ (6 : Int32) = 5), (by decide : (6 : Int32) = 6), (by decide : ¬ (6 : Int32) = 7), (by decide : ¬ (6 : Int32) = 8), (by decide : (5 : Int32) ≤ 6), (by decide : ¬ (7 : Int32) ≤ 6), show f_X5_within 6 0 9 = 1 from by decide, (by decide : ¬ (1 : Int32) = 0), (by decide : ((6 : Int32) - 3).toNatClampNeg = 3), (by decide : ((6 : Int32) - 5).toNatClampNeg = 1), b1, q2, if_true, if_false]
        rw [f2] at e2
        unfold f_X4_set at e1
        rw [if_neg (by decide), if_pos (by decide), gt, p_lt, o1, if_neg (by decide), q1, p_lt2] at e1
        obtain ⟨rfl, rfl⟩ := Prod.mk.inj e1
        obtain ⟨rfl, rfl⟩ := Prod.mk.inj e2
        exact ⟨rfl, r_up hR q3 (r_sol hR)⟩
    · have gt : g_tabG.getD (7 : Int32).toNatClampNeg 0 = 9 := by decide
      rcases p_out p2 9 with ⟨b1, b2, o1⟩ | ⟨b1, b2, o1⟩ | ⟨b1, o1⟩
      · have tl : f_X0_tell c_now_told 7 p2 = upd c_now_told 7 p2 := rfl
        have to : f_X0_told c_now_told 7 = d_rebound := (show f_X0_told c_now_told 7 = c_now_told 7 from rfl).trans (HT 7 (by omega))
        have f2 : f_X5_set d_seconds d_lead d_ball d_rebound d_law d_draw d_fouls d_calls d_refusals 7 p2 = (d_rebound, d_seconds, d_lead, d_ball, p2, d_law, d_draw, d_fouls, d_calls, d_refusals) := by
          unfold f_X5_set
          simp only [p_lt, (by decide : ¬ (7 : Int32) = 0), (by decide : ¬ (7 : Int32) = 1), (by decide : ¬ (7 : Int32) = 2), (by decide : ¬ (7 : Int32) = 3), (by decide : ¬ (7 : Int32) = 4), (by decide : ¬ (7 : Int32) = 5), (by decide : ¬ (7 : Int32) = 6), (by decide : (7 : Int32) = 7), (by decide : ¬ (7 : Int32) = 8), (by decide : (5 : Int32) ≤ 7), (by decide : (7 : Int32) ≤ 7), show f_X5_within 7 0 9 = 1 from by decide, (by decide : ¬ (1 : Int32) = 0), (by decide : ((7 : Int32) - 3).toNatClampNeg = 4), (by decide : ((7 : Int32) - 5).toNatClampNeg = 2), b1, b2, if_true, if_false]
        rw [f2] at e2
        unfold f_X4_set at e1
        rw [if_neg (by decide), if_pos (by decide), gt, p_lt, if_pos o1, p_lt, to, p_lt, tl] at e1
        have nH : r_HA (upd c_now_told 7 p2) c_now_squad_size c_now_squad_facts (r_pack d_seconds d_lead d_ball p2 d_law d_draw d_players d_fouls d_calls d_side d_kind d_near d_far d_free) := by
          refine ⟨h1.1, fun k hk => ?_, fun p hp j hj => (h1.2.2 p hp j hj).trans (p_pk30 _ _ _ _ _ _ _ _ _ _ _ _ _ _ _ _ _ _ _ _ _ _ _ _ (by omega))⟩
          obtain ⟨q, hq⟩ : ∃ q : Fin 10, q.val = k := ⟨⟨k, hk⟩, rfl⟩
          subst hq
          match q with
          | ⟨0, _⟩ => exact HT 0 (by omega)
          | ⟨1, _⟩ => exact HT 1 (by omega)
          | ⟨2, _⟩ => exact HT 2 (by omega)
          | ⟨3, _⟩ => exact HT 3 (by omega)
          | ⟨4, _⟩ => exact HT 4 (by omega)
          | ⟨5, _⟩ => exact HT 5 (by omega)
          | ⟨6, _⟩ => exact HT 6 (by omega)
          | ⟨7, _⟩ => rfl
          | ⟨8, _⟩ => exact HT 8 (by omega)
          | ⟨9, _⟩ => exact HT 9 (by omega)
        have nO : r_OK (r_pack d_seconds d_lead d_ball p2 d_law d_draw d_players d_fouls d_calls d_side d_kind d_near d_far d_free) := by
          refine ⟨O1, O2, ⟨b1, b2⟩, O4, O5, fun p hp => ?_⟩
          have g := O6 p hp
          have pk := fun k (hk : k < 30) => p_pk30 d_seconds d_lead d_ball d_rebound d_law d_draw d_players d_fouls d_calls d_seconds d_lead d_ball p2 d_law d_draw d_players d_fouls d_calls d_side d_kind d_near d_far d_free k hk
          rw [pk p (by omega), pk (6 + p) (by omega), pk (12 + p) (by omega), pk (18 + p) (by omega), pk (24 + p) (by omega)] at g
          exact g
        obtain ⟨C1, s1, z1⟩ := p_start c_lamp_reboundTenths c_lamp_lawInForce c_lamp_drawTenths c_lamp_solvedRows c_lamp_squad_size c_lamp_squad_facts c_lamp_changes (upd c_now_told 7 p2) c_now_squad_size c_now_squad_facts
        rw [if_neg (by decide), p_lt, s1] at e1
        obtain ⟨rfl, rfl⟩ := Prod.mk.inj e1
        obtain ⟨rfl, rfl⟩ := Prod.mk.inj e2
        exact ⟨rfl, nH, nO, h3, h4, h5, h6, h7, nH.2.1 7 (by omega), nH.2.1 8 (by omega), nH.2.1 9 (by omega), nH.1, fun k hk => by show g_cpy c_now_squad_facts c_lamp_squad_facts 30 k = _; unfold g_cpy; rw [if_pos hk], z1, p_Sol0 _ _ _ _ _ _ _ _ _ _ _ _⟩
      · obtain ⟨U, U', q1, q2, q3⟩ := p_no (r_ref hR) (x := -6) 6 (by decide) (by decide)
        have f2 : f_X5_set d_seconds d_lead d_ball d_rebound d_law d_draw d_fouls d_calls d_refusals 7 p2 = (-6, d_seconds, d_lead, d_ball, d_rebound, d_law, d_draw, d_fouls, d_calls, U') := by
          unfold f_X5_set
          simp only [p_lt, p_lt2, (by decide : ¬ (7 : Int32) = 0), (by decide : ¬ (7 : Int32) = 1), (by decide : ¬ (7 : Int32) = 2), (by decide : ¬ (7 : Int32) = 3), (by decide : ¬ (7 : Int32) = 4), (by decide : ¬ (7 : Int32) = 5), (by decide : ¬ (7 : Int32) = 6), (by decide : (7 : Int32) = 7), (by decide : ¬ (7 : Int32) = 8), (by decide : (5 : Int32) ≤ 7), (by decide : (7 : Int32) ≤ 7), show f_X5_within 7 0 9 = 1 from by decide, (by decide : ¬ (1 : Int32) = 0), (by decide : ((7 : Int32) - 3).toNatClampNeg = 4), (by decide : ((7 : Int32) - 5).toNatClampNeg = 2), b1, b2, q2, if_true, if_false]
        rw [f2] at e2
        unfold f_X4_set at e1
        rw [if_neg (by decide), if_pos (by decide), gt, p_lt, o1, if_neg (by decide), q1, p_lt2] at e1
        obtain ⟨rfl, rfl⟩ := Prod.mk.inj e1
        obtain ⟨rfl, rfl⟩ := Prod.mk.inj e2
        exact ⟨rfl, r_up hR q3 (r_sol hR)⟩
      · obtain ⟨U, U', q1, q2, q3⟩ := p_no (r_ref hR) (x := -4) 4 (by decide) (by decide)
        have f2 : f_X5_set d_seconds d_lead d_ball d_rebound d_law d_draw d_fouls d_calls d_refusals 7 p2 = (-4, d_seconds, d_lead, d_ball, d_rebound, d_law, d_draw, d_fouls, d_calls, U') := by
          unfold f_X5_set
          simp only [p_lt, p_lt2, (by decide : ¬ (7 : Int32) = 0), (by decide : ¬ (7 : Int32) = 1), (by decide : ¬ (7 : Int32) = 2), (by decide : ¬ (7 : Int32) = 3), (by decide : ¬ (7 : Int32) = 4), (by decide : ¬ (7 : Int32) = 5), (by decide : ¬ (7 : Int32) = 6), (by decide : (7 : Int32) = 7), (by decide : ¬ (7 : Int32) = 8), (by decide : (5 : Int32) ≤ 7), (by decide : (7 : Int32) ≤ 7), show f_X5_within 7 0 9 = 1 from by decide, (by decide : ¬ (1 : Int32) = 0), (by decide : ((7 : Int32) - 3).toNatClampNeg = 4), (by decide : ((7 : Int32) - 5).toNatClampNeg = 2), b1, q2, if_true, if_false]
        rw [f2] at e2
        unfold f_X4_set at e1
        rw [if_neg (by decide), if_pos (by decide), gt, p_lt, o1, if_neg (by decide), q1, p_lt2] at e1
        obtain ⟨rfl, rfl⟩ := Prod.mk.inj e1
        obtain ⟨rfl, rfl⟩ := Prod.mk.inj e2
        exact ⟨rfl, r_up hR q3 (r_sol hR)⟩
    · have gt : g_tabG.getD (8 : Int32).toNatClampNeg 0 = 3 := by decide
      rcases p_out p2 3 with ⟨b1, b2, o1⟩ | ⟨b1, b2, o1⟩ | ⟨b1, o1⟩
      · have tl : f_X0_tell c_now_told 8 p2 = upd c_now_told 8 p2 := rfl
        have to : f_X0_told c_now_told 8 = d_law := (show f_X0_told c_now_told 8 = c_now_told 8 from rfl).trans (HT 8 (by omega))
        have f2 : f_X5_set d_seconds d_lead d_ball d_rebound d_law d_draw d_fouls d_calls d_refusals 8 p2 = (d_law, d_seconds, d_lead, d_ball, d_rebound, p2, d_draw, d_fouls, d_calls, d_refusals) := by
          unfold f_X5_set
          simp only [p_lt, (by decide : ¬ (8 : Int32) = 0), (by decide : ¬ (8 : Int32) = 1), (by decide : ¬ (8 : Int32) = 2), (by decide : ¬ (8 : Int32) = 3), (by decide : ¬ (8 : Int32) = 4), (by decide : ¬ (8 : Int32) = 5), (by decide : ¬ (8 : Int32) = 6), (by decide : ¬ (8 : Int32) = 7), (by decide : (8 : Int32) = 8), (by decide : (5 : Int32) ≤ 8), (by decide : (7 : Int32) ≤ 8), show f_X5_within 8 0 9 = 1 from by decide, (by decide : ¬ (1 : Int32) = 0), (by decide : ((8 : Int32) - 3).toNatClampNeg = 5), (by decide : ((8 : Int32) - 5).toNatClampNeg = 3), b1, b2, if_true, if_false]
        rw [f2] at e2
        unfold f_X4_set at e1
        rw [if_neg (by decide), if_pos (by decide), gt, p_lt, if_pos o1, p_lt, to, p_lt, tl] at e1
        have nH : r_HA (upd c_now_told 8 p2) c_now_squad_size c_now_squad_facts (r_pack d_seconds d_lead d_ball d_rebound p2 d_draw d_players d_fouls d_calls d_side d_kind d_near d_far d_free) := by
          refine ⟨h1.1, fun k hk => ?_, fun p hp j hj => (h1.2.2 p hp j hj).trans (p_pk30 _ _ _ _ _ _ _ _ _ _ _ _ _ _ _ _ _ _ _ _ _ _ _ _ (by omega))⟩
          obtain ⟨q, hq⟩ : ∃ q : Fin 10, q.val = k := ⟨⟨k, hk⟩, rfl⟩
          subst hq
          match q with
          | ⟨0, _⟩ => exact HT 0 (by omega)
          | ⟨1, _⟩ => exact HT 1 (by omega)
          | ⟨2, _⟩ => exact HT 2 (by omega)
          | ⟨3, _⟩ => exact HT 3 (by omega)
          | ⟨4, _⟩ => exact HT 4 (by omega)
          | ⟨5, _⟩ => exact HT 5 (by omega)
          | ⟨6, _⟩ => exact HT 6 (by omega)
          | ⟨7, _⟩ => exact HT 7 (by omega)
          | ⟨8, _⟩ => rfl
          | ⟨9, _⟩ => exact HT 9 (by omega)
        have nO : r_OK (r_pack d_seconds d_lead d_ball d_rebound p2 d_draw d_players d_fouls d_calls d_side d_kind d_near d_far d_free) := by
          refine ⟨O1, O2, O3, ⟨b1, b2⟩, O5, fun p hp => ?_⟩
          have g := O6 p hp
          have pk := fun k (hk : k < 30) => p_pk30 d_seconds d_lead d_ball d_rebound d_law d_draw d_players d_fouls d_calls d_seconds d_lead d_ball d_rebound p2 d_draw d_players d_fouls d_calls d_side d_kind d_near d_far d_free k hk
          rw [pk p (by omega), pk (6 + p) (by omega), pk (12 + p) (by omega), pk (18 + p) (by omega), pk (24 + p) (by omega)] at g
          exact g
        obtain ⟨C1, s1, z1⟩ := p_start c_lamp_reboundTenths c_lamp_lawInForce c_lamp_drawTenths c_lamp_solvedRows c_lamp_squad_size c_lamp_squad_facts c_lamp_changes (upd c_now_told 8 p2) c_now_squad_size c_now_squad_facts
        rw [if_neg (by decide), p_lt, s1] at e1
        obtain ⟨rfl, rfl⟩ := Prod.mk.inj e1
        obtain ⟨rfl, rfl⟩ := Prod.mk.inj e2
        exact ⟨rfl, nH, nO, h3, h4, h5, h6, h7, nH.2.1 7 (by omega), nH.2.1 8 (by omega), nH.2.1 9 (by omega), nH.1, fun k hk => by show g_cpy c_now_squad_facts c_lamp_squad_facts 30 k = _; unfold g_cpy; rw [if_pos hk], z1, p_Sol0 _ _ _ _ _ _ _ _ _ _ _ _⟩
      · obtain ⟨U, U', q1, q2, q3⟩ := p_no (r_ref hR) (x := -6) 6 (by decide) (by decide)
        have f2 : f_X5_set d_seconds d_lead d_ball d_rebound d_law d_draw d_fouls d_calls d_refusals 8 p2 = (-6, d_seconds, d_lead, d_ball, d_rebound, d_law, d_draw, d_fouls, d_calls, U') := by
          unfold f_X5_set
          simp only [p_lt, p_lt2, (by decide : ¬ (8 : Int32) = 0), (by decide : ¬ (8 : Int32) = 1), (by decide : ¬ (8 : Int32) = 2), (by decide : ¬ (8 : Int32) = 3), (by decide : ¬ (8 : Int32) = 4), (by decide : ¬ (8 : Int32) = 5), (by decide : ¬ (8 : Int32) = 6), (by decide : ¬ (8 : Int32) = 7), (by decide : (8 : Int32) = 8), (by decide : (5 : Int32) ≤ 8), (by decide : (7 : Int32) ≤ 8), show f_X5_within 8 0 9 = 1 from by decide, (by decide : ¬ (1 : Int32) = 0), (by decide : ((8 : Int32) - 3).toNatClampNeg = 5), (by decide : ((8 : Int32) - 5).toNatClampNeg = 3), b1, b2, q2, if_true, if_false]
        rw [f2] at e2
        unfold f_X4_set at e1
        rw [if_neg (by decide), if_pos (by decide), gt, p_lt, o1, if_neg (by decide), q1, p_lt2] at e1
        obtain ⟨rfl, rfl⟩ := Prod.mk.inj e1
        obtain ⟨rfl, rfl⟩ := Prod.mk.inj e2
        exact ⟨rfl, r_up hR q3 (r_sol hR)⟩
      · obtain ⟨U, U', q1, q2, q3⟩ := p_no (r_ref hR) (x := -4) 4 (by decide) (by decide)
        have f2 : f_X5_set d_seconds d_lead d_ball d_rebound d_law d_draw d_fouls d_calls d_refusals 8 p2 = (-4, d_seconds, d_lead, d_ball, d_rebound, d_law, d_draw, d_fouls, d_calls, U') := by
          unfold f_X5_set
          simp only [p_lt, p_lt2, (by decide : ¬ (8 : Int32) = 0), (by decide : ¬ (8 : Int32) = 1), (by decide : ¬ (8 : Int32) = 2), (by decide : ¬ (8 : Int32) = 3), (by decide : ¬ (8 : Int32) = 4), (by decide : ¬ (8 : Int32) = 5), (by decide : ¬ (8 : Int32) = 6), (by decide : ¬ (8 : Int32) = 7), (by decide : (8 : Int32) = 8), (by decide : (5 : Int32) ≤ 8), (by decide : (7 : Int32) ≤ 8), show f_X5_within 8 0 9 = 1 from by decide, (by decide : ¬ (1 : Int32) = 0), (by decide : ((8 : Int32) - 3).toNatClampNeg = 5), (by decide : ((8 : Int32) - 5).toNatClampNeg = 3), b1, q2, if_true, if_false]
        rw [f2] at e2
        unfold f_X4_set at e1
        rw [if_neg (by decide), if_pos (by decide), gt, p_lt, o1, if_neg (by decide), q1, p_lt2] at e1
        obtain ⟨rfl, rfl⟩ := Prod.mk.inj e1
        obtain ⟨rfl, rfl⟩ := Prod.mk.inj e2
        exact ⟨rfl, r_up hR q3 (r_sol hR)⟩
    · have gt : g_tabG.getD (9 : Int32).toNatClampNeg 0 = 9 := by decide
      rcases p_out p2 9 with ⟨b1, b2, o1⟩ | ⟨b1, b2, o1⟩ | ⟨b1, o1⟩
      · have tl : f_X0_tell c_now_told 9 p2 = upd c_now_told 9 p2 := rfl
        have to : f_X0_told c_now_told 9 = d_draw := (show f_X0_told c_now_told 9 = c_now_told 9 from rfl).trans (HT 9 (by omega))
        have f2 : f_X5_set d_seconds d_lead d_ball d_rebound d_law d_draw d_fouls d_calls d_refusals 9 p2 = (d_draw, d_seconds, d_lead, d_ball, d_rebound, d_law, p2, d_fouls, d_calls, d_refusals) := by
          unfold f_X5_set
          simp only [p_lt, (by decide : ¬ (9 : Int32) = 0), (by decide : ¬ (9 : Int32) = 1), (by decide : ¬ (9 : Int32) = 2), (by decide : ¬ (9 : Int32) = 3), (by decide : ¬ (9 : Int32) = 4), (by decide : ¬ (9 : Int32) = 5), (by decide : ¬ (9 : Int32) = 6), (by decide : ¬ (9 : Int32) = 7), (by decide : ¬ (9 : Int32) = 8), (by decide : (5 : Int32) ≤ 9), (by decide : (7 : Int32) ≤ 9), show f_X5_within 9 0 9 = 1 from by decide, (by decide : ¬ (1 : Int32) = 0), (by decide : ((9 : Int32) - 3).toNatClampNeg = 6), (by decide : ((9 : Int32) - 5).toNatClampNeg = 4), b1, b2, if_true, if_false]
        rw [f2] at e2
        unfold f_X4_set at e1
        rw [if_neg (by decide), if_pos (by decide), gt, p_lt, if_pos o1, p_lt, to, p_lt, tl] at e1
        have nH : r_HA (upd c_now_told 9 p2) c_now_squad_size c_now_squad_facts (r_pack d_seconds d_lead d_ball d_rebound d_law p2 d_players d_fouls d_calls d_side d_kind d_near d_far d_free) := by
          refine ⟨h1.1, fun k hk => ?_, fun p hp j hj => (h1.2.2 p hp j hj).trans (p_pk30 _ _ _ _ _ _ _ _ _ _ _ _ _ _ _ _ _ _ _ _ _ _ _ _ (by omega))⟩
          obtain ⟨q, hq⟩ : ∃ q : Fin 10, q.val = k := ⟨⟨k, hk⟩, rfl⟩
          subst hq
          match q with
          | ⟨0, _⟩ => exact HT 0 (by omega)
          | ⟨1, _⟩ => exact HT 1 (by omega)
          | ⟨2, _⟩ => exact HT 2 (by omega)
          | ⟨3, _⟩ => exact HT 3 (by omega)
          | ⟨4, _⟩ => exact HT 4 (by omega)
          | ⟨5, _⟩ => exact HT 5 (by omega)
          | ⟨6, _⟩ => exact HT 6 (by omega)
          | ⟨7, _⟩ => exact HT 7 (by omega)
          | ⟨8, _⟩ => exact HT 8 (by omega)
          | ⟨9, _⟩ => rfl
        have nO : r_OK (r_pack d_seconds d_lead d_ball d_rebound d_law p2 d_players d_fouls d_calls d_side d_kind d_near d_far d_free) := by
          refine ⟨O1, O2, O3, O4, ⟨b1, b2⟩, fun p hp => ?_⟩
          have g := O6 p hp
          have pk := fun k (hk : k < 30) => p_pk30 d_seconds d_lead d_ball d_rebound d_law d_draw d_players d_fouls d_calls d_seconds d_lead d_ball d_rebound d_law p2 d_players d_fouls d_calls d_side d_kind d_near d_far d_free k hk
          rw [pk p (by omega), pk (6 + p) (by omega), pk (12 + p) (by omega), pk (18 + p) (by omega), pk (24 + p) (by omega)] at g
          exact g
        obtain ⟨C1, s1, z1⟩ := p_start c_lamp_reboundTenths c_lamp_lawInForce c_lamp_drawTenths c_lamp_solvedRows c_lamp_squad_size c_lamp_squad_facts c_lamp_changes (upd c_now_told 9 p2) c_now_squad_size c_now_squad_facts
        rw [if_neg (by decide), p_lt, s1] at e1
        obtain ⟨rfl, rfl⟩ := Prod.mk.inj e1
        obtain ⟨rfl, rfl⟩ := Prod.mk.inj e2
        exact ⟨rfl, nH, nO, h3, h4, h5, h6, h7, nH.2.1 7 (by omega), nH.2.1 8 (by omega), nH.2.1 9 (by omega), nH.1, fun k hk => by show g_cpy c_now_squad_facts c_lamp_squad_facts 30 k = _; unfold g_cpy; rw [if_pos hk], z1, p_Sol0 _ _ _ _ _ _ _ _ _ _ _ _⟩
      · obtain ⟨U, U', q1, q2, q3⟩ := p_no (r_ref hR) (x := -6) 6 (by decide) (by decide)
        have f2 : f_X5_set d_seconds d_lead d_ball d_rebound d_law d_draw d_fouls d_calls d_refusals 9 p2 = (-6, d_seconds, d_lead, d_ball, d_rebound, d_law, d_draw, d_fouls, d_calls, U') := by
          unfold f_X5_set
          simp only [p_lt, p_lt2, (by decide : ¬ (9 : Int32) = 0), (by decide : ¬ (9 : Int32) = 1), (by decide : ¬ (9 : Int32) = 2), (by decide : ¬ (9 : Int32) = 3), (by decide : ¬ (9 : Int32) = 4), (by decide : ¬ (9 : Int32) = 5), (by decide : ¬ (9 : Int32) = 6), (by decide : ¬ (9 : Int32) = 7), (by decide : ¬ (9 : Int32) = 8), (by decide : (5 : Int32) ≤ 9), (by decide : (7 : Int32) ≤ 9), show f_X5_within 9 0 9 = 1 from by decide, (by decide : ¬ (1 : Int32) = 0), (by decide : ((9 : Int32) - 3).toNatClampNeg = 6), (by decide : ((9 : Int32) - 5).toNatClampNeg = 4), b1, b2, q2, if_true, if_false]
        rw [f2] at e2
        unfold f_X4_set at e1
        rw [if_neg (by decide), if_pos (by decide), gt, p_lt, o1, if_neg (by decide), q1, p_lt2] at e1
        obtain ⟨rfl, rfl⟩ := Prod.mk.inj e1
        obtain ⟨rfl, rfl⟩ := Prod.mk.inj e2
        exact ⟨rfl, r_up hR q3 (r_sol hR)⟩
      · obtain ⟨U, U', q1, q2, q3⟩ := p_no (r_ref hR) (x := -4) 4 (by decide) (by decide)
        have f2 : f_X5_set d_seconds d_lead d_ball d_rebound d_law d_draw d_fouls d_calls d_refusals 9 p2 = (-4, d_seconds, d_lead, d_ball, d_rebound, d_law, d_draw, d_fouls, d_calls, U') := by
          unfold f_X5_set
          simp only [p_lt, p_lt2, (by decide : ¬ (9 : Int32) = 0), (by decide : ¬ (9 : Int32) = 1), (by decide : ¬ (9 : Int32) = 2), (by decide : ¬ (9 : Int32) = 3), (by decide : ¬ (9 : Int32) = 4), (by decide : ¬ (9 : Int32) = 5), (by decide : ¬ (9 : Int32) = 6), (by decide : ¬ (9 : Int32) = 7), (by decide : ¬ (9 : Int32) = 8), (by decide : (5 : Int32) ≤ 9), (by decide : (7 : Int32) ≤ 9), show f_X5_within 9 0 9 = 1 from by decide, (by decide : ¬ (1 : Int32) = 0), (by decide : ((9 : Int32) - 3).toNatClampNeg = 6), (by decide : ((9 : Int32) - 5).toNatClampNeg = 4), b1, q2, if_true, if_false]
        rw [f2] at e2
        unfold f_X4_set at e1
        rw [if_neg (by decide), if_pos (by decide), gt, p_lt, o1, if_neg (by decide), q1, p_lt2] at e1
        obtain ⟨rfl, rfl⟩ := Prod.mk.inj e1
        obtain ⟨rfl, rfl⟩ := Prod.mk.inj e2
        exact ⟨rfl, r_up hR q3 (r_sol hR)⟩
  · have w10 : ¬ p1 < 10 := by
      intro h
      rw [Int32.lt_iff_toInt_lt, (by decide : (10 : Int32).toInt = 10)] at h
      rw [Int32.le_iff_toInt_le, (by decide : (9 : Int32).toInt = 9)] at w9
      omega
    obtain ⟨U, U', q1, q2, q3⟩ := p_no (r_ref hR) (x := -2) 2 (by decide) (by decide)
    unfold f_X4_set at e1
    rw [if_neg w0, if_neg w10, q1, p_lt2] at e1
    unfold f_X5_set at e2
    rw [p_lt, show f_X5_within p1 0 9 = 0 by unfold f_X5_within; rw [if_neg w0, if_pos (Int32.not_le.1 w9)], if_pos rfl, q2, p_lt2] at e2
    obtain ⟨rfl, rfl⟩ := Prod.mk.inj e1
    obtain ⟨rfl, rfl⟩ := Prod.mk.inj e2
    exact ⟨rfl, r_up hR q3 (r_sol hR)⟩
set_option maxRecDepth 100000 in
set_option maxHeartbeats 1000000 in
theorem eq_here {c_isKept : Int32} {c_numbersSize : Int32} {c_now_told : Nat → Int32} {c_now_squad_size : Int32} {c_now_squad_facts : Nat → Int32} {c_kept_told : Nat → Int32} {c_kept_squad_size : Int32} {c_kept_squad_facts : Nat → Int32} {c_letters_size : Int32} {c_letters_signs : Nat → Int32} {c_numbers : Nat → Int32} {c_refusals : Nat → Int32} {c_lamp_reboundTenths : Int32} {c_lamp_lawInForce : Int32} {c_lamp_drawTenths : Int32} {c_lamp_solvedRows : Int32} {c_lamp_squad_size : Int32} {c_lamp_squad_facts : Nat → Int32} {c_lamp_changes : Nat → Int32} {c_lamp_values : Nat → Int32} {c_lamp_bests : Nat → Int32} {d_seconds : Int32} {d_lead : Int32} {d_ball : Int32} {d_rebound : Int32} {d_law : Int32} {d_draw : Int32} {d_players : Int32} {d_letters : Int32} {d_inRow : Int32} {d_imaged : Int32} {d_fouls : Nat → Int32} {d_calls : Nat → Int32} {d_side : Nat → Int32} {d_kind : Nat → Int32} {d_near : Nat → Int32} {d_far : Nat → Int32} {d_free : Nat → Int32} {d_letter : Nat → Int32} {d_row : Nat → Int32} {d_refusals : Nat → Int32} {d_image : Nat → Int32} {d_guard : Nat → Int32} {c_lamp_rowTenths : Nat → Int32} {c_lamp_hitValues : Nat → Int32} {c_lamp_missValues : Nat → Int32} {d_worth : Nat → Int32}  {r1 r2 : Int32} {u1 : (Int32) × (Nat → Int32) × (Nat → Int32) × (Nat → Int32) × (Nat → Int32) × (Nat → Int32)} {u2 : (Nat → Int32)}  (hR : Rel c_isKept c_numbersSize c_now_told c_now_squad_size c_now_squad_facts c_kept_told c_kept_squad_size c_kept_squad_facts c_letters_size c_letters_signs c_numbers c_refusals c_lamp_reboundTenths c_lamp_lawInForce c_lamp_drawTenths c_lamp_solvedRows c_lamp_squad_size c_lamp_squad_facts c_lamp_changes c_lamp_values c_lamp_bests d_seconds d_lead d_ball d_rebound d_law d_draw d_players d_letters d_inRow d_imaged d_fouls d_calls d_side d_kind d_near d_far d_free d_letter d_row d_refusals d_image d_guard) (e1 : (r1, u1) = f_X4_here c_now_told c_lamp_reboundTenths c_lamp_lawInForce c_lamp_drawTenths c_lamp_solvedRows c_lamp_squad_size c_lamp_squad_facts c_lamp_changes c_lamp_values c_lamp_bests c_lamp_rowTenths c_lamp_hitValues c_lamp_missValues) (e2 : (r2, u2) = f_X5_here d_seconds d_lead d_ball d_rebound d_law d_draw d_players d_side d_kind d_near d_far d_free d_guard d_worth) : r1 = r2 ∧ Rel c_isKept c_numbersSize c_now_told c_now_squad_size c_now_squad_facts c_kept_told c_kept_squad_size c_kept_squad_facts c_letters_size c_letters_signs c_numbers c_refusals c_lamp_reboundTenths c_lamp_lawInForce c_lamp_drawTenths u1.1 c_lamp_squad_size c_lamp_squad_facts c_lamp_changes u1.2.1 u1.2.2.1 d_seconds d_lead d_ball d_rebound d_law d_draw d_players d_letters d_inRow d_imaged d_fouls d_calls d_side d_kind d_near d_far d_free d_letter d_row d_refusals d_image d_guard := by
  obtain ⟨n', V', B', rT, hv, mv, g1, g2, g3⟩ := p_nowC hR c_lamp_rowTenths c_lamp_hitValues c_lamp_missValues d_worth
  have f1 : f_X4_here c_now_told c_lamp_reboundTenths c_lamp_lawInForce c_lamp_drawTenths c_lamp_solvedRows c_lamp_squad_size c_lamp_squad_facts c_lamp_changes c_lamp_values c_lamp_bests c_lamp_rowTenths c_lamp_hitValues c_lamp_missValues = (f_X5_valueOf (f_X5_solve d_rebound d_law d_draw d_players d_side d_kind d_near d_far d_free d_guard d_worth) d_seconds d_lead d_ball, n', V', B', rT, hv, mv) := by
    unfold f_X4_here; rw [g1, p_lt2]
  have f2 : f_X5_here d_seconds d_lead d_ball d_rebound d_law d_draw d_players d_side d_kind d_near d_far d_free d_guard d_worth = (f_X5_valueOf (f_X5_solve d_rebound d_law d_draw d_players d_side d_kind d_near d_far d_free d_guard d_worth) d_seconds d_lead d_ball, f_X5_solve d_rebound d_law d_draw d_players d_side d_kind d_near d_far d_free d_guard d_worth) := by
    unfold f_X5_here f_X5_now; rw [p_lt, p_lt, p_lt2]
  rw [f1] at e1
  rw [f2] at e2
  obtain ⟨rfl, rfl⟩ := Prod.mk.inj e1
  obtain ⟨rfl, rfl⟩ := Prod.mk.inj e2
  exact ⟨rfl, r_up hR (r_ref hR) g2⟩
set_option maxRecDepth 100000 in
set_option maxHeartbeats 1000000 in
theorem eq_of {c_isKept : Int32} {c_numbersSize : Int32} {c_now_told : Nat → Int32} {c_now_squad_size : Int32} {c_now_squad_facts : Nat → Int32} {c_kept_told : Nat → Int32} {c_kept_squad_size : Int32} {c_kept_squad_facts : Nat → Int32} {c_letters_size : Int32} {c_letters_signs : Nat → Int32} {c_numbers : Nat → Int32} {c_refusals : Nat → Int32} {c_lamp_reboundTenths : Int32} {c_lamp_lawInForce : Int32} {c_lamp_drawTenths : Int32} {c_lamp_solvedRows : Int32} {c_lamp_squad_size : Int32} {c_lamp_squad_facts : Nat → Int32} {c_lamp_changes : Nat → Int32} {c_lamp_values : Nat → Int32} {c_lamp_bests : Nat → Int32} {d_seconds : Int32} {d_lead : Int32} {d_ball : Int32} {d_rebound : Int32} {d_law : Int32} {d_draw : Int32} {d_players : Int32} {d_letters : Int32} {d_inRow : Int32} {d_imaged : Int32} {d_fouls : Nat → Int32} {d_calls : Nat → Int32} {d_side : Nat → Int32} {d_kind : Nat → Int32} {d_near : Nat → Int32} {d_far : Nat → Int32} {d_free : Nat → Int32} {d_letter : Nat → Int32} {d_row : Nat → Int32} {d_refusals : Nat → Int32} {d_image : Nat → Int32} {d_guard : Nat → Int32} {c_lamp_rowTenths : Nat → Int32} {c_lamp_hitValues : Nat → Int32} {c_lamp_missValues : Nat → Int32} {d_worth : Nat → Int32} {p1 : Int32} {p2 : Int32} {p3 : Int32} {r1 r2 : Int32} {u1 : (Nat → Int32) × (Int32) × (Nat → Int32) × (Nat → Int32) × (Nat → Int32) × (Nat → Int32) × (Nat → Int32)} {u2 : (Nat → Int32) × (Nat → Int32)}  (hR : Rel c_isKept c_numbersSize c_now_told c_now_squad_size c_now_squad_facts c_kept_told c_kept_squad_size c_kept_squad_facts c_letters_size c_letters_signs c_numbers c_refusals c_lamp_reboundTenths c_lamp_lawInForce c_lamp_drawTenths c_lamp_solvedRows c_lamp_squad_size c_lamp_squad_facts c_lamp_changes c_lamp_values c_lamp_bests d_seconds d_lead d_ball d_rebound d_law d_draw d_players d_letters d_inRow d_imaged d_fouls d_calls d_side d_kind d_near d_far d_free d_letter d_row d_refusals d_image d_guard) (e1 : (r1, u1) = f_X4_of c_refusals c_lamp_reboundTenths c_lamp_lawInForce c_lamp_drawTenths c_lamp_solvedRows c_lamp_squad_size c_lamp_squad_facts c_lamp_changes c_lamp_values c_lamp_bests c_lamp_rowTenths c_lamp_hitValues c_lamp_missValues p1 p2 p3) (e2 : (r2, u2) = f_X5_of d_rebound d_law d_draw d_players d_side d_kind d_near d_far d_free d_refusals d_guard d_worth p1 p2 p3) : r1 = r2 ∧ Rel c_isKept c_numbersSize c_now_told c_now_squad_size c_now_squad_facts c_kept_told c_kept_squad_size c_kept_squad_facts c_letters_size c_letters_signs c_numbers u1.1 c_lamp_reboundTenths c_lamp_lawInForce c_lamp_drawTenths u1.2.1 c_lamp_squad_size c_lamp_squad_facts c_lamp_changes u1.2.2.1 u1.2.2.2.1 d_seconds d_lead d_ball d_rebound d_law d_draw d_players d_letters d_inRow d_imaged d_fouls d_calls d_side d_kind d_near d_far d_free d_letter d_row u2.1 d_image d_guard := by
  obtain ⟨a1, a2, a3⟩ := r_par hR
  subst a1 a2 a3
  obtain ⟨-, -, hr, -, hd⟩ := r_rng hR
  rcases p_oS p1 p2 p3 with ⟨o1, o2, hS⟩ | ⟨n, hn, o1, o2, o3, o4⟩
  · obtain ⟨n', V', B', rT, hv, mv, g1, g2, g3⟩ := p_solveTo (r_LR hR) hr hd hS.1 c_lamp_rowTenths c_lamp_hitValues c_lamp_missValues (r_sol hR)
    have ag := p_agree (r_LR hR) hr hd d_worth g2 hS g3
    unfold f_X4_of at e1
    rw [p_lt, if_pos o1, p_lt, p_lt, g1] at e1
    unfold f_X5_of at e2
    rw [p_lt, o2, if_pos (by decide), p_lt, p_lt, ← ag.1] at e2
    obtain ⟨rfl, rfl⟩ := Prod.mk.inj e1
    obtain ⟨rfl, rfl⟩ := Prod.mk.inj e2
    exact ⟨rfl, r_up hR (r_ref hR) g2⟩
  · obtain ⟨U, U', q1, q2, q3⟩ := p_no (r_ref hR) n hn rfl
    unfold f_X4_of at e1
    rw [p_lt, o1, if_neg o3, q1, p_lt2] at e1
    unfold f_X5_of at e2
    rw [p_lt, o2, if_neg o4, q2, p_lt2] at e2
    obtain ⟨rfl, rfl⟩ := Prod.mk.inj e1
    obtain ⟨rfl, rfl⟩ := Prod.mk.inj e2
    exact ⟨rfl, r_up hR q3 (r_sol hR)⟩
set_option maxRecDepth 100000 in
set_option maxHeartbeats 1000000 in
theorem eq_best {c_isKept : Int32} {c_numbersSize : Int32} {c_now_told : Nat → Int32} {c_now_squad_size : Int32} {c_now_squad_facts : Nat → Int32} {c_kept_told : Nat → Int32} {c_kept_squad_size : Int32} {c_kept_squad_facts : Nat → Int32} {c_letters_size : Int32} {c_letters_signs : Nat → Int32} {c_numbers : Nat → Int32} {c_refusals : Nat → Int32} {c_lamp_reboundTenths : Int32} {c_lamp_lawInForce : Int32} {c_lamp_drawTenths : Int32} {c_lamp_solvedRows : Int32} {c_lamp_squad_size : Int32} {c_lamp_squad_facts : Nat → Int32} {c_lamp_changes : Nat → Int32} {c_lamp_values : Nat → Int32} {c_lamp_bests : Nat → Int32} {d_seconds : Int32} {d_lead : Int32} {d_ball : Int32} {d_rebound : Int32} {d_law : Int32} {d_draw : Int32} {d_players : Int32} {d_letters : Int32} {d_inRow : Int32} {d_imaged : Int32} {d_fouls : Nat → Int32} {d_calls : Nat → Int32} {d_side : Nat → Int32} {d_kind : Nat → Int32} {d_near : Nat → Int32} {d_far : Nat → Int32} {d_free : Nat → Int32} {d_letter : Nat → Int32} {d_row : Nat → Int32} {d_refusals : Nat → Int32} {d_image : Nat → Int32} {d_guard : Nat → Int32} {c_lamp_rowTenths : Nat → Int32} {c_lamp_hitValues : Nat → Int32} {c_lamp_missValues : Nat → Int32} {d_worth : Nat → Int32} {p1 : Int32} {p2 : Int32} {p3 : Int32} {r1 r2 : Int32} {u1 : (Nat → Int32) × (Int32) × (Nat → Int32) × (Nat → Int32) × (Nat → Int32) × (Nat → Int32) × (Nat → Int32)} {u2 : (Nat → Int32) × (Nat → Int32)}  (hR : Rel c_isKept c_numbersSize c_now_told c_now_squad_size c_now_squad_facts c_kept_told c_kept_squad_size c_kept_squad_facts c_letters_size c_letters_signs c_numbers c_refusals c_lamp_reboundTenths c_lamp_lawInForce c_lamp_drawTenths c_lamp_solvedRows c_lamp_squad_size c_lamp_squad_facts c_lamp_changes c_lamp_values c_lamp_bests d_seconds d_lead d_ball d_rebound d_law d_draw d_players d_letters d_inRow d_imaged d_fouls d_calls d_side d_kind d_near d_far d_free d_letter d_row d_refusals d_image d_guard) (e1 : (r1, u1) = f_X4_best c_refusals c_lamp_reboundTenths c_lamp_lawInForce c_lamp_drawTenths c_lamp_solvedRows c_lamp_squad_size c_lamp_squad_facts c_lamp_changes c_lamp_values c_lamp_bests c_lamp_rowTenths c_lamp_hitValues c_lamp_missValues p1 p2 p3) (e2 : (r2, u2) = f_X5_best d_rebound d_law d_draw d_players d_side d_kind d_near d_far d_free d_refusals d_guard d_worth p1 p2 p3) : r1 = r2 ∧ Rel c_isKept c_numbersSize c_now_told c_now_squad_size c_now_squad_facts c_kept_told c_kept_squad_size c_kept_squad_facts c_letters_size c_letters_signs c_numbers u1.1 c_lamp_reboundTenths c_lamp_lawInForce c_lamp_drawTenths u1.2.1 c_lamp_squad_size c_lamp_squad_facts c_lamp_changes u1.2.2.1 u1.2.2.2.1 d_seconds d_lead d_ball d_rebound d_law d_draw d_players d_letters d_inRow d_imaged d_fouls d_calls d_side d_kind d_near d_far d_free d_letter d_row u2.1 d_image d_guard := by
  obtain ⟨a1, a2, a3⟩ := r_par hR
  subst a1 a2 a3
  obtain ⟨-, -, hr, -, hd⟩ := r_rng hR
  rcases p_oS p1 p2 p3 with ⟨o1, o2, hS⟩ | ⟨n, hn, o1, o2, o3, o4⟩
  · obtain ⟨n', V', B', rT, hv, mv, g1, g2, g3⟩ := p_solveTo (r_LR hR) hr hd hS.1 c_lamp_rowTenths c_lamp_hitValues c_lamp_missValues (r_sol hR)
    have ag := (p_agree (r_LR hR) hr hd d_worth g2 hS g3).2.1
    unfold f_X4_best at e1
    rw [p_lt, if_pos o1, p_lt, p_lt, g1] at e1
    unfold f_X5_best at e2
    rw [p_lt, o2, if_pos (by decide), p_lt] at e2
    unfold m_bst at ag
    obtain ⟨rfl, rfl⟩ := Prod.mk.inj e1
    by_cases h0 : f_X5_ended c_lamp_lawInForce p1 p2 = 0
    · rw [if_pos h0] at ag
      rw [if_pos h0, p_lt, p_lt] at e2
      obtain ⟨rfl, rfl⟩ := Prod.mk.inj e2
      exact ⟨ag, r_up hR (r_ref hR) g2⟩
    · rw [if_neg h0] at ag
      rw [if_neg h0] at e2
      obtain ⟨rfl, rfl⟩ := Prod.mk.inj e2
      exact ⟨ag, r_up hR (r_ref hR) g2⟩
  · obtain ⟨U, U', q1, q2, q3⟩ := p_no (r_ref hR) n hn rfl
    unfold f_X4_best at e1
    rw [p_lt, o1, if_neg o3, q1, p_lt2] at e1
    unfold f_X5_best at e2
    rw [p_lt, o2, if_neg o4, q2, p_lt2] at e2
    obtain ⟨rfl, rfl⟩ := Prod.mk.inj e1
    obtain ⟨rfl, rfl⟩ := Prod.mk.inj e2
    exact ⟨rfl, r_up hR q3 (r_sol hR)⟩
set_option maxRecDepth 100000 in
set_option maxHeartbeats 1000000 in
theorem eq_from {c_isKept : Int32} {c_numbersSize : Int32} {c_now_told : Nat → Int32} {c_now_squad_size : Int32} {c_now_squad_facts : Nat → Int32} {c_kept_told : Nat → Int32} {c_kept_squad_size : Int32} {c_kept_squad_facts : Nat → Int32} {c_letters_size : Int32} {c_letters_signs : Nat → Int32} {c_numbers : Nat → Int32} {c_refusals : Nat → Int32} {c_lamp_reboundTenths : Int32} {c_lamp_lawInForce : Int32} {c_lamp_drawTenths : Int32} {c_lamp_solvedRows : Int32} {c_lamp_squad_size : Int32} {c_lamp_squad_facts : Nat → Int32} {c_lamp_changes : Nat → Int32} {c_lamp_values : Nat → Int32} {c_lamp_bests : Nat → Int32} {d_seconds : Int32} {d_lead : Int32} {d_ball : Int32} {d_rebound : Int32} {d_law : Int32} {d_draw : Int32} {d_players : Int32} {d_letters : Int32} {d_inRow : Int32} {d_imaged : Int32} {d_fouls : Nat → Int32} {d_calls : Nat → Int32} {d_side : Nat → Int32} {d_kind : Nat → Int32} {d_near : Nat → Int32} {d_far : Nat → Int32} {d_free : Nat → Int32} {d_letter : Nat → Int32} {d_row : Nat → Int32} {d_refusals : Nat → Int32} {d_image : Nat → Int32} {d_guard : Nat → Int32} {c_lamp_rowTenths : Nat → Int32} {c_lamp_hitValues : Nat → Int32} {c_lamp_missValues : Nat → Int32} {d_worth : Nat → Int32} {p1 : Int32} {p2 : Int32} {r1 r2 : Int32} {u1 : (Nat → Int32) × (Int32) × (Nat → Int32) × (Nat → Int32) × (Nat → Int32) × (Nat → Int32) × (Nat → Int32)} {u2 : (Nat → Int32) × (Nat → Int32)}  (hR : Rel c_isKept c_numbersSize c_now_told c_now_squad_size c_now_squad_facts c_kept_told c_kept_squad_size c_kept_squad_facts c_letters_size c_letters_signs c_numbers c_refusals c_lamp_reboundTenths c_lamp_lawInForce c_lamp_drawTenths c_lamp_solvedRows c_lamp_squad_size c_lamp_squad_facts c_lamp_changes c_lamp_values c_lamp_bests d_seconds d_lead d_ball d_rebound d_law d_draw d_players d_letters d_inRow d_imaged d_fouls d_calls d_side d_kind d_near d_far d_free d_letter d_row d_refusals d_image d_guard) (e1 : (r1, u1) = f_X4_from c_refusals c_lamp_reboundTenths c_lamp_lawInForce c_lamp_drawTenths c_lamp_solvedRows c_lamp_squad_size c_lamp_squad_facts c_lamp_changes c_lamp_values c_lamp_bests c_lamp_rowTenths c_lamp_hitValues c_lamp_missValues p1 p2) (e2 : (r2, u2) = f_X5_from d_rebound d_law d_draw d_players d_side d_kind d_near d_far d_free d_refusals d_guard d_worth p1 p2) : r1 = r2 ∧ Rel c_isKept c_numbersSize c_now_told c_now_squad_size c_now_squad_facts c_kept_told c_kept_squad_size c_kept_squad_facts c_letters_size c_letters_signs c_numbers u1.1 c_lamp_reboundTenths c_lamp_lawInForce c_lamp_drawTenths u1.2.1 c_lamp_squad_size c_lamp_squad_facts c_lamp_changes u1.2.2.1 u1.2.2.2.1 d_seconds d_lead d_ball d_rebound d_law d_draw d_players d_letters d_inRow d_imaged d_fouls d_calls d_side d_kind d_near d_far d_free d_letter d_row u2.1 d_image d_guard := by
  obtain ⟨a1, a2, a3⟩ := r_par hR
  subst a1 a2 a3
  obtain ⟨-, -, hr, -, hd⟩ := r_rng hR
  have hos := p_os01 p1 p2
  rcases p_oS 0 p1 p2 with ⟨o1, o2, hS⟩ | ⟨n, hn, o1, o2, o3, o4⟩
  · obtain ⟨n', V', B', rT, hv, mv, g1, g2, g3⟩ := p_solveTo (r_LR hR) hr hd (s := 24) ⟨by decide, by decide⟩ c_lamp_rowTenths c_lamp_hitValues c_lamp_missValues (r_sol hR)
    rw [o1] at hos
    unfold f_X4_from at e1
    rw [p_lt, if_pos o1, p_lt, g1, (by decide : ((24 : Int32).toInt - (0 : Int32).toInt).toNat + 1 = 25)] at e1
    unfold f_X5_from at e2
    rw [p_lt, hos, if_pos (by decide), p_lt, (by decide : ((24 : Int32).toInt - (0 : Int32).toInt).toNat + 1 = 25)] at e2
    obtain ⟨v, v1, v2⟩ := p_from (r_LR hR) hr hd d_worth g2 g3 (z := f_X4_outsideState 0 p1 p2) (z' := 0) hS.2.1 hS.2.2 c_refusals d_refusals rT hv mv
      (fun v4_29 => (v4_29, c_refusals, n', V', B', rT, hv, mv)) (fun v4_25 => (v4_25, d_refusals, f_X5_solve c_lamp_reboundTenths c_lamp_lawInForce c_lamp_drawTenths d_players d_side d_kind d_near d_far d_free d_guard d_worth)) 24 0 (by omega)
    have e1' := e1.trans v1
    have e2' := e2.trans v2
    obtain ⟨rfl, rfl⟩ := Prod.mk.inj e1'
    obtain ⟨rfl, rfl⟩ := Prod.mk.inj e2'
    exact ⟨rfl, r_up hR (r_ref hR) g2⟩
  · obtain ⟨U, U', q1, q2, q3⟩ := p_no (r_ref hR) n hn rfl
    rw [o1] at hos
    unfold f_X4_from at e1
    rw [p_lt, o1, if_neg o3, q1, p_lt2] at e1
    unfold f_X5_from at e2
    rw [p_lt, hos, if_neg o4, q2, p_lt2] at e2
    obtain ⟨rfl, rfl⟩ := Prod.mk.inj e1
    obtain ⟨rfl, rfl⟩ := Prod.mk.inj e2
    exact ⟨rfl, r_up hR q3 (r_sol hR)⟩
set_option maxRecDepth 100000 in
set_option maxHeartbeats 1000000 in
theorem eq_point {c_isKept : Int32} {c_numbersSize : Int32} {c_now_told : Nat → Int32} {c_now_squad_size : Int32} {c_now_squad_facts : Nat → Int32} {c_kept_told : Nat → Int32} {c_kept_squad_size : Int32} {c_kept_squad_facts : Nat → Int32} {c_letters_size : Int32} {c_letters_signs : Nat → Int32} {c_numbers : Nat → Int32} {c_refusals : Nat → Int32} {c_lamp_reboundTenths : Int32} {c_lamp_lawInForce : Int32} {c_lamp_drawTenths : Int32} {c_lamp_solvedRows : Int32} {c_lamp_squad_size : Int32} {c_lamp_squad_facts : Nat → Int32} {c_lamp_changes : Nat → Int32} {c_lamp_values : Nat → Int32} {c_lamp_bests : Nat → Int32} {d_seconds : Int32} {d_lead : Int32} {d_ball : Int32} {d_rebound : Int32} {d_law : Int32} {d_draw : Int32} {d_players : Int32} {d_letters : Int32} {d_inRow : Int32} {d_imaged : Int32} {d_fouls : Nat → Int32} {d_calls : Nat → Int32} {d_side : Nat → Int32} {d_kind : Nat → Int32} {d_near : Nat → Int32} {d_far : Nat → Int32} {d_free : Nat → Int32} {d_letter : Nat → Int32} {d_row : Nat → Int32} {d_refusals : Nat → Int32} {d_image : Nat → Int32} {d_guard : Nat → Int32} {c_lamp_rowTenths : Nat → Int32} {c_lamp_hitValues : Nat → Int32} {c_lamp_missValues : Nat → Int32} {d_worth : Nat → Int32}  {r1 r2 : Int32} {u1 : (Int32) × (Nat → Int32) × (Nat → Int32) × (Nat → Int32) × (Nat → Int32) × (Nat → Int32)} {u2 : (Nat → Int32)}  (hR : Rel c_isKept c_numbersSize c_now_told c_now_squad_size c_now_squad_facts c_kept_told c_kept_squad_size c_kept_squad_facts c_letters_size c_letters_signs c_numbers c_refusals c_lamp_reboundTenths c_lamp_lawInForce c_lamp_drawTenths c_lamp_solvedRows c_lamp_squad_size c_lamp_squad_facts c_lamp_changes c_lamp_values c_lamp_bests d_seconds d_lead d_ball d_rebound d_law d_draw d_players d_letters d_inRow d_imaged d_fouls d_calls d_side d_kind d_near d_far d_free d_letter d_row d_refusals d_image d_guard) (e1 : (r1, u1) = f_X4_point c_now_told c_lamp_reboundTenths c_lamp_lawInForce c_lamp_drawTenths c_lamp_solvedRows c_lamp_squad_size c_lamp_squad_facts c_lamp_changes c_lamp_values c_lamp_bests c_lamp_rowTenths c_lamp_hitValues c_lamp_missValues) (e2 : (r2, u2) = f_X5_point d_seconds d_lead d_ball d_rebound d_law d_draw d_players d_side d_kind d_near d_far d_free d_guard d_worth) : r1 = r2 ∧ Rel c_isKept c_numbersSize c_now_told c_now_squad_size c_now_squad_facts c_kept_told c_kept_squad_size c_kept_squad_facts c_letters_size c_letters_signs c_numbers c_refusals c_lamp_reboundTenths c_lamp_lawInForce c_lamp_drawTenths u1.1 c_lamp_squad_size c_lamp_squad_facts c_lamp_changes u1.2.1 u1.2.2.1 d_seconds d_lead d_ball d_rebound d_law d_draw d_players d_letters d_inRow d_imaged d_fouls d_calls d_side d_kind d_near d_far d_free d_letter d_row d_refusals d_image d_guard := by
  obtain ⟨n', V', B', rT, hv, mv, g1, g2, g3⟩ := p_nowC hR c_lamp_rowTenths c_lamp_hitValues c_lamp_missValues d_worth
  obtain ⟨hS, -, hr, -, hd⟩ := r_rng hR
  obtain ⟨t0, t1, t2, -⟩ := r_told hR
  obtain ⟨k0, k1, k2, -⟩ := p_t0 c_now_told
  obtain ⟨kk, hkk⟩ := pe_l hS.2.1
  have hSh : m_S d_seconds (f_X4_heldLead (d_lead + 1)) d_ball := ⟨hS.1, p_hv _, hS.2.2⟩
  have ag := (p_agree (r_LR hR) hr hd d_worth g2 hSh g3).1
  have hl : (d_lead = 12 → f_X4_heldLead (d_lead + 1) = d_lead) ∧ (¬ d_lead = 12 → f_X4_heldLead (d_lead + 1) = d_lead + 1) := by
    rw [hkk]; exact (by decide : ∀ k : Fin 13, (Int32.ofNat k = 12 → f_X4_heldLead (Int32.ofNat k + 1) = Int32.ofNat k) ∧ (¬ Int32.ofNat k = 12 → f_X4_heldLead (Int32.ofNat k + 1) = Int32.ofNat k + 1)) kk
  unfold f_X4_point at e1
  rw [g1, p_lt2, p_lt, p_lt, k1, t1, p_lt, k0, t0, p_lt, k2, t2, p_lt, ag] at e1
  unfold f_X5_point at e2
  rw [p_lt] at e2
  obtain ⟨rfl, rfl⟩ := Prod.mk.inj e1
  by_cases h : d_lead = 12
  · rw [if_pos h] at e2
    obtain ⟨rfl, rfl⟩ := Prod.mk.inj e2
    refine ⟨?_, r_up hR (r_ref hR) g2⟩
    rw [hl.1 h, Int32.sub_self]
  · rw [if_neg h, p_lt, p_lt] at e2
    obtain ⟨rfl, rfl⟩ := Prod.mk.inj e2
    refine ⟨?_, r_up hR (r_ref hR) g2⟩
    rw [hl.2 h]
set_option maxRecDepth 100000 in
set_option maxHeartbeats 1000000 in
theorem eq_twoOrThree {c_isKept : Int32} {c_numbersSize : Int32} {c_now_told : Nat → Int32} {c_now_squad_size : Int32} {c_now_squad_facts : Nat → Int32} {c_kept_told : Nat → Int32} {c_kept_squad_size : Int32} {c_kept_squad_facts : Nat → Int32} {c_letters_size : Int32} {c_letters_signs : Nat → Int32} {c_numbers : Nat → Int32} {c_refusals : Nat → Int32} {c_lamp_reboundTenths : Int32} {c_lamp_lawInForce : Int32} {c_lamp_drawTenths : Int32} {c_lamp_solvedRows : Int32} {c_lamp_squad_size : Int32} {c_lamp_squad_facts : Nat → Int32} {c_lamp_changes : Nat → Int32} {c_lamp_values : Nat → Int32} {c_lamp_bests : Nat → Int32} {d_seconds : Int32} {d_lead : Int32} {d_ball : Int32} {d_rebound : Int32} {d_law : Int32} {d_draw : Int32} {d_players : Int32} {d_letters : Int32} {d_inRow : Int32} {d_imaged : Int32} {d_fouls : Nat → Int32} {d_calls : Nat → Int32} {d_side : Nat → Int32} {d_kind : Nat → Int32} {d_near : Nat → Int32} {d_far : Nat → Int32} {d_free : Nat → Int32} {d_letter : Nat → Int32} {d_row : Nat → Int32} {d_refusals : Nat → Int32} {d_image : Nat → Int32} {d_guard : Nat → Int32} {c_lamp_rowTenths : Nat → Int32} {c_lamp_hitValues : Nat → Int32} {c_lamp_missValues : Nat → Int32} {d_worth : Nat → Int32}  {r1 r2 : Int32} {u1 : (Nat → Int32) × (Int32) × (Nat → Int32) × (Nat → Int32) × (Nat → Int32) × (Nat → Int32) × (Nat → Int32)} {u2 : (Nat → Int32) × (Nat → Int32)}  (hR : Rel c_isKept c_numbersSize c_now_told c_now_squad_size c_now_squad_facts c_kept_told c_kept_squad_size c_kept_squad_facts c_letters_size c_letters_signs c_numbers c_refusals c_lamp_reboundTenths c_lamp_lawInForce c_lamp_drawTenths c_lamp_solvedRows c_lamp_squad_size c_lamp_squad_facts c_lamp_changes c_lamp_values c_lamp_bests d_seconds d_lead d_ball d_rebound d_law d_draw d_players d_letters d_inRow d_imaged d_fouls d_calls d_side d_kind d_near d_far d_free d_letter d_row d_refusals d_image d_guard) (e1 : (r1, u1) = f_X4_twoOrThree c_now_told c_now_squad_size c_now_squad_facts c_refusals c_lamp_reboundTenths c_lamp_lawInForce c_lamp_drawTenths c_lamp_solvedRows c_lamp_squad_size c_lamp_squad_facts c_lamp_changes c_lamp_values c_lamp_bests c_lamp_rowTenths c_lamp_hitValues c_lamp_missValues) (e2 : (r2, u2) = f_X5_twoOrThree d_seconds d_lead d_ball d_rebound d_law d_draw d_players d_side d_kind d_near d_far d_free d_refusals d_guard d_worth) : r1 = r2 ∧ Rel c_isKept c_numbersSize c_now_told c_now_squad_size c_now_squad_facts c_kept_told c_kept_squad_size c_kept_squad_facts c_letters_size c_letters_signs c_numbers u1.1 c_lamp_reboundTenths c_lamp_lawInForce c_lamp_drawTenths u1.2.1 c_lamp_squad_size c_lamp_squad_facts c_lamp_changes u1.2.2.1 u1.2.2.2.1 d_seconds d_lead d_ball d_rebound d_law d_draw d_players d_letters d_inRow d_imaged d_fouls d_calls d_side d_kind d_near d_far d_free d_letter d_row u2.1 d_image d_guard := by
  obtain ⟨hS, hP, hr, hlw, hd⟩ := r_rng hR
  obtain ⟨t0, t1, t2, t3, t4, t5, t6, t7, t8, t9⟩ := r_told hR
  obtain ⟨m', hm'⟩ := pe_nat 6 hP.1 hP.2 (by decide)
  have hm6 : m'.val ≤ 6 := by have := m'.isLt; omega
  obtain ⟨hsz, hp⟩ := r_sq hR
  have fz : ((c_now_squad_size).toInt - (0 : Int32).toInt).toNat + 1 = m'.val + 1 := by rw [hsz, hm']; exact p_fu m'.val hm6
  have fp : ((d_players).toInt - (0 : Int32).toInt).toNat + 1 = m'.val + 1 := by rw [hm']; exact p_fu m'.val hm6
  obtain ⟨k0, k1, k2, -⟩ := p_t0 c_now_told
  obtain ⟨a1, a2, a3⟩ := r_par hR
  have ho := p_overN hR
  have hou := p_ours hsz hP hp
  rcases pe_b hS.2.2 with hb | hb
  · by_cases h0 : f_X5_ended d_law d_seconds d_lead = 0
    · by_cases hz : f_X5_ours d_players d_side = 0
      · obtain ⟨U, U', q1, q2, q3⟩ := p_no (r_ref hR) (x := -3) 3 (by decide) (by decide)
        unfold f_X4_twoOrThree at e1
        rw [p_lt, k2, t2, if_pos hb, p_lt, ho, if_pos h0, p_lt, hou, if_pos hz, show f_X4_refusedFarAbove c_refusals (-3) = (2000000000 - (-3), U) by unfold f_X4_refusedFarAbove; rw [q1, p_lt2], p_lt2] at e1
        unfold f_X5_twoOrThree at e2
        rw [if_neg (by rw [hb]; decide), p_lt, if_pos h0, p_lt, if_pos hz, show f_X5_noFar d_refusals (-3) = (2000000000 - (-3), U') by unfold f_X5_noFar; rw [q2, p_lt2], p_lt2] at e2
        obtain ⟨rfl, rfl⟩ := Prod.mk.inj e1
        obtain ⟨rfl, rfl⟩ := Prod.mk.inj e2
        exact ⟨rfl, r_up hR q3 (r_sol hR)⟩
      · have best : ∀ (c : Fin 3) (n : Int32) (V B rT hv mv : Nat → Int32), r_Sol d_rebound d_law d_draw d_players d_side d_kind d_near d_far d_free d_guard V B n → ∃ n' V' B' rT' hv' mv', f_X4_bestOfOurs c_now_told c_now_squad_size c_now_squad_facts c_lamp_reboundTenths c_lamp_lawInForce c_lamp_drawTenths n c_lamp_squad_size c_lamp_squad_facts c_lamp_changes V B rT hv mv (Int32.ofNat c) = (p_mx d_side (fun q : Nat => f_X5_ofShot d_rebound d_law d_draw d_kind d_near d_far d_free d_guard (f_X5_solve d_rebound d_law d_draw d_players d_side d_kind d_near d_far d_free d_guard d_worth) (Int32.ofNat q) (Int32.ofNat c) d_seconds d_lead 0) m'.val 0 0, n', V', B', rT', hv', mv') ∧ r_Sol d_rebound d_law d_draw d_players d_side d_kind d_near d_far d_free d_guard V' B' n' := by
          intro c n V B rT hv mv hs
          obtain ⟨n1, V1, B1, rT1, hv1, mv1, g1, g2, g3⟩ := p_solveTo (r_LR hR) hr hd hS.1 rT hv mv hs
          refine ⟨n1, V1, B1, rT1, hv1, mv1, ?_, g2⟩
          have bl := p_bestL hR d_worth m'.val hm6 hm' g2 g3 h0 c rT1 hv1 mv1 (fun v3_22 v4_22 => (v3_22, n1, V1, B1, rT1, hv1, mv1)) m'.val 0 0 (by omega)
          unfold f_X4_bestOfOurs
          rw [p_lt, k0, t0, a1, a2, a3, p_lt, g1, fz]
          rw [a1, a2, a3] at bl
          exact bl
        obtain ⟨n1, V1, B1, rT1, hv1, mv1, b1, s1⟩ := best 0 c_lamp_solvedRows c_lamp_values c_lamp_bests c_lamp_rowTenths c_lamp_hitValues c_lamp_missValues (r_sol hR)
        obtain ⟨n2, V2, B2, rT2, hv2, mv2, b2, s2⟩ := best 1 n1 V1 B1 rT1 hv1 mv1 s1
        have hex := p_isOurs m'.val hm6 d_side (by rw [← hm']; exact hz)
        have V0 : ∀ (c : Fin 3) (q : Nat), q < 6 → p_V (f_X5_ofShot d_rebound d_law d_draw d_kind d_near d_far d_free d_guard (f_X5_solve d_rebound d_law d_draw d_players d_side d_kind d_near d_far d_free d_guard d_worth) (Int32.ofNat q) (Int32.ofNat c) d_seconds d_lead 0) := fun c q hq => by
          obtain ⟨n3, V3, B3, rT3, hv3, mv3, g1, g2, g3⟩ := p_solveTo (r_LR hR) hr hd hS.1 c_lamp_rowTenths c_lamp_hitValues c_lamp_missValues (r_sol hR)
          exact (p_shotN hR d_worth g2 g3 h0 ⟨q, hq⟩ c).2
        have m0 := p_mx0 d_side (fun q : Nat => f_X5_ofShot d_rebound d_law d_draw d_kind d_near d_far d_free d_guard (f_X5_solve d_rebound d_law d_draw d_players d_side d_kind d_near d_far d_free d_guard d_worth) (Int32.ofNat q) (Int32.ofNat (0 : Fin 3)) d_seconds d_lead 0) (V0 0) m'.val 0 (by omega) hex
        have m1 := p_mx0 d_side (fun q : Nat => f_X5_ofShot d_rebound d_law d_draw d_kind d_near d_far d_free d_guard (f_X5_solve d_rebound d_law d_draw d_players d_side d_kind d_near d_far d_free d_guard d_worth) (Int32.ofNat q) (Int32.ofNat (1 : Fin 3)) d_seconds d_lead 0) (V0 1) m'.val 0 (by omega) hex
        have tl := p_twoL d_seconds d_lead d_ball d_rebound d_law d_draw d_side d_kind d_near d_far d_free d_refusals d_guard (f_X5_solve d_rebound d_law d_draw d_players d_side d_kind d_near d_far d_free d_guard d_worth) m'.val hm6 (fun p hq => (hp p hq).2.1) (fun v1_47 v2_47 v3_47 => (v1_47 - v2_47, d_refusals, (f_X5_solve d_rebound d_law d_draw d_players d_side d_kind d_near d_far d_free d_guard d_worth))) m'.val 0 (-1) (-1) (by omega)
        rw [← hm'] at tl
        rw [show Int32.ofNat ((0 : Fin 3) : Nat) = (0 : Int32) from rfl] at b1
        rw [show Int32.ofNat ((1 : Fin 3) : Nat) = (1 : Int32) from rfl] at b2
        unfold f_X4_twoOrThree at e1
        rw [p_lt, k2, t2, if_pos hb, p_lt, ho, if_pos h0, p_lt, hou, if_neg hz, b1, p_lt2] at e1
        dsimp only at e1
        rw [b2, p_lt2] at e1
        unfold f_X5_twoOrThree at e2
        rw [if_neg (by rw [hb]; decide), p_lt, if_pos h0, p_lt, if_neg hz, p_lt, fp] at e2
        have e2' := e2.trans tl
        rw [← m0, ← m1] at e2'
        obtain ⟨rfl, rfl⟩ := Prod.mk.inj e1
        obtain ⟨rfl, rfl⟩ := Prod.mk.inj e2'
        exact ⟨rfl, r_up hR (r_ref hR) s2⟩
    · obtain ⟨U, U', q1, q2, q3⟩ := p_no (r_ref hR) (x := -3) 3 (by decide) (by decide)
      unfold f_X4_twoOrThree at e1
      rw [p_lt, k2, t2, if_pos hb, p_lt, ho, if_neg h0, show f_X4_refusedFarAbove c_refusals (-3) = (2000000000 - (-3), U) by unfold f_X4_refusedFarAbove; rw [q1, p_lt2], p_lt2] at e1
      unfold f_X5_twoOrThree at e2
      rw [if_neg (by rw [hb]; decide), p_lt, if_neg h0, show f_X5_noFar d_refusals (-3) = (2000000000 - (-3), U') by unfold f_X5_noFar; rw [q2, p_lt2], p_lt2] at e2
      obtain ⟨rfl, rfl⟩ := Prod.mk.inj e1
      obtain ⟨rfl, rfl⟩ := Prod.mk.inj e2
      exact ⟨rfl, r_up hR q3 (r_sol hR)⟩
  · obtain ⟨U, U', q1, q2, q3⟩ := p_no (r_ref hR) (x := -3) 3 (by decide) (by decide)
    unfold f_X4_twoOrThree at e1
    rw [p_lt, k2, t2, if_neg (by rw [hb]; decide), show f_X4_refusedFarAbove c_refusals (-3) = (2000000000 - (-3), U) by unfold f_X4_refusedFarAbove; rw [q1, p_lt2], p_lt2] at e1
    unfold f_X5_twoOrThree at e2
    rw [if_pos hb, show f_X5_noFar d_refusals (-3) = (2000000000 - (-3), U') by unfold f_X5_noFar; rw [q2, p_lt2], p_lt2] at e2
    obtain ⟨rfl, rfl⟩ := Prod.mk.inj e1
    obtain ⟨rfl, rfl⟩ := Prod.mk.inj e2
    exact ⟨rfl, r_up hR q3 (r_sol hR)⟩
set_option maxRecDepth 100000 in
set_option maxHeartbeats 1000000 in
theorem eq_rebound {c_isKept : Int32} {c_numbersSize : Int32} {c_now_told : Nat → Int32} {c_now_squad_size : Int32} {c_now_squad_facts : Nat → Int32} {c_kept_told : Nat → Int32} {c_kept_squad_size : Int32} {c_kept_squad_facts : Nat → Int32} {c_letters_size : Int32} {c_letters_signs : Nat → Int32} {c_numbers : Nat → Int32} {c_refusals : Nat → Int32} {c_lamp_reboundTenths : Int32} {c_lamp_lawInForce : Int32} {c_lamp_drawTenths : Int32} {c_lamp_solvedRows : Int32} {c_lamp_squad_size : Int32} {c_lamp_squad_facts : Nat → Int32} {c_lamp_changes : Nat → Int32} {c_lamp_values : Nat → Int32} {c_lamp_bests : Nat → Int32} {d_seconds : Int32} {d_lead : Int32} {d_ball : Int32} {d_rebound : Int32} {d_law : Int32} {d_draw : Int32} {d_players : Int32} {d_letters : Int32} {d_inRow : Int32} {d_imaged : Int32} {d_fouls : Nat → Int32} {d_calls : Nat → Int32} {d_side : Nat → Int32} {d_kind : Nat → Int32} {d_near : Nat → Int32} {d_far : Nat → Int32} {d_free : Nat → Int32} {d_letter : Nat → Int32} {d_row : Nat → Int32} {d_refusals : Nat → Int32} {d_image : Nat → Int32} {d_guard : Nat → Int32} {c_otherLamp_reboundTenths : Int32} {c_otherLamp_lawInForce : Int32} {c_otherLamp_drawTenths : Int32} {c_otherLamp_solvedRows : Int32} {c_otherLamp_squad_size : Int32} {c_otherLamp_squad_facts : Nat → Int32} {c_otherLamp_changes : Nat → Int32} {c_otherLamp_values : Nat → Int32} {c_otherLamp_bests : Nat → Int32} {c_otherLamp_rowTenths : Nat → Int32} {c_otherLamp_hitValues : Nat → Int32} {c_otherLamp_missValues : Nat → Int32} {d_worth : Nat → Int32}  {r1 r2 : Int32} {u1 : (Int32) × (Int32) × (Int32) × (Int32) × (Int32) × (Nat → Int32) × (Nat → Int32) × (Nat → Int32) × (Nat → Int32) × (Nat → Int32) × (Nat → Int32) × (Nat → Int32)} {u2 : (Int32) × (Nat → Int32)}  (hR : Rel c_isKept c_numbersSize c_now_told c_now_squad_size c_now_squad_facts c_kept_told c_kept_squad_size c_kept_squad_facts c_letters_size c_letters_signs c_numbers c_refusals c_lamp_reboundTenths c_lamp_lawInForce c_lamp_drawTenths c_lamp_solvedRows c_lamp_squad_size c_lamp_squad_facts c_lamp_changes c_lamp_values c_lamp_bests d_seconds d_lead d_ball d_rebound d_law d_draw d_players d_letters d_inRow d_imaged d_fouls d_calls d_side d_kind d_near d_far d_free d_letter d_row d_refusals d_image d_guard) (e1 : (r1, u1) = f_X4_rebound c_now_told c_now_squad_size c_now_squad_facts c_otherLamp_reboundTenths c_otherLamp_lawInForce c_otherLamp_drawTenths c_otherLamp_solvedRows c_otherLamp_squad_size c_otherLamp_squad_facts c_otherLamp_changes c_otherLamp_values c_otherLamp_bests c_otherLamp_rowTenths c_otherLamp_hitValues c_otherLamp_missValues) (e2 : (r2, u2) = f_X5_rebound d_seconds d_lead d_ball d_rebound d_law d_draw d_players d_side d_kind d_near d_far d_free d_guard d_worth) : r1 = r2 ∧ Rel c_isKept c_numbersSize c_now_told c_now_squad_size c_now_squad_facts c_kept_told c_kept_squad_size c_kept_squad_facts c_letters_size c_letters_signs c_numbers c_refusals c_lamp_reboundTenths c_lamp_lawInForce c_lamp_drawTenths c_lamp_solvedRows c_lamp_squad_size c_lamp_squad_facts c_lamp_changes c_lamp_values c_lamp_bests d_seconds d_lead d_ball u2.1 d_law d_draw d_players d_letters d_inRow d_imaged d_fouls d_calls d_side d_kind d_near d_far d_free d_letter d_row d_refusals d_image d_guard := by
  obtain ⟨hS, hP, hr, hlw, hd⟩ := r_rng hR
  obtain ⟨t0, t1, t2, t3, t4, t5, t6, t7, t8, t9⟩ := r_told hR
  obtain ⟨C1, s1, z1⟩ := p_start c_otherLamp_reboundTenths c_otherLamp_lawInForce c_otherLamp_drawTenths c_otherLamp_solvedRows c_otherLamp_squad_size c_otherLamp_squad_facts c_otherLamp_changes c_now_told c_now_squad_size c_now_squad_facts
  obtain ⟨n1, V1, B1, rT1, hv1, mv1, g1, x1⟩ := p_nowO (reb := 9) (law := d_law) (draw := d_draw) (p_LRs hR c_otherLamp_squad_facts C1 z1) ⟨by decide, by decide⟩ hd hS t0 t1 t2 c_otherLamp_values c_otherLamp_bests c_otherLamp_rowTenths c_otherLamp_hitValues c_otherLamp_missValues d_worth
  obtain ⟨C2, s2, z2⟩ := p_start 9 d_law d_draw n1 c_now_squad_size (g_cpy c_now_squad_facts c_otherLamp_squad_facts 30) C1 c_now_told c_now_squad_size c_now_squad_facts
  obtain ⟨n2, V2, B2, rT2, hv2, mv2, g2, x2⟩ := p_nowO (reb := 0) (law := d_law) (draw := d_draw) (p_LRs hR (g_cpy c_now_squad_facts c_otherLamp_squad_facts 30) C2 z2) ⟨by decide, by decide⟩ hd hS t0 t1 t2 V1 B1 rT1 hv1 mv1 (f_X5_solve 9 d_law d_draw d_players d_side d_kind d_near d_far d_free d_guard d_worth)
  have c9 : ∀ x, f_X1_changeRebound x 9 = 9 := fun _ => rfl
  have c0 : ∀ x, f_X1_changeRebound x 0 = 0 := fun _ => rfl
  rw [t7, t8, t9] at s1 s2
  unfold f_X4_rebound at e1
  rw [p_lt, s1, p_lt, c9, g1, p_lt2, p_lt, s2, p_lt, c0, g2, p_lt2] at e1
  unfold f_X5_rebound f_X5_now at e2
  rw [p_lt, p_lt, p_lt2, p_lt, p_lt, p_lt2] at e2
  obtain ⟨rfl, rfl⟩ := Prod.mk.inj e1
  obtain ⟨rfl, rfl⟩ := Prod.mk.inj e2
  exact ⟨by dsimp only, hR⟩
set_option maxRecDepth 100000 in
set_option maxHeartbeats 1000000 in
theorem eq_foul {c_isKept : Int32} {c_numbersSize : Int32} {c_now_told : Nat → Int32} {c_now_squad_size : Int32} {c_now_squad_facts : Nat → Int32} {c_kept_told : Nat → Int32} {c_kept_squad_size : Int32} {c_kept_squad_facts : Nat → Int32} {c_letters_size : Int32} {c_letters_signs : Nat → Int32} {c_numbers : Nat → Int32} {c_refusals : Nat → Int32} {c_lamp_reboundTenths : Int32} {c_lamp_lawInForce : Int32} {c_lamp_drawTenths : Int32} {c_lamp_solvedRows : Int32} {c_lamp_squad_size : Int32} {c_lamp_squad_facts : Nat → Int32} {c_lamp_changes : Nat → Int32} {c_lamp_values : Nat → Int32} {c_lamp_bests : Nat → Int32} {d_seconds : Int32} {d_lead : Int32} {d_ball : Int32} {d_rebound : Int32} {d_law : Int32} {d_draw : Int32} {d_players : Int32} {d_letters : Int32} {d_inRow : Int32} {d_imaged : Int32} {d_fouls : Nat → Int32} {d_calls : Nat → Int32} {d_side : Nat → Int32} {d_kind : Nat → Int32} {d_near : Nat → Int32} {d_far : Nat → Int32} {d_free : Nat → Int32} {d_letter : Nat → Int32} {d_row : Nat → Int32} {d_refusals : Nat → Int32} {d_image : Nat → Int32} {d_guard : Nat → Int32} {c_lamp_rowTenths : Nat → Int32} {c_lamp_hitValues : Nat → Int32} {c_lamp_missValues : Nat → Int32} {d_worth : Nat → Int32} {p1 : Int32} {r1 r2 : Int32} {u1 : (Nat → Int32) × (Int32) × (Nat → Int32) × (Nat → Int32) × (Nat → Int32) × (Nat → Int32) × (Nat → Int32)} {u2 : (Nat → Int32) × (Nat → Int32)}  (hR : Rel c_isKept c_numbersSize c_now_told c_now_squad_size c_now_squad_facts c_kept_told c_kept_squad_size c_kept_squad_facts c_letters_size c_letters_signs c_numbers c_refusals c_lamp_reboundTenths c_lamp_lawInForce c_lamp_drawTenths c_lamp_solvedRows c_lamp_squad_size c_lamp_squad_facts c_lamp_changes c_lamp_values c_lamp_bests d_seconds d_lead d_ball d_rebound d_law d_draw d_players d_letters d_inRow d_imaged d_fouls d_calls d_side d_kind d_near d_far d_free d_letter d_row d_refusals d_image d_guard) (e1 : (r1, u1) = f_X4_foul c_now_told c_now_squad_size c_now_squad_facts c_refusals c_lamp_reboundTenths c_lamp_lawInForce c_lamp_drawTenths c_lamp_solvedRows c_lamp_squad_size c_lamp_squad_facts c_lamp_changes c_lamp_values c_lamp_bests c_lamp_rowTenths c_lamp_hitValues c_lamp_missValues p1) (e2 : (r2, u2) = f_X5_foul d_seconds d_lead d_ball d_rebound d_law d_draw d_players d_fouls d_side d_kind d_near d_far d_free d_refusals d_guard d_worth p1) : r1 = r2 ∧ Rel c_isKept c_numbersSize c_now_told c_now_squad_size c_now_squad_facts c_kept_told c_kept_squad_size c_kept_squad_facts c_letters_size c_letters_signs c_numbers u1.1 c_lamp_reboundTenths c_lamp_lawInForce c_lamp_drawTenths u1.2.1 c_lamp_squad_size c_lamp_squad_facts c_lamp_changes u1.2.2.1 u1.2.2.2.1 d_seconds d_lead d_ball d_rebound d_law d_draw d_players d_letters d_inRow d_imaged d_fouls d_calls d_side d_kind d_near d_far d_free d_letter d_row u2.1 d_image d_guard := by
  obtain ⟨hsz, hp⟩ := r_sq hR
  obtain ⟨hS, hP, -⟩ := r_rng hR
  obtain ⟨t0, t1, t2, -⟩ := r_told hR
  obtain ⟨k0, k1, k2, -⟩ := p_t0 c_now_told
  rcases p_has hsz hP p1 with ⟨q, rfl, hq, o1, o2⟩ | ⟨o1, o2⟩
  · have f := hp q q.isLt
    have f0 : f_X3_fact c_now_squad_facts (Int32.ofNat q) 0 = d_side q := by rw [← f.1.1]; exact p_fact c_now_squad_facts q 0
    rcases p_may hR with ⟨m1, m2, m3, m4⟩ | ⟨m1, m2⟩
    · rcases pe_b f.2.1 with hs | hs
      · obtain ⟨U, U', q1, q2, q3⟩ := p_no (r_ref hR) (x := -3) 3 (by decide) (by decide)
        unfold f_X4_foul at e1
        rw [p_lt, o1, if_neg (by decide), p_lt, m1, if_neg (by decide), p_lt, f0, if_neg (by rw [hs]; decide), q1, p_lt2] at e1
        unfold f_X5_foul at e2
        rw [p_lt, o2, if_neg (by decide), p_lt, m2, if_pos rfl, p_nat6, if_pos hs, q2, p_lt2] at e2
        obtain ⟨rfl, rfl⟩ := Prod.mk.inj e1
        obtain ⟨rfl, rfl⟩ := Prod.mk.inj e2
        exact ⟨rfl, r_up hR q3 (r_sol hR)⟩
      · have hs1 := p_sec1 hS.1 (p_end0 m4)
        obtain ⟨n', V', B', rT, hv, mv, g1, g2, g3⟩ := p_two hR c_lamp_rowTenths c_lamp_hitValues c_lamp_missValues d_worth (r_sol hR) q (d_seconds - 1) 0 (-1) hs1.1 hs1.2 ⟨by decide, by decide⟩ (Or.inr ⟨hs, rfl⟩)
        unfold f_X4_foul at e1
        rw [p_lt, o1, if_neg (by decide), p_lt, m1, if_neg (by decide), p_lt, f0, if_pos hs, p_lt, k0, t0, g1, p_lt2] at e1
        unfold f_X5_foul at e2
        rw [p_lt, o2, if_neg (by decide), p_lt, m2, if_pos rfl, p_nat6, if_neg (by rw [hs]; decide), p_lt, p_lt] at e2
        obtain ⟨rfl, rfl⟩ := Prod.mk.inj e1
        obtain ⟨rfl, rfl⟩ := Prod.mk.inj e2
        exact ⟨rfl, r_up hR (r_ref hR) g2⟩
    · obtain ⟨U, U', q1, q2, q3⟩ := p_no (r_ref hR) (x := -3) 3 (by decide) (by decide)
      unfold f_X4_foul at e1
      rw [p_lt, o1, if_neg (by decide), p_lt, if_pos m1, q1, p_lt2] at e1
      unfold f_X5_foul at e2
      rw [p_lt, o2, if_neg (by decide), p_lt, m2, if_neg (by decide), q2, p_lt2] at e2
      obtain ⟨rfl, rfl⟩ := Prod.mk.inj e1
      obtain ⟨rfl, rfl⟩ := Prod.mk.inj e2
      exact ⟨rfl, r_up hR q3 (r_sol hR)⟩
  · obtain ⟨U, U', q1, q2, q3⟩ := p_no (r_ref hR) (x := -1) 1 (by decide) (by decide)
    unfold f_X4_foul at e1
    rw [p_lt, if_pos o1, q1, p_lt2] at e1
    unfold f_X5_foul at e2
    rw [p_lt, if_pos o2, q2, p_lt2] at e2
    obtain ⟨rfl, rfl⟩ := Prod.mk.inj e1
    obtain ⟨rfl, rfl⟩ := Prod.mk.inj e2
    exact ⟨rfl, r_up hR q3 (r_sol hR)⟩
set_option maxRecDepth 100000 in
set_option maxHeartbeats 1000000 in
theorem eq_whom {c_isKept : Int32} {c_numbersSize : Int32} {c_now_told : Nat → Int32} {c_now_squad_size : Int32} {c_now_squad_facts : Nat → Int32} {c_kept_told : Nat → Int32} {c_kept_squad_size : Int32} {c_kept_squad_facts : Nat → Int32} {c_letters_size : Int32} {c_letters_signs : Nat → Int32} {c_numbers : Nat → Int32} {c_refusals : Nat → Int32} {c_lamp_reboundTenths : Int32} {c_lamp_lawInForce : Int32} {c_lamp_drawTenths : Int32} {c_lamp_solvedRows : Int32} {c_lamp_squad_size : Int32} {c_lamp_squad_facts : Nat → Int32} {c_lamp_changes : Nat → Int32} {c_lamp_values : Nat → Int32} {c_lamp_bests : Nat → Int32} {d_seconds : Int32} {d_lead : Int32} {d_ball : Int32} {d_rebound : Int32} {d_law : Int32} {d_draw : Int32} {d_players : Int32} {d_letters : Int32} {d_inRow : Int32} {d_imaged : Int32} {d_fouls : Nat → Int32} {d_calls : Nat → Int32} {d_side : Nat → Int32} {d_kind : Nat → Int32} {d_near : Nat → Int32} {d_far : Nat → Int32} {d_free : Nat → Int32} {d_letter : Nat → Int32} {d_row : Nat → Int32} {d_refusals : Nat → Int32} {d_image : Nat → Int32} {d_guard : Nat → Int32} {c_lamp_rowTenths : Nat → Int32} {c_lamp_hitValues : Nat → Int32} {c_lamp_missValues : Nat → Int32} {d_worth : Nat → Int32} {p1 : Int32} {r1 r2 : Int32} {u1 : (Nat → Int32) × (Int32) × (Nat → Int32) × (Nat → Int32) × (Nat → Int32) × (Nat → Int32) × (Nat → Int32)} {u2 : (Nat → Int32) × (Nat → Int32)}  (hR : Rel c_isKept c_numbersSize c_now_told c_now_squad_size c_now_squad_facts c_kept_told c_kept_squad_size c_kept_squad_facts c_letters_size c_letters_signs c_numbers c_refusals c_lamp_reboundTenths c_lamp_lawInForce c_lamp_drawTenths c_lamp_solvedRows c_lamp_squad_size c_lamp_squad_facts c_lamp_changes c_lamp_values c_lamp_bests d_seconds d_lead d_ball d_rebound d_law d_draw d_players d_letters d_inRow d_imaged d_fouls d_calls d_side d_kind d_near d_far d_free d_letter d_row d_refusals d_image d_guard) (e1 : (r1, u1) = f_X4_whom c_now_told c_now_squad_size c_now_squad_facts c_refusals c_lamp_reboundTenths c_lamp_lawInForce c_lamp_drawTenths c_lamp_solvedRows c_lamp_squad_size c_lamp_squad_facts c_lamp_changes c_lamp_values c_lamp_bests c_lamp_rowTenths c_lamp_hitValues c_lamp_missValues p1) (e2 : (r2, u2) = f_X5_whom d_seconds d_lead d_ball d_rebound d_law d_draw d_players d_fouls d_side d_kind d_near d_far d_free d_refusals d_guard d_worth p1) : r1 = r2 ∧ Rel c_isKept c_numbersSize c_now_told c_now_squad_size c_now_squad_facts c_kept_told c_kept_squad_size c_kept_squad_facts c_letters_size c_letters_signs c_numbers u1.1 c_lamp_reboundTenths c_lamp_lawInForce c_lamp_drawTenths u1.2.1 c_lamp_squad_size c_lamp_squad_facts c_lamp_changes u1.2.2.1 u1.2.2.2.1 d_seconds d_lead d_ball d_rebound d_law d_draw d_players d_letters d_inRow d_imaged d_fouls d_calls d_side d_kind d_near d_far d_free d_letter d_row u2.1 d_image d_guard := by
  obtain ⟨hS, hP, hr, hlw, hd⟩ := r_rng hR
  obtain ⟨t0, t1, t2, t3, t4, t5, t6, t7, t8, t9⟩ := r_told hR
  obtain ⟨m', hm'⟩ := pe_nat 6 hP.1 hP.2 (by decide)
  have hm6 : m'.val ≤ 6 := by have := m'.isLt; omega
  obtain ⟨hsz, hp⟩ := r_sq hR
  have fz : ((c_now_squad_size).toInt - (0 : Int32).toInt).toNat + 1 = m'.val + 1 := by rw [hsz, hm']; exact p_fu m'.val hm6
  have fp : ((d_players).toInt - (0 : Int32).toInt).toNat + 1 = m'.val + 1 := by rw [hm']; exact p_fu m'.val hm6
  by_cases w0 : p1 < 0
  · obtain ⟨U, U', q1, q2, q3⟩ := p_no (r_ref hR) (x := -2) 2 (by decide) (by decide)
    unfold f_X4_whom at e1
    rw [if_pos w0, q1, p_lt2] at e1
    unfold f_X5_whom at e2
    rw [p_lt, show f_X5_within p1 0 1 = 0 by unfold f_X5_within; rw [if_pos w0], if_pos rfl, q2, p_lt2] at e2
    obtain ⟨rfl, rfl⟩ := Prod.mk.inj e1
    obtain ⟨rfl, rfl⟩ := Prod.mk.inj e2
    exact ⟨rfl, r_up hR q3 (r_sol hR)⟩
  by_cases w1 : p1 ≤ 1
  · have wi : f_X5_within p1 0 1 = 1 := by unfold f_X5_within; rw [if_neg w0, if_neg (Int32.not_lt.2 w1)]
    rcases p_may hR with ⟨m1, m2, m3, m4⟩ | ⟨m1, m2⟩
    · rcases p_th hsz hP hp with ⟨a, b⟩ | ⟨a, b⟩
      · obtain ⟨U, U', q1, q2, q3⟩ := p_no (r_ref hR) (x := -3) 3 (by decide) (by decide)
        unfold f_X4_whom at e1
        rw [if_neg w0, if_pos w1, p_lt, m1, if_neg (by decide), p_lt, if_pos a, q1, p_lt2] at e1
        unfold f_X5_whom at e2
        rw [p_lt, wi, if_neg (by decide), p_lt, m2, if_pos rfl, p_lt, if_pos b, q2, p_lt2] at e2
        obtain ⟨rfl, rfl⟩ := Prod.mk.inj e1
        obtain ⟨rfl, rfl⟩ := Prod.mk.inj e2
        exact ⟨rfl, r_up hR q3 (r_sol hR)⟩
      · unfold f_X4_whom at e1
        rw [if_neg w0, if_pos w1, p_lt, m1, if_neg (by decide), p_lt, if_neg a, fz] at e1
        unfold f_X5_whom at e2
        rw [p_lt, wi, if_neg (by decide), p_lt, m2, if_pos rfl, p_lt, if_neg b, p_lt, fp] at e2
        obtain ⟨y, y', x, n', V', B', rT', hv', mv', q4, q5, q6, q7⟩ := p_whomL hR p1 c_refusals d_refusals d_worth m'.val hm6 hm' m4 (fun v2_52 v3_52 v4_52 c_lamp_solvedRows_52 c_lamp_values_52 c_lamp_bests_52 c_lamp_rowTenths_52 c_lamp_hitValues_52 c_lamp_missValues_52 => (if p1 = 0 then (v2_52, c_refusals, c_lamp_solvedRows_52, c_lamp_values_52, c_lamp_bests_52, c_lamp_rowTenths_52, c_lamp_hitValues_52, c_lamp_missValues_52) else g_lt2 (f_X4_valueNow c_now_told c_lamp_reboundTenths c_lamp_lawInForce c_lamp_drawTenths c_lamp_solvedRows_52 c_lamp_squad_size c_lamp_squad_facts c_lamp_changes c_lamp_values_52 c_lamp_bests_52 c_lamp_rowTenths_52 c_lamp_hitValues_52 c_lamp_missValues_52) (fun r135 u135 => (if v3_52 ≤ r135 then (0, c_refusals, u135.1, u135.2.1, u135.2.2.1, u135.2.2.2.1, u135.2.2.2.2.1, u135.2.2.2.2.2) else (1, c_refusals, u135.1, u135.2.1, u135.2.2.1, u135.2.2.2.1, u135.2.2.2.2.1, u135.2.2.2.2.2))))) (fun v2_52 v3_52 v4_52 => (if p1 = 0 then (v2_52, d_refusals, (f_X5_solve d_rebound d_law d_draw d_players d_side d_kind d_near d_far d_free d_guard d_worth)) else g_lt (f_X5_valueOf (f_X5_solve d_rebound d_law d_draw d_players d_side d_kind d_near d_far d_free d_guard d_worth) d_seconds d_lead d_ball) (fun r137 => (if v3_52 ≤ r137 then (0, d_refusals, (f_X5_solve d_rebound d_law d_draw d_players d_side d_kind d_near d_far d_free d_guard d_worth)) else (1, d_refusals, (f_X5_solve d_rebound d_law d_draw d_players d_side d_kind d_near d_far d_free d_guard d_worth)))))) m'.val 0 (-9) (-1) 0 c_lamp_solvedRows c_lamp_values c_lamp_bests c_lamp_rowTenths c_lamp_hitValues c_lamp_missValues (by omega) (Or.inl ⟨rfl, rfl, fun q hq => absurd hq (by omega)⟩) (r_sol hR)
        have e1' := e1.trans q4
        have e2' := e2.trans q5
        have hy : y = y' := by
          rcases q7 with ⟨-, -, z⟩ | ⟨z, -⟩
          · exact absurd (by rw [hm']; exact p_oursN m'.val hm6 d_side z) b
          · exact z
        have hU := r_up hR (r_ref hR) q6
        by_cases h0 : p1 = 0
        · rw [if_pos h0] at e1' e2'
          obtain ⟨rfl, rfl⟩ := Prod.mk.inj e1'
          obtain ⟨rfl, rfl⟩ := Prod.mk.inj e2'
          exact ⟨hy, hU⟩
        · obtain ⟨n2, V2, B2, rT2, hv2, mv2, g1, g2, g3⟩ := p_nowC hU rT' hv' mv' d_worth
          rw [if_neg h0, g1, p_lt2] at e1'
          rw [if_neg h0, p_lt] at e2'
          have hU2 := r_up hR (r_ref hR) g2
          by_cases hx : x ≤ f_X5_valueOf (f_X5_solve d_rebound d_law d_draw d_players d_side d_kind d_near d_far d_free d_guard d_worth) d_seconds d_lead d_ball
          · rw [if_pos hx] at e1' e2'
            obtain ⟨rfl, rfl⟩ := Prod.mk.inj e1'
            obtain ⟨rfl, rfl⟩ := Prod.mk.inj e2'
            exact ⟨rfl, hU2⟩
          · rw [if_neg hx] at e1' e2'
            obtain ⟨rfl, rfl⟩ := Prod.mk.inj e1'
            obtain ⟨rfl, rfl⟩ := Prod.mk.inj e2'
            exact ⟨rfl, hU2⟩
    · obtain ⟨U, U', q1, q2, q3⟩ := p_no (r_ref hR) (x := -3) 3 (by decide) (by decide)
      unfold f_X4_whom at e1
      rw [if_neg w0, if_pos w1, p_lt, if_pos m1, q1, p_lt2] at e1
      unfold f_X5_whom at e2
      rw [p_lt, wi, if_neg (by decide), p_lt, m2, if_neg (by decide), q2, p_lt2] at e2
      obtain ⟨rfl, rfl⟩ := Prod.mk.inj e1
      obtain ⟨rfl, rfl⟩ := Prod.mk.inj e2
      exact ⟨rfl, r_up hR q3 (r_sol hR)⟩
  · obtain ⟨U, U', q1, q2, q3⟩ := p_no (r_ref hR) (x := -2) 2 (by decide) (by decide)
    unfold f_X4_whom at e1
    rw [if_neg w0, if_neg w1, q1, p_lt2] at e1
    unfold f_X5_whom at e2
    rw [p_lt, show f_X5_within p1 0 1 = 0 by unfold f_X5_within; rw [if_neg w0, if_pos (Int32.not_le.1 w1)], if_pos rfl, q2, p_lt2] at e2
    obtain ⟨rfl, rfl⟩ := Prod.mk.inj e1
    obtain ⟨rfl, rfl⟩ := Prod.mk.inj e2
    exact ⟨rfl, r_up hR q3 (r_sol hR)⟩
set_option maxRecDepth 100000 in
set_option maxHeartbeats 1000000 in
theorem eq_freed {c_isKept : Int32} {c_numbersSize : Int32} {c_now_told : Nat → Int32} {c_now_squad_size : Int32} {c_now_squad_facts : Nat → Int32} {c_kept_told : Nat → Int32} {c_kept_squad_size : Int32} {c_kept_squad_facts : Nat → Int32} {c_letters_size : Int32} {c_letters_signs : Nat → Int32} {c_numbers : Nat → Int32} {c_refusals : Nat → Int32} {c_lamp_reboundTenths : Int32} {c_lamp_lawInForce : Int32} {c_lamp_drawTenths : Int32} {c_lamp_solvedRows : Int32} {c_lamp_squad_size : Int32} {c_lamp_squad_facts : Nat → Int32} {c_lamp_changes : Nat → Int32} {c_lamp_values : Nat → Int32} {c_lamp_bests : Nat → Int32} {d_seconds : Int32} {d_lead : Int32} {d_ball : Int32} {d_rebound : Int32} {d_law : Int32} {d_draw : Int32} {d_players : Int32} {d_letters : Int32} {d_inRow : Int32} {d_imaged : Int32} {d_fouls : Nat → Int32} {d_calls : Nat → Int32} {d_side : Nat → Int32} {d_kind : Nat → Int32} {d_near : Nat → Int32} {d_far : Nat → Int32} {d_free : Nat → Int32} {d_letter : Nat → Int32} {d_row : Nat → Int32} {d_refusals : Nat → Int32} {d_image : Nat → Int32} {d_guard : Nat → Int32} {c_lamp_rowTenths : Nat → Int32} {c_lamp_hitValues : Nat → Int32} {c_lamp_missValues : Nat → Int32} {d_worth : Nat → Int32} {p1 : Int32} {r1 r2 : Int32} {u1 : (Nat → Int32) × (Int32) × (Nat → Int32) × (Nat → Int32) × (Nat → Int32) × (Nat → Int32) × (Nat → Int32)} {u2 : (Nat → Int32) × (Nat → Int32)}  (hR : Rel c_isKept c_numbersSize c_now_told c_now_squad_size c_now_squad_facts c_kept_told c_kept_squad_size c_kept_squad_facts c_letters_size c_letters_signs c_numbers c_refusals c_lamp_reboundTenths c_lamp_lawInForce c_lamp_drawTenths c_lamp_solvedRows c_lamp_squad_size c_lamp_squad_facts c_lamp_changes c_lamp_values c_lamp_bests d_seconds d_lead d_ball d_rebound d_law d_draw d_players d_letters d_inRow d_imaged d_fouls d_calls d_side d_kind d_near d_far d_free d_letter d_row d_refusals d_image d_guard) (e1 : (r1, u1) = f_X4_freed c_now_told c_now_squad_size c_now_squad_facts c_refusals c_lamp_reboundTenths c_lamp_lawInForce c_lamp_drawTenths c_lamp_solvedRows c_lamp_squad_size c_lamp_squad_facts c_lamp_changes c_lamp_values c_lamp_bests c_lamp_rowTenths c_lamp_hitValues c_lamp_missValues p1) (e2 : (r2, u2) = f_X5_freed d_seconds d_lead d_rebound d_law d_draw d_players d_side d_kind d_near d_far d_free d_refusals d_guard d_worth p1) : r1 = r2 ∧ Rel c_isKept c_numbersSize c_now_told c_now_squad_size c_now_squad_facts c_kept_told c_kept_squad_size c_kept_squad_facts c_letters_size c_letters_signs c_numbers u1.1 c_lamp_reboundTenths c_lamp_lawInForce c_lamp_drawTenths u1.2.1 c_lamp_squad_size c_lamp_squad_facts c_lamp_changes u1.2.2.1 u1.2.2.2.1 d_seconds d_lead d_ball d_rebound d_law d_draw d_players d_letters d_inRow d_imaged d_fouls d_calls d_side d_kind d_near d_far d_free d_letter d_row u2.1 d_image d_guard := by
  obtain ⟨hsz, hp⟩ := r_sq hR
  obtain ⟨hS, hP, -⟩ := r_rng hR
  obtain ⟨t0, t1, t2, -⟩ := r_told hR
  obtain ⟨k0, k1, k2, -⟩ := p_t0 c_now_told
  have ho := p_overN hR
  rcases p_has hsz hP p1 with ⟨q, rfl, hq, o1, o2⟩ | ⟨o1, o2⟩
  · have f := hp q q.isLt
    have f0 : f_X3_fact c_now_squad_facts (Int32.ofNat q) 0 = d_side q := by rw [← f.1.1]; exact p_fact c_now_squad_facts q 0
    rcases pe_b f.2.1 with hs | hs
    · by_cases h0 : f_X5_ended d_law d_seconds d_lead = 0
      · obtain ⟨n', V', B', rT, hv, mv, g1, g2, g3⟩ := p_two hR c_lamp_rowTenths c_lamp_hitValues c_lamp_missValues d_worth (r_sol hR) q d_seconds 1 1 hS.1 (Int32.le_refl _) ⟨by decide, by decide⟩ (Or.inl ⟨hs, rfl⟩)
        unfold f_X4_freed at e1
        rw [p_lt, o1, if_neg (by decide), p_lt, f0, if_pos hs, p_lt, ho, if_pos h0, p_lt, k0, t0, g1, p_lt2] at e1
        unfold f_X5_freed at e2
        rw [p_lt, o2, if_neg (by decide), p_nat6, if_neg (by rw [hs]; decide), p_lt, if_pos h0, p_lt, p_lt] at e2
        obtain ⟨rfl, rfl⟩ := Prod.mk.inj e1
        obtain ⟨rfl, rfl⟩ := Prod.mk.inj e2
        exact ⟨rfl, r_up hR (r_ref hR) g2⟩
      · obtain ⟨U, U', q1, q2, q3⟩ := p_no (r_ref hR) (x := -3) 3 (by decide) (by decide)
        unfold f_X4_freed at e1
        rw [p_lt, o1, if_neg (by decide), p_lt, f0, if_pos hs, p_lt, ho, if_neg h0, q1, p_lt2] at e1
        unfold f_X5_freed at e2
        rw [p_lt, o2, if_neg (by decide), p_nat6, if_neg (by rw [hs]; decide), p_lt, if_neg h0, q2, p_lt2] at e2
        obtain ⟨rfl, rfl⟩ := Prod.mk.inj e1
        obtain ⟨rfl, rfl⟩ := Prod.mk.inj e2
        exact ⟨rfl, r_up hR q3 (r_sol hR)⟩
    · obtain ⟨U, U', q1, q2, q3⟩ := p_no (r_ref hR) (x := -3) 3 (by decide) (by decide)
      unfold f_X4_freed at e1
      rw [p_lt, o1, if_neg (by decide), p_lt, f0, if_neg (by rw [hs]; decide), q1, p_lt2] at e1
      unfold f_X5_freed at e2
      rw [p_lt, o2, if_neg (by decide), p_nat6, if_pos hs, q2, p_lt2] at e2
      obtain ⟨rfl, rfl⟩ := Prod.mk.inj e1
      obtain ⟨rfl, rfl⟩ := Prod.mk.inj e2
      exact ⟨rfl, r_up hR q3 (r_sol hR)⟩
  · obtain ⟨U, U', q1, q2, q3⟩ := p_no (r_ref hR) (x := -1) 1 (by decide) (by decide)
    unfold f_X4_freed at e1
    rw [p_lt, if_pos o1, q1, p_lt2] at e1
    unfold f_X5_freed at e2
    rw [p_lt, if_pos o2, q2, p_lt2] at e2
    obtain ⟨rfl, rfl⟩ := Prod.mk.inj e1
    obtain ⟨rfl, rfl⟩ := Prod.mk.inj e2
    exact ⟨rfl, r_up hR q3 (r_sol hR)⟩
set_option maxRecDepth 100000 in
set_option maxHeartbeats 1000000 in
theorem eq_doubled {c_isKept : Int32} {c_numbersSize : Int32} {c_now_told : Nat → Int32} {c_now_squad_size : Int32} {c_now_squad_facts : Nat → Int32} {c_kept_told : Nat → Int32} {c_kept_squad_size : Int32} {c_kept_squad_facts : Nat → Int32} {c_letters_size : Int32} {c_letters_signs : Nat → Int32} {c_numbers : Nat → Int32} {c_refusals : Nat → Int32} {c_lamp_reboundTenths : Int32} {c_lamp_lawInForce : Int32} {c_lamp_drawTenths : Int32} {c_lamp_solvedRows : Int32} {c_lamp_squad_size : Int32} {c_lamp_squad_facts : Nat → Int32} {c_lamp_changes : Nat → Int32} {c_lamp_values : Nat → Int32} {c_lamp_bests : Nat → Int32} {d_seconds : Int32} {d_lead : Int32} {d_ball : Int32} {d_rebound : Int32} {d_law : Int32} {d_draw : Int32} {d_players : Int32} {d_letters : Int32} {d_inRow : Int32} {d_imaged : Int32} {d_fouls : Nat → Int32} {d_calls : Nat → Int32} {d_side : Nat → Int32} {d_kind : Nat → Int32} {d_near : Nat → Int32} {d_far : Nat → Int32} {d_free : Nat → Int32} {d_letter : Nat → Int32} {d_row : Nat → Int32} {d_refusals : Nat → Int32} {d_image : Nat → Int32} {d_guard : Nat → Int32} {c_otherLamp_reboundTenths : Int32} {c_otherLamp_lawInForce : Int32} {c_otherLamp_drawTenths : Int32} {c_otherLamp_solvedRows : Int32} {c_otherLamp_squad_size : Int32} {c_otherLamp_squad_facts : Nat → Int32} {c_otherLamp_changes : Nat → Int32} {c_otherLamp_values : Nat → Int32} {c_otherLamp_bests : Nat → Int32} {c_otherLamp_rowTenths : Nat → Int32} {c_otherLamp_hitValues : Nat → Int32} {c_otherLamp_missValues : Nat → Int32} {d_worth : Nat → Int32} {p1 : Int32} {p2 : Int32} {r1 r2 : Int32} {u1 : (Nat → Int32) × (Int32) × (Int32) × (Int32) × (Int32) × (Int32) × (Nat → Int32) × (Nat → Int32) × (Nat → Int32) × (Nat → Int32) × (Nat → Int32) × (Nat → Int32) × (Nat → Int32)} {u2 : (Nat → Int32) × (Nat → Int32) × (Nat → Int32)}  (hR : Rel c_isKept c_numbersSize c_now_told c_now_squad_size c_now_squad_facts c_kept_told c_kept_squad_size c_kept_squad_facts c_letters_size c_letters_signs c_numbers c_refusals c_lamp_reboundTenths c_lamp_lawInForce c_lamp_drawTenths c_lamp_solvedRows c_lamp_squad_size c_lamp_squad_facts c_lamp_changes c_lamp_values c_lamp_bests d_seconds d_lead d_ball d_rebound d_law d_draw d_players d_letters d_inRow d_imaged d_fouls d_calls d_side d_kind d_near d_far d_free d_letter d_row d_refusals d_image d_guard) (e1 : (r1, u1) = f_X4_doubled c_now_told c_now_squad_size c_now_squad_facts c_refusals c_otherLamp_reboundTenths c_otherLamp_lawInForce c_otherLamp_drawTenths c_otherLamp_solvedRows c_otherLamp_squad_size c_otherLamp_squad_facts c_otherLamp_changes c_otherLamp_values c_otherLamp_bests c_otherLamp_rowTenths c_otherLamp_hitValues c_otherLamp_missValues p1 p2) (e2 : (r2, u2) = f_X5_doubled d_seconds d_lead d_ball d_rebound d_law d_draw d_players d_side d_kind d_near d_far d_free d_refusals d_guard d_worth p1 p2) : r1 = r2 ∧ Rel c_isKept c_numbersSize c_now_told c_now_squad_size c_now_squad_facts c_kept_told c_kept_squad_size c_kept_squad_facts c_letters_size c_letters_signs c_numbers u1.1 c_lamp_reboundTenths c_lamp_lawInForce c_lamp_drawTenths c_lamp_solvedRows c_lamp_squad_size c_lamp_squad_facts c_lamp_changes c_lamp_values c_lamp_bests d_seconds d_lead d_ball d_rebound d_law d_draw d_players d_letters d_inRow d_imaged d_fouls d_calls d_side d_kind d_near d_far d_free d_letter d_row u2.1 d_image u2.2.1 := by
  obtain ⟨hS, hP, hr, hlw, hd⟩ := r_rng hR
  obtain ⟨t0, t1, t2, t3, t4, t5, t6, t7, t8, t9⟩ := r_told hR
  rcases p_pair hR p1 p2 with ⟨q, r, rfl, rfl, o1, o2⟩ | ⟨o1, o2⟩ | ⟨o1, o2⟩
  · obtain ⟨C1, s1, z1⟩ := p_start c_otherLamp_reboundTenths c_otherLamp_lawInForce c_otherLamp_drawTenths c_otherLamp_solvedRows c_otherLamp_squad_size c_otherLamp_squad_facts c_otherLamp_changes c_now_told c_now_squad_size c_now_squad_facts
    rw [t7, t8, t9] at s1
    have hL := p_LRg (p_LRg (p_LRs hR c_otherLamp_squad_facts C1 z1) q (c := 2) (g := 1) (Or.inr (Or.inr (Or.inl ⟨rfl, rfl⟩)))) r (c := 3) (g := 2) (Or.inr (Or.inr (Or.inr ⟨rfl, rfl⟩)))
    obtain ⟨n1, V1, B1, rT1, hv1, mv1, g1, x1⟩ := p_nowO (reb := d_rebound) (law := d_law) (draw := d_draw) hL hr hd hS t0 t1 t2 c_otherLamp_values c_otherLamp_bests c_otherLamp_rowTenths c_otherLamp_hitValues c_otherLamp_missValues d_worth
    have sd : f_X4_startDouble c_now_told c_now_squad_size c_now_squad_facts c_otherLamp_reboundTenths c_otherLamp_lawInForce c_otherLamp_drawTenths c_otherLamp_solvedRows c_otherLamp_squad_size c_otherLamp_squad_facts c_otherLamp_changes (Int32.ofNat q) (Int32.ofNat r) = (d_rebound, d_law, d_draw, 0, c_now_squad_size, g_cpy c_now_squad_facts c_otherLamp_squad_facts 30, upd (upd C1 q 2) r 3) := by
      unfold f_X4_startDouble
      rw [p_lt, s1, p_lt, p_chg2, p_lt, p_chg2]
    unfold f_X4_doubled at e1
    rw [p_lt, if_pos o1, p_lt, sd, g1, p_lt2] at e1
    unfold f_X5_doubled f_X5_guardedNow f_X5_now at e2
    rw [p_lt, o2, if_pos (by decide), p_nat6, p_nat6, p_lt, p_lt, p_lt2, p_lt2, p_lt] at e2
    obtain ⟨rfl, rfl⟩ := Prod.mk.inj e1
    obtain ⟨rfl, rfl⟩ := Prod.mk.inj e2
    exact ⟨by dsimp only, r_gd hR (r_ref hR) (p_as _)⟩
  · obtain ⟨U, U', q1, q2, q3⟩ := p_no (r_ref hR) (x := -Int32.ofNat (1 : Fin 7)) 1 (by decide) rfl
    unfold f_X4_doubled at e1
    rw [p_lt, o1, if_neg (by decide), q1, p_lt2] at e1
    unfold f_X5_doubled at e2
    rw [p_lt, o2, if_neg (by decide), q2, p_lt2] at e2
    obtain ⟨rfl, rfl⟩ := Prod.mk.inj e1
    obtain ⟨rfl, rfl⟩ := Prod.mk.inj e2
    exact ⟨rfl, r_up hR q3 (r_sol hR)⟩
  · obtain ⟨U, U', q1, q2, q3⟩ := p_no (r_ref hR) (x := -Int32.ofNat (3 : Fin 7)) 3 (by decide) rfl
    unfold f_X4_doubled at e1
    rw [p_lt, o1, if_neg (by decide), q1, p_lt2] at e1
    unfold f_X5_doubled at e2
    rw [p_lt, o2, if_neg (by decide), q2, p_lt2] at e2
    obtain ⟨rfl, rfl⟩ := Prod.mk.inj e1
    obtain ⟨rfl, rfl⟩ := Prod.mk.inj e2
    exact ⟨rfl, r_up hR q3 (r_sol hR)⟩
set_option maxRecDepth 100000 in
set_option maxHeartbeats 1000000 in
theorem eq_howGood {c_isKept : Int32} {c_numbersSize : Int32} {c_now_told : Nat → Int32} {c_now_squad_size : Int32} {c_now_squad_facts : Nat → Int32} {c_kept_told : Nat → Int32} {c_kept_squad_size : Int32} {c_kept_squad_facts : Nat → Int32} {c_letters_size : Int32} {c_letters_signs : Nat → Int32} {c_numbers : Nat → Int32} {c_refusals : Nat → Int32} {c_lamp_reboundTenths : Int32} {c_lamp_lawInForce : Int32} {c_lamp_drawTenths : Int32} {c_lamp_solvedRows : Int32} {c_lamp_squad_size : Int32} {c_lamp_squad_facts : Nat → Int32} {c_lamp_changes : Nat → Int32} {c_lamp_values : Nat → Int32} {c_lamp_bests : Nat → Int32} {d_seconds : Int32} {d_lead : Int32} {d_ball : Int32} {d_rebound : Int32} {d_law : Int32} {d_draw : Int32} {d_players : Int32} {d_letters : Int32} {d_inRow : Int32} {d_imaged : Int32} {d_fouls : Nat → Int32} {d_calls : Nat → Int32} {d_side : Nat → Int32} {d_kind : Nat → Int32} {d_near : Nat → Int32} {d_far : Nat → Int32} {d_free : Nat → Int32} {d_letter : Nat → Int32} {d_row : Nat → Int32} {d_refusals : Nat → Int32} {d_image : Nat → Int32} {d_guard : Nat → Int32} {c_lamp_rowTenths : Nat → Int32} {c_lamp_hitValues : Nat → Int32} {c_lamp_missValues : Nat → Int32} {c_otherLamp_reboundTenths : Int32} {c_otherLamp_lawInForce : Int32} {c_otherLamp_drawTenths : Int32} {c_otherLamp_solvedRows : Int32} {c_otherLamp_squad_size : Int32} {c_otherLamp_squad_facts : Nat → Int32} {c_otherLamp_changes : Nat → Int32} {c_otherLamp_values : Nat → Int32} {c_otherLamp_bests : Nat → Int32} {c_otherLamp_rowTenths : Nat → Int32} {c_otherLamp_hitValues : Nat → Int32} {c_otherLamp_missValues : Nat → Int32} {d_worth : Nat → Int32} {p1 : Int32} {p2 : Int32} {r1 r2 : Int32} {u1 : (Nat → Int32) × (Int32) × (Nat → Int32) × (Nat → Int32) × (Nat → Int32) × (Nat → Int32) × (Nat → Int32) × (Int32) × (Int32) × (Int32) × (Int32) × (Int32) × (Nat → Int32) × (Nat → Int32) × (Nat → Int32) × (Nat → Int32) × (Nat → Int32) × (Nat → Int32) × (Nat → Int32)} {u2 : (Nat → Int32) × (Nat → Int32) × (Nat → Int32) × (Nat → Int32)}  (hR : Rel c_isKept c_numbersSize c_now_told c_now_squad_size c_now_squad_facts c_kept_told c_kept_squad_size c_kept_squad_facts c_letters_size c_letters_signs c_numbers c_refusals c_lamp_reboundTenths c_lamp_lawInForce c_lamp_drawTenths c_lamp_solvedRows c_lamp_squad_size c_lamp_squad_facts c_lamp_changes c_lamp_values c_lamp_bests d_seconds d_lead d_ball d_rebound d_law d_draw d_players d_letters d_inRow d_imaged d_fouls d_calls d_side d_kind d_near d_far d_free d_letter d_row d_refusals d_image d_guard) (e1 : (r1, u1) = f_X4_howGood c_now_told c_now_squad_size c_now_squad_facts c_refusals c_lamp_reboundTenths c_lamp_lawInForce c_lamp_drawTenths c_lamp_solvedRows c_lamp_squad_size c_lamp_squad_facts c_lamp_changes c_lamp_values c_lamp_bests c_lamp_rowTenths c_lamp_hitValues c_lamp_missValues c_otherLamp_reboundTenths c_otherLamp_lawInForce c_otherLamp_drawTenths c_otherLamp_solvedRows c_otherLamp_squad_size c_otherLamp_squad_facts c_otherLamp_changes c_otherLamp_values c_otherLamp_bests c_otherLamp_rowTenths c_otherLamp_hitValues c_otherLamp_missValues p1 p2) (e2 : (r2, u2) = f_X5_howGood d_seconds d_lead d_ball d_rebound d_law d_draw d_players d_side d_kind d_near d_far d_free d_refusals d_guard d_worth p1 p2) : r1 = r2 ∧ Rel c_isKept c_numbersSize c_now_told c_now_squad_size c_now_squad_facts c_kept_told c_kept_squad_size c_kept_squad_facts c_letters_size c_letters_signs c_numbers u1.1 c_lamp_reboundTenths c_lamp_lawInForce c_lamp_drawTenths u1.2.1 c_lamp_squad_size c_lamp_squad_facts c_lamp_changes u1.2.2.1 u1.2.2.2.1 d_seconds d_lead d_ball d_rebound d_law d_draw d_players d_letters d_inRow d_imaged d_fouls d_calls d_side d_kind u2.1 d_far d_free d_letter d_row u2.2.1 d_image u2.2.2.1 := by
  obtain ⟨hS, hP, hr, hlw, hd⟩ := r_rng hR
  obtain ⟨t0, t1, t2, t3, t4, t5, t6, t7, t8, t9⟩ := r_told hR
  rcases p_pair hR p1 p2 with ⟨q, r, rfl, rfl, o1, o2⟩ | ⟨o1, o2⟩ | ⟨o1, o2⟩
  · obtain ⟨n', V', B', rT, hv, mv, g1, g2, g3⟩ := p_nowC hR c_lamp_rowTenths c_lamp_hitValues c_lamp_missValues d_worth
    have hU := r_up hR (r_ref hR) g2
    obtain ⟨b, z, N', G', W', q4, q5, q6, q7⟩ := p_goodL hU q r 0 0 (f_X5_valueOf (f_X5_solve d_rebound d_law d_draw d_players d_side d_kind d_near d_far d_free d_guard d_worth) d_seconds d_lead d_ball) (d_near q.val) n' c_refusals d_refusals V' B' rT hv mv 10 0 c_otherLamp_reboundTenths c_otherLamp_lawInForce c_otherLamp_drawTenths c_otherLamp_solvedRows c_otherLamp_squad_size c_otherLamp_squad_facts c_otherLamp_changes c_otherLamp_values c_otherLamp_bests c_otherLamp_rowTenths c_otherLamp_hitValues c_otherLamp_missValues d_near d_guard (f_X5_solve d_rebound d_law d_draw d_players d_side d_kind d_near d_far d_free d_guard d_worth) (by omega) (fun k hk => rfl) hR.2.2.2.2.2.2.1
    have hN : upd N' q.val (d_near q.val) = d_near := by
      funext k
      by_cases e : k = q.val
      · rw [e, p_upd_same]
      · rw [p_upd_ne _ _ e]; exact q6 k e
    rw [hN] at q5
    unfold f_X4_howGood at e1
    rw [p_lt, if_pos o1, o1, g1, p_lt2, (by decide : ((9 : Int32).toInt - (0 : Int32).toInt + 1).toNat + 1 = 11)] at e1
    unfold f_X5_howGood f_X5_now at e2
    rw [p_lt, o2, if_pos (by decide), p_lt, p_lt, p_lt2, p_nat6, (by decide : ((10 : Int32).toInt - (0 : Int32).toInt).toNat + 1 = 11)] at e2
    have e1' := e1.trans q4
    have e2' := e2.trans q5
    obtain ⟨rfl, rfl⟩ := Prod.mk.inj e1'
    obtain ⟨rfl, rfl⟩ := Prod.mk.inj e2'
    exact ⟨rfl, r_gd hU (r_ref hR) q7⟩
  · obtain ⟨U, U', q1, q2, q3⟩ := p_no (r_ref hR) (x := -Int32.ofNat (1 : Fin 7)) 1 (by decide) rfl
    unfold f_X4_howGood at e1
    rw [p_lt, o1, if_neg (by decide), q1, p_lt2] at e1
    unfold f_X5_howGood at e2
    rw [p_lt, o2, if_neg (by decide), q2, p_lt2] at e2
    obtain ⟨rfl, rfl⟩ := Prod.mk.inj e1
    obtain ⟨rfl, rfl⟩ := Prod.mk.inj e2
    exact ⟨rfl, r_up hR q3 (r_sol hR)⟩
  · obtain ⟨U, U', q1, q2, q3⟩ := p_no (r_ref hR) (x := -Int32.ofNat (3 : Fin 7)) 3 (by decide) rfl
    unfold f_X4_howGood at e1
    rw [p_lt, o1, if_neg (by decide), q1, p_lt2] at e1
    unfold f_X5_howGood at e2
    rw [p_lt, o2, if_neg (by decide), q2, p_lt2] at e2
    obtain ⟨rfl, rfl⟩ := Prod.mk.inj e1
    obtain ⟨rfl, rfl⟩ := Prod.mk.inj e2
    exact ⟨rfl, r_up hR q3 (r_sol hR)⟩
set_option maxRecDepth 100000 in
set_option maxHeartbeats 1000000 in
theorem eq_call {c_isKept : Int32} {c_numbersSize : Int32} {c_now_told : Nat → Int32} {c_now_squad_size : Int32} {c_now_squad_facts : Nat → Int32} {c_kept_told : Nat → Int32} {c_kept_squad_size : Int32} {c_kept_squad_facts : Nat → Int32} {c_letters_size : Int32} {c_letters_signs : Nat → Int32} {c_numbers : Nat → Int32} {c_refusals : Nat → Int32} {c_lamp_reboundTenths : Int32} {c_lamp_lawInForce : Int32} {c_lamp_drawTenths : Int32} {c_lamp_solvedRows : Int32} {c_lamp_squad_size : Int32} {c_lamp_squad_facts : Nat → Int32} {c_lamp_changes : Nat → Int32} {c_lamp_values : Nat → Int32} {c_lamp_bests : Nat → Int32} {d_seconds : Int32} {d_lead : Int32} {d_ball : Int32} {d_rebound : Int32} {d_law : Int32} {d_draw : Int32} {d_players : Int32} {d_letters : Int32} {d_inRow : Int32} {d_imaged : Int32} {d_fouls : Nat → Int32} {d_calls : Nat → Int32} {d_side : Nat → Int32} {d_kind : Nat → Int32} {d_near : Nat → Int32} {d_far : Nat → Int32} {d_free : Nat → Int32} {d_letter : Nat → Int32} {d_row : Nat → Int32} {d_refusals : Nat → Int32} {d_image : Nat → Int32} {d_guard : Nat → Int32} {c_lamp_rowTenths : Nat → Int32} {c_lamp_hitValues : Nat → Int32} {c_lamp_missValues : Nat → Int32} {c_otherLamp_reboundTenths : Int32} {c_otherLamp_lawInForce : Int32} {c_otherLamp_drawTenths : Int32} {c_otherLamp_solvedRows : Int32} {c_otherLamp_squad_size : Int32} {c_otherLamp_squad_facts : Nat → Int32} {c_otherLamp_changes : Nat → Int32} {c_otherLamp_values : Nat → Int32} {c_otherLamp_bests : Nat → Int32} {c_otherLamp_rowTenths : Nat → Int32} {c_otherLamp_hitValues : Nat → Int32} {c_otherLamp_missValues : Nat → Int32} {d_worth : Nat → Int32}  {r1 r2 : Int32} {u1 : (Nat → Int32) × (Int32) × (Nat → Int32) × (Nat → Int32) × (Nat → Int32) × (Nat → Int32) × (Nat → Int32) × (Int32) × (Int32) × (Int32) × (Int32) × (Int32) × (Nat → Int32) × (Nat → Int32) × (Nat → Int32) × (Nat → Int32) × (Nat → Int32) × (Nat → Int32) × (Nat → Int32)} {u2 : (Nat → Int32) × (Nat → Int32) × (Nat → Int32)}  (hR : Rel c_isKept c_numbersSize c_now_told c_now_squad_size c_now_squad_facts c_kept_told c_kept_squad_size c_kept_squad_facts c_letters_size c_letters_signs c_numbers c_refusals c_lamp_reboundTenths c_lamp_lawInForce c_lamp_drawTenths c_lamp_solvedRows c_lamp_squad_size c_lamp_squad_facts c_lamp_changes c_lamp_values c_lamp_bests d_seconds d_lead d_ball d_rebound d_law d_draw d_players d_letters d_inRow d_imaged d_fouls d_calls d_side d_kind d_near d_far d_free d_letter d_row d_refusals d_image d_guard) (e1 : (r1, u1) = f_X4_call c_now_told c_now_squad_size c_now_squad_facts c_refusals c_lamp_reboundTenths c_lamp_lawInForce c_lamp_drawTenths c_lamp_solvedRows c_lamp_squad_size c_lamp_squad_facts c_lamp_changes c_lamp_values c_lamp_bests c_lamp_rowTenths c_lamp_hitValues c_lamp_missValues c_otherLamp_reboundTenths c_otherLamp_lawInForce c_otherLamp_drawTenths c_otherLamp_solvedRows c_otherLamp_squad_size c_otherLamp_squad_facts c_otherLamp_changes c_otherLamp_values c_otherLamp_bests c_otherLamp_rowTenths c_otherLamp_hitValues c_otherLamp_missValues) (e2 : (r2, u2) = f_X5_call d_seconds d_lead d_ball d_rebound d_law d_draw d_players d_calls d_side d_kind d_near d_far d_free d_refusals d_guard d_worth) : r1 = r2 ∧ Rel c_isKept c_numbersSize c_now_told c_now_squad_size c_now_squad_facts c_kept_told c_kept_squad_size c_kept_squad_facts c_letters_size c_letters_signs c_numbers u1.1 c_lamp_reboundTenths c_lamp_lawInForce c_lamp_drawTenths u1.2.1 c_lamp_squad_size c_lamp_squad_facts c_lamp_changes u1.2.2.1 u1.2.2.2.1 d_seconds d_lead d_ball d_rebound d_law d_draw d_players d_letters d_inRow d_imaged d_fouls d_calls d_side d_kind d_near d_far d_free d_letter d_row u2.1 d_image u2.2.1 := by
  obtain ⟨hS, hP, hr, hlw, hd⟩ := r_rng hR
  obtain ⟨t0, t1, t2, t3, t4, t5, t6, t7, t8, t9⟩ := r_told hR
  obtain ⟨k0, k1, k2, k3, k4, k5, -⟩ := p_t0 c_now_told
  have z0 : (0 : Int32).toNatClampNeg = 0 := by decide
  by_cases hc : d_calls 0 = 0
  · obtain ⟨U, U', q1, q2, q3⟩ := p_no (r_ref hR) (x := -3) 3 (by decide) (by decide)
    unfold f_X4_call at e1
    rw [p_lt, k5, t5, if_pos hc, show f_X4_refusedFarAbove c_refusals (-3) = (2000000000 - (-3), U) by unfold f_X4_refusedFarAbove; rw [q1, p_lt2], p_lt2] at e1
    unfold f_X5_call at e2
    rw [z0, if_pos hc, show f_X5_noFar d_refusals (-3) = (2000000000 - (-3), U') by unfold f_X5_noFar; rw [q2, p_lt2], p_lt2] at e2
    obtain ⟨rfl, rfl⟩ := Prod.mk.inj e1
    obtain ⟨rfl, rfl⟩ := Prod.mk.inj e2
    exact ⟨rfl, r_up hR q3 (r_sol hR)⟩
  rcases pe_b hS.2.2 with hb | hb
  · obtain ⟨C1, s1, z1⟩ := p_start c_otherLamp_reboundTenths c_otherLamp_lawInForce c_otherLamp_drawTenths c_otherLamp_solvedRows c_otherLamp_squad_size c_otherLamp_squad_facts c_otherLamp_changes c_now_told c_now_squad_size c_now_squad_facts
    rw [t7, t8, t9] at s1
    obtain ⟨n', V', B', rT, hv, mv, g1, g2, g3⟩ := p_nowC hR c_lamp_rowTenths c_lamp_hitValues c_lamp_missValues d_worth
    have hL0 := p_LRs hR c_otherLamp_squad_facts C1 z1
    obtain ⟨m', hm'⟩ := pe_nat 6 hP.1 hP.2 (by decide)
    have hm6 : m'.val ≤ 6 := by have := m'.isLt; omega
    have hsz := (r_sq hR).1
    have hL1 := hL0
    rw [hsz, hm'] at hL1
    obtain ⟨C2, G2, u1', u2', hL2⟩ := p_raise m'.val hm6 (f_X5_valueOf (f_X5_solve d_rebound d_law d_draw d_players d_side d_kind d_near d_far d_free d_guard d_worth) d_seconds d_lead d_ball) d_seconds d_lead d_ball d_rebound d_law d_draw d_calls d_refusals (f_X5_solve d_rebound d_law d_draw d_players d_side d_kind d_near d_far d_free d_guard d_worth)
      (fun v2_31 c_guard_31 => g_lt2 (f_X5_now d_seconds d_lead d_ball d_rebound d_law d_draw d_players d_side d_kind d_near d_far d_free c_guard_31 (f_X5_solve d_rebound d_law d_draw d_players d_side d_kind d_near d_far d_free d_guard d_worth)) (fun r62 u62 => g_lt (f_X5_asTold c_guard_31) (fun u67 => (r62 - (f_X5_valueOf (f_X5_solve d_rebound d_law d_draw d_players d_side d_kind d_near d_far d_free d_guard d_worth) d_seconds d_lead d_ball), d_refusals, u67, u62))))
      m'.val 0 C1 d_guard (by omega) hL1
    rw [← hm'] at u1' u2' hL2
    rw [show Int32.ofNat 0 = (0 : Int32) from rfl] at u1' u2'
    have hL3 : p_LR c_now_squad_size (g_cpy c_now_squad_facts c_otherLamp_squad_facts 30) C2 d_players d_side d_kind d_near d_far d_free G2 := by rw [hsz]; exact hL2
    obtain ⟨n1, V1, B1, rT1, hv1, mv1, g4, x1⟩ := p_nowO (reb := d_rebound) (law := d_law) (draw := d_draw) hL3 hr hd hS t0 t1 t2 c_otherLamp_values c_otherLamp_bests c_otherLamp_rowTenths c_otherLamp_hitValues c_otherLamp_missValues (f_X5_solve d_rebound d_law d_draw d_players d_side d_kind d_near d_far d_free d_guard d_worth)
    have ra : f_X1_raiseAll c_now_squad_size (g_cpy c_now_squad_facts c_otherLamp_squad_facts 30) C1 0 = C2 := by
      unfold f_X1_raiseAll
      rw [hsz, show ((d_players).toInt - (0 : Int32).toInt).toNat + 1 = m'.val + 1 by rw [hm']; exact p_fu m'.val hm6]
      exact u1'
    unfold f_X4_call at e1
    rw [p_lt, k5, t5, if_neg hc, p_lt, k2, t2, if_pos hb, p_lt, s1, p_lt, ra, g4, p_lt2, g1, p_lt2] at e1
    unfold f_X5_call at e2
    rw [z0, if_neg hc, if_neg (by rw [hb]; decide), show f_X5_now d_seconds d_lead d_ball d_rebound d_law d_draw d_players d_side d_kind d_near d_far d_free d_guard d_worth = (f_X5_valueOf (f_X5_solve d_rebound d_law d_draw d_players d_side d_kind d_near d_far d_free d_guard d_worth) d_seconds d_lead d_ball, f_X5_solve d_rebound d_law d_draw d_players d_side d_kind d_near d_far d_free d_guard d_worth) by unfold f_X5_now; rw [p_lt, p_lt], p_lt2, show ((d_players).toInt - (0 : Int32).toInt).toNat + 1 = m'.val + 1 by rw [hm']; exact p_fu m'.val hm6] at e2
    dsimp only at e2
    rw [u2'] at e2
    have e2' := e2
    rw [show f_X5_now d_seconds d_lead d_ball d_rebound d_law d_draw d_players d_side d_kind d_near d_far d_free G2 (f_X5_solve d_rebound d_law d_draw d_players d_side d_kind d_near d_far d_free d_guard d_worth) = (f_X5_valueOf (f_X5_solve d_rebound d_law d_draw d_players d_side d_kind d_near d_far d_free G2 (f_X5_solve d_rebound d_law d_draw d_players d_side d_kind d_near d_far d_free d_guard d_worth)) d_seconds d_lead d_ball, f_X5_solve d_rebound d_law d_draw d_players d_side d_kind d_near d_far d_free G2 (f_X5_solve d_rebound d_law d_draw d_players d_side d_kind d_near d_far d_free d_guard d_worth)) by unfold f_X5_now; rw [p_lt, p_lt], p_lt2, p_lt] at e2'
    obtain ⟨rfl, rfl⟩ := Prod.mk.inj e1
    obtain ⟨rfl, rfl⟩ := Prod.mk.inj e2'
    have hN := r_gd (r_up hR (r_ref hR) g2) (r_ref hR) (p_as G2)
    refine ⟨?_, ?_⟩
    · dsimp only
    · exact hN
  · obtain ⟨U, U', q1, q2, q3⟩ := p_no (r_ref hR) (x := -3) 3 (by decide) (by decide)
    unfold f_X4_call at e1
    rw [p_lt, k5, t5, if_neg hc, p_lt, k2, t2, if_neg (by rw [hb]; decide), show f_X4_refusedFarAbove c_refusals (-3) = (2000000000 - (-3), U) by unfold f_X4_refusedFarAbove; rw [q1, p_lt2], p_lt2] at e1
    unfold f_X5_call at e2
    rw [z0, if_neg hc, if_pos hb, show f_X5_noFar d_refusals (-3) = (2000000000 - (-3), U') by unfold f_X5_noFar; rw [q2, p_lt2], p_lt2] at e2
    obtain ⟨rfl, rfl⟩ := Prod.mk.inj e1
    obtain ⟨rfl, rfl⟩ := Prod.mk.inj e2
    exact ⟨rfl, r_up hR q3 (r_sol hR)⟩
set_option maxRecDepth 100000 in
set_option maxHeartbeats 1000000 in
theorem eq_on {c_isKept : Int32} {c_numbersSize : Int32} {c_now_told : Nat → Int32} {c_now_squad_size : Int32} {c_now_squad_facts : Nat → Int32} {c_kept_told : Nat → Int32} {c_kept_squad_size : Int32} {c_kept_squad_facts : Nat → Int32} {c_letters_size : Int32} {c_letters_signs : Nat → Int32} {c_numbers : Nat → Int32} {c_refusals : Nat → Int32} {c_lamp_reboundTenths : Int32} {c_lamp_lawInForce : Int32} {c_lamp_drawTenths : Int32} {c_lamp_solvedRows : Int32} {c_lamp_squad_size : Int32} {c_lamp_squad_facts : Nat → Int32} {c_lamp_changes : Nat → Int32} {c_lamp_values : Nat → Int32} {c_lamp_bests : Nat → Int32} {d_seconds : Int32} {d_lead : Int32} {d_ball : Int32} {d_rebound : Int32} {d_law : Int32} {d_draw : Int32} {d_players : Int32} {d_letters : Int32} {d_inRow : Int32} {d_imaged : Int32} {d_fouls : Nat → Int32} {d_calls : Nat → Int32} {d_side : Nat → Int32} {d_kind : Nat → Int32} {d_near : Nat → Int32} {d_far : Nat → Int32} {d_free : Nat → Int32} {d_letter : Nat → Int32} {d_row : Nat → Int32} {d_refusals : Nat → Int32} {d_image : Nat → Int32} {d_guard : Nat → Int32} {c_otherLamp_reboundTenths : Int32} {c_otherLamp_lawInForce : Int32} {c_otherLamp_drawTenths : Int32} {c_otherLamp_solvedRows : Int32} {c_otherLamp_squad_size : Int32} {c_otherLamp_squad_facts : Nat → Int32} {c_otherLamp_changes : Nat → Int32} {c_otherLamp_values : Nat → Int32} {c_otherLamp_bests : Nat → Int32} {c_otherLamp_rowTenths : Nat → Int32} {c_otherLamp_hitValues : Nat → Int32} {c_otherLamp_missValues : Nat → Int32} {d_worth : Nat → Int32}  {r1 r2 : Int32} {u1 : (Int32) × (Int32) × (Int32) × (Int32) × (Int32) × (Nat → Int32) × (Nat → Int32) × (Nat → Int32) × (Nat → Int32) × (Nat → Int32) × (Nat → Int32) × (Nat → Int32)} {u2 : (Nat → Int32) × (Nat → Int32)}  (hR : Rel c_isKept c_numbersSize c_now_told c_now_squad_size c_now_squad_facts c_kept_told c_kept_squad_size c_kept_squad_facts c_letters_size c_letters_signs c_numbers c_refusals c_lamp_reboundTenths c_lamp_lawInForce c_lamp_drawTenths c_lamp_solvedRows c_lamp_squad_size c_lamp_squad_facts c_lamp_changes c_lamp_values c_lamp_bests d_seconds d_lead d_ball d_rebound d_law d_draw d_players d_letters d_inRow d_imaged d_fouls d_calls d_side d_kind d_near d_far d_free d_letter d_row d_refusals d_image d_guard) (e1 : (r1, u1) = f_X4_on c_now_told c_now_squad_size c_now_squad_facts c_otherLamp_reboundTenths c_otherLamp_lawInForce c_otherLamp_drawTenths c_otherLamp_solvedRows c_otherLamp_squad_size c_otherLamp_squad_facts c_otherLamp_changes c_otherLamp_values c_otherLamp_bests c_otherLamp_rowTenths c_otherLamp_hitValues c_otherLamp_missValues) (e2 : (r2, u2) = f_X5_on d_seconds d_lead d_ball d_rebound d_law d_draw d_players d_side d_kind d_near d_far d_free d_guard d_worth) : r1 = r2 ∧ Rel c_isKept c_numbersSize c_now_told c_now_squad_size c_now_squad_facts c_kept_told c_kept_squad_size c_kept_squad_facts c_letters_size c_letters_signs c_numbers c_refusals c_lamp_reboundTenths c_lamp_lawInForce c_lamp_drawTenths c_lamp_solvedRows c_lamp_squad_size c_lamp_squad_facts c_lamp_changes c_lamp_values c_lamp_bests d_seconds d_lead d_ball d_rebound d_law d_draw d_players d_letters d_inRow d_imaged d_fouls d_calls d_side d_kind d_near d_far d_free d_letter d_row d_refusals d_image u2.1 := by
  obtain ⟨hS, hP, hr, hlw, hd⟩ := r_rng hR
  obtain ⟨t0, t1, t2, t3, t4, t5, t6, t7, t8, t9⟩ := r_told hR
  obtain ⟨m', hm'⟩ := pe_nat 6 hP.1 hP.2 (by decide)
  have hm6 : m'.val ≤ 6 := by have := m'.isLt; omega
  obtain ⟨hsz, hp⟩ := r_sq hR
  have fz : ((c_now_squad_size).toInt - (0 : Int32).toInt).toNat + 1 = m'.val + 1 := by rw [hsz, hm']; exact p_fu m'.val hm6
  have fp : ((d_players).toInt - (0 : Int32).toInt).toNat + 1 = m'.val + 1 := by rw [hm']; exact p_fu m'.val hm6
  have hou := p_ours hsz hP hp
  by_cases h2 : 2 ≤ f_X5_ours d_players d_side
  · obtain ⟨b, b', u, G', W', q4, q5, q6, q7⟩ := p_onL hR m'.val hm6 hm' m'.val 0 (-9) (-1) 0 (-1) c_otherLamp_reboundTenths c_otherLamp_lawInForce c_otherLamp_drawTenths c_otherLamp_solvedRows c_otherLamp_squad_size c_otherLamp_squad_facts c_otherLamp_changes c_otherLamp_values c_otherLamp_bests c_otherLamp_rowTenths c_otherLamp_hitValues c_otherLamp_missValues d_guard d_worth (by omega) (Or.inl ⟨rfl, rfl, fun q hq => absurd hq (by omega)⟩) hR.2.2.2.2.2.2.1
    unfold f_X4_on at e1
    rw [p_lt, hou, if_pos h2, fz] at e1
    unfold f_X5_on at e2
    rw [p_lt, if_pos h2, fp] at e2
    have e1' := e1.trans q4
    have e2' := e2.trans q5
    obtain ⟨rfl, rfl⟩ := Prod.mk.inj e1'
    obtain ⟨rfl, rfl⟩ := Prod.mk.inj e2'
    refine ⟨?_, r_gd hR (r_ref hR) q6⟩
    rcases q7 with z | z
    · have := p_ours0 m'.val hm6 d_side z
      rw [hm', this] at h2
      exact absurd h2 (by decide)
    · exact z
  · unfold f_X4_on at e1
    rw [p_lt, hou, if_neg h2] at e1
    unfold f_X5_on at e2
    rw [p_lt, if_neg h2] at e2
    obtain ⟨rfl, rfl⟩ := Prod.mk.inj e1
    obtain ⟨rfl, rfl⟩ := Prod.mk.inj e2
    exact ⟨rfl, hR⟩
set_option maxRecDepth 100000 in
set_option maxHeartbeats 1000000 in
theorem eq_byLaw {c_isKept : Int32} {c_numbersSize : Int32} {c_now_told : Nat → Int32} {c_now_squad_size : Int32} {c_now_squad_facts : Nat → Int32} {c_kept_told : Nat → Int32} {c_kept_squad_size : Int32} {c_kept_squad_facts : Nat → Int32} {c_letters_size : Int32} {c_letters_signs : Nat → Int32} {c_numbers : Nat → Int32} {c_refusals : Nat → Int32} {c_lamp_reboundTenths : Int32} {c_lamp_lawInForce : Int32} {c_lamp_drawTenths : Int32} {c_lamp_solvedRows : Int32} {c_lamp_squad_size : Int32} {c_lamp_squad_facts : Nat → Int32} {c_lamp_changes : Nat → Int32} {c_lamp_values : Nat → Int32} {c_lamp_bests : Nat → Int32} {d_seconds : Int32} {d_lead : Int32} {d_ball : Int32} {d_rebound : Int32} {d_law : Int32} {d_draw : Int32} {d_players : Int32} {d_letters : Int32} {d_inRow : Int32} {d_imaged : Int32} {d_fouls : Nat → Int32} {d_calls : Nat → Int32} {d_side : Nat → Int32} {d_kind : Nat → Int32} {d_near : Nat → Int32} {d_far : Nat → Int32} {d_free : Nat → Int32} {d_letter : Nat → Int32} {d_row : Nat → Int32} {d_refusals : Nat → Int32} {d_image : Nat → Int32} {d_guard : Nat → Int32} {c_otherLamp_reboundTenths : Int32} {c_otherLamp_lawInForce : Int32} {c_otherLamp_drawTenths : Int32} {c_otherLamp_solvedRows : Int32} {c_otherLamp_squad_size : Int32} {c_otherLamp_squad_facts : Nat → Int32} {c_otherLamp_changes : Nat → Int32} {c_otherLamp_values : Nat → Int32} {c_otherLamp_bests : Nat → Int32} {c_otherLamp_rowTenths : Nat → Int32} {c_otherLamp_hitValues : Nat → Int32} {c_otherLamp_missValues : Nat → Int32} {d_worth : Nat → Int32} {p1 : Int32} {r1 r2 : Int32} {u1 : (Nat → Int32) × (Int32) × (Int32) × (Int32) × (Int32) × (Int32) × (Nat → Int32) × (Nat → Int32) × (Nat → Int32) × (Nat → Int32) × (Nat → Int32) × (Nat → Int32) × (Nat → Int32)} {u2 : (Int32) × (Nat → Int32) × (Nat → Int32)}  (hR : Rel c_isKept c_numbersSize c_now_told c_now_squad_size c_now_squad_facts c_kept_told c_kept_squad_size c_kept_squad_facts c_letters_size c_letters_signs c_numbers c_refusals c_lamp_reboundTenths c_lamp_lawInForce c_lamp_drawTenths c_lamp_solvedRows c_lamp_squad_size c_lamp_squad_facts c_lamp_changes c_lamp_values c_lamp_bests d_seconds d_lead d_ball d_rebound d_law d_draw d_players d_letters d_inRow d_imaged d_fouls d_calls d_side d_kind d_near d_far d_free d_letter d_row d_refusals d_image d_guard) (e1 : (r1, u1) = f_X4_byLaw c_now_told c_now_squad_size c_now_squad_facts c_refusals c_otherLamp_reboundTenths c_otherLamp_lawInForce c_otherLamp_drawTenths c_otherLamp_solvedRows c_otherLamp_squad_size c_otherLamp_squad_facts c_otherLamp_changes c_otherLamp_values c_otherLamp_bests c_otherLamp_rowTenths c_otherLamp_hitValues c_otherLamp_missValues p1) (e2 : (r2, u2) = f_X5_byLaw d_seconds d_lead d_ball d_rebound d_law d_draw d_players d_side d_kind d_near d_far d_free d_refusals d_guard d_worth p1) : r1 = r2 ∧ Rel c_isKept c_numbersSize c_now_told c_now_squad_size c_now_squad_facts c_kept_told c_kept_squad_size c_kept_squad_facts c_letters_size c_letters_signs c_numbers u1.1 c_lamp_reboundTenths c_lamp_lawInForce c_lamp_drawTenths c_lamp_solvedRows c_lamp_squad_size c_lamp_squad_facts c_lamp_changes c_lamp_values c_lamp_bests d_seconds d_lead d_ball d_rebound u2.1 d_draw d_players d_letters d_inRow d_imaged d_fouls d_calls d_side d_kind d_near d_far d_free d_letter d_row u2.2.1 d_image d_guard := by
  obtain ⟨hS, hP, hr, hlw, hd⟩ := r_rng hR
  obtain ⟨t0, t1, t2, t3, t4, t5, t6, t7, t8, t9⟩ := r_told hR
  by_cases w0 : p1 < 0
  · obtain ⟨U, U', q1, q2, q3⟩ := p_no (r_ref hR) (x := -2) 2 (by decide) (by decide)
    unfold f_X4_byLaw at e1
    rw [if_pos w0, q1, p_lt2] at e1
    unfold f_X5_byLaw at e2
    rw [p_lt, show f_X5_within p1 0 3 = 0 by unfold f_X5_within; rw [if_pos w0], if_pos rfl, q2, p_lt2] at e2
    obtain ⟨rfl, rfl⟩ := Prod.mk.inj e1
    obtain ⟨rfl, rfl⟩ := Prod.mk.inj e2
    exact ⟨rfl, r_up hR q3 (r_sol hR)⟩
  by_cases w3 : p1 < 4
  · have w4 : p1 ≤ 3 := by
      rw [Int32.lt_iff_toInt_lt, (by decide : (4 : Int32).toInt = 4)] at w3
      rw [Int32.le_iff_toInt_le, (by decide : (3 : Int32).toInt = 3)]; omega
    have wi : f_X5_within p1 0 3 = 1 := by unfold f_X5_within; rw [if_neg w0, if_neg (Int32.not_lt.2 w4)]
    obtain ⟨C1, s1, z1⟩ := p_start c_otherLamp_reboundTenths c_otherLamp_lawInForce c_otherLamp_drawTenths c_otherLamp_solvedRows c_otherLamp_squad_size c_otherLamp_squad_facts c_otherLamp_changes c_now_told c_now_squad_size c_now_squad_facts
    obtain ⟨n1, V1, B1, rT1, hv1, mv1, g1, x1⟩ := p_nowO (reb := d_rebound) (law := p1) (draw := d_draw) (p_LRs hR c_otherLamp_squad_facts C1 z1) hr hd hS t0 t1 t2 c_otherLamp_values c_otherLamp_bests c_otherLamp_rowTenths c_otherLamp_hitValues c_otherLamp_missValues d_worth
    have cL : ∀ x, f_X1_changeLaw x p1 = p1 := fun _ => rfl
    rw [t7, t8, t9] at s1
    unfold f_X4_byLaw at e1
    rw [if_neg w0, if_pos w3, p_lt, s1, p_lt, cL, g1, p_lt2] at e1
    unfold f_X5_byLaw f_X5_withLaw f_X5_now at e2
    rw [p_lt, wi, if_neg (by decide), p_lt, p_lt, p_lt2, p_lt2] at e2
    obtain ⟨rfl, rfl⟩ := Prod.mk.inj e1
    obtain ⟨rfl, rfl⟩ := Prod.mk.inj e2
    exact ⟨by dsimp only, hR⟩
  · have w4 : 3 < p1 := by
      rw [Int32.lt_iff_toInt_lt, (by decide : (4 : Int32).toInt = 4)] at w3
      rw [Int32.lt_iff_toInt_lt, (by decide : (3 : Int32).toInt = 3)]; omega
    obtain ⟨U, U', q1, q2, q3⟩ := p_no (r_ref hR) (x := -2) 2 (by decide) (by decide)
    unfold f_X4_byLaw at e1
    rw [if_neg w0, if_neg w3, q1, p_lt2] at e1
    unfold f_X5_byLaw at e2
    rw [p_lt, show f_X5_within p1 0 3 = 0 by unfold f_X5_within; rw [if_neg w0, if_pos w4], if_pos rfl, q2, p_lt2] at e2
    obtain ⟨rfl, rfl⟩ := Prod.mk.inj e1
    obtain ⟨rfl, rfl⟩ := Prod.mk.inj e2
    exact ⟨rfl, r_up hR q3 (r_sol hR)⟩
set_option maxRecDepth 100000 in
set_option maxHeartbeats 1000000 in
theorem eq_fairest {c_isKept : Int32} {c_numbersSize : Int32} {c_now_told : Nat → Int32} {c_now_squad_size : Int32} {c_now_squad_facts : Nat → Int32} {c_kept_told : Nat → Int32} {c_kept_squad_size : Int32} {c_kept_squad_facts : Nat → Int32} {c_letters_size : Int32} {c_letters_signs : Nat → Int32} {c_numbers : Nat → Int32} {c_refusals : Nat → Int32} {c_lamp_reboundTenths : Int32} {c_lamp_lawInForce : Int32} {c_lamp_drawTenths : Int32} {c_lamp_solvedRows : Int32} {c_lamp_squad_size : Int32} {c_lamp_squad_facts : Nat → Int32} {c_lamp_changes : Nat → Int32} {c_lamp_values : Nat → Int32} {c_lamp_bests : Nat → Int32} {d_seconds : Int32} {d_lead : Int32} {d_ball : Int32} {d_rebound : Int32} {d_law : Int32} {d_draw : Int32} {d_players : Int32} {d_letters : Int32} {d_inRow : Int32} {d_imaged : Int32} {d_fouls : Nat → Int32} {d_calls : Nat → Int32} {d_side : Nat → Int32} {d_kind : Nat → Int32} {d_near : Nat → Int32} {d_far : Nat → Int32} {d_free : Nat → Int32} {d_letter : Nat → Int32} {d_row : Nat → Int32} {d_refusals : Nat → Int32} {d_image : Nat → Int32} {d_guard : Nat → Int32} {c_otherLamp_reboundTenths : Int32} {c_otherLamp_lawInForce : Int32} {c_otherLamp_drawTenths : Int32} {c_otherLamp_solvedRows : Int32} {c_otherLamp_squad_size : Int32} {c_otherLamp_squad_facts : Nat → Int32} {c_otherLamp_changes : Nat → Int32} {c_otherLamp_values : Nat → Int32} {c_otherLamp_bests : Nat → Int32} {c_otherLamp_rowTenths : Nat → Int32} {c_otherLamp_hitValues : Nat → Int32} {c_otherLamp_missValues : Nat → Int32} {d_worth : Nat → Int32}  {r1 r2 : Int32} {u1 : (Int32) × (Int32) × (Int32) × (Int32) × (Int32) × (Nat → Int32) × (Nat → Int32) × (Nat → Int32) × (Nat → Int32) × (Nat → Int32) × (Nat → Int32) × (Nat → Int32)} {u2 : (Int32) × (Nat → Int32)}  (hR : Rel c_isKept c_numbersSize c_now_told c_now_squad_size c_now_squad_facts c_kept_told c_kept_squad_size c_kept_squad_facts c_letters_size c_letters_signs c_numbers c_refusals c_lamp_reboundTenths c_lamp_lawInForce c_lamp_drawTenths c_lamp_solvedRows c_lamp_squad_size c_lamp_squad_facts c_lamp_changes c_lamp_values c_lamp_bests d_seconds d_lead d_ball d_rebound d_law d_draw d_players d_letters d_inRow d_imaged d_fouls d_calls d_side d_kind d_near d_far d_free d_letter d_row d_refusals d_image d_guard) (e1 : (r1, u1) = f_X4_fairest c_now_told c_now_squad_size c_now_squad_facts c_otherLamp_reboundTenths c_otherLamp_lawInForce c_otherLamp_drawTenths c_otherLamp_solvedRows c_otherLamp_squad_size c_otherLamp_squad_facts c_otherLamp_changes c_otherLamp_values c_otherLamp_bests c_otherLamp_rowTenths c_otherLamp_hitValues c_otherLamp_missValues) (e2 : (r2, u2) = f_X5_fairest d_seconds d_lead d_ball d_rebound d_law d_draw d_players d_side d_kind d_near d_far d_free d_guard d_worth) : r1 = r2 ∧ Rel c_isKept c_numbersSize c_now_told c_now_squad_size c_now_squad_facts c_kept_told c_kept_squad_size c_kept_squad_facts c_letters_size c_letters_signs c_numbers c_refusals c_lamp_reboundTenths c_lamp_lawInForce c_lamp_drawTenths c_lamp_solvedRows c_lamp_squad_size c_lamp_squad_facts c_lamp_changes c_lamp_values c_lamp_bests d_seconds d_lead d_ball d_rebound u2.1 d_draw d_players d_letters d_inRow d_imaged d_fouls d_calls d_side d_kind d_near d_far d_free d_letter d_row d_refusals d_image d_guard := by
  obtain ⟨v, n1, C1, V1, B1, rT1, hv1, mv1, x1, s1, g1, w1⟩ := p_fair1 hR 0 (by decide) c_otherLamp_reboundTenths c_otherLamp_lawInForce c_otherLamp_drawTenths c_otherLamp_solvedRows c_otherLamp_squad_size c_otherLamp_squad_facts c_otherLamp_changes c_otherLamp_values c_otherLamp_bests c_otherLamp_rowTenths c_otherLamp_hitValues c_otherLamp_missValues d_worth
  have cL : ∀ y, f_X1_changeLaw y 0 = 0 := fun _ => rfl
  rw [show Int32.ofNat 0 = (0 : Int32) from rfl] at g1 w1
  unfold f_X4_fairest at e1
  rw [(by decide : ((4 : Int32).toInt - (0 : Int32).toInt).toNat + 1 = 5), L_X4_fairest_7, if_neg (by decide), p_lt, s1, p_lt, cL, g1, p_lt2, if_neg (p_away x1)] at e1
  unfold f_X5_fairest at e2
  rw [(by decide : ((4 : Int32).toInt - (0 : Int32).toInt).toNat + 1 = 5), L_X5_fairest_6, if_neg (by decide), w1, p_lt2, if_pos (by decide)] at e2
  dsimp only at e1 e2
  rw [(by decide : (0 : Int32) + 1 = Int32.ofNat 1)] at e1 e2
  obtain ⟨v2, u2', W2, h1, h2⟩ := p_fairL hR d_law 3 1 0 (g_absf (v - 500000000)) d_rebound 0 d_draw n1 c_now_squad_size (g_cpy c_now_squad_facts c_otherLamp_squad_facts 30) C1 V1 B1 rT1 hv1 mv1 (f_X5_solve d_rebound 0 d_draw d_players d_side d_kind d_near d_far d_free d_guard d_worth) (by decide) (by decide)
  rw [h1] at e1
  rw [h2] at e2
  obtain ⟨rfl, rfl⟩ := Prod.mk.inj e1
  obtain ⟨rfl, rfl⟩ := Prod.mk.inj e2
  exact ⟨rfl, hR⟩
set_option maxRecDepth 100000 in
set_option maxHeartbeats 1000000 in
theorem eq_hand {c_isKept : Int32} {c_numbersSize : Int32} {c_now_told : Nat → Int32} {c_now_squad_size : Int32} {c_now_squad_facts : Nat → Int32} {c_kept_told : Nat → Int32} {c_kept_squad_size : Int32} {c_kept_squad_facts : Nat → Int32} {c_letters_size : Int32} {c_letters_signs : Nat → Int32} {c_numbers : Nat → Int32} {c_refusals : Nat → Int32} {c_lamp_reboundTenths : Int32} {c_lamp_lawInForce : Int32} {c_lamp_drawTenths : Int32} {c_lamp_solvedRows : Int32} {c_lamp_squad_size : Int32} {c_lamp_squad_facts : Nat → Int32} {c_lamp_changes : Nat → Int32} {c_lamp_values : Nat → Int32} {c_lamp_bests : Nat → Int32} {d_seconds : Int32} {d_lead : Int32} {d_ball : Int32} {d_rebound : Int32} {d_law : Int32} {d_draw : Int32} {d_players : Int32} {d_letters : Int32} {d_inRow : Int32} {d_imaged : Int32} {d_fouls : Nat → Int32} {d_calls : Nat → Int32} {d_side : Nat → Int32} {d_kind : Nat → Int32} {d_near : Nat → Int32} {d_far : Nat → Int32} {d_free : Nat → Int32} {d_letter : Nat → Int32} {d_row : Nat → Int32} {d_refusals : Nat → Int32} {d_image : Nat → Int32} {d_guard : Nat → Int32}  {p1 : Int32} {r1 r2 : Int32} {u1 : (Nat → Int32)} {u2 : (Nat → Int32)}  (hR : Rel c_isKept c_numbersSize c_now_told c_now_squad_size c_now_squad_facts c_kept_told c_kept_squad_size c_kept_squad_facts c_letters_size c_letters_signs c_numbers c_refusals c_lamp_reboundTenths c_lamp_lawInForce c_lamp_drawTenths c_lamp_solvedRows c_lamp_squad_size c_lamp_squad_facts c_lamp_changes c_lamp_values c_lamp_bests d_seconds d_lead d_ball d_rebound d_law d_draw d_players d_letters d_inRow d_imaged d_fouls d_calls d_side d_kind d_near d_far d_free d_letter d_row d_refusals d_image d_guard) (e1 : (r1, u1) = f_X4_hand c_refusals p1) (e2 : (r2, u2) = f_X5_hand d_refusals p1) : r1 = r2 ∧ Rel c_isKept c_numbersSize c_now_told c_now_squad_size c_now_squad_facts c_kept_told c_kept_squad_size c_kept_squad_facts c_letters_size c_letters_signs c_numbers u1 c_lamp_reboundTenths c_lamp_lawInForce c_lamp_drawTenths c_lamp_solvedRows c_lamp_squad_size c_lamp_squad_facts c_lamp_changes c_lamp_values c_lamp_bests d_seconds d_lead d_ball d_rebound d_law d_draw d_players d_letters d_inRow d_imaged d_fouls d_calls d_side d_kind d_near d_far d_free d_letter d_row u2 d_image d_guard := by
  rcases p_out p1 24 with ⟨b1, b2, o1⟩ | ⟨b1, b2, o1⟩ | ⟨b1, o1⟩
  · have hh := p_hand p1 0 c_refusals d_refusals (fun v3_22 v4_22 => (v3_22, c_refusals)) (fun v2_28 v3_28 => (v2_28, d_refusals))
    unfold f_X4_hand at e1
    rw [p_lt, if_pos o1, o1, (by decide : ((3 : Int32).toInt - (0 : Int32).toInt).toNat + 1 = 4), hh.1] at e1
    unfold f_X5_hand at e2
    rw [if_pos b1, if_pos b2, (by decide : ((3 : Int32).toInt - (0 : Int32).toInt).toNat + 1 = 4), hh.2] at e2
    obtain ⟨rfl, rfl⟩ := Prod.mk.inj e1
    obtain ⟨rfl, rfl⟩ := Prod.mk.inj e2
    exact ⟨rfl, hR⟩
  · obtain ⟨U, U', q1, q2, q3⟩ := p_no (r_ref hR) (x := -6) 6 (by decide) (by decide)
    unfold f_X4_hand at e1
    rw [p_lt, o1, if_neg (by decide), q1, p_lt2] at e1
    unfold f_X5_hand at e2
    rw [if_pos b1, if_neg b2, q2, p_lt2] at e2
    obtain ⟨rfl, rfl⟩ := Prod.mk.inj e1
    obtain ⟨rfl, rfl⟩ := Prod.mk.inj e2
    exact ⟨rfl, r_up hR q3 (r_sol hR)⟩
  · obtain ⟨U, U', q1, q2, q3⟩ := p_no (r_ref hR) (x := -4) 4 (by decide) (by decide)
    unfold f_X4_hand at e1
    rw [p_lt, o1, if_neg (by decide), q1, p_lt2] at e1
    unfold f_X5_hand at e2
    rw [if_neg b1, q2, p_lt2] at e2
    obtain ⟨rfl, rfl⟩ := Prod.mk.inj e1
    obtain ⟨rfl, rfl⟩ := Prod.mk.inj e2
    exact ⟨rfl, r_up hR q3 (r_sol hR)⟩
set_option maxRecDepth 100000 in
set_option maxHeartbeats 1000000 in
theorem eq_row {c_isKept : Int32} {c_numbersSize : Int32} {c_now_told : Nat → Int32} {c_now_squad_size : Int32} {c_now_squad_facts : Nat → Int32} {c_kept_told : Nat → Int32} {c_kept_squad_size : Int32} {c_kept_squad_facts : Nat → Int32} {c_letters_size : Int32} {c_letters_signs : Nat → Int32} {c_numbers : Nat → Int32} {c_refusals : Nat → Int32} {c_lamp_reboundTenths : Int32} {c_lamp_lawInForce : Int32} {c_lamp_drawTenths : Int32} {c_lamp_solvedRows : Int32} {c_lamp_squad_size : Int32} {c_lamp_squad_facts : Nat → Int32} {c_lamp_changes : Nat → Int32} {c_lamp_values : Nat → Int32} {c_lamp_bests : Nat → Int32} {d_seconds : Int32} {d_lead : Int32} {d_ball : Int32} {d_rebound : Int32} {d_law : Int32} {d_draw : Int32} {d_players : Int32} {d_letters : Int32} {d_inRow : Int32} {d_imaged : Int32} {d_fouls : Nat → Int32} {d_calls : Nat → Int32} {d_side : Nat → Int32} {d_kind : Nat → Int32} {d_near : Nat → Int32} {d_far : Nat → Int32} {d_free : Nat → Int32} {d_letter : Nat → Int32} {d_row : Nat → Int32} {d_refusals : Nat → Int32} {d_image : Nat → Int32} {d_guard : Nat → Int32}  {p1 : Int32} {r1 r2 : Int32} {u1 : (Int32) × (Nat → Int32) × (Nat → Int32)} {u2 : (Int32) × (Nat → Int32) × (Nat → Int32)}  (hR : Rel c_isKept c_numbersSize c_now_told c_now_squad_size c_now_squad_facts c_kept_told c_kept_squad_size c_kept_squad_facts c_letters_size c_letters_signs c_numbers c_refusals c_lamp_reboundTenths c_lamp_lawInForce c_lamp_drawTenths c_lamp_solvedRows c_lamp_squad_size c_lamp_squad_facts c_lamp_changes c_lamp_values c_lamp_bests d_seconds d_lead d_ball d_rebound d_law d_draw d_players d_letters d_inRow d_imaged d_fouls d_calls d_side d_kind d_near d_far d_free d_letter d_row d_refusals d_image d_guard) (e1 : (r1, u1) = f_X4_row c_numbersSize c_numbers c_refusals p1) (e2 : (r2, u2) = f_X5_row d_inRow d_row d_refusals p1) : r1 = r2 ∧ Rel c_isKept u1.1 c_now_told c_now_squad_size c_now_squad_facts c_kept_told c_kept_squad_size c_kept_squad_facts c_letters_size c_letters_signs u1.2.1 u1.2.2 c_lamp_reboundTenths c_lamp_lawInForce c_lamp_drawTenths c_lamp_solvedRows c_lamp_squad_size c_lamp_squad_facts c_lamp_changes c_lamp_values c_lamp_bests d_seconds d_lead d_ball d_rebound d_law d_draw d_players d_letters u2.1 d_imaged d_fouls d_calls d_side d_kind d_near d_far d_free d_letter u2.2.1 u2.2.2 d_image d_guard := by
  obtain ⟨hs, hA, hg⟩ := hR.2.2.2.2.1
  have hA0 := hA.1
  have hA1 := hA.2
  rcases p_out p1 9 with ⟨b1, b2, o1⟩ | ⟨b1, b2, o1⟩ | ⟨b1, o1⟩
  · by_cases hc : d_inRow = 20
    · have hc1 : ¬ d_inRow < 20 := by rw [hc]; decide
      obtain ⟨U, U', q1, q2, q3⟩ := p_no (r_ref hR) (x := -6) 6 (by decide) (by decide)
      unfold f_X4_row at e1
      rw [p_lt, if_pos o1, if_neg (by rw [hs]; exact hc1), q1, p_lt2] at e1
      unfold f_X5_row at e2
      rw [if_pos b1, if_neg (Int32.not_lt.2 b2), if_pos hc, q2, p_lt2] at e2
      obtain ⟨rfl, rfl⟩ := Prod.mk.inj e1
      obtain ⟨rfl, rfl⟩ := Prod.mk.inj e2
      exact ⟨rfl, r_up hR q3 (r_sol hR)⟩
    · obtain ⟨nn, hnn⟩ := pe_nat 20 hA0 hA1 (by decide)
      have hc2 : d_inRow < 20 := by
        rw [hnn] at hc ⊢; exact (by decide : ∀ n : Fin (20 + 1), ¬ Int32.ofNat n = 20 → Int32.ofNat n < 20) nn hc
      unfold f_X4_row at e1
      rw [p_lt, if_pos o1, if_pos (by rw [hs]; exact hc2)] at e1
      unfold f_X5_row at e2
      rw [if_pos b1, if_neg (Int32.not_lt.2 b2), if_neg hc] at e2
      obtain ⟨rfl, rfl⟩ := Prod.mk.inj e1
      obtain ⟨rfl, rfl⟩ := Prod.mk.inj e2
      have hb : 0 ≤ d_inRow + 1 ∧ d_inRow + 1 ≤ 20 ∧ d_inRow.toNatClampNeg = nn.val ∧ (d_inRow + 1).toNatClampNeg = nn.val + 1 := by
        rw [hnn] at hc2 ⊢
        exact (by decide : ∀ n : Fin (20 + 1), Int32.ofNat n < 20 → 0 ≤ Int32.ofNat n + 1 ∧ Int32.ofNat n + 1 ≤ 20 ∧ (Int32.ofNat n).toNatClampNeg = n.val ∧ (Int32.ofNat n + 1).toNatClampNeg = n.val + 1) nn hc2
      refine ⟨by rw [hs], ?_⟩
      obtain ⟨h1, h2, h3, h4, h5, h6, h7, h8⟩ := hR
      have new : c_numbersSize + 1 = d_inRow + 1 ∧ r_in (d_inRow + 1) 20 ∧ ∀ k : Nat, k < (d_inRow + 1).toNatClampNeg → upd c_numbers c_numbersSize.toNatClampNeg p1 k = upd d_row d_inRow.toNatClampNeg p1 k ∧ r_in (upd d_row d_inRow.toNatClampNeg p1 k) 9 := by
        refine ⟨by rw [hs], ⟨hb.1, hb.2.1⟩, fun k hk => ?_⟩
        rw [hs]
        by_cases hkn : k = d_inRow.toNatClampNeg
        · rw [hkn, p_upd_same, p_upd_same]; exact ⟨rfl, b1, b2⟩
        · rw [p_upd_ne _ _ hkn, p_upd_ne _ _ hkn]
          refine hg k ?_
          rw [hb.2.2.2] at hk; rw [hb.2.2.1] at hkn ⊢; omega
      exact ⟨h1, h2, h3, h4, new, h6, h7, h8⟩
  · obtain ⟨U, U', q1, q2, q3⟩ := p_no (r_ref hR) (x := -6) 6 (by decide) (by decide)
    unfold f_X4_row at e1
    rw [p_lt, o1, if_neg (by decide), q1, p_lt2] at e1
    unfold f_X5_row at e2
    rw [if_pos b1, if_pos (Int32.not_le.1 b2), q2, p_lt2] at e2
    obtain ⟨rfl, rfl⟩ := Prod.mk.inj e1
    obtain ⟨rfl, rfl⟩ := Prod.mk.inj e2
    exact ⟨rfl, r_up hR q3 (r_sol hR)⟩
  · obtain ⟨U, U', q1, q2, q3⟩ := p_no (r_ref hR) (x := -4) 4 (by decide) (by decide)
    unfold f_X4_row at e1
    rw [p_lt, o1, if_neg (by decide), q1, p_lt2] at e1
    unfold f_X5_row at e2
    rw [if_neg b1, q2, p_lt2] at e2
    obtain ⟨rfl, rfl⟩ := Prod.mk.inj e1
    obtain ⟨rfl, rfl⟩ := Prod.mk.inj e2
    exact ⟨rfl, r_up hR q3 (r_sol hR)⟩
set_option maxRecDepth 100000 in
set_option maxHeartbeats 1000000 in
theorem eq_judge {c_isKept : Int32} {c_numbersSize : Int32} {c_now_told : Nat → Int32} {c_now_squad_size : Int32} {c_now_squad_facts : Nat → Int32} {c_kept_told : Nat → Int32} {c_kept_squad_size : Int32} {c_kept_squad_facts : Nat → Int32} {c_letters_size : Int32} {c_letters_signs : Nat → Int32} {c_numbers : Nat → Int32} {c_refusals : Nat → Int32} {c_lamp_reboundTenths : Int32} {c_lamp_lawInForce : Int32} {c_lamp_drawTenths : Int32} {c_lamp_solvedRows : Int32} {c_lamp_squad_size : Int32} {c_lamp_squad_facts : Nat → Int32} {c_lamp_changes : Nat → Int32} {c_lamp_values : Nat → Int32} {c_lamp_bests : Nat → Int32} {d_seconds : Int32} {d_lead : Int32} {d_ball : Int32} {d_rebound : Int32} {d_law : Int32} {d_draw : Int32} {d_players : Int32} {d_letters : Int32} {d_inRow : Int32} {d_imaged : Int32} {d_fouls : Nat → Int32} {d_calls : Nat → Int32} {d_side : Nat → Int32} {d_kind : Nat → Int32} {d_near : Nat → Int32} {d_far : Nat → Int32} {d_free : Nat → Int32} {d_letter : Nat → Int32} {d_row : Nat → Int32} {d_refusals : Nat → Int32} {d_image : Nat → Int32} {d_guard : Nat → Int32}   {r1 r2 : Int32} {u1 : (Int32)} {u2 : (Int32)}  (hR : Rel c_isKept c_numbersSize c_now_told c_now_squad_size c_now_squad_facts c_kept_told c_kept_squad_size c_kept_squad_facts c_letters_size c_letters_signs c_numbers c_refusals c_lamp_reboundTenths c_lamp_lawInForce c_lamp_drawTenths c_lamp_solvedRows c_lamp_squad_size c_lamp_squad_facts c_lamp_changes c_lamp_values c_lamp_bests d_seconds d_lead d_ball d_rebound d_law d_draw d_players d_letters d_inRow d_imaged d_fouls d_calls d_side d_kind d_near d_far d_free d_letter d_row d_refusals d_image d_guard) (e1 : (r1, u1) = f_X4_judge c_numbersSize c_now_told c_now_squad_size c_now_squad_facts c_numbers c_lamp_lawInForce) (e2 : (r2, u2) = f_X5_judge d_seconds d_lead d_ball d_law d_players d_inRow d_side d_row) : r1 = r2 ∧ Rel c_isKept u1 c_now_told c_now_squad_size c_now_squad_facts c_kept_told c_kept_squad_size c_kept_squad_facts c_letters_size c_letters_signs c_numbers c_refusals c_lamp_reboundTenths c_lamp_lawInForce c_lamp_drawTenths c_lamp_solvedRows c_lamp_squad_size c_lamp_squad_facts c_lamp_changes c_lamp_values c_lamp_bests d_seconds d_lead d_ball d_rebound d_law d_draw d_players d_letters u2 d_imaged d_fouls d_calls d_side d_kind d_near d_far d_free d_letter d_row d_refusals d_image d_guard := by
  obtain ⟨hS, hP, hr, hlw, hd⟩ := r_rng hR
  obtain ⟨t0, t1, t2, t3, t4, t5, t6, t7, t8, t9⟩ := r_told hR
  obtain ⟨k0, k1, k2, -⟩ := p_t0 c_now_told
  obtain ⟨hz, hi, hv⟩ := hR.2.2.2.2.1
  obtain ⟨M', hM'⟩ := pe_nat 20 hi.1 hi.2 (by decide)
  have hM20 : M'.val ≤ 20 := by have := M'.isLt; omega
  obtain ⟨r, q4, q5⟩ := p_judgeL hR M'.val hM20 hM' M'.val 0 21 (M'.val + 1) d_seconds d_ball (by omega) (by omega) (by omega) (by omega) hS.1
  have fj : ((d_inRow).toInt - (0 : Int32).toInt).toNat + 1 = M'.val + 1 := by rw [hM']; exact (by decide : ∀ m : Fin 21, ((Int32.ofNat m).toInt - (0 : Int32).toInt).toNat + 1 = m.val + 1) M'
  unfold f_X4_judge f_X4_placeThatCanNotBe at e1
  rw [p_lt, p_lt, k0, t0, p_lt, k2, t2, (by decide : ((20 : Int32).toInt - (0 : Int32).toInt).toNat + 1 = 21)] at e1
  have q4' : L_X4_placeThatCanNotBe_20 c_numbersSize c_now_told c_now_squad_size c_now_squad_facts c_numbers c_lamp_lawInForce (fun v1_20 v2_20 v3_20 => (-9)) 21 d_seconds d_ball 0 = r := q4
  rw [q4'] at e1
  unfold f_X5_judge at e2
  rw [fj] at e2
  have e2' := e2.trans q5
  obtain ⟨rfl, rfl⟩ := Prod.mk.inj e1
  obtain ⟨rfl, rfl⟩ := Prod.mk.inj e2'
  obtain ⟨h1, h2, h3, h4, h5, h6, h7, h8⟩ := hR
  exact ⟨rfl, h1, h2, h3, h4, ⟨rfl, ⟨by decide, by decide⟩, fun k hk => absurd hk (by rw [(by decide : (0 : Int32).toNatClampNeg = 0)]; omega)⟩, h6, h7, h8⟩
set_option maxRecDepth 100000 in
set_option maxHeartbeats 1000000 in
theorem eq_lots {c_isKept : Int32} {c_numbersSize : Int32} {c_now_told : Nat → Int32} {c_now_squad_size : Int32} {c_now_squad_facts : Nat → Int32} {c_kept_told : Nat → Int32} {c_kept_squad_size : Int32} {c_kept_squad_facts : Nat → Int32} {c_letters_size : Int32} {c_letters_signs : Nat → Int32} {c_numbers : Nat → Int32} {c_refusals : Nat → Int32} {c_lamp_reboundTenths : Int32} {c_lamp_lawInForce : Int32} {c_lamp_drawTenths : Int32} {c_lamp_solvedRows : Int32} {c_lamp_squad_size : Int32} {c_lamp_squad_facts : Nat → Int32} {c_lamp_changes : Nat → Int32} {c_lamp_values : Nat → Int32} {c_lamp_bests : Nat → Int32} {d_seconds : Int32} {d_lead : Int32} {d_ball : Int32} {d_rebound : Int32} {d_law : Int32} {d_draw : Int32} {d_players : Int32} {d_letters : Int32} {d_inRow : Int32} {d_imaged : Int32} {d_fouls : Nat → Int32} {d_calls : Nat → Int32} {d_side : Nat → Int32} {d_kind : Nat → Int32} {d_near : Nat → Int32} {d_far : Nat → Int32} {d_free : Nat → Int32} {d_letter : Nat → Int32} {d_row : Nat → Int32} {d_refusals : Nat → Int32} {d_image : Nat → Int32} {d_guard : Nat → Int32} {c_seed : Int32} {c_lamp_rowTenths : Nat → Int32} {c_lamp_hitValues : Nat → Int32} {c_lamp_missValues : Nat → Int32} {d_worth : Nat → Int32} {p1 : Int32} {p2 : Int32} {r1 r2 : Int32} {u1 : (Int32) × (Nat → Int32) × (Int32) × (Nat → Int32) × (Nat → Int32) × (Nat → Int32) × (Nat → Int32) × (Nat → Int32)} {u2 : (Nat → Int32) × (Nat → Int32)}  (hR : Rel c_isKept c_numbersSize c_now_told c_now_squad_size c_now_squad_facts c_kept_told c_kept_squad_size c_kept_squad_facts c_letters_size c_letters_signs c_numbers c_refusals c_lamp_reboundTenths c_lamp_lawInForce c_lamp_drawTenths c_lamp_solvedRows c_lamp_squad_size c_lamp_squad_facts c_lamp_changes c_lamp_values c_lamp_bests d_seconds d_lead d_ball d_rebound d_law d_draw d_players d_letters d_inRow d_imaged d_fouls d_calls d_side d_kind d_near d_far d_free d_letter d_row d_refusals d_image d_guard) (e1 : (r1, u1) = f_X4_lots c_seed c_now_told c_refusals c_lamp_reboundTenths c_lamp_lawInForce c_lamp_drawTenths c_lamp_solvedRows c_lamp_squad_size c_lamp_squad_facts c_lamp_changes c_lamp_values c_lamp_bests c_lamp_rowTenths c_lamp_hitValues c_lamp_missValues p1 p2) (e2 : (r2, u2) = f_X5_lots d_seconds d_lead d_ball d_rebound d_law d_draw d_players d_side d_kind d_near d_far d_free d_refusals d_guard d_worth p1 p2) : r1 = r2 ∧ Rel c_isKept c_numbersSize c_now_told c_now_squad_size c_now_squad_facts c_kept_told c_kept_squad_size c_kept_squad_facts c_letters_size c_letters_signs c_numbers u1.2.1 c_lamp_reboundTenths c_lamp_lawInForce c_lamp_drawTenths u1.2.2.1 c_lamp_squad_size c_lamp_squad_facts c_lamp_changes u1.2.2.2.1 u1.2.2.2.2.1 d_seconds d_lead d_ball d_rebound d_law d_draw d_players d_letters d_inRow d_imaged d_fouls d_calls d_side d_kind d_near d_far d_free d_letter d_row u2.1 d_image d_guard := by
  obtain ⟨hS, hP, hr, hlw, hd⟩ := r_rng hR
  obtain ⟨t0, t1, t2, t3, t4, t5, t6, t7, t8, t9⟩ := r_told hR
  by_cases w1 : 1 ≤ p1
  · have w0 : 0 ≤ p1 := Int32.le_trans (by decide) w1
    by_cases w30 : p1 ≤ 30
    · obtain ⟨m', rfl⟩ := pe_nat 30 w0 w30 (by decide)
      have hm : m'.val ≤ 30 := by have := m'.isLt; omega
      have ob : f_X4_outside (Int32.ofNat m') 30 = 0 := by unfold f_X4_outside; rw [if_pos w0, if_pos w30]
      have fl : ((Int32.ofNat m').toInt - (0 : Int32).toInt).toNat + 1 = m'.val + 1 := (by decide : ∀ m : Fin 31, ((Int32.ofNat m).toInt - (0 : Int32).toInt).toNat + 1 = m.val + 1) m'
      obtain ⟨r, z', n', V', B', rT', hv', mv', q4, q5, q6⟩ := p_lotsL hR d_worth c_refusals d_refusals p2 0 p2 m'.val hm m'.val 0 0 p2 c_lamp_solvedRows c_lamp_values c_lamp_bests c_lamp_rowTenths c_lamp_hitValues c_lamp_missValues (by omega) (r_sol hR)
      unfold f_X4_lots at e1
      rw [if_pos w1, p_lt, if_pos ob, ob, fl] at e1
      unfold f_X5_lots at e2
      rw [if_pos w1, if_pos w30, p_lt, fl] at e2
      have e1' := e1.trans q4
      have e2' := e2.trans q5
      obtain ⟨rfl, rfl⟩ := Prod.mk.inj e1'
      obtain ⟨rfl, rfl⟩ := Prod.mk.inj e2'
      exact ⟨rfl, r_up hR (r_ref hR) q6⟩
    · have ob : f_X4_outside p1 30 = -6 := by unfold f_X4_outside; rw [if_pos w0, if_neg w30]
      obtain ⟨U, U', q1, q2, q3⟩ := p_no (r_ref hR) (x := -6) 6 (by decide) (by decide)
      unfold f_X4_lots at e1
      rw [if_pos w1, p_lt, ob, if_neg (by decide), q1, p_lt2] at e1
      unfold f_X5_lots at e2
      rw [if_pos w1, if_neg w30, q2, p_lt2] at e2
      obtain ⟨rfl, rfl⟩ := Prod.mk.inj e1
      obtain ⟨rfl, rfl⟩ := Prod.mk.inj e2
      exact ⟨rfl, r_up hR q3 (r_sol hR)⟩
  · obtain ⟨U, U', q1, q2, q3⟩ := p_no (r_ref hR) (x := -4) 4 (by decide) (by decide)
    unfold f_X4_lots at e1
    rw [if_neg w1, q1, p_lt2] at e1
    unfold f_X5_lots at e2
    rw [if_neg w1, q2, p_lt2] at e2
    obtain ⟨rfl, rfl⟩ := Prod.mk.inj e1
    obtain ⟨rfl, rfl⟩ := Prod.mk.inj e2
    exact ⟨rfl, r_up hR q3 (r_sol hR)⟩
set_option maxRecDepth 100000 in
set_option maxHeartbeats 1000000 in
theorem eq_image {c_isKept : Int32} {c_numbersSize : Int32} {c_now_told : Nat → Int32} {c_now_squad_size : Int32} {c_now_squad_facts : Nat → Int32} {c_kept_told : Nat → Int32} {c_kept_squad_size : Int32} {c_kept_squad_facts : Nat → Int32} {c_letters_size : Int32} {c_letters_signs : Nat → Int32} {c_numbers : Nat → Int32} {c_refusals : Nat → Int32} {c_lamp_reboundTenths : Int32} {c_lamp_lawInForce : Int32} {c_lamp_drawTenths : Int32} {c_lamp_solvedRows : Int32} {c_lamp_squad_size : Int32} {c_lamp_squad_facts : Nat → Int32} {c_lamp_changes : Nat → Int32} {c_lamp_values : Nat → Int32} {c_lamp_bests : Nat → Int32} {d_seconds : Int32} {d_lead : Int32} {d_ball : Int32} {d_rebound : Int32} {d_law : Int32} {d_draw : Int32} {d_players : Int32} {d_letters : Int32} {d_inRow : Int32} {d_imaged : Int32} {d_fouls : Nat → Int32} {d_calls : Nat → Int32} {d_side : Nat → Int32} {d_kind : Nat → Int32} {d_near : Nat → Int32} {d_far : Nat → Int32} {d_free : Nat → Int32} {d_letter : Nat → Int32} {d_row : Nat → Int32} {d_refusals : Nat → Int32} {d_image : Nat → Int32} {d_guard : Nat → Int32}   {r1 r2 : Int32} {u1 : (Int32) × (Nat → Int32) × (Int32) × (Nat → Int32)} {u2 : (Int32) × (Nat → Int32)}  (hR : Rel c_isKept c_numbersSize c_now_told c_now_squad_size c_now_squad_facts c_kept_told c_kept_squad_size c_kept_squad_facts c_letters_size c_letters_signs c_numbers c_refusals c_lamp_reboundTenths c_lamp_lawInForce c_lamp_drawTenths c_lamp_solvedRows c_lamp_squad_size c_lamp_squad_facts c_lamp_changes c_lamp_values c_lamp_bests d_seconds d_lead d_ball d_rebound d_law d_draw d_players d_letters d_inRow d_imaged d_fouls d_calls d_side d_kind d_near d_far d_free d_letter d_row d_refusals d_image d_guard) (e1 : (r1, u1) = f_X4_image c_isKept c_now_told c_now_squad_size c_now_squad_facts c_kept_told c_kept_squad_size c_kept_squad_facts) (e2 : (r2, u2) = f_X5_image d_seconds d_lead d_ball d_rebound d_law d_draw d_players d_imaged d_fouls d_calls d_side d_kind d_near d_far d_free d_image) : r1 = r2 ∧ Rel u1.1 c_numbersSize c_now_told c_now_squad_size c_now_squad_facts u1.2.1 u1.2.2.1 u1.2.2.2 c_letters_size c_letters_signs c_numbers c_refusals c_lamp_reboundTenths c_lamp_lawInForce c_lamp_drawTenths c_lamp_solvedRows c_lamp_squad_size c_lamp_squad_facts c_lamp_changes c_lamp_values c_lamp_bests d_seconds d_lead d_ball d_rebound d_law d_draw d_players d_letters d_inRow u2.1 d_fouls d_calls d_side d_kind d_near d_far d_free d_letter d_row d_refusals u2.2 d_guard := by
  obtain ⟨t0, -⟩ := r_told hR
  obtain ⟨k0, -⟩ := p_t0 c_now_told
  have hk := p_keep d_seconds d_lead d_ball d_rebound d_law d_draw d_players d_fouls d_calls d_side d_kind d_near d_far d_free d_image
  have f1 : f_X4_image c_isKept c_now_told c_now_squad_size c_now_squad_facts c_kept_told c_kept_squad_size c_kept_squad_facts = (d_seconds, 1, g_cpy c_now_told c_kept_told 10, c_now_squad_size, g_cpy c_now_squad_facts c_kept_squad_facts 30) := by
    unfold f_X4_image f_X0_copy f_X3_copy
    rw [p_lt, p_lt, p_lt, k0, t0]
  rw [f1] at e1
  unfold f_X5_image at e2
  rw [p_lt] at e2
  obtain ⟨rfl, rfl⟩ := Prod.mk.inj e1
  obtain ⟨rfl, rfl⟩ := Prod.mk.inj e2
  obtain ⟨h1, h2, h3, h4, h5, h6, h7, h8⟩ := hR
  exact ⟨rfl, h1, h2, ⟨rfl, Or.inr ⟨p_HAcpy (p_HAc hk h1), p_OKc hk h2⟩⟩, h4, h5, h6, h7, h8⟩
set_option maxRecDepth 100000 in
set_option maxHeartbeats 1000000 in
theorem eq_restore {c_isKept : Int32} {c_numbersSize : Int32} {c_now_told : Nat → Int32} {c_now_squad_size : Int32} {c_now_squad_facts : Nat → Int32} {c_kept_told : Nat → Int32} {c_kept_squad_size : Int32} {c_kept_squad_facts : Nat → Int32} {c_letters_size : Int32} {c_letters_signs : Nat → Int32} {c_numbers : Nat → Int32} {c_refusals : Nat → Int32} {c_lamp_reboundTenths : Int32} {c_lamp_lawInForce : Int32} {c_lamp_drawTenths : Int32} {c_lamp_solvedRows : Int32} {c_lamp_squad_size : Int32} {c_lamp_squad_facts : Nat → Int32} {c_lamp_changes : Nat → Int32} {c_lamp_values : Nat → Int32} {c_lamp_bests : Nat → Int32} {d_seconds : Int32} {d_lead : Int32} {d_ball : Int32} {d_rebound : Int32} {d_law : Int32} {d_draw : Int32} {d_players : Int32} {d_letters : Int32} {d_inRow : Int32} {d_imaged : Int32} {d_fouls : Nat → Int32} {d_calls : Nat → Int32} {d_side : Nat → Int32} {d_kind : Nat → Int32} {d_near : Nat → Int32} {d_far : Nat → Int32} {d_free : Nat → Int32} {d_letter : Nat → Int32} {d_row : Nat → Int32} {d_refusals : Nat → Int32} {d_image : Nat → Int32} {d_guard : Nat → Int32}   {r1 r2 : Int32} {u1 : (Nat → Int32) × (Int32) × (Nat → Int32) × (Nat → Int32) × (Int32) × (Int32) × (Int32) × (Int32) × (Int32) × (Nat → Int32) × (Nat → Int32)} {u2 : (Int32) × (Int32) × (Int32) × (Int32) × (Int32) × (Int32) × (Int32) × (Nat → Int32) × (Nat → Int32) × (Nat → Int32) × (Nat → Int32) × (Nat → Int32) × (Nat → Int32) × (Nat → Int32) × (Nat → Int32)}  (hR : Rel c_isKept c_numbersSize c_now_told c_now_squad_size c_now_squad_facts c_kept_told c_kept_squad_size c_kept_squad_facts c_letters_size c_letters_signs c_numbers c_refusals c_lamp_reboundTenths c_lamp_lawInForce c_lamp_drawTenths c_lamp_solvedRows c_lamp_squad_size c_lamp_squad_facts c_lamp_changes c_lamp_values c_lamp_bests d_seconds d_lead d_ball d_rebound d_law d_draw d_players d_letters d_inRow d_imaged d_fouls d_calls d_side d_kind d_near d_far d_free d_letter d_row d_refusals d_image d_guard) (e1 : (r1, u1) = f_X4_restore c_isKept c_now_told c_now_squad_size c_now_squad_facts c_kept_told c_kept_squad_size c_kept_squad_facts c_refusals c_lamp_reboundTenths c_lamp_lawInForce c_lamp_drawTenths c_lamp_solvedRows c_lamp_squad_size c_lamp_squad_facts c_lamp_changes) (e2 : (r2, u2) = f_X5_restore d_seconds d_lead d_ball d_rebound d_law d_draw d_players d_imaged d_fouls d_calls d_side d_kind d_near d_far d_free d_refusals d_image) : r1 = r2 ∧ Rel c_isKept c_numbersSize u1.1 u1.2.1 u1.2.2.1 c_kept_told c_kept_squad_size c_kept_squad_facts c_letters_size c_letters_signs c_numbers u1.2.2.2.1 u1.2.2.2.2.1 u1.2.2.2.2.2.1 u1.2.2.2.2.2.2.1 u1.2.2.2.2.2.2.2.1 u1.2.2.2.2.2.2.2.2.1 u1.2.2.2.2.2.2.2.2.2.1 u1.2.2.2.2.2.2.2.2.2.2 c_lamp_values c_lamp_bests u2.1 u2.2.1 u2.2.2.1 u2.2.2.2.1 u2.2.2.2.2.1 u2.2.2.2.2.2.1 u2.2.2.2.2.2.2.1 d_letters d_inRow d_imaged u2.2.2.2.2.2.2.2.1 u2.2.2.2.2.2.2.2.2.1 u2.2.2.2.2.2.2.2.2.2.1 u2.2.2.2.2.2.2.2.2.2.2.1 u2.2.2.2.2.2.2.2.2.2.2.2.1 u2.2.2.2.2.2.2.2.2.2.2.2.2.1 u2.2.2.2.2.2.2.2.2.2.2.2.2.2.1 d_letter d_row u2.2.2.2.2.2.2.2.2.2.2.2.2.2.2 d_image d_guard := by
  obtain ⟨hi, hk⟩ := hR.2.2.1
  by_cases h0 : c_isKept = 0
  · obtain ⟨U, U', q1, q2, q3⟩ := p_no (r_ref hR) (x := -3) 3 (by decide) (by decide)
    unfold f_X4_restore at e1
    rw [if_pos h0, q1, p_lt2] at e1
    unfold f_X5_restore at e2
    rw [if_pos (by rw [← hi]; exact h0), q2, p_lt2] at e2
    obtain ⟨rfl, rfl⟩ := Prod.mk.inj e1
    obtain ⟨rfl, rfl⟩ := Prod.mk.inj e2
    exact ⟨rfl, r_up hR q3 (r_sol hR)⟩
  · obtain ⟨kH, kO⟩ := hk.resolve_left h0
    obtain ⟨fo, ca, a, b, c, d, e, w1, w2⟩ := p_again d_seconds d_lead d_ball d_rebound d_law d_draw d_players d_fouls d_calls d_side d_kind d_near d_far d_free d_image
    have nH := p_HAcpy (t := c_now_told) (f := c_now_squad_facts) (p_HAc w2 kH)
    have nO := p_OKc w2 kO
    have hcp : f_X0_copy c_now_told c_now_squad_size c_now_squad_facts c_kept_told c_kept_squad_size c_kept_squad_facts = (g_cpy c_kept_told c_now_told 10, c_kept_squad_size, g_cpy c_kept_squad_facts c_now_squad_facts 30) := by
      unfold f_X0_copy f_X3_copy; rw [p_lt]
    obtain ⟨C1, s1, z1⟩ := p_start c_lamp_reboundTenths c_lamp_lawInForce c_lamp_drawTenths c_lamp_solvedRows c_lamp_squad_size c_lamp_squad_facts c_lamp_changes (g_cpy c_kept_told c_now_told 10) c_kept_squad_size (g_cpy c_kept_squad_facts c_now_squad_facts 30)
    have m0 := nH.2.1 0 (by omega)
    have m7 := nH.2.1 7 (by omega)
    have m8 := nH.2.1 8 (by omega)
    have m9 := nH.2.1 9 (by omega)
    rw [show r_pack (d_image 31) (d_image 32) (d_image 33) (d_image 38) (d_image 39) (d_image 40) (d_image 30) fo ca a b c d e (31 + 0) = d_image 31 from rfl] at m0
    rw [show r_pack (d_image 31) (d_image 32) (d_image 33) (d_image 38) (d_image 39) (d_image 40) (d_image 30) fo ca a b c d e (31 + 7) = d_image 38 from rfl] at m7
    rw [show r_pack (d_image 31) (d_image 32) (d_image 33) (d_image 38) (d_image 39) (d_image 40) (d_image 30) fo ca a b c d e (31 + 8) = d_image 39 from rfl] at m8
    rw [show r_pack (d_image 31) (d_image 32) (d_image 33) (d_image 38) (d_image 39) (d_image 40) (d_image 30) fo ca a b c d e (31 + 9) = d_image 40 from rfl] at m9
    rw [m7, m8, m9] at s1
    have k0 : f_X0_told (g_cpy c_kept_told c_now_told 10) 0 = d_image 31 := (p_t0 (g_cpy c_kept_told c_now_told 10)).1.trans m0
    unfold f_X4_restore at e1
    rw [if_neg h0, p_lt, hcp, p_lt, s1, p_lt, k0] at e1
    unfold f_X5_restore at e2
    rw [if_neg (by rw [← hi]; exact h0), p_lt, w1] at e2
    obtain ⟨rfl, rfl⟩ := Prod.mk.inj e1
    obtain ⟨rfl, rfl⟩ := Prod.mk.inj e2
    obtain ⟨h1, h2, h3, h4, h5, h6, h7, h8⟩ := hR
    exact ⟨rfl, nH, nO, h3, h4, h5, h6, h7, rfl, rfl, rfl, nH.1, fun k hk => by show g_cpy (g_cpy c_kept_squad_facts c_now_squad_facts 30) c_lamp_squad_facts 30 k = _; unfold g_cpy; rw [if_pos hk], z1, p_Sol0 _ _ _ _ _ _ _ _ _ _ _ _⟩
set_option maxRecDepth 100000 in
set_option maxHeartbeats 1000000 in
theorem eq_count {c_isKept : Int32} {c_numbersSize : Int32} {c_now_told : Nat → Int32} {c_now_squad_size : Int32} {c_now_squad_facts : Nat → Int32} {c_kept_told : Nat → Int32} {c_kept_squad_size : Int32} {c_kept_squad_facts : Nat → Int32} {c_letters_size : Int32} {c_letters_signs : Nat → Int32} {c_numbers : Nat → Int32} {c_refusals : Nat → Int32} {c_lamp_reboundTenths : Int32} {c_lamp_lawInForce : Int32} {c_lamp_drawTenths : Int32} {c_lamp_solvedRows : Int32} {c_lamp_squad_size : Int32} {c_lamp_squad_facts : Nat → Int32} {c_lamp_changes : Nat → Int32} {c_lamp_values : Nat → Int32} {c_lamp_bests : Nat → Int32} {d_seconds : Int32} {d_lead : Int32} {d_ball : Int32} {d_rebound : Int32} {d_law : Int32} {d_draw : Int32} {d_players : Int32} {d_letters : Int32} {d_inRow : Int32} {d_imaged : Int32} {d_fouls : Nat → Int32} {d_calls : Nat → Int32} {d_side : Nat → Int32} {d_kind : Nat → Int32} {d_near : Nat → Int32} {d_far : Nat → Int32} {d_free : Nat → Int32} {d_letter : Nat → Int32} {d_row : Nat → Int32} {d_refusals : Nat → Int32} {d_image : Nat → Int32} {d_guard : Nat → Int32}  {p1 : Int32} {r1 r2 : Int32}  (hR : Rel c_isKept c_numbersSize c_now_told c_now_squad_size c_now_squad_facts c_kept_told c_kept_squad_size c_kept_squad_facts c_letters_size c_letters_signs c_numbers c_refusals c_lamp_reboundTenths c_lamp_lawInForce c_lamp_drawTenths c_lamp_solvedRows c_lamp_squad_size c_lamp_squad_facts c_lamp_changes c_lamp_values c_lamp_bests d_seconds d_lead d_ball d_rebound d_law d_draw d_players d_letters d_inRow d_imaged d_fouls d_calls d_side d_kind d_near d_far d_free d_letter d_row d_refusals d_image d_guard) (e1 : r1 = f_X4_count c_numbersSize c_now_told c_now_squad_size c_now_squad_facts c_letters_size c_refusals p1) (e2 : r2 = f_X5_count d_seconds d_lead d_ball d_law d_players d_letters d_inRow d_side d_refusals p1) : r1 = r2 ∧ Rel c_isKept c_numbersSize c_now_told c_now_squad_size c_now_squad_facts c_kept_told c_kept_squad_size c_kept_squad_facts c_letters_size c_letters_signs c_numbers c_refusals c_lamp_reboundTenths c_lamp_lawInForce c_lamp_drawTenths c_lamp_solvedRows c_lamp_squad_size c_lamp_squad_facts c_lamp_changes c_lamp_values c_lamp_bests d_seconds d_lead d_ball d_rebound d_law d_draw d_players d_letters d_inRow d_imaged d_fouls d_calls d_side d_kind d_near d_far d_free d_letter d_row d_refusals d_image d_guard := by
  obtain ⟨hsz, hp⟩ := r_sq hR
  obtain ⟨-, hP, -⟩ := r_rng hR
  obtain ⟨t0, t1, t2, t3, t4, t5, t6, t7, t8, t9⟩ := r_told hR
  obtain ⟨k0, k1, k2, k3, k4, k5, k6, k7, k8, k9⟩ := p_t0 c_now_told
  have hrf := r_ref hR
  refine ⟨?_, hR⟩
  rw [e1, e2]
  unfold f_X4_count f_X5_count
  by_cases h0 : p1 = 0
  · rw [if_pos h0, if_pos h0, hsz]
  rw [if_neg h0, if_neg h0]
  by_cases h1 : p1 = 1
  · rw [if_pos h1, if_pos h1, p_lt, p_lt]; exact p_ours hsz hP hp
  rw [if_neg h1, if_neg h1]
  by_cases h2 : p1 = 2
  · rw [if_pos h2, if_pos h2, p_lt, k0, t0]
  rw [if_neg h2, if_neg h2]
  by_cases h3 : p1 = 3
  · rw [if_pos h3, if_pos h3, p_lt, k1, t1]
  rw [if_neg h3, if_neg h3]
  by_cases h4 : p1 = 4
  · rw [if_pos h4, if_pos h4, p_lt, k2, t2]
  rw [if_neg h4, if_neg h4]
  by_cases h5 : p1 = 5
  · rw [if_pos h5, if_pos h5, p_lt, k8, t8]
  rw [if_neg h5, if_neg h5]
  by_cases h6 : p1 = 6
  · rw [if_pos h6, if_pos h6]; exact hR.2.2.2.2.1.1
  rw [if_neg h6, if_neg h6]
  by_cases h7 : p1 = 7
  · rw [if_pos h7, if_pos h7]; exact hR.2.2.2.1.1
  rw [if_neg h7, if_neg h7, p_lt]
  unfold f_X5_within
  by_cases a : p1 ≤ 10
  · have a2 : p1 < 11 := Int32.lt_of_le_of_lt a (by decide)
    rw [if_pos a, if_pos a2, if_pos rfl]
  · have a1 := Int32.not_le.1 a
    rw [Int32.lt_iff_toInt_lt, (by decide : (10 : Int32).toInt = 10)] at a1
    have a2 : ¬ p1 < 11 := by rw [Int32.lt_iff_toInt_lt, (by decide : (11 : Int32).toInt = 11)]; omega
    have hx := p1.toInt_lt
    have hd : (p1 - 10).toInt = p1.toInt - 10 := by
      rw [Int32.toInt_sub, (by decide : (10 : Int32).toInt = 10), Int.bmod_eq_of_le] <;> omega
    rw [if_neg a, if_neg a2]
    by_cases b : 16 < p1
    · rw [if_pos b, if_pos rfl]
      rw [Int32.lt_iff_toInt_lt, (by decide : (16 : Int32).toInt = 16)] at b
      rw [if_pos]
      rw [Int32.le_iff_toInt_le, hd, (by decide : (7 : Int32).toInt = 7)]; omega
    · rw [if_neg b, if_neg (by decide : ¬ (1 : Int32) = 0)]
      rw [Int32.lt_iff_toInt_lt, (by decide : (16 : Int32).toInt = 16)] at b
      rw [if_neg]
      · refine hrf _ ?_ ?_ <;> (show _; unfold Int32.toNatClampNeg; rw [hd]; omega)
      · rw [Int32.le_iff_toInt_le, hd, (by decide : (7 : Int32).toInt = 7)]; omega
