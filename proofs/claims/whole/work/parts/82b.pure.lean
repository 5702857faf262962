
theorem p_no {R R' : Nat → Int32} (h : ∀ k : Nat, 1 ≤ k → k < 7 → R k = R' k) {x : Int32} (n : Fin 7) (h1 : 1 ≤ n.val) (hx : x = -Int32.ofNat n) :
    ∃ U U', f_X4_refused R x = (x, U) ∧ f_X5_no R' x = (x, U') ∧ ∀ k : Nat, 1 ≤ k → k < 7 → U k = U' k := by
  obtain ⟨e1, e2, e3⟩ := (by decide : ∀ n : Fin 7, 1 ≤ n.val → ¬ (-(-Int32.ofNat n) ≤ 0) ∧ ¬ (7 ≤ -(-Int32.ofNat n)) ∧ (-(-Int32.ofNat n)).toNatClampNeg = n.val) n h1
  subst hx
  refine ⟨upd R n.val (R n.val + 1), upd R' n.val (R' n.val + 1), ?_, ?_, fun k h2 h3 => ?_⟩
  · unfold f_X4_refused; rw [if_neg e1, if_neg e2, e3]
  · unfold f_X5_no; rw [e3]
  · by_cases hk : k = n.val
    · subst hk; rw [p_upd_same, p_upd_same, h n.val h1 n.isLt]
    · rw [p_upd_ne _ _ hk, p_upd_ne _ _ hk, h k h2 h3]


theorem r_up {c_isKept : Int32} {c_numbersSize : Int32} {c_now_told : Nat → Int32} {c_now_squad_size : Int32} {c_now_squad_facts : Nat → Int32} {c_kept_told : Nat → Int32} {c_kept_squad_size : Int32} {c_kept_squad_facts : Nat → Int32} {c_letters_size : Int32} {c_letters_signs : Nat → Int32} {c_numbers : Nat → Int32} {c_refusals : Nat → Int32} {c_lamp_reboundTenths : Int32} {c_lamp_lawInForce : Int32} {c_lamp_drawTenths : Int32} {c_lamp_solvedRows : Int32} {c_lamp_squad_size : Int32} {c_lamp_squad_facts : Nat → Int32} {c_lamp_changes : Nat → Int32} {c_lamp_values : Nat → Int32} {c_lamp_bests : Nat → Int32} {d_seconds : Int32} {d_lead : Int32} {d_ball : Int32} {d_rebound : Int32} {d_law : Int32} {d_draw : Int32} {d_players : Int32} {d_letters : Int32} {d_inRow : Int32} {d_imaged : Int32} {d_fouls : Nat → Int32} {d_calls : Nat → Int32} {d_side : Nat → Int32} {d_kind : Nat → Int32} {d_near : Nat → Int32} {d_far : Nat → Int32} {d_free : Nat → Int32} {d_letter : Nat → Int32} {d_row : Nat → Int32} {d_refusals : Nat → Int32} {d_image : Nat → Int32} {d_guard : Nat → Int32} (hR : Rel c_isKept c_numbersSize c_now_told c_now_squad_size c_now_squad_facts c_kept_told c_kept_squad_size c_kept_squad_facts c_letters_size c_letters_signs c_numbers c_refusals c_lamp_reboundTenths c_lamp_lawInForce c_lamp_drawTenths c_lamp_solvedRows c_lamp_squad_size c_lamp_squad_facts c_lamp_changes c_lamp_values c_lamp_bests d_seconds d_lead d_ball d_rebound d_law d_draw d_players d_letters d_inRow d_imaged d_fouls d_calls d_side d_kind d_near d_far d_free d_letter d_row d_refusals d_image d_guard) {R R' V B : Nat → Int32} {n : Int32} (hr : ∀ k : Nat, 1 ≤ k → k < 7 → R k = R' k)
    (hs : r_Sol d_rebound d_law d_draw d_players d_side d_kind d_near d_far d_free d_guard V B n) :
    Rel c_isKept c_numbersSize c_now_told c_now_squad_size c_now_squad_facts c_kept_told c_kept_squad_size c_kept_squad_facts c_letters_size c_letters_signs c_numbers R c_lamp_reboundTenths c_lamp_lawInForce c_lamp_drawTenths n c_lamp_squad_size c_lamp_squad_facts c_lamp_changes V B d_seconds d_lead d_ball d_rebound d_law d_draw d_players d_letters d_inRow d_imaged d_fouls d_calls d_side d_kind d_near d_far d_free d_letter d_row R' d_image d_guard := by
  obtain ⟨h1, h2, h3, h4, h5, h6, h7, h8⟩ := hR
  exact ⟨h1, h2, h3, h4, h5, hr, h7, h8.1, h8.2.1, h8.2.2.1, h8.2.2.2.1, h8.2.2.2.2.1, h8.2.2.2.2.2.1, hs⟩
theorem r_ref {c_isKept : Int32} {c_numbersSize : Int32} {c_now_told : Nat → Int32} {c_now_squad_size : Int32} {c_now_squad_facts : Nat → Int32} {c_kept_told : Nat → Int32} {c_kept_squad_size : Int32} {c_kept_squad_facts : Nat → Int32} {c_letters_size : Int32} {c_letters_signs : Nat → Int32} {c_numbers : Nat → Int32} {c_refusals : Nat → Int32} {c_lamp_reboundTenths : Int32} {c_lamp_lawInForce : Int32} {c_lamp_drawTenths : Int32} {c_lamp_solvedRows : Int32} {c_lamp_squad_size : Int32} {c_lamp_squad_facts : Nat → Int32} {c_lamp_changes : Nat → Int32} {c_lamp_values : Nat → Int32} {c_lamp_bests : Nat → Int32} {d_seconds : Int32} {d_lead : Int32} {d_ball : Int32} {d_rebound : Int32} {d_law : Int32} {d_draw : Int32} {d_players : Int32} {d_letters : Int32} {d_inRow : Int32} {d_imaged : Int32} {d_fouls : Nat → Int32} {d_calls : Nat → Int32} {d_side : Nat → Int32} {d_kind : Nat → Int32} {d_near : Nat → Int32} {d_far : Nat → Int32} {d_free : Nat → Int32} {d_letter : Nat → Int32} {d_row : Nat → Int32} {d_refusals : Nat → Int32} {d_image : Nat → Int32} {d_guard : Nat → Int32} (hR : Rel c_isKept c_numbersSize c_now_told c_now_squad_size c_now_squad_facts c_kept_told c_kept_squad_size c_kept_squad_facts c_letters_size c_letters_signs c_numbers c_refusals c_lamp_reboundTenths c_lamp_lawInForce c_lamp_drawTenths c_lamp_solvedRows c_lamp_squad_size c_lamp_squad_facts c_lamp_changes c_lamp_values c_lamp_bests d_seconds d_lead d_ball d_rebound d_law d_draw d_players d_letters d_inRow d_imaged d_fouls d_calls d_side d_kind d_near d_far d_free d_letter d_row d_refusals d_image d_guard) : ∀ k : Nat, 1 ≤ k → k < 7 → c_refusals k = d_refusals k := hR.2.2.2.2.2.1
theorem r_sol {c_isKept : Int32} {c_numbersSize : Int32} {c_now_told : Nat → Int32} {c_now_squad_size : Int32} {c_now_squad_facts : Nat → Int32} {c_kept_told : Nat → Int32} {c_kept_squad_size : Int32} {c_kept_squad_facts : Nat → Int32} {c_letters_size : Int32} {c_letters_signs : Nat → Int32} {c_numbers : Nat → Int32} {c_refusals : Nat → Int32} {c_lamp_reboundTenths : Int32} {c_lamp_lawInForce : Int32} {c_lamp_drawTenths : Int32} {c_lamp_solvedRows : Int32} {c_lamp_squad_size : Int32} {c_lamp_squad_facts : Nat → Int32} {c_lamp_changes : Nat → Int32} {c_lamp_values : Nat → Int32} {c_lamp_bests : Nat → Int32} {d_seconds : Int32} {d_lead : Int32} {d_ball : Int32} {d_rebound : Int32} {d_law : Int32} {d_draw : Int32} {d_players : Int32} {d_letters : Int32} {d_inRow : Int32} {d_imaged : Int32} {d_fouls : Nat → Int32} {d_calls : Nat → Int32} {d_side : Nat → Int32} {d_kind : Nat → Int32} {d_near : Nat → Int32} {d_far : Nat → Int32} {d_free : Nat → Int32} {d_letter : Nat → Int32} {d_row : Nat → Int32} {d_refusals : Nat → Int32} {d_image : Nat → Int32} {d_guard : Nat → Int32} (hR : Rel c_isKept c_numbersSize c_now_told c_now_squad_size c_now_squad_facts c_kept_told c_kept_squad_size c_kept_squad_facts c_letters_size c_letters_signs c_numbers c_refusals c_lamp_reboundTenths c_lamp_lawInForce c_lamp_drawTenths c_lamp_solvedRows c_lamp_squad_size c_lamp_squad_facts c_lamp_changes c_lamp_values c_lamp_bests d_seconds d_lead d_ball d_rebound d_law d_draw d_players d_letters d_inRow d_imaged d_fouls d_calls d_side d_kind d_near d_far d_free d_letter d_row d_refusals d_image d_guard) : r_Sol d_rebound d_law d_draw d_players d_side d_kind d_near d_far d_free d_guard c_lamp_values c_lamp_bests c_lamp_solvedRows := hR.2.2.2.2.2.2.2.2.2.2.2.2.2
/-- what the numbers of the hall are -/
theorem r_told {c_isKept : Int32} {c_numbersSize : Int32} {c_now_told : Nat → Int32} {c_now_squad_size : Int32} {c_now_squad_facts : Nat → Int32} {c_kept_told : Nat → Int32} {c_kept_squad_size : Int32} {c_kept_squad_facts : Nat → Int32} {c_letters_size : Int32} {c_letters_signs : Nat → Int32} {c_numbers : Nat → Int32} {c_refusals : Nat → Int32} {c_lamp_reboundTenths : Int32} {c_lamp_lawInForce : Int32} {c_lamp_drawTenths : Int32} {c_lamp_solvedRows : Int32} {c_lamp_squad_size : Int32} {c_lamp_squad_facts : Nat → Int32} {c_lamp_changes : Nat → Int32} {c_lamp_values : Nat → Int32} {c_lamp_bests : Nat → Int32} {d_seconds : Int32} {d_lead : Int32} {d_ball : Int32} {d_rebound : Int32} {d_law : Int32} {d_draw : Int32} {d_players : Int32} {d_letters : Int32} {d_inRow : Int32} {d_imaged : Int32} {d_fouls : Nat → Int32} {d_calls : Nat → Int32} {d_side : Nat → Int32} {d_kind : Nat → Int32} {d_near : Nat → Int32} {d_far : Nat → Int32} {d_free : Nat → Int32} {d_letter : Nat → Int32} {d_row : Nat → Int32} {d_refusals : Nat → Int32} {d_image : Nat → Int32} {d_guard : Nat → Int32} (hR : Rel c_isKept c_numbersSize c_now_told c_now_squad_size c_now_squad_facts c_kept_told c_kept_squad_size c_kept_squad_facts c_letters_size c_letters_signs c_numbers c_refusals c_lamp_reboundTenths c_lamp_lawInForce c_lamp_drawTenths c_lamp_solvedRows c_lamp_squad_size c_lamp_squad_facts c_lamp_changes c_lamp_values c_lamp_bests d_seconds d_lead d_ball d_rebound d_law d_draw d_players d_letters d_inRow d_imaged d_fouls d_calls d_side d_kind d_near d_far d_free d_letter d_row d_refusals d_image d_guard) : c_now_told 0 = d_seconds ∧ c_now_told 1 = d_lead ∧ c_now_told 2 = d_ball ∧ c_now_told 3 = d_fouls 0 ∧ c_now_told 4 = d_fouls 1 ∧ c_now_told 5 = d_calls 0 ∧ c_now_told 6 = d_calls 1 ∧ c_now_told 7 = d_rebound ∧ c_now_told 8 = d_law ∧ c_now_told 9 = d_draw := by
  have h := hR.1.2.1
  exact ⟨h 0 (by omega), h 1 (by omega), h 2 (by omega), h 3 (by omega), h 4 (by omega), h 5 (by omega), h 6 (by omega), h 7 (by omega), h 8 (by omega), h 9 (by omega)⟩
theorem r_rng {c_isKept : Int32} {c_numbersSize : Int32} {c_now_told : Nat → Int32} {c_now_squad_size : Int32} {c_now_squad_facts : Nat → Int32} {c_kept_told : Nat → Int32} {c_kept_squad_size : Int32} {c_kept_squad_facts : Nat → Int32} {c_letters_size : Int32} {c_letters_signs : Nat → Int32} {c_numbers : Nat → Int32} {c_refusals : Nat → Int32} {c_lamp_reboundTenths : Int32} {c_lamp_lawInForce : Int32} {c_lamp_drawTenths : Int32} {c_lamp_solvedRows : Int32} {c_lamp_squad_size : Int32} {c_lamp_squad_facts : Nat → Int32} {c_lamp_changes : Nat → Int32} {c_lamp_values : Nat → Int32} {c_lamp_bests : Nat → Int32} {d_seconds : Int32} {d_lead : Int32} {d_ball : Int32} {d_rebound : Int32} {d_law : Int32} {d_draw : Int32} {d_players : Int32} {d_letters : Int32} {d_inRow : Int32} {d_imaged : Int32} {d_fouls : Nat → Int32} {d_calls : Nat → Int32} {d_side : Nat → Int32} {d_kind : Nat → Int32} {d_near : Nat → Int32} {d_far : Nat → Int32} {d_free : Nat → Int32} {d_letter : Nat → Int32} {d_row : Nat → Int32} {d_refusals : Nat → Int32} {d_image : Nat → Int32} {d_guard : Nat → Int32} (hR : Rel c_isKept c_numbersSize c_now_told c_now_squad_size c_now_squad_facts c_kept_told c_kept_squad_size c_kept_squad_facts c_letters_size c_letters_signs c_numbers c_refusals c_lamp_reboundTenths c_lamp_lawInForce c_lamp_drawTenths c_lamp_solvedRows c_lamp_squad_size c_lamp_squad_facts c_lamp_changes c_lamp_values c_lamp_bests d_seconds d_lead d_ball d_rebound d_law d_draw d_players d_letters d_inRow d_imaged d_fouls d_calls d_side d_kind d_near d_far d_free d_letter d_row d_refusals d_image d_guard) : m_S d_seconds d_lead d_ball ∧ m_P d_players ∧ r_in d_rebound 9 ∧ r_in d_law 3 ∧ r_in d_draw 9 := ⟨hR.2.1.1, hR.2.1.2.1, hR.2.1.2.2.1, hR.2.1.2.2.2.1, hR.2.1.2.2.2.2.1⟩
theorem r_sq {c_isKept : Int32} {c_numbersSize : Int32} {c_now_told : Nat → Int32} {c_now_squad_size : Int32} {c_now_squad_facts : Nat → Int32} {c_kept_told : Nat → Int32} {c_kept_squad_size : Int32} {c_kept_squad_facts : Nat → Int32} {c_letters_size : Int32} {c_letters_signs : Nat → Int32} {c_numbers : Nat → Int32} {c_refusals : Nat → Int32} {c_lamp_reboundTenths : Int32} {c_lamp_lawInForce : Int32} {c_lamp_drawTenths : Int32} {c_lamp_solvedRows : Int32} {c_lamp_squad_size : Int32} {c_lamp_squad_facts : Nat → Int32} {c_lamp_changes : Nat → Int32} {c_lamp_values : Nat → Int32} {c_lamp_bests : Nat → Int32} {d_seconds : Int32} {d_lead : Int32} {d_ball : Int32} {d_rebound : Int32} {d_law : Int32} {d_draw : Int32} {d_players : Int32} {d_letters : Int32} {d_inRow : Int32} {d_imaged : Int32} {d_fouls : Nat → Int32} {d_calls : Nat → Int32} {d_side : Nat → Int32} {d_kind : Nat → Int32} {d_near : Nat → Int32} {d_far : Nat → Int32} {d_free : Nat → Int32} {d_letter : Nat → Int32} {d_row : Nat → Int32} {d_refusals : Nat → Int32} {d_image : Nat → Int32} {d_guard : Nat → Int32} (hR : Rel c_isKept c_numbersSize c_now_told c_now_squad_size c_now_squad_facts c_kept_told c_kept_squad_size c_kept_squad_facts c_letters_size c_letters_signs c_numbers c_refusals c_lamp_reboundTenths c_lamp_lawInForce c_lamp_drawTenths c_lamp_solvedRows c_lamp_squad_size c_lamp_squad_facts c_lamp_changes c_lamp_values c_lamp_bests d_seconds d_lead d_ball d_rebound d_law d_draw d_players d_letters d_inRow d_imaged d_fouls d_calls d_side d_kind d_near d_far d_free d_letter d_row d_refusals d_image d_guard) : c_now_squad_size = d_players ∧ ∀ p : Nat, p < 6 → p_P c_now_squad_facts d_side d_kind d_near d_far d_free p := by
  refine ⟨hR.1.1, fun p hp => ?_⟩
  have h := hR.1.2.2 p hp
  have k := hR.2.1.2.2.2.2.2 p hp
  have e0 := h 0 (by omega)
  have e1 := h 1 (by omega)
  have e2 := h 2 (by omega)
  have e3 := h 3 (by omega)
  have e4 := h 4 (by omega)
  obtain ⟨q, hq⟩ : ∃ q : Fin 6, q.val = p := ⟨⟨p, hp⟩, rfl⟩
  subst hq
  revert h k e0 e1 e2 e3 e4
  match q with
  | ⟨0, _⟩ => exact fun h k e0 e1 e2 e3 e4 => ⟨⟨e0, e1, e2, e3, e4⟩, k⟩
  | ⟨1, _⟩ => exact fun h k e0 e1 e2 e3 e4 => ⟨⟨e0, e1, e2, e3, e4⟩, k⟩
  | ⟨2, _⟩ => exact fun h k e0 e1 e2 e3 e4 => ⟨⟨e0, e1, e2, e3, e4⟩, k⟩
  | ⟨3, _⟩ => exact fun h k e0 e1 e2 e3 e4 => ⟨⟨e0, e1, e2, e3, e4⟩, k⟩
  | ⟨4, _⟩ => exact fun h k e0 e1 e2 e3 e4 => ⟨⟨e0, e1, e2, e3, e4⟩, k⟩
  | ⟨5, _⟩ => exact fun h k e0 e1 e2 e3 e4 => ⟨⟨e0, e1, e2, e3, e4⟩, k⟩
theorem r_LR {c_isKept : Int32} {c_numbersSize : Int32} {c_now_told : Nat → Int32} {c_now_squad_size : Int32} {c_now_squad_facts : Nat → Int32} {c_kept_told : Nat → Int32} {c_kept_squad_size : Int32} {c_kept_squad_facts : Nat → Int32} {c_letters_size : Int32} {c_letters_signs : Nat → Int32} {c_numbers : Nat → Int32} {c_refusals : Nat → Int32} {c_lamp_reboundTenths : Int32} {c_lamp_lawInForce : Int32} {c_lamp_drawTenths : Int32} {c_lamp_solvedRows : Int32} {c_lamp_squad_size : Int32} {c_lamp_squad_facts : Nat → Int32} {c_lamp_changes : Nat → Int32} {c_lamp_values : Nat → Int32} {c_lamp_bests : Nat → Int32} {d_seconds : Int32} {d_lead : Int32} {d_ball : Int32} {d_rebound : Int32} {d_law : Int32} {d_draw : Int32} {d_players : Int32} {d_letters : Int32} {d_inRow : Int32} {d_imaged : Int32} {d_fouls : Nat → Int32} {d_calls : Nat → Int32} {d_side : Nat → Int32} {d_kind : Nat → Int32} {d_near : Nat → Int32} {d_far : Nat → Int32} {d_free : Nat → Int32} {d_letter : Nat → Int32} {d_row : Nat → Int32} {d_refusals : Nat → Int32} {d_image : Nat → Int32} {d_guard : Nat → Int32} (hR : Rel c_isKept c_numbersSize c_now_told c_now_squad_size c_now_squad_facts c_kept_told c_kept_squad_size c_kept_squad_facts c_letters_size c_letters_signs c_numbers c_refusals c_lamp_reboundTenths c_lamp_lawInForce c_lamp_drawTenths c_lamp_solvedRows c_lamp_squad_size c_lamp_squad_facts c_lamp_changes c_lamp_values c_lamp_bests d_seconds d_lead d_ball d_rebound d_law d_draw d_players d_letters d_inRow d_imaged d_fouls d_calls d_side d_kind d_near d_far d_free d_letter d_row d_refusals d_image d_guard) : p_LR c_lamp_squad_size c_lamp_squad_facts c_lamp_changes d_players d_side d_kind d_near d_far d_free d_guard := by
  obtain ⟨hs, hp⟩ := r_sq hR
  have h8 := hR.2.2.2.2.2.2.2
  refine ⟨h8.2.2.2.1, hR.2.1.2.1, fun p hq => ?_, fun p hq => Or.inl ⟨h8.2.2.2.2.2.1 p hq, hR.2.2.2.2.2.2.1 p hq⟩⟩
  have h := hp p hq
  have f := h8.2.2.2.2.1
  exact ⟨⟨(f _ (by omega)).trans h.1.1, (f _ (by omega)).trans h.1.2.1, (f _ (by omega)).trans h.1.2.2.1, (f _ (by omega)).trans h.1.2.2.2.1, (f _ (by omega)).trans h.1.2.2.2.2⟩, h.2⟩
theorem r_par {c_isKept : Int32} {c_numbersSize : Int32} {c_now_told : Nat → Int32} {c_now_squad_size : Int32} {c_now_squad_facts : Nat → Int32} {c_kept_told : Nat → Int32} {c_kept_squad_size : Int32} {c_kept_squad_facts : Nat → Int32} {c_letters_size : Int32} {c_letters_signs : Nat → Int32} {c_numbers : Nat → Int32} {c_refusals : Nat → Int32} {c_lamp_reboundTenths : Int32} {c_lamp_lawInForce : Int32} {c_lamp_drawTenths : Int32} {c_lamp_solvedRows : Int32} {c_lamp_squad_size : Int32} {c_lamp_squad_facts : Nat → Int32} {c_lamp_changes : Nat → Int32} {c_lamp_values : Nat → Int32} {c_lamp_bests : Nat → Int32} {d_seconds : Int32} {d_lead : Int32} {d_ball : Int32} {d_rebound : Int32} {d_law : Int32} {d_draw : Int32} {d_players : Int32} {d_letters : Int32} {d_inRow : Int32} {d_imaged : Int32} {d_fouls : Nat → Int32} {d_calls : Nat → Int32} {d_side : Nat → Int32} {d_kind : Nat → Int32} {d_near : Nat → Int32} {d_far : Nat → Int32} {d_free : Nat → Int32} {d_letter : Nat → Int32} {d_row : Nat → Int32} {d_refusals : Nat → Int32} {d_image : Nat → Int32} {d_guard : Nat → Int32} (hR : Rel c_isKept c_numbersSize c_now_told c_now_squad_size c_now_squad_facts c_kept_told c_kept_squad_size c_kept_squad_facts c_letters_size c_letters_signs c_numbers c_refusals c_lamp_reboundTenths c_lamp_lawInForce c_lamp_drawTenths c_lamp_solvedRows c_lamp_squad_size c_lamp_squad_facts c_lamp_changes c_lamp_values c_lamp_bests d_seconds d_lead d_ball d_rebound d_law d_draw d_players d_letters d_inRow d_imaged d_fouls d_calls d_side d_kind d_near d_far d_free d_letter d_row d_refusals d_image d_guard) : c_lamp_reboundTenths = d_rebound ∧ c_lamp_lawInForce = d_law ∧ c_lamp_drawTenths = d_draw := ⟨hR.2.2.2.2.2.2.2.1, hR.2.2.2.2.2.2.2.2.1, hR.2.2.2.2.2.2.2.2.2.1⟩

theorem p_oS (s l b : Int32) : (f_X4_outsideState s l b = 0 ∧ f_X5_noState s l b = 0 ∧ m_S s l b) ∨ (∃ n : Fin 7, 1 ≤ n.val ∧ f_X4_outsideState s l b = -Int32.ofNat n ∧ f_X5_noState s l b = -Int32.ofNat n ∧ ¬ -Int32.ofNat n = 0 ∧ ¬ 0 ≤ -Int32.ofNat n) := by
  unfold f_X4_outsideState f_X5_noState m_S m_Sec m_Ld m_Bl
  by_cases h1 : s < 0
  · rw [if_pos h1]; exact Or.inr ⟨4, by decide, rfl, rfl, by decide, by decide⟩
  rw [if_neg h1]
  by_cases h2 : l < 0
  · rw [if_pos h2]; exact Or.inr ⟨4, by decide, rfl, rfl, by decide, by decide⟩
  rw [if_neg h2]
  by_cases h3 : 0 ≤ b
  · rw [if_pos h3]
    by_cases h4 : 24 < s
    · rw [if_pos h4]; exact Or.inr ⟨6, by decide, rfl, rfl, by decide, by decide⟩
    rw [if_neg h4]
    by_cases h5 : 12 < l
    · rw [if_pos h5]; exact Or.inr ⟨6, by decide, rfl, rfl, by decide, by decide⟩
    rw [if_neg h5]
    by_cases h6 : b ≤ 1
    · rw [if_pos h6]
      exact Or.inl ⟨rfl, rfl, ⟨Int32.not_lt.1 h1, Int32.not_lt.1 h4⟩, ⟨Int32.not_lt.1 h2, Int32.not_lt.1 h5⟩, h3, h6⟩
    · rw [if_neg h6]; exact Or.inr ⟨6, by decide, rfl, rfl, by decide, by decide⟩
  · rw [if_neg h3]; exact Or.inr ⟨4, by decide, rfl, rfl, by decide, by decide⟩
theorem p_t0 (t : Nat → Int32) : f_X0_told t 0 = t 0 ∧ f_X0_told t 1 = t 1 ∧ f_X0_told t 2 = t 2 ∧ f_X0_told t 3 = t 3 ∧ f_X0_told t 4 = t 4 ∧ f_X0_told t 5 = t 5 ∧ f_X0_told t 6 = t 6 ∧ f_X0_told t 7 = t 7 ∧ f_X0_told t 8 = t 8 ∧ f_X0_told t 9 = t 9 := by
  refine ⟨rfl, rfl, rfl, rfl, rfl, rfl, rfl, rfl, rfl, rfl⟩
theorem p_nowC {c_isKept : Int32} {c_numbersSize : Int32} {c_now_told : Nat → Int32} {c_now_squad_size : Int32} {c_now_squad_facts : Nat → Int32} {c_kept_told : Nat → Int32} {c_kept_squad_size : Int32} {c_kept_squad_facts : Nat → Int32} {c_letters_size : Int32} {c_letters_signs : Nat → Int32} {c_numbers : Nat → Int32} {c_refusals : Nat → Int32} {c_lamp_reboundTenths : Int32} {c_lamp_lawInForce : Int32} {c_lamp_drawTenths : Int32} {c_lamp_solvedRows : Int32} {c_lamp_squad_size : Int32} {c_lamp_squad_facts : Nat → Int32} {c_lamp_changes : Nat → Int32} {c_lamp_values : Nat → Int32} {c_lamp_bests : Nat → Int32} {d_seconds : Int32} {d_lead : Int32} {d_ball : Int32} {d_rebound : Int32} {d_law : Int32} {d_draw : Int32} {d_players : Int32} {d_letters : Int32} {d_inRow : Int32} {d_imaged : Int32} {d_fouls : Nat → Int32} {d_calls : Nat → Int32} {d_side : Nat → Int32} {d_kind : Nat → Int32} {d_near : Nat → Int32} {d_far : Nat → Int32} {d_free : Nat → Int32} {d_letter : Nat → Int32} {d_row : Nat → Int32} {d_refusals : Nat → Int32} {d_image : Nat → Int32} {d_guard : Nat → Int32} (hR : Rel c_isKept c_numbersSize c_now_told c_now_squad_size c_now_squad_facts c_kept_told c_kept_squad_size c_kept_squad_facts c_letters_size c_letters_signs c_numbers c_refusals c_lamp_reboundTenths c_lamp_lawInForce c_lamp_drawTenths c_lamp_solvedRows c_lamp_squad_size c_lamp_squad_facts c_lamp_changes c_lamp_values c_lamp_bests d_seconds d_lead d_ball d_rebound d_law d_draw d_players d_letters d_inRow d_imaged d_fouls d_calls d_side d_kind d_near d_far d_free d_letter d_row d_refusals d_image d_guard) (rT0 hv0 mv0 W : Nat → Int32) :
    ∃ n' V' B' rT hv mv, f_X4_valueNow c_now_told c_lamp_reboundTenths c_lamp_lawInForce c_lamp_drawTenths c_lamp_solvedRows c_lamp_squad_size c_lamp_squad_facts c_lamp_changes c_lamp_values c_lamp_bests rT0 hv0 mv0 = (f_X5_valueOf (f_X5_solve d_rebound d_law d_draw d_players d_side d_kind d_near d_far d_free d_guard W) d_seconds d_lead d_ball, n', V', B', rT, hv, mv) ∧
      r_Sol d_rebound d_law d_draw d_players d_side d_kind d_near d_far d_free d_guard V' B' n' ∧ d_seconds < n' := by
  obtain ⟨a1, a2, a3⟩ := r_par hR
  obtain ⟨hS, -, hr, -, hd⟩ := r_rng hR
  obtain ⟨t0, t1, t2, -⟩ := r_told hR
  obtain ⟨n', V', B', rT, hv, mv, g1, g2, g3⟩ := p_solveTo (r_LR hR) hr hd hS.1 rT0 hv0 mv0 (r_sol hR)
  have ag := (p_agree (r_LR hR) hr hd W g2 hS g3).1
  refine ⟨n', V', B', rT, hv, mv, ?_, g2, g3⟩
  unfold f_X4_valueNow
  obtain ⟨k0, k1, k2, -⟩ := p_t0 c_now_told
  rw [p_lt, k0, t0, a1, a2, a3, g1, p_lt, p_lt, k1, t1, p_lt, k2, t2, p_lt, ag]
theorem p_out (x N : Int32) : (0 ≤ x ∧ x ≤ N ∧ f_X4_outside x N = 0) ∨ (0 ≤ x ∧ ¬ x ≤ N ∧ f_X4_outside x N = -6) ∨ (¬ 0 ≤ x ∧ f_X4_outside x N = -4) := by
  unfold f_X4_outside
  by_cases a : 0 ≤ x
  · rw [if_pos a]
    by_cases b : x ≤ N
    · rw [if_pos b]; exact Or.inl ⟨a, b, rfl⟩
    · rw [if_neg b]; exact Or.inr (Or.inl ⟨a, b, rfl⟩)
  · rw [if_neg a]; exact Or.inr (Or.inr ⟨a, rfl⟩)
theorem p_has {size players : Int32} (h : size = players) (hP : m_P players) (p : Int32) :
    (∃ q : Fin 6, p = Int32.ofNat q ∧ Int32.ofNat q < players ∧ f_X3_has size p = 1 ∧ f_X5_isOne players p = 1) ∨ (f_X3_has size p = 0 ∧ f_X5_isOne players p = 0) := by
  subst h
  obtain ⟨m, rfl⟩ := pe_nat 6 hP.1 hP.2 (by decide)
  unfold f_X3_has f_X5_isOne f_X5_within
  rw [p_lt]
  by_cases a : p < 0
  · rw [if_pos a, if_pos a]; exact Or.inr ⟨rfl, rfl⟩
  · rw [if_neg a, if_neg a]
    by_cases b : Int32.ofNat m ≤ p
    · have c : Int32.ofNat m - 1 < p := Int32.lt_of_lt_of_le ((by decide : ∀ m : Fin 7, Int32.ofNat m - 1 < Int32.ofNat m) m) b
      rw [if_pos b, if_pos c]; exact Or.inr ⟨rfl, rfl⟩
    · have b' := Int32.not_le.1 b
      have a' := Int32.not_lt.1 a
      obtain ⟨q, rfl⟩ := pe_nat 5 a' (by
        have h1 := Int32.lt_iff_toInt_lt.1 b'
        have h2 : (Int32.ofNat m).toInt = m.val := (by decide : ∀ m : Fin 7, (Int32.ofNat m).toInt = m.val) m
        have h3 := m.isLt
        rw [Int32.le_iff_toInt_le, (by decide : (Int32.ofNat 5).toInt = 5)]; omega) (by decide)
      have c : ¬ Int32.ofNat m - 1 < Int32.ofNat q := (by decide : ∀ (m : Fin 7) (q : Fin 6), Int32.ofNat q < Int32.ofNat m → ¬ Int32.ofNat m - 1 < Int32.ofNat q) m q b'
      rw [if_neg b, if_neg c]; exact Or.inl ⟨q, rfl, b', rfl, rfl⟩
theorem p_ours {size players : Int32} {facts side kind near far free : Nat → Int32} (h : size = players) (hP : m_P players) (hp : ∀ p : Nat, p < 6 → p_P facts side kind near far free p) :
    f_X3_ofSide size facts 0 = f_X5_ours players side := by
  subst h
  obtain ⟨m, rfl⟩ := pe_nat 6 hP.1 hP.2 (by decide)
  have key : ∀ (k p : Nat) (v : Int32), p + k = m.val → L_X3_ofSide_4 0 (Int32.ofNat m) facts (fun v2_4 v3_4 => v2_4) (k + 1) v (Int32.ofNat p) = L_X5_ours_4 (Int32.ofNat m) side (fun v1_4 v2_4 => v1_4) (k + 1) v (Int32.ofNat p) := by
    intro k
    induction k with
    | zero =>
      intro p v h
      have e : Int32.ofNat m ≤ Int32.ofNat p := by rw [show p = m.val by omega]; exact Int32.le_refl _
      rw [L_X3_ofSide_4, L_X5_ours_4, if_pos e, if_pos e]
    | succ k ih =>
      intro p v h
      have hm := m.isLt
      have e : ¬ Int32.ofNat m ≤ Int32.ofNat p := (by decide : ∀ m p : Fin 7, p.val < m.val → ¬ Int32.ofNat m ≤ Int32.ofNat p) m ⟨p, by omega⟩ (by show p < m.val; omega)
      have e2 : Int32.ofNat p + 1 = Int32.ofNat (p + 1) := (by decide : ∀ p : Fin 7, Int32.ofNat p + 1 = Int32.ofNat (p.val + 1)) ⟨p, by omega⟩
      have f0 : f_X3_fact facts (Int32.ofNat p) 0 = side p := by rw [← (hp p (by omega)).1.1]; exact p_fact facts ⟨p, by omega⟩ 0
      have f1 : (Int32.ofNat p).toNatClampNeg = p := p_nat6 ⟨p, by omega⟩
      rw [L_X3_ofSide_4, L_X5_ours_4, if_neg e, if_neg e, p_lt, f0, f1, e2]
      by_cases hs : side p = 0
      · rw [if_pos hs, if_pos hs]; exact ih (p + 1) (v + 1) (by omega)
      · rw [if_neg hs, if_neg hs, Int32.add_zero]; exact ih (p + 1) v (by omega)
  unfold f_X3_ofSide f_X5_ours
  have ef : ((Int32.ofNat m).toInt - (0 : Int32).toInt).toNat + 1 = m.val + 1 := (by decide : ∀ m : Fin 7, ((Int32.ofNat m).toInt - (0 : Int32).toInt).toNat + 1 = m.val + 1) m
  rw [ef]
  exact key m.val 0 0 (by omega)
theorem p_five {x : Int32} (h0 : 0 ≤ x) (h1 : x ≤ 4) : x = 0 ∨ x = 1 ∨ x = 2 ∨ x = 3 ∨ x = 4 := by
  obtain ⟨n, rfl⟩ := pe_nat 4 h0 h1 (by decide)
  exact (by decide : ∀ n : Fin 5, Int32.ofNat n = 0 ∨ Int32.ofNat n = 1 ∨ Int32.ofNat n = 2 ∨ Int32.ofNat n = 3 ∨ Int32.ofNat n = 4) n

theorem p_h4 (s z : Int32) (R : Nat → Int32) (K : Int32 → Int32 → Int32 × (Nat → Int32)) (n : Nat) (v c : Int32) (hc : ¬ 3 ≤ c) :
    L_X4_hand_22 s z R K (n + 1) v c = L_X4_hand_22 s z R K n (if s < f_X4_takes c then v else v ||| (1 <<< (c &&& 31))) (c + 1) := by
  rw [L_X4_hand_22, if_neg hc, p_lt]
  by_cases h : s < f_X4_takes c
  · rw [if_pos h, if_pos h]
  · rw [if_neg h, if_neg h]
theorem p_h5 (s : Int32) (R : Nat → Int32) (K : Int32 → Int32 → Int32 × (Nat → Int32)) (n : Nat) (v c : Int32) (hc : ¬ 3 ≤ c) :
    L_X5_hand_28 s R K (n + 1) v c = L_X5_hand_28 s R K n (if s < f_X5_takes c then v else v ||| (1 <<< (c &&& 31))) (c + 1) := by
  rw [L_X5_hand_28, if_neg hc, p_lt]
  by_cases h : s < f_X5_takes c
  · rw [if_pos h, if_pos h]
  · rw [if_neg h, if_neg h]
def p_hs (s v c : Int32) : Int32 := if s < f_X5_takes c then v else v ||| (1 <<< (c &&& 31))
def p_hb (s : Int32) : Int32 := p_hs s (p_hs s (p_hs s 0 0) 1) 2
theorem p_hand (s z : Int32) (R R' : Nat → Int32) (K K' : Int32 → Int32 → Int32 × (Nat → Int32)) :
    L_X4_hand_22 s z R K 4 0 0 = K (p_hb s) 3 ∧ L_X5_hand_28 s R' K' 4 0 0 = K' (p_hb s) 3 := by
  constructor
  · rw [p_h4 s z R K 3 0 0 (by decide), p_h4 s z R K 2 _ (0 + 1) (by decide), p_h4 s z R K 1 _ (0 + 1 + 1) (by decide), L_X4_hand_22, if_pos (by decide), (by decide : (0 : Int32) + 1 = 1), (by decide : (1 : Int32) + 1 = 2), (by decide : (2 : Int32) + 1 = 3),
      (by decide : f_X4_takes 0 = f_X5_takes 0), (by decide : f_X4_takes 1 = f_X5_takes 1), (by decide : f_X4_takes 2 = f_X5_takes 2)]
    rfl
  · rw [p_h5 s R' K' 3 0 0 (by decide), p_h5 s R' K' 2 _ (0 + 1) (by decide), p_h5 s R' K' 1 _ (0 + 1 + 1) (by decide), L_X5_hand_28, if_pos (by decide), (by decide : (0 : Int32) + 1 = 1), (by decide : (1 : Int32) + 1 = 2), (by decide : (2 : Int32) + 1 = 3)]
    rfl
theorem p_sec1 {s : Int32} (hs : m_Sec s) (h : ¬ s = 0) : m_Sec (s - 1) ∧ s - 1 ≤ s := by
  obtain ⟨n, rfl⟩ := pe_s hs
  clear hs; unfold m_Sec; revert h; revert n; decide
theorem p_choice_ne (rebound law draw players : Int32) (side kind near far free guard W : Nat → Int32) (s l b : Int32) (hP : m_P players) :
    0 ≤ f_X5_choice rebound law draw players side kind near far free guard W s l b := by
  obtain ⟨m, rfl⟩ := pe_nat 6 hP.1 hP.2 (by decide)
  have hm : m.val ≤ 6 := by have := m.isLt; omega
  have hc := congrArg Prod.snd (p_choice rebound law draw (Int32.ofNat m) side kind near far free guard W s l b m.val hm rfl)
  simp only at hc
  rw [hc]
  rcases p_foldr_mem b (f_X5_ofHold draw W s l b, 93) (p_Cd (p_sh rebound law draw kind near far free guard W s l b) (p_pl side guard b) 0 m.val) with h | ⟨q, hq, h⟩
  · rw [h]; show (0 : Int32) ≤ 93; decide
  · rw [h]
    obtain ⟨p, c, h1, h2, h3⟩ := p_Cd_code _ _ m.val hm q hq
    rw [h3]; exact (p_code0 p c).1


theorem p_overN {c_isKept : Int32} {c_numbersSize : Int32} {c_now_told : Nat → Int32} {c_now_squad_size : Int32} {c_now_squad_facts : Nat → Int32} {c_kept_told : Nat → Int32} {c_kept_squad_size : Int32} {c_kept_squad_facts : Nat → Int32} {c_letters_size : Int32} {c_letters_signs : Nat → Int32} {c_numbers : Nat → Int32} {c_refusals : Nat → Int32} {c_lamp_reboundTenths : Int32} {c_lamp_lawInForce : Int32} {c_lamp_drawTenths : Int32} {c_lamp_solvedRows : Int32} {c_lamp_squad_size : Int32} {c_lamp_squad_facts : Nat → Int32} {c_lamp_changes : Nat → Int32} {c_lamp_values : Nat → Int32} {c_lamp_bests : Nat → Int32} {d_seconds : Int32} {d_lead : Int32} {d_ball : Int32} {d_rebound : Int32} {d_law : Int32} {d_draw : Int32} {d_players : Int32} {d_letters : Int32} {d_inRow : Int32} {d_imaged : Int32} {d_fouls : Nat → Int32} {d_calls : Nat → Int32} {d_side : Nat → Int32} {d_kind : Nat → Int32} {d_near : Nat → Int32} {d_far : Nat → Int32} {d_free : Nat → Int32} {d_letter : Nat → Int32} {d_row : Nat → Int32} {d_refusals : Nat → Int32} {d_image : Nat → Int32} {d_guard : Nat → Int32} (hR : Rel c_isKept c_numbersSize c_now_told c_now_squad_size c_now_squad_facts c_kept_told c_kept_squad_size c_kept_squad_facts c_letters_size c_letters_signs c_numbers c_refusals c_lamp_reboundTenths c_lamp_lawInForce c_lamp_drawTenths c_lamp_solvedRows c_lamp_squad_size c_lamp_squad_facts c_lamp_changes c_lamp_values c_lamp_bests d_seconds d_lead d_ball d_rebound d_law d_draw d_players d_letters d_inRow d_imaged d_fouls d_calls d_side d_kind d_near d_far d_free d_letter d_row d_refusals d_image d_guard) : f_X4_isOverNow c_now_told c_lamp_lawInForce = f_X5_ended d_law d_seconds d_lead := by
  obtain ⟨a1, a2, a3⟩ := r_par hR
  obtain ⟨hS, -⟩ := r_rng hR
  obtain ⟨t0, t1, t2, -⟩ := r_told hR
  obtain ⟨k0, k1, k2, -⟩ := p_t0 c_now_told
  unfold f_X4_isOverNow
  rw [p_lt, k0, t0, p_lt, k1, t1, p_lt, a2]
  exact p_isOver d_law hS.1 hS.2.1
theorem p_may {c_isKept : Int32} {c_numbersSize : Int32} {c_now_told : Nat → Int32} {c_now_squad_size : Int32} {c_now_squad_facts : Nat → Int32} {c_kept_told : Nat → Int32} {c_kept_squad_size : Int32} {c_kept_squad_facts : Nat → Int32} {c_letters_size : Int32} {c_letters_signs : Nat → Int32} {c_numbers : Nat → Int32} {c_refusals : Nat → Int32} {c_lamp_reboundTenths : Int32} {c_lamp_lawInForce : Int32} {c_lamp_drawTenths : Int32} {c_lamp_solvedRows : Int32} {c_lamp_squad_size : Int32} {c_lamp_squad_facts : Nat → Int32} {c_lamp_changes : Nat → Int32} {c_lamp_values : Nat → Int32} {c_lamp_bests : Nat → Int32} {d_seconds : Int32} {d_lead : Int32} {d_ball : Int32} {d_rebound : Int32} {d_law : Int32} {d_draw : Int32} {d_players : Int32} {d_letters : Int32} {d_inRow : Int32} {d_imaged : Int32} {d_fouls : Nat → Int32} {d_calls : Nat → Int32} {d_side : Nat → Int32} {d_kind : Nat → Int32} {d_near : Nat → Int32} {d_far : Nat → Int32} {d_free : Nat → Int32} {d_letter : Nat → Int32} {d_row : Nat → Int32} {d_refusals : Nat → Int32} {d_image : Nat → Int32} {d_guard : Nat → Int32} (hR : Rel c_isKept c_numbersSize c_now_told c_now_squad_size c_now_squad_facts c_kept_told c_kept_squad_size c_kept_squad_facts c_letters_size c_letters_signs c_numbers c_refusals c_lamp_reboundTenths c_lamp_lawInForce c_lamp_drawTenths c_lamp_solvedRows c_lamp_squad_size c_lamp_squad_facts c_lamp_changes c_lamp_values c_lamp_bests d_seconds d_lead d_ball d_rebound d_law d_draw d_players d_letters d_inRow d_imaged d_fouls d_calls d_side d_kind d_near d_far d_free d_letter d_row d_refusals d_image d_guard) : (f_X4_mayFoul c_now_told c_lamp_lawInForce = 1 ∧ f_X5_noFoul d_seconds d_lead d_ball d_law d_fouls = 0 ∧ d_ball = 1 ∧ f_X5_ended d_law d_seconds d_lead = 0) ∨ (f_X4_mayFoul c_now_told c_lamp_lawInForce = 0 ∧ f_X5_noFoul d_seconds d_lead d_ball d_law d_fouls = 1) := by
  have ho := p_overN hR
  obtain ⟨hS, -⟩ := r_rng hR
  obtain ⟨t0, t1, t2, t3, -⟩ := r_told hR
  obtain ⟨k0, k1, k2, k3, -⟩ := p_t0 c_now_told
  unfold f_X4_mayFoul f_X5_noFoul
  rw [p_lt, k2, t2]
  rcases pe_b hS.2.2 with hb | hb
  · rw [if_neg (by rw [hb]; decide), if_pos hb]; exact Or.inr ⟨rfl, rfl⟩
  · rw [if_pos hb, if_neg (by rw [hb]; decide)]
    by_cases h0 : f_X5_ended d_law d_seconds d_lead = 0
    · simp only [p_lt, ho, k3, t3, if_pos h0, (by decide : g_tabG.getD (3 : Int32).toNatClampNeg 0 = 5), (by decide : (0 : Int32).toNatClampNeg = 0)]
      by_cases hf : d_fouls 0 ≤ 4
      · have hf2 : ¬ 5 ≤ d_fouls 0 := fun h => absurd (Int32.le_trans h hf) (by decide)
        simp only [if_pos hf, if_neg hf2]; first | exact Or.inl ⟨rfl, rfl, hb, h0⟩ | simp [hb, h0]
      · have hf2 : 5 ≤ d_fouls 0 := by
          have := Int32.not_le.1 hf
          rw [Int32.lt_iff_toInt_lt, (by decide : (4 : Int32).toInt = 4)] at this
          rw [Int32.le_iff_toInt_le, (by decide : (5 : Int32).toInt = 5)]; omega
        simp only [if_neg hf, if_pos hf2]; first | exact Or.inr ⟨rfl, rfl⟩ | simp
    · simp only [p_lt, ho, if_neg h0]; first | exact Or.inr ⟨rfl, rfl⟩ | simp
theorem p_clip (k : Fin 13) : f_X4_heldLead (Int32.ofNat k + 1) = g_maxf 0 (g_minf 12 (Int32.ofNat k + 1)) ∧ f_X4_heldLead (f_X4_heldLead (Int32.ofNat k + 1) + 1) = g_maxf 0 (g_minf 12 (Int32.ofNat k + (2 * 1))) ∧ f_X4_heldLead (Int32.ofNat k + (-1)) = g_maxf 0 (g_minf 12 (Int32.ofNat k + (-1))) ∧ f_X4_heldLead (f_X4_heldLead (Int32.ofNat k + (-1)) + (-1)) = g_maxf 0 (g_minf 12 (Int32.ofNat k + (2 * (-1)))) := by
  unfold g_maxf g_minf; revert k; decide
/-- two free ones, over a lamp that is solved so far -/
theorem p_two {c_isKept : Int32} {c_numbersSize : Int32} {c_now_told : Nat → Int32} {c_now_squad_size : Int32} {c_now_squad_facts : Nat → Int32} {c_kept_told : Nat → Int32} {c_kept_squad_size : Int32} {c_kept_squad_facts : Nat → Int32} {c_letters_size : Int32} {c_letters_signs : Nat → Int32} {c_numbers : Nat → Int32} {c_refusals : Nat → Int32} {c_lamp_reboundTenths : Int32} {c_lamp_lawInForce : Int32} {c_lamp_drawTenths : Int32} {c_lamp_solvedRows : Int32} {c_lamp_squad_size : Int32} {c_lamp_squad_facts : Nat → Int32} {c_lamp_changes : Nat → Int32} {c_lamp_values : Nat → Int32} {c_lamp_bests : Nat → Int32} {d_seconds : Int32} {d_lead : Int32} {d_ball : Int32} {d_rebound : Int32} {d_law : Int32} {d_draw : Int32} {d_players : Int32} {d_letters : Int32} {d_inRow : Int32} {d_imaged : Int32} {d_fouls : Nat → Int32} {d_calls : Nat → Int32} {d_side : Nat → Int32} {d_kind : Nat → Int32} {d_near : Nat → Int32} {d_far : Nat → Int32} {d_free : Nat → Int32} {d_letter : Nat → Int32} {d_row : Nat → Int32} {d_refusals : Nat → Int32} {d_image : Nat → Int32} {d_guard : Nat → Int32} (hR : Rel c_isKept c_numbersSize c_now_told c_now_squad_size c_now_squad_facts c_kept_told c_kept_squad_size c_kept_squad_facts c_letters_size c_letters_signs c_numbers c_refusals c_lamp_reboundTenths c_lamp_lawInForce c_lamp_drawTenths c_lamp_solvedRows c_lamp_squad_size c_lamp_squad_facts c_lamp_changes c_lamp_values c_lamp_bests d_seconds d_lead d_ball d_rebound d_law d_draw d_players d_letters d_inRow d_imaged d_fouls d_calls d_side d_kind d_near d_far d_free d_letter d_row d_refusals d_image d_guard) {n : Int32} {V B : Nat → Int32} (rT0 hv0 mv0 W : Nat → Int32) (hSol : r_Sol d_rebound d_law d_draw d_players d_side d_kind d_near d_far d_free d_guard V B n) (q : Fin 6) (s2 b2 pt : Int32) (hs2 : m_Sec s2) (hle : s2 ≤ d_seconds) (hb2 : m_Bl b2) (hpt : (d_side q = 0 ∧ pt = 1) ∨ (d_side q = 1 ∧ pt = -1)) :
    ∃ n' V' B' rT hv mv, f_X4_valueOfTwoFree c_now_told c_now_squad_facts c_lamp_reboundTenths c_lamp_lawInForce c_lamp_drawTenths n c_lamp_squad_size c_lamp_squad_facts c_lamp_changes V B rT0 hv0 mv0 (Int32.ofNat q) s2 b2 = (f_X5_twoFree d_seconds d_lead d_kind d_near d_far d_free (f_X5_solve d_rebound d_law d_draw d_players d_side d_kind d_near d_far d_free d_guard W) (Int32.ofNat q) s2 pt b2, n', V', B', rT, hv, mv) ∧
      r_Sol d_rebound d_law d_draw d_players d_side d_kind d_near d_far d_free d_guard V' B' n' ∧ d_seconds < n' := by
  obtain ⟨a1, a2, a3⟩ := r_par hR
  obtain ⟨hS, -, hr, -, hd⟩ := r_rng hR
  obtain ⟨t0, t1, t2, -⟩ := r_told hR
  obtain ⟨k0, k1, k2, -⟩ := p_t0 c_now_told
  obtain ⟨hsz, hp⟩ := r_sq hR
  have f := hp q q.isLt
  obtain ⟨n', V', B', rT, hv, mv, g1, g2, g3⟩ := p_solveTo (r_LR hR) hr hd hS.1 rT0 hv0 mv0 hSol
  have hlt := Int32.lt_of_le_of_lt hle g3
  have ag := fun (l : Int32) (hl : m_Ld l) => p_agree (r_LR hR) hr hd W g2 (s := s2) (l := l) (b := b2) ⟨hs2, hl, hb2⟩ hlt
  obtain ⟨kk, hkk⟩ := pe_l hS.2.1
  obtain ⟨c1, c2, c3, c4⟩ := p_clip kk
  rw [← hkk] at c1 c2 c3 c4
  obtain ⟨ht, htr⟩ := p_tn2 q d_seconds f
  have f0 : f_X3_fact c_now_squad_facts (Int32.ofNat q) 0 = d_side q := by rw [← f.1.1]; exact p_fact c_now_squad_facts q 0
  refine ⟨n', V', B', rT, hv, mv, ?_, g2, g3⟩
  unfold f_X4_valueOfTwoFree
  rw [p_lt, k0, t0, p_lt, a1, a2, a3, g1, p_lt, p_lt, p_lt, f0, ht]
  have A0 := ag _ hS.2.1
  rcases hpt with ⟨hq, rfl⟩ | ⟨hq, rfl⟩
  · have A1 := ag _ (p_hv (d_lead + 1))
    have A2 := ag _ (p_hv (f_X4_heldLead (d_lead + 1) + 1))
    rw [if_pos hq, p_lt, k1, t1, p_lt, p_lt, p_lt, p_lt, p_lt, p_lt, p_lt, p_lt, A0.1, A1.1, A2.1]
    unfold f_X5_twoFree
    rw [p_lt, p_lt, p_lt, p_lt, ← c1, ← c2, p_mix64 (p_t10 htr) A2.2.2 A1.2.2, p_mix64 (p_t10 htr) A1.2.2 A0.2.2]
    rfl
  · have A1 := ag _ (p_hv (d_lead + (-1)))
    have A2 := ag _ (p_hv (f_X4_heldLead (d_lead + (-1)) + (-1)))
    rw [if_neg (by rw [hq]; decide), p_lt, k1, t1, p_lt, p_lt, p_lt, p_lt, p_lt, p_lt, p_lt, p_lt, A0.1, A1.1, A2.1]
    unfold f_X5_twoFree
    rw [p_lt, p_lt, p_lt, p_lt, ← c3, ← c4, p_mix64 (p_t10 htr) A2.2.2 A1.2.2, p_mix64 (p_t10 htr) A1.2.2 A0.2.2]
    rfl
theorem p_os01 (l b : Int32) : f_X5_noState 1 l b = f_X4_outsideState 0 l b := by
  unfold f_X5_noState f_X4_outsideState
  rw [if_neg (by decide : ¬ (1 : Int32) < 0), if_neg (by decide : ¬ (0 : Int32) < 0), if_neg (by decide : ¬ (24 : Int32) < 1), if_neg (by decide : ¬ (24 : Int32) < 0)]
section
variable {reb law draw size players : Int32} {facts changes side kind near far free guard : Nat → Int32}
theorem p_from (hL : p_LR size facts changes players side kind near far free guard) (hr : r_in reb 9) (hd : r_in draw 9) {V B : Nat → Int32} {n : Int32} (W : Nat → Int32)
    (h : r_Sol reb law draw players side kind near far free guard V B n) (hn : 24 < n) {l b z z' : Int32} (hl : m_Ld l) (hb : m_Bl b) (R R' rT hv mv : Nat → Int32)
    (K : Int32 → Int32 × (Nat → Int32) × Int32 × (Nat → Int32) × (Nat → Int32) × (Nat → Int32) × (Nat → Int32) × (Nat → Int32)) (K' : Int32 → Int32 × (Nat → Int32) × (Nat → Int32)) :
    ∀ (j i : Nat), i + j = 24 → ∃ v, L_X4_from_29 l b z R reb law draw n size facts changes V B rT hv mv K (j + 1) (Int32.ofNat i) = K v ∧
      L_X5_from_25 l b z' reb law draw players side kind near far free R' guard (f_X5_solve reb law draw players side kind near far free guard W) K' (j + 1) (Int32.ofNat i) = K' v
  | 0, i, e => by
      have e : i = 24 := by omega
      subst e
      refine ⟨Int32.ofNat 24, ?_, ?_⟩
      · rw [L_X4_from_29, if_pos (by decide)]
      · rw [L_X5_from_25, if_pos (by decide)]
  | j + 1, i, e => by
      have hi : i < 24 := by omega
      obtain ⟨e1, e2, e3, e4⟩ := (by decide : ∀ i : Fin 24, ¬ 24 ≤ Int32.ofNat i ∧ Int32.ofNat i + 1 = Int32.ofNat (i.val + 1) ∧ 0 ≤ Int32.ofNat (i.val + 1) ∧ Int32.ofNat (i.val + 1) ≤ 24) ⟨i, hi⟩
      have hS : m_S (Int32.ofNat (i + 1)) l b := ⟨⟨e3, e4⟩, hl, hb⟩
      have ag := (p_agree hL hr hd W h hS (Int32.lt_of_le_of_lt e4 hn)).2.1
      have ih := p_from hL hr hd W h hn (z := z) (z' := z') hl hb R R' rT hv mv K K' j (i + 1) (by omega)
      unfold m_bst at ag
      rw [L_X4_from_29, L_X5_from_25, if_neg e1, if_neg e1, p_lt, p_lt, e2]
      by_cases h0 : f_X5_ended law (Int32.ofNat (i + 1)) l = 0
      · rw [if_pos h0] at ag
        rw [if_pos h0, p_lt]
        by_cases h9 : f_X5_choice reb law draw players side kind near far free guard (f_X5_solve reb law draw players side kind near far free guard W) (Int32.ofNat (i + 1)) l b = 93
        · have es : f_X4_isShotBest B (Int32.ofNat (i + 1)) l b = 0 := by
            unfold f_X4_isShotBest; rw [p_lt, ag, if_pos h9]
          rw [if_pos h9, if_pos es]
          exact ⟨_, rfl, rfl⟩
        · have hne : ¬ f_X5_choice reb law draw players side kind near far free guard (f_X5_solve reb law draw players side kind near far free guard W) (Int32.ofNat (i + 1)) l b = -9 := by
            intro h
            have := p_choice_ne reb law draw players side kind near far free guard (f_X5_solve reb law draw players side kind near far free guard W) (Int32.ofNat (i + 1)) l b hL.2.1
            rw [h] at this; exact absurd this (by decide)
          have es : ¬ f_X4_isShotBest B (Int32.ofNat (i + 1)) l b = 0 := by
            unfold f_X4_isShotBest; rw [p_lt, ag, if_neg h9, if_neg hne]; decide
          rw [if_neg h9, if_neg es]
          exact ih
      · rw [if_neg h0] at ag
        have es : f_X4_isShotBest B (Int32.ofNat (i + 1)) l b = 0 := by
          unfold f_X4_isShotBest; rw [p_lt, ag, if_neg (by decide), if_pos rfl]
        rw [if_neg h0, if_pos es]
        exact ⟨_, rfl, rfl⟩
end
