
theorem p_Sol0 (reb law draw players : Int32) (side kind near far free guard V B : Nat → Int32) : r_Sol reb law draw players side kind near far free guard V B 0 :=
  ⟨by decide, by decide, fun s l b hS hlt => absurd hlt (Int32.not_lt.2 hS.1.1)⟩
theorem p_chL (reb law draw sr size : Int32) (facts otold : Nat → Int32) (osize : Int32) (ofacts : Nat → Int32) (K : Int32 → (Nat → Int32) → Int32 × Int32 × Int32 × Int32 × Int32 × (Nat → Int32) × (Nat → Int32)) : ∀ (j i : Nat) (C : Nat → Int32), i + j = 6 → (∀ p : Nat, p < i → C p = 0) →
    ∃ C', L_X1_start_13 reb law draw sr size facts otold osize ofacts K (j + 1) (Int32.ofNat i) C = K 6 C' ∧ ∀ p : Nat, p < 6 → C' p = 0
  | 0, i, C, h, hC => by
      have e : i = 6 := by omega
      subst e
      refine ⟨C, ?_, hC⟩
      rw [L_X1_start_13, if_pos (by decide)]; rfl
  | j + 1, i, C, h, hC => by
      have hi : i < 6 := by omega
      obtain ⟨e1, e2, e3⟩ := (by decide : ∀ i : Fin 6, ¬ 6 ≤ Int32.ofNat i ∧ Int32.ofNat i + 1 = Int32.ofNat (i.val + 1) ∧ (Int32.ofNat i).toNatClampNeg = i.val) ⟨i, hi⟩
      rw [L_X1_start_13, if_neg e1, e2, e3]
      refine p_chL reb law draw sr size facts otold osize ofacts K j (i + 1) _ (by omega) (fun p hp => ?_)
      by_cases hk : p = i
      · subst hk; exact p_upd_same _ _ _
      · show upd C i 0 p = 0
        rw [p_upd_ne _ _ hk]; exact hC p (by omega)
theorem p_start (reb law draw sr size : Int32) (facts C otold : Nat → Int32) (osize : Int32) (ofacts : Nat → Int32) :
    ∃ C', f_X1_start reb law draw sr size facts C otold osize ofacts = (otold 7, otold 8, otold 9, 0, osize, g_cpy ofacts facts 30, C') ∧ ∀ p : Nat, p < 6 → C' p = 0 := by
  unfold f_X1_start
  rw [p_lt]
  obtain ⟨C', h1, h2⟩ := p_chL reb law draw sr (f_X3_copy size facts osize ofacts).1 (f_X3_copy size facts osize ofacts).2 otold osize ofacts (fun v2_13 c_changes_13 => g_lt (f_X0_told otold (7 : Int32)) (fun r39 => g_lt (f_X0_told otold (8 : Int32)) (fun r49 => g_lt (f_X0_told otold (9 : Int32)) (fun r59 => (r39, r49, r59, 0, (f_X3_copy size facts osize ofacts).1, (f_X3_copy size facts osize ofacts).2, c_changes_13))))) 6 0 C (by omega) (fun p hp => absurd hp (by omega))
  refine ⟨C', h1.trans ?_, h2⟩
  obtain ⟨-, -, -, -, -, -, -, k7, k8, k9⟩ := p_t0 otold
  rw [p_lt, p_lt, p_lt, k7, k8, k9]; rfl
/-- the other lamp after it is started has the hall's squad -/
theorem p_LRs {c_isKept : Int32} {c_numbersSize : Int32} {c_now_told : Nat → Int32} {c_now_squad_size : Int32} {c_now_squad_facts : Nat → Int32} {c_kept_told : Nat → Int32} {c_kept_squad_size : Int32} {c_kept_squad_facts : Nat → Int32} {c_letters_size : Int32} {c_letters_signs : Nat → Int32} {c_numbers : Nat → Int32} {c_refusals : Nat → Int32} {c_lamp_reboundTenths : Int32} {c_lamp_lawInForce : Int32} {c_lamp_drawTenths : Int32} {c_lamp_solvedRows : Int32} {c_lamp_squad_size : Int32} {c_lamp_squad_facts : Nat → Int32} {c_lamp_changes : Nat → Int32} {c_lamp_values : Nat → Int32} {c_lamp_bests : Nat → Int32} {d_seconds : Int32} {d_lead : Int32} {d_ball : Int32} {d_rebound : Int32} {d_law : Int32} {d_draw : Int32} {d_players : Int32} {d_letters : Int32} {d_inRow : Int32} {d_imaged : Int32} {d_fouls : Nat → Int32} {d_calls : Nat → Int32} {d_side : Nat → Int32} {d_kind : Nat → Int32} {d_near : Nat → Int32} {d_far : Nat → Int32} {d_free : Nat → Int32} {d_letter : Nat → Int32} {d_row : Nat → Int32} {d_refusals : Nat → Int32} {d_image : Nat → Int32} {d_guard : Nat → Int32} (hR : Rel c_isKept c_numbersSize c_now_told c_now_squad_size c_now_squad_facts c_kept_told c_kept_squad_size c_kept_squad_facts c_letters_size c_letters_signs c_numbers c_refusals c_lamp_reboundTenths c_lamp_lawInForce c_lamp_drawTenths c_lamp_solvedRows c_lamp_squad_size c_lamp_squad_facts c_lamp_changes c_lamp_values c_lamp_bests d_seconds d_lead d_ball d_rebound d_law d_draw d_players d_letters d_inRow d_imaged d_fouls d_calls d_side d_kind d_near d_far d_free d_letter d_row d_refusals d_image d_guard) (facts C' : Nat → Int32) (hC : ∀ p : Nat, p < 6 → C' p = 0) :
    p_LR c_now_squad_size (g_cpy c_now_squad_facts facts 30) C' d_players d_side d_kind d_near d_far d_free d_guard := by
  obtain ⟨hs, hp⟩ := r_sq hR
  refine ⟨hs, hR.2.1.2.1, fun p hq => ?_, fun p hq => Or.inl ⟨hC p hq, hR.2.2.2.2.2.2.1 p hq⟩⟩
  have h := hp p hq
  have f : ∀ k : Nat, k < 30 → g_cpy c_now_squad_facts facts 30 k = c_now_squad_facts k := fun k hk => by unfold g_cpy; rw [if_pos hk]
  exact ⟨⟨(f _ (by omega)).trans h.1.1, (f _ (by omega)).trans h.1.2.1, (f _ (by omega)).trans h.1.2.2.1, (f _ (by omega)).trans h.1.2.2.2.1, (f _ (by omega)).trans h.1.2.2.2.2⟩, h.2⟩
/-- the value now by another lamp -/
theorem p_nowO {told facts changes side kind near far free guard : Nat → Int32} {reb law draw size players s l b : Int32} (hL : p_LR size facts changes players side kind near far free guard) (hr : r_in reb 9) (hd : r_in draw 9)
    (hS : m_S s l b) (t0 : told 0 = s) (t1 : told 1 = l) (t2 : told 2 = b) (V B rT hv mv W : Nat → Int32) :
    ∃ n' V' B' rT' hv' mv', f_X4_otherValueNow told reb law draw 0 size facts changes V B rT hv mv = (f_X5_valueOf (f_X5_solve reb law draw players side kind near far free guard W) s l b, n', V', B', rT', hv', mv') ∧
      p_V (f_X5_valueOf (f_X5_solve reb law draw players side kind near far free guard W) s l b) := by
  obtain ⟨n', V', B', rT', hv', mv', g1, g2, g3⟩ := p_solveTo (law := law) hL hr hd hS.1 rT hv mv (p_Sol0 reb law draw players side kind near far free guard V B)
  have ag := p_agree hL hr hd W g2 hS g3
  refine ⟨n', V', B', rT', hv', mv', ?_, ag.2.2⟩
  unfold f_X4_otherValueNow
  obtain ⟨k0, k1, k2, -⟩ := p_t0 told
  rw [p_lt, k0, t0, g1, p_lt, p_lt, k1, t1, p_lt, k2, t2, p_lt, ag.1]
/-- the start of a solving does not show in what it leaves -/
theorem p_solveW {facts changes side kind near far free guard : Nat → Int32} {reb law draw size players s l b : Int32} (hL : p_LR size facts changes players side kind near far free guard) (hr : r_in reb 9) (hd : r_in draw 9) (hS : m_S s l b) (W W' : Nat → Int32) :
    f_X5_valueOf (f_X5_solve reb law draw players side kind near far free guard W) s l b = f_X5_valueOf (f_X5_solve reb law draw players side kind near far free guard W') s l b := by
  obtain ⟨B, hB⟩ := p_solve (law := law) hL hr hd W
  obtain ⟨C, hC⟩ := p_solve (law := law) hL hr hd W'
  have h25 : s < 25 := Int32.lt_of_le_of_lt hS.1.2 (by decide)
  exact (p_uniq hL hr hd hB hC s l b hS h25 h25).1

/-- the guards beyond the six and how they are told do not show -/
theorem p_Sol_guard {reb law draw size players n : Int32} {facts C side kind near far free G G' V B : Nat → Int32} (hL : p_LR size facts C players side kind near far free G) (hL' : p_LR size facts C players side kind near far free G')
    (hr : r_in reb 9) (hd : r_in draw 9) (hG : ∀ p : Nat, p < 6 → G p = 0) (hG' : ∀ p : Nat, p < 6 → G' p = 0) (h : r_Sol reb law draw players side kind near far free G V B n) :
    r_Sol reb law draw players side kind near far free G' V B n := by
  refine ⟨h.1, h.2.1, fun s l b hS hlt => ?_⟩
  obtain ⟨e1, e2⟩ := h.2.2 s l b hS hlt
  have hV := p_SolAg hL hr hd h
  obtain ⟨rowT, hT⟩ : ∃ rowT : Nat → Int32, ∀ (p : Fin 6) (c : Fin 3), rowT (3 * p + c) = f_X1_tenths facts C (Int32.ofNat p) (Int32.ofNat c) s := by
    refine ⟨fun k => f_X1_tenths facts C (Int32.ofNat (k / 3)) (Int32.ofNat (k % 3)) s, fun p c => ?_⟩
    have e1 : (3 * p.val + c.val) / 3 = p.val := by have := c.isLt; omega
    have e2 : (3 * p.val + c.val) % 3 = c.val := by have := c.isLt; omega
    show f_X1_tenths facts C (Int32.ofNat ((3 * p.val + c.val) / 3)) (Int32.ofNat ((3 * p.val + c.val) % 3)) s = _
    rw [e1, e2]
  have hA : p_Ag V V s := fun s' l' b' h1 h2 => hV s' l' b' h1 (Int32.lt_trans h2 hlt)
  have hZ : 0 < s → p_Z draw V := fun h0 => p_SolZ h (Int32.lt_trans h0 hlt)
  obtain ⟨⟨a1, a2, ea⟩, _⟩ := p_st1 (law := law) (B := V) (hitV := V) (missV := V) hL hr hd hS hT hA hZ
  obtain ⟨⟨b1, b2, eb⟩, _⟩ := p_st1 (law := law) (B := V) (hitV := V) (missV := V) hL' hr hd hS hT hA hZ
  have e := ea.symm.trans eb
  have g1 := congrArg (fun z => z.1 (p_ix s l b)) e
  have g2 := congrArg (fun z => z.2.1 (p_ix s l b)) e
  simp only [p_upd_same] at g1 g2
  exact ⟨e1.trans g1, e2.trans g2⟩

theorem p_asL (K : Int32 → (Nat → Int32) → (Nat → Int32)) : ∀ (j i : Nat) (G : Nat → Int32), i + j = 6 → (∀ p : Nat, p < i → G p = 0) →
    ∃ G', L_X5_asTold_2 K (j + 1) (Int32.ofNat i) G = K 6 G' ∧ ∀ p : Nat, p < 6 → G' p = 0
  | 0, i, G, h, hG => by
      have e : i = 6 := by omega
      subst e
      refine ⟨G, ?_, hG⟩
      rw [L_X5_asTold_2, if_pos (by decide)]; rfl
  | j + 1, i, G, h, hG => by
      have hi : i < 6 := by omega
      obtain ⟨e1, e2, e3⟩ := (by decide : ∀ i : Fin 6, ¬ 6 ≤ Int32.ofNat i ∧ Int32.ofNat i + 1 = Int32.ofNat (i.val + 1) ∧ (Int32.ofNat i).toNatClampNeg = i.val) ⟨i, hi⟩
      rw [L_X5_asTold_2, if_neg e1, e2, e3]
      refine p_asL K j (i + 1) _ (by omega) (fun p hp => ?_)
      by_cases hk : p = i
      · subst hk; exact p_upd_same _ _ _
      · show upd G i 0 p = 0
        rw [p_upd_ne _ _ hk]; exact hG p (by omega)
theorem p_as (G : Nat → Int32) : ∀ p : Nat, p < 6 → f_X5_asTold G p = 0 := by
  unfold f_X5_asTold
  obtain ⟨G', h1, h2⟩ := p_asL (fun _ g => g) 6 0 G (by omega) (fun p hp => absurd hp (by omega))
  have h3 : L_X5_asTold_2 (fun v1_2 c_guard_2 => c_guard_2) (((6 : Int32).toInt - (0 : Int32).toInt).toNat + 1) 0 G = G' := h1
  rw [h3]; exact h2
theorem p_chg2 (C : Nat → Int32) (q : Fin 6) (x : Int32) : f_X1_change C (Int32.ofNat q) x = upd C q x := by
  obtain ⟨e1, e2⟩ := (by decide : ∀ n : Fin 6, ¬ Int32.ofNat n < 0 ∧ ¬ 6 ≤ Int32.ofNat n) q
  unfold f_X1_change
  rw [if_neg e1, if_neg e2, p_nat6]
/-- a player's change and his guard -/
theorem p_LRg {size players : Int32} {facts C side kind near far free G : Nat → Int32} (h : p_LR size facts C players side kind near far free G) (q : Nat) {c g : Int32} (hg : p_G c g) :
    p_LR size facts (upd C q c) players side kind near far free (upd G q g) := by
  refine ⟨h.1, h.2.1, h.2.2.1, fun p hp => ?_⟩
  by_cases hk : p = q
  · subst hk; rw [p_upd_same, p_upd_same]; exact hg
  · rw [p_upd_ne _ _ hk, p_upd_ne _ _ hk]; exact h.2.2.2 p hp
theorem r_gd {c_isKept : Int32} {c_numbersSize : Int32} {c_now_told : Nat → Int32} {c_now_squad_size : Int32} {c_now_squad_facts : Nat → Int32} {c_kept_told : Nat → Int32} {c_kept_squad_size : Int32} {c_kept_squad_facts : Nat → Int32} {c_letters_size : Int32} {c_letters_signs : Nat → Int32} {c_numbers : Nat → Int32} {c_refusals : Nat → Int32} {c_lamp_reboundTenths : Int32} {c_lamp_lawInForce : Int32} {c_lamp_drawTenths : Int32} {c_lamp_solvedRows : Int32} {c_lamp_squad_size : Int32} {c_lamp_squad_facts : Nat → Int32} {c_lamp_changes : Nat → Int32} {c_lamp_values : Nat → Int32} {c_lamp_bests : Nat → Int32} {d_seconds : Int32} {d_lead : Int32} {d_ball : Int32} {d_rebound : Int32} {d_law : Int32} {d_draw : Int32} {d_players : Int32} {d_letters : Int32} {d_inRow : Int32} {d_imaged : Int32} {d_fouls : Nat → Int32} {d_calls : Nat → Int32} {d_side : Nat → Int32} {d_kind : Nat → Int32} {d_near : Nat → Int32} {d_far : Nat → Int32} {d_free : Nat → Int32} {d_letter : Nat → Int32} {d_row : Nat → Int32} {d_refusals : Nat → Int32} {d_image : Nat → Int32} {d_guard : Nat → Int32} (hR : Rel c_isKept c_numbersSize c_now_told c_now_squad_size c_now_squad_facts c_kept_told c_kept_squad_size c_kept_squad_facts c_letters_size c_letters_signs c_numbers c_refusals c_lamp_reboundTenths c_lamp_lawInForce c_lamp_drawTenths c_lamp_solvedRows c_lamp_squad_size c_lamp_squad_facts c_lamp_changes c_lamp_values c_lamp_bests d_seconds d_lead d_ball d_rebound d_law d_draw d_players d_letters d_inRow d_imaged d_fouls d_calls d_side d_kind d_near d_far d_free d_letter d_row d_refusals d_image d_guard) {R R' G : Nat → Int32} (hr : ∀ k : Nat, 1 ≤ k → k < 7 → R k = R' k) (hG : ∀ p : Nat, p < 6 → G p = 0) :
    Rel c_isKept c_numbersSize c_now_told c_now_squad_size c_now_squad_facts c_kept_told c_kept_squad_size c_kept_squad_facts c_letters_size c_letters_signs c_numbers R c_lamp_reboundTenths c_lamp_lawInForce c_lamp_drawTenths c_lamp_solvedRows c_lamp_squad_size c_lamp_squad_facts c_lamp_changes c_lamp_values c_lamp_bests d_seconds d_lead d_ball d_rebound d_law d_draw d_players d_letters d_inRow d_imaged d_fouls d_calls d_side d_kind d_near d_far d_free d_letter d_row R' d_image G := by
  have hL := r_LR hR
  have hL' : p_LR c_lamp_squad_size c_lamp_squad_facts c_lamp_changes d_players d_side d_kind d_near d_far d_free G := ⟨hL.1, hL.2.1, hL.2.2.1, fun p hp => Or.inl ⟨hR.2.2.2.2.2.2.2.2.2.2.2.2.1 p hp, hG p hp⟩⟩
  obtain ⟨-, -, hrb, -, hd⟩ := r_rng hR
  have hs := r_sol hR
  have hs' := p_Sol_guard hL hL' hrb hd (hR.2.2.2.2.2.2.1) hG hs
  obtain ⟨h1, h2, h3, h4, h5, h6, h7, h8⟩ := hR
  exact ⟨h1, h2, h3, h4, h5, hr, hG, h8.1, h8.2.1, h8.2.2.1, h8.2.2.2.1, h8.2.2.2.2.1, h8.2.2.2.2.2.1, hs'⟩

theorem p_pair {c_isKept : Int32} {c_numbersSize : Int32} {c_now_told : Nat → Int32} {c_now_squad_size : Int32} {c_now_squad_facts : Nat → Int32} {c_kept_told : Nat → Int32} {c_kept_squad_size : Int32} {c_kept_squad_facts : Nat → Int32} {c_letters_size : Int32} {c_letters_signs : Nat → Int32} {c_numbers : Nat → Int32} {c_refusals : Nat → Int32} {c_lamp_reboundTenths : Int32} {c_lamp_lawInForce : Int32} {c_lamp_drawTenths : Int32} {c_lamp_solvedRows : Int32} {c_lamp_squad_size : Int32} {c_lamp_squad_facts : Nat → Int32} {c_lamp_changes : Nat → Int32} {c_lamp_values : Nat → Int32} {c_lamp_bests : Nat → Int32} {d_seconds : Int32} {d_lead : Int32} {d_ball : Int32} {d_rebound : Int32} {d_law : Int32} {d_draw : Int32} {d_players : Int32} {d_letters : Int32} {d_inRow : Int32} {d_imaged : Int32} {d_fouls : Nat → Int32} {d_calls : Nat → Int32} {d_side : Nat → Int32} {d_kind : Nat → Int32} {d_near : Nat → Int32} {d_far : Nat → Int32} {d_free : Nat → Int32} {d_letter : Nat → Int32} {d_row : Nat → Int32} {d_refusals : Nat → Int32} {d_image : Nat → Int32} {d_guard : Nat → Int32} (hR : Rel c_isKept c_numbersSize c_now_told c_now_squad_size c_now_squad_facts c_kept_told c_kept_squad_size c_kept_squad_facts c_letters_size c_letters_signs c_numbers c_refusals c_lamp_reboundTenths c_lamp_lawInForce c_lamp_drawTenths c_lamp_solvedRows c_lamp_squad_size c_lamp_squad_facts c_lamp_changes c_lamp_values c_lamp_bests d_seconds d_lead d_ball d_rebound d_law d_draw d_players d_letters d_inRow d_imaged d_fouls d_calls d_side d_kind d_near d_far d_free d_letter d_row d_refusals d_image d_guard) (p1 p2 : Int32) : (∃ q r : Fin 6, p1 = Int32.ofNat q ∧ p2 = Int32.ofNat r ∧ f_X4_outsidePair c_now_squad_size c_now_squad_facts p1 p2 = 0 ∧ f_X5_noPair d_players d_side p1 p2 = 0) ∨ (f_X4_outsidePair c_now_squad_size c_now_squad_facts p1 p2 = -Int32.ofNat (1 : Fin 7) ∧ f_X5_noPair d_players d_side p1 p2 = -Int32.ofNat (1 : Fin 7)) ∨ (f_X4_outsidePair c_now_squad_size c_now_squad_facts p1 p2 = -Int32.ofNat (3 : Fin 7) ∧ f_X5_noPair d_players d_side p1 p2 = -Int32.ofNat (3 : Fin 7)) := by
  obtain ⟨hsz, hp⟩ := r_sq hR
  obtain ⟨-, hP, -⟩ := r_rng hR
  unfold f_X4_outsidePair f_X5_noPair
  rcases p_has hsz hP p1 with ⟨q, rfl, hq, o1, o2⟩ | ⟨o1, o2⟩
  · rcases p_has hsz hP p2 with ⟨r, rfl, hr, o3, o4⟩ | ⟨o3, o4⟩
    · have f := hp q q.isLt
      have g := hp r r.isLt
      have f0 : f_X3_fact c_now_squad_facts (Int32.ofNat q) 0 = d_side q := by rw [← f.1.1]; exact p_fact c_now_squad_facts q 0
      have g0 : f_X3_fact c_now_squad_facts (Int32.ofNat r) 0 = d_side r := by rw [← g.1.1]; exact p_fact c_now_squad_facts r 0
      by_cases he : Int32.ofNat q = Int32.ofNat r
      · refine Or.inr (Or.inl ⟨?_, ?_⟩)
        · rw [p_lt, o1, if_neg (by decide), p_lt, o3, if_neg (by decide), if_pos he]; rfl
        · rw [p_lt, o2, if_neg (by decide), p_lt, o4, if_neg (by decide), if_pos he]; rfl
      · rcases pe_b f.2.1 with hs | hs
        · rcases pe_b g.2.1 with ht | ht
          · refine Or.inl ⟨q, r, rfl, rfl, ?_, ?_⟩
            · rw [p_lt, o1, if_neg (by decide), p_lt, o3, if_neg (by decide), if_neg he, p_lt, f0, if_pos hs, p_lt, g0, if_pos ht]
            · rw [p_lt, o2, if_neg (by decide), p_lt, o4, if_neg (by decide), if_neg he, p_nat6, p_nat6, if_neg (by rw [hs]; decide), if_neg (by rw [ht]; decide)]
          · refine Or.inr (Or.inr ⟨?_, ?_⟩)
            · rw [p_lt, o1, if_neg (by decide), p_lt, o3, if_neg (by decide), if_neg he, p_lt, f0, if_pos hs, p_lt, g0, if_neg (by rw [ht]; decide)]; rfl
            · rw [p_lt, o2, if_neg (by decide), p_lt, o4, if_neg (by decide), if_neg he, p_nat6, p_nat6, if_neg (by rw [hs]; decide), if_pos ht]; rfl
        · refine Or.inr (Or.inr ⟨?_, ?_⟩)
          · rw [p_lt, o1, if_neg (by decide), p_lt, o3, if_neg (by decide), if_neg he, p_lt, f0, if_neg (by rw [hs]; decide)]; rfl
          · rw [p_lt, o2, if_neg (by decide), p_lt, o4, if_neg (by decide), if_neg he, p_nat6, if_pos hs]; rfl
    · refine Or.inr (Or.inl ⟨?_, ?_⟩)
      · rw [p_lt, o1, if_neg (by decide), p_lt, if_pos o3]; rfl
      · rw [p_lt, o2, if_neg (by decide), p_lt, if_pos o4]; rfl
  · refine Or.inr (Or.inl ⟨?_, ?_⟩)
    · rw [p_lt, if_pos o1]; rfl
    · rw [p_lt, if_pos o2]; rfl
theorem p_bd (m i : Nat) (hm : m ≤ 6) (hi : i < m) : ¬ Int32.ofNat m ≤ Int32.ofNat i ∧ Int32.ofNat i + 1 = Int32.ofNat (i + 1) ∧ (Int32.ofNat i).toNatClampNeg = i := 
  ⟨(by decide : ∀ m p : Fin 7, p.val < m.val → ¬ Int32.ofNat m ≤ Int32.ofNat p) ⟨m, by omega⟩ ⟨i, by omega⟩ hi, (by decide : ∀ p : Fin 7, Int32.ofNat p + 1 = Int32.ofNat (p.val + 1)) ⟨i, by omega⟩, p_nat6 ⟨i, by omega⟩⟩
theorem p_fu (m : Nat) (hm : m ≤ 6) : ((Int32.ofNat m).toInt - (0 : Int32).toInt).toNat + 1 = m + 1 := (by decide : ∀ m : Fin 7, ((Int32.ofNat m).toInt - (0 : Int32).toInt).toNat + 1 = m.val + 1) ⟨m, by omega⟩
theorem p_raise {facts side kind near far free : Nat → Int32} (m : Nat) (hm : m ≤ 6) (v1 s l b rb lw dr : Int32) (calls R W : Nat → Int32) (K : Int32 → (Nat → Int32) → Int32 × (Nat → Int32) × (Nat → Int32) × (Nat → Int32)) : ∀ (j i : Nat) (C G : Nat → Int32), i + j = m → p_LR (Int32.ofNat m) facts C (Int32.ofNat m) side kind near far free G →
    ∃ C' G', L_X1_raiseAll_2 0 (Int32.ofNat m) facts (fun v2_2 c_changes_2 => c_changes_2) (j + 1) (Int32.ofNat i) C = C' ∧
      L_X5_call_31 v1 s l b rb lw dr (Int32.ofNat m) calls side kind near far free R W K (j + 1) (Int32.ofNat i) G = K (Int32.ofNat m) G' ∧ p_LR (Int32.ofNat m) facts C' (Int32.ofNat m) side kind near far free G'
  | 0, i, C, G, h, hL => by
      have e : i = m := by omega
      subst e
      refine ⟨C, G, ?_, ?_, hL⟩
      · rw [L_X1_raiseAll_2, if_pos (Int32.le_refl _)]
      · rw [L_X5_call_31, if_pos (Int32.le_refl _)]
  | j + 1, i, C, G, h, hL => by
      have hi : i < 6 := by omega
      obtain ⟨e1, e2, e3⟩ := p_bd m i hm (by omega)
      have f0 : f_X3_fact facts (Int32.ofNat i) 0 = side i := by rw [← (hL.2.2.1 i hi).1.1]; exact p_fact facts ⟨i, hi⟩ 0
      have c0 : f_X1_change C (Int32.ofNat i) 2 = upd C i 2 := p_chg2 C ⟨i, hi⟩ 2
      rw [L_X1_raiseAll_2, L_X5_call_31, if_neg e1, if_neg e1, p_lt, f0, e2, e3]
      by_cases hs : side i = 0
      · rw [if_pos hs, if_pos hs, p_lt, c0]
        exact p_raise m hm v1 s l b rb lw dr calls R W K j (i + 1) _ _ (by omega) (p_LRg hL i (Or.inr (Or.inr (Or.inl ⟨rfl, rfl⟩))))
      · rw [if_neg hs, if_neg hs]
        exact p_raise m hm v1 s l b rb lw dr calls R W K j (i + 1) C G (by omega) hL

theorem p_away {v : Int32} (h : p_V v) : ¬ 1000000000 ≤ g_absf (v - 500000000) := by
  rw [p_V_int] at h
  have e : (v - 500000000).toInt = v.toInt - 500000000 := by
    rw [Int32.toInt_sub, (by decide : (500000000 : Int32).toInt = 500000000), Int.bmod_eq_of_le] <;> omega
  have z : (0 : Int32).toInt = 0 := by decide
  unfold g_absf
  rw [Int32.le_iff_toInt_le, (by decide : (1000000000 : Int32).toInt = 1000000000)]
  by_cases a : 0 ≤ v - 500000000
  · rw [if_pos a, e]; omega
  · rw [if_neg a, Int32.toInt_sub, z, e, Int.bmod_eq_of_le] <;> omega
theorem p_fair1 {c_isKept : Int32} {c_numbersSize : Int32} {c_now_told : Nat → Int32} {c_now_squad_size : Int32} {c_now_squad_facts : Nat → Int32} {c_kept_told : Nat → Int32} {c_kept_squad_size : Int32} {c_kept_squad_facts : Nat → Int32} {c_letters_size : Int32} {c_letters_signs : Nat → Int32} {c_numbers : Nat → Int32} {c_refusals : Nat → Int32} {c_lamp_reboundTenths : Int32} {c_lamp_lawInForce : Int32} {c_lamp_drawTenths : Int32} {c_lamp_solvedRows : Int32} {c_lamp_squad_size : Int32} {c_lamp_squad_facts : Nat → Int32} {c_lamp_changes : Nat → Int32} {c_lamp_values : Nat → Int32} {c_lamp_bests : Nat → Int32} {d_seconds : Int32} {d_lead : Int32} {d_ball : Int32} {d_rebound : Int32} {d_law : Int32} {d_draw : Int32} {d_players : Int32} {d_letters : Int32} {d_inRow : Int32} {d_imaged : Int32} {d_fouls : Nat → Int32} {d_calls : Nat → Int32} {d_side : Nat → Int32} {d_kind : Nat → Int32} {d_near : Nat → Int32} {d_far : Nat → Int32} {d_free : Nat → Int32} {d_letter : Nat → Int32} {d_row : Nat → Int32} {d_refusals : Nat → Int32} {d_image : Nat → Int32} {d_guard : Nat → Int32} (hR : Rel c_isKept c_numbersSize c_now_told c_now_squad_size c_now_squad_facts c_kept_told c_kept_squad_size c_kept_squad_facts c_letters_size c_letters_signs c_numbers c_refusals c_lamp_reboundTenths c_lamp_lawInForce c_lamp_drawTenths c_lamp_solvedRows c_lamp_squad_size c_lamp_squad_facts c_lamp_changes c_lamp_values c_lamp_bests d_seconds d_lead d_ball d_rebound d_law d_draw d_players d_letters d_inRow d_imaged d_fouls d_calls d_side d_kind d_near d_far d_free d_letter d_row d_refusals d_image d_guard) (i : Nat) (hi : i < 4) (o1 o2 o3 o4 o5 : Int32) (o6 o7 o8 o9 o10 o11 o12 W : Nat → Int32) :
    ∃ v n1 C1 V1 B1 rT1 hv1 mv1, p_V v ∧ f_X1_start o1 o2 o3 o4 o5 o6 o7 c_now_told c_now_squad_size c_now_squad_facts = (d_rebound, d_law, d_draw, 0, c_now_squad_size, g_cpy c_now_squad_facts o6 30, C1) ∧
      f_X4_otherValueNow c_now_told d_rebound (Int32.ofNat i) d_draw 0 c_now_squad_size (g_cpy c_now_squad_facts o6 30) C1 o8 o9 o10 o11 o12 = (v, n1, V1, B1, rT1, hv1, mv1) ∧
      ∀ law : Int32, f_X5_withLaw d_seconds d_lead d_ball d_rebound law d_draw d_players d_side d_kind d_near d_far d_free d_guard W (Int32.ofNat i) = (v, law, f_X5_solve d_rebound (Int32.ofNat i) d_draw d_players d_side d_kind d_near d_far d_free d_guard W) := by
  obtain ⟨hS, hP, hr, hlw, hd⟩ := r_rng hR
  obtain ⟨t0, t1, t2, t3, t4, t5, t6, t7, t8, t9⟩ := r_told hR
  obtain ⟨C1, s1, z1⟩ := p_start o1 o2 o3 o4 o5 o6 o7 c_now_told c_now_squad_size c_now_squad_facts
  rw [t7, t8, t9] at s1
  obtain ⟨n1, V1, B1, rT1, hv1, mv1, g1, x1⟩ := p_nowO (reb := d_rebound) (law := Int32.ofNat i) (draw := d_draw) (p_LRs hR o6 C1 z1) hr hd hS t0 t1 t2 o8 o9 o10 o11 o12 W
  refine ⟨_, n1, C1, V1, B1, rT1, hv1, mv1, x1, s1, g1, fun law => ?_⟩
  unfold f_X5_withLaw f_X5_now
  rw [p_lt, p_lt, p_lt2]
theorem p_fairL {c_isKept : Int32} {c_numbersSize : Int32} {c_now_told : Nat → Int32} {c_now_squad_size : Int32} {c_now_squad_facts : Nat → Int32} {c_kept_told : Nat → Int32} {c_kept_squad_size : Int32} {c_kept_squad_facts : Nat → Int32} {c_letters_size : Int32} {c_letters_signs : Nat → Int32} {c_numbers : Nat → Int32} {c_refusals : Nat → Int32} {c_lamp_reboundTenths : Int32} {c_lamp_lawInForce : Int32} {c_lamp_drawTenths : Int32} {c_lamp_solvedRows : Int32} {c_lamp_squad_size : Int32} {c_lamp_squad_facts : Nat → Int32} {c_lamp_changes : Nat → Int32} {c_lamp_values : Nat → Int32} {c_lamp_bests : Nat → Int32} {d_seconds : Int32} {d_lead : Int32} {d_ball : Int32} {d_rebound : Int32} {d_law : Int32} {d_draw : Int32} {d_players : Int32} {d_letters : Int32} {d_inRow : Int32} {d_imaged : Int32} {d_fouls : Nat → Int32} {d_calls : Nat → Int32} {d_side : Nat → Int32} {d_kind : Nat → Int32} {d_near : Nat → Int32} {d_far : Nat → Int32} {d_free : Nat → Int32} {d_letter : Nat → Int32} {d_row : Nat → Int32} {d_refusals : Nat → Int32} {d_image : Nat → Int32} {d_guard : Nat → Int32} (hR : Rel c_isKept c_numbersSize c_now_told c_now_squad_size c_now_squad_facts c_kept_told c_kept_squad_size c_kept_squad_facts c_letters_size c_letters_signs c_numbers c_refusals c_lamp_reboundTenths c_lamp_lawInForce c_lamp_drawTenths c_lamp_solvedRows c_lamp_squad_size c_lamp_squad_facts c_lamp_changes c_lamp_values c_lamp_bests d_seconds d_lead d_ball d_rebound d_law d_draw d_players d_letters d_inRow d_imaged d_fouls d_calls d_side d_kind d_near d_far d_free d_letter d_row d_refusals d_image d_guard) (law : Int32) : ∀ (j i : Nat) (a x o1 o2 o3 o4 o5 : Int32) (o6 o7 o8 o9 o10 o11 o12 W : Nat → Int32), i + j = 4 → ¬ a < 0 →
    ∃ v u W', L_X4_fairest_7 c_now_told c_now_squad_size c_now_squad_facts (fun v1_7 v2_7 v3_7 o1 o2 o3 o4 o5 o6 o7 o8 o9 o10 o11 o12 => (v1_7, o1, o2, o3, o4, o5, o6, o7, o8, o9, o10, o11, o12)) (j + 1) a x (Int32.ofNat i) o1 o2 o3 o4 o5 o6 o7 o8 o9 o10 o11 o12 = (v, u) ∧
      L_X5_fairest_6 d_seconds d_lead d_ball d_rebound d_draw d_players d_side d_kind d_near d_far d_free d_guard (fun v1_6 v2_6 v3_6 c_law_6 c_worth_6 => (v1_6, c_law_6, c_worth_6)) (j + 1) a x (Int32.ofNat i) law W = (v, law, W')
  | 0, i, a, x, o1, o2, o3, o4, o5, o6, o7, o8, o9, o10, o11, o12, W, h, ha => by
      have e : i = 4 := by omega
      subst e
      refine ⟨a, (o1, o2, o3, o4, o5, o6, o7, o8, o9, o10, o11, o12), W, ?_, ?_⟩
      · rw [L_X4_fairest_7, if_pos (by decide)]
      · rw [L_X5_fairest_6, if_pos (by decide)]
  | j + 1, i, a, x, o1, o2, o3, o4, o5, o6, o7, o8, o9, o10, o11, o12, W, h, ha => by
      have hi : i < 4 := by omega
      obtain ⟨e1, e2, e4⟩ := (by decide : ∀ i : Fin 4, ¬ 4 ≤ Int32.ofNat i ∧ Int32.ofNat i + 1 = Int32.ofNat (i.val + 1) ∧ ¬ Int32.ofNat i < 0) ⟨i, hi⟩
      obtain ⟨v, n1, C1, V1, B1, rT1, hv1, mv1, x1, s1, g1, w1⟩ := p_fair1 hR i hi o1 o2 o3 o4 o5 o6 o7 o8 o9 o10 o11 o12 W
      have cL : ∀ y, f_X1_changeLaw y (Int32.ofNat i) = Int32.ofNat i := fun _ => rfl
      rw [L_X4_fairest_7, L_X5_fairest_6, if_neg e1, if_neg e1, p_lt, s1, p_lt, cL, g1, p_lt2, w1, p_lt2, if_neg ha, e2]
      dsimp only
      by_cases hx : x ≤ g_absf (v - 500000000)
      · rw [if_pos hx, if_neg (Int32.not_lt.2 hx)]
        exact p_fairL hR law j (i + 1) a x _ _ _ _ _ _ _ _ _ _ _ _ _ (by omega) ha
      · rw [if_neg hx, if_pos (Int32.not_le.1 hx)]
        exact p_fairL hR law j (i + 1) (Int32.ofNat i) _ _ _ _ _ _ _ _ _ _ _ _ _ _ (by omega) e4
