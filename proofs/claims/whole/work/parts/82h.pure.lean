theorem p_tkS (n : Fin 25) (c : Fin 4) : m_Sec (g_maxf 0 (Int32.ofNat n - f_X5_takes (Int32.ofNat c))) ∧ f_X4_takes (Int32.ofNat c) = f_X5_takes (Int32.ofNat c) := by
  unfold m_Sec g_maxf; revert n c; decide
theorem p_tkS' {s c : Int32} (hs : m_Sec s) (h0 : 0 ≤ c) (h3 : c ≤ 3) : m_Sec (g_maxf 0 (s - f_X5_takes c)) ∧ f_X4_takes c = f_X5_takes c := by
  obtain ⟨n, rfl⟩ := pe_s hs
  obtain ⟨k, rfl⟩ := pe_nat 3 h0 h3 (by decide)
  exact p_tkS n k
theorem p_c3 {c : Int32} (h0 : 0 ≤ c) (h3 : c ≤ 3) (hn : ¬ c = 3) : ¬ 3 ≤ c := fun h => hn (Int32.le_antisymm h3 h)
theorem p_i20 (i M : Nat) (hM : M ≤ 20) (hi : i ≤ 22) : (M ≤ i → Int32.ofNat M ≤ Int32.ofNat i) ∧ (¬ M ≤ i → ¬ Int32.ofNat M ≤ Int32.ofNat i) ∧ (¬ 20 ≤ i → ¬ 20 ≤ Int32.ofNat i) ∧ Int32.ofNat i + 1 = Int32.ofNat (i + 1) ∧ Int32.ofNat i + 2 = Int32.ofNat (i + 2) ∧ (i < 20 → Int32.ofNat i < 20) ∧ (Int32.ofNat i).toNatClampNeg = i ∧ (¬ i = M → ¬ Int32.ofNat i = Int32.ofNat M) := 
  (by decide : ∀ (i : Fin 23) (M : Fin 21), (M.val ≤ i.val → Int32.ofNat M ≤ Int32.ofNat i) ∧ (¬ M.val ≤ i.val → ¬ Int32.ofNat M ≤ Int32.ofNat i) ∧ (¬ 20 ≤ i.val → ¬ 20 ≤ Int32.ofNat i) ∧ Int32.ofNat i + 1 = Int32.ofNat (i.val + 1) ∧ Int32.ofNat i + 2 = Int32.ofNat (i.val + 2) ∧ (i.val < 20 → Int32.ofNat i < 20) ∧ (Int32.ofNat i).toNatClampNeg = i.val ∧ (¬ i.val = M.val → ¬ Int32.ofNat i = Int32.ofNat M)) ⟨i, by omega⟩ ⟨M, by omega⟩


set_option maxRecDepth 100000 in
set_option maxHeartbeats 1000000 in
theorem p_judgeL {c_isKept : Int32} {c_numbersSize : Int32} {c_now_told : Nat → Int32} {c_now_squad_size : Int32} {c_now_squad_facts : Nat → Int32} {c_kept_told : Nat → Int32} {c_kept_squad_size : Int32} {c_kept_squad_facts : Nat → Int32} {c_letters_size : Int32} {c_letters_signs : Nat → Int32} {c_numbers : Nat → Int32} {c_refusals : Nat → Int32} {c_lamp_reboundTenths : Int32} {c_lamp_lawInForce : Int32} {c_lamp_drawTenths : Int32} {c_lamp_solvedRows : Int32} {c_lamp_squad_size : Int32} {c_lamp_squad_facts : Nat → Int32} {c_lamp_changes : Nat → Int32} {c_lamp_values : Nat → Int32} {c_lamp_bests : Nat → Int32} {d_seconds : Int32} {d_lead : Int32} {d_ball : Int32} {d_rebound : Int32} {d_law : Int32} {d_draw : Int32} {d_players : Int32} {d_letters : Int32} {d_inRow : Int32} {d_imaged : Int32} {d_fouls : Nat → Int32} {d_calls : Nat → Int32} {d_side : Nat → Int32} {d_kind : Nat → Int32} {d_near : Nat → Int32} {d_far : Nat → Int32} {d_free : Nat → Int32} {d_letter : Nat → Int32} {d_row : Nat → Int32} {d_refusals : Nat → Int32} {d_image : Nat → Int32} {d_guard : Nat → Int32} (hR : Rel c_isKept c_numbersSize c_now_told c_now_squad_size c_now_squad_facts c_kept_told c_kept_squad_size c_kept_squad_facts c_letters_size c_letters_signs c_numbers c_refusals c_lamp_reboundTenths c_lamp_lawInForce c_lamp_drawTenths c_lamp_solvedRows c_lamp_squad_size c_lamp_squad_facts c_lamp_changes c_lamp_values c_lamp_bests d_seconds d_lead d_ball d_rebound d_law d_draw d_players d_letters d_inRow d_imaged d_fouls d_calls d_side d_kind d_near d_far d_free d_letter d_row d_refusals d_image d_guard) (M : Nat) (hM : M ≤ 20) (hrow : d_inRow = Int32.ofNat M) : ∀ (j i f4 f5 : Nat) (s b : Int32), M ≤ i + 2 * j → j < f4 → j < f5 → i ≤ 21 → m_Sec s →
    ∃ r, L_X4_placeThatCanNotBe_20 c_numbersSize c_now_told c_now_squad_size c_now_squad_facts c_numbers c_lamp_lawInForce (fun v1_20 v2_20 v3_20 => (-9)) f4 s b (Int32.ofNat i) = r ∧ L_X5_judge_23 d_inRow d_seconds d_lead d_ball d_law d_players 0 d_side d_row (fun v2_23 v3_23 v4_23 => ((-9), 0)) f5 s b (Int32.ofNat i) = (r, 0)
  | j, i, 0, f5, s, b, h, h4, h5, hi, hs => absurd h4 (by omega)
  | j, i, f4 + 1, 0, s, b, h, h4, h5, hi, hs => absurd h5 (by omega)
  | 0, i, f4 + 1, f5 + 1, s, b, h, h4, h5, hi, hs => by
      obtain ⟨w1, -⟩ := p_i20 i M hM (by omega)
      have hz := hR.2.2.2.2.1.1
      have g := w1 (by omega)
      refine ⟨-9, ?_, ?_⟩
      · rw [L_X4_placeThatCanNotBe_20, if_pos (by rw [hz, hrow]; exact g)]
      · rw [L_X5_judge_23, if_pos (by rw [hrow]; exact g)]
  | j + 1, i, f4 + 1, f5 + 1, s, b, h, h4, h5, hi, hs => by
      obtain ⟨w1, w2, w3, w4, w5, w6, w7, w8⟩ := p_i20 i M hM (by omega)
      obtain ⟨hz, -, hv⟩ := hR.2.2.2.2.1
      have hz' : c_numbersSize = Int32.ofNat M := hz.trans hrow
      by_cases hMi : M ≤ i
      · have g := w1 hMi
        refine ⟨-9, ?_, ?_⟩
        · rw [L_X4_placeThatCanNotBe_20, if_pos (by rw [hz']; exact g)]
        · rw [L_X5_judge_23, if_pos (by rw [hrow]; exact g)]
      obtain ⟨y1, y2, y3, y4, y5, y6, y7, y8⟩ := p_i20 (i + 1) M hM (by omega)
      have g4 : ¬ c_numbersSize ≤ Int32.ofNat i := by rw [hz']; exact w2 hMi
      have g5 : ¬ d_inRow ≤ Int32.ofNat i := by rw [hrow]; exact w2 hMi
      have g20 := w3 (by omega)
      rw [L_X4_placeThatCanNotBe_20, L_X5_judge_23, if_neg g4, if_neg g5, if_neg g20, w4, w5, w7, y7]
      by_cases hM1 : M ≤ i + 1
      · have e1 : i + 1 = M := by omega
        refine ⟨Int32.ofNat i, ?_, ?_⟩
        · rw [if_pos (by rw [hz']; exact y1 hM1)]
        · rw [if_pos (by rw [hrow, e1])]
      have hin := r_sq hR
      obtain ⟨hsz, hp⟩ := hin
      obtain ⟨hS, hP, -⟩ := r_rng hR
      obtain ⟨t0, t1, t2, -⟩ := r_told hR
      obtain ⟨k0, k1, k2, -⟩ := p_t0 c_now_told
      obtain ⟨a1, a2, a3⟩ := r_par hR
      have hN : d_inRow.toNatClampNeg = M := by rw [hrow]; exact (p_i20 M M hM (by omega)).2.2.2.2.2.2.1
      obtain ⟨n1, c0, c9⟩ := hv (i + 1) (by rw [hN]; omega)
      obtain ⟨n0, q0, q9⟩ := hv i (by rw [hN]; omega)
      have io : f_X1_isOver c_lamp_lawInForce s d_lead = f_X5_ended d_law s d_lead := by rw [a2]; exact p_isOver d_law hs hS.2.1
      rw [if_neg (by rw [hz']; exact y2 hM1), if_pos (y6 (by omega)), if_neg (show ¬ Int32.ofNat (i + 1) = d_inRow by rw [hrow]; exact y8 (by omega)), n1, n0, k1, t1, p_lt (f_X5_ended d_law s d_lead)]
      obtain ⟨c, hc⟩ : ∃ c, c = d_row (i + 1) := ⟨_, rfl⟩
      obtain ⟨p, hpp⟩ : ∃ p, p = d_row i := ⟨_, rfl⟩
      rw [← hc] at c0 c9 ⊢
      rw [← hpp] at q0 q9 ⊢
      by_cases h3 : c = 3
      · have tk := p_tkS' hs c0 (by rw [h3]; decide)
        rw [if_pos h3, p_lt d_lead, p_lt (f_X1_isOver c_lamp_lawInForce s d_lead), io]
        by_cases he : f_X5_ended d_law s d_lead = 0
        · rw [if_pos he, if_pos he, if_pos h3, if_pos (by rw [h3]; decide), if_pos (by rw [h3]; decide), p_lt, p_lt, if_pos (by rw [h3]; decide), tk.2]
          exact p_judgeL hR M hM hrow j (i + 2) f4 f5 _ b (by omega) (by omega) (by omega) (by omega) tk.1
        · rw [if_neg he, if_neg he]; exact ⟨_, rfl, rfl⟩
      · rw [if_neg h3, p_lt]
        by_cases he : f_X5_ended d_law s d_lead = 0
        · rw [if_pos he, if_neg h3, p_lt (f_X5_isOne d_players p)]
          rcases p_has hsz hP p with ⟨q, rfl, hq, o1, o2⟩ | ⟨o1, o2⟩
          · have f := hp q q.isLt
            have f0 : f_X3_fact c_now_squad_facts (Int32.ofNat q) 0 = d_side q := by rw [← f.1.1]; exact p_fact c_now_squad_facts q 0
            rw [o2, if_neg (by decide : ¬ (1 : Int32) = 0), p_nat6]
            by_cases hsb : d_side q = b
            · have hb1 : f_X4_hasBall c_now_squad_size c_now_squad_facts (Int32.ofNat q) b = 1 := by
                unfold f_X4_hasBall; rw [p_lt, o1, if_neg (by decide : ¬ (1 : Int32) = 0), p_lt, f0, if_pos hsb]
              rw [hb1, if_neg (by decide : ¬ (1 : Int32) = 0), if_pos hsb, p_lt d_lead, p_lt (f_X1_isOver c_lamp_lawInForce s d_lead), io, if_pos he]
              by_cases hc3 : c ≤ 3
              · have tk := p_tkS' hs c0 hc3
                rw [if_pos hc3, if_pos hc3, p_lt, p_lt, if_neg (p_c3 c0 hc3 h3), tk.2]
                exact p_judgeL hR M hM hrow j (i + 2) f4 f5 _ (1 - b) (by omega) (by omega) (by omega) (by omega) tk.1
              · rw [if_neg hc3, if_neg hc3]; exact ⟨_, rfl, rfl⟩
            · have hb1 : f_X4_hasBall c_now_squad_size c_now_squad_facts (Int32.ofNat q) b = 0 := by
                unfold f_X4_hasBall; rw [p_lt, o1, if_neg (by decide : ¬ (1 : Int32) = 0), p_lt, f0, if_neg hsb]
              rw [if_pos hb1, if_neg hsb]; exact ⟨_, rfl, rfl⟩
          · have hb1 : f_X4_hasBall c_now_squad_size c_now_squad_facts p b = 0 := by
              unfold f_X4_hasBall; rw [p_lt, if_pos o1]
            rw [if_pos hb1, if_pos o2]; exact ⟨_, rfl, rfl⟩
        · rw [if_neg he]
          refine ⟨Int32.ofNat i, ?_, rfl⟩
          by_cases hb0 : f_X4_hasBall c_now_squad_size c_now_squad_facts p b = 0
          · rw [if_pos hb0]
          · rw [if_neg hb0, p_lt, p_lt, io, if_neg he]


def p_nz (z : Int32) : Int32 := (z * 1664525) + 1013904223
def p_dr (z : Int32) : Int32 := g_remf ((((z * 1664525) + 1013904223) &&& 2147483647) / 256) 10
theorem p_draw (z : Int32) : f_X4_draw z 10 = (p_dr z, p_nz z) := by
  unfold f_X4_draw; rw [if_pos (by decide : (1 : Int32) ≤ 10)]; rfl
/-- one step of an end by lot, by the class's words -/
def p_nx (reb law t c z s l b : Int32) : Int32 × Int32 × Int32 × Int32 :=
  if c = 3 then (z, g_maxf 0 (s - 5), l, b)
  else if s < f_X4_takes c then (z, 0, l, b)
  else if t ≤ p_dr z then (p_nz (p_nz z), s - f_X4_takes c, l, if p_dr (p_nz z) < reb then b else 1 - b)
  else (p_nz z, f_X1_secondsBehindHit law c s, f_X1_leadBehind law c l b, 1 - b)
theorem p_mz (n : Fin 25) (c : Fin 3) : (Int32.ofNat n < f_X4_takes (Int32.ofNat c) → g_maxf 0 (Int32.ofNat n - f_X4_takes (Int32.ofNat c)) = 0) ∧ (¬ Int32.ofNat n < f_X4_takes (Int32.ofNat c) → g_maxf 0 (Int32.ofNat n - f_X4_takes (Int32.ofNat c)) = Int32.ofNat n - f_X4_takes (Int32.ofNat c)) := by
  unfold g_maxf; revert n c; decide
theorem p_m5 (n : Fin 25) : (5 ≤ Int32.ofNat n → Int32.ofNat n + (-5) = g_maxf 0 (Int32.ofNat n - 5)) ∧ (¬ 5 ≤ Int32.ofNat n → 0 = g_maxf 0 (Int32.ofNat n - 5)) := by
  unfold g_maxf; revert n; decide
theorem p_l4 (told : Nat → Int32) (c1 c2 c3 c4 c5 : Int32) (f h V B rT hv mv : Nat → Int32) (K : Int32 → Int32 → Int32 → Int32 → Int32 → Int32 × Int32 × Int32 × (Nat → Int32) × (Nat → Int32) × (Nat → Int32) × (Nat → Int32) × (Nat → Int32)) (g : Nat) (s l b v z t e : Int32) (c : Fin 4) (hv4 : ¬ 24 ≤ v) (ho : f_X1_isOver c2 s l = 0) (hb : f_X1_bestAt B s l b = e) (hc : g_remf e 10 = Int32.ofNat c) (ht : ¬ Int32.ofNat c = 3 → f_X1_tenths f h (e / 10) (Int32.ofNat c) s = t) (hs : m_Sec s) :
    L_X4_leadByLot_38 told c1 c2 c3 c4 c5 f h V B rT hv mv K (g + 1) s l b v z = L_X4_leadByLot_38 told c1 c2 c3 c4 c5 f h V B rT hv mv K g (p_nx (told 7) c2 t (Int32.ofNat c) z s l b).2.1 (p_nx (told 7) c2 t (Int32.ofNat c) z s l b).2.2.1 (p_nx (told 7) c2 t (Int32.ofNat c) z s l b).2.2.2 (v + 1) (p_nx (told 7) c2 t (Int32.ofNat c) z s l b).1 := by
  rw [L_X4_leadByLot_38, if_neg hv4, p_lt, if_pos ho, p_lt, hb, hc]
  by_cases h3 : Int32.ofNat c = 3
  · have e : p_nx (told 7) c2 t (Int32.ofNat c) z s l b = (z, g_maxf 0 (s - 5), l, b) := by
      unfold p_nx; rw [if_pos h3]
    rw [if_pos h3, p_lt, e, h3, (by decide : f_X4_takes 3 = 5)]
  · obtain ⟨n, rfl⟩ := pe_s hs
    obtain ⟨d, hd⟩ : ∃ d : Fin 3, Int32.ofNat d = Int32.ofNat c := (by decide : ∀ c : Fin 4, ¬ Int32.ofNat c = 3 → ∃ d : Fin 3, Int32.ofNat d = Int32.ofNat c) c h3
    have t' := ht h3
    rw [← hd] at h3 t' ⊢
    obtain ⟨m1, m2⟩ := p_mz n d
    obtain ⟨-, -, -, -, -, -, -, k7, -⟩ := p_t0 told
    rw [if_neg h3, p_lt]
    unfold p_nx
    rw [if_neg h3]
    by_cases hl : Int32.ofNat n < f_X4_takes (Int32.ofNat d)
    · rw [if_pos hl, if_pos hl, p_lt, m1 hl]
    · rw [if_neg hl, if_neg hl, p_draw, p_lt2, p_lt, t']
      by_cases hx : t ≤ p_dr z
      · rw [if_pos hx, if_pos hx, p_lt, p_draw, p_lt2, p_lt, k7, m2 hl]
        by_cases hy : p_dr (p_nz z) < told 7
        · rw [if_pos hy, if_pos hy]
        · rw [if_neg hy, if_neg hy]
      · rw [if_neg hx, if_neg hx, p_lt, p_lt]


theorem p_l5_0 (w1 w2 w4 w5 sec lead ball reb law draw players : Int32) (side kind near far free R guard W : Nat → Int32) (K : Int32 → Int32 → Int32 → Int32 → Int32 × (Nat → Int32) × (Nat → Int32)) (g : Nat) (s l b z e : Int32) (ho : f_X5_ended law s l = 0) (hb : f_X5_choice reb law draw players side kind near far free guard W s l b = e) (h9 : ¬ e = 93) (hc : g_remf e 10 = 0) (hs : m_Sec s) (hl : m_Ld l) :
    L_X5_lots_61 w1 w2 w4 w5 sec lead ball reb law draw players side kind near far free R guard W K (g + 1) z s l b = L_X5_lots_61 w1 w2 w4 w5 sec lead ball reb law draw players side kind near far free R guard W K g (p_nx reb law (p_tt kind near far free guard (e / 10) 0 s) 0 z s l b).1 (p_nx reb law (p_tt kind near far free guard (e / 10) 0 s) 0 z s l b).2.1 (p_nx reb law (p_tt kind near far free guard (e / 10) 0 s) 0 z s l b).2.2.1 (p_nx reb law (p_tt kind near far free guard (e / 10) 0 s) 0 z s l b).2.2.2 := by
  have tk : f_X5_takes 0 = 4 := by decide
  have tk4 : f_X4_takes 0 = 4 := by decide
  rw [L_X5_lots_61, p_lt, if_pos ho, p_lt, hb, if_neg h9, hc, p_lt, tk]
  unfold p_nx p_tt
  rw [if_neg (by decide : ¬ (0 : Int32) = 3), tk4, if_pos rfl]
  by_cases ht : 4 ≤ s
  · rw [if_pos ht, if_neg (Int32.not_lt.2 ht), if_neg (by decide : ¬ (0 : Int32) = 3), if_pos rfl, p_lt]
    show (if _ ≤ p_dr z then _ else _) = _
    by_cases hx : f_X5_odds kind near far free guard (e / 10) 0 s ≤ p_dr z
    · rw [if_pos hx, if_pos hx, p_lt]
      show (if p_dr (p_nz z) < reb then _ else _) = _
      by_cases hy : p_dr (p_nz z) < reb
      · rw [if_pos hy, if_pos hy]; rfl
      · rw [if_neg hy, if_neg hy]; rfl
    · rw [if_neg hx, if_neg hx]
      obtain ⟨k, hk⟩ := pe_l hl
      obtain ⟨e1, e2, e3, e4⟩ := p_hl k
      rw [← hk] at e1 e2 e3 e4
      unfold f_X1_secondsBehindHit f_X1_leadBehind
      by_cases l2 : law = 2
      · by_cases hb0 : b = 0
        · simp only [↓p_lt, if_pos l2, if_pos hb0, e1, p_nz, if_true]
        · simp only [↓p_lt, if_pos l2, if_neg hb0, e3, p_nz, if_true]
      · by_cases hb0 : b = 0
        · simp only [↓p_lt, if_neg l2, if_pos hb0, e1, p_nz, tk, tk4, if_true]
        · simp only [↓p_lt, if_neg l2, if_neg hb0, e3, p_nz, tk, tk4, if_true]
  · rw [if_neg ht, if_neg (by decide : ¬ (0 : Int32) = 3), if_pos (Int32.not_le.1 ht)]


theorem p_l5_1 (w1 w2 w4 w5 sec lead ball reb law draw players : Int32) (side kind near far free R guard W : Nat → Int32) (K : Int32 → Int32 → Int32 → Int32 → Int32 × (Nat → Int32) × (Nat → Int32)) (g : Nat) (s l b z e : Int32) (ho : f_X5_ended law s l = 0) (hb : f_X5_choice reb law draw players side kind near far free guard W s l b = e) (h9 : ¬ e = 93) (hc : g_remf e 10 = 1) (hs : m_Sec s) (hl : m_Ld l) :
    L_X5_lots_61 w1 w2 w4 w5 sec lead ball reb law draw players side kind near far free R guard W K (g + 1) z s l b = L_X5_lots_61 w1 w2 w4 w5 sec lead ball reb law draw players side kind near far free R guard W K g (p_nx reb law (p_tt kind near far free guard (e / 10) 1 s) 1 z s l b).1 (p_nx reb law (p_tt kind near far free guard (e / 10) 1 s) 1 z s l b).2.1 (p_nx reb law (p_tt kind near far free guard (e / 10) 1 s) 1 z s l b).2.2.1 (p_nx reb law (p_tt kind near far free guard (e / 10) 1 s) 1 z s l b).2.2.2 := by
  have tk : f_X5_takes 1 = 3 := by decide
  have tk4 : f_X4_takes 1 = 3 := by decide
  rw [L_X5_lots_61, p_lt, if_pos ho, p_lt, hb, if_neg h9, hc, p_lt, tk]
  unfold p_nx p_tt
  rw [if_neg (by decide : ¬ (1 : Int32) = 3), tk4, if_neg (by decide : ¬ (1 : Int32) = 0), if_neg (by decide : ¬ (1 : Int32) = 2)]
  by_cases ht : 3 ≤ s
  · rw [if_pos ht, if_neg (Int32.not_lt.2 ht), if_neg (by decide : ¬ (1 : Int32) = 3), if_neg (by decide : ¬ (1 : Int32) = 0), p_lt, if_neg (by decide : ¬ (1 : Int32) = 2)]
    show (if _ ≤ p_dr z then _ else _) = _
    by_cases hx : f_X5_odds kind near far free guard (e / 10) 1 s ≤ p_dr z
    · rw [if_pos hx, if_pos hx, p_lt]
      show (if p_dr (p_nz z) < reb then _ else _) = _
      by_cases hy : p_dr (p_nz z) < reb
      · rw [if_pos hy, if_pos hy]; rfl
      · rw [if_neg hy, if_neg hy]; rfl
    · rw [if_neg hx, if_neg hx]
      obtain ⟨k, hk⟩ := pe_l hl
      obtain ⟨e1, e2, e3, e4⟩ := p_hl k
      rw [← hk] at e1 e2 e3 e4
      unfold f_X1_secondsBehindHit f_X1_leadBehind
      have n0 : ¬ (1 : Int32) = 0 := by decide
      by_cases l3 : law = 3
      · have l2 : ¬ law = 2 := by rw [l3]; decide
        by_cases hb0 : b = 0
        · simp only [↓p_lt, if_pos l3, if_neg l2, if_pos hb0, if_neg n0, e1, p_nz, tk, tk4]
        · simp only [↓p_lt, if_pos l3, if_neg l2, if_neg hb0, if_neg n0, e3, p_nz, tk, tk4]
      · by_cases l2 : law = 2
        · by_cases hb0 : b = 0
          · simp only [↓p_lt, if_neg l3, if_pos l2, if_pos hb0, if_neg n0, e2, p_nz]
          · simp only [↓p_lt, if_neg l3, if_pos l2, if_neg hb0, if_neg n0, e4, p_nz]
        · by_cases hb0 : b = 0
          · simp only [↓p_lt, if_neg l3, if_neg l2, if_pos hb0, if_neg n0, e2, p_nz, tk, tk4]
          · simp only [↓p_lt, if_neg l3, if_neg l2, if_neg hb0, if_neg n0, e4, p_nz, tk, tk4]
  · rw [if_neg ht, if_neg (by decide : ¬ (1 : Int32) = 3), if_pos (Int32.not_le.1 ht)]


theorem p_l5_2 (w1 w2 w4 w5 sec lead ball reb law draw players : Int32) (side kind near far free R guard W : Nat → Int32) (K : Int32 → Int32 → Int32 → Int32 → Int32 × (Nat → Int32) × (Nat → Int32)) (g : Nat) (s l b z e : Int32) (ho : f_X5_ended law s l = 0) (hb : f_X5_choice reb law draw players side kind near far free guard W s l b = e) (h9 : ¬ e = 93) (hc : g_remf e 10 = 2) (hs : m_Sec s) (hl : m_Ld l) :
    L_X5_lots_61 w1 w2 w4 w5 sec lead ball reb law draw players side kind near far free R guard W K (g + 1) z s l b = L_X5_lots_61 w1 w2 w4 w5 sec lead ball reb law draw players side kind near far free R guard W K g (p_nx reb law (p_tt kind near far free guard (e / 10) 2 s) 2 z s l b).1 (p_nx reb law (p_tt kind near far free guard (e / 10) 2 s) 2 z s l b).2.1 (p_nx reb law (p_tt kind near far free guard (e / 10) 2 s) 2 z s l b).2.2.1 (p_nx reb law (p_tt kind near far free guard (e / 10) 2 s) 2 z s l b).2.2.2 := by
  have tk : f_X5_takes 2 = 1 := by decide
  have tk4 : f_X4_takes 2 = 1 := by decide
  rw [L_X5_lots_61, p_lt, if_pos ho, p_lt, hb, if_neg h9, hc, p_lt, tk]
  unfold p_nx p_tt
  rw [if_neg (by decide : ¬ (2 : Int32) = 3), tk4, if_neg (by decide : ¬ (2 : Int32) = 0), if_pos rfl]
  by_cases ht : 1 ≤ s
  · rw [if_pos ht, if_neg (Int32.not_lt.2 ht), if_neg (by decide : ¬ (2 : Int32) = 3), if_neg (by decide : ¬ (2 : Int32) = 0), p_lt, if_pos rfl]
    show (if _ ≤ p_dr z then _ else _) = _
    by_cases hx : f_X5_odds kind near far free guard (e / 10) 1 s / 2 ≤ p_dr z
    · rw [if_pos hx, if_pos hx, p_lt]
      show (if p_dr (p_nz z) < reb then _ else _) = _
      by_cases hy : p_dr (p_nz z) < reb
      · rw [if_pos hy, if_pos hy]; rfl
      · rw [if_neg hy, if_neg hy]; rfl
    · rw [if_neg hx, if_neg hx]
      obtain ⟨k, hk⟩ := pe_l hl
      obtain ⟨e1, e2, e3, e4⟩ := p_hl k
      rw [← hk] at e1 e2 e3 e4
      unfold f_X1_secondsBehindHit f_X1_leadBehind
      have n0 : ¬ (2 : Int32) = 0 := by decide
      by_cases l3 : law = 3
      · have l2 : ¬ law = 2 := by rw [l3]; decide
        by_cases hb0 : b = 0
        · simp only [↓p_lt, if_pos l3, if_neg l2, if_pos hb0, if_neg n0, e1, p_nz, tk, tk4]
        · simp only [↓p_lt, if_pos l3, if_neg l2, if_neg hb0, if_neg n0, e3, p_nz, tk, tk4]
      · by_cases l2 : law = 2
        · by_cases hb0 : b = 0
          · simp only [↓p_lt, if_neg l3, if_pos l2, if_pos hb0, if_neg n0, e2, p_nz]
          · simp only [↓p_lt, if_neg l3, if_pos l2, if_neg hb0, if_neg n0, e4, p_nz]
        · by_cases hb0 : b = 0
          · simp only [↓p_lt, if_neg l3, if_neg l2, if_pos hb0, if_neg n0, e2, p_nz, tk, tk4]
          · simp only [↓p_lt, if_neg l3, if_neg l2, if_neg hb0, if_neg n0, e4, p_nz, tk, tk4]
  · rw [if_neg ht, if_neg (by decide : ¬ (2 : Int32) = 3), if_pos (Int32.not_le.1 ht)]


theorem p_l5_3 (w1 w2 w4 w5 sec lead ball reb law draw players : Int32) (side kind near far free R guard W : Nat → Int32) (K : Int32 → Int32 → Int32 → Int32 → Int32 × (Nat → Int32) × (Nat → Int32)) (g : Nat) (s l b z t : Int32) (ho : f_X5_ended law s l = 0) (hb : f_X5_choice reb law draw players side kind near far free guard W s l b = 93) (hs : m_Sec s) :
    L_X5_lots_61 w1 w2 w4 w5 sec lead ball reb law draw players side kind near far free R guard W K (g + 1) z s l b = L_X5_lots_61 w1 w2 w4 w5 sec lead ball reb law draw players side kind near far free R guard W K g (p_nx reb law t 3 z s l b).1 (p_nx reb law t 3 z s l b).2.1 (p_nx reb law t 3 z s l b).2.2.1 (p_nx reb law t 3 z s l b).2.2.2 := by
  obtain ⟨n, rfl⟩ := pe_s hs
  obtain ⟨m1, m2⟩ := p_m5 n
  rw [L_X5_lots_61, p_lt, if_pos ho, p_lt, hb, if_pos rfl, p_lt, (by decide : f_X5_takes 3 = 5)]
  unfold p_nx
  rw [if_pos rfl]
  by_cases ht : 5 ≤ Int32.ofNat n
  · rw [if_pos ht, m1 ht]
  · rw [if_neg ht, ← m2 ht]
theorem p_chc (reb law draw players : Int32) (side kind near far free guard W : Nat → Int32) (s l b : Int32) (hP : m_P players) :
    f_X5_choice reb law draw players side kind near far free guard W s l b = 93 ∨ ∃ (p : Fin 6) (c : Fin 3), f_X5_choice reb law draw players side kind near far free guard W s l b = 10 * Int32.ofNat p + Int32.ofNat c := by
  obtain ⟨m, rfl⟩ := pe_nat 6 hP.1 hP.2 (by decide)
  have hm : m.val ≤ 6 := by have := m.isLt; omega
  have hc := congrArg Prod.snd (p_choice reb law draw (Int32.ofNat m) side kind near far free guard W s l b m.val hm rfl)
  simp only at hc
  rw [hc]
  rcases p_foldr_mem b (f_X5_ofHold draw W s l b, 93) (p_Cd (p_sh reb law draw kind near far free guard W s l b) (p_pl side guard b) 0 m.val) with h | ⟨q, hq, h⟩
  · rw [h]; exact Or.inl rfl
  · rw [h]
    obtain ⟨p, c, h1, h2, h3⟩ := p_Cd_code _ _ m.val hm q hq
    exact Or.inr ⟨p, c, by rw [h3]⟩
/-- the step's state is one, with fewer seconds -/
theorem p_nxS (reb law t z s l b : Int32) (c : Fin 4) (hS : m_S s l b) (h0 : ¬ s = 0) : m_S (p_nx reb law t (Int32.ofNat c) z s l b).2.1 (p_nx reb law t (Int32.ofNat c) z s l b).2.2.1 (p_nx reb law t (Int32.ofNat c) z s l b).2.2.2 ∧ (p_nx reb law t (Int32.ofNat c) z s l b).2.1 < s := by
  obtain ⟨hs, hl, hb⟩ := hS
  have hb1 := p_b1 hb
  unfold p_nx
  by_cases h3 : Int32.ofNat c = 3
  · rw [if_pos h3]
    obtain ⟨n, rfl⟩ := pe_s hs
    obtain ⟨z1, z2⟩ := (show ∀ n : Fin 25, ¬ Int32.ofNat n = 0 → m_Sec (g_maxf 0 (Int32.ofNat n - 5)) ∧ g_maxf 0 (Int32.ofNat n - 5) < Int32.ofNat n by unfold m_Sec g_maxf; decide) n h0
    exact ⟨⟨z1, hl, hb⟩, z2⟩
  · rw [if_neg h3]
    by_cases h4 : s < f_X4_takes (Int32.ofNat c)
    · rw [if_pos h4]
      have z0 : m_Sec 0 := ⟨by decide, by decide⟩
      exact ⟨⟨z0, hl, hb⟩, p_pos hs h0⟩
    · rw [if_neg h4]
      have hk : m_Sec (s - f_X4_takes (Int32.ofNat c)) ∧ s - f_X4_takes (Int32.ofNat c) < s ∧ m_Sec (s - 1) ∧ s - 1 < s := by
        obtain ⟨n, rfl⟩ := pe_s hs
        clear hs hl hb hb1
        have z := (show ∀ (n : Fin 25) (c : Fin 4), ¬ Int32.ofNat c = 3 → ¬ Int32.ofNat n = 0 → ¬ Int32.ofNat n < f_X4_takes (Int32.ofNat c) → m_Sec (Int32.ofNat n - f_X4_takes (Int32.ofNat c)) ∧ Int32.ofNat n - f_X4_takes (Int32.ofNat c) < Int32.ofNat n ∧ m_Sec (Int32.ofNat n - 1) ∧ Int32.ofNat n - 1 < Int32.ofNat n by unfold m_Sec; decide) n c h3 h0 h4
        exact z
      by_cases hx : t ≤ p_dr z
      · rw [if_pos hx]
        refine ⟨⟨hk.1, hl, ?_⟩, hk.2.1⟩
        show m_Bl (if p_dr (p_nz z) < reb then b else 1 - b)
        by_cases hy : p_dr (p_nz z) < reb
        · rw [if_pos hy]; exact hb
        · rw [if_neg hy]; exact hb1
      · rw [if_neg hx]
        have e : f_X1_secondsBehindHit law (Int32.ofNat c) s = s - 1 ∨ f_X1_secondsBehindHit law (Int32.ofNat c) s = s - f_X4_takes (Int32.ofNat c) := by
          unfold f_X1_secondsBehindHit
          by_cases l2 : law = 2
          · rw [if_pos l2]; exact Or.inl rfl
          · rw [if_neg l2, p_lt]; exact Or.inr rfl
        show m_S (f_X1_secondsBehindHit law (Int32.ofNat c) s) (f_X1_leadBehind law (Int32.ofNat c) l b) (1 - b) ∧ f_X1_secondsBehindHit law (Int32.ofNat c) s < s
        rcases e with e | e
        · rw [e]; exact ⟨⟨hk.2.2.1, p_lb _ _ _ _, hb1⟩, hk.2.2.2⟩
        · rw [e]; exact ⟨⟨hk.1, p_lb _ _ _ _, hb1⟩, hk.2.1⟩


set_option maxRecDepth 100000 in
set_option maxHeartbeats 1000000 in
theorem p_lotL {c_isKept : Int32} {c_numbersSize : Int32} {c_now_told : Nat → Int32} {c_now_squad_size : Int32} {c_now_squad_facts : Nat → Int32} {c_kept_told : Nat → Int32} {c_kept_squad_size : Int32} {c_kept_squad_facts : Nat → Int32} {c_letters_size : Int32} {c_letters_signs : Nat → Int32} {c_numbers : Nat → Int32} {c_refusals : Nat → Int32} {c_lamp_reboundTenths : Int32} {c_lamp_lawInForce : Int32} {c_lamp_drawTenths : Int32} {c_lamp_solvedRows : Int32} {c_lamp_squad_size : Int32} {c_lamp_squad_facts : Nat → Int32} {c_lamp_changes : Nat → Int32} {c_lamp_values : Nat → Int32} {c_lamp_bests : Nat → Int32} {d_seconds : Int32} {d_lead : Int32} {d_ball : Int32} {d_rebound : Int32} {d_law : Int32} {d_draw : Int32} {d_players : Int32} {d_letters : Int32} {d_inRow : Int32} {d_imaged : Int32} {d_fouls : Nat → Int32} {d_calls : Nat → Int32} {d_side : Nat → Int32} {d_kind : Nat → Int32} {d_near : Nat → Int32} {d_far : Nat → Int32} {d_free : Nat → Int32} {d_letter : Nat → Int32} {d_row : Nat → Int32} {d_refusals : Nat → Int32} {d_image : Nat → Int32} {d_guard : Nat → Int32} (hR : Rel c_isKept c_numbersSize c_now_told c_now_squad_size c_now_squad_facts c_kept_told c_kept_squad_size c_kept_squad_facts c_letters_size c_letters_signs c_numbers c_refusals c_lamp_reboundTenths c_lamp_lawInForce c_lamp_drawTenths c_lamp_solvedRows c_lamp_squad_size c_lamp_squad_facts c_lamp_changes c_lamp_values c_lamp_bests d_seconds d_lead d_ball d_rebound d_law d_draw d_players d_letters d_inRow d_imaged d_fouls d_calls d_side d_kind d_near d_far d_free d_letter d_row d_refusals d_image d_guard) (W0 R : Nat → Int32) {n : Int32} {V B : Nat → Int32} (hSol : r_Sol d_rebound d_law d_draw d_players d_side d_kind d_near d_far d_free d_guard V B n) (hlt : d_seconds < n) (rT hv mv : Nat → Int32) (w1 w2 w4 w5 : Int32) (K : Int32 → Int32 → Int32 → Int32 → Int32 → Int32 × Int32 × Int32 × (Nat → Int32) × (Nat → Int32) × (Nat → Int32) × (Nat → Int32) × (Nat → Int32)) (K' : Int32 → Int32 → Int32 → Int32 → Int32 × (Nat → Int32) × (Nat → Int32)) : ∀ (k i f4 f5 : Nat) (s l b z : Int32), m_S s l b → s ≤ d_seconds → s.toInt.toNat ≤ k → k + i ≤ 24 → 24 < f4 + i → k < f5 →
    ∃ z' s' l' b' i', L_X4_leadByLot_38 c_now_told c_lamp_reboundTenths c_lamp_lawInForce c_lamp_drawTenths n c_lamp_squad_size c_lamp_squad_facts c_lamp_changes V B rT hv mv K f4 s l b (Int32.ofNat i) z = K s' l' b' i' z' ∧ L_X5_lots_61 w1 w2 w4 w5 d_seconds d_lead d_ball d_rebound d_law d_draw d_players d_side d_kind d_near d_far d_free R d_guard (f_X5_solve d_rebound d_law d_draw d_players d_side d_kind d_near d_far d_free d_guard W0) K' f5 z s l b = K' z' s' l' b'
  | k, i, 0, f5, s, l, b, z, hS, hle, hk, hi, h4, h5 => absurd h4 (by omega)
  | k, i, f4 + 1, 0, s, l, b, z, hS, hle, hk, hi, h4, h5 => absurd h5 (by omega)
  | k, i, f4 + 1, f5 + 1, s, l, b, z, hS, hle, hk, hi, h4, h5 => by
      obtain ⟨a1, a2, a3⟩ := r_par hR
      obtain ⟨hS0, hP, hr, -, hd⟩ := r_rng hR
      obtain ⟨t0, t1, t2, t3, t4, t5, t6, t7, -⟩ := r_told hR
      have io : f_X1_isOver c_lamp_lawInForce s l = f_X5_ended d_law s l := by rw [a2]; exact p_isOver d_law hS.1 hS.2.1
      have hL := r_LR hR
      by_cases he : f_X5_ended d_law s l = 0
      · have s0 := p_end0 he
        have hk1 : 1 ≤ s.toInt.toNat := by
          have h1 := Int32.lt_iff_toInt_lt.1 (p_pos hS.1 s0)
          have e0 : (0 : Int32).toInt = 0 := by decide
          omega
        obtain ⟨i1, i2⟩ := (by decide : ∀ i : Fin 24, ¬ 24 ≤ Int32.ofNat i ∧ Int32.ofNat i + 1 = Int32.ofNat (i.val + 1)) ⟨i, by omega⟩
        obtain ⟨k', rfl⟩ : ∃ k', k = k' + 1 := ⟨k - 1, by omega⟩
        have ag := (p_agree hL hr hd W0 hSol hS (Int32.lt_of_le_of_lt hle hlt)).2.1
        unfold m_bst at ag
        rw [if_pos he] at ag
        have next : ∀ (c : Fin 4) (t : Int32), L_X4_leadByLot_38 c_now_told c_lamp_reboundTenths c_lamp_lawInForce c_lamp_drawTenths n c_lamp_squad_size c_lamp_squad_facts c_lamp_changes V B rT hv mv K (f4 + 1) s l b (Int32.ofNat i) z = L_X4_leadByLot_38 c_now_told c_lamp_reboundTenths c_lamp_lawInForce c_lamp_drawTenths n c_lamp_squad_size c_lamp_squad_facts c_lamp_changes V B rT hv mv K f4 (p_nx d_rebound d_law t (Int32.ofNat c) z s l b).2.1 (p_nx d_rebound d_law t (Int32.ofNat c) z s l b).2.2.1 (p_nx d_rebound d_law t (Int32.ofNat c) z s l b).2.2.2 (Int32.ofNat i + 1) (p_nx d_rebound d_law t (Int32.ofNat c) z s l b).1 →
            L_X5_lots_61 w1 w2 w4 w5 d_seconds d_lead d_ball d_rebound d_law d_draw d_players d_side d_kind d_near d_far d_free R d_guard (f_X5_solve d_rebound d_law d_draw d_players d_side d_kind d_near d_far d_free d_guard W0) K' (f5 + 1) z s l b = L_X5_lots_61 w1 w2 w4 w5 d_seconds d_lead d_ball d_rebound d_law d_draw d_players d_side d_kind d_near d_far d_free R d_guard (f_X5_solve d_rebound d_law d_draw d_players d_side d_kind d_near d_far d_free d_guard W0) K' f5 (p_nx d_rebound d_law t (Int32.ofNat c) z s l b).1 (p_nx d_rebound d_law t (Int32.ofNat c) z s l b).2.1 (p_nx d_rebound d_law t (Int32.ofNat c) z s l b).2.2.1 (p_nx d_rebound d_law t (Int32.ofNat c) z s l b).2.2.2 →
            ∃ z' s' l' b' i', L_X4_leadByLot_38 c_now_told c_lamp_reboundTenths c_lamp_lawInForce c_lamp_drawTenths n c_lamp_squad_size c_lamp_squad_facts c_lamp_changes V B rT hv mv K (f4 + 1) s l b (Int32.ofNat i) z = K s' l' b' i' z' ∧ L_X5_lots_61 w1 w2 w4 w5 d_seconds d_lead d_ball d_rebound d_law d_draw d_players d_side d_kind d_near d_far d_free R d_guard (f_X5_solve d_rebound d_law d_draw d_players d_side d_kind d_near d_far d_free d_guard W0) K' (f5 + 1) z s l b = K' z' s' l' b' := by
          intro c t q4 q5
          obtain ⟨nS, nl⟩ := p_nxS d_rebound d_law t z s l b c hS s0
          rw [q4, q5, i2]
          have h1 := Int32.lt_iff_toInt_lt.1 nl
          exact p_lotL hR W0 R hSol hlt rT hv mv w1 w2 w4 w5 K K' k' (i + 1) f4 f5 _ _ _ _ nS (Int32.le_trans (Int32.le_of_lt nl) hle) (by omega) (by omega) (by omega) (by omega)
        rcases p_chc d_rebound d_law d_draw d_players d_side d_kind d_near d_far d_free d_guard (f_X5_solve d_rebound d_law d_draw d_players d_side d_kind d_near d_far d_free d_guard W0) s l b hP with hc | ⟨p, c, hc⟩
        · rw [hc] at ag
          refine next 3 0 ?_ ?_
          · have := p_l4 c_now_told c_lamp_reboundTenths c_lamp_lawInForce c_lamp_drawTenths n c_lamp_squad_size c_lamp_squad_facts c_lamp_changes V B rT hv mv K f4 s l b (Int32.ofNat i) z 0 93 3 i1 (io.trans he) ag (by decide) (fun h => absurd rfl h) hS.1
            rw [t7, a2] at this
            rw [a2]; exact this
          · exact p_l5_3 _ _ _ _ _ _ _ _ _ _ _ _ _ _ _ _ _ _ _ K' f5 s l b z 0 he hc hS.1
        · rw [hc] at ag
          obtain ⟨-, c93, cd, cr, -⟩ := p_code0 p c
          have od := p_od (changes := c_lamp_changes) (guard := d_guard) p s c (hL.2.2.1 p p.isLt) (hL.2.2.2 p p.isLt)
          refine next c.castSucc (p_tt d_kind d_near d_far d_free d_guard (Int32.ofNat p) (Int32.ofNat c) s) ?_ ?_
          · have := p_l4 c_now_told c_lamp_reboundTenths c_lamp_lawInForce c_lamp_drawTenths n c_lamp_squad_size c_lamp_squad_facts c_lamp_changes V B rT hv mv K f4 s l b (Int32.ofNat i) z (p_tt d_kind d_near d_far d_free d_guard (Int32.ofNat p) (Int32.ofNat c) s) _ c.castSucc i1 (io.trans he) ag cr (fun _ => by rw [cd]; exact od.1) hS.1
            rw [t7, a2] at this
            rw [a2]; exact this
          · match c, hc, c93, cd, cr with
            | ⟨0, _⟩, hc, c93, cd, cr =>
              have := p_l5_0 w1 w2 w4 w5 d_seconds d_lead d_ball d_rebound d_law d_draw d_players d_side d_kind d_near d_far d_free R d_guard (f_X5_solve d_rebound d_law d_draw d_players d_side d_kind d_near d_far d_free d_guard W0) K' f5 s l b z _ he hc c93 cr hS.1 hS.2.1
              rw [cd] at this; exact this
            | ⟨1, _⟩, hc, c93, cd, cr =>
              have := p_l5_1 w1 w2 w4 w5 d_seconds d_lead d_ball d_rebound d_law d_draw d_players d_side d_kind d_near d_far d_free R d_guard (f_X5_solve d_rebound d_law d_draw d_players d_side d_kind d_near d_far d_free d_guard W0) K' f5 s l b z _ he hc c93 cr hS.1 hS.2.1
              rw [cd] at this; exact this
            | ⟨2, _⟩, hc, c93, cd, cr =>
              have := p_l5_2 w1 w2 w4 w5 d_seconds d_lead d_ball d_rebound d_law d_draw d_players d_side d_kind d_near d_far d_free R d_guard (f_X5_solve d_rebound d_law d_draw d_players d_side d_kind d_near d_far d_free d_guard W0) K' f5 s l b z _ he hc c93 cr hS.1 hS.2.1
              rw [cd] at this; exact this
      · refine ⟨z, s, l, b, Int32.ofNat i, ?_, ?_⟩
        · rw [L_X4_leadByLot_38]
          by_cases h24 : 24 ≤ Int32.ofNat i
          · rw [if_pos h24]
          · rw [if_neg h24, p_lt, io, if_neg he]
        · rw [L_X5_lots_61, p_lt, if_neg he]


theorem p_i30 (i m : Nat) (hm : m ≤ 30) (hi : i < m) : ¬ Int32.ofNat m ≤ Int32.ofNat i ∧ Int32.ofNat i + 1 = Int32.ofNat (i + 1) :=
  ⟨(by decide : ∀ m p : Fin 31, p.val < m.val → ¬ Int32.ofNat m ≤ Int32.ofNat p) ⟨m, by omega⟩ ⟨i, by omega⟩ hi, (by decide : ∀ p : Fin 31, Int32.ofNat p + 1 = Int32.ofNat (p.val + 1)) ⟨i, by omega⟩⟩
set_option maxRecDepth 100000 in
set_option maxHeartbeats 1000000 in
theorem p_lotsL {c_isKept : Int32} {c_numbersSize : Int32} {c_now_told : Nat → Int32} {c_now_squad_size : Int32} {c_now_squad_facts : Nat → Int32} {c_kept_told : Nat → Int32} {c_kept_squad_size : Int32} {c_kept_squad_facts : Nat → Int32} {c_letters_size : Int32} {c_letters_signs : Nat → Int32} {c_numbers : Nat → Int32} {c_refusals : Nat → Int32} {c_lamp_reboundTenths : Int32} {c_lamp_lawInForce : Int32} {c_lamp_drawTenths : Int32} {c_lamp_solvedRows : Int32} {c_lamp_squad_size : Int32} {c_lamp_squad_facts : Nat → Int32} {c_lamp_changes : Nat → Int32} {c_lamp_values : Nat → Int32} {c_lamp_bests : Nat → Int32} {d_seconds : Int32} {d_lead : Int32} {d_ball : Int32} {d_rebound : Int32} {d_law : Int32} {d_draw : Int32} {d_players : Int32} {d_letters : Int32} {d_inRow : Int32} {d_imaged : Int32} {d_fouls : Nat → Int32} {d_calls : Nat → Int32} {d_side : Nat → Int32} {d_kind : Nat → Int32} {d_near : Nat → Int32} {d_far : Nat → Int32} {d_free : Nat → Int32} {d_letter : Nat → Int32} {d_row : Nat → Int32} {d_refusals : Nat → Int32} {d_image : Nat → Int32} {d_guard : Nat → Int32} (hR : Rel c_isKept c_numbersSize c_now_told c_now_squad_size c_now_squad_facts c_kept_told c_kept_squad_size c_kept_squad_facts c_letters_size c_letters_signs c_numbers c_refusals c_lamp_reboundTenths c_lamp_lawInForce c_lamp_drawTenths c_lamp_solvedRows c_lamp_squad_size c_lamp_squad_facts c_lamp_changes c_lamp_values c_lamp_bests d_seconds d_lead d_ball d_rebound d_law d_draw d_players d_letters d_inRow d_imaged d_fouls d_calls d_side d_kind d_near d_far d_free d_letter d_row d_refusals d_image d_guard) (W0 R4 R5 : Nat → Int32) (w2 w3 w2' : Int32) (m : Nat) (hm : m ≤ 30) : ∀ (j i : Nat) (t z n : Int32) (V B rT hv mv : Nat → Int32), i + j = m → r_Sol d_rebound d_law d_draw d_players d_side d_kind d_near d_far d_free d_guard V B n →
    ∃ r z' n' V' B' rT' hv' mv', L_X4_lots_38 (Int32.ofNat m) w2 w3 c_now_told R4 c_lamp_reboundTenths c_lamp_lawInForce c_lamp_drawTenths c_lamp_squad_size c_lamp_squad_facts c_lamp_changes (fun v4_38 v5_38 c_seed_38 z1 z2 z3 z4 z5 z6 => (v4_38, c_seed_38, R4, z1, z2, z3, z4, z5, z6)) (j + 1) t (Int32.ofNat i) z n V B rT hv mv = (r, z', R4, n', V', B', rT', hv', mv') ∧
      L_X5_lots_37 (Int32.ofNat m) w2' d_seconds d_lead d_ball d_rebound d_law d_draw d_players d_side d_kind d_near d_far d_free R5 d_guard (f_X5_solve d_rebound d_law d_draw d_players d_side d_kind d_near d_far d_free d_guard W0) (fun v3_37 v4_37 v5_37 => (v4_37, R5, (f_X5_solve d_rebound d_law d_draw d_players d_side d_kind d_near d_far d_free d_guard W0))) (j + 1) z t (Int32.ofNat i) = (r, R5, (f_X5_solve d_rebound d_law d_draw d_players d_side d_kind d_near d_far d_free d_guard W0)) ∧ r_Sol d_rebound d_law d_draw d_players d_side d_kind d_near d_far d_free d_guard V' B' n'
  | 0, i, t, z, n, V, B, rT, hv, mv, h, hs => by
      have e : i = m := by omega
      subst e
      refine ⟨t, z, n, V, B, rT, hv, mv, ?_, ?_, hs⟩
      · rw [L_X4_lots_38, if_pos (Int32.le_refl _)]
      · rw [L_X5_lots_37, if_pos (Int32.le_refl _)]
  | j + 1, i, t, z, n, V, B, rT, hv, mv, h, hs => by
      obtain ⟨e1, e2⟩ := p_i30 i m hm (by omega)
      obtain ⟨a1, a2, a3⟩ := r_par hR
      obtain ⟨hS, hP, hr, -, hd⟩ := r_rng hR
      obtain ⟨t0, t1, t2, -⟩ := r_told hR
      obtain ⟨k0, k1, k2, -⟩ := p_t0 c_now_told
      obtain ⟨n1, V1, B1, rT1, hv1, mv1, g1, g2, g3⟩ := p_solveTo (r_LR hR) hr hd hS.1 rT hv mv hs
      have hb : d_seconds.toInt.toNat ≤ 24 := by
        have h1 := Int32.le_iff_toInt_le.1 hS.1.2
        have e0 : (24 : Int32).toInt = 24 := by decide
        omega
      rw [L_X4_lots_38, L_X5_lots_37, if_neg e1, if_neg e1]
      obtain ⟨z', s', l', b', i', q4, q5⟩ := p_lotL hR W0 R5 g2 g3 rT1 hv1 mv1 (Int32.ofNat m) w2' t (Int32.ofNat i) (fun v1_38 v2_38 v3_38 v4_38 c_seed_38 => (v2_38, c_seed_38, n1, V1, B1, rT1, hv1, mv1)) (fun v3_61 v6_61 v7_61 v8_61 => (if v7_61 ≤ 6 then (if v7_61 = 6 then L_X5_lots_37 (Int32.ofNat m) w2' d_seconds d_lead d_ball d_rebound d_law d_draw d_players d_side d_kind d_near d_far d_free R5 d_guard (f_X5_solve d_rebound d_law d_draw d_players d_side d_kind d_near d_far d_free d_guard W0) (fun v3_37 v4_37 v5_37 => (v4_37, R5, (f_X5_solve d_rebound d_law d_draw d_players d_side d_kind d_near d_far d_free d_guard W0))) (j + 1) v3_61 (t + 1) (Int32.ofNat i + 1) else L_X5_lots_37 (Int32.ofNat m) w2' d_seconds d_lead d_ball d_rebound d_law d_draw d_players d_side d_kind d_near d_far d_free R5 d_guard (f_X5_solve d_rebound d_law d_draw d_players d_side d_kind d_near d_far d_free d_guard W0) (fun v3_37 v4_37 v5_37 => (v4_37, R5, (f_X5_solve d_rebound d_law d_draw d_players d_side d_kind d_near d_far d_free d_guard W0))) (j + 1) v3_61 t (Int32.ofNat i + 1)) else (if v7_61 = 6 then L_X5_lots_37 (Int32.ofNat m) w2' d_seconds d_lead d_ball d_rebound d_law d_draw d_players d_side d_kind d_near d_far d_free R5 d_guard (f_X5_solve d_rebound d_law d_draw d_players d_side d_kind d_near d_far d_free d_guard W0) (fun v3_37 v4_37 v5_37 => (v4_37, R5, (f_X5_solve d_rebound d_law d_draw d_players d_side d_kind d_near d_far d_free d_guard W0))) (j + 1) v3_61 ((t + 100) + 1) (Int32.ofNat i + 1) else L_X5_lots_37 (Int32.ofNat m) w2' d_seconds d_lead d_ball d_rebound d_law d_draw d_players d_side d_kind d_near d_far d_free R5 d_guard (f_X5_solve d_rebound d_law d_draw d_players d_side d_kind d_near d_far d_free d_guard W0) (fun v3_37 v4_37 v5_37 => (v4_37, R5, (f_X5_solve d_rebound d_law d_draw d_players d_side d_kind d_near d_far d_free d_guard W0))) (j + 1) v3_61 (t + 100) (Int32.ofNat i + 1)))) (d_seconds.toInt.toNat) 0 25 (d_seconds.toInt.toNat + 1) d_seconds d_lead d_ball z hS (Int32.le_refl _) (Nat.le_refl _) (by omega) (by omega) (by omega)
      have lb : f_X4_leadByLot z c_now_told c_lamp_reboundTenths c_lamp_lawInForce c_lamp_drawTenths n c_lamp_squad_size c_lamp_squad_facts c_lamp_changes V B rT hv mv = (l', z', n1, V1, B1, rT1, hv1, mv1) := by
        unfold f_X4_leadByLot
        rw [p_lt, k0, t0, p_lt, k1, t1, p_lt, k2, t2, p_lt, a1, a2, a3, g1]
        dsimp only
        rw [(by decide : ((24 : Int32).toInt - (0 : Int32).toInt).toNat + 1 = 25)]
        rw [a1, a2, a3] at q4
        exact q4
      rw [lb, p_lt2, q5]
      dsimp only
      by_cases h6 : l' ≤ 6
      · rw [if_pos h6, if_pos h6]
        by_cases h66 : l' = 6
        · rw [if_pos h66, if_pos h66, e2]
          exact p_lotsL hR W0 R4 R5 w2 w3 w2' m hm j (i + 1) _ _ _ _ _ _ _ _ (by omega) g2
        · rw [if_neg h66, if_neg h66, e2, Int32.add_zero]
          exact p_lotsL hR W0 R4 R5 w2 w3 w2' m hm j (i + 1) _ _ _ _ _ _ _ _ (by omega) g2
      · have h66 : ¬ l' = 6 := fun e => h6 (by rw [e]; exact Int32.le_refl _)
        rw [if_neg h6, if_neg h6, if_neg h66, e2]
        exact p_lotsL hR W0 R4 R5 w2 w3 w2' m hm j (i + 1) _ _ _ _ _ _ _ _ (by omega) g2
