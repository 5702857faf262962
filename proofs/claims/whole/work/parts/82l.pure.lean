theorem p_tx {N i : Nat} (hN : N ≤ 96) (hi : i < N) {sg va : Nat → Int32} {s l b rb lw dr pl : Int32} {fo ca sd kd nr fr fe : Nat → Int32} {signs told facts : Nat → Int32} {sz : Int32} (hs : ∀ k : Nat, k < N → signs k = sg k) (h112 : ¬ sg i = 112) (h0 : ¬ f_X2_shape (sg i) = 0) {e : Nat} (hg : p_go N sg (p_B (sg i) ++ [59]) (i + 1) = (true, e)) (h1 : r_HA told sz facts (r_pack s l b rb lw dr pl fo ca sd kd nr fr fe)) (hO : r_OK (r_pack s l b rb lw dr pl fo ca sd kd nr fr fe)) :
    ∃ V', (f_X2_isInRange (Int32.ofNat N) signs (Int32.ofNat i) = 0 ∧ f_X5_statement s l b rb lw dr pl (Int32.ofNat N) (Int32.ofNat i) fo ca sd kd nr fr fe sg va 1 = (0, s, l, b, rb, lw, dr, pl, Int32.ofNat (e - 1), fo, ca, sd, kd, nr, fr, fe, V')) ∨
      ∃ (s' l' b' rb' lw' dr' : Int32) (fo' ca' : Nat → Int32), f_X2_isInRange (Int32.ofNat N) signs (Int32.ofNat i) = 1 ∧ f_X5_statement s l b rb lw dr pl (Int32.ofNat N) (Int32.ofNat i) fo ca sd kd nr fr fe sg va 1 = (1, s', l', b', rb', lw', dr', pl, Int32.ofNat (e - 1), fo', ca', sd, kd, nr, fr, fe, V') ∧ r_HA (f_X0_tell told (f_X2_target (Int32.ofNat N) signs (Int32.ofNat i)) (f_X2_number (Int32.ofNat N) signs (Int32.ofNat i))) sz facts (r_pack s' l' b' rb' lw' dr' pl fo' ca' sd kd nr fr fe) ∧ r_OK (r_pack s' l' b' rb' lw' dr' pl fo' ca' sd kd nr fr fe) := by
  rcases p_shs (sg i) with ⟨hc, -⟩ | ⟨hc, -⟩ | ⟨hc, -⟩ | ⟨hc, -⟩ | ⟨hc, -⟩ | ⟨hc, -⟩ | ⟨hc, -⟩ | ⟨hc, -⟩ | ⟨hc, -⟩ | hc
  · exact p_t98 hN hi hs hc hg h1 hO
  · exact p_t99 hN hi hs hc hg h1 hO
  · exact p_t100 hN hi hs hc hg h1 hO
  · exact p_t102 hN hi hs hc hg h1 hO
  · exact p_t108 hN hi hs hc hg h1 hO
  · exact p_t111 hN hi hs hc hg h1 hO
  · exact absurd hc h112
  · exact p_t114 hN hi hs hc hg h1 hO
  · exact p_t119 hN hi hs hc hg h1 hO
  · exact absurd hc h0
theorem p_rm (m : Fin 7) : ¬ 6 - Int32.ofNat m.val < 0 ∧ (Int32.ofNat m.val = 6 → (6 - Int32.ofNat m.val) + (-1) < 0) ∧ (¬ Int32.ofNat m.val = 6 → ¬ (6 - Int32.ofNat m.val) + (-1) < 0) ∧ (6 - Int32.ofNat m.val) + (-1) = 6 - (Int32.ofNat m.val + 1) := by
  revert m; decide


set_option maxRecDepth 100000 in
set_option maxHeartbeats 2000000 in
theorem p_rangeL {N : Nat} (hN : N ≤ 96) {sg signs : Nat → Int32} (hs : ∀ k : Nat, k < N → signs k = sg k) (hsg : ∀ k : Nat, k < N → r_in (sg k) 255) (M : Nat) (hM : M ≤ N) (S : Nat → Nat) (hch : p_ch N sg S M) (hSM : S M = N) {starts : Nat → Int32} (hst : ∀ t : Nat, t < M → starts t = Int32.ofNat (S t)) (w1 w2 : Int32) (o : Nat → Int32) (K : Int32 → Int32 → Int32 → Int32 → Int32 → Int32 → Int32 → Int32 → Int32 → (Nat → Int32) → (Nat → Int32) → (Nat → Int32) → (Nat → Int32) → (Nat → Int32) → (Nat → Int32) → (Nat → Int32) → (Nat → Int32) → Int32 × Int32 × Int32 × Int32 × Int32 × Int32 × Int32 × Int32 × Int32 × Int32 × (Nat → Int32) × (Nat → Int32) × (Nat → Int32) × (Nat → Int32) × (Nat → Int32) × (Nat → Int32) × (Nat → Int32) × (Nat → Int32) × (Nat → Int32)) : ∀ (j k f7 f2 f86 : Nat) (s l b rb lw dr pl sz : Int32) (fo ca sd kd nr fr fe va told facts : Nat → Int32), k + j = M → j < f7 → j < f2 → j < f86 → r_HA told sz facts (r_pack s l b rb lw dr pl fo ca sd kd nr fr fe) → r_OK (r_pack s l b rb lw dr pl fo ca sd kd nr fr fe) →
    (∃ (k0 : Nat) (at' : Int32) (fo' ca' a' b' c' d' e' V' : Nat → Int32), k0 ≤ N ∧ L_X2_placeOfRange_7 w1 (Int32.ofNat N) (Int32.ofNat M) signs starts (fun v2_7 v3_7 => (-1)) f7 (6 - pl) (Int32.ofNat k) = Int32.ofNat k0 ∧ L_X5_hall_86 w2 (Int32.ofNat N) sg o K f86 (Int32.ofNat k) s l b rb lw dr pl (Int32.ofNat (S k)) fo ca sd kd nr fr fe va = ((-2000) - Int32.ofNat k0, o 31, o 32, o 33, o 38, o 39, o 40, o 30, 0, at', fo', ca', a', b', c', d', e', V', o) ∧ (∀ k : Nat, k < 41 → o k = r_pack (o 31) (o 32) (o 33) (o 38) (o 39) (o 40) (o 30) fo' ca' a' b' c' d' e' k)) ∨
    (∃ (s' l' b' rb' lw' dr' pl' sz' : Int32) (fo' ca' sd' kd' nr' fr' fe' V' told' facts' : Nat → Int32), L_X2_placeOfRange_7 w1 (Int32.ofNat N) (Int32.ofNat M) signs starts (fun v2_7 v3_7 => (-1)) f7 (6 - pl) (Int32.ofNat k) = -1 ∧ L_X2_tellAll_2 (Int32.ofNat N) (Int32.ofNat M) signs starts (fun v2_2 c_o_told_2 c_o_squad_size_2 c_o_squad_facts_2 => (Int32.ofNat M, c_o_told_2, c_o_squad_size_2, c_o_squad_facts_2)) f2 (Int32.ofNat k) told sz facts = (Int32.ofNat M, told', sz', facts') ∧ L_X5_hall_86 w2 (Int32.ofNat N) sg o K f86 (Int32.ofNat k) s l b rb lw dr pl (Int32.ofNat (S k)) fo ca sd kd nr fr fe va = K (Int32.ofNat M) s' l' b' rb' lw' dr' pl' (Int32.ofNat N) fo' ca' sd' kd' nr' fr' fe' V' ∧ r_HA told' sz' facts' (r_pack s' l' b' rb' lw' dr' pl' fo' ca' sd' kd' nr' fr' fe') ∧ r_OK (r_pack s' l' b' rb' lw' dr' pl' fo' ca' sd' kd' nr' fr' fe'))
  | j, k, 0, f2, f86, s, l, b, rb, lw, dr, pl, sz, fo, ca, sd, kd, nr, fr, fe, va, told, facts, h, h7, h2, h86, hH, hO => absurd h7 (by omega)
  | j, k, f7 + 1, 0, f86, s, l, b, rb, lw, dr, pl, sz, fo, ca, sd, kd, nr, fr, fe, va, told, facts, h, h7, h2, h86, hH, hO => absurd h2 (by omega)
  | j, k, f7 + 1, f2 + 1, 0, s, l, b, rb, lw, dr, pl, sz, fo, ca, sd, kd, nr, fr, fe, va, told, facts, h, h7, h2, h86, hH, hO => absurd h86 (by omega)
  | 0, k, f7 + 1, f2 + 1, f86 + 1, s, l, b, rb, lw, dr, pl, sz, fo, ca, sd, kd, nr, fr, fe, va, told, facts, h, h7, h2, h86, hH, hO => by
      have e : k = M := by omega
      subst e
      refine Or.inr ⟨s, l, b, rb, lw, dr, pl, sz, fo, ca, sd, kd, nr, fr, fe, va, told, facts, ?_, ?_, ?_, hH, hO⟩
      · rw [L_X2_placeOfRange_7, if_pos (Int32.le_refl _)]
      · rw [L_X2_tellAll_2, if_pos (Int32.le_refl _)]
      · rw [L_X5_hall_86, hSM, if_pos (Int32.le_refl _)]
  | j + 1, k, f7 + 1, f2 + 1, f86 + 1, s, l, b, rb, lw, dr, pl, sz, fo, ca, sd, kd, nr, fr, fe, va, told, facts, h, h7, h2, h86, hH, hO => by
      have hk : k < M := by omega
      obtain ⟨c1, c2, c3⟩ := hch k hk
      obtain ⟨b1, b2, b3, b4⟩ := p_semiT N sg _ _ _ c3
      obtain ⟨i, hi⟩ : ∃ i, i = S k := ⟨_, rfl⟩
      obtain ⟨e, he⟩ : ∃ e, e = S (k + 1) := ⟨_, rfl⟩
      rw [← hi] at c1 c2 c3 b2 b3 b4 ⊢
      rw [← he] at c3 b2
      have hP : m_P pl := hO.2.1
      obtain ⟨m0, hm0⟩ := pe_nat 6 hP.1 hP.2 (by decide)
      obtain ⟨r1, r2, r3, r4⟩ := p_rm m0
      rw [← hm0] at r1 r2 r3 r4
      have q1 : ¬ Int32.ofNat M ≤ Int32.ofNat k := by rw [p_ole (by omega) (by omega)]; omega
      have q2 : ¬ (96 : Int32) ≤ Int32.ofNat k := p_96 (by omega)
      have q3 : starts (Int32.ofNat k).toNatClampNeg = Int32.ofNat i := by rw [p_on (by omega), hst k hk, hi]
      have q4 : f_X2_sign (Int32.ofNat N) signs (Int32.ofNat i) = sg i := p_sgn hN hs c1
      have q5 : ¬ Int32.ofNat N ≤ Int32.ofNat i := by rw [p_ole (by omega) (by omega)]; omega
      have q6 : e - 1 < N ∧ sg (e - 1) = 59 ∧ e - 1 + 1 = e := by
        have x : (p_go N sg (p_B (sg i)) (i + 1)).2 = e - 1 := by omega
        rw [x] at b3 b4
        have : 1 ≤ e := by omega
        exact ⟨b3, b4, by omega⟩
      have qe : e = S (k + 1) := he
      have q7 : f_X5_is (Int32.ofNat N) (Int32.ofNat (e - 1)) sg 59 = (1, Int32.ofNat e) := by rw [p_is1 hN q6.1 q6.2.1, q6.2.2]
      by_cases h112 : sg i = 112
      · obtain ⟨V', hv⟩ := p_t112 (va := va) hN c1 hs hsg h112 c3 hH hO
        rcases hv with ⟨hbad, hst1⟩ | ⟨h6, sd', kd', nr', fr', fe', ir, hst1, nH, nO⟩
        · obtain ⟨fo', ca', a', b', c', d', e', w1', w2'⟩ := p_again s l b rb lw dr pl fo ca sd kd nr fr fe o
          refine Or.inl ⟨i, Int32.ofNat (e - 1), fo', ca', a', b', c', d', e', V', by omega, ?_, ?_, w2'⟩
          · rw [L_X2_placeOfRange_7, if_neg q1, if_neg q2, q3, p_lt, q4, if_pos h112]
            by_cases h6 : pl = 6
            · rw [if_pos (r2 h6)]
            · rw [if_neg (r3 h6), p_lt, if_pos (hbad.resolve_left h6)]
          · rw [L_X5_hall_86, if_neg q5, hst1, p_lt2, if_pos (rfl : (0 : Int32) = 0), p_lt]
            dsimp only
            rw [w1']
        · have nx := p_rangeL hN hs hsg M hM S hch hSM hst w1 w2 o K j (k + 1) f7 f2 f86 s l b rb lw dr (pl + 1) (f_X2_tellPlayer (Int32.ofNat N) signs sz facts (Int32.ofNat i)).1 fo ca sd' kd' nr' fr' fe' V' told (f_X2_tellPlayer (Int32.ofNat N) signs sz facts (Int32.ofNat i)).2 (by omega) (by omega) (by omega) (by omega) nH nO
          have e7 : L_X2_placeOfRange_7 w1 (Int32.ofNat N) (Int32.ofNat M) signs starts (fun v2_7 v3_7 => (-1)) (f7 + 1) (6 - pl) (Int32.ofNat k) = L_X2_placeOfRange_7 w1 (Int32.ofNat N) (Int32.ofNat M) signs starts (fun v2_7 v3_7 => (-1)) f7 (6 - (pl + 1)) (Int32.ofNat (k + 1)) := by
            rw [L_X2_placeOfRange_7, if_neg q1, if_neg q2, q3, p_lt, q4, if_pos h112, if_neg (r3 h6), p_lt, ir, if_neg (by decide : ¬ (1 : Int32) = 0), r4, p_oa1]
          have e2 : L_X2_tellAll_2 (Int32.ofNat N) (Int32.ofNat M) signs starts (fun v2_2 c_o_told_2 c_o_squad_size_2 c_o_squad_facts_2 => (Int32.ofNat M, c_o_told_2, c_o_squad_size_2, c_o_squad_facts_2)) (f2 + 1) (Int32.ofNat k) told sz facts = L_X2_tellAll_2 (Int32.ofNat N) (Int32.ofNat M) signs starts (fun v2_2 c_o_told_2 c_o_squad_size_2 c_o_squad_facts_2 => (Int32.ofNat M, c_o_told_2, c_o_squad_size_2, c_o_squad_facts_2)) f2 (Int32.ofNat (k + 1)) told (f_X2_tellPlayer (Int32.ofNat N) signs sz facts (Int32.ofNat i)).1 (f_X2_tellPlayer (Int32.ofNat N) signs sz facts (Int32.ofNat i)).2 := by
            rw [L_X2_tellAll_2, if_neg q1, if_neg q2, q3, p_lt, q4, if_pos h112, p_lt, p_oa1]
          have e86 : L_X5_hall_86 w2 (Int32.ofNat N) sg o K (f86 + 1) (Int32.ofNat k) s l b rb lw dr pl (Int32.ofNat i) fo ca sd kd nr fr fe va = L_X5_hall_86 w2 (Int32.ofNat N) sg o K f86 (Int32.ofNat (k + 1)) s l b rb lw dr (pl + 1) (Int32.ofNat (S (k + 1))) fo ca sd' kd' nr' fr' fe' V' := by
            rw [L_X5_hall_86, if_neg q5, hst1, p_lt2, if_neg (by decide : ¬ (1 : Int32) = 0), q7, p_lt2, p_oa1, ← qe]
          rw [e7, e2, e86]
          exact nx
      · obtain ⟨V', hv⟩ := p_tx (va := va) hN c1 hs h112 c2 c3 hH hO
        rcases hv with ⟨hbad, hst1⟩ | ⟨s', l', b', rb', lw', dr', fo2, ca2, ir, hst1, nH, nO⟩
        · obtain ⟨fo', ca', a', b', c', d', e', w1', w2'⟩ := p_again s l b rb lw dr pl fo ca sd kd nr fr fe o
          refine Or.inl ⟨i, Int32.ofNat (e - 1), fo', ca', a', b', c', d', e', V', by omega, ?_, ?_, w2'⟩
          · rw [L_X2_placeOfRange_7, if_neg q1, if_neg q2, q3, p_lt, q4, if_neg h112, if_neg r1, p_lt, if_pos hbad]
          · rw [L_X5_hall_86, if_neg q5, hst1, p_lt2, if_pos (rfl : (0 : Int32) = 0), p_lt]
            dsimp only
            rw [w1']
        · have nx := p_rangeL hN hs hsg M hM S hch hSM hst w1 w2 o K j (k + 1) f7 f2 f86 s' l' b' rb' lw' dr' pl sz fo2 ca2 sd kd nr fr fe V' (f_X0_tell told (f_X2_target (Int32.ofNat N) signs (Int32.ofNat i)) (f_X2_number (Int32.ofNat N) signs (Int32.ofNat i))) facts (by omega) (by omega) (by omega) (by omega) nH nO
          have e7 : L_X2_placeOfRange_7 w1 (Int32.ofNat N) (Int32.ofNat M) signs starts (fun v2_7 v3_7 => (-1)) (f7 + 1) (6 - pl) (Int32.ofNat k) = L_X2_placeOfRange_7 w1 (Int32.ofNat N) (Int32.ofNat M) signs starts (fun v2_7 v3_7 => (-1)) f7 (6 - pl) (Int32.ofNat (k + 1)) := by
            rw [L_X2_placeOfRange_7, if_neg q1, if_neg q2, q3, p_lt, q4, if_neg h112, if_neg r1, p_lt, ir, if_neg (by decide : ¬ (1 : Int32) = 0), p_oa1]
          have e2 : L_X2_tellAll_2 (Int32.ofNat N) (Int32.ofNat M) signs starts (fun v2_2 c_o_told_2 c_o_squad_size_2 c_o_squad_facts_2 => (Int32.ofNat M, c_o_told_2, c_o_squad_size_2, c_o_squad_facts_2)) (f2 + 1) (Int32.ofNat k) told sz facts = L_X2_tellAll_2 (Int32.ofNat N) (Int32.ofNat M) signs starts (fun v2_2 c_o_told_2 c_o_squad_size_2 c_o_squad_facts_2 => (Int32.ofNat M, c_o_told_2, c_o_squad_size_2, c_o_squad_facts_2)) f2 (Int32.ofNat (k + 1)) (f_X0_tell told (f_X2_target (Int32.ofNat N) signs (Int32.ofNat i)) (f_X2_number (Int32.ofNat N) signs (Int32.ofNat i))) sz facts := by
            rw [L_X2_tellAll_2, if_neg q1, if_neg q2, q3, p_lt, q4, if_neg h112, p_lt, p_lt, p_lt, p_oa1]
          have e86 : L_X5_hall_86 w2 (Int32.ofNat N) sg o K (f86 + 1) (Int32.ofNat k) s l b rb lw dr pl (Int32.ofNat i) fo ca sd kd nr fr fe va = L_X5_hall_86 w2 (Int32.ofNat N) sg o K f86 (Int32.ofNat (k + 1)) s' l' b' rb' lw' dr' pl (Int32.ofNat (S (k + 1))) fo2 ca2 sd kd nr fr fe V' := by
            rw [L_X5_hall_86, if_neg q5, hst1, p_lt2, if_neg (by decide : ¬ (1 : Int32) = 0), q7, p_lt2, p_oa1, ← qe]
          rw [e7, e2, e86]
          exact nx


/-- players told alike are solved alike -/
theorem p_Sol_arr {reb law draw size players n : Int32} {facts C side kind near far free side' kind' near' far' free' G V B : Nat → Int32} (hL : p_LR size facts C players side kind near far free G) (hL' : p_LR size facts C players side' kind' near' far' free' G)
    (hr : r_in reb 9) (hd : r_in draw 9) (h : r_Sol reb law draw players side kind near far free G V B n) :
    r_Sol reb law draw players side' kind' near' far' free' G V B n := by
  refine ⟨h.1, h.2.1, fun s l b hS hlt => ?_⟩
  obtain ⟨e1, e2⟩ := h.2.2 s l b hS hlt
  have hV := p_SolAg hL hr hd h
  obtain ⟨rowT, hT⟩ : ∃ rowT : Nat → Int32, ∀ (p : Fin 6) (c : Fin 3), rowT (3 * p + c) = f_X1_tenths facts C (Int32.ofNat p) (Int32.ofNat c) s := by
    refine ⟨fun k => f_X1_tenths facts C (Int32.ofNat (k / 3)) (Int32.ofNat (k % 3)) s, fun p c => ?_⟩
    have e1 : (3 * p.val + c.val) / 3 = p.val := by have := c.isLt; omega
    have e2 : (3 * p.val + c.val) % 3 = c.val := by have := c.isLt; omega
    show f_X1_tenths facts C (Int32.ofNat ((3 * p.val + c.val) / 3)) (Int32.ofNat ((3 * p.val + c.val) % 3)) s = _
    rw [e1, e2]
  have hA : p_Ag V V s := fun s' l' b' h1 h2 => hV s' l' b' h1 (Int32.lt_trans h2 hlt)
  have hZ : 0 < s → p_Z draw V := fun h0 => p_SolZ h (Int32.lt_trans h0 hlt)
  obtain ⟨⟨a1, a2, ea⟩, _⟩ := p_st1 (law := law) (B := V) (hitV := V) (missV := V) hL hr hd hS hT hA hZ
  obtain ⟨⟨b1, b2, eb⟩, _⟩ := p_st1 (law := law) (B := V) (hitV := V) (missV := V) hL' hr hd hS hT hA hZ
  have e := ea.symm.trans eb
  have g1 := congrArg (fun z => z.1 (p_ix s l b)) e
  have g2 := congrArg (fun z => z.2.1 (p_ix s l b)) e
  simp only [p_upd_same] at g1 g2
  exact ⟨e1.trans g1, e2.trans g2⟩

