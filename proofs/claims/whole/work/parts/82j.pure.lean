theorem p_chr : ∀ sh : Fin 6, ∀ a : Fin 6, a.val < (g_sByt.getD sh.val []).length → f_J0_charAt_5068e sh.val (Int32.ofNat a.val) = (g_sByt.getD sh.val []).getD a.val 0 := by decide +kernel
theorem p_len : ∀ sh : Fin 6, f_J0_length_8abf5 sh.val = Int32.ofNat (g_sByt.getD sh.val []).length ∧ (g_sByt.getD sh.val []).length ≤ 6 := by decide +kernel
theorem p_emp : ∀ sh : Fin 6, (sh.val = 0 → f_J0_isEmpty_aae02 sh.val = 1) ∧ (¬ sh.val = 0 → f_J0_isEmpty_aae02 sh.val = 0) := by decide +kernel
theorem p_drp : ∀ sh : Fin 6, ∀ a : Fin 7, (a.val < (g_sByt.getD sh.val []).length → (g_sByt.getD sh.val []).drop a.val = (g_sByt.getD sh.val []).getD a.val 0 :: (g_sByt.getD sh.val []).drop (a.val + 1)) ∧ (¬ a.val < (g_sByt.getD sh.val []).length → (g_sByt.getD sh.val []).drop a.val = []) := by decide +kernel
theorem p_96 {i : Nat} (h : i < 96) : ¬ (96 : Int32) ≤ Int32.ofNat i := by
  rw [show (96 : Int32) = Int32.ofNat 96 from rfl, p_ole (by omega) (by omega)]; omega
theorem p_oz {i : Nat} (h0 : 0 < i) (h : i < 1000) : ¬ Int32.ofNat i = 0 := by
  rw [show (0 : Int32) = Int32.ofNat 0 from rfl, p_oeq (by omega) (by omega)]; omega
theorem p_sgn {N : Nat} (hN : N ≤ 96) {sg signs : Nat → Int32} (hs : ∀ k : Nat, k < N → signs k = sg k) {i : Nat} (hi : i < N) : f_X2_sign (Int32.ofNat N) signs (Int32.ofNat i) = sg i := by
  unfold f_X2_sign
  rw [if_neg (p_o0 (by omega)), if_neg (by rw [p_ole (by omega) (by omega)]; omega), if_neg (p_96 (by omega)), p_on (by omega), hs i hi]


theorem p_formIn {N : Nat} (hN : N ≤ 96) {sg signs : Nat → Int32} (hs : ∀ k : Nat, k < N → signs k = sg k) (sh : Fin 6) (st : Int32) (starts : Nat → Int32) : ∀ (L : List Int32) (a i f : Nat), L = (g_sByt.getD sh.val []).drop a → a ≤ (g_sByt.getD sh.val []).length → i ≤ N → N - i < f →
    ((p_go N sg L i).1 = true → ∃ f', N - (p_go N sg L i).2 < f' ∧ L_X2_placeOfForm_12 (Int32.ofNat N) signs (fun v1_12 v2_12 v3_12 c_statements_12 c_starts_12 => (if Int32.ofNat N = 0 then (Int32.ofNat N, c_statements_12, c_starts_12) else g_lt (f_J0_length_8abf5 v1_12) (fun r92 => (if r92 ≤ v2_12 then ((-1), c_statements_12, c_starts_12) else (Int32.ofNat N, c_statements_12, c_starts_12))))) f sh.val (Int32.ofNat a) (Int32.ofNat i) st starts = L_X2_placeOfForm_12 (Int32.ofNat N) signs (fun v1_12 v2_12 v3_12 c_statements_12 c_starts_12 => (if Int32.ofNat N = 0 then (Int32.ofNat N, c_statements_12, c_starts_12) else g_lt (f_J0_length_8abf5 v1_12) (fun r92 => (if r92 ≤ v2_12 then ((-1), c_statements_12, c_starts_12) else (Int32.ofNat N, c_statements_12, c_starts_12))))) f' sh.val (Int32.ofNat (g_sByt.getD sh.val []).length) (Int32.ofNat (p_go N sg L i).2) st starts) ∧
    (¬ (p_go N sg L i).1 = true → L_X2_placeOfForm_12 (Int32.ofNat N) signs (fun v1_12 v2_12 v3_12 c_statements_12 c_starts_12 => (if Int32.ofNat N = 0 then (Int32.ofNat N, c_statements_12, c_starts_12) else g_lt (f_J0_length_8abf5 v1_12) (fun r92 => (if r92 ≤ v2_12 then ((-1), c_statements_12, c_starts_12) else (Int32.ofNat N, c_statements_12, c_starts_12))))) f sh.val (Int32.ofNat a) (Int32.ofNat i) st starts = (Int32.ofNat (p_go N sg L i).2, st, starts))
  | [], a, i, f, hL, ha, hi, hf => by
      obtain ⟨l1, l2⟩ := p_len sh
      obtain ⟨r1, r2⟩ := p_drp sh ⟨a, by omega⟩
      have e : a = (g_sByt.getD sh.val []).length := by
        by_cases h : a < (g_sByt.getD sh.val []).length
        · have := r1 h
          rw [← hL] at this
          exact absurd this (by simp)
        · omega
      refine ⟨fun _ => ⟨f, hf, by rw [← e]; rfl⟩, fun h => absurd (show (p_go N sg [] i).1 = true from rfl) h⟩
  | x :: L, a, i, 0, hL, ha, hi, hf => absurd hf (by omega)
  | x :: L, a, i, f + 1, hL, ha, hi, hf => by
      obtain ⟨l1, l2⟩ := p_len sh
      obtain ⟨r1, r2⟩ := p_drp sh ⟨a, by omega⟩
      have hlt : a < (g_sByt.getD sh.val []).length := by
        by_cases h : a < (g_sByt.getD sh.val []).length
        · exact h
        · have := r2 h
          rw [← hL] at this
          exact absurd this (by simp)
      have r3 := r1 hlt
      dsimp only at r3
      rw [← hL] at r3
      obtain ⟨hx, hL'⟩ := List.cons.inj r3
      have hch := p_chr sh ⟨a, by omega⟩ hlt
      dsimp only at hch
      have q1 : ¬ f_J0_length_8abf5 sh.val ≤ Int32.ofNat a := by rw [l1, p_ole (by omega) (by omega)]; omega
      rw [L_X2_placeOfForm_12, p_go_c]
      by_cases h : i < N
      · have q2 : ¬ Int32.ofNat N ≤ Int32.ofNat i := by rw [p_ole (by omega) (by omega)]; omega
        rw [if_pos h, if_neg q2, p_lt, if_neg q1, p_lt, hch, ← hx, p_lt, p_sgn hN hs h, p_lt, p_oa1 a, p_oa1 i]
        by_cases h0 : f_X2_fits x (sg i) = 0
        · rw [if_pos h0, if_pos h0]
          exact ⟨fun z => absurd (show false = true from z) (by decide), fun _ => rfl⟩
        · rw [if_neg h0, if_neg h0]
          exact p_formIn hN hs sh st starts L (a + 1) (i + 1) f hL' (by omega) (by omega) (by omega)
      · have q2 : Int32.ofNat N ≤ Int32.ofNat i := by rw [p_ole (by omega) (by omega)]; omega
        have e : i = N := by omega
        rw [if_neg h, if_pos q2]
        refine ⟨fun z => absurd (show false = true from z) (by decide), fun _ => ?_⟩
        rw [e]
        by_cases h0 : Int32.ofNat N = 0
        · rw [if_pos h0]
        · rw [if_neg h0, p_lt, if_neg q1]
theorem p_by {c : Int32} (h : ¬ f_X2_shape c = 0) : g_sByt.getD (f_X2_shape c) [] = p_B c ++ [59] ∧ f_X2_shape c < 6 := by
  rcases p_shs c with ⟨hc, e⟩ | ⟨hc, e⟩ | ⟨hc, e⟩ | ⟨hc, e⟩ | ⟨hc, e⟩ | ⟨hc, e⟩ | ⟨hc, e⟩ | ⟨hc, e⟩ | ⟨hc, e⟩ | e
  all_goals first | exact absurd e h | (subst hc; decide)
theorem p_semi (N : Nat) (sg : Nat → Int32) (B : List Int32) (i : Nat) :
    (¬ (p_go N sg B i).1 = true → p_go N sg (B ++ [59]) i = (false, (p_go N sg B i).2)) ∧
    ((p_go N sg B i).1 = true → ((p_go N sg B i).2 < N ∧ sg (p_go N sg B i).2 = 59 → p_go N sg (B ++ [59]) i = (true, (p_go N sg B i).2 + 1)) ∧ (¬ ((p_go N sg B i).2 < N ∧ sg (p_go N sg B i).2 = 59) → p_go N sg (B ++ [59]) i = (false, (p_go N sg B i).2))) := by
  rw [p_go_app]
  refine ⟨fun h => if_neg h, fun h => ⟨fun k => ?_, fun k => ?_⟩⟩
  · rw [if_pos h, p_go_c, if_pos k.1, if_neg (by rw [p_f59, if_pos k.2]; decide), p_go_n]
  · rw [if_pos h, p_go_c]
    by_cases k1 : (p_go N sg B i).2 < N
    · rw [if_pos k1, if_pos (by rw [p_f59, if_neg (fun z => k ⟨k1, z⟩)])]
    · rw [if_neg k1]
theorem p_semiT (N : Nat) (sg : Nat → Int32) (B : List Int32) (i e : Nat) (h : p_go N sg (B ++ [59]) i = (true, e)) : (p_go N sg B i).1 = true ∧ (p_go N sg B i).2 + 1 = e ∧ (p_go N sg B i).2 < N ∧ sg (p_go N sg B i).2 = 59 := by
  obtain ⟨h1, h2⟩ := p_semi N sg B i
  by_cases a : (p_go N sg B i).1 = true
  · by_cases k : (p_go N sg B i).2 < N ∧ sg (p_go N sg B i).2 = 59
    · have g := (h2 a).1 k
      rw [h] at g
      exact ⟨a, (congrArg Prod.snd g).symm, k⟩
    · have g := (h2 a).2 k
      rw [h] at g
      exact absurd (show true = false from congrArg Prod.fst g) (by decide)
  · have g := h1 a
    rw [h] at g
    exact absurd (show true = false from congrArg Prod.fst g) (by decide)
/-- where the statements begin -/
def p_ch (N : Nat) (sg : Nat → Int32) (S : Nat → Nat) (M : Nat) : Prop := ∀ k : Nat, k < M → S k < N ∧ ¬ f_X2_shape (sg (S k)) = 0 ∧ p_go N sg (p_B (sg (S k)) ++ [59]) (S k + 1) = (true, S (k + 1))
theorem p_fits0 : ∀ sh : Fin 6, Int32.ofNat (g_sByt.getD sh.val []).length ≤ Int32.ofNat (g_sByt.getD sh.val []).length := fun _ => Int32.le_refl _


theorem p_out0 {N : Nat} {sg ahead : Nat → Int32} (K : Int32 → Int32 → Int32 → Int32 → Int32 → Int32 → Int32 → Int32 → Int32 → (Nat → Int32) → (Nat → Int32) → (Nat → Int32) → (Nat → Int32) → (Nat → Int32) → (Nat → Int32) → (Nat → Int32) → (Nat → Int32) → Int32 × Int32 × Int32 × Int32 × Int32 × Int32 × Int32 × Int32 × Int32 × Int32 × (Nat → Int32) × (Nat → Int32) × (Nat → Int32) × (Nat → Int32) × (Nat → Int32) × (Nat → Int32) × (Nat → Int32) × (Nat → Int32) × (Nat → Int32)) {s l b rb lw dr pl : Int32} {fo ca sd kd nr fr fe : Nat → Int32} (g : Nat) (at' : Int32) (va : Nat → Int32) : L_X5_hall_7 (Int32.ofNat N) sg ahead K (g + 1) 0 s l b rb lw dr pl at' fo ca sd kd nr fr fe va = K 0 s l b rb lw dr pl at' fo ca sd kd nr fr fe va := by
  rw [L_X5_hall_7, if_pos (rfl : (0 : Int32) = 0)]
theorem p_formL {N : Nat} (hN : N ≤ 96) {sg signs : Nat → Int32} (hs : ∀ k : Nat, k < N → signs k = sg k) (hsg : ∀ k : Nat, k < N → r_in (sg k) 255) (ahead : Nat → Int32) (K : Int32 → Int32 → Int32 → Int32 → Int32 → Int32 → Int32 → Int32 → Int32 → (Nat → Int32) → (Nat → Int32) → (Nat → Int32) → (Nat → Int32) → (Nat → Int32) → (Nat → Int32) → (Nat → Int32) → (Nat → Int32) → Int32 × Int32 × Int32 × Int32 × Int32 × Int32 × Int32 × Int32 × Int32 × Int32 × (Nat → Int32) × (Nat → Int32) × (Nat → Int32) × (Nat → Int32) × (Nat → Int32) × (Nat → Int32) × (Nat → Int32) × (Nat → Int32) × (Nat → Int32)) {s l b rb lw dr pl : Int32} {fo ca sd kd nr fr fe : Nat → Int32} : ∀ (d i M : Nat) (S : Nat → Nat) (sh : Fin 6) (starts va : Nat → Int32) (f4 f5 : Nat), N - i < d → i ≤ N → (i < N ∨ N = 0) → S 0 = 0 → S M = i → p_ch N sg S M → M ≤ i → (∀ t : Nat, t < M → starts t = Int32.ofNat (S t)) → N - i < f4 → N - i + 1 < f5 →
    (∃ k st' starts' V', k ≤ N ∧ L_X2_placeOfForm_12 (Int32.ofNat N) signs (fun v1_12 v2_12 v3_12 c_statements_12 c_starts_12 => (if Int32.ofNat N = 0 then (Int32.ofNat N, c_statements_12, c_starts_12) else g_lt (f_J0_length_8abf5 v1_12) (fun r92 => (if r92 ≤ v2_12 then ((-1), c_statements_12, c_starts_12) else (Int32.ofNat N, c_statements_12, c_starts_12))))) f4 sh.val (Int32.ofNat (g_sByt.getD sh.val []).length) (Int32.ofNat i) (Int32.ofNat M) starts = (Int32.ofNat k, st', starts') ∧ L_X5_hall_7 (Int32.ofNat N) sg ahead K f5 1 s l b rb lw dr pl (Int32.ofNat i) fo ca sd kd nr fr fe va = K 0 s l b rb lw dr pl (Int32.ofNat k) fo ca sd kd nr fr fe V') ∨
    (∃ M' S' starts' V', M' ≤ N ∧ L_X2_placeOfForm_12 (Int32.ofNat N) signs (fun v1_12 v2_12 v3_12 c_statements_12 c_starts_12 => (if Int32.ofNat N = 0 then (Int32.ofNat N, c_statements_12, c_starts_12) else g_lt (f_J0_length_8abf5 v1_12) (fun r92 => (if r92 ≤ v2_12 then ((-1), c_statements_12, c_starts_12) else (Int32.ofNat N, c_statements_12, c_starts_12))))) f4 sh.val (Int32.ofNat (g_sByt.getD sh.val []).length) (Int32.ofNat i) (Int32.ofNat M) starts = (-1, Int32.ofNat M', starts') ∧ L_X5_hall_7 (Int32.ofNat N) sg ahead K f5 1 s l b rb lw dr pl (Int32.ofNat i) fo ca sd kd nr fr fe va = K 1 s l b rb lw dr pl (Int32.ofNat N) fo ca sd kd nr fr fe V' ∧ S' 0 = 0 ∧ S' M' = N ∧ p_ch N sg S' M' ∧ ∀ t : Nat, t < M' → starts' t = Int32.ofNat (S' t))
  | 0, i, M, S, sh, starts, va, f4, f5, hd, hi, hl, s0, sM, hch, hM, hst, h4, h5 => absurd hd (by omega)
  | d + 1, i, M, S, sh, starts, va, 0, f5, hd, hi, hl, s0, sM, hch, hM, hst, h4, h5 => absurd h4 (by omega)
  | d + 1, i, M, S, sh, starts, va, f4 + 1, 0, hd, hi, hl, s0, sM, hch, hM, hst, h4, h5 => absurd h5 (by omega)
  | d + 1, i, M, S, sh, starts, va, f4 + 1, 1, hd, hi, hl, s0, sM, hch, hM, hst, h4, h5 => absurd h5 (by omega)
  | d + 1, i, M, S, sh, starts, va, f4 + 1, f5 + 1 + 1, hd, hi, hl, s0, sM, hch, hM, hst, h4, h5 => by
      obtain ⟨l1, l2⟩ := p_len sh
      by_cases hlt : i < N
      · have q2 : ¬ Int32.ofNat N ≤ Int32.ofNat i := by rw [p_ole (by omega) (by omega)]; omega
        by_cases h0 : f_X2_shape (sg i) = 0
        · refine Or.inl ⟨i, Int32.ofNat M, starts, va, by omega, ?_, ?_⟩
          · rw [L_X2_placeOfForm_12, if_neg q2, p_lt, l1, if_pos (Int32.le_refl _), p_lt, p_sgn hN hs hlt, p_lt, h0, p_lt, if_neg (by decide)]
          · rw [L_X5_hall_7, if_neg (by decide : ¬ (1 : Int32) = 0), p_s0 hN hlt h0 0, p_lt2, if_neg (by decide : ¬ (-1 : Int32) = 1)]
            exact p_out0 K f5 _ _
        · obtain ⟨b1, b2⟩ := p_by h0
          have em : f_J0_isEmpty_aae02 (f_X2_shape (sg i)) = 0 := (p_emp ⟨f_X2_shape (sg i), b2⟩).2 h0
          have ad : f_X2_addStart (Int32.ofNat M) starts (Int32.ofNat i) = (Int32.ofNat (M + 1), upd starts M (Int32.ofNat i)) := by
            unfold f_X2_addStart
            rw [if_neg (p_o0 (by omega)), if_neg (p_96 (by omega)), p_oa1, p_on (by omega)]
          have e4 : L_X2_placeOfForm_12 (Int32.ofNat N) signs (fun v1_12 v2_12 v3_12 c_statements_12 c_starts_12 => (if Int32.ofNat N = 0 then (Int32.ofNat N, c_statements_12, c_starts_12) else g_lt (f_J0_length_8abf5 v1_12) (fun r92 => (if r92 ≤ v2_12 then ((-1), c_statements_12, c_starts_12) else (Int32.ofNat N, c_statements_12, c_starts_12))))) (f4 + 1) sh.val (Int32.ofNat (g_sByt.getD sh.val []).length) (Int32.ofNat i) (Int32.ofNat M) starts = L_X2_placeOfForm_12 (Int32.ofNat N) signs (fun v1_12 v2_12 v3_12 c_statements_12 c_starts_12 => (if Int32.ofNat N = 0 then (Int32.ofNat N, c_statements_12, c_starts_12) else g_lt (f_J0_length_8abf5 v1_12) (fun r92 => (if r92 ≤ v2_12 then ((-1), c_statements_12, c_starts_12) else (Int32.ofNat N, c_statements_12, c_starts_12))))) f4 (f_X2_shape (sg i)) (Int32.ofNat 0) (Int32.ofNat (i + 1)) (Int32.ofNat (M + 1)) (upd starts M (Int32.ofNat i)) := by
            rw [L_X2_placeOfForm_12, if_neg q2, p_lt, l1, if_pos (Int32.le_refl _), p_lt, p_sgn hN hs hlt, p_lt, p_lt, em, if_pos (rfl : (0 : Int32) = 0), p_lt, ad, p_oa1 i]
            all_goals rfl
          obtain ⟨F1, F2⟩ := p_formIn hN hs ⟨f_X2_shape (sg i), b2⟩ (Int32.ofNat (M + 1)) (upd starts M (Int32.ofNat i)) (g_sByt.getD (f_X2_shape (sg i)) []) 0 (i + 1) f4 rfl (by omega) (by omega) (by omega)
          dsimp only at F1 F2
          rw [b1] at F1 F2
          obtain ⟨V', hst'⟩ := p_sF (va := va) (s := s) (l := l) (b := b) (rb := rb) (lw := lw) (dr := dr) (pl := pl) (fo := fo) (ca := ca) (sd := sd) (kd := kd) (nr := nr) (fr := fr) (fe := fe) hN hlt hsg h0
          obtain ⟨m1, m2⟩ := p_semi N sg (p_B (sg i)) (i + 1)
          obtain ⟨g1, g2⟩ := p_go_le N sg (p_B (sg i)) (i + 1) (by omega)
          obtain ⟨k, hk⟩ : ∃ k, k = (p_go N sg (p_B (sg i)) (i + 1)).2 := ⟨_, rfl⟩
          rw [← hk] at m1 m2 g1 g2 hst'
          by_cases hB : (p_go N sg (p_B (sg i)) (i + 1)).1 = true
          · rw [if_pos hB] at hst'
            by_cases h59 : k < N ∧ sg k = 59
            · have e := (m2 hB).1 h59
              rw [e] at F1
              obtain ⟨f', hf', e5⟩ := F1 rfl
              dsimp only at hf' e5
              have e6 : L_X5_hall_7 (Int32.ofNat N) sg ahead K (f5 + 1 + 1) 1 s l b rb lw dr pl (Int32.ofNat i) fo ca sd kd nr fr fe va = if Int32.ofNat (k + 1) = Int32.ofNat N then K 1 s l b rb lw dr pl (Int32.ofNat (k + 1)) fo ca sd kd nr fr fe V' else L_X5_hall_7 (Int32.ofNat N) sg ahead K (f5 + 1) 1 s l b rb lw dr pl (Int32.ofNat (k + 1)) fo ca sd kd nr fr fe V' := by
                rw [L_X5_hall_7, if_neg (by decide : ¬ (1 : Int32) = 0), hst', p_lt2, if_pos (rfl : (1 : Int32) = 1), p_is1 hN h59.1 h59.2, p_lt2, if_neg (by decide : ¬ (1 : Int32) = 0)]
              obtain ⟨S', hS1, hS2⟩ : ∃ S' : Nat → Nat, S' (M + 1) = k + 1 ∧ ∀ t : Nat, t ≤ M → S' t = S t := by
                refine ⟨fun t => if t = M + 1 then k + 1 else S t, ?_, fun t ht => ?_⟩
                · show (if M + 1 = M + 1 then k + 1 else S (M + 1)) = k + 1
                  rw [if_pos rfl]
                · show (if t = M + 1 then k + 1 else S t) = S t
                  rw [if_neg (by omega)]
              have c' : p_ch N sg S' (M + 1) := by
                intro t ht
                by_cases htM : t = M
                · rw [htM, hS2 M (Nat.le_refl _), hS1, sM]
                  exact ⟨hlt, h0, e⟩
                · rw [hS2 t (by omega), hS2 (t + 1) (by omega)]
                  exact hch t (by omega)
              have st' : ∀ t : Nat, t < M + 1 → upd starts M (Int32.ofNat i) t = Int32.ofNat (S' t) := by
                intro t ht
                by_cases htM : t = M
                · rw [htM, p_upd_same, hS2 M (Nat.le_refl _), sM]
                · rw [p_upd_ne _ _ htM, hS2 t (by omega)]
                  exact hst t (by omega)
              have s0' : S' 0 = 0 := (hS2 0 (by omega)).trans s0
              rw [e4, e5, e6]
              by_cases hkN : k + 1 = N
              · obtain ⟨f'', rfl⟩ : ∃ f'', f' = f'' + 1 := ⟨f' - 1, by omega⟩
                refine Or.inr ⟨M + 1, S', upd starts M (Int32.ofNat i), V', by omega, ?_, ?_, s0', hS1.trans hkN, c', st'⟩
                · rw [L_X2_placeOfForm_12, if_pos (by rw [p_ole (by omega) (by omega)]; omega), if_neg (p_oz (by omega) (by omega)), p_lt, (p_len ⟨f_X2_shape (sg i), b2⟩).1, if_pos (by rw [b1]; exact Int32.le_refl _)]
                · rw [if_pos (by rw [hkN]), hkN]
              · rw [if_neg (by rw [p_oeq (by omega) (by omega)]; exact hkN)]
                have nxt := p_formL hN hs hsg ahead K (s := s) (l := l) (b := b) (rb := rb) (lw := lw) (dr := dr) (pl := pl) (fo := fo) (ca := ca) (sd := sd) (kd := kd) (nr := nr) (fr := fr) (fe := fe) d (k + 1) (M + 1) S' ⟨f_X2_shape (sg i), b2⟩ (upd starts M (Int32.ofNat i)) V' f' (f5 + 1) (by omega) (by omega) (Or.inl (by omega)) s0' hS1 c' (by omega) st' hf' (by omega)
                dsimp only at nxt
                rw [b1] at nxt
                exact nxt
            · have e := (m2 hB).2 h59
              rw [e] at F2
              have F3 := F2 (show ¬ false = true by decide)
              refine Or.inl ⟨k, Int32.ofNat (M + 1), upd starts M (Int32.ofNat i), V', by omega, e4.trans F3, ?_⟩
              rw [L_X5_hall_7, if_neg (by decide : ¬ (1 : Int32) = 0), hst', p_lt2, if_pos (rfl : (1 : Int32) = 1)]
              by_cases hkN : k < N
              · rw [p_is0 (c := 59) hN hkN (fun z => h59 ⟨hkN, z⟩), p_lt2, if_pos (rfl : (0 : Int32) = 0)]
                exact p_out0 K f5 _ _
              · have hkk : k = N := by omega
                rw [hkk, p_isN, p_lt2, if_pos (rfl : (0 : Int32) = 0)]
                exact p_out0 K f5 _ _
          · rw [if_neg hB] at hst'
            have e := m1 hB
            rw [e] at F2
            have F3 := F2 (show ¬ false = true by decide)
            refine Or.inl ⟨k, Int32.ofNat (M + 1), upd starts M (Int32.ofNat i), V', by omega, e4.trans F3, ?_⟩
            rw [L_X5_hall_7, if_neg (by decide : ¬ (1 : Int32) = 0), hst', p_lt2, if_neg (by decide : ¬ (-1 : Int32) = 1)]
            exact p_out0 K f5 _ _
      · have hN0 : N = 0 := by omega
        have hi0 : i = 0 := by omega
        subst hN0
        subst hi0
        refine Or.inl ⟨0, Int32.ofNat M, starts, va, by omega, ?_, ?_⟩
        · rw [L_X2_placeOfForm_12, if_pos (Int32.le_refl _), if_pos (show Int32.ofNat 0 = (0 : Int32) from rfl)]
        · rw [L_X5_hall_7, if_neg (by decide : ¬ (1 : Int32) = 0), p_sN hN 0, p_lt2, if_neg (by decide : ¬ (-1 : Int32) = 1)]
          exact p_out0 K f5 _ _

