theorem fd_dw {r : Int32} {Q : Int32 → Prop} (h : r = 0 ∨ (r = 1 ∧ ∀ k, Q k)) (c : ¬ r = 0) : ∀ k, Q k := (h.resolve_left c).2

theorem hi_X5_statement_X5 : ∀ w ∈ wsX50, w ∈ wsX5_statement := fun w h => List.mem_cons_of_mem _ (List.mem_append_right _ (h))
def f_X5_statement (c_seconds : Int32) (c_lead : Int32) (c_ball : Int32) (c_rebound : Int32) (c_law : Int32) (c_draw : Int32) (c_players : Int32) (c_letters : Int32) (c_at : Int32) (c_fouls : Nat → Int32) (c_calls : Nat → Int32) (c_side : Nat → Int32) (c_kind : Nat → Int32) (c_near : Nat → Int32) (c_far : Nat → Int32) (c_free : Nat → Int32) (c_letter : Nat → Int32) (c_value : Nat → Int32) (p1 : Int32) : Int32 × (Int32) × (Int32) × (Int32) × (Int32) × (Int32) × (Int32) × (Int32) × (Int32) × (Nat → Int32) × (Nat → Int32) × (Nat → Int32) × (Nat → Int32) × (Nat → Int32) × (Nat → Int32) × (Nat → Int32) × (Nat → Int32) :=
  g_lt2 (f_X5_is c_letters c_at c_letter (112 : Int32)) (fun r3 u3 => (if r3 = 0 then g_lt2 (f_X5_is c_letters u3 c_letter (99 : Int32)) (fun r198 u198 => (if r198 = 0 then g_lt2 (f_X5_is c_letters u198 c_letter (108 : Int32)) (fun r269 u269 => (if r269 = 0 then g_lt2 (f_X5_is c_letters u269 c_letter (102 : Int32)) (fun r359 u359 => (if r359 = 0 then g_lt2 (f_X5_is c_letters u359 c_letter (111 : Int32)) (fun r368 u368 => (if r368 = 0 then (if c_letters ≤ u368 then ((-1), c_seconds, c_lead, c_ball, c_rebound, c_law, c_draw, c_players, u368, c_fouls, c_calls, c_side, c_kind, c_near, c_far, c_free, c_value) else (if c_letter u368.toNatClampNeg = 98 then g_lt2 (f_X5_digits c_letters (u368 + 1) c_letter c_value (0 : Int32) (1 : Int32)) (fun r550 u550 => (if r550 = 0 then ((-1), c_seconds, c_lead, c_ball, c_rebound, c_law, c_draw, c_players, u550.1, c_fouls, c_calls, c_side, c_kind, c_near, c_far, c_free, u550.2) else (if p1 = 0 then (1, c_seconds, c_lead, c_ball, c_rebound, c_law, c_draw, c_players, u550.1, c_fouls, c_calls, c_side, c_kind, c_near, c_far, c_free, u550.2) else (if u550.2 (0 : Int32).toNatClampNeg ≤ 1 then (1, c_seconds, c_lead, (u550.2 (0 : Int32).toNatClampNeg), c_rebound, c_law, c_draw, c_players, u550.1, c_fouls, c_calls, c_side, c_kind, c_near, c_far, c_free, u550.2) else (0, c_seconds, c_lead, c_ball, c_rebound, c_law, c_draw, c_players, u550.1, c_fouls, c_calls, c_side, c_kind, c_near, c_far, c_free, u550.2))))) else (if c_letter u368.toNatClampNeg = 114 then g_lt2 (f_X5_digits c_letters (u368 + 1) c_letter c_value (0 : Int32) (1 : Int32)) (fun r550 u550 => (if r550 = 0 then ((-1), c_seconds, c_lead, c_ball, c_rebound, c_law, c_draw, c_players, u550.1, c_fouls, c_calls, c_side, c_kind, c_near, c_far, c_free, u550.2) else (if p1 = 0 then (1, c_seconds, c_lead, c_ball, c_rebound, c_law, c_draw, c_players, u550.1, c_fouls, c_calls, c_side, c_kind, c_near, c_far, c_free, u550.2) else (if u550.2 (0 : Int32).toNatClampNeg ≤ 9 then (1, c_seconds, c_lead, c_ball, (u550.2 (0 : Int32).toNatClampNeg), c_law, c_draw, c_players, u550.1, c_fouls, c_calls, c_side, c_kind, c_near, c_far, c_free, u550.2) else (0, c_seconds, c_lead, c_ball, c_rebound, c_law, c_draw, c_players, u550.1, c_fouls, c_calls, c_side, c_kind, c_near, c_far, c_free, u550.2))))) else (if c_letter u368.toNatClampNeg = 119 then g_lt2 (f_X5_digits c_letters (u368 + 1) c_letter c_value (0 : Int32) (1 : Int32)) (fun r550 u550 => (if r550 = 0 then ((-1), c_seconds, c_lead, c_ball, c_rebound, c_law, c_draw, c_players, u550.1, c_fouls, c_calls, c_side, c_kind, c_near, c_far, c_free, u550.2) else (if p1 = 0 then (1, c_seconds, c_lead, c_ball, c_rebound, c_law, c_draw, c_players, u550.1, c_fouls, c_calls, c_side, c_kind, c_near, c_far, c_free, u550.2) else (if u550.2 (0 : Int32).toNatClampNeg ≤ 3 then (1, c_seconds, c_lead, c_ball, c_rebound, (u550.2 (0 : Int32).toNatClampNeg), c_draw, c_players, u550.1, c_fouls, c_calls, c_side, c_kind, c_near, c_far, c_free, u550.2) else (0, c_seconds, c_lead, c_ball, c_rebound, c_law, c_draw, c_players, u550.1, c_fouls, c_calls, c_side, c_kind, c_near, c_far, c_free, u550.2))))) else (if c_letter u368.toNatClampNeg = 100 then g_lt2 (f_X5_digits c_letters (u368 + 1) c_letter c_value (0 : Int32) (1 : Int32)) (fun r550 u550 => (if r550 = 0 then ((-1), c_seconds, c_lead, c_ball, c_rebound, c_law, c_draw, c_players, u550.1, c_fouls, c_calls, c_side, c_kind, c_near, c_far, c_free, u550.2) else (if p1 = 0 then (1, c_seconds, c_lead, c_ball, c_rebound, c_law, c_draw, c_players, u550.1, c_fouls, c_calls, c_side, c_kind, c_near, c_far, c_free, u550.2) else (if u550.2 (0 : Int32).toNatClampNeg ≤ 9 then (1, c_seconds, c_lead, c_ball, c_rebound, c_law, (u550.2 (0 : Int32).toNatClampNeg), c_players, u550.1, c_fouls, c_calls, c_side, c_kind, c_near, c_far, c_free, u550.2) else (0, c_seconds, c_lead, c_ball, c_rebound, c_law, c_draw, c_players, u550.1, c_fouls, c_calls, c_side, c_kind, c_near, c_far, c_free, u550.2))))) else ((-1), c_seconds, c_lead, c_ball, c_rebound, c_law, c_draw, c_players, u368, c_fouls, c_calls, c_side, c_kind, c_near, c_far, c_free, c_value)))))) else (if c_letter (u368 - 1).toNatClampNeg = 102 then g_lt2 (f_X5_digits c_letters u368 c_letter c_value (0 : Int32) (2 : Int32)) (fun r399 u399 => (if r399 = 0 then ((-1), c_seconds, c_lead, c_ball, c_rebound, c_law, c_draw, c_players, u399.1, c_fouls, c_calls, c_side, c_kind, c_near, c_far, c_free, u399.2) else (if p1 = 0 then (1, c_seconds, c_lead, c_ball, c_rebound, c_law, c_draw, c_players, u399.1, c_fouls, c_calls, c_side, c_kind, c_near, c_far, c_free, u399.2) else (if 1 < u399.2 (0 : Int32).toNatClampNeg then (0, c_seconds, c_lead, c_ball, c_rebound, c_law, c_draw, c_players, u399.1, c_fouls, c_calls, c_side, c_kind, c_near, c_far, c_free, u399.2) else (if u399.2 (1 : Int32).toNatClampNeg ≤ 5 then (1, c_seconds, c_lead, c_ball, c_rebound, c_law, c_draw, c_players, u399.1, upd c_fouls (u399.2 (0 : Int32).toNatClampNeg).toNatClampNeg (u399.2 (1 : Int32).toNatClampNeg), c_calls, c_side, c_kind, c_near, c_far, c_free, u399.2) else (0, c_seconds, c_lead, c_ball, c_rebound, c_law, c_draw, c_players, u399.1, c_fouls, c_calls, c_side, c_kind, c_near, c_far, c_free, u399.2)))))) else g_lt2 (f_X5_digits c_letters u368 c_letter c_value (0 : Int32) (2 : Int32)) (fun r399 u399 => (if r399 = 0 then ((-1), c_seconds, c_lead, c_ball, c_rebound, c_law, c_draw, c_players, u399.1, c_fouls, c_calls, c_side, c_kind, c_near, c_far, c_free, u399.2) else (if p1 = 0 then (1, c_seconds, c_lead, c_ball, c_rebound, c_law, c_draw, c_players, u399.1, c_fouls, c_calls, c_side, c_kind, c_near, c_far, c_free, u399.2) else (if 1 < u399.2 (0 : Int32).toNatClampNeg then (0, c_seconds, c_lead, c_ball, c_rebound, c_law, c_draw, c_players, u399.1, c_fouls, c_calls, c_side, c_kind, c_near, c_far, c_free, u399.2) else (if u399.2 (1 : Int32).toNatClampNeg ≤ 2 then (1, c_seconds, c_lead, c_ball, c_rebound, c_law, c_draw, c_players, u399.1, c_fouls, upd c_calls (u399.2 (0 : Int32).toNatClampNeg).toNatClampNeg (u399.2 (1 : Int32).toNatClampNeg), c_side, c_kind, c_near, c_far, c_free, u399.2) else (0, c_seconds, c_lead, c_ball, c_rebound, c_law, c_draw, c_players, u399.1, c_fouls, c_calls, c_side, c_kind, c_near, c_far, c_free, u399.2))))))))) else (if c_letter (u359 - 1).toNatClampNeg = 102 then g_lt2 (f_X5_digits c_letters u359 c_letter c_value (0 : Int32) (2 : Int32)) (fun r399 u399 => (if r399 = 0 then ((-1), c_seconds, c_lead, c_ball, c_rebound, c_law, c_draw, c_players, u399.1, c_fouls, c_calls, c_side, c_kind, c_near, c_far, c_free, u399.2) else (if p1 = 0 then (1, c_seconds, c_lead, c_ball, c_rebound, c_law, c_draw, c_players, u399.1, c_fouls, c_calls, c_side, c_kind, c_near, c_far, c_free, u399.2) else (if 1 < u399.2 (0 : Int32).toNatClampNeg then (0, c_seconds, c_lead, c_ball, c_rebound, c_law, c_draw, c_players, u399.1, c_fouls, c_calls, c_side, c_kind, c_near, c_far, c_free, u399.2) else (if u399.2 (1 : Int32).toNatClampNeg ≤ 5 then (1, c_seconds, c_lead, c_ball, c_rebound, c_law, c_draw, c_players, u399.1, upd c_fouls (u399.2 (0 : Int32).toNatClampNeg).toNatClampNeg (u399.2 (1 : Int32).toNatClampNeg), c_calls, c_side, c_kind, c_near, c_far, c_free, u399.2) else (0, c_seconds, c_lead, c_ball, c_rebound, c_law, c_draw, c_players, u399.1, c_fouls, c_calls, c_side, c_kind, c_near, c_far, c_free, u399.2)))))) else g_lt2 (f_X5_digits c_letters u359 c_letter c_value (0 : Int32) (2 : Int32)) (fun r399 u399 => (if r399 = 0 then ((-1), c_seconds, c_lead, c_ball, c_rebound, c_law, c_draw, c_players, u399.1, c_fouls, c_calls, c_side, c_kind, c_near, c_far, c_free, u399.2) else (if p1 = 0 then (1, c_seconds, c_lead, c_ball, c_rebound, c_law, c_draw, c_players, u399.1, c_fouls, c_calls, c_side, c_kind, c_near, c_far, c_free, u399.2) else (if 1 < u399.2 (0 : Int32).toNatClampNeg then (0, c_seconds, c_lead, c_ball, c_rebound, c_law, c_draw, c_players, u399.1, c_fouls, c_calls, c_side, c_kind, c_near, c_far, c_free, u399.2) else (if u399.2 (1 : Int32).toNatClampNeg ≤ 2 then (1, c_seconds, c_lead, c_ball, c_rebound, c_law, c_draw, c_players, u399.1, c_fouls, upd c_calls (u399.2 (0 : Int32).toNatClampNeg).toNatClampNeg (u399.2 (1 : Int32).toNatClampNeg), c_side, c_kind, c_near, c_far, c_free, u399.2) else (0, c_seconds, c_lead, c_ball, c_rebound, c_law, c_draw, c_players, u399.1, c_fouls, c_calls, c_side, c_kind, c_near, c_far, c_free, u399.2))))))))) else g_lt2 (f_X5_is c_letters u269 c_letter (45 : Int32)) (fun r278 u278 => (if r278 = 0 then g_lt2 (f_X5_is c_letters u278 c_letter (43 : Int32)) (fun r289 u289 => (if r289 = 0 then ((-1), c_seconds, c_lead, c_ball, c_rebound, c_law, c_draw, c_players, u289, c_fouls, c_calls, c_side, c_kind, c_near, c_far, c_free, c_value) else g_lt2 (f_X5_digits c_letters u289 c_letter c_value (0 : Int32) (1 : Int32)) (fun r298 u298 => (if r298 = 0 then ((-1), c_seconds, c_lead, c_ball, c_rebound, c_law, c_draw, c_players, u298.1, c_fouls, c_calls, c_side, c_kind, c_near, c_far, c_free, u298.2) else (if p1 = 0 then (1, c_seconds, c_lead, c_ball, c_rebound, c_law, c_draw, c_players, u298.1, c_fouls, c_calls, c_side, c_kind, c_near, c_far, c_free, u298.2) else (if u298.2 (0 : Int32).toNatClampNeg ≤ 6 then (1, c_seconds, (6 + (u298.2 (0 : Int32).toNatClampNeg)), c_ball, c_rebound, c_law, c_draw, c_players, u298.1, c_fouls, c_calls, c_side, c_kind, c_near, c_far, c_free, u298.2) else (0, c_seconds, c_lead, c_ball, c_rebound, c_law, c_draw, c_players, u298.1, c_fouls, c_calls, c_side, c_kind, c_near, c_far, c_free, u298.2))))))) else g_lt2 (f_X5_digits c_letters u278 c_letter c_value (0 : Int32) (1 : Int32)) (fun r298 u298 => (if r298 = 0 then ((-1), c_seconds, c_lead, c_ball, c_rebound, c_law, c_draw, c_players, u298.1, c_fouls, c_calls, c_side, c_kind, c_near, c_far, c_free, u298.2) else (if p1 = 0 then (1, c_seconds, c_lead, c_ball, c_rebound, c_law, c_draw, c_players, u298.1, c_fouls, c_calls, c_side, c_kind, c_near, c_far, c_free, u298.2) else (if u298.2 (0 : Int32).toNatClampNeg ≤ 6 then (1, c_seconds, (6 - (u298.2 (0 : Int32).toNatClampNeg)), c_ball, c_rebound, c_law, c_draw, c_players, u298.1, c_fouls, c_calls, c_side, c_kind, c_near, c_far, c_free, u298.2) else (0, c_seconds, c_lead, c_ball, c_rebound, c_law, c_draw, c_players, u298.1, c_fouls, c_calls, c_side, c_kind, c_near, c_far, c_free, u298.2))))))))) else g_lt2 (f_X5_digits c_letters u198 c_letter c_value (0 : Int32) (2 : Int32)) (fun r207 u207 => (if r207 = 0 then ((-1), c_seconds, c_lead, c_ball, c_rebound, c_law, c_draw, c_players, u207.1, c_fouls, c_calls, c_side, c_kind, c_near, c_far, c_free, u207.2) else (if p1 = 0 then (1, c_seconds, c_lead, c_ball, c_rebound, c_law, c_draw, c_players, u207.1, c_fouls, c_calls, c_side, c_kind, c_near, c_far, c_free, u207.2) else (if (10 * (u207.2 (0 : Int32).toNatClampNeg)) + (u207.2 (1 : Int32).toNatClampNeg) ≤ 24 then (1, ((10 * (u207.2 (0 : Int32).toNatClampNeg)) + (u207.2 (1 : Int32).toNatClampNeg)), c_lead, c_ball, c_rebound, c_law, c_draw, c_players, u207.1, c_fouls, c_calls, c_side, c_kind, c_near, c_far, c_free, u207.2) else (0, c_seconds, c_lead, c_ball, c_rebound, c_law, c_draw, c_players, u207.1, c_fouls, c_calls, c_side, c_kind, c_near, c_far, c_free, u207.2))))))) else g_lt2 (f_X5_digits c_letters u3 c_letter c_value (0 : Int32) (1 : Int32)) (fun r12 u12 => (if r12 = 0 then ((-1), c_seconds, c_lead, c_ball, c_rebound, c_law, c_draw, c_players, u12.1, c_fouls, c_calls, c_side, c_kind, c_near, c_far, c_free, u12.2) else (if c_letters ≤ u12.1 then ((-1), c_seconds, c_lead, c_ball, c_rebound, c_law, c_draw, c_players, u12.1, c_fouls, c_calls, c_side, c_kind, c_near, c_far, c_free, u12.2) else (if c_letter u12.1.toNatClampNeg ≤ 0 then ((-1), c_seconds, c_lead, c_ball, c_rebound, c_law, c_draw, c_players, u12.1, c_fouls, c_calls, c_side, c_kind, c_near, c_far, c_free, u12.2) else g_lt (f_J0_indexOf_0f7a4 5 (c_letter u12.1.toNatClampNeg)) (fun r54 => (if 0 ≤ r54 then g_lt2 (f_X5_digits c_letters (u12.1 + 1) c_letter u12.2 (1 : Int32) (3 : Int32)) (fun r81 u81 => (if r81 = 0 then ((-1), c_seconds, c_lead, c_ball, c_rebound, c_law, c_draw, c_players, u81.1, c_fouls, c_calls, c_side, c_kind, c_near, c_far, c_free, u81.2) else (if p1 = 0 then (1, c_seconds, c_lead, c_ball, c_rebound, c_law, c_draw, c_players, u81.1, c_fouls, c_calls, c_side, c_kind, c_near, c_far, c_free, u81.2) else (if 1 < u81.2 (0 : Int32).toNatClampNeg then (0, c_seconds, c_lead, c_ball, c_rebound, c_law, c_draw, c_players, u81.1, c_fouls, c_calls, c_side, c_kind, c_near, c_far, c_free, u81.2) else (if c_players = 6 then (0, c_seconds, c_lead, c_ball, c_rebound, c_law, c_draw, c_players, u81.1, c_fouls, c_calls, c_side, c_kind, c_near, c_far, c_free, u81.2) else (1, c_seconds, c_lead, c_ball, c_rebound, c_law, c_draw, (c_players + 1), u81.1, c_fouls, c_calls, upd c_side c_players.toNatClampNeg (u81.2 (0 : Int32).toNatClampNeg), upd c_kind c_players.toNatClampNeg r54, upd c_near c_players.toNatClampNeg (u81.2 (1 : Int32).toNatClampNeg), upd c_far c_players.toNatClampNeg (u81.2 (2 : Int32).toNatClampNeg), upd c_free c_players.toNatClampNeg (u81.2 (3 : Int32).toNatClampNeg), u81.2)))))) else ((-1), c_seconds, c_lead, c_ball, c_rebound, c_law, c_draw, c_players, u12.1, c_fouls, c_calls, c_side, c_kind, c_near, c_far, c_free, u12.2)))))))))
set_option maxHeartbeats 4000000 in
set_option maxRecDepth 100000 in
theorem k_X5_statement (l : Launch) (D : va_G) (cI : ClassId) (kA kV : Nat → Nat) (a_ a_fouls a_calls a_side a_kind a_near a_far a_free a_letter a_value a_row a_refusals a_image a_ahead a_guard a_worth : Nat) (c_seconds : Int32) (c_lead : Int32) (c_ball : Int32) (c_rebound : Int32) (c_law : Int32) (c_draw : Int32) (c_players : Int32) (c_letters : Int32) (c_at : Int32) (c_inRow : Int32) (c_imaged : Int32) (c_fouls : Nat → Int32) (c_calls : Nat → Int32) (c_side : Nat → Int32) (c_kind : Nat → Int32) (c_near : Nat → Int32) (c_far : Nat → Int32) (c_free : Nat → Int32) (c_letter : Nat → Int32) (c_value : Nat → Int32) (p1 : Int32) (ha : m_A c_at c_letters) (hp : m_P c_players) :
    g_MI l D cI kA kV yX5_statement wsX5_statement { frames := 4, cells := 0, slots := 0, locals := 91 } [.ref a_, .int p1] [(a_, .inr (5, [.int c_seconds, .int c_lead, .int c_ball, .ref a_fouls, .ref a_calls, .int c_rebound, .int c_law, .int c_draw, .int c_players, .ref a_side, .ref a_kind, .ref a_near, .ref a_far, .ref a_free, .int c_letters, .ref a_letter, .int c_at, .ref a_value, .int c_inRow, .ref a_row, .ref a_refusals, .int c_imaged, .ref a_image, .ref a_ahead, .ref a_guard, .ref a_worth])), (a_fouls, .inl (cI, 2, .inl c_fouls)), (a_calls, .inl (cI, 2, .inl c_calls)), (a_side, .inl (cI, 6, .inl c_side)), (a_kind, .inl (cI, 6, .inl c_kind)), (a_near, .inl (cI, 6, .inl c_near)), (a_far, .inl (cI, 6, .inl c_far)), (a_free, .inl (cI, 6, .inl c_free)), (a_letter, .inl (cI, 96, .inl c_letter)), (a_value, .inl (cI, 4, .inl c_value))] (fun u : (Int32) × (Int32) × (Int32) × (Int32) × (Int32) × (Int32) × (Int32) × (Int32) × (Nat → Int32) × (Nat → Int32) × (Nat → Int32) × (Nat → Int32) × (Nat → Int32) × (Nat → Int32) × (Nat → Int32) × (Nat → Int32) => [(a_, .inr (5, [.int u.1, .int u.2.1, .int u.2.2.1, .ref a_fouls, .ref a_calls, .int u.2.2.2.1, .int u.2.2.2.2.1, .int u.2.2.2.2.2.1, .int u.2.2.2.2.2.2.1, .ref a_side, .ref a_kind, .ref a_near, .ref a_far, .ref a_free, .int c_letters, .ref a_letter, .int u.2.2.2.2.2.2.2.1, .ref a_value, .int c_inRow, .ref a_row, .ref a_refusals, .int c_imaged, .ref a_image, .ref a_ahead, .ref a_guard, .ref a_worth])), (a_fouls, .inl (cI, 2, .inl u.2.2.2.2.2.2.2.2.1)), (a_calls, .inl (cI, 2, .inl u.2.2.2.2.2.2.2.2.2.1)), (a_side, .inl (cI, 6, .inl u.2.2.2.2.2.2.2.2.2.2.1)), (a_kind, .inl (cI, 6, .inl u.2.2.2.2.2.2.2.2.2.2.2.1)), (a_near, .inl (cI, 6, .inl u.2.2.2.2.2.2.2.2.2.2.2.2.1)), (a_far, .inl (cI, 6, .inl u.2.2.2.2.2.2.2.2.2.2.2.2.2.1)), (a_free, .inl (cI, 6, .inl u.2.2.2.2.2.2.2.2.2.2.2.2.2.2.1)), (a_letter, .inl (cI, 96, .inl c_letter)), (a_value, .inl (cI, 4, .inl u.2.2.2.2.2.2.2.2.2.2.2.2.2.2.2))]) (fun (r : Int32) (u : (Int32) × (Int32) × (Int32) × (Int32) × (Int32) × (Int32) × (Int32) × (Int32) × (Nat → Int32) × (Nat → Int32) × (Nat → Int32) × (Nat → Int32) × (Nat → Int32) × (Nat → Int32) × (Nat → Int32) × (Nat → Int32)) => (r, u) = f_X5_statement c_seconds c_lead c_ball c_rebound c_law c_draw c_players c_letters c_at c_fouls c_calls c_side c_kind c_near c_far c_free c_letter c_value p1) := by
  obtain ⟨XX, hXX⟩ : ∃ z, z = f_X5_statement c_seconds c_lead c_ball c_rebound c_law c_draw c_players c_letters c_at c_fouls c_calls c_side c_kind c_near c_far c_free c_letter c_value p1 := ⟨_, rfl⟩
  have heq := hXX.trans (f_X5_statement.eq_def c_seconds c_lead c_ball c_rebound c_law c_draw c_players c_letters c_at c_fouls c_calls c_side c_kind c_near c_far c_free c_letter c_value p1)
  refine g_startI (lv := [(0, .ref a_), (1, .int p1)]) RX5 rfl rfl rfl (Nat.le_of_ble_eq_true rfl) rfl (fun p e s m args below meth c AA QQ hAA hQQ X hr hmn => ?_)
  refine g_aload_n X 0 rfl rfl dX5_statement_0 ?_
  refine g_bipush (v := 112) X (by decide) dX5_statement_1 ?_
  refine g_callVi (C := RX5) (T := TX5) (N := 26) (ci := 5) (As := [.int 112]) (st := []) (wr := [(a_fouls, .inl (cI, 2, .inl c_fouls)), (a_calls, .inl (cI, 2, .inl c_calls)), (a_side, .inl (cI, 6, .inl c_side)), (a_kind, .inl (cI, 6, .inl c_kind)), (a_near, .inl (cI, 6, .inl c_near)), (a_far, .inl (cI, 6, .inl c_far)), (a_free, .inl (cI, 6, .inl c_free)), (a_value, .inl (cI, 4, .inl c_value))]) X (k_X5_is l D cI kA kV a_ a_fouls a_calls a_side a_kind a_near a_far a_free a_letter a_value a_row a_refusals a_image a_ahead a_guard a_worth c_seconds c_lead c_ball c_rebound c_law c_draw c_players c_letters c_at c_inRow c_imaged c_letter 112 ha) (cwV 1 X.2.2.2.2.1 gX5_statement_X5_is rfl rfl rfl (by decide +kernel) ⟨Nat.le_of_ble_eq_true rfl, Nat.le_of_ble_eq_true rfl⟩) 0 rfl rfl [0, 8] [1, 2, 3, 4, 5, 6, 7, 9] rfl rfl rfl rfl (by decide) rfl (Nat.le_of_ble_eq_true rfl) ⟨Nat.le_of_ble_eq_true rfl, Nat.le_of_ble_eq_true rfl⟩ dX5_statement_3 rfl (fun r3 u3 hw3 => ?_)
  refine g_eqs (ws' := [(a_fouls, .inl (cI, 2, .inl c_fouls)), (a_calls, .inl (cI, 2, .inl c_calls)), (a_side, .inl (cI, 6, .inl c_side)), (a_kind, .inl (cI, 6, .inl c_kind)), (a_near, .inl (cI, 6, .inl c_near)), (a_far, .inl (cI, 6, .inl c_far)), (a_free, .inl (cI, 6, .inl c_free)), (a_value, .inl (cI, 4, .inl c_value)), (a_, .inr (5, [.int c_seconds, .int c_lead, .int c_ball, .ref a_fouls, .ref a_calls, .int c_rebound, .int c_law, .int c_draw, .int c_players, .ref a_side, .ref a_kind, .ref a_near, .ref a_far, .ref a_free, .int c_letters, .ref a_letter, .int u3, .ref a_value, .int c_inRow, .ref a_row, .ref a_refusals, .int c_imaged, .ref a_image, .ref a_ahead, .ref a_guard, .ref a_worth])), (a_letter, .inl (cI, 96, .inl c_letter))]) rfl ?_
  have hd3 := fd_is ha hw3
  have ha3 := hd3.1
  have heq := g_let2 heq hw3
  refine g_if_eq X 195 dX5_statement_6 (by decide) (fun c6 => ?_) (fun c6 => ?_)
  · have heq := heq.trans (if_pos c6)
    refine g_aload_n X 0 rfl rfl dX5_statement_195 ?_
    refine g_bipush (v := 99) X (by decide) dX5_statement_196 ?_
    refine g_callVi (C := RX5) (T := TX5) (N := 26) (ci := 5) (As := [.int 99]) (st := []) (wr := [(a_fouls, .inl (cI, 2, .inl c_fouls)), (a_calls, .inl (cI, 2, .inl c_calls)), (a_side, .inl (cI, 6, .inl c_side)), (a_kind, .inl (cI, 6, .inl c_kind)), (a_near, .inl (cI, 6, .inl c_near)), (a_far, .inl (cI, 6, .inl c_far)), (a_free, .inl (cI, 6, .inl c_free)), (a_value, .inl (cI, 4, .inl c_value))]) X (k_X5_is l D cI kA kV a_ a_fouls a_calls a_side a_kind a_near a_far a_free a_letter a_value a_row a_refusals a_image a_ahead a_guard a_worth c_seconds c_lead c_ball c_rebound c_law c_draw c_players c_letters u3 c_inRow c_imaged c_letter 99 ha3) (cwV 1 X.2.2.2.2.1 gX5_statement_X5_is rfl rfl rfl (by decide +kernel) ⟨Nat.le_of_ble_eq_true rfl, Nat.le_of_ble_eq_true rfl⟩) 8 rfl rfl [8, 9] [0, 1, 2, 3, 4, 5, 6, 7] rfl rfl rfl rfl (by decide) rfl (Nat.le_of_ble_eq_true rfl) ⟨Nat.le_of_ble_eq_true rfl, Nat.le_of_ble_eq_true rfl⟩ dX5_statement_198 rfl (fun r198 u198 hw198 => ?_)
    refine g_eqs (ws' := [(a_fouls, .inl (cI, 2, .inl c_fouls)), (a_calls, .inl (cI, 2, .inl c_calls)), (a_side, .inl (cI, 6, .inl c_side)), (a_kind, .inl (cI, 6, .inl c_kind)), (a_near, .inl (cI, 6, .inl c_near)), (a_far, .inl (cI, 6, .inl c_far)), (a_free, .inl (cI, 6, .inl c_free)), (a_value, .inl (cI, 4, .inl c_value)), (a_, .inr (5, [.int c_seconds, .int c_lead, .int c_ball, .ref a_fouls, .ref a_calls, .int c_rebound, .int c_law, .int c_draw, .int c_players, .ref a_side, .ref a_kind, .ref a_near, .ref a_far, .ref a_free, .int c_letters, .ref a_letter, .int u198, .ref a_value, .int c_inRow, .ref a_row, .ref a_refusals, .int c_imaged, .ref a_image, .ref a_ahead, .ref a_guard, .ref a_worth])), (a_letter, .inl (cI, 96, .inl c_letter))]) rfl ?_
    have hd198 := fd_is ha3 hw198
    have ha198 := hd198.1
    have heq := g_let2 heq hw198
    refine g_if_eq X 266 dX5_statement_201 (by decide) (fun c201 => ?_) (fun c201 => ?_)
    · have heq := heq.trans (if_pos c201)
      refine g_aload_n X 0 rfl rfl dX5_statement_266 ?_
      refine g_bipush (v := 108) X (by decide) dX5_statement_267 ?_
      refine g_callVi (C := RX5) (T := TX5) (N := 26) (ci := 5) (As := [.int 108]) (st := []) (wr := [(a_fouls, .inl (cI, 2, .inl c_fouls)), (a_calls, .inl (cI, 2, .inl c_calls)), (a_side, .inl (cI, 6, .inl c_side)), (a_kind, .inl (cI, 6, .inl c_kind)), (a_near, .inl (cI, 6, .inl c_near)), (a_far, .inl (cI, 6, .inl c_far)), (a_free, .inl (cI, 6, .inl c_free)), (a_value, .inl (cI, 4, .inl c_value))]) X (k_X5_is l D cI kA kV a_ a_fouls a_calls a_side a_kind a_near a_far a_free a_letter a_value a_row a_refusals a_image a_ahead a_guard a_worth c_seconds c_lead c_ball c_rebound c_law c_draw c_players c_letters u198 c_inRow c_imaged c_letter 108 ha198) (cwV 1 X.2.2.2.2.1 gX5_statement_X5_is rfl rfl rfl (by decide +kernel) ⟨Nat.le_of_ble_eq_true rfl, Nat.le_of_ble_eq_true rfl⟩) 8 rfl rfl [8, 9] [0, 1, 2, 3, 4, 5, 6, 7] rfl rfl rfl rfl (by decide) rfl (Nat.le_of_ble_eq_true rfl) ⟨Nat.le_of_ble_eq_true rfl, Nat.le_of_ble_eq_true rfl⟩ dX5_statement_269 rfl (fun r269 u269 hw269 => ?_)
      refine g_eqs (ws' := [(a_fouls, .inl (cI, 2, .inl c_fouls)), (a_calls, .inl (cI, 2, .inl c_calls)), (a_side, .inl (cI, 6, .inl c_side)), (a_kind, .inl (cI, 6, .inl c_kind)), (a_near, .inl (cI, 6, .inl c_near)), (a_far, .inl (cI, 6, .inl c_far)), (a_free, .inl (cI, 6, .inl c_free)), (a_value, .inl (cI, 4, .inl c_value)), (a_, .inr (5, [.int c_seconds, .int c_lead, .int c_ball, .ref a_fouls, .ref a_calls, .int c_rebound, .int c_law, .int c_draw, .int c_players, .ref a_side, .ref a_kind, .ref a_near, .ref a_far, .ref a_free, .int c_letters, .ref a_letter, .int u269, .ref a_value, .int c_inRow, .ref a_row, .ref a_refusals, .int c_imaged, .ref a_image, .ref a_ahead, .ref a_guard, .ref a_worth])), (a_letter, .inl (cI, 96, .inl c_letter))]) rfl ?_
      have hd269 := fd_is ha198 hw269
      have ha269 := hd269.1
      have heq := g_let2 heq hw269
      refine g_if_eq X 356 dX5_statement_272 (by decide) (fun c272 => ?_) (fun c272 => ?_)
      · have heq := heq.trans (if_pos c272)
        refine g_aload_n X 0 rfl rfl dX5_statement_356 ?_
        refine g_bipush (v := 102) X (by decide) dX5_statement_357 ?_
        refine g_callVi (C := RX5) (T := TX5) (N := 26) (ci := 5) (As := [.int 102]) (st := []) (wr := [(a_fouls, .inl (cI, 2, .inl c_fouls)), (a_calls, .inl (cI, 2, .inl c_calls)), (a_side, .inl (cI, 6, .inl c_side)), (a_kind, .inl (cI, 6, .inl c_kind)), (a_near, .inl (cI, 6, .inl c_near)), (a_far, .inl (cI, 6, .inl c_far)), (a_free, .inl (cI, 6, .inl c_free)), (a_value, .inl (cI, 4, .inl c_value))]) X (k_X5_is l D cI kA kV a_ a_fouls a_calls a_side a_kind a_near a_far a_free a_letter a_value a_row a_refusals a_image a_ahead a_guard a_worth c_seconds c_lead c_ball c_rebound c_law c_draw c_players c_letters u269 c_inRow c_imaged c_letter 102 ha269) (cwV 1 X.2.2.2.2.1 gX5_statement_X5_is rfl rfl rfl (by decide +kernel) ⟨Nat.le_of_ble_eq_true rfl, Nat.le_of_ble_eq_true rfl⟩) 8 rfl rfl [8, 9] [0, 1, 2, 3, 4, 5, 6, 7] rfl rfl rfl rfl (by decide) rfl (Nat.le_of_ble_eq_true rfl) ⟨Nat.le_of_ble_eq_true rfl, Nat.le_of_ble_eq_true rfl⟩ dX5_statement_359 rfl (fun r359 u359 hw359 => ?_)
        refine g_eqs (ws' := [(a_fouls, .inl (cI, 2, .inl c_fouls)), (a_calls, .inl (cI, 2, .inl c_calls)), (a_side, .inl (cI, 6, .inl c_side)), (a_kind, .inl (cI, 6, .inl c_kind)), (a_near, .inl (cI, 6, .inl c_near)), (a_far, .inl (cI, 6, .inl c_far)), (a_free, .inl (cI, 6, .inl c_free)), (a_value, .inl (cI, 4, .inl c_value)), (a_, .inr (5, [.int c_seconds, .int c_lead, .int c_ball, .ref a_fouls, .ref a_calls, .int c_rebound, .int c_law, .int c_draw, .int c_players, .ref a_side, .ref a_kind, .ref a_near, .ref a_far, .ref a_free, .int c_letters, .ref a_letter, .int u359, .ref a_value, .int c_inRow, .ref a_row, .ref a_refusals, .int c_imaged, .ref a_image, .ref a_ahead, .ref a_guard, .ref a_worth])), (a_letter, .inl (cI, 96, .inl c_letter))]) rfl ?_
        have hd359 := fd_is ha269 hw359
        have ha359 := hd359.1
        have heq := g_let2 heq hw359
        refine g_if_ne X 374 dX5_statement_362 (by decide) (fun c362 => ?_) (fun c362 => ?_)
        · have heq := heq.trans (if_neg c362)
          refine g_aload_n X 0 rfl rfl dX5_statement_374 ?_
          refine g_get (C := RX5) (T := TX5) (N := 26) (ci := 5) X hi_X5_statement_X5 8 rfl rfl 15 (by decide) (X.2.2.2.2.1 (.fieldLink RX5 31 "NineteenSecondsLeftModel" "letter" "[I") (List.mem_of_getElem? (i := 3) rfl)) rfl rfl dX5_statement_375 ?_
          refine g_aload_n X 0 rfl rfl dX5_statement_378 ?_
          refine g_get (C := RX5) (T := TX5) (N := 26) (ci := 5) X hi_X5_statement_X5 8 rfl rfl 16 (by decide) (X.2.2.2.2.1 (.fieldLink RX5 83 "NineteenSecondsLeftModel" "at" "I") (List.mem_of_getElem? (i := 1) rfl)) rfl rfl dX5_statement_379 ?_
          refine g_iconst (v := 1) X (by decide) dX5_statement_382 ?_
          refine g_isub X dX5_statement_383 ?_
          refine g_iald X 9 rfl (fd_isv ha269 hw359 c362) dX5_statement_384 ?_
          refine g_bipush (v := 102) X (by decide) dX5_statement_385 ?_
          refine g_icmp_ne X 394 dX5_statement_387 (by decide) (fun c387 => ?_) (fun c387 => ?_)
          · have heq := heq.trans (if_neg c387)
            refine g_iconst (v := 0) X (by decide) dX5_statement_394 ?_
            refine g_istore_n (lv' := [(2, .int 0), (0, .ref a_), (1, .int p1)]) X rfl (by decide) rfl dX5_statement_395 ?_
            refine g_aload_n X 1 rfl rfl dX5_statement_396 ?_
            refine g_iconst (v := 0) X (by decide) dX5_statement_397 ?_
            refine g_iconst (v := 2) X (by decide) dX5_statement_398 ?_
            refine g_callVi (C := RX5) (T := TX5) (N := 26) (ci := 5) (As := [.int 0, .int 2]) (st := []) (wr := [(a_fouls, .inl (cI, 2, .inl c_fouls)), (a_calls, .inl (cI, 2, .inl c_calls)), (a_side, .inl (cI, 6, .inl c_side)), (a_kind, .inl (cI, 6, .inl c_kind)), (a_near, .inl (cI, 6, .inl c_near)), (a_far, .inl (cI, 6, .inl c_far)), (a_free, .inl (cI, 6, .inl c_free))]) X (k_X5_digits l D cI kA kV a_ a_fouls a_calls a_side a_kind a_near a_far a_free a_letter a_value a_row a_refusals a_image a_ahead a_guard a_worth c_seconds c_lead c_ball c_rebound c_law c_draw c_players c_letters u359 c_inRow c_imaged c_letter c_value 0 2 ha359 (by decide) (by decide)) (cwV 2 X.2.2.2.2.1 gX5_statement_X5_digits rfl rfl rfl (by decide +kernel) ⟨Nat.le_of_ble_eq_true rfl, Nat.le_of_ble_eq_true rfl⟩) 8 rfl rfl [8, 9, 7] [0, 1, 2, 3, 4, 5, 6] rfl rfl rfl rfl (by decide) rfl (Nat.le_of_ble_eq_true rfl) ⟨Nat.le_of_ble_eq_true rfl, Nat.le_of_ble_eq_true rfl⟩ dX5_statement_399 rfl (fun r399 u399 hw399 => ?_)
            refine g_eqs (ws' := [(a_fouls, .inl (cI, 2, .inl c_fouls)), (a_calls, .inl (cI, 2, .inl c_calls)), (a_side, .inl (cI, 6, .inl c_side)), (a_kind, .inl (cI, 6, .inl c_kind)), (a_near, .inl (cI, 6, .inl c_near)), (a_far, .inl (cI, 6, .inl c_far)), (a_free, .inl (cI, 6, .inl c_free)), (a_, .inr (5, [.int c_seconds, .int c_lead, .int c_ball, .ref a_fouls, .ref a_calls, .int c_rebound, .int c_law, .int c_draw, .int c_players, .ref a_side, .ref a_kind, .ref a_near, .ref a_far, .ref a_free, .int c_letters, .ref a_letter, .int u399.1, .ref a_value, .int c_inRow, .ref a_row, .ref a_refusals, .int c_imaged, .ref a_image, .ref a_ahead, .ref a_guard, .ref a_worth])), (a_letter, .inl (cI, 96, .inl c_letter)), (a_value, .inl (cI, 4, .inl u399.2))]) rfl ?_
            have hd399 := fd_digits ha359 (by decide) (by decide) hw399
            have ha399 := hd399.1
            have heq := g_let2 heq hw399
            refine g_if_ne X 407 dX5_statement_402 (by decide) (fun c402 => ?_) (fun c402 => ?_)
            · have heq := heq.trans (if_neg c402)
              refine g_iload_n X 2 rfl rfl dX5_statement_407 ?_
              refine g_if_ne X 413 dX5_statement_408 (by decide) (fun c408 => ?_) (fun c408 => ?_)
              · have heq := heq.trans (if_neg c408)
                refine g_aload_n X 1 rfl rfl dX5_statement_413 ?_
                refine g_get (C := RX5) (T := TX5) (N := 26) (ci := 5) X hi_X5_statement_X5 7 rfl rfl 17 (by decide) (X.2.2.2.2.1 (.fieldLink RX5 34 "NineteenSecondsLeftModel" "value" "[I") (List.mem_of_getElem? (i := 4) rfl)) rfl rfl dX5_statement_414 ?_
                refine g_iconst (v := 0) X (by decide) dX5_statement_417 ?_
                refine g_iald X 9 rfl (g_vinL (by decide)) dX5_statement_418 ?_
                refine g_iconst (v := 1) X (by decide) dX5_statement_419 ?_
                refine g_icmp_gt X 441 dX5_statement_420 (by decide) (fun c420 => ?_) (fun c420 => ?_)
                · have heq := heq.trans (if_pos c420)
                  refine g_iconst (v := 0) X (by decide) dX5_statement_441 ?_
                  exact g_iret X hAA hQQ (c_seconds, c_lead, c_ball, c_rebound, c_law, c_draw, c_players, u399.1, c_fouls, c_calls, c_side, c_kind, c_near, c_far, c_free, u399.2) (heq.symm.trans hXX) [7, 0, 1, 2, 3, 4, 5, 6, 8, 9] rfl rfl hr dX5_statement_442
                · have heq := heq.trans (if_neg c420)
                  refine g_aload_n X 1 rfl rfl dX5_statement_423 ?_
                  refine g_get (C := RX5) (T := TX5) (N := 26) (ci := 5) X hi_X5_statement_X5 7 rfl rfl 17 (by decide) (X.2.2.2.2.1 (.fieldLink RX5 34 "NineteenSecondsLeftModel" "value" "[I") (List.mem_of_getElem? (i := 4) rfl)) rfl rfl dX5_statement_424 ?_
                  refine g_iconst (v := 1) X (by decide) dX5_statement_427 ?_
                  refine g_iald X 9 rfl (g_vinL (by decide)) dX5_statement_428 ?_
                  refine g_iload_n X 0 rfl rfl dX5_statement_429 ?_
                  refine g_if_eq X 437 dX5_statement_430 (by decide) (fun c430 => ?_) (fun c430 => absurd c430 (by decide))
                  refine g_iconst (v := 2) X (by decide) dX5_statement_437 ?_
                  refine g_icmp_le X 443 dX5_statement_438 (by decide) (fun c438 => ?_) (fun c438 => ?_)
                  · have heq := heq.trans (if_pos c438)
                    refine g_iload_n X 0 rfl rfl dX5_statement_443 ?_
                    refine g_if_eq X 467 dX5_statement_444 (by decide) (fun c444 => ?_) (fun c444 => absurd c444 (by decide))
                    refine g_aload_n X 1 rfl rfl dX5_statement_467 ?_
                    refine g_get (C := RX5) (T := TX5) (N := 26) (ci := 5) X hi_X5_statement_X5 7 rfl rfl 4 (by decide) (X.2.2.2.2.1 (.fieldLink RX5 13 "NineteenSecondsLeftModel" "calls" "[I") (List.mem_of_getElem? (i := 14) rfl)) rfl rfl dX5_statement_468 ?_
                    refine g_aload_n X 1 rfl rfl dX5_statement_471 ?_
                    refine g_get (C := RX5) (T := TX5) (N := 26) (ci := 5) X hi_X5_statement_X5 7 rfl rfl 17 (by decide) (X.2.2.2.2.1 (.fieldLink RX5 34 "NineteenSecondsLeftModel" "value" "[I") (List.mem_of_getElem? (i := 4) rfl)) rfl rfl dX5_statement_472 ?_
                    refine g_iconst (v := 0) X (by decide) dX5_statement_475 ?_
                    refine g_iald X 9 rfl (g_vinL (by decide)) dX5_statement_476 ?_
                    refine g_aload_n X 1 rfl rfl dX5_statement_477 ?_
                    refine g_get (C := RX5) (T := TX5) (N := 26) (ci := 5) X hi_X5_statement_X5 7 rfl rfl 17 (by decide) (X.2.2.2.2.1 (.fieldLink RX5 34 "NineteenSecondsLeftModel" "value" "[I") (List.mem_of_getElem? (i := 4) rfl)) rfl rfl dX5_statement_478 ?_
                    refine g_iconst (v := 1) X (by decide) dX5_statement_481 ?_
                    refine g_iald X 9 rfl (g_vinL (by decide)) dX5_statement_482 ?_
                    refine g_iast (ws' := [(a_fouls, .inl (cI, 2, .inl c_fouls)), (a_calls, .inl (cI, 2, .inl (upd c_calls (u399.2 (0 : Int32).toNatClampNeg).toNatClampNeg (u399.2 (1 : Int32).toNatClampNeg)))), (a_side, .inl (cI, 6, .inl c_side)), (a_kind, .inl (cI, 6, .inl c_kind)), (a_near, .inl (cI, 6, .inl c_near)), (a_far, .inl (cI, 6, .inl c_far)), (a_free, .inl (cI, 6, .inl c_free)), (a_, .inr (5, [.int c_seconds, .int c_lead, .int c_ball, .ref a_fouls, .ref a_calls, .int c_rebound, .int c_law, .int c_draw, .int c_players, .ref a_side, .ref a_kind, .ref a_near, .ref a_far, .ref a_free, .int c_letters, .ref a_letter, .int u399.1, .ref a_value, .int c_inRow, .ref a_row, .ref a_refusals, .int c_imaged, .ref a_image, .ref a_ahead, .ref a_guard, .ref a_worth])), (a_letter, .inl (cI, 96, .inl c_letter)), (a_value, .inl (cI, 4, .inl u399.2))]) X 1 rfl (g_vin2 (fd_dw hd399.2.2 c402 0 (by decide) (by decide)).1 c420) dX5_statement_483 rfl ?_
                    refine g_iconst (v := 1) X (by decide) dX5_statement_484 ?_
                    exact g_iret X hAA hQQ (c_seconds, c_lead, c_ball, c_rebound, c_law, c_draw, c_players, u399.1, c_fouls, upd c_calls (u399.2 (0 : Int32).toNatClampNeg).toNatClampNeg (u399.2 (1 : Int32).toNatClampNeg), c_side, c_kind, c_near, c_far, c_free, u399.2) (heq.symm.trans hXX) [7, 0, 1, 2, 3, 4, 5, 6, 8, 9] rfl rfl hr dX5_statement_485
                  · have heq := heq.trans (if_neg c438)
                    refine g_iconst (v := 0) X (by decide) dX5_statement_441 ?_
                    exact g_iret X hAA hQQ (c_seconds, c_lead, c_ball, c_rebound, c_law, c_draw, c_players, u399.1, c_fouls, c_calls, c_side, c_kind, c_near, c_far, c_free, u399.2) (heq.symm.trans hXX) [7, 0, 1, 2, 3, 4, 5, 6, 8, 9] rfl rfl hr dX5_statement_442
              · have heq := heq.trans (if_pos c408)
                refine g_iconst (v := 1) X (by decide) dX5_statement_411 ?_
                exact g_iret X hAA hQQ (c_seconds, c_lead, c_ball, c_rebound, c_law, c_draw, c_players, u399.1, c_fouls, c_calls, c_side, c_kind, c_near, c_far, c_free, u399.2) (heq.symm.trans hXX) [7, 0, 1, 2, 3, 4, 5, 6, 8, 9] rfl rfl hr dX5_statement_412
            · have heq := heq.trans (if_pos c402)
              refine g_iconst (v := (-1)) X (by decide) dX5_statement_405 ?_
              exact g_iret X hAA hQQ (c_seconds, c_lead, c_ball, c_rebound, c_law, c_draw, c_players, u399.1, c_fouls, c_calls, c_side, c_kind, c_near, c_far, c_free, u399.2) (heq.symm.trans hXX) [7, 0, 1, 2, 3, 4, 5, 6, 8, 9] rfl rfl hr dX5_statement_406
          · have heq := heq.trans (if_pos c387)
            refine g_iconst (v := 1) X (by decide) dX5_statement_390 ?_
            refine g_goto (tgt := 395) X (by decide) dX5_statement_391 ?_
            refine g_istore_n (lv' := [(2, .int 1), (0, .ref a_), (1, .int p1)]) X rfl (by decide) rfl dX5_statement_395 ?_
            refine g_aload_n X 1 rfl rfl dX5_statement_396 ?_
            refine g_iconst (v := 0) X (by decide) dX5_statement_397 ?_
            refine g_iconst (v := 2) X (by decide) dX5_statement_398 ?_
            refine g_callVi (C := RX5) (T := TX5) (N := 26) (ci := 5) (As := [.int 0, .int 2]) (st := []) (wr := [(a_fouls, .inl (cI, 2, .inl c_fouls)), (a_calls, .inl (cI, 2, .inl c_calls)), (a_side, .inl (cI, 6, .inl c_side)), (a_kind, .inl (cI, 6, .inl c_kind)), (a_near, .inl (cI, 6, .inl c_near)), (a_far, .inl (cI, 6, .inl c_far)), (a_free, .inl (cI, 6, .inl c_free))]) X (k_X5_digits l D cI kA kV a_ a_fouls a_calls a_side a_kind a_near a_far a_free a_letter a_value a_row a_refusals a_image a_ahead a_guard a_worth c_seconds c_lead c_ball c_rebound c_law c_draw c_players c_letters u359 c_inRow c_imaged c_letter c_value 0 2 ha359 (by decide) (by decide)) (cwV 2 X.2.2.2.2.1 gX5_statement_X5_digits rfl rfl rfl (by decide +kernel) ⟨Nat.le_of_ble_eq_true rfl, Nat.le_of_ble_eq_true rfl⟩) 8 rfl rfl [8, 9, 7] [0, 1, 2, 3, 4, 5, 6] rfl rfl rfl rfl (by decide) rfl (Nat.le_of_ble_eq_true rfl) ⟨Nat.le_of_ble_eq_true rfl, Nat.le_of_ble_eq_true rfl⟩ dX5_statement_399 rfl (fun r399 u399 hw399 => ?_)
            refine g_eqs (ws' := [(a_fouls, .inl (cI, 2, .inl c_fouls)), (a_calls, .inl (cI, 2, .inl c_calls)), (a_side, .inl (cI, 6, .inl c_side)), (a_kind, .inl (cI, 6, .inl c_kind)), (a_near, .inl (cI, 6, .inl c_near)), (a_far, .inl (cI, 6, .inl c_far)), (a_free, .inl (cI, 6, .inl c_free)), (a_, .inr (5, [.int c_seconds, .int c_lead, .int c_ball, .ref a_fouls, .ref a_calls, .int c_rebound, .int c_law, .int c_draw, .int c_players, .ref a_side, .ref a_kind, .ref a_near, .ref a_far, .ref a_free, .int c_letters, .ref a_letter, .int u399.1, .ref a_value, .int c_inRow, .ref a_row, .ref a_refusals, .int c_imaged, .ref a_image, .ref a_ahead, .ref a_guard, .ref a_worth])), (a_letter, .inl (cI, 96, .inl c_letter)), (a_value, .inl (cI, 4, .inl u399.2))]) rfl ?_
            have hd399 := fd_digits ha359 (by decide) (by decide) hw399
            have ha399 := hd399.1
            have heq := g_let2 heq hw399
            refine g_if_ne X 407 dX5_statement_402 (by decide) (fun c402 => ?_) (fun c402 => ?_)
            · have heq := heq.trans (if_neg c402)
              refine g_iload_n X 2 rfl rfl dX5_statement_407 ?_
              refine g_if_ne X 413 dX5_statement_408 (by decide) (fun c408 => ?_) (fun c408 => ?_)
              · have heq := heq.trans (if_neg c408)
                refine g_aload_n X 1 rfl rfl dX5_statement_413 ?_
                refine g_get (C := RX5) (T := TX5) (N := 26) (ci := 5) X hi_X5_statement_X5 7 rfl rfl 17 (by decide) (X.2.2.2.2.1 (.fieldLink RX5 34 "NineteenSecondsLeftModel" "value" "[I") (List.mem_of_getElem? (i := 4) rfl)) rfl rfl dX5_statement_414 ?_
                refine g_iconst (v := 0) X (by decide) dX5_statement_417 ?_
                refine g_iald X 9 rfl (g_vinL (by decide)) dX5_statement_418 ?_
                refine g_iconst (v := 1) X (by decide) dX5_statement_419 ?_
                refine g_icmp_gt X 441 dX5_statement_420 (by decide) (fun c420 => ?_) (fun c420 => ?_)
                · have heq := heq.trans (if_pos c420)
                  refine g_iconst (v := 0) X (by decide) dX5_statement_441 ?_
                  exact g_iret X hAA hQQ (c_seconds, c_lead, c_ball, c_rebound, c_law, c_draw, c_players, u399.1, c_fouls, c_calls, c_side, c_kind, c_near, c_far, c_free, u399.2) (heq.symm.trans hXX) [7, 0, 1, 2, 3, 4, 5, 6, 8, 9] rfl rfl hr dX5_statement_442
                · have heq := heq.trans (if_neg c420)
                  refine g_aload_n X 1 rfl rfl dX5_statement_423 ?_
                  refine g_get (C := RX5) (T := TX5) (N := 26) (ci := 5) X hi_X5_statement_X5 7 rfl rfl 17 (by decide) (X.2.2.2.2.1 (.fieldLink RX5 34 "NineteenSecondsLeftModel" "value" "[I") (List.mem_of_getElem? (i := 4) rfl)) rfl rfl dX5_statement_424 ?_
                  refine g_iconst (v := 1) X (by decide) dX5_statement_427 ?_
                  refine g_iald X 9 rfl (g_vinL (by decide)) dX5_statement_428 ?_
                  refine g_iload_n X 0 rfl rfl dX5_statement_429 ?_
                  refine g_if_eq X 437 dX5_statement_430 (by decide) (fun c430 => absurd c430 (by decide)) (fun c430 => ?_)
                  refine g_iconst (v := 5) X (by decide) dX5_statement_433 ?_
                  refine g_goto (tgt := 438) X (by decide) dX5_statement_434 ?_
                  refine g_icmp_le X 443 dX5_statement_438 (by decide) (fun c438 => ?_) (fun c438 => ?_)
                  · have heq := heq.trans (if_pos c438)
                    refine g_iload_n X 0 rfl rfl dX5_statement_443 ?_
                    refine g_if_eq X 467 dX5_statement_444 (by decide) (fun c444 => absurd c444 (by decide)) (fun c444 => ?_)
                    refine g_aload_n X 1 rfl rfl dX5_statement_447 ?_
                    refine g_get (C := RX5) (T := TX5) (N := 26) (ci := 5) X hi_X5_statement_X5 7 rfl rfl 3 (by decide) (X.2.2.2.2.1 (.fieldLink RX5 7 "NineteenSecondsLeftModel" "fouls" "[I") (List.mem_of_getElem? (i := 13) rfl)) rfl rfl dX5_statement_448 ?_
                    refine g_aload_n X 1 rfl rfl dX5_statement_451 ?_
                    refine g_get (C := RX5) (T := TX5) (N := 26) (ci := 5) X hi_X5_statement_X5 7 rfl rfl 17 (by decide) (X.2.2.2.2.1 (.fieldLink RX5 34 "NineteenSecondsLeftModel" "value" "[I") (List.mem_of_getElem? (i := 4) rfl)) rfl rfl dX5_statement_452 ?_
                    refine g_iconst (v := 0) X (by decide) dX5_statement_455 ?_
                    refine g_iald X 9 rfl (g_vinL (by decide)) dX5_statement_456 ?_
                    refine g_aload_n X 1 rfl rfl dX5_statement_457 ?_
                    refine g_get (C := RX5) (T := TX5) (N := 26) (ci := 5) X hi_X5_statement_X5 7 rfl rfl 17 (by decide) (X.2.2.2.2.1 (.fieldLink RX5 34 "NineteenSecondsLeftModel" "value" "[I") (List.mem_of_getElem? (i := 4) rfl)) rfl rfl dX5_statement_458 ?_
                    refine g_iconst (v := 1) X (by decide) dX5_statement_461 ?_
                    refine g_iald X 9 rfl (g_vinL (by decide)) dX5_statement_462 ?_
                    refine g_iast (ws' := [(a_fouls, .inl (cI, 2, .inl (upd c_fouls (u399.2 (0 : Int32).toNatClampNeg).toNatClampNeg (u399.2 (1 : Int32).toNatClampNeg)))), (a_calls, .inl (cI, 2, .inl c_calls)), (a_side, .inl (cI, 6, .inl c_side)), (a_kind, .inl (cI, 6, .inl c_kind)), (a_near, .inl (cI, 6, .inl c_near)), (a_far, .inl (cI, 6, .inl c_far)), (a_free, .inl (cI, 6, .inl c_free)), (a_, .inr (5, [.int c_seconds, .int c_lead, .int c_ball, .ref a_fouls, .ref a_calls, .int c_rebound, .int c_law, .int c_draw, .int c_players, .ref a_side, .ref a_kind, .ref a_near, .ref a_far, .ref a_free, .int c_letters, .ref a_letter, .int u399.1, .ref a_value, .int c_inRow, .ref a_row, .ref a_refusals, .int c_imaged, .ref a_image, .ref a_ahead, .ref a_guard, .ref a_worth])), (a_letter, .inl (cI, 96, .inl c_letter)), (a_value, .inl (cI, 4, .inl u399.2))]) X 0 rfl (g_vin2 (fd_dw hd399.2.2 c402 0 (by decide) (by decide)).1 c420) dX5_statement_463 rfl ?_
                    refine g_goto (tgt := 484) X (by decide) dX5_statement_464 ?_
                    refine g_iconst (v := 1) X (by decide) dX5_statement_484 ?_
                    exact g_iret X hAA hQQ (c_seconds, c_lead, c_ball, c_rebound, c_law, c_draw, c_players, u399.1, upd c_fouls (u399.2 (0 : Int32).toNatClampNeg).toNatClampNeg (u399.2 (1 : Int32).toNatClampNeg), c_calls, c_side, c_kind, c_near, c_far, c_free, u399.2) (heq.symm.trans hXX) [7, 0, 1, 2, 3, 4, 5, 6, 8, 9] rfl rfl hr dX5_statement_485
                  · have heq := heq.trans (if_neg c438)
                    refine g_iconst (v := 0) X (by decide) dX5_statement_441 ?_
                    exact g_iret X hAA hQQ (c_seconds, c_lead, c_ball, c_rebound, c_law, c_draw, c_players, u399.1, c_fouls, c_calls, c_side, c_kind, c_near, c_far, c_free, u399.2) (heq.symm.trans hXX) [7, 0, 1, 2, 3, 4, 5, 6, 8, 9] rfl rfl hr dX5_statement_442
              · have heq := heq.trans (if_pos c408)
                refine g_iconst (v := 1) X (by decide) dX5_statement_411 ?_
                exact g_iret X hAA hQQ (c_seconds, c_lead, c_ball, c_rebound, c_law, c_draw, c_players, u399.1, c_fouls, c_calls, c_side, c_kind, c_near, c_far, c_free, u399.2) (heq.symm.trans hXX) [7, 0, 1, 2, 3, 4, 5, 6, 8, 9] rfl rfl hr dX5_statement_412
            · have heq := heq.trans (if_pos c402)
              refine g_iconst (v := (-1)) X (by decide) dX5_statement_405 ?_
              exact g_iret X hAA hQQ (c_seconds, c_lead, c_ball, c_rebound, c_law, c_draw, c_players, u399.1, c_fouls, c_calls, c_side, c_kind, c_near, c_far, c_free, u399.2) (heq.symm.trans hXX) [7, 0, 1, 2, 3, 4, 5, 6, 8, 9] rfl rfl hr dX5_statement_406
        · have heq := heq.trans (if_pos c362)
          refine g_aload_n X 0 rfl rfl dX5_statement_365 ?_
          refine g_bipush (v := 111) X (by decide) dX5_statement_366 ?_
          refine g_callVi (C := RX5) (T := TX5) (N := 26) (ci := 5) (As := [.int 111]) (st := []) (wr := [(a_fouls, .inl (cI, 2, .inl c_fouls)), (a_calls, .inl (cI, 2, .inl c_calls)), (a_side, .inl (cI, 6, .inl c_side)), (a_kind, .inl (cI, 6, .inl c_kind)), (a_near, .inl (cI, 6, .inl c_near)), (a_far, .inl (cI, 6, .inl c_far)), (a_free, .inl (cI, 6, .inl c_free)), (a_value, .inl (cI, 4, .inl c_value))]) X (k_X5_is l D cI kA kV a_ a_fouls a_calls a_side a_kind a_near a_far a_free a_letter a_value a_row a_refusals a_image a_ahead a_guard a_worth c_seconds c_lead c_ball c_rebound c_law c_draw c_players c_letters u359 c_inRow c_imaged c_letter 111 ha359) (cwV 1 X.2.2.2.2.1 gX5_statement_X5_is rfl rfl rfl (by decide +kernel) ⟨Nat.le_of_ble_eq_true rfl, Nat.le_of_ble_eq_true rfl⟩) 8 rfl rfl [8, 9] [0, 1, 2, 3, 4, 5, 6, 7] rfl rfl rfl rfl (by decide) rfl (Nat.le_of_ble_eq_true rfl) ⟨Nat.le_of_ble_eq_true rfl, Nat.le_of_ble_eq_true rfl⟩ dX5_statement_368 rfl (fun r368 u368 hw368 => ?_)
          refine g_eqs (ws' := [(a_fouls, .inl (cI, 2, .inl c_fouls)), (a_calls, .inl (cI, 2, .inl c_calls)), (a_side, .inl (cI, 6, .inl c_side)), (a_kind, .inl (cI, 6, .inl c_kind)), (a_near, .inl (cI, 6, .inl c_near)), (a_far, .inl (cI, 6, .inl c_far)), (a_free, .inl (cI, 6, .inl c_free)), (a_value, .inl (cI, 4, .inl c_value)), (a_, .inr (5, [.int c_seconds, .int c_lead, .int c_ball, .ref a_fouls, .ref a_calls, .int c_rebound, .int c_law, .int c_draw, .int c_players, .ref a_side, .ref a_kind, .ref a_near, .ref a_far, .ref a_free, .int c_letters, .ref a_letter, .int u368, .ref a_value, .int c_inRow, .ref a_row, .ref a_refusals, .int c_imaged, .ref a_image, .ref a_ahead, .ref a_guard, .ref a_worth])), (a_letter, .inl (cI, 96, .inl c_letter))]) rfl ?_
          have hd368 := fd_is ha359 hw368
          have ha368 := hd368.1
          have heq := g_let2 heq hw368
          refine g_if_eq X 486 dX5_statement_371 (by decide) (fun c371 => ?_) (fun c371 => ?_)
          · have heq := heq.trans (if_pos c371)
            refine g_aload_n X 0 rfl rfl dX5_statement_486 ?_
            refine g_get (C := RX5) (T := TX5) (N := 26) (ci := 5) X hi_X5_statement_X5 8 rfl rfl 16 (by decide) (X.2.2.2.2.1 (.fieldLink RX5 83 "NineteenSecondsLeftModel" "at" "I") (List.mem_of_getElem? (i := 1) rfl)) rfl rfl dX5_statement_487 ?_
            refine g_aload_n X 0 rfl rfl dX5_statement_490 ?_
            refine g_get (C := RX5) (T := TX5) (N := 26) (ci := 5) X hi_X5_statement_X5 8 rfl rfl 14 (by decide) (X.2.2.2.2.1 (.fieldLink RX5 80 "NineteenSecondsLeftModel" "letters" "I") (List.mem_of_getElem? (i := 2) rfl)) rfl rfl dX5_statement_491 ?_
            refine g_icmp_ge X 509 dX5_statement_494 (by decide) (fun c494 => ?_) (fun c494 => ?_)
            · have heq := heq.trans (if_pos c494)
              refine g_iconst (v := 0) X (by decide) dX5_statement_509 ?_
              refine g_istore_n (lv' := [(2, .int 0), (0, .ref a_), (1, .int p1)]) X rfl (by decide) rfl dX5_statement_510 ?_
              refine g_iload_n X 0 rfl rfl dX5_statement_511 ?_
              refine g_bipush (v := 98) X (by decide) dX5_statement_512 ?_
              refine g_icmp_eq X 537 dX5_statement_514 (by decide) (fun c514 => absurd c514 (by decide)) (fun c514 => ?_)
              refine g_iload_n X 0 rfl rfl dX5_statement_517 ?_
              refine g_bipush (v := 114) X (by decide) dX5_statement_518 ?_
              refine g_icmp_eq X 537 dX5_statement_520 (by decide) (fun c520 => absurd c520 (by decide)) (fun c520 => ?_)
              refine g_iload_n X 0 rfl rfl dX5_statement_523 ?_
              refine g_bipush (v := 119) X (by decide) dX5_statement_524 ?_
              refine g_icmp_eq X 537 dX5_statement_526 (by decide) (fun c526 => absurd c526 (by decide)) (fun c526 => ?_)
              refine g_iload_n X 0 rfl rfl dX5_statement_529 ?_
              refine g_bipush (v := 100) X (by decide) dX5_statement_530 ?_
              refine g_icmp_eq X 537 dX5_statement_532 (by decide) (fun c532 => absurd c532 (by decide)) (fun c532 => ?_)
              refine g_iconst (v := (-1)) X (by decide) dX5_statement_535 ?_
              exact g_iret X hAA hQQ (c_seconds, c_lead, c_ball, c_rebound, c_law, c_draw, c_players, u368, c_fouls, c_calls, c_side, c_kind, c_near, c_far, c_free, c_value) (heq.symm.trans hXX) [8, 0, 1, 2, 3, 4, 5, 6, 9, 7] rfl rfl hr dX5_statement_536
            · have heq := heq.trans (if_neg c494)
              refine g_aload_n X 0 rfl rfl dX5_statement_497 ?_
              refine g_get (C := RX5) (T := TX5) (N := 26) (ci := 5) X hi_X5_statement_X5 8 rfl rfl 15 (by decide) (X.2.2.2.2.1 (.fieldLink RX5 31 "NineteenSecondsLeftModel" "letter" "[I") (List.mem_of_getElem? (i := 3) rfl)) rfl rfl dX5_statement_498 ?_
              refine g_aload_n X 0 rfl rfl dX5_statement_501 ?_
              refine g_get (C := RX5) (T := TX5) (N := 26) (ci := 5) X hi_X5_statement_X5 8 rfl rfl 16 (by decide) (X.2.2.2.2.1 (.fieldLink RX5 83 "NineteenSecondsLeftModel" "at" "I") (List.mem_of_getElem? (i := 1) rfl)) rfl rfl dX5_statement_502 ?_
              refine g_iald X 9 rfl (ha368.vinl c494) dX5_statement_505 ?_
              refine g_goto (tgt := 510) X (by decide) dX5_statement_506 ?_
              refine g_istore_n (lv' := [(2, .int (c_letter u368.toNatClampNeg)), (0, .ref a_), (1, .int p1)]) X rfl (by decide) rfl dX5_statement_510 ?_
              refine g_iload_n X 0 rfl rfl dX5_statement_511 ?_
              refine g_bipush (v := 98) X (by decide) dX5_statement_512 ?_
              refine g_icmp_eq X 537 dX5_statement_514 (by decide) (fun c514 => ?_) (fun c514 => ?_)
              · have heq := heq.trans (if_pos c514)
                refine g_aload_n X 1 rfl rfl dX5_statement_537 ?_
                refine g_dup X rfl dX5_statement_538 ?_
                refine g_get (C := RX5) (T := TX5) (N := 26) (ci := 5) X hi_X5_statement_X5 8 rfl rfl 16 (by decide) (X.2.2.2.2.1 (.fieldLink RX5 83 "NineteenSecondsLeftModel" "at" "I") (List.mem_of_getElem? (i := 1) rfl)) rfl rfl dX5_statement_539 ?_
                refine g_iconst (v := 1) X (by decide) dX5_statement_542 ?_
                refine g_iadd X dX5_statement_543 ?_
                refine g_put (C := RX5) (T := TX5) (N := 26) (ci := 5) (ws' := [(a_fouls, .inl (cI, 2, .inl c_fouls)), (a_calls, .inl (cI, 2, .inl c_calls)), (a_side, .inl (cI, 6, .inl c_side)), (a_kind, .inl (cI, 6, .inl c_kind)), (a_near, .inl (cI, 6, .inl c_near)), (a_far, .inl (cI, 6, .inl c_far)), (a_free, .inl (cI, 6, .inl c_free)), (a_value, .inl (cI, 4, .inl c_value)), (a_, .inr (5, [.int c_seconds, .int c_lead, .int c_ball, .ref a_fouls, .ref a_calls, .int c_rebound, .int c_law, .int c_draw, .int c_players, .ref a_side, .ref a_kind, .ref a_near, .ref a_far, .ref a_free, .int c_letters, .ref a_letter, .int (u368 + 1), .ref a_value, .int c_inRow, .ref a_row, .ref a_refusals, .int c_imaged, .ref a_image, .ref a_ahead, .ref a_guard, .ref a_worth])), (a_letter, .inl (cI, 96, .inl c_letter))]) X hi_X5_statement_X5 tyX5 tyX5_ok nmX5 8 rfl rfl 16 (by decide) (X.2.2.2.2.1 (.fieldLink RX5 83 "NineteenSecondsLeftModel" "at" "I") (List.mem_of_getElem? (i := 1) rfl)) rfl rfl rfl rfl (Nat.le_of_ble_eq_true rfl) dX5_statement_544 rfl ?_
                refine g_aload_n X 1 rfl rfl dX5_statement_547 ?_
                refine g_iconst (v := 0) X (by decide) dX5_statement_548 ?_
                refine g_iconst (v := 1) X (by decide) dX5_statement_549 ?_
                refine g_callVi (C := RX5) (T := TX5) (N := 26) (ci := 5) (As := [.int 0, .int 1]) (st := []) (wr := [(a_fouls, .inl (cI, 2, .inl c_fouls)), (a_calls, .inl (cI, 2, .inl c_calls)), (a_side, .inl (cI, 6, .inl c_side)), (a_kind, .inl (cI, 6, .inl c_kind)), (a_near, .inl (cI, 6, .inl c_near)), (a_far, .inl (cI, 6, .inl c_far)), (a_free, .inl (cI, 6, .inl c_free))]) X (k_X5_digits l D cI kA kV a_ a_fouls a_calls a_side a_kind a_near a_far a_free a_letter a_value a_row a_refusals a_image a_ahead a_guard a_worth c_seconds c_lead c_ball c_rebound c_law c_draw c_players c_letters (u368 + 1) c_inRow c_imaged c_letter c_value 0 1 (ha368.succ c494) (by decide) (by decide)) (cwV 2 X.2.2.2.2.1 gX5_statement_X5_digits rfl rfl rfl (by decide +kernel) ⟨Nat.le_of_ble_eq_true rfl, Nat.le_of_ble_eq_true rfl⟩) 8 rfl rfl [8, 9, 7] [0, 1, 2, 3, 4, 5, 6] rfl rfl rfl rfl (by decide) rfl (Nat.le_of_ble_eq_true rfl) ⟨Nat.le_of_ble_eq_true rfl, Nat.le_of_ble_eq_true rfl⟩ dX5_statement_550 rfl (fun r550 u550 hw550 => ?_)
                refine g_eqs (ws' := [(a_fouls, .inl (cI, 2, .inl c_fouls)), (a_calls, .inl (cI, 2, .inl c_calls)), (a_side, .inl (cI, 6, .inl c_side)), (a_kind, .inl (cI, 6, .inl c_kind)), (a_near, .inl (cI, 6, .inl c_near)), (a_far, .inl (cI, 6, .inl c_far)), (a_free, .inl (cI, 6, .inl c_free)), (a_, .inr (5, [.int c_seconds, .int c_lead, .int c_ball, .ref a_fouls, .ref a_calls, .int c_rebound, .int c_law, .int c_draw, .int c_players, .ref a_side, .ref a_kind, .ref a_near, .ref a_far, .ref a_free, .int c_letters, .ref a_letter, .int u550.1, .ref a_value, .int c_inRow, .ref a_row, .ref a_refusals, .int c_imaged, .ref a_image, .ref a_ahead, .ref a_guard, .ref a_worth])), (a_letter, .inl (cI, 96, .inl c_letter)), (a_value, .inl (cI, 4, .inl u550.2))]) rfl ?_
                have hd550 := fd_digits (ha368.succ c494) (by decide) (by decide) hw550
                have ha550 := hd550.1
                have heq := g_let2 heq hw550
                refine g_if_ne X 558 dX5_statement_553 (by decide) (fun c553 => ?_) (fun c553 => ?_)
                · have heq := heq.trans (if_neg c553)
                  refine g_iload_n X 2 rfl rfl dX5_statement_558 ?_
                  refine g_if_ne X 564 dX5_statement_559 (by decide) (fun c559 => ?_) (fun c559 => ?_)
                  · have heq := heq.trans (if_neg c559)
                    refine g_aload_n X 1 rfl rfl dX5_statement_564 ?_
                    refine g_get (C := RX5) (T := TX5) (N := 26) (ci := 5) X hi_X5_statement_X5 7 rfl rfl 17 (by decide) (X.2.2.2.2.1 (.fieldLink RX5 34 "NineteenSecondsLeftModel" "value" "[I") (List.mem_of_getElem? (i := 4) rfl)) rfl rfl dX5_statement_565 ?_
                    refine g_iconst (v := 0) X (by decide) dX5_statement_568 ?_
                    refine g_iald X 9 rfl (g_vinL (by decide)) dX5_statement_569 ?_
                    refine g_iload_n X 0 rfl rfl dX5_statement_570 ?_
                    refine g_bipush (v := 98) X (by decide) dX5_statement_571 ?_
                    refine g_icmp_ne X 580 dX5_statement_573 (by decide) (fun c573 => absurd c514 c573) (fun c573 => ?_)
                    refine g_iconst (v := 1) X (by decide) dX5_statement_576 ?_
                    refine g_goto (tgt := 592) X (by decide) dX5_statement_577 ?_
                    refine g_icmp_le X 597 dX5_statement_592 (by decide) (fun c592 => ?_) (fun c592 => ?_)
                    · have heq := heq.trans (if_pos c592)
                      refine g_iload_n X 0 rfl rfl dX5_statement_597 ?_
                      refine g_bipush (v := 98) X (by decide) dX5_statement_598 ?_
                      refine g_icmp_ne X 613 dX5_statement_600 (by decide) (fun c600 => absurd c514 c600) (fun c600 => ?_)
                      refine g_aload_n X 1 rfl rfl dX5_statement_603 ?_
                      refine g_aload_n X 1 rfl rfl dX5_statement_604 ?_
                      refine g_get (C := RX5) (T := TX5) (N := 26) (ci := 5) X hi_X5_statement_X5 7 rfl rfl 17 (by decide) (X.2.2.2.2.1 (.fieldLink RX5 34 "NineteenSecondsLeftModel" "value" "[I") (List.mem_of_getElem? (i := 4) rfl)) rfl rfl dX5_statement_605 ?_
                      refine g_iconst (v := 0) X (by decide) dX5_statement_608 ?_
                      refine g_iald X 9 rfl (g_vinL (by decide)) dX5_statement_609 ?_
                      refine g_put (C := RX5) (T := TX5) (N := 26) (ci := 5) (ws' := [(a_fouls, .inl (cI, 2, .inl c_fouls)), (a_calls, .inl (cI, 2, .inl c_calls)), (a_side, .inl (cI, 6, .inl c_side)), (a_kind, .inl (cI, 6, .inl c_kind)), (a_near, .inl (cI, 6, .inl c_near)), (a_far, .inl (cI, 6, .inl c_far)), (a_free, .inl (cI, 6, .inl c_free)), (a_, .inr (5, [.int c_seconds, .int c_lead, .int (u550.2 (0 : Int32).toNatClampNeg), .ref a_fouls, .ref a_calls, .int c_rebound, .int c_law, .int c_draw, .int c_players, .ref a_side, .ref a_kind, .ref a_near, .ref a_far, .ref a_free, .int c_letters, .ref a_letter, .int u550.1, .ref a_value, .int c_inRow, .ref a_row, .ref a_refusals, .int c_imaged, .ref a_image, .ref a_ahead, .ref a_guard, .ref a_worth])), (a_letter, .inl (cI, 96, .inl c_letter)), (a_value, .inl (cI, 4, .inl u550.2))]) X hi_X5_statement_X5 tyX5 tyX5_ok nmX5 7 rfl rfl 2 (by decide) (X.2.2.2.2.1 (.fieldLink RX5 101 "NineteenSecondsLeftModel" "ball" "I") (List.mem_of_getElem? (i := 15) rfl)) rfl rfl rfl rfl (Nat.le_of_ble_eq_true rfl) dX5_statement_610 rfl ?_
                      refine g_iload_n X 0 rfl rfl dX5_statement_613 ?_
                      refine g_bipush (v := 114) X (by decide) dX5_statement_614 ?_
                      refine g_icmp_ne X 629 dX5_statement_616 (by decide) (fun c616 => ?_) (fun c616 => absurd (c514.symm.trans c616) (by decide))
                      refine g_iload_n X 0 rfl rfl dX5_statement_629 ?_
                      refine g_bipush (v := 119) X (by decide) dX5_statement_630 ?_
                      refine g_icmp_ne X 645 dX5_statement_632 (by decide) (fun c632 => ?_) (fun c632 => absurd (c514.symm.trans c632) (by decide))
                      refine g_iload_n X 0 rfl rfl dX5_statement_645 ?_
                      refine g_bipush (v := 100) X (by decide) dX5_statement_646 ?_
                      refine g_icmp_ne X 661 dX5_statement_648 (by decide) (fun c648 => ?_) (fun c648 => absurd (c514.symm.trans c648) (by decide))
                      refine g_iconst (v := 1) X (by decide) dX5_statement_661 ?_
                      exact g_iret X hAA hQQ (c_seconds, c_lead, (u550.2 (0 : Int32).toNatClampNeg), c_rebound, c_law, c_draw, c_players, u550.1, c_fouls, c_calls, c_side, c_kind, c_near, c_far, c_free, u550.2) (heq.symm.trans hXX) [7, 0, 1, 2, 3, 4, 5, 6, 8, 9] rfl rfl hr dX5_statement_662
                    · have heq := heq.trans (if_neg c592)
                      refine g_iconst (v := 0) X (by decide) dX5_statement_595 ?_
                      exact g_iret X hAA hQQ (c_seconds, c_lead, c_ball, c_rebound, c_law, c_draw, c_players, u550.1, c_fouls, c_calls, c_side, c_kind, c_near, c_far, c_free, u550.2) (heq.symm.trans hXX) [7, 0, 1, 2, 3, 4, 5, 6, 8, 9] rfl rfl hr dX5_statement_596
                  · have heq := heq.trans (if_pos c559)
                    refine g_iconst (v := 1) X (by decide) dX5_statement_562 ?_
                    exact g_iret X hAA hQQ (c_seconds, c_lead, c_ball, c_rebound, c_law, c_draw, c_players, u550.1, c_fouls, c_calls, c_side, c_kind, c_near, c_far, c_free, u550.2) (heq.symm.trans hXX) [7, 0, 1, 2, 3, 4, 5, 6, 8, 9] rfl rfl hr dX5_statement_563
                · have heq := heq.trans (if_pos c553)
                  refine g_iconst (v := (-1)) X (by decide) dX5_statement_556 ?_
                  exact g_iret X hAA hQQ (c_seconds, c_lead, c_ball, c_rebound, c_law, c_draw, c_players, u550.1, c_fouls, c_calls, c_side, c_kind, c_near, c_far, c_free, u550.2) (heq.symm.trans hXX) [7, 0, 1, 2, 3, 4, 5, 6, 8, 9] rfl rfl hr dX5_statement_557
              · have heq := heq.trans (if_neg c514)
                refine g_iload_n X 0 rfl rfl dX5_statement_517 ?_
                refine g_bipush (v := 114) X (by decide) dX5_statement_518 ?_
                refine g_icmp_eq X 537 dX5_statement_520 (by decide) (fun c520 => ?_) (fun c520 => ?_)
                · have heq := heq.trans (if_pos c520)
                  refine g_aload_n X 1 rfl rfl dX5_statement_537 ?_
                  refine g_dup X rfl dX5_statement_538 ?_
                  refine g_get (C := RX5) (T := TX5) (N := 26) (ci := 5) X hi_X5_statement_X5 8 rfl rfl 16 (by decide) (X.2.2.2.2.1 (.fieldLink RX5 83 "NineteenSecondsLeftModel" "at" "I") (List.mem_of_getElem? (i := 1) rfl)) rfl rfl dX5_statement_539 ?_
                  refine g_iconst (v := 1) X (by decide) dX5_statement_542 ?_
                  refine g_iadd X dX5_statement_543 ?_
                  refine g_put (C := RX5) (T := TX5) (N := 26) (ci := 5) (ws' := [(a_fouls, .inl (cI, 2, .inl c_fouls)), (a_calls, .inl (cI, 2, .inl c_calls)), (a_side, .inl (cI, 6, .inl c_side)), (a_kind, .inl (cI, 6, .inl c_kind)), (a_near, .inl (cI, 6, .inl c_near)), (a_far, .inl (cI, 6, .inl c_far)), (a_free, .inl (cI, 6, .inl c_free)), (a_value, .inl (cI, 4, .inl c_value)), (a_, .inr (5, [.int c_seconds, .int c_lead, .int c_ball, .ref a_fouls, .ref a_calls, .int c_rebound, .int c_law, .int c_draw, .int c_players, .ref a_side, .ref a_kind, .ref a_near, .ref a_far, .ref a_free, .int c_letters, .ref a_letter, .int (u368 + 1), .ref a_value, .int c_inRow, .ref a_row, .ref a_refusals, .int c_imaged, .ref a_image, .ref a_ahead, .ref a_guard, .ref a_worth])), (a_letter, .inl (cI, 96, .inl c_letter))]) X hi_X5_statement_X5 tyX5 tyX5_ok nmX5 8 rfl rfl 16 (by decide) (X.2.2.2.2.1 (.fieldLink RX5 83 "NineteenSecondsLeftModel" "at" "I") (List.mem_of_getElem? (i := 1) rfl)) rfl rfl rfl rfl (Nat.le_of_ble_eq_true rfl) dX5_statement_544 rfl ?_
                  refine g_aload_n X 1 rfl rfl dX5_statement_547 ?_
                  refine g_iconst (v := 0) X (by decide) dX5_statement_548 ?_
                  refine g_iconst (v := 1) X (by decide) dX5_statement_549 ?_
                  refine g_callVi (C := RX5) (T := TX5) (N := 26) (ci := 5) (As := [.int 0, .int 1]) (st := []) (wr := [(a_fouls, .inl (cI, 2, .inl c_fouls)), (a_calls, .inl (cI, 2, .inl c_calls)), (a_side, .inl (cI, 6, .inl c_side)), (a_kind, .inl (cI, 6, .inl c_kind)), (a_near, .inl (cI, 6, .inl c_near)), (a_far, .inl (cI, 6, .inl c_far)), (a_free, .inl (cI, 6, .inl c_free))]) X (k_X5_digits l D cI kA kV a_ a_fouls a_calls a_side a_kind a_near a_far a_free a_letter a_value a_row a_refusals a_image a_ahead a_guard a_worth c_seconds c_lead c_ball c_rebound c_law c_draw c_players c_letters (u368 + 1) c_inRow c_imaged c_letter c_value 0 1 (ha368.succ c494) (by decide) (by decide)) (cwV 2 X.2.2.2.2.1 gX5_statement_X5_digits rfl rfl rfl (by decide +kernel) ⟨Nat.le_of_ble_eq_true rfl, Nat.le_of_ble_eq_true rfl⟩) 8 rfl rfl [8, 9, 7] [0, 1, 2, 3, 4, 5, 6] rfl rfl rfl rfl (by decide) rfl (Nat.le_of_ble_eq_true rfl) ⟨Nat.le_of_ble_eq_true rfl, Nat.le_of_ble_eq_true rfl⟩ dX5_statement_550 rfl (fun r550 u550 hw550 => ?_)
                  refine g_eqs (ws' := [(a_fouls, .inl (cI, 2, .inl c_fouls)), (a_calls, .inl (cI, 2, .inl c_calls)), (a_side, .inl (cI, 6, .inl c_side)), (a_kind, .inl (cI, 6, .inl c_kind)), (a_near, .inl (cI, 6, .inl c_near)), (a_far, .inl (cI, 6, .inl c_far)), (a_free, .inl (cI, 6, .inl c_free)), (a_, .inr (5, [.int c_seconds, .int c_lead, .int c_ball, .ref a_fouls, .ref a_calls, .int c_rebound, .int c_law, .int c_draw, .int c_players, .ref a_side, .ref a_kind, .ref a_near, .ref a_far, .ref a_free, .int c_letters, .ref a_letter, .int u550.1, .ref a_value, .int c_inRow, .ref a_row, .ref a_refusals, .int c_imaged, .ref a_image, .ref a_ahead, .ref a_guard, .ref a_worth])), (a_letter, .inl (cI, 96, .inl c_letter)), (a_value, .inl (cI, 4, .inl u550.2))]) rfl ?_
                  have hd550 := fd_digits (ha368.succ c494) (by decide) (by decide) hw550
                  have ha550 := hd550.1
                  have heq := g_let2 heq hw550
                  refine g_if_ne X 558 dX5_statement_553 (by decide) (fun c553 => ?_) (fun c553 => ?_)
                  · have heq := heq.trans (if_neg c553)
                    refine g_iload_n X 2 rfl rfl dX5_statement_558 ?_
                    refine g_if_ne X 564 dX5_statement_559 (by decide) (fun c559 => ?_) (fun c559 => ?_)
                    · have heq := heq.trans (if_neg c559)
                      refine g_aload_n X 1 rfl rfl dX5_statement_564 ?_
                      refine g_get (C := RX5) (T := TX5) (N := 26) (ci := 5) X hi_X5_statement_X5 7 rfl rfl 17 (by decide) (X.2.2.2.2.1 (.fieldLink RX5 34 "NineteenSecondsLeftModel" "value" "[I") (List.mem_of_getElem? (i := 4) rfl)) rfl rfl dX5_statement_565 ?_
                      refine g_iconst (v := 0) X (by decide) dX5_statement_568 ?_
                      refine g_iald X 9 rfl (g_vinL (by decide)) dX5_statement_569 ?_
                      refine g_iload_n X 0 rfl rfl dX5_statement_570 ?_
                      refine g_bipush (v := 98) X (by decide) dX5_statement_571 ?_
                      refine g_icmp_ne X 580 dX5_statement_573 (by decide) (fun c573 => ?_) (fun c573 => absurd c573 c514)
                      refine g_iload_n X 0 rfl rfl dX5_statement_580 ?_
                      refine g_bipush (v := 119) X (by decide) dX5_statement_581 ?_
                      refine g_icmp_ne X 590 dX5_statement_583 (by decide) (fun c583 => ?_) (fun c583 => absurd (c520.symm.trans c583) (by decide))
                      refine g_bipush (v := 9) X (by decide) dX5_statement_590 ?_
                      refine g_icmp_le X 597 dX5_statement_592 (by decide) (fun c592 => ?_) (fun c592 => ?_)
                      · have heq := heq.trans (if_pos c592)
                        refine g_iload_n X 0 rfl rfl dX5_statement_597 ?_
                        refine g_bipush (v := 98) X (by decide) dX5_statement_598 ?_
                        refine g_icmp_ne X 613 dX5_statement_600 (by decide) (fun c600 => ?_) (fun c600 => absurd c600 c514)
                        refine g_iload_n X 0 rfl rfl dX5_statement_613 ?_
                        refine g_bipush (v := 114) X (by decide) dX5_statement_614 ?_
                        refine g_icmp_ne X 629 dX5_statement_616 (by decide) (fun c616 => absurd c520 c616) (fun c616 => ?_)
                        refine g_aload_n X 1 rfl rfl dX5_statement_619 ?_
                        refine g_aload_n X 1 rfl rfl dX5_statement_620 ?_
                        refine g_get (C := RX5) (T := TX5) (N := 26) (ci := 5) X hi_X5_statement_X5 7 rfl rfl 17 (by decide) (X.2.2.2.2.1 (.fieldLink RX5 34 "NineteenSecondsLeftModel" "value" "[I") (List.mem_of_getElem? (i := 4) rfl)) rfl rfl dX5_statement_621 ?_
                        refine g_iconst (v := 0) X (by decide) dX5_statement_624 ?_
                        refine g_iald X 9 rfl (g_vinL (by decide)) dX5_statement_625 ?_
                        refine g_put (C := RX5) (T := TX5) (N := 26) (ci := 5) (ws' := [(a_fouls, .inl (cI, 2, .inl c_fouls)), (a_calls, .inl (cI, 2, .inl c_calls)), (a_side, .inl (cI, 6, .inl c_side)), (a_kind, .inl (cI, 6, .inl c_kind)), (a_near, .inl (cI, 6, .inl c_near)), (a_far, .inl (cI, 6, .inl c_far)), (a_free, .inl (cI, 6, .inl c_free)), (a_, .inr (5, [.int c_seconds, .int c_lead, .int c_ball, .ref a_fouls, .ref a_calls, .int (u550.2 (0 : Int32).toNatClampNeg), .int c_law, .int c_draw, .int c_players, .ref a_side, .ref a_kind, .ref a_near, .ref a_far, .ref a_free, .int c_letters, .ref a_letter, .int u550.1, .ref a_value, .int c_inRow, .ref a_row, .ref a_refusals, .int c_imaged, .ref a_image, .ref a_ahead, .ref a_guard, .ref a_worth])), (a_letter, .inl (cI, 96, .inl c_letter)), (a_value, .inl (cI, 4, .inl u550.2))]) X hi_X5_statement_X5 tyX5 tyX5_ok nmX5 7 rfl rfl 5 (by decide) (X.2.2.2.2.1 (.fieldLink RX5 62 "NineteenSecondsLeftModel" "rebound" "I") (List.mem_of_getElem? (i := 16) rfl)) rfl rfl rfl rfl (Nat.le_of_ble_eq_true rfl) dX5_statement_626 rfl ?_
                        refine g_iload_n X 0 rfl rfl dX5_statement_629 ?_
                        refine g_bipush (v := 119) X (by decide) dX5_statement_630 ?_
                        refine g_icmp_ne X 645 dX5_statement_632 (by decide) (fun c632 => ?_) (fun c632 => absurd (c520.symm.trans c632) (by decide))
                        refine g_iload_n X 0 rfl rfl dX5_statement_645 ?_
                        refine g_bipush (v := 100) X (by decide) dX5_statement_646 ?_
                        refine g_icmp_ne X 661 dX5_statement_648 (by decide) (fun c648 => ?_) (fun c648 => absurd (c520.symm.trans c648) (by decide))
                        refine g_iconst (v := 1) X (by decide) dX5_statement_661 ?_
                        exact g_iret X hAA hQQ (c_seconds, c_lead, c_ball, (u550.2 (0 : Int32).toNatClampNeg), c_law, c_draw, c_players, u550.1, c_fouls, c_calls, c_side, c_kind, c_near, c_far, c_free, u550.2) (heq.symm.trans hXX) [7, 0, 1, 2, 3, 4, 5, 6, 8, 9] rfl rfl hr dX5_statement_662
                      · have heq := heq.trans (if_neg c592)
                        refine g_iconst (v := 0) X (by decide) dX5_statement_595 ?_
                        exact g_iret X hAA hQQ (c_seconds, c_lead, c_ball, c_rebound, c_law, c_draw, c_players, u550.1, c_fouls, c_calls, c_side, c_kind, c_near, c_far, c_free, u550.2) (heq.symm.trans hXX) [7, 0, 1, 2, 3, 4, 5, 6, 8, 9] rfl rfl hr dX5_statement_596
                    · have heq := heq.trans (if_pos c559)
                      refine g_iconst (v := 1) X (by decide) dX5_statement_562 ?_
                      exact g_iret X hAA hQQ (c_seconds, c_lead, c_ball, c_rebound, c_law, c_draw, c_players, u550.1, c_fouls, c_calls, c_side, c_kind, c_near, c_far, c_free, u550.2) (heq.symm.trans hXX) [7, 0, 1, 2, 3, 4, 5, 6, 8, 9] rfl rfl hr dX5_statement_563
                  · have heq := heq.trans (if_pos c553)
                    refine g_iconst (v := (-1)) X (by decide) dX5_statement_556 ?_
                    exact g_iret X hAA hQQ (c_seconds, c_lead, c_ball, c_rebound, c_law, c_draw, c_players, u550.1, c_fouls, c_calls, c_side, c_kind, c_near, c_far, c_free, u550.2) (heq.symm.trans hXX) [7, 0, 1, 2, 3, 4, 5, 6, 8, 9] rfl rfl hr dX5_statement_557
                · have heq := heq.trans (if_neg c520)
                  refine g_iload_n X 0 rfl rfl dX5_statement_523 ?_
                  refine g_bipush (v := 119) X (by decide) dX5_statement_524 ?_
                  refine g_icmp_eq X 537 dX5_statement_526 (by decide) (fun c526 => ?_) (fun c526 => ?_)
                  · have heq := heq.trans (if_pos c526)
                    refine g_aload_n X 1 rfl rfl dX5_statement_537 ?_
                    refine g_dup X rfl dX5_statement_538 ?_
                    refine g_get (C := RX5) (T := TX5) (N := 26) (ci := 5) X hi_X5_statement_X5 8 rfl rfl 16 (by decide) (X.2.2.2.2.1 (.fieldLink RX5 83 "NineteenSecondsLeftModel" "at" "I") (List.mem_of_getElem? (i := 1) rfl)) rfl rfl dX5_statement_539 ?_
                    refine g_iconst (v := 1) X (by decide) dX5_statement_542 ?_
                    refine g_iadd X dX5_statement_543 ?_
                    refine g_put (C := RX5) (T := TX5) (N := 26) (ci := 5) (ws' := [(a_fouls, .inl (cI, 2, .inl c_fouls)), (a_calls, .inl (cI, 2, .inl c_calls)), (a_side, .inl (cI, 6, .inl c_side)), (a_kind, .inl (cI, 6, .inl c_kind)), (a_near, .inl (cI, 6, .inl c_near)), (a_far, .inl (cI, 6, .inl c_far)), (a_free, .inl (cI, 6, .inl c_free)), (a_value, .inl (cI, 4, .inl c_value)), (a_, .inr (5, [.int c_seconds, .int c_lead, .int c_ball, .ref a_fouls, .ref a_calls, .int c_rebound, .int c_law, .int c_draw, .int c_players, .ref a_side, .ref a_kind, .ref a_near, .ref a_far, .ref a_free, .int c_letters, .ref a_letter, .int (u368 + 1), .ref a_value, .int c_inRow, .ref a_row, .ref a_refusals, .int c_imaged, .ref a_image, .ref a_ahead, .ref a_guard, .ref a_worth])), (a_letter, .inl (cI, 96, .inl c_letter))]) X hi_X5_statement_X5 tyX5 tyX5_ok nmX5 8 rfl rfl 16 (by decide) (X.2.2.2.2.1 (.fieldLink RX5 83 "NineteenSecondsLeftModel" "at" "I") (List.mem_of_getElem? (i := 1) rfl)) rfl rfl rfl rfl (Nat.le_of_ble_eq_true rfl) dX5_statement_544 rfl ?_
                    refine g_aload_n X 1 rfl rfl dX5_statement_547 ?_
                    refine g_iconst (v := 0) X (by decide) dX5_statement_548 ?_
                    refine g_iconst (v := 1) X (by decide) dX5_statement_549 ?_
                    refine g_callVi (C := RX5) (T := TX5) (N := 26) (ci := 5) (As := [.int 0, .int 1]) (st := []) (wr := [(a_fouls, .inl (cI, 2, .inl c_fouls)), (a_calls, .inl (cI, 2, .inl c_calls)), (a_side, .inl (cI, 6, .inl c_side)), (a_kind, .inl (cI, 6, .inl c_kind)), (a_near, .inl (cI, 6, .inl c_near)), (a_far, .inl (cI, 6, .inl c_far)), (a_free, .inl (cI, 6, .inl c_free))]) X (k_X5_digits l D cI kA kV a_ a_fouls a_calls a_side a_kind a_near a_far a_free a_letter a_value a_row a_refusals a_image a_ahead a_guard a_worth c_seconds c_lead c_ball c_rebound c_law c_draw c_players c_letters (u368 + 1) c_inRow c_imaged c_letter c_value 0 1 (ha368.succ c494) (by decide) (by decide)) (cwV 2 X.2.2.2.2.1 gX5_statement_X5_digits rfl rfl rfl (by decide +kernel) ⟨Nat.le_of_ble_eq_true rfl, Nat.le_of_ble_eq_true rfl⟩) 8 rfl rfl [8, 9, 7] [0, 1, 2, 3, 4, 5, 6] rfl rfl rfl rfl (by decide) rfl (Nat.le_of_ble_eq_true rfl) ⟨Nat.le_of_ble_eq_true rfl, Nat.le_of_ble_eq_true rfl⟩ dX5_statement_550 rfl (fun r550 u550 hw550 => ?_)
                    refine g_eqs (ws' := [(a_fouls, .inl (cI, 2, .inl c_fouls)), (a_calls, .inl (cI, 2, .inl c_calls)), (a_side, .inl (cI, 6, .inl c_side)), (a_kind, .inl (cI, 6, .inl c_kind)), (a_near, .inl (cI, 6, .inl c_near)), (a_far, .inl (cI, 6, .inl c_far)), (a_free, .inl (cI, 6, .inl c_free)), (a_, .inr (5, [.int c_seconds, .int c_lead, .int c_ball, .ref a_fouls, .ref a_calls, .int c_rebound, .int c_law, .int c_draw, .int c_players, .ref a_side, .ref a_kind, .ref a_near, .ref a_far, .ref a_free, .int c_letters, .ref a_letter, .int u550.1, .ref a_value, .int c_inRow, .ref a_row, .ref a_refusals, .int c_imaged, .ref a_image, .ref a_ahead, .ref a_guard, .ref a_worth])), (a_letter, .inl (cI, 96, .inl c_letter)), (a_value, .inl (cI, 4, .inl u550.2))]) rfl ?_
                    have hd550 := fd_digits (ha368.succ c494) (by decide) (by decide) hw550
                    have ha550 := hd550.1
                    have heq := g_let2 heq hw550
                    refine g_if_ne X 558 dX5_statement_553 (by decide) (fun c553 => ?_) (fun c553 => ?_)
                    · have heq := heq.trans (if_neg c553)
                      refine g_iload_n X 2 rfl rfl dX5_statement_558 ?_
                      refine g_if_ne X 564 dX5_statement_559 (by decide) (fun c559 => ?_) (fun c559 => ?_)
                      · have heq := heq.trans (if_neg c559)
                        refine g_aload_n X 1 rfl rfl dX5_statement_564 ?_
                        refine g_get (C := RX5) (T := TX5) (N := 26) (ci := 5) X hi_X5_statement_X5 7 rfl rfl 17 (by decide) (X.2.2.2.2.1 (.fieldLink RX5 34 "NineteenSecondsLeftModel" "value" "[I") (List.mem_of_getElem? (i := 4) rfl)) rfl rfl dX5_statement_565 ?_
                        refine g_iconst (v := 0) X (by decide) dX5_statement_568 ?_
                        refine g_iald X 9 rfl (g_vinL (by decide)) dX5_statement_569 ?_
                        refine g_iload_n X 0 rfl rfl dX5_statement_570 ?_
                        refine g_bipush (v := 98) X (by decide) dX5_statement_571 ?_
                        refine g_icmp_ne X 580 dX5_statement_573 (by decide) (fun c573 => ?_) (fun c573 => absurd c573 c514)
                        refine g_iload_n X 0 rfl rfl dX5_statement_580 ?_
                        refine g_bipush (v := 119) X (by decide) dX5_statement_581 ?_
                        refine g_icmp_ne X 590 dX5_statement_583 (by decide) (fun c583 => absurd c526 c583) (fun c583 => ?_)
                        refine g_iconst (v := 3) X (by decide) dX5_statement_586 ?_
                        refine g_goto (tgt := 592) X (by decide) dX5_statement_587 ?_
                        refine g_icmp_le X 597 dX5_statement_592 (by decide) (fun c592 => ?_) (fun c592 => ?_)
                        · have heq := heq.trans (if_pos c592)
                          refine g_iload_n X 0 rfl rfl dX5_statement_597 ?_
                          refine g_bipush (v := 98) X (by decide) dX5_statement_598 ?_
                          refine g_icmp_ne X 613 dX5_statement_600 (by decide) (fun c600 => ?_) (fun c600 => absurd c600 c514)
                          refine g_iload_n X 0 rfl rfl dX5_statement_613 ?_
                          refine g_bipush (v := 114) X (by decide) dX5_statement_614 ?_
                          refine g_icmp_ne X 629 dX5_statement_616 (by decide) (fun c616 => ?_) (fun c616 => absurd c616 c520)
                          refine g_iload_n X 0 rfl rfl dX5_statement_629 ?_
                          refine g_bipush (v := 119) X (by decide) dX5_statement_630 ?_
                          refine g_icmp_ne X 645 dX5_statement_632 (by decide) (fun c632 => absurd c526 c632) (fun c632 => ?_)
                          refine g_aload_n X 1 rfl rfl dX5_statement_635 ?_
                          refine g_aload_n X 1 rfl rfl dX5_statement_636 ?_
                          refine g_get (C := RX5) (T := TX5) (N := 26) (ci := 5) X hi_X5_statement_X5 7 rfl rfl 17 (by decide) (X.2.2.2.2.1 (.fieldLink RX5 34 "NineteenSecondsLeftModel" "value" "[I") (List.mem_of_getElem? (i := 4) rfl)) rfl rfl dX5_statement_637 ?_
                          refine g_iconst (v := 0) X (by decide) dX5_statement_640 ?_
                          refine g_iald X 9 rfl (g_vinL (by decide)) dX5_statement_641 ?_
                          refine g_put (C := RX5) (T := TX5) (N := 26) (ci := 5) (ws' := [(a_fouls, .inl (cI, 2, .inl c_fouls)), (a_calls, .inl (cI, 2, .inl c_calls)), (a_side, .inl (cI, 6, .inl c_side)), (a_kind, .inl (cI, 6, .inl c_kind)), (a_near, .inl (cI, 6, .inl c_near)), (a_far, .inl (cI, 6, .inl c_far)), (a_free, .inl (cI, 6, .inl c_free)), (a_, .inr (5, [.int c_seconds, .int c_lead, .int c_ball, .ref a_fouls, .ref a_calls, .int c_rebound, .int (u550.2 (0 : Int32).toNatClampNeg), .int c_draw, .int c_players, .ref a_side, .ref a_kind, .ref a_near, .ref a_far, .ref a_free, .int c_letters, .ref a_letter, .int u550.1, .ref a_value, .int c_inRow, .ref a_row, .ref a_refusals, .int c_imaged, .ref a_image, .ref a_ahead, .ref a_guard, .ref a_worth])), (a_letter, .inl (cI, 96, .inl c_letter)), (a_value, .inl (cI, 4, .inl u550.2))]) X hi_X5_statement_X5 tyX5 tyX5_ok nmX5 7 rfl rfl 6 (by decide) (X.2.2.2.2.1 (.fieldLink RX5 104 "NineteenSecondsLeftModel" "law" "I") (List.mem_of_getElem? (i := 17) rfl)) rfl rfl rfl rfl (Nat.le_of_ble_eq_true rfl) dX5_statement_642 rfl ?_
                          refine g_iload_n X 0 rfl rfl dX5_statement_645 ?_
                          refine g_bipush (v := 100) X (by decide) dX5_statement_646 ?_
                          refine g_icmp_ne X 661 dX5_statement_648 (by decide) (fun c648 => ?_) (fun c648 => absurd (c526.symm.trans c648) (by decide))
                          refine g_iconst (v := 1) X (by decide) dX5_statement_661 ?_
                          exact g_iret X hAA hQQ (c_seconds, c_lead, c_ball, c_rebound, (u550.2 (0 : Int32).toNatClampNeg), c_draw, c_players, u550.1, c_fouls, c_calls, c_side, c_kind, c_near, c_far, c_free, u550.2) (heq.symm.trans hXX) [7, 0, 1, 2, 3, 4, 5, 6, 8, 9] rfl rfl hr dX5_statement_662
                        · have heq := heq.trans (if_neg c592)
                          refine g_iconst (v := 0) X (by decide) dX5_statement_595 ?_
                          exact g_iret X hAA hQQ (c_seconds, c_lead, c_ball, c_rebound, c_law, c_draw, c_players, u550.1, c_fouls, c_calls, c_side, c_kind, c_near, c_far, c_free, u550.2) (heq.symm.trans hXX) [7, 0, 1, 2, 3, 4, 5, 6, 8, 9] rfl rfl hr dX5_statement_596
                      · have heq := heq.trans (if_pos c559)
                        refine g_iconst (v := 1) X (by decide) dX5_statement_562 ?_
                        exact g_iret X hAA hQQ (c_seconds, c_lead, c_ball, c_rebound, c_law, c_draw, c_players, u550.1, c_fouls, c_calls, c_side, c_kind, c_near, c_far, c_free, u550.2) (heq.symm.trans hXX) [7, 0, 1, 2, 3, 4, 5, 6, 8, 9] rfl rfl hr dX5_statement_563
                    · have heq := heq.trans (if_pos c553)
                      refine g_iconst (v := (-1)) X (by decide) dX5_statement_556 ?_
                      exact g_iret X hAA hQQ (c_seconds, c_lead, c_ball, c_rebound, c_law, c_draw, c_players, u550.1, c_fouls, c_calls, c_side, c_kind, c_near, c_far, c_free, u550.2) (heq.symm.trans hXX) [7, 0, 1, 2, 3, 4, 5, 6, 8, 9] rfl rfl hr dX5_statement_557
                  · have heq := heq.trans (if_neg c526)
                    refine g_iload_n X 0 rfl rfl dX5_statement_529 ?_
                    refine g_bipush (v := 100) X (by decide) dX5_statement_530 ?_
                    refine g_icmp_eq X 537 dX5_statement_532 (by decide) (fun c532 => ?_) (fun c532 => ?_)
                    · have heq := heq.trans (if_pos c532)
                      refine g_aload_n X 1 rfl rfl dX5_statement_537 ?_
                      refine g_dup X rfl dX5_statement_538 ?_
                      refine g_get (C := RX5) (T := TX5) (N := 26) (ci := 5) X hi_X5_statement_X5 8 rfl rfl 16 (by decide) (X.2.2.2.2.1 (.fieldLink RX5 83 "NineteenSecondsLeftModel" "at" "I") (List.mem_of_getElem? (i := 1) rfl)) rfl rfl dX5_statement_539 ?_
                      refine g_iconst (v := 1) X (by decide) dX5_statement_542 ?_
                      refine g_iadd X dX5_statement_543 ?_
                      refine g_put (C := RX5) (T := TX5) (N := 26) (ci := 5) (ws' := [(a_fouls, .inl (cI, 2, .inl c_fouls)), (a_calls, .inl (cI, 2, .inl c_calls)), (a_side, .inl (cI, 6, .inl c_side)), (a_kind, .inl (cI, 6, .inl c_kind)), (a_near, .inl (cI, 6, .inl c_near)), (a_far, .inl (cI, 6, .inl c_far)), (a_free, .inl (cI, 6, .inl c_free)), (a_value, .inl (cI, 4, .inl c_value)), (a_, .inr (5, [.int c_seconds, .int c_lead, .int c_ball, .ref a_fouls, .ref a_calls, .int c_rebound, .int c_law, .int c_draw, .int c_players, .ref a_side, .ref a_kind, .ref a_near, .ref a_far, .ref a_free, .int c_letters, .ref a_letter, .int (u368 + 1), .ref a_value, .int c_inRow, .ref a_row, .ref a_refusals, .int c_imaged, .ref a_image, .ref a_ahead, .ref a_guard, .ref a_worth])), (a_letter, .inl (cI, 96, .inl c_letter))]) X hi_X5_statement_X5 tyX5 tyX5_ok nmX5 8 rfl rfl 16 (by decide) (X.2.2.2.2.1 (.fieldLink RX5 83 "NineteenSecondsLeftModel" "at" "I") (List.mem_of_getElem? (i := 1) rfl)) rfl rfl rfl rfl (Nat.le_of_ble_eq_true rfl) dX5_statement_544 rfl ?_
                      refine g_aload_n X 1 rfl rfl dX5_statement_547 ?_
                      refine g_iconst (v := 0) X (by decide) dX5_statement_548 ?_
                      refine g_iconst (v := 1) X (by decide) dX5_statement_549 ?_
                      refine g_callVi (C := RX5) (T := TX5) (N := 26) (ci := 5) (As := [.int 0, .int 1]) (st := []) (wr := [(a_fouls, .inl (cI, 2, .inl c_fouls)), (a_calls, .inl (cI, 2, .inl c_calls)), (a_side, .inl (cI, 6, .inl c_side)), (a_kind, .inl (cI, 6, .inl c_kind)), (a_near, .inl (cI, 6, .inl c_near)), (a_far, .inl (cI, 6, .inl c_far)), (a_free, .inl (cI, 6, .inl c_free))]) X (k_X5_digits l D cI kA kV a_ a_fouls a_calls a_side a_kind a_near a_far a_free a_letter a_value a_row a_refusals a_image a_ahead a_guard a_worth c_seconds c_lead c_ball c_rebound c_law c_draw c_players c_letters (u368 + 1) c_inRow c_imaged c_letter c_value 0 1 (ha368.succ c494) (by decide) (by decide)) (cwV 2 X.2.2.2.2.1 gX5_statement_X5_digits rfl rfl rfl (by decide +kernel) ⟨Nat.le_of_ble_eq_true rfl, Nat.le_of_ble_eq_true rfl⟩) 8 rfl rfl [8, 9, 7] [0, 1, 2, 3, 4, 5, 6] rfl rfl rfl rfl (by decide) rfl (Nat.le_of_ble_eq_true rfl) ⟨Nat.le_of_ble_eq_true rfl, Nat.le_of_ble_eq_true rfl⟩ dX5_statement_550 rfl (fun r550 u550 hw550 => ?_)
                      refine g_eqs (ws' := [(a_fouls, .inl (cI, 2, .inl c_fouls)), (a_calls, .inl (cI, 2, .inl c_calls)), (a_side, .inl (cI, 6, .inl c_side)), (a_kind, .inl (cI, 6, .inl c_kind)), (a_near, .inl (cI, 6, .inl c_near)), (a_far, .inl (cI, 6, .inl c_far)), (a_free, .inl (cI, 6, .inl c_free)), (a_, .inr (5, [.int c_seconds, .int c_lead, .int c_ball, .ref a_fouls, .ref a_calls, .int c_rebound, .int c_law, .int c_draw, .int c_players, .ref a_side, .ref a_kind, .ref a_near, .ref a_far, .ref a_free, .int c_letters, .ref a_letter, .int u550.1, .ref a_value, .int c_inRow, .ref a_row, .ref a_refusals, .int c_imaged, .ref a_image, .ref a_ahead, .ref a_guard, .ref a_worth])), (a_letter, .inl (cI, 96, .inl c_letter)), (a_value, .inl (cI, 4, .inl u550.2))]) rfl ?_
                      have hd550 := fd_digits (ha368.succ c494) (by decide) (by decide) hw550
                      have ha550 := hd550.1
                      have heq := g_let2 heq hw550
                      refine g_if_ne X 558 dX5_statement_553 (by decide) (fun c553 => ?_) (fun c553 => ?_)
                      · have heq := heq.trans (if_neg c553)
                        refine g_iload_n X 2 rfl rfl dX5_statement_558 ?_
                        refine g_if_ne X 564 dX5_statement_559 (by decide) (fun c559 => ?_) (fun c559 => ?_)
                        · have heq := heq.trans (if_neg c559)
                          refine g_aload_n X 1 rfl rfl dX5_statement_564 ?_
                          refine g_get (C := RX5) (T := TX5) (N := 26) (ci := 5) X hi_X5_statement_X5 7 rfl rfl 17 (by decide) (X.2.2.2.2.1 (.fieldLink RX5 34 "NineteenSecondsLeftModel" "value" "[I") (List.mem_of_getElem? (i := 4) rfl)) rfl rfl dX5_statement_565 ?_
                          refine g_iconst (v := 0) X (by decide) dX5_statement_568 ?_
                          refine g_iald X 9 rfl (g_vinL (by decide)) dX5_statement_569 ?_
                          refine g_iload_n X 0 rfl rfl dX5_statement_570 ?_
                          refine g_bipush (v := 98) X (by decide) dX5_statement_571 ?_
                          refine g_icmp_ne X 580 dX5_statement_573 (by decide) (fun c573 => ?_) (fun c573 => absurd c573 c514)
                          refine g_iload_n X 0 rfl rfl dX5_statement_580 ?_
                          refine g_bipush (v := 119) X (by decide) dX5_statement_581 ?_
                          refine g_icmp_ne X 590 dX5_statement_583 (by decide) (fun c583 => ?_) (fun c583 => absurd c583 c526)
                          refine g_bipush (v := 9) X (by decide) dX5_statement_590 ?_
                          refine g_icmp_le X 597 dX5_statement_592 (by decide) (fun c592 => ?_) (fun c592 => ?_)
                          · have heq := heq.trans (if_pos c592)
                            refine g_iload_n X 0 rfl rfl dX5_statement_597 ?_
                            refine g_bipush (v := 98) X (by decide) dX5_statement_598 ?_
                            refine g_icmp_ne X 613 dX5_statement_600 (by decide) (fun c600 => ?_) (fun c600 => absurd c600 c514)
                            refine g_iload_n X 0 rfl rfl dX5_statement_613 ?_
                            refine g_bipush (v := 114) X (by decide) dX5_statement_614 ?_
                            refine g_icmp_ne X 629 dX5_statement_616 (by decide) (fun c616 => ?_) (fun c616 => absurd c616 c520)
                            refine g_iload_n X 0 rfl rfl dX5_statement_629 ?_
                            refine g_bipush (v := 119) X (by decide) dX5_statement_630 ?_
                            refine g_icmp_ne X 645 dX5_statement_632 (by decide) (fun c632 => ?_) (fun c632 => absurd c632 c526)
                            refine g_iload_n X 0 rfl rfl dX5_statement_645 ?_
                            refine g_bipush (v := 100) X (by decide) dX5_statement_646 ?_
                            refine g_icmp_ne X 661 dX5_statement_648 (by decide) (fun c648 => absurd c532 c648) (fun c648 => ?_)
                            refine g_aload_n X 1 rfl rfl dX5_statement_651 ?_
                            refine g_aload_n X 1 rfl rfl dX5_statement_652 ?_
                            refine g_get (C := RX5) (T := TX5) (N := 26) (ci := 5) X hi_X5_statement_X5 7 rfl rfl 17 (by decide) (X.2.2.2.2.1 (.fieldLink RX5 34 "NineteenSecondsLeftModel" "value" "[I") (List.mem_of_getElem? (i := 4) rfl)) rfl rfl dX5_statement_653 ?_
                            refine g_iconst (v := 0) X (by decide) dX5_statement_656 ?_
                            refine g_iald X 9 rfl (g_vinL (by decide)) dX5_statement_657 ?_
                            refine g_put (C := RX5) (T := TX5) (N := 26) (ci := 5) (ws' := [(a_fouls, .inl (cI, 2, .inl c_fouls)), (a_calls, .inl (cI, 2, .inl c_calls)), (a_side, .inl (cI, 6, .inl c_side)), (a_kind, .inl (cI, 6, .inl c_kind)), (a_near, .inl (cI, 6, .inl c_near)), (a_far, .inl (cI, 6, .inl c_far)), (a_free, .inl (cI, 6, .inl c_free)), (a_, .inr (5, [.int c_seconds, .int c_lead, .int c_ball, .ref a_fouls, .ref a_calls, .int c_rebound, .int c_law, .int (u550.2 (0 : Int32).toNatClampNeg), .int c_players, .ref a_side, .ref a_kind, .ref a_near, .ref a_far, .ref a_free, .int c_letters, .ref a_letter, .int u550.1, .ref a_value, .int c_inRow, .ref a_row, .ref a_refusals, .int c_imaged, .ref a_image, .ref a_ahead, .ref a_guard, .ref a_worth])), (a_letter, .inl (cI, 96, .inl c_letter)), (a_value, .inl (cI, 4, .inl u550.2))]) X hi_X5_statement_X5 tyX5 tyX5_ok nmX5 7 rfl rfl 7 (by decide) (X.2.2.2.2.1 (.fieldLink RX5 65 "NineteenSecondsLeftModel" "draw" "I") (List.mem_of_getElem? (i := 18) rfl)) rfl rfl rfl rfl (Nat.le_of_ble_eq_true rfl) dX5_statement_658 rfl ?_
                            refine g_iconst (v := 1) X (by decide) dX5_statement_661 ?_
                            exact g_iret X hAA hQQ (c_seconds, c_lead, c_ball, c_rebound, c_law, (u550.2 (0 : Int32).toNatClampNeg), c_players, u550.1, c_fouls, c_calls, c_side, c_kind, c_near, c_far, c_free, u550.2) (heq.symm.trans hXX) [7, 0, 1, 2, 3, 4, 5, 6, 8, 9] rfl rfl hr dX5_statement_662
                          · have heq := heq.trans (if_neg c592)
                            refine g_iconst (v := 0) X (by decide) dX5_statement_595 ?_
                            exact g_iret X hAA hQQ (c_seconds, c_lead, c_ball, c_rebound, c_law, c_draw, c_players, u550.1, c_fouls, c_calls, c_side, c_kind, c_near, c_far, c_free, u550.2) (heq.symm.trans hXX) [7, 0, 1, 2, 3, 4, 5, 6, 8, 9] rfl rfl hr dX5_statement_596
                        · have heq := heq.trans (if_pos c559)
                          refine g_iconst (v := 1) X (by decide) dX5_statement_562 ?_
                          exact g_iret X hAA hQQ (c_seconds, c_lead, c_ball, c_rebound, c_law, c_draw, c_players, u550.1, c_fouls, c_calls, c_side, c_kind, c_near, c_far, c_free, u550.2) (heq.symm.trans hXX) [7, 0, 1, 2, 3, 4, 5, 6, 8, 9] rfl rfl hr dX5_statement_563
                      · have heq := heq.trans (if_pos c553)
                        refine g_iconst (v := (-1)) X (by decide) dX5_statement_556 ?_
                        exact g_iret X hAA hQQ (c_seconds, c_lead, c_ball, c_rebound, c_law, c_draw, c_players, u550.1, c_fouls, c_calls, c_side, c_kind, c_near, c_far, c_free, u550.2) (heq.symm.trans hXX) [7, 0, 1, 2, 3, 4, 5, 6, 8, 9] rfl rfl hr dX5_statement_557
                    · have heq := heq.trans (if_neg c532)
                      refine g_iconst (v := (-1)) X (by decide) dX5_statement_535 ?_
                      exact g_iret X hAA hQQ (c_seconds, c_lead, c_ball, c_rebound, c_law, c_draw, c_players, u368, c_fouls, c_calls, c_side, c_kind, c_near, c_far, c_free, c_value) (heq.symm.trans hXX) [8, 0, 1, 2, 3, 4, 5, 6, 9, 7] rfl rfl hr dX5_statement_536
          · have heq := heq.trans (if_neg c371)
            refine g_aload_n X 0 rfl rfl dX5_statement_374 ?_
            refine g_get (C := RX5) (T := TX5) (N := 26) (ci := 5) X hi_X5_statement_X5 8 rfl rfl 15 (by decide) (X.2.2.2.2.1 (.fieldLink RX5 31 "NineteenSecondsLeftModel" "letter" "[I") (List.mem_of_getElem? (i := 3) rfl)) rfl rfl dX5_statement_375 ?_
            refine g_aload_n X 0 rfl rfl dX5_statement_378 ?_
            refine g_get (C := RX5) (T := TX5) (N := 26) (ci := 5) X hi_X5_statement_X5 8 rfl rfl 16 (by decide) (X.2.2.2.2.1 (.fieldLink RX5 83 "NineteenSecondsLeftModel" "at" "I") (List.mem_of_getElem? (i := 1) rfl)) rfl rfl dX5_statement_379 ?_
            refine g_iconst (v := 1) X (by decide) dX5_statement_382 ?_
            refine g_isub X dX5_statement_383 ?_
            refine g_iald X 9 rfl (fd_isv ha359 hw368 c371) dX5_statement_384 ?_
            refine g_bipush (v := 102) X (by decide) dX5_statement_385 ?_
            refine g_icmp_ne X 394 dX5_statement_387 (by decide) (fun c387 => ?_) (fun c387 => ?_)
            · have heq := heq.trans (if_neg c387)
              refine g_iconst (v := 0) X (by decide) dX5_statement_394 ?_
              refine g_istore_n (lv' := [(2, .int 0), (0, .ref a_), (1, .int p1)]) X rfl (by decide) rfl dX5_statement_395 ?_
              refine g_aload_n X 1 rfl rfl dX5_statement_396 ?_
              refine g_iconst (v := 0) X (by decide) dX5_statement_397 ?_
              refine g_iconst (v := 2) X (by decide) dX5_statement_398 ?_
              refine g_callVi (C := RX5) (T := TX5) (N := 26) (ci := 5) (As := [.int 0, .int 2]) (st := []) (wr := [(a_fouls, .inl (cI, 2, .inl c_fouls)), (a_calls, .inl (cI, 2, .inl c_calls)), (a_side, .inl (cI, 6, .inl c_side)), (a_kind, .inl (cI, 6, .inl c_kind)), (a_near, .inl (cI, 6, .inl c_near)), (a_far, .inl (cI, 6, .inl c_far)), (a_free, .inl (cI, 6, .inl c_free))]) X (k_X5_digits l D cI kA kV a_ a_fouls a_calls a_side a_kind a_near a_far a_free a_letter a_value a_row a_refusals a_image a_ahead a_guard a_worth c_seconds c_lead c_ball c_rebound c_law c_draw c_players c_letters u368 c_inRow c_imaged c_letter c_value 0 2 ha368 (by decide) (by decide)) (cwV 2 X.2.2.2.2.1 gX5_statement_X5_digits rfl rfl rfl (by decide +kernel) ⟨Nat.le_of_ble_eq_true rfl, Nat.le_of_ble_eq_true rfl⟩) 8 rfl rfl [8, 9, 7] [0, 1, 2, 3, 4, 5, 6] rfl rfl rfl rfl (by decide) rfl (Nat.le_of_ble_eq_true rfl) ⟨Nat.le_of_ble_eq_true rfl, Nat.le_of_ble_eq_true rfl⟩ dX5_statement_399 rfl (fun r399 u399 hw399 => ?_)
              refine g_eqs (ws' := [(a_fouls, .inl (cI, 2, .inl c_fouls)), (a_calls, .inl (cI, 2, .inl c_calls)), (a_side, .inl (cI, 6, .inl c_side)), (a_kind, .inl (cI, 6, .inl c_kind)), (a_near, .inl (cI, 6, .inl c_near)), (a_far, .inl (cI, 6, .inl c_far)), (a_free, .inl (cI, 6, .inl c_free)), (a_, .inr (5, [.int c_seconds, .int c_lead, .int c_ball, .ref a_fouls, .ref a_calls, .int c_rebound, .int c_law, .int c_draw, .int c_players, .ref a_side, .ref a_kind, .ref a_near, .ref a_far, .ref a_free, .int c_letters, .ref a_letter, .int u399.1, .ref a_value, .int c_inRow, .ref a_row, .ref a_refusals, .int c_imaged, .ref a_image, .ref a_ahead, .ref a_guard, .ref a_worth])), (a_letter, .inl (cI, 96, .inl c_letter)), (a_value, .inl (cI, 4, .inl u399.2))]) rfl ?_
              have hd399 := fd_digits ha368 (by decide) (by decide) hw399
              have ha399 := hd399.1
              have heq := g_let2 heq hw399
              refine g_if_ne X 407 dX5_statement_402 (by decide) (fun c402 => ?_) (fun c402 => ?_)
              · have heq := heq.trans (if_neg c402)
                refine g_iload_n X 2 rfl rfl dX5_statement_407 ?_
                refine g_if_ne X 413 dX5_statement_408 (by decide) (fun c408 => ?_) (fun c408 => ?_)
                · have heq := heq.trans (if_neg c408)
                  refine g_aload_n X 1 rfl rfl dX5_statement_413 ?_
                  refine g_get (C := RX5) (T := TX5) (N := 26) (ci := 5) X hi_X5_statement_X5 7 rfl rfl 17 (by decide) (X.2.2.2.2.1 (.fieldLink RX5 34 "NineteenSecondsLeftModel" "value" "[I") (List.mem_of_getElem? (i := 4) rfl)) rfl rfl dX5_statement_414 ?_
                  refine g_iconst (v := 0) X (by decide) dX5_statement_417 ?_
                  refine g_iald X 9 rfl (g_vinL (by decide)) dX5_statement_418 ?_
                  refine g_iconst (v := 1) X (by decide) dX5_statement_419 ?_
                  refine g_icmp_gt X 441 dX5_statement_420 (by decide) (fun c420 => ?_) (fun c420 => ?_)
                  · have heq := heq.trans (if_pos c420)
                    refine g_iconst (v := 0) X (by decide) dX5_statement_441 ?_
                    exact g_iret X hAA hQQ (c_seconds, c_lead, c_ball, c_rebound, c_law, c_draw, c_players, u399.1, c_fouls, c_calls, c_side, c_kind, c_near, c_far, c_free, u399.2) (heq.symm.trans hXX) [7, 0, 1, 2, 3, 4, 5, 6, 8, 9] rfl rfl hr dX5_statement_442
                  · have heq := heq.trans (if_neg c420)
                    refine g_aload_n X 1 rfl rfl dX5_statement_423 ?_
                    refine g_get (C := RX5) (T := TX5) (N := 26) (ci := 5) X hi_X5_statement_X5 7 rfl rfl 17 (by decide) (X.2.2.2.2.1 (.fieldLink RX5 34 "NineteenSecondsLeftModel" "value" "[I") (List.mem_of_getElem? (i := 4) rfl)) rfl rfl dX5_statement_424 ?_
                    refine g_iconst (v := 1) X (by decide) dX5_statement_427 ?_
                    refine g_iald X 9 rfl (g_vinL (by decide)) dX5_statement_428 ?_
                    refine g_iload_n X 0 rfl rfl dX5_statement_429 ?_
                    refine g_if_eq X 437 dX5_statement_430 (by decide) (fun c430 => ?_) (fun c430 => absurd c430 (by decide))
                    refine g_iconst (v := 2) X (by decide) dX5_statement_437 ?_
                    refine g_icmp_le X 443 dX5_statement_438 (by decide) (fun c438 => ?_) (fun c438 => ?_)
                    · have heq := heq.trans (if_pos c438)
                      refine g_iload_n X 0 rfl rfl dX5_statement_443 ?_
                      refine g_if_eq X 467 dX5_statement_444 (by decide) (fun c444 => ?_) (fun c444 => absurd c444 (by decide))
                      refine g_aload_n X 1 rfl rfl dX5_statement_467 ?_
                      refine g_get (C := RX5) (T := TX5) (N := 26) (ci := 5) X hi_X5_statement_X5 7 rfl rfl 4 (by decide) (X.2.2.2.2.1 (.fieldLink RX5 13 "NineteenSecondsLeftModel" "calls" "[I") (List.mem_of_getElem? (i := 14) rfl)) rfl rfl dX5_statement_468 ?_
                      refine g_aload_n X 1 rfl rfl dX5_statement_471 ?_
                      refine g_get (C := RX5) (T := TX5) (N := 26) (ci := 5) X hi_X5_statement_X5 7 rfl rfl 17 (by decide) (X.2.2.2.2.1 (.fieldLink RX5 34 "NineteenSecondsLeftModel" "value" "[I") (List.mem_of_getElem? (i := 4) rfl)) rfl rfl dX5_statement_472 ?_
                      refine g_iconst (v := 0) X (by decide) dX5_statement_475 ?_
                      refine g_iald X 9 rfl (g_vinL (by decide)) dX5_statement_476 ?_
                      refine g_aload_n X 1 rfl rfl dX5_statement_477 ?_
                      refine g_get (C := RX5) (T := TX5) (N := 26) (ci := 5) X hi_X5_statement_X5 7 rfl rfl 17 (by decide) (X.2.2.2.2.1 (.fieldLink RX5 34 "NineteenSecondsLeftModel" "value" "[I") (List.mem_of_getElem? (i := 4) rfl)) rfl rfl dX5_statement_478 ?_
                      refine g_iconst (v := 1) X (by decide) dX5_statement_481 ?_
                      refine g_iald X 9 rfl (g_vinL (by decide)) dX5_statement_482 ?_
                      refine g_iast (ws' := [(a_fouls, .inl (cI, 2, .inl c_fouls)), (a_calls, .inl (cI, 2, .inl (upd c_calls (u399.2 (0 : Int32).toNatClampNeg).toNatClampNeg (u399.2 (1 : Int32).toNatClampNeg)))), (a_side, .inl (cI, 6, .inl c_side)), (a_kind, .inl (cI, 6, .inl c_kind)), (a_near, .inl (cI, 6, .inl c_near)), (a_far, .inl (cI, 6, .inl c_far)), (a_free, .inl (cI, 6, .inl c_free)), (a_, .inr (5, [.int c_seconds, .int c_lead, .int c_ball, .ref a_fouls, .ref a_calls, .int c_rebound, .int c_law, .int c_draw, .int c_players, .ref a_side, .ref a_kind, .ref a_near, .ref a_far, .ref a_free, .int c_letters, .ref a_letter, .int u399.1, .ref a_value, .int c_inRow, .ref a_row, .ref a_refusals, .int c_imaged, .ref a_image, .ref a_ahead, .ref a_guard, .ref a_worth])), (a_letter, .inl (cI, 96, .inl c_letter)), (a_value, .inl (cI, 4, .inl u399.2))]) X 1 rfl (g_vin2 (fd_dw hd399.2.2 c402 0 (by decide) (by decide)).1 c420) dX5_statement_483 rfl ?_
                      refine g_iconst (v := 1) X (by decide) dX5_statement_484 ?_
                      exact g_iret X hAA hQQ (c_seconds, c_lead, c_ball, c_rebound, c_law, c_draw, c_players, u399.1, c_fouls, upd c_calls (u399.2 (0 : Int32).toNatClampNeg).toNatClampNeg (u399.2 (1 : Int32).toNatClampNeg), c_side, c_kind, c_near, c_far, c_free, u399.2) (heq.symm.trans hXX) [7, 0, 1, 2, 3, 4, 5, 6, 8, 9] rfl rfl hr dX5_statement_485
                    · have heq := heq.trans (if_neg c438)
                      refine g_iconst (v := 0) X (by decide) dX5_statement_441 ?_
                      exact g_iret X hAA hQQ (c_seconds, c_lead, c_ball, c_rebound, c_law, c_draw, c_players, u399.1, c_fouls, c_calls, c_side, c_kind, c_near, c_far, c_free, u399.2) (heq.symm.trans hXX) [7, 0, 1, 2, 3, 4, 5, 6, 8, 9] rfl rfl hr dX5_statement_442
                · have heq := heq.trans (if_pos c408)
                  refine g_iconst (v := 1) X (by decide) dX5_statement_411 ?_
                  exact g_iret X hAA hQQ (c_seconds, c_lead, c_ball, c_rebound, c_law, c_draw, c_players, u399.1, c_fouls, c_calls, c_side, c_kind, c_near, c_far, c_free, u399.2) (heq.symm.trans hXX) [7, 0, 1, 2, 3, 4, 5, 6, 8, 9] rfl rfl hr dX5_statement_412
              · have heq := heq.trans (if_pos c402)
                refine g_iconst (v := (-1)) X (by decide) dX5_statement_405 ?_
                exact g_iret X hAA hQQ (c_seconds, c_lead, c_ball, c_rebound, c_law, c_draw, c_players, u399.1, c_fouls, c_calls, c_side, c_kind, c_near, c_far, c_free, u399.2) (heq.symm.trans hXX) [7, 0, 1, 2, 3, 4, 5, 6, 8, 9] rfl rfl hr dX5_statement_406
            · have heq := heq.trans (if_pos c387)
              refine g_iconst (v := 1) X (by decide) dX5_statement_390 ?_
              refine g_goto (tgt := 395) X (by decide) dX5_statement_391 ?_
              refine g_istore_n (lv' := [(2, .int 1), (0, .ref a_), (1, .int p1)]) X rfl (by decide) rfl dX5_statement_395 ?_
              refine g_aload_n X 1 rfl rfl dX5_statement_396 ?_
              refine g_iconst (v := 0) X (by decide) dX5_statement_397 ?_
              refine g_iconst (v := 2) X (by decide) dX5_statement_398 ?_
              refine g_callVi (C := RX5) (T := TX5) (N := 26) (ci := 5) (As := [.int 0, .int 2]) (st := []) (wr := [(a_fouls, .inl (cI, 2, .inl c_fouls)), (a_calls, .inl (cI, 2, .inl c_calls)), (a_side, .inl (cI, 6, .inl c_side)), (a_kind, .inl (cI, 6, .inl c_kind)), (a_near, .inl (cI, 6, .inl c_near)), (a_far, .inl (cI, 6, .inl c_far)), (a_free, .inl (cI, 6, .inl c_free))]) X (k_X5_digits l D cI kA kV a_ a_fouls a_calls a_side a_kind a_near a_far a_free a_letter a_value a_row a_refusals a_image a_ahead a_guard a_worth c_seconds c_lead c_ball c_rebound c_law c_draw c_players c_letters u368 c_inRow c_imaged c_letter c_value 0 2 ha368 (by decide) (by decide)) (cwV 2 X.2.2.2.2.1 gX5_statement_X5_digits rfl rfl rfl (by decide +kernel) ⟨Nat.le_of_ble_eq_true rfl, Nat.le_of_ble_eq_true rfl⟩) 8 rfl rfl [8, 9, 7] [0, 1, 2, 3, 4, 5, 6] rfl rfl rfl rfl (by decide) rfl (Nat.le_of_ble_eq_true rfl) ⟨Nat.le_of_ble_eq_true rfl, Nat.le_of_ble_eq_true rfl⟩ dX5_statement_399 rfl (fun r399 u399 hw399 => ?_)
              refine g_eqs (ws' := [(a_fouls, .inl (cI, 2, .inl c_fouls)), (a_calls, .inl (cI, 2, .inl c_calls)), (a_side, .inl (cI, 6, .inl c_side)), (a_kind, .inl (cI, 6, .inl c_kind)), (a_near, .inl (cI, 6, .inl c_near)), (a_far, .inl (cI, 6, .inl c_far)), (a_free, .inl (cI, 6, .inl c_free)), (a_, .inr (5, [.int c_seconds, .int c_lead, .int c_ball, .ref a_fouls, .ref a_calls, .int c_rebound, .int c_law, .int c_draw, .int c_players, .ref a_side, .ref a_kind, .ref a_near, .ref a_far, .ref a_free, .int c_letters, .ref a_letter, .int u399.1, .ref a_value, .int c_inRow, .ref a_row, .ref a_refusals, .int c_imaged, .ref a_image, .ref a_ahead, .ref a_guard, .ref a_worth])), (a_letter, .inl (cI, 96, .inl c_letter)), (a_value, .inl (cI, 4, .inl u399.2))]) rfl ?_
              have hd399 := fd_digits ha368 (by decide) (by decide) hw399
              have ha399 := hd399.1
              have heq := g_let2 heq hw399
              refine g_if_ne X 407 dX5_statement_402 (by decide) (fun c402 => ?_) (fun c402 => ?_)
              · have heq := heq.trans (if_neg c402)
                refine g_iload_n X 2 rfl rfl dX5_statement_407 ?_
                refine g_if_ne X 413 dX5_statement_408 (by decide) (fun c408 => ?_) (fun c408 => ?_)
                · have heq := heq.trans (if_neg c408)
                  refine g_aload_n X 1 rfl rfl dX5_statement_413 ?_
                  refine g_get (C := RX5) (T := TX5) (N := 26) (ci := 5) X hi_X5_statement_X5 7 rfl rfl 17 (by decide) (X.2.2.2.2.1 (.fieldLink RX5 34 "NineteenSecondsLeftModel" "value" "[I") (List.mem_of_getElem? (i := 4) rfl)) rfl rfl dX5_statement_414 ?_
                  refine g_iconst (v := 0) X (by decide) dX5_statement_417 ?_
                  refine g_iald X 9 rfl (g_vinL (by decide)) dX5_statement_418 ?_
                  refine g_iconst (v := 1) X (by decide) dX5_statement_419 ?_
                  refine g_icmp_gt X 441 dX5_statement_420 (by decide) (fun c420 => ?_) (fun c420 => ?_)
                  · have heq := heq.trans (if_pos c420)
                    refine g_iconst (v := 0) X (by decide) dX5_statement_441 ?_
                    exact g_iret X hAA hQQ (c_seconds, c_lead, c_ball, c_rebound, c_law, c_draw, c_players, u399.1, c_fouls, c_calls, c_side, c_kind, c_near, c_far, c_free, u399.2) (heq.symm.trans hXX) [7, 0, 1, 2, 3, 4, 5, 6, 8, 9] rfl rfl hr dX5_statement_442
                  · have heq := heq.trans (if_neg c420)
                    refine g_aload_n X 1 rfl rfl dX5_statement_423 ?_
                    refine g_get (C := RX5) (T := TX5) (N := 26) (ci := 5) X hi_X5_statement_X5 7 rfl rfl 17 (by decide) (X.2.2.2.2.1 (.fieldLink RX5 34 "NineteenSecondsLeftModel" "value" "[I") (List.mem_of_getElem? (i := 4) rfl)) rfl rfl dX5_statement_424 ?_
                    refine g_iconst (v := 1) X (by decide) dX5_statement_427 ?_
                    refine g_iald X 9 rfl (g_vinL (by decide)) dX5_statement_428 ?_
                    refine g_iload_n X 0 rfl rfl dX5_statement_429 ?_
                    refine g_if_eq X 437 dX5_statement_430 (by decide) (fun c430 => absurd c430 (by decide)) (fun c430 => ?_)
                    refine g_iconst (v := 5) X (by decide) dX5_statement_433 ?_
                    refine g_goto (tgt := 438) X (by decide) dX5_statement_434 ?_
                    refine g_icmp_le X 443 dX5_statement_438 (by decide) (fun c438 => ?_) (fun c438 => ?_)
                    · have heq := heq.trans (if_pos c438)
                      refine g_iload_n X 0 rfl rfl dX5_statement_443 ?_
                      refine g_if_eq X 467 dX5_statement_444 (by decide) (fun c444 => absurd c444 (by decide)) (fun c444 => ?_)
                      refine g_aload_n X 1 rfl rfl dX5_statement_447 ?_
                      refine g_get (C := RX5) (T := TX5) (N := 26) (ci := 5) X hi_X5_statement_X5 7 rfl rfl 3 (by decide) (X.2.2.2.2.1 (.fieldLink RX5 7 "NineteenSecondsLeftModel" "fouls" "[I") (List.mem_of_getElem? (i := 13) rfl)) rfl rfl dX5_statement_448 ?_
                      refine g_aload_n X 1 rfl rfl dX5_statement_451 ?_
                      refine g_get (C := RX5) (T := TX5) (N := 26) (ci := 5) X hi_X5_statement_X5 7 rfl rfl 17 (by decide) (X.2.2.2.2.1 (.fieldLink RX5 34 "NineteenSecondsLeftModel" "value" "[I") (List.mem_of_getElem? (i := 4) rfl)) rfl rfl dX5_statement_452 ?_
                      refine g_iconst (v := 0) X (by decide) dX5_statement_455 ?_
                      refine g_iald X 9 rfl (g_vinL (by decide)) dX5_statement_456 ?_
                      refine g_aload_n X 1 rfl rfl dX5_statement_457 ?_
                      refine g_get (C := RX5) (T := TX5) (N := 26) (ci := 5) X hi_X5_statement_X5 7 rfl rfl 17 (by decide) (X.2.2.2.2.1 (.fieldLink RX5 34 "NineteenSecondsLeftModel" "value" "[I") (List.mem_of_getElem? (i := 4) rfl)) rfl rfl dX5_statement_458 ?_
                      refine g_iconst (v := 1) X (by decide) dX5_statement_461 ?_
                      refine g_iald X 9 rfl (g_vinL (by decide)) dX5_statement_462 ?_
                      refine g_iast (ws' := [(a_fouls, .inl (cI, 2, .inl (upd c_fouls (u399.2 (0 : Int32).toNatClampNeg).toNatClampNeg (u399.2 (1 : Int32).toNatClampNeg)))), (a_calls, .inl (cI, 2, .inl c_calls)), (a_side, .inl (cI, 6, .inl c_side)), (a_kind, .inl (cI, 6, .inl c_kind)), (a_near, .inl (cI, 6, .inl c_near)), (a_far, .inl (cI, 6, .inl c_far)), (a_free, .inl (cI, 6, .inl c_free)), (a_, .inr (5, [.int c_seconds, .int c_lead, .int c_ball, .ref a_fouls, .ref a_calls, .int c_rebound, .int c_law, .int c_draw, .int c_players, .ref a_side, .ref a_kind, .ref a_near, .ref a_far, .ref a_free, .int c_letters, .ref a_letter, .int u399.1, .ref a_value, .int c_inRow, .ref a_row, .ref a_refusals, .int c_imaged, .ref a_image, .ref a_ahead, .ref a_guard, .ref a_worth])), (a_letter, .inl (cI, 96, .inl c_letter)), (a_value, .inl (cI, 4, .inl u399.2))]) X 0 rfl (g_vin2 (fd_dw hd399.2.2 c402 0 (by decide) (by decide)).1 c420) dX5_statement_463 rfl ?_
                      refine g_goto (tgt := 484) X (by decide) dX5_statement_464 ?_
                      refine g_iconst (v := 1) X (by decide) dX5_statement_484 ?_
                      exact g_iret X hAA hQQ (c_seconds, c_lead, c_ball, c_rebound, c_law, c_draw, c_players, u399.1, upd c_fouls (u399.2 (0 : Int32).toNatClampNeg).toNatClampNeg (u399.2 (1 : Int32).toNatClampNeg), c_calls, c_side, c_kind, c_near, c_far, c_free, u399.2) (heq.symm.trans hXX) [7, 0, 1, 2, 3, 4, 5, 6, 8, 9] rfl rfl hr dX5_statement_485
                    · have heq := heq.trans (if_neg c438)
                      refine g_iconst (v := 0) X (by decide) dX5_statement_441 ?_
                      exact g_iret X hAA hQQ (c_seconds, c_lead, c_ball, c_rebound, c_law, c_draw, c_players, u399.1, c_fouls, c_calls, c_side, c_kind, c_near, c_far, c_free, u399.2) (heq.symm.trans hXX) [7, 0, 1, 2, 3, 4, 5, 6, 8, 9] rfl rfl hr dX5_statement_442
                · have heq := heq.trans (if_pos c408)
                  refine g_iconst (v := 1) X (by decide) dX5_statement_411 ?_
                  exact g_iret X hAA hQQ (c_seconds, c_lead, c_ball, c_rebound, c_law, c_draw, c_players, u399.1, c_fouls, c_calls, c_side, c_kind, c_near, c_far, c_free, u399.2) (heq.symm.trans hXX) [7, 0, 1, 2, 3, 4, 5, 6, 8, 9] rfl rfl hr dX5_statement_412
              · have heq := heq.trans (if_pos c402)
                refine g_iconst (v := (-1)) X (by decide) dX5_statement_405 ?_
                exact g_iret X hAA hQQ (c_seconds, c_lead, c_ball, c_rebound, c_law, c_draw, c_players, u399.1, c_fouls, c_calls, c_side, c_kind, c_near, c_far, c_free, u399.2) (heq.symm.trans hXX) [7, 0, 1, 2, 3, 4, 5, 6, 8, 9] rfl rfl hr dX5_statement_406
      · have heq := heq.trans (if_neg c272)
        refine g_aload_n X 0 rfl rfl dX5_statement_275 ?_
        refine g_bipush (v := 45) X (by decide) dX5_statement_276 ?_
        refine g_callVi (C := RX5) (T := TX5) (N := 26) (ci := 5) (As := [.int 45]) (st := []) (wr := [(a_fouls, .inl (cI, 2, .inl c_fouls)), (a_calls, .inl (cI, 2, .inl c_calls)), (a_side, .inl (cI, 6, .inl c_side)), (a_kind, .inl (cI, 6, .inl c_kind)), (a_near, .inl (cI, 6, .inl c_near)), (a_far, .inl (cI, 6, .inl c_far)), (a_free, .inl (cI, 6, .inl c_free)), (a_value, .inl (cI, 4, .inl c_value))]) X (k_X5_is l D cI kA kV a_ a_fouls a_calls a_side a_kind a_near a_far a_free a_letter a_value a_row a_refusals a_image a_ahead a_guard a_worth c_seconds c_lead c_ball c_rebound c_law c_draw c_players c_letters u269 c_inRow c_imaged c_letter 45 ha269) (cwV 1 X.2.2.2.2.1 gX5_statement_X5_is rfl rfl rfl (by decide +kernel) ⟨Nat.le_of_ble_eq_true rfl, Nat.le_of_ble_eq_true rfl⟩) 8 rfl rfl [8, 9] [0, 1, 2, 3, 4, 5, 6, 7] rfl rfl rfl rfl (by decide) rfl (Nat.le_of_ble_eq_true rfl) ⟨Nat.le_of_ble_eq_true rfl, Nat.le_of_ble_eq_true rfl⟩ dX5_statement_278 rfl (fun r278 u278 hw278 => ?_)
        refine g_eqs (ws' := [(a_fouls, .inl (cI, 2, .inl c_fouls)), (a_calls, .inl (cI, 2, .inl c_calls)), (a_side, .inl (cI, 6, .inl c_side)), (a_kind, .inl (cI, 6, .inl c_kind)), (a_near, .inl (cI, 6, .inl c_near)), (a_far, .inl (cI, 6, .inl c_far)), (a_free, .inl (cI, 6, .inl c_free)), (a_value, .inl (cI, 4, .inl c_value)), (a_, .inr (5, [.int c_seconds, .int c_lead, .int c_ball, .ref a_fouls, .ref a_calls, .int c_rebound, .int c_law, .int c_draw, .int c_players, .ref a_side, .ref a_kind, .ref a_near, .ref a_far, .ref a_free, .int c_letters, .ref a_letter, .int u278, .ref a_value, .int c_inRow, .ref a_row, .ref a_refusals, .int c_imaged, .ref a_image, .ref a_ahead, .ref a_guard, .ref a_worth])), (a_letter, .inl (cI, 96, .inl c_letter))]) rfl ?_
        have hd278 := fd_is ha269 hw278
        have ha278 := hd278.1
        have heq := g_let2 heq hw278
        refine g_istore_n (lv' := [(2, .int r278), (0, .ref a_), (1, .int p1)]) X rfl (by decide) rfl dX5_statement_281 ?_
        refine g_iload_n X 0 rfl rfl dX5_statement_282 ?_
        refine g_if_ne X 295 dX5_statement_283 (by decide) (fun c283 => ?_) (fun c283 => ?_)
        · have heq := heq.trans (if_neg c283)
          refine g_aload_n X 1 rfl rfl dX5_statement_295 ?_
          refine g_iconst (v := 0) X (by decide) dX5_statement_296 ?_
          refine g_iconst (v := 1) X (by decide) dX5_statement_297 ?_
          refine g_callVi (C := RX5) (T := TX5) (N := 26) (ci := 5) (As := [.int 0, .int 1]) (st := []) (wr := [(a_fouls, .inl (cI, 2, .inl c_fouls)), (a_calls, .inl (cI, 2, .inl c_calls)), (a_side, .inl (cI, 6, .inl c_side)), (a_kind, .inl (cI, 6, .inl c_kind)), (a_near, .inl (cI, 6, .inl c_near)), (a_far, .inl (cI, 6, .inl c_far)), (a_free, .inl (cI, 6, .inl c_free))]) X (k_X5_digits l D cI kA kV a_ a_fouls a_calls a_side a_kind a_near a_far a_free a_letter a_value a_row a_refusals a_image a_ahead a_guard a_worth c_seconds c_lead c_ball c_rebound c_law c_draw c_players c_letters u278 c_inRow c_imaged c_letter c_value 0 1 ha278 (by decide) (by decide)) (cwV 2 X.2.2.2.2.1 gX5_statement_X5_digits rfl rfl rfl (by decide +kernel) ⟨Nat.le_of_ble_eq_true rfl, Nat.le_of_ble_eq_true rfl⟩) 8 rfl rfl [8, 9, 7] [0, 1, 2, 3, 4, 5, 6] rfl rfl rfl rfl (by decide) rfl (Nat.le_of_ble_eq_true rfl) ⟨Nat.le_of_ble_eq_true rfl, Nat.le_of_ble_eq_true rfl⟩ dX5_statement_298 rfl (fun r298 u298 hw298 => ?_)
          refine g_eqs (ws' := [(a_fouls, .inl (cI, 2, .inl c_fouls)), (a_calls, .inl (cI, 2, .inl c_calls)), (a_side, .inl (cI, 6, .inl c_side)), (a_kind, .inl (cI, 6, .inl c_kind)), (a_near, .inl (cI, 6, .inl c_near)), (a_far, .inl (cI, 6, .inl c_far)), (a_free, .inl (cI, 6, .inl c_free)), (a_, .inr (5, [.int c_seconds, .int c_lead, .int c_ball, .ref a_fouls, .ref a_calls, .int c_rebound, .int c_law, .int c_draw, .int c_players, .ref a_side, .ref a_kind, .ref a_near, .ref a_far, .ref a_free, .int c_letters, .ref a_letter, .int u298.1, .ref a_value, .int c_inRow, .ref a_row, .ref a_refusals, .int c_imaged, .ref a_image, .ref a_ahead, .ref a_guard, .ref a_worth])), (a_letter, .inl (cI, 96, .inl c_letter)), (a_value, .inl (cI, 4, .inl u298.2))]) rfl ?_
          have hd298 := fd_digits ha278 (by decide) (by decide) hw298
          have ha298 := hd298.1
          have heq := g_let2 heq hw298
          refine g_if_ne X 306 dX5_statement_301 (by decide) (fun c301 => ?_) (fun c301 => ?_)
          · have heq := heq.trans (if_neg c301)
            refine g_iload_n X 2 rfl rfl dX5_statement_306 ?_
            refine g_if_ne X 312 dX5_statement_307 (by decide) (fun c307 => ?_) (fun c307 => ?_)
            · have heq := heq.trans (if_neg c307)
              refine g_aload_n X 1 rfl rfl dX5_statement_312 ?_
              refine g_get (C := RX5) (T := TX5) (N := 26) (ci := 5) X hi_X5_statement_X5 7 rfl rfl 17 (by decide) (X.2.2.2.2.1 (.fieldLink RX5 34 "NineteenSecondsLeftModel" "value" "[I") (List.mem_of_getElem? (i := 4) rfl)) rfl rfl dX5_statement_313 ?_
              refine g_iconst (v := 0) X (by decide) dX5_statement_316 ?_
              refine g_iald X 9 rfl (g_vinL (by decide)) dX5_statement_317 ?_
              refine g_bipush (v := 6) X (by decide) dX5_statement_318 ?_
              refine g_icmp_le X 325 dX5_statement_320 (by decide) (fun c320 => ?_) (fun c320 => ?_)
              · have heq := heq.trans (if_pos c320)
                refine g_aload_n X 1 rfl rfl dX5_statement_325 ?_
                refine g_iload_n X 0 rfl rfl dX5_statement_326 ?_
                refine g_if_eq X 342 dX5_statement_327 (by decide) (fun c327 => absurd c327 c283) (fun c327 => ?_)
                refine g_bipush (v := 6) X (by decide) dX5_statement_330 ?_
                refine g_aload_n X 1 rfl rfl dX5_statement_332 ?_
                refine g_get (C := RX5) (T := TX5) (N := 26) (ci := 5) X hi_X5_statement_X5 7 rfl rfl 17 (by decide) (X.2.2.2.2.1 (.fieldLink RX5 34 "NineteenSecondsLeftModel" "value" "[I") (List.mem_of_getElem? (i := 4) rfl)) rfl rfl dX5_statement_333 ?_
                refine g_iconst (v := 0) X (by decide) dX5_statement_336 ?_
                refine g_iald X 9 rfl (g_vinL (by decide)) dX5_statement_337 ?_
                refine g_isub X dX5_statement_338 ?_
                refine g_goto (tgt := 351) X (by decide) dX5_statement_339 ?_
                refine g_put (C := RX5) (T := TX5) (N := 26) (ci := 5) (ws' := [(a_fouls, .inl (cI, 2, .inl c_fouls)), (a_calls, .inl (cI, 2, .inl c_calls)), (a_side, .inl (cI, 6, .inl c_side)), (a_kind, .inl (cI, 6, .inl c_kind)), (a_near, .inl (cI, 6, .inl c_near)), (a_far, .inl (cI, 6, .inl c_far)), (a_free, .inl (cI, 6, .inl c_free)), (a_, .inr (5, [.int c_seconds, .int (6 - (u298.2 (0 : Int32).toNatClampNeg)), .int c_ball, .ref a_fouls, .ref a_calls, .int c_rebound, .int c_law, .int c_draw, .int c_players, .ref a_side, .ref a_kind, .ref a_near, .ref a_far, .ref a_free, .int c_letters, .ref a_letter, .int u298.1, .ref a_value, .int c_inRow, .ref a_row, .ref a_refusals, .int c_imaged, .ref a_image, .ref a_ahead, .ref a_guard, .ref a_worth])), (a_letter, .inl (cI, 96, .inl c_letter)), (a_value, .inl (cI, 4, .inl u298.2))]) X hi_X5_statement_X5 tyX5 tyX5_ok nmX5 7 rfl rfl 1 (by decide) (X.2.2.2.2.1 (.fieldLink RX5 59 "NineteenSecondsLeftModel" "lead" "I") (List.mem_of_getElem? (i := 12) rfl)) rfl rfl rfl rfl (Nat.le_of_ble_eq_true rfl) dX5_statement_351 rfl ?_
                refine g_iconst (v := 1) X (by decide) dX5_statement_354 ?_
                exact g_iret X hAA hQQ (c_seconds, (6 - (u298.2 (0 : Int32).toNatClampNeg)), c_ball, c_rebound, c_law, c_draw, c_players, u298.1, c_fouls, c_calls, c_side, c_kind, c_near, c_far, c_free, u298.2) (heq.symm.trans hXX) [7, 0, 1, 2, 3, 4, 5, 6, 8, 9] rfl rfl hr dX5_statement_355
              · have heq := heq.trans (if_neg c320)
                refine g_iconst (v := 0) X (by decide) dX5_statement_323 ?_
                exact g_iret X hAA hQQ (c_seconds, c_lead, c_ball, c_rebound, c_law, c_draw, c_players, u298.1, c_fouls, c_calls, c_side, c_kind, c_near, c_far, c_free, u298.2) (heq.symm.trans hXX) [7, 0, 1, 2, 3, 4, 5, 6, 8, 9] rfl rfl hr dX5_statement_324
            · have heq := heq.trans (if_pos c307)
              refine g_iconst (v := 1) X (by decide) dX5_statement_310 ?_
              exact g_iret X hAA hQQ (c_seconds, c_lead, c_ball, c_rebound, c_law, c_draw, c_players, u298.1, c_fouls, c_calls, c_side, c_kind, c_near, c_far, c_free, u298.2) (heq.symm.trans hXX) [7, 0, 1, 2, 3, 4, 5, 6, 8, 9] rfl rfl hr dX5_statement_311
          · have heq := heq.trans (if_pos c301)
            refine g_iconst (v := (-1)) X (by decide) dX5_statement_304 ?_
            exact g_iret X hAA hQQ (c_seconds, c_lead, c_ball, c_rebound, c_law, c_draw, c_players, u298.1, c_fouls, c_calls, c_side, c_kind, c_near, c_far, c_free, u298.2) (heq.symm.trans hXX) [7, 0, 1, 2, 3, 4, 5, 6, 8, 9] rfl rfl hr dX5_statement_305
        · have heq := heq.trans (if_pos c283)
          refine g_aload_n X 1 rfl rfl dX5_statement_286 ?_
          refine g_bipush (v := 43) X (by decide) dX5_statement_287 ?_
          refine g_callVi (C := RX5) (T := TX5) (N := 26) (ci := 5) (As := [.int 43]) (st := []) (wr := [(a_fouls, .inl (cI, 2, .inl c_fouls)), (a_calls, .inl (cI, 2, .inl c_calls)), (a_side, .inl (cI, 6, .inl c_side)), (a_kind, .inl (cI, 6, .inl c_kind)), (a_near, .inl (cI, 6, .inl c_near)), (a_far, .inl (cI, 6, .inl c_far)), (a_free, .inl (cI, 6, .inl c_free)), (a_value, .inl (cI, 4, .inl c_value))]) X (k_X5_is l D cI kA kV a_ a_fouls a_calls a_side a_kind a_near a_far a_free a_letter a_value a_row a_refusals a_image a_ahead a_guard a_worth c_seconds c_lead c_ball c_rebound c_law c_draw c_players c_letters u278 c_inRow c_imaged c_letter 43 ha278) (cwV 1 X.2.2.2.2.1 gX5_statement_X5_is rfl rfl rfl (by decide +kernel) ⟨Nat.le_of_ble_eq_true rfl, Nat.le_of_ble_eq_true rfl⟩) 8 rfl rfl [8, 9] [0, 1, 2, 3, 4, 5, 6, 7] rfl rfl rfl rfl (by decide) rfl (Nat.le_of_ble_eq_true rfl) ⟨Nat.le_of_ble_eq_true rfl, Nat.le_of_ble_eq_true rfl⟩ dX5_statement_289 rfl (fun r289 u289 hw289 => ?_)
          refine g_eqs (ws' := [(a_fouls, .inl (cI, 2, .inl c_fouls)), (a_calls, .inl (cI, 2, .inl c_calls)), (a_side, .inl (cI, 6, .inl c_side)), (a_kind, .inl (cI, 6, .inl c_kind)), (a_near, .inl (cI, 6, .inl c_near)), (a_far, .inl (cI, 6, .inl c_far)), (a_free, .inl (cI, 6, .inl c_free)), (a_value, .inl (cI, 4, .inl c_value)), (a_, .inr (5, [.int c_seconds, .int c_lead, .int c_ball, .ref a_fouls, .ref a_calls, .int c_rebound, .int c_law, .int c_draw, .int c_players, .ref a_side, .ref a_kind, .ref a_near, .ref a_far, .ref a_free, .int c_letters, .ref a_letter, .int u289, .ref a_value, .int c_inRow, .ref a_row, .ref a_refusals, .int c_imaged, .ref a_image, .ref a_ahead, .ref a_guard, .ref a_worth])), (a_letter, .inl (cI, 96, .inl c_letter))]) rfl ?_
          have hd289 := fd_is ha278 hw289
          have ha289 := hd289.1
          have heq := g_let2 heq hw289
          refine g_if_eq X 304 dX5_statement_292 (by decide) (fun c292 => ?_) (fun c292 => ?_)
          · have heq := heq.trans (if_pos c292)
            refine g_iconst (v := (-1)) X (by decide) dX5_statement_304 ?_
            exact g_iret X hAA hQQ (c_seconds, c_lead, c_ball, c_rebound, c_law, c_draw, c_players, u289, c_fouls, c_calls, c_side, c_kind, c_near, c_far, c_free, c_value) (heq.symm.trans hXX) [8, 0, 1, 2, 3, 4, 5, 6, 9, 7] rfl rfl hr dX5_statement_305
          · have heq := heq.trans (if_neg c292)
            refine g_aload_n X 1 rfl rfl dX5_statement_295 ?_
            refine g_iconst (v := 0) X (by decide) dX5_statement_296 ?_
            refine g_iconst (v := 1) X (by decide) dX5_statement_297 ?_
            refine g_callVi (C := RX5) (T := TX5) (N := 26) (ci := 5) (As := [.int 0, .int 1]) (st := []) (wr := [(a_fouls, .inl (cI, 2, .inl c_fouls)), (a_calls, .inl (cI, 2, .inl c_calls)), (a_side, .inl (cI, 6, .inl c_side)), (a_kind, .inl (cI, 6, .inl c_kind)), (a_near, .inl (cI, 6, .inl c_near)), (a_far, .inl (cI, 6, .inl c_far)), (a_free, .inl (cI, 6, .inl c_free))]) X (k_X5_digits l D cI kA kV a_ a_fouls a_calls a_side a_kind a_near a_far a_free a_letter a_value a_row a_refusals a_image a_ahead a_guard a_worth c_seconds c_lead c_ball c_rebound c_law c_draw c_players c_letters u289 c_inRow c_imaged c_letter c_value 0 1 ha289 (by decide) (by decide)) (cwV 2 X.2.2.2.2.1 gX5_statement_X5_digits rfl rfl rfl (by decide +kernel) ⟨Nat.le_of_ble_eq_true rfl, Nat.le_of_ble_eq_true rfl⟩) 8 rfl rfl [8, 9, 7] [0, 1, 2, 3, 4, 5, 6] rfl rfl rfl rfl (by decide) rfl (Nat.le_of_ble_eq_true rfl) ⟨Nat.le_of_ble_eq_true rfl, Nat.le_of_ble_eq_true rfl⟩ dX5_statement_298 rfl (fun r298 u298 hw298 => ?_)
            refine g_eqs (ws' := [(a_fouls, .inl (cI, 2, .inl c_fouls)), (a_calls, .inl (cI, 2, .inl c_calls)), (a_side, .inl (cI, 6, .inl c_side)), (a_kind, .inl (cI, 6, .inl c_kind)), (a_near, .inl (cI, 6, .inl c_near)), (a_far, .inl (cI, 6, .inl c_far)), (a_free, .inl (cI, 6, .inl c_free)), (a_, .inr (5, [.int c_seconds, .int c_lead, .int c_ball, .ref a_fouls, .ref a_calls, .int c_rebound, .int c_law, .int c_draw, .int c_players, .ref a_side, .ref a_kind, .ref a_near, .ref a_far, .ref a_free, .int c_letters, .ref a_letter, .int u298.1, .ref a_value, .int c_inRow, .ref a_row, .ref a_refusals, .int c_imaged, .ref a_image, .ref a_ahead, .ref a_guard, .ref a_worth])), (a_letter, .inl (cI, 96, .inl c_letter)), (a_value, .inl (cI, 4, .inl u298.2))]) rfl ?_
            have hd298 := fd_digits ha289 (by decide) (by decide) hw298
            have ha298 := hd298.1
            have heq := g_let2 heq hw298
            refine g_if_ne X 306 dX5_statement_301 (by decide) (fun c301 => ?_) (fun c301 => ?_)
            · have heq := heq.trans (if_neg c301)
              refine g_iload_n X 2 rfl rfl dX5_statement_306 ?_
              refine g_if_ne X 312 dX5_statement_307 (by decide) (fun c307 => ?_) (fun c307 => ?_)
              · have heq := heq.trans (if_neg c307)
                refine g_aload_n X 1 rfl rfl dX5_statement_312 ?_
                refine g_get (C := RX5) (T := TX5) (N := 26) (ci := 5) X hi_X5_statement_X5 7 rfl rfl 17 (by decide) (X.2.2.2.2.1 (.fieldLink RX5 34 "NineteenSecondsLeftModel" "value" "[I") (List.mem_of_getElem? (i := 4) rfl)) rfl rfl dX5_statement_313 ?_
                refine g_iconst (v := 0) X (by decide) dX5_statement_316 ?_
                refine g_iald X 9 rfl (g_vinL (by decide)) dX5_statement_317 ?_
                refine g_bipush (v := 6) X (by decide) dX5_statement_318 ?_
                refine g_icmp_le X 325 dX5_statement_320 (by decide) (fun c320 => ?_) (fun c320 => ?_)
                · have heq := heq.trans (if_pos c320)
                  refine g_aload_n X 1 rfl rfl dX5_statement_325 ?_
                  refine g_iload_n X 0 rfl rfl dX5_statement_326 ?_
                  refine g_if_eq X 342 dX5_statement_327 (by decide) (fun c327 => ?_) (fun c327 => absurd c283 c327)
                  refine g_bipush (v := 6) X (by decide) dX5_statement_342 ?_
                  refine g_aload_n X 1 rfl rfl dX5_statement_344 ?_
                  refine g_get (C := RX5) (T := TX5) (N := 26) (ci := 5) X hi_X5_statement_X5 7 rfl rfl 17 (by decide) (X.2.2.2.2.1 (.fieldLink RX5 34 "NineteenSecondsLeftModel" "value" "[I") (List.mem_of_getElem? (i := 4) rfl)) rfl rfl dX5_statement_345 ?_
                  refine g_iconst (v := 0) X (by decide) dX5_statement_348 ?_
                  refine g_iald X 9 rfl (g_vinL (by decide)) dX5_statement_349 ?_
                  refine g_iadd X dX5_statement_350 ?_
                  refine g_put (C := RX5) (T := TX5) (N := 26) (ci := 5) (ws' := [(a_fouls, .inl (cI, 2, .inl c_fouls)), (a_calls, .inl (cI, 2, .inl c_calls)), (a_side, .inl (cI, 6, .inl c_side)), (a_kind, .inl (cI, 6, .inl c_kind)), (a_near, .inl (cI, 6, .inl c_near)), (a_far, .inl (cI, 6, .inl c_far)), (a_free, .inl (cI, 6, .inl c_free)), (a_, .inr (5, [.int c_seconds, .int (6 + (u298.2 (0 : Int32).toNatClampNeg)), .int c_ball, .ref a_fouls, .ref a_calls, .int c_rebound, .int c_law, .int c_draw, .int c_players, .ref a_side, .ref a_kind, .ref a_near, .ref a_far, .ref a_free, .int c_letters, .ref a_letter, .int u298.1, .ref a_value, .int c_inRow, .ref a_row, .ref a_refusals, .int c_imaged, .ref a_image, .ref a_ahead, .ref a_guard, .ref a_worth])), (a_letter, .inl (cI, 96, .inl c_letter)), (a_value, .inl (cI, 4, .inl u298.2))]) X hi_X5_statement_X5 tyX5 tyX5_ok nmX5 7 rfl rfl 1 (by decide) (X.2.2.2.2.1 (.fieldLink RX5 59 "NineteenSecondsLeftModel" "lead" "I") (List.mem_of_getElem? (i := 12) rfl)) rfl rfl rfl rfl (Nat.le_of_ble_eq_true rfl) dX5_statement_351 rfl ?_
                  refine g_iconst (v := 1) X (by decide) dX5_statement_354 ?_
                  exact g_iret X hAA hQQ (c_seconds, (6 + (u298.2 (0 : Int32).toNatClampNeg)), c_ball, c_rebound, c_law, c_draw, c_players, u298.1, c_fouls, c_calls, c_side, c_kind, c_near, c_far, c_free, u298.2) (heq.symm.trans hXX) [7, 0, 1, 2, 3, 4, 5, 6, 8, 9] rfl rfl hr dX5_statement_355
                · have heq := heq.trans (if_neg c320)
                  refine g_iconst (v := 0) X (by decide) dX5_statement_323 ?_
                  exact g_iret X hAA hQQ (c_seconds, c_lead, c_ball, c_rebound, c_law, c_draw, c_players, u298.1, c_fouls, c_calls, c_side, c_kind, c_near, c_far, c_free, u298.2) (heq.symm.trans hXX) [7, 0, 1, 2, 3, 4, 5, 6, 8, 9] rfl rfl hr dX5_statement_324
              · have heq := heq.trans (if_pos c307)
                refine g_iconst (v := 1) X (by decide) dX5_statement_310 ?_
                exact g_iret X hAA hQQ (c_seconds, c_lead, c_ball, c_rebound, c_law, c_draw, c_players, u298.1, c_fouls, c_calls, c_side, c_kind, c_near, c_far, c_free, u298.2) (heq.symm.trans hXX) [7, 0, 1, 2, 3, 4, 5, 6, 8, 9] rfl rfl hr dX5_statement_311
            · have heq := heq.trans (if_pos c301)
              refine g_iconst (v := (-1)) X (by decide) dX5_statement_304 ?_
              exact g_iret X hAA hQQ (c_seconds, c_lead, c_ball, c_rebound, c_law, c_draw, c_players, u298.1, c_fouls, c_calls, c_side, c_kind, c_near, c_far, c_free, u298.2) (heq.symm.trans hXX) [7, 0, 1, 2, 3, 4, 5, 6, 8, 9] rfl rfl hr dX5_statement_305
    · have heq := heq.trans (if_neg c201)
      refine g_aload_n X 0 rfl rfl dX5_statement_204 ?_
      refine g_iconst (v := 0) X (by decide) dX5_statement_205 ?_
      refine g_iconst (v := 2) X (by decide) dX5_statement_206 ?_
      refine g_callVi (C := RX5) (T := TX5) (N := 26) (ci := 5) (As := [.int 0, .int 2]) (st := []) (wr := [(a_fouls, .inl (cI, 2, .inl c_fouls)), (a_calls, .inl (cI, 2, .inl c_calls)), (a_side, .inl (cI, 6, .inl c_side)), (a_kind, .inl (cI, 6, .inl c_kind)), (a_near, .inl (cI, 6, .inl c_near)), (a_far, .inl (cI, 6, .inl c_far)), (a_free, .inl (cI, 6, .inl c_free))]) X (k_X5_digits l D cI kA kV a_ a_fouls a_calls a_side a_kind a_near a_far a_free a_letter a_value a_row a_refusals a_image a_ahead a_guard a_worth c_seconds c_lead c_ball c_rebound c_law c_draw c_players c_letters u198 c_inRow c_imaged c_letter c_value 0 2 ha198 (by decide) (by decide)) (cwV 2 X.2.2.2.2.1 gX5_statement_X5_digits rfl rfl rfl (by decide +kernel) ⟨Nat.le_of_ble_eq_true rfl, Nat.le_of_ble_eq_true rfl⟩) 8 rfl rfl [8, 9, 7] [0, 1, 2, 3, 4, 5, 6] rfl rfl rfl rfl (by decide) rfl (Nat.le_of_ble_eq_true rfl) ⟨Nat.le_of_ble_eq_true rfl, Nat.le_of_ble_eq_true rfl⟩ dX5_statement_207 rfl (fun r207 u207 hw207 => ?_)
      refine g_eqs (ws' := [(a_fouls, .inl (cI, 2, .inl c_fouls)), (a_calls, .inl (cI, 2, .inl c_calls)), (a_side, .inl (cI, 6, .inl c_side)), (a_kind, .inl (cI, 6, .inl c_kind)), (a_near, .inl (cI, 6, .inl c_near)), (a_far, .inl (cI, 6, .inl c_far)), (a_free, .inl (cI, 6, .inl c_free)), (a_, .inr (5, [.int c_seconds, .int c_lead, .int c_ball, .ref a_fouls, .ref a_calls, .int c_rebound, .int c_law, .int c_draw, .int c_players, .ref a_side, .ref a_kind, .ref a_near, .ref a_far, .ref a_free, .int c_letters, .ref a_letter, .int u207.1, .ref a_value, .int c_inRow, .ref a_row, .ref a_refusals, .int c_imaged, .ref a_image, .ref a_ahead, .ref a_guard, .ref a_worth])), (a_letter, .inl (cI, 96, .inl c_letter)), (a_value, .inl (cI, 4, .inl u207.2))]) rfl ?_
      have hd207 := fd_digits ha198 (by decide) (by decide) hw207
      have ha207 := hd207.1
      have heq := g_let2 heq hw207
      refine g_if_ne X 215 dX5_statement_210 (by decide) (fun c210 => ?_) (fun c210 => ?_)
      · have heq := heq.trans (if_neg c210)
        refine g_iload_n X 1 rfl rfl dX5_statement_215 ?_
        refine g_if_ne X 221 dX5_statement_216 (by decide) (fun c216 => ?_) (fun c216 => ?_)
        · have heq := heq.trans (if_neg c216)
          refine g_bipush (v := 10) X (by decide) dX5_statement_221 ?_
          refine g_aload_n X 0 rfl rfl dX5_statement_223 ?_
          refine g_get (C := RX5) (T := TX5) (N := 26) (ci := 5) X hi_X5_statement_X5 7 rfl rfl 17 (by decide) (X.2.2.2.2.1 (.fieldLink RX5 34 "NineteenSecondsLeftModel" "value" "[I") (List.mem_of_getElem? (i := 4) rfl)) rfl rfl dX5_statement_224 ?_
          refine g_iconst (v := 0) X (by decide) dX5_statement_227 ?_
          refine g_iald X 9 rfl (g_vinL (by decide)) dX5_statement_228 ?_
          refine g_imul X dX5_statement_229 ?_
          refine g_aload_n X 0 rfl rfl dX5_statement_230 ?_
          refine g_get (C := RX5) (T := TX5) (N := 26) (ci := 5) X hi_X5_statement_X5 7 rfl rfl 17 (by decide) (X.2.2.2.2.1 (.fieldLink RX5 34 "NineteenSecondsLeftModel" "value" "[I") (List.mem_of_getElem? (i := 4) rfl)) rfl rfl dX5_statement_231 ?_
          refine g_iconst (v := 1) X (by decide) dX5_statement_234 ?_
          refine g_iald X 9 rfl (g_vinL (by decide)) dX5_statement_235 ?_
          refine g_iadd X dX5_statement_236 ?_
          refine g_bipush (v := 24) X (by decide) dX5_statement_237 ?_
          refine g_icmp_le X 244 dX5_statement_239 (by decide) (fun c239 => ?_) (fun c239 => ?_)
          · have heq := heq.trans (if_pos c239)
            refine g_aload_n X 0 rfl rfl dX5_statement_244 ?_
            refine g_bipush (v := 10) X (by decide) dX5_statement_245 ?_
            refine g_aload_n X 0 rfl rfl dX5_statement_247 ?_
            refine g_get (C := RX5) (T := TX5) (N := 26) (ci := 5) X hi_X5_statement_X5 7 rfl rfl 17 (by decide) (X.2.2.2.2.1 (.fieldLink RX5 34 "NineteenSecondsLeftModel" "value" "[I") (List.mem_of_getElem? (i := 4) rfl)) rfl rfl dX5_statement_248 ?_
            refine g_iconst (v := 0) X (by decide) dX5_statement_251 ?_
            refine g_iald X 9 rfl (g_vinL (by decide)) dX5_statement_252 ?_
            refine g_imul X dX5_statement_253 ?_
            refine g_aload_n X 0 rfl rfl dX5_statement_254 ?_
            refine g_get (C := RX5) (T := TX5) (N := 26) (ci := 5) X hi_X5_statement_X5 7 rfl rfl 17 (by decide) (X.2.2.2.2.1 (.fieldLink RX5 34 "NineteenSecondsLeftModel" "value" "[I") (List.mem_of_getElem? (i := 4) rfl)) rfl rfl dX5_statement_255 ?_
            refine g_iconst (v := 1) X (by decide) dX5_statement_258 ?_
            refine g_iald X 9 rfl (g_vinL (by decide)) dX5_statement_259 ?_
            refine g_iadd X dX5_statement_260 ?_
            refine g_put (C := RX5) (T := TX5) (N := 26) (ci := 5) (ws' := [(a_fouls, .inl (cI, 2, .inl c_fouls)), (a_calls, .inl (cI, 2, .inl c_calls)), (a_side, .inl (cI, 6, .inl c_side)), (a_kind, .inl (cI, 6, .inl c_kind)), (a_near, .inl (cI, 6, .inl c_near)), (a_far, .inl (cI, 6, .inl c_far)), (a_free, .inl (cI, 6, .inl c_free)), (a_, .inr (5, [.int ((10 * (u207.2 (0 : Int32).toNatClampNeg)) + (u207.2 (1 : Int32).toNatClampNeg)), .int c_lead, .int c_ball, .ref a_fouls, .ref a_calls, .int c_rebound, .int c_law, .int c_draw, .int c_players, .ref a_side, .ref a_kind, .ref a_near, .ref a_far, .ref a_free, .int c_letters, .ref a_letter, .int u207.1, .ref a_value, .int c_inRow, .ref a_row, .ref a_refusals, .int c_imaged, .ref a_image, .ref a_ahead, .ref a_guard, .ref a_worth])), (a_letter, .inl (cI, 96, .inl c_letter)), (a_value, .inl (cI, 4, .inl u207.2))]) X hi_X5_statement_X5 tyX5 tyX5_ok nmX5 7 rfl rfl 0 (by decide) (X.2.2.2.2.1 (.fieldLink RX5 55 "NineteenSecondsLeftModel" "seconds" "I") (List.mem_of_getElem? (i := 11) rfl)) rfl rfl rfl rfl (Nat.le_of_ble_eq_true rfl) dX5_statement_261 rfl ?_
            refine g_iconst (v := 1) X (by decide) dX5_statement_264 ?_
            exact g_iret X hAA hQQ (((10 * (u207.2 (0 : Int32).toNatClampNeg)) + (u207.2 (1 : Int32).toNatClampNeg)), c_lead, c_ball, c_rebound, c_law, c_draw, c_players, u207.1, c_fouls, c_calls, c_side, c_kind, c_near, c_far, c_free, u207.2) (heq.symm.trans hXX) [7, 0, 1, 2, 3, 4, 5, 6, 8, 9] rfl rfl hr dX5_statement_265
          · have heq := heq.trans (if_neg c239)
            refine g_iconst (v := 0) X (by decide) dX5_statement_242 ?_
            exact g_iret X hAA hQQ (c_seconds, c_lead, c_ball, c_rebound, c_law, c_draw, c_players, u207.1, c_fouls, c_calls, c_side, c_kind, c_near, c_far, c_free, u207.2) (heq.symm.trans hXX) [7, 0, 1, 2, 3, 4, 5, 6, 8, 9] rfl rfl hr dX5_statement_243
        · have heq := heq.trans (if_pos c216)
          refine g_iconst (v := 1) X (by decide) dX5_statement_219 ?_
          exact g_iret X hAA hQQ (c_seconds, c_lead, c_ball, c_rebound, c_law, c_draw, c_players, u207.1, c_fouls, c_calls, c_side, c_kind, c_near, c_far, c_free, u207.2) (heq.symm.trans hXX) [7, 0, 1, 2, 3, 4, 5, 6, 8, 9] rfl rfl hr dX5_statement_220
      · have heq := heq.trans (if_pos c210)
        refine g_iconst (v := (-1)) X (by decide) dX5_statement_213 ?_
        exact g_iret X hAA hQQ (c_seconds, c_lead, c_ball, c_rebound, c_law, c_draw, c_players, u207.1, c_fouls, c_calls, c_side, c_kind, c_near, c_far, c_free, u207.2) (heq.symm.trans hXX) [7, 0, 1, 2, 3, 4, 5, 6, 8, 9] rfl rfl hr dX5_statement_214
  · have heq := heq.trans (if_neg c6)
    refine g_aload_n X 0 rfl rfl dX5_statement_9 ?_
    refine g_iconst (v := 0) X (by decide) dX5_statement_10 ?_
    refine g_iconst (v := 1) X (by decide) dX5_statement_11 ?_
    refine g_callVi (C := RX5) (T := TX5) (N := 26) (ci := 5) (As := [.int 0, .int 1]) (st := []) (wr := [(a_fouls, .inl (cI, 2, .inl c_fouls)), (a_calls, .inl (cI, 2, .inl c_calls)), (a_side, .inl (cI, 6, .inl c_side)), (a_kind, .inl (cI, 6, .inl c_kind)), (a_near, .inl (cI, 6, .inl c_near)), (a_far, .inl (cI, 6, .inl c_far)), (a_free, .inl (cI, 6, .inl c_free))]) X (k_X5_digits l D cI kA kV a_ a_fouls a_calls a_side a_kind a_near a_far a_free a_letter a_value a_row a_refusals a_image a_ahead a_guard a_worth c_seconds c_lead c_ball c_rebound c_law c_draw c_players c_letters u3 c_inRow c_imaged c_letter c_value 0 1 ha3 (by decide) (by decide)) (cwV 2 X.2.2.2.2.1 gX5_statement_X5_digits rfl rfl rfl (by decide +kernel) ⟨Nat.le_of_ble_eq_true rfl, Nat.le_of_ble_eq_true rfl⟩) 8 rfl rfl [8, 9, 7] [0, 1, 2, 3, 4, 5, 6] rfl rfl rfl rfl (by decide) rfl (Nat.le_of_ble_eq_true rfl) ⟨Nat.le_of_ble_eq_true rfl, Nat.le_of_ble_eq_true rfl⟩ dX5_statement_12 rfl (fun r12 u12 hw12 => ?_)
    refine g_eqs (ws' := [(a_fouls, .inl (cI, 2, .inl c_fouls)), (a_calls, .inl (cI, 2, .inl c_calls)), (a_side, .inl (cI, 6, .inl c_side)), (a_kind, .inl (cI, 6, .inl c_kind)), (a_near, .inl (cI, 6, .inl c_near)), (a_far, .inl (cI, 6, .inl c_far)), (a_free, .inl (cI, 6, .inl c_free)), (a_, .inr (5, [.int c_seconds, .int c_lead, .int c_ball, .ref a_fouls, .ref a_calls, .int c_rebound, .int c_law, .int c_draw, .int c_players, .ref a_side, .ref a_kind, .ref a_near, .ref a_far, .ref a_free, .int c_letters, .ref a_letter, .int u12.1, .ref a_value, .int c_inRow, .ref a_row, .ref a_refusals, .int c_imaged, .ref a_image, .ref a_ahead, .ref a_guard, .ref a_worth])), (a_letter, .inl (cI, 96, .inl c_letter)), (a_value, .inl (cI, 4, .inl u12.2))]) rfl ?_
    have hd12 := fd_digits ha3 (by decide) (by decide) hw12
    have ha12 := hd12.1
    have heq := g_let2 heq hw12
    refine g_if_ne X 20 dX5_statement_15 (by decide) (fun c15 => ?_) (fun c15 => ?_)
    · have heq := heq.trans (if_neg c15)
      refine g_aload_n X 0 rfl rfl dX5_statement_20 ?_
      refine g_get (C := RX5) (T := TX5) (N := 26) (ci := 5) X hi_X5_statement_X5 7 rfl rfl 16 (by decide) (X.2.2.2.2.1 (.fieldLink RX5 83 "NineteenSecondsLeftModel" "at" "I") (List.mem_of_getElem? (i := 1) rfl)) rfl rfl dX5_statement_21 ?_
      refine g_aload_n X 0 rfl rfl dX5_statement_24 ?_
      refine g_get (C := RX5) (T := TX5) (N := 26) (ci := 5) X hi_X5_statement_X5 7 rfl rfl 14 (by decide) (X.2.2.2.2.1 (.fieldLink RX5 80 "NineteenSecondsLeftModel" "letters" "I") (List.mem_of_getElem? (i := 2) rfl)) rfl rfl dX5_statement_25 ?_
      refine g_icmp_ge X 60 dX5_statement_28 (by decide) (fun c28 => ?_) (fun c28 => ?_)
      · have heq := heq.trans (if_pos c28)
        refine g_iconst (v := (-1)) X (by decide) dX5_statement_60 ?_
        refine g_istore_n (lv' := [(2, .int (-1)), (0, .ref a_), (1, .int p1)]) X rfl (by decide) rfl dX5_statement_61 ?_
        refine g_iload_n X 0 rfl rfl dX5_statement_62 ?_
        refine g_if_ge X 68 dX5_statement_63 (by decide) (fun c63 => absurd c63 (by decide)) (fun c63 => ?_)
        refine g_iconst (v := (-1)) X (by decide) dX5_statement_66 ?_
        exact g_iret X hAA hQQ (c_seconds, c_lead, c_ball, c_rebound, c_law, c_draw, c_players, u12.1, c_fouls, c_calls, c_side, c_kind, c_near, c_far, c_free, u12.2) (heq.symm.trans hXX) [7, 0, 1, 2, 3, 4, 5, 6, 8, 9] rfl rfl hr dX5_statement_67
      · have heq := heq.trans (if_neg c28)
        refine g_aload_n X 0 rfl rfl dX5_statement_31 ?_
        refine g_get (C := RX5) (T := TX5) (N := 26) (ci := 5) X hi_X5_statement_X5 7 rfl rfl 15 (by decide) (X.2.2.2.2.1 (.fieldLink RX5 31 "NineteenSecondsLeftModel" "letter" "[I") (List.mem_of_getElem? (i := 3) rfl)) rfl rfl dX5_statement_32 ?_
        refine g_aload_n X 0 rfl rfl dX5_statement_35 ?_
        refine g_get (C := RX5) (T := TX5) (N := 26) (ci := 5) X hi_X5_statement_X5 7 rfl rfl 16 (by decide) (X.2.2.2.2.1 (.fieldLink RX5 83 "NineteenSecondsLeftModel" "at" "I") (List.mem_of_getElem? (i := 1) rfl)) rfl rfl dX5_statement_36 ?_
        refine g_iald X 8 rfl (ha12.vinl c28) dX5_statement_39 ?_
        refine g_if_le X 60 dX5_statement_40 (by decide) (fun c40 => ?_) (fun c40 => ?_)
        · have heq := heq.trans (if_pos c40)
          refine g_iconst (v := (-1)) X (by decide) dX5_statement_60 ?_
          refine g_istore_n (lv' := [(2, .int (-1)), (0, .ref a_), (1, .int p1)]) X rfl (by decide) rfl dX5_statement_61 ?_
          refine g_iload_n X 0 rfl rfl dX5_statement_62 ?_
          refine g_if_ge X 68 dX5_statement_63 (by decide) (fun c63 => absurd c63 (by decide)) (fun c63 => ?_)
          refine g_iconst (v := (-1)) X (by decide) dX5_statement_66 ?_
          exact g_iret X hAA hQQ (c_seconds, c_lead, c_ball, c_rebound, c_law, c_draw, c_players, u12.1, c_fouls, c_calls, c_side, c_kind, c_near, c_far, c_free, u12.2) (heq.symm.trans hXX) [7, 0, 1, 2, 3, 4, 5, 6, 8, 9] rfl rfl hr dX5_statement_67
        · have heq := heq.trans (if_neg c40)
          refine g_ldcS X 5 (Nat.le_of_ble_eq_true rfl) rfl rfl dX5_statement_43 ?_
          refine g_aload_n X 0 rfl rfl dX5_statement_45 ?_
          refine g_get (C := RX5) (T := TX5) (N := 26) (ci := 5) X hi_X5_statement_X5 7 rfl rfl 15 (by decide) (X.2.2.2.2.1 (.fieldLink RX5 31 "NineteenSecondsLeftModel" "letter" "[I") (List.mem_of_getElem? (i := 3) rfl)) rfl rfl dX5_statement_46 ?_
          refine g_aload_n X 0 rfl rfl dX5_statement_49 ?_
          refine g_get (C := RX5) (T := TX5) (N := 26) (ci := 5) X hi_X5_statement_X5 7 rfl rfl 16 (by decide) (X.2.2.2.2.1 (.fieldLink RX5 83 "NineteenSecondsLeftModel" "at" "I") (List.mem_of_getElem? (i := 1) rfl)) rfl rfl dX5_statement_50 ?_
          refine g_iald X 8 rfl (ha12.vinl c28) dX5_statement_53 ?_
          refine g_callTi (As := [.int (c_letter u12.1.toNatClampNeg)]) (st := []) (wr := [(a_fouls, .inl (cI, 2, .inl c_fouls)), (a_calls, .inl (cI, 2, .inl c_calls)), (a_side, .inl (cI, 6, .inl c_side)), (a_kind, .inl (cI, 6, .inl c_kind)), (a_near, .inl (cI, 6, .inl c_near)), (a_far, .inl (cI, 6, .inl c_far)), (a_free, .inl (cI, 6, .inl c_free)), (a_, .inr (5, [.int c_seconds, .int c_lead, .int c_ball, .ref a_fouls, .ref a_calls, .int c_rebound, .int c_law, .int c_draw, .int c_players, .ref a_side, .ref a_kind, .ref a_near, .ref a_far, .ref a_free, .int c_letters, .ref a_letter, .int u12.1, .ref a_value, .int c_inRow, .ref a_row, .ref a_refusals, .int c_imaged, .ref a_image, .ref a_ahead, .ref a_guard, .ref a_worth])), (a_letter, .inl (cI, 96, .inl c_letter)), (a_value, .inl (cI, 4, .inl u12.2))]) X (k_J0_indexOf_0f7a4 l D cI kA kV 5 (c_letter u12.1.toNatClampNeg) (Nat.le_of_ble_eq_true rfl)) (cwV 1 X.2.2.2.2.1 gX5_statement_J0_indexOf_0f7a4 rfl rfl rfl (by decide +kernel) ⟨Nat.le_of_ble_eq_true rfl, Nat.le_of_ble_eq_true rfl⟩) (Nat.le_of_ble_eq_true rfl) [] [0, 1, 2, 3, 4, 5, 6, 7, 8, 9] rfl rfl rfl rfl (by decide) rfl (Nat.le_of_ble_eq_true rfl) ⟨Nat.le_of_ble_eq_true rfl, Nat.le_of_ble_eq_true rfl⟩ dX5_statement_54 rfl (fun r54 u54 hw54 => ?_)
          refine g_eqs (ws' := [(a_fouls, .inl (cI, 2, .inl c_fouls)), (a_calls, .inl (cI, 2, .inl c_calls)), (a_side, .inl (cI, 6, .inl c_side)), (a_kind, .inl (cI, 6, .inl c_kind)), (a_near, .inl (cI, 6, .inl c_near)), (a_far, .inl (cI, 6, .inl c_far)), (a_free, .inl (cI, 6, .inl c_free)), (a_, .inr (5, [.int c_seconds, .int c_lead, .int c_ball, .ref a_fouls, .ref a_calls, .int c_rebound, .int c_law, .int c_draw, .int c_players, .ref a_side, .ref a_kind, .ref a_near, .ref a_far, .ref a_free, .int c_letters, .ref a_letter, .int u12.1, .ref a_value, .int c_inRow, .ref a_row, .ref a_refusals, .int c_imaged, .ref a_image, .ref a_ahead, .ref a_guard, .ref a_worth])), (a_letter, .inl (cI, 96, .inl c_letter)), (a_value, .inl (cI, 4, .inl u12.2))]) rfl ?_
          have heq := g_let heq hw54
          refine g_goto (tgt := 61) X (by decide) dX5_statement_57 ?_
          refine g_istore_n (lv' := [(2, .int r54), (0, .ref a_), (1, .int p1)]) X rfl (by decide) rfl dX5_statement_61 ?_
          refine g_iload_n X 0 rfl rfl dX5_statement_62 ?_
          refine g_if_ge X 68 dX5_statement_63 (by decide) (fun c63 => ?_) (fun c63 => ?_)
          · have heq := heq.trans (if_pos c63)
            refine g_aload_n X 1 rfl rfl dX5_statement_68 ?_
            refine g_dup X rfl dX5_statement_69 ?_
            refine g_get (C := RX5) (T := TX5) (N := 26) (ci := 5) X hi_X5_statement_X5 7 rfl rfl 16 (by decide) (X.2.2.2.2.1 (.fieldLink RX5 83 "NineteenSecondsLeftModel" "at" "I") (List.mem_of_getElem? (i := 1) rfl)) rfl rfl dX5_statement_70 ?_
            refine g_iconst (v := 1) X (by decide) dX5_statement_73 ?_
            refine g_iadd X dX5_statement_74 ?_
            refine g_put (C := RX5) (T := TX5) (N := 26) (ci := 5) (ws' := [(a_fouls, .inl (cI, 2, .inl c_fouls)), (a_calls, .inl (cI, 2, .inl c_calls)), (a_side, .inl (cI, 6, .inl c_side)), (a_kind, .inl (cI, 6, .inl c_kind)), (a_near, .inl (cI, 6, .inl c_near)), (a_far, .inl (cI, 6, .inl c_far)), (a_free, .inl (cI, 6, .inl c_free)), (a_, .inr (5, [.int c_seconds, .int c_lead, .int c_ball, .ref a_fouls, .ref a_calls, .int c_rebound, .int c_law, .int c_draw, .int c_players, .ref a_side, .ref a_kind, .ref a_near, .ref a_far, .ref a_free, .int c_letters, .ref a_letter, .int (u12.1 + 1), .ref a_value, .int c_inRow, .ref a_row, .ref a_refusals, .int c_imaged, .ref a_image, .ref a_ahead, .ref a_guard, .ref a_worth])), (a_letter, .inl (cI, 96, .inl c_letter)), (a_value, .inl (cI, 4, .inl u12.2))]) X hi_X5_statement_X5 tyX5 tyX5_ok nmX5 7 rfl rfl 16 (by decide) (X.2.2.2.2.1 (.fieldLink RX5 83 "NineteenSecondsLeftModel" "at" "I") (List.mem_of_getElem? (i := 1) rfl)) rfl rfl rfl rfl (Nat.le_of_ble_eq_true rfl) dX5_statement_75 rfl ?_
            refine g_aload_n X 1 rfl rfl dX5_statement_78 ?_
            refine g_iconst (v := 1) X (by decide) dX5_statement_79 ?_
            refine g_iconst (v := 3) X (by decide) dX5_statement_80 ?_
            refine g_callVi (C := RX5) (T := TX5) (N := 26) (ci := 5) (As := [.int 1, .int 3]) (st := []) (wr := [(a_fouls, .inl (cI, 2, .inl c_fouls)), (a_calls, .inl (cI, 2, .inl c_calls)), (a_side, .inl (cI, 6, .inl c_side)), (a_kind, .inl (cI, 6, .inl c_kind)), (a_near, .inl (cI, 6, .inl c_near)), (a_far, .inl (cI, 6, .inl c_far)), (a_free, .inl (cI, 6, .inl c_free))]) X (k_X5_digits l D cI kA kV a_ a_fouls a_calls a_side a_kind a_near a_far a_free a_letter a_value a_row a_refusals a_image a_ahead a_guard a_worth c_seconds c_lead c_ball c_rebound c_law c_draw c_players c_letters (u12.1 + 1) c_inRow c_imaged c_letter u12.2 1 3 (ha12.succ c28) (by decide) (by decide)) (cwV 2 X.2.2.2.2.1 gX5_statement_X5_digits rfl rfl rfl (by decide +kernel) ⟨Nat.le_of_ble_eq_true rfl, Nat.le_of_ble_eq_true rfl⟩) 7 rfl rfl [7, 8, 9] [0, 1, 2, 3, 4, 5, 6] rfl rfl rfl rfl (by decide) rfl (Nat.le_of_ble_eq_true rfl) ⟨Nat.le_of_ble_eq_true rfl, Nat.le_of_ble_eq_true rfl⟩ dX5_statement_81 rfl (fun r81 u81 hw81 => ?_)
            refine g_eqs (ws' := [(a_fouls, .inl (cI, 2, .inl c_fouls)), (a_calls, .inl (cI, 2, .inl c_calls)), (a_side, .inl (cI, 6, .inl c_side)), (a_kind, .inl (cI, 6, .inl c_kind)), (a_near, .inl (cI, 6, .inl c_near)), (a_far, .inl (cI, 6, .inl c_far)), (a_free, .inl (cI, 6, .inl c_free)), (a_, .inr (5, [.int c_seconds, .int c_lead, .int c_ball, .ref a_fouls, .ref a_calls, .int c_rebound, .int c_law, .int c_draw, .int c_players, .ref a_side, .ref a_kind, .ref a_near, .ref a_far, .ref a_free, .int c_letters, .ref a_letter, .int u81.1, .ref a_value, .int c_inRow, .ref a_row, .ref a_refusals, .int c_imaged, .ref a_image, .ref a_ahead, .ref a_guard, .ref a_worth])), (a_letter, .inl (cI, 96, .inl c_letter)), (a_value, .inl (cI, 4, .inl u81.2))]) rfl ?_
            have hd81 := fd_digits (ha12.succ c28) (by decide) (by decide) hw81
            have ha81 := hd81.1
            have heq := g_let2 heq hw81
            refine g_if_ne X 89 dX5_statement_84 (by decide) (fun c84 => ?_) (fun c84 => ?_)
            · have heq := heq.trans (if_neg c84)
              refine g_iload_n X 2 rfl rfl dX5_statement_89 ?_
              refine g_if_ne X 95 dX5_statement_90 (by decide) (fun c90 => ?_) (fun c90 => ?_)
              · have heq := heq.trans (if_neg c90)
                refine g_aload_n X 1 rfl rfl dX5_statement_95 ?_
                refine g_get (C := RX5) (T := TX5) (N := 26) (ci := 5) X hi_X5_statement_X5 7 rfl rfl 17 (by decide) (X.2.2.2.2.1 (.fieldLink RX5 34 "NineteenSecondsLeftModel" "value" "[I") (List.mem_of_getElem? (i := 4) rfl)) rfl rfl dX5_statement_96 ?_
                refine g_iconst (v := 0) X (by decide) dX5_statement_99 ?_
                refine g_iald X 9 rfl (g_vinL (by decide)) dX5_statement_100 ?_
                refine g_iconst (v := 1) X (by decide) dX5_statement_101 ?_
                refine g_icmp_gt X 114 dX5_statement_102 (by decide) (fun c102 => ?_) (fun c102 => ?_)
                · have heq := heq.trans (if_pos c102)
                  refine g_iconst (v := 0) X (by decide) dX5_statement_114 ?_
                  exact g_iret X hAA hQQ (c_seconds, c_lead, c_ball, c_rebound, c_law, c_draw, c_players, u81.1, c_fouls, c_calls, c_side, c_kind, c_near, c_far, c_free, u81.2) (heq.symm.trans hXX) [7, 0, 1, 2, 3, 4, 5, 6, 8, 9] rfl rfl hr dX5_statement_115
                · have heq := heq.trans (if_neg c102)
                  refine g_aload_n X 1 rfl rfl dX5_statement_105 ?_
                  refine g_get (C := RX5) (T := TX5) (N := 26) (ci := 5) X hi_X5_statement_X5 7 rfl rfl 8 (by decide) (X.2.2.2.2.1 (.fieldLink RX5 73 "NineteenSecondsLeftModel" "players" "I") (List.mem_of_getElem? (i := 5) rfl)) rfl rfl dX5_statement_106 ?_
                  refine g_bipush (v := 6) X (by decide) dX5_statement_109 ?_
                  refine g_icmp_ne X 116 dX5_statement_111 (by decide) (fun c111 => ?_) (fun c111 => ?_)
                  · have heq := heq.trans (if_neg c111)
                    refine g_aload_n X 1 rfl rfl dX5_statement_116 ?_
                    refine g_get (C := RX5) (T := TX5) (N := 26) (ci := 5) X hi_X5_statement_X5 7 rfl rfl 9 (by decide) (X.2.2.2.2.1 (.fieldLink RX5 16 "NineteenSecondsLeftModel" "side" "[I") (List.mem_of_getElem? (i := 6) rfl)) rfl rfl dX5_statement_117 ?_
                    refine g_aload_n X 1 rfl rfl dX5_statement_120 ?_
                    refine g_get (C := RX5) (T := TX5) (N := 26) (ci := 5) X hi_X5_statement_X5 7 rfl rfl 8 (by decide) (X.2.2.2.2.1 (.fieldLink RX5 73 "NineteenSecondsLeftModel" "players" "I") (List.mem_of_getElem? (i := 5) rfl)) rfl rfl dX5_statement_121 ?_
                    refine g_aload_n X 1 rfl rfl dX5_statement_124 ?_
                    refine g_get (C := RX5) (T := TX5) (N := 26) (ci := 5) X hi_X5_statement_X5 7 rfl rfl 17 (by decide) (X.2.2.2.2.1 (.fieldLink RX5 34 "NineteenSecondsLeftModel" "value" "[I") (List.mem_of_getElem? (i := 4) rfl)) rfl rfl dX5_statement_125 ?_
                    refine g_iconst (v := 0) X (by decide) dX5_statement_128 ?_
                    refine g_iald X 9 rfl (g_vinL (by decide)) dX5_statement_129 ?_
                    refine g_iast (ws' := [(a_fouls, .inl (cI, 2, .inl c_fouls)), (a_calls, .inl (cI, 2, .inl c_calls)), (a_side, .inl (cI, 6, .inl (upd c_side c_players.toNatClampNeg (u81.2 (0 : Int32).toNatClampNeg)))), (a_kind, .inl (cI, 6, .inl c_kind)), (a_near, .inl (cI, 6, .inl c_near)), (a_far, .inl (cI, 6, .inl c_far)), (a_free, .inl (cI, 6, .inl c_free)), (a_, .inr (5, [.int c_seconds, .int c_lead, .int c_ball, .ref a_fouls, .ref a_calls, .int c_rebound, .int c_law, .int c_draw, .int c_players, .ref a_side, .ref a_kind, .ref a_near, .ref a_far, .ref a_free, .int c_letters, .ref a_letter, .int u81.1, .ref a_value, .int c_inRow, .ref a_row, .ref a_refusals, .int c_imaged, .ref a_image, .ref a_ahead, .ref a_guard, .ref a_worth])), (a_letter, .inl (cI, 96, .inl c_letter)), (a_value, .inl (cI, 4, .inl u81.2))]) X 2 rfl (g_vinNe (by decide) hp.1 hp.2 c111) dX5_statement_130 rfl ?_
                    refine g_aload_n X 1 rfl rfl dX5_statement_131 ?_
                    refine g_get (C := RX5) (T := TX5) (N := 26) (ci := 5) X hi_X5_statement_X5 7 rfl rfl 10 (by decide) (X.2.2.2.2.1 (.fieldLink RX5 19 "NineteenSecondsLeftModel" "kind" "[I") (List.mem_of_getElem? (i := 7) rfl)) rfl rfl dX5_statement_132 ?_
                    refine g_aload_n X 1 rfl rfl dX5_statement_135 ?_
                    refine g_get (C := RX5) (T := TX5) (N := 26) (ci := 5) X hi_X5_statement_X5 7 rfl rfl 8 (by decide) (X.2.2.2.2.1 (.fieldLink RX5 73 "NineteenSecondsLeftModel" "players" "I") (List.mem_of_getElem? (i := 5) rfl)) rfl rfl dX5_statement_136 ?_
                    refine g_iload_n X 0 rfl rfl dX5_statement_139 ?_
                    refine g_iast (ws' := [(a_fouls, .inl (cI, 2, .inl c_fouls)), (a_calls, .inl (cI, 2, .inl c_calls)), (a_side, .inl (cI, 6, .inl (upd c_side c_players.toNatClampNeg (u81.2 (0 : Int32).toNatClampNeg)))), (a_kind, .inl (cI, 6, .inl (upd c_kind c_players.toNatClampNeg r54))), (a_near, .inl (cI, 6, .inl c_near)), (a_far, .inl (cI, 6, .inl c_far)), (a_free, .inl (cI, 6, .inl c_free)), (a_, .inr (5, [.int c_seconds, .int c_lead, .int c_ball, .ref a_fouls, .ref a_calls, .int c_rebound, .int c_law, .int c_draw, .int c_players, .ref a_side, .ref a_kind, .ref a_near, .ref a_far, .ref a_free, .int c_letters, .ref a_letter, .int u81.1, .ref a_value, .int c_inRow, .ref a_row, .ref a_refusals, .int c_imaged, .ref a_image, .ref a_ahead, .ref a_guard, .ref a_worth])), (a_letter, .inl (cI, 96, .inl c_letter)), (a_value, .inl (cI, 4, .inl u81.2))]) X 3 rfl (g_vinNe (by decide) hp.1 hp.2 c111) dX5_statement_140 rfl ?_
                    refine g_aload_n X 1 rfl rfl dX5_statement_141 ?_
                    refine g_get (C := RX5) (T := TX5) (N := 26) (ci := 5) X hi_X5_statement_X5 7 rfl rfl 11 (by decide) (X.2.2.2.2.1 (.fieldLink RX5 22 "NineteenSecondsLeftModel" "near" "[I") (List.mem_of_getElem? (i := 8) rfl)) rfl rfl dX5_statement_142 ?_
                    refine g_aload_n X 1 rfl rfl dX5_statement_145 ?_
                    refine g_get (C := RX5) (T := TX5) (N := 26) (ci := 5) X hi_X5_statement_X5 7 rfl rfl 8 (by decide) (X.2.2.2.2.1 (.fieldLink RX5 73 "NineteenSecondsLeftModel" "players" "I") (List.mem_of_getElem? (i := 5) rfl)) rfl rfl dX5_statement_146 ?_
                    refine g_aload_n X 1 rfl rfl dX5_statement_149 ?_
                    refine g_get (C := RX5) (T := TX5) (N := 26) (ci := 5) X hi_X5_statement_X5 7 rfl rfl 17 (by decide) (X.2.2.2.2.1 (.fieldLink RX5 34 "NineteenSecondsLeftModel" "value" "[I") (List.mem_of_getElem? (i := 4) rfl)) rfl rfl dX5_statement_150 ?_
                    refine g_iconst (v := 1) X (by decide) dX5_statement_153 ?_
                    refine g_iald X 9 rfl (g_vinL (by decide)) dX5_statement_154 ?_
                    refine g_iast (ws' := [(a_fouls, .inl (cI, 2, .inl c_fouls)), (a_calls, .inl (cI, 2, .inl c_calls)), (a_side, .inl (cI, 6, .inl (upd c_side c_players.toNatClampNeg (u81.2 (0 : Int32).toNatClampNeg)))), (a_kind, .inl (cI, 6, .inl (upd c_kind c_players.toNatClampNeg r54))), (a_near, .inl (cI, 6, .inl (upd c_near c_players.toNatClampNeg (u81.2 (1 : Int32).toNatClampNeg)))), (a_far, .inl (cI, 6, .inl c_far)), (a_free, .inl (cI, 6, .inl c_free)), (a_, .inr (5, [.int c_seconds, .int c_lead, .int c_ball, .ref a_fouls, .ref a_calls, .int c_rebound, .int c_law, .int c_draw, .int c_players, .ref a_side, .ref a_kind, .ref a_near, .ref a_far, .ref a_free, .int c_letters, .ref a_letter, .int u81.1, .ref a_value, .int c_inRow, .ref a_row, .ref a_refusals, .int c_imaged, .ref a_image, .ref a_ahead, .ref a_guard, .ref a_worth])), (a_letter, .inl (cI, 96, .inl c_letter)), (a_value, .inl (cI, 4, .inl u81.2))]) X 4 rfl (g_vinNe (by decide) hp.1 hp.2 c111) dX5_statement_155 rfl ?_
                    refine g_aload_n X 1 rfl rfl dX5_statement_156 ?_
                    refine g_get (C := RX5) (T := TX5) (N := 26) (ci := 5) X hi_X5_statement_X5 7 rfl rfl 12 (by decide) (X.2.2.2.2.1 (.fieldLink RX5 25 "NineteenSecondsLeftModel" "far" "[I") (List.mem_of_getElem? (i := 9) rfl)) rfl rfl dX5_statement_157 ?_
                    refine g_aload_n X 1 rfl rfl dX5_statement_160 ?_
                    refine g_get (C := RX5) (T := TX5) (N := 26) (ci := 5) X hi_X5_statement_X5 7 rfl rfl 8 (by decide) (X.2.2.2.2.1 (.fieldLink RX5 73 "NineteenSecondsLeftModel" "players" "I") (List.mem_of_getElem? (i := 5) rfl)) rfl rfl dX5_statement_161 ?_
                    refine g_aload_n X 1 rfl rfl dX5_statement_164 ?_
                    refine g_get (C := RX5) (T := TX5) (N := 26) (ci := 5) X hi_X5_statement_X5 7 rfl rfl 17 (by decide) (X.2.2.2.2.1 (.fieldLink RX5 34 "NineteenSecondsLeftModel" "value" "[I") (List.mem_of_getElem? (i := 4) rfl)) rfl rfl dX5_statement_165 ?_
                    refine g_iconst (v := 2) X (by decide) dX5_statement_168 ?_
                    refine g_iald X 9 rfl (g_vinL (by decide)) dX5_statement_169 ?_
                    refine g_iast (ws' := [(a_fouls, .inl (cI, 2, .inl c_fouls)), (a_calls, .inl (cI, 2, .inl c_calls)), (a_side, .inl (cI, 6, .inl (upd c_side c_players.toNatClampNeg (u81.2 (0 : Int32).toNatClampNeg)))), (a_kind, .inl (cI, 6, .inl (upd c_kind c_players.toNatClampNeg r54))), (a_near, .inl (cI, 6, .inl (upd c_near c_players.toNatClampNeg (u81.2 (1 : Int32).toNatClampNeg)))), (a_far, .inl (cI, 6, .inl (upd c_far c_players.toNatClampNeg (u81.2 (2 : Int32).toNatClampNeg)))), (a_free, .inl (cI, 6, .inl c_free)), (a_, .inr (5, [.int c_seconds, .int c_lead, .int c_ball, .ref a_fouls, .ref a_calls, .int c_rebound, .int c_law, .int c_draw, .int c_players, .ref a_side, .ref a_kind, .ref a_near, .ref a_far, .ref a_free, .int c_letters, .ref a_letter, .int u81.1, .ref a_value, .int c_inRow, .ref a_row, .ref a_refusals, .int c_imaged, .ref a_image, .ref a_ahead, .ref a_guard, .ref a_worth])), (a_letter, .inl (cI, 96, .inl c_letter)), (a_value, .inl (cI, 4, .inl u81.2))]) X 5 rfl (g_vinNe (by decide) hp.1 hp.2 c111) dX5_statement_170 rfl ?_
                    refine g_aload_n X 1 rfl rfl dX5_statement_171 ?_
                    refine g_get (C := RX5) (T := TX5) (N := 26) (ci := 5) X hi_X5_statement_X5 7 rfl rfl 13 (by decide) (X.2.2.2.2.1 (.fieldLink RX5 28 "NineteenSecondsLeftModel" "free" "[I") (List.mem_of_getElem? (i := 10) rfl)) rfl rfl dX5_statement_172 ?_
                    refine g_aload_n X 1 rfl rfl dX5_statement_175 ?_
                    refine g_dup X rfl dX5_statement_176 ?_
                    refine g_get (C := RX5) (T := TX5) (N := 26) (ci := 5) X hi_X5_statement_X5 7 rfl rfl 8 (by decide) (X.2.2.2.2.1 (.fieldLink RX5 73 "NineteenSecondsLeftModel" "players" "I") (List.mem_of_getElem? (i := 5) rfl)) rfl rfl dX5_statement_177 ?_
                    refine g_dup_x1 X rfl rfl dX5_statement_180 ?_
                    refine g_iconst (v := 1) X (by decide) dX5_statement_181 ?_
                    refine g_iadd X dX5_statement_182 ?_
                    refine g_put (C := RX5) (T := TX5) (N := 26) (ci := 5) (ws' := [(a_fouls, .inl (cI, 2, .inl c_fouls)), (a_calls, .inl (cI, 2, .inl c_calls)), (a_side, .inl (cI, 6, .inl (upd c_side c_players.toNatClampNeg (u81.2 (0 : Int32).toNatClampNeg)))), (a_kind, .inl (cI, 6, .inl (upd c_kind c_players.toNatClampNeg r54))), (a_near, .inl (cI, 6, .inl (upd c_near c_players.toNatClampNeg (u81.2 (1 : Int32).toNatClampNeg)))), (a_far, .inl (cI, 6, .inl (upd c_far c_players.toNatClampNeg (u81.2 (2 : Int32).toNatClampNeg)))), (a_free, .inl (cI, 6, .inl c_free)), (a_, .inr (5, [.int c_seconds, .int c_lead, .int c_ball, .ref a_fouls, .ref a_calls, .int c_rebound, .int c_law, .int c_draw, .int (c_players + 1), .ref a_side, .ref a_kind, .ref a_near, .ref a_far, .ref a_free, .int c_letters, .ref a_letter, .int u81.1, .ref a_value, .int c_inRow, .ref a_row, .ref a_refusals, .int c_imaged, .ref a_image, .ref a_ahead, .ref a_guard, .ref a_worth])), (a_letter, .inl (cI, 96, .inl c_letter)), (a_value, .inl (cI, 4, .inl u81.2))]) X hi_X5_statement_X5 tyX5 tyX5_ok nmX5 7 rfl rfl 8 (by decide) (X.2.2.2.2.1 (.fieldLink RX5 73 "NineteenSecondsLeftModel" "players" "I") (List.mem_of_getElem? (i := 5) rfl)) rfl rfl rfl rfl (Nat.le_of_ble_eq_true rfl) dX5_statement_183 rfl ?_
                    refine g_aload_n X 1 rfl rfl dX5_statement_186 ?_
                    refine g_get (C := RX5) (T := TX5) (N := 26) (ci := 5) X hi_X5_statement_X5 7 rfl rfl 17 (by decide) (X.2.2.2.2.1 (.fieldLink RX5 34 "NineteenSecondsLeftModel" "value" "[I") (List.mem_of_getElem? (i := 4) rfl)) rfl rfl dX5_statement_187 ?_
                    refine g_iconst (v := 3) X (by decide) dX5_statement_190 ?_
                    refine g_iald X 9 rfl (g_vinL (by decide)) dX5_statement_191 ?_
                    refine g_iast (ws' := [(a_fouls, .inl (cI, 2, .inl c_fouls)), (a_calls, .inl (cI, 2, .inl c_calls)), (a_side, .inl (cI, 6, .inl (upd c_side c_players.toNatClampNeg (u81.2 (0 : Int32).toNatClampNeg)))), (a_kind, .inl (cI, 6, .inl (upd c_kind c_players.toNatClampNeg r54))), (a_near, .inl (cI, 6, .inl (upd c_near c_players.toNatClampNeg (u81.2 (1 : Int32).toNatClampNeg)))), (a_far, .inl (cI, 6, .inl (upd c_far c_players.toNatClampNeg (u81.2 (2 : Int32).toNatClampNeg)))), (a_free, .inl (cI, 6, .inl (upd c_free c_players.toNatClampNeg (u81.2 (3 : Int32).toNatClampNeg)))), (a_, .inr (5, [.int c_seconds, .int c_lead, .int c_ball, .ref a_fouls, .ref a_calls, .int c_rebound, .int c_law, .int c_draw, .int (c_players + 1), .ref a_side, .ref a_kind, .ref a_near, .ref a_far, .ref a_free, .int c_letters, .ref a_letter, .int u81.1, .ref a_value, .int c_inRow, .ref a_row, .ref a_refusals, .int c_imaged, .ref a_image, .ref a_ahead, .ref a_guard, .ref a_worth])), (a_letter, .inl (cI, 96, .inl c_letter)), (a_value, .inl (cI, 4, .inl u81.2))]) X 6 rfl (g_vinNe (by decide) hp.1 hp.2 c111) dX5_statement_192 rfl ?_
                    refine g_iconst (v := 1) X (by decide) dX5_statement_193 ?_
                    exact g_iret X hAA hQQ (c_seconds, c_lead, c_ball, c_rebound, c_law, c_draw, (c_players + 1), u81.1, c_fouls, c_calls, upd c_side c_players.toNatClampNeg (u81.2 (0 : Int32).toNatClampNeg), upd c_kind c_players.toNatClampNeg r54, upd c_near c_players.toNatClampNeg (u81.2 (1 : Int32).toNatClampNeg), upd c_far c_players.toNatClampNeg (u81.2 (2 : Int32).toNatClampNeg), upd c_free c_players.toNatClampNeg (u81.2 (3 : Int32).toNatClampNeg), u81.2) (heq.symm.trans hXX) [7, 0, 1, 2, 3, 4, 5, 6, 8, 9] rfl rfl hr dX5_statement_194
                  · have heq := heq.trans (if_pos c111)
                    refine g_iconst (v := 0) X (by decide) dX5_statement_114 ?_
                    exact g_iret X hAA hQQ (c_seconds, c_lead, c_ball, c_rebound, c_law, c_draw, c_players, u81.1, c_fouls, c_calls, c_side, c_kind, c_near, c_far, c_free, u81.2) (heq.symm.trans hXX) [7, 0, 1, 2, 3, 4, 5, 6, 8, 9] rfl rfl hr dX5_statement_115
              · have heq := heq.trans (if_pos c90)
                refine g_iconst (v := 1) X (by decide) dX5_statement_93 ?_
                exact g_iret X hAA hQQ (c_seconds, c_lead, c_ball, c_rebound, c_law, c_draw, c_players, u81.1, c_fouls, c_calls, c_side, c_kind, c_near, c_far, c_free, u81.2) (heq.symm.trans hXX) [7, 0, 1, 2, 3, 4, 5, 6, 8, 9] rfl rfl hr dX5_statement_94
            · have heq := heq.trans (if_pos c84)
              refine g_iconst (v := (-1)) X (by decide) dX5_statement_87 ?_
              exact g_iret X hAA hQQ (c_seconds, c_lead, c_ball, c_rebound, c_law, c_draw, c_players, u81.1, c_fouls, c_calls, c_side, c_kind, c_near, c_far, c_free, u81.2) (heq.symm.trans hXX) [7, 0, 1, 2, 3, 4, 5, 6, 8, 9] rfl rfl hr dX5_statement_88
          · have heq := heq.trans (if_neg c63)
            refine g_iconst (v := (-1)) X (by decide) dX5_statement_66 ?_
            exact g_iret X hAA hQQ (c_seconds, c_lead, c_ball, c_rebound, c_law, c_draw, c_players, u12.1, c_fouls, c_calls, c_side, c_kind, c_near, c_far, c_free, u12.2) (heq.symm.trans hXX) [7, 0, 1, 2, 3, 4, 5, 6, 8, 9] rfl rfl hr dX5_statement_67
    · have heq := heq.trans (if_pos c15)
      refine g_iconst (v := (-1)) X (by decide) dX5_statement_18 ?_
      exact g_iret X hAA hQQ (c_seconds, c_lead, c_ball, c_rebound, c_law, c_draw, c_players, u12.1, c_fouls, c_calls, c_side, c_kind, c_near, c_far, c_free, u12.2) (heq.symm.trans hXX) [7, 0, 1, 2, 3, 4, 5, 6, 8, 9] rfl rfl hr dX5_statement_19
