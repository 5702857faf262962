theorem p_tl0 {s l b rb lw dr pl : Int32} {fo ca sd kd nr fr fe : Nat → Int32} {told facts : Nat → Int32} {sz : Int32} (h1 : r_HA told sz facts (r_pack s l b rb lw dr pl fo ca sd kd nr fr fe)) (h2 : r_OK (r_pack s l b rb lw dr pl fo ca sd kd nr fr fe)) (v : Int32) (hv : m_Sec v) : r_HA (f_X0_tell told 0 v) sz facts (r_pack v l b rb lw dr pl fo ca sd kd nr fr fe) ∧ r_OK (r_pack v l b rb lw dr pl fo ca sd kd nr fr fe) := by
  have HT : ∀ k : Nat, k < 10 → told k = r_pack s l b rb lw dr pl fo ca sd kd nr fr fe (31 + k) := h1.2.1
  obtain ⟨O1, O2, O3, O4, O5, O6⟩ := h2
  have tl : f_X0_tell told 0 v = upd told 0 v := rfl
  rw [tl]
  refine ⟨⟨h1.1, fun k hk => ?_, fun p hp j hj => (h1.2.2 p hp j hj).trans (p_pk30 _ _ _ _ _ _ _ _ _ _ _ _ _ _ _ _ _ _ _ _ _ _ _ _ (by omega))⟩, ⟨hv, O1.2⟩, O2, O3, O4, O5, ?_⟩
  · obtain ⟨q, hq⟩ : ∃ q : Fin 10, q.val = k := ⟨⟨k, hk⟩, rfl⟩
    subst hq
    match q with
    | ⟨0, _⟩ => rfl
    | ⟨1, _⟩ => exact HT 1 (by omega)
    | ⟨2, _⟩ => exact HT 2 (by omega)
    | ⟨3, _⟩ => exact HT 3 (by omega)
    | ⟨4, _⟩ => exact HT 4 (by omega)
    | ⟨5, _⟩ => exact HT 5 (by omega)
    | ⟨6, _⟩ => exact HT 6 (by omega)
    | ⟨7, _⟩ => exact HT 7 (by omega)
    | ⟨8, _⟩ => exact HT 8 (by omega)
    | ⟨9, _⟩ => exact HT 9 (by omega)
  · intro p hp
    have g := O6 p hp
    have pk := fun k (hk : k < 30) => p_pk30 s l b rb lw dr pl fo ca v l b rb lw dr pl fo ca sd kd nr fr fe k hk
    rw [pk p (by omega), pk (6 + p) (by omega), pk (12 + p) (by omega), pk (18 + p) (by omega), pk (24 + p) (by omega)] at g
    exact g

theorem p_tl1 {s l b rb lw dr pl : Int32} {fo ca sd kd nr fr fe : Nat → Int32} {told facts : Nat → Int32} {sz : Int32} (h1 : r_HA told sz facts (r_pack s l b rb lw dr pl fo ca sd kd nr fr fe)) (h2 : r_OK (r_pack s l b rb lw dr pl fo ca sd kd nr fr fe)) (v : Int32) (hv : m_Ld v) : r_HA (f_X0_tell told 1 v) sz facts (r_pack s v b rb lw dr pl fo ca sd kd nr fr fe) ∧ r_OK (r_pack s v b rb lw dr pl fo ca sd kd nr fr fe) := by
  have HT : ∀ k : Nat, k < 10 → told k = r_pack s l b rb lw dr pl fo ca sd kd nr fr fe (31 + k) := h1.2.1
  obtain ⟨O1, O2, O3, O4, O5, O6⟩ := h2
  have tl : f_X0_tell told 1 v = upd told 1 v := rfl
  rw [tl]
  refine ⟨⟨h1.1, fun k hk => ?_, fun p hp j hj => (h1.2.2 p hp j hj).trans (p_pk30 _ _ _ _ _ _ _ _ _ _ _ _ _ _ _ _ _ _ _ _ _ _ _ _ (by omega))⟩, ⟨O1.1, hv, O1.2.2⟩, O2, O3, O4, O5, ?_⟩
  · obtain ⟨q, hq⟩ : ∃ q : Fin 10, q.val = k := ⟨⟨k, hk⟩, rfl⟩
    subst hq
    match q with
    | ⟨0, _⟩ => exact HT 0 (by omega)
    | ⟨1, _⟩ => rfl
    | ⟨2, _⟩ => exact HT 2 (by omega)
    | ⟨3, _⟩ => exact HT 3 (by omega)
    | ⟨4, _⟩ => exact HT 4 (by omega)
    | ⟨5, _⟩ => exact HT 5 (by omega)
    | ⟨6, _⟩ => exact HT 6 (by omega)
    | ⟨7, _⟩ => exact HT 7 (by omega)
    | ⟨8, _⟩ => exact HT 8 (by omega)
    | ⟨9, _⟩ => exact HT 9 (by omega)
  · intro p hp
    have g := O6 p hp
    have pk := fun k (hk : k < 30) => p_pk30 s l b rb lw dr pl fo ca s v b rb lw dr pl fo ca sd kd nr fr fe k hk
    rw [pk p (by omega), pk (6 + p) (by omega), pk (12 + p) (by omega), pk (18 + p) (by omega), pk (24 + p) (by omega)] at g
    exact g

theorem p_tl2 {s l b rb lw dr pl : Int32} {fo ca sd kd nr fr fe : Nat → Int32} {told facts : Nat → Int32} {sz : Int32} (h1 : r_HA told sz facts (r_pack s l b rb lw dr pl fo ca sd kd nr fr fe)) (h2 : r_OK (r_pack s l b rb lw dr pl fo ca sd kd nr fr fe)) (v : Int32) (hv : m_Bl v) : r_HA (f_X0_tell told 2 v) sz facts (r_pack s l v rb lw dr pl fo ca sd kd nr fr fe) ∧ r_OK (r_pack s l v rb lw dr pl fo ca sd kd nr fr fe) := by
  have HT : ∀ k : Nat, k < 10 → told k = r_pack s l b rb lw dr pl fo ca sd kd nr fr fe (31 + k) := h1.2.1
  obtain ⟨O1, O2, O3, O4, O5, O6⟩ := h2
  have tl : f_X0_tell told 2 v = upd told 2 v := rfl
  rw [tl]
  refine ⟨⟨h1.1, fun k hk => ?_, fun p hp j hj => (h1.2.2 p hp j hj).trans (p_pk30 _ _ _ _ _ _ _ _ _ _ _ _ _ _ _ _ _ _ _ _ _ _ _ _ (by omega))⟩, ⟨O1.1, O1.2.1, hv⟩, O2, O3, O4, O5, ?_⟩
  · obtain ⟨q, hq⟩ : ∃ q : Fin 10, q.val = k := ⟨⟨k, hk⟩, rfl⟩
    subst hq
    match q with
    | ⟨0, _⟩ => exact HT 0 (by omega)
    | ⟨1, _⟩ => exact HT 1 (by omega)
    | ⟨2, _⟩ => rfl
    | ⟨3, _⟩ => exact HT 3 (by omega)
    | ⟨4, _⟩ => exact HT 4 (by omega)
    | ⟨5, _⟩ => exact HT 5 (by omega)
    | ⟨6, _⟩ => exact HT 6 (by omega)
    | ⟨7, _⟩ => exact HT 7 (by omega)
    | ⟨8, _⟩ => exact HT 8 (by omega)
    | ⟨9, _⟩ => exact HT 9 (by omega)
  · intro p hp
    have g := O6 p hp
    have pk := fun k (hk : k < 30) => p_pk30 s l b rb lw dr pl fo ca s l v rb lw dr pl fo ca sd kd nr fr fe k hk
    rw [pk p (by omega), pk (6 + p) (by omega), pk (12 + p) (by omega), pk (18 + p) (by omega), pk (24 + p) (by omega)] at g
    exact g

theorem p_tl3 {s l b rb lw dr pl : Int32} {fo ca sd kd nr fr fe : Nat → Int32} {told facts : Nat → Int32} {sz : Int32} (h1 : r_HA told sz facts (r_pack s l b rb lw dr pl fo ca sd kd nr fr fe)) (h2 : r_OK (r_pack s l b rb lw dr pl fo ca sd kd nr fr fe)) (v : Int32)  : r_HA (f_X0_tell told 3 v) sz facts (r_pack s l b rb lw dr pl (upd fo 0 v) ca sd kd nr fr fe) ∧ r_OK (r_pack s l b rb lw dr pl (upd fo 0 v) ca sd kd nr fr fe) := by
  have HT : ∀ k : Nat, k < 10 → told k = r_pack s l b rb lw dr pl fo ca sd kd nr fr fe (31 + k) := h1.2.1
  obtain ⟨O1, O2, O3, O4, O5, O6⟩ := h2
  have tl : f_X0_tell told 3 v = upd told 3 v := rfl
  rw [tl]
  refine ⟨⟨h1.1, fun k hk => ?_, fun p hp j hj => (h1.2.2 p hp j hj).trans (p_pk30 _ _ _ _ _ _ _ _ _ _ _ _ _ _ _ _ _ _ _ _ _ _ _ _ (by omega))⟩, O1, O2, O3, O4, O5, ?_⟩
  · obtain ⟨q, hq⟩ : ∃ q : Fin 10, q.val = k := ⟨⟨k, hk⟩, rfl⟩
    subst hq
    match q with
    | ⟨0, _⟩ => exact HT 0 (by omega)
    | ⟨1, _⟩ => exact HT 1 (by omega)
    | ⟨2, _⟩ => exact HT 2 (by omega)
    | ⟨3, _⟩ => rfl
    | ⟨4, _⟩ => exact HT 4 (by omega)
    | ⟨5, _⟩ => exact HT 5 (by omega)
    | ⟨6, _⟩ => exact HT 6 (by omega)
    | ⟨7, _⟩ => exact HT 7 (by omega)
    | ⟨8, _⟩ => exact HT 8 (by omega)
    | ⟨9, _⟩ => exact HT 9 (by omega)
  · intro p hp
    have g := O6 p hp
    have pk := fun k (hk : k < 30) => p_pk30 s l b rb lw dr pl fo ca s l b rb lw dr pl (upd fo 0 v) ca sd kd nr fr fe k hk
    rw [pk p (by omega), pk (6 + p) (by omega), pk (12 + p) (by omega), pk (18 + p) (by omega), pk (24 + p) (by omega)] at g
    exact g

theorem p_tl4 {s l b rb lw dr pl : Int32} {fo ca sd kd nr fr fe : Nat → Int32} {told facts : Nat → Int32} {sz : Int32} (h1 : r_HA told sz facts (r_pack s l b rb lw dr pl fo ca sd kd nr fr fe)) (h2 : r_OK (r_pack s l b rb lw dr pl fo ca sd kd nr fr fe)) (v : Int32)  : r_HA (f_X0_tell told 4 v) sz facts (r_pack s l b rb lw dr pl (upd fo 1 v) ca sd kd nr fr fe) ∧ r_OK (r_pack s l b rb lw dr pl (upd fo 1 v) ca sd kd nr fr fe) := by
  have HT : ∀ k : Nat, k < 10 → told k = r_pack s l b rb lw dr pl fo ca sd kd nr fr fe (31 + k) := h1.2.1
  obtain ⟨O1, O2, O3, O4, O5, O6⟩ := h2
  have tl : f_X0_tell told 4 v = upd told 4 v := rfl
  rw [tl]
  refine ⟨⟨h1.1, fun k hk => ?_, fun p hp j hj => (h1.2.2 p hp j hj).trans (p_pk30 _ _ _ _ _ _ _ _ _ _ _ _ _ _ _ _ _ _ _ _ _ _ _ _ (by omega))⟩, O1, O2, O3, O4, O5, ?_⟩
  · obtain ⟨q, hq⟩ : ∃ q : Fin 10, q.val = k := ⟨⟨k, hk⟩, rfl⟩
    subst hq
    match q with
    | ⟨0, _⟩ => exact HT 0 (by omega)
    | ⟨1, _⟩ => exact HT 1 (by omega)
    | ⟨2, _⟩ => exact HT 2 (by omega)
    | ⟨3, _⟩ => exact HT 3 (by omega)
    | ⟨4, _⟩ => rfl
    | ⟨5, _⟩ => exact HT 5 (by omega)
    | ⟨6, _⟩ => exact HT 6 (by omega)
    | ⟨7, _⟩ => exact HT 7 (by omega)
    | ⟨8, _⟩ => exact HT 8 (by omega)
    | ⟨9, _⟩ => exact HT 9 (by omega)
  · intro p hp
    have g := O6 p hp
    have pk := fun k (hk : k < 30) => p_pk30 s l b rb lw dr pl fo ca s l b rb lw dr pl (upd fo 1 v) ca sd kd nr fr fe k hk
    rw [pk p (by omega), pk (6 + p) (by omega), pk (12 + p) (by omega), pk (18 + p) (by omega), pk (24 + p) (by omega)] at g
    exact g

theorem p_tl5 {s l b rb lw dr pl : Int32} {fo ca sd kd nr fr fe : Nat → Int32} {told facts : Nat → Int32} {sz : Int32} (h1 : r_HA told sz facts (r_pack s l b rb lw dr pl fo ca sd kd nr fr fe)) (h2 : r_OK (r_pack s l b rb lw dr pl fo ca sd kd nr fr fe)) (v : Int32)  : r_HA (f_X0_tell told 5 v) sz facts (r_pack s l b rb lw dr pl fo (upd ca 0 v) sd kd nr fr fe) ∧ r_OK (r_pack s l b rb lw dr pl fo (upd ca 0 v) sd kd nr fr fe) := by
  have HT : ∀ k : Nat, k < 10 → told k = r_pack s l b rb lw dr pl fo ca sd kd nr fr fe (31 + k) := h1.2.1
  obtain ⟨O1, O2, O3, O4, O5, O6⟩ := h2
  have tl : f_X0_tell told 5 v = upd told 5 v := rfl
  rw [tl]
  refine ⟨⟨h1.1, fun k hk => ?_, fun p hp j hj => (h1.2.2 p hp j hj).trans (p_pk30 _ _ _ _ _ _ _ _ _ _ _ _ _ _ _ _ _ _ _ _ _ _ _ _ (by omega))⟩, O1, O2, O3, O4, O5, ?_⟩
  · obtain ⟨q, hq⟩ : ∃ q : Fin 10, q.val = k := ⟨⟨k, hk⟩, rfl⟩
    subst hq
    match q with
    | ⟨0, _⟩ => exact HT 0 (by omega)
    | ⟨1, _⟩ => exact HT 1 (by omega)
    | ⟨2, _⟩ => exact HT 2 (by omega)
    | ⟨3, _⟩ => exact HT 3 (by omega)
    | ⟨4, _⟩ => exact HT 4 (by omega)
    | ⟨5, _⟩ => rfl
    | ⟨6, _⟩ => exact HT 6 (by omega)
    | ⟨7, _⟩ => exact HT 7 (by omega)
    | ⟨8, _⟩ => exact HT 8 (by omega)
    | ⟨9, _⟩ => exact HT 9 (by omega)
  · intro p hp
    have g := O6 p hp
    have pk := fun k (hk : k < 30) => p_pk30 s l b rb lw dr pl fo ca s l b rb lw dr pl fo (upd ca 0 v) sd kd nr fr fe k hk
    rw [pk p (by omega), pk (6 + p) (by omega), pk (12 + p) (by omega), pk (18 + p) (by omega), pk (24 + p) (by omega)] at g
    exact g

theorem p_tl6 {s l b rb lw dr pl : Int32} {fo ca sd kd nr fr fe : Nat → Int32} {told facts : Nat → Int32} {sz : Int32} (h1 : r_HA told sz facts (r_pack s l b rb lw dr pl fo ca sd kd nr fr fe)) (h2 : r_OK (r_pack s l b rb lw dr pl fo ca sd kd nr fr fe)) (v : Int32)  : r_HA (f_X0_tell told 6 v) sz facts (r_pack s l b rb lw dr pl fo (upd ca 1 v) sd kd nr fr fe) ∧ r_OK (r_pack s l b rb lw dr pl fo (upd ca 1 v) sd kd nr fr fe) := by
  have HT : ∀ k : Nat, k < 10 → told k = r_pack s l b rb lw dr pl fo ca sd kd nr fr fe (31 + k) := h1.2.1
  obtain ⟨O1, O2, O3, O4, O5, O6⟩ := h2
  have tl : f_X0_tell told 6 v = upd told 6 v := rfl
  rw [tl]
  refine ⟨⟨h1.1, fun k hk => ?_, fun p hp j hj => (h1.2.2 p hp j hj).trans (p_pk30 _ _ _ _ _ _ _ _ _ _ _ _ _ _ _ _ _ _ _ _ _ _ _ _ (by omega))⟩, O1, O2, O3, O4, O5, ?_⟩
  · obtain ⟨q, hq⟩ : ∃ q : Fin 10, q.val = k := ⟨⟨k, hk⟩, rfl⟩
    subst hq
    match q with
    | ⟨0, _⟩ => exact HT 0 (by omega)
    | ⟨1, _⟩ => exact HT 1 (by omega)
    | ⟨2, _⟩ => exact HT 2 (by omega)
    | ⟨3, _⟩ => exact HT 3 (by omega)
    | ⟨4, _⟩ => exact HT 4 (by omega)
    | ⟨5, _⟩ => exact HT 5 (by omega)
    | ⟨6, _⟩ => rfl
    | ⟨7, _⟩ => exact HT 7 (by omega)
    | ⟨8, _⟩ => exact HT 8 (by omega)
    | ⟨9, _⟩ => exact HT 9 (by omega)
  · intro p hp
    have g := O6 p hp
    have pk := fun k (hk : k < 30) => p_pk30 s l b rb lw dr pl fo ca s l b rb lw dr pl fo (upd ca 1 v) sd kd nr fr fe k hk
    rw [pk p (by omega), pk (6 + p) (by omega), pk (12 + p) (by omega), pk (18 + p) (by omega), pk (24 + p) (by omega)] at g
    exact g

theorem p_tl7 {s l b rb lw dr pl : Int32} {fo ca sd kd nr fr fe : Nat → Int32} {told facts : Nat → Int32} {sz : Int32} (h1 : r_HA told sz facts (r_pack s l b rb lw dr pl fo ca sd kd nr fr fe)) (h2 : r_OK (r_pack s l b rb lw dr pl fo ca sd kd nr fr fe)) (v : Int32) (hv : r_in v 9) : r_HA (f_X0_tell told 7 v) sz facts (r_pack s l b v lw dr pl fo ca sd kd nr fr fe) ∧ r_OK (r_pack s l b v lw dr pl fo ca sd kd nr fr fe) := by
  have HT : ∀ k : Nat, k < 10 → told k = r_pack s l b rb lw dr pl fo ca sd kd nr fr fe (31 + k) := h1.2.1
  obtain ⟨O1, O2, O3, O4, O5, O6⟩ := h2
  have tl : f_X0_tell told 7 v = upd told 7 v := rfl
  rw [tl]
  refine ⟨⟨h1.1, fun k hk => ?_, fun p hp j hj => (h1.2.2 p hp j hj).trans (p_pk30 _ _ _ _ _ _ _ _ _ _ _ _ _ _ _ _ _ _ _ _ _ _ _ _ (by omega))⟩, O1, O2, hv, O4, O5, ?_⟩
  · obtain ⟨q, hq⟩ : ∃ q : Fin 10, q.val = k := ⟨⟨k, hk⟩, rfl⟩
    subst hq
    match q with
    | ⟨0, _⟩ => exact HT 0 (by omega)
    | ⟨1, _⟩ => exact HT 1 (by omega)
    | ⟨2, _⟩ => exact HT 2 (by omega)
    | ⟨3, _⟩ => exact HT 3 (by omega)
    | ⟨4, _⟩ => exact HT 4 (by omega)
    | ⟨5, _⟩ => exact HT 5 (by omega)
    | ⟨6, _⟩ => exact HT 6 (by omega)
    | ⟨7, _⟩ => rfl
    | ⟨8, _⟩ => exact HT 8 (by omega)
    | ⟨9, _⟩ => exact HT 9 (by omega)
  · intro p hp
    have g := O6 p hp
    have pk := fun k (hk : k < 30) => p_pk30 s l b rb lw dr pl fo ca s l b v lw dr pl fo ca sd kd nr fr fe k hk
    rw [pk p (by omega), pk (6 + p) (by omega), pk (12 + p) (by omega), pk (18 + p) (by omega), pk (24 + p) (by omega)] at g
    exact g

theorem p_tl8 {s l b rb lw dr pl : Int32} {fo ca sd kd nr fr fe : Nat → Int32} {told facts : Nat → Int32} {sz : Int32} (h1 : r_HA told sz facts (r_pack s l b rb lw dr pl fo ca sd kd nr fr fe)) (h2 : r_OK (r_pack s l b rb lw dr pl fo ca sd kd nr fr fe)) (v : Int32) (hv : r_in v 3) : r_HA (f_X0_tell told 8 v) sz facts (r_pack s l b rb v dr pl fo ca sd kd nr fr fe) ∧ r_OK (r_pack s l b rb v dr pl fo ca sd kd nr fr fe) := by
  have HT : ∀ k : Nat, k < 10 → told k = r_pack s l b rb lw dr pl fo ca sd kd nr fr fe (31 + k) := h1.2.1
  obtain ⟨O1, O2, O3, O4, O5, O6⟩ := h2
  have tl : f_X0_tell told 8 v = upd told 8 v := rfl
  rw [tl]
  refine ⟨⟨h1.1, fun k hk => ?_, fun p hp j hj => (h1.2.2 p hp j hj).trans (p_pk30 _ _ _ _ _ _ _ _ _ _ _ _ _ _ _ _ _ _ _ _ _ _ _ _ (by omega))⟩, O1, O2, O3, hv, O5, ?_⟩
  · obtain ⟨q, hq⟩ : ∃ q : Fin 10, q.val = k := ⟨⟨k, hk⟩, rfl⟩
    subst hq
    match q with
    | ⟨0, _⟩ => exact HT 0 (by omega)
    | ⟨1, _⟩ => exact HT 1 (by omega)
    | ⟨2, _⟩ => exact HT 2 (by omega)
    | ⟨3, _⟩ => exact HT 3 (by omega)
    | ⟨4, _⟩ => exact HT 4 (by omega)
    | ⟨5, _⟩ => exact HT 5 (by omega)
    | ⟨6, _⟩ => exact HT 6 (by omega)
    | ⟨7, _⟩ => exact HT 7 (by omega)
    | ⟨8, _⟩ => rfl
    | ⟨9, _⟩ => exact HT 9 (by omega)
  · intro p hp
    have g := O6 p hp
    have pk := fun k (hk : k < 30) => p_pk30 s l b rb lw dr pl fo ca s l b rb v dr pl fo ca sd kd nr fr fe k hk
    rw [pk p (by omega), pk (6 + p) (by omega), pk (12 + p) (by omega), pk (18 + p) (by omega), pk (24 + p) (by omega)] at g
    exact g

theorem p_tl9 {s l b rb lw dr pl : Int32} {fo ca sd kd nr fr fe : Nat → Int32} {told facts : Nat → Int32} {sz : Int32} (h1 : r_HA told sz facts (r_pack s l b rb lw dr pl fo ca sd kd nr fr fe)) (h2 : r_OK (r_pack s l b rb lw dr pl fo ca sd kd nr fr fe)) (v : Int32) (hv : r_in v 9) : r_HA (f_X0_tell told 9 v) sz facts (r_pack s l b rb lw v pl fo ca sd kd nr fr fe) ∧ r_OK (r_pack s l b rb lw v pl fo ca sd kd nr fr fe) := by
  have HT : ∀ k : Nat, k < 10 → told k = r_pack s l b rb lw dr pl fo ca sd kd nr fr fe (31 + k) := h1.2.1
  obtain ⟨O1, O2, O3, O4, O5, O6⟩ := h2
  have tl : f_X0_tell told 9 v = upd told 9 v := rfl
  rw [tl]
  refine ⟨⟨h1.1, fun k hk => ?_, fun p hp j hj => (h1.2.2 p hp j hj).trans (p_pk30 _ _ _ _ _ _ _ _ _ _ _ _ _ _ _ _ _ _ _ _ _ _ _ _ (by omega))⟩, O1, O2, O3, O4, hv, ?_⟩
  · obtain ⟨q, hq⟩ : ∃ q : Fin 10, q.val = k := ⟨⟨k, hk⟩, rfl⟩
    subst hq
    match q with
    | ⟨0, _⟩ => exact HT 0 (by omega)
    | ⟨1, _⟩ => exact HT 1 (by omega)
    | ⟨2, _⟩ => exact HT 2 (by omega)
    | ⟨3, _⟩ => exact HT 3 (by omega)
    | ⟨4, _⟩ => exact HT 4 (by omega)
    | ⟨5, _⟩ => exact HT 5 (by omega)
    | ⟨6, _⟩ => exact HT 6 (by omega)
    | ⟨7, _⟩ => exact HT 7 (by omega)
    | ⟨8, _⟩ => exact HT 8 (by omega)
    | ⟨9, _⟩ => rfl
  · intro p hp
    have g := O6 p hp
    have pk := fun k (hk : k < 30) => p_pk30 s l b rb lw dr pl fo ca s l b rb lw v pl fo ca sd kd nr fr fe k hk
    rw [pk p (by omega), pk (6 + p) (by omega), pk (12 + p) (by omega), pk (18 + p) (by omega), pk (24 + p) (by omega)] at g
    exact g


theorem p_gG : g_tabG.getD (0 : Int32).toNatClampNeg 0 = 24 ∧ g_tabG.getD (1 : Int32).toNatClampNeg 0 = 12 ∧ g_tabG.getD (2 : Int32).toNatClampNeg 0 = 1 ∧ g_tabG.getD (3 : Int32).toNatClampNeg 0 = 5 ∧ g_tabG.getD (4 : Int32).toNatClampNeg 0 = 5 ∧ g_tabG.getD (5 : Int32).toNatClampNeg 0 = 2 ∧ g_tabG.getD (6 : Int32).toNatClampNeg 0 = 2 ∧ g_tabG.getD (7 : Int32).toNatClampNeg 0 = 9 ∧ g_tabG.getD (8 : Int32).toNatClampNeg 0 = 3 ∧ g_tabG.getD (9 : Int32).toNatClampNeg 0 = 9 := by decide
theorem p_dg1 {N : Nat} (hN : N ≤ 96) {sg signs : Nat → Int32} (hs : ∀ k : Nat, k < N → signs k = sg k) {i : Nat} (d : Nat) (hi : i + d < N) : f_X2_sign (Int32.ofNat N) signs (Int32.ofNat i + Int32.ofNat d) = sg (i + d) ∧ f_X2_digit (Int32.ofNat N) signs (Int32.ofNat i + Int32.ofNat d) = sg (i + d) - 48 := by
  have e : f_X2_sign (Int32.ofNat N) signs (Int32.ofNat i + Int32.ofNat d) = sg (i + d) := by rw [p_oad]; exact p_sgn hN hs hi
  refine ⟨e, ?_⟩
  unfold f_X2_digit
  rw [p_lt, e]
/-- in range, told what it tells and how much -/
theorem p_inr (size : Int32) (signs : Nat → Int32) (p c t n : Int32) (hc : f_X2_sign size signs p = c) (h1 : ¬ c = 112) (h2 : ¬ c = 102) (h3 : ¬ c = 111) (ht : f_X2_target size signs p = t) (hn : f_X2_number size signs p = n) (t0 : ¬ t < 0) (t1 : t < 10) :
    f_X2_isInRange size signs p = if n < 0 then 0 else (if g_tabG.getD t.toNatClampNeg 0 < n then 0 else 1) := by
  unfold f_X2_isInRange
  rw [p_lt, hc, if_neg h1, if_neg h2, if_neg h3, p_lt, ht, if_neg t0, if_pos t1, p_lt, hn, p_lt]
theorem p_inr2 (size : Int32) (signs : Nat → Int32) (p c t n d : Int32) (hc : f_X2_sign size signs p = c) (h2 : c = 102 ∨ c = 111) (hd : f_X2_digit size signs (p + 1) = d) (ht : f_X2_target size signs p = t) (hn : f_X2_number size signs p = n) (t0 : d ≤ 1 → ¬ t < 0) (t1 : d ≤ 1 → t < 10) :
    f_X2_isInRange size signs p = if d ≤ 1 then (if n < 0 then 0 else (if g_tabG.getD t.toNatClampNeg 0 < n then 0 else 1)) else 0 := by
  unfold f_X2_isInRange
  by_cases h : d ≤ 1
  · rw [if_pos h, p_lt, hc]
    rcases h2 with rfl | rfl
    · rw [if_neg (by decide), if_pos rfl, p_lt, hd, if_pos h, p_lt, ht, if_neg (t0 h), if_pos (t1 h), p_lt, hn, p_lt]
    · rw [if_neg (by decide), if_neg (by decide), if_pos rfl, p_lt, hd, if_pos h, p_lt, ht, if_neg (t0 h), if_pos (t1 h), p_lt, hn, p_lt]
  · rw [if_neg h, p_lt, hc]
    rcases h2 with rfl | rfl
    · rw [if_neg (by decide), if_pos rfl, p_lt, hd, if_neg h]
    · rw [if_neg (by decide), if_neg (by decide), if_pos rfl, p_lt, hd, if_neg h]


theorem p_t98 {N i : Nat} (hN : N ≤ 96) (hi : i < N) {sg va : Nat → Int32} {s l b rb lw dr pl : Int32} {fo ca sd kd nr fr fe : Nat → Int32} {signs told facts : Nat → Int32} {sz : Int32} (hs : ∀ k : Nat, k < N → signs k = sg k) (hc : sg i = 98) {e : Nat} (hg : p_go N sg (p_B (sg i) ++ [59]) (i + 1) = (true, e)) (h1 : r_HA told sz facts (r_pack s l b rb lw dr pl fo ca sd kd nr fr fe)) (hO : r_OK (r_pack s l b rb lw dr pl fo ca sd kd nr fr fe)) :
    ∃ V', (f_X2_isInRange (Int32.ofNat N) signs (Int32.ofNat i) = 0 ∧ f_X5_statement s l b rb lw dr pl (Int32.ofNat N) (Int32.ofNat i) fo ca sd kd nr fr fe sg va 1 = (0, s, l, b, rb, lw, dr, pl, Int32.ofNat (e - 1), fo, ca, sd, kd, nr, fr, fe, V')) ∨
      ∃ (s' l' b' rb' lw' dr' : Int32) (fo' ca' : Nat → Int32), f_X2_isInRange (Int32.ofNat N) signs (Int32.ofNat i) = 1 ∧ f_X5_statement s l b rb lw dr pl (Int32.ofNat N) (Int32.ofNat i) fo ca sd kd nr fr fe sg va 1 = (1, s', l', b', rb', lw', dr', pl, Int32.ofNat (e - 1), fo', ca', sd, kd, nr, fr, fe, V') ∧ r_HA (f_X0_tell told (f_X2_target (Int32.ofNat N) signs (Int32.ofNat i)) (f_X2_number (Int32.ofNat N) signs (Int32.ofNat i))) sz facts (r_pack s' l' b' rb' lw' dr' pl fo' ca' sd kd nr fr fe) ∧ r_OK (r_pack s' l' b' rb' lw' dr' pl fo' ca' sd kd nr fr fe) := by
  have eB : p_B (sg i) = List.replicate 1 100 := by rw [hc]; decide
  rw [eB] at hg
  obtain ⟨kB, ke, kN, -⟩ := p_semiT N sg (List.replicate 1 100) (i + 1) e hg
  have ke' : (p_go N sg (List.replicate 1 100) (i + 1)).2 = e - 1 := by omega
  have si : f_X2_sign (Int32.ofNat N) signs (Int32.ofNat i) = 98 := (p_sgn hN hs hi).trans hc
  obtain ⟨n1, f1, -⟩ := p_go_hd N sg 100 [] (i + 1) kB
  obtain ⟨V', -, q⟩ := p_s98 (va := va) (s := s) (l := l) (b := b) (rb := rb) (lw := lw) (dr := dr) (pl := pl) (fo := fo) (ca := ca) (sd := sd) (kd := kd) (nr := nr) (fr := fr) (fe := fe) hN hi hc
  obtain ⟨-, q1, v0⟩ := q kB
  obtain ⟨d, hd⟩ := p_dd f1
  rw [v0, hd, ke'] at q1
  have g1 := (p_dg1 hN hs 1 n1).2
  have g1 : f_X2_digit (Int32.ofNat N) signs (Int32.ofNat i + 1) = Int32.ofNat d := g1.trans hd
  have tg : f_X2_target (Int32.ofNat N) signs (Int32.ofNat i) = 2 := by
    unfold f_X2_target
    rw [p_lt, si, if_pos rfl]
  have nm : f_X2_number (Int32.ofNat N) signs (Int32.ofNat i) = Int32.ofNat d := by
    unfold f_X2_number
    rw [p_lt, si, if_neg (by decide), if_neg (by decide), if_neg (by decide), if_neg (by decide), p_lt, g1]
  have ir := p_inr _ _ _ _ _ _ si (by decide) (by decide) (by decide) tg nm (by decide) (by decide)
  have gG : g_tabG.getD (2 : Int32).toNatClampNeg 0 = 1 := by decide
  have d0 : 0 ≤ Int32.ofNat d ∧ ¬ Int32.ofNat d < 0 := (by decide : ∀ d : Fin 10, 0 ≤ Int32.ofNat d ∧ ¬ Int32.ofNat d < 0) d
  rw [if_neg d0.2, gG] at ir
  refine ⟨V', ?_⟩
  by_cases h : Int32.ofNat d ≤ 1
  · rw [if_pos h] at q1
    rw [if_neg (Int32.not_lt.2 h)] at ir
    have up := p_tl2 h1 hO (Int32.ofNat d) ⟨d0.1, h⟩
    rw [tg, nm]
    exact Or.inr ⟨s, l, Int32.ofNat d, rb, lw, dr, fo, ca, ir, q1, up⟩
  · rw [if_neg h] at q1
    rw [if_pos (Int32.not_le.1 h)] at ir
    exact Or.inl ⟨ir, q1⟩


theorem p_t100 {N i : Nat} (hN : N ≤ 96) (hi : i < N) {sg va : Nat → Int32} {s l b rb lw dr pl : Int32} {fo ca sd kd nr fr fe : Nat → Int32} {signs told facts : Nat → Int32} {sz : Int32} (hs : ∀ k : Nat, k < N → signs k = sg k) (hc : sg i = 100) {e : Nat} (hg : p_go N sg (p_B (sg i) ++ [59]) (i + 1) = (true, e)) (h1 : r_HA told sz facts (r_pack s l b rb lw dr pl fo ca sd kd nr fr fe)) (hO : r_OK (r_pack s l b rb lw dr pl fo ca sd kd nr fr fe)) :
    ∃ V', (f_X2_isInRange (Int32.ofNat N) signs (Int32.ofNat i) = 0 ∧ f_X5_statement s l b rb lw dr pl (Int32.ofNat N) (Int32.ofNat i) fo ca sd kd nr fr fe sg va 1 = (0, s, l, b, rb, lw, dr, pl, Int32.ofNat (e - 1), fo, ca, sd, kd, nr, fr, fe, V')) ∨
      ∃ (s' l' b' rb' lw' dr' : Int32) (fo' ca' : Nat → Int32), f_X2_isInRange (Int32.ofNat N) signs (Int32.ofNat i) = 1 ∧ f_X5_statement s l b rb lw dr pl (Int32.ofNat N) (Int32.ofNat i) fo ca sd kd nr fr fe sg va 1 = (1, s', l', b', rb', lw', dr', pl, Int32.ofNat (e - 1), fo', ca', sd, kd, nr, fr, fe, V') ∧ r_HA (f_X0_tell told (f_X2_target (Int32.ofNat N) signs (Int32.ofNat i)) (f_X2_number (Int32.ofNat N) signs (Int32.ofNat i))) sz facts (r_pack s' l' b' rb' lw' dr' pl fo' ca' sd kd nr fr fe) ∧ r_OK (r_pack s' l' b' rb' lw' dr' pl fo' ca' sd kd nr fr fe) := by
  have eB : p_B (sg i) = List.replicate 1 100 := by rw [hc]; decide
  rw [eB] at hg
  obtain ⟨kB, ke, kN, -⟩ := p_semiT N sg (List.replicate 1 100) (i + 1) e hg
  have ke' : (p_go N sg (List.replicate 1 100) (i + 1)).2 = e - 1 := by omega
  have si : f_X2_sign (Int32.ofNat N) signs (Int32.ofNat i) = 100 := (p_sgn hN hs hi).trans hc
  obtain ⟨n1, f1, -⟩ := p_go_hd N sg 100 [] (i + 1) kB
  obtain ⟨V', -, q⟩ := p_s100 (va := va) (s := s) (l := l) (b := b) (rb := rb) (lw := lw) (dr := dr) (pl := pl) (fo := fo) (ca := ca) (sd := sd) (kd := kd) (nr := nr) (fr := fr) (fe := fe) hN hi hc
  obtain ⟨-, q1, v0⟩ := q kB
  obtain ⟨d, hd⟩ := p_dd f1
  rw [v0, hd, ke'] at q1
  have g1 := (p_dg1 hN hs 1 n1).2
  have g1 : f_X2_digit (Int32.ofNat N) signs (Int32.ofNat i + 1) = Int32.ofNat d := g1.trans hd
  have tg : f_X2_target (Int32.ofNat N) signs (Int32.ofNat i) = 9 := by
    unfold f_X2_target
    rw [p_lt, si, if_neg (by decide), if_neg (by decide), if_pos rfl]
  have nm : f_X2_number (Int32.ofNat N) signs (Int32.ofNat i) = Int32.ofNat d := by
    unfold f_X2_number
    rw [p_lt, si, if_neg (by decide), if_neg (by decide), if_neg (by decide), if_neg (by decide), p_lt, g1]
  have ir := p_inr _ _ _ _ _ _ si (by decide) (by decide) (by decide) tg nm (by decide) (by decide)
  have gG : g_tabG.getD (9 : Int32).toNatClampNeg 0 = 9 := by decide
  have d0 : 0 ≤ Int32.ofNat d ∧ ¬ Int32.ofNat d < 0 := (by decide : ∀ d : Fin 10, 0 ≤ Int32.ofNat d ∧ ¬ Int32.ofNat d < 0) d
  rw [if_neg d0.2, gG] at ir
  refine ⟨V', ?_⟩
  by_cases h : Int32.ofNat d ≤ 9
  · rw [if_pos h] at q1
    rw [if_neg (Int32.not_lt.2 h)] at ir
    have up := p_tl9 h1 hO (Int32.ofNat d) ⟨d0.1, h⟩
    rw [tg, nm]
    exact Or.inr ⟨s, l, b, rb, lw, Int32.ofNat d, fo, ca, ir, q1, up⟩
  · rw [if_neg h] at q1
    rw [if_pos (Int32.not_le.1 h)] at ir
    exact Or.inl ⟨ir, q1⟩


theorem p_t114 {N i : Nat} (hN : N ≤ 96) (hi : i < N) {sg va : Nat → Int32} {s l b rb lw dr pl : Int32} {fo ca sd kd nr fr fe : Nat → Int32} {signs told facts : Nat → Int32} {sz : Int32} (hs : ∀ k : Nat, k < N → signs k = sg k) (hc : sg i = 114) {e : Nat} (hg : p_go N sg (p_B (sg i) ++ [59]) (i + 1) = (true, e)) (h1 : r_HA told sz facts (r_pack s l b rb lw dr pl fo ca sd kd nr fr fe)) (hO : r_OK (r_pack s l b rb lw dr pl fo ca sd kd nr fr fe)) :
    ∃ V', (f_X2_isInRange (Int32.ofNat N) signs (Int32.ofNat i) = 0 ∧ f_X5_statement s l b rb lw dr pl (Int32.ofNat N) (Int32.ofNat i) fo ca sd kd nr fr fe sg va 1 = (0, s, l, b, rb, lw, dr, pl, Int32.ofNat (e - 1), fo, ca, sd, kd, nr, fr, fe, V')) ∨
      ∃ (s' l' b' rb' lw' dr' : Int32) (fo' ca' : Nat → Int32), f_X2_isInRange (Int32.ofNat N) signs (Int32.ofNat i) = 1 ∧ f_X5_statement s l b rb lw dr pl (Int32.ofNat N) (Int32.ofNat i) fo ca sd kd nr fr fe sg va 1 = (1, s', l', b', rb', lw', dr', pl, Int32.ofNat (e - 1), fo', ca', sd, kd, nr, fr, fe, V') ∧ r_HA (f_X0_tell told (f_X2_target (Int32.ofNat N) signs (Int32.ofNat i)) (f_X2_number (Int32.ofNat N) signs (Int32.ofNat i))) sz facts (r_pack s' l' b' rb' lw' dr' pl fo' ca' sd kd nr fr fe) ∧ r_OK (r_pack s' l' b' rb' lw' dr' pl fo' ca' sd kd nr fr fe) := by
  have eB : p_B (sg i) = List.replicate 1 100 := by rw [hc]; decide
  rw [eB] at hg
  obtain ⟨kB, ke, kN, -⟩ := p_semiT N sg (List.replicate 1 100) (i + 1) e hg
  have ke' : (p_go N sg (List.replicate 1 100) (i + 1)).2 = e - 1 := by omega
  have si : f_X2_sign (Int32.ofNat N) signs (Int32.ofNat i) = 114 := (p_sgn hN hs hi).trans hc
  obtain ⟨n1, f1, -⟩ := p_go_hd N sg 100 [] (i + 1) kB
  obtain ⟨V', -, q⟩ := p_s114 (va := va) (s := s) (l := l) (b := b) (rb := rb) (lw := lw) (dr := dr) (pl := pl) (fo := fo) (ca := ca) (sd := sd) (kd := kd) (nr := nr) (fr := fr) (fe := fe) hN hi hc
  obtain ⟨-, q1, v0⟩ := q kB
  obtain ⟨d, hd⟩ := p_dd f1
  rw [v0, hd, ke'] at q1
  have g1 := (p_dg1 hN hs 1 n1).2
  have g1 : f_X2_digit (Int32.ofNat N) signs (Int32.ofNat i + 1) = Int32.ofNat d := g1.trans hd
  have tg : f_X2_target (Int32.ofNat N) signs (Int32.ofNat i) = 7 := by
    unfold f_X2_target
    rw [p_lt, si, if_neg (by decide), if_neg (by decide), if_neg (by decide), if_neg (by decide), if_neg (by decide), if_neg (by decide), if_pos rfl]
  have nm : f_X2_number (Int32.ofNat N) signs (Int32.ofNat i) = Int32.ofNat d := by
    unfold f_X2_number
    rw [p_lt, si, if_neg (by decide), if_neg (by decide), if_neg (by decide), if_neg (by decide), p_lt, g1]
  have ir := p_inr _ _ _ _ _ _ si (by decide) (by decide) (by decide) tg nm (by decide) (by decide)
  have gG : g_tabG.getD (7 : Int32).toNatClampNeg 0 = 9 := by decide
  have d0 : 0 ≤ Int32.ofNat d ∧ ¬ Int32.ofNat d < 0 := (by decide : ∀ d : Fin 10, 0 ≤ Int32.ofNat d ∧ ¬ Int32.ofNat d < 0) d
  rw [if_neg d0.2, gG] at ir
  refine ⟨V', ?_⟩
  by_cases h : Int32.ofNat d ≤ 9
  · rw [if_pos h] at q1
    rw [if_neg (Int32.not_lt.2 h)] at ir
    have up := p_tl7 h1 hO (Int32.ofNat d) ⟨d0.1, h⟩
    rw [tg, nm]
    exact Or.inr ⟨s, l, b, Int32.ofNat d, lw, dr, fo, ca, ir, q1, up⟩
  · rw [if_neg h] at q1
    rw [if_pos (Int32.not_le.1 h)] at ir
    exact Or.inl ⟨ir, q1⟩


theorem p_t119 {N i : Nat} (hN : N ≤ 96) (hi : i < N) {sg va : Nat → Int32} {s l b rb lw dr pl : Int32} {fo ca sd kd nr fr fe : Nat → Int32} {signs told facts : Nat → Int32} {sz : Int32} (hs : ∀ k : Nat, k < N → signs k = sg k) (hc : sg i = 119) {e : Nat} (hg : p_go N sg (p_B (sg i) ++ [59]) (i + 1) = (true, e)) (h1 : r_HA told sz facts (r_pack s l b rb lw dr pl fo ca sd kd nr fr fe)) (hO : r_OK (r_pack s l b rb lw dr pl fo ca sd kd nr fr fe)) :
    ∃ V', (f_X2_isInRange (Int32.ofNat N) signs (Int32.ofNat i) = 0 ∧ f_X5_statement s l b rb lw dr pl (Int32.ofNat N) (Int32.ofNat i) fo ca sd kd nr fr fe sg va 1 = (0, s, l, b, rb, lw, dr, pl, Int32.ofNat (e - 1), fo, ca, sd, kd, nr, fr, fe, V')) ∨
      ∃ (s' l' b' rb' lw' dr' : Int32) (fo' ca' : Nat → Int32), f_X2_isInRange (Int32.ofNat N) signs (Int32.ofNat i) = 1 ∧ f_X5_statement s l b rb lw dr pl (Int32.ofNat N) (Int32.ofNat i) fo ca sd kd nr fr fe sg va 1 = (1, s', l', b', rb', lw', dr', pl, Int32.ofNat (e - 1), fo', ca', sd, kd, nr, fr, fe, V') ∧ r_HA (f_X0_tell told (f_X2_target (Int32.ofNat N) signs (Int32.ofNat i)) (f_X2_number (Int32.ofNat N) signs (Int32.ofNat i))) sz facts (r_pack s' l' b' rb' lw' dr' pl fo' ca' sd kd nr fr fe) ∧ r_OK (r_pack s' l' b' rb' lw' dr' pl fo' ca' sd kd nr fr fe) := by
  have eB : p_B (sg i) = List.replicate 1 100 := by rw [hc]; decide
  rw [eB] at hg
  obtain ⟨kB, ke, kN, -⟩ := p_semiT N sg (List.replicate 1 100) (i + 1) e hg
  have ke' : (p_go N sg (List.replicate 1 100) (i + 1)).2 = e - 1 := by omega
  have si : f_X2_sign (Int32.ofNat N) signs (Int32.ofNat i) = 119 := (p_sgn hN hs hi).trans hc
  obtain ⟨n1, f1, -⟩ := p_go_hd N sg 100 [] (i + 1) kB
  obtain ⟨V', -, q⟩ := p_s119 (va := va) (s := s) (l := l) (b := b) (rb := rb) (lw := lw) (dr := dr) (pl := pl) (fo := fo) (ca := ca) (sd := sd) (kd := kd) (nr := nr) (fr := fr) (fe := fe) hN hi hc
  obtain ⟨-, q1, v0⟩ := q kB
  obtain ⟨d, hd⟩ := p_dd f1
  rw [v0, hd, ke'] at q1
  have g1 := (p_dg1 hN hs 1 n1).2
  have g1 : f_X2_digit (Int32.ofNat N) signs (Int32.ofNat i + 1) = Int32.ofNat d := g1.trans hd
  have tg : f_X2_target (Int32.ofNat N) signs (Int32.ofNat i) = 8 := by
    unfold f_X2_target
    rw [p_lt, si, if_neg (by decide), if_neg (by decide), if_neg (by decide), if_neg (by decide), if_neg (by decide), if_neg (by decide), if_neg (by decide), if_pos rfl]
  have nm : f_X2_number (Int32.ofNat N) signs (Int32.ofNat i) = Int32.ofNat d := by
    unfold f_X2_number
    rw [p_lt, si, if_neg (by decide), if_neg (by decide), if_neg (by decide), if_neg (by decide), p_lt, g1]
  have ir := p_inr _ _ _ _ _ _ si (by decide) (by decide) (by decide) tg nm (by decide) (by decide)
  have gG : g_tabG.getD (8 : Int32).toNatClampNeg 0 = 3 := by decide
  have d0 : 0 ≤ Int32.ofNat d ∧ ¬ Int32.ofNat d < 0 := (by decide : ∀ d : Fin 10, 0 ≤ Int32.ofNat d ∧ ¬ Int32.ofNat d < 0) d
  rw [if_neg d0.2, gG] at ir
  refine ⟨V', ?_⟩
  by_cases h : Int32.ofNat d ≤ 3
  · rw [if_pos h] at q1
    rw [if_neg (Int32.not_lt.2 h)] at ir
    have up := p_tl8 h1 hO (Int32.ofNat d) ⟨d0.1, h⟩
    rw [tg, nm]
    exact Or.inr ⟨s, l, b, rb, Int32.ofNat d, dr, fo, ca, ir, q1, up⟩
  · rw [if_neg h] at q1
    rw [if_pos (Int32.not_le.1 h)] at ir
    exact Or.inl ⟨ir, q1⟩


theorem p_t99 {N i : Nat} (hN : N ≤ 96) (hi : i < N) {sg va : Nat → Int32} {s l b rb lw dr pl : Int32} {fo ca sd kd nr fr fe : Nat → Int32} {signs told facts : Nat → Int32} {sz : Int32} (hs : ∀ k : Nat, k < N → signs k = sg k) (hc : sg i = 99) {e : Nat} (hg : p_go N sg (p_B (sg i) ++ [59]) (i + 1) = (true, e)) (h1 : r_HA told sz facts (r_pack s l b rb lw dr pl fo ca sd kd nr fr fe)) (hO : r_OK (r_pack s l b rb lw dr pl fo ca sd kd nr fr fe)) :
    ∃ V', (f_X2_isInRange (Int32.ofNat N) signs (Int32.ofNat i) = 0 ∧ f_X5_statement s l b rb lw dr pl (Int32.ofNat N) (Int32.ofNat i) fo ca sd kd nr fr fe sg va 1 = (0, s, l, b, rb, lw, dr, pl, Int32.ofNat (e - 1), fo, ca, sd, kd, nr, fr, fe, V')) ∨
      ∃ (s' l' b' rb' lw' dr' : Int32) (fo' ca' : Nat → Int32), f_X2_isInRange (Int32.ofNat N) signs (Int32.ofNat i) = 1 ∧ f_X5_statement s l b rb lw dr pl (Int32.ofNat N) (Int32.ofNat i) fo ca sd kd nr fr fe sg va 1 = (1, s', l', b', rb', lw', dr', pl, Int32.ofNat (e - 1), fo', ca', sd, kd, nr, fr, fe, V') ∧ r_HA (f_X0_tell told (f_X2_target (Int32.ofNat N) signs (Int32.ofNat i)) (f_X2_number (Int32.ofNat N) signs (Int32.ofNat i))) sz facts (r_pack s' l' b' rb' lw' dr' pl fo' ca' sd kd nr fr fe) ∧ r_OK (r_pack s' l' b' rb' lw' dr' pl fo' ca' sd kd nr fr fe) := by
  have eB : p_B (sg i) = List.replicate 2 100 := by rw [hc]; decide
  rw [eB] at hg
  obtain ⟨kB, ke, kN, -⟩ := p_semiT N sg (List.replicate 2 100) (i + 1) e hg
  have ke' : (p_go N sg (List.replicate 2 100) (i + 1)).2 = e - 1 := by omega
  have si : f_X2_sign (Int32.ofNat N) signs (Int32.ofNat i) = 99 := (p_sgn hN hs hi).trans hc
  obtain ⟨n1, f1, k1⟩ := p_go_hd N sg 100 [100] (i + 1) kB
  have kB2 : (p_go N sg [100] (i + 1 + 1)).1 = true := by rw [← k1]; exact kB
  obtain ⟨n2, f2, -⟩ := p_go_hd N sg 100 [] (i + 1 + 1) kB2
  obtain ⟨V', -, q⟩ := p_s99 (va := va) (s := s) (l := l) (b := b) (rb := rb) (lw := lw) (dr := dr) (pl := pl) (fo := fo) (ca := ca) (sd := sd) (kd := kd) (nr := nr) (fr := fr) (fe := fe) hN hi hc
  obtain ⟨-, q1, v0, v1⟩ := q kB
  obtain ⟨d, hd⟩ := p_dd f1
  obtain ⟨u, hu⟩ := p_dd f2
  rw [v0, v1, hd, show sg (i + 2) - 48 = Int32.ofNat u from hu, ke'] at q1
  have g1 : f_X2_digit (Int32.ofNat N) signs (Int32.ofNat i + 1) = Int32.ofNat d := (p_dg1 hN hs 1 n1).2.trans hd
  have g2 : f_X2_digit (Int32.ofNat N) signs (Int32.ofNat i + 2) = Int32.ofNat u := (p_dg1 hN hs 2 n2).2.trans hu
  have tg : f_X2_target (Int32.ofNat N) signs (Int32.ofNat i) = 0 := by
    unfold f_X2_target
    rw [p_lt, si, if_neg (by decide), if_pos rfl]
  have nm : f_X2_number (Int32.ofNat N) signs (Int32.ofNat i) = (10 * Int32.ofNat d) + Int32.ofNat u := by
    unfold f_X2_number
    rw [p_lt, si, if_pos rfl, p_lt, g1, p_lt, g2, Int32.mul_comm]
  have ir := p_inr _ _ _ _ _ _ si (by decide) (by decide) (by decide) tg nm (by decide) (by decide)
  have gG : g_tabG.getD (0 : Int32).toNatClampNeg 0 = 24 := by decide
  have d0 : 0 ≤ (10 * Int32.ofNat d) + Int32.ofNat u ∧ ¬ (10 * Int32.ofNat d) + Int32.ofNat u < 0 := (by decide : ∀ d u : Fin 10, 0 ≤ (10 * Int32.ofNat d) + Int32.ofNat u ∧ ¬ (10 * Int32.ofNat d) + Int32.ofNat u < 0) d u
  rw [if_neg d0.2, gG] at ir
  refine ⟨V', ?_⟩
  by_cases h : (10 * Int32.ofNat d) + Int32.ofNat u ≤ 24
  · rw [if_pos h] at q1
    rw [if_neg (Int32.not_lt.2 h)] at ir
    have up := p_tl0 h1 hO ((10 * Int32.ofNat d) + Int32.ofNat u) ⟨d0.1, h⟩
    rw [tg, nm]
    exact Or.inr ⟨(10 * Int32.ofNat d) + Int32.ofNat u, l, b, rb, lw, dr, fo, ca, ir, q1, up⟩
  · rw [if_neg h] at q1
    rw [if_pos (Int32.not_le.1 h)] at ir
    exact Or.inl ⟨ir, q1⟩


theorem p_t108 {N i : Nat} (hN : N ≤ 96) (hi : i < N) {sg va : Nat → Int32} {s l b rb lw dr pl : Int32} {fo ca sd kd nr fr fe : Nat → Int32} {signs told facts : Nat → Int32} {sz : Int32} (hs : ∀ k : Nat, k < N → signs k = sg k) (hc : sg i = 108) {e : Nat} (hg : p_go N sg (p_B (sg i) ++ [59]) (i + 1) = (true, e)) (h1 : r_HA told sz facts (r_pack s l b rb lw dr pl fo ca sd kd nr fr fe)) (hO : r_OK (r_pack s l b rb lw dr pl fo ca sd kd nr fr fe)) :
    ∃ V', (f_X2_isInRange (Int32.ofNat N) signs (Int32.ofNat i) = 0 ∧ f_X5_statement s l b rb lw dr pl (Int32.ofNat N) (Int32.ofNat i) fo ca sd kd nr fr fe sg va 1 = (0, s, l, b, rb, lw, dr, pl, Int32.ofNat (e - 1), fo, ca, sd, kd, nr, fr, fe, V')) ∨
      ∃ (s' l' b' rb' lw' dr' : Int32) (fo' ca' : Nat → Int32), f_X2_isInRange (Int32.ofNat N) signs (Int32.ofNat i) = 1 ∧ f_X5_statement s l b rb lw dr pl (Int32.ofNat N) (Int32.ofNat i) fo ca sd kd nr fr fe sg va 1 = (1, s', l', b', rb', lw', dr', pl, Int32.ofNat (e - 1), fo', ca', sd, kd, nr, fr, fe, V') ∧ r_HA (f_X0_tell told (f_X2_target (Int32.ofNat N) signs (Int32.ofNat i)) (f_X2_number (Int32.ofNat N) signs (Int32.ofNat i))) sz facts (r_pack s' l' b' rb' lw' dr' pl fo' ca' sd kd nr fr fe) ∧ r_OK (r_pack s' l' b' rb' lw' dr' pl fo' ca' sd kd nr fr fe) := by
  have eB : p_B (sg i) = [115, 100] := by rw [hc]; decide
  rw [eB] at hg
  obtain ⟨kB, ke, kN, -⟩ := p_semiT N sg ([115, 100]) (i + 1) e hg
  have ke' : (p_go N sg ([115, 100]) (i + 1)).2 = e - 1 := by omega
  have si : f_X2_sign (Int32.ofNat N) signs (Int32.ofNat i) = 108 := (p_sgn hN hs hi).trans hc
  obtain ⟨n1, f1, k1⟩ := p_go_hd N sg 115 [100] (i + 1) kB
  have kB2 : (p_go N sg [100] (i + 1 + 1)).1 = true := by rw [← k1]; exact kB
  obtain ⟨n2, f2, -⟩ := p_go_hd N sg 100 [] (i + 1 + 1) kB2
  obtain ⟨V', -, q⟩ := p_s108 (va := va) (s := s) (l := l) (b := b) (rb := rb) (lw := lw) (dr := dr) (pl := pl) (fo := fo) (ca := ca) (sd := sd) (kd := kd) (nr := nr) (fr := fr) (fe := fe) hN hi hc
  obtain ⟨-, q1, v0⟩ := q kB
  obtain ⟨u, hu⟩ := p_dd f2
  rw [v0, show sg (i + 2) - 48 = Int32.ofNat u from hu, ke'] at q1
  have s1 : f_X2_sign (Int32.ofNat N) signs (Int32.ofNat i + 1) = sg (i + 1) := (p_dg1 hN hs 1 n1).1
  have g2 : f_X2_digit (Int32.ofNat N) signs (Int32.ofNat i + 2) = Int32.ofNat u := (p_dg1 hN hs 2 n2).2.trans hu
  have tg : f_X2_target (Int32.ofNat N) signs (Int32.ofNat i) = 1 := by
    unfold f_X2_target
    rw [p_lt, si, if_neg (by decide), if_neg (by decide), if_neg (by decide), if_neg (by decide), if_pos rfl]
  have gG : g_tabG.getD (1 : Int32).toNatClampNeg 0 = 12 := by decide
  obtain ⟨x1, x2, x3, x4, x5⟩ := (by decide : ∀ u : Fin 10, (Int32.ofNat u ≤ 6 → (0 ≤ 6 - Int32.ofNat u ∧ 6 - Int32.ofNat u ≤ 12) ∧ (0 ≤ 6 + Int32.ofNat u ∧ 6 + Int32.ofNat u ≤ 12)) ∧ (¬ Int32.ofNat u ≤ 6 → 6 - Int32.ofNat u < 0 ∧ 12 < 6 + Int32.ofNat u ∧ ¬ 6 + Int32.ofNat u < 0) ∧ 6 + (-Int32.ofNat u) = 6 - Int32.ofNat u ∧ True ∧ True) u
  have hpm : sg (i + 1) = 45 ∨ sg (i + 1) = 43 := by
    rw [p_f115] at f1
    by_cases a : sg (i + 1) = 43
    · exact Or.inr a
    · rw [if_neg a] at f1
      by_cases b' : sg (i + 1) = 45
      · exact Or.inl b'
      · rw [if_neg b'] at f1; exact absurd rfl f1
  refine ⟨V', ?_⟩
  rcases hpm with hm | hm
  · have nm : f_X2_number (Int32.ofNat N) signs (Int32.ofNat i) = 6 - Int32.ofNat u := by
      unfold f_X2_number
      rw [p_lt, si, if_neg (by decide), if_neg (by decide), if_pos rfl, p_lt, s1, if_neg (by rw [hm]; decide), p_lt, g2, x3]
    have ir := p_inr _ _ _ _ _ _ si (by decide) (by decide) (by decide) tg nm (by decide) (by decide)
    rw [gG] at ir
    rw [if_pos hm] at q1
    by_cases h : Int32.ofNat u ≤ 6
    · have y := (x1 h).1
      rw [if_pos h] at q1
      rw [if_neg (Int32.not_lt.2 y.1), if_neg (Int32.not_lt.2 y.2)] at ir
      have up := p_tl1 h1 hO (6 - Int32.ofNat u) y
      rw [tg, nm]
      exact Or.inr ⟨s, 6 - Int32.ofNat u, b, rb, lw, dr, fo, ca, ir, q1, up⟩
    · rw [if_neg h] at q1
      rw [if_pos (x2 h).1] at ir
      exact Or.inl ⟨ir, q1⟩
  · have nm : f_X2_number (Int32.ofNat N) signs (Int32.ofNat i) = 6 + Int32.ofNat u := by
      unfold f_X2_number
      rw [p_lt, si, if_neg (by decide), if_neg (by decide), if_pos rfl, p_lt, s1, if_pos hm, p_lt, g2]
    have ir := p_inr _ _ _ _ _ _ si (by decide) (by decide) (by decide) tg nm (by decide) (by decide)
    rw [gG] at ir
    rw [if_neg (by rw [hm]; decide : ¬ sg (i + 1) = 45)] at q1
    by_cases h : Int32.ofNat u ≤ 6
    · have y := (x1 h).2
      rw [if_pos h] at q1
      rw [if_neg (Int32.not_lt.2 y.1), if_neg (Int32.not_lt.2 y.2)] at ir
      have up := p_tl1 h1 hO (6 + Int32.ofNat u) y
      rw [tg, nm]
      exact Or.inr ⟨s, 6 + Int32.ofNat u, b, rb, lw, dr, fo, ca, ir, q1, up⟩
    · rw [if_neg h] at q1
      rw [if_neg (x2 h).2.2, if_pos (x2 h).2.1] at ir
      exact Or.inl ⟨ir, q1⟩


theorem p_t102 {N i : Nat} (hN : N ≤ 96) (hi : i < N) {sg va : Nat → Int32} {s l b rb lw dr pl : Int32} {fo ca sd kd nr fr fe : Nat → Int32} {signs told facts : Nat → Int32} {sz : Int32} (hs : ∀ k : Nat, k < N → signs k = sg k) (hc : sg i = 102) {e : Nat} (hg : p_go N sg (p_B (sg i) ++ [59]) (i + 1) = (true, e)) (h1 : r_HA told sz facts (r_pack s l b rb lw dr pl fo ca sd kd nr fr fe)) (hO : r_OK (r_pack s l b rb lw dr pl fo ca sd kd nr fr fe)) :
    ∃ V', (f_X2_isInRange (Int32.ofNat N) signs (Int32.ofNat i) = 0 ∧ f_X5_statement s l b rb lw dr pl (Int32.ofNat N) (Int32.ofNat i) fo ca sd kd nr fr fe sg va 1 = (0, s, l, b, rb, lw, dr, pl, Int32.ofNat (e - 1), fo, ca, sd, kd, nr, fr, fe, V')) ∨
      ∃ (s' l' b' rb' lw' dr' : Int32) (fo' ca' : Nat → Int32), f_X2_isInRange (Int32.ofNat N) signs (Int32.ofNat i) = 1 ∧ f_X5_statement s l b rb lw dr pl (Int32.ofNat N) (Int32.ofNat i) fo ca sd kd nr fr fe sg va 1 = (1, s', l', b', rb', lw', dr', pl, Int32.ofNat (e - 1), fo', ca', sd, kd, nr, fr, fe, V') ∧ r_HA (f_X0_tell told (f_X2_target (Int32.ofNat N) signs (Int32.ofNat i)) (f_X2_number (Int32.ofNat N) signs (Int32.ofNat i))) sz facts (r_pack s' l' b' rb' lw' dr' pl fo' ca' sd kd nr fr fe) ∧ r_OK (r_pack s' l' b' rb' lw' dr' pl fo' ca' sd kd nr fr fe) := by
  have eB : p_B (sg i) = List.replicate 2 100 := by rw [hc]; decide
  rw [eB] at hg
  obtain ⟨kB, ke, kN, -⟩ := p_semiT N sg (List.replicate 2 100) (i + 1) e hg
  have ke' : (p_go N sg (List.replicate 2 100) (i + 1)).2 = e - 1 := by omega
  have si : f_X2_sign (Int32.ofNat N) signs (Int32.ofNat i) = 102 := (p_sgn hN hs hi).trans hc
  obtain ⟨n1, f1, k1⟩ := p_go_hd N sg 100 [100] (i + 1) kB
  have kB2 : (p_go N sg [100] (i + 1 + 1)).1 = true := by rw [← k1]; exact kB
  obtain ⟨n2, f2, -⟩ := p_go_hd N sg 100 [] (i + 1 + 1) kB2
  obtain ⟨V', -, q⟩ := p_s102 (va := va) (s := s) (l := l) (b := b) (rb := rb) (lw := lw) (dr := dr) (pl := pl) (fo := fo) (ca := ca) (sd := sd) (kd := kd) (nr := nr) (fr := fr) (fe := fe) hN hi hc
  obtain ⟨-, q1, v0, v1⟩ := q kB
  obtain ⟨d, hd⟩ := p_dd f1
  obtain ⟨u, hu⟩ := p_dd f2
  rw [v0, v1, hd, show sg (i + 2) - 48 = Int32.ofNat u from hu, ke'] at q1
  have g1 : f_X2_digit (Int32.ofNat N) signs (Int32.ofNat i + 1) = Int32.ofNat d := (p_dg1 hN hs 1 n1).2.trans hd
  have g2 : f_X2_digit (Int32.ofNat N) signs (Int32.ofNat i + 2) = Int32.ofNat u := (p_dg1 hN hs 2 n2).2.trans hu
  have tg : f_X2_target (Int32.ofNat N) signs (Int32.ofNat i) = 3 + Int32.ofNat d := by
    unfold f_X2_target
    rw [p_lt, si, if_neg (by decide), if_neg (by decide), if_neg (by decide), if_pos rfl, p_lt, g1]
  have nm : f_X2_number (Int32.ofNat N) signs (Int32.ofNat i) = Int32.ofNat u := by
    unfold f_X2_number
    rw [p_lt, si, if_neg (by decide), if_pos rfl, p_lt, g2]
  have ir := p_inr2 _ _ _ _ _ _ _ si (Or.inl rfl) g1 tg nm ((by decide : ∀ d : Fin 10, Int32.ofNat d ≤ 1 → ¬ 3 + Int32.ofNat d < 0) d) ((by decide : ∀ d : Fin 10, Int32.ofNat d ≤ 1 → 3 + Int32.ofNat d < 10) d)
  have u0 : 0 ≤ Int32.ofNat u ∧ ¬ Int32.ofNat u < 0 := (by decide : ∀ d : Fin 10, 0 ≤ Int32.ofNat d ∧ ¬ Int32.ofNat d < 0) u
  refine ⟨V', ?_⟩
  by_cases h : Int32.ofNat d ≤ 1
  · rcases (by decide : ∀ d : Fin 10, Int32.ofNat d ≤ 1 → Int32.ofNat d = 0 ∨ Int32.ofNat d = 1) d h with hdv | hdv
    · have tg' : f_X2_target (Int32.ofNat N) signs (Int32.ofNat i) = 3 := tg.trans (by rw [hdv]; decide)
      have z' : g_tabG.getD (3 + 0 : Int32).toNatClampNeg 0 = 5 := by decide
      rw [hdv] at q1 ir
      rw [if_pos (by decide : (0 : Int32) ≤ 1), z'] at ir
      rw [if_neg (by decide : ¬ (1 : Int32) < 0)] at q1
      by_cases h2 : Int32.ofNat u ≤ 5
      · rw [if_pos h2] at q1
        rw [if_neg u0.2, if_neg (Int32.not_lt.2 h2)] at ir
        have up := p_tl3 h1 hO (Int32.ofNat u)
        rw [tg', nm]
        exact Or.inr ⟨s, l, b, rb, lw, dr, upd fo 0 (Int32.ofNat u), ca, ir, q1, up⟩
      · rw [if_neg h2] at q1
        rw [if_neg u0.2, if_pos (Int32.not_le.1 h2)] at ir
        exact Or.inl ⟨ir, q1⟩
    · have tg' : f_X2_target (Int32.ofNat N) signs (Int32.ofNat i) = 4 := tg.trans (by rw [hdv]; decide)
      have z' : g_tabG.getD (3 + 1 : Int32).toNatClampNeg 0 = 5 := by decide
      rw [hdv] at q1 ir
      rw [if_pos (by decide : (1 : Int32) ≤ 1), z'] at ir
      rw [if_neg (by decide : ¬ (1 : Int32) < 1)] at q1
      by_cases h2 : Int32.ofNat u ≤ 5
      · rw [if_pos h2] at q1
        rw [if_neg u0.2, if_neg (Int32.not_lt.2 h2)] at ir
        have up := p_tl4 h1 hO (Int32.ofNat u)
        rw [tg', nm]
        exact Or.inr ⟨s, l, b, rb, lw, dr, upd fo 1 (Int32.ofNat u), ca, ir, q1, up⟩
      · rw [if_neg h2] at q1
        rw [if_neg u0.2, if_pos (Int32.not_le.1 h2)] at ir
        exact Or.inl ⟨ir, q1⟩
  · rw [if_pos (Int32.not_le.1 h)] at q1
    rw [if_neg h] at ir
    exact Or.inl ⟨ir, q1⟩


theorem p_t111 {N i : Nat} (hN : N ≤ 96) (hi : i < N) {sg va : Nat → Int32} {s l b rb lw dr pl : Int32} {fo ca sd kd nr fr fe : Nat → Int32} {signs told facts : Nat → Int32} {sz : Int32} (hs : ∀ k : Nat, k < N → signs k = sg k) (hc : sg i = 111) {e : Nat} (hg : p_go N sg (p_B (sg i) ++ [59]) (i + 1) = (true, e)) (h1 : r_HA told sz facts (r_pack s l b rb lw dr pl fo ca sd kd nr fr fe)) (hO : r_OK (r_pack s l b rb lw dr pl fo ca sd kd nr fr fe)) :
    ∃ V', (f_X2_isInRange (Int32.ofNat N) signs (Int32.ofNat i) = 0 ∧ f_X5_statement s l b rb lw dr pl (Int32.ofNat N) (Int32.ofNat i) fo ca sd kd nr fr fe sg va 1 = (0, s, l, b, rb, lw, dr, pl, Int32.ofNat (e - 1), fo, ca, sd, kd, nr, fr, fe, V')) ∨
      ∃ (s' l' b' rb' lw' dr' : Int32) (fo' ca' : Nat → Int32), f_X2_isInRange (Int32.ofNat N) signs (Int32.ofNat i) = 1 ∧ f_X5_statement s l b rb lw dr pl (Int32.ofNat N) (Int32.ofNat i) fo ca sd kd nr fr fe sg va 1 = (1, s', l', b', rb', lw', dr', pl, Int32.ofNat (e - 1), fo', ca', sd, kd, nr, fr, fe, V') ∧ r_HA (f_X0_tell told (f_X2_target (Int32.ofNat N) signs (Int32.ofNat i)) (f_X2_number (Int32.ofNat N) signs (Int32.ofNat i))) sz facts (r_pack s' l' b' rb' lw' dr' pl fo' ca' sd kd nr fr fe) ∧ r_OK (r_pack s' l' b' rb' lw' dr' pl fo' ca' sd kd nr fr fe) := by
  have eB : p_B (sg i) = List.replicate 2 100 := by rw [hc]; decide
  rw [eB] at hg
  obtain ⟨kB, ke, kN, -⟩ := p_semiT N sg (List.replicate 2 100) (i + 1) e hg
  have ke' : (p_go N sg (List.replicate 2 100) (i + 1)).2 = e - 1 := by omega
  have si : f_X2_sign (Int32.ofNat N) signs (Int32.ofNat i) = 111 := (p_sgn hN hs hi).trans hc
  obtain ⟨n1, f1, k1⟩ := p_go_hd N sg 100 [100] (i + 1) kB
  have kB2 : (p_go N sg [100] (i + 1 + 1)).1 = true := by rw [← k1]; exact kB
  obtain ⟨n2, f2, -⟩ := p_go_hd N sg 100 [] (i + 1 + 1) kB2
  obtain ⟨V', -, q⟩ := p_s111 (va := va) (s := s) (l := l) (b := b) (rb := rb) (lw := lw) (dr := dr) (pl := pl) (fo := fo) (ca := ca) (sd := sd) (kd := kd) (nr := nr) (fr := fr) (fe := fe) hN hi hc
  obtain ⟨-, q1, v0, v1⟩ := q kB
  obtain ⟨d, hd⟩ := p_dd f1
  obtain ⟨u, hu⟩ := p_dd f2
  rw [v0, v1, hd, show sg (i + 2) - 48 = Int32.ofNat u from hu, ke'] at q1
  have g1 : f_X2_digit (Int32.ofNat N) signs (Int32.ofNat i + 1) = Int32.ofNat d := (p_dg1 hN hs 1 n1).2.trans hd
  have g2 : f_X2_digit (Int32.ofNat N) signs (Int32.ofNat i + 2) = Int32.ofNat u := (p_dg1 hN hs 2 n2).2.trans hu
  have tg : f_X2_target (Int32.ofNat N) signs (Int32.ofNat i) = 5 + Int32.ofNat d := by
    unfold f_X2_target
    rw [p_lt, si, if_neg (by decide), if_neg (by decide), if_neg (by decide), if_neg (by decide), if_neg (by decide), if_pos rfl, p_lt, g1]
  have nm : f_X2_number (Int32.ofNat N) signs (Int32.ofNat i) = Int32.ofNat u := by
    unfold f_X2_number
    rw [p_lt, si, if_neg (by decide), if_neg (by decide), if_neg (by decide), if_pos rfl, p_lt, g2]
  have ir := p_inr2 _ _ _ _ _ _ _ si (Or.inr rfl) g1 tg nm ((by decide : ∀ d : Fin 10, Int32.ofNat d ≤ 1 → ¬ 5 + Int32.ofNat d < 0) d) ((by decide : ∀ d : Fin 10, Int32.ofNat d ≤ 1 → 5 + Int32.ofNat d < 10) d)
  have u0 : 0 ≤ Int32.ofNat u ∧ ¬ Int32.ofNat u < 0 := (by decide : ∀ d : Fin 10, 0 ≤ Int32.ofNat d ∧ ¬ Int32.ofNat d < 0) u
  refine ⟨V', ?_⟩
  by_cases h : Int32.ofNat d ≤ 1
  · rcases (by decide : ∀ d : Fin 10, Int32.ofNat d ≤ 1 → Int32.ofNat d = 0 ∨ Int32.ofNat d = 1) d h with hdv | hdv
    · have tg' : f_X2_target (Int32.ofNat N) signs (Int32.ofNat i) = 5 := tg.trans (by rw [hdv]; decide)
      have z' : g_tabG.getD (5 + 0 : Int32).toNatClampNeg 0 = 2 := by decide
      rw [hdv] at q1 ir
      rw [if_pos (by decide : (0 : Int32) ≤ 1), z'] at ir
      rw [if_neg (by decide : ¬ (1 : Int32) < 0)] at q1
      by_cases h2 : Int32.ofNat u ≤ 2
      · rw [if_pos h2] at q1
        rw [if_neg u0.2, if_neg (Int32.not_lt.2 h2)] at ir
        have up := p_tl5 h1 hO (Int32.ofNat u)
        rw [tg', nm]
        exact Or.inr ⟨s, l, b, rb, lw, dr, fo, upd ca 0 (Int32.ofNat u), ir, q1, up⟩
      · rw [if_neg h2] at q1
        rw [if_neg u0.2, if_pos (Int32.not_le.1 h2)] at ir
        exact Or.inl ⟨ir, q1⟩
    · have tg' : f_X2_target (Int32.ofNat N) signs (Int32.ofNat i) = 6 := tg.trans (by rw [hdv]; decide)
      have z' : g_tabG.getD (5 + 1 : Int32).toNatClampNeg 0 = 2 := by decide
      rw [hdv] at q1 ir
      rw [if_pos (by decide : (1 : Int32) ≤ 1), z'] at ir
      rw [if_neg (by decide : ¬ (1 : Int32) < 1)] at q1
      by_cases h2 : Int32.ofNat u ≤ 2
      · rw [if_pos h2] at q1
        rw [if_neg u0.2, if_neg (Int32.not_lt.2 h2)] at ir
        have up := p_tl6 h1 hO (Int32.ofNat u)
        rw [tg', nm]
        exact Or.inr ⟨s, l, b, rb, lw, dr, fo, upd ca 1 (Int32.ofNat u), ir, q1, up⟩
      · rw [if_neg h2] at q1
        rw [if_neg u0.2, if_pos (Int32.not_le.1 h2)] at ir
        exact Or.inl ⟨ir, q1⟩
  · rw [if_pos (Int32.not_le.1 h)] at q1
    rw [if_neg h] at ir
    exact Or.inl ⟨ir, q1⟩


theorem p_ch3 (facts : Nat → Int32) (m : Fin 6) (w : Fin 5) (v : Int32) : f_X3_change facts (Int32.ofNat m.val) (Int32.ofNat w.val) v = upd facts (5 * m.val + w.val) v := by
  obtain ⟨e1, e2, e3⟩ := (by decide : ∀ m : Fin 6, ∀ w : Fin 5, ¬ ((Int32.ofNat m.val) * 5) + Int32.ofNat w.val < 0 ∧ ¬ 30 ≤ ((Int32.ofNat m.val) * 5) + Int32.ofNat w.val ∧ (((Int32.ofNat m.val) * 5) + Int32.ofNat w.val).toNatClampNeg = 5 * m.val + w.val) m w
  unfold f_X3_change
  rw [if_neg e1, if_neg e2, e3]
/-- a player more -/
theorem p_more {s l b rb lw dr pl : Int32} {fo ca sd kd nr fr fe : Nat → Int32} {told facts : Nat → Int32} {sz : Int32} (h1 : r_HA told sz facts (r_pack s l b rb lw dr pl fo ca sd kd nr fr fe)) (hO : r_OK (r_pack s l b rb lw dr pl fo ca sd kd nr fr fe)) (m : Fin 6) (hm : pl = Int32.ofNat m.val) {a1 a2 a3 a4 a5 : Int32} (r1 : r_in a1 1) (r2 : r_in a2 5) (r3 : r_in a3 9) (r4 : r_in a4 9) (r5 : r_in a5 9) :
    r_HA told (pl + 1) (upd (upd (upd (upd (upd facts (5 * m.val + 0) a1) (5 * m.val + 1) a2) (5 * m.val + 2) a3) (5 * m.val + 3) a4) (5 * m.val + 4) a5) (r_pack s l b rb lw dr (pl + 1) fo ca (upd sd m.val a1) (upd kd m.val a2) (upd nr m.val a3) (upd fr m.val a4) (upd fe m.val a5)) ∧ r_OK (r_pack s l b rb lw dr (pl + 1) fo ca (upd sd m.val a1) (upd kd m.val a2) (upd nr m.val a3) (upd fr m.val a4) (upd fe m.val a5)) := by
  have P0 := p_pk s l b rb lw dr pl fo ca sd kd nr fr fe
  have P1 := p_pk s l b rb lw dr (pl + 1) fo ca (upd sd m.val a1) (upd kd m.val a2) (upd nr m.val a3) (upd fr m.val a4) (upd fe m.val a5)
  obtain ⟨O1, O2, O3, O4, O5, O6⟩ := hO
  refine ⟨⟨rfl, fun k hk => (h1.2.1 k hk).trans ?_, fun p hp j hj => ?_⟩, O1, ?_, O3, O4, O5, fun p hp => ?_⟩
  · obtain ⟨q, hq⟩ : ∃ q : Fin 10, q.val = k := ⟨⟨k, hk⟩, rfl⟩
    subst hq
    match q with
    | ⟨0, _⟩ => rfl
    | ⟨1, _⟩ => rfl
    | ⟨2, _⟩ => rfl
    | ⟨3, _⟩ => rfl
    | ⟨4, _⟩ => rfl
    | ⟨5, _⟩ => rfl
    | ⟨6, _⟩ => rfl
    | ⟨7, _⟩ => rfl
    | ⟨8, _⟩ => rfl
    | ⟨9, _⟩ => rfl
  · have h := h1.2.2 p hp j hj
    obtain ⟨b1, b2, b3, b4, b5⟩ := P0 p hp
    obtain ⟨c1, c2, c3, c4, c5⟩ := P1 p hp
    have lo : ∀ (f : Nat → Int32) (k : Nat) (x : Int32), ¬ 5 * p + j = k → upd f k x (5 * p + j) = f (5 * p + j) := fun f k x hk => p_upd_ne _ _ hk
    by_cases hpm : p = m.val
    · have hc : j = 0 ∨ j = 1 ∨ j = 2 ∨ j = 3 ∨ j = 4 := by omega
      rcases hc with hc | hc | hc | hc | hc
      · subst hc
        rw [lo _ _ _ (by omega), lo _ _ _ (by omega), lo _ _ _ (by omega), lo _ _ _ (by omega), show 5 * p + 0 = 5 * m.val + 0 by omega, p_upd_same, show 6 * 0 + p = p by omega, c1, hpm, p_upd_same]
      · subst hc
        rw [lo _ _ _ (by omega), lo _ _ _ (by omega), lo _ _ _ (by omega), show 5 * p + 1 = 5 * m.val + 1 by omega, p_upd_same, show 6 * 1 + p = 6 + p by omega, c2, hpm, p_upd_same]
      · subst hc
        rw [lo _ _ _ (by omega), lo _ _ _ (by omega), show 5 * p + 2 = 5 * m.val + 2 by omega, p_upd_same, show 6 * 2 + p = 12 + p by omega, c3, hpm, p_upd_same]
      · subst hc
        rw [lo _ _ _ (by omega), show 5 * p + 3 = 5 * m.val + 3 by omega, p_upd_same, show 6 * 3 + p = 18 + p by omega, c4, hpm, p_upd_same]
      · subst hc
        rw [show 5 * p + 4 = 5 * m.val + 4 by omega, p_upd_same, show 6 * 4 + p = 24 + p by omega, c5, hpm, p_upd_same]
    · rw [lo _ _ _ (by omega), lo _ _ _ (by omega), lo _ _ _ (by omega), lo _ _ _ (by omega), lo _ _ _ (by omega), h]
      have hc : j = 0 ∨ j = 1 ∨ j = 2 ∨ j = 3 ∨ j = 4 := by omega
      rcases hc with hc | hc | hc | hc | hc
      · subst hc
        rw [show 6 * 0 + p = p by omega, b1, c1, p_upd_ne _ _ hpm]
      · subst hc
        rw [show 6 * 1 + p = 6 + p by omega, b2, c2, p_upd_ne _ _ hpm]
      · subst hc
        rw [show 6 * 2 + p = 12 + p by omega, b3, c3, p_upd_ne _ _ hpm]
      · subst hc
        rw [show 6 * 3 + p = 18 + p by omega, b4, c4, p_upd_ne _ _ hpm]
      · subst hc
        rw [show 6 * 4 + p = 24 + p by omega, b5, c5, p_upd_ne _ _ hpm]
  · show m_P (pl + 1)
    rw [hm]; exact (by decide : ∀ m : Fin 6, 0 ≤ Int32.ofNat m.val + 1 ∧ Int32.ofNat m.val + 1 ≤ 6) m
  · have g := O6 p hp
    obtain ⟨b1, b2, b3, b4, b5⟩ := P0 p hp
    obtain ⟨c1, c2, c3, c4, c5⟩ := P1 p hp
    rw [b1, b2, b3, b4, b5] at g
    rw [c1, c2, c3, c4, c5]
    by_cases hpm : p = m.val
    · rw [hpm, p_upd_same, p_upd_same, p_upd_same, p_upd_same, p_upd_same]
      exact ⟨r1, r2, r3, r4, r5⟩
    · rw [p_upd_ne _ _ hpm, p_upd_ne _ _ hpm, p_upd_ne _ _ hpm, p_upd_ne _ _ hpm, p_upd_ne _ _ hpm]
      exact g


theorem p_t112 {N i : Nat} (hN : N ≤ 96) (hi : i < N) {sg va : Nat → Int32} {s l b rb lw dr pl : Int32} {fo ca sd kd nr fr fe : Nat → Int32} {signs told facts : Nat → Int32} {sz : Int32} (hs : ∀ k : Nat, k < N → signs k = sg k) (hsg : ∀ k : Nat, k < N → r_in (sg k) 255) (hc : sg i = 112) {e : Nat} (hg : p_go N sg (p_B (sg i) ++ [59]) (i + 1) = (true, e)) (h1 : r_HA told sz facts (r_pack s l b rb lw dr pl fo ca sd kd nr fr fe)) (hO : r_OK (r_pack s l b rb lw dr pl fo ca sd kd nr fr fe)) :
    ∃ V', ((pl = 6 ∨ f_X2_isInRange (Int32.ofNat N) signs (Int32.ofNat i) = 0) ∧ f_X5_statement s l b rb lw dr pl (Int32.ofNat N) (Int32.ofNat i) fo ca sd kd nr fr fe sg va 1 = (0, s, l, b, rb, lw, dr, pl, Int32.ofNat (e - 1), fo, ca, sd, kd, nr, fr, fe, V')) ∨
      (¬ pl = 6 ∧ ∃ sd' kd' nr' fr' fe' : Nat → Int32, f_X2_isInRange (Int32.ofNat N) signs (Int32.ofNat i) = 1 ∧ f_X5_statement s l b rb lw dr pl (Int32.ofNat N) (Int32.ofNat i) fo ca sd kd nr fr fe sg va 1 = (1, s, l, b, rb, lw, dr, pl + 1, Int32.ofNat (e - 1), fo, ca, sd', kd', nr', fr', fe', V') ∧ r_HA told (f_X2_tellPlayer (Int32.ofNat N) signs sz facts (Int32.ofNat i)).1 (f_X2_tellPlayer (Int32.ofNat N) signs sz facts (Int32.ofNat i)).2 (r_pack s l b rb lw dr (pl + 1) fo ca sd' kd' nr' fr' fe') ∧ r_OK (r_pack s l b rb lw dr (pl + 1) fo ca sd' kd' nr' fr' fe')) := by
  have eB : p_B (sg i) = [100, 107, 100, 100, 100] := by rw [hc]; decide
  rw [eB] at hg
  obtain ⟨kB, ke, kN, -⟩ := p_semiT N sg ([100, 107, 100, 100, 100]) (i + 1) e hg
  have ke' : (p_go N sg ([100, 107, 100, 100, 100]) (i + 1)).2 = e - 1 := by omega
  have si : f_X2_sign (Int32.ofNat N) signs (Int32.ofNat i) = 112 := (p_sgn hN hs hi).trans hc
  obtain ⟨n1, f1, k1⟩ := p_go_hd N sg 100 [107, 100, 100, 100] (i + 1) kB
  have kB2 : (p_go N sg [107, 100, 100, 100] (i + 1 + 1)).1 = true := by rw [← k1]; exact kB
  obtain ⟨n2, f2, k2⟩ := p_go_hd N sg 107 [100, 100, 100] (i + 1 + 1) kB2
  have kB3 : (p_go N sg [100, 100, 100] (i + 1 + 1 + 1)).1 = true := by rw [← k2]; exact kB2
  obtain ⟨n3, f3, k3⟩ := p_go_hd N sg 100 [100, 100] (i + 1 + 1 + 1) kB3
  have kB4 : (p_go N sg [100, 100] (i + 1 + 1 + 1 + 1)).1 = true := by rw [← k3]; exact kB3
  obtain ⟨n4, f4, k4⟩ := p_go_hd N sg 100 [100] (i + 1 + 1 + 1 + 1) kB4
  have kB5 : (p_go N sg [100] (i + 1 + 1 + 1 + 1 + 1)).1 = true := by rw [← k4]; exact kB4
  obtain ⟨n5, f5, -⟩ := p_go_hd N sg 100 [] (i + 1 + 1 + 1 + 1 + 1) kB5
  obtain ⟨V', -, q⟩ := p_s112 (va := va) (s := s) (l := l) (b := b) (rb := rb) (lw := lw) (dr := dr) (pl := pl) (fo := fo) (ca := ca) (sd := sd) (kd := kd) (nr := nr) (fr := fr) (fe := fe) hN hi hsg hc
  obtain ⟨-, q1, v0, v1, v2, v3⟩ := q kB
  obtain ⟨d1, hd1⟩ := p_dd f1
  obtain ⟨d3, hd3⟩ := p_dd f3
  obtain ⟨d4, hd4⟩ := p_dd f4
  obtain ⟨d5, hd5⟩ := p_dd f5
  have hd3 : sg (i + 3) - 48 = Int32.ofNat d3.val := hd3
  have hd4 : sg (i + 4) - 48 = Int32.ofNat d4.val := hd4
  have hd5 : sg (i + 5) - 48 = Int32.ofNat d5.val := hd5
  rw [v0, v1, v2, v3, hd1, hd3, hd4, hd5, ke'] at q1
  have f2 : ¬ f_X2_fits 107 (sg (i + 2)) = 0 := f2
  have hk : ¬ f_X2_kind (sg (i + 2)) < 0 := fun z => f2 (by rw [p_f107, if_pos z])
  have hkr : r_in (f_X2_kind (sg (i + 2))) 5 := ((p_ix5 (hsg (i + 2) n2)).2.2).resolve_left hk
  have g1 : f_X2_digit (Int32.ofNat N) signs (Int32.ofNat i + 1) = Int32.ofNat d1.val := (p_dg1 hN hs 1 n1).2.trans hd1
  have g2 : f_X2_sign (Int32.ofNat N) signs (Int32.ofNat i + 2) = sg (i + 2) := (p_dg1 hN hs 2 n2).1
  have g3 : f_X2_digit (Int32.ofNat N) signs (Int32.ofNat i + 3) = Int32.ofNat d3.val := (p_dg1 hN hs 3 n3).2.trans hd3
  have g4 : f_X2_digit (Int32.ofNat N) signs (Int32.ofNat i + 4) = Int32.ofNat d4.val := (p_dg1 hN hs 4 n4).2.trans hd4
  have g5 : f_X2_digit (Int32.ofNat N) signs (Int32.ofNat i + 5) = Int32.ofNat d5.val := (p_dg1 hN hs 5 n5).2.trans hd5
  have tg : f_X2_target (Int32.ofNat N) signs (Int32.ofNat i) = -1 := by
    unfold f_X2_target
    rw [p_lt, si, if_neg (by decide), if_neg (by decide), if_neg (by decide), if_neg (by decide), if_neg (by decide), if_neg (by decide), if_neg (by decide), if_neg (by decide)]
  have ir : f_X2_isInRange (Int32.ofNat N) signs (Int32.ofNat i) = if Int32.ofNat d1.val ≤ 1 then 1 else 0 := by
    unfold f_X2_isInRange
    rw [p_lt, si, if_pos rfl, p_lt, g1]
    by_cases h : Int32.ofNat d1.val ≤ 1
    · rw [if_pos h, if_pos h, p_lt, tg, if_pos (by decide)]
    · rw [if_neg h, if_neg h]
  refine ⟨V', ?_⟩
  by_cases h : Int32.ofNat d1.val ≤ 1
  · rw [if_neg (Int32.not_lt.2 h)] at q1
    rw [if_pos h] at ir
    by_cases h6 : pl = 6
    · rw [if_pos h6] at q1
      exact Or.inl ⟨Or.inl h6, q1⟩
    · rw [if_neg h6] at q1
      have hP : m_P pl := hO.2.1
      obtain ⟨m0, hm0⟩ := pe_nat 6 hP.1 hP.2 (by decide)
      obtain ⟨m, hm⟩ : ∃ m : Fin 6, pl = Int32.ofNat m.val := by
        by_cases z : m0.val = 6
        · exact absurd (by rw [hm0, z]; rfl) h6
        · exact ⟨⟨m0.val, by have := m0.isLt; omega⟩, hm0⟩
      have hmn : pl.toNatClampNeg = m.val := by rw [hm]; exact p_nat6 m
      have hsz : sz = pl := h1.1
      rw [hmn] at q1
      have c0 : ∀ (F : Nat → Int32) (v : Int32), f_X3_change F (Int32.ofNat m.val) 0 v = upd F (5 * m.val + 0) v := fun F v => p_ch3 F m 0 v
      have c1 : ∀ (F : Nat → Int32) (v : Int32), f_X3_change F (Int32.ofNat m.val) 1 v = upd F (5 * m.val + 1) v := fun F v => p_ch3 F m 1 v
      have c2 : ∀ (F : Nat → Int32) (v : Int32), f_X3_change F (Int32.ofNat m.val) 2 v = upd F (5 * m.val + 2) v := fun F v => p_ch3 F m 2 v
      have c3 : ∀ (F : Nat → Int32) (v : Int32), f_X3_change F (Int32.ofNat m.val) 3 v = upd F (5 * m.val + 3) v := fun F v => p_ch3 F m 3 v
      have c4 : ∀ (F : Nat → Int32) (v : Int32), f_X3_change F (Int32.ofNat m.val) 4 v = upd F (5 * m.val + 4) v := fun F v => p_ch3 F m 4 v
      have ad : f_X3_add sz = (Int32.ofNat m.val, pl + 1) := by
        rw [hsz, hm]
        unfold f_X3_add g_minf
        exact (by decide : ∀ m : Fin 6, (((if (6 : Int32) < Int32.ofNat m.val + 1 then 6 else Int32.ofNat m.val + 1) - 1, (if (6 : Int32) < Int32.ofNat m.val + 1 then 6 else Int32.ofNat m.val + 1)) : Int32 × Int32) = (Int32.ofNat m.val, Int32.ofNat m.val + 1)) m
      have tp : (f_X2_tellPlayer (Int32.ofNat N) signs sz facts (Int32.ofNat i)) = (pl + 1, upd (upd (upd (upd (upd facts (5 * m.val + 0) (Int32.ofNat d1.val)) (5 * m.val + 1) (f_X2_kind (sg (i + 2)))) (5 * m.val + 2) (Int32.ofNat d3.val)) (5 * m.val + 3) (Int32.ofNat d4.val)) (5 * m.val + 4) (Int32.ofNat d5.val)) := by
        unfold f_X2_tellPlayer
        rw [ad, p_lt2, p_lt, g1, p_lt, c0, p_lt, g2, p_lt, p_lt, c1, p_lt, g3, p_lt, c2, p_lt, g4, p_lt, c3, p_lt, g5, p_lt, c4]
      have dd : ∀ d : Fin 10, r_in (Int32.ofNat d.val) 9 := by unfold r_in; decide
      have up := p_more h1 hO m hm (a1 := Int32.ofNat d1.val) (a2 := f_X2_kind (sg (i + 2))) (a3 := Int32.ofNat d3.val) (a4 := Int32.ofNat d4.val) (a5 := Int32.ofNat d5.val) ⟨(dd d1).1, h⟩ hkr (dd d3) (dd d4) (dd d5)
      rw [tp]
      exact Or.inr ⟨h6, _, _, _, _, _, ir, q1, up⟩
  · rw [if_pos (Int32.not_le.1 h)] at q1
    rw [if_neg h] at ir
    exact Or.inl ⟨Or.inr ir, q1⟩

