theorem hi_X2_init_X2 : ∀ w ∈ wsX20, w ∈ wsX2_init := fun w h => List.mem_cons_of_mem _ (List.mem_append_right _ (h))
set_option maxHeartbeats 4000000 in
set_option maxRecDepth 100000 in
theorem k_X2_init (l : Launch) (D : va_G) (cI : ClassId) (kA kV : Nat → Nat) (a_ : Nat) :
    g_MV l D cI kA kV yX2_init wsX2_init { frames := 1, cells := 2, slots := 192, locals := 12 } [.ref a_] [(a_, .inr (2, [.null, .int 0, .null, .int 0]))] (fun u : Nat × Nat => [(a_, .inr (2, [.ref u.1, .int 0, .ref u.2, .int 0])), (u.1, .inl (cI, 96, .inl (fun _ => 0))), (u.2, .inl (cI, 96, .inl (fun _ => 0)))]) (fun _ => True) := by
  refine g_startV (lv := [(0, .ref a_)]) RX2 rfl rfl rfl (Nat.le_of_ble_eq_true rfl) rfl (fun p e s m args below meth c AA QQ hAA hQQ X hr hmn => ?_)
  refine g_aload_n X 0 rfl rfl dX2_init_0 ?_
  refine g_obj X (X.2.2.2.2.1 (.methodLink RX2 3 objectInit) (List.mem_of_getElem? (i := 1) rfl)) (X.2.2.2.2.1 (.instanceMethod objectInit) (List.mem_of_getElem? (i := 2) rfl)) (X.2.2.2.2.1 (.code objectInit ⟨#[0xb1]⟩ 1 none) (List.mem_of_getElem? (i := 3) rfl)) dX2_init_1 (Nat.le_of_ble_eq_true rfl) (Nat.le_of_ble_eq_true rfl) ?_
  refine g_aload_n X 0 rfl rfl dX2_init_4 ?_
  refine g_bipush (v := 96) X (by decide) dX2_init_5 ?_
  refine g_newarr X 96 (X.2.2.2.2.1 (.arrayClass .int) (List.mem_of_getElem? (i := 4) rfl)) (by decide) (by decide) (Nat.le_of_ble_eq_true rfl) (Nat.le_of_ble_eq_true rfl) (Nat.le_of_ble_eq_true rfl) dX2_init_7 (fun q7 => ?_)
  refine g_eqs (ws' := [(a_, .inr (2, [.null, .int 0, .null, .int 0])), (q7, .inl (cI, 96, .inl (fun _ => 0)))]) rfl ?_
  refine g_putF (C := RX2) (T := TX2) (N := 4) (ci := 2) (ws' := [(a_, .inr (2, [.ref q7, .int 0, .null, .int 0])), (q7, .inl (cI, 96, .inl (fun _ => 0)))]) X hi_X2_init_X2 tyX2 tyX2_ok nmX2 0 rfl rfl 0 (by decide) (X.2.2.2.2.1 (.fieldLink RX2 9 "NineteenSecondsLeft$Letters" "signs" "[I") (List.mem_of_getElem? (i := 5) rfl)) rfl rfl hmn rfl rfl rfl (Nat.le_of_ble_eq_true rfl) dX2_init_9 rfl ?_
  refine g_aload_n X 0 rfl rfl dX2_init_12 ?_
  refine g_iconst (v := 0) X (by decide) dX2_init_13 ?_
  refine g_put (C := RX2) (T := TX2) (N := 4) (ci := 2) (ws' := [(a_, .inr (2, [.ref q7, .int 0, .null, .int 0])), (q7, .inl (cI, 96, .inl (fun _ => 0)))]) X hi_X2_init_X2 tyX2 tyX2_ok nmX2 0 rfl rfl 1 (by decide) (X.2.2.2.2.1 (.fieldLink RX2 15 "NineteenSecondsLeft$Letters" "size" "I") (List.mem_of_getElem? (i := 6) rfl)) rfl rfl rfl rfl (Nat.le_of_ble_eq_true rfl) dX2_init_14 rfl ?_
  refine g_aload_n X 0 rfl rfl dX2_init_17 ?_
  refine g_bipush (v := 96) X (by decide) dX2_init_18 ?_
  refine g_newarr X 96 (X.2.2.2.2.1 (.arrayClass .int) (List.mem_of_getElem? (i := 4) rfl)) (by decide) (by decide) (Nat.le_of_ble_eq_true rfl) (Nat.le_of_ble_eq_true rfl) (Nat.le_of_ble_eq_true rfl) dX2_init_20 (fun q20 => ?_)
  refine g_eqs (ws' := [(a_, .inr (2, [.ref q7, .int 0, .null, .int 0])), (q7, .inl (cI, 96, .inl (fun _ => 0))), (q20, .inl (cI, 96, .inl (fun _ => 0)))]) rfl ?_
  refine g_putF (C := RX2) (T := TX2) (N := 4) (ci := 2) (ws' := [(a_, .inr (2, [.ref q7, .int 0, .ref q20, .int 0])), (q7, .inl (cI, 96, .inl (fun _ => 0))), (q20, .inl (cI, 96, .inl (fun _ => 0)))]) X hi_X2_init_X2 tyX2 tyX2_ok nmX2 0 rfl rfl 2 (by decide) (X.2.2.2.2.1 (.fieldLink RX2 19 "NineteenSecondsLeft$Letters" "starts" "[I") (List.mem_of_getElem? (i := 7) rfl)) rfl rfl hmn rfl rfl rfl (Nat.le_of_ble_eq_true rfl) dX2_init_22 rfl ?_
  refine g_aload_n X 0 rfl rfl dX2_init_25 ?_
  refine g_iconst (v := 0) X (by decide) dX2_init_26 ?_
  refine g_put (C := RX2) (T := TX2) (N := 4) (ci := 2) (ws' := [(a_, .inr (2, [.ref q7, .int 0, .ref q20, .int 0])), (q7, .inl (cI, 96, .inl (fun _ => 0))), (q20, .inl (cI, 96, .inl (fun _ => 0)))]) X hi_X2_init_X2 tyX2 tyX2_ok nmX2 0 rfl rfl 3 (by decide) (X.2.2.2.2.1 (.fieldLink RX2 22 "NineteenSecondsLeft$Letters" "statements" "I") (List.mem_of_getElem? (i := 8) rfl)) rfl rfl rfl rfl (Nat.le_of_ble_eq_true rfl) dX2_init_27 rfl ?_
  exact g_vret X hAA hQQ (q7, q20) trivial [0, 1, 2] rfl rfl hr dX2_init_30

theorem hi_X2_size_X2 : ∀ w ∈ wsX20, w ∈ wsX2_size := fun w h => List.mem_cons_of_mem _ (List.mem_append_right _ (h))
def f_X2_size (c_size : Int32) : Int32 :=
  c_size
set_option maxHeartbeats 4000000 in
set_option maxRecDepth 100000 in
theorem k_X2_size (l : Launch) (D : va_G) (cI : ClassId) (kA kV : Nat → Nat) (a_ a_signs a_starts : Nat) (c_size : Int32) (c_statements : Int32) :
    g_MI l D cI kA kV yX2_size wsX2_size { frames := 0, cells := 0, slots := 0, locals := 0 } [.ref a_] [(a_, .inr (2, [.ref a_signs, .int c_size, .ref a_starts, .int c_statements]))] (fun u : Unit => [(a_, .inr (2, [.ref a_signs, .int c_size, .ref a_starts, .int c_statements]))]) (fun (r : Int32) (u : Unit) => r = f_X2_size c_size) := by
  obtain ⟨XX, hXX⟩ : ∃ z, z = f_X2_size c_size := ⟨_, rfl⟩
  have heq := hXX.trans (f_X2_size.eq_def c_size)
  refine g_startI (lv := [(0, .ref a_)]) RX2 rfl rfl rfl (Nat.le_of_ble_eq_true rfl) rfl (fun p e s m args below meth c AA QQ hAA hQQ X hr hmn => ?_)
  refine g_aload_n X 0 rfl rfl dX2_size_0 ?_
  refine g_get (C := RX2) (T := TX2) (N := 4) (ci := 2) X hi_X2_size_X2 0 rfl rfl 1 (by decide) (X.2.2.2.2.1 (.fieldLink RX2 15 "NineteenSecondsLeft$Letters" "size" "I") (List.mem_of_getElem? (i := 1) rfl)) rfl rfl dX2_size_1 ?_
  exact g_iret X hAA hQQ () (heq.symm.trans hXX) [0] rfl rfl hr dX2_size_4

theorem hi_X2_isFull_X2 : ∀ w ∈ wsX20, w ∈ wsX2_isFull := fun w h => List.mem_cons_of_mem _ (List.mem_append_right _ (h))
def f_X2_isFull (c_size : Int32) : Int32 :=
  (if c_size < 96 then 0 else 1)
set_option maxHeartbeats 4000000 in
set_option maxRecDepth 100000 in
theorem k_X2_isFull (l : Launch) (D : va_G) (cI : ClassId) (kA kV : Nat → Nat) (a_ a_signs a_starts : Nat) (c_size : Int32) (c_statements : Int32) (c_signs : Nat → Int32) :
    g_MI l D cI kA kV yX2_isFull wsX2_isFull { frames := 0, cells := 0, slots := 0, locals := 0 } [.ref a_] [(a_, .inr (2, [.ref a_signs, .int c_size, .ref a_starts, .int c_statements])), (a_signs, .inl (cI, 96, .inl c_signs))] (fun u : Unit => [(a_, .inr (2, [.ref a_signs, .int c_size, .ref a_starts, .int c_statements])), (a_signs, .inl (cI, 96, .inl c_signs))]) (fun (r : Int32) (u : Unit) => r = f_X2_isFull c_size) := by
  obtain ⟨XX, hXX⟩ : ∃ z, z = f_X2_isFull c_size := ⟨_, rfl⟩
  have heq := hXX.trans (f_X2_isFull.eq_def c_size)
  refine g_startI (lv := [(0, .ref a_)]) RX2 rfl rfl rfl (Nat.le_of_ble_eq_true rfl) rfl (fun p e s m args below meth c AA QQ hAA hQQ X hr hmn => ?_)
  refine g_aload_n X 0 rfl rfl dX2_isFull_0 ?_
  refine g_get (C := RX2) (T := TX2) (N := 4) (ci := 2) X hi_X2_isFull_X2 0 rfl rfl 1 (by decide) (X.2.2.2.2.1 (.fieldLink RX2 15 "NineteenSecondsLeft$Letters" "size" "I") (List.mem_of_getElem? (i := 1) rfl)) rfl rfl dX2_isFull_1 ?_
  refine g_aload_n X 0 rfl rfl dX2_isFull_4 ?_
  refine g_get (C := RX2) (T := TX2) (N := 4) (ci := 2) X hi_X2_isFull_X2 0 rfl rfl 0 (by decide) (X.2.2.2.2.1 (.fieldLink RX2 9 "NineteenSecondsLeft$Letters" "signs" "[I") (List.mem_of_getElem? (i := 2) rfl)) rfl rfl dX2_isFull_5 ?_
  refine g_alen (v := 96) X 1 rfl rfl dX2_isFull_8 ?_
  refine g_icmp_lt X 16 dX2_isFull_9 (by decide) (fun c9 => ?_) (fun c9 => ?_)
  · have heq := heq.trans (if_pos c9)
    refine g_iconst (v := 0) X (by decide) dX2_isFull_16 ?_
    exact g_zret X hAA hQQ () (heq.symm.trans hXX) [0, 1] rfl rfl hr rfl dX2_isFull_17
  · have heq := heq.trans (if_neg c9)
    refine g_iconst (v := 1) X (by decide) dX2_isFull_12 ?_
    refine g_goto (tgt := 17) X (by decide) dX2_isFull_13 ?_
    exact g_zret X hAA hQQ () (heq.symm.trans hXX) [0, 1] rfl rfl hr rfl dX2_isFull_17

theorem hi_X2_add_X2 : ∀ w ∈ wsX20, w ∈ wsX2_add := fun w h => List.mem_cons_of_mem _ (List.mem_append_right _ (h))
def f_X2_add (c_size : Int32) (c_signs : Nat → Int32) (p1 : Int32) : Int32 × (Int32) × (Nat → Int32) :=
  (if c_size < 0 then (c_size, c_size, c_signs) else (if 96 ≤ c_size then (c_size, c_size, c_signs) else ((c_size + 1), (c_size + 1), upd c_signs c_size.toNatClampNeg p1)))
set_option maxHeartbeats 4000000 in
set_option maxRecDepth 100000 in
theorem k_X2_add (l : Launch) (D : va_G) (cI : ClassId) (kA kV : Nat → Nat) (a_ a_signs a_starts : Nat) (c_size : Int32) (c_statements : Int32) (c_signs : Nat → Int32) (p1 : Int32) :
    g_MI l D cI kA kV yX2_add wsX2_add { frames := 0, cells := 0, slots := 0, locals := 0 } [.ref a_, .int p1] [(a_, .inr (2, [.ref a_signs, .int c_size, .ref a_starts, .int c_statements])), (a_signs, .inl (cI, 96, .inl c_signs))] (fun u : (Int32) × (Nat → Int32) => [(a_, .inr (2, [.ref a_signs, .int u.1, .ref a_starts, .int c_statements])), (a_signs, .inl (cI, 96, .inl u.2))]) (fun (r : Int32) (u : (Int32) × (Nat → Int32)) => (r, u) = f_X2_add c_size c_signs p1) := by
  obtain ⟨XX, hXX⟩ : ∃ z, z = f_X2_add c_size c_signs p1 := ⟨_, rfl⟩
  have heq := hXX.trans (f_X2_add.eq_def c_size c_signs p1)
  refine g_startI (lv := [(0, .ref a_), (1, .int p1)]) RX2 rfl rfl rfl (Nat.le_of_ble_eq_true rfl) rfl (fun p e s m args below meth c AA QQ hAA hQQ X hr hmn => ?_)
  refine g_aload_n X 0 rfl rfl dX2_add_0 ?_
  refine g_get (C := RX2) (T := TX2) (N := 4) (ci := 2) X hi_X2_add_X2 0 rfl rfl 1 (by decide) (X.2.2.2.2.1 (.fieldLink RX2 15 "NineteenSecondsLeft$Letters" "size" "I") (List.mem_of_getElem? (i := 1) rfl)) rfl rfl dX2_add_1 ?_
  refine g_if_lt X 39 dX2_add_4 (by decide) (fun c4 => ?_) (fun c4 => ?_)
  · have heq := heq.trans (if_pos c4)
    refine g_aload_n X 0 rfl rfl dX2_add_39 ?_
    refine g_get (C := RX2) (T := TX2) (N := 4) (ci := 2) X hi_X2_add_X2 0 rfl rfl 1 (by decide) (X.2.2.2.2.1 (.fieldLink RX2 15 "NineteenSecondsLeft$Letters" "size" "I") (List.mem_of_getElem? (i := 1) rfl)) rfl rfl dX2_add_40 ?_
    exact g_iret X hAA hQQ (c_size, c_signs) (heq.symm.trans hXX) [0, 1] rfl rfl hr dX2_add_43
  · have heq := heq.trans (if_neg c4)
    refine g_aload_n X 0 rfl rfl dX2_add_7 ?_
    refine g_get (C := RX2) (T := TX2) (N := 4) (ci := 2) X hi_X2_add_X2 0 rfl rfl 1 (by decide) (X.2.2.2.2.1 (.fieldLink RX2 15 "NineteenSecondsLeft$Letters" "size" "I") (List.mem_of_getElem? (i := 1) rfl)) rfl rfl dX2_add_8 ?_
    refine g_aload_n X 0 rfl rfl dX2_add_11 ?_
    refine g_get (C := RX2) (T := TX2) (N := 4) (ci := 2) X hi_X2_add_X2 0 rfl rfl 0 (by decide) (X.2.2.2.2.1 (.fieldLink RX2 9 "NineteenSecondsLeft$Letters" "signs" "[I") (List.mem_of_getElem? (i := 2) rfl)) rfl rfl dX2_add_12 ?_
    refine g_alen (v := 96) X 1 rfl rfl dX2_add_15 ?_
    refine g_icmp_ge X 39 dX2_add_16 (by decide) (fun c16 => ?_) (fun c16 => ?_)
    · have heq := heq.trans (if_pos c16)
      refine g_aload_n X 0 rfl rfl dX2_add_39 ?_
      refine g_get (C := RX2) (T := TX2) (N := 4) (ci := 2) X hi_X2_add_X2 0 rfl rfl 1 (by decide) (X.2.2.2.2.1 (.fieldLink RX2 15 "NineteenSecondsLeft$Letters" "size" "I") (List.mem_of_getElem? (i := 1) rfl)) rfl rfl dX2_add_40 ?_
      exact g_iret X hAA hQQ (c_size, c_signs) (heq.symm.trans hXX) [0, 1] rfl rfl hr dX2_add_43
    · have heq := heq.trans (if_neg c16)
      refine g_aload_n X 0 rfl rfl dX2_add_19 ?_
      refine g_get (C := RX2) (T := TX2) (N := 4) (ci := 2) X hi_X2_add_X2 0 rfl rfl 0 (by decide) (X.2.2.2.2.1 (.fieldLink RX2 9 "NineteenSecondsLeft$Letters" "signs" "[I") (List.mem_of_getElem? (i := 2) rfl)) rfl rfl dX2_add_20 ?_
      refine g_aload_n X 0 rfl rfl dX2_add_23 ?_
      refine g_get (C := RX2) (T := TX2) (N := 4) (ci := 2) X hi_X2_add_X2 0 rfl rfl 1 (by decide) (X.2.2.2.2.1 (.fieldLink RX2 15 "NineteenSecondsLeft$Letters" "size" "I") (List.mem_of_getElem? (i := 1) rfl)) rfl rfl dX2_add_24 ?_
      refine g_iload_n X 1 rfl rfl dX2_add_27 ?_
      refine g_iast (ws' := [(a_, .inr (2, [.ref a_signs, .int c_size, .ref a_starts, .int c_statements])), (a_signs, .inl (cI, 96, .inl (upd c_signs c_size.toNatClampNeg p1)))]) X 1 rfl (g_vin (by decide) (g_n0 c4) (g_nn c16)) dX2_add_28 rfl ?_
      refine g_aload_n X 0 rfl rfl dX2_add_29 ?_
      refine g_dup X rfl dX2_add_30 ?_
      refine g_get (C := RX2) (T := TX2) (N := 4) (ci := 2) X hi_X2_add_X2 0 rfl rfl 1 (by decide) (X.2.2.2.2.1 (.fieldLink RX2 15 "NineteenSecondsLeft$Letters" "size" "I") (List.mem_of_getElem? (i := 1) rfl)) rfl rfl dX2_add_31 ?_
      refine g_iconst (v := 1) X (by decide) dX2_add_34 ?_
      refine g_iadd X dX2_add_35 ?_
      refine g_put (C := RX2) (T := TX2) (N := 4) (ci := 2) (ws' := [(a_, .inr (2, [.ref a_signs, .int (c_size + 1), .ref a_starts, .int c_statements])), (a_signs, .inl (cI, 96, .inl (upd c_signs c_size.toNatClampNeg p1)))]) X hi_X2_add_X2 tyX2 tyX2_ok nmX2 0 rfl rfl 1 (by decide) (X.2.2.2.2.1 (.fieldLink RX2 15 "NineteenSecondsLeft$Letters" "size" "I") (List.mem_of_getElem? (i := 1) rfl)) rfl rfl rfl rfl (Nat.le_of_ble_eq_true rfl) dX2_add_36 rfl ?_
      refine g_aload_n X 0 rfl rfl dX2_add_39 ?_
      refine g_get (C := RX2) (T := TX2) (N := 4) (ci := 2) X hi_X2_add_X2 0 rfl rfl 1 (by decide) (X.2.2.2.2.1 (.fieldLink RX2 15 "NineteenSecondsLeft$Letters" "size" "I") (List.mem_of_getElem? (i := 1) rfl)) rfl rfl dX2_add_40 ?_
      exact g_iret X hAA hQQ ((c_size + 1), upd c_signs c_size.toNatClampNeg p1) (heq.symm.trans hXX) [0, 1] rfl rfl hr dX2_add_43

theorem hi_X2_clear_X2 : ∀ w ∈ wsX20, w ∈ wsX2_clear := fun w h => List.mem_cons_of_mem _ (List.mem_append_right _ (h))
def f_X2_clear (c_size : Int32) : (Int32) :=
  0
set_option maxHeartbeats 4000000 in
set_option maxRecDepth 100000 in
theorem k_X2_clear (l : Launch) (D : va_G) (cI : ClassId) (kA kV : Nat → Nat) (a_ a_signs a_starts : Nat) (c_size : Int32) (c_statements : Int32) :
    g_MV l D cI kA kV yX2_clear wsX2_clear { frames := 0, cells := 0, slots := 0, locals := 0 } [.ref a_] [(a_, .inr (2, [.ref a_signs, .int c_size, .ref a_starts, .int c_statements]))] (fun u : (Int32) => [(a_, .inr (2, [.ref a_signs, .int u, .ref a_starts, .int c_statements]))]) (fun u : (Int32) => u = f_X2_clear c_size) := by
  obtain ⟨XX, hXX⟩ : ∃ z, z = f_X2_clear c_size := ⟨_, rfl⟩
  have heq := hXX.trans (f_X2_clear.eq_def c_size)
  refine g_startV (lv := [(0, .ref a_)]) RX2 rfl rfl rfl (Nat.le_of_ble_eq_true rfl) rfl (fun p e s m args below meth c AA QQ hAA hQQ X hr hmn => ?_)
  refine g_aload_n X 0 rfl rfl dX2_clear_0 ?_
  refine g_iconst (v := 0) X (by decide) dX2_clear_1 ?_
  refine g_put (C := RX2) (T := TX2) (N := 4) (ci := 2) (ws' := [(a_, .inr (2, [.ref a_signs, .int 0, .ref a_starts, .int c_statements]))]) X hi_X2_clear_X2 tyX2 tyX2_ok nmX2 0 rfl rfl 1 (by decide) (X.2.2.2.2.1 (.fieldLink RX2 15 "NineteenSecondsLeft$Letters" "size" "I") (List.mem_of_getElem? (i := 1) rfl)) rfl rfl rfl rfl (Nat.le_of_ble_eq_true rfl) dX2_clear_2 rfl ?_
  exact g_vret X hAA hQQ 0 (heq.symm.trans hXX) [0] rfl rfl hr dX2_clear_5

theorem hi_X2_sign_X2 : ∀ w ∈ wsX20, w ∈ wsX2_sign := fun w h => List.mem_cons_of_mem _ (List.mem_append_right _ (h))
def f_X2_sign (c_size : Int32) (c_signs : Nat → Int32) (p1 : Int32) : Int32 :=
  (if p1 < 0 then (-1) else (if c_size ≤ p1 then (-1) else (if 96 ≤ p1 then (-1) else c_signs p1.toNatClampNeg)))
set_option maxHeartbeats 4000000 in
set_option maxRecDepth 100000 in
theorem k_X2_sign (l : Launch) (D : va_G) (cI : ClassId) (kA kV : Nat → Nat) (a_ a_signs a_starts : Nat) (c_size : Int32) (c_statements : Int32) (c_signs : Nat → Int32) (p1 : Int32) :
    g_MI l D cI kA kV yX2_sign wsX2_sign { frames := 0, cells := 0, slots := 0, locals := 0 } [.ref a_, .int p1] [(a_, .inr (2, [.ref a_signs, .int c_size, .ref a_starts, .int c_statements])), (a_signs, .inl (cI, 96, .inl c_signs))] (fun u : Unit => [(a_, .inr (2, [.ref a_signs, .int c_size, .ref a_starts, .int c_statements])), (a_signs, .inl (cI, 96, .inl c_signs))]) (fun (r : Int32) (u : Unit) => r = f_X2_sign c_size c_signs p1) := by
  obtain ⟨XX, hXX⟩ : ∃ z, z = f_X2_sign c_size c_signs p1 := ⟨_, rfl⟩
  have heq := hXX.trans (f_X2_sign.eq_def c_size c_signs p1)
  refine g_startI (lv := [(0, .ref a_), (1, .int p1)]) RX2 rfl rfl rfl (Nat.le_of_ble_eq_true rfl) rfl (fun p e s m args below meth c AA QQ hAA hQQ X hr hmn => ?_)
  refine g_iload_n X 1 rfl rfl dX2_sign_0 ?_
  refine g_if_lt X 30 dX2_sign_1 (by decide) (fun c1 => ?_) (fun c1 => ?_)
  · have heq := heq.trans (if_pos c1)
    refine g_iconst (v := (-1)) X (by decide) dX2_sign_30 ?_
    exact g_iret X hAA hQQ () (heq.symm.trans hXX) [0, 1] rfl rfl hr dX2_sign_31
  · have heq := heq.trans (if_neg c1)
    refine g_iload_n X 1 rfl rfl dX2_sign_4 ?_
    refine g_aload_n X 0 rfl rfl dX2_sign_5 ?_
    refine g_get (C := RX2) (T := TX2) (N := 4) (ci := 2) X hi_X2_sign_X2 0 rfl rfl 1 (by decide) (X.2.2.2.2.1 (.fieldLink RX2 15 "NineteenSecondsLeft$Letters" "size" "I") (List.mem_of_getElem? (i := 1) rfl)) rfl rfl dX2_sign_6 ?_
    refine g_icmp_ge X 30 dX2_sign_9 (by decide) (fun c9 => ?_) (fun c9 => ?_)
    · have heq := heq.trans (if_pos c9)
      refine g_iconst (v := (-1)) X (by decide) dX2_sign_30 ?_
      exact g_iret X hAA hQQ () (heq.symm.trans hXX) [0, 1] rfl rfl hr dX2_sign_31
    · have heq := heq.trans (if_neg c9)
      refine g_iload_n X 1 rfl rfl dX2_sign_12 ?_
      refine g_aload_n X 0 rfl rfl dX2_sign_13 ?_
      refine g_get (C := RX2) (T := TX2) (N := 4) (ci := 2) X hi_X2_sign_X2 0 rfl rfl 0 (by decide) (X.2.2.2.2.1 (.fieldLink RX2 9 "NineteenSecondsLeft$Letters" "signs" "[I") (List.mem_of_getElem? (i := 2) rfl)) rfl rfl dX2_sign_14 ?_
      refine g_alen (v := 96) X 1 rfl rfl dX2_sign_17 ?_
      refine g_icmp_ge X 30 dX2_sign_18 (by decide) (fun c18 => ?_) (fun c18 => ?_)
      · have heq := heq.trans (if_pos c18)
        refine g_iconst (v := (-1)) X (by decide) dX2_sign_30 ?_
        exact g_iret X hAA hQQ () (heq.symm.trans hXX) [0, 1] rfl rfl hr dX2_sign_31
      · have heq := heq.trans (if_neg c18)
        refine g_aload_n X 0 rfl rfl dX2_sign_21 ?_
        refine g_get (C := RX2) (T := TX2) (N := 4) (ci := 2) X hi_X2_sign_X2 0 rfl rfl 0 (by decide) (X.2.2.2.2.1 (.fieldLink RX2 9 "NineteenSecondsLeft$Letters" "signs" "[I") (List.mem_of_getElem? (i := 2) rfl)) rfl rfl dX2_sign_22 ?_
        refine g_iload_n X 1 rfl rfl dX2_sign_25 ?_
        refine g_iald X 1 rfl (g_vin (by decide) (g_n0 c1) (g_nn c18)) dX2_sign_26 ?_
        refine g_goto (tgt := 31) X (by decide) dX2_sign_27 ?_
        exact g_iret X hAA hQQ () (heq.symm.trans hXX) [0, 1] rfl rfl hr dX2_sign_31

def f_X2_digit (c_size : Int32) (c_signs : Nat → Int32) (p1 : Int32) : Int32 :=
  g_lt (f_X2_sign c_size c_signs p1) (fun r2 => r2 - 48)
set_option maxHeartbeats 4000000 in
set_option maxRecDepth 100000 in
theorem k_X2_digit (l : Launch) (D : va_G) (cI : ClassId) (kA kV : Nat → Nat) (a_ a_signs a_starts : Nat) (c_size : Int32) (c_statements : Int32) (c_signs : Nat → Int32) (p1 : Int32) :
    g_MI l D cI kA kV yX2_digit wsX2_digit { frames := 1, cells := 0, slots := 0, locals := 21 } [.ref a_, .int p1] [(a_, .inr (2, [.ref a_signs, .int c_size, .ref a_starts, .int c_statements])), (a_signs, .inl (cI, 96, .inl c_signs))] (fun u : Unit => [(a_, .inr (2, [.ref a_signs, .int c_size, .ref a_starts, .int c_statements])), (a_signs, .inl (cI, 96, .inl c_signs))]) (fun (r : Int32) (u : Unit) => r = f_X2_digit c_size c_signs p1) := by
  obtain ⟨XX, hXX⟩ : ∃ z, z = f_X2_digit c_size c_signs p1 := ⟨_, rfl⟩
  have heq := hXX.trans (f_X2_digit.eq_def c_size c_signs p1)
  refine g_startI (lv := [(0, .ref a_), (1, .int p1)]) RX2 rfl rfl rfl (Nat.le_of_ble_eq_true rfl) rfl (fun p e s m args below meth c AA QQ hAA hQQ X hr hmn => ?_)
  refine g_aload_n X 0 rfl rfl dX2_digit_0 ?_
  refine g_iload_n X 1 rfl rfl dX2_digit_1 ?_
  refine g_callVi (C := RX2) (T := TX2) (N := 4) (ci := 2) (As := [.int p1]) (st := []) (wr := ([] : va_W)) X (k_X2_sign l D cI kA kV a_ a_signs a_starts c_size c_statements c_signs p1) (cwV 1 X.2.2.2.2.1 gX2_digit_X2_sign rfl rfl rfl (by decide +kernel) ⟨Nat.le_of_ble_eq_true rfl, Nat.le_of_ble_eq_true rfl⟩) 0 rfl rfl [0, 1] [] rfl rfl rfl rfl (by decide) rfl (Nat.le_of_ble_eq_true rfl) ⟨Nat.le_of_ble_eq_true rfl, Nat.le_of_ble_eq_true rfl⟩ dX2_digit_2 rfl (fun r2 u2 hw2 => ?_)
  have heq := g_let heq hw2
  refine g_bipush (v := 48) X (by decide) dX2_digit_5 ?_
  refine g_isub X dX2_digit_7 ?_
  exact g_iret X hAA hQQ () (heq.symm.trans hXX) [0, 1] rfl rfl hr dX2_digit_8

def f_X2_kind (p0 : Int32) : Int32 :=
  (if p0 = 98 then 3 else (if p0 = 104 then 1 else (if p0 = 107 then 5 else (if p0 = 111 then 4 else (if p0 = 115 then 0 else (if p0 = 116 then 2 else (-1)))))))
set_option maxHeartbeats 4000000 in
set_option maxRecDepth 100000 in
theorem k_X2_kind (l : Launch) (D : va_G) (cI : ClassId) (kA kV : Nat → Nat) (p0 : Int32) :
    g_MI l D cI kA kV yX2_kind wsX2_kind { frames := 0, cells := 0, slots := 0, locals := 0 } [.int p0] [] (fun u : Unit => []) (fun (r : Int32) (u : Unit) => r = f_X2_kind p0) := by
  obtain ⟨XX, hXX⟩ : ∃ z, z = f_X2_kind p0 := ⟨_, rfl⟩
  have heq := hXX.trans (f_X2_kind.eq_def p0)
  refine g_startI (lv := [(0, .int p0)]) RX2 rfl rfl rfl (Nat.le_of_ble_eq_true rfl) rfl (fun p e s m args below meth c AA QQ hAA hQQ X hr hmn => ?_)
  refine g_iload_n X 0 rfl rfl dX2_kind_0 ?_
  by_cases s1_0 : p0 = 98
  · refine g_tsHit (k := 98) X 98 dX2_kind_1 s1_0 (by decide) (by decide) rfl (by decide) ?_
    have heq := heq.trans (if_pos s1_0)
    refine g_iconst (v := 3) X (by decide) dX2_kind_98 ?_
    exact g_iret X hAA hQQ () (heq.symm.trans hXX) [] rfl rfl hr dX2_kind_99
  have heq := heq.trans (if_neg s1_0)
  by_cases s1_1 : p0 = 104
  · refine g_tsHit (k := 104) X 94 dX2_kind_1 s1_1 (by decide) (by decide) rfl (by decide) ?_
    have heq := heq.trans (if_pos s1_1)
    refine g_iconst (v := 1) X (by decide) dX2_kind_94 ?_
    exact g_iret X hAA hQQ () (heq.symm.trans hXX) [] rfl rfl hr dX2_kind_95
  have heq := heq.trans (if_neg s1_1)
  by_cases s1_2 : p0 = 107
  · refine g_tsHit (k := 107) X 102 dX2_kind_1 s1_2 (by decide) (by decide) rfl (by decide) ?_
    have heq := heq.trans (if_pos s1_2)
    refine g_iconst (v := 5) X (by decide) dX2_kind_102 ?_
    exact g_iret X hAA hQQ () (heq.symm.trans hXX) [] rfl rfl hr dX2_kind_103
  have heq := heq.trans (if_neg s1_2)
  by_cases s1_3 : p0 = 111
  · refine g_tsHit (k := 111) X 100 dX2_kind_1 s1_3 (by decide) (by decide) rfl (by decide) ?_
    have heq := heq.trans (if_pos s1_3)
    refine g_iconst (v := 4) X (by decide) dX2_kind_100 ?_
    exact g_iret X hAA hQQ () (heq.symm.trans hXX) [] rfl rfl hr dX2_kind_101
  have heq := heq.trans (if_neg s1_3)
  by_cases s1_4 : p0 = 115
  · refine g_tsHit (k := 115) X 92 dX2_kind_1 s1_4 (by decide) (by decide) rfl (by decide) ?_
    have heq := heq.trans (if_pos s1_4)
    refine g_iconst (v := 0) X (by decide) dX2_kind_92 ?_
    exact g_iret X hAA hQQ () (heq.symm.trans hXX) [] rfl rfl hr dX2_kind_93
  have heq := heq.trans (if_neg s1_4)
  by_cases s1_5 : p0 = 116
  · refine g_tsHit (k := 116) X 96 dX2_kind_1 s1_5 (by decide) (by decide) rfl (by decide) ?_
    have heq := heq.trans (if_pos s1_5)
    refine g_iconst (v := 2) X (by decide) dX2_kind_96 ?_
    exact g_iret X hAA hQQ () (heq.symm.trans hXX) [] rfl rfl hr dX2_kind_97
  have heq := heq.trans (if_neg s1_5)
  refine g_tsDef X 104 [98, 104, 107, 111, 115, 116] dX2_kind_1 (g_neC s1_0 (g_neC s1_1 (g_neC s1_2 (g_neC s1_3 (g_neC s1_4 (g_ne1 s1_5)))))) (by decide) (by decide) (by decide) ?_
  refine g_iconst (v := (-1)) X (by decide) dX2_kind_104 ?_
  exact g_iret X hAA hQQ () (heq.symm.trans hXX) [] rfl rfl hr dX2_kind_105

def f_X2_fits (p0 : Int32) (p1 : Int32) : Int32 :=
  (if p0 = 100 then (if p1 < 48 then 0 else (if 57 < p1 then 0 else 1)) else (if p0 = 107 then g_lt (f_X2_kind p1) (fun r55 => (if r55 < 0 then 0 else 1)) else (if p0 = 115 then (if p1 = 43 then 1 else (if p1 = 45 then 1 else 0)) else (if p1 = p0 then 1 else 0))))
set_option maxHeartbeats 4000000 in
set_option maxRecDepth 100000 in
theorem k_X2_fits (l : Launch) (D : va_G) (cI : ClassId) (kA kV : Nat → Nat) (p0 : Int32) (p1 : Int32) :
    g_MI l D cI kA kV yX2_fits wsX2_fits { frames := 1, cells := 0, slots := 0, locals := 20 } [.int p0, .int p1] [] (fun u : Unit => []) (fun (r : Int32) (u : Unit) => r = f_X2_fits p0 p1) := by
  obtain ⟨XX, hXX⟩ : ∃ z, z = f_X2_fits p0 p1 := ⟨_, rfl⟩
  have heq := hXX.trans (f_X2_fits.eq_def p0 p1)
  refine g_startI (lv := [(0, .int p0), (1, .int p1)]) RX2 rfl rfl rfl (Nat.le_of_ble_eq_true rfl) rfl (fun p e s m args below meth c AA QQ hAA hQQ X hr hmn => ?_)
  refine g_iload_n X 0 rfl rfl dX2_fits_0 ?_
  by_cases s1_0 : p0 = 100
  · refine g_lsw X 36 dX2_fits_1 (by decide) (by first | (rw [s1_0]; done) | (rw [s1_0]; rfl)) (by decide) ?_
    have heq := heq.trans (if_pos s1_0)
    refine g_iload_n X 1 rfl rfl dX2_fits_36 ?_
    refine g_bipush (v := 48) X (by decide) dX2_fits_37 ?_
    refine g_icmp_lt X 52 dX2_fits_39 (by decide) (fun c39 => ?_) (fun c39 => ?_)
    · have heq := heq.trans (if_pos c39)
      refine g_iconst (v := 0) X (by decide) dX2_fits_52 ?_
      exact g_zret X hAA hQQ () (heq.symm.trans hXX) [] rfl rfl hr rfl dX2_fits_53
    · have heq := heq.trans (if_neg c39)
      refine g_iload_n X 1 rfl rfl dX2_fits_42 ?_
      refine g_bipush (v := 57) X (by decide) dX2_fits_43 ?_
      refine g_icmp_gt X 52 dX2_fits_45 (by decide) (fun c45 => ?_) (fun c45 => ?_)
      · have heq := heq.trans (if_pos c45)
        refine g_iconst (v := 0) X (by decide) dX2_fits_52 ?_
        exact g_zret X hAA hQQ () (heq.symm.trans hXX) [] rfl rfl hr rfl dX2_fits_53
      · have heq := heq.trans (if_neg c45)
        refine g_iconst (v := 1) X (by decide) dX2_fits_48 ?_
        refine g_goto (tgt := 53) X (by decide) dX2_fits_49 ?_
        exact g_zret X hAA hQQ () (heq.symm.trans hXX) [] rfl rfl hr rfl dX2_fits_53
  have heq := heq.trans (if_neg s1_0)
  by_cases s1_1 : p0 = 107
  · refine g_lsw X 54 dX2_fits_1 (by decide) (by first | (rw [s1_1]; done) | (rw [s1_1]; rfl)) (by decide) ?_
    have heq := heq.trans (if_pos s1_1)
    refine g_iload_n X 1 rfl rfl dX2_fits_54 ?_
    refine g_callSi (As := [.int p1]) (st := []) (wr := ([] : va_W)) X (k_X2_kind l D cI kA kV p1) (va_cwS 1 X.2.2.2.2.1 gX2_fits_X2_kind rfl rfl rfl (by decide +kernel) ⟨Nat.le_of_ble_eq_true rfl, Nat.le_of_ble_eq_true rfl⟩) [] [] rfl rfl rfl rfl (by decide) rfl (Nat.le_of_ble_eq_true rfl) ⟨Nat.le_of_ble_eq_true rfl, Nat.le_of_ble_eq_true rfl⟩ dX2_fits_55 rfl (fun r55 u55 hw55 => ?_)
    have heq := g_let heq hw55
    refine g_if_lt X 65 dX2_fits_58 (by decide) (fun c58 => ?_) (fun c58 => ?_)
    · have heq := heq.trans (if_pos c58)
      refine g_iconst (v := 0) X (by decide) dX2_fits_65 ?_
      exact g_zret X hAA hQQ () (heq.symm.trans hXX) [] rfl rfl hr rfl dX2_fits_66
    · have heq := heq.trans (if_neg c58)
      refine g_iconst (v := 1) X (by decide) dX2_fits_61 ?_
      refine g_goto (tgt := 66) X (by decide) dX2_fits_62 ?_
      exact g_zret X hAA hQQ () (heq.symm.trans hXX) [] rfl rfl hr rfl dX2_fits_66
  have heq := heq.trans (if_neg s1_1)
  by_cases s1_2 : p0 = 115
  · refine g_lsw X 67 dX2_fits_1 (by decide) (by first | (rw [s1_2]; done) | (rw [s1_2]; rfl)) (by decide) ?_
    have heq := heq.trans (if_pos s1_2)
    refine g_iload_n X 1 rfl rfl dX2_fits_67 ?_
    refine g_bipush (v := 43) X (by decide) dX2_fits_68 ?_
    refine g_icmp_eq X 79 dX2_fits_70 (by decide) (fun c70 => ?_) (fun c70 => ?_)
    · have heq := heq.trans (if_pos c70)
      refine g_iconst (v := 1) X (by decide) dX2_fits_79 ?_
      refine g_goto (tgt := 84) X (by decide) dX2_fits_80 ?_
      exact g_zret X hAA hQQ () (heq.symm.trans hXX) [] rfl rfl hr rfl dX2_fits_84
    · have heq := heq.trans (if_neg c70)
      refine g_iload_n X 1 rfl rfl dX2_fits_73 ?_
      refine g_bipush (v := 45) X (by decide) dX2_fits_74 ?_
      refine g_icmp_ne X 83 dX2_fits_76 (by decide) (fun c76 => ?_) (fun c76 => ?_)
      · have heq := heq.trans (if_neg c76)
        refine g_iconst (v := 0) X (by decide) dX2_fits_83 ?_
        exact g_zret X hAA hQQ () (heq.symm.trans hXX) [] rfl rfl hr rfl dX2_fits_84
      · have heq := heq.trans (if_pos c76)
        refine g_iconst (v := 1) X (by decide) dX2_fits_79 ?_
        refine g_goto (tgt := 84) X (by decide) dX2_fits_80 ?_
        exact g_zret X hAA hQQ () (heq.symm.trans hXX) [] rfl rfl hr rfl dX2_fits_84
  have heq := heq.trans (if_neg s1_2)
  refine g_lsw (off := 84) X 85 dX2_fits_1 (by decide) ((lv_osw s1_0 rfl).trans ((lv_osw s1_1 rfl).trans ((lv_osw s1_2 rfl).trans rfl))) (by decide) ?_
  refine g_iload_n X 1 rfl rfl dX2_fits_85 ?_
  refine g_iload_n X 0 rfl rfl dX2_fits_86 ?_
  refine g_icmp_ne X 94 dX2_fits_87 (by decide) (fun c87 => ?_) (fun c87 => ?_)
  · have heq := heq.trans (if_neg c87)
    refine g_iconst (v := 0) X (by decide) dX2_fits_94 ?_
    exact g_zret X hAA hQQ () (heq.symm.trans hXX) [] rfl rfl hr rfl dX2_fits_95
  · have heq := heq.trans (if_pos c87)
    refine g_iconst (v := 1) X (by decide) dX2_fits_90 ?_
    refine g_goto (tgt := 95) X (by decide) dX2_fits_91 ?_
    exact g_zret X hAA hQQ () (heq.symm.trans hXX) [] rfl rfl hr rfl dX2_fits_95

theorem hi_X2_addStart_X2 : ∀ w ∈ wsX20, w ∈ wsX2_addStart := fun w h => List.mem_cons_of_mem _ (List.mem_append_right _ (h))
def f_X2_addStart (c_statements : Int32) (c_starts : Nat → Int32) (p1 : Int32) : (Int32) × (Nat → Int32) :=
  (if c_statements < 0 then (c_statements, c_starts) else (if 96 ≤ c_statements then (c_statements, c_starts) else ((c_statements + 1), upd c_starts c_statements.toNatClampNeg p1)))
set_option maxHeartbeats 4000000 in
set_option maxRecDepth 100000 in
theorem k_X2_addStart (l : Launch) (D : va_G) (cI : ClassId) (kA kV : Nat → Nat) (a_ a_signs a_starts : Nat) (c_size : Int32) (c_statements : Int32) (c_starts : Nat → Int32) (p1 : Int32) :
    g_MV l D cI kA kV yX2_addStart wsX2_addStart { frames := 0, cells := 0, slots := 0, locals := 0 } [.ref a_, .int p1] [(a_, .inr (2, [.ref a_signs, .int c_size, .ref a_starts, .int c_statements])), (a_starts, .inl (cI, 96, .inl c_starts))] (fun u : (Int32) × (Nat → Int32) => [(a_, .inr (2, [.ref a_signs, .int c_size, .ref a_starts, .int u.1])), (a_starts, .inl (cI, 96, .inl u.2))]) (fun u : (Int32) × (Nat → Int32) => u = f_X2_addStart c_statements c_starts p1) := by
  obtain ⟨XX, hXX⟩ : ∃ z, z = f_X2_addStart c_statements c_starts p1 := ⟨_, rfl⟩
  have heq := hXX.trans (f_X2_addStart.eq_def c_statements c_starts p1)
  refine g_startV (lv := [(0, .ref a_), (1, .int p1)]) RX2 rfl rfl rfl (Nat.le_of_ble_eq_true rfl) rfl (fun p e s m args below meth c AA QQ hAA hQQ X hr hmn => ?_)
  refine g_aload_n X 0 rfl rfl dX2_addStart_0 ?_
  refine g_get (C := RX2) (T := TX2) (N := 4) (ci := 2) X hi_X2_addStart_X2 0 rfl rfl 3 (by decide) (X.2.2.2.2.1 (.fieldLink RX2 22 "NineteenSecondsLeft$Letters" "statements" "I") (List.mem_of_getElem? (i := 1) rfl)) rfl rfl dX2_addStart_1 ?_
  refine g_if_lt X 39 dX2_addStart_4 (by decide) (fun c4 => ?_) (fun c4 => ?_)
  · have heq := heq.trans (if_pos c4)
    exact g_vret X hAA hQQ (c_statements, c_starts) (heq.symm.trans hXX) [0, 1] rfl rfl hr dX2_addStart_39
  · have heq := heq.trans (if_neg c4)
    refine g_aload_n X 0 rfl rfl dX2_addStart_7 ?_
    refine g_get (C := RX2) (T := TX2) (N := 4) (ci := 2) X hi_X2_addStart_X2 0 rfl rfl 3 (by decide) (X.2.2.2.2.1 (.fieldLink RX2 22 "NineteenSecondsLeft$Letters" "statements" "I") (List.mem_of_getElem? (i := 1) rfl)) rfl rfl dX2_addStart_8 ?_
    refine g_aload_n X 0 rfl rfl dX2_addStart_11 ?_
    refine g_get (C := RX2) (T := TX2) (N := 4) (ci := 2) X hi_X2_addStart_X2 0 rfl rfl 2 (by decide) (X.2.2.2.2.1 (.fieldLink RX2 19 "NineteenSecondsLeft$Letters" "starts" "[I") (List.mem_of_getElem? (i := 2) rfl)) rfl rfl dX2_addStart_12 ?_
    refine g_alen (v := 96) X 1 rfl rfl dX2_addStart_15 ?_
    refine g_icmp_ge X 39 dX2_addStart_16 (by decide) (fun c16 => ?_) (fun c16 => ?_)
    · have heq := heq.trans (if_pos c16)
      exact g_vret X hAA hQQ (c_statements, c_starts) (heq.symm.trans hXX) [0, 1] rfl rfl hr dX2_addStart_39
    · have heq := heq.trans (if_neg c16)
      refine g_aload_n X 0 rfl rfl dX2_addStart_19 ?_
      refine g_get (C := RX2) (T := TX2) (N := 4) (ci := 2) X hi_X2_addStart_X2 0 rfl rfl 2 (by decide) (X.2.2.2.2.1 (.fieldLink RX2 19 "NineteenSecondsLeft$Letters" "starts" "[I") (List.mem_of_getElem? (i := 2) rfl)) rfl rfl dX2_addStart_20 ?_
      refine g_aload_n X 0 rfl rfl dX2_addStart_23 ?_
      refine g_get (C := RX2) (T := TX2) (N := 4) (ci := 2) X hi_X2_addStart_X2 0 rfl rfl 3 (by decide) (X.2.2.2.2.1 (.fieldLink RX2 22 "NineteenSecondsLeft$Letters" "statements" "I") (List.mem_of_getElem? (i := 1) rfl)) rfl rfl dX2_addStart_24 ?_
      refine g_iload_n X 1 rfl rfl dX2_addStart_27 ?_
      refine g_iast (ws' := [(a_, .inr (2, [.ref a_signs, .int c_size, .ref a_starts, .int c_statements])), (a_starts, .inl (cI, 96, .inl (upd c_starts c_statements.toNatClampNeg p1)))]) X 1 rfl (g_vin (by decide) (g_n0 c4) (g_nn c16)) dX2_addStart_28 rfl ?_
      refine g_aload_n X 0 rfl rfl dX2_addStart_29 ?_
      refine g_dup X rfl dX2_addStart_30 ?_
      refine g_get (C := RX2) (T := TX2) (N := 4) (ci := 2) X hi_X2_addStart_X2 0 rfl rfl 3 (by decide) (X.2.2.2.2.1 (.fieldLink RX2 22 "NineteenSecondsLeft$Letters" "statements" "I") (List.mem_of_getElem? (i := 1) rfl)) rfl rfl dX2_addStart_31 ?_
      refine g_iconst (v := 1) X (by decide) dX2_addStart_34 ?_
      refine g_iadd X dX2_addStart_35 ?_
      refine g_put (C := RX2) (T := TX2) (N := 4) (ci := 2) (ws' := [(a_, .inr (2, [.ref a_signs, .int c_size, .ref a_starts, .int (c_statements + 1)])), (a_starts, .inl (cI, 96, .inl (upd c_starts c_statements.toNatClampNeg p1)))]) X hi_X2_addStart_X2 tyX2 tyX2_ok nmX2 0 rfl rfl 3 (by decide) (X.2.2.2.2.1 (.fieldLink RX2 22 "NineteenSecondsLeft$Letters" "statements" "I") (List.mem_of_getElem? (i := 1) rfl)) rfl rfl rfl rfl (Nat.le_of_ble_eq_true rfl) dX2_addStart_36 rfl ?_
      exact g_vret X hAA hQQ ((c_statements + 1), upd c_starts c_statements.toNatClampNeg p1) (heq.symm.trans hXX) [0, 1] rfl rfl hr dX2_addStart_39

def f_X2_target (c_size : Int32) (c_signs : Nat → Int32) (p1 : Int32) : Int32 :=
  g_lt (f_X2_sign c_size c_signs p1) (fun r2 => (if r2 = 98 then 2 else (if r2 = 99 then 0 else (if r2 = 100 then 9 else (if r2 = 102 then g_lt (f_X2_digit c_size c_signs (p1 + 1)) (fun r119 => 3 + r119) else (if r2 = 108 then 1 else (if r2 = 111 then g_lt (f_X2_digit c_size c_signs (p1 + 1)) (fun r129 => 5 + r129) else (if r2 = 114 then 7 else (if r2 = 119 then 8 else (-1))))))))))
set_option maxHeartbeats 4000000 in
set_option maxRecDepth 100000 in
theorem k_X2_target (l : Launch) (D : va_G) (cI : ClassId) (kA kV : Nat → Nat) (a_ a_signs a_starts : Nat) (c_size : Int32) (c_statements : Int32) (c_signs : Nat → Int32) (p1 : Int32) :
    g_MI l D cI kA kV yX2_target wsX2_target { frames := 2, cells := 0, slots := 0, locals := 42 } [.ref a_, .int p1] [(a_, .inr (2, [.ref a_signs, .int c_size, .ref a_starts, .int c_statements])), (a_signs, .inl (cI, 96, .inl c_signs))] (fun u : Unit => [(a_, .inr (2, [.ref a_signs, .int c_size, .ref a_starts, .int c_statements])), (a_signs, .inl (cI, 96, .inl c_signs))]) (fun (r : Int32) (u : Unit) => r = f_X2_target c_size c_signs p1) := by
  obtain ⟨XX, hXX⟩ : ∃ z, z = f_X2_target c_size c_signs p1 := ⟨_, rfl⟩
  have heq := hXX.trans (f_X2_target.eq_def c_size c_signs p1)
  refine g_startI (lv := [(0, .ref a_), (1, .int p1)]) RX2 rfl rfl rfl (Nat.le_of_ble_eq_true rfl) rfl (fun p e s m args below meth c AA QQ hAA hQQ X hr hmn => ?_)
  refine g_aload_n X 0 rfl rfl dX2_target_0 ?_
  refine g_iload_n X 1 rfl rfl dX2_target_1 ?_
  refine g_callVi (C := RX2) (T := TX2) (N := 4) (ci := 2) (As := [.int p1]) (st := []) (wr := ([] : va_W)) X (k_X2_sign l D cI kA kV a_ a_signs a_starts c_size c_statements c_signs p1) (cwV 1 X.2.2.2.2.1 gX2_target_X2_sign rfl rfl rfl (by decide +kernel) ⟨Nat.le_of_ble_eq_true rfl, Nat.le_of_ble_eq_true rfl⟩) 0 rfl rfl [0, 1] [] rfl rfl rfl rfl (by decide) rfl (Nat.le_of_ble_eq_true rfl) ⟨Nat.le_of_ble_eq_true rfl, Nat.le_of_ble_eq_true rfl⟩ dX2_target_2 rfl (fun r2 u2 hw2 => ?_)
  have heq := g_let heq hw2
  by_cases s5_0 : r2 = 98
  · refine g_tsHit (k := 98) X 112 dX2_target_5 s5_0 (by decide) (by decide) rfl (by decide) ?_
    have heq := heq.trans (if_pos s5_0)
    refine g_iconst (v := 2) X (by decide) dX2_target_112 ?_
    exact g_iret X hAA hQQ () (heq.symm.trans hXX) [0, 1] rfl rfl hr dX2_target_113
  have heq := heq.trans (if_neg s5_0)
  by_cases s5_1 : r2 = 99
  · refine g_tsHit (k := 99) X 108 dX2_target_5 s5_1 (by decide) (by decide) rfl (by decide) ?_
    have heq := heq.trans (if_pos s5_1)
    refine g_iconst (v := 0) X (by decide) dX2_target_108 ?_
    exact g_iret X hAA hQQ () (heq.symm.trans hXX) [0, 1] rfl rfl hr dX2_target_109
  have heq := heq.trans (if_neg s5_1)
  by_cases s5_2 : r2 = 100
  · refine g_tsHit (k := 100) X 140 dX2_target_5 s5_2 (by decide) (by decide) rfl (by decide) ?_
    have heq := heq.trans (if_pos s5_2)
    refine g_bipush (v := 9) X (by decide) dX2_target_140 ?_
    exact g_iret X hAA hQQ () (heq.symm.trans hXX) [0, 1] rfl rfl hr dX2_target_142
  have heq := heq.trans (if_neg s5_2)
  by_cases s5_3 : r2 = 102
  · refine g_tsHit (k := 102) X 114 dX2_target_5 s5_3 (by decide) (by decide) rfl (by decide) ?_
    have heq := heq.trans (if_pos s5_3)
    refine g_iconst (v := 3) X (by decide) dX2_target_114 ?_
    refine g_aload_n X 0 rfl rfl dX2_target_115 ?_
    refine g_iload_n X 1 rfl rfl dX2_target_116 ?_
    refine g_iconst (v := 1) X (by decide) dX2_target_117 ?_
    refine g_iadd X dX2_target_118 ?_
    refine g_callVi (C := RX2) (T := TX2) (N := 4) (ci := 2) (As := [.int (p1 + 1)]) (st := [.int 3]) (wr := ([] : va_W)) X (k_X2_digit l D cI kA kV a_ a_signs a_starts c_size c_statements c_signs (p1 + 1)) (cwV 1 X.2.2.2.2.1 gX2_target_X2_digit rfl rfl rfl (by decide +kernel) ⟨Nat.le_of_ble_eq_true rfl, Nat.le_of_ble_eq_true rfl⟩) 0 rfl rfl [0, 1] [] rfl rfl rfl rfl (by decide) rfl (Nat.le_of_ble_eq_true rfl) ⟨Nat.le_of_ble_eq_true rfl, Nat.le_of_ble_eq_true rfl⟩ dX2_target_119 rfl (fun r119 u119 hw119 => ?_)
    have heq := g_let heq hw119
    refine g_iadd X dX2_target_122 ?_
    exact g_iret X hAA hQQ () (heq.symm.trans hXX) [0, 1] rfl rfl hr dX2_target_123
  have heq := heq.trans (if_neg s5_3)
  by_cases s5_4 : r2 = 108
  · refine g_tsHit (k := 108) X 110 dX2_target_5 s5_4 (by decide) (by decide) rfl (by decide) ?_
    have heq := heq.trans (if_pos s5_4)
    refine g_iconst (v := 1) X (by decide) dX2_target_110 ?_
    exact g_iret X hAA hQQ () (heq.symm.trans hXX) [0, 1] rfl rfl hr dX2_target_111
  have heq := heq.trans (if_neg s5_4)
  by_cases s5_5 : r2 = 111
  · refine g_tsHit (k := 111) X 124 dX2_target_5 s5_5 (by decide) (by decide) rfl (by decide) ?_
    have heq := heq.trans (if_pos s5_5)
    refine g_iconst (v := 5) X (by decide) dX2_target_124 ?_
    refine g_aload_n X 0 rfl rfl dX2_target_125 ?_
    refine g_iload_n X 1 rfl rfl dX2_target_126 ?_
    refine g_iconst (v := 1) X (by decide) dX2_target_127 ?_
    refine g_iadd X dX2_target_128 ?_
    refine g_callVi (C := RX2) (T := TX2) (N := 4) (ci := 2) (As := [.int (p1 + 1)]) (st := [.int 5]) (wr := ([] : va_W)) X (k_X2_digit l D cI kA kV a_ a_signs a_starts c_size c_statements c_signs (p1 + 1)) (cwV 1 X.2.2.2.2.1 gX2_target_X2_digit rfl rfl rfl (by decide +kernel) ⟨Nat.le_of_ble_eq_true rfl, Nat.le_of_ble_eq_true rfl⟩) 0 rfl rfl [0, 1] [] rfl rfl rfl rfl (by decide) rfl (Nat.le_of_ble_eq_true rfl) ⟨Nat.le_of_ble_eq_true rfl, Nat.le_of_ble_eq_true rfl⟩ dX2_target_129 rfl (fun r129 u129 hw129 => ?_)
    have heq := g_let heq hw129
    refine g_iadd X dX2_target_132 ?_
    exact g_iret X hAA hQQ () (heq.symm.trans hXX) [0, 1] rfl rfl hr dX2_target_133
  have heq := heq.trans (if_neg s5_5)
  by_cases s5_6 : r2 = 114
  · refine g_tsHit (k := 114) X 134 dX2_target_5 s5_6 (by decide) (by decide) rfl (by decide) ?_
    have heq := heq.trans (if_pos s5_6)
    refine g_bipush (v := 7) X (by decide) dX2_target_134 ?_
    exact g_iret X hAA hQQ () (heq.symm.trans hXX) [0, 1] rfl rfl hr dX2_target_136
  have heq := heq.trans (if_neg s5_6)
  by_cases s5_7 : r2 = 119
  · refine g_tsHit (k := 119) X 137 dX2_target_5 s5_7 (by decide) (by decide) rfl (by decide) ?_
    have heq := heq.trans (if_pos s5_7)
    refine g_bipush (v := 8) X (by decide) dX2_target_137 ?_
    exact g_iret X hAA hQQ () (heq.symm.trans hXX) [0, 1] rfl rfl hr dX2_target_139
  have heq := heq.trans (if_neg s5_7)
  refine g_tsDef X 143 [98, 99, 100, 102, 108, 111, 114, 119] dX2_target_5 (g_neC s5_0 (g_neC s5_1 (g_neC s5_2 (g_neC s5_3 (g_neC s5_4 (g_neC s5_5 (g_neC s5_6 (g_ne1 s5_7)))))))) (by decide) (by decide) (by decide) ?_
  refine g_iconst (v := (-1)) X (by decide) dX2_target_143 ?_
  exact g_iret X hAA hQQ () (heq.symm.trans hXX) [0, 1] rfl rfl hr dX2_target_144

def f_X2_number (c_size : Int32) (c_signs : Nat → Int32) (p1 : Int32) : Int32 :=
  g_lt (f_X2_sign c_size c_signs p1) (fun r2 => (if r2 = 99 then g_lt (f_X2_digit c_size c_signs (p1 + 1)) (fun r52 => g_lt (f_X2_digit c_size c_signs (p1 + 2)) (fun r62 => (r52 * 10) + r62)) else (if r2 = 102 then g_lt (f_X2_digit c_size c_signs (p1 + 2)) (fun r105 => r105) else (if r2 = 108 then g_lt (f_X2_sign c_size c_signs (p1 + 1)) (fun r73 => (if r73 = 43 then g_lt (f_X2_digit c_size c_signs (p1 + 2)) (fun r85 => 6 + r85) else g_lt (f_X2_digit c_size c_signs (p1 + 2)) (fun r95 => 6 + (-r95)))) else (if r2 = 111 then g_lt (f_X2_digit c_size c_signs (p1 + 2)) (fun r105 => r105) else g_lt (f_X2_digit c_size c_signs (p1 + 1)) (fun r113 => r113))))))
set_option maxHeartbeats 4000000 in
set_option maxRecDepth 100000 in
theorem k_X2_number (l : Launch) (D : va_G) (cI : ClassId) (kA kV : Nat → Nat) (a_ a_signs a_starts : Nat) (c_size : Int32) (c_statements : Int32) (c_signs : Nat → Int32) (p1 : Int32) :
    g_MI l D cI kA kV yX2_number wsX2_number { frames := 2, cells := 0, slots := 0, locals := 42 } [.ref a_, .int p1] [(a_, .inr (2, [.ref a_signs, .int c_size, .ref a_starts, .int c_statements])), (a_signs, .inl (cI, 96, .inl c_signs))] (fun u : Unit => [(a_, .inr (2, [.ref a_signs, .int c_size, .ref a_starts, .int c_statements])), (a_signs, .inl (cI, 96, .inl c_signs))]) (fun (r : Int32) (u : Unit) => r = f_X2_number c_size c_signs p1) := by
  obtain ⟨XX, hXX⟩ : ∃ z, z = f_X2_number c_size c_signs p1 := ⟨_, rfl⟩
  have heq := hXX.trans (f_X2_number.eq_def c_size c_signs p1)
  refine g_startI (lv := [(0, .ref a_), (1, .int p1)]) RX2 rfl rfl rfl (Nat.le_of_ble_eq_true rfl) rfl (fun p e s m args below meth c AA QQ hAA hQQ X hr hmn => ?_)
  refine g_aload_n X 0 rfl rfl dX2_number_0 ?_
  refine g_iload_n X 1 rfl rfl dX2_number_1 ?_
  refine g_callVi (C := RX2) (T := TX2) (N := 4) (ci := 2) (As := [.int p1]) (st := []) (wr := ([] : va_W)) X (k_X2_sign l D cI kA kV a_ a_signs a_starts c_size c_statements c_signs p1) (cwV 1 X.2.2.2.2.1 gX2_number_X2_sign rfl rfl rfl (by decide +kernel) ⟨Nat.le_of_ble_eq_true rfl, Nat.le_of_ble_eq_true rfl⟩) 0 rfl rfl [0, 1] [] rfl rfl rfl rfl (by decide) rfl (Nat.le_of_ble_eq_true rfl) ⟨Nat.le_of_ble_eq_true rfl, Nat.le_of_ble_eq_true rfl⟩ dX2_number_2 rfl (fun r2 u2 hw2 => ?_)
  have heq := g_let heq hw2
  by_cases s5_0 : r2 = 99
  · refine g_lsw X 48 dX2_number_5 (by decide) (by first | (rw [s5_0]; done) | (rw [s5_0]; rfl)) (by decide) ?_
    have heq := heq.trans (if_pos s5_0)
    refine g_aload_n X 0 rfl rfl dX2_number_48 ?_
    refine g_iload_n X 1 rfl rfl dX2_number_49 ?_
    refine g_iconst (v := 1) X (by decide) dX2_number_50 ?_
    refine g_iadd X dX2_number_51 ?_
    refine g_callVi (C := RX2) (T := TX2) (N := 4) (ci := 2) (As := [.int (p1 + 1)]) (st := []) (wr := ([] : va_W)) X (k_X2_digit l D cI kA kV a_ a_signs a_starts c_size c_statements c_signs (p1 + 1)) (cwV 1 X.2.2.2.2.1 gX2_number_X2_digit rfl rfl rfl (by decide +kernel) ⟨Nat.le_of_ble_eq_true rfl, Nat.le_of_ble_eq_true rfl⟩) 0 rfl rfl [0, 1] [] rfl rfl rfl rfl (by decide) rfl (Nat.le_of_ble_eq_true rfl) ⟨Nat.le_of_ble_eq_true rfl, Nat.le_of_ble_eq_true rfl⟩ dX2_number_52 rfl (fun r52 u52 hw52 => ?_)
    have heq := g_let heq hw52
    refine g_bipush (v := 10) X (by decide) dX2_number_55 ?_
    refine g_imul X dX2_number_57 ?_
    refine g_aload_n X 0 rfl rfl dX2_number_58 ?_
    refine g_iload_n X 1 rfl rfl dX2_number_59 ?_
    refine g_iconst (v := 2) X (by decide) dX2_number_60 ?_
    refine g_iadd X dX2_number_61 ?_
    refine g_callVi (C := RX2) (T := TX2) (N := 4) (ci := 2) (As := [.int (p1 + 2)]) (st := [.int (r52 * 10)]) (wr := ([] : va_W)) X (k_X2_digit l D cI kA kV a_ a_signs a_starts c_size c_statements c_signs (p1 + 2)) (cwV 1 X.2.2.2.2.1 gX2_number_X2_digit rfl rfl rfl (by decide +kernel) ⟨Nat.le_of_ble_eq_true rfl, Nat.le_of_ble_eq_true rfl⟩) 0 rfl rfl [0, 1] [] rfl rfl rfl rfl (by decide) rfl (Nat.le_of_ble_eq_true rfl) ⟨Nat.le_of_ble_eq_true rfl, Nat.le_of_ble_eq_true rfl⟩ dX2_number_62 rfl (fun r62 u62 hw62 => ?_)
    have heq := g_let heq hw62
    refine g_iadd X dX2_number_65 ?_
    exact g_iret X hAA hQQ () (heq.symm.trans hXX) [0, 1] rfl rfl hr dX2_number_66
  have heq := heq.trans (if_neg s5_0)
  by_cases s5_1 : r2 = 102
  · refine g_lsw X 101 dX2_number_5 (by decide) (by first | (rw [s5_1]; done) | (rw [s5_1]; rfl)) (by decide) ?_
    have heq := heq.trans (if_pos s5_1)
    refine g_aload_n X 0 rfl rfl dX2_number_101 ?_
    refine g_iload_n X 1 rfl rfl dX2_number_102 ?_
    refine g_iconst (v := 2) X (by decide) dX2_number_103 ?_
    refine g_iadd X dX2_number_104 ?_
    refine g_callVi (C := RX2) (T := TX2) (N := 4) (ci := 2) (As := [.int (p1 + 2)]) (st := []) (wr := ([] : va_W)) X (k_X2_digit l D cI kA kV a_ a_signs a_starts c_size c_statements c_signs (p1 + 2)) (cwV 1 X.2.2.2.2.1 gX2_number_X2_digit rfl rfl rfl (by decide +kernel) ⟨Nat.le_of_ble_eq_true rfl, Nat.le_of_ble_eq_true rfl⟩) 0 rfl rfl [0, 1] [] rfl rfl rfl rfl (by decide) rfl (Nat.le_of_ble_eq_true rfl) ⟨Nat.le_of_ble_eq_true rfl, Nat.le_of_ble_eq_true rfl⟩ dX2_number_105 rfl (fun r105 u105 hw105 => ?_)
    have heq := g_let heq hw105
    exact g_iret X hAA hQQ () (heq.symm.trans hXX) [0, 1] rfl rfl hr dX2_number_108
  have heq := heq.trans (if_neg s5_1)
  by_cases s5_2 : r2 = 108
  · refine g_lsw X 67 dX2_number_5 (by decide) (by first | (rw [s5_2]; done) | (rw [s5_2]; rfl)) (by decide) ?_
    have heq := heq.trans (if_pos s5_2)
    refine g_bipush (v := 6) X (by decide) dX2_number_67 ?_
    refine g_aload_n X 0 rfl rfl dX2_number_69 ?_
    refine g_iload_n X 1 rfl rfl dX2_number_70 ?_
    refine g_iconst (v := 1) X (by decide) dX2_number_71 ?_
    refine g_iadd X dX2_number_72 ?_
    refine g_callVi (C := RX2) (T := TX2) (N := 4) (ci := 2) (As := [.int (p1 + 1)]) (st := [.int 6]) (wr := ([] : va_W)) X (k_X2_sign l D cI kA kV a_ a_signs a_starts c_size c_statements c_signs (p1 + 1)) (cwV 1 X.2.2.2.2.1 gX2_number_X2_sign rfl rfl rfl (by decide +kernel) ⟨Nat.le_of_ble_eq_true rfl, Nat.le_of_ble_eq_true rfl⟩) 0 rfl rfl [0, 1] [] rfl rfl rfl rfl (by decide) rfl (Nat.le_of_ble_eq_true rfl) ⟨Nat.le_of_ble_eq_true rfl, Nat.le_of_ble_eq_true rfl⟩ dX2_number_73 rfl (fun r73 u73 hw73 => ?_)
    have heq := g_let heq hw73
    refine g_bipush (v := 43) X (by decide) dX2_number_76 ?_
    refine g_icmp_ne X 91 dX2_number_78 (by decide) (fun c78 => ?_) (fun c78 => ?_)
    · have heq := heq.trans (if_neg c78)
      refine g_aload_n X 0 rfl rfl dX2_number_91 ?_
      refine g_iload_n X 1 rfl rfl dX2_number_92 ?_
      refine g_iconst (v := 2) X (by decide) dX2_number_93 ?_
      refine g_iadd X dX2_number_94 ?_
      refine g_callVi (C := RX2) (T := TX2) (N := 4) (ci := 2) (As := [.int (p1 + 2)]) (st := [.int 6]) (wr := ([] : va_W)) X (k_X2_digit l D cI kA kV a_ a_signs a_starts c_size c_statements c_signs (p1 + 2)) (cwV 1 X.2.2.2.2.1 gX2_number_X2_digit rfl rfl rfl (by decide +kernel) ⟨Nat.le_of_ble_eq_true rfl, Nat.le_of_ble_eq_true rfl⟩) 0 rfl rfl [0, 1] [] rfl rfl rfl rfl (by decide) rfl (Nat.le_of_ble_eq_true rfl) ⟨Nat.le_of_ble_eq_true rfl, Nat.le_of_ble_eq_true rfl⟩ dX2_number_95 rfl (fun r95 u95 hw95 => ?_)
      have heq := g_let heq hw95
      refine g_ineg X dX2_number_98 ?_
      refine g_iadd X dX2_number_99 ?_
      exact g_iret X hAA hQQ () (heq.symm.trans hXX) [0, 1] rfl rfl hr dX2_number_100
    · have heq := heq.trans (if_pos c78)
      refine g_aload_n X 0 rfl rfl dX2_number_81 ?_
      refine g_iload_n X 1 rfl rfl dX2_number_82 ?_
      refine g_iconst (v := 2) X (by decide) dX2_number_83 ?_
      refine g_iadd X dX2_number_84 ?_
      refine g_callVi (C := RX2) (T := TX2) (N := 4) (ci := 2) (As := [.int (p1 + 2)]) (st := [.int 6]) (wr := ([] : va_W)) X (k_X2_digit l D cI kA kV a_ a_signs a_starts c_size c_statements c_signs (p1 + 2)) (cwV 1 X.2.2.2.2.1 gX2_number_X2_digit rfl rfl rfl (by decide +kernel) ⟨Nat.le_of_ble_eq_true rfl, Nat.le_of_ble_eq_true rfl⟩) 0 rfl rfl [0, 1] [] rfl rfl rfl rfl (by decide) rfl (Nat.le_of_ble_eq_true rfl) ⟨Nat.le_of_ble_eq_true rfl, Nat.le_of_ble_eq_true rfl⟩ dX2_number_85 rfl (fun r85 u85 hw85 => ?_)
      have heq := g_let heq hw85
      refine g_goto (tgt := 99) X (by decide) dX2_number_88 ?_
      refine g_iadd X dX2_number_99 ?_
      exact g_iret X hAA hQQ () (heq.symm.trans hXX) [0, 1] rfl rfl hr dX2_number_100
  have heq := heq.trans (if_neg s5_2)
  by_cases s5_3 : r2 = 111
  · refine g_lsw X 101 dX2_number_5 (by decide) (by first | (rw [s5_3]; done) | (rw [s5_3]; rfl)) (by decide) ?_
    have heq := heq.trans (if_pos s5_3)
    refine g_aload_n X 0 rfl rfl dX2_number_101 ?_
    refine g_iload_n X 1 rfl rfl dX2_number_102 ?_
    refine g_iconst (v := 2) X (by decide) dX2_number_103 ?_
    refine g_iadd X dX2_number_104 ?_
    refine g_callVi (C := RX2) (T := TX2) (N := 4) (ci := 2) (As := [.int (p1 + 2)]) (st := []) (wr := ([] : va_W)) X (k_X2_digit l D cI kA kV a_ a_signs a_starts c_size c_statements c_signs (p1 + 2)) (cwV 1 X.2.2.2.2.1 gX2_number_X2_digit rfl rfl rfl (by decide +kernel) ⟨Nat.le_of_ble_eq_true rfl, Nat.le_of_ble_eq_true rfl⟩) 0 rfl rfl [0, 1] [] rfl rfl rfl rfl (by decide) rfl (Nat.le_of_ble_eq_true rfl) ⟨Nat.le_of_ble_eq_true rfl, Nat.le_of_ble_eq_true rfl⟩ dX2_number_105 rfl (fun r105 u105 hw105 => ?_)
    have heq := g_let heq hw105
    exact g_iret X hAA hQQ () (heq.symm.trans hXX) [0, 1] rfl rfl hr dX2_number_108
  have heq := heq.trans (if_neg s5_3)
  refine g_lsw (off := 104) X 109 dX2_number_5 (by decide) ((lv_osw s5_0 rfl).trans ((lv_osw s5_1 rfl).trans ((lv_osw s5_2 rfl).trans ((lv_osw s5_3 rfl).trans rfl)))) (by decide) ?_
  refine g_aload_n X 0 rfl rfl dX2_number_109 ?_
  refine g_iload_n X 1 rfl rfl dX2_number_110 ?_
  refine g_iconst (v := 1) X (by decide) dX2_number_111 ?_
  refine g_iadd X dX2_number_112 ?_
  refine g_callVi (C := RX2) (T := TX2) (N := 4) (ci := 2) (As := [.int (p1 + 1)]) (st := []) (wr := ([] : va_W)) X (k_X2_digit l D cI kA kV a_ a_signs a_starts c_size c_statements c_signs (p1 + 1)) (cwV 1 X.2.2.2.2.1 gX2_number_X2_digit rfl rfl rfl (by decide +kernel) ⟨Nat.le_of_ble_eq_true rfl, Nat.le_of_ble_eq_true rfl⟩) 0 rfl rfl [0, 1] [] rfl rfl rfl rfl (by decide) rfl (Nat.le_of_ble_eq_true rfl) ⟨Nat.le_of_ble_eq_true rfl, Nat.le_of_ble_eq_true rfl⟩ dX2_number_113 rfl (fun r113 u113 hw113 => ?_)
  have heq := g_let heq hw113
  exact g_iret X hAA hQQ () (heq.symm.trans hXX) [0, 1] rfl rfl hr dX2_number_116

def f_X2_isInRange (c_size : Int32) (c_signs : Nat → Int32) (p1 : Int32) : Int32 :=
  g_lt (f_X2_sign c_size c_signs p1) (fun r2 => (if r2 = 112 then g_lt (f_X2_digit c_size c_signs (p1 + 1)) (fun r28 => (if r28 ≤ 1 then g_lt (f_X2_target c_size c_signs p1) (fun r39 => (if r39 < 0 then 1 else (if r39 < 10 then g_lt (f_X2_number c_size c_signs p1) (fun r59 => (if r59 < 0 then 0 else g_lt (f_X2_number c_size c_signs p1) (fun r67 => (if g_tabG.getD r39.toNatClampNeg 0 < r67 then 0 else 1)))) else 1))) else 0)) else (if r2 = 102 then g_lt (f_X2_digit c_size c_signs (p1 + 1)) (fun r28 => (if r28 ≤ 1 then g_lt (f_X2_target c_size c_signs p1) (fun r39 => (if r39 < 0 then 1 else (if r39 < 10 then g_lt (f_X2_number c_size c_signs p1) (fun r59 => (if r59 < 0 then 0 else g_lt (f_X2_number c_size c_signs p1) (fun r67 => (if g_tabG.getD r39.toNatClampNeg 0 < r67 then 0 else 1)))) else 1))) else 0)) else (if r2 = 111 then g_lt (f_X2_digit c_size c_signs (p1 + 1)) (fun r28 => (if r28 ≤ 1 then g_lt (f_X2_target c_size c_signs p1) (fun r39 => (if r39 < 0 then 1 else (if r39 < 10 then g_lt (f_X2_number c_size c_signs p1) (fun r59 => (if r59 < 0 then 0 else g_lt (f_X2_number c_size c_signs p1) (fun r67 => (if g_tabG.getD r39.toNatClampNeg 0 < r67 then 0 else 1)))) else 1))) else 0)) else g_lt (f_X2_target c_size c_signs p1) (fun r39 => (if r39 < 0 then 1 else (if r39 < 10 then g_lt (f_X2_number c_size c_signs p1) (fun r59 => (if r59 < 0 then 0 else g_lt (f_X2_number c_size c_signs p1) (fun r67 => (if g_tabG.getD r39.toNatClampNeg 0 < r67 then 0 else 1)))) else 1)))))))
set_option maxHeartbeats 4000000 in
set_option maxRecDepth 100000 in
theorem k_X2_isInRange (l : Launch) (D : va_G) (cI : ClassId) (kA kV : Nat → Nat) (a_ a_signs a_starts : Nat) (c_size : Int32) (c_statements : Int32) (c_signs : Nat → Int32) (p1 : Int32) :
    g_MI l D cI kA kV yX2_isInRange wsX2_isInRange { frames := 3, cells := 0, slots := 0, locals := 63 } [.ref a_, .int p1] [(a_, .inr (2, [.ref a_signs, .int c_size, .ref a_starts, .int c_statements])), (a_signs, .inl (cI, 96, .inl c_signs))] (fun u : Unit => [(a_, .inr (2, [.ref a_signs, .int c_size, .ref a_starts, .int c_statements])), (a_signs, .inl (cI, 96, .inl c_signs))]) (fun (r : Int32) (u : Unit) => r = f_X2_isInRange c_size c_signs p1) := by
  obtain ⟨XX, hXX⟩ : ∃ z, z = f_X2_isInRange c_size c_signs p1 := ⟨_, rfl⟩
  have heq := hXX.trans (f_X2_isInRange.eq_def c_size c_signs p1)
  refine g_startI (lv := [(0, .ref a_), (1, .int p1)]) RX2 rfl rfl rfl (Nat.le_of_ble_eq_true rfl) rfl (fun p e s m args below meth c AA QQ hAA hQQ X hr hmn => ?_)
  refine g_aload_n X 0 rfl rfl dX2_isInRange_0 ?_
  refine g_iload_n X 1 rfl rfl dX2_isInRange_1 ?_
  refine g_callVi (C := RX2) (T := TX2) (N := 4) (ci := 2) (As := [.int p1]) (st := []) (wr := ([] : va_W)) X (k_X2_sign l D cI kA kV a_ a_signs a_starts c_size c_statements c_signs p1) (cwV 1 X.2.2.2.2.1 gX2_isInRange_X2_sign rfl rfl rfl (by decide +kernel) ⟨Nat.le_of_ble_eq_true rfl, Nat.le_of_ble_eq_true rfl⟩) 0 rfl rfl [0, 1] [] rfl rfl rfl rfl (by decide) rfl (Nat.le_of_ble_eq_true rfl) ⟨Nat.le_of_ble_eq_true rfl, Nat.le_of_ble_eq_true rfl⟩ dX2_isInRange_2 rfl (fun r2 u2 hw2 => ?_)
  have heq := g_let heq hw2
  refine g_istore_n (lv' := [(2, .int r2), (0, .ref a_), (1, .int p1)]) X rfl (by decide) rfl dX2_isInRange_5 ?_
  refine g_iload_n X 0 rfl rfl dX2_isInRange_6 ?_
  refine g_bipush (v := 112) X (by decide) dX2_isInRange_7 ?_
  refine g_icmp_eq X 24 dX2_isInRange_9 (by decide) (fun c9 => ?_) (fun c9 => ?_)
  · have heq := heq.trans (if_pos c9)
    refine g_aload_n X 1 rfl rfl dX2_isInRange_24 ?_
    refine g_iload_n X 2 rfl rfl dX2_isInRange_25 ?_
    refine g_iconst (v := 1) X (by decide) dX2_isInRange_26 ?_
    refine g_iadd X dX2_isInRange_27 ?_
    refine g_callVi (C := RX2) (T := TX2) (N := 4) (ci := 2) (As := [.int (p1 + 1)]) (st := []) (wr := ([] : va_W)) X (k_X2_digit l D cI kA kV a_ a_signs a_starts c_size c_statements c_signs (p1 + 1)) (cwV 1 X.2.2.2.2.1 gX2_isInRange_X2_digit rfl rfl rfl (by decide +kernel) ⟨Nat.le_of_ble_eq_true rfl, Nat.le_of_ble_eq_true rfl⟩) 0 rfl rfl [0, 1] [] rfl rfl rfl rfl (by decide) rfl (Nat.le_of_ble_eq_true rfl) ⟨Nat.le_of_ble_eq_true rfl, Nat.le_of_ble_eq_true rfl⟩ dX2_isInRange_28 rfl (fun r28 u28 hw28 => ?_)
    have heq := g_let heq hw28
    refine g_iconst (v := 1) X (by decide) dX2_isInRange_31 ?_
    refine g_icmp_le X 37 dX2_isInRange_32 (by decide) (fun c32 => ?_) (fun c32 => ?_)
    · have heq := heq.trans (if_pos c32)
      refine g_aload_n X 1 rfl rfl dX2_isInRange_37 ?_
      refine g_iload_n X 2 rfl rfl dX2_isInRange_38 ?_
      refine g_callVi (C := RX2) (T := TX2) (N := 4) (ci := 2) (As := [.int p1]) (st := []) (wr := ([] : va_W)) X (k_X2_target l D cI kA kV a_ a_signs a_starts c_size c_statements c_signs p1) (cwV 1 X.2.2.2.2.1 gX2_isInRange_X2_target rfl rfl rfl (by decide +kernel) ⟨Nat.le_of_ble_eq_true rfl, Nat.le_of_ble_eq_true rfl⟩) 0 rfl rfl [0, 1] [] rfl rfl rfl rfl (by decide) rfl (Nat.le_of_ble_eq_true rfl) ⟨Nat.le_of_ble_eq_true rfl, Nat.le_of_ble_eq_true rfl⟩ dX2_isInRange_39 rfl (fun r39 u39 hw39 => ?_)
      have heq := g_let heq hw39
      refine g_istore_n (lv' := [(3, .int r39), (2, .int r2), (0, .ref a_), (1, .int p1)]) X rfl (by decide) rfl dX2_isInRange_42 ?_
      refine g_iload_n X 0 rfl rfl dX2_isInRange_43 ?_
      refine g_if_lt X 55 dX2_isInRange_44 (by decide) (fun c44 => ?_) (fun c44 => ?_)
      · have heq := heq.trans (if_pos c44)
        refine g_iconst (v := 1) X (by decide) dX2_isInRange_55 ?_
        exact g_zret X hAA hQQ () (heq.symm.trans hXX) [0, 1] rfl rfl hr rfl dX2_isInRange_56
      · have heq := heq.trans (if_neg c44)
        refine g_iload_n X 0 rfl rfl dX2_isInRange_47 ?_
        refine g_gnGREATEST X (host := "NineteenSecondsLeft") (va_Nw.use rfl ((g_nl X).2 (RX2, 110, "NineteenSecondsLeft", "GREATEST", "[I") (List.mem_of_getElem? (i := 3) rfl))) dX2_isInRange_48 (fun t48 hT48 => ?_)
        refine g_talen (v := 10) X hT48 rfl dX2_isInRange_51 ?_
        refine g_icmp_lt X 57 dX2_isInRange_52 (by decide) (fun c52 => ?_) (fun c52 => ?_)
        · have heq := heq.trans (if_pos c52)
          refine g_aload_n X 2 rfl rfl dX2_isInRange_57 ?_
          refine g_iload_n X 3 rfl rfl dX2_isInRange_58 ?_
          refine g_callVi (C := RX2) (T := TX2) (N := 4) (ci := 2) (As := [.int p1]) (st := []) (wr := ([] : va_W)) X (k_X2_number l D cI kA kV a_ a_signs a_starts c_size c_statements c_signs p1) (cwV 1 X.2.2.2.2.1 gX2_isInRange_X2_number rfl rfl rfl (by decide +kernel) ⟨Nat.le_of_ble_eq_true rfl, Nat.le_of_ble_eq_true rfl⟩) 0 rfl rfl [0, 1] [] rfl rfl rfl rfl (by decide) rfl (Nat.le_of_ble_eq_true rfl) ⟨Nat.le_of_ble_eq_true rfl, Nat.le_of_ble_eq_true rfl⟩ dX2_isInRange_59 rfl (fun r59 u59 hw59 => ?_)
          have heq := g_let heq hw59
          refine g_if_lt X 82 dX2_isInRange_62 (by decide) (fun c62 => ?_) (fun c62 => ?_)
          · have heq := heq.trans (if_pos c62)
            refine g_iconst (v := 0) X (by decide) dX2_isInRange_82 ?_
            exact g_zret X hAA hQQ () (heq.symm.trans hXX) [0, 1] rfl rfl hr rfl dX2_isInRange_83
          · have heq := heq.trans (if_neg c62)
            refine g_aload_n X 2 rfl rfl dX2_isInRange_65 ?_
            refine g_iload_n X 3 rfl rfl dX2_isInRange_66 ?_
            refine g_callVi (C := RX2) (T := TX2) (N := 4) (ci := 2) (As := [.int p1]) (st := []) (wr := ([] : va_W)) X (k_X2_number l D cI kA kV a_ a_signs a_starts c_size c_statements c_signs p1) (cwV 1 X.2.2.2.2.1 gX2_isInRange_X2_number rfl rfl rfl (by decide +kernel) ⟨Nat.le_of_ble_eq_true rfl, Nat.le_of_ble_eq_true rfl⟩) 0 rfl rfl [0, 1] [] rfl rfl rfl rfl (by decide) rfl (Nat.le_of_ble_eq_true rfl) ⟨Nat.le_of_ble_eq_true rfl, Nat.le_of_ble_eq_true rfl⟩ dX2_isInRange_67 rfl (fun r67 u67 hw67 => ?_)
            have heq := g_let heq hw67
            refine g_gnGREATEST X (host := "NineteenSecondsLeft") (va_Nw.use rfl ((g_nl X).2 (RX2, 110, "NineteenSecondsLeft", "GREATEST", "[I") (List.mem_of_getElem? (i := 3) rfl))) dX2_isInRange_70 (fun t70 hT70 => ?_)
            refine g_iload_n X 0 rfl rfl dX2_isInRange_73 ?_
            refine g_tald X hT70 (g_vin (by decide) (g_n0 c44) c52) dX2_isInRange_74 ?_
            refine g_icmp_gt X 82 dX2_isInRange_75 (by decide) (fun c75 => ?_) (fun c75 => ?_)
            · have heq := heq.trans (if_pos c75)
              refine g_iconst (v := 0) X (by decide) dX2_isInRange_82 ?_
              exact g_zret X hAA hQQ () (heq.symm.trans hXX) [0, 1] rfl rfl hr rfl dX2_isInRange_83
            · have heq := heq.trans (if_neg c75)
              refine g_iconst (v := 1) X (by decide) dX2_isInRange_78 ?_
              refine g_goto (tgt := 83) X (by decide) dX2_isInRange_79 ?_
              exact g_zret X hAA hQQ () (heq.symm.trans hXX) [0, 1] rfl rfl hr rfl dX2_isInRange_83
        · have heq := heq.trans (if_neg c52)
          refine g_iconst (v := 1) X (by decide) dX2_isInRange_55 ?_
          exact g_zret X hAA hQQ () (heq.symm.trans hXX) [0, 1] rfl rfl hr rfl dX2_isInRange_56
    · have heq := heq.trans (if_neg c32)
      refine g_iconst (v := 0) X (by decide) dX2_isInRange_35 ?_
      exact g_zret X hAA hQQ () (heq.symm.trans hXX) [0, 1] rfl rfl hr rfl dX2_isInRange_36
  · have heq := heq.trans (if_neg c9)
    refine g_iload_n X 0 rfl rfl dX2_isInRange_12 ?_
    refine g_bipush (v := 102) X (by decide) dX2_isInRange_13 ?_
    refine g_icmp_eq X 24 dX2_isInRange_15 (by decide) (fun c15 => ?_) (fun c15 => ?_)
    · have heq := heq.trans (if_pos c15)
      refine g_aload_n X 1 rfl rfl dX2_isInRange_24 ?_
      refine g_iload_n X 2 rfl rfl dX2_isInRange_25 ?_
      refine g_iconst (v := 1) X (by decide) dX2_isInRange_26 ?_
      refine g_iadd X dX2_isInRange_27 ?_
      refine g_callVi (C := RX2) (T := TX2) (N := 4) (ci := 2) (As := [.int (p1 + 1)]) (st := []) (wr := ([] : va_W)) X (k_X2_digit l D cI kA kV a_ a_signs a_starts c_size c_statements c_signs (p1 + 1)) (cwV 1 X.2.2.2.2.1 gX2_isInRange_X2_digit rfl rfl rfl (by decide +kernel) ⟨Nat.le_of_ble_eq_true rfl, Nat.le_of_ble_eq_true rfl⟩) 0 rfl rfl [0, 1] [] rfl rfl rfl rfl (by decide) rfl (Nat.le_of_ble_eq_true rfl) ⟨Nat.le_of_ble_eq_true rfl, Nat.le_of_ble_eq_true rfl⟩ dX2_isInRange_28 rfl (fun r28 u28 hw28 => ?_)
      have heq := g_let heq hw28
      refine g_iconst (v := 1) X (by decide) dX2_isInRange_31 ?_
      refine g_icmp_le X 37 dX2_isInRange_32 (by decide) (fun c32 => ?_) (fun c32 => ?_)
      · have heq := heq.trans (if_pos c32)
        refine g_aload_n X 1 rfl rfl dX2_isInRange_37 ?_
        refine g_iload_n X 2 rfl rfl dX2_isInRange_38 ?_
        refine g_callVi (C := RX2) (T := TX2) (N := 4) (ci := 2) (As := [.int p1]) (st := []) (wr := ([] : va_W)) X (k_X2_target l D cI kA kV a_ a_signs a_starts c_size c_statements c_signs p1) (cwV 1 X.2.2.2.2.1 gX2_isInRange_X2_target rfl rfl rfl (by decide +kernel) ⟨Nat.le_of_ble_eq_true rfl, Nat.le_of_ble_eq_true rfl⟩) 0 rfl rfl [0, 1] [] rfl rfl rfl rfl (by decide) rfl (Nat.le_of_ble_eq_true rfl) ⟨Nat.le_of_ble_eq_true rfl, Nat.le_of_ble_eq_true rfl⟩ dX2_isInRange_39 rfl (fun r39 u39 hw39 => ?_)
        have heq := g_let heq hw39
        refine g_istore_n (lv' := [(3, .int r39), (2, .int r2), (0, .ref a_), (1, .int p1)]) X rfl (by decide) rfl dX2_isInRange_42 ?_
        refine g_iload_n X 0 rfl rfl dX2_isInRange_43 ?_
        refine g_if_lt X 55 dX2_isInRange_44 (by decide) (fun c44 => ?_) (fun c44 => ?_)
        · have heq := heq.trans (if_pos c44)
          refine g_iconst (v := 1) X (by decide) dX2_isInRange_55 ?_
          exact g_zret X hAA hQQ () (heq.symm.trans hXX) [0, 1] rfl rfl hr rfl dX2_isInRange_56
        · have heq := heq.trans (if_neg c44)
          refine g_iload_n X 0 rfl rfl dX2_isInRange_47 ?_
          refine g_gnGREATEST X (host := "NineteenSecondsLeft") (va_Nw.use rfl ((g_nl X).2 (RX2, 110, "NineteenSecondsLeft", "GREATEST", "[I") (List.mem_of_getElem? (i := 3) rfl))) dX2_isInRange_48 (fun t48 hT48 => ?_)
          refine g_talen (v := 10) X hT48 rfl dX2_isInRange_51 ?_
          refine g_icmp_lt X 57 dX2_isInRange_52 (by decide) (fun c52 => ?_) (fun c52 => ?_)
          · have heq := heq.trans (if_pos c52)
            refine g_aload_n X 2 rfl rfl dX2_isInRange_57 ?_
            refine g_iload_n X 3 rfl rfl dX2_isInRange_58 ?_
            refine g_callVi (C := RX2) (T := TX2) (N := 4) (ci := 2) (As := [.int p1]) (st := []) (wr := ([] : va_W)) X (k_X2_number l D cI kA kV a_ a_signs a_starts c_size c_statements c_signs p1) (cwV 1 X.2.2.2.2.1 gX2_isInRange_X2_number rfl rfl rfl (by decide +kernel) ⟨Nat.le_of_ble_eq_true rfl, Nat.le_of_ble_eq_true rfl⟩) 0 rfl rfl [0, 1] [] rfl rfl rfl rfl (by decide) rfl (Nat.le_of_ble_eq_true rfl) ⟨Nat.le_of_ble_eq_true rfl, Nat.le_of_ble_eq_true rfl⟩ dX2_isInRange_59 rfl (fun r59 u59 hw59 => ?_)
            have heq := g_let heq hw59
            refine g_if_lt X 82 dX2_isInRange_62 (by decide) (fun c62 => ?_) (fun c62 => ?_)
            · have heq := heq.trans (if_pos c62)
              refine g_iconst (v := 0) X (by decide) dX2_isInRange_82 ?_
              exact g_zret X hAA hQQ () (heq.symm.trans hXX) [0, 1] rfl rfl hr rfl dX2_isInRange_83
            · have heq := heq.trans (if_neg c62)
              refine g_aload_n X 2 rfl rfl dX2_isInRange_65 ?_
              refine g_iload_n X 3 rfl rfl dX2_isInRange_66 ?_
              refine g_callVi (C := RX2) (T := TX2) (N := 4) (ci := 2) (As := [.int p1]) (st := []) (wr := ([] : va_W)) X (k_X2_number l D cI kA kV a_ a_signs a_starts c_size c_statements c_signs p1) (cwV 1 X.2.2.2.2.1 gX2_isInRange_X2_number rfl rfl rfl (by decide +kernel) ⟨Nat.le_of_ble_eq_true rfl, Nat.le_of_ble_eq_true rfl⟩) 0 rfl rfl [0, 1] [] rfl rfl rfl rfl (by decide) rfl (Nat.le_of_ble_eq_true rfl) ⟨Nat.le_of_ble_eq_true rfl, Nat.le_of_ble_eq_true rfl⟩ dX2_isInRange_67 rfl (fun r67 u67 hw67 => ?_)
              have heq := g_let heq hw67
              refine g_gnGREATEST X (host := "NineteenSecondsLeft") (va_Nw.use rfl ((g_nl X).2 (RX2, 110, "NineteenSecondsLeft", "GREATEST", "[I") (List.mem_of_getElem? (i := 3) rfl))) dX2_isInRange_70 (fun t70 hT70 => ?_)
              refine g_iload_n X 0 rfl rfl dX2_isInRange_73 ?_
              refine g_tald X hT70 (g_vin (by decide) (g_n0 c44) c52) dX2_isInRange_74 ?_
              refine g_icmp_gt X 82 dX2_isInRange_75 (by decide) (fun c75 => ?_) (fun c75 => ?_)
              · have heq := heq.trans (if_pos c75)
                refine g_iconst (v := 0) X (by decide) dX2_isInRange_82 ?_
                exact g_zret X hAA hQQ () (heq.symm.trans hXX) [0, 1] rfl rfl hr rfl dX2_isInRange_83
              · have heq := heq.trans (if_neg c75)
                refine g_iconst (v := 1) X (by decide) dX2_isInRange_78 ?_
                refine g_goto (tgt := 83) X (by decide) dX2_isInRange_79 ?_
                exact g_zret X hAA hQQ () (heq.symm.trans hXX) [0, 1] rfl rfl hr rfl dX2_isInRange_83
          · have heq := heq.trans (if_neg c52)
            refine g_iconst (v := 1) X (by decide) dX2_isInRange_55 ?_
            exact g_zret X hAA hQQ () (heq.symm.trans hXX) [0, 1] rfl rfl hr rfl dX2_isInRange_56
      · have heq := heq.trans (if_neg c32)
        refine g_iconst (v := 0) X (by decide) dX2_isInRange_35 ?_
        exact g_zret X hAA hQQ () (heq.symm.trans hXX) [0, 1] rfl rfl hr rfl dX2_isInRange_36
    · have heq := heq.trans (if_neg c15)
      refine g_iload_n X 0 rfl rfl dX2_isInRange_18 ?_
      refine g_bipush (v := 111) X (by decide) dX2_isInRange_19 ?_
      refine g_icmp_ne X 37 dX2_isInRange_21 (by decide) (fun c21 => ?_) (fun c21 => ?_)
      · have heq := heq.trans (if_neg c21)
        refine g_aload_n X 1 rfl rfl dX2_isInRange_37 ?_
        refine g_iload_n X 2 rfl rfl dX2_isInRange_38 ?_
        refine g_callVi (C := RX2) (T := TX2) (N := 4) (ci := 2) (As := [.int p1]) (st := []) (wr := ([] : va_W)) X (k_X2_target l D cI kA kV a_ a_signs a_starts c_size c_statements c_signs p1) (cwV 1 X.2.2.2.2.1 gX2_isInRange_X2_target rfl rfl rfl (by decide +kernel) ⟨Nat.le_of_ble_eq_true rfl, Nat.le_of_ble_eq_true rfl⟩) 0 rfl rfl [0, 1] [] rfl rfl rfl rfl (by decide) rfl (Nat.le_of_ble_eq_true rfl) ⟨Nat.le_of_ble_eq_true rfl, Nat.le_of_ble_eq_true rfl⟩ dX2_isInRange_39 rfl (fun r39 u39 hw39 => ?_)
        have heq := g_let heq hw39
        refine g_istore_n (lv' := [(3, .int r39), (2, .int r2), (0, .ref a_), (1, .int p1)]) X rfl (by decide) rfl dX2_isInRange_42 ?_
        refine g_iload_n X 0 rfl rfl dX2_isInRange_43 ?_
        refine g_if_lt X 55 dX2_isInRange_44 (by decide) (fun c44 => ?_) (fun c44 => ?_)
        · have heq := heq.trans (if_pos c44)
          refine g_iconst (v := 1) X (by decide) dX2_isInRange_55 ?_
          exact g_zret X hAA hQQ () (heq.symm.trans hXX) [0, 1] rfl rfl hr rfl dX2_isInRange_56
        · have heq := heq.trans (if_neg c44)
          refine g_iload_n X 0 rfl rfl dX2_isInRange_47 ?_
          refine g_gnGREATEST X (host := "NineteenSecondsLeft") (va_Nw.use rfl ((g_nl X).2 (RX2, 110, "NineteenSecondsLeft", "GREATEST", "[I") (List.mem_of_getElem? (i := 3) rfl))) dX2_isInRange_48 (fun t48 hT48 => ?_)
          refine g_talen (v := 10) X hT48 rfl dX2_isInRange_51 ?_
          refine g_icmp_lt X 57 dX2_isInRange_52 (by decide) (fun c52 => ?_) (fun c52 => ?_)
          · have heq := heq.trans (if_pos c52)
            refine g_aload_n X 2 rfl rfl dX2_isInRange_57 ?_
            refine g_iload_n X 3 rfl rfl dX2_isInRange_58 ?_
            refine g_callVi (C := RX2) (T := TX2) (N := 4) (ci := 2) (As := [.int p1]) (st := []) (wr := ([] : va_W)) X (k_X2_number l D cI kA kV a_ a_signs a_starts c_size c_statements c_signs p1) (cwV 1 X.2.2.2.2.1 gX2_isInRange_X2_number rfl rfl rfl (by decide +kernel) ⟨Nat.le_of_ble_eq_true rfl, Nat.le_of_ble_eq_true rfl⟩) 0 rfl rfl [0, 1] [] rfl rfl rfl rfl (by decide) rfl (Nat.le_of_ble_eq_true rfl) ⟨Nat.le_of_ble_eq_true rfl, Nat.le_of_ble_eq_true rfl⟩ dX2_isInRange_59 rfl (fun r59 u59 hw59 => ?_)
            have heq := g_let heq hw59
            refine g_if_lt X 82 dX2_isInRange_62 (by decide) (fun c62 => ?_) (fun c62 => ?_)
            · have heq := heq.trans (if_pos c62)
              refine g_iconst (v := 0) X (by decide) dX2_isInRange_82 ?_
              exact g_zret X hAA hQQ () (heq.symm.trans hXX) [0, 1] rfl rfl hr rfl dX2_isInRange_83
            · have heq := heq.trans (if_neg c62)
              refine g_aload_n X 2 rfl rfl dX2_isInRange_65 ?_
              refine g_iload_n X 3 rfl rfl dX2_isInRange_66 ?_
              refine g_callVi (C := RX2) (T := TX2) (N := 4) (ci := 2) (As := [.int p1]) (st := []) (wr := ([] : va_W)) X (k_X2_number l D cI kA kV a_ a_signs a_starts c_size c_statements c_signs p1) (cwV 1 X.2.2.2.2.1 gX2_isInRange_X2_number rfl rfl rfl (by decide +kernel) ⟨Nat.le_of_ble_eq_true rfl, Nat.le_of_ble_eq_true rfl⟩) 0 rfl rfl [0, 1] [] rfl rfl rfl rfl (by decide) rfl (Nat.le_of_ble_eq_true rfl) ⟨Nat.le_of_ble_eq_true rfl, Nat.le_of_ble_eq_true rfl⟩ dX2_isInRange_67 rfl (fun r67 u67 hw67 => ?_)
              have heq := g_let heq hw67
              refine g_gnGREATEST X (host := "NineteenSecondsLeft") (va_Nw.use rfl ((g_nl X).2 (RX2, 110, "NineteenSecondsLeft", "GREATEST", "[I") (List.mem_of_getElem? (i := 3) rfl))) dX2_isInRange_70 (fun t70 hT70 => ?_)
              refine g_iload_n X 0 rfl rfl dX2_isInRange_73 ?_
              refine g_tald X hT70 (g_vin (by decide) (g_n0 c44) c52) dX2_isInRange_74 ?_
              refine g_icmp_gt X 82 dX2_isInRange_75 (by decide) (fun c75 => ?_) (fun c75 => ?_)
              · have heq := heq.trans (if_pos c75)
                refine g_iconst (v := 0) X (by decide) dX2_isInRange_82 ?_
                exact g_zret X hAA hQQ () (heq.symm.trans hXX) [0, 1] rfl rfl hr rfl dX2_isInRange_83
              · have heq := heq.trans (if_neg c75)
                refine g_iconst (v := 1) X (by decide) dX2_isInRange_78 ?_
                refine g_goto (tgt := 83) X (by decide) dX2_isInRange_79 ?_
                exact g_zret X hAA hQQ () (heq.symm.trans hXX) [0, 1] rfl rfl hr rfl dX2_isInRange_83
          · have heq := heq.trans (if_neg c52)
            refine g_iconst (v := 1) X (by decide) dX2_isInRange_55 ?_
            exact g_zret X hAA hQQ () (heq.symm.trans hXX) [0, 1] rfl rfl hr rfl dX2_isInRange_56
      · have heq := heq.trans (if_pos c21)
        refine g_aload_n X 1 rfl rfl dX2_isInRange_24 ?_
        refine g_iload_n X 2 rfl rfl dX2_isInRange_25 ?_
        refine g_iconst (v := 1) X (by decide) dX2_isInRange_26 ?_
        refine g_iadd X dX2_isInRange_27 ?_
        refine g_callVi (C := RX2) (T := TX2) (N := 4) (ci := 2) (As := [.int (p1 + 1)]) (st := []) (wr := ([] : va_W)) X (k_X2_digit l D cI kA kV a_ a_signs a_starts c_size c_statements c_signs (p1 + 1)) (cwV 1 X.2.2.2.2.1 gX2_isInRange_X2_digit rfl rfl rfl (by decide +kernel) ⟨Nat.le_of_ble_eq_true rfl, Nat.le_of_ble_eq_true rfl⟩) 0 rfl rfl [0, 1] [] rfl rfl rfl rfl (by decide) rfl (Nat.le_of_ble_eq_true rfl) ⟨Nat.le_of_ble_eq_true rfl, Nat.le_of_ble_eq_true rfl⟩ dX2_isInRange_28 rfl (fun r28 u28 hw28 => ?_)
        have heq := g_let heq hw28
        refine g_iconst (v := 1) X (by decide) dX2_isInRange_31 ?_
        refine g_icmp_le X 37 dX2_isInRange_32 (by decide) (fun c32 => ?_) (fun c32 => ?_)
        · have heq := heq.trans (if_pos c32)
          refine g_aload_n X 1 rfl rfl dX2_isInRange_37 ?_
          refine g_iload_n X 2 rfl rfl dX2_isInRange_38 ?_
          refine g_callVi (C := RX2) (T := TX2) (N := 4) (ci := 2) (As := [.int p1]) (st := []) (wr := ([] : va_W)) X (k_X2_target l D cI kA kV a_ a_signs a_starts c_size c_statements c_signs p1) (cwV 1 X.2.2.2.2.1 gX2_isInRange_X2_target rfl rfl rfl (by decide +kernel) ⟨Nat.le_of_ble_eq_true rfl, Nat.le_of_ble_eq_true rfl⟩) 0 rfl rfl [0, 1] [] rfl rfl rfl rfl (by decide) rfl (Nat.le_of_ble_eq_true rfl) ⟨Nat.le_of_ble_eq_true rfl, Nat.le_of_ble_eq_true rfl⟩ dX2_isInRange_39 rfl (fun r39 u39 hw39 => ?_)
          have heq := g_let heq hw39
          refine g_istore_n (lv' := [(3, .int r39), (2, .int r2), (0, .ref a_), (1, .int p1)]) X rfl (by decide) rfl dX2_isInRange_42 ?_
          refine g_iload_n X 0 rfl rfl dX2_isInRange_43 ?_
          refine g_if_lt X 55 dX2_isInRange_44 (by decide) (fun c44 => ?_) (fun c44 => ?_)
          · have heq := heq.trans (if_pos c44)
            refine g_iconst (v := 1) X (by decide) dX2_isInRange_55 ?_
            exact g_zret X hAA hQQ () (heq.symm.trans hXX) [0, 1] rfl rfl hr rfl dX2_isInRange_56
          · have heq := heq.trans (if_neg c44)
            refine g_iload_n X 0 rfl rfl dX2_isInRange_47 ?_
            refine g_gnGREATEST X (host := "NineteenSecondsLeft") (va_Nw.use rfl ((g_nl X).2 (RX2, 110, "NineteenSecondsLeft", "GREATEST", "[I") (List.mem_of_getElem? (i := 3) rfl))) dX2_isInRange_48 (fun t48 hT48 => ?_)
            refine g_talen (v := 10) X hT48 rfl dX2_isInRange_51 ?_
            refine g_icmp_lt X 57 dX2_isInRange_52 (by decide) (fun c52 => ?_) (fun c52 => ?_)
            · have heq := heq.trans (if_pos c52)
              refine g_aload_n X 2 rfl rfl dX2_isInRange_57 ?_
              refine g_iload_n X 3 rfl rfl dX2_isInRange_58 ?_
              refine g_callVi (C := RX2) (T := TX2) (N := 4) (ci := 2) (As := [.int p1]) (st := []) (wr := ([] : va_W)) X (k_X2_number l D cI kA kV a_ a_signs a_starts c_size c_statements c_signs p1) (cwV 1 X.2.2.2.2.1 gX2_isInRange_X2_number rfl rfl rfl (by decide +kernel) ⟨Nat.le_of_ble_eq_true rfl, Nat.le_of_ble_eq_true rfl⟩) 0 rfl rfl [0, 1] [] rfl rfl rfl rfl (by decide) rfl (Nat.le_of_ble_eq_true rfl) ⟨Nat.le_of_ble_eq_true rfl, Nat.le_of_ble_eq_true rfl⟩ dX2_isInRange_59 rfl (fun r59 u59 hw59 => ?_)
              have heq := g_let heq hw59
              refine g_if_lt X 82 dX2_isInRange_62 (by decide) (fun c62 => ?_) (fun c62 => ?_)
              · have heq := heq.trans (if_pos c62)
                refine g_iconst (v := 0) X (by decide) dX2_isInRange_82 ?_
                exact g_zret X hAA hQQ () (heq.symm.trans hXX) [0, 1] rfl rfl hr rfl dX2_isInRange_83
              · have heq := heq.trans (if_neg c62)
                refine g_aload_n X 2 rfl rfl dX2_isInRange_65 ?_
                refine g_iload_n X 3 rfl rfl dX2_isInRange_66 ?_
                refine g_callVi (C := RX2) (T := TX2) (N := 4) (ci := 2) (As := [.int p1]) (st := []) (wr := ([] : va_W)) X (k_X2_number l D cI kA kV a_ a_signs a_starts c_size c_statements c_signs p1) (cwV 1 X.2.2.2.2.1 gX2_isInRange_X2_number rfl rfl rfl (by decide +kernel) ⟨Nat.le_of_ble_eq_true rfl, Nat.le_of_ble_eq_true rfl⟩) 0 rfl rfl [0, 1] [] rfl rfl rfl rfl (by decide) rfl (Nat.le_of_ble_eq_true rfl) ⟨Nat.le_of_ble_eq_true rfl, Nat.le_of_ble_eq_true rfl⟩ dX2_isInRange_67 rfl (fun r67 u67 hw67 => ?_)
                have heq := g_let heq hw67
                refine g_gnGREATEST X (host := "NineteenSecondsLeft") (va_Nw.use rfl ((g_nl X).2 (RX2, 110, "NineteenSecondsLeft", "GREATEST", "[I") (List.mem_of_getElem? (i := 3) rfl))) dX2_isInRange_70 (fun t70 hT70 => ?_)
                refine g_iload_n X 0 rfl rfl dX2_isInRange_73 ?_
                refine g_tald X hT70 (g_vin (by decide) (g_n0 c44) c52) dX2_isInRange_74 ?_
                refine g_icmp_gt X 82 dX2_isInRange_75 (by decide) (fun c75 => ?_) (fun c75 => ?_)
                · have heq := heq.trans (if_pos c75)
                  refine g_iconst (v := 0) X (by decide) dX2_isInRange_82 ?_
                  exact g_zret X hAA hQQ () (heq.symm.trans hXX) [0, 1] rfl rfl hr rfl dX2_isInRange_83
                · have heq := heq.trans (if_neg c75)
                  refine g_iconst (v := 1) X (by decide) dX2_isInRange_78 ?_
                  refine g_goto (tgt := 83) X (by decide) dX2_isInRange_79 ?_
                  exact g_zret X hAA hQQ () (heq.symm.trans hXX) [0, 1] rfl rfl hr rfl dX2_isInRange_83
            · have heq := heq.trans (if_neg c52)
              refine g_iconst (v := 1) X (by decide) dX2_isInRange_55 ?_
              exact g_zret X hAA hQQ () (heq.symm.trans hXX) [0, 1] rfl rfl hr rfl dX2_isInRange_56
        · have heq := heq.trans (if_neg c32)
          refine g_iconst (v := 0) X (by decide) dX2_isInRange_35 ?_
          exact g_zret X hAA hQQ () (heq.symm.trans hXX) [0, 1] rfl rfl hr rfl dX2_isInRange_36

def f_X2_shape (p0 : Int32) : Nat :=
  (if p0 = 98 then 4 else (if p0 = 99 then 2 else (if p0 = 100 then 4 else (if p0 = 102 then 2 else (if p0 = 108 then 3 else (if p0 = 111 then 2 else (if p0 = 112 then 1 else (if p0 = 114 then 4 else (if p0 = 119 then 4 else 0)))))))))
set_option maxHeartbeats 4000000 in
set_option maxRecDepth 100000 in
theorem k_X2_shape (l : Launch) (D : va_G) (cI : ClassId) (kA kV : Nat → Nat) (p0 : Int32) :
    g_MR l D cI kA kV yX2_shape wsX2_shape { frames := 0, cells := 0, slots := 0, locals := 0 } [.int p0] [] (fun u => u = f_X2_shape p0) := by
  obtain ⟨XX, hXX⟩ : ∃ z, z = f_X2_shape p0 := ⟨_, rfl⟩
  have heq := hXX.trans (f_X2_shape.eq_def p0)
  refine g_startR (lv := [(0, .int p0)]) RX2 rfl rfl rfl (Nat.le_of_ble_eq_true rfl) rfl (fun p e s m args below meth c AA QQ hAA hQQ X hr hmn => ?_)
  refine g_iload_n X 0 rfl rfl dX2_shape_0 ?_
  by_cases s1_0 : p0 = 98
  · refine g_tsHit (k := 98) X 113 dX2_shape_1 s1_0 (by decide) (by decide) rfl (by decide) ?_
    have heq := heq.trans (if_pos s1_0)
    refine g_ldcS X 4 (Nat.le_of_ble_eq_true rfl) rfl rfl dX2_shape_113 ?_
    exact g_aret X hAA hQQ 4 (heq.symm.trans hXX) [] rfl rfl hr (Or.inl ⟨_, rfl⟩) dX2_shape_115
  have heq := heq.trans (if_neg s1_0)
  by_cases s1_1 : p0 = 99
  · refine g_tsHit (k := 99) X 107 dX2_shape_1 s1_1 (by decide) (by decide) rfl (by decide) ?_
    have heq := heq.trans (if_pos s1_1)
    refine g_ldcS X 2 (Nat.le_of_ble_eq_true rfl) rfl rfl dX2_shape_107 ?_
    exact g_aret X hAA hQQ 2 (heq.symm.trans hXX) [] rfl rfl hr (Or.inl ⟨_, rfl⟩) dX2_shape_109
  have heq := heq.trans (if_neg s1_1)
  by_cases s1_2 : p0 = 100
  · refine g_tsHit (k := 100) X 113 dX2_shape_1 s1_2 (by decide) (by decide) rfl (by decide) ?_
    have heq := heq.trans (if_pos s1_2)
    refine g_ldcS X 4 (Nat.le_of_ble_eq_true rfl) rfl rfl dX2_shape_113 ?_
    exact g_aret X hAA hQQ 4 (heq.symm.trans hXX) [] rfl rfl hr (Or.inl ⟨_, rfl⟩) dX2_shape_115
  have heq := heq.trans (if_neg s1_2)
  by_cases s1_3 : p0 = 102
  · refine g_tsHit (k := 102) X 107 dX2_shape_1 s1_3 (by decide) (by decide) rfl (by decide) ?_
    have heq := heq.trans (if_pos s1_3)
    refine g_ldcS X 2 (Nat.le_of_ble_eq_true rfl) rfl rfl dX2_shape_107 ?_
    exact g_aret X hAA hQQ 2 (heq.symm.trans hXX) [] rfl rfl hr (Or.inl ⟨_, rfl⟩) dX2_shape_109
  have heq := heq.trans (if_neg s1_3)
  by_cases s1_4 : p0 = 108
  · refine g_tsHit (k := 108) X 110 dX2_shape_1 s1_4 (by decide) (by decide) rfl (by decide) ?_
    have heq := heq.trans (if_pos s1_4)
    refine g_ldcS X 3 (Nat.le_of_ble_eq_true rfl) rfl rfl dX2_shape_110 ?_
    exact g_aret X hAA hQQ 3 (heq.symm.trans hXX) [] rfl rfl hr (Or.inl ⟨_, rfl⟩) dX2_shape_112
  have heq := heq.trans (if_neg s1_4)
  by_cases s1_5 : p0 = 111
  · refine g_tsHit (k := 111) X 107 dX2_shape_1 s1_5 (by decide) (by decide) rfl (by decide) ?_
    have heq := heq.trans (if_pos s1_5)
    refine g_ldcS X 2 (Nat.le_of_ble_eq_true rfl) rfl rfl dX2_shape_107 ?_
    exact g_aret X hAA hQQ 2 (heq.symm.trans hXX) [] rfl rfl hr (Or.inl ⟨_, rfl⟩) dX2_shape_109
  have heq := heq.trans (if_neg s1_5)
  by_cases s1_6 : p0 = 112
  · refine g_tsHit (k := 112) X 104 dX2_shape_1 s1_6 (by decide) (by decide) rfl (by decide) ?_
    have heq := heq.trans (if_pos s1_6)
    refine g_ldcS X 1 (Nat.le_of_ble_eq_true rfl) rfl rfl dX2_shape_104 ?_
    exact g_aret X hAA hQQ 1 (heq.symm.trans hXX) [] rfl rfl hr (Or.inl ⟨_, rfl⟩) dX2_shape_106
  have heq := heq.trans (if_neg s1_6)
  by_cases s1_7 : p0 = 114
  · refine g_tsHit (k := 114) X 113 dX2_shape_1 s1_7 (by decide) (by decide) rfl (by decide) ?_
    have heq := heq.trans (if_pos s1_7)
    refine g_ldcS X 4 (Nat.le_of_ble_eq_true rfl) rfl rfl dX2_shape_113 ?_
    exact g_aret X hAA hQQ 4 (heq.symm.trans hXX) [] rfl rfl hr (Or.inl ⟨_, rfl⟩) dX2_shape_115
  have heq := heq.trans (if_neg s1_7)
  by_cases s1_8 : p0 = 119
  · refine g_tsHit (k := 119) X 113 dX2_shape_1 s1_8 (by decide) (by decide) rfl (by decide) ?_
    have heq := heq.trans (if_pos s1_8)
    refine g_ldcS X 4 (Nat.le_of_ble_eq_true rfl) rfl rfl dX2_shape_113 ?_
    exact g_aret X hAA hQQ 4 (heq.symm.trans hXX) [] rfl rfl hr (Or.inl ⟨_, rfl⟩) dX2_shape_115
  have heq := heq.trans (if_neg s1_8)
  refine g_tsDef X 116 [98, 99, 100, 102, 108, 111, 112, 114, 119] dX2_shape_1 (g_neC s1_0 (g_neC s1_1 (g_neC s1_2 (g_neC s1_3 (g_neC s1_4 (g_neC s1_5 (g_neC s1_6 (g_neC s1_7 (g_ne1 s1_8))))))))) (by decide) (by decide) (by decide) ?_
  refine g_ldcS X 0 (Nat.le_of_ble_eq_true rfl) rfl rfl dX2_shape_116 ?_
  exact g_aret X hAA hQQ 0 (heq.symm.trans hXX) [] rfl rfl hr (Or.inl ⟨_, rfl⟩) dX2_shape_118

theorem fs_X2_shape (c : Int32) : f_X2_shape c < g_sN := by
  unfold f_X2_shape
  repeat' split
  all_goals exact Nat.le_of_ble_eq_true rfl

theorem hi_X2_placeOfForm_X2 : ∀ w ∈ wsX20, w ∈ wsX2_placeOfForm := fun w h => List.mem_cons_of_mem _ (List.mem_append_right _ (h))
def L_X2_placeOfForm_12 (c_size : Int32) (c_signs : Nat → Int32) (K : (Nat) → (Int32) → (Int32) → (Int32) → (Nat → Int32) → Int32 × (Int32) × (Nat → Int32)) : Nat → (Nat) → (Int32) → (Int32) → (Int32) → (Nat → Int32) → Int32 × (Int32) × (Nat → Int32)
  | 0, v1_12, v2_12, v3_12, c_statements_12, c_starts_12 => K v1_12 v2_12 v3_12 c_statements_12 c_starts_12
  | n + 1, v1_12, v2_12, v3_12, c_statements_12, c_starts_12 => (if c_size ≤ v3_12 then K v1_12 v2_12 v3_12 c_statements_12 c_starts_12 else g_lt (f_J0_length_8abf5 v1_12) (fun r22 => (if r22 ≤ v2_12 then g_lt (f_X2_sign c_size c_signs v3_12) (fun r54 => g_lt (f_X2_shape r54) (fun r57 => g_lt (f_J0_isEmpty_aae02 r57) (fun r62 => (if r62 = 0 then g_lt (f_X2_addStart c_statements_12 c_starts_12 v3_12) (fun u74 => L_X2_placeOfForm_12 c_size c_signs K n r57 0 (v3_12 + 1) u74.1 u74.2) else (v3_12, c_statements_12, c_starts_12))))) else g_lt (f_J0_charAt_5068e v1_12 v2_12) (fun r30 => g_lt (f_X2_sign c_size c_signs v3_12) (fun r35 => g_lt (f_X2_fits r30 r35) (fun r38 => (if r38 = 0 then (v3_12, c_statements_12, c_starts_12) else L_X2_placeOfForm_12 c_size c_signs K n v1_12 (v2_12 + 1) (v3_12 + 1) c_statements_12 c_starts_12)))))))
def f_X2_placeOfForm (c_size : Int32) (c_statements : Int32) (c_signs : Nat → Int32) (c_starts : Nat → Int32) : Int32 × (Int32) × (Nat → Int32) :=
  L_X2_placeOfForm_12 c_size c_signs (fun v1_12 v2_12 v3_12 c_statements_12 c_starts_12 => (if c_size = 0 then (c_size, c_statements_12, c_starts_12) else g_lt (f_J0_length_8abf5 v1_12) (fun r92 => (if r92 ≤ v2_12 then ((-1), c_statements_12, c_starts_12) else (c_size, c_statements_12, c_starts_12))))) (((c_size : Int32).toInt - (0 : Int32).toInt).toNat + 1) 0 0 0 0 c_starts
set_option maxHeartbeats 4000000 in
set_option maxRecDepth 100000 in
theorem k_X2_placeOfForm (l : Launch) (D : va_G) (cI : ClassId) (kA kV : Nat → Nat) (a_ a_signs a_starts : Nat) (c_size : Int32) (c_statements : Int32) (c_signs : Nat → Int32) (c_starts : Nat → Int32) :
    g_MI l D cI kA kV yX2_placeOfForm wsX2_placeOfForm { frames := 4, cells := 0, slots := 0, locals := 85 } [.ref a_] [(a_, .inr (2, [.ref a_signs, .int c_size, .ref a_starts, .int c_statements])), (a_signs, .inl (cI, 96, .inl c_signs)), (a_starts, .inl (cI, 96, .inl c_starts))] (fun u : (Int32) × (Nat → Int32) => [(a_, .inr (2, [.ref a_signs, .int c_size, .ref a_starts, .int u.1])), (a_signs, .inl (cI, 96, .inl c_signs)), (a_starts, .inl (cI, 96, .inl u.2))]) (fun (r : Int32) (u : (Int32) × (Nat → Int32)) => (r, u) = f_X2_placeOfForm c_size c_statements c_signs c_starts) := by
  obtain ⟨XX, hXX⟩ : ∃ z, z = f_X2_placeOfForm c_size c_statements c_signs c_starts := ⟨_, rfl⟩
  have heq := hXX.trans (f_X2_placeOfForm.eq_def c_size c_statements c_signs c_starts)
  refine g_startI (lv := [(0, .ref a_)]) RX2 rfl rfl rfl (Nat.le_of_ble_eq_true rfl) rfl (fun p e s m args below meth c AA QQ hAA hQQ X hr hmn => ?_)
  refine g_ldcS X 0 (Nat.le_of_ble_eq_true rfl) rfl rfl dX2_placeOfForm_0 ?_
  refine g_astore_n (lv' := [(1, .ref (kA 0)), (0, .ref a_)]) X rfl (by decide) rfl dX2_placeOfForm_2 ?_
  refine g_iconst (v := 0) X (by decide) dX2_placeOfForm_3 ?_
  refine g_istore_n (lv' := [(2, .int 0), (1, .ref (kA 0)), (0, .ref a_)]) X rfl (by decide) rfl dX2_placeOfForm_4 ?_
  refine g_aload_n X 2 rfl rfl dX2_placeOfForm_5 ?_
  refine g_iconst (v := 0) X (by decide) dX2_placeOfForm_6 ?_
  refine g_put (C := RX2) (T := TX2) (N := 4) (ci := 2) (ws' := [(a_, .inr (2, [.ref a_signs, .int c_size, .ref a_starts, .int 0])), (a_signs, .inl (cI, 96, .inl c_signs)), (a_starts, .inl (cI, 96, .inl c_starts))]) X hi_X2_placeOfForm_X2 tyX2 tyX2_ok nmX2 0 rfl rfl 3 (by decide) (X.2.2.2.2.1 (.fieldLink RX2 22 "NineteenSecondsLeft$Letters" "statements" "I") (List.mem_of_getElem? (i := 1) rfl)) rfl rfl rfl rfl (Nat.le_of_ble_eq_true rfl) dX2_placeOfForm_7 rfl ?_
  refine g_iconst (v := 0) X (by decide) dX2_placeOfForm_10 ?_
  refine g_istore_n (lv' := [(3, .int 0), (2, .int 0), (1, .ref (kA 0)), (0, .ref a_)]) X rfl (by decide) rfl dX2_placeOfForm_11 ?_
  have lp12 : ∀ (K : (Nat) → (Int32) → (Int32) → (Int32) → (Nat → Int32) → Int32 × (Int32) × (Nat → Int32)), (∀ (v1_12 : Nat) (v2_12 : Int32) (v3_12 : Int32) (c_statements_12 : Int32) (c_starts_12 : Nat → Int32), v1_12 < g_sN → XX = K v1_12 v2_12 v3_12 c_statements_12 c_starts_12 → GG p l e { frames := 4, cells := 0, slots := 0, locals := 85 } s m args below meth c D AA 0 0 QQ 4 [(a_, .inr (2, [.ref a_signs, .int c_size, .ref a_starts, .int c_statements_12])), (a_signs, .inl (cI, 96, .inl c_signs)), (a_starts, .inl (cI, 96, .inl c_starts_12))] [(3, .int v3_12), (2, .int v2_12), (1, .ref (kA v1_12)), (0, .ref a_)] 83 []) → ∀ (n : Nat) (v1_12 : Nat) (v2_12 : Int32) (v3_12 : Int32) (c_statements_12 : Int32) (c_starts_12 : Nat → Int32), ((c_size : Int32).toInt - (v3_12 : Int32).toInt).toNat < n → 0 ≤ v3_12 → v1_12 < g_sN → 0 ≤ v2_12 → XX = L_X2_placeOfForm_12 c_size c_signs K n v1_12 v2_12 v3_12 c_statements_12 c_starts_12 → GG p l e { frames := 4, cells := 0, slots := 0, locals := 85 } s m args below meth c D AA 0 0 QQ 4 [(a_, .inr (2, [.ref a_signs, .int c_size, .ref a_starts, .int c_statements_12])), (a_signs, .inl (cI, 96, .inl c_signs)), (a_starts, .inl (cI, 96, .inl c_starts_12))] [(3, .int v3_12), (2, .int v2_12), (1, .ref (kA v1_12)), (0, .ref a_)] 12 [] := by
    intro K hK n
    induction n with
    | zero => intro v1_12 v2_12 v3_12 c_statements_12 c_starts_12 hm12; exact absurd hm12 (Nat.not_lt_zero _)
    | succ n ih12 =>
      intro v1_12 v2_12 v3_12 c_statements_12 c_starts_12 hm12 hv12_0 hv12_1 hv12_2 heq
      have heq := heq.trans (L_X2_placeOfForm_12.eq_2 _ _ _ _ _ _ _ _ _ )
      refine g_iload_n X 0 rfl rfl dX2_placeOfForm_12 ?_
      refine g_aload_n X 3 rfl rfl dX2_placeOfForm_13 ?_
      refine g_get (C := RX2) (T := TX2) (N := 4) (ci := 2) X hi_X2_placeOfForm_X2 0 rfl rfl 1 (by decide) (X.2.2.2.2.1 (.fieldLink RX2 15 "NineteenSecondsLeft$Letters" "size" "I") (List.mem_of_getElem? (i := 2) rfl)) rfl rfl dX2_placeOfForm_14 ?_
      refine g_icmp_ge X 83 dX2_placeOfForm_17 (by decide) (fun c17 => ?_) (fun c17 => ?_)
      · have heq := heq.trans (if_pos c17)
        exact hK v1_12 v2_12 v3_12 c_statements_12 c_starts_12 hv12_1 heq
      · have heq := heq.trans (if_neg c17)
        refine g_iload_n X 1 rfl rfl dX2_placeOfForm_20 ?_
        refine g_aload_n X 2 rfl rfl dX2_placeOfForm_21 ?_
        refine g_callTi (As := []) (st := [.int v2_12]) (wr := [(a_, .inr (2, [.ref a_signs, .int c_size, .ref a_starts, .int c_statements_12])), (a_signs, .inl (cI, 96, .inl c_signs)), (a_starts, .inl (cI, 96, .inl c_starts_12))]) X (k_J0_length_8abf5 l D cI kA kV v1_12 hv12_1) (cwV 0 X.2.2.2.2.1 gX2_placeOfForm_J0_length_8abf5 rfl rfl rfl (by decide +kernel) ⟨Nat.le_of_ble_eq_true rfl, Nat.le_of_ble_eq_true rfl⟩) hv12_1 [] [0, 1, 2] rfl rfl rfl rfl (by decide) rfl (Nat.le_of_ble_eq_true rfl) ⟨Nat.le_of_ble_eq_true rfl, Nat.le_of_ble_eq_true rfl⟩ dX2_placeOfForm_22 rfl (fun r22 u22 hw22 => ?_)
        refine g_eqs (ws' := [(a_, .inr (2, [.ref a_signs, .int c_size, .ref a_starts, .int c_statements_12])), (a_signs, .inl (cI, 96, .inl c_signs)), (a_starts, .inl (cI, 96, .inl c_starts_12))]) rfl ?_
        have heq := g_let heq hw22
        refine g_icmp_ge X 52 dX2_placeOfForm_25 (by decide) (fun c25 => ?_) (fun c25 => ?_)
        · have heq := heq.trans (if_pos c25)
          refine g_aload_n X 3 rfl rfl dX2_placeOfForm_52 ?_
          refine g_iload_n X 0 rfl rfl dX2_placeOfForm_53 ?_
          refine g_callVi (C := RX2) (T := TX2) (N := 4) (ci := 2) (As := [.int v3_12]) (st := []) (wr := [(a_starts, .inl (cI, 96, .inl c_starts_12))]) X (k_X2_sign l D cI kA kV a_ a_signs a_starts c_size c_statements_12 c_signs v3_12) (cwV 1 X.2.2.2.2.1 gX2_placeOfForm_X2_sign rfl rfl rfl (by decide +kernel) ⟨Nat.le_of_ble_eq_true rfl, Nat.le_of_ble_eq_true rfl⟩) 0 rfl rfl [0, 1] [2] rfl rfl rfl rfl (by decide) rfl (Nat.le_of_ble_eq_true rfl) ⟨Nat.le_of_ble_eq_true rfl, Nat.le_of_ble_eq_true rfl⟩ dX2_placeOfForm_54 rfl (fun r54 u54 hw54 => ?_)
          refine g_eqs (ws' := [(a_starts, .inl (cI, 96, .inl c_starts_12)), (a_, .inr (2, [.ref a_signs, .int c_size, .ref a_starts, .int c_statements_12])), (a_signs, .inl (cI, 96, .inl c_signs))]) rfl ?_
          have heq := g_let heq hw54
          refine g_callSr (As := [.int r54]) (st := []) (wr := [(a_starts, .inl (cI, 96, .inl c_starts_12)), (a_, .inr (2, [.ref a_signs, .int c_size, .ref a_starts, .int c_statements_12])), (a_signs, .inl (cI, 96, .inl c_signs))]) X (k_X2_shape l D cI kA kV r54) (va_cwS 1 X.2.2.2.2.1 gX2_placeOfForm_X2_shape rfl rfl rfl (by decide +kernel) ⟨Nat.le_of_ble_eq_true rfl, Nat.le_of_ble_eq_true rfl⟩) [] [0, 1, 2] rfl rfl rfl rfl (by decide) rfl (Nat.le_of_ble_eq_true rfl) ⟨Nat.le_of_ble_eq_true rfl, Nat.le_of_ble_eq_true rfl⟩ dX2_placeOfForm_57 rfl (fun r57 hw57 => ?_)
          refine g_eqs (ws' := [(a_starts, .inl (cI, 96, .inl c_starts_12)), (a_, .inr (2, [.ref a_signs, .int c_size, .ref a_starts, .int c_statements_12])), (a_signs, .inl (cI, 96, .inl c_signs))]) rfl ?_
          have heq := g_let heq hw57
          refine g_astore_n (lv' := [(1, .ref (kA r57)), (3, .int v3_12), (2, .int v2_12), (0, .ref a_)]) X rfl (by decide) rfl dX2_placeOfForm_60 ?_
          refine g_aload_n X 0 rfl rfl dX2_placeOfForm_61 ?_
          refine g_callTi (As := []) (st := []) (wr := [(a_starts, .inl (cI, 96, .inl c_starts_12)), (a_, .inr (2, [.ref a_signs, .int c_size, .ref a_starts, .int c_statements_12])), (a_signs, .inl (cI, 96, .inl c_signs))]) X (k_J0_isEmpty_aae02 l D cI kA kV r57 (by rw [hw57]; exact fs_X2_shape _)) (cwV 0 X.2.2.2.2.1 gX2_placeOfForm_J0_isEmpty_aae02 rfl rfl rfl (by decide +kernel) ⟨Nat.le_of_ble_eq_true rfl, Nat.le_of_ble_eq_true rfl⟩) (by rw [hw57]; exact fs_X2_shape _) [] [0, 1, 2] rfl rfl rfl rfl (by decide) rfl (Nat.le_of_ble_eq_true rfl) ⟨Nat.le_of_ble_eq_true rfl, Nat.le_of_ble_eq_true rfl⟩ dX2_placeOfForm_62 rfl (fun r62 u62 hw62 => ?_)
          refine g_eqs (ws' := [(a_starts, .inl (cI, 96, .inl c_starts_12)), (a_, .inr (2, [.ref a_signs, .int c_size, .ref a_starts, .int c_statements_12])), (a_signs, .inl (cI, 96, .inl c_signs))]) rfl ?_
          have heq := g_let heq hw62
          refine g_if_eq X 70 dX2_placeOfForm_65 (by decide) (fun c65 => ?_) (fun c65 => ?_)
          · have heq := heq.trans (if_pos c65)
            refine g_iconst (v := 0) X (by decide) dX2_placeOfForm_70 ?_
            refine g_istore_n (lv' := [(2, .int 0), (1, .ref (kA r57)), (3, .int v3_12), (0, .ref a_)]) X rfl (by decide) rfl dX2_placeOfForm_71 ?_
            refine g_aload_n X 3 rfl rfl dX2_placeOfForm_72 ?_
            refine g_iload_n X 2 rfl rfl dX2_placeOfForm_73 ?_
            refine g_callVv (C := RX2) (T := TX2) (N := 4) (ci := 2) (As := [.int v3_12]) (st := []) (wr := [(a_signs, .inl (cI, 96, .inl c_signs))]) X (k_X2_addStart l D cI kA kV a_ a_signs a_starts c_size c_statements_12 c_starts_12 v3_12) (cwV 1 X.2.2.2.2.1 gX2_placeOfForm_X2_addStart rfl rfl rfl (by decide +kernel) ⟨Nat.le_of_ble_eq_true rfl, Nat.le_of_ble_eq_true rfl⟩) 1 rfl rfl [1, 0] [2] rfl rfl rfl rfl (by decide) rfl (Nat.le_of_ble_eq_true rfl) ⟨Nat.le_of_ble_eq_true rfl, Nat.le_of_ble_eq_true rfl⟩ dX2_placeOfForm_74 rfl (fun u74 hw74 => ?_)
            refine g_eqs (ws' := [(a_signs, .inl (cI, 96, .inl c_signs)), (a_, .inr (2, [.ref a_signs, .int c_size, .ref a_starts, .int u74.1])), (a_starts, .inl (cI, 96, .inl u74.2))]) rfl ?_
            have heq := g_let heq hw74
            refine g_iinc (v := v3_12 + 1) (lv' := [(3, .int (v3_12 + 1)), (2, .int 0), (1, .ref (kA r57)), (0, .ref a_)]) X 2 rfl rfl (by decide) rfl dX2_placeOfForm_77 ?_
            refine g_goto (tgt := 12) X (by decide) dX2_placeOfForm_80 ?_
            refine g_wsub (ws' := [(a_, .inr (2, [.ref a_signs, .int c_size, .ref a_starts, .int u74.1])), (a_signs, .inl (cI, 96, .inl c_signs)), (a_starts, .inl (cI, 96, .inl u74.2))]) [1, 0, 2] rfl rfl ?_
            exact ih12 r57 0 (v3_12 + 1) u74.1 u74.2 (g_upm c17 hm12) (g_up0 hv12_0 c17) (by rw [hw57]; exact fs_X2_shape _) (by decide) heq
          · have heq := heq.trans (if_neg c65)
            refine g_iload_n X 1 rfl rfl dX2_placeOfForm_68 ?_
            exact g_iret X hAA hQQ (c_statements_12, c_starts_12) (heq.symm.trans hXX) [1, 2, 0] rfl rfl hr dX2_placeOfForm_69
        · have heq := heq.trans (if_neg c25)
          refine g_aload_n X 2 rfl rfl dX2_placeOfForm_28 ?_
          refine g_iload_n X 1 rfl rfl dX2_placeOfForm_29 ?_
          refine g_callTi (As := [.int v2_12]) (st := []) (wr := [(a_, .inr (2, [.ref a_signs, .int c_size, .ref a_starts, .int c_statements_12])), (a_signs, .inl (cI, 96, .inl c_signs)), (a_starts, .inl (cI, 96, .inl c_starts_12))]) X (k_J0_charAt_5068e l D cI kA kV v1_12 v2_12 hv12_1 (Int32.not_lt.mpr hv12_2) (by have q := g_nn c25; rw [hw22, fl_len] at q; exact q)) (cwV 1 X.2.2.2.2.1 gX2_placeOfForm_J0_charAt_5068e rfl rfl rfl (by decide +kernel) ⟨Nat.le_of_ble_eq_true rfl, Nat.le_of_ble_eq_true rfl⟩) hv12_1 [] [0, 1, 2] rfl rfl rfl rfl (by decide) rfl (Nat.le_of_ble_eq_true rfl) ⟨Nat.le_of_ble_eq_true rfl, Nat.le_of_ble_eq_true rfl⟩ dX2_placeOfForm_30 rfl (fun r30 u30 hw30 => ?_)
          refine g_eqs (ws' := [(a_, .inr (2, [.ref a_signs, .int c_size, .ref a_starts, .int c_statements_12])), (a_signs, .inl (cI, 96, .inl c_signs)), (a_starts, .inl (cI, 96, .inl c_starts_12))]) rfl ?_
          have heq := g_let heq hw30
          refine g_aload_n X 3 rfl rfl dX2_placeOfForm_33 ?_
          refine g_iload_n X 0 rfl rfl dX2_placeOfForm_34 ?_
          refine g_callVi (C := RX2) (T := TX2) (N := 4) (ci := 2) (As := [.int v3_12]) (st := [.int r30]) (wr := [(a_starts, .inl (cI, 96, .inl c_starts_12))]) X (k_X2_sign l D cI kA kV a_ a_signs a_starts c_size c_statements_12 c_signs v3_12) (cwV 1 X.2.2.2.2.1 gX2_placeOfForm_X2_sign rfl rfl rfl (by decide +kernel) ⟨Nat.le_of_ble_eq_true rfl, Nat.le_of_ble_eq_true rfl⟩) 0 rfl rfl [0, 1] [2] rfl rfl rfl rfl (by decide) rfl (Nat.le_of_ble_eq_true rfl) ⟨Nat.le_of_ble_eq_true rfl, Nat.le_of_ble_eq_true rfl⟩ dX2_placeOfForm_35 rfl (fun r35 u35 hw35 => ?_)
          refine g_eqs (ws' := [(a_starts, .inl (cI, 96, .inl c_starts_12)), (a_, .inr (2, [.ref a_signs, .int c_size, .ref a_starts, .int c_statements_12])), (a_signs, .inl (cI, 96, .inl c_signs))]) rfl ?_
          have heq := g_let heq hw35
          refine g_callSi (As := [.int r30, .int r35]) (st := []) (wr := [(a_starts, .inl (cI, 96, .inl c_starts_12)), (a_, .inr (2, [.ref a_signs, .int c_size, .ref a_starts, .int c_statements_12])), (a_signs, .inl (cI, 96, .inl c_signs))]) X (k_X2_fits l D cI kA kV r30 r35) (va_cwS 2 X.2.2.2.2.1 gX2_placeOfForm_X2_fits rfl rfl rfl (by decide +kernel) ⟨Nat.le_of_ble_eq_true rfl, Nat.le_of_ble_eq_true rfl⟩) [] [0, 1, 2] rfl rfl rfl rfl (by decide) rfl (Nat.le_of_ble_eq_true rfl) ⟨Nat.le_of_ble_eq_true rfl, Nat.le_of_ble_eq_true rfl⟩ dX2_placeOfForm_38 rfl (fun r38 u38 hw38 => ?_)
          refine g_eqs (ws' := [(a_starts, .inl (cI, 96, .inl c_starts_12)), (a_, .inr (2, [.ref a_signs, .int c_size, .ref a_starts, .int c_statements_12])), (a_signs, .inl (cI, 96, .inl c_signs))]) rfl ?_
          have heq := g_let heq hw38
          refine g_if_ne X 46 dX2_placeOfForm_41 (by decide) (fun c41 => ?_) (fun c41 => ?_)
          · have heq := heq.trans (if_neg c41)
            refine g_iinc (v := v2_12 + 1) (lv' := [(2, .int (v2_12 + 1)), (3, .int v3_12), (1, .ref (kA v1_12)), (0, .ref a_)]) X 1 rfl rfl (by decide) rfl dX2_placeOfForm_46 ?_
            refine g_goto (tgt := 77) X (by decide) dX2_placeOfForm_49 ?_
            refine g_iinc (v := v3_12 + 1) (lv' := [(3, .int (v3_12 + 1)), (2, .int (v2_12 + 1)), (1, .ref (kA v1_12)), (0, .ref a_)]) X 1 rfl rfl (by decide) rfl dX2_placeOfForm_77 ?_
            refine g_goto (tgt := 12) X (by decide) dX2_placeOfForm_80 ?_
            refine g_wsub (ws' := [(a_, .inr (2, [.ref a_signs, .int c_size, .ref a_starts, .int c_statements_12])), (a_signs, .inl (cI, 96, .inl c_signs)), (a_starts, .inl (cI, 96, .inl c_starts_12))]) [1, 2, 0] rfl rfl ?_
            exact ih12 v1_12 (v2_12 + 1) (v3_12 + 1) c_statements_12 c_starts_12 (g_upm c17 hm12) (g_up0 hv12_0 c17) hv12_1 (g_up0 hv12_2 c25) heq
          · have heq := heq.trans (if_pos c41)
            refine g_iload_n X 0 rfl rfl dX2_placeOfForm_44 ?_
            exact g_iret X hAA hQQ (c_statements_12, c_starts_12) (heq.symm.trans hXX) [1, 2, 0] rfl rfl hr dX2_placeOfForm_45
  refine lp12 _ (fun v1_12 v2_12 v3_12 c_statements_12 c_starts_12 hv12_1 heq => ?_) _ 0 0 0 0 c_starts (Nat.lt_succ_self _) (by decide) (Nat.le_of_ble_eq_true rfl) (by decide) heq
  refine g_aload_n X 3 rfl rfl dX2_placeOfForm_83 ?_
  refine g_get (C := RX2) (T := TX2) (N := 4) (ci := 2) X hi_X2_placeOfForm_X2 0 rfl rfl 1 (by decide) (X.2.2.2.2.1 (.fieldLink RX2 15 "NineteenSecondsLeft$Letters" "size" "I") (List.mem_of_getElem? (i := 2) rfl)) rfl rfl dX2_placeOfForm_84 ?_
  refine g_if_eq X 98 dX2_placeOfForm_87 (by decide) (fun c87 => ?_) (fun c87 => ?_)
  · have heq := heq.trans (if_pos c87)
    refine g_aload_n X 3 rfl rfl dX2_placeOfForm_98 ?_
    refine g_get (C := RX2) (T := TX2) (N := 4) (ci := 2) X hi_X2_placeOfForm_X2 0 rfl rfl 1 (by decide) (X.2.2.2.2.1 (.fieldLink RX2 15 "NineteenSecondsLeft$Letters" "size" "I") (List.mem_of_getElem? (i := 2) rfl)) rfl rfl dX2_placeOfForm_99 ?_
    refine g_goto (tgt := 106) X (by decide) dX2_placeOfForm_102 ?_
    exact g_iret X hAA hQQ (c_statements_12, c_starts_12) (heq.symm.trans hXX) [0, 1, 2] rfl rfl hr dX2_placeOfForm_106
  · have heq := heq.trans (if_neg c87)
    refine g_iload_n X 1 rfl rfl dX2_placeOfForm_90 ?_
    refine g_aload_n X 2 rfl rfl dX2_placeOfForm_91 ?_
    refine g_callTi (As := []) (st := [.int v2_12]) (wr := [(a_, .inr (2, [.ref a_signs, .int c_size, .ref a_starts, .int c_statements_12])), (a_signs, .inl (cI, 96, .inl c_signs)), (a_starts, .inl (cI, 96, .inl c_starts_12))]) X (k_J0_length_8abf5 l D cI kA kV v1_12 hv12_1) (cwV 0 X.2.2.2.2.1 gX2_placeOfForm_J0_length_8abf5 rfl rfl rfl (by decide +kernel) ⟨Nat.le_of_ble_eq_true rfl, Nat.le_of_ble_eq_true rfl⟩) hv12_1 [] [0, 1, 2] rfl rfl rfl rfl (by decide) rfl (Nat.le_of_ble_eq_true rfl) ⟨Nat.le_of_ble_eq_true rfl, Nat.le_of_ble_eq_true rfl⟩ dX2_placeOfForm_92 rfl (fun r92 u92 hw92 => ?_)
    refine g_eqs (ws' := [(a_, .inr (2, [.ref a_signs, .int c_size, .ref a_starts, .int c_statements_12])), (a_signs, .inl (cI, 96, .inl c_signs)), (a_starts, .inl (cI, 96, .inl c_starts_12))]) rfl ?_
    have heq := g_let heq hw92
    refine g_icmp_ge X 105 dX2_placeOfForm_95 (by decide) (fun c95 => ?_) (fun c95 => ?_)
    · have heq := heq.trans (if_pos c95)
      refine g_iconst (v := (-1)) X (by decide) dX2_placeOfForm_105 ?_
      exact g_iret X hAA hQQ (c_statements_12, c_starts_12) (heq.symm.trans hXX) [0, 1, 2] rfl rfl hr dX2_placeOfForm_106
    · have heq := heq.trans (if_neg c95)
      refine g_aload_n X 3 rfl rfl dX2_placeOfForm_98 ?_
      refine g_get (C := RX2) (T := TX2) (N := 4) (ci := 2) X hi_X2_placeOfForm_X2 0 rfl rfl 1 (by decide) (X.2.2.2.2.1 (.fieldLink RX2 15 "NineteenSecondsLeft$Letters" "size" "I") (List.mem_of_getElem? (i := 2) rfl)) rfl rfl dX2_placeOfForm_99 ?_
      refine g_goto (tgt := 106) X (by decide) dX2_placeOfForm_102 ?_
      exact g_iret X hAA hQQ (c_statements_12, c_starts_12) (heq.symm.trans hXX) [0, 1, 2] rfl rfl hr dX2_placeOfForm_106

theorem hi_X2_placeOfRange_X2 : ∀ w ∈ wsX20, w ∈ wsX2_placeOfRange := fun w h => List.mem_cons_of_mem _ (List.mem_append_right _ (h))
def L_X2_placeOfRange_7 (v1 : Int32) (c_size : Int32) (c_statements : Int32) (c_signs : Nat → Int32) (c_starts : Nat → Int32) (K : (Int32) → (Int32) → Int32) : Nat → (Int32) → (Int32) → Int32
  | 0, v2_7, v3_7 => K v2_7 v3_7
  | n + 1, v2_7, v3_7 => (if c_statements ≤ v3_7 then K v2_7 v3_7 else (if 96 ≤ v3_7 then K v2_7 v3_7 else g_lt (f_X2_sign c_size c_signs (c_starts v3_7.toNatClampNeg)) (fun r31 => (if r31 = 112 then (if v2_7 + (-1) < 0 then c_starts v3_7.toNatClampNeg else g_lt (f_X2_isInRange c_size c_signs (c_starts v3_7.toNatClampNeg)) (fun r53 => (if r53 = 0 then c_starts v3_7.toNatClampNeg else L_X2_placeOfRange_7 v1 c_size c_statements c_signs c_starts K n (v2_7 + (-1)) (v3_7 + 1)))) else (if v2_7 < 0 then c_starts v3_7.toNatClampNeg else g_lt (f_X2_isInRange c_size c_signs (c_starts v3_7.toNatClampNeg)) (fun r53 => (if r53 = 0 then c_starts v3_7.toNatClampNeg else L_X2_placeOfRange_7 v1 c_size c_statements c_signs c_starts K n v2_7 (v3_7 + 1))))))))
def f_X2_placeOfRange (c_size : Int32) (c_statements : Int32) (c_signs : Nat → Int32) (c_starts : Nat → Int32) (p1 : Int32) : Int32 :=
  L_X2_placeOfRange_7 p1 c_size c_statements c_signs c_starts (fun v2_7 v3_7 => (-1)) (((c_statements : Int32).toInt - (0 : Int32).toInt).toNat + 1) (6 - p1) 0
set_option maxHeartbeats 4000000 in
set_option maxRecDepth 100000 in
theorem k_X2_placeOfRange (l : Launch) (D : va_G) (cI : ClassId) (kA kV : Nat → Nat) (a_ a_signs a_starts : Nat) (c_size : Int32) (c_statements : Int32) (c_signs : Nat → Int32) (c_starts : Nat → Int32) (p1 : Int32) :
    g_MI l D cI kA kV yX2_placeOfRange wsX2_placeOfRange { frames := 4, cells := 0, slots := 0, locals := 86 } [.ref a_, .int p1] [(a_, .inr (2, [.ref a_signs, .int c_size, .ref a_starts, .int c_statements])), (a_signs, .inl (cI, 96, .inl c_signs)), (a_starts, .inl (cI, 96, .inl c_starts))] (fun u : Unit => [(a_, .inr (2, [.ref a_signs, .int c_size, .ref a_starts, .int c_statements])), (a_signs, .inl (cI, 96, .inl c_signs)), (a_starts, .inl (cI, 96, .inl c_starts))]) (fun (r : Int32) (u : Unit) => r = f_X2_placeOfRange c_size c_statements c_signs c_starts p1) := by
  obtain ⟨XX, hXX⟩ : ∃ z, z = f_X2_placeOfRange c_size c_statements c_signs c_starts p1 := ⟨_, rfl⟩
  have heq := hXX.trans (f_X2_placeOfRange.eq_def c_size c_statements c_signs c_starts p1)
  refine g_startI (lv := [(0, .ref a_), (1, .int p1)]) RX2 rfl rfl rfl (Nat.le_of_ble_eq_true rfl) rfl (fun p e s m args below meth c AA QQ hAA hQQ X hr hmn => ?_)
  refine g_bipush (v := 6) X (by decide) dX2_placeOfRange_0 ?_
  refine g_iload_n X 1 rfl rfl dX2_placeOfRange_2 ?_
  refine g_isub X dX2_placeOfRange_3 ?_
  refine g_istore_n (lv' := [(2, .int (6 - p1)), (0, .ref a_), (1, .int p1)]) X rfl (by decide) rfl dX2_placeOfRange_4 ?_
  refine g_iconst (v := 0) X (by decide) dX2_placeOfRange_5 ?_
  refine g_istore_n (lv' := [(3, .int 0), (2, .int (6 - p1)), (0, .ref a_), (1, .int p1)]) X rfl (by decide) rfl dX2_placeOfRange_6 ?_
  have lp7 : ∀ (K : (Int32) → (Int32) → Int32), (∀ (v2_7 : Int32) (v3_7 : Int32), XX = K v2_7 v3_7 → GG p l e { frames := 4, cells := 0, slots := 0, locals := 86 } s m args below meth c D AA 0 0 QQ 4 [(a_, .inr (2, [.ref a_signs, .int c_size, .ref a_starts, .int c_statements])), (a_signs, .inl (cI, 96, .inl c_signs)), (a_starts, .inl (cI, 96, .inl c_starts))] [(3, .int v3_7), (2, .int v2_7), (0, .ref a_), (1, .int p1)] 72 []) → ∀ (n : Nat) (v2_7 : Int32) (v3_7 : Int32), ((c_statements : Int32).toInt - (v3_7 : Int32).toInt).toNat < n → 0 ≤ v3_7 → XX = L_X2_placeOfRange_7 p1 c_size c_statements c_signs c_starts K n v2_7 v3_7 → GG p l e { frames := 4, cells := 0, slots := 0, locals := 86 } s m args below meth c D AA 0 0 QQ 4 [(a_, .inr (2, [.ref a_signs, .int c_size, .ref a_starts, .int c_statements])), (a_signs, .inl (cI, 96, .inl c_signs)), (a_starts, .inl (cI, 96, .inl c_starts))] [(3, .int v3_7), (2, .int v2_7), (0, .ref a_), (1, .int p1)] 7 [] := by
    intro K hK n
    induction n with
    | zero => intro v2_7 v3_7 hm7; exact absurd hm7 (Nat.not_lt_zero _)
    | succ n ih7 =>
      intro v2_7 v3_7 hm7 hv7_0 heq
      have heq := heq.trans (L_X2_placeOfRange_7.eq_2 _ _ _ _ _ _ _ _ _ )
      refine g_iload_n X 0 rfl rfl dX2_placeOfRange_7 ?_
      refine g_aload_n X 2 rfl rfl dX2_placeOfRange_8 ?_
      refine g_get (C := RX2) (T := TX2) (N := 4) (ci := 2) X hi_X2_placeOfRange_X2 0 rfl rfl 3 (by decide) (X.2.2.2.2.1 (.fieldLink RX2 22 "NineteenSecondsLeft$Letters" "statements" "I") (List.mem_of_getElem? (i := 1) rfl)) rfl rfl dX2_placeOfRange_9 ?_
      refine g_icmp_ge X 72 dX2_placeOfRange_12 (by decide) (fun c12 => ?_) (fun c12 => ?_)
      · have heq := heq.trans (if_pos c12)
        exact hK v2_7 v3_7 heq
      · have heq := heq.trans (if_neg c12)
        refine g_iload_n X 0 rfl rfl dX2_placeOfRange_15 ?_
        refine g_aload_n X 2 rfl rfl dX2_placeOfRange_16 ?_
        refine g_get (C := RX2) (T := TX2) (N := 4) (ci := 2) X hi_X2_placeOfRange_X2 0 rfl rfl 2 (by decide) (X.2.2.2.2.1 (.fieldLink RX2 19 "NineteenSecondsLeft$Letters" "starts" "[I") (List.mem_of_getElem? (i := 2) rfl)) rfl rfl dX2_placeOfRange_17 ?_
        refine g_alen (v := 96) X 2 rfl rfl dX2_placeOfRange_20 ?_
        refine g_icmp_ge X 72 dX2_placeOfRange_21 (by decide) (fun c21 => ?_) (fun c21 => ?_)
        · have heq := heq.trans (if_pos c21)
          exact hK v2_7 v3_7 heq
        · have heq := heq.trans (if_neg c21)
          refine g_aload_n X 2 rfl rfl dX2_placeOfRange_24 ?_
          refine g_aload_n X 2 rfl rfl dX2_placeOfRange_25 ?_
          refine g_get (C := RX2) (T := TX2) (N := 4) (ci := 2) X hi_X2_placeOfRange_X2 0 rfl rfl 2 (by decide) (X.2.2.2.2.1 (.fieldLink RX2 19 "NineteenSecondsLeft$Letters" "starts" "[I") (List.mem_of_getElem? (i := 2) rfl)) rfl rfl dX2_placeOfRange_26 ?_
          refine g_iload_n X 0 rfl rfl dX2_placeOfRange_29 ?_
          refine g_iald X 2 rfl (g_vin (by decide) hv7_0 (g_nn c21)) dX2_placeOfRange_30 ?_
          refine g_callVi (C := RX2) (T := TX2) (N := 4) (ci := 2) (As := [.int (c_starts v3_7.toNatClampNeg)]) (st := []) (wr := [(a_starts, .inl (cI, 96, .inl c_starts))]) X (k_X2_sign l D cI kA kV a_ a_signs a_starts c_size c_statements c_signs (c_starts v3_7.toNatClampNeg)) (cwV 1 X.2.2.2.2.1 gX2_placeOfRange_X2_sign rfl rfl rfl (by decide +kernel) ⟨Nat.le_of_ble_eq_true rfl, Nat.le_of_ble_eq_true rfl⟩) 0 rfl rfl [0, 1] [2] rfl rfl rfl rfl (by decide) rfl (Nat.le_of_ble_eq_true rfl) ⟨Nat.le_of_ble_eq_true rfl, Nat.le_of_ble_eq_true rfl⟩ dX2_placeOfRange_31 rfl (fun r31 u31 hw31 => ?_)
          refine g_eqs (ws' := [(a_starts, .inl (cI, 96, .inl c_starts)), (a_, .inr (2, [.ref a_signs, .int c_size, .ref a_starts, .int c_statements])), (a_signs, .inl (cI, 96, .inl c_signs))]) rfl ?_
          have heq := g_let heq hw31
          refine g_bipush (v := 112) X (by decide) dX2_placeOfRange_34 ?_
          refine g_icmp_ne X 42 dX2_placeOfRange_36 (by decide) (fun c36 => ?_) (fun c36 => ?_)
          · have heq := heq.trans (if_neg c36)
            refine g_iload_n X 1 rfl rfl dX2_placeOfRange_42 ?_
            refine g_if_lt X 59 dX2_placeOfRange_43 (by decide) (fun c43 => ?_) (fun c43 => ?_)
            · have heq := heq.trans (if_pos c43)
              refine g_aload_n X 2 rfl rfl dX2_placeOfRange_59 ?_
              refine g_get (C := RX2) (T := TX2) (N := 4) (ci := 2) X hi_X2_placeOfRange_X2 1 rfl rfl 2 (by decide) (X.2.2.2.2.1 (.fieldLink RX2 19 "NineteenSecondsLeft$Letters" "starts" "[I") (List.mem_of_getElem? (i := 2) rfl)) rfl rfl dX2_placeOfRange_60 ?_
              refine g_iload_n X 0 rfl rfl dX2_placeOfRange_63 ?_
              refine g_iald X 0 rfl (g_vin (by decide) hv7_0 (g_nn c21)) dX2_placeOfRange_64 ?_
              exact g_iret X hAA hQQ () (heq.symm.trans hXX) [1, 2, 0] rfl rfl hr dX2_placeOfRange_65
            · have heq := heq.trans (if_neg c43)
              refine g_aload_n X 2 rfl rfl dX2_placeOfRange_46 ?_
              refine g_aload_n X 2 rfl rfl dX2_placeOfRange_47 ?_
              refine g_get (C := RX2) (T := TX2) (N := 4) (ci := 2) X hi_X2_placeOfRange_X2 1 rfl rfl 2 (by decide) (X.2.2.2.2.1 (.fieldLink RX2 19 "NineteenSecondsLeft$Letters" "starts" "[I") (List.mem_of_getElem? (i := 2) rfl)) rfl rfl dX2_placeOfRange_48 ?_
              refine g_iload_n X 0 rfl rfl dX2_placeOfRange_51 ?_
              refine g_iald X 0 rfl (g_vin (by decide) hv7_0 (g_nn c21)) dX2_placeOfRange_52 ?_
              refine g_callVi (C := RX2) (T := TX2) (N := 4) (ci := 2) (As := [.int (c_starts v3_7.toNatClampNeg)]) (st := []) (wr := [(a_starts, .inl (cI, 96, .inl c_starts))]) X (k_X2_isInRange l D cI kA kV a_ a_signs a_starts c_size c_statements c_signs (c_starts v3_7.toNatClampNeg)) (cwV 1 X.2.2.2.2.1 gX2_placeOfRange_X2_isInRange rfl rfl rfl (by decide +kernel) ⟨Nat.le_of_ble_eq_true rfl, Nat.le_of_ble_eq_true rfl⟩) 1 rfl rfl [1, 2] [0] rfl rfl rfl rfl (by decide) rfl (Nat.le_of_ble_eq_true rfl) ⟨Nat.le_of_ble_eq_true rfl, Nat.le_of_ble_eq_true rfl⟩ dX2_placeOfRange_53 rfl (fun r53 u53 hw53 => ?_)
              refine g_eqs (ws' := [(a_starts, .inl (cI, 96, .inl c_starts)), (a_, .inr (2, [.ref a_signs, .int c_size, .ref a_starts, .int c_statements])), (a_signs, .inl (cI, 96, .inl c_signs))]) rfl ?_
              have heq := g_let heq hw53
              refine g_if_ne X 66 dX2_placeOfRange_56 (by decide) (fun c56 => ?_) (fun c56 => ?_)
              · have heq := heq.trans (if_neg c56)
                refine g_iinc (v := v3_7 + 1) (lv' := [(3, .int (v3_7 + 1)), (2, .int v2_7), (0, .ref a_), (1, .int p1)]) X 0 rfl rfl (by decide) rfl dX2_placeOfRange_66 ?_
                refine g_goto (tgt := 7) X (by decide) dX2_placeOfRange_69 ?_
                refine g_wsub (ws' := [(a_, .inr (2, [.ref a_signs, .int c_size, .ref a_starts, .int c_statements])), (a_signs, .inl (cI, 96, .inl c_signs)), (a_starts, .inl (cI, 96, .inl c_starts))]) [1, 2, 0] rfl rfl ?_
                exact ih7 v2_7 (v3_7 + 1) (g_upm c12 hm7) (g_up0 hv7_0 c12) heq
              · have heq := heq.trans (if_pos c56)
                refine g_aload_n X 2 rfl rfl dX2_placeOfRange_59 ?_
                refine g_get (C := RX2) (T := TX2) (N := 4) (ci := 2) X hi_X2_placeOfRange_X2 1 rfl rfl 2 (by decide) (X.2.2.2.2.1 (.fieldLink RX2 19 "NineteenSecondsLeft$Letters" "starts" "[I") (List.mem_of_getElem? (i := 2) rfl)) rfl rfl dX2_placeOfRange_60 ?_
                refine g_iload_n X 0 rfl rfl dX2_placeOfRange_63 ?_
                refine g_iald X 0 rfl (g_vin (by decide) hv7_0 (g_nn c21)) dX2_placeOfRange_64 ?_
                exact g_iret X hAA hQQ () (heq.symm.trans hXX) [1, 2, 0] rfl rfl hr dX2_placeOfRange_65
          · have heq := heq.trans (if_pos c36)
            refine g_iinc (v := v2_7 + (-1)) (lv' := [(2, .int (v2_7 + (-1))), (3, .int v3_7), (0, .ref a_), (1, .int p1)]) X 1 rfl (g_inm (by decide)) (by decide) rfl dX2_placeOfRange_39 ?_
            refine g_iload_n X 0 rfl rfl dX2_placeOfRange_42 ?_
            refine g_if_lt X 59 dX2_placeOfRange_43 (by decide) (fun c43 => ?_) (fun c43 => ?_)
            · have heq := heq.trans (if_pos c43)
              refine g_aload_n X 2 rfl rfl dX2_placeOfRange_59 ?_
              refine g_get (C := RX2) (T := TX2) (N := 4) (ci := 2) X hi_X2_placeOfRange_X2 1 rfl rfl 2 (by decide) (X.2.2.2.2.1 (.fieldLink RX2 19 "NineteenSecondsLeft$Letters" "starts" "[I") (List.mem_of_getElem? (i := 2) rfl)) rfl rfl dX2_placeOfRange_60 ?_
              refine g_iload_n X 1 rfl rfl dX2_placeOfRange_63 ?_
              refine g_iald X 0 rfl (g_vin (by decide) hv7_0 (g_nn c21)) dX2_placeOfRange_64 ?_
              exact g_iret X hAA hQQ () (heq.symm.trans hXX) [1, 2, 0] rfl rfl hr dX2_placeOfRange_65
            · have heq := heq.trans (if_neg c43)
              refine g_aload_n X 2 rfl rfl dX2_placeOfRange_46 ?_
              refine g_aload_n X 2 rfl rfl dX2_placeOfRange_47 ?_
              refine g_get (C := RX2) (T := TX2) (N := 4) (ci := 2) X hi_X2_placeOfRange_X2 1 rfl rfl 2 (by decide) (X.2.2.2.2.1 (.fieldLink RX2 19 "NineteenSecondsLeft$Letters" "starts" "[I") (List.mem_of_getElem? (i := 2) rfl)) rfl rfl dX2_placeOfRange_48 ?_
              refine g_iload_n X 1 rfl rfl dX2_placeOfRange_51 ?_
              refine g_iald X 0 rfl (g_vin (by decide) hv7_0 (g_nn c21)) dX2_placeOfRange_52 ?_
              refine g_callVi (C := RX2) (T := TX2) (N := 4) (ci := 2) (As := [.int (c_starts v3_7.toNatClampNeg)]) (st := []) (wr := [(a_starts, .inl (cI, 96, .inl c_starts))]) X (k_X2_isInRange l D cI kA kV a_ a_signs a_starts c_size c_statements c_signs (c_starts v3_7.toNatClampNeg)) (cwV 1 X.2.2.2.2.1 gX2_placeOfRange_X2_isInRange rfl rfl rfl (by decide +kernel) ⟨Nat.le_of_ble_eq_true rfl, Nat.le_of_ble_eq_true rfl⟩) 1 rfl rfl [1, 2] [0] rfl rfl rfl rfl (by decide) rfl (Nat.le_of_ble_eq_true rfl) ⟨Nat.le_of_ble_eq_true rfl, Nat.le_of_ble_eq_true rfl⟩ dX2_placeOfRange_53 rfl (fun r53 u53 hw53 => ?_)
              refine g_eqs (ws' := [(a_starts, .inl (cI, 96, .inl c_starts)), (a_, .inr (2, [.ref a_signs, .int c_size, .ref a_starts, .int c_statements])), (a_signs, .inl (cI, 96, .inl c_signs))]) rfl ?_
              have heq := g_let heq hw53
              refine g_if_ne X 66 dX2_placeOfRange_56 (by decide) (fun c56 => ?_) (fun c56 => ?_)
              · have heq := heq.trans (if_neg c56)
                refine g_iinc (v := v3_7 + 1) (lv' := [(3, .int (v3_7 + 1)), (2, .int (v2_7 + (-1))), (0, .ref a_), (1, .int p1)]) X 1 rfl rfl (by decide) rfl dX2_placeOfRange_66 ?_
                refine g_goto (tgt := 7) X (by decide) dX2_placeOfRange_69 ?_
                refine g_wsub (ws' := [(a_, .inr (2, [.ref a_signs, .int c_size, .ref a_starts, .int c_statements])), (a_signs, .inl (cI, 96, .inl c_signs)), (a_starts, .inl (cI, 96, .inl c_starts))]) [1, 2, 0] rfl rfl ?_
                exact ih7 (v2_7 + (-1)) (v3_7 + 1) (g_upm c12 hm7) (g_up0 hv7_0 c12) heq
              · have heq := heq.trans (if_pos c56)
                refine g_aload_n X 2 rfl rfl dX2_placeOfRange_59 ?_
                refine g_get (C := RX2) (T := TX2) (N := 4) (ci := 2) X hi_X2_placeOfRange_X2 1 rfl rfl 2 (by decide) (X.2.2.2.2.1 (.fieldLink RX2 19 "NineteenSecondsLeft$Letters" "starts" "[I") (List.mem_of_getElem? (i := 2) rfl)) rfl rfl dX2_placeOfRange_60 ?_
                refine g_iload_n X 1 rfl rfl dX2_placeOfRange_63 ?_
                refine g_iald X 0 rfl (g_vin (by decide) hv7_0 (g_nn c21)) dX2_placeOfRange_64 ?_
                exact g_iret X hAA hQQ () (heq.symm.trans hXX) [1, 2, 0] rfl rfl hr dX2_placeOfRange_65
  refine lp7 _ (fun v2_7 v3_7 heq => ?_) _ (6 - p1) 0 (Nat.lt_succ_self _) (by decide) heq
  refine g_iconst (v := (-1)) X (by decide) dX2_placeOfRange_72 ?_
  exact g_iret X hAA hQQ () (heq.symm.trans hXX) [0, 1, 2] rfl rfl hr dX2_placeOfRange_73

def f_X2_fault (c_size : Int32) (c_statements : Int32) (c_signs : Nat → Int32) (c_starts : Nat → Int32) (p1 : Int32) : Int32 × (Int32) × (Nat → Int32) :=
  g_lt2 (f_X2_placeOfForm c_size c_statements c_signs c_starts) (fun r1 u1 => (if r1 < 0 then g_lt (f_X2_placeOfRange c_size u1.1 c_signs u1.2 p1) (fun r17 => (if r17 < 0 then (0, u1.1, u1.2) else ((-2000) - r17, u1.1, u1.2))) else ((-1000) - r1, u1.1, u1.2)))
set_option maxHeartbeats 4000000 in
set_option maxRecDepth 100000 in
theorem k_X2_fault (l : Launch) (D : va_G) (cI : ClassId) (kA kV : Nat → Nat) (a_ a_signs a_starts : Nat) (c_size : Int32) (c_statements : Int32) (c_signs : Nat → Int32) (c_starts : Nat → Int32) (p1 : Int32) :
    g_MI l D cI kA kV yX2_fault wsX2_fault { frames := 5, cells := 0, slots := 0, locals := 109 } [.ref a_, .int p1] [(a_, .inr (2, [.ref a_signs, .int c_size, .ref a_starts, .int c_statements])), (a_signs, .inl (cI, 96, .inl c_signs)), (a_starts, .inl (cI, 96, .inl c_starts))] (fun u : (Int32) × (Nat → Int32) => [(a_, .inr (2, [.ref a_signs, .int c_size, .ref a_starts, .int u.1])), (a_signs, .inl (cI, 96, .inl c_signs)), (a_starts, .inl (cI, 96, .inl u.2))]) (fun (r : Int32) (u : (Int32) × (Nat → Int32)) => (r, u) = f_X2_fault c_size c_statements c_signs c_starts p1) := by
  obtain ⟨XX, hXX⟩ : ∃ z, z = f_X2_fault c_size c_statements c_signs c_starts p1 := ⟨_, rfl⟩
  have heq := hXX.trans (f_X2_fault.eq_def c_size c_statements c_signs c_starts p1)
  refine g_startI (lv := [(0, .ref a_), (1, .int p1)]) RX2 rfl rfl rfl (Nat.le_of_ble_eq_true rfl) rfl (fun p e s m args below meth c AA QQ hAA hQQ X hr hmn => ?_)
  refine g_aload_n X 0 rfl rfl dX2_fault_0 ?_
  refine g_callVi (C := RX2) (T := TX2) (N := 4) (ci := 2) (As := []) (st := []) (wr := ([] : va_W)) X (k_X2_placeOfForm l D cI kA kV a_ a_signs a_starts c_size c_statements c_signs c_starts) (cwV 0 X.2.2.2.2.1 gX2_fault_X2_placeOfForm rfl rfl rfl (by decide +kernel) ⟨Nat.le_of_ble_eq_true rfl, Nat.le_of_ble_eq_true rfl⟩) 0 rfl rfl [0, 1, 2] [] rfl rfl rfl rfl (by decide) rfl (Nat.le_of_ble_eq_true rfl) ⟨Nat.le_of_ble_eq_true rfl, Nat.le_of_ble_eq_true rfl⟩ dX2_fault_1 rfl (fun r1 u1 hw1 => ?_)
  refine g_eqs (ws' := [(a_, .inr (2, [.ref a_signs, .int c_size, .ref a_starts, .int u1.1])), (a_signs, .inl (cI, 96, .inl c_signs)), (a_starts, .inl (cI, 96, .inl u1.2))]) rfl ?_
  have heq := g_let2 heq hw1
  refine g_istore_n (lv' := [(2, .int r1), (0, .ref a_), (1, .int p1)]) X rfl (by decide) rfl dX2_fault_4 ?_
  refine g_iload_n X 0 rfl rfl dX2_fault_5 ?_
  refine g_if_lt X 15 dX2_fault_6 (by decide) (fun c6 => ?_) (fun c6 => ?_)
  · have heq := heq.trans (if_pos c6)
    refine g_aload_n X 1 rfl rfl dX2_fault_15 ?_
    refine g_iload_n X 2 rfl rfl dX2_fault_16 ?_
    refine g_callVi (C := RX2) (T := TX2) (N := 4) (ci := 2) (As := [.int p1]) (st := []) (wr := ([] : va_W)) X (k_X2_placeOfRange l D cI kA kV a_ a_signs a_starts c_size u1.1 c_signs u1.2 p1) (cwV 1 X.2.2.2.2.1 gX2_fault_X2_placeOfRange rfl rfl rfl (by decide +kernel) ⟨Nat.le_of_ble_eq_true rfl, Nat.le_of_ble_eq_true rfl⟩) 0 rfl rfl [0, 1, 2] [] rfl rfl rfl rfl (by decide) rfl (Nat.le_of_ble_eq_true rfl) ⟨Nat.le_of_ble_eq_true rfl, Nat.le_of_ble_eq_true rfl⟩ dX2_fault_17 rfl (fun r17 u17 hw17 => ?_)
    have heq := g_let heq hw17
    refine g_istore_n (lv' := [(2, .int r17), (0, .ref a_), (1, .int p1)]) X rfl (by decide) rfl dX2_fault_20 ?_
    refine g_iload_n X 0 rfl rfl dX2_fault_21 ?_
    refine g_if_lt X 33 dX2_fault_22 (by decide) (fun c22 => ?_) (fun c22 => ?_)
    · have heq := heq.trans (if_pos c22)
      refine g_iconst (v := 0) X (by decide) dX2_fault_33 ?_
      exact g_iret X hAA hQQ (u1.1, u1.2) (heq.symm.trans hXX) [0, 1, 2] rfl rfl hr dX2_fault_34
    · have heq := heq.trans (if_neg c22)
      refine g_sipush (v := (-2000)) X (by decide) dX2_fault_25 ?_
      refine g_iload_n X 0 rfl rfl dX2_fault_28 ?_
      refine g_isub X dX2_fault_29 ?_
      refine g_goto (tgt := 34) X (by decide) dX2_fault_30 ?_
      exact g_iret X hAA hQQ (u1.1, u1.2) (heq.symm.trans hXX) [0, 1, 2] rfl rfl hr dX2_fault_34
  · have heq := heq.trans (if_neg c6)
    refine g_sipush (v := (-1000)) X (by decide) dX2_fault_9 ?_
    refine g_iload_n X 0 rfl rfl dX2_fault_12 ?_
    refine g_isub X dX2_fault_13 ?_
    exact g_iret X hAA hQQ (u1.1, u1.2) (heq.symm.trans hXX) [0, 1, 2] rfl rfl hr dX2_fault_14

def f_X2_tellPlayer (c_size : Int32) (c_signs : Nat → Int32) (c_o_size : Int32) (c_o_facts : Nat → Int32) (p2 : Int32) : (Int32) × (Nat → Int32) :=
  g_lt2 (f_X3_add c_o_size) (fun r1 u1 => g_lt (f_X2_digit c_size c_signs (p2 + 1)) (fun r12 => g_lt (f_X3_change c_o_facts r1 (0 : Int32) r12) (fun u15 => g_lt (f_X2_sign c_size c_signs (p2 + 2)) (fun r25 => g_lt (f_X2_kind r25) (fun r28 => g_lt (f_X3_change u15 r1 (1 : Int32) r28) (fun u31 => g_lt (f_X2_digit c_size c_signs (p2 + 3)) (fun r41 => g_lt (f_X3_change u31 r1 (2 : Int32) r41) (fun u44 => g_lt (f_X2_digit c_size c_signs (p2 + 4)) (fun r54 => g_lt (f_X3_change u44 r1 (3 : Int32) r54) (fun u57 => g_lt (f_X2_digit c_size c_signs (p2 + 5)) (fun r67 => g_lt (f_X3_change u57 r1 (4 : Int32) r67) (fun u70 => (u1, u70)))))))))))))
set_option maxHeartbeats 4000000 in
set_option maxRecDepth 100000 in
theorem k_X2_tellPlayer (l : Launch) (D : va_G) (cI : ClassId) (kA kV : Nat → Nat) (a_ a_signs a_starts a_o a_o_facts : Nat) (c_size : Int32) (c_statements : Int32) (c_signs : Nat → Int32) (c_o_size : Int32) (c_o_facts : Nat → Int32) (p2 : Int32) :
    g_MV l D cI kA kV yX2_tellPlayer wsX2_tellPlayer { frames := 2, cells := 0, slots := 0, locals := 42 } [.ref a_, .ref a_o, .int p2] [(a_, .inr (2, [.ref a_signs, .int c_size, .ref a_starts, .int c_statements])), (a_signs, .inl (cI, 96, .inl c_signs)), (a_o, .inr (3, [.ref a_o_facts, .int c_o_size])), (a_o_facts, .inl (cI, 30, .inl c_o_facts))] (fun u : (Int32) × (Nat → Int32) => [(a_, .inr (2, [.ref a_signs, .int c_size, .ref a_starts, .int c_statements])), (a_signs, .inl (cI, 96, .inl c_signs)), (a_o, .inr (3, [.ref a_o_facts, .int u.1])), (a_o_facts, .inl (cI, 30, .inl u.2))]) (fun u : (Int32) × (Nat → Int32) => u = f_X2_tellPlayer c_size c_signs c_o_size c_o_facts p2) := by
  obtain ⟨XX, hXX⟩ : ∃ z, z = f_X2_tellPlayer c_size c_signs c_o_size c_o_facts p2 := ⟨_, rfl⟩
  have heq := hXX.trans (f_X2_tellPlayer.eq_def c_size c_signs c_o_size c_o_facts p2)
  refine g_startV (lv := [(0, .ref a_), (1, .ref a_o), (2, .int p2)]) RX2 rfl rfl rfl (Nat.le_of_ble_eq_true rfl) rfl (fun p e s m args below meth c AA QQ hAA hQQ X hr hmn => ?_)
  refine g_aload_n X 1 rfl rfl dX2_tellPlayer_0 ?_
  refine g_callVi (C := RX3) (T := TX3) (N := 2) (ci := 3) (As := []) (st := []) (wr := [(a_, .inr (2, [.ref a_signs, .int c_size, .ref a_starts, .int c_statements])), (a_signs, .inl (cI, 96, .inl c_signs)), (a_o_facts, .inl (cI, 30, .inl c_o_facts))]) X (k_X3_add l D cI kA kV a_o a_o_facts c_o_size) (cwV 0 X.2.2.2.2.1 gX2_tellPlayer_X3_add rfl rfl rfl (by decide +kernel) ⟨Nat.le_of_ble_eq_true rfl, Nat.le_of_ble_eq_true rfl⟩) 2 rfl rfl [2] [0, 1, 3] rfl rfl rfl rfl (by decide) rfl (Nat.le_of_ble_eq_true rfl) ⟨Nat.le_of_ble_eq_true rfl, Nat.le_of_ble_eq_true rfl⟩ dX2_tellPlayer_1 rfl (fun r1 u1 hw1 => ?_)
  refine g_eqs (ws' := [(a_, .inr (2, [.ref a_signs, .int c_size, .ref a_starts, .int c_statements])), (a_signs, .inl (cI, 96, .inl c_signs)), (a_o_facts, .inl (cI, 30, .inl c_o_facts)), (a_o, .inr (3, [.ref a_o_facts, .int u1]))]) rfl ?_
  have heq := g_let2 heq hw1
  refine g_istore_n (lv' := [(3, .int r1), (0, .ref a_), (1, .ref a_o), (2, .int p2)]) X rfl (by decide) rfl dX2_tellPlayer_4 ?_
  refine g_aload_n X 2 rfl rfl dX2_tellPlayer_5 ?_
  refine g_iload_n X 0 rfl rfl dX2_tellPlayer_6 ?_
  refine g_iconst (v := 0) X (by decide) dX2_tellPlayer_7 ?_
  refine g_aload_n X 1 rfl rfl dX2_tellPlayer_8 ?_
  refine g_iload_n X 3 rfl rfl dX2_tellPlayer_9 ?_
  refine g_iconst (v := 1) X (by decide) dX2_tellPlayer_10 ?_
  refine g_iadd X dX2_tellPlayer_11 ?_
  refine g_callVi (C := RX2) (T := TX2) (N := 4) (ci := 2) (As := [.int (p2 + 1)]) (st := [.int 0, .int r1, .ref a_o]) (wr := [(a_o_facts, .inl (cI, 30, .inl c_o_facts)), (a_o, .inr (3, [.ref a_o_facts, .int u1]))]) X (k_X2_digit l D cI kA kV a_ a_signs a_starts c_size c_statements c_signs (p2 + 1)) (cwV 1 X.2.2.2.2.1 gX2_tellPlayer_X2_digit rfl rfl rfl (by decide +kernel) ⟨Nat.le_of_ble_eq_true rfl, Nat.le_of_ble_eq_true rfl⟩) 0 rfl rfl [0, 1] [2, 3] rfl rfl rfl rfl (by decide) rfl (Nat.le_of_ble_eq_true rfl) ⟨Nat.le_of_ble_eq_true rfl, Nat.le_of_ble_eq_true rfl⟩ dX2_tellPlayer_12 rfl (fun r12 u12 hw12 => ?_)
  refine g_eqs (ws' := [(a_o_facts, .inl (cI, 30, .inl c_o_facts)), (a_o, .inr (3, [.ref a_o_facts, .int u1])), (a_, .inr (2, [.ref a_signs, .int c_size, .ref a_starts, .int c_statements])), (a_signs, .inl (cI, 96, .inl c_signs))]) rfl ?_
  have heq := g_let heq hw12
  refine g_callVv (C := RX3) (T := TX3) (N := 2) (ci := 3) (As := [.int r1, .int 0, .int r12]) (st := []) (wr := [(a_, .inr (2, [.ref a_signs, .int c_size, .ref a_starts, .int c_statements])), (a_signs, .inl (cI, 96, .inl c_signs))]) X (k_X3_change l D cI kA kV a_o a_o_facts u1 c_o_facts r1 0 r12) (cwV 3 X.2.2.2.2.1 gX2_tellPlayer_X3_change rfl rfl rfl (by decide +kernel) ⟨Nat.le_of_ble_eq_true rfl, Nat.le_of_ble_eq_true rfl⟩) 1 rfl rfl [1, 0] [2, 3] rfl rfl rfl rfl (by decide) rfl (Nat.le_of_ble_eq_true rfl) ⟨Nat.le_of_ble_eq_true rfl, Nat.le_of_ble_eq_true rfl⟩ dX2_tellPlayer_15 rfl (fun u15 hw15 => ?_)
  refine g_eqs (ws' := [(a_, .inr (2, [.ref a_signs, .int c_size, .ref a_starts, .int c_statements])), (a_signs, .inl (cI, 96, .inl c_signs)), (a_o, .inr (3, [.ref a_o_facts, .int u1])), (a_o_facts, .inl (cI, 30, .inl u15))]) rfl ?_
  have heq := g_let heq hw15
  refine g_aload_n X 2 rfl rfl dX2_tellPlayer_18 ?_
  refine g_iload_n X 0 rfl rfl dX2_tellPlayer_19 ?_
  refine g_iconst (v := 1) X (by decide) dX2_tellPlayer_20 ?_
  refine g_aload_n X 1 rfl rfl dX2_tellPlayer_21 ?_
  refine g_iload_n X 3 rfl rfl dX2_tellPlayer_22 ?_
  refine g_iconst (v := 2) X (by decide) dX2_tellPlayer_23 ?_
  refine g_iadd X dX2_tellPlayer_24 ?_
  refine g_callVi (C := RX2) (T := TX2) (N := 4) (ci := 2) (As := [.int (p2 + 2)]) (st := [.int 1, .int r1, .ref a_o]) (wr := [(a_o, .inr (3, [.ref a_o_facts, .int u1])), (a_o_facts, .inl (cI, 30, .inl u15))]) X (k_X2_sign l D cI kA kV a_ a_signs a_starts c_size c_statements c_signs (p2 + 2)) (cwV 1 X.2.2.2.2.1 gX2_tellPlayer_X2_sign rfl rfl rfl (by decide +kernel) ⟨Nat.le_of_ble_eq_true rfl, Nat.le_of_ble_eq_true rfl⟩) 0 rfl rfl [0, 1] [2, 3] rfl rfl rfl rfl (by decide) rfl (Nat.le_of_ble_eq_true rfl) ⟨Nat.le_of_ble_eq_true rfl, Nat.le_of_ble_eq_true rfl⟩ dX2_tellPlayer_25 rfl (fun r25 u25 hw25 => ?_)
  refine g_eqs (ws' := [(a_o, .inr (3, [.ref a_o_facts, .int u1])), (a_o_facts, .inl (cI, 30, .inl u15)), (a_, .inr (2, [.ref a_signs, .int c_size, .ref a_starts, .int c_statements])), (a_signs, .inl (cI, 96, .inl c_signs))]) rfl ?_
  have heq := g_let heq hw25
  refine g_callSi (As := [.int r25]) (st := [.int 1, .int r1, .ref a_o]) (wr := [(a_o, .inr (3, [.ref a_o_facts, .int u1])), (a_o_facts, .inl (cI, 30, .inl u15)), (a_, .inr (2, [.ref a_signs, .int c_size, .ref a_starts, .int c_statements])), (a_signs, .inl (cI, 96, .inl c_signs))]) X (k_X2_kind l D cI kA kV r25) (va_cwS 1 X.2.2.2.2.1 gX2_tellPlayer_X2_kind rfl rfl rfl (by decide +kernel) ⟨Nat.le_of_ble_eq_true rfl, Nat.le_of_ble_eq_true rfl⟩) [] [0, 1, 2, 3] rfl rfl rfl rfl (by decide) rfl (Nat.le_of_ble_eq_true rfl) ⟨Nat.le_of_ble_eq_true rfl, Nat.le_of_ble_eq_true rfl⟩ dX2_tellPlayer_28 rfl (fun r28 u28 hw28 => ?_)
  refine g_eqs (ws' := [(a_o, .inr (3, [.ref a_o_facts, .int u1])), (a_o_facts, .inl (cI, 30, .inl u15)), (a_, .inr (2, [.ref a_signs, .int c_size, .ref a_starts, .int c_statements])), (a_signs, .inl (cI, 96, .inl c_signs))]) rfl ?_
  have heq := g_let heq hw28
  refine g_callVv (C := RX3) (T := TX3) (N := 2) (ci := 3) (As := [.int r1, .int 1, .int r28]) (st := []) (wr := [(a_, .inr (2, [.ref a_signs, .int c_size, .ref a_starts, .int c_statements])), (a_signs, .inl (cI, 96, .inl c_signs))]) X (k_X3_change l D cI kA kV a_o a_o_facts u1 u15 r1 1 r28) (cwV 3 X.2.2.2.2.1 gX2_tellPlayer_X3_change rfl rfl rfl (by decide +kernel) ⟨Nat.le_of_ble_eq_true rfl, Nat.le_of_ble_eq_true rfl⟩) 0 rfl rfl [0, 1] [2, 3] rfl rfl rfl rfl (by decide) rfl (Nat.le_of_ble_eq_true rfl) ⟨Nat.le_of_ble_eq_true rfl, Nat.le_of_ble_eq_true rfl⟩ dX2_tellPlayer_31 rfl (fun u31 hw31 => ?_)
  refine g_eqs (ws' := [(a_, .inr (2, [.ref a_signs, .int c_size, .ref a_starts, .int c_statements])), (a_signs, .inl (cI, 96, .inl c_signs)), (a_o, .inr (3, [.ref a_o_facts, .int u1])), (a_o_facts, .inl (cI, 30, .inl u31))]) rfl ?_
  have heq := g_let heq hw31
  refine g_aload_n X 2 rfl rfl dX2_tellPlayer_34 ?_
  refine g_iload_n X 0 rfl rfl dX2_tellPlayer_35 ?_
  refine g_iconst (v := 2) X (by decide) dX2_tellPlayer_36 ?_
  refine g_aload_n X 1 rfl rfl dX2_tellPlayer_37 ?_
  refine g_iload_n X 3 rfl rfl dX2_tellPlayer_38 ?_
  refine g_iconst (v := 3) X (by decide) dX2_tellPlayer_39 ?_
  refine g_iadd X dX2_tellPlayer_40 ?_
  refine g_callVi (C := RX2) (T := TX2) (N := 4) (ci := 2) (As := [.int (p2 + 3)]) (st := [.int 2, .int r1, .ref a_o]) (wr := [(a_o, .inr (3, [.ref a_o_facts, .int u1])), (a_o_facts, .inl (cI, 30, .inl u31))]) X (k_X2_digit l D cI kA kV a_ a_signs a_starts c_size c_statements c_signs (p2 + 3)) (cwV 1 X.2.2.2.2.1 gX2_tellPlayer_X2_digit rfl rfl rfl (by decide +kernel) ⟨Nat.le_of_ble_eq_true rfl, Nat.le_of_ble_eq_true rfl⟩) 0 rfl rfl [0, 1] [2, 3] rfl rfl rfl rfl (by decide) rfl (Nat.le_of_ble_eq_true rfl) ⟨Nat.le_of_ble_eq_true rfl, Nat.le_of_ble_eq_true rfl⟩ dX2_tellPlayer_41 rfl (fun r41 u41 hw41 => ?_)
  refine g_eqs (ws' := [(a_o, .inr (3, [.ref a_o_facts, .int u1])), (a_o_facts, .inl (cI, 30, .inl u31)), (a_, .inr (2, [.ref a_signs, .int c_size, .ref a_starts, .int c_statements])), (a_signs, .inl (cI, 96, .inl c_signs))]) rfl ?_
  have heq := g_let heq hw41
  refine g_callVv (C := RX3) (T := TX3) (N := 2) (ci := 3) (As := [.int r1, .int 2, .int r41]) (st := []) (wr := [(a_, .inr (2, [.ref a_signs, .int c_size, .ref a_starts, .int c_statements])), (a_signs, .inl (cI, 96, .inl c_signs))]) X (k_X3_change l D cI kA kV a_o a_o_facts u1 u31 r1 2 r41) (cwV 3 X.2.2.2.2.1 gX2_tellPlayer_X3_change rfl rfl rfl (by decide +kernel) ⟨Nat.le_of_ble_eq_true rfl, Nat.le_of_ble_eq_true rfl⟩) 0 rfl rfl [0, 1] [2, 3] rfl rfl rfl rfl (by decide) rfl (Nat.le_of_ble_eq_true rfl) ⟨Nat.le_of_ble_eq_true rfl, Nat.le_of_ble_eq_true rfl⟩ dX2_tellPlayer_44 rfl (fun u44 hw44 => ?_)
  refine g_eqs (ws' := [(a_, .inr (2, [.ref a_signs, .int c_size, .ref a_starts, .int c_statements])), (a_signs, .inl (cI, 96, .inl c_signs)), (a_o, .inr (3, [.ref a_o_facts, .int u1])), (a_o_facts, .inl (cI, 30, .inl u44))]) rfl ?_
  have heq := g_let heq hw44
  refine g_aload_n X 2 rfl rfl dX2_tellPlayer_47 ?_
  refine g_iload_n X 0 rfl rfl dX2_tellPlayer_48 ?_
  refine g_iconst (v := 3) X (by decide) dX2_tellPlayer_49 ?_
  refine g_aload_n X 1 rfl rfl dX2_tellPlayer_50 ?_
  refine g_iload_n X 3 rfl rfl dX2_tellPlayer_51 ?_
  refine g_iconst (v := 4) X (by decide) dX2_tellPlayer_52 ?_
  refine g_iadd X dX2_tellPlayer_53 ?_
  refine g_callVi (C := RX2) (T := TX2) (N := 4) (ci := 2) (As := [.int (p2 + 4)]) (st := [.int 3, .int r1, .ref a_o]) (wr := [(a_o, .inr (3, [.ref a_o_facts, .int u1])), (a_o_facts, .inl (cI, 30, .inl u44))]) X (k_X2_digit l D cI kA kV a_ a_signs a_starts c_size c_statements c_signs (p2 + 4)) (cwV 1 X.2.2.2.2.1 gX2_tellPlayer_X2_digit rfl rfl rfl (by decide +kernel) ⟨Nat.le_of_ble_eq_true rfl, Nat.le_of_ble_eq_true rfl⟩) 0 rfl rfl [0, 1] [2, 3] rfl rfl rfl rfl (by decide) rfl (Nat.le_of_ble_eq_true rfl) ⟨Nat.le_of_ble_eq_true rfl, Nat.le_of_ble_eq_true rfl⟩ dX2_tellPlayer_54 rfl (fun r54 u54 hw54 => ?_)
  refine g_eqs (ws' := [(a_o, .inr (3, [.ref a_o_facts, .int u1])), (a_o_facts, .inl (cI, 30, .inl u44)), (a_, .inr (2, [.ref a_signs, .int c_size, .ref a_starts, .int c_statements])), (a_signs, .inl (cI, 96, .inl c_signs))]) rfl ?_
  have heq := g_let heq hw54
  refine g_callVv (C := RX3) (T := TX3) (N := 2) (ci := 3) (As := [.int r1, .int 3, .int r54]) (st := []) (wr := [(a_, .inr (2, [.ref a_signs, .int c_size, .ref a_starts, .int c_statements])), (a_signs, .inl (cI, 96, .inl c_signs))]) X (k_X3_change l D cI kA kV a_o a_o_facts u1 u44 r1 3 r54) (cwV 3 X.2.2.2.2.1 gX2_tellPlayer_X3_change rfl rfl rfl (by decide +kernel) ⟨Nat.le_of_ble_eq_true rfl, Nat.le_of_ble_eq_true rfl⟩) 0 rfl rfl [0, 1] [2, 3] rfl rfl rfl rfl (by decide) rfl (Nat.le_of_ble_eq_true rfl) ⟨Nat.le_of_ble_eq_true rfl, Nat.le_of_ble_eq_true rfl⟩ dX2_tellPlayer_57 rfl (fun u57 hw57 => ?_)
  refine g_eqs (ws' := [(a_, .inr (2, [.ref a_signs, .int c_size, .ref a_starts, .int c_statements])), (a_signs, .inl (cI, 96, .inl c_signs)), (a_o, .inr (3, [.ref a_o_facts, .int u1])), (a_o_facts, .inl (cI, 30, .inl u57))]) rfl ?_
  have heq := g_let heq hw57
  refine g_aload_n X 2 rfl rfl dX2_tellPlayer_60 ?_
  refine g_iload_n X 0 rfl rfl dX2_tellPlayer_61 ?_
  refine g_iconst (v := 4) X (by decide) dX2_tellPlayer_62 ?_
  refine g_aload_n X 1 rfl rfl dX2_tellPlayer_63 ?_
  refine g_iload_n X 3 rfl rfl dX2_tellPlayer_64 ?_
  refine g_iconst (v := 5) X (by decide) dX2_tellPlayer_65 ?_
  refine g_iadd X dX2_tellPlayer_66 ?_
  refine g_callVi (C := RX2) (T := TX2) (N := 4) (ci := 2) (As := [.int (p2 + 5)]) (st := [.int 4, .int r1, .ref a_o]) (wr := [(a_o, .inr (3, [.ref a_o_facts, .int u1])), (a_o_facts, .inl (cI, 30, .inl u57))]) X (k_X2_digit l D cI kA kV a_ a_signs a_starts c_size c_statements c_signs (p2 + 5)) (cwV 1 X.2.2.2.2.1 gX2_tellPlayer_X2_digit rfl rfl rfl (by decide +kernel) ⟨Nat.le_of_ble_eq_true rfl, Nat.le_of_ble_eq_true rfl⟩) 0 rfl rfl [0, 1] [2, 3] rfl rfl rfl rfl (by decide) rfl (Nat.le_of_ble_eq_true rfl) ⟨Nat.le_of_ble_eq_true rfl, Nat.le_of_ble_eq_true rfl⟩ dX2_tellPlayer_67 rfl (fun r67 u67 hw67 => ?_)
  refine g_eqs (ws' := [(a_o, .inr (3, [.ref a_o_facts, .int u1])), (a_o_facts, .inl (cI, 30, .inl u57)), (a_, .inr (2, [.ref a_signs, .int c_size, .ref a_starts, .int c_statements])), (a_signs, .inl (cI, 96, .inl c_signs))]) rfl ?_
  have heq := g_let heq hw67
  refine g_callVv (C := RX3) (T := TX3) (N := 2) (ci := 3) (As := [.int r1, .int 4, .int r67]) (st := []) (wr := [(a_, .inr (2, [.ref a_signs, .int c_size, .ref a_starts, .int c_statements])), (a_signs, .inl (cI, 96, .inl c_signs))]) X (k_X3_change l D cI kA kV a_o a_o_facts u1 u57 r1 4 r67) (cwV 3 X.2.2.2.2.1 gX2_tellPlayer_X3_change rfl rfl rfl (by decide +kernel) ⟨Nat.le_of_ble_eq_true rfl, Nat.le_of_ble_eq_true rfl⟩) 0 rfl rfl [0, 1] [2, 3] rfl rfl rfl rfl (by decide) rfl (Nat.le_of_ble_eq_true rfl) ⟨Nat.le_of_ble_eq_true rfl, Nat.le_of_ble_eq_true rfl⟩ dX2_tellPlayer_70 rfl (fun u70 hw70 => ?_)
  refine g_eqs (ws' := [(a_, .inr (2, [.ref a_signs, .int c_size, .ref a_starts, .int c_statements])), (a_signs, .inl (cI, 96, .inl c_signs)), (a_o, .inr (3, [.ref a_o_facts, .int u1])), (a_o_facts, .inl (cI, 30, .inl u70))]) rfl ?_
  have heq := g_let heq hw70
  exact g_vret X hAA hQQ (u1, u70) (heq.symm.trans hXX) [0, 1, 2, 3] rfl rfl hr dX2_tellPlayer_73

theorem hi_X2_tellAll_X2 : ∀ w ∈ wsX20, w ∈ wsX2_tellAll := fun w h => List.mem_cons_of_mem _ (List.mem_append_left _ (List.mem_append_left _ (List.mem_append_right _ (h))))
theorem hi_X2_tellAll_X0 : ∀ w ∈ wsX00, w ∈ wsX2_tellAll := fun w h => List.mem_cons_of_mem _ (List.mem_append_left _ (List.mem_append_right _ (h)))
def L_X2_tellAll_2 (c_size : Int32) (c_statements : Int32) (c_signs : Nat → Int32) (c_starts : Nat → Int32) (K : (Int32) → (Nat → Int32) → (Int32) → (Nat → Int32) → Int32 × (Nat → Int32) × (Int32) × (Nat → Int32)) : Nat → (Int32) → (Nat → Int32) → (Int32) → (Nat → Int32) → Int32 × (Nat → Int32) × (Int32) × (Nat → Int32)
  | 0, v2_2, c_o_told_2, c_o_squad_size_2, c_o_squad_facts_2 => K v2_2 c_o_told_2 c_o_squad_size_2 c_o_squad_facts_2
  | n + 1, v2_2, c_o_told_2, c_o_squad_size_2, c_o_squad_facts_2 => (if c_statements ≤ v2_2 then K v2_2 c_o_told_2 c_o_squad_size_2 c_o_squad_facts_2 else (if 96 ≤ v2_2 then K v2_2 c_o_told_2 c_o_squad_size_2 c_o_squad_facts_2 else g_lt (f_X2_sign c_size c_signs (c_starts v2_2.toNatClampNeg)) (fun r26 => (if r26 = 112 then g_lt (f_X2_tellPlayer c_size c_signs c_o_squad_size_2 c_o_squad_facts_2 (c_starts v2_2.toNatClampNeg)) (fun u45 => L_X2_tellAll_2 c_size c_statements c_signs c_starts K n (v2_2 + 1) c_o_told_2 u45.1 u45.2) else g_lt (f_X2_target c_size c_signs (c_starts v2_2.toNatClampNeg)) (fun r59 => g_lt (f_X2_number c_size c_signs (c_starts v2_2.toNatClampNeg)) (fun r69 => g_lt (f_X0_tell c_o_told_2 r59 r69) (fun u72 => L_X2_tellAll_2 c_size c_statements c_signs c_starts K n (v2_2 + 1) u72 c_o_squad_size_2 c_o_squad_facts_2)))))))
def f_X2_tellAll (c_size : Int32) (c_statements : Int32) (c_signs : Nat → Int32) (c_starts : Nat → Int32) (c_o_told : Nat → Int32) (c_o_squad_size : Int32) (c_o_squad_facts : Nat → Int32) : Int32 × (Nat → Int32) × (Int32) × (Nat → Int32) :=
  L_X2_tellAll_2 c_size c_statements c_signs c_starts (fun v2_2 c_o_told_2 c_o_squad_size_2 c_o_squad_facts_2 => (c_statements, c_o_told_2, c_o_squad_size_2, c_o_squad_facts_2)) (((c_statements : Int32).toInt - (0 : Int32).toInt).toNat + 1) 0 c_o_told c_o_squad_size c_o_squad_facts
set_option maxHeartbeats 4000000 in
set_option maxRecDepth 100000 in
theorem k_X2_tellAll (l : Launch) (D : va_G) (cI : ClassId) (kA kV : Nat → Nat) (a_ a_signs a_starts a_o a_o_told a_o_squad a_o_squad_facts : Nat) (c_size : Int32) (c_statements : Int32) (c_signs : Nat → Int32) (c_starts : Nat → Int32) (c_o_told : Nat → Int32) (c_o_squad_size : Int32) (c_o_squad_facts : Nat → Int32) :
    g_MI l D cI kA kV yX2_tellAll wsX2_tellAll { frames := 3, cells := 0, slots := 0, locals := 65 } [.ref a_, .ref a_o] [(a_, .inr (2, [.ref a_signs, .int c_size, .ref a_starts, .int c_statements])), (a_signs, .inl (cI, 96, .inl c_signs)), (a_starts, .inl (cI, 96, .inl c_starts)), (a_o, .inr (0, [.ref a_o_told, .ref a_o_squad])), (a_o_told, .inl (cI, 10, .inl c_o_told)), (a_o_squad, .inr (3, [.ref a_o_squad_facts, .int c_o_squad_size])), (a_o_squad_facts, .inl (cI, 30, .inl c_o_squad_facts))] (fun u : (Nat → Int32) × (Int32) × (Nat → Int32) => [(a_, .inr (2, [.ref a_signs, .int c_size, .ref a_starts, .int c_statements])), (a_signs, .inl (cI, 96, .inl c_signs)), (a_starts, .inl (cI, 96, .inl c_starts)), (a_o, .inr (0, [.ref a_o_told, .ref a_o_squad])), (a_o_told, .inl (cI, 10, .inl u.1)), (a_o_squad, .inr (3, [.ref a_o_squad_facts, .int u.2.1])), (a_o_squad_facts, .inl (cI, 30, .inl u.2.2))]) (fun (r : Int32) (u : (Nat → Int32) × (Int32) × (Nat → Int32)) => (r, u) = f_X2_tellAll c_size c_statements c_signs c_starts c_o_told c_o_squad_size c_o_squad_facts) := by
  obtain ⟨XX, hXX⟩ : ∃ z, z = f_X2_tellAll c_size c_statements c_signs c_starts c_o_told c_o_squad_size c_o_squad_facts := ⟨_, rfl⟩
  have heq := hXX.trans (f_X2_tellAll.eq_def c_size c_statements c_signs c_starts c_o_told c_o_squad_size c_o_squad_facts)
  refine g_startI (lv := [(0, .ref a_), (1, .ref a_o)]) RX2 rfl rfl rfl (Nat.le_of_ble_eq_true rfl) rfl (fun p e s m args below meth c AA QQ hAA hQQ X hr hmn => ?_)
  refine g_iconst (v := 0) X (by decide) dX2_tellAll_0 ?_
  refine g_istore_n (lv' := [(2, .int 0), (0, .ref a_), (1, .ref a_o)]) X rfl (by decide) rfl dX2_tellAll_1 ?_
  have lp2 : ∀ (K : (Int32) → (Nat → Int32) → (Int32) → (Nat → Int32) → Int32 × (Nat → Int32) × (Int32) × (Nat → Int32)), (∀ (v2_2 : Int32) (c_o_told_2 : Nat → Int32) (c_o_squad_size_2 : Int32) (c_o_squad_facts_2 : Nat → Int32), XX = K v2_2 c_o_told_2 c_o_squad_size_2 c_o_squad_facts_2 → GG p l e { frames := 3, cells := 0, slots := 0, locals := 65 } s m args below meth c D AA 0 0 QQ 3 [(a_, .inr (2, [.ref a_signs, .int c_size, .ref a_starts, .int c_statements])), (a_signs, .inl (cI, 96, .inl c_signs)), (a_starts, .inl (cI, 96, .inl c_starts)), (a_o, .inr (0, [.ref a_o_told, .ref a_o_squad])), (a_o_told, .inl (cI, 10, .inl c_o_told_2)), (a_o_squad, .inr (3, [.ref a_o_squad_facts, .int c_o_squad_size_2])), (a_o_squad_facts, .inl (cI, 30, .inl c_o_squad_facts_2))] [(2, .int v2_2), (0, .ref a_), (1, .ref a_o)] 81 []) → ∀ (n : Nat) (v2_2 : Int32) (c_o_told_2 : Nat → Int32) (c_o_squad_size_2 : Int32) (c_o_squad_facts_2 : Nat → Int32), ((c_statements : Int32).toInt - (v2_2 : Int32).toInt).toNat < n → 0 ≤ v2_2 → XX = L_X2_tellAll_2 c_size c_statements c_signs c_starts K n v2_2 c_o_told_2 c_o_squad_size_2 c_o_squad_facts_2 → GG p l e { frames := 3, cells := 0, slots := 0, locals := 65 } s m args below meth c D AA 0 0 QQ 3 [(a_, .inr (2, [.ref a_signs, .int c_size, .ref a_starts, .int c_statements])), (a_signs, .inl (cI, 96, .inl c_signs)), (a_starts, .inl (cI, 96, .inl c_starts)), (a_o, .inr (0, [.ref a_o_told, .ref a_o_squad])), (a_o_told, .inl (cI, 10, .inl c_o_told_2)), (a_o_squad, .inr (3, [.ref a_o_squad_facts, .int c_o_squad_size_2])), (a_o_squad_facts, .inl (cI, 30, .inl c_o_squad_facts_2))] [(2, .int v2_2), (0, .ref a_), (1, .ref a_o)] 2 [] := by
    intro K hK n
    induction n with
    | zero => intro v2_2 c_o_told_2 c_o_squad_size_2 c_o_squad_facts_2 hm2; exact absurd hm2 (Nat.not_lt_zero _)
    | succ n ih2 =>
      intro v2_2 c_o_told_2 c_o_squad_size_2 c_o_squad_facts_2 hm2 hv2_0 heq
      have heq := heq.trans (L_X2_tellAll_2.eq_2 _ _ _ _ _ _ _ _ _ _ )
      refine g_iload_n X 0 rfl rfl dX2_tellAll_2 ?_
      refine g_aload_n X 1 rfl rfl dX2_tellAll_3 ?_
      refine g_get (C := RX2) (T := TX2) (N := 4) (ci := 2) X hi_X2_tellAll_X2 0 rfl rfl 3 (by decide) (X.2.2.2.2.1 (.fieldLink RX2 22 "NineteenSecondsLeft$Letters" "statements" "I") (List.mem_of_getElem? (i := 1) rfl)) rfl rfl dX2_tellAll_4 ?_
      refine g_icmp_ge X 81 dX2_tellAll_7 (by decide) (fun c7 => ?_) (fun c7 => ?_)
      · have heq := heq.trans (if_pos c7)
        exact hK v2_2 c_o_told_2 c_o_squad_size_2 c_o_squad_facts_2 heq
      · have heq := heq.trans (if_neg c7)
        refine g_iload_n X 0 rfl rfl dX2_tellAll_10 ?_
        refine g_aload_n X 1 rfl rfl dX2_tellAll_11 ?_
        refine g_get (C := RX2) (T := TX2) (N := 4) (ci := 2) X hi_X2_tellAll_X2 0 rfl rfl 2 (by decide) (X.2.2.2.2.1 (.fieldLink RX2 19 "NineteenSecondsLeft$Letters" "starts" "[I") (List.mem_of_getElem? (i := 2) rfl)) rfl rfl dX2_tellAll_12 ?_
        refine g_alen (v := 96) X 2 rfl rfl dX2_tellAll_15 ?_
        refine g_icmp_ge X 81 dX2_tellAll_16 (by decide) (fun c16 => ?_) (fun c16 => ?_)
        · have heq := heq.trans (if_pos c16)
          exact hK v2_2 c_o_told_2 c_o_squad_size_2 c_o_squad_facts_2 heq
        · have heq := heq.trans (if_neg c16)
          refine g_aload_n X 1 rfl rfl dX2_tellAll_19 ?_
          refine g_aload_n X 1 rfl rfl dX2_tellAll_20 ?_
          refine g_get (C := RX2) (T := TX2) (N := 4) (ci := 2) X hi_X2_tellAll_X2 0 rfl rfl 2 (by decide) (X.2.2.2.2.1 (.fieldLink RX2 19 "NineteenSecondsLeft$Letters" "starts" "[I") (List.mem_of_getElem? (i := 2) rfl)) rfl rfl dX2_tellAll_21 ?_
          refine g_iload_n X 0 rfl rfl dX2_tellAll_24 ?_
          refine g_iald X 2 rfl (g_vin (by decide) hv2_0 (g_nn c16)) dX2_tellAll_25 ?_
          refine g_callVi (C := RX2) (T := TX2) (N := 4) (ci := 2) (As := [.int (c_starts v2_2.toNatClampNeg)]) (st := []) (wr := [(a_starts, .inl (cI, 96, .inl c_starts)), (a_o, .inr (0, [.ref a_o_told, .ref a_o_squad])), (a_o_told, .inl (cI, 10, .inl c_o_told_2)), (a_o_squad, .inr (3, [.ref a_o_squad_facts, .int c_o_squad_size_2])), (a_o_squad_facts, .inl (cI, 30, .inl c_o_squad_facts_2))]) X (k_X2_sign l D cI kA kV a_ a_signs a_starts c_size c_statements c_signs (c_starts v2_2.toNatClampNeg)) (cwV 1 X.2.2.2.2.1 gX2_tellAll_X2_sign rfl rfl rfl (by decide +kernel) ⟨Nat.le_of_ble_eq_true rfl, Nat.le_of_ble_eq_true rfl⟩) 0 rfl rfl [0, 1] [2, 3, 4, 5, 6] rfl rfl rfl rfl (by decide) rfl (Nat.le_of_ble_eq_true rfl) ⟨Nat.le_of_ble_eq_true rfl, Nat.le_of_ble_eq_true rfl⟩ dX2_tellAll_26 rfl (fun r26 u26 hw26 => ?_)
          refine g_eqs (ws' := [(a_starts, .inl (cI, 96, .inl c_starts)), (a_o, .inr (0, [.ref a_o_told, .ref a_o_squad])), (a_o_told, .inl (cI, 10, .inl c_o_told_2)), (a_o_squad, .inr (3, [.ref a_o_squad_facts, .int c_o_squad_size_2])), (a_o_squad_facts, .inl (cI, 30, .inl c_o_squad_facts_2)), (a_, .inr (2, [.ref a_signs, .int c_size, .ref a_starts, .int c_statements])), (a_signs, .inl (cI, 96, .inl c_signs))]) rfl ?_
          have heq := g_let heq hw26
          refine g_bipush (v := 112) X (by decide) dX2_tellAll_29 ?_
          refine g_icmp_ne X 51 dX2_tellAll_31 (by decide) (fun c31 => ?_) (fun c31 => ?_)
          · have heq := heq.trans (if_neg c31)
            refine g_aload_n X 2 rfl rfl dX2_tellAll_51 ?_
            refine g_aload_n X 1 rfl rfl dX2_tellAll_52 ?_
            refine g_aload_n X 1 rfl rfl dX2_tellAll_53 ?_
            refine g_get (C := RX2) (T := TX2) (N := 4) (ci := 2) X hi_X2_tellAll_X2 5 rfl rfl 2 (by decide) (X.2.2.2.2.1 (.fieldLink RX2 19 "NineteenSecondsLeft$Letters" "starts" "[I") (List.mem_of_getElem? (i := 2) rfl)) rfl rfl dX2_tellAll_54 ?_
            refine g_iload_n X 0 rfl rfl dX2_tellAll_57 ?_
            refine g_iald X 0 rfl (g_vin (by decide) hv2_0 (g_nn c16)) dX2_tellAll_58 ?_
            refine g_callVi (C := RX2) (T := TX2) (N := 4) (ci := 2) (As := [.int (c_starts v2_2.toNatClampNeg)]) (st := [.ref a_o]) (wr := [(a_starts, .inl (cI, 96, .inl c_starts)), (a_o, .inr (0, [.ref a_o_told, .ref a_o_squad])), (a_o_told, .inl (cI, 10, .inl c_o_told_2)), (a_o_squad, .inr (3, [.ref a_o_squad_facts, .int c_o_squad_size_2])), (a_o_squad_facts, .inl (cI, 30, .inl c_o_squad_facts_2))]) X (k_X2_target l D cI kA kV a_ a_signs a_starts c_size c_statements c_signs (c_starts v2_2.toNatClampNeg)) (cwV 1 X.2.2.2.2.1 gX2_tellAll_X2_target rfl rfl rfl (by decide +kernel) ⟨Nat.le_of_ble_eq_true rfl, Nat.le_of_ble_eq_true rfl⟩) 5 rfl rfl [5, 6] [0, 1, 2, 3, 4] rfl rfl rfl rfl (by decide) rfl (Nat.le_of_ble_eq_true rfl) ⟨Nat.le_of_ble_eq_true rfl, Nat.le_of_ble_eq_true rfl⟩ dX2_tellAll_59 rfl (fun r59 u59 hw59 => ?_)
            refine g_eqs (ws' := [(a_starts, .inl (cI, 96, .inl c_starts)), (a_o, .inr (0, [.ref a_o_told, .ref a_o_squad])), (a_o_told, .inl (cI, 10, .inl c_o_told_2)), (a_o_squad, .inr (3, [.ref a_o_squad_facts, .int c_o_squad_size_2])), (a_o_squad_facts, .inl (cI, 30, .inl c_o_squad_facts_2)), (a_, .inr (2, [.ref a_signs, .int c_size, .ref a_starts, .int c_statements])), (a_signs, .inl (cI, 96, .inl c_signs))]) rfl ?_
            have heq := g_let heq hw59
            refine g_aload_n X 1 rfl rfl dX2_tellAll_62 ?_
            refine g_aload_n X 1 rfl rfl dX2_tellAll_63 ?_
            refine g_get (C := RX2) (T := TX2) (N := 4) (ci := 2) X hi_X2_tellAll_X2 5 rfl rfl 2 (by decide) (X.2.2.2.2.1 (.fieldLink RX2 19 "NineteenSecondsLeft$Letters" "starts" "[I") (List.mem_of_getElem? (i := 2) rfl)) rfl rfl dX2_tellAll_64 ?_
            refine g_iload_n X 0 rfl rfl dX2_tellAll_67 ?_
            refine g_iald X 0 rfl (g_vin (by decide) hv2_0 (g_nn c16)) dX2_tellAll_68 ?_
            refine g_callVi (C := RX2) (T := TX2) (N := 4) (ci := 2) (As := [.int (c_starts v2_2.toNatClampNeg)]) (st := [.int r59, .ref a_o]) (wr := [(a_starts, .inl (cI, 96, .inl c_starts)), (a_o, .inr (0, [.ref a_o_told, .ref a_o_squad])), (a_o_told, .inl (cI, 10, .inl c_o_told_2)), (a_o_squad, .inr (3, [.ref a_o_squad_facts, .int c_o_squad_size_2])), (a_o_squad_facts, .inl (cI, 30, .inl c_o_squad_facts_2))]) X (k_X2_number l D cI kA kV a_ a_signs a_starts c_size c_statements c_signs (c_starts v2_2.toNatClampNeg)) (cwV 1 X.2.2.2.2.1 gX2_tellAll_X2_number rfl rfl rfl (by decide +kernel) ⟨Nat.le_of_ble_eq_true rfl, Nat.le_of_ble_eq_true rfl⟩) 5 rfl rfl [5, 6] [0, 1, 2, 3, 4] rfl rfl rfl rfl (by decide) rfl (Nat.le_of_ble_eq_true rfl) ⟨Nat.le_of_ble_eq_true rfl, Nat.le_of_ble_eq_true rfl⟩ dX2_tellAll_69 rfl (fun r69 u69 hw69 => ?_)
            refine g_eqs (ws' := [(a_starts, .inl (cI, 96, .inl c_starts)), (a_o, .inr (0, [.ref a_o_told, .ref a_o_squad])), (a_o_told, .inl (cI, 10, .inl c_o_told_2)), (a_o_squad, .inr (3, [.ref a_o_squad_facts, .int c_o_squad_size_2])), (a_o_squad_facts, .inl (cI, 30, .inl c_o_squad_facts_2)), (a_, .inr (2, [.ref a_signs, .int c_size, .ref a_starts, .int c_statements])), (a_signs, .inl (cI, 96, .inl c_signs))]) rfl ?_
            have heq := g_let heq hw69
            refine g_callVv (C := RX0) (T := TX0) (N := 2) (ci := 0) (As := [.int r59, .int r69]) (st := []) (wr := [(a_starts, .inl (cI, 96, .inl c_starts)), (a_o_squad, .inr (3, [.ref a_o_squad_facts, .int c_o_squad_size_2])), (a_o_squad_facts, .inl (cI, 30, .inl c_o_squad_facts_2)), (a_, .inr (2, [.ref a_signs, .int c_size, .ref a_starts, .int c_statements])), (a_signs, .inl (cI, 96, .inl c_signs))]) X (k_X0_tell l D cI kA kV a_o a_o_told a_o_squad c_o_told_2 r59 r69) (cwV 2 X.2.2.2.2.1 gX2_tellAll_X0_tell rfl rfl rfl (by decide +kernel) ⟨Nat.le_of_ble_eq_true rfl, Nat.le_of_ble_eq_true rfl⟩) 1 rfl rfl [1, 2] [0, 3, 4, 5, 6] rfl rfl rfl rfl (by decide) rfl (Nat.le_of_ble_eq_true rfl) ⟨Nat.le_of_ble_eq_true rfl, Nat.le_of_ble_eq_true rfl⟩ dX2_tellAll_72 rfl (fun u72 hw72 => ?_)
            refine g_eqs (ws' := [(a_starts, .inl (cI, 96, .inl c_starts)), (a_o_squad, .inr (3, [.ref a_o_squad_facts, .int c_o_squad_size_2])), (a_o_squad_facts, .inl (cI, 30, .inl c_o_squad_facts_2)), (a_, .inr (2, [.ref a_signs, .int c_size, .ref a_starts, .int c_statements])), (a_signs, .inl (cI, 96, .inl c_signs)), (a_o, .inr (0, [.ref a_o_told, .ref a_o_squad])), (a_o_told, .inl (cI, 10, .inl u72))]) rfl ?_
            have heq := g_let heq hw72
            refine g_iinc (v := v2_2 + 1) (lv' := [(2, .int (v2_2 + 1)), (0, .ref a_), (1, .ref a_o)]) X 0 rfl rfl (by decide) rfl dX2_tellAll_75 ?_
            refine g_goto (tgt := 2) X (by decide) dX2_tellAll_78 ?_
            refine g_wsub (ws' := [(a_, .inr (2, [.ref a_signs, .int c_size, .ref a_starts, .int c_statements])), (a_signs, .inl (cI, 96, .inl c_signs)), (a_starts, .inl (cI, 96, .inl c_starts)), (a_o, .inr (0, [.ref a_o_told, .ref a_o_squad])), (a_o_told, .inl (cI, 10, .inl u72)), (a_o_squad, .inr (3, [.ref a_o_squad_facts, .int c_o_squad_size_2])), (a_o_squad_facts, .inl (cI, 30, .inl c_o_squad_facts_2))]) [3, 4, 0, 5, 6, 1, 2] rfl rfl ?_
            exact ih2 (v2_2 + 1) u72 c_o_squad_size_2 c_o_squad_facts_2 (g_upm c7 hm2) (g_up0 hv2_0 c7) heq
          · have heq := heq.trans (if_pos c31)
            refine g_aload_n X 1 rfl rfl dX2_tellAll_34 ?_
            refine g_aload_n X 2 rfl rfl dX2_tellAll_35 ?_
            refine g_getN (host := "NineteenSecondsLeft") (C := RX0) (T := TX0) (N := 2) (ci := 0) X hi_X2_tellAll_X0 1 rfl rfl 1 (by decide) (va_Nw.use rfl ((g_nl X).2 (RX2, 36, "NineteenSecondsLeft$Hall", "squad", "LNineteenSecondsLeft$Squad;") (List.mem_of_getElem? (i := 2) rfl))) rfl rfl dX2_tellAll_36 ?_
            refine g_aload_n X 1 rfl rfl dX2_tellAll_39 ?_
            refine g_get (C := RX2) (T := TX2) (N := 4) (ci := 2) X hi_X2_tellAll_X2 5 rfl rfl 2 (by decide) (X.2.2.2.2.1 (.fieldLink RX2 19 "NineteenSecondsLeft$Letters" "starts" "[I") (List.mem_of_getElem? (i := 2) rfl)) rfl rfl dX2_tellAll_40 ?_
            refine g_iload_n X 0 rfl rfl dX2_tellAll_43 ?_
            refine g_iald X 0 rfl (g_vin (by decide) hv2_0 (g_nn c16)) dX2_tellAll_44 ?_
            refine g_callVv (C := RX2) (T := TX2) (N := 4) (ci := 2) (As := [.ref a_o_squad, .int (c_starts v2_2.toNatClampNeg)]) (st := []) (wr := [(a_starts, .inl (cI, 96, .inl c_starts)), (a_o, .inr (0, [.ref a_o_told, .ref a_o_squad])), (a_o_told, .inl (cI, 10, .inl c_o_told_2))]) X (k_X2_tellPlayer l D cI kA kV a_ a_signs a_starts a_o_squad a_o_squad_facts c_size c_statements c_signs c_o_squad_size_2 c_o_squad_facts_2 (c_starts v2_2.toNatClampNeg)) (cwV 2 X.2.2.2.2.1 gX2_tellAll_X2_tellPlayer rfl rfl rfl (by decide +kernel) ⟨Nat.le_of_ble_eq_true rfl, Nat.le_of_ble_eq_true rfl⟩) 5 rfl rfl [5, 6, 3, 4] [0, 1, 2] rfl rfl rfl rfl (by decide) rfl (Nat.le_of_ble_eq_true rfl) ⟨Nat.le_of_ble_eq_true rfl, Nat.le_of_ble_eq_true rfl⟩ dX2_tellAll_45 rfl (fun u45 hw45 => ?_)
            refine g_eqs (ws' := [(a_starts, .inl (cI, 96, .inl c_starts)), (a_o, .inr (0, [.ref a_o_told, .ref a_o_squad])), (a_o_told, .inl (cI, 10, .inl c_o_told_2)), (a_, .inr (2, [.ref a_signs, .int c_size, .ref a_starts, .int c_statements])), (a_signs, .inl (cI, 96, .inl c_signs)), (a_o_squad, .inr (3, [.ref a_o_squad_facts, .int u45.1])), (a_o_squad_facts, .inl (cI, 30, .inl u45.2))]) rfl ?_
            have heq := g_let heq hw45
            refine g_goto (tgt := 75) X (by decide) dX2_tellAll_48 ?_
            refine g_iinc (v := v2_2 + 1) (lv' := [(2, .int (v2_2 + 1)), (0, .ref a_), (1, .ref a_o)]) X 0 rfl rfl (by decide) rfl dX2_tellAll_75 ?_
            refine g_goto (tgt := 2) X (by decide) dX2_tellAll_78 ?_
            refine g_wsub (ws' := [(a_, .inr (2, [.ref a_signs, .int c_size, .ref a_starts, .int c_statements])), (a_signs, .inl (cI, 96, .inl c_signs)), (a_starts, .inl (cI, 96, .inl c_starts)), (a_o, .inr (0, [.ref a_o_told, .ref a_o_squad])), (a_o_told, .inl (cI, 10, .inl c_o_told_2)), (a_o_squad, .inr (3, [.ref a_o_squad_facts, .int u45.1])), (a_o_squad_facts, .inl (cI, 30, .inl u45.2))]) [3, 4, 0, 1, 2, 5, 6] rfl rfl ?_
            exact ih2 (v2_2 + 1) c_o_told_2 u45.1 u45.2 (g_upm c7 hm2) (g_up0 hv2_0 c7) heq
  refine lp2 _ (fun v2_2 c_o_told_2 c_o_squad_size_2 c_o_squad_facts_2 heq => ?_) _ 0 c_o_told c_o_squad_size c_o_squad_facts (Nat.lt_succ_self _) (by decide) heq
  refine g_aload_n X 1 rfl rfl dX2_tellAll_81 ?_
  refine g_get (C := RX2) (T := TX2) (N := 4) (ci := 2) X hi_X2_tellAll_X2 0 rfl rfl 3 (by decide) (X.2.2.2.2.1 (.fieldLink RX2 22 "NineteenSecondsLeft$Letters" "statements" "I") (List.mem_of_getElem? (i := 1) rfl)) rfl rfl dX2_tellAll_82 ?_
  exact g_iret X hAA hQQ (c_o_told_2, c_o_squad_size_2, c_o_squad_facts_2) (heq.symm.trans hXX) [0, 1, 2, 3, 4, 5, 6] rfl rfl hr dX2_tellAll_85
