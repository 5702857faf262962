theorem hi_X3_init_X3 : ∀ w ∈ wsX30, w ∈ wsX3_init := fun w h => List.mem_cons_of_mem _ (List.mem_append_right _ (h))
set_option maxHeartbeats 4000000 in
set_option maxRecDepth 100000 in
theorem k_X3_init (l : Launch) (D : va_G) (cI : ClassId) (kA kV : Nat → Nat) (a_ : Nat) :
    g_MV l D cI kA kV yX3_init wsX3_init { frames := 1, cells := 1, slots := 30, locals := 12 } [.ref a_] [(a_, .inr (3, [.null, .int 0]))] (fun u : Nat => [(a_, .inr (3, [.ref u, .int 0])), (u, .inl (cI, 30, .inl (fun _ => 0)))]) (fun _ => True) := by
  refine g_startV (lv := [(0, .ref a_)]) RX3 rfl rfl rfl (Nat.le_of_ble_eq_true rfl) rfl (fun p e s m args below meth c AA QQ hAA hQQ X hr hmn => ?_)
  refine g_aload_n X 0 rfl rfl dX3_init_0 ?_
  refine g_obj X (X.2.2.2.2.1 (.methodLink RX3 3 objectInit) (List.mem_of_getElem? (i := 1) rfl)) (X.2.2.2.2.1 (.instanceMethod objectInit) (List.mem_of_getElem? (i := 2) rfl)) (X.2.2.2.2.1 (.code objectInit ⟨#[0xb1]⟩ 1 none) (List.mem_of_getElem? (i := 3) rfl)) dX3_init_1 (Nat.le_of_ble_eq_true rfl) (Nat.le_of_ble_eq_true rfl) ?_
  refine g_aload_n X 0 rfl rfl dX3_init_4 ?_
  refine g_bipush (v := 30) X (by decide) dX3_init_5 ?_
  refine g_newarr X 30 (X.2.2.2.2.1 (.arrayClass .int) (List.mem_of_getElem? (i := 4) rfl)) (by decide) (by decide) (Nat.le_of_ble_eq_true rfl) (Nat.le_of_ble_eq_true rfl) (Nat.le_of_ble_eq_true rfl) dX3_init_7 (fun q7 => ?_)
  refine g_eqs (ws' := [(a_, .inr (3, [.null, .int 0])), (q7, .inl (cI, 30, .inl (fun _ => 0)))]) rfl ?_
  refine g_putF (C := RX3) (T := TX3) (N := 2) (ci := 3) (ws' := [(a_, .inr (3, [.ref q7, .int 0])), (q7, .inl (cI, 30, .inl (fun _ => 0)))]) X hi_X3_init_X3 tyX3 tyX3_ok nmX3 0 rfl rfl 0 (by decide) (X.2.2.2.2.1 (.fieldLink RX3 9 "NineteenSecondsLeft$Squad" "facts" "[I") (List.mem_of_getElem? (i := 5) rfl)) rfl rfl hmn rfl rfl rfl (Nat.le_of_ble_eq_true rfl) dX3_init_9 rfl ?_
  refine g_aload_n X 0 rfl rfl dX3_init_12 ?_
  refine g_iconst (v := 0) X (by decide) dX3_init_13 ?_
  refine g_put (C := RX3) (T := TX3) (N := 2) (ci := 3) (ws' := [(a_, .inr (3, [.ref q7, .int 0])), (q7, .inl (cI, 30, .inl (fun _ => 0)))]) X hi_X3_init_X3 tyX3 tyX3_ok nmX3 0 rfl rfl 1 (by decide) (X.2.2.2.2.1 (.fieldLink RX3 15 "NineteenSecondsLeft$Squad" "size" "I") (List.mem_of_getElem? (i := 6) rfl)) rfl rfl rfl rfl (Nat.le_of_ble_eq_true rfl) dX3_init_14 rfl ?_
  exact g_vret X hAA hQQ q7 trivial [0, 1] rfl rfl hr dX3_init_17

theorem hi_X0_init_X0 : ∀ w ∈ wsX00, w ∈ wsX0_init := fun w h => List.mem_cons_of_mem _ (List.mem_append_left _ (List.mem_append_right _ (h)))
theorem hi_X0_init_X3 : ∀ w ∈ wsX30, w ∈ wsX0_init := fun w h => List.mem_cons_of_mem _ (List.mem_append_right _ (h))
set_option maxHeartbeats 4000000 in
set_option maxRecDepth 100000 in
theorem k_X0_init (l : Launch) (D : va_G) (cI : ClassId) (kA kV : Nat → Nat) (a_ : Nat) :
    g_MV l D cI kA kV yX0_init wsX0_init { frames := 2, cells := 3, slots := 42, locals := 32 } [.ref a_] [(a_, .inr (0, [.null, .null]))] (fun u : Nat × Nat × Nat => [(a_, .inr (0, [.ref u.1, .ref u.2.1])), (u.1, .inl (cI, 10, .inl (upd (upd (upd (upd (upd (upd (upd (upd (upd (upd (fun _ => 0) (0 : Int32).toNatClampNeg 19) (1 : Int32).toNatClampNeg 5) (2 : Int32).toNatClampNeg 0) (3 : Int32).toNatClampNeg 0) (4 : Int32).toNatClampNeg 0) (5 : Int32).toNatClampNeg 1) (6 : Int32).toNatClampNeg 1) (7 : Int32).toNatClampNeg 3) (8 : Int32).toNatClampNeg 0) (9 : Int32).toNatClampNeg 5))), (u.2.1, .inr (3, [.ref u.2.2, .int 0])), (u.2.2, .inl (cI, 30, .inl (fun _ => 0)))]) (fun _ => True) := by
  refine g_startV (lv := [(0, .ref a_)]) RX0 rfl rfl rfl (Nat.le_of_ble_eq_true rfl) rfl (fun p e s m args below meth c AA QQ hAA hQQ X hr hmn => ?_)
  refine g_aload_n X 0 rfl rfl dX0_init_0 ?_
  refine g_obj X (X.2.2.2.2.1 (.methodLink RX0 3 objectInit) (List.mem_of_getElem? (i := 1) rfl)) (X.2.2.2.2.1 (.instanceMethod objectInit) (List.mem_of_getElem? (i := 2) rfl)) (X.2.2.2.2.1 (.code objectInit ⟨#[0xb1]⟩ 1 none) (List.mem_of_getElem? (i := 3) rfl)) dX0_init_1 (Nat.le_of_ble_eq_true rfl) (Nat.le_of_ble_eq_true rfl) ?_
  refine g_aload_n X 0 rfl rfl dX0_init_4 ?_
  refine g_bipush (v := 10) X (by decide) dX0_init_5 ?_
  refine g_newarr X 10 (X.2.2.2.2.1 (.arrayClass .int) (List.mem_of_getElem? (i := 4) rfl)) (by decide) (by decide) (Nat.le_of_ble_eq_true rfl) (Nat.le_of_ble_eq_true rfl) (Nat.le_of_ble_eq_true rfl) dX0_init_7 (fun q7 => ?_)
  refine g_eqs (ws' := [(a_, .inr (0, [.null, .null])), (q7, .inl (cI, 10, .inl (fun _ => 0)))]) rfl ?_
  refine g_dup X rfl dX0_init_9 ?_
  refine g_iconst (v := 0) X (by decide) dX0_init_10 ?_
  refine g_bipush (v := 19) X (by decide) dX0_init_11 ?_
  refine g_iast (ws' := [(a_, .inr (0, [.null, .null])), (q7, .inl (cI, 10, .inl (upd (fun _ => 0) (0 : Int32).toNatClampNeg 19)))]) X 1 rfl (g_vinL (by decide)) dX0_init_13 rfl ?_
  refine g_dup X rfl dX0_init_14 ?_
  refine g_iconst (v := 1) X (by decide) dX0_init_15 ?_
  refine g_iconst (v := 5) X (by decide) dX0_init_16 ?_
  refine g_iast (ws' := [(a_, .inr (0, [.null, .null])), (q7, .inl (cI, 10, .inl (upd (upd (fun _ => 0) (0 : Int32).toNatClampNeg 19) (1 : Int32).toNatClampNeg 5)))]) X 1 rfl (g_vinL (by decide)) dX0_init_17 rfl ?_
  refine g_dup X rfl dX0_init_18 ?_
  refine g_iconst (v := 2) X (by decide) dX0_init_19 ?_
  refine g_iconst (v := 0) X (by decide) dX0_init_20 ?_
  refine g_iast (ws' := [(a_, .inr (0, [.null, .null])), (q7, .inl (cI, 10, .inl (upd (upd (upd (fun _ => 0) (0 : Int32).toNatClampNeg 19) (1 : Int32).toNatClampNeg 5) (2 : Int32).toNatClampNeg 0)))]) X 1 rfl (g_vinL (by decide)) dX0_init_21 rfl ?_
  refine g_dup X rfl dX0_init_22 ?_
  refine g_iconst (v := 3) X (by decide) dX0_init_23 ?_
  refine g_iconst (v := 0) X (by decide) dX0_init_24 ?_
  refine g_iast (ws' := [(a_, .inr (0, [.null, .null])), (q7, .inl (cI, 10, .inl (upd (upd (upd (upd (fun _ => 0) (0 : Int32).toNatClampNeg 19) (1 : Int32).toNatClampNeg 5) (2 : Int32).toNatClampNeg 0) (3 : Int32).toNatClampNeg 0)))]) X 1 rfl (g_vinL (by decide)) dX0_init_25 rfl ?_
  refine g_dup X rfl dX0_init_26 ?_
  refine g_iconst (v := 4) X (by decide) dX0_init_27 ?_
  refine g_iconst (v := 0) X (by decide) dX0_init_28 ?_
  refine g_iast (ws' := [(a_, .inr (0, [.null, .null])), (q7, .inl (cI, 10, .inl (upd (upd (upd (upd (upd (fun _ => 0) (0 : Int32).toNatClampNeg 19) (1 : Int32).toNatClampNeg 5) (2 : Int32).toNatClampNeg 0) (3 : Int32).toNatClampNeg 0) (4 : Int32).toNatClampNeg 0)))]) X 1 rfl (g_vinL (by decide)) dX0_init_29 rfl ?_
  refine g_dup X rfl dX0_init_30 ?_
  refine g_iconst (v := 5) X (by decide) dX0_init_31 ?_
  refine g_iconst (v := 1) X (by decide) dX0_init_32 ?_
  refine g_iast (ws' := [(a_, .inr (0, [.null, .null])), (q7, .inl (cI, 10, .inl (upd (upd (upd (upd (upd (upd (fun _ => 0) (0 : Int32).toNatClampNeg 19) (1 : Int32).toNatClampNeg 5) (2 : Int32).toNatClampNeg 0) (3 : Int32).toNatClampNeg 0) (4 : Int32).toNatClampNeg 0) (5 : Int32).toNatClampNeg 1)))]) X 1 rfl (g_vinL (by decide)) dX0_init_33 rfl ?_
  refine g_dup X rfl dX0_init_34 ?_
  refine g_bipush (v := 6) X (by decide) dX0_init_35 ?_
  refine g_iconst (v := 1) X (by decide) dX0_init_37 ?_
  refine g_iast (ws' := [(a_, .inr (0, [.null, .null])), (q7, .inl (cI, 10, .inl (upd (upd (upd (upd (upd (upd (upd (fun _ => 0) (0 : Int32).toNatClampNeg 19) (1 : Int32).toNatClampNeg 5) (2 : Int32).toNatClampNeg 0) (3 : Int32).toNatClampNeg 0) (4 : Int32).toNatClampNeg 0) (5 : Int32).toNatClampNeg 1) (6 : Int32).toNatClampNeg 1)))]) X 1 rfl (g_vinL (by decide)) dX0_init_38 rfl ?_
  refine g_dup X rfl dX0_init_39 ?_
  refine g_bipush (v := 7) X (by decide) dX0_init_40 ?_
  refine g_iconst (v := 3) X (by decide) dX0_init_42 ?_
  refine g_iast (ws' := [(a_, .inr (0, [.null, .null])), (q7, .inl (cI, 10, .inl (upd (upd (upd (upd (upd (upd (upd (upd (fun _ => 0) (0 : Int32).toNatClampNeg 19) (1 : Int32).toNatClampNeg 5) (2 : Int32).toNatClampNeg 0) (3 : Int32).toNatClampNeg 0) (4 : Int32).toNatClampNeg 0) (5 : Int32).toNatClampNeg 1) (6 : Int32).toNatClampNeg 1) (7 : Int32).toNatClampNeg 3)))]) X 1 rfl (g_vinL (by decide)) dX0_init_43 rfl ?_
  refine g_dup X rfl dX0_init_44 ?_
  refine g_bipush (v := 8) X (by decide) dX0_init_45 ?_
  refine g_iconst (v := 0) X (by decide) dX0_init_47 ?_
  refine g_iast (ws' := [(a_, .inr (0, [.null, .null])), (q7, .inl (cI, 10, .inl (upd (upd (upd (upd (upd (upd (upd (upd (upd (fun _ => 0) (0 : Int32).toNatClampNeg 19) (1 : Int32).toNatClampNeg 5) (2 : Int32).toNatClampNeg 0) (3 : Int32).toNatClampNeg 0) (4 : Int32).toNatClampNeg 0) (5 : Int32).toNatClampNeg 1) (6 : Int32).toNatClampNeg 1) (7 : Int32).toNatClampNeg 3) (8 : Int32).toNatClampNeg 0)))]) X 1 rfl (g_vinL (by decide)) dX0_init_48 rfl ?_
  refine g_dup X rfl dX0_init_49 ?_
  refine g_bipush (v := 9) X (by decide) dX0_init_50 ?_
  refine g_iconst (v := 5) X (by decide) dX0_init_52 ?_
  refine g_iast (ws' := [(a_, .inr (0, [.null, .null])), (q7, .inl (cI, 10, .inl (upd (upd (upd (upd (upd (upd (upd (upd (upd (upd (fun _ => 0) (0 : Int32).toNatClampNeg 19) (1 : Int32).toNatClampNeg 5) (2 : Int32).toNatClampNeg 0) (3 : Int32).toNatClampNeg 0) (4 : Int32).toNatClampNeg 0) (5 : Int32).toNatClampNeg 1) (6 : Int32).toNatClampNeg 1) (7 : Int32).toNatClampNeg 3) (8 : Int32).toNatClampNeg 0) (9 : Int32).toNatClampNeg 5)))]) X 1 rfl (g_vinL (by decide)) dX0_init_53 rfl ?_
  refine g_putF (C := RX0) (T := TX0) (N := 2) (ci := 0) (ws' := [(a_, .inr (0, [.ref q7, .null])), (q7, .inl (cI, 10, .inl (upd (upd (upd (upd (upd (upd (upd (upd (upd (upd (fun _ => 0) (0 : Int32).toNatClampNeg 19) (1 : Int32).toNatClampNeg 5) (2 : Int32).toNatClampNeg 0) (3 : Int32).toNatClampNeg 0) (4 : Int32).toNatClampNeg 0) (5 : Int32).toNatClampNeg 1) (6 : Int32).toNatClampNeg 1) (7 : Int32).toNatClampNeg 3) (8 : Int32).toNatClampNeg 0) (9 : Int32).toNatClampNeg 5)))]) X hi_X0_init_X0 tyX0 tyX0_ok nmX0 0 rfl rfl 0 (by decide) (X.2.2.2.2.1 (.fieldLink RX0 9 "NineteenSecondsLeft$Hall" "told" "[I") (List.mem_of_getElem? (i := 5) rfl)) rfl rfl hmn rfl rfl rfl (Nat.le_of_ble_eq_true rfl) dX0_init_54 rfl ?_
  refine g_aload_n X 0 rfl rfl dX0_init_57 ?_
  refine g_new (C := RX3) (T := TX3) (N := 2) (ci := 3) X [.null, .int 0] hi_X0_init_X3 tyX3 tyX3_ok (X.2.2.2.2.1 (.classLink RX0 15 RX3) (List.mem_of_getElem? (i := 6) rfl)) (X.2.2.2.2.1 (.instantiable RX3 2) (List.mem_of_getElem? (i := 7) rfl)) (X.2.2.2.2.1 (.initialized RX3) (List.mem_of_getElem? (i := 8) rfl)) rfl (by decide +kernel) (Nat.le_of_ble_eq_true rfl) (Nat.le_of_ble_eq_true rfl) dX0_init_58 (fun q58 => ?_)
  refine g_eqs (ws' := [(a_, .inr (0, [.ref q7, .null])), (q7, .inl (cI, 10, .inl (upd (upd (upd (upd (upd (upd (upd (upd (upd (upd (fun _ => 0) (0 : Int32).toNatClampNeg 19) (1 : Int32).toNatClampNeg 5) (2 : Int32).toNatClampNeg 0) (3 : Int32).toNatClampNeg 0) (4 : Int32).toNatClampNeg 0) (5 : Int32).toNatClampNeg 1) (6 : Int32).toNatClampNeg 1) (7 : Int32).toNatClampNeg 3) (8 : Int32).toNatClampNeg 0) (9 : Int32).toNatClampNeg 5))), (q58, .inr (3, [.null, .int 0]))]) rfl ?_
  refine g_dup X rfl dX0_init_61 ?_
  refine g_callJv (host := "NineteenSecondsLeft") (As := []) (st := [.ref q58, .ref a_]) (wr := [(a_, .inr (0, [.ref q7, .null])), (q7, .inl (cI, 10, .inl (upd (upd (upd (upd (upd (upd (upd (upd (upd (upd (fun _ => 0) (0 : Int32).toNatClampNeg 19) (1 : Int32).toNatClampNeg 5) (2 : Int32).toNatClampNeg 0) (3 : Int32).toNatClampNeg 0) (4 : Int32).toNatClampNeg 0) (5 : Int32).toNatClampNeg 1) (6 : Int32).toNatClampNeg 1) (7 : Int32).toNatClampNeg 3) (8 : Int32).toNatClampNeg 0) (9 : Int32).toNatClampNeg 5)))]) X (k_X3_init l D cI kA kV q58) ⟨va_cnB 0 X.2.2.2.2.1 gX0_init_X3_init_n17 rfl rfl rfl ((g_nl X).1 (RX0, 17, yX3_init) (List.mem_of_getElem? (i := 1) rfl)) (X.2.2.2.2.1 (.initialized RX3) (List.mem_of_getElem? (i := 8) rfl)) (by decide +kernel) ⟨Nat.le_of_ble_eq_true rfl, Nat.le_of_ble_eq_true rfl⟩, rfl, (X.2.2.2.2.1 (.instanceMethod yX3_init) (List.mem_of_getElem? (i := 10) rfl))⟩ [2] [0, 1] rfl rfl rfl rfl (by decide) rfl (Nat.le_of_ble_eq_true rfl) ⟨Nat.le_of_ble_eq_true rfl, Nat.le_of_ble_eq_true rfl⟩ dX0_init_62 rfl (fun u62 hw62 => ?_)
  refine g_eqs (ws' := [(a_, .inr (0, [.ref q7, .null])), (q7, .inl (cI, 10, .inl (upd (upd (upd (upd (upd (upd (upd (upd (upd (upd (fun _ => 0) (0 : Int32).toNatClampNeg 19) (1 : Int32).toNatClampNeg 5) (2 : Int32).toNatClampNeg 0) (3 : Int32).toNatClampNeg 0) (4 : Int32).toNatClampNeg 0) (5 : Int32).toNatClampNeg 1) (6 : Int32).toNatClampNeg 1) (7 : Int32).toNatClampNeg 3) (8 : Int32).toNatClampNeg 0) (9 : Int32).toNatClampNeg 5))), (q58, .inr (3, [.ref u62, .int 0])), (u62, .inl (cI, 30, .inl (fun _ => 0)))]) rfl ?_
  refine g_putF (C := RX0) (T := TX0) (N := 2) (ci := 0) (ws' := [(a_, .inr (0, [.ref q7, .ref q58])), (q7, .inl (cI, 10, .inl (upd (upd (upd (upd (upd (upd (upd (upd (upd (upd (fun _ => 0) (0 : Int32).toNatClampNeg 19) (1 : Int32).toNatClampNeg 5) (2 : Int32).toNatClampNeg 0) (3 : Int32).toNatClampNeg 0) (4 : Int32).toNatClampNeg 0) (5 : Int32).toNatClampNeg 1) (6 : Int32).toNatClampNeg 1) (7 : Int32).toNatClampNeg 3) (8 : Int32).toNatClampNeg 0) (9 : Int32).toNatClampNeg 5))), (q58, .inr (3, [.ref u62, .int 0])), (u62, .inl (cI, 30, .inl (fun _ => 0)))]) X hi_X0_init_X0 tyX0 tyX0_ok nmX0 0 rfl rfl 1 (by decide) (X.2.2.2.2.1 (.fieldLink RX0 18 "NineteenSecondsLeft$Hall" "squad" "LNineteenSecondsLeft$Squad;") (List.mem_of_getElem? (i := 9) rfl)) rfl rfl hmn rfl rfl rfl (Nat.le_of_ble_eq_true rfl) dX0_init_65 rfl ?_
  exact g_vret X hAA hQQ (q7, q58, u62) trivial [0, 1, 2, 3] rfl rfl hr dX0_init_68

theorem hi_X3_players_X3 : ∀ w ∈ wsX30, w ∈ wsX3_players := fun w h => List.mem_cons_of_mem _ (List.mem_append_right _ (h))
def f_X3_players (c_size : Int32) : Int32 :=
  c_size
set_option maxHeartbeats 4000000 in
set_option maxRecDepth 100000 in
theorem k_X3_players (l : Launch) (D : va_G) (cI : ClassId) (kA kV : Nat → Nat) (a_ a_facts : Nat) (c_size : Int32) :
    g_MI l D cI kA kV yX3_players wsX3_players { frames := 0, cells := 0, slots := 0, locals := 0 } [.ref a_] [(a_, .inr (3, [.ref a_facts, .int c_size]))] (fun u : Unit => [(a_, .inr (3, [.ref a_facts, .int c_size]))]) (fun (r : Int32) (u : Unit) => r = f_X3_players c_size) := by
  obtain ⟨XX, hXX⟩ : ∃ z, z = f_X3_players c_size := ⟨_, rfl⟩
  have heq := hXX.trans (f_X3_players.eq_def c_size)
  refine g_startI (lv := [(0, .ref a_)]) RX3 rfl rfl rfl (Nat.le_of_ble_eq_true rfl) rfl (fun p e s m args below meth c AA QQ hAA hQQ X hr hmn => ?_)
  refine g_aload_n X 0 rfl rfl dX3_players_0 ?_
  refine g_get (C := RX3) (T := TX3) (N := 2) (ci := 3) X hi_X3_players_X3 0 rfl rfl 1 (by decide) (X.2.2.2.2.1 (.fieldLink RX3 15 "NineteenSecondsLeft$Squad" "size" "I") (List.mem_of_getElem? (i := 1) rfl)) rfl rfl dX3_players_1 ?_
  exact g_iret X hAA hQQ () (heq.symm.trans hXX) [0] rfl rfl hr dX3_players_4

theorem hi_X3_has_X3 : ∀ w ∈ wsX30, w ∈ wsX3_has := fun w h => List.mem_cons_of_mem _ (List.mem_append_right _ (h))
def f_X3_has (c_size : Int32) (p1 : Int32) : Int32 :=
  (if p1 < 0 then 0 else (if c_size ≤ p1 then 0 else 1))
set_option maxHeartbeats 4000000 in
set_option maxRecDepth 100000 in
theorem k_X3_has (l : Launch) (D : va_G) (cI : ClassId) (kA kV : Nat → Nat) (a_ a_facts : Nat) (c_size : Int32) (p1 : Int32) :
    g_MI l D cI kA kV yX3_has wsX3_has { frames := 0, cells := 0, slots := 0, locals := 0 } [.ref a_, .int p1] [(a_, .inr (3, [.ref a_facts, .int c_size]))] (fun u : Unit => [(a_, .inr (3, [.ref a_facts, .int c_size]))]) (fun (r : Int32) (u : Unit) => r = f_X3_has c_size p1) := by
  obtain ⟨XX, hXX⟩ : ∃ z, z = f_X3_has c_size p1 := ⟨_, rfl⟩
  have heq := hXX.trans (f_X3_has.eq_def c_size p1)
  refine g_startI (lv := [(0, .ref a_), (1, .int p1)]) RX3 rfl rfl rfl (Nat.le_of_ble_eq_true rfl) rfl (fun p e s m args below meth c AA QQ hAA hQQ X hr hmn => ?_)
  refine g_iload_n X 1 rfl rfl dX3_has_0 ?_
  refine g_if_lt X 16 dX3_has_1 (by decide) (fun c1 => ?_) (fun c1 => ?_)
  · have heq := heq.trans (if_pos c1)
    refine g_iconst (v := 0) X (by decide) dX3_has_16 ?_
    exact g_zret X hAA hQQ () (heq.symm.trans hXX) [0] rfl rfl hr rfl dX3_has_17
  · have heq := heq.trans (if_neg c1)
    refine g_iload_n X 1 rfl rfl dX3_has_4 ?_
    refine g_aload_n X 0 rfl rfl dX3_has_5 ?_
    refine g_get (C := RX3) (T := TX3) (N := 2) (ci := 3) X hi_X3_has_X3 0 rfl rfl 1 (by decide) (X.2.2.2.2.1 (.fieldLink RX3 15 "NineteenSecondsLeft$Squad" "size" "I") (List.mem_of_getElem? (i := 1) rfl)) rfl rfl dX3_has_6 ?_
    refine g_icmp_ge X 16 dX3_has_9 (by decide) (fun c9 => ?_) (fun c9 => ?_)
    · have heq := heq.trans (if_pos c9)
      refine g_iconst (v := 0) X (by decide) dX3_has_16 ?_
      exact g_zret X hAA hQQ () (heq.symm.trans hXX) [0] rfl rfl hr rfl dX3_has_17
    · have heq := heq.trans (if_neg c9)
      refine g_iconst (v := 1) X (by decide) dX3_has_12 ?_
      refine g_goto (tgt := 17) X (by decide) dX3_has_13 ?_
      exact g_zret X hAA hQQ () (heq.symm.trans hXX) [0] rfl rfl hr rfl dX3_has_17

theorem hi_X3_fact_X3 : ∀ w ∈ wsX30, w ∈ wsX3_fact := fun w h => List.mem_cons_of_mem _ (List.mem_append_right _ (h))
def f_X3_fact (c_facts : Nat → Int32) (p1 : Int32) (p2 : Int32) : Int32 :=
  (if (p1 * 5) + p2 < 0 then 0 else (if (p1 * 5) + p2 < 30 then c_facts ((p1 * 5) + p2).toNatClampNeg else 0))
set_option maxHeartbeats 4000000 in
set_option maxRecDepth 100000 in
theorem k_X3_fact (l : Launch) (D : va_G) (cI : ClassId) (kA kV : Nat → Nat) (a_ a_facts : Nat) (c_size : Int32) (c_facts : Nat → Int32) (p1 : Int32) (p2 : Int32) :
    g_MI l D cI kA kV yX3_fact wsX3_fact { frames := 0, cells := 0, slots := 0, locals := 0 } [.ref a_, .int p1, .int p2] [(a_, .inr (3, [.ref a_facts, .int c_size])), (a_facts, .inl (cI, 30, .inl c_facts))] (fun u : Unit => [(a_, .inr (3, [.ref a_facts, .int c_size])), (a_facts, .inl (cI, 30, .inl c_facts))]) (fun (r : Int32) (u : Unit) => r = f_X3_fact c_facts p1 p2) := by
  obtain ⟨XX, hXX⟩ : ∃ z, z = f_X3_fact c_facts p1 p2 := ⟨_, rfl⟩
  have heq := hXX.trans (f_X3_fact.eq_def c_facts p1 p2)
  refine g_startI (lv := [(0, .ref a_), (1, .int p1), (2, .int p2)]) RX3 rfl rfl rfl (Nat.le_of_ble_eq_true rfl) rfl (fun p e s m args below meth c AA QQ hAA hQQ X hr hmn => ?_)
  refine g_iload_n X 1 rfl rfl dX3_fact_0 ?_
  refine g_iconst (v := 5) X (by decide) dX3_fact_1 ?_
  refine g_imul X dX3_fact_2 ?_
  refine g_iload_n X 2 rfl rfl dX3_fact_3 ?_
  refine g_iadd X dX3_fact_4 ?_
  refine g_istore_n (lv' := [(3, .int ((p1 * 5) + p2)), (0, .ref a_), (1, .int p1), (2, .int p2)]) X rfl (by decide) rfl dX3_fact_5 ?_
  refine g_iload_n X 0 rfl rfl dX3_fact_6 ?_
  refine g_if_lt X 19 dX3_fact_7 (by decide) (fun c7 => ?_) (fun c7 => ?_)
  · have heq := heq.trans (if_pos c7)
    refine g_iconst (v := 0) X (by decide) dX3_fact_19 ?_
    refine g_goto (tgt := 29) X (by decide) dX3_fact_20 ?_
    exact g_iret X hAA hQQ () (heq.symm.trans hXX) [0, 1] rfl rfl hr dX3_fact_29
  · have heq := heq.trans (if_neg c7)
    refine g_iload_n X 0 rfl rfl dX3_fact_10 ?_
    refine g_aload_n X 1 rfl rfl dX3_fact_11 ?_
    refine g_get (C := RX3) (T := TX3) (N := 2) (ci := 3) X hi_X3_fact_X3 0 rfl rfl 0 (by decide) (X.2.2.2.2.1 (.fieldLink RX3 9 "NineteenSecondsLeft$Squad" "facts" "[I") (List.mem_of_getElem? (i := 1) rfl)) rfl rfl dX3_fact_12 ?_
    refine g_alen (v := 30) X 1 rfl rfl dX3_fact_15 ?_
    refine g_icmp_lt X 23 dX3_fact_16 (by decide) (fun c16 => ?_) (fun c16 => ?_)
    · have heq := heq.trans (if_pos c16)
      refine g_aload_n X 1 rfl rfl dX3_fact_23 ?_
      refine g_get (C := RX3) (T := TX3) (N := 2) (ci := 3) X hi_X3_fact_X3 0 rfl rfl 0 (by decide) (X.2.2.2.2.1 (.fieldLink RX3 9 "NineteenSecondsLeft$Squad" "facts" "[I") (List.mem_of_getElem? (i := 1) rfl)) rfl rfl dX3_fact_24 ?_
      refine g_iload_n X 0 rfl rfl dX3_fact_27 ?_
      refine g_iald X 1 rfl (g_vin (by decide) (g_n0 c7) c16) dX3_fact_28 ?_
      exact g_iret X hAA hQQ () (heq.symm.trans hXX) [0, 1] rfl rfl hr dX3_fact_29
    · have heq := heq.trans (if_neg c16)
      refine g_iconst (v := 0) X (by decide) dX3_fact_19 ?_
      refine g_goto (tgt := 29) X (by decide) dX3_fact_20 ?_
      exact g_iret X hAA hQQ () (heq.symm.trans hXX) [0, 1] rfl rfl hr dX3_fact_29

theorem hi_X3_ofSide_X3 : ∀ w ∈ wsX30, w ∈ wsX3_ofSide := fun w h => List.mem_cons_of_mem _ (List.mem_append_right _ (h))
def L_X3_ofSide_4 (v1 : Int32) (c_size : Int32) (c_facts : Nat → Int32) (K : (Int32) → (Int32) → Int32) : Nat → (Int32) → (Int32) → Int32
  | 0, v2_4, v3_4 => K v2_4 v3_4
  | n + 1, v2_4, v3_4 => (if c_size ≤ v3_4 then K v2_4 v3_4 else g_lt (f_X3_fact c_facts v3_4 (0 : Int32)) (fun r16 => (if r16 = v1 then L_X3_ofSide_4 v1 c_size c_facts K n (v2_4 + 1) (v3_4 + 1) else L_X3_ofSide_4 v1 c_size c_facts K n (v2_4 + 0) (v3_4 + 1))))
def f_X3_ofSide (c_size : Int32) (c_facts : Nat → Int32) (p1 : Int32) : Int32 :=
  L_X3_ofSide_4 p1 c_size c_facts (fun v2_4 v3_4 => v2_4) (((c_size : Int32).toInt - (0 : Int32).toInt).toNat + 1) 0 0
set_option maxHeartbeats 4000000 in
set_option maxRecDepth 100000 in
theorem k_X3_ofSide (l : Launch) (D : va_G) (cI : ClassId) (kA kV : Nat → Nat) (a_ a_facts : Nat) (c_size : Int32) (c_facts : Nat → Int32) (p1 : Int32) :
    g_MI l D cI kA kV yX3_ofSide wsX3_ofSide { frames := 1, cells := 0, slots := 0, locals := 23 } [.ref a_, .int p1] [(a_, .inr (3, [.ref a_facts, .int c_size])), (a_facts, .inl (cI, 30, .inl c_facts))] (fun u : Unit => [(a_, .inr (3, [.ref a_facts, .int c_size])), (a_facts, .inl (cI, 30, .inl c_facts))]) (fun (r : Int32) (u : Unit) => r = f_X3_ofSide c_size c_facts p1) := by
  obtain ⟨XX, hXX⟩ : ∃ z, z = f_X3_ofSide c_size c_facts p1 := ⟨_, rfl⟩
  have heq := hXX.trans (f_X3_ofSide.eq_def c_size c_facts p1)
  refine g_startI (lv := [(0, .ref a_), (1, .int p1)]) RX3 rfl rfl rfl (Nat.le_of_ble_eq_true rfl) rfl (fun p e s m args below meth c AA QQ hAA hQQ X hr hmn => ?_)
  refine g_iconst (v := 0) X (by decide) dX3_ofSide_0 ?_
  refine g_istore_n (lv' := [(2, .int 0), (0, .ref a_), (1, .int p1)]) X rfl (by decide) rfl dX3_ofSide_1 ?_
  refine g_iconst (v := 0) X (by decide) dX3_ofSide_2 ?_
  refine g_istore_n (lv' := [(3, .int 0), (2, .int 0), (0, .ref a_), (1, .int p1)]) X rfl (by decide) rfl dX3_ofSide_3 ?_
  have lp4 : ∀ (K : (Int32) → (Int32) → Int32), (∀ (v2_4 : Int32) (v3_4 : Int32), XX = K v2_4 v3_4 → GG p l e { frames := 1, cells := 0, slots := 0, locals := 23 } s m args below meth c D AA 0 0 QQ 4 [(a_, .inr (3, [.ref a_facts, .int c_size])), (a_facts, .inl (cI, 30, .inl c_facts))] [(3, .int v3_4), (2, .int v2_4), (0, .ref a_), (1, .int p1)] 36 []) → ∀ (n : Nat) (v2_4 : Int32) (v3_4 : Int32), ((c_size : Int32).toInt - (v3_4 : Int32).toInt).toNat < n → 0 ≤ v3_4 → XX = L_X3_ofSide_4 p1 c_size c_facts K n v2_4 v3_4 → GG p l e { frames := 1, cells := 0, slots := 0, locals := 23 } s m args below meth c D AA 0 0 QQ 4 [(a_, .inr (3, [.ref a_facts, .int c_size])), (a_facts, .inl (cI, 30, .inl c_facts))] [(3, .int v3_4), (2, .int v2_4), (0, .ref a_), (1, .int p1)] 4 [] := by
    intro K hK n
    induction n with
    | zero => intro v2_4 v3_4 hm4; exact absurd hm4 (Nat.not_lt_zero _)
    | succ n ih4 =>
      intro v2_4 v3_4 hm4 hv4_0 heq
      have heq := heq.trans (L_X3_ofSide_4.eq_2 _ _ _ _ _ _ _ )
      refine g_iload_n X 0 rfl rfl dX3_ofSide_4 ?_
      refine g_aload_n X 2 rfl rfl dX3_ofSide_5 ?_
      refine g_get (C := RX3) (T := TX3) (N := 2) (ci := 3) X hi_X3_ofSide_X3 0 rfl rfl 1 (by decide) (X.2.2.2.2.1 (.fieldLink RX3 15 "NineteenSecondsLeft$Squad" "size" "I") (List.mem_of_getElem? (i := 1) rfl)) rfl rfl dX3_ofSide_6 ?_
      refine g_icmp_ge X 36 dX3_ofSide_9 (by decide) (fun c9 => ?_) (fun c9 => ?_)
      · have heq := heq.trans (if_pos c9)
        exact hK v2_4 v3_4 heq
      · have heq := heq.trans (if_neg c9)
        refine g_iload_n X 1 rfl rfl dX3_ofSide_12 ?_
        refine g_aload_n X 2 rfl rfl dX3_ofSide_13 ?_
        refine g_iload_n X 0 rfl rfl dX3_ofSide_14 ?_
        refine g_iconst (v := 0) X (by decide) dX3_ofSide_15 ?_
        refine g_callVi (C := RX3) (T := TX3) (N := 2) (ci := 3) (As := [.int v3_4, .int 0]) (st := [.int v2_4]) (wr := ([] : va_W)) X (k_X3_fact l D cI kA kV a_ a_facts c_size c_facts v3_4 0) (cwV 2 X.2.2.2.2.1 gX3_ofSide_X3_fact rfl rfl rfl (by decide +kernel) ⟨Nat.le_of_ble_eq_true rfl, Nat.le_of_ble_eq_true rfl⟩) 0 rfl rfl [0, 1] [] rfl rfl rfl rfl (by decide) rfl (Nat.le_of_ble_eq_true rfl) ⟨Nat.le_of_ble_eq_true rfl, Nat.le_of_ble_eq_true rfl⟩ dX3_ofSide_16 rfl (fun r16 u16 hw16 => ?_)
        have heq := g_let heq hw16
        refine g_iload_n X 3 rfl rfl dX3_ofSide_19 ?_
        refine g_icmp_ne X 27 dX3_ofSide_20 (by decide) (fun c20 => ?_) (fun c20 => ?_)
        · have heq := heq.trans (if_neg c20)
          refine g_iconst (v := 0) X (by decide) dX3_ofSide_27 ?_
          refine g_iadd X dX3_ofSide_28 ?_
          refine g_istore_n (lv' := [(2, .int (v2_4 + 0)), (3, .int v3_4), (0, .ref a_), (1, .int p1)]) X rfl (by decide) rfl dX3_ofSide_29 ?_
          refine g_iinc (v := v3_4 + 1) (lv' := [(3, .int (v3_4 + 1)), (2, .int (v2_4 + 0)), (0, .ref a_), (1, .int p1)]) X 1 rfl rfl (by decide) rfl dX3_ofSide_30 ?_
          refine g_goto (tgt := 4) X (by decide) dX3_ofSide_33 ?_
          exact ih4 (v2_4 + 0) (v3_4 + 1) (g_upm c9 hm4) (g_up0 hv4_0 c9) heq
        · have heq := heq.trans (if_pos c20)
          refine g_iconst (v := 1) X (by decide) dX3_ofSide_23 ?_
          refine g_goto (tgt := 28) X (by decide) dX3_ofSide_24 ?_
          refine g_iadd X dX3_ofSide_28 ?_
          refine g_istore_n (lv' := [(2, .int (v2_4 + 1)), (3, .int v3_4), (0, .ref a_), (1, .int p1)]) X rfl (by decide) rfl dX3_ofSide_29 ?_
          refine g_iinc (v := v3_4 + 1) (lv' := [(3, .int (v3_4 + 1)), (2, .int (v2_4 + 1)), (0, .ref a_), (1, .int p1)]) X 1 rfl rfl (by decide) rfl dX3_ofSide_30 ?_
          refine g_goto (tgt := 4) X (by decide) dX3_ofSide_33 ?_
          exact ih4 (v2_4 + 1) (v3_4 + 1) (g_upm c9 hm4) (g_up0 hv4_0 c9) heq
  refine lp4 _ (fun v2_4 v3_4 heq => ?_) _ 0 0 (Nat.lt_succ_self _) (by decide) heq
  refine g_iload_n X 1 rfl rfl dX3_ofSide_36 ?_
  exact g_iret X hAA hQQ () (heq.symm.trans hXX) [0, 1] rfl rfl hr dX3_ofSide_37

theorem hi_X3_change_X3 : ∀ w ∈ wsX30, w ∈ wsX3_change := fun w h => List.mem_cons_of_mem _ (List.mem_append_right _ (h))
def f_X3_change (c_facts : Nat → Int32) (p1 : Int32) (p2 : Int32) (p3 : Int32) : (Nat → Int32) :=
  (if (p1 * 5) + p2 < 0 then c_facts else (if 30 ≤ (p1 * 5) + p2 then c_facts else upd c_facts ((p1 * 5) + p2).toNatClampNeg p3))
set_option maxHeartbeats 4000000 in
set_option maxRecDepth 100000 in
theorem k_X3_change (l : Launch) (D : va_G) (cI : ClassId) (kA kV : Nat → Nat) (a_ a_facts : Nat) (c_size : Int32) (c_facts : Nat → Int32) (p1 : Int32) (p2 : Int32) (p3 : Int32) :
    g_MV l D cI kA kV yX3_change wsX3_change { frames := 0, cells := 0, slots := 0, locals := 0 } [.ref a_, .int p1, .int p2, .int p3] [(a_, .inr (3, [.ref a_facts, .int c_size])), (a_facts, .inl (cI, 30, .inl c_facts))] (fun u : (Nat → Int32) => [(a_, .inr (3, [.ref a_facts, .int c_size])), (a_facts, .inl (cI, 30, .inl u))]) (fun u : (Nat → Int32) => u = f_X3_change c_facts p1 p2 p3) := by
  obtain ⟨XX, hXX⟩ : ∃ z, z = f_X3_change c_facts p1 p2 p3 := ⟨_, rfl⟩
  have heq := hXX.trans (f_X3_change.eq_def c_facts p1 p2 p3)
  refine g_startV (lv := [(0, .ref a_), (1, .int p1), (2, .int p2), (3, .int p3)]) RX3 rfl rfl rfl (Nat.le_of_ble_eq_true rfl) rfl (fun p e s m args below meth c AA QQ hAA hQQ X hr hmn => ?_)
  refine g_iload_n X 1 rfl rfl dX3_change_0 ?_
  refine g_iconst (v := 5) X (by decide) dX3_change_1 ?_
  refine g_imul X dX3_change_2 ?_
  refine g_iload_n X 2 rfl rfl dX3_change_3 ?_
  refine g_iadd X dX3_change_4 ?_
  refine g_istore (lv' := [(4, .int ((p1 * 5) + p2)), (0, .ref a_), (1, .int p1), (2, .int p2), (3, .int p3)]) X (by decide) rfl dX3_change_5 ?_
  refine g_iload X 0 rfl dX3_change_7 ?_
  refine g_if_lt X 30 dX3_change_9 (by decide) (fun c9 => ?_) (fun c9 => ?_)
  · have heq := heq.trans (if_pos c9)
    exact g_vret X hAA hQQ c_facts (heq.symm.trans hXX) [0, 1] rfl rfl hr dX3_change_30
  · have heq := heq.trans (if_neg c9)
    refine g_iload X 0 rfl dX3_change_12 ?_
    refine g_aload_n X 1 rfl rfl dX3_change_14 ?_
    refine g_get (C := RX3) (T := TX3) (N := 2) (ci := 3) X hi_X3_change_X3 0 rfl rfl 0 (by decide) (X.2.2.2.2.1 (.fieldLink RX3 9 "NineteenSecondsLeft$Squad" "facts" "[I") (List.mem_of_getElem? (i := 1) rfl)) rfl rfl dX3_change_15 ?_
    refine g_alen (v := 30) X 1 rfl rfl dX3_change_18 ?_
    refine g_icmp_ge X 30 dX3_change_19 (by decide) (fun c19 => ?_) (fun c19 => ?_)
    · have heq := heq.trans (if_pos c19)
      exact g_vret X hAA hQQ c_facts (heq.symm.trans hXX) [0, 1] rfl rfl hr dX3_change_30
    · have heq := heq.trans (if_neg c19)
      refine g_aload_n X 1 rfl rfl dX3_change_22 ?_
      refine g_get (C := RX3) (T := TX3) (N := 2) (ci := 3) X hi_X3_change_X3 0 rfl rfl 0 (by decide) (X.2.2.2.2.1 (.fieldLink RX3 9 "NineteenSecondsLeft$Squad" "facts" "[I") (List.mem_of_getElem? (i := 1) rfl)) rfl rfl dX3_change_23 ?_
      refine g_iload X 0 rfl dX3_change_26 ?_
      refine g_iload_n X 4 rfl rfl dX3_change_28 ?_
      refine g_iast (ws' := [(a_, .inr (3, [.ref a_facts, .int c_size])), (a_facts, .inl (cI, 30, .inl (upd c_facts ((p1 * 5) + p2).toNatClampNeg p3)))]) X 1 rfl (g_vin (by decide) (g_n0 c9) (g_nn c19)) dX3_change_29 rfl ?_
      exact g_vret X hAA hQQ (upd c_facts ((p1 * 5) + p2).toNatClampNeg p3) (heq.symm.trans hXX) [0, 1] rfl rfl hr dX3_change_30

theorem hi_X3_add_X3 : ∀ w ∈ wsX30, w ∈ wsX3_add := fun w h => List.mem_cons_of_mem _ (List.mem_append_right _ (h))
def f_X3_add (c_size : Int32) : Int32 × (Int32) :=
  ((g_minf (c_size + 1) (6 : Int32)) - 1, (g_minf (c_size + 1) (6 : Int32)))
set_option maxHeartbeats 4000000 in
set_option maxRecDepth 100000 in
theorem k_X3_add (l : Launch) (D : va_G) (cI : ClassId) (kA kV : Nat → Nat) (a_ a_facts : Nat) (c_size : Int32) :
    g_MI l D cI kA kV yX3_add wsX3_add { frames := 1, cells := 0, slots := 0, locals := 17 } [.ref a_] [(a_, .inr (3, [.ref a_facts, .int c_size]))] (fun u : (Int32) => [(a_, .inr (3, [.ref a_facts, .int u]))]) (fun (r : Int32) (u : (Int32)) => (r, u) = f_X3_add c_size) := by
  obtain ⟨XX, hXX⟩ : ∃ z, z = f_X3_add c_size := ⟨_, rfl⟩
  have heq := hXX.trans (f_X3_add.eq_def c_size)
  refine g_startI (lv := [(0, .ref a_)]) RX3 rfl rfl rfl (Nat.le_of_ble_eq_true rfl) rfl (fun p e s m args below meth c AA QQ hAA hQQ X hr hmn => ?_)
  refine g_aload_n X 0 rfl rfl dX3_add_0 ?_
  refine g_aload_n X 0 rfl rfl dX3_add_1 ?_
  refine g_get (C := RX3) (T := TX3) (N := 2) (ci := 3) X hi_X3_add_X3 0 rfl rfl 1 (by decide) (X.2.2.2.2.1 (.fieldLink RX3 15 "NineteenSecondsLeft$Squad" "size" "I") (List.mem_of_getElem? (i := 1) rfl)) rfl rfl dX3_add_2 ?_
  refine g_iconst (v := 1) X (by decide) dX3_add_5 ?_
  refine g_iadd X dX3_add_6 ?_
  refine g_bipush (v := 6) X (by decide) dX3_add_7 ?_
  refine g_mmin X (X.2.2.2.2.1 (.methodLink RX3 23 Lib.Math.min.name) (List.mem_of_getElem? (i := 2) rfl)) (X.2.2.2.2.1 (.static Lib.Math.min.name) (List.mem_of_getElem? (i := 3) rfl)) (X.2.2.2.2.1 (.initialized "java/lang/Math") (List.mem_of_getElem? (i := 4) rfl)) (X.2.2.2.2.1 (.code Lib.Math.min.name Lib.Math.min.code 2 (some .int)) (List.mem_of_getElem? (i := 5) rfl)) (Nat.le_of_ble_eq_true rfl) (Nat.le_of_ble_eq_true rfl) (Nat.le_of_ble_eq_true rfl) (Nat.le_of_ble_eq_true rfl) dX3_add_9 ?_
  refine g_put (C := RX3) (T := TX3) (N := 2) (ci := 3) (ws' := [(a_, .inr (3, [.ref a_facts, .int (g_minf (c_size + 1) (6 : Int32))]))]) X hi_X3_add_X3 tyX3 tyX3_ok nmX3 0 rfl rfl 1 (by decide) (X.2.2.2.2.1 (.fieldLink RX3 15 "NineteenSecondsLeft$Squad" "size" "I") (List.mem_of_getElem? (i := 1) rfl)) rfl rfl rfl rfl (Nat.le_of_ble_eq_true rfl) dX3_add_12 rfl ?_
  refine g_aload_n X 0 rfl rfl dX3_add_15 ?_
  refine g_get (C := RX3) (T := TX3) (N := 2) (ci := 3) X hi_X3_add_X3 0 rfl rfl 1 (by decide) (X.2.2.2.2.1 (.fieldLink RX3 15 "NineteenSecondsLeft$Squad" "size" "I") (List.mem_of_getElem? (i := 1) rfl)) rfl rfl dX3_add_16 ?_
  refine g_iconst (v := 1) X (by decide) dX3_add_19 ?_
  refine g_isub X dX3_add_20 ?_
  exact g_iret X hAA hQQ (g_minf (c_size + 1) (6 : Int32)) (heq.symm.trans hXX) [0] rfl rfl hr dX3_add_21

theorem hi_X3_copy_X3 : ∀ w ∈ wsX30, w ∈ wsX3_copy := fun w h => List.mem_cons_of_mem _ (List.mem_append_right _ (h))
def f_X3_copy (c_size : Int32) (c_facts : Nat → Int32) (c_o_size : Int32) (c_o_facts : Nat → Int32) : (Int32) × (Nat → Int32) :=
  (c_o_size, g_cpy c_o_facts c_facts 30)
set_option maxHeartbeats 4000000 in
set_option maxRecDepth 100000 in
theorem k_X3_copy (l : Launch) (D : va_G) (cI : ClassId) (kA kV : Nat → Nat) (a_ a_facts a_o a_o_facts : Nat) (c_size : Int32) (c_facts : Nat → Int32) (c_o_size : Int32) (c_o_facts : Nat → Int32) :
    g_MV l D cI kA kV yX3_copy wsX3_copy { frames := 1, cells := 0, slots := 0, locals := 60 } [.ref a_, .ref a_o] [(a_, .inr (3, [.ref a_facts, .int c_size])), (a_facts, .inl (cI, 30, .inl c_facts)), (a_o, .inr (3, [.ref a_o_facts, .int c_o_size])), (a_o_facts, .inl (cI, 30, .inl c_o_facts))] (fun u : (Int32) × (Nat → Int32) => [(a_, .inr (3, [.ref a_facts, .int u.1])), (a_facts, .inl (cI, 30, .inl u.2)), (a_o, .inr (3, [.ref a_o_facts, .int c_o_size])), (a_o_facts, .inl (cI, 30, .inl c_o_facts))]) (fun u : (Int32) × (Nat → Int32) => u = f_X3_copy c_size c_facts c_o_size c_o_facts) := by
  obtain ⟨XX, hXX⟩ : ∃ z, z = f_X3_copy c_size c_facts c_o_size c_o_facts := ⟨_, rfl⟩
  have heq := hXX.trans (f_X3_copy.eq_def c_size c_facts c_o_size c_o_facts)
  refine g_startV (lv := [(0, .ref a_), (1, .ref a_o)]) RX3 rfl rfl rfl (Nat.le_of_ble_eq_true rfl) rfl (fun p e s m args below meth c AA QQ hAA hQQ X hr hmn => ?_)
  refine g_aload_n X 0 rfl rfl dX3_copy_0 ?_
  refine g_aload_n X 1 rfl rfl dX3_copy_1 ?_
  refine g_get (C := RX3) (T := TX3) (N := 2) (ci := 3) X hi_X3_copy_X3 2 rfl rfl 1 (by decide) (X.2.2.2.2.1 (.fieldLink RX3 15 "NineteenSecondsLeft$Squad" "size" "I") (List.mem_of_getElem? (i := 1) rfl)) rfl rfl dX3_copy_2 ?_
  refine g_put (C := RX3) (T := TX3) (N := 2) (ci := 3) (ws' := [(a_, .inr (3, [.ref a_facts, .int c_o_size])), (a_facts, .inl (cI, 30, .inl c_facts)), (a_o, .inr (3, [.ref a_o_facts, .int c_o_size])), (a_o_facts, .inl (cI, 30, .inl c_o_facts))]) X hi_X3_copy_X3 tyX3 tyX3_ok nmX3 0 rfl rfl 1 (by decide) (X.2.2.2.2.1 (.fieldLink RX3 15 "NineteenSecondsLeft$Squad" "size" "I") (List.mem_of_getElem? (i := 1) rfl)) rfl rfl rfl rfl (Nat.le_of_ble_eq_true rfl) dX3_copy_5 rfl ?_
  refine g_aload_n X 1 rfl rfl dX3_copy_8 ?_
  refine g_get (C := RX3) (T := TX3) (N := 2) (ci := 3) X hi_X3_copy_X3 2 rfl rfl 0 (by decide) (X.2.2.2.2.1 (.fieldLink RX3 9 "NineteenSecondsLeft$Squad" "facts" "[I") (List.mem_of_getElem? (i := 2) rfl)) rfl rfl dX3_copy_9 ?_
  refine g_iconst (v := 0) X (by decide) dX3_copy_12 ?_
  refine g_aload_n X 0 rfl rfl dX3_copy_13 ?_
  refine g_get (C := RX3) (T := TX3) (N := 2) (ci := 3) X hi_X3_copy_X3 0 rfl rfl 0 (by decide) (X.2.2.2.2.1 (.fieldLink RX3 9 "NineteenSecondsLeft$Squad" "facts" "[I") (List.mem_of_getElem? (i := 2) rfl)) rfl rfl dX3_copy_14 ?_
  refine g_iconst (v := 0) X (by decide) dX3_copy_17 ?_
  refine g_aload_n X 0 rfl rfl dX3_copy_18 ?_
  refine g_get (C := RX3) (T := TX3) (N := 2) (ci := 3) X hi_X3_copy_X3 0 rfl rfl 0 (by decide) (X.2.2.2.2.1 (.fieldLink RX3 9 "NineteenSecondsLeft$Squad" "facts" "[I") (List.mem_of_getElem? (i := 2) rfl)) rfl rfl dX3_copy_19 ?_
  refine g_alen (v := 30) X 1 rfl rfl dX3_copy_22 ?_
  refine g_acopy (N := 30) (ws' := [(a_, .inr (3, [.ref a_facts, .int c_o_size])), (a_facts, .inl (cI, 30, .inl (g_cpy c_o_facts c_facts 30))), (a_o, .inr (3, [.ref a_o_facts, .int c_o_size])), (a_o_facts, .inl (cI, 30, .inl c_o_facts))]) X (X.2.2.2.2.1 (.methodLink RX3 28 arraycopyName) (List.mem_of_getElem? (i := 3) rfl)) (X.2.2.2.2.1 (.native arraycopyName) (List.mem_of_getElem? (i := 4) rfl)) (X.2.2.2.2.1 (.static arraycopyName) (List.mem_of_getElem? (i := 5) rfl)) (X.2.2.2.2.1 (.initialized "java/lang/System") (List.mem_of_getElem? (i := 6) rfl)) 3 1 rfl rfl rfl (by decide) (by decide) (by decide) (Nat.le_of_ble_eq_true rfl) (by decide) dX3_copy_23 rfl ?_
  exact g_vret X hAA hQQ (c_o_size, g_cpy c_o_facts c_facts 30) (heq.symm.trans hXX) [0, 1, 2, 3] rfl rfl hr dX3_copy_26

def f_X3_tenths (c_facts : Nat → Int32) (p1 : Int32) (p2 : Int32) (p3 : Int32) : Int32 :=
  g_lt (f_X3_fact c_facts p1 (2 + p2)) (fun r5 => g_lt (f_X3_fact c_facts p1 (1 : Int32)) (fun r34 => (if r34 = 1 then g_minf (r5 + 1) (9 : Int32) else (if r34 = 2 then g_maxf (r5 - 1) (0 : Int32) else (if r34 = 3 then (if p2 = 0 then g_minf (r5 + 2) (9 : Int32) else (if p2 = 1 then 0 else r5)) else (if r34 = 4 then (if p3 ≤ 9 then g_maxf (r5 - 1) (0 : Int32) else r5) else (if r34 = 5 then (if p2 = 0 then g_minf (r5 + 1) (9 : Int32) else (if p2 = 1 then (g_minf (r5 + 1) (9 : Int32)) / 2 else r5)) else r5)))))))
set_option maxHeartbeats 4000000 in
set_option maxRecDepth 100000 in
theorem k_X3_tenths (l : Launch) (D : va_G) (cI : ClassId) (kA kV : Nat → Nat) (a_ a_facts : Nat) (c_size : Int32) (c_facts : Nat → Int32) (p1 : Int32) (p2 : Int32) (p3 : Int32) :
    g_MI l D cI kA kV yX3_tenths wsX3_tenths { frames := 1, cells := 0, slots := 0, locals := 23 } [.ref a_, .int p1, .int p2, .int p3] [(a_, .inr (3, [.ref a_facts, .int c_size])), (a_facts, .inl (cI, 30, .inl c_facts))] (fun u : Unit => [(a_, .inr (3, [.ref a_facts, .int c_size])), (a_facts, .inl (cI, 30, .inl c_facts))]) (fun (r : Int32) (u : Unit) => r = f_X3_tenths c_facts p1 p2 p3) := by
  obtain ⟨XX, hXX⟩ : ∃ z, z = f_X3_tenths c_facts p1 p2 p3 := ⟨_, rfl⟩
  have heq := hXX.trans (f_X3_tenths.eq_def c_facts p1 p2 p3)
  refine g_startI (lv := [(0, .ref a_), (1, .int p1), (2, .int p2), (3, .int p3)]) RX3 rfl rfl rfl (Nat.le_of_ble_eq_true rfl) rfl (fun p e s m args below meth c AA QQ hAA hQQ X hr hmn => ?_)
  refine g_aload_n X 0 rfl rfl dX3_tenths_0 ?_
  refine g_iload_n X 1 rfl rfl dX3_tenths_1 ?_
  refine g_iconst (v := 2) X (by decide) dX3_tenths_2 ?_
  refine g_iload_n X 2 rfl rfl dX3_tenths_3 ?_
  refine g_iadd X dX3_tenths_4 ?_
  refine g_callVi (C := RX3) (T := TX3) (N := 2) (ci := 3) (As := [.int p1, .int (2 + p2)]) (st := []) (wr := ([] : va_W)) X (k_X3_fact l D cI kA kV a_ a_facts c_size c_facts p1 (2 + p2)) (cwV 2 X.2.2.2.2.1 gX3_tenths_X3_fact rfl rfl rfl (by decide +kernel) ⟨Nat.le_of_ble_eq_true rfl, Nat.le_of_ble_eq_true rfl⟩) 0 rfl rfl [0, 1] [] rfl rfl rfl rfl (by decide) rfl (Nat.le_of_ble_eq_true rfl) ⟨Nat.le_of_ble_eq_true rfl, Nat.le_of_ble_eq_true rfl⟩ dX3_tenths_5 rfl (fun r5 u5 hw5 => ?_)
  have heq := g_let heq hw5
  refine g_istore (lv' := [(4, .int r5), (0, .ref a_), (1, .int p1), (2, .int p2), (3, .int p3)]) X (by decide) rfl dX3_tenths_8 ?_
  refine g_iload X 0 rfl dX3_tenths_10 ?_
  refine g_iconst (v := 1) X (by decide) dX3_tenths_12 ?_
  refine g_iadd X dX3_tenths_13 ?_
  refine g_bipush (v := 9) X (by decide) dX3_tenths_14 ?_
  refine g_mmin X (X.2.2.2.2.1 (.methodLink RX3 23 Lib.Math.min.name) (List.mem_of_getElem? (i := 1) rfl)) (X.2.2.2.2.1 (.static Lib.Math.min.name) (List.mem_of_getElem? (i := 2) rfl)) (X.2.2.2.2.1 (.initialized "java/lang/Math") (List.mem_of_getElem? (i := 3) rfl)) (X.2.2.2.2.1 (.code Lib.Math.min.name Lib.Math.min.code 2 (some .int)) (List.mem_of_getElem? (i := 4) rfl)) (Nat.le_of_ble_eq_true rfl) (Nat.le_of_ble_eq_true rfl) (Nat.le_of_ble_eq_true rfl) (Nat.le_of_ble_eq_true rfl) dX3_tenths_16 ?_
  refine g_istore (lv' := [(5, .int (g_minf (r5 + 1) (9 : Int32))), (4, .int r5), (0, .ref a_), (1, .int p1), (2, .int p2), (3, .int p3)]) X (by decide) rfl dX3_tenths_19 ?_
  refine g_iload X 1 rfl dX3_tenths_21 ?_
  refine g_iconst (v := 1) X (by decide) dX3_tenths_23 ?_
  refine g_isub X dX3_tenths_24 ?_
  refine g_iconst (v := 0) X (by decide) dX3_tenths_25 ?_
  refine g_mmax X (X.2.2.2.2.1 (.methodLink RX3 34 Lib.Math.max.name) (List.mem_of_getElem? (i := 5) rfl)) (X.2.2.2.2.1 (.static Lib.Math.max.name) (List.mem_of_getElem? (i := 6) rfl)) (X.2.2.2.2.1 (.initialized "java/lang/Math") (List.mem_of_getElem? (i := 3) rfl)) (X.2.2.2.2.1 (.code Lib.Math.max.name Lib.Math.max.code 2 (some .int)) (List.mem_of_getElem? (i := 7) rfl)) (Nat.le_of_ble_eq_true rfl) (Nat.le_of_ble_eq_true rfl) (Nat.le_of_ble_eq_true rfl) (Nat.le_of_ble_eq_true rfl) dX3_tenths_26 ?_
  refine g_istore (lv' := [(6, .int (g_maxf (r5 - 1) (0 : Int32))), (5, .int (g_minf (r5 + 1) (9 : Int32))), (4, .int r5), (0, .ref a_), (1, .int p1), (2, .int p2), (3, .int p3)]) X (by decide) rfl dX3_tenths_29 ?_
  refine g_aload_n X 3 rfl rfl dX3_tenths_31 ?_
  refine g_iload_n X 4 rfl rfl dX3_tenths_32 ?_
  refine g_iconst (v := 1) X (by decide) dX3_tenths_33 ?_
  refine g_callVi (C := RX3) (T := TX3) (N := 2) (ci := 3) (As := [.int p1, .int 1]) (st := []) (wr := ([] : va_W)) X (k_X3_fact l D cI kA kV a_ a_facts c_size c_facts p1 1) (cwV 2 X.2.2.2.2.1 gX3_tenths_X3_fact rfl rfl rfl (by decide +kernel) ⟨Nat.le_of_ble_eq_true rfl, Nat.le_of_ble_eq_true rfl⟩) 0 rfl rfl [0, 1] [] rfl rfl rfl rfl (by decide) rfl (Nat.le_of_ble_eq_true rfl) ⟨Nat.le_of_ble_eq_true rfl, Nat.le_of_ble_eq_true rfl⟩ dX3_tenths_34 rfl (fun r34 u34 hw34 => ?_)
  have heq := g_let heq hw34
  by_cases s37_0 : r34 = 1
  · refine g_tsHit (k := 1) X 72 dX3_tenths_37 s37_0 (by decide) (by decide) rfl (by decide) ?_
    have heq := heq.trans (if_pos s37_0)
    refine g_iload X 1 rfl dX3_tenths_72 ?_
    exact g_iret X hAA hQQ () (heq.symm.trans hXX) [0, 1] rfl rfl hr dX3_tenths_74
  have heq := heq.trans (if_neg s37_0)
  by_cases s37_1 : r34 = 2
  · refine g_tsHit (k := 2) X 75 dX3_tenths_37 s37_1 (by decide) (by decide) rfl (by decide) ?_
    have heq := heq.trans (if_pos s37_1)
    refine g_iload X 0 rfl dX3_tenths_75 ?_
    exact g_iret X hAA hQQ () (heq.symm.trans hXX) [0, 1] rfl rfl hr dX3_tenths_77
  have heq := heq.trans (if_neg s37_1)
  by_cases s37_2 : r34 = 3
  · refine g_tsHit (k := 3) X 78 dX3_tenths_37 s37_2 (by decide) (by decide) rfl (by decide) ?_
    have heq := heq.trans (if_pos s37_2)
    refine g_iload_n X 5 rfl rfl dX3_tenths_78 ?_
    refine g_if_ne X 94 dX3_tenths_79 (by decide) (fun c79 => ?_) (fun c79 => ?_)
    · have heq := heq.trans (if_neg c79)
      refine g_iload_n X 5 rfl rfl dX3_tenths_94 ?_
      refine g_iconst (v := 1) X (by decide) dX3_tenths_95 ?_
      refine g_icmp_ne X 103 dX3_tenths_96 (by decide) (fun c96 => ?_) (fun c96 => ?_)
      · have heq := heq.trans (if_neg c96)
        refine g_iload X 2 rfl dX3_tenths_103 ?_
        exact g_iret X hAA hQQ () (heq.symm.trans hXX) [0, 1] rfl rfl hr dX3_tenths_105
      · have heq := heq.trans (if_pos c96)
        refine g_iconst (v := 0) X (by decide) dX3_tenths_99 ?_
        refine g_goto (tgt := 105) X (by decide) dX3_tenths_100 ?_
        exact g_iret X hAA hQQ () (heq.symm.trans hXX) [0, 1] rfl rfl hr dX3_tenths_105
    · have heq := heq.trans (if_pos c79)
      refine g_iload X 2 rfl dX3_tenths_82 ?_
      refine g_iconst (v := 2) X (by decide) dX3_tenths_84 ?_
      refine g_iadd X dX3_tenths_85 ?_
      refine g_bipush (v := 9) X (by decide) dX3_tenths_86 ?_
      refine g_mmin X (X.2.2.2.2.1 (.methodLink RX3 23 Lib.Math.min.name) (List.mem_of_getElem? (i := 1) rfl)) (X.2.2.2.2.1 (.static Lib.Math.min.name) (List.mem_of_getElem? (i := 2) rfl)) (X.2.2.2.2.1 (.initialized "java/lang/Math") (List.mem_of_getElem? (i := 3) rfl)) (X.2.2.2.2.1 (.code Lib.Math.min.name Lib.Math.min.code 2 (some .int)) (List.mem_of_getElem? (i := 4) rfl)) (Nat.le_of_ble_eq_true rfl) (Nat.le_of_ble_eq_true rfl) (Nat.le_of_ble_eq_true rfl) (Nat.le_of_ble_eq_true rfl) dX3_tenths_88 ?_
      refine g_goto (tgt := 105) X (by decide) dX3_tenths_91 ?_
      exact g_iret X hAA hQQ () (heq.symm.trans hXX) [0, 1] rfl rfl hr dX3_tenths_105
  have heq := heq.trans (if_neg s37_2)
  by_cases s37_3 : r34 = 4
  · refine g_tsHit (k := 4) X 106 dX3_tenths_37 s37_3 (by decide) (by decide) rfl (by decide) ?_
    have heq := heq.trans (if_pos s37_3)
    refine g_iload_n X 6 rfl rfl dX3_tenths_106 ?_
    refine g_bipush (v := 9) X (by decide) dX3_tenths_107 ?_
    refine g_icmp_le X 117 dX3_tenths_109 (by decide) (fun c109 => ?_) (fun c109 => ?_)
    · have heq := heq.trans (if_pos c109)
      refine g_iload X 0 rfl dX3_tenths_117 ?_
      exact g_iret X hAA hQQ () (heq.symm.trans hXX) [0, 1] rfl rfl hr dX3_tenths_119
    · have heq := heq.trans (if_neg c109)
      refine g_iload X 2 rfl dX3_tenths_112 ?_
      refine g_goto (tgt := 119) X (by decide) dX3_tenths_114 ?_
      exact g_iret X hAA hQQ () (heq.symm.trans hXX) [0, 1] rfl rfl hr dX3_tenths_119
  have heq := heq.trans (if_neg s37_3)
  by_cases s37_4 : r34 = 5
  · refine g_tsHit (k := 5) X 120 dX3_tenths_37 s37_4 (by decide) (by decide) rfl (by decide) ?_
    have heq := heq.trans (if_pos s37_4)
    refine g_iload_n X 5 rfl rfl dX3_tenths_120 ?_
    refine g_if_ne X 129 dX3_tenths_121 (by decide) (fun c121 => ?_) (fun c121 => ?_)
    · have heq := heq.trans (if_neg c121)
      refine g_iload_n X 5 rfl rfl dX3_tenths_129 ?_
      refine g_iconst (v := 1) X (by decide) dX3_tenths_130 ?_
      refine g_icmp_ne X 141 dX3_tenths_131 (by decide) (fun c131 => ?_) (fun c131 => ?_)
      · have heq := heq.trans (if_neg c131)
        refine g_iload X 2 rfl dX3_tenths_141 ?_
        exact g_iret X hAA hQQ () (heq.symm.trans hXX) [0, 1] rfl rfl hr dX3_tenths_143
      · have heq := heq.trans (if_pos c131)
        refine g_iload X 1 rfl dX3_tenths_134 ?_
        refine g_iconst (v := 2) X (by decide) dX3_tenths_136 ?_
        refine g_idiv X (by decide) dX3_tenths_137 ?_
        refine g_goto (tgt := 143) X (by decide) dX3_tenths_138 ?_
        exact g_iret X hAA hQQ () (heq.symm.trans hXX) [0, 1] rfl rfl hr dX3_tenths_143
    · have heq := heq.trans (if_pos c121)
      refine g_iload X 1 rfl dX3_tenths_124 ?_
      refine g_goto (tgt := 143) X (by decide) dX3_tenths_126 ?_
      exact g_iret X hAA hQQ () (heq.symm.trans hXX) [0, 1] rfl rfl hr dX3_tenths_143
  have heq := heq.trans (if_neg s37_4)
  refine g_tsDef X 144 [1, 2, 3, 4, 5] dX3_tenths_37 (g_neC s37_0 (g_neC s37_1 (g_neC s37_2 (g_neC s37_3 (g_ne1 s37_4))))) (by decide) (by decide) (by decide) ?_
  refine g_iload X 2 rfl dX3_tenths_144 ?_
  exact g_iret X hAA hQQ () (heq.symm.trans hXX) [0, 1] rfl rfl hr dX3_tenths_146

theorem hi_X0_told_X0 : ∀ w ∈ wsX00, w ∈ wsX0_told := fun w h => List.mem_cons_of_mem _ (List.mem_append_right _ (h))
def f_X0_told (c_told : Nat → Int32) (p1 : Int32) : Int32 :=
  (if p1 < 0 then 0 else (if p1 < 10 then c_told p1.toNatClampNeg else 0))
set_option maxHeartbeats 4000000 in
set_option maxRecDepth 100000 in
theorem k_X0_told (l : Launch) (D : va_G) (cI : ClassId) (kA kV : Nat → Nat) (a_ a_told a_squad : Nat) (c_told : Nat → Int32) (p1 : Int32) :
    g_MI l D cI kA kV yX0_told wsX0_told { frames := 0, cells := 0, slots := 0, locals := 0 } [.ref a_, .int p1] [(a_, .inr (0, [.ref a_told, .ref a_squad])), (a_told, .inl (cI, 10, .inl c_told))] (fun u : Unit => [(a_, .inr (0, [.ref a_told, .ref a_squad])), (a_told, .inl (cI, 10, .inl c_told))]) (fun (r : Int32) (u : Unit) => r = f_X0_told c_told p1) := by
  obtain ⟨XX, hXX⟩ : ∃ z, z = f_X0_told c_told p1 := ⟨_, rfl⟩
  have heq := hXX.trans (f_X0_told.eq_def c_told p1)
  refine g_startI (lv := [(0, .ref a_), (1, .int p1)]) RX0 rfl rfl rfl (Nat.le_of_ble_eq_true rfl) rfl (fun p e s m args below meth c AA QQ hAA hQQ X hr hmn => ?_)
  refine g_iload_n X 1 rfl rfl dX0_told_0 ?_
  refine g_if_lt X 13 dX0_told_1 (by decide) (fun c1 => ?_) (fun c1 => ?_)
  · have heq := heq.trans (if_pos c1)
    refine g_iconst (v := 0) X (by decide) dX0_told_13 ?_
    refine g_goto (tgt := 23) X (by decide) dX0_told_14 ?_
    exact g_iret X hAA hQQ () (heq.symm.trans hXX) [0, 1] rfl rfl hr dX0_told_23
  · have heq := heq.trans (if_neg c1)
    refine g_iload_n X 1 rfl rfl dX0_told_4 ?_
    refine g_aload_n X 0 rfl rfl dX0_told_5 ?_
    refine g_get (C := RX0) (T := TX0) (N := 2) (ci := 0) X hi_X0_told_X0 0 rfl rfl 0 (by decide) (X.2.2.2.2.1 (.fieldLink RX0 9 "NineteenSecondsLeft$Hall" "told" "[I") (List.mem_of_getElem? (i := 1) rfl)) rfl rfl dX0_told_6 ?_
    refine g_alen (v := 10) X 1 rfl rfl dX0_told_9 ?_
    refine g_icmp_lt X 17 dX0_told_10 (by decide) (fun c10 => ?_) (fun c10 => ?_)
    · have heq := heq.trans (if_pos c10)
      refine g_aload_n X 0 rfl rfl dX0_told_17 ?_
      refine g_get (C := RX0) (T := TX0) (N := 2) (ci := 0) X hi_X0_told_X0 0 rfl rfl 0 (by decide) (X.2.2.2.2.1 (.fieldLink RX0 9 "NineteenSecondsLeft$Hall" "told" "[I") (List.mem_of_getElem? (i := 1) rfl)) rfl rfl dX0_told_18 ?_
      refine g_iload_n X 1 rfl rfl dX0_told_21 ?_
      refine g_iald X 1 rfl (g_vin (by decide) (g_n0 c1) c10) dX0_told_22 ?_
      exact g_iret X hAA hQQ () (heq.symm.trans hXX) [0, 1] rfl rfl hr dX0_told_23
    · have heq := heq.trans (if_neg c10)
      refine g_iconst (v := 0) X (by decide) dX0_told_13 ?_
      refine g_goto (tgt := 23) X (by decide) dX0_told_14 ?_
      exact g_iret X hAA hQQ () (heq.symm.trans hXX) [0, 1] rfl rfl hr dX0_told_23

theorem hi_X0_tell_X0 : ∀ w ∈ wsX00, w ∈ wsX0_tell := fun w h => List.mem_cons_of_mem _ (List.mem_append_right _ (h))
def f_X0_tell (c_told : Nat → Int32) (p1 : Int32) (p2 : Int32) : (Nat → Int32) :=
  (if p1 < 0 then c_told else (if 10 ≤ p1 then c_told else upd c_told p1.toNatClampNeg p2))
set_option maxHeartbeats 4000000 in
set_option maxRecDepth 100000 in
theorem k_X0_tell (l : Launch) (D : va_G) (cI : ClassId) (kA kV : Nat → Nat) (a_ a_told a_squad : Nat) (c_told : Nat → Int32) (p1 : Int32) (p2 : Int32) :
    g_MV l D cI kA kV yX0_tell wsX0_tell { frames := 0, cells := 0, slots := 0, locals := 0 } [.ref a_, .int p1, .int p2] [(a_, .inr (0, [.ref a_told, .ref a_squad])), (a_told, .inl (cI, 10, .inl c_told))] (fun u : (Nat → Int32) => [(a_, .inr (0, [.ref a_told, .ref a_squad])), (a_told, .inl (cI, 10, .inl u))]) (fun u : (Nat → Int32) => u = f_X0_tell c_told p1 p2) := by
  obtain ⟨XX, hXX⟩ : ∃ z, z = f_X0_tell c_told p1 p2 := ⟨_, rfl⟩
  have heq := hXX.trans (f_X0_tell.eq_def c_told p1 p2)
  refine g_startV (lv := [(0, .ref a_), (1, .int p1), (2, .int p2)]) RX0 rfl rfl rfl (Nat.le_of_ble_eq_true rfl) rfl (fun p e s m args below meth c AA QQ hAA hQQ X hr hmn => ?_)
  refine g_iload_n X 1 rfl rfl dX0_tell_0 ?_
  refine g_if_lt X 20 dX0_tell_1 (by decide) (fun c1 => ?_) (fun c1 => ?_)
  · have heq := heq.trans (if_pos c1)
    exact g_vret X hAA hQQ c_told (heq.symm.trans hXX) [0, 1] rfl rfl hr dX0_tell_20
  · have heq := heq.trans (if_neg c1)
    refine g_iload_n X 1 rfl rfl dX0_tell_4 ?_
    refine g_aload_n X 0 rfl rfl dX0_tell_5 ?_
    refine g_get (C := RX0) (T := TX0) (N := 2) (ci := 0) X hi_X0_tell_X0 0 rfl rfl 0 (by decide) (X.2.2.2.2.1 (.fieldLink RX0 9 "NineteenSecondsLeft$Hall" "told" "[I") (List.mem_of_getElem? (i := 1) rfl)) rfl rfl dX0_tell_6 ?_
    refine g_alen (v := 10) X 1 rfl rfl dX0_tell_9 ?_
    refine g_icmp_ge X 20 dX0_tell_10 (by decide) (fun c10 => ?_) (fun c10 => ?_)
    · have heq := heq.trans (if_pos c10)
      exact g_vret X hAA hQQ c_told (heq.symm.trans hXX) [0, 1] rfl rfl hr dX0_tell_20
    · have heq := heq.trans (if_neg c10)
      refine g_aload_n X 0 rfl rfl dX0_tell_13 ?_
      refine g_get (C := RX0) (T := TX0) (N := 2) (ci := 0) X hi_X0_tell_X0 0 rfl rfl 0 (by decide) (X.2.2.2.2.1 (.fieldLink RX0 9 "NineteenSecondsLeft$Hall" "told" "[I") (List.mem_of_getElem? (i := 1) rfl)) rfl rfl dX0_tell_14 ?_
      refine g_iload_n X 1 rfl rfl dX0_tell_17 ?_
      refine g_iload_n X 2 rfl rfl dX0_tell_18 ?_
      refine g_iast (ws' := [(a_, .inr (0, [.ref a_told, .ref a_squad])), (a_told, .inl (cI, 10, .inl (upd c_told p1.toNatClampNeg p2)))]) X 1 rfl (g_vin (by decide) (g_n0 c1) (g_nn c10)) dX0_tell_19 rfl ?_
      exact g_vret X hAA hQQ (upd c_told p1.toNatClampNeg p2) (heq.symm.trans hXX) [0, 1] rfl rfl hr dX0_tell_20

theorem hi_X0_copy_X0 : ∀ w ∈ wsX00, w ∈ wsX0_copy := fun w h => List.mem_cons_of_mem _ (List.mem_append_left _ (List.mem_append_right _ (h)))
def f_X0_copy (c_told : Nat → Int32) (c_squad_size : Int32) (c_squad_facts : Nat → Int32) (c_o_told : Nat → Int32) (c_o_squad_size : Int32) (c_o_squad_facts : Nat → Int32) : (Nat → Int32) × (Int32) × (Nat → Int32) :=
  g_lt (f_X3_copy c_squad_size c_squad_facts c_o_squad_size c_o_squad_facts) (fun u26 => (g_cpy c_o_told c_told 10, u26.1, u26.2))
set_option maxHeartbeats 4000000 in
set_option maxRecDepth 100000 in
theorem k_X0_copy (l : Launch) (D : va_G) (cI : ClassId) (kA kV : Nat → Nat) (a_ a_told a_squad a_squad_facts a_o a_o_told a_o_squad a_o_squad_facts : Nat) (c_told : Nat → Int32) (c_squad_size : Int32) (c_squad_facts : Nat → Int32) (c_o_told : Nat → Int32) (c_o_squad_size : Int32) (c_o_squad_facts : Nat → Int32) :
    g_MV l D cI kA kV yX0_copy wsX0_copy { frames := 2, cells := 0, slots := 0, locals := 81 } [.ref a_, .ref a_o] [(a_, .inr (0, [.ref a_told, .ref a_squad])), (a_told, .inl (cI, 10, .inl c_told)), (a_squad, .inr (3, [.ref a_squad_facts, .int c_squad_size])), (a_squad_facts, .inl (cI, 30, .inl c_squad_facts)), (a_o, .inr (0, [.ref a_o_told, .ref a_o_squad])), (a_o_told, .inl (cI, 10, .inl c_o_told)), (a_o_squad, .inr (3, [.ref a_o_squad_facts, .int c_o_squad_size])), (a_o_squad_facts, .inl (cI, 30, .inl c_o_squad_facts))] (fun u : (Nat → Int32) × (Int32) × (Nat → Int32) => [(a_, .inr (0, [.ref a_told, .ref a_squad])), (a_told, .inl (cI, 10, .inl u.1)), (a_squad, .inr (3, [.ref a_squad_facts, .int u.2.1])), (a_squad_facts, .inl (cI, 30, .inl u.2.2)), (a_o, .inr (0, [.ref a_o_told, .ref a_o_squad])), (a_o_told, .inl (cI, 10, .inl c_o_told)), (a_o_squad, .inr (3, [.ref a_o_squad_facts, .int c_o_squad_size])), (a_o_squad_facts, .inl (cI, 30, .inl c_o_squad_facts))]) (fun u : (Nat → Int32) × (Int32) × (Nat → Int32) => u = f_X0_copy c_told c_squad_size c_squad_facts c_o_told c_o_squad_size c_o_squad_facts) := by
  obtain ⟨XX, hXX⟩ : ∃ z, z = f_X0_copy c_told c_squad_size c_squad_facts c_o_told c_o_squad_size c_o_squad_facts := ⟨_, rfl⟩
  have heq := hXX.trans (f_X0_copy.eq_def c_told c_squad_size c_squad_facts c_o_told c_o_squad_size c_o_squad_facts)
  refine g_startV (lv := [(0, .ref a_), (1, .ref a_o)]) RX0 rfl rfl rfl (Nat.le_of_ble_eq_true rfl) rfl (fun p e s m args below meth c AA QQ hAA hQQ X hr hmn => ?_)
  refine g_aload_n X 1 rfl rfl dX0_copy_0 ?_
  refine g_get (C := RX0) (T := TX0) (N := 2) (ci := 0) X hi_X0_copy_X0 4 rfl rfl 0 (by decide) (X.2.2.2.2.1 (.fieldLink RX0 9 "NineteenSecondsLeft$Hall" "told" "[I") (List.mem_of_getElem? (i := 1) rfl)) rfl rfl dX0_copy_1 ?_
  refine g_iconst (v := 0) X (by decide) dX0_copy_4 ?_
  refine g_aload_n X 0 rfl rfl dX0_copy_5 ?_
  refine g_get (C := RX0) (T := TX0) (N := 2) (ci := 0) X hi_X0_copy_X0 0 rfl rfl 0 (by decide) (X.2.2.2.2.1 (.fieldLink RX0 9 "NineteenSecondsLeft$Hall" "told" "[I") (List.mem_of_getElem? (i := 1) rfl)) rfl rfl dX0_copy_6 ?_
  refine g_iconst (v := 0) X (by decide) dX0_copy_9 ?_
  refine g_aload_n X 0 rfl rfl dX0_copy_10 ?_
  refine g_get (C := RX0) (T := TX0) (N := 2) (ci := 0) X hi_X0_copy_X0 0 rfl rfl 0 (by decide) (X.2.2.2.2.1 (.fieldLink RX0 9 "NineteenSecondsLeft$Hall" "told" "[I") (List.mem_of_getElem? (i := 1) rfl)) rfl rfl dX0_copy_11 ?_
  refine g_alen (v := 10) X 1 rfl rfl dX0_copy_14 ?_
  refine g_acopy (N := 10) (ws' := [(a_, .inr (0, [.ref a_told, .ref a_squad])), (a_told, .inl (cI, 10, .inl (g_cpy c_o_told c_told 10))), (a_squad, .inr (3, [.ref a_squad_facts, .int c_squad_size])), (a_squad_facts, .inl (cI, 30, .inl c_squad_facts)), (a_o, .inr (0, [.ref a_o_told, .ref a_o_squad])), (a_o_told, .inl (cI, 10, .inl c_o_told)), (a_o_squad, .inr (3, [.ref a_o_squad_facts, .int c_o_squad_size])), (a_o_squad_facts, .inl (cI, 30, .inl c_o_squad_facts))]) X (X.2.2.2.2.1 (.methodLink RX0 22 arraycopyName) (List.mem_of_getElem? (i := 2) rfl)) (X.2.2.2.2.1 (.native arraycopyName) (List.mem_of_getElem? (i := 3) rfl)) (X.2.2.2.2.1 (.static arraycopyName) (List.mem_of_getElem? (i := 4) rfl)) (X.2.2.2.2.1 (.initialized "java/lang/System") (List.mem_of_getElem? (i := 5) rfl)) 5 1 rfl rfl rfl (by decide) (by decide) (by decide) (Nat.le_of_ble_eq_true rfl) (by decide) dX0_copy_15 rfl ?_
  refine g_aload_n X 0 rfl rfl dX0_copy_18 ?_
  refine g_get (C := RX0) (T := TX0) (N := 2) (ci := 0) X hi_X0_copy_X0 0 rfl rfl 1 (by decide) (X.2.2.2.2.1 (.fieldLink RX0 18 "NineteenSecondsLeft$Hall" "squad" "LNineteenSecondsLeft$Squad;") (List.mem_of_getElem? (i := 6) rfl)) rfl rfl dX0_copy_19 ?_
  refine g_aload_n X 1 rfl rfl dX0_copy_22 ?_
  refine g_get (C := RX0) (T := TX0) (N := 2) (ci := 0) X hi_X0_copy_X0 4 rfl rfl 1 (by decide) (X.2.2.2.2.1 (.fieldLink RX0 18 "NineteenSecondsLeft$Hall" "squad" "LNineteenSecondsLeft$Squad;") (List.mem_of_getElem? (i := 6) rfl)) rfl rfl dX0_copy_23 ?_
  refine g_callVv (C := RX3) (T := TX3) (N := 2) (ci := 3) (As := [.ref a_o_squad]) (st := []) (wr := [(a_, .inr (0, [.ref a_told, .ref a_squad])), (a_told, .inl (cI, 10, .inl (g_cpy c_o_told c_told 10))), (a_o, .inr (0, [.ref a_o_told, .ref a_o_squad])), (a_o_told, .inl (cI, 10, .inl c_o_told))]) X (k_X3_copy l D cI kA kV a_squad a_squad_facts a_o_squad a_o_squad_facts c_squad_size c_squad_facts c_o_squad_size c_o_squad_facts) (cwV 1 X.2.2.2.2.1 gX0_copy_X3_copy rfl rfl rfl (by decide +kernel) ⟨Nat.le_of_ble_eq_true rfl, Nat.le_of_ble_eq_true rfl⟩) 2 rfl rfl [2, 3, 6, 7] [0, 1, 4, 5] rfl rfl rfl rfl (by decide) rfl (Nat.le_of_ble_eq_true rfl) ⟨Nat.le_of_ble_eq_true rfl, Nat.le_of_ble_eq_true rfl⟩ dX0_copy_26 rfl (fun u26 hw26 => ?_)
  refine g_eqs (ws' := [(a_, .inr (0, [.ref a_told, .ref a_squad])), (a_told, .inl (cI, 10, .inl (g_cpy c_o_told c_told 10))), (a_o, .inr (0, [.ref a_o_told, .ref a_o_squad])), (a_o_told, .inl (cI, 10, .inl c_o_told)), (a_squad, .inr (3, [.ref a_squad_facts, .int u26.1])), (a_squad_facts, .inl (cI, 30, .inl u26.2)), (a_o_squad, .inr (3, [.ref a_o_squad_facts, .int c_o_squad_size])), (a_o_squad_facts, .inl (cI, 30, .inl c_o_squad_facts))]) rfl ?_
  have heq := g_let heq hw26
  exact g_vret X hAA hQQ (g_cpy c_o_told c_told 10, u26.1, u26.2) (heq.symm.trans hXX) [0, 1, 4, 5, 2, 3, 6, 7] rfl rfl hr dX0_copy_29

def f_X4_takes (p0 : Int32) : Int32 :=
  (if p0 < 0 then 0 else (if p0 < 4 then g_tabT.getD p0.toNatClampNeg 0 else 0))
set_option maxHeartbeats 4000000 in
set_option maxRecDepth 100000 in
theorem k_X4_takes (l : Launch) (D : va_G) (cI : ClassId) (kA kV : Nat → Nat) (p0 : Int32) :
    g_MI l D cI kA kV yX4_takes wsX4_takes { frames := 0, cells := 0, slots := 0, locals := 0 } [.int p0] [] (fun u : Unit => []) (fun (r : Int32) (u : Unit) => r = f_X4_takes p0) := by
  obtain ⟨XX, hXX⟩ : ∃ z, z = f_X4_takes p0 := ⟨_, rfl⟩
  have heq := hXX.trans (f_X4_takes.eq_def p0)
  refine g_startI (lv := [(0, .int p0)]) RX4 rfl rfl rfl (Nat.le_of_ble_eq_true rfl) rfl (fun p e s m args below meth c AA QQ hAA hQQ X hr hmn => ?_)
  refine g_iload_n X 0 rfl rfl dX4_takes_0 ?_
  refine g_if_lt X 12 dX4_takes_1 (by decide) (fun c1 => ?_) (fun c1 => ?_)
  · have heq := heq.trans (if_pos c1)
    refine g_iconst (v := 0) X (by decide) dX4_takes_12 ?_
    refine g_goto (tgt := 21) X (by decide) dX4_takes_13 ?_
    exact g_iret X hAA hQQ () (heq.symm.trans hXX) [] rfl rfl hr dX4_takes_21
  · have heq := heq.trans (if_neg c1)
    refine g_iload_n X 0 rfl rfl dX4_takes_4 ?_
    refine g_gsTAKES X (X.2.2.2.2.1 (.fieldLink RX4 202 "NineteenSecondsLeft" "TAKES" "[I") (List.mem_of_getElem? (i := 1) rfl)) dX4_takes_5 (fun t5 hT5 => ?_)
    refine g_talen (v := 4) X hT5 rfl dX4_takes_8 ?_
    refine g_icmp_lt X 16 dX4_takes_9 (by decide) (fun c9 => ?_) (fun c9 => ?_)
    · have heq := heq.trans (if_pos c9)
      refine g_gsTAKES X (X.2.2.2.2.1 (.fieldLink RX4 202 "NineteenSecondsLeft" "TAKES" "[I") (List.mem_of_getElem? (i := 1) rfl)) dX4_takes_16 (fun t16 hT16 => ?_)
      refine g_iload_n X 0 rfl rfl dX4_takes_19 ?_
      refine g_tald X hT16 (g_vin (by decide) (g_n0 c1) c9) dX4_takes_20 ?_
      exact g_iret X hAA hQQ () (heq.symm.trans hXX) [] rfl rfl hr dX4_takes_21
    · have heq := heq.trans (if_neg c9)
      refine g_iconst (v := 0) X (by decide) dX4_takes_12 ?_
      refine g_goto (tgt := 21) X (by decide) dX4_takes_13 ?_
      exact g_iret X hAA hQQ () (heq.symm.trans hXX) [] rfl rfl hr dX4_takes_21

def f_X4_mix (p0 : Int32) (p1 : Int32) (p2 : Int32) : Int32 :=
  (((p0.toInt64 * p1.toInt64) + (((10 - p0).toInt64) * p2.toInt64)) / (10 : Int64)).toInt32
set_option maxHeartbeats 4000000 in
set_option maxRecDepth 100000 in
theorem k_X4_mix (l : Launch) (D : va_G) (cI : ClassId) (kA kV : Nat → Nat) (p0 : Int32) (p1 : Int32) (p2 : Int32) :
    g_MI l D cI kA kV yX4_mix wsX4_mix { frames := 0, cells := 0, slots := 0, locals := 0 } [.int p0, .int p1, .int p2] [] (fun u : Unit => []) (fun (r : Int32) (u : Unit) => r = f_X4_mix p0 p1 p2) := by
  obtain ⟨XX, hXX⟩ : ∃ z, z = f_X4_mix p0 p1 p2 := ⟨_, rfl⟩
  have heq := hXX.trans (f_X4_mix.eq_def p0 p1 p2)
  refine g_startI (lv := [(0, .int p0), (1, .int p1), (2, .int p2)]) RX4 rfl rfl rfl (Nat.le_of_ble_eq_true rfl) rfl (fun p e s m args below meth c AA QQ hAA hQQ X hr hmn => ?_)
  refine g_iload_n X 0 rfl rfl dX4_mix_0 ?_
  refine g_i2l X dX4_mix_1 ?_
  refine g_iload_n X 1 rfl rfl dX4_mix_2 ?_
  refine g_i2l X dX4_mix_3 ?_
  refine g_lmul X dX4_mix_4 ?_
  refine g_bipush (v := 10) X (by decide) dX4_mix_5 ?_
  refine g_iload_n X 0 rfl rfl dX4_mix_7 ?_
  refine g_isub X dX4_mix_8 ?_
  refine g_i2l X dX4_mix_9 ?_
  refine g_iload_n X 2 rfl rfl dX4_mix_10 ?_
  refine g_i2l X dX4_mix_11 ?_
  refine g_lmul X dX4_mix_12 ?_
  refine g_ladd X dX4_mix_13 ?_
  refine g_ldc2 (v := 10) X (X.2.2.2.2.1 (.constantLong RX4 205 (10)) (List.mem_of_getElem? (i := 1) rfl)) dX4_mix_14 ?_
  refine g_ldiv X (by decide) dX4_mix_17 ?_
  refine g_l2i X dX4_mix_18 ?_
  exact g_iret X hAA hQQ () (heq.symm.trans hXX) [] rfl rfl hr dX4_mix_19

def f_X4_heldLead (p0 : Int32) : Int32 :=
  (if 0 ≤ p0 then (if p0 ≤ 12 then p0 else 12) else 0)
set_option maxHeartbeats 4000000 in
set_option maxRecDepth 100000 in
theorem k_X4_heldLead (l : Launch) (D : va_G) (cI : ClassId) (kA kV : Nat → Nat) (p0 : Int32) :
    g_MI l D cI kA kV yX4_heldLead wsX4_heldLead { frames := 0, cells := 0, slots := 0, locals := 0 } [.int p0] [] (fun u : Unit => []) (fun (r : Int32) (u : Unit) => r = f_X4_heldLead p0) := by
  obtain ⟨XX, hXX⟩ : ∃ z, z = f_X4_heldLead p0 := ⟨_, rfl⟩
  have heq := hXX.trans (f_X4_heldLead.eq_def p0)
  refine g_startI (lv := [(0, .int p0)]) RX4 rfl rfl rfl (Nat.le_of_ble_eq_true rfl) rfl (fun p e s m args below meth c AA QQ hAA hQQ X hr hmn => ?_)
  refine g_iload_n X 0 rfl rfl dX4_heldLead_0 ?_
  refine g_if_ge X 6 dX4_heldLead_1 (by decide) (fun c1 => ?_) (fun c1 => ?_)
  · have heq := heq.trans (if_pos c1)
    refine g_iload_n X 0 rfl rfl dX4_heldLead_6 ?_
    refine g_bipush (v := 12) X (by decide) dX4_heldLead_7 ?_
    refine g_icmp_le X 17 dX4_heldLead_9 (by decide) (fun c9 => ?_) (fun c9 => ?_)
    · have heq := heq.trans (if_pos c9)
      refine g_iload_n X 0 rfl rfl dX4_heldLead_17 ?_
      exact g_iret X hAA hQQ () (heq.symm.trans hXX) [] rfl rfl hr dX4_heldLead_18
    · have heq := heq.trans (if_neg c9)
      refine g_bipush (v := 12) X (by decide) dX4_heldLead_12 ?_
      refine g_goto (tgt := 18) X (by decide) dX4_heldLead_14 ?_
      exact g_iret X hAA hQQ () (heq.symm.trans hXX) [] rfl rfl hr dX4_heldLead_18
  · have heq := heq.trans (if_neg c1)
    refine g_iconst (v := 0) X (by decide) dX4_heldLead_4 ?_
    exact g_iret X hAA hQQ () (heq.symm.trans hXX) [] rfl rfl hr dX4_heldLead_5

def f_X4_outside (p0 : Int32) (p1 : Int32) : Int32 :=
  (if 0 ≤ p0 then (if p0 ≤ p1 then 0 else (-6)) else (-4))
set_option maxHeartbeats 4000000 in
set_option maxRecDepth 100000 in
theorem k_X4_outside (l : Launch) (D : va_G) (cI : ClassId) (kA kV : Nat → Nat) (p0 : Int32) (p1 : Int32) :
    g_MI l D cI kA kV yX4_outside wsX4_outside { frames := 0, cells := 0, slots := 0, locals := 0 } [.int p0, .int p1] [] (fun u : Unit => []) (fun (r : Int32) (u : Unit) => r = f_X4_outside p0 p1) := by
  obtain ⟨XX, hXX⟩ : ∃ z, z = f_X4_outside p0 p1 := ⟨_, rfl⟩
  have heq := hXX.trans (f_X4_outside.eq_def p0 p1)
  refine g_startI (lv := [(0, .int p0), (1, .int p1)]) RX4 rfl rfl rfl (Nat.le_of_ble_eq_true rfl) rfl (fun p e s m args below meth c AA QQ hAA hQQ X hr hmn => ?_)
  refine g_iload_n X 0 rfl rfl dX4_outside_0 ?_
  refine g_if_ge X 7 dX4_outside_1 (by decide) (fun c1 => ?_) (fun c1 => ?_)
  · have heq := heq.trans (if_pos c1)
    refine g_iload_n X 0 rfl rfl dX4_outside_7 ?_
    refine g_iload_n X 1 rfl rfl dX4_outside_8 ?_
    refine g_icmp_le X 17 dX4_outside_9 (by decide) (fun c9 => ?_) (fun c9 => ?_)
    · have heq := heq.trans (if_pos c9)
      refine g_iconst (v := 0) X (by decide) dX4_outside_17 ?_
      exact g_iret X hAA hQQ () (heq.symm.trans hXX) [] rfl rfl hr dX4_outside_18
    · have heq := heq.trans (if_neg c9)
      refine g_bipush (v := (-6)) X (by decide) dX4_outside_12 ?_
      refine g_goto (tgt := 18) X (by decide) dX4_outside_14 ?_
      exact g_iret X hAA hQQ () (heq.symm.trans hXX) [] rfl rfl hr dX4_outside_18
  · have heq := heq.trans (if_neg c1)
    refine g_bipush (v := (-4)) X (by decide) dX4_outside_4 ?_
    exact g_iret X hAA hQQ () (heq.symm.trans hXX) [] rfl rfl hr dX4_outside_6

def f_X4_outsideState (p0 : Int32) (p1 : Int32) (p2 : Int32) : Int32 :=
  (if p0 < 0 then (-4) else (if p1 < 0 then (-4) else (if 0 ≤ p2 then (if 24 < p0 then (-6) else (if 12 < p1 then (-6) else (if p2 ≤ 1 then 0 else (-6)))) else (-4))))
set_option maxHeartbeats 4000000 in
set_option maxRecDepth 100000 in
theorem k_X4_outsideState (l : Launch) (D : va_G) (cI : ClassId) (kA kV : Nat → Nat) (p0 : Int32) (p1 : Int32) (p2 : Int32) :
    g_MI l D cI kA kV yX4_outsideState wsX4_outsideState { frames := 0, cells := 0, slots := 0, locals := 0 } [.int p0, .int p1, .int p2] [] (fun u : Unit => []) (fun (r : Int32) (u : Unit) => r = f_X4_outsideState p0 p1 p2) := by
  obtain ⟨XX, hXX⟩ : ∃ z, z = f_X4_outsideState p0 p1 p2 := ⟨_, rfl⟩
  have heq := hXX.trans (f_X4_outsideState.eq_def p0 p1 p2)
  refine g_startI (lv := [(0, .int p0), (1, .int p1), (2, .int p2)]) RX4 rfl rfl rfl (Nat.le_of_ble_eq_true rfl) rfl (fun p e s m args below meth c AA QQ hAA hQQ X hr hmn => ?_)
  refine g_iload_n X 0 rfl rfl dX4_outsideState_0 ?_
  refine g_if_lt X 12 dX4_outsideState_1 (by decide) (fun c1 => ?_) (fun c1 => ?_)
  · have heq := heq.trans (if_pos c1)
    refine g_bipush (v := (-4)) X (by decide) dX4_outsideState_12 ?_
    exact g_iret X hAA hQQ () (heq.symm.trans hXX) [] rfl rfl hr dX4_outsideState_14
  · have heq := heq.trans (if_neg c1)
    refine g_iload_n X 1 rfl rfl dX4_outsideState_4 ?_
    refine g_if_lt X 12 dX4_outsideState_5 (by decide) (fun c5 => ?_) (fun c5 => ?_)
    · have heq := heq.trans (if_pos c5)
      refine g_bipush (v := (-4)) X (by decide) dX4_outsideState_12 ?_
      exact g_iret X hAA hQQ () (heq.symm.trans hXX) [] rfl rfl hr dX4_outsideState_14
    · have heq := heq.trans (if_neg c5)
      refine g_iload_n X 2 rfl rfl dX4_outsideState_8 ?_
      refine g_if_ge X 15 dX4_outsideState_9 (by decide) (fun c9 => ?_) (fun c9 => ?_)
      · have heq := heq.trans (if_pos c9)
        refine g_iload_n X 0 rfl rfl dX4_outsideState_15 ?_
        refine g_bipush (v := 24) X (by decide) dX4_outsideState_16 ?_
        refine g_icmp_gt X 32 dX4_outsideState_18 (by decide) (fun c18 => ?_) (fun c18 => ?_)
        · have heq := heq.trans (if_pos c18)
          refine g_bipush (v := (-6)) X (by decide) dX4_outsideState_32 ?_
          refine g_goto (tgt := 38) X (by decide) dX4_outsideState_34 ?_
          exact g_iret X hAA hQQ () (heq.symm.trans hXX) [] rfl rfl hr dX4_outsideState_38
        · have heq := heq.trans (if_neg c18)
          refine g_iload_n X 1 rfl rfl dX4_outsideState_21 ?_
          refine g_bipush (v := 12) X (by decide) dX4_outsideState_22 ?_
          refine g_icmp_gt X 32 dX4_outsideState_24 (by decide) (fun c24 => ?_) (fun c24 => ?_)
          · have heq := heq.trans (if_pos c24)
            refine g_bipush (v := (-6)) X (by decide) dX4_outsideState_32 ?_
            refine g_goto (tgt := 38) X (by decide) dX4_outsideState_34 ?_
            exact g_iret X hAA hQQ () (heq.symm.trans hXX) [] rfl rfl hr dX4_outsideState_38
          · have heq := heq.trans (if_neg c24)
            refine g_iload_n X 2 rfl rfl dX4_outsideState_27 ?_
            refine g_iconst (v := 1) X (by decide) dX4_outsideState_28 ?_
            refine g_icmp_le X 37 dX4_outsideState_29 (by decide) (fun c29 => ?_) (fun c29 => ?_)
            · have heq := heq.trans (if_pos c29)
              refine g_iconst (v := 0) X (by decide) dX4_outsideState_37 ?_
              exact g_iret X hAA hQQ () (heq.symm.trans hXX) [] rfl rfl hr dX4_outsideState_38
            · have heq := heq.trans (if_neg c29)
              refine g_bipush (v := (-6)) X (by decide) dX4_outsideState_32 ?_
              refine g_goto (tgt := 38) X (by decide) dX4_outsideState_34 ?_
              exact g_iret X hAA hQQ () (heq.symm.trans hXX) [] rfl rfl hr dX4_outsideState_38
      · have heq := heq.trans (if_neg c9)
        refine g_bipush (v := (-4)) X (by decide) dX4_outsideState_12 ?_
        exact g_iret X hAA hQQ () (heq.symm.trans hXX) [] rfl rfl hr dX4_outsideState_14
