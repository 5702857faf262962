theorem hi_X1_init_X3 : ∀ w ∈ wsX30, w ∈ wsX1_init := fun w h => List.mem_cons_of_mem _ (List.mem_append_left _ (List.mem_append_right _ (h)))
theorem hi_X1_init_X1 : ∀ w ∈ wsX10, w ∈ wsX1_init := fun w h => List.mem_cons_of_mem _ (List.mem_append_right _ (h))
set_option maxHeartbeats 4000000 in
set_option maxRecDepth 100000 in
theorem k_X1_init (l : Launch) (D : va_G) (cI : ClassId) (kA kV : Nat → Nat) (a_ : Nat) :
    g_MV l D cI kA kV yX1_init wsX1_init { frames := 2, cells := 8, slots := 1362, locals := 32 } [.ref a_] [(a_, .inr (1, [.null, .null, .int 0, .int 0, .int 0, .null, .null, .int 0, .null, .null, .null]))] (fun u : Nat × Nat × Nat × Nat × Nat × Nat × Nat × Nat => [(a_, .inr (1, [.ref u.1, .ref u.2.2.1, .int 3, .int 0, .int 5, .ref u.2.2.2.1, .ref u.2.2.2.2.1, .int 0, .ref u.2.2.2.2.2.1, .ref u.2.2.2.2.2.2.1, .ref u.2.2.2.2.2.2.2])), (u.1, .inr (3, [.ref u.2.1, .int 0])), (u.2.1, .inl (cI, 30, .inl (fun _ => 0))), (u.2.2.1, .inl (cI, 6, .inl (fun _ => 0))), (u.2.2.2.1, .inl (cI, 650, .inl (fun _ => 0))), (u.2.2.2.2.1, .inl (cI, 650, .inl (fun _ => 0))), (u.2.2.2.2.2.1, .inl (cI, 18, .inl (fun _ => 0))), (u.2.2.2.2.2.2.1, .inl (cI, 3, .inl (fun _ => 0))), (u.2.2.2.2.2.2.2, .inl (cI, 3, .inl (fun _ => 0)))]) (fun _ => True) := by
  refine g_startV (lv := [(0, .ref a_)]) RX1 rfl rfl rfl (Nat.le_of_ble_eq_true rfl) rfl (fun p e s m args below meth c AA QQ hAA hQQ X hr hmn => ?_)
  refine g_aload_n X 0 rfl rfl dX1_init_0 ?_
  refine g_obj X (X.2.2.2.2.1 (.methodLink RX1 3 objectInit) (List.mem_of_getElem? (i := 1) rfl)) (X.2.2.2.2.1 (.instanceMethod objectInit) (List.mem_of_getElem? (i := 2) rfl)) (X.2.2.2.2.1 (.code objectInit ⟨#[0xb1]⟩ 1 none) (List.mem_of_getElem? (i := 3) rfl)) dX1_init_1 (Nat.le_of_ble_eq_true rfl) (Nat.le_of_ble_eq_true rfl) ?_
  refine g_aload_n X 0 rfl rfl dX1_init_4 ?_
  refine g_new (C := RX3) (T := TX3) (N := 2) (ci := 3) X [.null, .int 0] hi_X1_init_X3 tyX3 tyX3_ok (X.2.2.2.2.1 (.classLink RX1 9 RX3) (List.mem_of_getElem? (i := 4) rfl)) (X.2.2.2.2.1 (.instantiable RX3 2) (List.mem_of_getElem? (i := 5) rfl)) (X.2.2.2.2.1 (.initialized RX3) (List.mem_of_getElem? (i := 6) rfl)) rfl (by decide +kernel) (Nat.le_of_ble_eq_true rfl) (Nat.le_of_ble_eq_true rfl) dX1_init_5 (fun q5 => ?_)
  refine g_eqs (ws' := [(a_, .inr (1, [.null, .null, .int 0, .int 0, .int 0, .null, .null, .int 0, .null, .null, .null])), (q5, .inr (3, [.null, .int 0]))]) rfl ?_
  refine g_dup X rfl dX1_init_8 ?_
  refine g_callJv (host := "NineteenSecondsLeft") (As := []) (st := [.ref q5, .ref a_]) (wr := [(a_, .inr (1, [.null, .null, .int 0, .int 0, .int 0, .null, .null, .int 0, .null, .null, .null]))]) X (k_X3_init l D cI kA kV q5) ⟨va_cnB 0 X.2.2.2.2.1 gX1_init_X3_init_n11 rfl rfl rfl ((g_nl X).1 (RX1, 11, yX3_init) (List.mem_of_getElem? (i := 4) rfl)) (X.2.2.2.2.1 (.initialized RX3) (List.mem_of_getElem? (i := 6) rfl)) (by decide +kernel) ⟨Nat.le_of_ble_eq_true rfl, Nat.le_of_ble_eq_true rfl⟩, rfl, (X.2.2.2.2.1 (.instanceMethod yX3_init) (List.mem_of_getElem? (i := 19) rfl))⟩ [1] [0] rfl rfl rfl rfl (by decide) rfl (Nat.le_of_ble_eq_true rfl) ⟨Nat.le_of_ble_eq_true rfl, Nat.le_of_ble_eq_true rfl⟩ dX1_init_9 rfl (fun u9 hw9 => ?_)
  refine g_eqs (ws' := [(a_, .inr (1, [.null, .null, .int 0, .int 0, .int 0, .null, .null, .int 0, .null, .null, .null])), (q5, .inr (3, [.ref u9, .int 0])), (u9, .inl (cI, 30, .inl (fun _ => 0)))]) rfl ?_
  refine g_putF (C := RX1) (T := TX1) (N := 11) (ci := 1) (ws' := [(a_, .inr (1, [.ref q5, .null, .int 0, .int 0, .int 0, .null, .null, .int 0, .null, .null, .null])), (q5, .inr (3, [.ref u9, .int 0])), (u9, .inl (cI, 30, .inl (fun _ => 0)))]) X hi_X1_init_X1 tyX1 tyX1_ok nmX1 0 rfl rfl 0 (by decide) (X.2.2.2.2.1 (.fieldLink RX1 12 "NineteenSecondsLeft$Lamp" "squad" "LNineteenSecondsLeft$Squad;") (List.mem_of_getElem? (i := 7) rfl)) rfl rfl hmn rfl rfl rfl (Nat.le_of_ble_eq_true rfl) dX1_init_12 rfl ?_
  refine g_aload_n X 0 rfl rfl dX1_init_15 ?_
  refine g_bipush (v := 6) X (by decide) dX1_init_16 ?_
  refine g_newarr X 6 (X.2.2.2.2.1 (.arrayClass .int) (List.mem_of_getElem? (i := 8) rfl)) (by decide) (by decide) (Nat.le_of_ble_eq_true rfl) (Nat.le_of_ble_eq_true rfl) (Nat.le_of_ble_eq_true rfl) dX1_init_18 (fun q18 => ?_)
  refine g_eqs (ws' := [(a_, .inr (1, [.ref q5, .null, .int 0, .int 0, .int 0, .null, .null, .int 0, .null, .null, .null])), (q5, .inr (3, [.ref u9, .int 0])), (u9, .inl (cI, 30, .inl (fun _ => 0))), (q18, .inl (cI, 6, .inl (fun _ => 0)))]) rfl ?_
  refine g_putF (C := RX1) (T := TX1) (N := 11) (ci := 1) (ws' := [(a_, .inr (1, [.ref q5, .ref q18, .int 0, .int 0, .int 0, .null, .null, .int 0, .null, .null, .null])), (q5, .inr (3, [.ref u9, .int 0])), (u9, .inl (cI, 30, .inl (fun _ => 0))), (q18, .inl (cI, 6, .inl (fun _ => 0)))]) X hi_X1_init_X1 tyX1 tyX1_ok nmX1 0 rfl rfl 1 (by decide) (X.2.2.2.2.1 (.fieldLink RX1 18 "NineteenSecondsLeft$Lamp" "changes" "[I") (List.mem_of_getElem? (i := 9) rfl)) rfl rfl hmn rfl rfl rfl (Nat.le_of_ble_eq_true rfl) dX1_init_20 rfl ?_
  refine g_aload_n X 0 rfl rfl dX1_init_23 ?_
  refine g_iconst (v := 3) X (by decide) dX1_init_24 ?_
  refine g_put (C := RX1) (T := TX1) (N := 11) (ci := 1) (ws' := [(a_, .inr (1, [.ref q5, .ref q18, .int 3, .int 0, .int 0, .null, .null, .int 0, .null, .null, .null])), (q5, .inr (3, [.ref u9, .int 0])), (u9, .inl (cI, 30, .inl (fun _ => 0))), (q18, .inl (cI, 6, .inl (fun _ => 0)))]) X hi_X1_init_X1 tyX1 tyX1_ok nmX1 0 rfl rfl 2 (by decide) (X.2.2.2.2.1 (.fieldLink RX1 22 "NineteenSecondsLeft$Lamp" "reboundTenths" "I") (List.mem_of_getElem? (i := 10) rfl)) rfl rfl rfl rfl (Nat.le_of_ble_eq_true rfl) dX1_init_25 rfl ?_
  refine g_aload_n X 0 rfl rfl dX1_init_28 ?_
  refine g_iconst (v := 0) X (by decide) dX1_init_29 ?_
  refine g_put (C := RX1) (T := TX1) (N := 11) (ci := 1) (ws' := [(a_, .inr (1, [.ref q5, .ref q18, .int 3, .int 0, .int 0, .null, .null, .int 0, .null, .null, .null])), (q5, .inr (3, [.ref u9, .int 0])), (u9, .inl (cI, 30, .inl (fun _ => 0))), (q18, .inl (cI, 6, .inl (fun _ => 0)))]) X hi_X1_init_X1 tyX1 tyX1_ok nmX1 0 rfl rfl 3 (by decide) (X.2.2.2.2.1 (.fieldLink RX1 26 "NineteenSecondsLeft$Lamp" "lawInForce" "I") (List.mem_of_getElem? (i := 11) rfl)) rfl rfl rfl rfl (Nat.le_of_ble_eq_true rfl) dX1_init_30 rfl ?_
  refine g_aload_n X 0 rfl rfl dX1_init_33 ?_
  refine g_iconst (v := 5) X (by decide) dX1_init_34 ?_
  refine g_put (C := RX1) (T := TX1) (N := 11) (ci := 1) (ws' := [(a_, .inr (1, [.ref q5, .ref q18, .int 3, .int 0, .int 5, .null, .null, .int 0, .null, .null, .null])), (q5, .inr (3, [.ref u9, .int 0])), (u9, .inl (cI, 30, .inl (fun _ => 0))), (q18, .inl (cI, 6, .inl (fun _ => 0)))]) X hi_X1_init_X1 tyX1 tyX1_ok nmX1 0 rfl rfl 4 (by decide) (X.2.2.2.2.1 (.fieldLink RX1 29 "NineteenSecondsLeft$Lamp" "drawTenths" "I") (List.mem_of_getElem? (i := 12) rfl)) rfl rfl rfl rfl (Nat.le_of_ble_eq_true rfl) dX1_init_35 rfl ?_
  refine g_aload_n X 0 rfl rfl dX1_init_38 ?_
  refine g_sipush (v := 650) X (by decide) dX1_init_39 ?_
  refine g_newarr X 650 (X.2.2.2.2.1 (.arrayClass .int) (List.mem_of_getElem? (i := 8) rfl)) (by decide) (by decide) (Nat.le_of_ble_eq_true rfl) (Nat.le_of_ble_eq_true rfl) (Nat.le_of_ble_eq_true rfl) dX1_init_42 (fun q42 => ?_)
  refine g_eqs (ws' := [(a_, .inr (1, [.ref q5, .ref q18, .int 3, .int 0, .int 5, .null, .null, .int 0, .null, .null, .null])), (q5, .inr (3, [.ref u9, .int 0])), (u9, .inl (cI, 30, .inl (fun _ => 0))), (q18, .inl (cI, 6, .inl (fun _ => 0))), (q42, .inl (cI, 650, .inl (fun _ => 0)))]) rfl ?_
  refine g_putF (C := RX1) (T := TX1) (N := 11) (ci := 1) (ws' := [(a_, .inr (1, [.ref q5, .ref q18, .int 3, .int 0, .int 5, .ref q42, .null, .int 0, .null, .null, .null])), (q5, .inr (3, [.ref u9, .int 0])), (u9, .inl (cI, 30, .inl (fun _ => 0))), (q18, .inl (cI, 6, .inl (fun _ => 0))), (q42, .inl (cI, 650, .inl (fun _ => 0)))]) X hi_X1_init_X1 tyX1 tyX1_ok nmX1 0 rfl rfl 5 (by decide) (X.2.2.2.2.1 (.fieldLink RX1 32 "NineteenSecondsLeft$Lamp" "values" "[I") (List.mem_of_getElem? (i := 13) rfl)) rfl rfl hmn rfl rfl rfl (Nat.le_of_ble_eq_true rfl) dX1_init_44 rfl ?_
  refine g_aload_n X 0 rfl rfl dX1_init_47 ?_
  refine g_sipush (v := 650) X (by decide) dX1_init_48 ?_
  refine g_newarr X 650 (X.2.2.2.2.1 (.arrayClass .int) (List.mem_of_getElem? (i := 8) rfl)) (by decide) (by decide) (Nat.le_of_ble_eq_true rfl) (Nat.le_of_ble_eq_true rfl) (Nat.le_of_ble_eq_true rfl) dX1_init_51 (fun q51 => ?_)
  refine g_eqs (ws' := [(a_, .inr (1, [.ref q5, .ref q18, .int 3, .int 0, .int 5, .ref q42, .null, .int 0, .null, .null, .null])), (q5, .inr (3, [.ref u9, .int 0])), (u9, .inl (cI, 30, .inl (fun _ => 0))), (q18, .inl (cI, 6, .inl (fun _ => 0))), (q42, .inl (cI, 650, .inl (fun _ => 0))), (q51, .inl (cI, 650, .inl (fun _ => 0)))]) rfl ?_
  refine g_putF (C := RX1) (T := TX1) (N := 11) (ci := 1) (ws' := [(a_, .inr (1, [.ref q5, .ref q18, .int 3, .int 0, .int 5, .ref q42, .ref q51, .int 0, .null, .null, .null])), (q5, .inr (3, [.ref u9, .int 0])), (u9, .inl (cI, 30, .inl (fun _ => 0))), (q18, .inl (cI, 6, .inl (fun _ => 0))), (q42, .inl (cI, 650, .inl (fun _ => 0))), (q51, .inl (cI, 650, .inl (fun _ => 0)))]) X hi_X1_init_X1 tyX1 tyX1_ok nmX1 0 rfl rfl 6 (by decide) (X.2.2.2.2.1 (.fieldLink RX1 35 "NineteenSecondsLeft$Lamp" "bests" "[I") (List.mem_of_getElem? (i := 14) rfl)) rfl rfl hmn rfl rfl rfl (Nat.le_of_ble_eq_true rfl) dX1_init_53 rfl ?_
  refine g_aload_n X 0 rfl rfl dX1_init_56 ?_
  refine g_iconst (v := 0) X (by decide) dX1_init_57 ?_
  refine g_put (C := RX1) (T := TX1) (N := 11) (ci := 1) (ws' := [(a_, .inr (1, [.ref q5, .ref q18, .int 3, .int 0, .int 5, .ref q42, .ref q51, .int 0, .null, .null, .null])), (q5, .inr (3, [.ref u9, .int 0])), (u9, .inl (cI, 30, .inl (fun _ => 0))), (q18, .inl (cI, 6, .inl (fun _ => 0))), (q42, .inl (cI, 650, .inl (fun _ => 0))), (q51, .inl (cI, 650, .inl (fun _ => 0)))]) X hi_X1_init_X1 tyX1 tyX1_ok nmX1 0 rfl rfl 7 (by decide) (X.2.2.2.2.1 (.fieldLink RX1 38 "NineteenSecondsLeft$Lamp" "solvedRows" "I") (List.mem_of_getElem? (i := 15) rfl)) rfl rfl rfl rfl (Nat.le_of_ble_eq_true rfl) dX1_init_58 rfl ?_
  refine g_aload_n X 0 rfl rfl dX1_init_61 ?_
  refine g_bipush (v := 18) X (by decide) dX1_init_62 ?_
  refine g_newarr X 18 (X.2.2.2.2.1 (.arrayClass .int) (List.mem_of_getElem? (i := 8) rfl)) (by decide) (by decide) (Nat.le_of_ble_eq_true rfl) (Nat.le_of_ble_eq_true rfl) (Nat.le_of_ble_eq_true rfl) dX1_init_64 (fun q64 => ?_)
  refine g_eqs (ws' := [(a_, .inr (1, [.ref q5, .ref q18, .int 3, .int 0, .int 5, .ref q42, .ref q51, .int 0, .null, .null, .null])), (q5, .inr (3, [.ref u9, .int 0])), (u9, .inl (cI, 30, .inl (fun _ => 0))), (q18, .inl (cI, 6, .inl (fun _ => 0))), (q42, .inl (cI, 650, .inl (fun _ => 0))), (q51, .inl (cI, 650, .inl (fun _ => 0))), (q64, .inl (cI, 18, .inl (fun _ => 0)))]) rfl ?_
  refine g_putF (C := RX1) (T := TX1) (N := 11) (ci := 1) (ws' := [(a_, .inr (1, [.ref q5, .ref q18, .int 3, .int 0, .int 5, .ref q42, .ref q51, .int 0, .ref q64, .null, .null])), (q5, .inr (3, [.ref u9, .int 0])), (u9, .inl (cI, 30, .inl (fun _ => 0))), (q18, .inl (cI, 6, .inl (fun _ => 0))), (q42, .inl (cI, 650, .inl (fun _ => 0))), (q51, .inl (cI, 650, .inl (fun _ => 0))), (q64, .inl (cI, 18, .inl (fun _ => 0)))]) X hi_X1_init_X1 tyX1 tyX1_ok nmX1 0 rfl rfl 8 (by decide) (X.2.2.2.2.1 (.fieldLink RX1 41 "NineteenSecondsLeft$Lamp" "rowTenths" "[I") (List.mem_of_getElem? (i := 16) rfl)) rfl rfl hmn rfl rfl rfl (Nat.le_of_ble_eq_true rfl) dX1_init_66 rfl ?_
  refine g_aload_n X 0 rfl rfl dX1_init_69 ?_
  refine g_iconst (v := 3) X (by decide) dX1_init_70 ?_
  refine g_newarr X 3 (X.2.2.2.2.1 (.arrayClass .int) (List.mem_of_getElem? (i := 8) rfl)) (by decide) (by decide) (Nat.le_of_ble_eq_true rfl) (Nat.le_of_ble_eq_true rfl) (Nat.le_of_ble_eq_true rfl) dX1_init_71 (fun q71 => ?_)
  refine g_eqs (ws' := [(a_, .inr (1, [.ref q5, .ref q18, .int 3, .int 0, .int 5, .ref q42, .ref q51, .int 0, .ref q64, .null, .null])), (q5, .inr (3, [.ref u9, .int 0])), (u9, .inl (cI, 30, .inl (fun _ => 0))), (q18, .inl (cI, 6, .inl (fun _ => 0))), (q42, .inl (cI, 650, .inl (fun _ => 0))), (q51, .inl (cI, 650, .inl (fun _ => 0))), (q64, .inl (cI, 18, .inl (fun _ => 0))), (q71, .inl (cI, 3, .inl (fun _ => 0)))]) rfl ?_
  refine g_putF (C := RX1) (T := TX1) (N := 11) (ci := 1) (ws' := [(a_, .inr (1, [.ref q5, .ref q18, .int 3, .int 0, .int 5, .ref q42, .ref q51, .int 0, .ref q64, .ref q71, .null])), (q5, .inr (3, [.ref u9, .int 0])), (u9, .inl (cI, 30, .inl (fun _ => 0))), (q18, .inl (cI, 6, .inl (fun _ => 0))), (q42, .inl (cI, 650, .inl (fun _ => 0))), (q51, .inl (cI, 650, .inl (fun _ => 0))), (q64, .inl (cI, 18, .inl (fun _ => 0))), (q71, .inl (cI, 3, .inl (fun _ => 0)))]) X hi_X1_init_X1 tyX1 tyX1_ok nmX1 0 rfl rfl 9 (by decide) (X.2.2.2.2.1 (.fieldLink RX1 44 "NineteenSecondsLeft$Lamp" "hitValues" "[I") (List.mem_of_getElem? (i := 17) rfl)) rfl rfl hmn rfl rfl rfl (Nat.le_of_ble_eq_true rfl) dX1_init_73 rfl ?_
  refine g_aload_n X 0 rfl rfl dX1_init_76 ?_
  refine g_iconst (v := 3) X (by decide) dX1_init_77 ?_
  refine g_newarr X 3 (X.2.2.2.2.1 (.arrayClass .int) (List.mem_of_getElem? (i := 8) rfl)) (by decide) (by decide) (Nat.le_of_ble_eq_true rfl) (Nat.le_of_ble_eq_true rfl) (Nat.le_of_ble_eq_true rfl) dX1_init_78 (fun q78 => ?_)
  refine g_eqs (ws' := [(a_, .inr (1, [.ref q5, .ref q18, .int 3, .int 0, .int 5, .ref q42, .ref q51, .int 0, .ref q64, .ref q71, .null])), (q5, .inr (3, [.ref u9, .int 0])), (u9, .inl (cI, 30, .inl (fun _ => 0))), (q18, .inl (cI, 6, .inl (fun _ => 0))), (q42, .inl (cI, 650, .inl (fun _ => 0))), (q51, .inl (cI, 650, .inl (fun _ => 0))), (q64, .inl (cI, 18, .inl (fun _ => 0))), (q71, .inl (cI, 3, .inl (fun _ => 0))), (q78, .inl (cI, 3, .inl (fun _ => 0)))]) rfl ?_
  refine g_putF (C := RX1) (T := TX1) (N := 11) (ci := 1) (ws' := [(a_, .inr (1, [.ref q5, .ref q18, .int 3, .int 0, .int 5, .ref q42, .ref q51, .int 0, .ref q64, .ref q71, .ref q78])), (q5, .inr (3, [.ref u9, .int 0])), (u9, .inl (cI, 30, .inl (fun _ => 0))), (q18, .inl (cI, 6, .inl (fun _ => 0))), (q42, .inl (cI, 650, .inl (fun _ => 0))), (q51, .inl (cI, 650, .inl (fun _ => 0))), (q64, .inl (cI, 18, .inl (fun _ => 0))), (q71, .inl (cI, 3, .inl (fun _ => 0))), (q78, .inl (cI, 3, .inl (fun _ => 0)))]) X hi_X1_init_X1 tyX1 tyX1_ok nmX1 0 rfl rfl 10 (by decide) (X.2.2.2.2.1 (.fieldLink RX1 47 "NineteenSecondsLeft$Lamp" "missValues" "[I") (List.mem_of_getElem? (i := 18) rfl)) rfl rfl hmn rfl rfl rfl (Nat.le_of_ble_eq_true rfl) dX1_init_80 rfl ?_
  exact g_vret X hAA hQQ (q5, u9, q18, q42, q51, q64, q71, q78) trivial [0, 1, 2, 3, 4, 5, 6, 7, 8] rfl rfl hr dX1_init_83

theorem hi_X1_changeRebound_X1 : ∀ w ∈ wsX10, w ∈ wsX1_changeRebound := fun w h => List.mem_cons_of_mem _ (List.mem_append_right _ (h))
def f_X1_changeRebound (c_reboundTenths : Int32) (p1 : Int32) : (Int32) :=
  p1
set_option maxHeartbeats 4000000 in
set_option maxRecDepth 100000 in
theorem k_X1_changeRebound (l : Launch) (D : va_G) (cI : ClassId) (kA kV : Nat → Nat) (a_ a_squad a_changes a_values a_bests a_rowTenths a_hitValues a_missValues : Nat) (c_reboundTenths : Int32) (c_lawInForce : Int32) (c_drawTenths : Int32) (c_solvedRows : Int32) (p1 : Int32) :
    g_MV l D cI kA kV yX1_changeRebound wsX1_changeRebound { frames := 0, cells := 0, slots := 0, locals := 0 } [.ref a_, .int p1] [(a_, .inr (1, [.ref a_squad, .ref a_changes, .int c_reboundTenths, .int c_lawInForce, .int c_drawTenths, .ref a_values, .ref a_bests, .int c_solvedRows, .ref a_rowTenths, .ref a_hitValues, .ref a_missValues]))] (fun u : (Int32) => [(a_, .inr (1, [.ref a_squad, .ref a_changes, .int u, .int c_lawInForce, .int c_drawTenths, .ref a_values, .ref a_bests, .int c_solvedRows, .ref a_rowTenths, .ref a_hitValues, .ref a_missValues]))]) (fun u : (Int32) => u = f_X1_changeRebound c_reboundTenths p1) := by
  obtain ⟨XX, hXX⟩ : ∃ z, z = f_X1_changeRebound c_reboundTenths p1 := ⟨_, rfl⟩
  have heq := hXX.trans (f_X1_changeRebound.eq_def c_reboundTenths p1)
  refine g_startV (lv := [(0, .ref a_), (1, .int p1)]) RX1 rfl rfl rfl (Nat.le_of_ble_eq_true rfl) rfl (fun p e s m args below meth c AA QQ hAA hQQ X hr hmn => ?_)
  refine g_aload_n X 0 rfl rfl dX1_changeRebound_0 ?_
  refine g_iload_n X 1 rfl rfl dX1_changeRebound_1 ?_
  refine g_put (C := RX1) (T := TX1) (N := 11) (ci := 1) (ws' := [(a_, .inr (1, [.ref a_squad, .ref a_changes, .int p1, .int c_lawInForce, .int c_drawTenths, .ref a_values, .ref a_bests, .int c_solvedRows, .ref a_rowTenths, .ref a_hitValues, .ref a_missValues]))]) X hi_X1_changeRebound_X1 tyX1 tyX1_ok nmX1 0 rfl rfl 2 (by decide) (X.2.2.2.2.1 (.fieldLink RX1 22 "NineteenSecondsLeft$Lamp" "reboundTenths" "I") (List.mem_of_getElem? (i := 1) rfl)) rfl rfl rfl rfl (Nat.le_of_ble_eq_true rfl) dX1_changeRebound_2 rfl ?_
  exact g_vret X hAA hQQ p1 (heq.symm.trans hXX) [0] rfl rfl hr dX1_changeRebound_5

theorem hi_X1_changeLaw_X1 : ∀ w ∈ wsX10, w ∈ wsX1_changeLaw := fun w h => List.mem_cons_of_mem _ (List.mem_append_right _ (h))
def f_X1_changeLaw (c_lawInForce : Int32) (p1 : Int32) : (Int32) :=
  p1
set_option maxHeartbeats 4000000 in
set_option maxRecDepth 100000 in
theorem k_X1_changeLaw (l : Launch) (D : va_G) (cI : ClassId) (kA kV : Nat → Nat) (a_ a_squad a_changes a_values a_bests a_rowTenths a_hitValues a_missValues : Nat) (c_reboundTenths : Int32) (c_lawInForce : Int32) (c_drawTenths : Int32) (c_solvedRows : Int32) (p1 : Int32) :
    g_MV l D cI kA kV yX1_changeLaw wsX1_changeLaw { frames := 0, cells := 0, slots := 0, locals := 0 } [.ref a_, .int p1] [(a_, .inr (1, [.ref a_squad, .ref a_changes, .int c_reboundTenths, .int c_lawInForce, .int c_drawTenths, .ref a_values, .ref a_bests, .int c_solvedRows, .ref a_rowTenths, .ref a_hitValues, .ref a_missValues]))] (fun u : (Int32) => [(a_, .inr (1, [.ref a_squad, .ref a_changes, .int c_reboundTenths, .int u, .int c_drawTenths, .ref a_values, .ref a_bests, .int c_solvedRows, .ref a_rowTenths, .ref a_hitValues, .ref a_missValues]))]) (fun u : (Int32) => u = f_X1_changeLaw c_lawInForce p1) := by
  obtain ⟨XX, hXX⟩ : ∃ z, z = f_X1_changeLaw c_lawInForce p1 := ⟨_, rfl⟩
  have heq := hXX.trans (f_X1_changeLaw.eq_def c_lawInForce p1)
  refine g_startV (lv := [(0, .ref a_), (1, .int p1)]) RX1 rfl rfl rfl (Nat.le_of_ble_eq_true rfl) rfl (fun p e s m args below meth c AA QQ hAA hQQ X hr hmn => ?_)
  refine g_aload_n X 0 rfl rfl dX1_changeLaw_0 ?_
  refine g_iload_n X 1 rfl rfl dX1_changeLaw_1 ?_
  refine g_put (C := RX1) (T := TX1) (N := 11) (ci := 1) (ws' := [(a_, .inr (1, [.ref a_squad, .ref a_changes, .int c_reboundTenths, .int p1, .int c_drawTenths, .ref a_values, .ref a_bests, .int c_solvedRows, .ref a_rowTenths, .ref a_hitValues, .ref a_missValues]))]) X hi_X1_changeLaw_X1 tyX1 tyX1_ok nmX1 0 rfl rfl 3 (by decide) (X.2.2.2.2.1 (.fieldLink RX1 26 "NineteenSecondsLeft$Lamp" "lawInForce" "I") (List.mem_of_getElem? (i := 1) rfl)) rfl rfl rfl rfl (Nat.le_of_ble_eq_true rfl) dX1_changeLaw_2 rfl ?_
  exact g_vret X hAA hQQ p1 (heq.symm.trans hXX) [0] rfl rfl hr dX1_changeLaw_5

theorem hi_X1_changeNear_X1 : ∀ w ∈ wsX10, w ∈ wsX1_changeNear := fun w h => List.mem_cons_of_mem _ (List.mem_append_left _ (List.mem_append_right _ (h)))
def f_X1_changeNear (c_squad_facts : Nat → Int32) (p1 : Int32) (p2 : Int32) : (Nat → Int32) :=
  g_lt (f_X3_change c_squad_facts p1 (2 : Int32) p2) (fun u7 => u7)
set_option maxHeartbeats 4000000 in
set_option maxRecDepth 100000 in
theorem k_X1_changeNear (l : Launch) (D : va_G) (cI : ClassId) (kA kV : Nat → Nat) (a_ a_squad a_changes a_values a_bests a_rowTenths a_hitValues a_missValues a_squad_facts : Nat) (c_reboundTenths : Int32) (c_lawInForce : Int32) (c_drawTenths : Int32) (c_solvedRows : Int32) (c_squad_size : Int32) (c_squad_facts : Nat → Int32) (p1 : Int32) (p2 : Int32) :
    g_MV l D cI kA kV yX1_changeNear wsX1_changeNear { frames := 1, cells := 0, slots := 0, locals := 24 } [.ref a_, .int p1, .int p2] [(a_, .inr (1, [.ref a_squad, .ref a_changes, .int c_reboundTenths, .int c_lawInForce, .int c_drawTenths, .ref a_values, .ref a_bests, .int c_solvedRows, .ref a_rowTenths, .ref a_hitValues, .ref a_missValues])), (a_squad, .inr (3, [.ref a_squad_facts, .int c_squad_size])), (a_squad_facts, .inl (cI, 30, .inl c_squad_facts))] (fun u : (Nat → Int32) => [(a_, .inr (1, [.ref a_squad, .ref a_changes, .int c_reboundTenths, .int c_lawInForce, .int c_drawTenths, .ref a_values, .ref a_bests, .int c_solvedRows, .ref a_rowTenths, .ref a_hitValues, .ref a_missValues])), (a_squad, .inr (3, [.ref a_squad_facts, .int c_squad_size])), (a_squad_facts, .inl (cI, 30, .inl u))]) (fun u : (Nat → Int32) => u = f_X1_changeNear c_squad_facts p1 p2) := by
  obtain ⟨XX, hXX⟩ : ∃ z, z = f_X1_changeNear c_squad_facts p1 p2 := ⟨_, rfl⟩
  have heq := hXX.trans (f_X1_changeNear.eq_def c_squad_facts p1 p2)
  refine g_startV (lv := [(0, .ref a_), (1, .int p1), (2, .int p2)]) RX1 rfl rfl rfl (Nat.le_of_ble_eq_true rfl) rfl (fun p e s m args below meth c AA QQ hAA hQQ X hr hmn => ?_)
  refine g_aload_n X 0 rfl rfl dX1_changeNear_0 ?_
  refine g_get (C := RX1) (T := TX1) (N := 11) (ci := 1) X hi_X1_changeNear_X1 0 rfl rfl 0 (by decide) (X.2.2.2.2.1 (.fieldLink RX1 12 "NineteenSecondsLeft$Lamp" "squad" "LNineteenSecondsLeft$Squad;") (List.mem_of_getElem? (i := 1) rfl)) rfl rfl dX1_changeNear_1 ?_
  refine g_iload_n X 1 rfl rfl dX1_changeNear_4 ?_
  refine g_iconst (v := 2) X (by decide) dX1_changeNear_5 ?_
  refine g_iload_n X 2 rfl rfl dX1_changeNear_6 ?_
  refine g_callVv (C := RX3) (T := TX3) (N := 2) (ci := 3) (As := [.int p1, .int 2, .int p2]) (st := []) (wr := [(a_, .inr (1, [.ref a_squad, .ref a_changes, .int c_reboundTenths, .int c_lawInForce, .int c_drawTenths, .ref a_values, .ref a_bests, .int c_solvedRows, .ref a_rowTenths, .ref a_hitValues, .ref a_missValues]))]) X (k_X3_change l D cI kA kV a_squad a_squad_facts c_squad_size c_squad_facts p1 2 p2) (cwV 3 X.2.2.2.2.1 gX1_changeNear_X3_change rfl rfl rfl (by decide +kernel) ⟨Nat.le_of_ble_eq_true rfl, Nat.le_of_ble_eq_true rfl⟩) 1 rfl rfl [1, 2] [0] rfl rfl rfl rfl (by decide) rfl (Nat.le_of_ble_eq_true rfl) ⟨Nat.le_of_ble_eq_true rfl, Nat.le_of_ble_eq_true rfl⟩ dX1_changeNear_7 rfl (fun u7 hw7 => ?_)
  refine g_eqs (ws' := [(a_, .inr (1, [.ref a_squad, .ref a_changes, .int c_reboundTenths, .int c_lawInForce, .int c_drawTenths, .ref a_values, .ref a_bests, .int c_solvedRows, .ref a_rowTenths, .ref a_hitValues, .ref a_missValues])), (a_squad, .inr (3, [.ref a_squad_facts, .int c_squad_size])), (a_squad_facts, .inl (cI, 30, .inl u7))]) rfl ?_
  have heq := g_let heq hw7
  exact g_vret X hAA hQQ u7 (heq.symm.trans hXX) [0, 1, 2] rfl rfl hr dX1_changeNear_10

theorem hi_X1_change_X1 : ∀ w ∈ wsX10, w ∈ wsX1_change := fun w h => List.mem_cons_of_mem _ (List.mem_append_right _ (h))
def f_X1_change (c_changes : Nat → Int32) (p1 : Int32) (p2 : Int32) : (Nat → Int32) :=
  (if p1 < 0 then c_changes else (if 6 ≤ p1 then c_changes else upd c_changes p1.toNatClampNeg p2))
set_option maxHeartbeats 4000000 in
set_option maxRecDepth 100000 in
theorem k_X1_change (l : Launch) (D : va_G) (cI : ClassId) (kA kV : Nat → Nat) (a_ a_squad a_changes a_values a_bests a_rowTenths a_hitValues a_missValues : Nat) (c_reboundTenths : Int32) (c_lawInForce : Int32) (c_drawTenths : Int32) (c_solvedRows : Int32) (c_changes : Nat → Int32) (p1 : Int32) (p2 : Int32) :
    g_MV l D cI kA kV yX1_change wsX1_change { frames := 0, cells := 0, slots := 0, locals := 0 } [.ref a_, .int p1, .int p2] [(a_, .inr (1, [.ref a_squad, .ref a_changes, .int c_reboundTenths, .int c_lawInForce, .int c_drawTenths, .ref a_values, .ref a_bests, .int c_solvedRows, .ref a_rowTenths, .ref a_hitValues, .ref a_missValues])), (a_changes, .inl (cI, 6, .inl c_changes))] (fun u : (Nat → Int32) => [(a_, .inr (1, [.ref a_squad, .ref a_changes, .int c_reboundTenths, .int c_lawInForce, .int c_drawTenths, .ref a_values, .ref a_bests, .int c_solvedRows, .ref a_rowTenths, .ref a_hitValues, .ref a_missValues])), (a_changes, .inl (cI, 6, .inl u))]) (fun u : (Nat → Int32) => u = f_X1_change c_changes p1 p2) := by
  obtain ⟨XX, hXX⟩ : ∃ z, z = f_X1_change c_changes p1 p2 := ⟨_, rfl⟩
  have heq := hXX.trans (f_X1_change.eq_def c_changes p1 p2)
  refine g_startV (lv := [(0, .ref a_), (1, .int p1), (2, .int p2)]) RX1 rfl rfl rfl (Nat.le_of_ble_eq_true rfl) rfl (fun p e s m args below meth c AA QQ hAA hQQ X hr hmn => ?_)
  refine g_iload_n X 1 rfl rfl dX1_change_0 ?_
  refine g_if_lt X 20 dX1_change_1 (by decide) (fun c1 => ?_) (fun c1 => ?_)
  · have heq := heq.trans (if_pos c1)
    exact g_vret X hAA hQQ c_changes (heq.symm.trans hXX) [0, 1] rfl rfl hr dX1_change_20
  · have heq := heq.trans (if_neg c1)
    refine g_iload_n X 1 rfl rfl dX1_change_4 ?_
    refine g_aload_n X 0 rfl rfl dX1_change_5 ?_
    refine g_get (C := RX1) (T := TX1) (N := 11) (ci := 1) X hi_X1_change_X1 0 rfl rfl 1 (by decide) (X.2.2.2.2.1 (.fieldLink RX1 18 "NineteenSecondsLeft$Lamp" "changes" "[I") (List.mem_of_getElem? (i := 1) rfl)) rfl rfl dX1_change_6 ?_
    refine g_alen (v := 6) X 1 rfl rfl dX1_change_9 ?_
    refine g_icmp_ge X 20 dX1_change_10 (by decide) (fun c10 => ?_) (fun c10 => ?_)
    · have heq := heq.trans (if_pos c10)
      exact g_vret X hAA hQQ c_changes (heq.symm.trans hXX) [0, 1] rfl rfl hr dX1_change_20
    · have heq := heq.trans (if_neg c10)
      refine g_aload_n X 0 rfl rfl dX1_change_13 ?_
      refine g_get (C := RX1) (T := TX1) (N := 11) (ci := 1) X hi_X1_change_X1 0 rfl rfl 1 (by decide) (X.2.2.2.2.1 (.fieldLink RX1 18 "NineteenSecondsLeft$Lamp" "changes" "[I") (List.mem_of_getElem? (i := 1) rfl)) rfl rfl dX1_change_14 ?_
      refine g_iload_n X 1 rfl rfl dX1_change_17 ?_
      refine g_iload_n X 2 rfl rfl dX1_change_18 ?_
      refine g_iast (ws' := [(a_, .inr (1, [.ref a_squad, .ref a_changes, .int c_reboundTenths, .int c_lawInForce, .int c_drawTenths, .ref a_values, .ref a_bests, .int c_solvedRows, .ref a_rowTenths, .ref a_hitValues, .ref a_missValues])), (a_changes, .inl (cI, 6, .inl (upd c_changes p1.toNatClampNeg p2)))]) X 1 rfl (g_vin (by decide) (g_n0 c1) (g_nn c10)) dX1_change_19 rfl ?_
      exact g_vret X hAA hQQ (upd c_changes p1.toNatClampNeg p2) (heq.symm.trans hXX) [0, 1] rfl rfl hr dX1_change_20

theorem hi_X1_raiseAll_X1 : ∀ w ∈ wsX10, w ∈ wsX1_raiseAll := fun w h => List.mem_cons_of_mem _ (List.mem_append_left _ (List.mem_append_right _ (h)))
def L_X1_raiseAll_2 (v1 : Int32) (c_squad_size : Int32) (c_squad_facts : Nat → Int32) (K : (Int32) → (Nat → Int32) → (Nat → Int32)) : Nat → (Int32) → (Nat → Int32) → (Nat → Int32)
  | 0, v2_2, c_changes_2 => K v2_2 c_changes_2
  | n + 1, v2_2, c_changes_2 => (if c_squad_size ≤ v2_2 then K v2_2 c_changes_2 else g_lt (f_X3_fact c_squad_facts v2_2 (0 : Int32)) (fun r19 => (if r19 = v1 then g_lt (f_X1_change c_changes_2 v2_2 (2 : Int32)) (fun u29 => L_X1_raiseAll_2 v1 c_squad_size c_squad_facts K n (v2_2 + 1) u29) else L_X1_raiseAll_2 v1 c_squad_size c_squad_facts K n (v2_2 + 1) c_changes_2)))
def f_X1_raiseAll (c_squad_size : Int32) (c_squad_facts : Nat → Int32) (c_changes : Nat → Int32) (p1 : Int32) : (Nat → Int32) :=
  L_X1_raiseAll_2 p1 c_squad_size c_squad_facts (fun v2_2 c_changes_2 => c_changes_2) (((c_squad_size : Int32).toInt - (0 : Int32).toInt).toNat + 1) 0 c_changes
set_option maxHeartbeats 4000000 in
set_option maxRecDepth 100000 in
theorem k_X1_raiseAll (l : Launch) (D : va_G) (cI : ClassId) (kA kV : Nat → Nat) (a_ a_squad a_changes a_values a_bests a_rowTenths a_hitValues a_missValues a_squad_facts : Nat) (c_reboundTenths : Int32) (c_lawInForce : Int32) (c_drawTenths : Int32) (c_solvedRows : Int32) (c_squad_size : Int32) (c_squad_facts : Nat → Int32) (c_changes : Nat → Int32) (p1 : Int32) :
    g_MV l D cI kA kV yX1_raiseAll wsX1_raiseAll { frames := 1, cells := 0, slots := 0, locals := 23 } [.ref a_, .int p1] [(a_, .inr (1, [.ref a_squad, .ref a_changes, .int c_reboundTenths, .int c_lawInForce, .int c_drawTenths, .ref a_values, .ref a_bests, .int c_solvedRows, .ref a_rowTenths, .ref a_hitValues, .ref a_missValues])), (a_squad, .inr (3, [.ref a_squad_facts, .int c_squad_size])), (a_squad_facts, .inl (cI, 30, .inl c_squad_facts)), (a_changes, .inl (cI, 6, .inl c_changes))] (fun u : (Nat → Int32) => [(a_, .inr (1, [.ref a_squad, .ref a_changes, .int c_reboundTenths, .int c_lawInForce, .int c_drawTenths, .ref a_values, .ref a_bests, .int c_solvedRows, .ref a_rowTenths, .ref a_hitValues, .ref a_missValues])), (a_squad, .inr (3, [.ref a_squad_facts, .int c_squad_size])), (a_squad_facts, .inl (cI, 30, .inl c_squad_facts)), (a_changes, .inl (cI, 6, .inl u))]) (fun u : (Nat → Int32) => u = f_X1_raiseAll c_squad_size c_squad_facts c_changes p1) := by
  obtain ⟨XX, hXX⟩ : ∃ z, z = f_X1_raiseAll c_squad_size c_squad_facts c_changes p1 := ⟨_, rfl⟩
  have heq := hXX.trans (f_X1_raiseAll.eq_def c_squad_size c_squad_facts c_changes p1)
  refine g_startV (lv := [(0, .ref a_), (1, .int p1)]) RX1 rfl rfl rfl (Nat.le_of_ble_eq_true rfl) rfl (fun p e s m args below meth c AA QQ hAA hQQ X hr hmn => ?_)
  refine g_iconst (v := 0) X (by decide) dX1_raiseAll_0 ?_
  refine g_istore_n (lv' := [(2, .int 0), (0, .ref a_), (1, .int p1)]) X rfl (by decide) rfl dX1_raiseAll_1 ?_
  have lp2 : ∀ (K : (Int32) → (Nat → Int32) → (Nat → Int32)), (∀ (v2_2 : Int32) (c_changes_2 : Nat → Int32), XX = K v2_2 c_changes_2 → GG p l e { frames := 1, cells := 0, slots := 0, locals := 23 } s m args below meth c D AA 0 0 QQ 3 [(a_, .inr (1, [.ref a_squad, .ref a_changes, .int c_reboundTenths, .int c_lawInForce, .int c_drawTenths, .ref a_values, .ref a_bests, .int c_solvedRows, .ref a_rowTenths, .ref a_hitValues, .ref a_missValues])), (a_squad, .inr (3, [.ref a_squad_facts, .int c_squad_size])), (a_squad_facts, .inl (cI, 30, .inl c_squad_facts)), (a_changes, .inl (cI, 6, .inl c_changes_2))] [(2, .int v2_2), (0, .ref a_), (1, .int p1)] 38 []) → ∀ (n : Nat) (v2_2 : Int32) (c_changes_2 : Nat → Int32), ((c_squad_size : Int32).toInt - (v2_2 : Int32).toInt).toNat < n → 0 ≤ v2_2 → XX = L_X1_raiseAll_2 p1 c_squad_size c_squad_facts K n v2_2 c_changes_2 → GG p l e { frames := 1, cells := 0, slots := 0, locals := 23 } s m args below meth c D AA 0 0 QQ 3 [(a_, .inr (1, [.ref a_squad, .ref a_changes, .int c_reboundTenths, .int c_lawInForce, .int c_drawTenths, .ref a_values, .ref a_bests, .int c_solvedRows, .ref a_rowTenths, .ref a_hitValues, .ref a_missValues])), (a_squad, .inr (3, [.ref a_squad_facts, .int c_squad_size])), (a_squad_facts, .inl (cI, 30, .inl c_squad_facts)), (a_changes, .inl (cI, 6, .inl c_changes_2))] [(2, .int v2_2), (0, .ref a_), (1, .int p1)] 2 [] := by
    intro K hK n
    induction n with
    | zero => intro v2_2 c_changes_2 hm2; exact absurd hm2 (Nat.not_lt_zero _)
    | succ n ih2 =>
      intro v2_2 c_changes_2 hm2 hv2_0 heq
      have heq := heq.trans (L_X1_raiseAll_2.eq_2 _ _ _ _ _ _ _ )
      refine g_iload_n X 0 rfl rfl dX1_raiseAll_2 ?_
      refine g_aload_n X 1 rfl rfl dX1_raiseAll_3 ?_
      refine g_get (C := RX1) (T := TX1) (N := 11) (ci := 1) X hi_X1_raiseAll_X1 0 rfl rfl 0 (by decide) (X.2.2.2.2.1 (.fieldLink RX1 12 "NineteenSecondsLeft$Lamp" "squad" "LNineteenSecondsLeft$Squad;") (List.mem_of_getElem? (i := 1) rfl)) rfl rfl dX1_raiseAll_4 ?_
      refine g_callVi (C := RX3) (T := TX3) (N := 2) (ci := 3) (As := []) (st := [.int v2_2]) (wr := [(a_, .inr (1, [.ref a_squad, .ref a_changes, .int c_reboundTenths, .int c_lawInForce, .int c_drawTenths, .ref a_values, .ref a_bests, .int c_solvedRows, .ref a_rowTenths, .ref a_hitValues, .ref a_missValues])), (a_squad_facts, .inl (cI, 30, .inl c_squad_facts)), (a_changes, .inl (cI, 6, .inl c_changes_2))]) X (k_X3_players l D cI kA kV a_squad a_squad_facts c_squad_size) (cwV 0 X.2.2.2.2.1 gX1_raiseAll_X3_players rfl rfl rfl (by decide +kernel) ⟨Nat.le_of_ble_eq_true rfl, Nat.le_of_ble_eq_true rfl⟩) 1 rfl rfl [1] [0, 2, 3] rfl rfl rfl rfl (by decide) rfl (Nat.le_of_ble_eq_true rfl) ⟨Nat.le_of_ble_eq_true rfl, Nat.le_of_ble_eq_true rfl⟩ dX1_raiseAll_7 rfl (fun r7 u7 hw7 => ?_)
      refine g_eqs (ws' := [(a_, .inr (1, [.ref a_squad, .ref a_changes, .int c_reboundTenths, .int c_lawInForce, .int c_drawTenths, .ref a_values, .ref a_bests, .int c_solvedRows, .ref a_rowTenths, .ref a_hitValues, .ref a_missValues])), (a_squad_facts, .inl (cI, 30, .inl c_squad_facts)), (a_changes, .inl (cI, 6, .inl c_changes_2)), (a_squad, .inr (3, [.ref a_squad_facts, .int c_squad_size]))]) rfl ?_
      have hw7 : c_squad_size = r7 := hw7.symm
      subst hw7
      refine g_icmp_ge X 38 dX1_raiseAll_10 (by decide) (fun c10 => ?_) (fun c10 => ?_)
      · have heq := heq.trans (if_pos c10)
        refine g_wsub (ws' := [(a_, .inr (1, [.ref a_squad, .ref a_changes, .int c_reboundTenths, .int c_lawInForce, .int c_drawTenths, .ref a_values, .ref a_bests, .int c_solvedRows, .ref a_rowTenths, .ref a_hitValues, .ref a_missValues])), (a_squad, .inr (3, [.ref a_squad_facts, .int c_squad_size])), (a_squad_facts, .inl (cI, 30, .inl c_squad_facts)), (a_changes, .inl (cI, 6, .inl c_changes_2))]) [0, 3, 1, 2] rfl rfl ?_
        exact hK v2_2 c_changes_2 heq
      · have heq := heq.trans (if_neg c10)
        refine g_aload_n X 1 rfl rfl dX1_raiseAll_13 ?_
        refine g_get (C := RX1) (T := TX1) (N := 11) (ci := 1) X hi_X1_raiseAll_X1 0 rfl rfl 0 (by decide) (X.2.2.2.2.1 (.fieldLink RX1 12 "NineteenSecondsLeft$Lamp" "squad" "LNineteenSecondsLeft$Squad;") (List.mem_of_getElem? (i := 1) rfl)) rfl rfl dX1_raiseAll_14 ?_
        refine g_iload_n X 0 rfl rfl dX1_raiseAll_17 ?_
        refine g_iconst (v := 0) X (by decide) dX1_raiseAll_18 ?_
        refine g_callVi (C := RX3) (T := TX3) (N := 2) (ci := 3) (As := [.int v2_2, .int 0]) (st := []) (wr := [(a_, .inr (1, [.ref a_squad, .ref a_changes, .int c_reboundTenths, .int c_lawInForce, .int c_drawTenths, .ref a_values, .ref a_bests, .int c_solvedRows, .ref a_rowTenths, .ref a_hitValues, .ref a_missValues])), (a_changes, .inl (cI, 6, .inl c_changes_2))]) X (k_X3_fact l D cI kA kV a_squad a_squad_facts c_squad_size c_squad_facts v2_2 0) (cwV 2 X.2.2.2.2.1 gX1_raiseAll_X3_fact rfl rfl rfl (by decide +kernel) ⟨Nat.le_of_ble_eq_true rfl, Nat.le_of_ble_eq_true rfl⟩) 3 rfl rfl [3, 1] [0, 2] rfl rfl rfl rfl (by decide) rfl (Nat.le_of_ble_eq_true rfl) ⟨Nat.le_of_ble_eq_true rfl, Nat.le_of_ble_eq_true rfl⟩ dX1_raiseAll_19 rfl (fun r19 u19 hw19 => ?_)
        refine g_eqs (ws' := [(a_, .inr (1, [.ref a_squad, .ref a_changes, .int c_reboundTenths, .int c_lawInForce, .int c_drawTenths, .ref a_values, .ref a_bests, .int c_solvedRows, .ref a_rowTenths, .ref a_hitValues, .ref a_missValues])), (a_changes, .inl (cI, 6, .inl c_changes_2)), (a_squad, .inr (3, [.ref a_squad_facts, .int c_squad_size])), (a_squad_facts, .inl (cI, 30, .inl c_squad_facts))]) rfl ?_
        have heq := g_let heq hw19
        refine g_iload_n X 2 rfl rfl dX1_raiseAll_22 ?_
        refine g_icmp_ne X 32 dX1_raiseAll_23 (by decide) (fun c23 => ?_) (fun c23 => ?_)
        · have heq := heq.trans (if_neg c23)
          refine g_iinc (v := v2_2 + 1) (lv' := [(2, .int (v2_2 + 1)), (0, .ref a_), (1, .int p1)]) X 0 rfl rfl (by decide) rfl dX1_raiseAll_32 ?_
          refine g_goto (tgt := 2) X (by decide) dX1_raiseAll_35 ?_
          refine g_wsub (ws' := [(a_, .inr (1, [.ref a_squad, .ref a_changes, .int c_reboundTenths, .int c_lawInForce, .int c_drawTenths, .ref a_values, .ref a_bests, .int c_solvedRows, .ref a_rowTenths, .ref a_hitValues, .ref a_missValues])), (a_squad, .inr (3, [.ref a_squad_facts, .int c_squad_size])), (a_squad_facts, .inl (cI, 30, .inl c_squad_facts)), (a_changes, .inl (cI, 6, .inl c_changes_2))]) [0, 2, 3, 1] rfl rfl ?_
          exact ih2 (v2_2 + 1) c_changes_2 (g_upm c10 hm2) (g_up0 hv2_0 c10) heq
        · have heq := heq.trans (if_pos c23)
          refine g_aload_n X 1 rfl rfl dX1_raiseAll_26 ?_
          refine g_iload_n X 0 rfl rfl dX1_raiseAll_27 ?_
          refine g_iconst (v := 2) X (by decide) dX1_raiseAll_28 ?_
          refine g_callVv (C := RX1) (T := TX1) (N := 11) (ci := 1) (As := [.int v2_2, .int 2]) (st := []) (wr := [(a_squad, .inr (3, [.ref a_squad_facts, .int c_squad_size])), (a_squad_facts, .inl (cI, 30, .inl c_squad_facts))]) X (k_X1_change l D cI kA kV a_ a_squad a_changes a_values a_bests a_rowTenths a_hitValues a_missValues c_reboundTenths c_lawInForce c_drawTenths c_solvedRows c_changes_2 v2_2 2) (cwV 2 X.2.2.2.2.1 gX1_raiseAll_X1_change rfl rfl rfl (by decide +kernel) ⟨Nat.le_of_ble_eq_true rfl, Nat.le_of_ble_eq_true rfl⟩) 0 rfl rfl [0, 1] [2, 3] rfl rfl rfl rfl (by decide) rfl (Nat.le_of_ble_eq_true rfl) ⟨Nat.le_of_ble_eq_true rfl, Nat.le_of_ble_eq_true rfl⟩ dX1_raiseAll_29 rfl (fun u29 hw29 => ?_)
          refine g_eqs (ws' := [(a_squad, .inr (3, [.ref a_squad_facts, .int c_squad_size])), (a_squad_facts, .inl (cI, 30, .inl c_squad_facts)), (a_, .inr (1, [.ref a_squad, .ref a_changes, .int c_reboundTenths, .int c_lawInForce, .int c_drawTenths, .ref a_values, .ref a_bests, .int c_solvedRows, .ref a_rowTenths, .ref a_hitValues, .ref a_missValues])), (a_changes, .inl (cI, 6, .inl u29))]) rfl ?_
          have heq := g_let heq hw29
          refine g_iinc (v := v2_2 + 1) (lv' := [(2, .int (v2_2 + 1)), (0, .ref a_), (1, .int p1)]) X 0 rfl rfl (by decide) rfl dX1_raiseAll_32 ?_
          refine g_goto (tgt := 2) X (by decide) dX1_raiseAll_35 ?_
          refine g_wsub (ws' := [(a_, .inr (1, [.ref a_squad, .ref a_changes, .int c_reboundTenths, .int c_lawInForce, .int c_drawTenths, .ref a_values, .ref a_bests, .int c_solvedRows, .ref a_rowTenths, .ref a_hitValues, .ref a_missValues])), (a_squad, .inr (3, [.ref a_squad_facts, .int c_squad_size])), (a_squad_facts, .inl (cI, 30, .inl c_squad_facts)), (a_changes, .inl (cI, 6, .inl u29))]) [2, 0, 1, 3] rfl rfl ?_
          exact ih2 (v2_2 + 1) u29 (g_upm c10 hm2) (g_up0 hv2_0 c10) heq
  refine lp2 _ (fun v2_2 c_changes_2 heq => ?_) _ 0 c_changes (Nat.lt_succ_self _) (by decide) heq
  exact g_vret X hAA hQQ c_changes_2 (heq.symm.trans hXX) [0, 1, 2, 3] rfl rfl hr dX1_raiseAll_38

theorem hi_X1_changeOf_X1 : ∀ w ∈ wsX10, w ∈ wsX1_changeOf := fun w h => List.mem_cons_of_mem _ (List.mem_append_right _ (h))
def f_X1_changeOf (c_changes : Nat → Int32) (p1 : Int32) : Int32 :=
  (if p1 < 0 then 0 else (if p1 < 6 then c_changes p1.toNatClampNeg else 0))
set_option maxHeartbeats 4000000 in
set_option maxRecDepth 100000 in
theorem k_X1_changeOf (l : Launch) (D : va_G) (cI : ClassId) (kA kV : Nat → Nat) (a_ a_squad a_changes a_values a_bests a_rowTenths a_hitValues a_missValues : Nat) (c_reboundTenths : Int32) (c_lawInForce : Int32) (c_drawTenths : Int32) (c_solvedRows : Int32) (c_changes : Nat → Int32) (p1 : Int32) :
    g_MI l D cI kA kV yX1_changeOf wsX1_changeOf { frames := 0, cells := 0, slots := 0, locals := 0 } [.ref a_, .int p1] [(a_, .inr (1, [.ref a_squad, .ref a_changes, .int c_reboundTenths, .int c_lawInForce, .int c_drawTenths, .ref a_values, .ref a_bests, .int c_solvedRows, .ref a_rowTenths, .ref a_hitValues, .ref a_missValues])), (a_changes, .inl (cI, 6, .inl c_changes))] (fun u : Unit => [(a_, .inr (1, [.ref a_squad, .ref a_changes, .int c_reboundTenths, .int c_lawInForce, .int c_drawTenths, .ref a_values, .ref a_bests, .int c_solvedRows, .ref a_rowTenths, .ref a_hitValues, .ref a_missValues])), (a_changes, .inl (cI, 6, .inl c_changes))]) (fun (r : Int32) (u : Unit) => r = f_X1_changeOf c_changes p1) := by
  obtain ⟨XX, hXX⟩ : ∃ z, z = f_X1_changeOf c_changes p1 := ⟨_, rfl⟩
  have heq := hXX.trans (f_X1_changeOf.eq_def c_changes p1)
  refine g_startI (lv := [(0, .ref a_), (1, .int p1)]) RX1 rfl rfl rfl (Nat.le_of_ble_eq_true rfl) rfl (fun p e s m args below meth c AA QQ hAA hQQ X hr hmn => ?_)
  refine g_iload_n X 1 rfl rfl dX1_changeOf_0 ?_
  refine g_if_lt X 13 dX1_changeOf_1 (by decide) (fun c1 => ?_) (fun c1 => ?_)
  · have heq := heq.trans (if_pos c1)
    refine g_iconst (v := 0) X (by decide) dX1_changeOf_13 ?_
    refine g_goto (tgt := 23) X (by decide) dX1_changeOf_14 ?_
    exact g_iret X hAA hQQ () (heq.symm.trans hXX) [0, 1] rfl rfl hr dX1_changeOf_23
  · have heq := heq.trans (if_neg c1)
    refine g_iload_n X 1 rfl rfl dX1_changeOf_4 ?_
    refine g_aload_n X 0 rfl rfl dX1_changeOf_5 ?_
    refine g_get (C := RX1) (T := TX1) (N := 11) (ci := 1) X hi_X1_changeOf_X1 0 rfl rfl 1 (by decide) (X.2.2.2.2.1 (.fieldLink RX1 18 "NineteenSecondsLeft$Lamp" "changes" "[I") (List.mem_of_getElem? (i := 1) rfl)) rfl rfl dX1_changeOf_6 ?_
    refine g_alen (v := 6) X 1 rfl rfl dX1_changeOf_9 ?_
    refine g_icmp_lt X 17 dX1_changeOf_10 (by decide) (fun c10 => ?_) (fun c10 => ?_)
    · have heq := heq.trans (if_pos c10)
      refine g_aload_n X 0 rfl rfl dX1_changeOf_17 ?_
      refine g_get (C := RX1) (T := TX1) (N := 11) (ci := 1) X hi_X1_changeOf_X1 0 rfl rfl 1 (by decide) (X.2.2.2.2.1 (.fieldLink RX1 18 "NineteenSecondsLeft$Lamp" "changes" "[I") (List.mem_of_getElem? (i := 1) rfl)) rfl rfl dX1_changeOf_18 ?_
      refine g_iload_n X 1 rfl rfl dX1_changeOf_21 ?_
      refine g_iald X 1 rfl (g_vin (by decide) (g_n0 c1) c10) dX1_changeOf_22 ?_
      exact g_iret X hAA hQQ () (heq.symm.trans hXX) [0, 1] rfl rfl hr dX1_changeOf_23
    · have heq := heq.trans (if_neg c10)
      refine g_iconst (v := 0) X (by decide) dX1_changeOf_13 ?_
      refine g_goto (tgt := 23) X (by decide) dX1_changeOf_14 ?_
      exact g_iret X hAA hQQ () (heq.symm.trans hXX) [0, 1] rfl rfl hr dX1_changeOf_23

theorem hi_X1_tenths_X1 : ∀ w ∈ wsX10, w ∈ wsX1_tenths := fun w h => List.mem_cons_of_mem _ (List.mem_append_left _ (List.mem_append_right _ (h)))
def f_X1_tenths (c_squad_facts : Nat → Int32) (c_changes : Nat → Int32) (p1 : Int32) (p2 : Int32) (p3 : Int32) : Int32 :=
  (if p2 = 0 then g_lt (f_X3_tenths c_squad_facts p1 (0 : Int32) p3) (fun r15 => g_lt (f_X1_changeOf c_changes p1) (fun r22 => (if r22 = 2 then g_minf (r15 + 1) (9 : Int32) else g_lt (f_X1_changeOf c_changes p1) (fun r45 => (if r45 = 3 then r15 / 2 else r15))))) else g_lt (f_X3_tenths c_squad_facts p1 (1 : Int32) p3) (fun r15 => g_lt (f_X1_changeOf c_changes p1) (fun r22 => (if r22 = 2 then (if p2 = 2 then (g_minf (r15 + 1) (9 : Int32)) / 2 else g_minf (r15 + 1) (9 : Int32)) else g_lt (f_X1_changeOf c_changes p1) (fun r45 => (if r45 = 3 then (if p2 = 2 then (r15 / 2) / 2 else r15 / 2) else (if p2 = 2 then r15 / 2 else r15)))))))
set_option maxHeartbeats 4000000 in
set_option maxRecDepth 100000 in
theorem k_X1_tenths (l : Launch) (D : va_G) (cI : ClassId) (kA kV : Nat → Nat) (a_ a_squad a_changes a_values a_bests a_rowTenths a_hitValues a_missValues a_squad_facts : Nat) (c_reboundTenths : Int32) (c_lawInForce : Int32) (c_drawTenths : Int32) (c_solvedRows : Int32) (c_squad_size : Int32) (c_squad_facts : Nat → Int32) (c_changes : Nat → Int32) (p1 : Int32) (p2 : Int32) (p3 : Int32) :
    g_MI l D cI kA kV yX1_tenths wsX1_tenths { frames := 2, cells := 0, slots := 0, locals := 49 } [.ref a_, .int p1, .int p2, .int p3] [(a_, .inr (1, [.ref a_squad, .ref a_changes, .int c_reboundTenths, .int c_lawInForce, .int c_drawTenths, .ref a_values, .ref a_bests, .int c_solvedRows, .ref a_rowTenths, .ref a_hitValues, .ref a_missValues])), (a_squad, .inr (3, [.ref a_squad_facts, .int c_squad_size])), (a_squad_facts, .inl (cI, 30, .inl c_squad_facts)), (a_changes, .inl (cI, 6, .inl c_changes))] (fun u : Unit => [(a_, .inr (1, [.ref a_squad, .ref a_changes, .int c_reboundTenths, .int c_lawInForce, .int c_drawTenths, .ref a_values, .ref a_bests, .int c_solvedRows, .ref a_rowTenths, .ref a_hitValues, .ref a_missValues])), (a_squad, .inr (3, [.ref a_squad_facts, .int c_squad_size])), (a_squad_facts, .inl (cI, 30, .inl c_squad_facts)), (a_changes, .inl (cI, 6, .inl c_changes))]) (fun (r : Int32) (u : Unit) => r = f_X1_tenths c_squad_facts c_changes p1 p2 p3) := by
  obtain ⟨XX, hXX⟩ : ∃ z, z = f_X1_tenths c_squad_facts c_changes p1 p2 p3 := ⟨_, rfl⟩
  have heq := hXX.trans (f_X1_tenths.eq_def c_squad_facts c_changes p1 p2 p3)
  refine g_startI (lv := [(0, .ref a_), (1, .int p1), (2, .int p2), (3, .int p3)]) RX1 rfl rfl rfl (Nat.le_of_ble_eq_true rfl) rfl (fun p e s m args below meth c AA QQ hAA hQQ X hr hmn => ?_)
  refine g_aload_n X 0 rfl rfl dX1_tenths_0 ?_
  refine g_get (C := RX1) (T := TX1) (N := 11) (ci := 1) X hi_X1_tenths_X1 0 rfl rfl 0 (by decide) (X.2.2.2.2.1 (.fieldLink RX1 12 "NineteenSecondsLeft$Lamp" "squad" "LNineteenSecondsLeft$Squad;") (List.mem_of_getElem? (i := 1) rfl)) rfl rfl dX1_tenths_1 ?_
  refine g_iload_n X 1 rfl rfl dX1_tenths_4 ?_
  refine g_iload_n X 2 rfl rfl dX1_tenths_5 ?_
  refine g_if_ne X 13 dX1_tenths_6 (by decide) (fun c6 => ?_) (fun c6 => ?_)
  · have heq := heq.trans (if_neg c6)
    refine g_iconst (v := 1) X (by decide) dX1_tenths_13 ?_
    refine g_iload_n X 3 rfl rfl dX1_tenths_14 ?_
    refine g_callVi (C := RX3) (T := TX3) (N := 2) (ci := 3) (As := [.int p1, .int 1, .int p3]) (st := []) (wr := [(a_, .inr (1, [.ref a_squad, .ref a_changes, .int c_reboundTenths, .int c_lawInForce, .int c_drawTenths, .ref a_values, .ref a_bests, .int c_solvedRows, .ref a_rowTenths, .ref a_hitValues, .ref a_missValues])), (a_changes, .inl (cI, 6, .inl c_changes))]) X (k_X3_tenths l D cI kA kV a_squad a_squad_facts c_squad_size c_squad_facts p1 1 p3) (cwV 3 X.2.2.2.2.1 gX1_tenths_X3_tenths rfl rfl rfl (by decide +kernel) ⟨Nat.le_of_ble_eq_true rfl, Nat.le_of_ble_eq_true rfl⟩) 1 rfl rfl [1, 2] [0, 3] rfl rfl rfl rfl (by decide) rfl (Nat.le_of_ble_eq_true rfl) ⟨Nat.le_of_ble_eq_true rfl, Nat.le_of_ble_eq_true rfl⟩ dX1_tenths_15 rfl (fun r15 u15 hw15 => ?_)
    refine g_eqs (ws' := [(a_, .inr (1, [.ref a_squad, .ref a_changes, .int c_reboundTenths, .int c_lawInForce, .int c_drawTenths, .ref a_values, .ref a_bests, .int c_solvedRows, .ref a_rowTenths, .ref a_hitValues, .ref a_missValues])), (a_changes, .inl (cI, 6, .inl c_changes)), (a_squad, .inr (3, [.ref a_squad_facts, .int c_squad_size])), (a_squad_facts, .inl (cI, 30, .inl c_squad_facts))]) rfl ?_
    have heq := g_let heq hw15
    refine g_istore (lv' := [(4, .int r15), (0, .ref a_), (1, .int p1), (2, .int p2), (3, .int p3)]) X (by decide) rfl dX1_tenths_18 ?_
    refine g_aload_n X 1 rfl rfl dX1_tenths_20 ?_
    refine g_iload_n X 2 rfl rfl dX1_tenths_21 ?_
    refine g_callVi (C := RX1) (T := TX1) (N := 11) (ci := 1) (As := [.int p1]) (st := []) (wr := [(a_squad, .inr (3, [.ref a_squad_facts, .int c_squad_size])), (a_squad_facts, .inl (cI, 30, .inl c_squad_facts))]) X (k_X1_changeOf l D cI kA kV a_ a_squad a_changes a_values a_bests a_rowTenths a_hitValues a_missValues c_reboundTenths c_lawInForce c_drawTenths c_solvedRows c_changes p1) (cwV 1 X.2.2.2.2.1 gX1_tenths_X1_changeOf rfl rfl rfl (by decide +kernel) ⟨Nat.le_of_ble_eq_true rfl, Nat.le_of_ble_eq_true rfl⟩) 0 rfl rfl [0, 1] [2, 3] rfl rfl rfl rfl (by decide) rfl (Nat.le_of_ble_eq_true rfl) ⟨Nat.le_of_ble_eq_true rfl, Nat.le_of_ble_eq_true rfl⟩ dX1_tenths_22 rfl (fun r22 u22 hw22 => ?_)
    refine g_eqs (ws' := [(a_squad, .inr (3, [.ref a_squad_facts, .int c_squad_size])), (a_squad_facts, .inl (cI, 30, .inl c_squad_facts)), (a_, .inr (1, [.ref a_squad, .ref a_changes, .int c_reboundTenths, .int c_lawInForce, .int c_drawTenths, .ref a_values, .ref a_bests, .int c_solvedRows, .ref a_rowTenths, .ref a_hitValues, .ref a_missValues])), (a_changes, .inl (cI, 6, .inl c_changes))]) rfl ?_
    have heq := g_let heq hw22
    refine g_iconst (v := 2) X (by decide) dX1_tenths_25 ?_
    refine g_icmp_ne X 43 dX1_tenths_26 (by decide) (fun c26 => ?_) (fun c26 => ?_)
    · have heq := heq.trans (if_neg c26)
      refine g_aload_n X 1 rfl rfl dX1_tenths_43 ?_
      refine g_iload_n X 2 rfl rfl dX1_tenths_44 ?_
      refine g_callVi (C := RX1) (T := TX1) (N := 11) (ci := 1) (As := [.int p1]) (st := []) (wr := [(a_squad, .inr (3, [.ref a_squad_facts, .int c_squad_size])), (a_squad_facts, .inl (cI, 30, .inl c_squad_facts))]) X (k_X1_changeOf l D cI kA kV a_ a_squad a_changes a_values a_bests a_rowTenths a_hitValues a_missValues c_reboundTenths c_lawInForce c_drawTenths c_solvedRows c_changes p1) (cwV 1 X.2.2.2.2.1 gX1_tenths_X1_changeOf rfl rfl rfl (by decide +kernel) ⟨Nat.le_of_ble_eq_true rfl, Nat.le_of_ble_eq_true rfl⟩) 2 rfl rfl [2, 3] [0, 1] rfl rfl rfl rfl (by decide) rfl (Nat.le_of_ble_eq_true rfl) ⟨Nat.le_of_ble_eq_true rfl, Nat.le_of_ble_eq_true rfl⟩ dX1_tenths_45 rfl (fun r45 u45 hw45 => ?_)
      refine g_eqs (ws' := [(a_squad, .inr (3, [.ref a_squad_facts, .int c_squad_size])), (a_squad_facts, .inl (cI, 30, .inl c_squad_facts)), (a_, .inr (1, [.ref a_squad, .ref a_changes, .int c_reboundTenths, .int c_lawInForce, .int c_drawTenths, .ref a_values, .ref a_bests, .int c_solvedRows, .ref a_rowTenths, .ref a_hitValues, .ref a_missValues])), (a_changes, .inl (cI, 6, .inl c_changes))]) rfl ?_
      have heq := g_let heq hw45
      refine g_iconst (v := 3) X (by decide) dX1_tenths_48 ?_
      refine g_icmp_ne X 58 dX1_tenths_49 (by decide) (fun c49 => ?_) (fun c49 => ?_)
      · have heq := heq.trans (if_neg c49)
        refine g_iload_n X 3 rfl rfl dX1_tenths_58 ?_
        refine g_iconst (v := 2) X (by decide) dX1_tenths_59 ?_
        refine g_icmp_ne X 70 dX1_tenths_60 (by decide) (fun c60 => ?_) (fun c60 => ?_)
        · have heq := heq.trans (if_neg c60)
          refine g_iload X 0 rfl dX1_tenths_70 ?_
          exact g_iret X hAA hQQ () (heq.symm.trans hXX) [2, 0, 1, 3] rfl rfl hr dX1_tenths_72
        · have heq := heq.trans (if_pos c60)
          refine g_iload X 0 rfl dX1_tenths_63 ?_
          refine g_iconst (v := 2) X (by decide) dX1_tenths_65 ?_
          refine g_idiv X (by decide) dX1_tenths_66 ?_
          refine g_goto (tgt := 72) X (by decide) dX1_tenths_67 ?_
          exact g_iret X hAA hQQ () (heq.symm.trans hXX) [2, 0, 1, 3] rfl rfl hr dX1_tenths_72
      · have heq := heq.trans (if_pos c49)
        refine g_iload X 0 rfl dX1_tenths_52 ?_
        refine g_iconst (v := 2) X (by decide) dX1_tenths_54 ?_
        refine g_idiv X (by decide) dX1_tenths_55 ?_
        refine g_istore (lv' := [(4, .int (r15 / 2)), (0, .ref a_), (1, .int p1), (2, .int p2), (3, .int p3)]) X (by decide) rfl dX1_tenths_56 ?_
        refine g_iload_n X 3 rfl rfl dX1_tenths_58 ?_
        refine g_iconst (v := 2) X (by decide) dX1_tenths_59 ?_
        refine g_icmp_ne X 70 dX1_tenths_60 (by decide) (fun c60 => ?_) (fun c60 => ?_)
        · have heq := heq.trans (if_neg c60)
          refine g_iload X 0 rfl dX1_tenths_70 ?_
          exact g_iret X hAA hQQ () (heq.symm.trans hXX) [2, 0, 1, 3] rfl rfl hr dX1_tenths_72
        · have heq := heq.trans (if_pos c60)
          refine g_iload X 0 rfl dX1_tenths_63 ?_
          refine g_iconst (v := 2) X (by decide) dX1_tenths_65 ?_
          refine g_idiv X (by decide) dX1_tenths_66 ?_
          refine g_goto (tgt := 72) X (by decide) dX1_tenths_67 ?_
          exact g_iret X hAA hQQ () (heq.symm.trans hXX) [2, 0, 1, 3] rfl rfl hr dX1_tenths_72
    · have heq := heq.trans (if_pos c26)
      refine g_iload X 0 rfl dX1_tenths_29 ?_
      refine g_iconst (v := 1) X (by decide) dX1_tenths_31 ?_
      refine g_iadd X dX1_tenths_32 ?_
      refine g_bipush (v := 9) X (by decide) dX1_tenths_33 ?_
      refine g_mmin X (X.2.2.2.2.1 (.methodLink RX1 83 Lib.Math.min.name) (List.mem_of_getElem? (i := 2) rfl)) (X.2.2.2.2.1 (.static Lib.Math.min.name) (List.mem_of_getElem? (i := 3) rfl)) (X.2.2.2.2.1 (.initialized "java/lang/Math") (List.mem_of_getElem? (i := 4) rfl)) (X.2.2.2.2.1 (.code Lib.Math.min.name Lib.Math.min.code 2 (some .int)) (List.mem_of_getElem? (i := 5) rfl)) (Nat.le_of_ble_eq_true rfl) (Nat.le_of_ble_eq_true rfl) (Nat.le_of_ble_eq_true rfl) (Nat.le_of_ble_eq_true rfl) dX1_tenths_35 ?_
      refine g_istore (lv' := [(4, .int (g_minf (r15 + 1) (9 : Int32))), (0, .ref a_), (1, .int p1), (2, .int p2), (3, .int p3)]) X (by decide) rfl dX1_tenths_38 ?_
      refine g_goto (tgt := 58) X (by decide) dX1_tenths_40 ?_
      refine g_iload_n X 3 rfl rfl dX1_tenths_58 ?_
      refine g_iconst (v := 2) X (by decide) dX1_tenths_59 ?_
      refine g_icmp_ne X 70 dX1_tenths_60 (by decide) (fun c60 => ?_) (fun c60 => ?_)
      · have heq := heq.trans (if_neg c60)
        refine g_iload X 0 rfl dX1_tenths_70 ?_
        exact g_iret X hAA hQQ () (heq.symm.trans hXX) [2, 0, 1, 3] rfl rfl hr dX1_tenths_72
      · have heq := heq.trans (if_pos c60)
        refine g_iload X 0 rfl dX1_tenths_63 ?_
        refine g_iconst (v := 2) X (by decide) dX1_tenths_65 ?_
        refine g_idiv X (by decide) dX1_tenths_66 ?_
        refine g_goto (tgt := 72) X (by decide) dX1_tenths_67 ?_
        exact g_iret X hAA hQQ () (heq.symm.trans hXX) [2, 0, 1, 3] rfl rfl hr dX1_tenths_72
  · have heq := heq.trans (if_pos c6)
    refine g_iconst (v := 0) X (by decide) dX1_tenths_9 ?_
    refine g_goto (tgt := 14) X (by decide) dX1_tenths_10 ?_
    refine g_iload_n X 3 rfl rfl dX1_tenths_14 ?_
    refine g_callVi (C := RX3) (T := TX3) (N := 2) (ci := 3) (As := [.int p1, .int 0, .int p3]) (st := []) (wr := [(a_, .inr (1, [.ref a_squad, .ref a_changes, .int c_reboundTenths, .int c_lawInForce, .int c_drawTenths, .ref a_values, .ref a_bests, .int c_solvedRows, .ref a_rowTenths, .ref a_hitValues, .ref a_missValues])), (a_changes, .inl (cI, 6, .inl c_changes))]) X (k_X3_tenths l D cI kA kV a_squad a_squad_facts c_squad_size c_squad_facts p1 0 p3) (cwV 3 X.2.2.2.2.1 gX1_tenths_X3_tenths rfl rfl rfl (by decide +kernel) ⟨Nat.le_of_ble_eq_true rfl, Nat.le_of_ble_eq_true rfl⟩) 1 rfl rfl [1, 2] [0, 3] rfl rfl rfl rfl (by decide) rfl (Nat.le_of_ble_eq_true rfl) ⟨Nat.le_of_ble_eq_true rfl, Nat.le_of_ble_eq_true rfl⟩ dX1_tenths_15 rfl (fun r15 u15 hw15 => ?_)
    refine g_eqs (ws' := [(a_, .inr (1, [.ref a_squad, .ref a_changes, .int c_reboundTenths, .int c_lawInForce, .int c_drawTenths, .ref a_values, .ref a_bests, .int c_solvedRows, .ref a_rowTenths, .ref a_hitValues, .ref a_missValues])), (a_changes, .inl (cI, 6, .inl c_changes)), (a_squad, .inr (3, [.ref a_squad_facts, .int c_squad_size])), (a_squad_facts, .inl (cI, 30, .inl c_squad_facts))]) rfl ?_
    have heq := g_let heq hw15
    refine g_istore (lv' := [(4, .int r15), (0, .ref a_), (1, .int p1), (2, .int p2), (3, .int p3)]) X (by decide) rfl dX1_tenths_18 ?_
    refine g_aload_n X 1 rfl rfl dX1_tenths_20 ?_
    refine g_iload_n X 2 rfl rfl dX1_tenths_21 ?_
    refine g_callVi (C := RX1) (T := TX1) (N := 11) (ci := 1) (As := [.int p1]) (st := []) (wr := [(a_squad, .inr (3, [.ref a_squad_facts, .int c_squad_size])), (a_squad_facts, .inl (cI, 30, .inl c_squad_facts))]) X (k_X1_changeOf l D cI kA kV a_ a_squad a_changes a_values a_bests a_rowTenths a_hitValues a_missValues c_reboundTenths c_lawInForce c_drawTenths c_solvedRows c_changes p1) (cwV 1 X.2.2.2.2.1 gX1_tenths_X1_changeOf rfl rfl rfl (by decide +kernel) ⟨Nat.le_of_ble_eq_true rfl, Nat.le_of_ble_eq_true rfl⟩) 0 rfl rfl [0, 1] [2, 3] rfl rfl rfl rfl (by decide) rfl (Nat.le_of_ble_eq_true rfl) ⟨Nat.le_of_ble_eq_true rfl, Nat.le_of_ble_eq_true rfl⟩ dX1_tenths_22 rfl (fun r22 u22 hw22 => ?_)
    refine g_eqs (ws' := [(a_squad, .inr (3, [.ref a_squad_facts, .int c_squad_size])), (a_squad_facts, .inl (cI, 30, .inl c_squad_facts)), (a_, .inr (1, [.ref a_squad, .ref a_changes, .int c_reboundTenths, .int c_lawInForce, .int c_drawTenths, .ref a_values, .ref a_bests, .int c_solvedRows, .ref a_rowTenths, .ref a_hitValues, .ref a_missValues])), (a_changes, .inl (cI, 6, .inl c_changes))]) rfl ?_
    have heq := g_let heq hw22
    refine g_iconst (v := 2) X (by decide) dX1_tenths_25 ?_
    refine g_icmp_ne X 43 dX1_tenths_26 (by decide) (fun c26 => ?_) (fun c26 => ?_)
    · have heq := heq.trans (if_neg c26)
      refine g_aload_n X 1 rfl rfl dX1_tenths_43 ?_
      refine g_iload_n X 2 rfl rfl dX1_tenths_44 ?_
      refine g_callVi (C := RX1) (T := TX1) (N := 11) (ci := 1) (As := [.int p1]) (st := []) (wr := [(a_squad, .inr (3, [.ref a_squad_facts, .int c_squad_size])), (a_squad_facts, .inl (cI, 30, .inl c_squad_facts))]) X (k_X1_changeOf l D cI kA kV a_ a_squad a_changes a_values a_bests a_rowTenths a_hitValues a_missValues c_reboundTenths c_lawInForce c_drawTenths c_solvedRows c_changes p1) (cwV 1 X.2.2.2.2.1 gX1_tenths_X1_changeOf rfl rfl rfl (by decide +kernel) ⟨Nat.le_of_ble_eq_true rfl, Nat.le_of_ble_eq_true rfl⟩) 2 rfl rfl [2, 3] [0, 1] rfl rfl rfl rfl (by decide) rfl (Nat.le_of_ble_eq_true rfl) ⟨Nat.le_of_ble_eq_true rfl, Nat.le_of_ble_eq_true rfl⟩ dX1_tenths_45 rfl (fun r45 u45 hw45 => ?_)
      refine g_eqs (ws' := [(a_squad, .inr (3, [.ref a_squad_facts, .int c_squad_size])), (a_squad_facts, .inl (cI, 30, .inl c_squad_facts)), (a_, .inr (1, [.ref a_squad, .ref a_changes, .int c_reboundTenths, .int c_lawInForce, .int c_drawTenths, .ref a_values, .ref a_bests, .int c_solvedRows, .ref a_rowTenths, .ref a_hitValues, .ref a_missValues])), (a_changes, .inl (cI, 6, .inl c_changes))]) rfl ?_
      have heq := g_let heq hw45
      refine g_iconst (v := 3) X (by decide) dX1_tenths_48 ?_
      refine g_icmp_ne X 58 dX1_tenths_49 (by decide) (fun c49 => ?_) (fun c49 => ?_)
      · have heq := heq.trans (if_neg c49)
        refine g_iload_n X 3 rfl rfl dX1_tenths_58 ?_
        refine g_iconst (v := 2) X (by decide) dX1_tenths_59 ?_
        refine g_icmp_ne X 70 dX1_tenths_60 (by decide) (fun c60 => ?_) (fun c60 => absurd (c6.symm.trans c60) (by decide))
        refine g_iload X 0 rfl dX1_tenths_70 ?_
        exact g_iret X hAA hQQ () (heq.symm.trans hXX) [2, 0, 1, 3] rfl rfl hr dX1_tenths_72
      · have heq := heq.trans (if_pos c49)
        refine g_iload X 0 rfl dX1_tenths_52 ?_
        refine g_iconst (v := 2) X (by decide) dX1_tenths_54 ?_
        refine g_idiv X (by decide) dX1_tenths_55 ?_
        refine g_istore (lv' := [(4, .int (r15 / 2)), (0, .ref a_), (1, .int p1), (2, .int p2), (3, .int p3)]) X (by decide) rfl dX1_tenths_56 ?_
        refine g_iload_n X 3 rfl rfl dX1_tenths_58 ?_
        refine g_iconst (v := 2) X (by decide) dX1_tenths_59 ?_
        refine g_icmp_ne X 70 dX1_tenths_60 (by decide) (fun c60 => ?_) (fun c60 => absurd (c6.symm.trans c60) (by decide))
        refine g_iload X 0 rfl dX1_tenths_70 ?_
        exact g_iret X hAA hQQ () (heq.symm.trans hXX) [2, 0, 1, 3] rfl rfl hr dX1_tenths_72
    · have heq := heq.trans (if_pos c26)
      refine g_iload X 0 rfl dX1_tenths_29 ?_
      refine g_iconst (v := 1) X (by decide) dX1_tenths_31 ?_
      refine g_iadd X dX1_tenths_32 ?_
      refine g_bipush (v := 9) X (by decide) dX1_tenths_33 ?_
      refine g_mmin X (X.2.2.2.2.1 (.methodLink RX1 83 Lib.Math.min.name) (List.mem_of_getElem? (i := 2) rfl)) (X.2.2.2.2.1 (.static Lib.Math.min.name) (List.mem_of_getElem? (i := 3) rfl)) (X.2.2.2.2.1 (.initialized "java/lang/Math") (List.mem_of_getElem? (i := 4) rfl)) (X.2.2.2.2.1 (.code Lib.Math.min.name Lib.Math.min.code 2 (some .int)) (List.mem_of_getElem? (i := 5) rfl)) (Nat.le_of_ble_eq_true rfl) (Nat.le_of_ble_eq_true rfl) (Nat.le_of_ble_eq_true rfl) (Nat.le_of_ble_eq_true rfl) dX1_tenths_35 ?_
      refine g_istore (lv' := [(4, .int (g_minf (r15 + 1) (9 : Int32))), (0, .ref a_), (1, .int p1), (2, .int p2), (3, .int p3)]) X (by decide) rfl dX1_tenths_38 ?_
      refine g_goto (tgt := 58) X (by decide) dX1_tenths_40 ?_
      refine g_iload_n X 3 rfl rfl dX1_tenths_58 ?_
      refine g_iconst (v := 2) X (by decide) dX1_tenths_59 ?_
      refine g_icmp_ne X 70 dX1_tenths_60 (by decide) (fun c60 => ?_) (fun c60 => absurd (c6.symm.trans c60) (by decide))
      refine g_iload X 0 rfl dX1_tenths_70 ?_
      exact g_iret X hAA hQQ () (heq.symm.trans hXX) [2, 0, 1, 3] rfl rfl hr dX1_tenths_72

theorem hi_X1_isOver_X1 : ∀ w ∈ wsX10, w ∈ wsX1_isOver := fun w h => List.mem_cons_of_mem _ (List.mem_append_right _ (h))
def f_X1_isOver (c_lawInForce : Int32) (p1 : Int32) (p2 : Int32) : Int32 :=
  (if p1 ≤ 0 then 1 else (if c_lawInForce = 1 then (if g_absf (p2 - 6) < 3 then 0 else 1) else 0))
set_option maxHeartbeats 4000000 in
set_option maxRecDepth 100000 in
theorem k_X1_isOver (l : Launch) (D : va_G) (cI : ClassId) (kA kV : Nat → Nat) (a_ a_squad a_changes a_values a_bests a_rowTenths a_hitValues a_missValues : Nat) (c_reboundTenths : Int32) (c_lawInForce : Int32) (c_drawTenths : Int32) (c_solvedRows : Int32) (p1 : Int32) (p2 : Int32) :
    g_MI l D cI kA kV yX1_isOver wsX1_isOver { frames := 1, cells := 0, slots := 0, locals := 17 } [.ref a_, .int p1, .int p2] [(a_, .inr (1, [.ref a_squad, .ref a_changes, .int c_reboundTenths, .int c_lawInForce, .int c_drawTenths, .ref a_values, .ref a_bests, .int c_solvedRows, .ref a_rowTenths, .ref a_hitValues, .ref a_missValues]))] (fun u : Unit => [(a_, .inr (1, [.ref a_squad, .ref a_changes, .int c_reboundTenths, .int c_lawInForce, .int c_drawTenths, .ref a_values, .ref a_bests, .int c_solvedRows, .ref a_rowTenths, .ref a_hitValues, .ref a_missValues]))]) (fun (r : Int32) (u : Unit) => r = f_X1_isOver c_lawInForce p1 p2) := by
  obtain ⟨XX, hXX⟩ : ∃ z, z = f_X1_isOver c_lawInForce p1 p2 := ⟨_, rfl⟩
  have heq := hXX.trans (f_X1_isOver.eq_def c_lawInForce p1 p2)
  refine g_startI (lv := [(0, .ref a_), (1, .int p1), (2, .int p2)]) RX1 rfl rfl rfl (Nat.le_of_ble_eq_true rfl) rfl (fun p e s m args below meth c AA QQ hAA hQQ X hr hmn => ?_)
  refine g_iload_n X 1 rfl rfl dX1_isOver_0 ?_
  refine g_if_le X 23 dX1_isOver_1 (by decide) (fun c1 => ?_) (fun c1 => ?_)
  · have heq := heq.trans (if_pos c1)
    refine g_iconst (v := 1) X (by decide) dX1_isOver_23 ?_
    refine g_goto (tgt := 28) X (by decide) dX1_isOver_24 ?_
    exact g_zret X hAA hQQ () (heq.symm.trans hXX) [0] rfl rfl hr rfl dX1_isOver_28
  · have heq := heq.trans (if_neg c1)
    refine g_aload_n X 0 rfl rfl dX1_isOver_4 ?_
    refine g_get (C := RX1) (T := TX1) (N := 11) (ci := 1) X hi_X1_isOver_X1 0 rfl rfl 3 (by decide) (X.2.2.2.2.1 (.fieldLink RX1 26 "NineteenSecondsLeft$Lamp" "lawInForce" "I") (List.mem_of_getElem? (i := 1) rfl)) rfl rfl dX1_isOver_5 ?_
    refine g_iconst (v := 1) X (by decide) dX1_isOver_8 ?_
    refine g_icmp_ne X 27 dX1_isOver_9 (by decide) (fun c9 => ?_) (fun c9 => ?_)
    · have heq := heq.trans (if_neg c9)
      refine g_iconst (v := 0) X (by decide) dX1_isOver_27 ?_
      exact g_zret X hAA hQQ () (heq.symm.trans hXX) [0] rfl rfl hr rfl dX1_isOver_28
    · have heq := heq.trans (if_pos c9)
      refine g_iload_n X 2 rfl rfl dX1_isOver_12 ?_
      refine g_bipush (v := 6) X (by decide) dX1_isOver_13 ?_
      refine g_isub X dX1_isOver_15 ?_
      refine g_mabs X (X.2.2.2.2.1 (.methodLink RX1 88 Lib.Math.abs.name) (List.mem_of_getElem? (i := 2) rfl)) (X.2.2.2.2.1 (.static Lib.Math.abs.name) (List.mem_of_getElem? (i := 3) rfl)) (X.2.2.2.2.1 (.initialized "java/lang/Math") (List.mem_of_getElem? (i := 4) rfl)) (X.2.2.2.2.1 (.code Lib.Math.abs.name Lib.Math.abs.code 1 (some .int)) (List.mem_of_getElem? (i := 5) rfl)) (Nat.le_of_ble_eq_true rfl) (Nat.le_of_ble_eq_true rfl) (Nat.le_of_ble_eq_true rfl) (Nat.le_of_ble_eq_true rfl) dX1_isOver_16 ?_
      refine g_iconst (v := 3) X (by decide) dX1_isOver_19 ?_
      refine g_icmp_lt X 27 dX1_isOver_20 (by decide) (fun c20 => ?_) (fun c20 => ?_)
      · have heq := heq.trans (if_pos c20)
        refine g_iconst (v := 0) X (by decide) dX1_isOver_27 ?_
        exact g_zret X hAA hQQ () (heq.symm.trans hXX) [0] rfl rfl hr rfl dX1_isOver_28
      · have heq := heq.trans (if_neg c20)
        refine g_iconst (v := 1) X (by decide) dX1_isOver_23 ?_
        refine g_goto (tgt := 28) X (by decide) dX1_isOver_24 ?_
        exact g_zret X hAA hQQ () (heq.symm.trans hXX) [0] rfl rfl hr rfl dX1_isOver_28

theorem fb_X1_isOver (a b c : Int32) : f_X1_isOver a b c = 0 ∨ f_X1_isOver a b c = 1 := by
  unfold f_X1_isOver
  repeat' split
  all_goals first | exact Or.inl rfl | exact Or.inr rfl

theorem hi_X1_valueOfEnd_X1 : ∀ w ∈ wsX10, w ∈ wsX1_valueOfEnd := fun w h => List.mem_cons_of_mem _ (List.mem_append_right _ (h))
def f_X1_valueOfEnd (c_drawTenths : Int32) (p1 : Int32) : Int32 :=
  (if p1 ≤ 6 then (if p1 = 6 then c_drawTenths * 100000000 else 0) else 1000000000)
set_option maxHeartbeats 4000000 in
set_option maxRecDepth 100000 in
theorem k_X1_valueOfEnd (l : Launch) (D : va_G) (cI : ClassId) (kA kV : Nat → Nat) (a_ a_squad a_changes a_values a_bests a_rowTenths a_hitValues a_missValues : Nat) (c_reboundTenths : Int32) (c_lawInForce : Int32) (c_drawTenths : Int32) (c_solvedRows : Int32) (p1 : Int32) :
    g_MI l D cI kA kV yX1_valueOfEnd wsX1_valueOfEnd { frames := 0, cells := 0, slots := 0, locals := 0 } [.ref a_, .int p1] [(a_, .inr (1, [.ref a_squad, .ref a_changes, .int c_reboundTenths, .int c_lawInForce, .int c_drawTenths, .ref a_values, .ref a_bests, .int c_solvedRows, .ref a_rowTenths, .ref a_hitValues, .ref a_missValues]))] (fun u : Unit => [(a_, .inr (1, [.ref a_squad, .ref a_changes, .int c_reboundTenths, .int c_lawInForce, .int c_drawTenths, .ref a_values, .ref a_bests, .int c_solvedRows, .ref a_rowTenths, .ref a_hitValues, .ref a_missValues]))]) (fun (r : Int32) (u : Unit) => r = f_X1_valueOfEnd c_drawTenths p1) := by
  obtain ⟨XX, hXX⟩ : ∃ z, z = f_X1_valueOfEnd c_drawTenths p1 := ⟨_, rfl⟩
  have heq := hXX.trans (f_X1_valueOfEnd.eq_def c_drawTenths p1)
  refine g_startI (lv := [(0, .ref a_), (1, .int p1)]) RX1 rfl rfl rfl (Nat.le_of_ble_eq_true rfl) rfl (fun p e s m args below meth c AA QQ hAA hQQ X hr hmn => ?_)
  refine g_iload_n X 1 rfl rfl dX1_valueOfEnd_0 ?_
  refine g_bipush (v := 6) X (by decide) dX1_valueOfEnd_1 ?_
  refine g_icmp_le X 9 dX1_valueOfEnd_3 (by decide) (fun c3 => ?_) (fun c3 => ?_)
  · have heq := heq.trans (if_pos c3)
    refine g_iload_n X 1 rfl rfl dX1_valueOfEnd_9 ?_
    refine g_bipush (v := 6) X (by decide) dX1_valueOfEnd_10 ?_
    refine g_icmp_ne X 25 dX1_valueOfEnd_12 (by decide) (fun c12 => ?_) (fun c12 => ?_)
    · have heq := heq.trans (if_neg c12)
      refine g_iconst (v := 0) X (by decide) dX1_valueOfEnd_25 ?_
      exact g_iret X hAA hQQ () (heq.symm.trans hXX) [0] rfl rfl hr dX1_valueOfEnd_26
    · have heq := heq.trans (if_pos c12)
      refine g_aload_n X 0 rfl rfl dX1_valueOfEnd_15 ?_
      refine g_get (C := RX1) (T := TX1) (N := 11) (ci := 1) X hi_X1_valueOfEnd_X1 0 rfl rfl 4 (by decide) (X.2.2.2.2.1 (.fieldLink RX1 29 "NineteenSecondsLeft$Lamp" "drawTenths" "I") (List.mem_of_getElem? (i := 2) rfl)) rfl rfl dX1_valueOfEnd_16 ?_
      refine g_ldc (v := 100000000) X (X.2.2.2.2.1 (.constant RX1 92 (100000000)) (List.mem_of_getElem? (i := 3) rfl)) dX1_valueOfEnd_19 ?_
      refine g_imul X dX1_valueOfEnd_21 ?_
      refine g_goto (tgt := 26) X (by decide) dX1_valueOfEnd_22 ?_
      exact g_iret X hAA hQQ () (heq.symm.trans hXX) [0] rfl rfl hr dX1_valueOfEnd_26
  · have heq := heq.trans (if_neg c3)
    refine g_ldc (v := 1000000000) X (X.2.2.2.2.1 (.constant RX1 91 (1000000000)) (List.mem_of_getElem? (i := 1) rfl)) dX1_valueOfEnd_6 ?_
    exact g_iret X hAA hQQ () (heq.symm.trans hXX) [0] rfl rfl hr dX1_valueOfEnd_8

def f_X1_placeOf (p0 : Int32) (p1 : Int32) (p2 : Int32) : Int32 :=
  (if p0 < 0 then (-1) else (if 24 < p0 then (-1) else (if p1 < 0 then (-1) else (if 12 < p1 then (-1) else (if p2 < 0 then (-1) else (if 1 < p2 then (-1) else (((p0 * 13) + p1) * 2) + p2))))))
set_option maxHeartbeats 4000000 in
set_option maxRecDepth 100000 in
theorem k_X1_placeOf (l : Launch) (D : va_G) (cI : ClassId) (kA kV : Nat → Nat) (p0 : Int32) (p1 : Int32) (p2 : Int32) :
    g_MI l D cI kA kV yX1_placeOf wsX1_placeOf { frames := 0, cells := 0, slots := 0, locals := 0 } [.int p0, .int p1, .int p2] [] (fun u : Unit => []) (fun (r : Int32) (u : Unit) => r = f_X1_placeOf p0 p1 p2) := by
  obtain ⟨XX, hXX⟩ : ∃ z, z = f_X1_placeOf p0 p1 p2 := ⟨_, rfl⟩
  have heq := hXX.trans (f_X1_placeOf.eq_def p0 p1 p2)
  refine g_startI (lv := [(0, .int p0), (1, .int p1), (2, .int p2)]) RX1 rfl rfl rfl (Nat.le_of_ble_eq_true rfl) rfl (fun p e s m args below meth c AA QQ hAA hQQ X hr hmn => ?_)
  refine g_iload_n X 0 rfl rfl dX1_placeOf_0 ?_
  refine g_if_lt X 33 dX1_placeOf_1 (by decide) (fun c1 => ?_) (fun c1 => ?_)
  · have heq := heq.trans (if_pos c1)
    refine g_iconst (v := 0) X (by decide) dX1_placeOf_33 ?_
    refine g_istore_n (lv' := [(3, .int 0), (0, .int p0), (1, .int p1), (2, .int p2)]) X rfl (by decide) rfl dX1_placeOf_34 ?_
    refine g_iload_n X 0 rfl rfl dX1_placeOf_35 ?_
    refine g_if_eq X 52 dX1_placeOf_36 (by decide) (fun c36 => ?_) (fun c36 => absurd c36 (by decide))
    refine g_iconst (v := (-1)) X (by decide) dX1_placeOf_52 ?_
    exact g_iret X hAA hQQ () (heq.symm.trans hXX) [] rfl rfl hr dX1_placeOf_53
  · have heq := heq.trans (if_neg c1)
    refine g_iload_n X 0 rfl rfl dX1_placeOf_4 ?_
    refine g_bipush (v := 24) X (by decide) dX1_placeOf_5 ?_
    refine g_icmp_gt X 33 dX1_placeOf_7 (by decide) (fun c7 => ?_) (fun c7 => ?_)
    · have heq := heq.trans (if_pos c7)
      refine g_iconst (v := 0) X (by decide) dX1_placeOf_33 ?_
      refine g_istore_n (lv' := [(3, .int 0), (0, .int p0), (1, .int p1), (2, .int p2)]) X rfl (by decide) rfl dX1_placeOf_34 ?_
      refine g_iload_n X 0 rfl rfl dX1_placeOf_35 ?_
      refine g_if_eq X 52 dX1_placeOf_36 (by decide) (fun c36 => ?_) (fun c36 => absurd c36 (by decide))
      refine g_iconst (v := (-1)) X (by decide) dX1_placeOf_52 ?_
      exact g_iret X hAA hQQ () (heq.symm.trans hXX) [] rfl rfl hr dX1_placeOf_53
    · have heq := heq.trans (if_neg c7)
      refine g_iload_n X 1 rfl rfl dX1_placeOf_10 ?_
      refine g_if_lt X 33 dX1_placeOf_11 (by decide) (fun c11 => ?_) (fun c11 => ?_)
      · have heq := heq.trans (if_pos c11)
        refine g_iconst (v := 0) X (by decide) dX1_placeOf_33 ?_
        refine g_istore_n (lv' := [(3, .int 0), (0, .int p0), (1, .int p1), (2, .int p2)]) X rfl (by decide) rfl dX1_placeOf_34 ?_
        refine g_iload_n X 0 rfl rfl dX1_placeOf_35 ?_
        refine g_if_eq X 52 dX1_placeOf_36 (by decide) (fun c36 => ?_) (fun c36 => absurd c36 (by decide))
        refine g_iconst (v := (-1)) X (by decide) dX1_placeOf_52 ?_
        exact g_iret X hAA hQQ () (heq.symm.trans hXX) [] rfl rfl hr dX1_placeOf_53
      · have heq := heq.trans (if_neg c11)
        refine g_iload_n X 1 rfl rfl dX1_placeOf_14 ?_
        refine g_bipush (v := 12) X (by decide) dX1_placeOf_15 ?_
        refine g_icmp_gt X 33 dX1_placeOf_17 (by decide) (fun c17 => ?_) (fun c17 => ?_)
        · have heq := heq.trans (if_pos c17)
          refine g_iconst (v := 0) X (by decide) dX1_placeOf_33 ?_
          refine g_istore_n (lv' := [(3, .int 0), (0, .int p0), (1, .int p1), (2, .int p2)]) X rfl (by decide) rfl dX1_placeOf_34 ?_
          refine g_iload_n X 0 rfl rfl dX1_placeOf_35 ?_
          refine g_if_eq X 52 dX1_placeOf_36 (by decide) (fun c36 => ?_) (fun c36 => absurd c36 (by decide))
          refine g_iconst (v := (-1)) X (by decide) dX1_placeOf_52 ?_
          exact g_iret X hAA hQQ () (heq.symm.trans hXX) [] rfl rfl hr dX1_placeOf_53
        · have heq := heq.trans (if_neg c17)
          refine g_iload_n X 2 rfl rfl dX1_placeOf_20 ?_
          refine g_if_lt X 33 dX1_placeOf_21 (by decide) (fun c21 => ?_) (fun c21 => ?_)
          · have heq := heq.trans (if_pos c21)
            refine g_iconst (v := 0) X (by decide) dX1_placeOf_33 ?_
            refine g_istore_n (lv' := [(3, .int 0), (0, .int p0), (1, .int p1), (2, .int p2)]) X rfl (by decide) rfl dX1_placeOf_34 ?_
            refine g_iload_n X 0 rfl rfl dX1_placeOf_35 ?_
            refine g_if_eq X 52 dX1_placeOf_36 (by decide) (fun c36 => ?_) (fun c36 => absurd c36 (by decide))
            refine g_iconst (v := (-1)) X (by decide) dX1_placeOf_52 ?_
            exact g_iret X hAA hQQ () (heq.symm.trans hXX) [] rfl rfl hr dX1_placeOf_53
          · have heq := heq.trans (if_neg c21)
            refine g_iload_n X 2 rfl rfl dX1_placeOf_24 ?_
            refine g_iconst (v := 1) X (by decide) dX1_placeOf_25 ?_
            refine g_icmp_gt X 33 dX1_placeOf_26 (by decide) (fun c26 => ?_) (fun c26 => ?_)
            · have heq := heq.trans (if_pos c26)
              refine g_iconst (v := 0) X (by decide) dX1_placeOf_33 ?_
              refine g_istore_n (lv' := [(3, .int 0), (0, .int p0), (1, .int p1), (2, .int p2)]) X rfl (by decide) rfl dX1_placeOf_34 ?_
              refine g_iload_n X 0 rfl rfl dX1_placeOf_35 ?_
              refine g_if_eq X 52 dX1_placeOf_36 (by decide) (fun c36 => ?_) (fun c36 => absurd c36 (by decide))
              refine g_iconst (v := (-1)) X (by decide) dX1_placeOf_52 ?_
              exact g_iret X hAA hQQ () (heq.symm.trans hXX) [] rfl rfl hr dX1_placeOf_53
            · have heq := heq.trans (if_neg c26)
              refine g_iconst (v := 1) X (by decide) dX1_placeOf_29 ?_
              refine g_goto (tgt := 34) X (by decide) dX1_placeOf_30 ?_
              refine g_istore_n (lv' := [(3, .int 1), (0, .int p0), (1, .int p1), (2, .int p2)]) X rfl (by decide) rfl dX1_placeOf_34 ?_
              refine g_iload_n X 0 rfl rfl dX1_placeOf_35 ?_
              refine g_if_eq X 52 dX1_placeOf_36 (by decide) (fun c36 => absurd c36 (by decide)) (fun c36 => ?_)
              refine g_iload_n X 1 rfl rfl dX1_placeOf_39 ?_
              refine g_bipush (v := 13) X (by decide) dX1_placeOf_40 ?_
              refine g_imul X dX1_placeOf_42 ?_
              refine g_iload_n X 2 rfl rfl dX1_placeOf_43 ?_
              refine g_iadd X dX1_placeOf_44 ?_
              refine g_iconst (v := 2) X (by decide) dX1_placeOf_45 ?_
              refine g_imul X dX1_placeOf_46 ?_
              refine g_iload_n X 3 rfl rfl dX1_placeOf_47 ?_
              refine g_iadd X dX1_placeOf_48 ?_
              refine g_goto (tgt := 53) X (by decide) dX1_placeOf_49 ?_
              exact g_iret X hAA hQQ () (heq.symm.trans hXX) [] rfl rfl hr dX1_placeOf_53

theorem hi_X1_valueAt_X1 : ∀ w ∈ wsX10, w ∈ wsX1_valueAt := fun w h => List.mem_cons_of_mem _ (List.mem_append_right _ (h))
def f_X1_valueAt (c_values : Nat → Int32) (p1 : Int32) (p2 : Int32) (p3 : Int32) : Int32 :=
  g_lt (f_X1_placeOf p1 p2 p3) (fun r3 => (if r3 < 0 then 0 else (if r3 < 650 then c_values r3.toNatClampNeg else 0)))
set_option maxHeartbeats 4000000 in
set_option maxRecDepth 100000 in
theorem k_X1_valueAt (l : Launch) (D : va_G) (cI : ClassId) (kA kV : Nat → Nat) (a_ a_squad a_changes a_values a_bests a_rowTenths a_hitValues a_missValues : Nat) (c_reboundTenths : Int32) (c_lawInForce : Int32) (c_drawTenths : Int32) (c_solvedRows : Int32) (c_values : Nat → Int32) (p1 : Int32) (p2 : Int32) (p3 : Int32) :
    g_MI l D cI kA kV yX1_valueAt wsX1_valueAt { frames := 1, cells := 0, slots := 0, locals := 23 } [.ref a_, .int p1, .int p2, .int p3] [(a_, .inr (1, [.ref a_squad, .ref a_changes, .int c_reboundTenths, .int c_lawInForce, .int c_drawTenths, .ref a_values, .ref a_bests, .int c_solvedRows, .ref a_rowTenths, .ref a_hitValues, .ref a_missValues])), (a_values, .inl (cI, 650, .inl c_values))] (fun u : Unit => [(a_, .inr (1, [.ref a_squad, .ref a_changes, .int c_reboundTenths, .int c_lawInForce, .int c_drawTenths, .ref a_values, .ref a_bests, .int c_solvedRows, .ref a_rowTenths, .ref a_hitValues, .ref a_missValues])), (a_values, .inl (cI, 650, .inl c_values))]) (fun (r : Int32) (u : Unit) => r = f_X1_valueAt c_values p1 p2 p3) := by
  obtain ⟨XX, hXX⟩ : ∃ z, z = f_X1_valueAt c_values p1 p2 p3 := ⟨_, rfl⟩
  have heq := hXX.trans (f_X1_valueAt.eq_def c_values p1 p2 p3)
  refine g_startI (lv := [(0, .ref a_), (1, .int p1), (2, .int p2), (3, .int p3)]) RX1 rfl rfl rfl (Nat.le_of_ble_eq_true rfl) rfl (fun p e s m args below meth c AA QQ hAA hQQ X hr hmn => ?_)
  refine g_iload_n X 1 rfl rfl dX1_valueAt_0 ?_
  refine g_iload_n X 2 rfl rfl dX1_valueAt_1 ?_
  refine g_iload_n X 3 rfl rfl dX1_valueAt_2 ?_
  refine g_callSi (As := [.int p1, .int p2, .int p3]) (st := []) (wr := [(a_, .inr (1, [.ref a_squad, .ref a_changes, .int c_reboundTenths, .int c_lawInForce, .int c_drawTenths, .ref a_values, .ref a_bests, .int c_solvedRows, .ref a_rowTenths, .ref a_hitValues, .ref a_missValues])), (a_values, .inl (cI, 650, .inl c_values))]) X (k_X1_placeOf l D cI kA kV p1 p2 p3) (va_cwS 3 X.2.2.2.2.1 gX1_valueAt_X1_placeOf rfl rfl rfl (by decide +kernel) ⟨Nat.le_of_ble_eq_true rfl, Nat.le_of_ble_eq_true rfl⟩) [] [0, 1] rfl rfl rfl rfl (by decide) rfl (Nat.le_of_ble_eq_true rfl) ⟨Nat.le_of_ble_eq_true rfl, Nat.le_of_ble_eq_true rfl⟩ dX1_valueAt_3 rfl (fun r3 u3 hw3 => ?_)
  refine g_eqs (ws' := [(a_, .inr (1, [.ref a_squad, .ref a_changes, .int c_reboundTenths, .int c_lawInForce, .int c_drawTenths, .ref a_values, .ref a_bests, .int c_solvedRows, .ref a_rowTenths, .ref a_hitValues, .ref a_missValues])), (a_values, .inl (cI, 650, .inl c_values))]) rfl ?_
  have heq := g_let heq hw3
  refine g_istore (lv' := [(4, .int r3), (0, .ref a_), (1, .int p1), (2, .int p2), (3, .int p3)]) X (by decide) rfl dX1_valueAt_6 ?_
  refine g_iload X 0 rfl dX1_valueAt_8 ?_
  refine g_if_lt X 23 dX1_valueAt_10 (by decide) (fun c10 => ?_) (fun c10 => ?_)
  · have heq := heq.trans (if_pos c10)
    refine g_iconst (v := 0) X (by decide) dX1_valueAt_23 ?_
    refine g_goto (tgt := 34) X (by decide) dX1_valueAt_24 ?_
    exact g_iret X hAA hQQ () (heq.symm.trans hXX) [0, 1] rfl rfl hr dX1_valueAt_34
  · have heq := heq.trans (if_neg c10)
    refine g_iload X 0 rfl dX1_valueAt_13 ?_
    refine g_aload_n X 1 rfl rfl dX1_valueAt_15 ?_
    refine g_get (C := RX1) (T := TX1) (N := 11) (ci := 1) X hi_X1_valueAt_X1 0 rfl rfl 5 (by decide) (X.2.2.2.2.1 (.fieldLink RX1 32 "NineteenSecondsLeft$Lamp" "values" "[I") (List.mem_of_getElem? (i := 1) rfl)) rfl rfl dX1_valueAt_16 ?_
    refine g_alen (v := 650) X 1 rfl rfl dX1_valueAt_19 ?_
    refine g_icmp_lt X 27 dX1_valueAt_20 (by decide) (fun c20 => ?_) (fun c20 => ?_)
    · have heq := heq.trans (if_pos c20)
      refine g_aload_n X 1 rfl rfl dX1_valueAt_27 ?_
      refine g_get (C := RX1) (T := TX1) (N := 11) (ci := 1) X hi_X1_valueAt_X1 0 rfl rfl 5 (by decide) (X.2.2.2.2.1 (.fieldLink RX1 32 "NineteenSecondsLeft$Lamp" "values" "[I") (List.mem_of_getElem? (i := 1) rfl)) rfl rfl dX1_valueAt_28 ?_
      refine g_iload X 0 rfl dX1_valueAt_31 ?_
      refine g_iald X 1 rfl (g_vin (by decide) (g_n0 c10) c20) dX1_valueAt_33 ?_
      exact g_iret X hAA hQQ () (heq.symm.trans hXX) [0, 1] rfl rfl hr dX1_valueAt_34
    · have heq := heq.trans (if_neg c20)
      refine g_iconst (v := 0) X (by decide) dX1_valueAt_23 ?_
      refine g_goto (tgt := 34) X (by decide) dX1_valueAt_24 ?_
      exact g_iret X hAA hQQ () (heq.symm.trans hXX) [0, 1] rfl rfl hr dX1_valueAt_34

theorem hi_X1_bestAt_X1 : ∀ w ∈ wsX10, w ∈ wsX1_bestAt := fun w h => List.mem_cons_of_mem _ (List.mem_append_right _ (h))
def f_X1_bestAt (c_bests : Nat → Int32) (p1 : Int32) (p2 : Int32) (p3 : Int32) : Int32 :=
  g_lt (f_X1_placeOf p1 p2 p3) (fun r3 => (if r3 < 0 then (-9) else (if r3 < 650 then c_bests r3.toNatClampNeg else (-9))))
set_option maxHeartbeats 4000000 in
set_option maxRecDepth 100000 in
theorem k_X1_bestAt (l : Launch) (D : va_G) (cI : ClassId) (kA kV : Nat → Nat) (a_ a_squad a_changes a_values a_bests a_rowTenths a_hitValues a_missValues : Nat) (c_reboundTenths : Int32) (c_lawInForce : Int32) (c_drawTenths : Int32) (c_solvedRows : Int32) (c_bests : Nat → Int32) (p1 : Int32) (p2 : Int32) (p3 : Int32) :
    g_MI l D cI kA kV yX1_bestAt wsX1_bestAt { frames := 1, cells := 0, slots := 0, locals := 23 } [.ref a_, .int p1, .int p2, .int p3] [(a_, .inr (1, [.ref a_squad, .ref a_changes, .int c_reboundTenths, .int c_lawInForce, .int c_drawTenths, .ref a_values, .ref a_bests, .int c_solvedRows, .ref a_rowTenths, .ref a_hitValues, .ref a_missValues])), (a_bests, .inl (cI, 650, .inl c_bests))] (fun u : Unit => [(a_, .inr (1, [.ref a_squad, .ref a_changes, .int c_reboundTenths, .int c_lawInForce, .int c_drawTenths, .ref a_values, .ref a_bests, .int c_solvedRows, .ref a_rowTenths, .ref a_hitValues, .ref a_missValues])), (a_bests, .inl (cI, 650, .inl c_bests))]) (fun (r : Int32) (u : Unit) => r = f_X1_bestAt c_bests p1 p2 p3) := by
  obtain ⟨XX, hXX⟩ : ∃ z, z = f_X1_bestAt c_bests p1 p2 p3 := ⟨_, rfl⟩
  have heq := hXX.trans (f_X1_bestAt.eq_def c_bests p1 p2 p3)
  refine g_startI (lv := [(0, .ref a_), (1, .int p1), (2, .int p2), (3, .int p3)]) RX1 rfl rfl rfl (Nat.le_of_ble_eq_true rfl) rfl (fun p e s m args below meth c AA QQ hAA hQQ X hr hmn => ?_)
  refine g_iload_n X 1 rfl rfl dX1_bestAt_0 ?_
  refine g_iload_n X 2 rfl rfl dX1_bestAt_1 ?_
  refine g_iload_n X 3 rfl rfl dX1_bestAt_2 ?_
  refine g_callSi (As := [.int p1, .int p2, .int p3]) (st := []) (wr := [(a_, .inr (1, [.ref a_squad, .ref a_changes, .int c_reboundTenths, .int c_lawInForce, .int c_drawTenths, .ref a_values, .ref a_bests, .int c_solvedRows, .ref a_rowTenths, .ref a_hitValues, .ref a_missValues])), (a_bests, .inl (cI, 650, .inl c_bests))]) X (k_X1_placeOf l D cI kA kV p1 p2 p3) (va_cwS 3 X.2.2.2.2.1 gX1_bestAt_X1_placeOf rfl rfl rfl (by decide +kernel) ⟨Nat.le_of_ble_eq_true rfl, Nat.le_of_ble_eq_true rfl⟩) [] [0, 1] rfl rfl rfl rfl (by decide) rfl (Nat.le_of_ble_eq_true rfl) ⟨Nat.le_of_ble_eq_true rfl, Nat.le_of_ble_eq_true rfl⟩ dX1_bestAt_3 rfl (fun r3 u3 hw3 => ?_)
  refine g_eqs (ws' := [(a_, .inr (1, [.ref a_squad, .ref a_changes, .int c_reboundTenths, .int c_lawInForce, .int c_drawTenths, .ref a_values, .ref a_bests, .int c_solvedRows, .ref a_rowTenths, .ref a_hitValues, .ref a_missValues])), (a_bests, .inl (cI, 650, .inl c_bests))]) rfl ?_
  have heq := g_let heq hw3
  refine g_istore (lv' := [(4, .int r3), (0, .ref a_), (1, .int p1), (2, .int p2), (3, .int p3)]) X (by decide) rfl dX1_bestAt_6 ?_
  refine g_iload X 0 rfl dX1_bestAt_8 ?_
  refine g_if_lt X 23 dX1_bestAt_10 (by decide) (fun c10 => ?_) (fun c10 => ?_)
  · have heq := heq.trans (if_pos c10)
    refine g_bipush (v := (-9)) X (by decide) dX1_bestAt_23 ?_
    refine g_goto (tgt := 35) X (by decide) dX1_bestAt_25 ?_
    exact g_iret X hAA hQQ () (heq.symm.trans hXX) [0, 1] rfl rfl hr dX1_bestAt_35
  · have heq := heq.trans (if_neg c10)
    refine g_iload X 0 rfl dX1_bestAt_13 ?_
    refine g_aload_n X 1 rfl rfl dX1_bestAt_15 ?_
    refine g_get (C := RX1) (T := TX1) (N := 11) (ci := 1) X hi_X1_bestAt_X1 0 rfl rfl 6 (by decide) (X.2.2.2.2.1 (.fieldLink RX1 35 "NineteenSecondsLeft$Lamp" "bests" "[I") (List.mem_of_getElem? (i := 1) rfl)) rfl rfl dX1_bestAt_16 ?_
    refine g_alen (v := 650) X 1 rfl rfl dX1_bestAt_19 ?_
    refine g_icmp_lt X 28 dX1_bestAt_20 (by decide) (fun c20 => ?_) (fun c20 => ?_)
    · have heq := heq.trans (if_pos c20)
      refine g_aload_n X 1 rfl rfl dX1_bestAt_28 ?_
      refine g_get (C := RX1) (T := TX1) (N := 11) (ci := 1) X hi_X1_bestAt_X1 0 rfl rfl 6 (by decide) (X.2.2.2.2.1 (.fieldLink RX1 35 "NineteenSecondsLeft$Lamp" "bests" "[I") (List.mem_of_getElem? (i := 1) rfl)) rfl rfl dX1_bestAt_29 ?_
      refine g_iload X 0 rfl dX1_bestAt_32 ?_
      refine g_iald X 1 rfl (g_vin (by decide) (g_n0 c10) c20) dX1_bestAt_34 ?_
      exact g_iret X hAA hQQ () (heq.symm.trans hXX) [0, 1] rfl rfl hr dX1_bestAt_35
    · have heq := heq.trans (if_neg c20)
      refine g_bipush (v := (-9)) X (by decide) dX1_bestAt_23 ?_
      refine g_goto (tgt := 35) X (by decide) dX1_bestAt_25 ?_
      exact g_iret X hAA hQQ () (heq.symm.trans hXX) [0, 1] rfl rfl hr dX1_bestAt_35

theorem hi_X1_put_X1 : ∀ w ∈ wsX10, w ∈ wsX1_put := fun w h => List.mem_cons_of_mem _ (List.mem_append_right _ (h))
def f_X1_put (c_values : Nat → Int32) (c_bests : Nat → Int32) (p1 : Int32) (p2 : Int32) (p3 : Int32) : (Nat → Int32) × (Nat → Int32) :=
  (if p1 < 0 then (c_values, c_bests) else (if 650 ≤ p1 then (c_values, c_bests) else (upd c_values p1.toNatClampNeg p2, upd c_bests p1.toNatClampNeg p3)))
set_option maxHeartbeats 4000000 in
set_option maxRecDepth 100000 in
theorem k_X1_put (l : Launch) (D : va_G) (cI : ClassId) (kA kV : Nat → Nat) (a_ a_squad a_changes a_values a_bests a_rowTenths a_hitValues a_missValues : Nat) (c_reboundTenths : Int32) (c_lawInForce : Int32) (c_drawTenths : Int32) (c_solvedRows : Int32) (c_values : Nat → Int32) (c_bests : Nat → Int32) (p1 : Int32) (p2 : Int32) (p3 : Int32) :
    g_MV l D cI kA kV yX1_put wsX1_put { frames := 0, cells := 0, slots := 0, locals := 0 } [.ref a_, .int p1, .int p2, .int p3] [(a_, .inr (1, [.ref a_squad, .ref a_changes, .int c_reboundTenths, .int c_lawInForce, .int c_drawTenths, .ref a_values, .ref a_bests, .int c_solvedRows, .ref a_rowTenths, .ref a_hitValues, .ref a_missValues])), (a_values, .inl (cI, 650, .inl c_values)), (a_bests, .inl (cI, 650, .inl c_bests))] (fun u : (Nat → Int32) × (Nat → Int32) => [(a_, .inr (1, [.ref a_squad, .ref a_changes, .int c_reboundTenths, .int c_lawInForce, .int c_drawTenths, .ref a_values, .ref a_bests, .int c_solvedRows, .ref a_rowTenths, .ref a_hitValues, .ref a_missValues])), (a_values, .inl (cI, 650, .inl u.1)), (a_bests, .inl (cI, 650, .inl u.2))]) (fun u : (Nat → Int32) × (Nat → Int32) => u = f_X1_put c_values c_bests p1 p2 p3) := by
  obtain ⟨XX, hXX⟩ : ∃ z, z = f_X1_put c_values c_bests p1 p2 p3 := ⟨_, rfl⟩
  have heq := hXX.trans (f_X1_put.eq_def c_values c_bests p1 p2 p3)
  refine g_startV (lv := [(0, .ref a_), (1, .int p1), (2, .int p2), (3, .int p3)]) RX1 rfl rfl rfl (Nat.le_of_ble_eq_true rfl) rfl (fun p e s m args below meth c AA QQ hAA hQQ X hr hmn => ?_)
  refine g_iload_n X 1 rfl rfl dX1_put_0 ?_
  refine g_if_lt X 36 dX1_put_1 (by decide) (fun c1 => ?_) (fun c1 => ?_)
  · have heq := heq.trans (if_pos c1)
    exact g_vret X hAA hQQ (c_values, c_bests) (heq.symm.trans hXX) [0, 1, 2] rfl rfl hr dX1_put_36
  · have heq := heq.trans (if_neg c1)
    refine g_iload_n X 1 rfl rfl dX1_put_4 ?_
    refine g_aload_n X 0 rfl rfl dX1_put_5 ?_
    refine g_get (C := RX1) (T := TX1) (N := 11) (ci := 1) X hi_X1_put_X1 0 rfl rfl 5 (by decide) (X.2.2.2.2.1 (.fieldLink RX1 32 "NineteenSecondsLeft$Lamp" "values" "[I") (List.mem_of_getElem? (i := 1) rfl)) rfl rfl dX1_put_6 ?_
    refine g_alen (v := 650) X 1 rfl rfl dX1_put_9 ?_
    refine g_icmp_ge X 36 dX1_put_10 (by decide) (fun c10 => ?_) (fun c10 => ?_)
    · have heq := heq.trans (if_pos c10)
      exact g_vret X hAA hQQ (c_values, c_bests) (heq.symm.trans hXX) [0, 1, 2] rfl rfl hr dX1_put_36
    · have heq := heq.trans (if_neg c10)
      refine g_iload_n X 1 rfl rfl dX1_put_13 ?_
      refine g_aload_n X 0 rfl rfl dX1_put_14 ?_
      refine g_get (C := RX1) (T := TX1) (N := 11) (ci := 1) X hi_X1_put_X1 0 rfl rfl 6 (by decide) (X.2.2.2.2.1 (.fieldLink RX1 35 "NineteenSecondsLeft$Lamp" "bests" "[I") (List.mem_of_getElem? (i := 2) rfl)) rfl rfl dX1_put_15 ?_
      refine g_alen (v := 650) X 2 rfl rfl dX1_put_18 ?_
      refine g_icmp_ge X 36 dX1_put_19 (by decide) (fun c19 => absurd c19 c10) (fun c19 => ?_)
      refine g_aload_n X 0 rfl rfl dX1_put_22 ?_
      refine g_get (C := RX1) (T := TX1) (N := 11) (ci := 1) X hi_X1_put_X1 0 rfl rfl 5 (by decide) (X.2.2.2.2.1 (.fieldLink RX1 32 "NineteenSecondsLeft$Lamp" "values" "[I") (List.mem_of_getElem? (i := 1) rfl)) rfl rfl dX1_put_23 ?_
      refine g_iload_n X 1 rfl rfl dX1_put_26 ?_
      refine g_iload_n X 2 rfl rfl dX1_put_27 ?_
      refine g_iast (ws' := [(a_, .inr (1, [.ref a_squad, .ref a_changes, .int c_reboundTenths, .int c_lawInForce, .int c_drawTenths, .ref a_values, .ref a_bests, .int c_solvedRows, .ref a_rowTenths, .ref a_hitValues, .ref a_missValues])), (a_values, .inl (cI, 650, .inl (upd c_values p1.toNatClampNeg p2))), (a_bests, .inl (cI, 650, .inl c_bests))]) X 1 rfl (g_vin (by decide) (g_n0 c1) (g_nn c10)) dX1_put_28 rfl ?_
      refine g_aload_n X 0 rfl rfl dX1_put_29 ?_
      refine g_get (C := RX1) (T := TX1) (N := 11) (ci := 1) X hi_X1_put_X1 0 rfl rfl 6 (by decide) (X.2.2.2.2.1 (.fieldLink RX1 35 "NineteenSecondsLeft$Lamp" "bests" "[I") (List.mem_of_getElem? (i := 2) rfl)) rfl rfl dX1_put_30 ?_
      refine g_iload_n X 1 rfl rfl dX1_put_33 ?_
      refine g_iload_n X 3 rfl rfl dX1_put_34 ?_
      refine g_iast (ws' := [(a_, .inr (1, [.ref a_squad, .ref a_changes, .int c_reboundTenths, .int c_lawInForce, .int c_drawTenths, .ref a_values, .ref a_bests, .int c_solvedRows, .ref a_rowTenths, .ref a_hitValues, .ref a_missValues])), (a_values, .inl (cI, 650, .inl (upd c_values p1.toNatClampNeg p2))), (a_bests, .inl (cI, 650, .inl (upd c_bests p1.toNatClampNeg p3)))]) X 2 rfl (g_vin (by decide) (g_n0 c1) (g_nn c10)) dX1_put_35 rfl ?_
      exact g_vret X hAA hQQ (upd c_values p1.toNatClampNeg p2, upd c_bests p1.toNatClampNeg p3) (heq.symm.trans hXX) [0, 1, 2] rfl rfl hr dX1_put_36

theorem hi_X1_leadBehind_X1 : ∀ w ∈ wsX10, w ∈ wsX1_leadBehind := fun w h => List.mem_cons_of_mem _ (List.mem_append_right _ (h))
def f_X1_leadBehind (c_lawInForce : Int32) (p1 : Int32) (p2 : Int32) (p3 : Int32) : Int32 :=
  (if p1 = 0 then (if p3 = 0 then g_lt (f_X4_heldLead (p2 + 2)) (fun r34 => r34) else g_lt (f_X4_heldLead (p2 - 2)) (fun r34 => r34)) else (if c_lawInForce = 3 then (if p3 = 0 then g_lt (f_X4_heldLead (p2 + 2)) (fun r34 => r34) else g_lt (f_X4_heldLead (p2 - 2)) (fun r34 => r34)) else (if p3 = 0 then g_lt (f_X4_heldLead (p2 + 3)) (fun r34 => r34) else g_lt (f_X4_heldLead (p2 - 3)) (fun r34 => r34))))
set_option maxHeartbeats 4000000 in
set_option maxRecDepth 100000 in
theorem k_X1_leadBehind (l : Launch) (D : va_G) (cI : ClassId) (kA kV : Nat → Nat) (a_ a_squad a_changes a_values a_bests a_rowTenths a_hitValues a_missValues : Nat) (c_reboundTenths : Int32) (c_lawInForce : Int32) (c_drawTenths : Int32) (c_solvedRows : Int32) (p1 : Int32) (p2 : Int32) (p3 : Int32) :
    g_MI l D cI kA kV yX1_leadBehind wsX1_leadBehind { frames := 1, cells := 0, slots := 0, locals := 20 } [.ref a_, .int p1, .int p2, .int p3] [(a_, .inr (1, [.ref a_squad, .ref a_changes, .int c_reboundTenths, .int c_lawInForce, .int c_drawTenths, .ref a_values, .ref a_bests, .int c_solvedRows, .ref a_rowTenths, .ref a_hitValues, .ref a_missValues]))] (fun u : Unit => [(a_, .inr (1, [.ref a_squad, .ref a_changes, .int c_reboundTenths, .int c_lawInForce, .int c_drawTenths, .ref a_values, .ref a_bests, .int c_solvedRows, .ref a_rowTenths, .ref a_hitValues, .ref a_missValues]))]) (fun (r : Int32) (u : Unit) => r = f_X1_leadBehind c_lawInForce p1 p2 p3) := by
  obtain ⟨XX, hXX⟩ : ∃ z, z = f_X1_leadBehind c_lawInForce p1 p2 p3 := ⟨_, rfl⟩
  have heq := hXX.trans (f_X1_leadBehind.eq_def c_lawInForce p1 p2 p3)
  refine g_startI (lv := [(0, .ref a_), (1, .int p1), (2, .int p2), (3, .int p3)]) RX1 rfl rfl rfl (Nat.le_of_ble_eq_true rfl) rfl (fun p e s m args below meth c AA QQ hAA hQQ X hr hmn => ?_)
  refine g_iload_n X 1 rfl rfl dX1_leadBehind_0 ?_
  refine g_if_eq X 12 dX1_leadBehind_1 (by decide) (fun c1 => ?_) (fun c1 => ?_)
  · have heq := heq.trans (if_pos c1)
    refine g_iconst (v := 2) X (by decide) dX1_leadBehind_12 ?_
    refine g_goto (tgt := 17) X (by decide) dX1_leadBehind_13 ?_
    refine g_istore (lv' := [(4, .int 2), (0, .ref a_), (1, .int p1), (2, .int p2), (3, .int p3)]) X (by decide) rfl dX1_leadBehind_17 ?_
    refine g_iload_n X 4 rfl rfl dX1_leadBehind_19 ?_
    refine g_if_ne X 30 dX1_leadBehind_20 (by decide) (fun c20 => ?_) (fun c20 => ?_)
    · have heq := heq.trans (if_neg c20)
      refine g_iload_n X 3 rfl rfl dX1_leadBehind_30 ?_
      refine g_iload X 0 rfl dX1_leadBehind_31 ?_
      refine g_isub X dX1_leadBehind_33 ?_
      refine g_callNi (host := "NineteenSecondsLeft") (As := [.int (p2 - 2)]) (st := []) (wr := [(a_, .inr (1, [.ref a_squad, .ref a_changes, .int c_reboundTenths, .int c_lawInForce, .int c_drawTenths, .ref a_values, .ref a_bests, .int c_solvedRows, .ref a_rowTenths, .ref a_hitValues, .ref a_missValues]))]) X (k_X4_heldLead l D cI kA kV (p2 - 2)) ⟨va_cnB 1 X.2.2.2.2.1 gX1_leadBehind_X4_heldLead_n96 rfl rfl rfl ((g_nl X).1 (RX1, 96, yX4_heldLead) (List.mem_of_getElem? (i := 6) rfl)) (X.2.2.2.2.1 (.initialized RX4) (List.mem_of_getElem? (i := 3) rfl)) (by decide +kernel) ⟨Nat.le_of_ble_eq_true rfl, Nat.le_of_ble_eq_true rfl⟩, (X.2.2.2.2.1 (.static yX4_heldLead) (List.mem_of_getElem? (i := 2) rfl)), trivial⟩ [] [0] rfl rfl rfl rfl (by decide) rfl (Nat.le_of_ble_eq_true rfl) ⟨Nat.le_of_ble_eq_true rfl, Nat.le_of_ble_eq_true rfl⟩ dX1_leadBehind_34 rfl (fun r34 u34 hw34 => ?_)
      refine g_eqs (ws' := [(a_, .inr (1, [.ref a_squad, .ref a_changes, .int c_reboundTenths, .int c_lawInForce, .int c_drawTenths, .ref a_values, .ref a_bests, .int c_solvedRows, .ref a_rowTenths, .ref a_hitValues, .ref a_missValues]))]) rfl ?_
      have heq := g_let heq hw34
      exact g_iret X hAA hQQ () (heq.symm.trans hXX) [0] rfl rfl hr dX1_leadBehind_37
    · have heq := heq.trans (if_pos c20)
      refine g_iload_n X 3 rfl rfl dX1_leadBehind_23 ?_
      refine g_iload X 0 rfl dX1_leadBehind_24 ?_
      refine g_iadd X dX1_leadBehind_26 ?_
      refine g_goto (tgt := 34) X (by decide) dX1_leadBehind_27 ?_
      refine g_callNi (host := "NineteenSecondsLeft") (As := [.int (p2 + 2)]) (st := []) (wr := [(a_, .inr (1, [.ref a_squad, .ref a_changes, .int c_reboundTenths, .int c_lawInForce, .int c_drawTenths, .ref a_values, .ref a_bests, .int c_solvedRows, .ref a_rowTenths, .ref a_hitValues, .ref a_missValues]))]) X (k_X4_heldLead l D cI kA kV (p2 + 2)) ⟨va_cnB 1 X.2.2.2.2.1 gX1_leadBehind_X4_heldLead_n96 rfl rfl rfl ((g_nl X).1 (RX1, 96, yX4_heldLead) (List.mem_of_getElem? (i := 6) rfl)) (X.2.2.2.2.1 (.initialized RX4) (List.mem_of_getElem? (i := 3) rfl)) (by decide +kernel) ⟨Nat.le_of_ble_eq_true rfl, Nat.le_of_ble_eq_true rfl⟩, (X.2.2.2.2.1 (.static yX4_heldLead) (List.mem_of_getElem? (i := 2) rfl)), trivial⟩ [] [0] rfl rfl rfl rfl (by decide) rfl (Nat.le_of_ble_eq_true rfl) ⟨Nat.le_of_ble_eq_true rfl, Nat.le_of_ble_eq_true rfl⟩ dX1_leadBehind_34 rfl (fun r34 u34 hw34 => ?_)
      refine g_eqs (ws' := [(a_, .inr (1, [.ref a_squad, .ref a_changes, .int c_reboundTenths, .int c_lawInForce, .int c_drawTenths, .ref a_values, .ref a_bests, .int c_solvedRows, .ref a_rowTenths, .ref a_hitValues, .ref a_missValues]))]) rfl ?_
      have heq := g_let heq hw34
      exact g_iret X hAA hQQ () (heq.symm.trans hXX) [0] rfl rfl hr dX1_leadBehind_37
  · have heq := heq.trans (if_neg c1)
    refine g_aload_n X 0 rfl rfl dX1_leadBehind_4 ?_
    refine g_get (C := RX1) (T := TX1) (N := 11) (ci := 1) X hi_X1_leadBehind_X1 0 rfl rfl 3 (by decide) (X.2.2.2.2.1 (.fieldLink RX1 26 "NineteenSecondsLeft$Lamp" "lawInForce" "I") (List.mem_of_getElem? (i := 1) rfl)) rfl rfl dX1_leadBehind_5 ?_
    refine g_iconst (v := 3) X (by decide) dX1_leadBehind_8 ?_
    refine g_icmp_ne X 16 dX1_leadBehind_9 (by decide) (fun c9 => ?_) (fun c9 => ?_)
    · have heq := heq.trans (if_neg c9)
      refine g_iconst (v := 3) X (by decide) dX1_leadBehind_16 ?_
      refine g_istore (lv' := [(4, .int 3), (0, .ref a_), (1, .int p1), (2, .int p2), (3, .int p3)]) X (by decide) rfl dX1_leadBehind_17 ?_
      refine g_iload_n X 4 rfl rfl dX1_leadBehind_19 ?_
      refine g_if_ne X 30 dX1_leadBehind_20 (by decide) (fun c20 => ?_) (fun c20 => ?_)
      · have heq := heq.trans (if_neg c20)
        refine g_iload_n X 3 rfl rfl dX1_leadBehind_30 ?_
        refine g_iload X 0 rfl dX1_leadBehind_31 ?_
        refine g_isub X dX1_leadBehind_33 ?_
        refine g_callNi (host := "NineteenSecondsLeft") (As := [.int (p2 - 3)]) (st := []) (wr := [(a_, .inr (1, [.ref a_squad, .ref a_changes, .int c_reboundTenths, .int c_lawInForce, .int c_drawTenths, .ref a_values, .ref a_bests, .int c_solvedRows, .ref a_rowTenths, .ref a_hitValues, .ref a_missValues]))]) X (k_X4_heldLead l D cI kA kV (p2 - 3)) ⟨va_cnB 1 X.2.2.2.2.1 gX1_leadBehind_X4_heldLead_n96 rfl rfl rfl ((g_nl X).1 (RX1, 96, yX4_heldLead) (List.mem_of_getElem? (i := 6) rfl)) (X.2.2.2.2.1 (.initialized RX4) (List.mem_of_getElem? (i := 3) rfl)) (by decide +kernel) ⟨Nat.le_of_ble_eq_true rfl, Nat.le_of_ble_eq_true rfl⟩, (X.2.2.2.2.1 (.static yX4_heldLead) (List.mem_of_getElem? (i := 2) rfl)), trivial⟩ [] [0] rfl rfl rfl rfl (by decide) rfl (Nat.le_of_ble_eq_true rfl) ⟨Nat.le_of_ble_eq_true rfl, Nat.le_of_ble_eq_true rfl⟩ dX1_leadBehind_34 rfl (fun r34 u34 hw34 => ?_)
        refine g_eqs (ws' := [(a_, .inr (1, [.ref a_squad, .ref a_changes, .int c_reboundTenths, .int c_lawInForce, .int c_drawTenths, .ref a_values, .ref a_bests, .int c_solvedRows, .ref a_rowTenths, .ref a_hitValues, .ref a_missValues]))]) rfl ?_
        have heq := g_let heq hw34
        exact g_iret X hAA hQQ () (heq.symm.trans hXX) [0] rfl rfl hr dX1_leadBehind_37
      · have heq := heq.trans (if_pos c20)
        refine g_iload_n X 3 rfl rfl dX1_leadBehind_23 ?_
        refine g_iload X 0 rfl dX1_leadBehind_24 ?_
        refine g_iadd X dX1_leadBehind_26 ?_
        refine g_goto (tgt := 34) X (by decide) dX1_leadBehind_27 ?_
        refine g_callNi (host := "NineteenSecondsLeft") (As := [.int (p2 + 3)]) (st := []) (wr := [(a_, .inr (1, [.ref a_squad, .ref a_changes, .int c_reboundTenths, .int c_lawInForce, .int c_drawTenths, .ref a_values, .ref a_bests, .int c_solvedRows, .ref a_rowTenths, .ref a_hitValues, .ref a_missValues]))]) X (k_X4_heldLead l D cI kA kV (p2 + 3)) ⟨va_cnB 1 X.2.2.2.2.1 gX1_leadBehind_X4_heldLead_n96 rfl rfl rfl ((g_nl X).1 (RX1, 96, yX4_heldLead) (List.mem_of_getElem? (i := 6) rfl)) (X.2.2.2.2.1 (.initialized RX4) (List.mem_of_getElem? (i := 3) rfl)) (by decide +kernel) ⟨Nat.le_of_ble_eq_true rfl, Nat.le_of_ble_eq_true rfl⟩, (X.2.2.2.2.1 (.static yX4_heldLead) (List.mem_of_getElem? (i := 2) rfl)), trivial⟩ [] [0] rfl rfl rfl rfl (by decide) rfl (Nat.le_of_ble_eq_true rfl) ⟨Nat.le_of_ble_eq_true rfl, Nat.le_of_ble_eq_true rfl⟩ dX1_leadBehind_34 rfl (fun r34 u34 hw34 => ?_)
        refine g_eqs (ws' := [(a_, .inr (1, [.ref a_squad, .ref a_changes, .int c_reboundTenths, .int c_lawInForce, .int c_drawTenths, .ref a_values, .ref a_bests, .int c_solvedRows, .ref a_rowTenths, .ref a_hitValues, .ref a_missValues]))]) rfl ?_
        have heq := g_let heq hw34
        exact g_iret X hAA hQQ () (heq.symm.trans hXX) [0] rfl rfl hr dX1_leadBehind_37
    · have heq := heq.trans (if_pos c9)
      refine g_iconst (v := 2) X (by decide) dX1_leadBehind_12 ?_
      refine g_goto (tgt := 17) X (by decide) dX1_leadBehind_13 ?_
      refine g_istore (lv' := [(4, .int 2), (0, .ref a_), (1, .int p1), (2, .int p2), (3, .int p3)]) X (by decide) rfl dX1_leadBehind_17 ?_
      refine g_iload_n X 4 rfl rfl dX1_leadBehind_19 ?_
      refine g_if_ne X 30 dX1_leadBehind_20 (by decide) (fun c20 => ?_) (fun c20 => ?_)
      · have heq := heq.trans (if_neg c20)
        refine g_iload_n X 3 rfl rfl dX1_leadBehind_30 ?_
        refine g_iload X 0 rfl dX1_leadBehind_31 ?_
        refine g_isub X dX1_leadBehind_33 ?_
        refine g_callNi (host := "NineteenSecondsLeft") (As := [.int (p2 - 2)]) (st := []) (wr := [(a_, .inr (1, [.ref a_squad, .ref a_changes, .int c_reboundTenths, .int c_lawInForce, .int c_drawTenths, .ref a_values, .ref a_bests, .int c_solvedRows, .ref a_rowTenths, .ref a_hitValues, .ref a_missValues]))]) X (k_X4_heldLead l D cI kA kV (p2 - 2)) ⟨va_cnB 1 X.2.2.2.2.1 gX1_leadBehind_X4_heldLead_n96 rfl rfl rfl ((g_nl X).1 (RX1, 96, yX4_heldLead) (List.mem_of_getElem? (i := 6) rfl)) (X.2.2.2.2.1 (.initialized RX4) (List.mem_of_getElem? (i := 3) rfl)) (by decide +kernel) ⟨Nat.le_of_ble_eq_true rfl, Nat.le_of_ble_eq_true rfl⟩, (X.2.2.2.2.1 (.static yX4_heldLead) (List.mem_of_getElem? (i := 2) rfl)), trivial⟩ [] [0] rfl rfl rfl rfl (by decide) rfl (Nat.le_of_ble_eq_true rfl) ⟨Nat.le_of_ble_eq_true rfl, Nat.le_of_ble_eq_true rfl⟩ dX1_leadBehind_34 rfl (fun r34 u34 hw34 => ?_)
        refine g_eqs (ws' := [(a_, .inr (1, [.ref a_squad, .ref a_changes, .int c_reboundTenths, .int c_lawInForce, .int c_drawTenths, .ref a_values, .ref a_bests, .int c_solvedRows, .ref a_rowTenths, .ref a_hitValues, .ref a_missValues]))]) rfl ?_
        have heq := g_let heq hw34
        exact g_iret X hAA hQQ () (heq.symm.trans hXX) [0] rfl rfl hr dX1_leadBehind_37
      · have heq := heq.trans (if_pos c20)
        refine g_iload_n X 3 rfl rfl dX1_leadBehind_23 ?_
        refine g_iload X 0 rfl dX1_leadBehind_24 ?_
        refine g_iadd X dX1_leadBehind_26 ?_
        refine g_goto (tgt := 34) X (by decide) dX1_leadBehind_27 ?_
        refine g_callNi (host := "NineteenSecondsLeft") (As := [.int (p2 + 2)]) (st := []) (wr := [(a_, .inr (1, [.ref a_squad, .ref a_changes, .int c_reboundTenths, .int c_lawInForce, .int c_drawTenths, .ref a_values, .ref a_bests, .int c_solvedRows, .ref a_rowTenths, .ref a_hitValues, .ref a_missValues]))]) X (k_X4_heldLead l D cI kA kV (p2 + 2)) ⟨va_cnB 1 X.2.2.2.2.1 gX1_leadBehind_X4_heldLead_n96 rfl rfl rfl ((g_nl X).1 (RX1, 96, yX4_heldLead) (List.mem_of_getElem? (i := 6) rfl)) (X.2.2.2.2.1 (.initialized RX4) (List.mem_of_getElem? (i := 3) rfl)) (by decide +kernel) ⟨Nat.le_of_ble_eq_true rfl, Nat.le_of_ble_eq_true rfl⟩, (X.2.2.2.2.1 (.static yX4_heldLead) (List.mem_of_getElem? (i := 2) rfl)), trivial⟩ [] [0] rfl rfl rfl rfl (by decide) rfl (Nat.le_of_ble_eq_true rfl) ⟨Nat.le_of_ble_eq_true rfl, Nat.le_of_ble_eq_true rfl⟩ dX1_leadBehind_34 rfl (fun r34 u34 hw34 => ?_)
        refine g_eqs (ws' := [(a_, .inr (1, [.ref a_squad, .ref a_changes, .int c_reboundTenths, .int c_lawInForce, .int c_drawTenths, .ref a_values, .ref a_bests, .int c_solvedRows, .ref a_rowTenths, .ref a_hitValues, .ref a_missValues]))]) rfl ?_
        have heq := g_let heq hw34
        exact g_iret X hAA hQQ () (heq.symm.trans hXX) [0] rfl rfl hr dX1_leadBehind_37

theorem hi_X1_secondsBehindHit_X1 : ∀ w ∈ wsX10, w ∈ wsX1_secondsBehindHit := fun w h => List.mem_cons_of_mem _ (List.mem_append_right _ (h))
def f_X1_secondsBehindHit (c_lawInForce : Int32) (p1 : Int32) (p2 : Int32) : Int32 :=
  (if c_lawInForce = 2 then p2 - 1 else g_lt (f_X4_takes p1) (fun r14 => p2 - r14))
set_option maxHeartbeats 4000000 in
set_option maxRecDepth 100000 in
theorem k_X1_secondsBehindHit (l : Launch) (D : va_G) (cI : ClassId) (kA kV : Nat → Nat) (a_ a_squad a_changes a_values a_bests a_rowTenths a_hitValues a_missValues : Nat) (c_reboundTenths : Int32) (c_lawInForce : Int32) (c_drawTenths : Int32) (c_solvedRows : Int32) (p1 : Int32) (p2 : Int32) :
    g_MI l D cI kA kV yX1_secondsBehindHit wsX1_secondsBehindHit { frames := 1, cells := 0, slots := 0, locals := 20 } [.ref a_, .int p1, .int p2] [(a_, .inr (1, [.ref a_squad, .ref a_changes, .int c_reboundTenths, .int c_lawInForce, .int c_drawTenths, .ref a_values, .ref a_bests, .int c_solvedRows, .ref a_rowTenths, .ref a_hitValues, .ref a_missValues]))] (fun u : Unit => [(a_, .inr (1, [.ref a_squad, .ref a_changes, .int c_reboundTenths, .int c_lawInForce, .int c_drawTenths, .ref a_values, .ref a_bests, .int c_solvedRows, .ref a_rowTenths, .ref a_hitValues, .ref a_missValues]))]) (fun (r : Int32) (u : Unit) => r = f_X1_secondsBehindHit c_lawInForce p1 p2) := by
  obtain ⟨XX, hXX⟩ : ∃ z, z = f_X1_secondsBehindHit c_lawInForce p1 p2 := ⟨_, rfl⟩
  have heq := hXX.trans (f_X1_secondsBehindHit.eq_def c_lawInForce p1 p2)
  refine g_startI (lv := [(0, .ref a_), (1, .int p1), (2, .int p2)]) RX1 rfl rfl rfl (Nat.le_of_ble_eq_true rfl) rfl (fun p e s m args below meth c AA QQ hAA hQQ X hr hmn => ?_)
  refine g_iload_n X 2 rfl rfl dX1_secondsBehindHit_0 ?_
  refine g_aload_n X 0 rfl rfl dX1_secondsBehindHit_1 ?_
  refine g_get (C := RX1) (T := TX1) (N := 11) (ci := 1) X hi_X1_secondsBehindHit_X1 0 rfl rfl 3 (by decide) (X.2.2.2.2.1 (.fieldLink RX1 26 "NineteenSecondsLeft$Lamp" "lawInForce" "I") (List.mem_of_getElem? (i := 1) rfl)) rfl rfl dX1_secondsBehindHit_2 ?_
  refine g_iconst (v := 2) X (by decide) dX1_secondsBehindHit_5 ?_
  refine g_icmp_ne X 13 dX1_secondsBehindHit_6 (by decide) (fun c6 => ?_) (fun c6 => ?_)
  · have heq := heq.trans (if_neg c6)
    refine g_iload_n X 1 rfl rfl dX1_secondsBehindHit_13 ?_
    refine g_callNi (host := "NineteenSecondsLeft") (As := [.int p1]) (st := [.int p2]) (wr := [(a_, .inr (1, [.ref a_squad, .ref a_changes, .int c_reboundTenths, .int c_lawInForce, .int c_drawTenths, .ref a_values, .ref a_bests, .int c_solvedRows, .ref a_rowTenths, .ref a_hitValues, .ref a_missValues]))]) X (k_X4_takes l D cI kA kV p1) ⟨va_cnB 1 X.2.2.2.2.1 gX1_secondsBehindHit_X4_takes_n99 rfl rfl rfl ((g_nl X).1 (RX1, 99, yX4_takes) (List.mem_of_getElem? (i := 5) rfl)) (X.2.2.2.2.1 (.initialized RX4) (List.mem_of_getElem? (i := 3) rfl)) (by decide +kernel) ⟨Nat.le_of_ble_eq_true rfl, Nat.le_of_ble_eq_true rfl⟩, (X.2.2.2.2.1 (.static yX4_takes) (List.mem_of_getElem? (i := 2) rfl)), trivial⟩ [] [0] rfl rfl rfl rfl (by decide) rfl (Nat.le_of_ble_eq_true rfl) ⟨Nat.le_of_ble_eq_true rfl, Nat.le_of_ble_eq_true rfl⟩ dX1_secondsBehindHit_14 rfl (fun r14 u14 hw14 => ?_)
    refine g_eqs (ws' := [(a_, .inr (1, [.ref a_squad, .ref a_changes, .int c_reboundTenths, .int c_lawInForce, .int c_drawTenths, .ref a_values, .ref a_bests, .int c_solvedRows, .ref a_rowTenths, .ref a_hitValues, .ref a_missValues]))]) rfl ?_
    have heq := g_let heq hw14
    refine g_isub X dX1_secondsBehindHit_17 ?_
    exact g_iret X hAA hQQ () (heq.symm.trans hXX) [0] rfl rfl hr dX1_secondsBehindHit_18
  · have heq := heq.trans (if_pos c6)
    refine g_iconst (v := 1) X (by decide) dX1_secondsBehindHit_9 ?_
    refine g_goto (tgt := 17) X (by decide) dX1_secondsBehindHit_10 ?_
    refine g_isub X dX1_secondsBehindHit_17 ?_
    exact g_iret X hAA hQQ () (heq.symm.trans hXX) [0] rfl rfl hr dX1_secondsBehindHit_18

def f_X1_valueBehindHit (c_lawInForce : Int32) (c_drawTenths : Int32) (c_values : Nat → Int32) (p1 : Int32) (p2 : Int32) (p3 : Int32) (p4 : Int32) : Int32 :=
  g_lt (f_X4_takes p1) (fun r1 => (if r1 ≤ p2 then g_lt (f_X1_leadBehind c_lawInForce p1 p3 p4) (fun r19 => g_lt (f_X1_secondsBehindHit c_lawInForce p1 p2) (fun r28 => g_lt (f_X1_valueAt c_values r28 r19 (1 - p4)) (fun r37 => r37))) else g_lt (f_X1_valueOfEnd c_drawTenths p3) (fun r10 => r10)))
set_option maxHeartbeats 4000000 in
set_option maxRecDepth 100000 in
theorem k_X1_valueBehindHit (l : Launch) (D : va_G) (cI : ClassId) (kA kV : Nat → Nat) (a_ a_squad a_changes a_values a_bests a_rowTenths a_hitValues a_missValues : Nat) (c_reboundTenths : Int32) (c_lawInForce : Int32) (c_drawTenths : Int32) (c_solvedRows : Int32) (c_values : Nat → Int32) (p1 : Int32) (p2 : Int32) (p3 : Int32) (p4 : Int32) :
    g_MI l D cI kA kV yX1_valueBehindHit wsX1_valueBehindHit { frames := 2, cells := 0, slots := 0, locals := 47 } [.ref a_, .int p1, .int p2, .int p3, .int p4] [(a_, .inr (1, [.ref a_squad, .ref a_changes, .int c_reboundTenths, .int c_lawInForce, .int c_drawTenths, .ref a_values, .ref a_bests, .int c_solvedRows, .ref a_rowTenths, .ref a_hitValues, .ref a_missValues])), (a_values, .inl (cI, 650, .inl c_values))] (fun u : Unit => [(a_, .inr (1, [.ref a_squad, .ref a_changes, .int c_reboundTenths, .int c_lawInForce, .int c_drawTenths, .ref a_values, .ref a_bests, .int c_solvedRows, .ref a_rowTenths, .ref a_hitValues, .ref a_missValues])), (a_values, .inl (cI, 650, .inl c_values))]) (fun (r : Int32) (u : Unit) => r = f_X1_valueBehindHit c_lawInForce c_drawTenths c_values p1 p2 p3 p4) := by
  obtain ⟨XX, hXX⟩ : ∃ z, z = f_X1_valueBehindHit c_lawInForce c_drawTenths c_values p1 p2 p3 p4 := ⟨_, rfl⟩
  have heq := hXX.trans (f_X1_valueBehindHit.eq_def c_lawInForce c_drawTenths c_values p1 p2 p3 p4)
  refine g_startI (lv := [(0, .ref a_), (1, .int p1), (2, .int p2), (3, .int p3), (4, .int p4)]) RX1 rfl rfl rfl (Nat.le_of_ble_eq_true rfl) rfl (fun p e s m args below meth c AA QQ hAA hQQ X hr hmn => ?_)
  refine g_iload_n X 1 rfl rfl dX1_valueBehindHit_0 ?_
  refine g_callNi (host := "NineteenSecondsLeft") (As := [.int p1]) (st := []) (wr := [(a_, .inr (1, [.ref a_squad, .ref a_changes, .int c_reboundTenths, .int c_lawInForce, .int c_drawTenths, .ref a_values, .ref a_bests, .int c_solvedRows, .ref a_rowTenths, .ref a_hitValues, .ref a_missValues])), (a_values, .inl (cI, 650, .inl c_values))]) X (k_X4_takes l D cI kA kV p1) ⟨va_cnB 1 X.2.2.2.2.1 gX1_valueBehindHit_X4_takes_n99 rfl rfl rfl ((g_nl X).1 (RX1, 99, yX4_takes) (List.mem_of_getElem? (i := 5) rfl)) (X.2.2.2.2.1 (.initialized RX4) (List.mem_of_getElem? (i := 2) rfl)) (by decide +kernel) ⟨Nat.le_of_ble_eq_true rfl, Nat.le_of_ble_eq_true rfl⟩, (X.2.2.2.2.1 (.static yX4_takes) (List.mem_of_getElem? (i := 1) rfl)), trivial⟩ [] [0, 1] rfl rfl rfl rfl (by decide) rfl (Nat.le_of_ble_eq_true rfl) ⟨Nat.le_of_ble_eq_true rfl, Nat.le_of_ble_eq_true rfl⟩ dX1_valueBehindHit_1 rfl (fun r1 u1 hw1 => ?_)
  refine g_eqs (ws' := [(a_, .inr (1, [.ref a_squad, .ref a_changes, .int c_reboundTenths, .int c_lawInForce, .int c_drawTenths, .ref a_values, .ref a_bests, .int c_solvedRows, .ref a_rowTenths, .ref a_hitValues, .ref a_missValues])), (a_values, .inl (cI, 650, .inl c_values))]) rfl ?_
  have heq := g_let heq hw1
  refine g_iload_n X 2 rfl rfl dX1_valueBehindHit_4 ?_
  refine g_icmp_le X 14 dX1_valueBehindHit_5 (by decide) (fun c5 => ?_) (fun c5 => ?_)
  · have heq := heq.trans (if_pos c5)
    refine g_aload_n X 0 rfl rfl dX1_valueBehindHit_14 ?_
    refine g_iload_n X 1 rfl rfl dX1_valueBehindHit_15 ?_
    refine g_iload_n X 3 rfl rfl dX1_valueBehindHit_16 ?_
    refine g_iload X 4 rfl dX1_valueBehindHit_17 ?_
    refine g_callVi (C := RX1) (T := TX1) (N := 11) (ci := 1) (As := [.int p1, .int p3, .int p4]) (st := []) (wr := [(a_values, .inl (cI, 650, .inl c_values))]) X (k_X1_leadBehind l D cI kA kV a_ a_squad a_changes a_values a_bests a_rowTenths a_hitValues a_missValues c_reboundTenths c_lawInForce c_drawTenths c_solvedRows p1 p3 p4) (cwV 3 X.2.2.2.2.1 gX1_valueBehindHit_X1_leadBehind rfl rfl rfl (by decide +kernel) ⟨Nat.le_of_ble_eq_true rfl, Nat.le_of_ble_eq_true rfl⟩) 0 rfl rfl [0] [1] rfl rfl rfl rfl (by decide) rfl (Nat.le_of_ble_eq_true rfl) ⟨Nat.le_of_ble_eq_true rfl, Nat.le_of_ble_eq_true rfl⟩ dX1_valueBehindHit_19 rfl (fun r19 u19 hw19 => ?_)
    refine g_eqs (ws' := [(a_values, .inl (cI, 650, .inl c_values)), (a_, .inr (1, [.ref a_squad, .ref a_changes, .int c_reboundTenths, .int c_lawInForce, .int c_drawTenths, .ref a_values, .ref a_bests, .int c_solvedRows, .ref a_rowTenths, .ref a_hitValues, .ref a_missValues]))]) rfl ?_
    have heq := g_let heq hw19
    refine g_istore (lv' := [(5, .int r19), (0, .ref a_), (1, .int p1), (2, .int p2), (3, .int p3), (4, .int p4)]) X (by decide) rfl dX1_valueBehindHit_22 ?_
    refine g_aload_n X 1 rfl rfl dX1_valueBehindHit_24 ?_
    refine g_aload_n X 1 rfl rfl dX1_valueBehindHit_25 ?_
    refine g_iload_n X 2 rfl rfl dX1_valueBehindHit_26 ?_
    refine g_iload_n X 3 rfl rfl dX1_valueBehindHit_27 ?_
    refine g_callVi (C := RX1) (T := TX1) (N := 11) (ci := 1) (As := [.int p1, .int p2]) (st := [.ref a_]) (wr := [(a_values, .inl (cI, 650, .inl c_values))]) X (k_X1_secondsBehindHit l D cI kA kV a_ a_squad a_changes a_values a_bests a_rowTenths a_hitValues a_missValues c_reboundTenths c_lawInForce c_drawTenths c_solvedRows p1 p2) (cwV 2 X.2.2.2.2.1 gX1_valueBehindHit_X1_secondsBehindHit rfl rfl rfl (by decide +kernel) ⟨Nat.le_of_ble_eq_true rfl, Nat.le_of_ble_eq_true rfl⟩) 1 rfl rfl [1] [0] rfl rfl rfl rfl (by decide) rfl (Nat.le_of_ble_eq_true rfl) ⟨Nat.le_of_ble_eq_true rfl, Nat.le_of_ble_eq_true rfl⟩ dX1_valueBehindHit_28 rfl (fun r28 u28 hw28 => ?_)
    refine g_eqs (ws' := [(a_values, .inl (cI, 650, .inl c_values)), (a_, .inr (1, [.ref a_squad, .ref a_changes, .int c_reboundTenths, .int c_lawInForce, .int c_drawTenths, .ref a_values, .ref a_bests, .int c_solvedRows, .ref a_rowTenths, .ref a_hitValues, .ref a_missValues]))]) rfl ?_
    have heq := g_let heq hw28
    refine g_iload X 0 rfl dX1_valueBehindHit_31 ?_
    refine g_iconst (v := 1) X (by decide) dX1_valueBehindHit_33 ?_
    refine g_iload X 5 rfl dX1_valueBehindHit_34 ?_
    refine g_isub X dX1_valueBehindHit_36 ?_
    refine g_callVi (C := RX1) (T := TX1) (N := 11) (ci := 1) (As := [.int r28, .int r19, .int (1 - p4)]) (st := []) (wr := ([] : va_W)) X (k_X1_valueAt l D cI kA kV a_ a_squad a_changes a_values a_bests a_rowTenths a_hitValues a_missValues c_reboundTenths c_lawInForce c_drawTenths c_solvedRows c_values r28 r19 (1 - p4)) (cwV 3 X.2.2.2.2.1 gX1_valueBehindHit_X1_valueAt rfl rfl rfl (by decide +kernel) ⟨Nat.le_of_ble_eq_true rfl, Nat.le_of_ble_eq_true rfl⟩) 1 rfl rfl [1, 0] [] rfl rfl rfl rfl (by decide) rfl (Nat.le_of_ble_eq_true rfl) ⟨Nat.le_of_ble_eq_true rfl, Nat.le_of_ble_eq_true rfl⟩ dX1_valueBehindHit_37 rfl (fun r37 u37 hw37 => ?_)
    have heq := g_let heq hw37
    exact g_iret X hAA hQQ () (heq.symm.trans hXX) [0, 1] rfl rfl hr dX1_valueBehindHit_40
  · have heq := heq.trans (if_neg c5)
    refine g_aload_n X 0 rfl rfl dX1_valueBehindHit_8 ?_
    refine g_iload_n X 3 rfl rfl dX1_valueBehindHit_9 ?_
    refine g_callVi (C := RX1) (T := TX1) (N := 11) (ci := 1) (As := [.int p3]) (st := []) (wr := [(a_values, .inl (cI, 650, .inl c_values))]) X (k_X1_valueOfEnd l D cI kA kV a_ a_squad a_changes a_values a_bests a_rowTenths a_hitValues a_missValues c_reboundTenths c_lawInForce c_drawTenths c_solvedRows p3) (cwV 1 X.2.2.2.2.1 gX1_valueBehindHit_X1_valueOfEnd rfl rfl rfl (by decide +kernel) ⟨Nat.le_of_ble_eq_true rfl, Nat.le_of_ble_eq_true rfl⟩) 0 rfl rfl [0] [1] rfl rfl rfl rfl (by decide) rfl (Nat.le_of_ble_eq_true rfl) ⟨Nat.le_of_ble_eq_true rfl, Nat.le_of_ble_eq_true rfl⟩ dX1_valueBehindHit_10 rfl (fun r10 u10 hw10 => ?_)
    refine g_eqs (ws' := [(a_values, .inl (cI, 650, .inl c_values)), (a_, .inr (1, [.ref a_squad, .ref a_changes, .int c_reboundTenths, .int c_lawInForce, .int c_drawTenths, .ref a_values, .ref a_bests, .int c_solvedRows, .ref a_rowTenths, .ref a_hitValues, .ref a_missValues]))]) rfl ?_
    have heq := g_let heq hw10
    exact g_iret X hAA hQQ () (heq.symm.trans hXX) [1, 0] rfl rfl hr dX1_valueBehindHit_13

theorem hi_X1_valueBehindMiss_X1 : ∀ w ∈ wsX10, w ∈ wsX1_valueBehindMiss := fun w h => List.mem_cons_of_mem _ (List.mem_append_right _ (h))
def f_X1_valueBehindMiss (c_reboundTenths : Int32) (c_values : Nat → Int32) (p1 : Int32) (p2 : Int32) (p3 : Int32) (p4 : Int32) : Int32 :=
  g_lt (f_X4_takes p1) (fun r3 => g_lt (f_X1_valueAt c_values (g_maxf (0 : Int32) (p2 - r3)) p3 p4) (fun r18 => g_lt (f_X1_valueAt c_values (g_maxf (0 : Int32) (p2 - r3)) p3 (1 - p4)) (fun r31 => g_lt (f_X4_mix c_reboundTenths r18 r31) (fun r44 => r44))))
set_option maxHeartbeats 4000000 in
set_option maxRecDepth 100000 in
theorem k_X1_valueBehindMiss (l : Launch) (D : va_G) (cI : ClassId) (kA kV : Nat → Nat) (a_ a_squad a_changes a_values a_bests a_rowTenths a_hitValues a_missValues : Nat) (c_reboundTenths : Int32) (c_lawInForce : Int32) (c_drawTenths : Int32) (c_solvedRows : Int32) (c_values : Nat → Int32) (p1 : Int32) (p2 : Int32) (p3 : Int32) (p4 : Int32) :
    g_MI l D cI kA kV yX1_valueBehindMiss wsX1_valueBehindMiss { frames := 2, cells := 0, slots := 0, locals := 47 } [.ref a_, .int p1, .int p2, .int p3, .int p4] [(a_, .inr (1, [.ref a_squad, .ref a_changes, .int c_reboundTenths, .int c_lawInForce, .int c_drawTenths, .ref a_values, .ref a_bests, .int c_solvedRows, .ref a_rowTenths, .ref a_hitValues, .ref a_missValues])), (a_values, .inl (cI, 650, .inl c_values))] (fun u : Unit => [(a_, .inr (1, [.ref a_squad, .ref a_changes, .int c_reboundTenths, .int c_lawInForce, .int c_drawTenths, .ref a_values, .ref a_bests, .int c_solvedRows, .ref a_rowTenths, .ref a_hitValues, .ref a_missValues])), (a_values, .inl (cI, 650, .inl c_values))]) (fun (r : Int32) (u : Unit) => r = f_X1_valueBehindMiss c_reboundTenths c_values p1 p2 p3 p4) := by
  obtain ⟨XX, hXX⟩ : ∃ z, z = f_X1_valueBehindMiss c_reboundTenths c_values p1 p2 p3 p4 := ⟨_, rfl⟩
  have heq := hXX.trans (f_X1_valueBehindMiss.eq_def c_reboundTenths c_values p1 p2 p3 p4)
  refine g_startI (lv := [(0, .ref a_), (1, .int p1), (2, .int p2), (3, .int p3), (4, .int p4)]) RX1 rfl rfl rfl (Nat.le_of_ble_eq_true rfl) rfl (fun p e s m args below meth c AA QQ hAA hQQ X hr hmn => ?_)
  refine g_iconst (v := 0) X (by decide) dX1_valueBehindMiss_0 ?_
  refine g_iload_n X 2 rfl rfl dX1_valueBehindMiss_1 ?_
  refine g_iload_n X 1 rfl rfl dX1_valueBehindMiss_2 ?_
  refine g_callNi (host := "NineteenSecondsLeft") (As := [.int p1]) (st := [.int p2, .int 0]) (wr := [(a_, .inr (1, [.ref a_squad, .ref a_changes, .int c_reboundTenths, .int c_lawInForce, .int c_drawTenths, .ref a_values, .ref a_bests, .int c_solvedRows, .ref a_rowTenths, .ref a_hitValues, .ref a_missValues])), (a_values, .inl (cI, 650, .inl c_values))]) X (k_X4_takes l D cI kA kV p1) ⟨va_cnB 1 X.2.2.2.2.1 gX1_valueBehindMiss_X4_takes_n99 rfl rfl rfl ((g_nl X).1 (RX1, 99, yX4_takes) (List.mem_of_getElem? (i := 5) rfl)) (X.2.2.2.2.1 (.initialized RX4) (List.mem_of_getElem? (i := 7) rfl)) (by decide +kernel) ⟨Nat.le_of_ble_eq_true rfl, Nat.le_of_ble_eq_true rfl⟩, (X.2.2.2.2.1 (.static yX4_takes) (List.mem_of_getElem? (i := 6) rfl)), trivial⟩ [] [0, 1] rfl rfl rfl rfl (by decide) rfl (Nat.le_of_ble_eq_true rfl) ⟨Nat.le_of_ble_eq_true rfl, Nat.le_of_ble_eq_true rfl⟩ dX1_valueBehindMiss_3 rfl (fun r3 u3 hw3 => ?_)
  refine g_eqs (ws' := [(a_, .inr (1, [.ref a_squad, .ref a_changes, .int c_reboundTenths, .int c_lawInForce, .int c_drawTenths, .ref a_values, .ref a_bests, .int c_solvedRows, .ref a_rowTenths, .ref a_hitValues, .ref a_missValues])), (a_values, .inl (cI, 650, .inl c_values))]) rfl ?_
  have heq := g_let heq hw3
  refine g_isub X dX1_valueBehindMiss_6 ?_
  refine g_mmax X (X.2.2.2.2.1 (.methodLink RX1 114 Lib.Math.max.name) (List.mem_of_getElem? (i := 1) rfl)) (X.2.2.2.2.1 (.static Lib.Math.max.name) (List.mem_of_getElem? (i := 2) rfl)) (X.2.2.2.2.1 (.initialized "java/lang/Math") (List.mem_of_getElem? (i := 3) rfl)) (X.2.2.2.2.1 (.code Lib.Math.max.name Lib.Math.max.code 2 (some .int)) (List.mem_of_getElem? (i := 4) rfl)) (Nat.le_of_ble_eq_true rfl) (Nat.le_of_ble_eq_true rfl) (Nat.le_of_ble_eq_true rfl) (Nat.le_of_ble_eq_true rfl) dX1_valueBehindMiss_7 ?_
  refine g_istore (lv' := [(5, .int (g_maxf (0 : Int32) (p2 - r3))), (0, .ref a_), (1, .int p1), (2, .int p2), (3, .int p3), (4, .int p4)]) X (by decide) rfl dX1_valueBehindMiss_10 ?_
  refine g_aload_n X 1 rfl rfl dX1_valueBehindMiss_12 ?_
  refine g_iload X 0 rfl dX1_valueBehindMiss_13 ?_
  refine g_iload_n X 4 rfl rfl dX1_valueBehindMiss_15 ?_
  refine g_iload X 5 rfl dX1_valueBehindMiss_16 ?_
  refine g_callVi (C := RX1) (T := TX1) (N := 11) (ci := 1) (As := [.int (g_maxf (0 : Int32) (p2 - r3)), .int p3, .int p4]) (st := []) (wr := ([] : va_W)) X (k_X1_valueAt l D cI kA kV a_ a_squad a_changes a_values a_bests a_rowTenths a_hitValues a_missValues c_reboundTenths c_lawInForce c_drawTenths c_solvedRows c_values (g_maxf (0 : Int32) (p2 - r3)) p3 p4) (cwV 3 X.2.2.2.2.1 gX1_valueBehindMiss_X1_valueAt rfl rfl rfl (by decide +kernel) ⟨Nat.le_of_ble_eq_true rfl, Nat.le_of_ble_eq_true rfl⟩) 0 rfl rfl [0, 1] [] rfl rfl rfl rfl (by decide) rfl (Nat.le_of_ble_eq_true rfl) ⟨Nat.le_of_ble_eq_true rfl, Nat.le_of_ble_eq_true rfl⟩ dX1_valueBehindMiss_18 rfl (fun r18 u18 hw18 => ?_)
  have heq := g_let heq hw18
  refine g_istore (lv' := [(6, .int r18), (5, .int (g_maxf (0 : Int32) (p2 - r3))), (0, .ref a_), (1, .int p1), (2, .int p2), (3, .int p3), (4, .int p4)]) X (by decide) rfl dX1_valueBehindMiss_21 ?_
  refine g_aload_n X 2 rfl rfl dX1_valueBehindMiss_23 ?_
  refine g_iload X 1 rfl dX1_valueBehindMiss_24 ?_
  refine g_iload_n X 5 rfl rfl dX1_valueBehindMiss_26 ?_
  refine g_iconst (v := 1) X (by decide) dX1_valueBehindMiss_27 ?_
  refine g_iload X 6 rfl dX1_valueBehindMiss_28 ?_
  refine g_isub X dX1_valueBehindMiss_30 ?_
  refine g_callVi (C := RX1) (T := TX1) (N := 11) (ci := 1) (As := [.int (g_maxf (0 : Int32) (p2 - r3)), .int p3, .int (1 - p4)]) (st := []) (wr := ([] : va_W)) X (k_X1_valueAt l D cI kA kV a_ a_squad a_changes a_values a_bests a_rowTenths a_hitValues a_missValues c_reboundTenths c_lawInForce c_drawTenths c_solvedRows c_values (g_maxf (0 : Int32) (p2 - r3)) p3 (1 - p4)) (cwV 3 X.2.2.2.2.1 gX1_valueBehindMiss_X1_valueAt rfl rfl rfl (by decide +kernel) ⟨Nat.le_of_ble_eq_true rfl, Nat.le_of_ble_eq_true rfl⟩) 0 rfl rfl [0, 1] [] rfl rfl rfl rfl (by decide) rfl (Nat.le_of_ble_eq_true rfl) ⟨Nat.le_of_ble_eq_true rfl, Nat.le_of_ble_eq_true rfl⟩ dX1_valueBehindMiss_31 rfl (fun r31 u31 hw31 => ?_)
  have heq := g_let heq hw31
  refine g_istore (lv' := [(7, .int r31), (6, .int r18), (5, .int (g_maxf (0 : Int32) (p2 - r3))), (0, .ref a_), (1, .int p1), (2, .int p2), (3, .int p3), (4, .int p4)]) X (by decide) rfl dX1_valueBehindMiss_34 ?_
  refine g_aload_n X 3 rfl rfl dX1_valueBehindMiss_36 ?_
  refine g_get (C := RX1) (T := TX1) (N := 11) (ci := 1) X hi_X1_valueBehindMiss_X1 0 rfl rfl 2 (by decide) (X.2.2.2.2.1 (.fieldLink RX1 22 "NineteenSecondsLeft$Lamp" "reboundTenths" "I") (List.mem_of_getElem? (i := 5) rfl)) rfl rfl dX1_valueBehindMiss_37 ?_
  refine g_iload X 1 rfl dX1_valueBehindMiss_40 ?_
  refine g_iload X 0 rfl dX1_valueBehindMiss_42 ?_
  refine g_callNi (host := "NineteenSecondsLeft") (As := [.int c_reboundTenths, .int r18, .int r31]) (st := []) (wr := [(a_, .inr (1, [.ref a_squad, .ref a_changes, .int c_reboundTenths, .int c_lawInForce, .int c_drawTenths, .ref a_values, .ref a_bests, .int c_solvedRows, .ref a_rowTenths, .ref a_hitValues, .ref a_missValues])), (a_values, .inl (cI, 650, .inl c_values))]) X (k_X4_mix l D cI kA kV c_reboundTenths r18 r31) ⟨va_cnB 3 X.2.2.2.2.1 gX1_valueBehindMiss_X4_mix_n117 rfl rfl rfl ((g_nl X).1 (RX1, 117, yX4_mix) (List.mem_of_getElem? (i := 7) rfl)) (X.2.2.2.2.1 (.initialized RX4) (List.mem_of_getElem? (i := 7) rfl)) (by decide +kernel) ⟨Nat.le_of_ble_eq_true rfl, Nat.le_of_ble_eq_true rfl⟩, (X.2.2.2.2.1 (.static yX4_mix) (List.mem_of_getElem? (i := 19) rfl)), trivial⟩ [] [0, 1] rfl rfl rfl rfl (by decide) rfl (Nat.le_of_ble_eq_true rfl) ⟨Nat.le_of_ble_eq_true rfl, Nat.le_of_ble_eq_true rfl⟩ dX1_valueBehindMiss_44 rfl (fun r44 u44 hw44 => ?_)
  refine g_eqs (ws' := [(a_, .inr (1, [.ref a_squad, .ref a_changes, .int c_reboundTenths, .int c_lawInForce, .int c_drawTenths, .ref a_values, .ref a_bests, .int c_solvedRows, .ref a_rowTenths, .ref a_hitValues, .ref a_missValues])), (a_values, .inl (cI, 650, .inl c_values))]) rfl ?_
  have heq := g_let heq hw44
  exact g_iret X hAA hQQ () (heq.symm.trans hXX) [0, 1] rfl rfl hr dX1_valueBehindMiss_47

def f_X1_valueOfShot (c_reboundTenths : Int32) (c_lawInForce : Int32) (c_drawTenths : Int32) (c_squad_facts : Nat → Int32) (c_changes : Nat → Int32) (c_values : Nat → Int32) (p1 : Int32) (p2 : Int32) (p3 : Int32) (p4 : Int32) : Int32 :=
  g_lt (f_X1_valueBehindHit c_lawInForce c_drawTenths c_values p2 p3 p4 (0 : Int32)) (fun r6 => g_lt (f_X1_valueBehindMiss c_reboundTenths c_values p2 p3 p4 (0 : Int32)) (fun r17 => g_lt (f_X1_tenths c_squad_facts c_changes p1 p2 p3) (fun r26 => g_lt (f_X4_mix r26 r6 r17) (fun r33 => r33))))
set_option maxHeartbeats 4000000 in
set_option maxRecDepth 100000 in
theorem k_X1_valueOfShot (l : Launch) (D : va_G) (cI : ClassId) (kA kV : Nat → Nat) (a_ a_squad a_changes a_values a_bests a_rowTenths a_hitValues a_missValues a_squad_facts : Nat) (c_reboundTenths : Int32) (c_lawInForce : Int32) (c_drawTenths : Int32) (c_solvedRows : Int32) (c_squad_size : Int32) (c_squad_facts : Nat → Int32) (c_changes : Nat → Int32) (c_values : Nat → Int32) (p1 : Int32) (p2 : Int32) (p3 : Int32) (p4 : Int32) :
    g_MI l D cI kA kV yX1_valueOfShot wsX1_valueOfShot { frames := 3, cells := 0, slots := 0, locals := 74 } [.ref a_, .int p1, .int p2, .int p3, .int p4] [(a_, .inr (1, [.ref a_squad, .ref a_changes, .int c_reboundTenths, .int c_lawInForce, .int c_drawTenths, .ref a_values, .ref a_bests, .int c_solvedRows, .ref a_rowTenths, .ref a_hitValues, .ref a_missValues])), (a_squad, .inr (3, [.ref a_squad_facts, .int c_squad_size])), (a_squad_facts, .inl (cI, 30, .inl c_squad_facts)), (a_changes, .inl (cI, 6, .inl c_changes)), (a_values, .inl (cI, 650, .inl c_values))] (fun u : Unit => [(a_, .inr (1, [.ref a_squad, .ref a_changes, .int c_reboundTenths, .int c_lawInForce, .int c_drawTenths, .ref a_values, .ref a_bests, .int c_solvedRows, .ref a_rowTenths, .ref a_hitValues, .ref a_missValues])), (a_squad, .inr (3, [.ref a_squad_facts, .int c_squad_size])), (a_squad_facts, .inl (cI, 30, .inl c_squad_facts)), (a_changes, .inl (cI, 6, .inl c_changes)), (a_values, .inl (cI, 650, .inl c_values))]) (fun (r : Int32) (u : Unit) => r = f_X1_valueOfShot c_reboundTenths c_lawInForce c_drawTenths c_squad_facts c_changes c_values p1 p2 p3 p4) := by
  obtain ⟨XX, hXX⟩ : ∃ z, z = f_X1_valueOfShot c_reboundTenths c_lawInForce c_drawTenths c_squad_facts c_changes c_values p1 p2 p3 p4 := ⟨_, rfl⟩
  have heq := hXX.trans (f_X1_valueOfShot.eq_def c_reboundTenths c_lawInForce c_drawTenths c_squad_facts c_changes c_values p1 p2 p3 p4)
  refine g_startI (lv := [(0, .ref a_), (1, .int p1), (2, .int p2), (3, .int p3), (4, .int p4)]) RX1 rfl rfl rfl (Nat.le_of_ble_eq_true rfl) rfl (fun p e s m args below meth c AA QQ hAA hQQ X hr hmn => ?_)
  refine g_aload_n X 0 rfl rfl dX1_valueOfShot_0 ?_
  refine g_iload_n X 2 rfl rfl dX1_valueOfShot_1 ?_
  refine g_iload_n X 3 rfl rfl dX1_valueOfShot_2 ?_
  refine g_iload X 4 rfl dX1_valueOfShot_3 ?_
  refine g_iconst (v := 0) X (by decide) dX1_valueOfShot_5 ?_
  refine g_callVi (C := RX1) (T := TX1) (N := 11) (ci := 1) (As := [.int p2, .int p3, .int p4, .int 0]) (st := []) (wr := [(a_squad, .inr (3, [.ref a_squad_facts, .int c_squad_size])), (a_squad_facts, .inl (cI, 30, .inl c_squad_facts)), (a_changes, .inl (cI, 6, .inl c_changes))]) X (k_X1_valueBehindHit l D cI kA kV a_ a_squad a_changes a_values a_bests a_rowTenths a_hitValues a_missValues c_reboundTenths c_lawInForce c_drawTenths c_solvedRows c_values p2 p3 p4 0) (cwV 4 X.2.2.2.2.1 gX1_valueOfShot_X1_valueBehindHit rfl rfl rfl (by decide +kernel) ⟨Nat.le_of_ble_eq_true rfl, Nat.le_of_ble_eq_true rfl⟩) 0 rfl rfl [0, 4] [1, 2, 3] rfl rfl rfl rfl (by decide) rfl (Nat.le_of_ble_eq_true rfl) ⟨Nat.le_of_ble_eq_true rfl, Nat.le_of_ble_eq_true rfl⟩ dX1_valueOfShot_6 rfl (fun r6 u6 hw6 => ?_)
  refine g_eqs (ws' := [(a_squad, .inr (3, [.ref a_squad_facts, .int c_squad_size])), (a_squad_facts, .inl (cI, 30, .inl c_squad_facts)), (a_changes, .inl (cI, 6, .inl c_changes)), (a_, .inr (1, [.ref a_squad, .ref a_changes, .int c_reboundTenths, .int c_lawInForce, .int c_drawTenths, .ref a_values, .ref a_bests, .int c_solvedRows, .ref a_rowTenths, .ref a_hitValues, .ref a_missValues])), (a_values, .inl (cI, 650, .inl c_values))]) rfl ?_
  have heq := g_let heq hw6
  refine g_istore (lv' := [(5, .int r6), (0, .ref a_), (1, .int p1), (2, .int p2), (3, .int p3), (4, .int p4)]) X (by decide) rfl dX1_valueOfShot_9 ?_
  refine g_aload_n X 1 rfl rfl dX1_valueOfShot_11 ?_
  refine g_iload_n X 3 rfl rfl dX1_valueOfShot_12 ?_
  refine g_iload_n X 4 rfl rfl dX1_valueOfShot_13 ?_
  refine g_iload X 5 rfl dX1_valueOfShot_14 ?_
  refine g_iconst (v := 0) X (by decide) dX1_valueOfShot_16 ?_
  refine g_callVi (C := RX1) (T := TX1) (N := 11) (ci := 1) (As := [.int p2, .int p3, .int p4, .int 0]) (st := []) (wr := [(a_squad, .inr (3, [.ref a_squad_facts, .int c_squad_size])), (a_squad_facts, .inl (cI, 30, .inl c_squad_facts)), (a_changes, .inl (cI, 6, .inl c_changes))]) X (k_X1_valueBehindMiss l D cI kA kV a_ a_squad a_changes a_values a_bests a_rowTenths a_hitValues a_missValues c_reboundTenths c_lawInForce c_drawTenths c_solvedRows c_values p2 p3 p4 0) (cwV 4 X.2.2.2.2.1 gX1_valueOfShot_X1_valueBehindMiss rfl rfl rfl (by decide +kernel) ⟨Nat.le_of_ble_eq_true rfl, Nat.le_of_ble_eq_true rfl⟩) 3 rfl rfl [3, 4] [0, 1, 2] rfl rfl rfl rfl (by decide) rfl (Nat.le_of_ble_eq_true rfl) ⟨Nat.le_of_ble_eq_true rfl, Nat.le_of_ble_eq_true rfl⟩ dX1_valueOfShot_17 rfl (fun r17 u17 hw17 => ?_)
  refine g_eqs (ws' := [(a_squad, .inr (3, [.ref a_squad_facts, .int c_squad_size])), (a_squad_facts, .inl (cI, 30, .inl c_squad_facts)), (a_changes, .inl (cI, 6, .inl c_changes)), (a_, .inr (1, [.ref a_squad, .ref a_changes, .int c_reboundTenths, .int c_lawInForce, .int c_drawTenths, .ref a_values, .ref a_bests, .int c_solvedRows, .ref a_rowTenths, .ref a_hitValues, .ref a_missValues])), (a_values, .inl (cI, 650, .inl c_values))]) rfl ?_
  have heq := g_let heq hw17
  refine g_istore (lv' := [(6, .int r17), (5, .int r6), (0, .ref a_), (1, .int p1), (2, .int p2), (3, .int p3), (4, .int p4)]) X (by decide) rfl dX1_valueOfShot_20 ?_
  refine g_aload_n X 2 rfl rfl dX1_valueOfShot_22 ?_
  refine g_iload_n X 3 rfl rfl dX1_valueOfShot_23 ?_
  refine g_iload_n X 4 rfl rfl dX1_valueOfShot_24 ?_
  refine g_iload_n X 5 rfl rfl dX1_valueOfShot_25 ?_
  refine g_callVi (C := RX1) (T := TX1) (N := 11) (ci := 1) (As := [.int p1, .int p2, .int p3]) (st := []) (wr := [(a_values, .inl (cI, 650, .inl c_values))]) X (k_X1_tenths l D cI kA kV a_ a_squad a_changes a_values a_bests a_rowTenths a_hitValues a_missValues a_squad_facts c_reboundTenths c_lawInForce c_drawTenths c_solvedRows c_squad_size c_squad_facts c_changes p1 p2 p3) (cwV 3 X.2.2.2.2.1 gX1_valueOfShot_X1_tenths rfl rfl rfl (by decide +kernel) ⟨Nat.le_of_ble_eq_true rfl, Nat.le_of_ble_eq_true rfl⟩) 3 rfl rfl [3, 0, 1, 2] [4] rfl rfl rfl rfl (by decide) rfl (Nat.le_of_ble_eq_true rfl) ⟨Nat.le_of_ble_eq_true rfl, Nat.le_of_ble_eq_true rfl⟩ dX1_valueOfShot_26 rfl (fun r26 u26 hw26 => ?_)
  refine g_eqs (ws' := [(a_values, .inl (cI, 650, .inl c_values)), (a_, .inr (1, [.ref a_squad, .ref a_changes, .int c_reboundTenths, .int c_lawInForce, .int c_drawTenths, .ref a_values, .ref a_bests, .int c_solvedRows, .ref a_rowTenths, .ref a_hitValues, .ref a_missValues])), (a_squad, .inr (3, [.ref a_squad_facts, .int c_squad_size])), (a_squad_facts, .inl (cI, 30, .inl c_squad_facts)), (a_changes, .inl (cI, 6, .inl c_changes))]) rfl ?_
  have heq := g_let heq hw26
  refine g_iload X 1 rfl dX1_valueOfShot_29 ?_
  refine g_iload X 0 rfl dX1_valueOfShot_31 ?_
  refine g_callNi (host := "NineteenSecondsLeft") (As := [.int r26, .int r6, .int r17]) (st := []) (wr := [(a_values, .inl (cI, 650, .inl c_values)), (a_, .inr (1, [.ref a_squad, .ref a_changes, .int c_reboundTenths, .int c_lawInForce, .int c_drawTenths, .ref a_values, .ref a_bests, .int c_solvedRows, .ref a_rowTenths, .ref a_hitValues, .ref a_missValues])), (a_squad, .inr (3, [.ref a_squad_facts, .int c_squad_size])), (a_squad_facts, .inl (cI, 30, .inl c_squad_facts)), (a_changes, .inl (cI, 6, .inl c_changes))]) X (k_X4_mix l D cI kA kV r26 r6 r17) ⟨va_cnB 3 X.2.2.2.2.1 gX1_valueOfShot_X4_mix_n117 rfl rfl rfl ((g_nl X).1 (RX1, 117, yX4_mix) (List.mem_of_getElem? (i := 7) rfl)) (X.2.2.2.2.1 (.initialized RX4) (List.mem_of_getElem? (i := 7) rfl)) (by decide +kernel) ⟨Nat.le_of_ble_eq_true rfl, Nat.le_of_ble_eq_true rfl⟩, (X.2.2.2.2.1 (.static yX4_mix) (List.mem_of_getElem? (i := 45) rfl)), trivial⟩ [] [0, 1, 2, 3, 4] rfl rfl rfl rfl (by decide) rfl (Nat.le_of_ble_eq_true rfl) ⟨Nat.le_of_ble_eq_true rfl, Nat.le_of_ble_eq_true rfl⟩ dX1_valueOfShot_33 rfl (fun r33 u33 hw33 => ?_)
  refine g_eqs (ws' := [(a_values, .inl (cI, 650, .inl c_values)), (a_, .inr (1, [.ref a_squad, .ref a_changes, .int c_reboundTenths, .int c_lawInForce, .int c_drawTenths, .ref a_values, .ref a_bests, .int c_solvedRows, .ref a_rowTenths, .ref a_hitValues, .ref a_missValues])), (a_squad, .inr (3, [.ref a_squad_facts, .int c_squad_size])), (a_squad_facts, .inl (cI, 30, .inl c_squad_facts)), (a_changes, .inl (cI, 6, .inl c_changes))]) rfl ?_
  have heq := g_let heq hw33
  exact g_iret X hAA hQQ () (heq.symm.trans hXX) [1, 2, 3, 4, 0] rfl rfl hr dX1_valueOfShot_36

theorem hi_X1_valueInRow_X1 : ∀ w ∈ wsX10, w ∈ wsX1_valueInRow := fun w h => List.mem_cons_of_mem _ (List.mem_append_right _ (h))
def f_X1_valueInRow (c_rowTenths : Nat → Int32) (c_hitValues : Nat → Int32) (c_missValues : Nat → Int32) (p1 : Int32) (p2 : Int32) : Int32 :=
  (if (p1 * 3) + p2 < 0 then 0 else (if 18 ≤ (p1 * 3) + p2 then 0 else (if p2 < 0 then 0 else (if p2 < 3 then g_lt (f_X4_mix (c_rowTenths ((p1 * 3) + p2).toNatClampNeg) (c_hitValues p2.toNatClampNeg) (c_missValues p2.toNatClampNeg)) (fun r48 => r48) else 0))))
set_option maxHeartbeats 4000000 in
set_option maxRecDepth 100000 in
theorem k_X1_valueInRow (l : Launch) (D : va_G) (cI : ClassId) (kA kV : Nat → Nat) (a_ a_squad a_changes a_values a_bests a_rowTenths a_hitValues a_missValues : Nat) (c_reboundTenths : Int32) (c_lawInForce : Int32) (c_drawTenths : Int32) (c_solvedRows : Int32) (c_rowTenths : Nat → Int32) (c_hitValues : Nat → Int32) (c_missValues : Nat → Int32) (p1 : Int32) (p2 : Int32) :
    g_MI l D cI kA kV yX1_valueInRow wsX1_valueInRow { frames := 1, cells := 0, slots := 0, locals := 22 } [.ref a_, .int p1, .int p2] [(a_, .inr (1, [.ref a_squad, .ref a_changes, .int c_reboundTenths, .int c_lawInForce, .int c_drawTenths, .ref a_values, .ref a_bests, .int c_solvedRows, .ref a_rowTenths, .ref a_hitValues, .ref a_missValues])), (a_rowTenths, .inl (cI, 18, .inl c_rowTenths)), (a_hitValues, .inl (cI, 3, .inl c_hitValues)), (a_missValues, .inl (cI, 3, .inl c_missValues))] (fun u : Unit => [(a_, .inr (1, [.ref a_squad, .ref a_changes, .int c_reboundTenths, .int c_lawInForce, .int c_drawTenths, .ref a_values, .ref a_bests, .int c_solvedRows, .ref a_rowTenths, .ref a_hitValues, .ref a_missValues])), (a_rowTenths, .inl (cI, 18, .inl c_rowTenths)), (a_hitValues, .inl (cI, 3, .inl c_hitValues)), (a_missValues, .inl (cI, 3, .inl c_missValues))]) (fun (r : Int32) (u : Unit) => r = f_X1_valueInRow c_rowTenths c_hitValues c_missValues p1 p2) := by
  obtain ⟨XX, hXX⟩ : ∃ z, z = f_X1_valueInRow c_rowTenths c_hitValues c_missValues p1 p2 := ⟨_, rfl⟩
  have heq := hXX.trans (f_X1_valueInRow.eq_def c_rowTenths c_hitValues c_missValues p1 p2)
  refine g_startI (lv := [(0, .ref a_), (1, .int p1), (2, .int p2)]) RX1 rfl rfl rfl (Nat.le_of_ble_eq_true rfl) rfl (fun p e s m args below meth c AA QQ hAA hQQ X hr hmn => ?_)
  refine g_iload_n X 1 rfl rfl dX1_valueInRow_0 ?_
  refine g_iconst (v := 3) X (by decide) dX1_valueInRow_1 ?_
  refine g_imul X dX1_valueInRow_2 ?_
  refine g_iload_n X 2 rfl rfl dX1_valueInRow_3 ?_
  refine g_iadd X dX1_valueInRow_4 ?_
  refine g_istore_n (lv' := [(3, .int ((p1 * 3) + p2)), (0, .ref a_), (1, .int p1), (2, .int p2)]) X rfl (by decide) rfl dX1_valueInRow_5 ?_
  refine g_iload_n X 0 rfl rfl dX1_valueInRow_6 ?_
  refine g_if_lt X 28 dX1_valueInRow_7 (by decide) (fun c7 => ?_) (fun c7 => ?_)
  · have heq := heq.trans (if_pos c7)
    refine g_iconst (v := 0) X (by decide) dX1_valueInRow_28 ?_
    exact g_iret X hAA hQQ () (heq.symm.trans hXX) [0, 1, 2, 3] rfl rfl hr dX1_valueInRow_29
  · have heq := heq.trans (if_neg c7)
    refine g_iload_n X 0 rfl rfl dX1_valueInRow_10 ?_
    refine g_aload_n X 1 rfl rfl dX1_valueInRow_11 ?_
    refine g_get (C := RX1) (T := TX1) (N := 11) (ci := 1) X hi_X1_valueInRow_X1 0 rfl rfl 8 (by decide) (X.2.2.2.2.1 (.fieldLink RX1 41 "NineteenSecondsLeft$Lamp" "rowTenths" "[I") (List.mem_of_getElem? (i := 1) rfl)) rfl rfl dX1_valueInRow_12 ?_
    refine g_alen (v := 18) X 1 rfl rfl dX1_valueInRow_15 ?_
    refine g_icmp_ge X 28 dX1_valueInRow_16 (by decide) (fun c16 => ?_) (fun c16 => ?_)
    · have heq := heq.trans (if_pos c16)
      refine g_iconst (v := 0) X (by decide) dX1_valueInRow_28 ?_
      exact g_iret X hAA hQQ () (heq.symm.trans hXX) [0, 1, 2, 3] rfl rfl hr dX1_valueInRow_29
    · have heq := heq.trans (if_neg c16)
      refine g_iload_n X 3 rfl rfl dX1_valueInRow_19 ?_
      refine g_if_lt X 28 dX1_valueInRow_20 (by decide) (fun c20 => ?_) (fun c20 => ?_)
      · have heq := heq.trans (if_pos c20)
        refine g_iconst (v := 0) X (by decide) dX1_valueInRow_28 ?_
        exact g_iret X hAA hQQ () (heq.symm.trans hXX) [0, 1, 2, 3] rfl rfl hr dX1_valueInRow_29
      · have heq := heq.trans (if_neg c20)
        refine g_iload_n X 3 rfl rfl dX1_valueInRow_23 ?_
        refine g_iconst (v := 3) X (by decide) dX1_valueInRow_24 ?_
        refine g_icmp_lt X 30 dX1_valueInRow_25 (by decide) (fun c25 => ?_) (fun c25 => ?_)
        · have heq := heq.trans (if_pos c25)
          refine g_aload_n X 1 rfl rfl dX1_valueInRow_30 ?_
          refine g_get (C := RX1) (T := TX1) (N := 11) (ci := 1) X hi_X1_valueInRow_X1 0 rfl rfl 8 (by decide) (X.2.2.2.2.1 (.fieldLink RX1 41 "NineteenSecondsLeft$Lamp" "rowTenths" "[I") (List.mem_of_getElem? (i := 1) rfl)) rfl rfl dX1_valueInRow_31 ?_
          refine g_iload_n X 0 rfl rfl dX1_valueInRow_34 ?_
          refine g_iald X 1 rfl (g_vin (by decide) (g_n0 c7) (g_nn c16)) dX1_valueInRow_35 ?_
          refine g_aload_n X 1 rfl rfl dX1_valueInRow_36 ?_
          refine g_get (C := RX1) (T := TX1) (N := 11) (ci := 1) X hi_X1_valueInRow_X1 0 rfl rfl 9 (by decide) (X.2.2.2.2.1 (.fieldLink RX1 44 "NineteenSecondsLeft$Lamp" "hitValues" "[I") (List.mem_of_getElem? (i := 2) rfl)) rfl rfl dX1_valueInRow_37 ?_
          refine g_iload_n X 3 rfl rfl dX1_valueInRow_40 ?_
          refine g_iald X 2 rfl (g_vin (by decide) (g_n0 c20) c25) dX1_valueInRow_41 ?_
          refine g_aload_n X 1 rfl rfl dX1_valueInRow_42 ?_
          refine g_get (C := RX1) (T := TX1) (N := 11) (ci := 1) X hi_X1_valueInRow_X1 0 rfl rfl 10 (by decide) (X.2.2.2.2.1 (.fieldLink RX1 47 "NineteenSecondsLeft$Lamp" "missValues" "[I") (List.mem_of_getElem? (i := 3) rfl)) rfl rfl dX1_valueInRow_43 ?_
          refine g_iload_n X 3 rfl rfl dX1_valueInRow_46 ?_
          refine g_iald X 3 rfl (g_vin (by decide) (g_n0 c20) c25) dX1_valueInRow_47 ?_
          refine g_callNi (host := "NineteenSecondsLeft") (As := [.int (c_rowTenths ((p1 * 3) + p2).toNatClampNeg), .int (c_hitValues p2.toNatClampNeg), .int (c_missValues p2.toNatClampNeg)]) (st := []) (wr := [(a_, .inr (1, [.ref a_squad, .ref a_changes, .int c_reboundTenths, .int c_lawInForce, .int c_drawTenths, .ref a_values, .ref a_bests, .int c_solvedRows, .ref a_rowTenths, .ref a_hitValues, .ref a_missValues])), (a_rowTenths, .inl (cI, 18, .inl c_rowTenths)), (a_hitValues, .inl (cI, 3, .inl c_hitValues)), (a_missValues, .inl (cI, 3, .inl c_missValues))]) X (k_X4_mix l D cI kA kV (c_rowTenths ((p1 * 3) + p2).toNatClampNeg) (c_hitValues p2.toNatClampNeg) (c_missValues p2.toNatClampNeg)) ⟨va_cnB 3 X.2.2.2.2.1 gX1_valueInRow_X4_mix_n117 rfl rfl rfl ((g_nl X).1 (RX1, 117, yX4_mix) (List.mem_of_getElem? (i := 7) rfl)) (X.2.2.2.2.1 (.initialized RX4) (List.mem_of_getElem? (i := 5) rfl)) (by decide +kernel) ⟨Nat.le_of_ble_eq_true rfl, Nat.le_of_ble_eq_true rfl⟩, (X.2.2.2.2.1 (.static yX4_mix) (List.mem_of_getElem? (i := 4) rfl)), trivial⟩ [] [0, 1, 2, 3] rfl rfl rfl rfl (by decide) rfl (Nat.le_of_ble_eq_true rfl) ⟨Nat.le_of_ble_eq_true rfl, Nat.le_of_ble_eq_true rfl⟩ dX1_valueInRow_48 rfl (fun r48 u48 hw48 => ?_)
          refine g_eqs (ws' := [(a_, .inr (1, [.ref a_squad, .ref a_changes, .int c_reboundTenths, .int c_lawInForce, .int c_drawTenths, .ref a_values, .ref a_bests, .int c_solvedRows, .ref a_rowTenths, .ref a_hitValues, .ref a_missValues])), (a_rowTenths, .inl (cI, 18, .inl c_rowTenths)), (a_hitValues, .inl (cI, 3, .inl c_hitValues)), (a_missValues, .inl (cI, 3, .inl c_missValues))]) rfl ?_
          have heq := g_let heq hw48
          exact g_iret X hAA hQQ () (heq.symm.trans hXX) [0, 1, 2, 3] rfl rfl hr dX1_valueInRow_51
        · have heq := heq.trans (if_neg c25)
          refine g_iconst (v := 0) X (by decide) dX1_valueInRow_28 ?_
          exact g_iret X hAA hQQ () (heq.symm.trans hXX) [0, 1, 2, 3] rfl rfl hr dX1_valueInRow_29

theorem hi_X1_fillTenths_X1 : ∀ w ∈ wsX10, w ∈ wsX1_fillTenths := fun w h => List.mem_cons_of_mem _ (List.mem_append_left _ (List.mem_append_right _ (h)))
def L_X1_fillTenths_2 (v1 : Int32) (c_squad_facts : Nat → Int32) (c_changes : Nat → Int32) (K : (Int32) → (Nat → Int32) → (Nat → Int32)) : Nat → (Int32) → (Nat → Int32) → (Nat → Int32)
  | 0, v2_2, c_rowTenths_2 => K v2_2 c_rowTenths_2
  | n + 1, v2_2, c_rowTenths_2 => (if 18 ≤ v2_2 then K v2_2 c_rowTenths_2 else g_lt (f_X1_tenths c_squad_facts c_changes (v2_2 / 3) (g_remf v2_2 (3 : Int32)) v1) (fun r24 => L_X1_fillTenths_2 v1 c_squad_facts c_changes K n (v2_2 + 1) (upd c_rowTenths_2 v2_2.toNatClampNeg r24)))
def f_X1_fillTenths (c_squad_facts : Nat → Int32) (c_changes : Nat → Int32) (c_rowTenths : Nat → Int32) (p1 : Int32) : (Nat → Int32) :=
  L_X1_fillTenths_2 p1 c_squad_facts c_changes (fun v2_2 c_rowTenths_2 => c_rowTenths_2) (((18 : Int32).toInt - (0 : Int32).toInt).toNat + 1) 0 c_rowTenths
set_option maxHeartbeats 4000000 in
set_option maxRecDepth 100000 in
theorem k_X1_fillTenths (l : Launch) (D : va_G) (cI : ClassId) (kA kV : Nat → Nat) (a_ a_squad a_changes a_values a_bests a_rowTenths a_hitValues a_missValues a_squad_facts : Nat) (c_reboundTenths : Int32) (c_lawInForce : Int32) (c_drawTenths : Int32) (c_solvedRows : Int32) (c_squad_size : Int32) (c_squad_facts : Nat → Int32) (c_changes : Nat → Int32) (c_rowTenths : Nat → Int32) (p1 : Int32) :
    g_MV l D cI kA kV yX1_fillTenths wsX1_fillTenths { frames := 3, cells := 0, slots := 0, locals := 73 } [.ref a_, .int p1] [(a_, .inr (1, [.ref a_squad, .ref a_changes, .int c_reboundTenths, .int c_lawInForce, .int c_drawTenths, .ref a_values, .ref a_bests, .int c_solvedRows, .ref a_rowTenths, .ref a_hitValues, .ref a_missValues])), (a_squad, .inr (3, [.ref a_squad_facts, .int c_squad_size])), (a_squad_facts, .inl (cI, 30, .inl c_squad_facts)), (a_changes, .inl (cI, 6, .inl c_changes)), (a_rowTenths, .inl (cI, 18, .inl c_rowTenths))] (fun u : (Nat → Int32) => [(a_, .inr (1, [.ref a_squad, .ref a_changes, .int c_reboundTenths, .int c_lawInForce, .int c_drawTenths, .ref a_values, .ref a_bests, .int c_solvedRows, .ref a_rowTenths, .ref a_hitValues, .ref a_missValues])), (a_squad, .inr (3, [.ref a_squad_facts, .int c_squad_size])), (a_squad_facts, .inl (cI, 30, .inl c_squad_facts)), (a_changes, .inl (cI, 6, .inl c_changes)), (a_rowTenths, .inl (cI, 18, .inl u))]) (fun u : (Nat → Int32) => u = f_X1_fillTenths c_squad_facts c_changes c_rowTenths p1) := by
  obtain ⟨XX, hXX⟩ : ∃ z, z = f_X1_fillTenths c_squad_facts c_changes c_rowTenths p1 := ⟨_, rfl⟩
  have heq := hXX.trans (f_X1_fillTenths.eq_def c_squad_facts c_changes c_rowTenths p1)
  refine g_startV (lv := [(0, .ref a_), (1, .int p1)]) RX1 rfl rfl rfl (Nat.le_of_ble_eq_true rfl) rfl (fun p e s m args below meth c AA QQ hAA hQQ X hr hmn => ?_)
  refine g_iconst (v := 0) X (by decide) dX1_fillTenths_0 ?_
  refine g_istore_n (lv' := [(2, .int 0), (0, .ref a_), (1, .int p1)]) X rfl (by decide) rfl dX1_fillTenths_1 ?_
  have lp2 : ∀ (K : (Int32) → (Nat → Int32) → (Nat → Int32)), (∀ (v2_2 : Int32) (c_rowTenths_2 : Nat → Int32), XX = K v2_2 c_rowTenths_2 → GG p l e { frames := 3, cells := 0, slots := 0, locals := 73 } s m args below meth c D AA 0 0 QQ 3 [(a_, .inr (1, [.ref a_squad, .ref a_changes, .int c_reboundTenths, .int c_lawInForce, .int c_drawTenths, .ref a_values, .ref a_bests, .int c_solvedRows, .ref a_rowTenths, .ref a_hitValues, .ref a_missValues])), (a_squad, .inr (3, [.ref a_squad_facts, .int c_squad_size])), (a_squad_facts, .inl (cI, 30, .inl c_squad_facts)), (a_changes, .inl (cI, 6, .inl c_changes)), (a_rowTenths, .inl (cI, 18, .inl c_rowTenths_2))] [(2, .int v2_2), (0, .ref a_), (1, .int p1)] 34 []) → ∀ (n : Nat) (v2_2 : Int32) (c_rowTenths_2 : Nat → Int32), ((18 : Int32).toInt - (v2_2 : Int32).toInt).toNat < n → 0 ≤ v2_2 → XX = L_X1_fillTenths_2 p1 c_squad_facts c_changes K n v2_2 c_rowTenths_2 → GG p l e { frames := 3, cells := 0, slots := 0, locals := 73 } s m args below meth c D AA 0 0 QQ 3 [(a_, .inr (1, [.ref a_squad, .ref a_changes, .int c_reboundTenths, .int c_lawInForce, .int c_drawTenths, .ref a_values, .ref a_bests, .int c_solvedRows, .ref a_rowTenths, .ref a_hitValues, .ref a_missValues])), (a_squad, .inr (3, [.ref a_squad_facts, .int c_squad_size])), (a_squad_facts, .inl (cI, 30, .inl c_squad_facts)), (a_changes, .inl (cI, 6, .inl c_changes)), (a_rowTenths, .inl (cI, 18, .inl c_rowTenths_2))] [(2, .int v2_2), (0, .ref a_), (1, .int p1)] 2 [] := by
    intro K hK n
    induction n with
    | zero => intro v2_2 c_rowTenths_2 hm2; exact absurd hm2 (Nat.not_lt_zero _)
    | succ n ih2 =>
      intro v2_2 c_rowTenths_2 hm2 hv2_0 heq
      have heq := heq.trans (L_X1_fillTenths_2.eq_2 _ _ _ _ _ _ _ )
      refine g_iload_n X 0 rfl rfl dX1_fillTenths_2 ?_
      refine g_aload_n X 1 rfl rfl dX1_fillTenths_3 ?_
      refine g_get (C := RX1) (T := TX1) (N := 11) (ci := 1) X hi_X1_fillTenths_X1 0 rfl rfl 8 (by decide) (X.2.2.2.2.1 (.fieldLink RX1 41 "NineteenSecondsLeft$Lamp" "rowTenths" "[I") (List.mem_of_getElem? (i := 1) rfl)) rfl rfl dX1_fillTenths_4 ?_
      refine g_alen (v := 18) X 4 rfl rfl dX1_fillTenths_7 ?_
      refine g_icmp_ge X 34 dX1_fillTenths_8 (by decide) (fun c8 => ?_) (fun c8 => ?_)
      · have heq := heq.trans (if_pos c8)
        exact hK v2_2 c_rowTenths_2 heq
      · have heq := heq.trans (if_neg c8)
        refine g_aload_n X 1 rfl rfl dX1_fillTenths_11 ?_
        refine g_get (C := RX1) (T := TX1) (N := 11) (ci := 1) X hi_X1_fillTenths_X1 0 rfl rfl 8 (by decide) (X.2.2.2.2.1 (.fieldLink RX1 41 "NineteenSecondsLeft$Lamp" "rowTenths" "[I") (List.mem_of_getElem? (i := 1) rfl)) rfl rfl dX1_fillTenths_12 ?_
        refine g_iload_n X 0 rfl rfl dX1_fillTenths_15 ?_
        refine g_aload_n X 1 rfl rfl dX1_fillTenths_16 ?_
        refine g_iload_n X 0 rfl rfl dX1_fillTenths_17 ?_
        refine g_iconst (v := 3) X (by decide) dX1_fillTenths_18 ?_
        refine g_idiv X (by decide) dX1_fillTenths_19 ?_
        refine g_iload_n X 0 rfl rfl dX1_fillTenths_20 ?_
        refine g_iconst (v := 3) X (by decide) dX1_fillTenths_21 ?_
        refine g_irem X (by decide) dX1_fillTenths_22 ?_
        refine g_iload_n X 2 rfl rfl dX1_fillTenths_23 ?_
        refine g_callVi (C := RX1) (T := TX1) (N := 11) (ci := 1) (As := [.int (v2_2 / 3), .int (g_remf v2_2 (3 : Int32)), .int p1]) (st := [.int v2_2, .ref a_rowTenths]) (wr := [(a_rowTenths, .inl (cI, 18, .inl c_rowTenths_2))]) X (k_X1_tenths l D cI kA kV a_ a_squad a_changes a_values a_bests a_rowTenths a_hitValues a_missValues a_squad_facts c_reboundTenths c_lawInForce c_drawTenths c_solvedRows c_squad_size c_squad_facts c_changes (v2_2 / 3) (g_remf v2_2 (3 : Int32)) p1) (cwV 3 X.2.2.2.2.1 gX1_fillTenths_X1_tenths rfl rfl rfl (by decide +kernel) ⟨Nat.le_of_ble_eq_true rfl, Nat.le_of_ble_eq_true rfl⟩) 0 rfl rfl [0, 1, 2, 3] [4] rfl rfl rfl rfl (by decide) rfl (Nat.le_of_ble_eq_true rfl) ⟨Nat.le_of_ble_eq_true rfl, Nat.le_of_ble_eq_true rfl⟩ dX1_fillTenths_24 rfl (fun r24 u24 hw24 => ?_)
        refine g_eqs (ws' := [(a_rowTenths, .inl (cI, 18, .inl c_rowTenths_2)), (a_, .inr (1, [.ref a_squad, .ref a_changes, .int c_reboundTenths, .int c_lawInForce, .int c_drawTenths, .ref a_values, .ref a_bests, .int c_solvedRows, .ref a_rowTenths, .ref a_hitValues, .ref a_missValues])), (a_squad, .inr (3, [.ref a_squad_facts, .int c_squad_size])), (a_squad_facts, .inl (cI, 30, .inl c_squad_facts)), (a_changes, .inl (cI, 6, .inl c_changes))]) rfl ?_
        have heq := g_let heq hw24
        refine g_iast (ws' := [(a_rowTenths, .inl (cI, 18, .inl (upd c_rowTenths_2 v2_2.toNatClampNeg r24))), (a_, .inr (1, [.ref a_squad, .ref a_changes, .int c_reboundTenths, .int c_lawInForce, .int c_drawTenths, .ref a_values, .ref a_bests, .int c_solvedRows, .ref a_rowTenths, .ref a_hitValues, .ref a_missValues])), (a_squad, .inr (3, [.ref a_squad_facts, .int c_squad_size])), (a_squad_facts, .inl (cI, 30, .inl c_squad_facts)), (a_changes, .inl (cI, 6, .inl c_changes))]) X 0 rfl (g_vin (by decide) hv2_0 (g_nn c8)) dX1_fillTenths_27 rfl ?_
        refine g_iinc (v := v2_2 + 1) (lv' := [(2, .int (v2_2 + 1)), (0, .ref a_), (1, .int p1)]) X 0 rfl rfl (by decide) rfl dX1_fillTenths_28 ?_
        refine g_goto (tgt := 2) X (by decide) dX1_fillTenths_31 ?_
        refine g_wsub (ws' := [(a_, .inr (1, [.ref a_squad, .ref a_changes, .int c_reboundTenths, .int c_lawInForce, .int c_drawTenths, .ref a_values, .ref a_bests, .int c_solvedRows, .ref a_rowTenths, .ref a_hitValues, .ref a_missValues])), (a_squad, .inr (3, [.ref a_squad_facts, .int c_squad_size])), (a_squad_facts, .inl (cI, 30, .inl c_squad_facts)), (a_changes, .inl (cI, 6, .inl c_changes)), (a_rowTenths, .inl (cI, 18, .inl (upd c_rowTenths_2 v2_2.toNatClampNeg r24)))]) [1, 2, 3, 4, 0] rfl rfl ?_
        exact ih2 (v2_2 + 1) (upd c_rowTenths_2 v2_2.toNatClampNeg r24) (g_upm c8 hm2) (g_up0 hv2_0 c8) heq
  refine lp2 _ (fun v2_2 c_rowTenths_2 heq => ?_) _ 0 c_rowTenths (Nat.lt_succ_self _) (by decide) heq
  exact g_vret X hAA hQQ c_rowTenths_2 (heq.symm.trans hXX) [0, 1, 2, 3, 4] rfl rfl hr dX1_fillTenths_34

theorem hi_X1_solveState_X1 : ∀ w ∈ wsX10, w ∈ wsX1_solveState := fun w h => List.mem_cons_of_mem _ (List.mem_append_left _ (List.mem_append_right _ (h)))
def L_X1_solveState_34 (v1 : Int32) (v2 : Int32) (v3 : Int32) (v4 : Int32) (c_reboundTenths : Int32) (c_lawInForce : Int32) (c_drawTenths : Int32) (c_squad_size : Int32) (c_squad_facts : Nat → Int32) (c_changes : Nat → Int32) (c_values : Nat → Int32) (c_bests : Nat → Int32) (c_rowTenths : Nat → Int32) (K : (Int32) → (Nat → Int32) → (Nat → Int32) → (Nat → Int32) × (Nat → Int32) × (Nat → Int32) × (Nat → Int32)) : Nat → (Int32) → (Nat → Int32) → (Nat → Int32) → (Nat → Int32) × (Nat → Int32) × (Nat → Int32) × (Nat → Int32)
  | 0, v5_34, c_hitValues_34, c_missValues_34 => K v5_34 c_hitValues_34 c_missValues_34
  | n + 1, v5_34, c_hitValues_34, c_missValues_34 => (if 3 ≤ v5_34 then K v5_34 c_hitValues_34 c_missValues_34 else g_lt (f_X1_valueBehindHit c_lawInForce c_drawTenths c_values v5_34 v1 v2 v3) (fun r52 => g_lt (f_X1_valueBehindMiss c_reboundTenths c_values v5_34 v1 v2 v3) (fun r68 => L_X1_solveState_34 v1 v2 v3 v4 c_reboundTenths c_lawInForce c_drawTenths c_squad_size c_squad_facts c_changes c_values c_bests c_rowTenths K n (v5_34 + 1) (upd c_hitValues_34 v5_34.toNatClampNeg r52) (upd c_missValues_34 v5_34.toNatClampNeg r68))))
def L_X1_solveState_150 (v1 : Int32) (v2 : Int32) (v3 : Int32) (v4 : Int32) (v7 : Int32) (v8 : Int32) (c_reboundTenths : Int32) (c_lawInForce : Int32) (c_drawTenths : Int32) (c_squad_size : Int32) (c_squad_facts : Nat → Int32) (c_changes : Nat → Int32) (c_values : Nat → Int32) (c_bests : Nat → Int32) (c_rowTenths : Nat → Int32) (c_hitValues : Nat → Int32) (c_missValues : Nat → Int32) (K : (Int32) → (Int32) → (Int32) → (Nat → Int32) × (Nat → Int32) × (Nat → Int32) × (Nat → Int32)) : Nat → (Int32) → (Int32) → (Int32) → (Nat → Int32) × (Nat → Int32) × (Nat → Int32) × (Nat → Int32)
  | 0, v5_150, v6_150, v9_150 => K v5_150 v6_150 v9_150
  | n + 1, v5_150, v6_150, v9_150 => (if v9_150 < 0 then K v5_150 v6_150 v9_150 else (if v8 = 0 then K v5_150 v6_150 v9_150 else g_lt (f_X1_valueInRow c_rowTenths c_hitValues c_missValues v7 v9_150) (fun r165 => (if v3 = 0 then (if r165 < v5_150 then L_X1_solveState_150 v1 v2 v3 v4 v7 v8 c_reboundTenths c_lawInForce c_drawTenths c_squad_size c_squad_facts c_changes c_values c_bests c_rowTenths c_hitValues c_missValues K n v5_150 v6_150 (v9_150 + (-1)) else L_X1_solveState_150 v1 v2 v3 v4 v7 v8 c_reboundTenths c_lawInForce c_drawTenths c_squad_size c_squad_facts c_changes c_values c_bests c_rowTenths c_hitValues c_missValues K n r165 ((v7 * 10) + v9_150) (v9_150 + (-1))) else (if v5_150 < r165 then L_X1_solveState_150 v1 v2 v3 v4 v7 v8 c_reboundTenths c_lawInForce c_drawTenths c_squad_size c_squad_facts c_changes c_values c_bests c_rowTenths c_hitValues c_missValues K n v5_150 v6_150 (v9_150 + (-1)) else L_X1_solveState_150 v1 v2 v3 v4 v7 v8 c_reboundTenths c_lawInForce c_drawTenths c_squad_size c_squad_facts c_changes c_values c_bests c_rowTenths c_hitValues c_missValues K n r165 ((v7 * 10) + v9_150) (v9_150 + (-1)))))))
def L_X1_solveState_111 (v1 : Int32) (v2 : Int32) (v3 : Int32) (v4 : Int32) (c_reboundTenths : Int32) (c_lawInForce : Int32) (c_drawTenths : Int32) (c_squad_size : Int32) (c_squad_facts : Nat → Int32) (c_changes : Nat → Int32) (c_values : Nat → Int32) (c_bests : Nat → Int32) (c_rowTenths : Nat → Int32) (c_hitValues : Nat → Int32) (c_missValues : Nat → Int32) (K : (Int32) → (Int32) → (Int32) → (Nat → Int32) × (Nat → Int32) × (Nat → Int32) × (Nat → Int32)) : Nat → (Int32) → (Int32) → (Int32) → (Nat → Int32) × (Nat → Int32) × (Nat → Int32) × (Nat → Int32)
  | 0, v5_111, v6_111, v7_111 => K v5_111 v6_111 v7_111
  | n + 1, v5_111, v6_111, v7_111 => (if v7_111 < 0 then K v5_111 v6_111 v7_111 else g_lt (f_X3_fact c_squad_facts v7_111 (0 : Int32)) (fun r123 => (if r123 = v3 then g_lt (f_X1_changeOf c_changes v7_111) (fun r133 => (if r133 = 1 then L_X1_solveState_150 v1 v2 v3 v4 v7_111 0 c_reboundTenths c_lawInForce c_drawTenths c_squad_size c_squad_facts c_changes c_values c_bests c_rowTenths c_hitValues c_missValues (fun v5_150 v6_150 v9_150 => L_X1_solveState_111 v1 v2 v3 v4 c_reboundTenths c_lawInForce c_drawTenths c_squad_size c_squad_facts c_changes c_values c_bests c_rowTenths c_hitValues c_missValues K n v5_150 v6_150 (v7_111 + (-1))) (((2 : Int32).toInt + 1).toNat + 1) v5_111 v6_111 2 else L_X1_solveState_150 v1 v2 v3 v4 v7_111 1 c_reboundTenths c_lawInForce c_drawTenths c_squad_size c_squad_facts c_changes c_values c_bests c_rowTenths c_hitValues c_missValues (fun v5_150 v6_150 v9_150 => L_X1_solveState_111 v1 v2 v3 v4 c_reboundTenths c_lawInForce c_drawTenths c_squad_size c_squad_facts c_changes c_values c_bests c_rowTenths c_hitValues c_missValues K n v5_150 v6_150 (v7_111 + (-1))) (((2 : Int32).toInt + 1).toNat + 1) v5_111 v6_111 2)) else L_X1_solveState_150 v1 v2 v3 v4 v7_111 0 c_reboundTenths c_lawInForce c_drawTenths c_squad_size c_squad_facts c_changes c_values c_bests c_rowTenths c_hitValues c_missValues (fun v5_150 v6_150 v9_150 => L_X1_solveState_111 v1 v2 v3 v4 c_reboundTenths c_lawInForce c_drawTenths c_squad_size c_squad_facts c_changes c_values c_bests c_rowTenths c_hitValues c_missValues K n v5_150 v6_150 (v7_111 + (-1))) (((2 : Int32).toInt + 1).toNat + 1) v5_111 v6_111 2)))
def f_X1_solveState (c_reboundTenths : Int32) (c_lawInForce : Int32) (c_drawTenths : Int32) (c_squad_size : Int32) (c_squad_facts : Nat → Int32) (c_changes : Nat → Int32) (c_values : Nat → Int32) (c_bests : Nat → Int32) (c_rowTenths : Nat → Int32) (c_hitValues : Nat → Int32) (c_missValues : Nat → Int32) (p1 : Int32) (p2 : Int32) (p3 : Int32) : (Nat → Int32) × (Nat → Int32) × (Nat → Int32) × (Nat → Int32) :=
  g_lt (f_X1_placeOf p1 p2 p3) (fun r3 => g_lt (f_X1_isOver c_lawInForce p1 p2) (fun r11 => (if r11 = 0 then L_X1_solveState_34 p1 p2 p3 r3 c_reboundTenths c_lawInForce c_drawTenths c_squad_size c_squad_facts c_changes c_values c_bests c_rowTenths (fun v5_34 c_hitValues_34 c_missValues_34 => g_lt (f_X4_takes (3 : Int32)) (fun r82 => g_lt (f_X1_valueAt c_values (g_maxf (0 : Int32) (p1 - r82)) p2 p3) (fun r91 => L_X1_solveState_111 p1 p2 p3 r3 c_reboundTenths c_lawInForce c_drawTenths c_squad_size c_squad_facts c_changes c_values c_bests c_rowTenths c_hitValues_34 c_missValues_34 (fun v5_111 v6_111 v7_111 => g_lt (f_X1_put c_values c_bests r3 v5_111 v6_111) (fun u224 => (u224.1, u224.2, c_hitValues_34, c_missValues_34))) ((((c_squad_size - 1) : Int32).toInt + 1).toNat + 1) r91 93 (c_squad_size - 1)))) (((3 : Int32).toInt - (0 : Int32).toInt).toNat + 1) 0 c_hitValues c_missValues else g_lt (f_X1_valueOfEnd c_drawTenths p2) (fun r22 => g_lt (f_X1_put c_values c_bests r3 r22 ((-9) : Int32)) (fun u27 => (u27.1, u27.2, c_hitValues, c_missValues))))))
set_option maxHeartbeats 4000000 in
set_option maxRecDepth 100000 in
theorem k_X1_solveState (l : Launch) (D : va_G) (cI : ClassId) (kA kV : Nat → Nat) (a_ a_squad a_changes a_values a_bests a_rowTenths a_hitValues a_missValues a_squad_facts : Nat) (c_reboundTenths : Int32) (c_lawInForce : Int32) (c_drawTenths : Int32) (c_solvedRows : Int32) (c_squad_size : Int32) (c_squad_facts : Nat → Int32) (c_changes : Nat → Int32) (c_values : Nat → Int32) (c_bests : Nat → Int32) (c_rowTenths : Nat → Int32) (c_hitValues : Nat → Int32) (c_missValues : Nat → Int32) (p1 : Int32) (p2 : Int32) (p3 : Int32) :
    g_MV l D cI kA kV yX1_solveState wsX1_solveState { frames := 3, cells := 0, slots := 0, locals := 74 } [.ref a_, .int p1, .int p2, .int p3] [(a_, .inr (1, [.ref a_squad, .ref a_changes, .int c_reboundTenths, .int c_lawInForce, .int c_drawTenths, .ref a_values, .ref a_bests, .int c_solvedRows, .ref a_rowTenths, .ref a_hitValues, .ref a_missValues])), (a_squad, .inr (3, [.ref a_squad_facts, .int c_squad_size])), (a_squad_facts, .inl (cI, 30, .inl c_squad_facts)), (a_changes, .inl (cI, 6, .inl c_changes)), (a_values, .inl (cI, 650, .inl c_values)), (a_bests, .inl (cI, 650, .inl c_bests)), (a_rowTenths, .inl (cI, 18, .inl c_rowTenths)), (a_hitValues, .inl (cI, 3, .inl c_hitValues)), (a_missValues, .inl (cI, 3, .inl c_missValues))] (fun u : (Nat → Int32) × (Nat → Int32) × (Nat → Int32) × (Nat → Int32) => [(a_, .inr (1, [.ref a_squad, .ref a_changes, .int c_reboundTenths, .int c_lawInForce, .int c_drawTenths, .ref a_values, .ref a_bests, .int c_solvedRows, .ref a_rowTenths, .ref a_hitValues, .ref a_missValues])), (a_squad, .inr (3, [.ref a_squad_facts, .int c_squad_size])), (a_squad_facts, .inl (cI, 30, .inl c_squad_facts)), (a_changes, .inl (cI, 6, .inl c_changes)), (a_values, .inl (cI, 650, .inl u.1)), (a_bests, .inl (cI, 650, .inl u.2.1)), (a_rowTenths, .inl (cI, 18, .inl c_rowTenths)), (a_hitValues, .inl (cI, 3, .inl u.2.2.1)), (a_missValues, .inl (cI, 3, .inl u.2.2.2))]) (fun u : (Nat → Int32) × (Nat → Int32) × (Nat → Int32) × (Nat → Int32) => u = f_X1_solveState c_reboundTenths c_lawInForce c_drawTenths c_squad_size c_squad_facts c_changes c_values c_bests c_rowTenths c_hitValues c_missValues p1 p2 p3) := by
  obtain ⟨XX, hXX⟩ : ∃ z, z = f_X1_solveState c_reboundTenths c_lawInForce c_drawTenths c_squad_size c_squad_facts c_changes c_values c_bests c_rowTenths c_hitValues c_missValues p1 p2 p3 := ⟨_, rfl⟩
  have heq := hXX.trans (f_X1_solveState.eq_def c_reboundTenths c_lawInForce c_drawTenths c_squad_size c_squad_facts c_changes c_values c_bests c_rowTenths c_hitValues c_missValues p1 p2 p3)
  refine g_startV (lv := [(0, .ref a_), (1, .int p1), (2, .int p2), (3, .int p3)]) RX1 rfl rfl rfl (Nat.le_of_ble_eq_true rfl) rfl (fun p e s m args below meth c AA QQ hAA hQQ X hr hmn => ?_)
  refine g_iload_n X 1 rfl rfl dX1_solveState_0 ?_
  refine g_iload_n X 2 rfl rfl dX1_solveState_1 ?_
  refine g_iload_n X 3 rfl rfl dX1_solveState_2 ?_
  refine g_callSi (As := [.int p1, .int p2, .int p3]) (st := []) (wr := [(a_, .inr (1, [.ref a_squad, .ref a_changes, .int c_reboundTenths, .int c_lawInForce, .int c_drawTenths, .ref a_values, .ref a_bests, .int c_solvedRows, .ref a_rowTenths, .ref a_hitValues, .ref a_missValues])), (a_squad, .inr (3, [.ref a_squad_facts, .int c_squad_size])), (a_squad_facts, .inl (cI, 30, .inl c_squad_facts)), (a_changes, .inl (cI, 6, .inl c_changes)), (a_values, .inl (cI, 650, .inl c_values)), (a_bests, .inl (cI, 650, .inl c_bests)), (a_rowTenths, .inl (cI, 18, .inl c_rowTenths)), (a_hitValues, .inl (cI, 3, .inl c_hitValues)), (a_missValues, .inl (cI, 3, .inl c_missValues))]) X (k_X1_placeOf l D cI kA kV p1 p2 p3) (va_cwS 3 X.2.2.2.2.1 gX1_solveState_X1_placeOf rfl rfl rfl (by decide +kernel) ⟨Nat.le_of_ble_eq_true rfl, Nat.le_of_ble_eq_true rfl⟩) [] [0, 1, 2, 3, 4, 5, 6, 7, 8] rfl rfl rfl rfl (by decide) rfl (Nat.le_of_ble_eq_true rfl) ⟨Nat.le_of_ble_eq_true rfl, Nat.le_of_ble_eq_true rfl⟩ dX1_solveState_3 rfl (fun r3 u3 hw3 => ?_)
  refine g_eqs (ws' := [(a_, .inr (1, [.ref a_squad, .ref a_changes, .int c_reboundTenths, .int c_lawInForce, .int c_drawTenths, .ref a_values, .ref a_bests, .int c_solvedRows, .ref a_rowTenths, .ref a_hitValues, .ref a_missValues])), (a_squad, .inr (3, [.ref a_squad_facts, .int c_squad_size])), (a_squad_facts, .inl (cI, 30, .inl c_squad_facts)), (a_changes, .inl (cI, 6, .inl c_changes)), (a_values, .inl (cI, 650, .inl c_values)), (a_bests, .inl (cI, 650, .inl c_bests)), (a_rowTenths, .inl (cI, 18, .inl c_rowTenths)), (a_hitValues, .inl (cI, 3, .inl c_hitValues)), (a_missValues, .inl (cI, 3, .inl c_missValues))]) rfl ?_
  have heq := g_let heq hw3
  refine g_istore (lv' := [(4, .int r3), (0, .ref a_), (1, .int p1), (2, .int p2), (3, .int p3)]) X (by decide) rfl dX1_solveState_6 ?_
  refine g_aload_n X 1 rfl rfl dX1_solveState_8 ?_
  refine g_iload_n X 2 rfl rfl dX1_solveState_9 ?_
  refine g_iload_n X 3 rfl rfl dX1_solveState_10 ?_
  refine g_callVi (C := RX1) (T := TX1) (N := 11) (ci := 1) (As := [.int p1, .int p2]) (st := []) (wr := [(a_squad, .inr (3, [.ref a_squad_facts, .int c_squad_size])), (a_squad_facts, .inl (cI, 30, .inl c_squad_facts)), (a_changes, .inl (cI, 6, .inl c_changes)), (a_values, .inl (cI, 650, .inl c_values)), (a_bests, .inl (cI, 650, .inl c_bests)), (a_rowTenths, .inl (cI, 18, .inl c_rowTenths)), (a_hitValues, .inl (cI, 3, .inl c_hitValues)), (a_missValues, .inl (cI, 3, .inl c_missValues))]) X (k_X1_isOver l D cI kA kV a_ a_squad a_changes a_values a_bests a_rowTenths a_hitValues a_missValues c_reboundTenths c_lawInForce c_drawTenths c_solvedRows p1 p2) (cwV 2 X.2.2.2.2.1 gX1_solveState_X1_isOver rfl rfl rfl (by decide +kernel) ⟨Nat.le_of_ble_eq_true rfl, Nat.le_of_ble_eq_true rfl⟩) 0 rfl rfl [0] [1, 2, 3, 4, 5, 6, 7, 8] rfl rfl rfl rfl (by decide) rfl (Nat.le_of_ble_eq_true rfl) ⟨Nat.le_of_ble_eq_true rfl, Nat.le_of_ble_eq_true rfl⟩ dX1_solveState_11 rfl (fun r11 u11 hw11 => ?_)
  refine g_eqs (ws' := [(a_squad, .inr (3, [.ref a_squad_facts, .int c_squad_size])), (a_squad_facts, .inl (cI, 30, .inl c_squad_facts)), (a_changes, .inl (cI, 6, .inl c_changes)), (a_values, .inl (cI, 650, .inl c_values)), (a_bests, .inl (cI, 650, .inl c_bests)), (a_rowTenths, .inl (cI, 18, .inl c_rowTenths)), (a_hitValues, .inl (cI, 3, .inl c_hitValues)), (a_missValues, .inl (cI, 3, .inl c_missValues)), (a_, .inr (1, [.ref a_squad, .ref a_changes, .int c_reboundTenths, .int c_lawInForce, .int c_drawTenths, .ref a_values, .ref a_bests, .int c_solvedRows, .ref a_rowTenths, .ref a_hitValues, .ref a_missValues]))]) rfl ?_
  have heq := g_let heq hw11
  refine g_if_eq X 31 dX1_solveState_14 (by decide) (fun c14 => ?_) (fun c14 => ?_)
  · have heq := heq.trans (if_pos c14)
    refine g_iconst (v := 0) X (by decide) dX1_solveState_31 ?_
    refine g_istore (lv' := [(5, .int 0), (4, .int r3), (0, .ref a_), (1, .int p1), (2, .int p2), (3, .int p3)]) X (by decide) rfl dX1_solveState_32 ?_
    have lp34 : ∀ (K : (Int32) → (Nat → Int32) → (Nat → Int32) → (Nat → Int32) × (Nat → Int32) × (Nat → Int32) × (Nat → Int32)), (∀ (v5_34 : Int32) (c_hitValues_34 : Nat → Int32) (c_missValues_34 : Nat → Int32), XX = K v5_34 c_hitValues_34 c_missValues_34 → GG p l e { frames := 3, cells := 0, slots := 0, locals := 74 } s m args below meth c D AA 0 0 QQ 11 [(a_squad, .inr (3, [.ref a_squad_facts, .int c_squad_size])), (a_squad_facts, .inl (cI, 30, .inl c_squad_facts)), (a_changes, .inl (cI, 6, .inl c_changes)), (a_values, .inl (cI, 650, .inl c_values)), (a_bests, .inl (cI, 650, .inl c_bests)), (a_rowTenths, .inl (cI, 18, .inl c_rowTenths)), (a_hitValues, .inl (cI, 3, .inl c_hitValues_34)), (a_missValues, .inl (cI, 3, .inl c_missValues_34)), (a_, .inr (1, [.ref a_squad, .ref a_changes, .int c_reboundTenths, .int c_lawInForce, .int c_drawTenths, .ref a_values, .ref a_bests, .int c_solvedRows, .ref a_rowTenths, .ref a_hitValues, .ref a_missValues]))] [(5, .int v5_34), (4, .int r3), (0, .ref a_), (1, .int p1), (2, .int p2), (3, .int p3)] 78 []) → ∀ (n : Nat) (v5_34 : Int32) (c_hitValues_34 : Nat → Int32) (c_missValues_34 : Nat → Int32), ((3 : Int32).toInt - (v5_34 : Int32).toInt).toNat < n → 0 ≤ v5_34 → XX = L_X1_solveState_34 p1 p2 p3 r3 c_reboundTenths c_lawInForce c_drawTenths c_squad_size c_squad_facts c_changes c_values c_bests c_rowTenths K n v5_34 c_hitValues_34 c_missValues_34 → GG p l e { frames := 3, cells := 0, slots := 0, locals := 74 } s m args below meth c D AA 0 0 QQ 11 [(a_squad, .inr (3, [.ref a_squad_facts, .int c_squad_size])), (a_squad_facts, .inl (cI, 30, .inl c_squad_facts)), (a_changes, .inl (cI, 6, .inl c_changes)), (a_values, .inl (cI, 650, .inl c_values)), (a_bests, .inl (cI, 650, .inl c_bests)), (a_rowTenths, .inl (cI, 18, .inl c_rowTenths)), (a_hitValues, .inl (cI, 3, .inl c_hitValues_34)), (a_missValues, .inl (cI, 3, .inl c_missValues_34)), (a_, .inr (1, [.ref a_squad, .ref a_changes, .int c_reboundTenths, .int c_lawInForce, .int c_drawTenths, .ref a_values, .ref a_bests, .int c_solvedRows, .ref a_rowTenths, .ref a_hitValues, .ref a_missValues]))] [(5, .int v5_34), (4, .int r3), (0, .ref a_), (1, .int p1), (2, .int p2), (3, .int p3)] 34 [] := by
      intro K hK n
      induction n with
      | zero => intro v5_34 c_hitValues_34 c_missValues_34 hm34; exact absurd hm34 (Nat.not_lt_zero _)
      | succ n ih34 =>
        intro v5_34 c_hitValues_34 c_missValues_34 hm34 hv34_0 heq
        have heq := heq.trans (L_X1_solveState_34.eq_2 _ _ _ _ _ _ _ _ _ _ _ _ _ _ _ _ _ _ )
        refine g_iload X 0 rfl dX1_solveState_34 ?_
        refine g_iconst (v := 3) X (by decide) dX1_solveState_36 ?_
        refine g_icmp_ge X 78 dX1_solveState_37 (by decide) (fun c37 => ?_) (fun c37 => ?_)
        · have heq := heq.trans (if_pos c37)
          exact hK v5_34 c_hitValues_34 c_missValues_34 heq
        · have heq := heq.trans (if_neg c37)
          refine g_aload_n X 2 rfl rfl dX1_solveState_40 ?_
          refine g_get (C := RX1) (T := TX1) (N := 11) (ci := 1) X hi_X1_solveState_X1 8 rfl rfl 9 (by decide) (X.2.2.2.2.1 (.fieldLink RX1 44 "NineteenSecondsLeft$Lamp" "hitValues" "[I") (List.mem_of_getElem? (i := 1) rfl)) rfl rfl dX1_solveState_41 ?_
          refine g_iload X 0 rfl dX1_solveState_44 ?_
          refine g_aload_n X 2 rfl rfl dX1_solveState_46 ?_
          refine g_iload X 0 rfl dX1_solveState_47 ?_
          refine g_iload_n X 3 rfl rfl dX1_solveState_49 ?_
          refine g_iload_n X 4 rfl rfl dX1_solveState_50 ?_
          refine g_iload_n X 5 rfl rfl dX1_solveState_51 ?_
          refine g_callVi (C := RX1) (T := TX1) (N := 11) (ci := 1) (As := [.int v5_34, .int p1, .int p2, .int p3]) (st := [.int v5_34, .ref a_hitValues]) (wr := [(a_squad, .inr (3, [.ref a_squad_facts, .int c_squad_size])), (a_squad_facts, .inl (cI, 30, .inl c_squad_facts)), (a_changes, .inl (cI, 6, .inl c_changes)), (a_bests, .inl (cI, 650, .inl c_bests)), (a_rowTenths, .inl (cI, 18, .inl c_rowTenths)), (a_hitValues, .inl (cI, 3, .inl c_hitValues_34)), (a_missValues, .inl (cI, 3, .inl c_missValues_34))]) X (k_X1_valueBehindHit l D cI kA kV a_ a_squad a_changes a_values a_bests a_rowTenths a_hitValues a_missValues c_reboundTenths c_lawInForce c_drawTenths c_solvedRows c_values v5_34 p1 p2 p3) (cwV 4 X.2.2.2.2.1 gX1_solveState_X1_valueBehindHit rfl rfl rfl (by decide +kernel) ⟨Nat.le_of_ble_eq_true rfl, Nat.le_of_ble_eq_true rfl⟩) 8 rfl rfl [8, 3] [0, 1, 2, 4, 5, 6, 7] rfl rfl rfl rfl (by decide) rfl (Nat.le_of_ble_eq_true rfl) ⟨Nat.le_of_ble_eq_true rfl, Nat.le_of_ble_eq_true rfl⟩ dX1_solveState_52 rfl (fun r52 u52 hw52 => ?_)
          refine g_eqs (ws' := [(a_squad, .inr (3, [.ref a_squad_facts, .int c_squad_size])), (a_squad_facts, .inl (cI, 30, .inl c_squad_facts)), (a_changes, .inl (cI, 6, .inl c_changes)), (a_bests, .inl (cI, 650, .inl c_bests)), (a_rowTenths, .inl (cI, 18, .inl c_rowTenths)), (a_hitValues, .inl (cI, 3, .inl c_hitValues_34)), (a_missValues, .inl (cI, 3, .inl c_missValues_34)), (a_, .inr (1, [.ref a_squad, .ref a_changes, .int c_reboundTenths, .int c_lawInForce, .int c_drawTenths, .ref a_values, .ref a_bests, .int c_solvedRows, .ref a_rowTenths, .ref a_hitValues, .ref a_missValues])), (a_values, .inl (cI, 650, .inl c_values))]) rfl ?_
          have heq := g_let heq hw52
          refine g_iast (ws' := [(a_squad, .inr (3, [.ref a_squad_facts, .int c_squad_size])), (a_squad_facts, .inl (cI, 30, .inl c_squad_facts)), (a_changes, .inl (cI, 6, .inl c_changes)), (a_bests, .inl (cI, 650, .inl c_bests)), (a_rowTenths, .inl (cI, 18, .inl c_rowTenths)), (a_hitValues, .inl (cI, 3, .inl (upd c_hitValues_34 v5_34.toNatClampNeg r52))), (a_missValues, .inl (cI, 3, .inl c_missValues_34)), (a_, .inr (1, [.ref a_squad, .ref a_changes, .int c_reboundTenths, .int c_lawInForce, .int c_drawTenths, .ref a_values, .ref a_bests, .int c_solvedRows, .ref a_rowTenths, .ref a_hitValues, .ref a_missValues])), (a_values, .inl (cI, 650, .inl c_values))]) X 5 rfl (g_vin (by decide) hv34_0 (g_nn c37)) dX1_solveState_55 rfl ?_
          refine g_aload_n X 2 rfl rfl dX1_solveState_56 ?_
          refine g_get (C := RX1) (T := TX1) (N := 11) (ci := 1) X hi_X1_solveState_X1 7 rfl rfl 10 (by decide) (X.2.2.2.2.1 (.fieldLink RX1 47 "NineteenSecondsLeft$Lamp" "missValues" "[I") (List.mem_of_getElem? (i := 2) rfl)) rfl rfl dX1_solveState_57 ?_
          refine g_iload X 0 rfl dX1_solveState_60 ?_
          refine g_aload_n X 2 rfl rfl dX1_solveState_62 ?_
          refine g_iload X 0 rfl dX1_solveState_63 ?_
          refine g_iload_n X 3 rfl rfl dX1_solveState_65 ?_
          refine g_iload_n X 4 rfl rfl dX1_solveState_66 ?_
          refine g_iload_n X 5 rfl rfl dX1_solveState_67 ?_
          refine g_callVi (C := RX1) (T := TX1) (N := 11) (ci := 1) (As := [.int v5_34, .int p1, .int p2, .int p3]) (st := [.int v5_34, .ref a_missValues]) (wr := [(a_squad, .inr (3, [.ref a_squad_facts, .int c_squad_size])), (a_squad_facts, .inl (cI, 30, .inl c_squad_facts)), (a_changes, .inl (cI, 6, .inl c_changes)), (a_bests, .inl (cI, 650, .inl c_bests)), (a_rowTenths, .inl (cI, 18, .inl c_rowTenths)), (a_hitValues, .inl (cI, 3, .inl (upd c_hitValues_34 v5_34.toNatClampNeg r52))), (a_missValues, .inl (cI, 3, .inl c_missValues_34))]) X (k_X1_valueBehindMiss l D cI kA kV a_ a_squad a_changes a_values a_bests a_rowTenths a_hitValues a_missValues c_reboundTenths c_lawInForce c_drawTenths c_solvedRows c_values v5_34 p1 p2 p3) (cwV 4 X.2.2.2.2.1 gX1_solveState_X1_valueBehindMiss rfl rfl rfl (by decide +kernel) ⟨Nat.le_of_ble_eq_true rfl, Nat.le_of_ble_eq_true rfl⟩) 7 rfl rfl [7, 8] [0, 1, 2, 3, 4, 5, 6] rfl rfl rfl rfl (by decide) rfl (Nat.le_of_ble_eq_true rfl) ⟨Nat.le_of_ble_eq_true rfl, Nat.le_of_ble_eq_true rfl⟩ dX1_solveState_68 rfl (fun r68 u68 hw68 => ?_)
          refine g_eqs (ws' := [(a_squad, .inr (3, [.ref a_squad_facts, .int c_squad_size])), (a_squad_facts, .inl (cI, 30, .inl c_squad_facts)), (a_changes, .inl (cI, 6, .inl c_changes)), (a_bests, .inl (cI, 650, .inl c_bests)), (a_rowTenths, .inl (cI, 18, .inl c_rowTenths)), (a_hitValues, .inl (cI, 3, .inl (upd c_hitValues_34 v5_34.toNatClampNeg r52))), (a_missValues, .inl (cI, 3, .inl c_missValues_34)), (a_, .inr (1, [.ref a_squad, .ref a_changes, .int c_reboundTenths, .int c_lawInForce, .int c_drawTenths, .ref a_values, .ref a_bests, .int c_solvedRows, .ref a_rowTenths, .ref a_hitValues, .ref a_missValues])), (a_values, .inl (cI, 650, .inl c_values))]) rfl ?_
          have heq := g_let heq hw68
          refine g_iast (ws' := [(a_squad, .inr (3, [.ref a_squad_facts, .int c_squad_size])), (a_squad_facts, .inl (cI, 30, .inl c_squad_facts)), (a_changes, .inl (cI, 6, .inl c_changes)), (a_bests, .inl (cI, 650, .inl c_bests)), (a_rowTenths, .inl (cI, 18, .inl c_rowTenths)), (a_hitValues, .inl (cI, 3, .inl (upd c_hitValues_34 v5_34.toNatClampNeg r52))), (a_missValues, .inl (cI, 3, .inl (upd c_missValues_34 v5_34.toNatClampNeg r68))), (a_, .inr (1, [.ref a_squad, .ref a_changes, .int c_reboundTenths, .int c_lawInForce, .int c_drawTenths, .ref a_values, .ref a_bests, .int c_solvedRows, .ref a_rowTenths, .ref a_hitValues, .ref a_missValues])), (a_values, .inl (cI, 650, .inl c_values))]) X 6 rfl (g_vin (by decide) hv34_0 (g_nn c37)) dX1_solveState_71 rfl ?_
          refine g_iinc (v := v5_34 + 1) (lv' := [(5, .int (v5_34 + 1)), (4, .int r3), (0, .ref a_), (1, .int p1), (2, .int p2), (3, .int p3)]) X 0 rfl rfl (by decide) rfl dX1_solveState_72 ?_
          refine g_goto (tgt := 34) X (by decide) dX1_solveState_75 ?_
          refine g_wsub (ws' := [(a_squad, .inr (3, [.ref a_squad_facts, .int c_squad_size])), (a_squad_facts, .inl (cI, 30, .inl c_squad_facts)), (a_changes, .inl (cI, 6, .inl c_changes)), (a_values, .inl (cI, 650, .inl c_values)), (a_bests, .inl (cI, 650, .inl c_bests)), (a_rowTenths, .inl (cI, 18, .inl c_rowTenths)), (a_hitValues, .inl (cI, 3, .inl (upd c_hitValues_34 v5_34.toNatClampNeg r52))), (a_missValues, .inl (cI, 3, .inl (upd c_missValues_34 v5_34.toNatClampNeg r68))), (a_, .inr (1, [.ref a_squad, .ref a_changes, .int c_reboundTenths, .int c_lawInForce, .int c_drawTenths, .ref a_values, .ref a_bests, .int c_solvedRows, .ref a_rowTenths, .ref a_hitValues, .ref a_missValues]))]) [0, 1, 2, 8, 3, 4, 5, 6, 7] rfl rfl ?_
          exact ih34 (v5_34 + 1) (upd c_hitValues_34 v5_34.toNatClampNeg r52) (upd c_missValues_34 v5_34.toNatClampNeg r68) (g_upm c37 hm34) (g_up0 hv34_0 c37) heq
    refine lp34 _ (fun v5_34 c_hitValues_34 c_missValues_34 heq => ?_) _ 0 c_hitValues c_missValues (Nat.lt_succ_self _) (by decide) heq
    refine g_aload_n X 2 rfl rfl dX1_solveState_78 ?_
    refine g_iconst (v := 0) X (by decide) dX1_solveState_79 ?_
    refine g_iload_n X 3 rfl rfl dX1_solveState_80 ?_
    refine g_iconst (v := 3) X (by decide) dX1_solveState_81 ?_
    refine g_callNi (host := "NineteenSecondsLeft") (As := [.int 3]) (st := [.int p1, .int 0, .ref a_]) (wr := [(a_squad, .inr (3, [.ref a_squad_facts, .int c_squad_size])), (a_squad_facts, .inl (cI, 30, .inl c_squad_facts)), (a_changes, .inl (cI, 6, .inl c_changes)), (a_values, .inl (cI, 650, .inl c_values)), (a_bests, .inl (cI, 650, .inl c_bests)), (a_rowTenths, .inl (cI, 18, .inl c_rowTenths)), (a_hitValues, .inl (cI, 3, .inl c_hitValues_34)), (a_missValues, .inl (cI, 3, .inl c_missValues_34)), (a_, .inr (1, [.ref a_squad, .ref a_changes, .int c_reboundTenths, .int c_lawInForce, .int c_drawTenths, .ref a_values, .ref a_bests, .int c_solvedRows, .ref a_rowTenths, .ref a_hitValues, .ref a_missValues]))]) X (k_X4_takes l D cI kA kV 3) ⟨va_cnB 1 X.2.2.2.2.1 gX1_solveState_X4_takes_n99 rfl rfl rfl ((g_nl X).1 (RX1, 99, yX4_takes) (List.mem_of_getElem? (i := 5) rfl)) (X.2.2.2.2.1 (.initialized RX4) (List.mem_of_getElem? (i := 38) rfl)) (by decide +kernel) ⟨Nat.le_of_ble_eq_true rfl, Nat.le_of_ble_eq_true rfl⟩, (X.2.2.2.2.1 (.static yX4_takes) (List.mem_of_getElem? (i := 37) rfl)), trivial⟩ [] [0, 1, 2, 3, 4, 5, 6, 7, 8] rfl rfl rfl rfl (by decide) rfl (Nat.le_of_ble_eq_true rfl) ⟨Nat.le_of_ble_eq_true rfl, Nat.le_of_ble_eq_true rfl⟩ dX1_solveState_82 rfl (fun r82 u82 hw82 => ?_)
    refine g_eqs (ws' := [(a_squad, .inr (3, [.ref a_squad_facts, .int c_squad_size])), (a_squad_facts, .inl (cI, 30, .inl c_squad_facts)), (a_changes, .inl (cI, 6, .inl c_changes)), (a_values, .inl (cI, 650, .inl c_values)), (a_bests, .inl (cI, 650, .inl c_bests)), (a_rowTenths, .inl (cI, 18, .inl c_rowTenths)), (a_hitValues, .inl (cI, 3, .inl c_hitValues_34)), (a_missValues, .inl (cI, 3, .inl c_missValues_34)), (a_, .inr (1, [.ref a_squad, .ref a_changes, .int c_reboundTenths, .int c_lawInForce, .int c_drawTenths, .ref a_values, .ref a_bests, .int c_solvedRows, .ref a_rowTenths, .ref a_hitValues, .ref a_missValues]))]) rfl ?_
    have heq := g_let heq hw82
    refine g_isub X dX1_solveState_85 ?_
    refine g_mmax X (X.2.2.2.2.1 (.methodLink RX1 114 Lib.Math.max.name) (List.mem_of_getElem? (i := 3) rfl)) (X.2.2.2.2.1 (.static Lib.Math.max.name) (List.mem_of_getElem? (i := 4) rfl)) (X.2.2.2.2.1 (.initialized "java/lang/Math") (List.mem_of_getElem? (i := 5) rfl)) (X.2.2.2.2.1 (.code Lib.Math.max.name Lib.Math.max.code 2 (some .int)) (List.mem_of_getElem? (i := 6) rfl)) (Nat.le_of_ble_eq_true rfl) (Nat.le_of_ble_eq_true rfl) (Nat.le_of_ble_eq_true rfl) (Nat.le_of_ble_eq_true rfl) dX1_solveState_86 ?_
    refine g_iload_n X 4 rfl rfl dX1_solveState_89 ?_
    refine g_iload_n X 5 rfl rfl dX1_solveState_90 ?_
    refine g_callVi (C := RX1) (T := TX1) (N := 11) (ci := 1) (As := [.int (g_maxf (0 : Int32) (p1 - r82)), .int p2, .int p3]) (st := []) (wr := [(a_squad, .inr (3, [.ref a_squad_facts, .int c_squad_size])), (a_squad_facts, .inl (cI, 30, .inl c_squad_facts)), (a_changes, .inl (cI, 6, .inl c_changes)), (a_bests, .inl (cI, 650, .inl c_bests)), (a_rowTenths, .inl (cI, 18, .inl c_rowTenths)), (a_hitValues, .inl (cI, 3, .inl c_hitValues_34)), (a_missValues, .inl (cI, 3, .inl c_missValues_34))]) X (k_X1_valueAt l D cI kA kV a_ a_squad a_changes a_values a_bests a_rowTenths a_hitValues a_missValues c_reboundTenths c_lawInForce c_drawTenths c_solvedRows c_values (g_maxf (0 : Int32) (p1 - r82)) p2 p3) (cwV 3 X.2.2.2.2.1 gX1_solveState_X1_valueAt rfl rfl rfl (by decide +kernel) ⟨Nat.le_of_ble_eq_true rfl, Nat.le_of_ble_eq_true rfl⟩) 8 rfl rfl [8, 3] [0, 1, 2, 4, 5, 6, 7] rfl rfl rfl rfl (by decide) rfl (Nat.le_of_ble_eq_true rfl) ⟨Nat.le_of_ble_eq_true rfl, Nat.le_of_ble_eq_true rfl⟩ dX1_solveState_91 rfl (fun r91 u91 hw91 => ?_)
    refine g_eqs (ws' := [(a_squad, .inr (3, [.ref a_squad_facts, .int c_squad_size])), (a_squad_facts, .inl (cI, 30, .inl c_squad_facts)), (a_changes, .inl (cI, 6, .inl c_changes)), (a_bests, .inl (cI, 650, .inl c_bests)), (a_rowTenths, .inl (cI, 18, .inl c_rowTenths)), (a_hitValues, .inl (cI, 3, .inl c_hitValues_34)), (a_missValues, .inl (cI, 3, .inl c_missValues_34)), (a_, .inr (1, [.ref a_squad, .ref a_changes, .int c_reboundTenths, .int c_lawInForce, .int c_drawTenths, .ref a_values, .ref a_bests, .int c_solvedRows, .ref a_rowTenths, .ref a_hitValues, .ref a_missValues])), (a_values, .inl (cI, 650, .inl c_values))]) rfl ?_
    have heq := g_let heq hw91
    refine g_istore (lv' := [(5, .int r91), (4, .int r3), (0, .ref a_), (1, .int p1), (2, .int p2), (3, .int p3)]) X (by decide) rfl dX1_solveState_94 ?_
    refine g_bipush (v := 93) X (by decide) dX1_solveState_96 ?_
    refine g_istore (lv' := [(6, .int 93), (5, .int r91), (4, .int r3), (0, .ref a_), (1, .int p1), (2, .int p2), (3, .int p3)]) X (by decide) rfl dX1_solveState_98 ?_
    refine g_aload_n X 3 rfl rfl dX1_solveState_100 ?_
    refine g_get (C := RX1) (T := TX1) (N := 11) (ci := 1) X hi_X1_solveState_X1 7 rfl rfl 0 (by decide) (X.2.2.2.2.1 (.fieldLink RX1 12 "NineteenSecondsLeft$Lamp" "squad" "LNineteenSecondsLeft$Squad;") (List.mem_of_getElem? (i := 7) rfl)) rfl rfl dX1_solveState_101 ?_
    refine g_callVi (C := RX3) (T := TX3) (N := 2) (ci := 3) (As := []) (st := []) (wr := [(a_squad_facts, .inl (cI, 30, .inl c_squad_facts)), (a_changes, .inl (cI, 6, .inl c_changes)), (a_bests, .inl (cI, 650, .inl c_bests)), (a_rowTenths, .inl (cI, 18, .inl c_rowTenths)), (a_hitValues, .inl (cI, 3, .inl c_hitValues_34)), (a_missValues, .inl (cI, 3, .inl c_missValues_34)), (a_, .inr (1, [.ref a_squad, .ref a_changes, .int c_reboundTenths, .int c_lawInForce, .int c_drawTenths, .ref a_values, .ref a_bests, .int c_solvedRows, .ref a_rowTenths, .ref a_hitValues, .ref a_missValues])), (a_values, .inl (cI, 650, .inl c_values))]) X (k_X3_players l D cI kA kV a_squad a_squad_facts c_squad_size) (cwV 0 X.2.2.2.2.1 gX1_solveState_X3_players rfl rfl rfl (by decide +kernel) ⟨Nat.le_of_ble_eq_true rfl, Nat.le_of_ble_eq_true rfl⟩) 0 rfl rfl [0] [1, 2, 3, 4, 5, 6, 7, 8] rfl rfl rfl rfl (by decide) rfl (Nat.le_of_ble_eq_true rfl) ⟨Nat.le_of_ble_eq_true rfl, Nat.le_of_ble_eq_true rfl⟩ dX1_solveState_104 rfl (fun r104 u104 hw104 => ?_)
    refine g_eqs (ws' := [(a_squad_facts, .inl (cI, 30, .inl c_squad_facts)), (a_changes, .inl (cI, 6, .inl c_changes)), (a_bests, .inl (cI, 650, .inl c_bests)), (a_rowTenths, .inl (cI, 18, .inl c_rowTenths)), (a_hitValues, .inl (cI, 3, .inl c_hitValues_34)), (a_missValues, .inl (cI, 3, .inl c_missValues_34)), (a_, .inr (1, [.ref a_squad, .ref a_changes, .int c_reboundTenths, .int c_lawInForce, .int c_drawTenths, .ref a_values, .ref a_bests, .int c_solvedRows, .ref a_rowTenths, .ref a_hitValues, .ref a_missValues])), (a_values, .inl (cI, 650, .inl c_values)), (a_squad, .inr (3, [.ref a_squad_facts, .int c_squad_size]))]) rfl ?_
    have hw104 : c_squad_size = r104 := hw104.symm
    subst hw104
    refine g_iconst (v := 1) X (by decide) dX1_solveState_107 ?_
    refine g_isub X dX1_solveState_108 ?_
    refine g_istore (lv' := [(7, .int (c_squad_size - 1)), (6, .int 93), (5, .int r91), (4, .int r3), (0, .ref a_), (1, .int p1), (2, .int p2), (3, .int p3)]) X (by decide) rfl dX1_solveState_109 ?_
    have lp111 : ∀ (K : (Int32) → (Int32) → (Int32) → (Nat → Int32) × (Nat → Int32) × (Nat → Int32) × (Nat → Int32)), (∀ (v5_111 : Int32) (v6_111 : Int32) (v7_111 : Int32), XX = K v5_111 v6_111 v7_111 → GG p l e { frames := 3, cells := 0, slots := 0, locals := 74 } s m args below meth c D AA 0 0 QQ 11 [(a_squad_facts, .inl (cI, 30, .inl c_squad_facts)), (a_changes, .inl (cI, 6, .inl c_changes)), (a_bests, .inl (cI, 650, .inl c_bests)), (a_rowTenths, .inl (cI, 18, .inl c_rowTenths)), (a_hitValues, .inl (cI, 3, .inl c_hitValues_34)), (a_missValues, .inl (cI, 3, .inl c_missValues_34)), (a_, .inr (1, [.ref a_squad, .ref a_changes, .int c_reboundTenths, .int c_lawInForce, .int c_drawTenths, .ref a_values, .ref a_bests, .int c_solvedRows, .ref a_rowTenths, .ref a_hitValues, .ref a_missValues])), (a_values, .inl (cI, 650, .inl c_values)), (a_squad, .inr (3, [.ref a_squad_facts, .int c_squad_size]))] [(7, .int v7_111), (6, .int v6_111), (5, .int v5_111), (4, .int r3), (0, .ref a_), (1, .int p1), (2, .int p2), (3, .int p3)] 217 []) → ∀ (n : Nat) (v5_111 : Int32) (v6_111 : Int32) (v7_111 : Int32), ((v7_111 : Int32).toInt + 1).toNat < n → XX = L_X1_solveState_111 p1 p2 p3 r3 c_reboundTenths c_lawInForce c_drawTenths c_squad_size c_squad_facts c_changes c_values c_bests c_rowTenths c_hitValues_34 c_missValues_34 K n v5_111 v6_111 v7_111 → GG p l e { frames := 3, cells := 0, slots := 0, locals := 74 } s m args below meth c D AA 0 0 QQ 11 [(a_squad_facts, .inl (cI, 30, .inl c_squad_facts)), (a_changes, .inl (cI, 6, .inl c_changes)), (a_bests, .inl (cI, 650, .inl c_bests)), (a_rowTenths, .inl (cI, 18, .inl c_rowTenths)), (a_hitValues, .inl (cI, 3, .inl c_hitValues_34)), (a_missValues, .inl (cI, 3, .inl c_missValues_34)), (a_, .inr (1, [.ref a_squad, .ref a_changes, .int c_reboundTenths, .int c_lawInForce, .int c_drawTenths, .ref a_values, .ref a_bests, .int c_solvedRows, .ref a_rowTenths, .ref a_hitValues, .ref a_missValues])), (a_values, .inl (cI, 650, .inl c_values)), (a_squad, .inr (3, [.ref a_squad_facts, .int c_squad_size]))] [(7, .int v7_111), (6, .int v6_111), (5, .int v5_111), (4, .int r3), (0, .ref a_), (1, .int p1), (2, .int p2), (3, .int p3)] 111 [] := by
      intro K hK n
      induction n with
      | zero => intro v5_111 v6_111 v7_111 hm111; exact absurd hm111 (Nat.not_lt_zero _)
      | succ n ih111 =>
        intro v5_111 v6_111 v7_111 hm111  heq
        have heq := heq.trans (L_X1_solveState_111.eq_2 _ _ _ _ _ _ _ _ _ _ _ _ _ _ _ _ _ _ _ _ )
        refine g_iload X 0 rfl dX1_solveState_111 ?_
        refine g_if_lt X 217 dX1_solveState_113 (by decide) (fun c113 => ?_) (fun c113 => ?_)
        · have heq := heq.trans (if_pos c113)
          exact hK v5_111 v6_111 v7_111 heq
        · have heq := heq.trans (if_neg c113)
          refine g_aload_n X 4 rfl rfl dX1_solveState_116 ?_
          refine g_get (C := RX1) (T := TX1) (N := 11) (ci := 1) X hi_X1_solveState_X1 6 rfl rfl 0 (by decide) (X.2.2.2.2.1 (.fieldLink RX1 12 "NineteenSecondsLeft$Lamp" "squad" "LNineteenSecondsLeft$Squad;") (List.mem_of_getElem? (i := 7) rfl)) rfl rfl dX1_solveState_117 ?_
          refine g_iload X 0 rfl dX1_solveState_120 ?_
          refine g_iconst (v := 0) X (by decide) dX1_solveState_122 ?_
          refine g_callVi (C := RX3) (T := TX3) (N := 2) (ci := 3) (As := [.int v7_111, .int 0]) (st := []) (wr := [(a_changes, .inl (cI, 6, .inl c_changes)), (a_bests, .inl (cI, 650, .inl c_bests)), (a_rowTenths, .inl (cI, 18, .inl c_rowTenths)), (a_hitValues, .inl (cI, 3, .inl c_hitValues_34)), (a_missValues, .inl (cI, 3, .inl c_missValues_34)), (a_, .inr (1, [.ref a_squad, .ref a_changes, .int c_reboundTenths, .int c_lawInForce, .int c_drawTenths, .ref a_values, .ref a_bests, .int c_solvedRows, .ref a_rowTenths, .ref a_hitValues, .ref a_missValues])), (a_values, .inl (cI, 650, .inl c_values))]) X (k_X3_fact l D cI kA kV a_squad a_squad_facts c_squad_size c_squad_facts v7_111 0) (cwV 2 X.2.2.2.2.1 gX1_solveState_X3_fact rfl rfl rfl (by decide +kernel) ⟨Nat.le_of_ble_eq_true rfl, Nat.le_of_ble_eq_true rfl⟩) 8 rfl rfl [8, 0] [1, 2, 3, 4, 5, 6, 7] rfl rfl rfl rfl (by decide) rfl (Nat.le_of_ble_eq_true rfl) ⟨Nat.le_of_ble_eq_true rfl, Nat.le_of_ble_eq_true rfl⟩ dX1_solveState_123 rfl (fun r123 u123 hw123 => ?_)
          refine g_eqs (ws' := [(a_changes, .inl (cI, 6, .inl c_changes)), (a_bests, .inl (cI, 650, .inl c_bests)), (a_rowTenths, .inl (cI, 18, .inl c_rowTenths)), (a_hitValues, .inl (cI, 3, .inl c_hitValues_34)), (a_missValues, .inl (cI, 3, .inl c_missValues_34)), (a_, .inr (1, [.ref a_squad, .ref a_changes, .int c_reboundTenths, .int c_lawInForce, .int c_drawTenths, .ref a_values, .ref a_bests, .int c_solvedRows, .ref a_rowTenths, .ref a_hitValues, .ref a_missValues])), (a_values, .inl (cI, 650, .inl c_values)), (a_squad, .inr (3, [.ref a_squad_facts, .int c_squad_size])), (a_squad_facts, .inl (cI, 30, .inl c_squad_facts))]) rfl ?_
          have heq := g_let heq hw123
          refine g_iload_n X 7 rfl rfl dX1_solveState_126 ?_
          refine g_icmp_ne X 144 dX1_solveState_127 (by decide) (fun c127 => ?_) (fun c127 => ?_)
          · have heq := heq.trans (if_neg c127)
            refine g_iconst (v := 0) X (by decide) dX1_solveState_144 ?_
            refine g_istore (lv' := [(8, .int 0), (7, .int v7_111), (6, .int v6_111), (5, .int v5_111), (4, .int r3), (0, .ref a_), (1, .int p1), (2, .int p2), (3, .int p3)]) X (by decide) rfl dX1_solveState_145 ?_
            refine g_iconst (v := 2) X (by decide) dX1_solveState_147 ?_
            refine g_istore (lv' := [(9, .int 2), (8, .int 0), (7, .int v7_111), (6, .int v6_111), (5, .int v5_111), (4, .int r3), (0, .ref a_), (1, .int p1), (2, .int p2), (3, .int p3)]) X (by decide) rfl dX1_solveState_148 ?_
            have lp150 : ∀ (K : (Int32) → (Int32) → (Int32) → (Nat → Int32) × (Nat → Int32) × (Nat → Int32) × (Nat → Int32)), (∀ (v5_150 : Int32) (v6_150 : Int32) (v9_150 : Int32), XX = K v5_150 v6_150 v9_150 → GG p l e { frames := 3, cells := 0, slots := 0, locals := 74 } s m args below meth c D AA 0 0 QQ 11 [(a_changes, .inl (cI, 6, .inl c_changes)), (a_bests, .inl (cI, 650, .inl c_bests)), (a_rowTenths, .inl (cI, 18, .inl c_rowTenths)), (a_hitValues, .inl (cI, 3, .inl c_hitValues_34)), (a_missValues, .inl (cI, 3, .inl c_missValues_34)), (a_, .inr (1, [.ref a_squad, .ref a_changes, .int c_reboundTenths, .int c_lawInForce, .int c_drawTenths, .ref a_values, .ref a_bests, .int c_solvedRows, .ref a_rowTenths, .ref a_hitValues, .ref a_missValues])), (a_values, .inl (cI, 650, .inl c_values)), (a_squad, .inr (3, [.ref a_squad_facts, .int c_squad_size])), (a_squad_facts, .inl (cI, 30, .inl c_squad_facts))] [(9, .int v9_150), (8, .int (0 : Int32)), (7, .int v7_111), (6, .int v6_150), (5, .int v5_150), (4, .int r3), (0, .ref a_), (1, .int p1), (2, .int p2), (3, .int p3)] 211 []) → ∀ (n : Nat) (v5_150 : Int32) (v6_150 : Int32) (v9_150 : Int32), ((v9_150 : Int32).toInt + 1).toNat < n → XX = L_X1_solveState_150 p1 p2 p3 r3 v7_111 0 c_reboundTenths c_lawInForce c_drawTenths c_squad_size c_squad_facts c_changes c_values c_bests c_rowTenths c_hitValues_34 c_missValues_34 K n v5_150 v6_150 v9_150 → GG p l e { frames := 3, cells := 0, slots := 0, locals := 74 } s m args below meth c D AA 0 0 QQ 11 [(a_changes, .inl (cI, 6, .inl c_changes)), (a_bests, .inl (cI, 650, .inl c_bests)), (a_rowTenths, .inl (cI, 18, .inl c_rowTenths)), (a_hitValues, .inl (cI, 3, .inl c_hitValues_34)), (a_missValues, .inl (cI, 3, .inl c_missValues_34)), (a_, .inr (1, [.ref a_squad, .ref a_changes, .int c_reboundTenths, .int c_lawInForce, .int c_drawTenths, .ref a_values, .ref a_bests, .int c_solvedRows, .ref a_rowTenths, .ref a_hitValues, .ref a_missValues])), (a_values, .inl (cI, 650, .inl c_values)), (a_squad, .inr (3, [.ref a_squad_facts, .int c_squad_size])), (a_squad_facts, .inl (cI, 30, .inl c_squad_facts))] [(9, .int v9_150), (8, .int (0 : Int32)), (7, .int v7_111), (6, .int v6_150), (5, .int v5_150), (4, .int r3), (0, .ref a_), (1, .int p1), (2, .int p2), (3, .int p3)] 150 [] := by
              intro K hK n
              induction n with
              | zero => intro v5_150 v6_150 v9_150 hm150; exact absurd hm150 (Nat.not_lt_zero _)
              | succ n ih150 =>
                intro v5_150 v6_150 v9_150 hm150  heq
                have heq := heq.trans (L_X1_solveState_150.eq_2 _ _ _ _ _ _ _ _ _ _ _ _ _ _ _ _ _ _ _ _ _ _ )
                refine g_iload X 0 rfl dX1_solveState_150 ?_
                refine g_if_lt X 211 dX1_solveState_152 (by decide) (fun c152 => ?_) (fun c152 => ?_)
                · have heq := heq.trans (if_pos c152)
                  exact hK v5_150 v6_150 v9_150 heq
                · have heq := heq.trans (if_neg c152)
                  refine g_iload X 1 rfl dX1_solveState_155 ?_
                  refine g_if_eq X 211 dX1_solveState_157 (by decide) (fun c157 => ?_) (fun c157 => ?_)
                  · have heq := heq.trans (if_pos c157)
                    exact hK v5_150 v6_150 v9_150 heq
                  · have heq := heq.trans (if_neg c157)
                    refine g_aload_n X 6 rfl rfl dX1_solveState_160 ?_
                    refine g_iload X 2 rfl dX1_solveState_161 ?_
                    refine g_iload X 0 rfl dX1_solveState_163 ?_
                    refine g_callVi (C := RX1) (T := TX1) (N := 11) (ci := 1) (As := [.int v7_111, .int v9_150]) (st := []) (wr := [(a_changes, .inl (cI, 6, .inl c_changes)), (a_bests, .inl (cI, 650, .inl c_bests)), (a_values, .inl (cI, 650, .inl c_values)), (a_squad, .inr (3, [.ref a_squad_facts, .int c_squad_size])), (a_squad_facts, .inl (cI, 30, .inl c_squad_facts))]) X (k_X1_valueInRow l D cI kA kV a_ a_squad a_changes a_values a_bests a_rowTenths a_hitValues a_missValues c_reboundTenths c_lawInForce c_drawTenths c_solvedRows c_rowTenths c_hitValues_34 c_missValues_34 v7_111 v9_150) (cwV 2 X.2.2.2.2.1 gX1_solveState_X1_valueInRow rfl rfl rfl (by decide +kernel) ⟨Nat.le_of_ble_eq_true rfl, Nat.le_of_ble_eq_true rfl⟩) 5 rfl rfl [5, 2, 3, 4] [0, 1, 6, 7, 8] rfl rfl rfl rfl (by decide) rfl (Nat.le_of_ble_eq_true rfl) ⟨Nat.le_of_ble_eq_true rfl, Nat.le_of_ble_eq_true rfl⟩ dX1_solveState_165 rfl (fun r165 u165 hw165 => ?_)
                    refine g_eqs (ws' := [(a_changes, .inl (cI, 6, .inl c_changes)), (a_bests, .inl (cI, 650, .inl c_bests)), (a_values, .inl (cI, 650, .inl c_values)), (a_squad, .inr (3, [.ref a_squad_facts, .int c_squad_size])), (a_squad_facts, .inl (cI, 30, .inl c_squad_facts)), (a_, .inr (1, [.ref a_squad, .ref a_changes, .int c_reboundTenths, .int c_lawInForce, .int c_drawTenths, .ref a_values, .ref a_bests, .int c_solvedRows, .ref a_rowTenths, .ref a_hitValues, .ref a_missValues])), (a_rowTenths, .inl (cI, 18, .inl c_rowTenths)), (a_hitValues, .inl (cI, 3, .inl c_hitValues_34)), (a_missValues, .inl (cI, 3, .inl c_missValues_34))]) rfl ?_
                    have heq := g_let heq hw165
                    refine g_istore (lv' := [(10, .int r165), (9, .int v9_150), (8, .int (0 : Int32)), (7, .int v7_111), (6, .int v6_150), (5, .int v5_150), (4, .int r3), (0, .ref a_), (1, .int p1), (2, .int p2), (3, .int p3)]) X (by decide) rfl dX1_solveState_168 ?_
                    refine g_iload_n X 10 rfl rfl dX1_solveState_170 ?_
                    refine g_if_ne X 184 dX1_solveState_171 (by decide) (fun c171 => ?_) (fun c171 => ?_)
                    · have heq := heq.trans (if_neg c171)
                      refine g_iload X 0 rfl dX1_solveState_184 ?_
                      refine g_iload X 5 rfl dX1_solveState_186 ?_
                      refine g_icmp_gt X 205 dX1_solveState_188 (by decide) (fun c188 => ?_) (fun c188 => ?_)
                      · have heq := heq.trans (if_pos c188)
                        refine g_iinc (v := v9_150 + (-1)) (lv' := [(9, .int (v9_150 + (-1))), (10, .int r165), (8, .int (0 : Int32)), (7, .int v7_111), (6, .int v6_150), (5, .int v5_150), (4, .int r3), (0, .ref a_), (1, .int p1), (2, .int p2), (3, .int p3)]) X 1 rfl (g_inm (by decide)) (by decide) rfl dX1_solveState_205 ?_
                        refine g_goto (tgt := 150) X (by decide) dX1_solveState_208 ?_
                        refine g_lpick (lv' := [(9, .int (v9_150 + (-1))), (8, .int (0 : Int32)), (7, .int v7_111), (6, .int v6_150), (5, .int v5_150), (4, .int r3), (0, .ref a_), (1, .int p1), (2, .int p2), (3, .int p3)]) [0, 2, 3, 4, 5, 6, 7, 8, 9, 10] rfl ?_
                        refine g_wsub (ws' := [(a_changes, .inl (cI, 6, .inl c_changes)), (a_bests, .inl (cI, 650, .inl c_bests)), (a_rowTenths, .inl (cI, 18, .inl c_rowTenths)), (a_hitValues, .inl (cI, 3, .inl c_hitValues_34)), (a_missValues, .inl (cI, 3, .inl c_missValues_34)), (a_, .inr (1, [.ref a_squad, .ref a_changes, .int c_reboundTenths, .int c_lawInForce, .int c_drawTenths, .ref a_values, .ref a_bests, .int c_solvedRows, .ref a_rowTenths, .ref a_hitValues, .ref a_missValues])), (a_values, .inl (cI, 650, .inl c_values)), (a_squad, .inr (3, [.ref a_squad_facts, .int c_squad_size])), (a_squad_facts, .inl (cI, 30, .inl c_squad_facts))]) [0, 1, 6, 7, 8, 5, 2, 3, 4] rfl rfl ?_
                        exact ih150 v5_150 v6_150 (v9_150 + (-1)) (g_dnm c152 hm150)  heq
                      · have heq := heq.trans (if_neg c188)
                        refine g_iload X 0 rfl dX1_solveState_191 ?_
                        refine g_istore (lv' := [(5, .int r165), (10, .int r165), (9, .int v9_150), (8, .int (0 : Int32)), (7, .int v7_111), (6, .int v6_150), (4, .int r3), (0, .ref a_), (1, .int p1), (2, .int p2), (3, .int p3)]) X (by decide) rfl dX1_solveState_193 ?_
                        refine g_iload X 4 rfl dX1_solveState_195 ?_
                        refine g_bipush (v := 10) X (by decide) dX1_solveState_197 ?_
                        refine g_imul X dX1_solveState_199 ?_
                        refine g_iload X 2 rfl dX1_solveState_200 ?_
                        refine g_iadd X dX1_solveState_202 ?_
                        refine g_istore (lv' := [(6, .int ((v7_111 * 10) + v9_150)), (5, .int r165), (10, .int r165), (9, .int v9_150), (8, .int (0 : Int32)), (7, .int v7_111), (4, .int r3), (0, .ref a_), (1, .int p1), (2, .int p2), (3, .int p3)]) X (by decide) rfl dX1_solveState_203 ?_
                        refine g_iinc (v := v9_150 + (-1)) (lv' := [(9, .int (v9_150 + (-1))), (6, .int ((v7_111 * 10) + v9_150)), (5, .int r165), (10, .int r165), (8, .int (0 : Int32)), (7, .int v7_111), (4, .int r3), (0, .ref a_), (1, .int p1), (2, .int p2), (3, .int p3)]) X 3 rfl (g_inm (by decide)) (by decide) rfl dX1_solveState_205 ?_
                        refine g_goto (tgt := 150) X (by decide) dX1_solveState_208 ?_
                        refine g_lpick (lv' := [(9, .int (v9_150 + (-1))), (8, .int (0 : Int32)), (7, .int v7_111), (6, .int ((v7_111 * 10) + v9_150)), (5, .int r165), (4, .int r3), (0, .ref a_), (1, .int p1), (2, .int p2), (3, .int p3)]) [0, 4, 5, 1, 2, 6, 7, 8, 9, 10] rfl ?_
                        refine g_wsub (ws' := [(a_changes, .inl (cI, 6, .inl c_changes)), (a_bests, .inl (cI, 650, .inl c_bests)), (a_rowTenths, .inl (cI, 18, .inl c_rowTenths)), (a_hitValues, .inl (cI, 3, .inl c_hitValues_34)), (a_missValues, .inl (cI, 3, .inl c_missValues_34)), (a_, .inr (1, [.ref a_squad, .ref a_changes, .int c_reboundTenths, .int c_lawInForce, .int c_drawTenths, .ref a_values, .ref a_bests, .int c_solvedRows, .ref a_rowTenths, .ref a_hitValues, .ref a_missValues])), (a_values, .inl (cI, 650, .inl c_values)), (a_squad, .inr (3, [.ref a_squad_facts, .int c_squad_size])), (a_squad_facts, .inl (cI, 30, .inl c_squad_facts))]) [0, 1, 6, 7, 8, 5, 2, 3, 4] rfl rfl ?_
                        exact ih150 r165 ((v7_111 * 10) + v9_150) (v9_150 + (-1)) (g_dnm c152 hm150)  heq
                    · have heq := heq.trans (if_pos c171)
                      refine g_iload X 0 rfl dX1_solveState_174 ?_
                      refine g_iload X 5 rfl dX1_solveState_176 ?_
                      refine g_icmp_lt X 205 dX1_solveState_178 (by decide) (fun c178 => ?_) (fun c178 => ?_)
                      · have heq := heq.trans (if_pos c178)
                        refine g_iinc (v := v9_150 + (-1)) (lv' := [(9, .int (v9_150 + (-1))), (10, .int r165), (8, .int (0 : Int32)), (7, .int v7_111), (6, .int v6_150), (5, .int v5_150), (4, .int r3), (0, .ref a_), (1, .int p1), (2, .int p2), (3, .int p3)]) X 1 rfl (g_inm (by decide)) (by decide) rfl dX1_solveState_205 ?_
                        refine g_goto (tgt := 150) X (by decide) dX1_solveState_208 ?_
                        refine g_lpick (lv' := [(9, .int (v9_150 + (-1))), (8, .int (0 : Int32)), (7, .int v7_111), (6, .int v6_150), (5, .int v5_150), (4, .int r3), (0, .ref a_), (1, .int p1), (2, .int p2), (3, .int p3)]) [0, 2, 3, 4, 5, 6, 7, 8, 9, 10] rfl ?_
                        refine g_wsub (ws' := [(a_changes, .inl (cI, 6, .inl c_changes)), (a_bests, .inl (cI, 650, .inl c_bests)), (a_rowTenths, .inl (cI, 18, .inl c_rowTenths)), (a_hitValues, .inl (cI, 3, .inl c_hitValues_34)), (a_missValues, .inl (cI, 3, .inl c_missValues_34)), (a_, .inr (1, [.ref a_squad, .ref a_changes, .int c_reboundTenths, .int c_lawInForce, .int c_drawTenths, .ref a_values, .ref a_bests, .int c_solvedRows, .ref a_rowTenths, .ref a_hitValues, .ref a_missValues])), (a_values, .inl (cI, 650, .inl c_values)), (a_squad, .inr (3, [.ref a_squad_facts, .int c_squad_size])), (a_squad_facts, .inl (cI, 30, .inl c_squad_facts))]) [0, 1, 6, 7, 8, 5, 2, 3, 4] rfl rfl ?_
                        exact ih150 v5_150 v6_150 (v9_150 + (-1)) (g_dnm c152 hm150)  heq
                      · have heq := heq.trans (if_neg c178)
                        refine g_goto (tgt := 191) X (by decide) dX1_solveState_181 ?_
                        refine g_iload X 0 rfl dX1_solveState_191 ?_
                        refine g_istore (lv' := [(5, .int r165), (10, .int r165), (9, .int v9_150), (8, .int (0 : Int32)), (7, .int v7_111), (6, .int v6_150), (4, .int r3), (0, .ref a_), (1, .int p1), (2, .int p2), (3, .int p3)]) X (by decide) rfl dX1_solveState_193 ?_
                        refine g_iload X 4 rfl dX1_solveState_195 ?_
                        refine g_bipush (v := 10) X (by decide) dX1_solveState_197 ?_
                        refine g_imul X dX1_solveState_199 ?_
                        refine g_iload X 2 rfl dX1_solveState_200 ?_
                        refine g_iadd X dX1_solveState_202 ?_
                        refine g_istore (lv' := [(6, .int ((v7_111 * 10) + v9_150)), (5, .int r165), (10, .int r165), (9, .int v9_150), (8, .int (0 : Int32)), (7, .int v7_111), (4, .int r3), (0, .ref a_), (1, .int p1), (2, .int p2), (3, .int p3)]) X (by decide) rfl dX1_solveState_203 ?_
                        refine g_iinc (v := v9_150 + (-1)) (lv' := [(9, .int (v9_150 + (-1))), (6, .int ((v7_111 * 10) + v9_150)), (5, .int r165), (10, .int r165), (8, .int (0 : Int32)), (7, .int v7_111), (4, .int r3), (0, .ref a_), (1, .int p1), (2, .int p2), (3, .int p3)]) X 3 rfl (g_inm (by decide)) (by decide) rfl dX1_solveState_205 ?_
                        refine g_goto (tgt := 150) X (by decide) dX1_solveState_208 ?_
                        refine g_lpick (lv' := [(9, .int (v9_150 + (-1))), (8, .int (0 : Int32)), (7, .int v7_111), (6, .int ((v7_111 * 10) + v9_150)), (5, .int r165), (4, .int r3), (0, .ref a_), (1, .int p1), (2, .int p2), (3, .int p3)]) [0, 4, 5, 1, 2, 6, 7, 8, 9, 10] rfl ?_
                        refine g_wsub (ws' := [(a_changes, .inl (cI, 6, .inl c_changes)), (a_bests, .inl (cI, 650, .inl c_bests)), (a_rowTenths, .inl (cI, 18, .inl c_rowTenths)), (a_hitValues, .inl (cI, 3, .inl c_hitValues_34)), (a_missValues, .inl (cI, 3, .inl c_missValues_34)), (a_, .inr (1, [.ref a_squad, .ref a_changes, .int c_reboundTenths, .int c_lawInForce, .int c_drawTenths, .ref a_values, .ref a_bests, .int c_solvedRows, .ref a_rowTenths, .ref a_hitValues, .ref a_missValues])), (a_values, .inl (cI, 650, .inl c_values)), (a_squad, .inr (3, [.ref a_squad_facts, .int c_squad_size])), (a_squad_facts, .inl (cI, 30, .inl c_squad_facts))]) [0, 1, 6, 7, 8, 5, 2, 3, 4] rfl rfl ?_
                        exact ih150 r165 ((v7_111 * 10) + v9_150) (v9_150 + (-1)) (g_dnm c152 hm150)  heq
            refine lp150 _ (fun v5_150 v6_150 v9_150 heq => ?_) _ v5_111 v6_111 2 (Nat.lt_succ_self _)  heq
            refine g_iinc (v := v7_111 + (-1)) (lv' := [(7, .int (v7_111 + (-1))), (9, .int v9_150), (8, .int 0), (6, .int v6_150), (5, .int v5_150), (4, .int r3), (0, .ref a_), (1, .int p1), (2, .int p2), (3, .int p3)]) X 2 rfl (g_inm (by decide)) (by decide) rfl dX1_solveState_211 ?_
            refine g_goto (tgt := 111) X (by decide) dX1_solveState_214 ?_
            refine g_lpick (lv' := [(7, .int (v7_111 + (-1))), (6, .int v6_150), (5, .int v5_150), (4, .int r3), (0, .ref a_), (1, .int p1), (2, .int p2), (3, .int p3)]) [0, 3, 4, 5, 6, 7, 8, 9] rfl ?_
            refine g_wsub (ws' := [(a_squad_facts, .inl (cI, 30, .inl c_squad_facts)), (a_changes, .inl (cI, 6, .inl c_changes)), (a_bests, .inl (cI, 650, .inl c_bests)), (a_rowTenths, .inl (cI, 18, .inl c_rowTenths)), (a_hitValues, .inl (cI, 3, .inl c_hitValues_34)), (a_missValues, .inl (cI, 3, .inl c_missValues_34)), (a_, .inr (1, [.ref a_squad, .ref a_changes, .int c_reboundTenths, .int c_lawInForce, .int c_drawTenths, .ref a_values, .ref a_bests, .int c_solvedRows, .ref a_rowTenths, .ref a_hitValues, .ref a_missValues])), (a_values, .inl (cI, 650, .inl c_values)), (a_squad, .inr (3, [.ref a_squad_facts, .int c_squad_size]))]) [8, 0, 1, 2, 3, 4, 5, 6, 7] rfl rfl ?_
            exact ih111 v5_150 v6_150 (v7_111 + (-1)) (g_dnm c113 hm111)  heq
          · have heq := heq.trans (if_pos c127)
            refine g_aload_n X 4 rfl rfl dX1_solveState_130 ?_
            refine g_iload X 0 rfl dX1_solveState_131 ?_
            refine g_callVi (C := RX1) (T := TX1) (N := 11) (ci := 1) (As := [.int v7_111]) (st := []) (wr := [(a_bests, .inl (cI, 650, .inl c_bests)), (a_rowTenths, .inl (cI, 18, .inl c_rowTenths)), (a_hitValues, .inl (cI, 3, .inl c_hitValues_34)), (a_missValues, .inl (cI, 3, .inl c_missValues_34)), (a_values, .inl (cI, 650, .inl c_values)), (a_squad, .inr (3, [.ref a_squad_facts, .int c_squad_size])), (a_squad_facts, .inl (cI, 30, .inl c_squad_facts))]) X (k_X1_changeOf l D cI kA kV a_ a_squad a_changes a_values a_bests a_rowTenths a_hitValues a_missValues c_reboundTenths c_lawInForce c_drawTenths c_solvedRows c_changes v7_111) (cwV 1 X.2.2.2.2.1 gX1_solveState_X1_changeOf rfl rfl rfl (by decide +kernel) ⟨Nat.le_of_ble_eq_true rfl, Nat.le_of_ble_eq_true rfl⟩) 5 rfl rfl [5, 0] [1, 2, 3, 4, 6, 7, 8] rfl rfl rfl rfl (by decide) rfl (Nat.le_of_ble_eq_true rfl) ⟨Nat.le_of_ble_eq_true rfl, Nat.le_of_ble_eq_true rfl⟩ dX1_solveState_133 rfl (fun r133 u133 hw133 => ?_)
            refine g_eqs (ws' := [(a_bests, .inl (cI, 650, .inl c_bests)), (a_rowTenths, .inl (cI, 18, .inl c_rowTenths)), (a_hitValues, .inl (cI, 3, .inl c_hitValues_34)), (a_missValues, .inl (cI, 3, .inl c_missValues_34)), (a_values, .inl (cI, 650, .inl c_values)), (a_squad, .inr (3, [.ref a_squad_facts, .int c_squad_size])), (a_squad_facts, .inl (cI, 30, .inl c_squad_facts)), (a_, .inr (1, [.ref a_squad, .ref a_changes, .int c_reboundTenths, .int c_lawInForce, .int c_drawTenths, .ref a_values, .ref a_bests, .int c_solvedRows, .ref a_rowTenths, .ref a_hitValues, .ref a_missValues])), (a_changes, .inl (cI, 6, .inl c_changes))]) rfl ?_
            have heq := g_let heq hw133
            refine g_iconst (v := 1) X (by decide) dX1_solveState_136 ?_
            refine g_icmp_eq X 144 dX1_solveState_137 (by decide) (fun c137 => ?_) (fun c137 => ?_)
            · have heq := heq.trans (if_pos c137)
              refine g_iconst (v := 0) X (by decide) dX1_solveState_144 ?_
              refine g_istore (lv' := [(8, .int 0), (7, .int v7_111), (6, .int v6_111), (5, .int v5_111), (4, .int r3), (0, .ref a_), (1, .int p1), (2, .int p2), (3, .int p3)]) X (by decide) rfl dX1_solveState_145 ?_
              refine g_iconst (v := 2) X (by decide) dX1_solveState_147 ?_
              refine g_istore (lv' := [(9, .int 2), (8, .int 0), (7, .int v7_111), (6, .int v6_111), (5, .int v5_111), (4, .int r3), (0, .ref a_), (1, .int p1), (2, .int p2), (3, .int p3)]) X (by decide) rfl dX1_solveState_148 ?_
              have lp150 : ∀ (K : (Int32) → (Int32) → (Int32) → (Nat → Int32) × (Nat → Int32) × (Nat → Int32) × (Nat → Int32)), (∀ (v5_150 : Int32) (v6_150 : Int32) (v9_150 : Int32), XX = K v5_150 v6_150 v9_150 → GG p l e { frames := 3, cells := 0, slots := 0, locals := 74 } s m args below meth c D AA 0 0 QQ 11 [(a_bests, .inl (cI, 650, .inl c_bests)), (a_rowTenths, .inl (cI, 18, .inl c_rowTenths)), (a_hitValues, .inl (cI, 3, .inl c_hitValues_34)), (a_missValues, .inl (cI, 3, .inl c_missValues_34)), (a_values, .inl (cI, 650, .inl c_values)), (a_squad, .inr (3, [.ref a_squad_facts, .int c_squad_size])), (a_squad_facts, .inl (cI, 30, .inl c_squad_facts)), (a_, .inr (1, [.ref a_squad, .ref a_changes, .int c_reboundTenths, .int c_lawInForce, .int c_drawTenths, .ref a_values, .ref a_bests, .int c_solvedRows, .ref a_rowTenths, .ref a_hitValues, .ref a_missValues])), (a_changes, .inl (cI, 6, .inl c_changes))] [(9, .int v9_150), (8, .int (0 : Int32)), (7, .int v7_111), (6, .int v6_150), (5, .int v5_150), (4, .int r3), (0, .ref a_), (1, .int p1), (2, .int p2), (3, .int p3)] 211 []) → ∀ (n : Nat) (v5_150 : Int32) (v6_150 : Int32) (v9_150 : Int32), ((v9_150 : Int32).toInt + 1).toNat < n → XX = L_X1_solveState_150 p1 p2 p3 r3 v7_111 0 c_reboundTenths c_lawInForce c_drawTenths c_squad_size c_squad_facts c_changes c_values c_bests c_rowTenths c_hitValues_34 c_missValues_34 K n v5_150 v6_150 v9_150 → GG p l e { frames := 3, cells := 0, slots := 0, locals := 74 } s m args below meth c D AA 0 0 QQ 11 [(a_bests, .inl (cI, 650, .inl c_bests)), (a_rowTenths, .inl (cI, 18, .inl c_rowTenths)), (a_hitValues, .inl (cI, 3, .inl c_hitValues_34)), (a_missValues, .inl (cI, 3, .inl c_missValues_34)), (a_values, .inl (cI, 650, .inl c_values)), (a_squad, .inr (3, [.ref a_squad_facts, .int c_squad_size])), (a_squad_facts, .inl (cI, 30, .inl c_squad_facts)), (a_, .inr (1, [.ref a_squad, .ref a_changes, .int c_reboundTenths, .int c_lawInForce, .int c_drawTenths, .ref a_values, .ref a_bests, .int c_solvedRows, .ref a_rowTenths, .ref a_hitValues, .ref a_missValues])), (a_changes, .inl (cI, 6, .inl c_changes))] [(9, .int v9_150), (8, .int (0 : Int32)), (7, .int v7_111), (6, .int v6_150), (5, .int v5_150), (4, .int r3), (0, .ref a_), (1, .int p1), (2, .int p2), (3, .int p3)] 150 [] := by
                intro K hK n
                induction n with
                | zero => intro v5_150 v6_150 v9_150 hm150; exact absurd hm150 (Nat.not_lt_zero _)
                | succ n ih150 =>
                  intro v5_150 v6_150 v9_150 hm150  heq
                  have heq := heq.trans (L_X1_solveState_150.eq_2 _ _ _ _ _ _ _ _ _ _ _ _ _ _ _ _ _ _ _ _ _ _ )
                  refine g_iload X 0 rfl dX1_solveState_150 ?_
                  refine g_if_lt X 211 dX1_solveState_152 (by decide) (fun c152 => ?_) (fun c152 => ?_)
                  · have heq := heq.trans (if_pos c152)
                    exact hK v5_150 v6_150 v9_150 heq
                  · have heq := heq.trans (if_neg c152)
                    refine g_iload X 1 rfl dX1_solveState_155 ?_
                    refine g_if_eq X 211 dX1_solveState_157 (by decide) (fun c157 => ?_) (fun c157 => ?_)
                    · have heq := heq.trans (if_pos c157)
                      exact hK v5_150 v6_150 v9_150 heq
                    · have heq := heq.trans (if_neg c157)
                      refine g_aload_n X 6 rfl rfl dX1_solveState_160 ?_
                      refine g_iload X 2 rfl dX1_solveState_161 ?_
                      refine g_iload X 0 rfl dX1_solveState_163 ?_
                      refine g_callVi (C := RX1) (T := TX1) (N := 11) (ci := 1) (As := [.int v7_111, .int v9_150]) (st := []) (wr := [(a_bests, .inl (cI, 650, .inl c_bests)), (a_values, .inl (cI, 650, .inl c_values)), (a_squad, .inr (3, [.ref a_squad_facts, .int c_squad_size])), (a_squad_facts, .inl (cI, 30, .inl c_squad_facts)), (a_changes, .inl (cI, 6, .inl c_changes))]) X (k_X1_valueInRow l D cI kA kV a_ a_squad a_changes a_values a_bests a_rowTenths a_hitValues a_missValues c_reboundTenths c_lawInForce c_drawTenths c_solvedRows c_rowTenths c_hitValues_34 c_missValues_34 v7_111 v9_150) (cwV 2 X.2.2.2.2.1 gX1_solveState_X1_valueInRow rfl rfl rfl (by decide +kernel) ⟨Nat.le_of_ble_eq_true rfl, Nat.le_of_ble_eq_true rfl⟩) 7 rfl rfl [7, 1, 2, 3] [0, 4, 5, 6, 8] rfl rfl rfl rfl (by decide) rfl (Nat.le_of_ble_eq_true rfl) ⟨Nat.le_of_ble_eq_true rfl, Nat.le_of_ble_eq_true rfl⟩ dX1_solveState_165 rfl (fun r165 u165 hw165 => ?_)
                      refine g_eqs (ws' := [(a_bests, .inl (cI, 650, .inl c_bests)), (a_values, .inl (cI, 650, .inl c_values)), (a_squad, .inr (3, [.ref a_squad_facts, .int c_squad_size])), (a_squad_facts, .inl (cI, 30, .inl c_squad_facts)), (a_changes, .inl (cI, 6, .inl c_changes)), (a_, .inr (1, [.ref a_squad, .ref a_changes, .int c_reboundTenths, .int c_lawInForce, .int c_drawTenths, .ref a_values, .ref a_bests, .int c_solvedRows, .ref a_rowTenths, .ref a_hitValues, .ref a_missValues])), (a_rowTenths, .inl (cI, 18, .inl c_rowTenths)), (a_hitValues, .inl (cI, 3, .inl c_hitValues_34)), (a_missValues, .inl (cI, 3, .inl c_missValues_34))]) rfl ?_
                      have heq := g_let heq hw165
                      refine g_istore (lv' := [(10, .int r165), (9, .int v9_150), (8, .int (0 : Int32)), (7, .int v7_111), (6, .int v6_150), (5, .int v5_150), (4, .int r3), (0, .ref a_), (1, .int p1), (2, .int p2), (3, .int p3)]) X (by decide) rfl dX1_solveState_168 ?_
                      refine g_iload_n X 10 rfl rfl dX1_solveState_170 ?_
                      refine g_if_ne X 184 dX1_solveState_171 (by decide) (fun c171 => ?_) (fun c171 => ?_)
                      · have heq := heq.trans (if_neg c171)
                        refine g_iload X 0 rfl dX1_solveState_184 ?_
                        refine g_iload X 5 rfl dX1_solveState_186 ?_
                        refine g_icmp_gt X 205 dX1_solveState_188 (by decide) (fun c188 => ?_) (fun c188 => ?_)
                        · have heq := heq.trans (if_pos c188)
                          refine g_iinc (v := v9_150 + (-1)) (lv' := [(9, .int (v9_150 + (-1))), (10, .int r165), (8, .int (0 : Int32)), (7, .int v7_111), (6, .int v6_150), (5, .int v5_150), (4, .int r3), (0, .ref a_), (1, .int p1), (2, .int p2), (3, .int p3)]) X 1 rfl (g_inm (by decide)) (by decide) rfl dX1_solveState_205 ?_
                          refine g_goto (tgt := 150) X (by decide) dX1_solveState_208 ?_
                          refine g_lpick (lv' := [(9, .int (v9_150 + (-1))), (8, .int (0 : Int32)), (7, .int v7_111), (6, .int v6_150), (5, .int v5_150), (4, .int r3), (0, .ref a_), (1, .int p1), (2, .int p2), (3, .int p3)]) [0, 2, 3, 4, 5, 6, 7, 8, 9, 10] rfl ?_
                          refine g_wsub (ws' := [(a_bests, .inl (cI, 650, .inl c_bests)), (a_rowTenths, .inl (cI, 18, .inl c_rowTenths)), (a_hitValues, .inl (cI, 3, .inl c_hitValues_34)), (a_missValues, .inl (cI, 3, .inl c_missValues_34)), (a_values, .inl (cI, 650, .inl c_values)), (a_squad, .inr (3, [.ref a_squad_facts, .int c_squad_size])), (a_squad_facts, .inl (cI, 30, .inl c_squad_facts)), (a_, .inr (1, [.ref a_squad, .ref a_changes, .int c_reboundTenths, .int c_lawInForce, .int c_drawTenths, .ref a_values, .ref a_bests, .int c_solvedRows, .ref a_rowTenths, .ref a_hitValues, .ref a_missValues])), (a_changes, .inl (cI, 6, .inl c_changes))]) [0, 6, 7, 8, 1, 2, 3, 5, 4] rfl rfl ?_
                          exact ih150 v5_150 v6_150 (v9_150 + (-1)) (g_dnm c152 hm150)  heq
                        · have heq := heq.trans (if_neg c188)
                          refine g_iload X 0 rfl dX1_solveState_191 ?_
                          refine g_istore (lv' := [(5, .int r165), (10, .int r165), (9, .int v9_150), (8, .int (0 : Int32)), (7, .int v7_111), (6, .int v6_150), (4, .int r3), (0, .ref a_), (1, .int p1), (2, .int p2), (3, .int p3)]) X (by decide) rfl dX1_solveState_193 ?_
                          refine g_iload X 4 rfl dX1_solveState_195 ?_
                          refine g_bipush (v := 10) X (by decide) dX1_solveState_197 ?_
                          refine g_imul X dX1_solveState_199 ?_
                          refine g_iload X 2 rfl dX1_solveState_200 ?_
                          refine g_iadd X dX1_solveState_202 ?_
                          refine g_istore (lv' := [(6, .int ((v7_111 * 10) + v9_150)), (5, .int r165), (10, .int r165), (9, .int v9_150), (8, .int (0 : Int32)), (7, .int v7_111), (4, .int r3), (0, .ref a_), (1, .int p1), (2, .int p2), (3, .int p3)]) X (by decide) rfl dX1_solveState_203 ?_
                          refine g_iinc (v := v9_150 + (-1)) (lv' := [(9, .int (v9_150 + (-1))), (6, .int ((v7_111 * 10) + v9_150)), (5, .int r165), (10, .int r165), (8, .int (0 : Int32)), (7, .int v7_111), (4, .int r3), (0, .ref a_), (1, .int p1), (2, .int p2), (3, .int p3)]) X 3 rfl (g_inm (by decide)) (by decide) rfl dX1_solveState_205 ?_
                          refine g_goto (tgt := 150) X (by decide) dX1_solveState_208 ?_
                          refine g_lpick (lv' := [(9, .int (v9_150 + (-1))), (8, .int (0 : Int32)), (7, .int v7_111), (6, .int ((v7_111 * 10) + v9_150)), (5, .int r165), (4, .int r3), (0, .ref a_), (1, .int p1), (2, .int p2), (3, .int p3)]) [0, 4, 5, 1, 2, 6, 7, 8, 9, 10] rfl ?_
                          refine g_wsub (ws' := [(a_bests, .inl (cI, 650, .inl c_bests)), (a_rowTenths, .inl (cI, 18, .inl c_rowTenths)), (a_hitValues, .inl (cI, 3, .inl c_hitValues_34)), (a_missValues, .inl (cI, 3, .inl c_missValues_34)), (a_values, .inl (cI, 650, .inl c_values)), (a_squad, .inr (3, [.ref a_squad_facts, .int c_squad_size])), (a_squad_facts, .inl (cI, 30, .inl c_squad_facts)), (a_, .inr (1, [.ref a_squad, .ref a_changes, .int c_reboundTenths, .int c_lawInForce, .int c_drawTenths, .ref a_values, .ref a_bests, .int c_solvedRows, .ref a_rowTenths, .ref a_hitValues, .ref a_missValues])), (a_changes, .inl (cI, 6, .inl c_changes))]) [0, 6, 7, 8, 1, 2, 3, 5, 4] rfl rfl ?_
                          exact ih150 r165 ((v7_111 * 10) + v9_150) (v9_150 + (-1)) (g_dnm c152 hm150)  heq
                      · have heq := heq.trans (if_pos c171)
                        refine g_iload X 0 rfl dX1_solveState_174 ?_
                        refine g_iload X 5 rfl dX1_solveState_176 ?_
                        refine g_icmp_lt X 205 dX1_solveState_178 (by decide) (fun c178 => ?_) (fun c178 => ?_)
                        · have heq := heq.trans (if_pos c178)
                          refine g_iinc (v := v9_150 + (-1)) (lv' := [(9, .int (v9_150 + (-1))), (10, .int r165), (8, .int (0 : Int32)), (7, .int v7_111), (6, .int v6_150), (5, .int v5_150), (4, .int r3), (0, .ref a_), (1, .int p1), (2, .int p2), (3, .int p3)]) X 1 rfl (g_inm (by decide)) (by decide) rfl dX1_solveState_205 ?_
                          refine g_goto (tgt := 150) X (by decide) dX1_solveState_208 ?_
                          refine g_lpick (lv' := [(9, .int (v9_150 + (-1))), (8, .int (0 : Int32)), (7, .int v7_111), (6, .int v6_150), (5, .int v5_150), (4, .int r3), (0, .ref a_), (1, .int p1), (2, .int p2), (3, .int p3)]) [0, 2, 3, 4, 5, 6, 7, 8, 9, 10] rfl ?_
                          refine g_wsub (ws' := [(a_bests, .inl (cI, 650, .inl c_bests)), (a_rowTenths, .inl (cI, 18, .inl c_rowTenths)), (a_hitValues, .inl (cI, 3, .inl c_hitValues_34)), (a_missValues, .inl (cI, 3, .inl c_missValues_34)), (a_values, .inl (cI, 650, .inl c_values)), (a_squad, .inr (3, [.ref a_squad_facts, .int c_squad_size])), (a_squad_facts, .inl (cI, 30, .inl c_squad_facts)), (a_, .inr (1, [.ref a_squad, .ref a_changes, .int c_reboundTenths, .int c_lawInForce, .int c_drawTenths, .ref a_values, .ref a_bests, .int c_solvedRows, .ref a_rowTenths, .ref a_hitValues, .ref a_missValues])), (a_changes, .inl (cI, 6, .inl c_changes))]) [0, 6, 7, 8, 1, 2, 3, 5, 4] rfl rfl ?_
                          exact ih150 v5_150 v6_150 (v9_150 + (-1)) (g_dnm c152 hm150)  heq
                        · have heq := heq.trans (if_neg c178)
                          refine g_goto (tgt := 191) X (by decide) dX1_solveState_181 ?_
                          refine g_iload X 0 rfl dX1_solveState_191 ?_
                          refine g_istore (lv' := [(5, .int r165), (10, .int r165), (9, .int v9_150), (8, .int (0 : Int32)), (7, .int v7_111), (6, .int v6_150), (4, .int r3), (0, .ref a_), (1, .int p1), (2, .int p2), (3, .int p3)]) X (by decide) rfl dX1_solveState_193 ?_
                          refine g_iload X 4 rfl dX1_solveState_195 ?_
                          refine g_bipush (v := 10) X (by decide) dX1_solveState_197 ?_
                          refine g_imul X dX1_solveState_199 ?_
                          refine g_iload X 2 rfl dX1_solveState_200 ?_
                          refine g_iadd X dX1_solveState_202 ?_
                          refine g_istore (lv' := [(6, .int ((v7_111 * 10) + v9_150)), (5, .int r165), (10, .int r165), (9, .int v9_150), (8, .int (0 : Int32)), (7, .int v7_111), (4, .int r3), (0, .ref a_), (1, .int p1), (2, .int p2), (3, .int p3)]) X (by decide) rfl dX1_solveState_203 ?_
                          refine g_iinc (v := v9_150 + (-1)) (lv' := [(9, .int (v9_150 + (-1))), (6, .int ((v7_111 * 10) + v9_150)), (5, .int r165), (10, .int r165), (8, .int (0 : Int32)), (7, .int v7_111), (4, .int r3), (0, .ref a_), (1, .int p1), (2, .int p2), (3, .int p3)]) X 3 rfl (g_inm (by decide)) (by decide) rfl dX1_solveState_205 ?_
                          refine g_goto (tgt := 150) X (by decide) dX1_solveState_208 ?_
                          refine g_lpick (lv' := [(9, .int (v9_150 + (-1))), (8, .int (0 : Int32)), (7, .int v7_111), (6, .int ((v7_111 * 10) + v9_150)), (5, .int r165), (4, .int r3), (0, .ref a_), (1, .int p1), (2, .int p2), (3, .int p3)]) [0, 4, 5, 1, 2, 6, 7, 8, 9, 10] rfl ?_
                          refine g_wsub (ws' := [(a_bests, .inl (cI, 650, .inl c_bests)), (a_rowTenths, .inl (cI, 18, .inl c_rowTenths)), (a_hitValues, .inl (cI, 3, .inl c_hitValues_34)), (a_missValues, .inl (cI, 3, .inl c_missValues_34)), (a_values, .inl (cI, 650, .inl c_values)), (a_squad, .inr (3, [.ref a_squad_facts, .int c_squad_size])), (a_squad_facts, .inl (cI, 30, .inl c_squad_facts)), (a_, .inr (1, [.ref a_squad, .ref a_changes, .int c_reboundTenths, .int c_lawInForce, .int c_drawTenths, .ref a_values, .ref a_bests, .int c_solvedRows, .ref a_rowTenths, .ref a_hitValues, .ref a_missValues])), (a_changes, .inl (cI, 6, .inl c_changes))]) [0, 6, 7, 8, 1, 2, 3, 5, 4] rfl rfl ?_
                          exact ih150 r165 ((v7_111 * 10) + v9_150) (v9_150 + (-1)) (g_dnm c152 hm150)  heq
              refine lp150 _ (fun v5_150 v6_150 v9_150 heq => ?_) _ v5_111 v6_111 2 (Nat.lt_succ_self _)  heq
              refine g_iinc (v := v7_111 + (-1)) (lv' := [(7, .int (v7_111 + (-1))), (9, .int v9_150), (8, .int 0), (6, .int v6_150), (5, .int v5_150), (4, .int r3), (0, .ref a_), (1, .int p1), (2, .int p2), (3, .int p3)]) X 2 rfl (g_inm (by decide)) (by decide) rfl dX1_solveState_211 ?_
              refine g_goto (tgt := 111) X (by decide) dX1_solveState_214 ?_
              refine g_lpick (lv' := [(7, .int (v7_111 + (-1))), (6, .int v6_150), (5, .int v5_150), (4, .int r3), (0, .ref a_), (1, .int p1), (2, .int p2), (3, .int p3)]) [0, 3, 4, 5, 6, 7, 8, 9] rfl ?_
              refine g_wsub (ws' := [(a_squad_facts, .inl (cI, 30, .inl c_squad_facts)), (a_changes, .inl (cI, 6, .inl c_changes)), (a_bests, .inl (cI, 650, .inl c_bests)), (a_rowTenths, .inl (cI, 18, .inl c_rowTenths)), (a_hitValues, .inl (cI, 3, .inl c_hitValues_34)), (a_missValues, .inl (cI, 3, .inl c_missValues_34)), (a_, .inr (1, [.ref a_squad, .ref a_changes, .int c_reboundTenths, .int c_lawInForce, .int c_drawTenths, .ref a_values, .ref a_bests, .int c_solvedRows, .ref a_rowTenths, .ref a_hitValues, .ref a_missValues])), (a_values, .inl (cI, 650, .inl c_values)), (a_squad, .inr (3, [.ref a_squad_facts, .int c_squad_size]))]) [6, 8, 0, 1, 2, 3, 7, 4, 5] rfl rfl ?_
              exact ih111 v5_150 v6_150 (v7_111 + (-1)) (g_dnm c113 hm111)  heq
            · have heq := heq.trans (if_neg c137)
              refine g_iconst (v := 1) X (by decide) dX1_solveState_140 ?_
              refine g_goto (tgt := 145) X (by decide) dX1_solveState_141 ?_
              refine g_istore (lv' := [(8, .int 1), (7, .int v7_111), (6, .int v6_111), (5, .int v5_111), (4, .int r3), (0, .ref a_), (1, .int p1), (2, .int p2), (3, .int p3)]) X (by decide) rfl dX1_solveState_145 ?_
              refine g_iconst (v := 2) X (by decide) dX1_solveState_147 ?_
              refine g_istore (lv' := [(9, .int 2), (8, .int 1), (7, .int v7_111), (6, .int v6_111), (5, .int v5_111), (4, .int r3), (0, .ref a_), (1, .int p1), (2, .int p2), (3, .int p3)]) X (by decide) rfl dX1_solveState_148 ?_
              have lp150 : ∀ (K : (Int32) → (Int32) → (Int32) → (Nat → Int32) × (Nat → Int32) × (Nat → Int32) × (Nat → Int32)), (∀ (v5_150 : Int32) (v6_150 : Int32) (v9_150 : Int32), XX = K v5_150 v6_150 v9_150 → GG p l e { frames := 3, cells := 0, slots := 0, locals := 74 } s m args below meth c D AA 0 0 QQ 11 [(a_bests, .inl (cI, 650, .inl c_bests)), (a_rowTenths, .inl (cI, 18, .inl c_rowTenths)), (a_hitValues, .inl (cI, 3, .inl c_hitValues_34)), (a_missValues, .inl (cI, 3, .inl c_missValues_34)), (a_values, .inl (cI, 650, .inl c_values)), (a_squad, .inr (3, [.ref a_squad_facts, .int c_squad_size])), (a_squad_facts, .inl (cI, 30, .inl c_squad_facts)), (a_, .inr (1, [.ref a_squad, .ref a_changes, .int c_reboundTenths, .int c_lawInForce, .int c_drawTenths, .ref a_values, .ref a_bests, .int c_solvedRows, .ref a_rowTenths, .ref a_hitValues, .ref a_missValues])), (a_changes, .inl (cI, 6, .inl c_changes))] [(9, .int v9_150), (8, .int (1 : Int32)), (7, .int v7_111), (6, .int v6_150), (5, .int v5_150), (4, .int r3), (0, .ref a_), (1, .int p1), (2, .int p2), (3, .int p3)] 211 []) → ∀ (n : Nat) (v5_150 : Int32) (v6_150 : Int32) (v9_150 : Int32), ((v9_150 : Int32).toInt + 1).toNat < n → XX = L_X1_solveState_150 p1 p2 p3 r3 v7_111 1 c_reboundTenths c_lawInForce c_drawTenths c_squad_size c_squad_facts c_changes c_values c_bests c_rowTenths c_hitValues_34 c_missValues_34 K n v5_150 v6_150 v9_150 → GG p l e { frames := 3, cells := 0, slots := 0, locals := 74 } s m args below meth c D AA 0 0 QQ 11 [(a_bests, .inl (cI, 650, .inl c_bests)), (a_rowTenths, .inl (cI, 18, .inl c_rowTenths)), (a_hitValues, .inl (cI, 3, .inl c_hitValues_34)), (a_missValues, .inl (cI, 3, .inl c_missValues_34)), (a_values, .inl (cI, 650, .inl c_values)), (a_squad, .inr (3, [.ref a_squad_facts, .int c_squad_size])), (a_squad_facts, .inl (cI, 30, .inl c_squad_facts)), (a_, .inr (1, [.ref a_squad, .ref a_changes, .int c_reboundTenths, .int c_lawInForce, .int c_drawTenths, .ref a_values, .ref a_bests, .int c_solvedRows, .ref a_rowTenths, .ref a_hitValues, .ref a_missValues])), (a_changes, .inl (cI, 6, .inl c_changes))] [(9, .int v9_150), (8, .int (1 : Int32)), (7, .int v7_111), (6, .int v6_150), (5, .int v5_150), (4, .int r3), (0, .ref a_), (1, .int p1), (2, .int p2), (3, .int p3)] 150 [] := by
                intro K hK n
                induction n with
                | zero => intro v5_150 v6_150 v9_150 hm150; exact absurd hm150 (Nat.not_lt_zero _)
                | succ n ih150 =>
                  intro v5_150 v6_150 v9_150 hm150  heq
                  have heq := heq.trans (L_X1_solveState_150.eq_2 _ _ _ _ _ _ _ _ _ _ _ _ _ _ _ _ _ _ _ _ _ _ )
                  refine g_iload X 0 rfl dX1_solveState_150 ?_
                  refine g_if_lt X 211 dX1_solveState_152 (by decide) (fun c152 => ?_) (fun c152 => ?_)
                  · have heq := heq.trans (if_pos c152)
                    exact hK v5_150 v6_150 v9_150 heq
                  · have heq := heq.trans (if_neg c152)
                    refine g_iload X 1 rfl dX1_solveState_155 ?_
                    refine g_if_eq X 211 dX1_solveState_157 (by decide) (fun c157 => ?_) (fun c157 => ?_)
                    · have heq := heq.trans (if_pos c157)
                      exact hK v5_150 v6_150 v9_150 heq
                    · have heq := heq.trans (if_neg c157)
                      refine g_aload_n X 6 rfl rfl dX1_solveState_160 ?_
                      refine g_iload X 2 rfl dX1_solveState_161 ?_
                      refine g_iload X 0 rfl dX1_solveState_163 ?_
                      refine g_callVi (C := RX1) (T := TX1) (N := 11) (ci := 1) (As := [.int v7_111, .int v9_150]) (st := []) (wr := [(a_bests, .inl (cI, 650, .inl c_bests)), (a_values, .inl (cI, 650, .inl c_values)), (a_squad, .inr (3, [.ref a_squad_facts, .int c_squad_size])), (a_squad_facts, .inl (cI, 30, .inl c_squad_facts)), (a_changes, .inl (cI, 6, .inl c_changes))]) X (k_X1_valueInRow l D cI kA kV a_ a_squad a_changes a_values a_bests a_rowTenths a_hitValues a_missValues c_reboundTenths c_lawInForce c_drawTenths c_solvedRows c_rowTenths c_hitValues_34 c_missValues_34 v7_111 v9_150) (cwV 2 X.2.2.2.2.1 gX1_solveState_X1_valueInRow rfl rfl rfl (by decide +kernel) ⟨Nat.le_of_ble_eq_true rfl, Nat.le_of_ble_eq_true rfl⟩) 7 rfl rfl [7, 1, 2, 3] [0, 4, 5, 6, 8] rfl rfl rfl rfl (by decide) rfl (Nat.le_of_ble_eq_true rfl) ⟨Nat.le_of_ble_eq_true rfl, Nat.le_of_ble_eq_true rfl⟩ dX1_solveState_165 rfl (fun r165 u165 hw165 => ?_)
                      refine g_eqs (ws' := [(a_bests, .inl (cI, 650, .inl c_bests)), (a_values, .inl (cI, 650, .inl c_values)), (a_squad, .inr (3, [.ref a_squad_facts, .int c_squad_size])), (a_squad_facts, .inl (cI, 30, .inl c_squad_facts)), (a_changes, .inl (cI, 6, .inl c_changes)), (a_, .inr (1, [.ref a_squad, .ref a_changes, .int c_reboundTenths, .int c_lawInForce, .int c_drawTenths, .ref a_values, .ref a_bests, .int c_solvedRows, .ref a_rowTenths, .ref a_hitValues, .ref a_missValues])), (a_rowTenths, .inl (cI, 18, .inl c_rowTenths)), (a_hitValues, .inl (cI, 3, .inl c_hitValues_34)), (a_missValues, .inl (cI, 3, .inl c_missValues_34))]) rfl ?_
                      have heq := g_let heq hw165
                      refine g_istore (lv' := [(10, .int r165), (9, .int v9_150), (8, .int (1 : Int32)), (7, .int v7_111), (6, .int v6_150), (5, .int v5_150), (4, .int r3), (0, .ref a_), (1, .int p1), (2, .int p2), (3, .int p3)]) X (by decide) rfl dX1_solveState_168 ?_
                      refine g_iload_n X 10 rfl rfl dX1_solveState_170 ?_
                      refine g_if_ne X 184 dX1_solveState_171 (by decide) (fun c171 => ?_) (fun c171 => ?_)
                      · have heq := heq.trans (if_neg c171)
                        refine g_iload X 0 rfl dX1_solveState_184 ?_
                        refine g_iload X 5 rfl dX1_solveState_186 ?_
                        refine g_icmp_gt X 205 dX1_solveState_188 (by decide) (fun c188 => ?_) (fun c188 => ?_)
                        · have heq := heq.trans (if_pos c188)
                          refine g_iinc (v := v9_150 + (-1)) (lv' := [(9, .int (v9_150 + (-1))), (10, .int r165), (8, .int (1 : Int32)), (7, .int v7_111), (6, .int v6_150), (5, .int v5_150), (4, .int r3), (0, .ref a_), (1, .int p1), (2, .int p2), (3, .int p3)]) X 1 rfl (g_inm (by decide)) (by decide) rfl dX1_solveState_205 ?_
                          refine g_goto (tgt := 150) X (by decide) dX1_solveState_208 ?_
                          refine g_lpick (lv' := [(9, .int (v9_150 + (-1))), (8, .int (1 : Int32)), (7, .int v7_111), (6, .int v6_150), (5, .int v5_150), (4, .int r3), (0, .ref a_), (1, .int p1), (2, .int p2), (3, .int p3)]) [0, 2, 3, 4, 5, 6, 7, 8, 9, 10] rfl ?_
                          refine g_wsub (ws' := [(a_bests, .inl (cI, 650, .inl c_bests)), (a_rowTenths, .inl (cI, 18, .inl c_rowTenths)), (a_hitValues, .inl (cI, 3, .inl c_hitValues_34)), (a_missValues, .inl (cI, 3, .inl c_missValues_34)), (a_values, .inl (cI, 650, .inl c_values)), (a_squad, .inr (3, [.ref a_squad_facts, .int c_squad_size])), (a_squad_facts, .inl (cI, 30, .inl c_squad_facts)), (a_, .inr (1, [.ref a_squad, .ref a_changes, .int c_reboundTenths, .int c_lawInForce, .int c_drawTenths, .ref a_values, .ref a_bests, .int c_solvedRows, .ref a_rowTenths, .ref a_hitValues, .ref a_missValues])), (a_changes, .inl (cI, 6, .inl c_changes))]) [0, 6, 7, 8, 1, 2, 3, 5, 4] rfl rfl ?_
                          exact ih150 v5_150 v6_150 (v9_150 + (-1)) (g_dnm c152 hm150)  heq
                        · have heq := heq.trans (if_neg c188)
                          refine g_iload X 0 rfl dX1_solveState_191 ?_
                          refine g_istore (lv' := [(5, .int r165), (10, .int r165), (9, .int v9_150), (8, .int (1 : Int32)), (7, .int v7_111), (6, .int v6_150), (4, .int r3), (0, .ref a_), (1, .int p1), (2, .int p2), (3, .int p3)]) X (by decide) rfl dX1_solveState_193 ?_
                          refine g_iload X 4 rfl dX1_solveState_195 ?_
                          refine g_bipush (v := 10) X (by decide) dX1_solveState_197 ?_
                          refine g_imul X dX1_solveState_199 ?_
                          refine g_iload X 2 rfl dX1_solveState_200 ?_
                          refine g_iadd X dX1_solveState_202 ?_
                          refine g_istore (lv' := [(6, .int ((v7_111 * 10) + v9_150)), (5, .int r165), (10, .int r165), (9, .int v9_150), (8, .int (1 : Int32)), (7, .int v7_111), (4, .int r3), (0, .ref a_), (1, .int p1), (2, .int p2), (3, .int p3)]) X (by decide) rfl dX1_solveState_203 ?_
                          refine g_iinc (v := v9_150 + (-1)) (lv' := [(9, .int (v9_150 + (-1))), (6, .int ((v7_111 * 10) + v9_150)), (5, .int r165), (10, .int r165), (8, .int (1 : Int32)), (7, .int v7_111), (4, .int r3), (0, .ref a_), (1, .int p1), (2, .int p2), (3, .int p3)]) X 3 rfl (g_inm (by decide)) (by decide) rfl dX1_solveState_205 ?_
                          refine g_goto (tgt := 150) X (by decide) dX1_solveState_208 ?_
                          refine g_lpick (lv' := [(9, .int (v9_150 + (-1))), (8, .int (1 : Int32)), (7, .int v7_111), (6, .int ((v7_111 * 10) + v9_150)), (5, .int r165), (4, .int r3), (0, .ref a_), (1, .int p1), (2, .int p2), (3, .int p3)]) [0, 4, 5, 1, 2, 6, 7, 8, 9, 10] rfl ?_
                          refine g_wsub (ws' := [(a_bests, .inl (cI, 650, .inl c_bests)), (a_rowTenths, .inl (cI, 18, .inl c_rowTenths)), (a_hitValues, .inl (cI, 3, .inl c_hitValues_34)), (a_missValues, .inl (cI, 3, .inl c_missValues_34)), (a_values, .inl (cI, 650, .inl c_values)), (a_squad, .inr (3, [.ref a_squad_facts, .int c_squad_size])), (a_squad_facts, .inl (cI, 30, .inl c_squad_facts)), (a_, .inr (1, [.ref a_squad, .ref a_changes, .int c_reboundTenths, .int c_lawInForce, .int c_drawTenths, .ref a_values, .ref a_bests, .int c_solvedRows, .ref a_rowTenths, .ref a_hitValues, .ref a_missValues])), (a_changes, .inl (cI, 6, .inl c_changes))]) [0, 6, 7, 8, 1, 2, 3, 5, 4] rfl rfl ?_
                          exact ih150 r165 ((v7_111 * 10) + v9_150) (v9_150 + (-1)) (g_dnm c152 hm150)  heq
                      · have heq := heq.trans (if_pos c171)
                        refine g_iload X 0 rfl dX1_solveState_174 ?_
                        refine g_iload X 5 rfl dX1_solveState_176 ?_
                        refine g_icmp_lt X 205 dX1_solveState_178 (by decide) (fun c178 => ?_) (fun c178 => ?_)
                        · have heq := heq.trans (if_pos c178)
                          refine g_iinc (v := v9_150 + (-1)) (lv' := [(9, .int (v9_150 + (-1))), (10, .int r165), (8, .int (1 : Int32)), (7, .int v7_111), (6, .int v6_150), (5, .int v5_150), (4, .int r3), (0, .ref a_), (1, .int p1), (2, .int p2), (3, .int p3)]) X 1 rfl (g_inm (by decide)) (by decide) rfl dX1_solveState_205 ?_
                          refine g_goto (tgt := 150) X (by decide) dX1_solveState_208 ?_
                          refine g_lpick (lv' := [(9, .int (v9_150 + (-1))), (8, .int (1 : Int32)), (7, .int v7_111), (6, .int v6_150), (5, .int v5_150), (4, .int r3), (0, .ref a_), (1, .int p1), (2, .int p2), (3, .int p3)]) [0, 2, 3, 4, 5, 6, 7, 8, 9, 10] rfl ?_
                          refine g_wsub (ws' := [(a_bests, .inl (cI, 650, .inl c_bests)), (a_rowTenths, .inl (cI, 18, .inl c_rowTenths)), (a_hitValues, .inl (cI, 3, .inl c_hitValues_34)), (a_missValues, .inl (cI, 3, .inl c_missValues_34)), (a_values, .inl (cI, 650, .inl c_values)), (a_squad, .inr (3, [.ref a_squad_facts, .int c_squad_size])), (a_squad_facts, .inl (cI, 30, .inl c_squad_facts)), (a_, .inr (1, [.ref a_squad, .ref a_changes, .int c_reboundTenths, .int c_lawInForce, .int c_drawTenths, .ref a_values, .ref a_bests, .int c_solvedRows, .ref a_rowTenths, .ref a_hitValues, .ref a_missValues])), (a_changes, .inl (cI, 6, .inl c_changes))]) [0, 6, 7, 8, 1, 2, 3, 5, 4] rfl rfl ?_
                          exact ih150 v5_150 v6_150 (v9_150 + (-1)) (g_dnm c152 hm150)  heq
                        · have heq := heq.trans (if_neg c178)
                          refine g_goto (tgt := 191) X (by decide) dX1_solveState_181 ?_
                          refine g_iload X 0 rfl dX1_solveState_191 ?_
                          refine g_istore (lv' := [(5, .int r165), (10, .int r165), (9, .int v9_150), (8, .int (1 : Int32)), (7, .int v7_111), (6, .int v6_150), (4, .int r3), (0, .ref a_), (1, .int p1), (2, .int p2), (3, .int p3)]) X (by decide) rfl dX1_solveState_193 ?_
                          refine g_iload X 4 rfl dX1_solveState_195 ?_
                          refine g_bipush (v := 10) X (by decide) dX1_solveState_197 ?_
                          refine g_imul X dX1_solveState_199 ?_
                          refine g_iload X 2 rfl dX1_solveState_200 ?_
                          refine g_iadd X dX1_solveState_202 ?_
                          refine g_istore (lv' := [(6, .int ((v7_111 * 10) + v9_150)), (5, .int r165), (10, .int r165), (9, .int v9_150), (8, .int (1 : Int32)), (7, .int v7_111), (4, .int r3), (0, .ref a_), (1, .int p1), (2, .int p2), (3, .int p3)]) X (by decide) rfl dX1_solveState_203 ?_
                          refine g_iinc (v := v9_150 + (-1)) (lv' := [(9, .int (v9_150 + (-1))), (6, .int ((v7_111 * 10) + v9_150)), (5, .int r165), (10, .int r165), (8, .int (1 : Int32)), (7, .int v7_111), (4, .int r3), (0, .ref a_), (1, .int p1), (2, .int p2), (3, .int p3)]) X 3 rfl (g_inm (by decide)) (by decide) rfl dX1_solveState_205 ?_
                          refine g_goto (tgt := 150) X (by decide) dX1_solveState_208 ?_
                          refine g_lpick (lv' := [(9, .int (v9_150 + (-1))), (8, .int (1 : Int32)), (7, .int v7_111), (6, .int ((v7_111 * 10) + v9_150)), (5, .int r165), (4, .int r3), (0, .ref a_), (1, .int p1), (2, .int p2), (3, .int p3)]) [0, 4, 5, 1, 2, 6, 7, 8, 9, 10] rfl ?_
                          refine g_wsub (ws' := [(a_bests, .inl (cI, 650, .inl c_bests)), (a_rowTenths, .inl (cI, 18, .inl c_rowTenths)), (a_hitValues, .inl (cI, 3, .inl c_hitValues_34)), (a_missValues, .inl (cI, 3, .inl c_missValues_34)), (a_values, .inl (cI, 650, .inl c_values)), (a_squad, .inr (3, [.ref a_squad_facts, .int c_squad_size])), (a_squad_facts, .inl (cI, 30, .inl c_squad_facts)), (a_, .inr (1, [.ref a_squad, .ref a_changes, .int c_reboundTenths, .int c_lawInForce, .int c_drawTenths, .ref a_values, .ref a_bests, .int c_solvedRows, .ref a_rowTenths, .ref a_hitValues, .ref a_missValues])), (a_changes, .inl (cI, 6, .inl c_changes))]) [0, 6, 7, 8, 1, 2, 3, 5, 4] rfl rfl ?_
                          exact ih150 r165 ((v7_111 * 10) + v9_150) (v9_150 + (-1)) (g_dnm c152 hm150)  heq
              refine lp150 _ (fun v5_150 v6_150 v9_150 heq => ?_) _ v5_111 v6_111 2 (Nat.lt_succ_self _)  heq
              refine g_iinc (v := v7_111 + (-1)) (lv' := [(7, .int (v7_111 + (-1))), (9, .int v9_150), (8, .int 1), (6, .int v6_150), (5, .int v5_150), (4, .int r3), (0, .ref a_), (1, .int p1), (2, .int p2), (3, .int p3)]) X 2 rfl (g_inm (by decide)) (by decide) rfl dX1_solveState_211 ?_
              refine g_goto (tgt := 111) X (by decide) dX1_solveState_214 ?_
              refine g_lpick (lv' := [(7, .int (v7_111 + (-1))), (6, .int v6_150), (5, .int v5_150), (4, .int r3), (0, .ref a_), (1, .int p1), (2, .int p2), (3, .int p3)]) [0, 3, 4, 5, 6, 7, 8, 9] rfl ?_
              refine g_wsub (ws' := [(a_squad_facts, .inl (cI, 30, .inl c_squad_facts)), (a_changes, .inl (cI, 6, .inl c_changes)), (a_bests, .inl (cI, 650, .inl c_bests)), (a_rowTenths, .inl (cI, 18, .inl c_rowTenths)), (a_hitValues, .inl (cI, 3, .inl c_hitValues_34)), (a_missValues, .inl (cI, 3, .inl c_missValues_34)), (a_, .inr (1, [.ref a_squad, .ref a_changes, .int c_reboundTenths, .int c_lawInForce, .int c_drawTenths, .ref a_values, .ref a_bests, .int c_solvedRows, .ref a_rowTenths, .ref a_hitValues, .ref a_missValues])), (a_values, .inl (cI, 650, .inl c_values)), (a_squad, .inr (3, [.ref a_squad_facts, .int c_squad_size]))]) [6, 8, 0, 1, 2, 3, 7, 4, 5] rfl rfl ?_
              exact ih111 v5_150 v6_150 (v7_111 + (-1)) (g_dnm c113 hm111)  heq
    refine lp111 _ (fun v5_111 v6_111 v7_111 heq => ?_) _ r91 93 (c_squad_size - 1) (Nat.lt_succ_self _)  heq
    refine g_aload_n X 4 rfl rfl dX1_solveState_217 ?_
    refine g_iload X 3 rfl dX1_solveState_218 ?_
    refine g_iload X 2 rfl dX1_solveState_220 ?_
    refine g_iload X 1 rfl dX1_solveState_222 ?_
    refine g_callVv (C := RX1) (T := TX1) (N := 11) (ci := 1) (As := [.int r3, .int v5_111, .int v6_111]) (st := []) (wr := [(a_squad_facts, .inl (cI, 30, .inl c_squad_facts)), (a_changes, .inl (cI, 6, .inl c_changes)), (a_rowTenths, .inl (cI, 18, .inl c_rowTenths)), (a_hitValues, .inl (cI, 3, .inl c_hitValues_34)), (a_missValues, .inl (cI, 3, .inl c_missValues_34)), (a_squad, .inr (3, [.ref a_squad_facts, .int c_squad_size]))]) X (k_X1_put l D cI kA kV a_ a_squad a_changes a_values a_bests a_rowTenths a_hitValues a_missValues c_reboundTenths c_lawInForce c_drawTenths c_solvedRows c_values c_bests r3 v5_111 v6_111) (cwV 3 X.2.2.2.2.1 gX1_solveState_X1_put rfl rfl rfl (by decide +kernel) ⟨Nat.le_of_ble_eq_true rfl, Nat.le_of_ble_eq_true rfl⟩) 6 rfl rfl [6, 7, 2] [0, 1, 3, 4, 5, 8] rfl rfl rfl rfl (by decide) rfl (Nat.le_of_ble_eq_true rfl) ⟨Nat.le_of_ble_eq_true rfl, Nat.le_of_ble_eq_true rfl⟩ dX1_solveState_224 rfl (fun u224 hw224 => ?_)
    refine g_eqs (ws' := [(a_squad_facts, .inl (cI, 30, .inl c_squad_facts)), (a_changes, .inl (cI, 6, .inl c_changes)), (a_rowTenths, .inl (cI, 18, .inl c_rowTenths)), (a_hitValues, .inl (cI, 3, .inl c_hitValues_34)), (a_missValues, .inl (cI, 3, .inl c_missValues_34)), (a_squad, .inr (3, [.ref a_squad_facts, .int c_squad_size])), (a_, .inr (1, [.ref a_squad, .ref a_changes, .int c_reboundTenths, .int c_lawInForce, .int c_drawTenths, .ref a_values, .ref a_bests, .int c_solvedRows, .ref a_rowTenths, .ref a_hitValues, .ref a_missValues])), (a_values, .inl (cI, 650, .inl u224.1)), (a_bests, .inl (cI, 650, .inl u224.2))]) rfl ?_
    have heq := g_let heq hw224
    exact g_vret X hAA hQQ (u224.1, u224.2, c_hitValues_34, c_missValues_34) (heq.symm.trans hXX) [6, 5, 0, 1, 7, 8, 2, 3, 4] rfl rfl hr dX1_solveState_227
  · have heq := heq.trans (if_neg c14)
    refine g_aload_n X 1 rfl rfl dX1_solveState_17 ?_
    refine g_iload X 0 rfl dX1_solveState_18 ?_
    refine g_aload_n X 1 rfl rfl dX1_solveState_20 ?_
    refine g_iload_n X 3 rfl rfl dX1_solveState_21 ?_
    refine g_callVi (C := RX1) (T := TX1) (N := 11) (ci := 1) (As := [.int p2]) (st := [.int r3, .ref a_]) (wr := [(a_squad, .inr (3, [.ref a_squad_facts, .int c_squad_size])), (a_squad_facts, .inl (cI, 30, .inl c_squad_facts)), (a_changes, .inl (cI, 6, .inl c_changes)), (a_values, .inl (cI, 650, .inl c_values)), (a_bests, .inl (cI, 650, .inl c_bests)), (a_rowTenths, .inl (cI, 18, .inl c_rowTenths)), (a_hitValues, .inl (cI, 3, .inl c_hitValues)), (a_missValues, .inl (cI, 3, .inl c_missValues))]) X (k_X1_valueOfEnd l D cI kA kV a_ a_squad a_changes a_values a_bests a_rowTenths a_hitValues a_missValues c_reboundTenths c_lawInForce c_drawTenths c_solvedRows p2) (cwV 1 X.2.2.2.2.1 gX1_solveState_X1_valueOfEnd rfl rfl rfl (by decide +kernel) ⟨Nat.le_of_ble_eq_true rfl, Nat.le_of_ble_eq_true rfl⟩) 8 rfl rfl [8] [0, 1, 2, 3, 4, 5, 6, 7] rfl rfl rfl rfl (by decide) rfl (Nat.le_of_ble_eq_true rfl) ⟨Nat.le_of_ble_eq_true rfl, Nat.le_of_ble_eq_true rfl⟩ dX1_solveState_22 rfl (fun r22 u22 hw22 => ?_)
    refine g_eqs (ws' := [(a_squad, .inr (3, [.ref a_squad_facts, .int c_squad_size])), (a_squad_facts, .inl (cI, 30, .inl c_squad_facts)), (a_changes, .inl (cI, 6, .inl c_changes)), (a_values, .inl (cI, 650, .inl c_values)), (a_bests, .inl (cI, 650, .inl c_bests)), (a_rowTenths, .inl (cI, 18, .inl c_rowTenths)), (a_hitValues, .inl (cI, 3, .inl c_hitValues)), (a_missValues, .inl (cI, 3, .inl c_missValues)), (a_, .inr (1, [.ref a_squad, .ref a_changes, .int c_reboundTenths, .int c_lawInForce, .int c_drawTenths, .ref a_values, .ref a_bests, .int c_solvedRows, .ref a_rowTenths, .ref a_hitValues, .ref a_missValues]))]) rfl ?_
    have heq := g_let heq hw22
    refine g_bipush (v := (-9)) X (by decide) dX1_solveState_25 ?_
    refine g_callVv (C := RX1) (T := TX1) (N := 11) (ci := 1) (As := [.int r3, .int r22, .int (-9)]) (st := []) (wr := [(a_squad, .inr (3, [.ref a_squad_facts, .int c_squad_size])), (a_squad_facts, .inl (cI, 30, .inl c_squad_facts)), (a_changes, .inl (cI, 6, .inl c_changes)), (a_rowTenths, .inl (cI, 18, .inl c_rowTenths)), (a_hitValues, .inl (cI, 3, .inl c_hitValues)), (a_missValues, .inl (cI, 3, .inl c_missValues))]) X (k_X1_put l D cI kA kV a_ a_squad a_changes a_values a_bests a_rowTenths a_hitValues a_missValues c_reboundTenths c_lawInForce c_drawTenths c_solvedRows c_values c_bests r3 r22 (-9)) (cwV 3 X.2.2.2.2.1 gX1_solveState_X1_put rfl rfl rfl (by decide +kernel) ⟨Nat.le_of_ble_eq_true rfl, Nat.le_of_ble_eq_true rfl⟩) 8 rfl rfl [8, 3, 4] [0, 1, 2, 5, 6, 7] rfl rfl rfl rfl (by decide) rfl (Nat.le_of_ble_eq_true rfl) ⟨Nat.le_of_ble_eq_true rfl, Nat.le_of_ble_eq_true rfl⟩ dX1_solveState_27 rfl (fun u27 hw27 => ?_)
    refine g_eqs (ws' := [(a_squad, .inr (3, [.ref a_squad_facts, .int c_squad_size])), (a_squad_facts, .inl (cI, 30, .inl c_squad_facts)), (a_changes, .inl (cI, 6, .inl c_changes)), (a_rowTenths, .inl (cI, 18, .inl c_rowTenths)), (a_hitValues, .inl (cI, 3, .inl c_hitValues)), (a_missValues, .inl (cI, 3, .inl c_missValues)), (a_, .inr (1, [.ref a_squad, .ref a_changes, .int c_reboundTenths, .int c_lawInForce, .int c_drawTenths, .ref a_values, .ref a_bests, .int c_solvedRows, .ref a_rowTenths, .ref a_hitValues, .ref a_missValues])), (a_values, .inl (cI, 650, .inl u27.1)), (a_bests, .inl (cI, 650, .inl u27.2))]) rfl ?_
    have heq := g_let heq hw27
    exact g_vret X hAA hQQ (u27.1, u27.2, c_hitValues, c_missValues) (heq.symm.trans hXX) [6, 0, 1, 2, 7, 8, 3, 4, 5] rfl rfl hr dX1_solveState_30

theorem hi_X1_solveTo_X1 : ∀ w ∈ wsX10, w ∈ wsX1_solveTo := fun w h => List.mem_cons_of_mem _ (List.mem_append_left _ (List.mem_append_right _ (h)))
def L_X1_solveTo_25 (v1 : Int32) (v2 : Int32) (v3 : Int32) (c_reboundTenths : Int32) (c_lawInForce : Int32) (c_drawTenths : Int32) (c_solvedRows : Int32) (c_squad_size : Int32) (c_squad_facts : Nat → Int32) (c_changes : Nat → Int32) (c_rowTenths : Nat → Int32) (K : (Int32) → (Nat → Int32) → (Nat → Int32) → (Nat → Int32) → (Nat → Int32) → (Int32) × (Nat → Int32) × (Nat → Int32) × (Nat → Int32) × (Nat → Int32) × (Nat → Int32)) : Nat → (Int32) → (Nat → Int32) → (Nat → Int32) → (Nat → Int32) → (Nat → Int32) → (Int32) × (Nat → Int32) × (Nat → Int32) × (Nat → Int32) × (Nat → Int32) × (Nat → Int32)
  | 0, v4_25, c_values_25, c_bests_25, c_hitValues_25, c_missValues_25 => K v4_25 c_values_25 c_bests_25 c_hitValues_25 c_missValues_25
  | n + 1, v4_25, c_values_25, c_bests_25, c_hitValues_25, c_missValues_25 => (if 12 < v4_25 then K v4_25 c_values_25 c_bests_25 c_hitValues_25 c_missValues_25 else g_lt (f_X1_solveState c_reboundTenths c_lawInForce c_drawTenths c_squad_size c_squad_facts c_changes c_values_25 c_bests_25 c_rowTenths c_hitValues_25 c_missValues_25 v3 v4_25 (0 : Int32)) (fun u37 => g_lt (f_X1_solveState c_reboundTenths c_lawInForce c_drawTenths c_squad_size c_squad_facts c_changes u37.1 u37.2.1 c_rowTenths u37.2.2.1 u37.2.2.2 v3 v4_25 (1 : Int32)) (fun u45 => L_X1_solveTo_25 v1 v2 v3 c_reboundTenths c_lawInForce c_drawTenths c_solvedRows c_squad_size c_squad_facts c_changes c_rowTenths K n (v4_25 + 1) u45.1 u45.2.1 u45.2.2.1 u45.2.2.2)))
def L_X1_solveTo_12 (v1 : Int32) (v2 : Int32) (c_reboundTenths : Int32) (c_lawInForce : Int32) (c_drawTenths : Int32) (c_squad_size : Int32) (c_squad_facts : Nat → Int32) (c_changes : Nat → Int32) (K : (Int32) → (Int32) → (Nat → Int32) → (Nat → Int32) → (Nat → Int32) → (Nat → Int32) → (Nat → Int32) → (Int32) × (Nat → Int32) × (Nat → Int32) × (Nat → Int32) × (Nat → Int32) × (Nat → Int32)) : Nat → (Int32) → (Int32) → (Nat → Int32) → (Nat → Int32) → (Nat → Int32) → (Nat → Int32) → (Nat → Int32) → (Int32) × (Nat → Int32) × (Nat → Int32) × (Nat → Int32) × (Nat → Int32) × (Nat → Int32)
  | 0, v3_12, c_solvedRows_12, c_values_12, c_bests_12, c_rowTenths_12, c_hitValues_12, c_missValues_12 => K v3_12 c_solvedRows_12 c_values_12 c_bests_12 c_rowTenths_12 c_hitValues_12 c_missValues_12
  | n + 1, v3_12, c_solvedRows_12, c_values_12, c_bests_12, c_rowTenths_12, c_hitValues_12, c_missValues_12 => (if v2 < v3_12 then K v3_12 c_solvedRows_12 c_values_12 c_bests_12 c_rowTenths_12 c_hitValues_12 c_missValues_12 else g_lt (f_X1_fillTenths c_squad_facts c_changes c_rowTenths_12 v3_12) (fun u19 => L_X1_solveTo_25 v1 v2 v3_12 c_reboundTenths c_lawInForce c_drawTenths c_solvedRows_12 c_squad_size c_squad_facts c_changes u19 (fun v4_25 c_values_25 c_bests_25 c_hitValues_25 c_missValues_25 => L_X1_solveTo_12 v1 v2 c_reboundTenths c_lawInForce c_drawTenths c_squad_size c_squad_facts c_changes K n (v3_12 + 1) (v3_12 + 1) c_values_25 c_bests_25 u19 c_hitValues_25 c_missValues_25) (((12 : Int32).toInt - (0 : Int32).toInt + 1).toNat + 1) 0 c_values_12 c_bests_12 c_hitValues_12 c_missValues_12))
def f_X1_solveTo (c_reboundTenths : Int32) (c_lawInForce : Int32) (c_drawTenths : Int32) (c_solvedRows : Int32) (c_squad_size : Int32) (c_squad_facts : Nat → Int32) (c_changes : Nat → Int32) (c_values : Nat → Int32) (c_bests : Nat → Int32) (c_rowTenths : Nat → Int32) (c_hitValues : Nat → Int32) (c_missValues : Nat → Int32) (p1 : Int32) : (Int32) × (Nat → Int32) × (Nat → Int32) × (Nat → Int32) × (Nat → Int32) × (Nat → Int32) :=
  L_X1_solveTo_12 p1 (g_minf p1 (24 : Int32)) c_reboundTenths c_lawInForce c_drawTenths c_squad_size c_squad_facts c_changes (fun v3_12 c_solvedRows_12 c_values_12 c_bests_12 c_rowTenths_12 c_hitValues_12 c_missValues_12 => (c_solvedRows_12, c_values_12, c_bests_12, c_rowTenths_12, c_hitValues_12, c_missValues_12)) ((((g_minf p1 (24 : Int32)) : Int32).toInt - (c_solvedRows : Int32).toInt + 1).toNat + 1) c_solvedRows c_solvedRows c_values c_bests c_rowTenths c_hitValues c_missValues
set_option maxHeartbeats 4000000 in
set_option maxRecDepth 100000 in
theorem k_X1_solveTo (l : Launch) (D : va_G) (cI : ClassId) (kA kV : Nat → Nat) (a_ a_squad a_changes a_values a_bests a_rowTenths a_hitValues a_missValues a_squad_facts : Nat) (c_reboundTenths : Int32) (c_lawInForce : Int32) (c_drawTenths : Int32) (c_solvedRows : Int32) (c_squad_size : Int32) (c_squad_facts : Nat → Int32) (c_changes : Nat → Int32) (c_values : Nat → Int32) (c_bests : Nat → Int32) (c_rowTenths : Nat → Int32) (c_hitValues : Nat → Int32) (c_missValues : Nat → Int32) (p1 : Int32) :
    g_MV l D cI kA kV yX1_solveTo wsX1_solveTo { frames := 4, cells := 0, slots := 0, locals := 104 } [.ref a_, .int p1] [(a_, .inr (1, [.ref a_squad, .ref a_changes, .int c_reboundTenths, .int c_lawInForce, .int c_drawTenths, .ref a_values, .ref a_bests, .int c_solvedRows, .ref a_rowTenths, .ref a_hitValues, .ref a_missValues])), (a_squad, .inr (3, [.ref a_squad_facts, .int c_squad_size])), (a_squad_facts, .inl (cI, 30, .inl c_squad_facts)), (a_changes, .inl (cI, 6, .inl c_changes)), (a_values, .inl (cI, 650, .inl c_values)), (a_bests, .inl (cI, 650, .inl c_bests)), (a_rowTenths, .inl (cI, 18, .inl c_rowTenths)), (a_hitValues, .inl (cI, 3, .inl c_hitValues)), (a_missValues, .inl (cI, 3, .inl c_missValues))] (fun u : (Int32) × (Nat → Int32) × (Nat → Int32) × (Nat → Int32) × (Nat → Int32) × (Nat → Int32) => [(a_, .inr (1, [.ref a_squad, .ref a_changes, .int c_reboundTenths, .int c_lawInForce, .int c_drawTenths, .ref a_values, .ref a_bests, .int u.1, .ref a_rowTenths, .ref a_hitValues, .ref a_missValues])), (a_squad, .inr (3, [.ref a_squad_facts, .int c_squad_size])), (a_squad_facts, .inl (cI, 30, .inl c_squad_facts)), (a_changes, .inl (cI, 6, .inl c_changes)), (a_values, .inl (cI, 650, .inl u.2.1)), (a_bests, .inl (cI, 650, .inl u.2.2.1)), (a_rowTenths, .inl (cI, 18, .inl u.2.2.2.1)), (a_hitValues, .inl (cI, 3, .inl u.2.2.2.2.1)), (a_missValues, .inl (cI, 3, .inl u.2.2.2.2.2))]) (fun u : (Int32) × (Nat → Int32) × (Nat → Int32) × (Nat → Int32) × (Nat → Int32) × (Nat → Int32) => u = f_X1_solveTo c_reboundTenths c_lawInForce c_drawTenths c_solvedRows c_squad_size c_squad_facts c_changes c_values c_bests c_rowTenths c_hitValues c_missValues p1) := by
  obtain ⟨XX, hXX⟩ : ∃ z, z = f_X1_solveTo c_reboundTenths c_lawInForce c_drawTenths c_solvedRows c_squad_size c_squad_facts c_changes c_values c_bests c_rowTenths c_hitValues c_missValues p1 := ⟨_, rfl⟩
  have heq := hXX.trans (f_X1_solveTo.eq_def c_reboundTenths c_lawInForce c_drawTenths c_solvedRows c_squad_size c_squad_facts c_changes c_values c_bests c_rowTenths c_hitValues c_missValues p1)
  refine g_startV (lv := [(0, .ref a_), (1, .int p1)]) RX1 rfl rfl rfl (Nat.le_of_ble_eq_true rfl) rfl (fun p e s m args below meth c AA QQ hAA hQQ X hr hmn => ?_)
  refine g_iload_n X 1 rfl rfl dX1_solveTo_0 ?_
  refine g_bipush (v := 24) X (by decide) dX1_solveTo_1 ?_
  refine g_mmin X (X.2.2.2.2.1 (.methodLink RX1 83 Lib.Math.min.name) (List.mem_of_getElem? (i := 1) rfl)) (X.2.2.2.2.1 (.static Lib.Math.min.name) (List.mem_of_getElem? (i := 2) rfl)) (X.2.2.2.2.1 (.initialized "java/lang/Math") (List.mem_of_getElem? (i := 3) rfl)) (X.2.2.2.2.1 (.code Lib.Math.min.name Lib.Math.min.code 2 (some .int)) (List.mem_of_getElem? (i := 4) rfl)) (Nat.le_of_ble_eq_true rfl) (Nat.le_of_ble_eq_true rfl) (Nat.le_of_ble_eq_true rfl) (Nat.le_of_ble_eq_true rfl) dX1_solveTo_3 ?_
  refine g_istore_n (lv' := [(2, .int (g_minf p1 (24 : Int32))), (0, .ref a_), (1, .int p1)]) X rfl (by decide) rfl dX1_solveTo_6 ?_
  refine g_aload_n X 1 rfl rfl dX1_solveTo_7 ?_
  refine g_get (C := RX1) (T := TX1) (N := 11) (ci := 1) X hi_X1_solveTo_X1 0 rfl rfl 7 (by decide) (X.2.2.2.2.1 (.fieldLink RX1 38 "NineteenSecondsLeft$Lamp" "solvedRows" "I") (List.mem_of_getElem? (i := 5) rfl)) rfl rfl dX1_solveTo_8 ?_
  refine g_istore_n (lv' := [(3, .int c_solvedRows), (2, .int (g_minf p1 (24 : Int32))), (0, .ref a_), (1, .int p1)]) X rfl (by decide) rfl dX1_solveTo_11 ?_
  have lp12 : ∀ (K : (Int32) → (Int32) → (Nat → Int32) → (Nat → Int32) → (Nat → Int32) → (Nat → Int32) → (Nat → Int32) → (Int32) × (Nat → Int32) × (Nat → Int32) × (Nat → Int32) × (Nat → Int32) × (Nat → Int32)), (∀ (v3_12 : Int32) (c_solvedRows_12 : Int32) (c_values_12 : Nat → Int32) (c_bests_12 : Nat → Int32) (c_rowTenths_12 : Nat → Int32) (c_hitValues_12 : Nat → Int32) (c_missValues_12 : Nat → Int32), XX = K v3_12 c_solvedRows_12 c_values_12 c_bests_12 c_rowTenths_12 c_hitValues_12 c_missValues_12 → GG p l e { frames := 4, cells := 0, slots := 0, locals := 104 } s m args below meth c D AA 0 0 QQ 5 [(a_, .inr (1, [.ref a_squad, .ref a_changes, .int c_reboundTenths, .int c_lawInForce, .int c_drawTenths, .ref a_values, .ref a_bests, .int c_solvedRows_12, .ref a_rowTenths, .ref a_hitValues, .ref a_missValues])), (a_squad, .inr (3, [.ref a_squad_facts, .int c_squad_size])), (a_squad_facts, .inl (cI, 30, .inl c_squad_facts)), (a_changes, .inl (cI, 6, .inl c_changes)), (a_values, .inl (cI, 650, .inl c_values_12)), (a_bests, .inl (cI, 650, .inl c_bests_12)), (a_rowTenths, .inl (cI, 18, .inl c_rowTenths_12)), (a_hitValues, .inl (cI, 3, .inl c_hitValues_12)), (a_missValues, .inl (cI, 3, .inl c_missValues_12))] [(3, .int v3_12), (2, .int (g_minf p1 (24 : Int32))), (0, .ref a_), (1, .int p1)] 67 []) → ∀ (n : Nat) (v3_12 : Int32) (c_solvedRows_12 : Int32) (c_values_12 : Nat → Int32) (c_bests_12 : Nat → Int32) (c_rowTenths_12 : Nat → Int32) (c_hitValues_12 : Nat → Int32) (c_missValues_12 : Nat → Int32), (((g_minf p1 (24 : Int32)) : Int32).toInt - (v3_12 : Int32).toInt + 1).toNat < n → XX = L_X1_solveTo_12 p1 (g_minf p1 (24 : Int32)) c_reboundTenths c_lawInForce c_drawTenths c_squad_size c_squad_facts c_changes K n v3_12 c_solvedRows_12 c_values_12 c_bests_12 c_rowTenths_12 c_hitValues_12 c_missValues_12 → GG p l e { frames := 4, cells := 0, slots := 0, locals := 104 } s m args below meth c D AA 0 0 QQ 5 [(a_, .inr (1, [.ref a_squad, .ref a_changes, .int c_reboundTenths, .int c_lawInForce, .int c_drawTenths, .ref a_values, .ref a_bests, .int c_solvedRows_12, .ref a_rowTenths, .ref a_hitValues, .ref a_missValues])), (a_squad, .inr (3, [.ref a_squad_facts, .int c_squad_size])), (a_squad_facts, .inl (cI, 30, .inl c_squad_facts)), (a_changes, .inl (cI, 6, .inl c_changes)), (a_values, .inl (cI, 650, .inl c_values_12)), (a_bests, .inl (cI, 650, .inl c_bests_12)), (a_rowTenths, .inl (cI, 18, .inl c_rowTenths_12)), (a_hitValues, .inl (cI, 3, .inl c_hitValues_12)), (a_missValues, .inl (cI, 3, .inl c_missValues_12))] [(3, .int v3_12), (2, .int (g_minf p1 (24 : Int32))), (0, .ref a_), (1, .int p1)] 12 [] := by
    intro K hK n
    induction n with
    | zero => intro v3_12 c_solvedRows_12 c_values_12 c_bests_12 c_rowTenths_12 c_hitValues_12 c_missValues_12 hm12; exact absurd hm12 (Nat.not_lt_zero _)
    | succ n ih12 =>
      intro v3_12 c_solvedRows_12 c_values_12 c_bests_12 c_rowTenths_12 c_hitValues_12 c_missValues_12 hm12  heq
      have heq := heq.trans (L_X1_solveTo_12.eq_2 _ _ _ _ _ _ _ _ _ _ _ _ _ _ _ _ _ )
      refine g_iload_n X 0 rfl rfl dX1_solveTo_12 ?_
      refine g_iload_n X 1 rfl rfl dX1_solveTo_13 ?_
      refine g_icmp_gt X 67 dX1_solveTo_14 (by decide) (fun c14 => ?_) (fun c14 => ?_)
      · have heq := heq.trans (if_pos c14)
        exact hK v3_12 c_solvedRows_12 c_values_12 c_bests_12 c_rowTenths_12 c_hitValues_12 c_missValues_12 heq
      · have heq := heq.trans (if_neg c14)
        refine g_aload_n X 2 rfl rfl dX1_solveTo_17 ?_
        refine g_iload_n X 0 rfl rfl dX1_solveTo_18 ?_
        refine g_callVv (C := RX1) (T := TX1) (N := 11) (ci := 1) (As := [.int v3_12]) (st := []) (wr := [(a_values, .inl (cI, 650, .inl c_values_12)), (a_bests, .inl (cI, 650, .inl c_bests_12)), (a_hitValues, .inl (cI, 3, .inl c_hitValues_12)), (a_missValues, .inl (cI, 3, .inl c_missValues_12))]) X (k_X1_fillTenths l D cI kA kV a_ a_squad a_changes a_values a_bests a_rowTenths a_hitValues a_missValues a_squad_facts c_reboundTenths c_lawInForce c_drawTenths c_solvedRows_12 c_squad_size c_squad_facts c_changes c_rowTenths_12 v3_12) (cwV 1 X.2.2.2.2.1 gX1_solveTo_X1_fillTenths rfl rfl rfl (by decide +kernel) ⟨Nat.le_of_ble_eq_true rfl, Nat.le_of_ble_eq_true rfl⟩) 0 rfl rfl [0, 1, 2, 3, 6] [4, 5, 7, 8] rfl rfl rfl rfl (by decide) rfl (Nat.le_of_ble_eq_true rfl) ⟨Nat.le_of_ble_eq_true rfl, Nat.le_of_ble_eq_true rfl⟩ dX1_solveTo_19 rfl (fun u19 hw19 => ?_)
        refine g_eqs (ws' := [(a_values, .inl (cI, 650, .inl c_values_12)), (a_bests, .inl (cI, 650, .inl c_bests_12)), (a_hitValues, .inl (cI, 3, .inl c_hitValues_12)), (a_missValues, .inl (cI, 3, .inl c_missValues_12)), (a_, .inr (1, [.ref a_squad, .ref a_changes, .int c_reboundTenths, .int c_lawInForce, .int c_drawTenths, .ref a_values, .ref a_bests, .int c_solvedRows_12, .ref a_rowTenths, .ref a_hitValues, .ref a_missValues])), (a_squad, .inr (3, [.ref a_squad_facts, .int c_squad_size])), (a_squad_facts, .inl (cI, 30, .inl c_squad_facts)), (a_changes, .inl (cI, 6, .inl c_changes)), (a_rowTenths, .inl (cI, 18, .inl u19))]) rfl ?_
        have heq := g_let heq hw19
        refine g_iconst (v := 0) X (by decide) dX1_solveTo_22 ?_
        refine g_istore (lv' := [(4, .int 0), (3, .int v3_12), (2, .int (g_minf p1 (24 : Int32))), (0, .ref a_), (1, .int p1)]) X (by decide) rfl dX1_solveTo_23 ?_
        have lp25 : ∀ (K : (Int32) → (Nat → Int32) → (Nat → Int32) → (Nat → Int32) → (Nat → Int32) → (Int32) × (Nat → Int32) × (Nat → Int32) × (Nat → Int32) × (Nat → Int32) × (Nat → Int32)), (∀ (v4_25 : Int32) (c_values_25 : Nat → Int32) (c_bests_25 : Nat → Int32) (c_hitValues_25 : Nat → Int32) (c_missValues_25 : Nat → Int32), XX = K v4_25 c_values_25 c_bests_25 c_hitValues_25 c_missValues_25 → GG p l e { frames := 4, cells := 0, slots := 0, locals := 104 } s m args below meth c D AA 0 0 QQ 5 [(a_values, .inl (cI, 650, .inl c_values_25)), (a_bests, .inl (cI, 650, .inl c_bests_25)), (a_hitValues, .inl (cI, 3, .inl c_hitValues_25)), (a_missValues, .inl (cI, 3, .inl c_missValues_25)), (a_, .inr (1, [.ref a_squad, .ref a_changes, .int c_reboundTenths, .int c_lawInForce, .int c_drawTenths, .ref a_values, .ref a_bests, .int c_solvedRows_12, .ref a_rowTenths, .ref a_hitValues, .ref a_missValues])), (a_squad, .inr (3, [.ref a_squad_facts, .int c_squad_size])), (a_squad_facts, .inl (cI, 30, .inl c_squad_facts)), (a_changes, .inl (cI, 6, .inl c_changes)), (a_rowTenths, .inl (cI, 18, .inl u19))] [(4, .int v4_25), (3, .int v3_12), (2, .int (g_minf p1 (24 : Int32))), (0, .ref a_), (1, .int p1)] 54 []) → ∀ (n : Nat) (v4_25 : Int32) (c_values_25 : Nat → Int32) (c_bests_25 : Nat → Int32) (c_hitValues_25 : Nat → Int32) (c_missValues_25 : Nat → Int32), ((12 : Int32).toInt - (v4_25 : Int32).toInt + 1).toNat < n → XX = L_X1_solveTo_25 p1 (g_minf p1 (24 : Int32)) v3_12 c_reboundTenths c_lawInForce c_drawTenths c_solvedRows_12 c_squad_size c_squad_facts c_changes u19 K n v4_25 c_values_25 c_bests_25 c_hitValues_25 c_missValues_25 → GG p l e { frames := 4, cells := 0, slots := 0, locals := 104 } s m args below meth c D AA 0 0 QQ 5 [(a_values, .inl (cI, 650, .inl c_values_25)), (a_bests, .inl (cI, 650, .inl c_bests_25)), (a_hitValues, .inl (cI, 3, .inl c_hitValues_25)), (a_missValues, .inl (cI, 3, .inl c_missValues_25)), (a_, .inr (1, [.ref a_squad, .ref a_changes, .int c_reboundTenths, .int c_lawInForce, .int c_drawTenths, .ref a_values, .ref a_bests, .int c_solvedRows_12, .ref a_rowTenths, .ref a_hitValues, .ref a_missValues])), (a_squad, .inr (3, [.ref a_squad_facts, .int c_squad_size])), (a_squad_facts, .inl (cI, 30, .inl c_squad_facts)), (a_changes, .inl (cI, 6, .inl c_changes)), (a_rowTenths, .inl (cI, 18, .inl u19))] [(4, .int v4_25), (3, .int v3_12), (2, .int (g_minf p1 (24 : Int32))), (0, .ref a_), (1, .int p1)] 25 [] := by
          intro K hK n
          induction n with
          | zero => intro v4_25 c_values_25 c_bests_25 c_hitValues_25 c_missValues_25 hm25; exact absurd hm25 (Nat.not_lt_zero _)
          | succ n ih25 =>
            intro v4_25 c_values_25 c_bests_25 c_hitValues_25 c_missValues_25 hm25  heq
            have heq := heq.trans (L_X1_solveTo_25.eq_2 _ _ _ _ _ _ _ _ _ _ _ _ _ _ _ _ _ _ )
            refine g_iload X 0 rfl dX1_solveTo_25 ?_
            refine g_bipush (v := 12) X (by decide) dX1_solveTo_27 ?_
            refine g_icmp_gt X 54 dX1_solveTo_29 (by decide) (fun c29 => ?_) (fun c29 => ?_)
            · have heq := heq.trans (if_pos c29)
              exact hK v4_25 c_values_25 c_bests_25 c_hitValues_25 c_missValues_25 heq
            · have heq := heq.trans (if_neg c29)
              refine g_aload_n X 3 rfl rfl dX1_solveTo_32 ?_
              refine g_iload_n X 1 rfl rfl dX1_solveTo_33 ?_
              refine g_iload X 0 rfl dX1_solveTo_34 ?_
              refine g_iconst (v := 0) X (by decide) dX1_solveTo_36 ?_
              refine g_callVv (C := RX1) (T := TX1) (N := 11) (ci := 1) (As := [.int v3_12, .int v4_25, .int 0]) (st := []) (wr := ([] : va_W)) X (k_X1_solveState l D cI kA kV a_ a_squad a_changes a_values a_bests a_rowTenths a_hitValues a_missValues a_squad_facts c_reboundTenths c_lawInForce c_drawTenths c_solvedRows_12 c_squad_size c_squad_facts c_changes c_values_25 c_bests_25 u19 c_hitValues_25 c_missValues_25 v3_12 v4_25 0) (cwV 3 X.2.2.2.2.1 gX1_solveTo_X1_solveState rfl rfl rfl (by decide +kernel) ⟨Nat.le_of_ble_eq_true rfl, Nat.le_of_ble_eq_true rfl⟩) 4 rfl rfl [4, 5, 6, 7, 0, 1, 8, 2, 3] [] rfl rfl rfl rfl (by decide) rfl (Nat.le_of_ble_eq_true rfl) ⟨Nat.le_of_ble_eq_true rfl, Nat.le_of_ble_eq_true rfl⟩ dX1_solveTo_37 rfl (fun u37 hw37 => ?_)
              refine g_eqs (ws' := [(a_, .inr (1, [.ref a_squad, .ref a_changes, .int c_reboundTenths, .int c_lawInForce, .int c_drawTenths, .ref a_values, .ref a_bests, .int c_solvedRows_12, .ref a_rowTenths, .ref a_hitValues, .ref a_missValues])), (a_squad, .inr (3, [.ref a_squad_facts, .int c_squad_size])), (a_squad_facts, .inl (cI, 30, .inl c_squad_facts)), (a_changes, .inl (cI, 6, .inl c_changes)), (a_values, .inl (cI, 650, .inl u37.1)), (a_bests, .inl (cI, 650, .inl u37.2.1)), (a_rowTenths, .inl (cI, 18, .inl u19)), (a_hitValues, .inl (cI, 3, .inl u37.2.2.1)), (a_missValues, .inl (cI, 3, .inl u37.2.2.2))]) rfl ?_
              have heq := g_let heq hw37
              refine g_aload_n X 3 rfl rfl dX1_solveTo_40 ?_
              refine g_iload_n X 1 rfl rfl dX1_solveTo_41 ?_
              refine g_iload X 0 rfl dX1_solveTo_42 ?_
              refine g_iconst (v := 1) X (by decide) dX1_solveTo_44 ?_
              refine g_callVv (C := RX1) (T := TX1) (N := 11) (ci := 1) (As := [.int v3_12, .int v4_25, .int 1]) (st := []) (wr := ([] : va_W)) X (k_X1_solveState l D cI kA kV a_ a_squad a_changes a_values a_bests a_rowTenths a_hitValues a_missValues a_squad_facts c_reboundTenths c_lawInForce c_drawTenths c_solvedRows_12 c_squad_size c_squad_facts c_changes u37.1 u37.2.1 u19 u37.2.2.1 u37.2.2.2 v3_12 v4_25 1) (cwV 3 X.2.2.2.2.1 gX1_solveTo_X1_solveState rfl rfl rfl (by decide +kernel) ⟨Nat.le_of_ble_eq_true rfl, Nat.le_of_ble_eq_true rfl⟩) 0 rfl rfl [0, 1, 2, 3, 4, 5, 6, 7, 8] [] rfl rfl rfl rfl (by decide) rfl (Nat.le_of_ble_eq_true rfl) ⟨Nat.le_of_ble_eq_true rfl, Nat.le_of_ble_eq_true rfl⟩ dX1_solveTo_45 rfl (fun u45 hw45 => ?_)
              refine g_eqs (ws' := [(a_, .inr (1, [.ref a_squad, .ref a_changes, .int c_reboundTenths, .int c_lawInForce, .int c_drawTenths, .ref a_values, .ref a_bests, .int c_solvedRows_12, .ref a_rowTenths, .ref a_hitValues, .ref a_missValues])), (a_squad, .inr (3, [.ref a_squad_facts, .int c_squad_size])), (a_squad_facts, .inl (cI, 30, .inl c_squad_facts)), (a_changes, .inl (cI, 6, .inl c_changes)), (a_values, .inl (cI, 650, .inl u45.1)), (a_bests, .inl (cI, 650, .inl u45.2.1)), (a_rowTenths, .inl (cI, 18, .inl u19)), (a_hitValues, .inl (cI, 3, .inl u45.2.2.1)), (a_missValues, .inl (cI, 3, .inl u45.2.2.2))]) rfl ?_
              have heq := g_let heq hw45
              refine g_iinc (v := v4_25 + 1) (lv' := [(4, .int (v4_25 + 1)), (3, .int v3_12), (2, .int (g_minf p1 (24 : Int32))), (0, .ref a_), (1, .int p1)]) X 0 rfl rfl (by decide) rfl dX1_solveTo_48 ?_
              refine g_goto (tgt := 25) X (by decide) dX1_solveTo_51 ?_
              refine g_wsub (ws' := [(a_values, .inl (cI, 650, .inl u45.1)), (a_bests, .inl (cI, 650, .inl u45.2.1)), (a_hitValues, .inl (cI, 3, .inl u45.2.2.1)), (a_missValues, .inl (cI, 3, .inl u45.2.2.2)), (a_, .inr (1, [.ref a_squad, .ref a_changes, .int c_reboundTenths, .int c_lawInForce, .int c_drawTenths, .ref a_values, .ref a_bests, .int c_solvedRows_12, .ref a_rowTenths, .ref a_hitValues, .ref a_missValues])), (a_squad, .inr (3, [.ref a_squad_facts, .int c_squad_size])), (a_squad_facts, .inl (cI, 30, .inl c_squad_facts)), (a_changes, .inl (cI, 6, .inl c_changes)), (a_rowTenths, .inl (cI, 18, .inl u19))]) [4, 5, 7, 8, 0, 1, 2, 3, 6] rfl rfl ?_
              exact ih25 (v4_25 + 1) u45.1 u45.2.1 u45.2.2.1 u45.2.2.2 (g_lem (by decide) c29 hm25)  heq
        refine lp25 _ (fun v4_25 c_values_25 c_bests_25 c_hitValues_25 c_missValues_25 heq => ?_) _ 0 c_values_12 c_bests_12 c_hitValues_12 c_missValues_12 (Nat.lt_succ_self _)  heq
        refine g_aload_n X 3 rfl rfl dX1_solveTo_54 ?_
        refine g_iload_n X 1 rfl rfl dX1_solveTo_55 ?_
        refine g_iconst (v := 1) X (by decide) dX1_solveTo_56 ?_
        refine g_iadd X dX1_solveTo_57 ?_
        refine g_put (C := RX1) (T := TX1) (N := 11) (ci := 1) (ws' := [(a_values, .inl (cI, 650, .inl c_values_25)), (a_bests, .inl (cI, 650, .inl c_bests_25)), (a_hitValues, .inl (cI, 3, .inl c_hitValues_25)), (a_missValues, .inl (cI, 3, .inl c_missValues_25)), (a_, .inr (1, [.ref a_squad, .ref a_changes, .int c_reboundTenths, .int c_lawInForce, .int c_drawTenths, .ref a_values, .ref a_bests, .int (v3_12 + 1), .ref a_rowTenths, .ref a_hitValues, .ref a_missValues])), (a_squad, .inr (3, [.ref a_squad_facts, .int c_squad_size])), (a_squad_facts, .inl (cI, 30, .inl c_squad_facts)), (a_changes, .inl (cI, 6, .inl c_changes)), (a_rowTenths, .inl (cI, 18, .inl u19))]) X hi_X1_solveTo_X1 tyX1 tyX1_ok nmX1 4 rfl rfl 7 (by decide) (X.2.2.2.2.1 (.fieldLink RX1 38 "NineteenSecondsLeft$Lamp" "solvedRows" "I") (List.mem_of_getElem? (i := 5) rfl)) rfl rfl rfl rfl (Nat.le_of_ble_eq_true rfl) dX1_solveTo_58 rfl ?_
        refine g_iinc (v := v3_12 + 1) (lv' := [(3, .int (v3_12 + 1)), (4, .int v4_25), (2, .int (g_minf p1 (24 : Int32))), (0, .ref a_), (1, .int p1)]) X 1 rfl rfl (by decide) rfl dX1_solveTo_61 ?_
        refine g_goto (tgt := 12) X (by decide) dX1_solveTo_64 ?_
        refine g_lpick (lv' := [(3, .int (v3_12 + 1)), (2, .int (g_minf p1 (24 : Int32))), (0, .ref a_), (1, .int p1)]) [0, 2, 3, 4] rfl ?_
        refine g_wsub (ws' := [(a_, .inr (1, [.ref a_squad, .ref a_changes, .int c_reboundTenths, .int c_lawInForce, .int c_drawTenths, .ref a_values, .ref a_bests, .int (v3_12 + 1), .ref a_rowTenths, .ref a_hitValues, .ref a_missValues])), (a_squad, .inr (3, [.ref a_squad_facts, .int c_squad_size])), (a_squad_facts, .inl (cI, 30, .inl c_squad_facts)), (a_changes, .inl (cI, 6, .inl c_changes)), (a_values, .inl (cI, 650, .inl c_values_25)), (a_bests, .inl (cI, 650, .inl c_bests_25)), (a_rowTenths, .inl (cI, 18, .inl u19)), (a_hitValues, .inl (cI, 3, .inl c_hitValues_25)), (a_missValues, .inl (cI, 3, .inl c_missValues_25))]) [4, 5, 6, 7, 0, 1, 8, 2, 3] rfl rfl ?_
        exact ih12 (v3_12 + 1) (v3_12 + 1) c_values_25 c_bests_25 u19 c_hitValues_25 c_missValues_25 (g_lem (g_min24 _) c14 hm12)  heq
  refine lp12 _ (fun v3_12 c_solvedRows_12 c_values_12 c_bests_12 c_rowTenths_12 c_hitValues_12 c_missValues_12 heq => ?_) _ c_solvedRows c_solvedRows c_values c_bests c_rowTenths c_hitValues c_missValues (Nat.lt_succ_self _)  heq
  exact g_vret X hAA hQQ (c_solvedRows_12, c_values_12, c_bests_12, c_rowTenths_12, c_hitValues_12, c_missValues_12) (heq.symm.trans hXX) [0, 1, 2, 3, 4, 5, 6, 7, 8] rfl rfl hr dX1_solveTo_67

theorem hi_X1_start_X1 : ∀ w ∈ wsX10, w ∈ wsX1_start := fun w h => List.mem_cons_of_mem _ (List.mem_append_left _ (List.mem_append_left _ (List.mem_append_right _ (h))))
theorem hi_X1_start_X0 : ∀ w ∈ wsX00, w ∈ wsX1_start := fun w h => List.mem_cons_of_mem _ (List.mem_append_left _ (List.mem_append_right _ (h)))
def L_X1_start_13 (c_reboundTenths : Int32) (c_lawInForce : Int32) (c_drawTenths : Int32) (c_solvedRows : Int32) (c_squad_size : Int32) (c_squad_facts : Nat → Int32) (c_o_told : Nat → Int32) (c_o_squad_size : Int32) (c_o_squad_facts : Nat → Int32) (K : (Int32) → (Nat → Int32) → (Int32) × (Int32) × (Int32) × (Int32) × (Int32) × (Nat → Int32) × (Nat → Int32)) : Nat → (Int32) → (Nat → Int32) → (Int32) × (Int32) × (Int32) × (Int32) × (Int32) × (Nat → Int32) × (Nat → Int32)
  | 0, v2_13, c_changes_13 => K v2_13 c_changes_13
  | n + 1, v2_13, c_changes_13 => (if 6 ≤ v2_13 then K v2_13 c_changes_13 else L_X1_start_13 c_reboundTenths c_lawInForce c_drawTenths c_solvedRows c_squad_size c_squad_facts c_o_told c_o_squad_size c_o_squad_facts K n (v2_13 + 1) (upd c_changes_13 v2_13.toNatClampNeg 0))
def f_X1_start (c_reboundTenths : Int32) (c_lawInForce : Int32) (c_drawTenths : Int32) (c_solvedRows : Int32) (c_squad_size : Int32) (c_squad_facts : Nat → Int32) (c_changes : Nat → Int32) (c_o_told : Nat → Int32) (c_o_squad_size : Int32) (c_o_squad_facts : Nat → Int32) : (Int32) × (Int32) × (Int32) × (Int32) × (Int32) × (Nat → Int32) × (Nat → Int32) :=
  g_lt (f_X3_copy c_squad_size c_squad_facts c_o_squad_size c_o_squad_facts) (fun u8 => L_X1_start_13 c_reboundTenths c_lawInForce c_drawTenths c_solvedRows u8.1 u8.2 c_o_told c_o_squad_size c_o_squad_facts (fun v2_13 c_changes_13 => g_lt (f_X0_told c_o_told (7 : Int32)) (fun r39 => g_lt (f_X0_told c_o_told (8 : Int32)) (fun r49 => g_lt (f_X0_told c_o_told (9 : Int32)) (fun r59 => (r39, r49, r59, 0, u8.1, u8.2, c_changes_13))))) (((6 : Int32).toInt - (0 : Int32).toInt).toNat + 1) 0 c_changes)
set_option maxHeartbeats 4000000 in
set_option maxRecDepth 100000 in
theorem k_X1_start (l : Launch) (D : va_G) (cI : ClassId) (kA kV : Nat → Nat) (a_ a_squad a_changes a_values a_bests a_rowTenths a_hitValues a_missValues a_squad_facts a_o a_o_told a_o_squad a_o_squad_facts : Nat) (c_reboundTenths : Int32) (c_lawInForce : Int32) (c_drawTenths : Int32) (c_solvedRows : Int32) (c_squad_size : Int32) (c_squad_facts : Nat → Int32) (c_changes : Nat → Int32) (c_o_told : Nat → Int32) (c_o_squad_size : Int32) (c_o_squad_facts : Nat → Int32) :
    g_MV l D cI kA kV yX1_start wsX1_start { frames := 2, cells := 0, slots := 0, locals := 81 } [.ref a_, .ref a_o] [(a_, .inr (1, [.ref a_squad, .ref a_changes, .int c_reboundTenths, .int c_lawInForce, .int c_drawTenths, .ref a_values, .ref a_bests, .int c_solvedRows, .ref a_rowTenths, .ref a_hitValues, .ref a_missValues])), (a_squad, .inr (3, [.ref a_squad_facts, .int c_squad_size])), (a_squad_facts, .inl (cI, 30, .inl c_squad_facts)), (a_changes, .inl (cI, 6, .inl c_changes)), (a_o, .inr (0, [.ref a_o_told, .ref a_o_squad])), (a_o_told, .inl (cI, 10, .inl c_o_told)), (a_o_squad, .inr (3, [.ref a_o_squad_facts, .int c_o_squad_size])), (a_o_squad_facts, .inl (cI, 30, .inl c_o_squad_facts))] (fun u : (Int32) × (Int32) × (Int32) × (Int32) × (Int32) × (Nat → Int32) × (Nat → Int32) => [(a_, .inr (1, [.ref a_squad, .ref a_changes, .int u.1, .int u.2.1, .int u.2.2.1, .ref a_values, .ref a_bests, .int u.2.2.2.1, .ref a_rowTenths, .ref a_hitValues, .ref a_missValues])), (a_squad, .inr (3, [.ref a_squad_facts, .int u.2.2.2.2.1])), (a_squad_facts, .inl (cI, 30, .inl u.2.2.2.2.2.1)), (a_changes, .inl (cI, 6, .inl u.2.2.2.2.2.2)), (a_o, .inr (0, [.ref a_o_told, .ref a_o_squad])), (a_o_told, .inl (cI, 10, .inl c_o_told)), (a_o_squad, .inr (3, [.ref a_o_squad_facts, .int c_o_squad_size])), (a_o_squad_facts, .inl (cI, 30, .inl c_o_squad_facts))]) (fun u : (Int32) × (Int32) × (Int32) × (Int32) × (Int32) × (Nat → Int32) × (Nat → Int32) => u = f_X1_start c_reboundTenths c_lawInForce c_drawTenths c_solvedRows c_squad_size c_squad_facts c_changes c_o_told c_o_squad_size c_o_squad_facts) := by
  obtain ⟨XX, hXX⟩ : ∃ z, z = f_X1_start c_reboundTenths c_lawInForce c_drawTenths c_solvedRows c_squad_size c_squad_facts c_changes c_o_told c_o_squad_size c_o_squad_facts := ⟨_, rfl⟩
  have heq := hXX.trans (f_X1_start.eq_def c_reboundTenths c_lawInForce c_drawTenths c_solvedRows c_squad_size c_squad_facts c_changes c_o_told c_o_squad_size c_o_squad_facts)
  refine g_startV (lv := [(0, .ref a_), (1, .ref a_o)]) RX1 rfl rfl rfl (Nat.le_of_ble_eq_true rfl) rfl (fun p e s m args below meth c AA QQ hAA hQQ X hr hmn => ?_)
  refine g_aload_n X 0 rfl rfl dX1_start_0 ?_
  refine g_get (C := RX1) (T := TX1) (N := 11) (ci := 1) X hi_X1_start_X1 0 rfl rfl 0 (by decide) (X.2.2.2.2.1 (.fieldLink RX1 12 "NineteenSecondsLeft$Lamp" "squad" "LNineteenSecondsLeft$Squad;") (List.mem_of_getElem? (i := 1) rfl)) rfl rfl dX1_start_1 ?_
  refine g_aload_n X 1 rfl rfl dX1_start_4 ?_
  refine g_getN (host := "NineteenSecondsLeft") (C := RX0) (T := TX0) (N := 2) (ci := 0) X hi_X1_start_X0 4 rfl rfl 1 (by decide) (va_Nw.use rfl ((g_nl X).2 (RX1, 50, "NineteenSecondsLeft$Hall", "squad", "LNineteenSecondsLeft$Squad;") (List.mem_of_getElem? (i := 0) rfl))) rfl rfl dX1_start_5 ?_
  refine g_callVv (C := RX3) (T := TX3) (N := 2) (ci := 3) (As := [.ref a_o_squad]) (st := []) (wr := [(a_, .inr (1, [.ref a_squad, .ref a_changes, .int c_reboundTenths, .int c_lawInForce, .int c_drawTenths, .ref a_values, .ref a_bests, .int c_solvedRows, .ref a_rowTenths, .ref a_hitValues, .ref a_missValues])), (a_changes, .inl (cI, 6, .inl c_changes)), (a_o, .inr (0, [.ref a_o_told, .ref a_o_squad])), (a_o_told, .inl (cI, 10, .inl c_o_told))]) X (k_X3_copy l D cI kA kV a_squad a_squad_facts a_o_squad a_o_squad_facts c_squad_size c_squad_facts c_o_squad_size c_o_squad_facts) (cwV 1 X.2.2.2.2.1 gX1_start_X3_copy rfl rfl rfl (by decide +kernel) ⟨Nat.le_of_ble_eq_true rfl, Nat.le_of_ble_eq_true rfl⟩) 1 rfl rfl [1, 2, 6, 7] [0, 3, 4, 5] rfl rfl rfl rfl (by decide) rfl (Nat.le_of_ble_eq_true rfl) ⟨Nat.le_of_ble_eq_true rfl, Nat.le_of_ble_eq_true rfl⟩ dX1_start_8 rfl (fun u8 hw8 => ?_)
  refine g_eqs (ws' := [(a_, .inr (1, [.ref a_squad, .ref a_changes, .int c_reboundTenths, .int c_lawInForce, .int c_drawTenths, .ref a_values, .ref a_bests, .int c_solvedRows, .ref a_rowTenths, .ref a_hitValues, .ref a_missValues])), (a_changes, .inl (cI, 6, .inl c_changes)), (a_o, .inr (0, [.ref a_o_told, .ref a_o_squad])), (a_o_told, .inl (cI, 10, .inl c_o_told)), (a_squad, .inr (3, [.ref a_squad_facts, .int u8.1])), (a_squad_facts, .inl (cI, 30, .inl u8.2)), (a_o_squad, .inr (3, [.ref a_o_squad_facts, .int c_o_squad_size])), (a_o_squad_facts, .inl (cI, 30, .inl c_o_squad_facts))]) rfl ?_
  have heq := g_let heq hw8
  refine g_iconst (v := 0) X (by decide) dX1_start_11 ?_
  refine g_istore_n (lv' := [(2, .int 0), (0, .ref a_), (1, .ref a_o)]) X rfl (by decide) rfl dX1_start_12 ?_
  have lp13 : ∀ (K : (Int32) → (Nat → Int32) → (Int32) × (Int32) × (Int32) × (Int32) × (Int32) × (Nat → Int32) × (Nat → Int32)), (∀ (v2_13 : Int32) (c_changes_13 : Nat → Int32), XX = K v2_13 c_changes_13 → GG p l e { frames := 2, cells := 0, slots := 0, locals := 81 } s m args below meth c D AA 0 0 QQ 3 [(a_, .inr (1, [.ref a_squad, .ref a_changes, .int c_reboundTenths, .int c_lawInForce, .int c_drawTenths, .ref a_values, .ref a_bests, .int c_solvedRows, .ref a_rowTenths, .ref a_hitValues, .ref a_missValues])), (a_changes, .inl (cI, 6, .inl c_changes_13)), (a_o, .inr (0, [.ref a_o_told, .ref a_o_squad])), (a_o_told, .inl (cI, 10, .inl c_o_told)), (a_squad, .inr (3, [.ref a_squad_facts, .int u8.1])), (a_squad_facts, .inl (cI, 30, .inl u8.2)), (a_o_squad, .inr (3, [.ref a_o_squad_facts, .int c_o_squad_size])), (a_o_squad_facts, .inl (cI, 30, .inl c_o_squad_facts))] [(2, .int v2_13), (0, .ref a_), (1, .ref a_o)] 35 []) → ∀ (n : Nat) (v2_13 : Int32) (c_changes_13 : Nat → Int32), ((6 : Int32).toInt - (v2_13 : Int32).toInt).toNat < n → 0 ≤ v2_13 → XX = L_X1_start_13 c_reboundTenths c_lawInForce c_drawTenths c_solvedRows u8.1 u8.2 c_o_told c_o_squad_size c_o_squad_facts K n v2_13 c_changes_13 → GG p l e { frames := 2, cells := 0, slots := 0, locals := 81 } s m args below meth c D AA 0 0 QQ 3 [(a_, .inr (1, [.ref a_squad, .ref a_changes, .int c_reboundTenths, .int c_lawInForce, .int c_drawTenths, .ref a_values, .ref a_bests, .int c_solvedRows, .ref a_rowTenths, .ref a_hitValues, .ref a_missValues])), (a_changes, .inl (cI, 6, .inl c_changes_13)), (a_o, .inr (0, [.ref a_o_told, .ref a_o_squad])), (a_o_told, .inl (cI, 10, .inl c_o_told)), (a_squad, .inr (3, [.ref a_squad_facts, .int u8.1])), (a_squad_facts, .inl (cI, 30, .inl u8.2)), (a_o_squad, .inr (3, [.ref a_o_squad_facts, .int c_o_squad_size])), (a_o_squad_facts, .inl (cI, 30, .inl c_o_squad_facts))] [(2, .int v2_13), (0, .ref a_), (1, .ref a_o)] 13 [] := by
    intro K hK n
    induction n with
    | zero => intro v2_13 c_changes_13 hm13; exact absurd hm13 (Nat.not_lt_zero _)
    | succ n ih13 =>
      intro v2_13 c_changes_13 hm13 hv13_0 heq
      have heq := heq.trans (L_X1_start_13.eq_2 _ _ _ _ _ _ _ _ _ _ _ _ _ )
      refine g_iload_n X 0 rfl rfl dX1_start_13 ?_
      refine g_aload_n X 1 rfl rfl dX1_start_14 ?_
      refine g_get (C := RX1) (T := TX1) (N := 11) (ci := 1) X hi_X1_start_X1 0 rfl rfl 1 (by decide) (X.2.2.2.2.1 (.fieldLink RX1 18 "NineteenSecondsLeft$Lamp" "changes" "[I") (List.mem_of_getElem? (i := 2) rfl)) rfl rfl dX1_start_15 ?_
      refine g_alen (v := 6) X 1 rfl rfl dX1_start_18 ?_
      refine g_icmp_ge X 35 dX1_start_19 (by decide) (fun c19 => ?_) (fun c19 => ?_)
      · have heq := heq.trans (if_pos c19)
        exact hK v2_13 c_changes_13 heq
      · have heq := heq.trans (if_neg c19)
        refine g_aload_n X 1 rfl rfl dX1_start_22 ?_
        refine g_get (C := RX1) (T := TX1) (N := 11) (ci := 1) X hi_X1_start_X1 0 rfl rfl 1 (by decide) (X.2.2.2.2.1 (.fieldLink RX1 18 "NineteenSecondsLeft$Lamp" "changes" "[I") (List.mem_of_getElem? (i := 2) rfl)) rfl rfl dX1_start_23 ?_
        refine g_iload_n X 0 rfl rfl dX1_start_26 ?_
        refine g_iconst (v := 0) X (by decide) dX1_start_27 ?_
        refine g_iast (ws' := [(a_, .inr (1, [.ref a_squad, .ref a_changes, .int c_reboundTenths, .int c_lawInForce, .int c_drawTenths, .ref a_values, .ref a_bests, .int c_solvedRows, .ref a_rowTenths, .ref a_hitValues, .ref a_missValues])), (a_changes, .inl (cI, 6, .inl (upd c_changes_13 v2_13.toNatClampNeg 0))), (a_o, .inr (0, [.ref a_o_told, .ref a_o_squad])), (a_o_told, .inl (cI, 10, .inl c_o_told)), (a_squad, .inr (3, [.ref a_squad_facts, .int u8.1])), (a_squad_facts, .inl (cI, 30, .inl u8.2)), (a_o_squad, .inr (3, [.ref a_o_squad_facts, .int c_o_squad_size])), (a_o_squad_facts, .inl (cI, 30, .inl c_o_squad_facts))]) X 1 rfl (g_vin (by decide) hv13_0 (g_nn c19)) dX1_start_28 rfl ?_
        refine g_iinc (v := v2_13 + 1) (lv' := [(2, .int (v2_13 + 1)), (0, .ref a_), (1, .ref a_o)]) X 0 rfl rfl (by decide) rfl dX1_start_29 ?_
        refine g_goto (tgt := 13) X (by decide) dX1_start_32 ?_
        exact ih13 (v2_13 + 1) (upd c_changes_13 v2_13.toNatClampNeg 0) (g_upm c19 hm13) (g_up0 hv13_0 c19) heq
  refine lp13 _ (fun v2_13 c_changes_13 heq => ?_) _ 0 c_changes (Nat.lt_succ_self _) (by decide) heq
  refine g_aload_n X 1 rfl rfl dX1_start_35 ?_
  refine g_aload_n X 2 rfl rfl dX1_start_36 ?_
  refine g_bipush (v := 7) X (by decide) dX1_start_37 ?_
  refine g_callVi (C := RX0) (T := TX0) (N := 2) (ci := 0) (As := [.int 7]) (st := [.ref a_]) (wr := [(a_, .inr (1, [.ref a_squad, .ref a_changes, .int c_reboundTenths, .int c_lawInForce, .int c_drawTenths, .ref a_values, .ref a_bests, .int c_solvedRows, .ref a_rowTenths, .ref a_hitValues, .ref a_missValues])), (a_changes, .inl (cI, 6, .inl c_changes_13)), (a_squad, .inr (3, [.ref a_squad_facts, .int u8.1])), (a_squad_facts, .inl (cI, 30, .inl u8.2)), (a_o_squad, .inr (3, [.ref a_o_squad_facts, .int c_o_squad_size])), (a_o_squad_facts, .inl (cI, 30, .inl c_o_squad_facts))]) X (k_X0_told l D cI kA kV a_o a_o_told a_o_squad c_o_told 7) (cwV 1 X.2.2.2.2.1 gX1_start_X0_told rfl rfl rfl (by decide +kernel) ⟨Nat.le_of_ble_eq_true rfl, Nat.le_of_ble_eq_true rfl⟩) 2 rfl rfl [2, 3] [0, 1, 4, 5, 6, 7] rfl rfl rfl rfl (by decide) rfl (Nat.le_of_ble_eq_true rfl) ⟨Nat.le_of_ble_eq_true rfl, Nat.le_of_ble_eq_true rfl⟩ dX1_start_39 rfl (fun r39 u39 hw39 => ?_)
  refine g_eqs (ws' := [(a_, .inr (1, [.ref a_squad, .ref a_changes, .int c_reboundTenths, .int c_lawInForce, .int c_drawTenths, .ref a_values, .ref a_bests, .int c_solvedRows, .ref a_rowTenths, .ref a_hitValues, .ref a_missValues])), (a_changes, .inl (cI, 6, .inl c_changes_13)), (a_squad, .inr (3, [.ref a_squad_facts, .int u8.1])), (a_squad_facts, .inl (cI, 30, .inl u8.2)), (a_o_squad, .inr (3, [.ref a_o_squad_facts, .int c_o_squad_size])), (a_o_squad_facts, .inl (cI, 30, .inl c_o_squad_facts)), (a_o, .inr (0, [.ref a_o_told, .ref a_o_squad])), (a_o_told, .inl (cI, 10, .inl c_o_told))]) rfl ?_
  have heq := g_let heq hw39
  refine g_put (C := RX1) (T := TX1) (N := 11) (ci := 1) (ws' := [(a_, .inr (1, [.ref a_squad, .ref a_changes, .int r39, .int c_lawInForce, .int c_drawTenths, .ref a_values, .ref a_bests, .int c_solvedRows, .ref a_rowTenths, .ref a_hitValues, .ref a_missValues])), (a_changes, .inl (cI, 6, .inl c_changes_13)), (a_squad, .inr (3, [.ref a_squad_facts, .int u8.1])), (a_squad_facts, .inl (cI, 30, .inl u8.2)), (a_o_squad, .inr (3, [.ref a_o_squad_facts, .int c_o_squad_size])), (a_o_squad_facts, .inl (cI, 30, .inl c_o_squad_facts)), (a_o, .inr (0, [.ref a_o_told, .ref a_o_squad])), (a_o_told, .inl (cI, 10, .inl c_o_told))]) X hi_X1_start_X1 tyX1 tyX1_ok nmX1 0 rfl rfl 2 (by decide) (X.2.2.2.2.1 (.fieldLink RX1 22 "NineteenSecondsLeft$Lamp" "reboundTenths" "I") (List.mem_of_getElem? (i := 3) rfl)) rfl rfl rfl rfl (Nat.le_of_ble_eq_true rfl) dX1_start_42 rfl ?_
  refine g_aload_n X 1 rfl rfl dX1_start_45 ?_
  refine g_aload_n X 2 rfl rfl dX1_start_46 ?_
  refine g_bipush (v := 8) X (by decide) dX1_start_47 ?_
  refine g_callVi (C := RX0) (T := TX0) (N := 2) (ci := 0) (As := [.int 8]) (st := [.ref a_]) (wr := [(a_, .inr (1, [.ref a_squad, .ref a_changes, .int r39, .int c_lawInForce, .int c_drawTenths, .ref a_values, .ref a_bests, .int c_solvedRows, .ref a_rowTenths, .ref a_hitValues, .ref a_missValues])), (a_changes, .inl (cI, 6, .inl c_changes_13)), (a_squad, .inr (3, [.ref a_squad_facts, .int u8.1])), (a_squad_facts, .inl (cI, 30, .inl u8.2)), (a_o_squad, .inr (3, [.ref a_o_squad_facts, .int c_o_squad_size])), (a_o_squad_facts, .inl (cI, 30, .inl c_o_squad_facts))]) X (k_X0_told l D cI kA kV a_o a_o_told a_o_squad c_o_told 8) (cwV 1 X.2.2.2.2.1 gX1_start_X0_told rfl rfl rfl (by decide +kernel) ⟨Nat.le_of_ble_eq_true rfl, Nat.le_of_ble_eq_true rfl⟩) 6 rfl rfl [6, 7] [0, 1, 2, 3, 4, 5] rfl rfl rfl rfl (by decide) rfl (Nat.le_of_ble_eq_true rfl) ⟨Nat.le_of_ble_eq_true rfl, Nat.le_of_ble_eq_true rfl⟩ dX1_start_49 rfl (fun r49 u49 hw49 => ?_)
  refine g_eqs (ws' := [(a_, .inr (1, [.ref a_squad, .ref a_changes, .int r39, .int c_lawInForce, .int c_drawTenths, .ref a_values, .ref a_bests, .int c_solvedRows, .ref a_rowTenths, .ref a_hitValues, .ref a_missValues])), (a_changes, .inl (cI, 6, .inl c_changes_13)), (a_squad, .inr (3, [.ref a_squad_facts, .int u8.1])), (a_squad_facts, .inl (cI, 30, .inl u8.2)), (a_o_squad, .inr (3, [.ref a_o_squad_facts, .int c_o_squad_size])), (a_o_squad_facts, .inl (cI, 30, .inl c_o_squad_facts)), (a_o, .inr (0, [.ref a_o_told, .ref a_o_squad])), (a_o_told, .inl (cI, 10, .inl c_o_told))]) rfl ?_
  have heq := g_let heq hw49
  refine g_put (C := RX1) (T := TX1) (N := 11) (ci := 1) (ws' := [(a_, .inr (1, [.ref a_squad, .ref a_changes, .int r39, .int r49, .int c_drawTenths, .ref a_values, .ref a_bests, .int c_solvedRows, .ref a_rowTenths, .ref a_hitValues, .ref a_missValues])), (a_changes, .inl (cI, 6, .inl c_changes_13)), (a_squad, .inr (3, [.ref a_squad_facts, .int u8.1])), (a_squad_facts, .inl (cI, 30, .inl u8.2)), (a_o_squad, .inr (3, [.ref a_o_squad_facts, .int c_o_squad_size])), (a_o_squad_facts, .inl (cI, 30, .inl c_o_squad_facts)), (a_o, .inr (0, [.ref a_o_told, .ref a_o_squad])), (a_o_told, .inl (cI, 10, .inl c_o_told))]) X hi_X1_start_X1 tyX1 tyX1_ok nmX1 0 rfl rfl 3 (by decide) (X.2.2.2.2.1 (.fieldLink RX1 26 "NineteenSecondsLeft$Lamp" "lawInForce" "I") (List.mem_of_getElem? (i := 4) rfl)) rfl rfl rfl rfl (Nat.le_of_ble_eq_true rfl) dX1_start_52 rfl ?_
  refine g_aload_n X 1 rfl rfl dX1_start_55 ?_
  refine g_aload_n X 2 rfl rfl dX1_start_56 ?_
  refine g_bipush (v := 9) X (by decide) dX1_start_57 ?_
  refine g_callVi (C := RX0) (T := TX0) (N := 2) (ci := 0) (As := [.int 9]) (st := [.ref a_]) (wr := [(a_, .inr (1, [.ref a_squad, .ref a_changes, .int r39, .int r49, .int c_drawTenths, .ref a_values, .ref a_bests, .int c_solvedRows, .ref a_rowTenths, .ref a_hitValues, .ref a_missValues])), (a_changes, .inl (cI, 6, .inl c_changes_13)), (a_squad, .inr (3, [.ref a_squad_facts, .int u8.1])), (a_squad_facts, .inl (cI, 30, .inl u8.2)), (a_o_squad, .inr (3, [.ref a_o_squad_facts, .int c_o_squad_size])), (a_o_squad_facts, .inl (cI, 30, .inl c_o_squad_facts))]) X (k_X0_told l D cI kA kV a_o a_o_told a_o_squad c_o_told 9) (cwV 1 X.2.2.2.2.1 gX1_start_X0_told rfl rfl rfl (by decide +kernel) ⟨Nat.le_of_ble_eq_true rfl, Nat.le_of_ble_eq_true rfl⟩) 6 rfl rfl [6, 7] [0, 1, 2, 3, 4, 5] rfl rfl rfl rfl (by decide) rfl (Nat.le_of_ble_eq_true rfl) ⟨Nat.le_of_ble_eq_true rfl, Nat.le_of_ble_eq_true rfl⟩ dX1_start_59 rfl (fun r59 u59 hw59 => ?_)
  refine g_eqs (ws' := [(a_, .inr (1, [.ref a_squad, .ref a_changes, .int r39, .int r49, .int c_drawTenths, .ref a_values, .ref a_bests, .int c_solvedRows, .ref a_rowTenths, .ref a_hitValues, .ref a_missValues])), (a_changes, .inl (cI, 6, .inl c_changes_13)), (a_squad, .inr (3, [.ref a_squad_facts, .int u8.1])), (a_squad_facts, .inl (cI, 30, .inl u8.2)), (a_o_squad, .inr (3, [.ref a_o_squad_facts, .int c_o_squad_size])), (a_o_squad_facts, .inl (cI, 30, .inl c_o_squad_facts)), (a_o, .inr (0, [.ref a_o_told, .ref a_o_squad])), (a_o_told, .inl (cI, 10, .inl c_o_told))]) rfl ?_
  have heq := g_let heq hw59
  refine g_put (C := RX1) (T := TX1) (N := 11) (ci := 1) (ws' := [(a_, .inr (1, [.ref a_squad, .ref a_changes, .int r39, .int r49, .int r59, .ref a_values, .ref a_bests, .int c_solvedRows, .ref a_rowTenths, .ref a_hitValues, .ref a_missValues])), (a_changes, .inl (cI, 6, .inl c_changes_13)), (a_squad, .inr (3, [.ref a_squad_facts, .int u8.1])), (a_squad_facts, .inl (cI, 30, .inl u8.2)), (a_o_squad, .inr (3, [.ref a_o_squad_facts, .int c_o_squad_size])), (a_o_squad_facts, .inl (cI, 30, .inl c_o_squad_facts)), (a_o, .inr (0, [.ref a_o_told, .ref a_o_squad])), (a_o_told, .inl (cI, 10, .inl c_o_told))]) X hi_X1_start_X1 tyX1 tyX1_ok nmX1 0 rfl rfl 4 (by decide) (X.2.2.2.2.1 (.fieldLink RX1 29 "NineteenSecondsLeft$Lamp" "drawTenths" "I") (List.mem_of_getElem? (i := 5) rfl)) rfl rfl rfl rfl (Nat.le_of_ble_eq_true rfl) dX1_start_62 rfl ?_
  refine g_aload_n X 1 rfl rfl dX1_start_65 ?_
  refine g_iconst (v := 0) X (by decide) dX1_start_66 ?_
  refine g_put (C := RX1) (T := TX1) (N := 11) (ci := 1) (ws' := [(a_, .inr (1, [.ref a_squad, .ref a_changes, .int r39, .int r49, .int r59, .ref a_values, .ref a_bests, .int 0, .ref a_rowTenths, .ref a_hitValues, .ref a_missValues])), (a_changes, .inl (cI, 6, .inl c_changes_13)), (a_squad, .inr (3, [.ref a_squad_facts, .int u8.1])), (a_squad_facts, .inl (cI, 30, .inl u8.2)), (a_o_squad, .inr (3, [.ref a_o_squad_facts, .int c_o_squad_size])), (a_o_squad_facts, .inl (cI, 30, .inl c_o_squad_facts)), (a_o, .inr (0, [.ref a_o_told, .ref a_o_squad])), (a_o_told, .inl (cI, 10, .inl c_o_told))]) X hi_X1_start_X1 tyX1 tyX1_ok nmX1 0 rfl rfl 7 (by decide) (X.2.2.2.2.1 (.fieldLink RX1 38 "NineteenSecondsLeft$Lamp" "solvedRows" "I") (List.mem_of_getElem? (i := 6) rfl)) rfl rfl rfl rfl (Nat.le_of_ble_eq_true rfl) dX1_start_67 rfl ?_
  exact g_vret X hAA hQQ (r39, r49, r59, 0, u8.1, u8.2, c_changes_13) (heq.symm.trans hXX) [0, 2, 3, 1, 6, 7, 4, 5] rfl rfl hr dX1_start_70
