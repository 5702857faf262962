theorem g_sLenB (i : Nat) : g_sLen.getD i 0 ≤ 6 := by
  match i with
  | 0 => decide
  | 1 => decide
  | 2 => decide
  | 3 => decide
  | 4 => decide
  | 5 => decide
  | n + 6 => exact Nat.zero_le _
theorem g_vinS {i : Nat} {k : Int32} (hi : i < g_sN) (h0 : ¬ k < 0) (h1 : k < nI (g_sLen.getD i 0)) : vp_in k (g_sLen.getD i 0) := by
  have hb := g_sLenB i
  exact g_vin (nI_toInt (by omega)) (g_n0 h0) h1
theorem g_narC (x : Int32) : narrow .char (.int (x.toUInt32 % 65536).toInt32) = .int (x.toUInt32 % 65536).toInt32 := by
  show Value.int _ = Value.int _
  congr 1
  have e : x.toUInt32 % 65536 % 65536 = x.toUInt32 % 65536 := by
    apply UInt32.toNat_inj.mp
    simp only [UInt32.toNat_mod]
    have z : (65536 : UInt32).toNat = 65536 := by decide
    rw [z]
    omega
  simp [e]

def f_J0_coder_7d493 (i : Nat) : Int32 :=
  0
set_option maxHeartbeats 4000000 in
set_option maxRecDepth 100000 in
theorem k_J0_coder_7d493 (l : Launch) (D : va_G) (cI : ClassId) (kA kV : Nat → Nat) (i : Nat) (hi : i < g_sN) :
    g_MI l D cI kA kV yJ0_coder_7d493 wsJ0_coder_7d493 { frames := 0, cells := 0, slots := 0, locals := 0 } [.ref (kA i)] [] (fun u : Unit => []) (fun (r : Int32) (u : Unit) => r = f_J0_coder_7d493 i) := by
  obtain ⟨XX, hXX⟩ : ∃ z, z = f_J0_coder_7d493 i := ⟨_, rfl⟩
  have heq := hXX.trans (f_J0_coder_7d493.eq_def i)
  refine g_startI (lv := [(0, .ref (kA i))]) RJ0 rfl rfl rfl (Nat.le_of_ble_eq_true rfl) rfl (fun p e s m args below meth c AA QQ hAA hQQ X hr hmn => ?_)
  refine g_gsCS X (X.2.2.2.2.1 (.fieldLink RJ0 38 "java/lang/String" "COMPACT_STRINGS" "Z") (List.mem_of_getElem? (i := 1) rfl)) dJ0_coder_7d493_0 ?_
  refine g_if_eq X 13 dJ0_coder_7d493_3 (by decide) (fun c3 => absurd c3 (by decide)) (fun c3 => ?_)
  refine g_aload_n X 0 rfl rfl dJ0_coder_7d493_6 ?_
  refine g_scod X hi (X.2.2.2.2.1 (.fieldLink RJ0 15 "java/lang/String" "coder" "B") (List.mem_of_getElem? (i := 2) rfl)) dJ0_coder_7d493_7 ?_
  refine g_goto (tgt := 14) X (by decide) dJ0_coder_7d493_10 ?_
  exact g_zret X hAA hQQ () (heq.symm.trans hXX) [] rfl rfl hr rfl dJ0_coder_7d493_14

def f_J0_isLatin1_aae02 (i : Nat) : Int32 :=
  1
set_option maxHeartbeats 4000000 in
set_option maxRecDepth 100000 in
theorem k_J0_isLatin1_aae02 (l : Launch) (D : va_G) (cI : ClassId) (kA kV : Nat → Nat) (i : Nat) (hi : i < g_sN) :
    g_MI l D cI kA kV yJ0_isLatin1_aae02 wsJ0_isLatin1_aae02 { frames := 0, cells := 0, slots := 0, locals := 0 } [.ref (kA i)] [] (fun u : Unit => []) (fun (r : Int32) (u : Unit) => r = f_J0_isLatin1_aae02 i) := by
  obtain ⟨XX, hXX⟩ : ∃ z, z = f_J0_isLatin1_aae02 i := ⟨_, rfl⟩
  have heq := hXX.trans (f_J0_isLatin1_aae02.eq_def i)
  refine g_startI (lv := [(0, .ref (kA i))]) RJ0 rfl rfl rfl (Nat.le_of_ble_eq_true rfl) rfl (fun p e s m args below meth c AA QQ hAA hQQ X hr hmn => ?_)
  refine g_gsCS X (X.2.2.2.2.1 (.fieldLink RJ0 38 "java/lang/String" "COMPACT_STRINGS" "Z") (List.mem_of_getElem? (i := 1) rfl)) dJ0_isLatin1_aae02_0 ?_
  refine g_if_eq X 17 dJ0_isLatin1_aae02_3 (by decide) (fun c3 => absurd c3 (by decide)) (fun c3 => ?_)
  refine g_aload_n X 0 rfl rfl dJ0_isLatin1_aae02_6 ?_
  refine g_scod X hi (X.2.2.2.2.1 (.fieldLink RJ0 15 "java/lang/String" "coder" "B") (List.mem_of_getElem? (i := 2) rfl)) dJ0_isLatin1_aae02_7 ?_
  refine g_if_ne X 17 dJ0_isLatin1_aae02_10 (by decide) (fun c10 => absurd c10 (by decide)) (fun c10 => ?_)
  refine g_iconst (v := 1) X (by decide) dJ0_isLatin1_aae02_13 ?_
  refine g_goto (tgt := 18) X (by decide) dJ0_isLatin1_aae02_14 ?_
  exact g_zret X hAA hQQ () (heq.symm.trans hXX) [] rfl rfl hr rfl dJ0_isLatin1_aae02_18

def f_J0_length_8abf5 (i : Nat) : Int32 :=
  g_lt (f_J0_coder_7d493 i) (fun r6 => (nI (g_sLen.getD i 0)) >>> (r6 &&& 31))
set_option maxHeartbeats 4000000 in
set_option maxRecDepth 100000 in
theorem k_J0_length_8abf5 (l : Launch) (D : va_G) (cI : ClassId) (kA kV : Nat → Nat) (i : Nat) (hi : i < g_sN) :
    g_MI l D cI kA kV yJ0_length_8abf5 wsJ0_length_8abf5 { frames := 1, cells := 0, slots := 0, locals := 20 } [.ref (kA i)] [] (fun u : Unit => []) (fun (r : Int32) (u : Unit) => r = f_J0_length_8abf5 i) := by
  obtain ⟨XX, hXX⟩ : ∃ z, z = f_J0_length_8abf5 i := ⟨_, rfl⟩
  have heq := hXX.trans (f_J0_length_8abf5.eq_def i)
  refine g_startI (lv := [(0, .ref (kA i))]) RJ0 rfl rfl rfl (Nat.le_of_ble_eq_true rfl) rfl (fun p e s m args below meth c AA QQ hAA hQQ X hr hmn => ?_)
  refine g_aload_n X 0 rfl rfl dJ0_length_8abf5_0 ?_
  refine g_sval X hi (X.2.2.2.2.1 (.fieldLink RJ0 9 "java/lang/String" "value" "[B") (List.mem_of_getElem? (i := 1) rfl)) dJ0_length_8abf5_1 ?_
  refine g_blen X hi dJ0_length_8abf5_4 ?_
  refine g_aload_n X 0 rfl rfl dJ0_length_8abf5_5 ?_
  refine g_callTi (As := []) (st := [.int (nI (g_sLen.getD i 0))]) (wr := ([] : va_W)) X (k_J0_coder_7d493 l D cI kA kV i hi) (cwV 0 X.2.2.2.2.1 gJ0_length_8abf5_J0_coder_7d493 rfl rfl rfl (by decide +kernel) ⟨Nat.le_of_ble_eq_true rfl, Nat.le_of_ble_eq_true rfl⟩) hi [] [] rfl rfl rfl rfl (by decide) rfl (Nat.le_of_ble_eq_true rfl) ⟨Nat.le_of_ble_eq_true rfl, Nat.le_of_ble_eq_true rfl⟩ dJ0_length_8abf5_6 rfl (fun r6 u6 hw6 => ?_)
  have heq := g_let heq hw6
  refine g_ishr X dJ0_length_8abf5_9 ?_
  exact g_iret X hAA hQQ () (heq.symm.trans hXX) [] rfl rfl hr dJ0_length_8abf5_10

theorem fl_len (i : Nat) : f_J0_length_8abf5 i = nI (g_sLen.getD i 0) := by
  show nI (g_sLen.getD i 0) >>> ((0 : Int32) &&& 31) = _
  rw [show ((0 : Int32) &&& 31) = 0 from by decide]
  exact Int32.shiftRight_zero

def f_J0_isEmpty_aae02 (i : Nat) : Int32 :=
  (if nI (g_sLen.getD i 0) = 0 then 1 else 0)
set_option maxHeartbeats 4000000 in
set_option maxRecDepth 100000 in
theorem k_J0_isEmpty_aae02 (l : Launch) (D : va_G) (cI : ClassId) (kA kV : Nat → Nat) (i : Nat) (hi : i < g_sN) :
    g_MI l D cI kA kV yJ0_isEmpty_aae02 wsJ0_isEmpty_aae02 { frames := 0, cells := 0, slots := 0, locals := 0 } [.ref (kA i)] [] (fun u : Unit => []) (fun (r : Int32) (u : Unit) => r = f_J0_isEmpty_aae02 i) := by
  obtain ⟨XX, hXX⟩ : ∃ z, z = f_J0_isEmpty_aae02 i := ⟨_, rfl⟩
  have heq := hXX.trans (f_J0_isEmpty_aae02.eq_def i)
  refine g_startI (lv := [(0, .ref (kA i))]) RJ0 rfl rfl rfl (Nat.le_of_ble_eq_true rfl) rfl (fun p e s m args below meth c AA QQ hAA hQQ X hr hmn => ?_)
  refine g_aload_n X 0 rfl rfl dJ0_isEmpty_aae02_0 ?_
  refine g_sval X hi (X.2.2.2.2.1 (.fieldLink RJ0 9 "java/lang/String" "value" "[B") (List.mem_of_getElem? (i := 1) rfl)) dJ0_isEmpty_aae02_1 ?_
  refine g_blen X hi dJ0_isEmpty_aae02_4 ?_
  refine g_if_ne X 12 dJ0_isEmpty_aae02_5 (by decide) (fun c5 => ?_) (fun c5 => ?_)
  · have heq := heq.trans (if_neg c5)
    refine g_iconst (v := 0) X (by decide) dJ0_isEmpty_aae02_12 ?_
    exact g_zret X hAA hQQ () (heq.symm.trans hXX) [] rfl rfl hr rfl dJ0_isEmpty_aae02_13
  · have heq := heq.trans (if_pos c5)
    refine g_iconst (v := 1) X (by decide) dJ0_isEmpty_aae02_8 ?_
    refine g_goto (tgt := 13) X (by decide) dJ0_isEmpty_aae02_9 ?_
    exact g_zret X hAA hQQ () (heq.symm.trans hXX) [] rfl rfl hr rfl dJ0_isEmpty_aae02_13

def f_J3_checkIndex_8e157 (p0 : Int32) (p1 : Int32) : Int32 :=
  p0
set_option maxHeartbeats 4000000 in
set_option maxRecDepth 100000 in
theorem k_J3_checkIndex_8e157 (l : Launch) (D : va_G) (cI : ClassId) (kA kV : Nat → Nat) (fv : Value) (p0 : Int32) (p1 : Int32) (hfv : fv = .null ∨ ∃ t : Nat, fv = .ref t) (h0 : ¬ p0 < 0) (h1 : p0 < p1) :
    g_MI l D cI kA kV yJ3_checkIndex_8e157 wsJ3_checkIndex_8e157 { frames := 0, cells := 0, slots := 0, locals := 0 } [.int p0, .int p1, fv] [] (fun u : Unit => []) (fun (r : Int32) (u : Unit) => r = f_J3_checkIndex_8e157 p0 p1) := by
  obtain ⟨XX, hXX⟩ : ∃ z, z = f_J3_checkIndex_8e157 p0 p1 := ⟨_, rfl⟩
  have heq := hXX.trans (f_J3_checkIndex_8e157.eq_def p0 p1)
  rcases hfv with rfl | ⟨tv, rfl⟩
  ·
    refine g_startI (lv := [(0, .int p0), (1, .int p1), (2, .null)]) RJ3 rfl rfl rfl (Nat.le_of_ble_eq_true rfl) rfl (fun p e s m args below meth c AA QQ hAA hQQ X hr hmn => ?_)
    refine g_iload_n X 0 rfl rfl dJ3_checkIndex_8e157_0 ?_
    refine g_if_lt X 9 dJ3_checkIndex_8e157_1 (by decide) (fun c1 => absurd c1 h0) (fun c1 => ?_)
    refine g_iload_n X 0 rfl rfl dJ3_checkIndex_8e157_4 ?_
    refine g_iload_n X 1 rfl rfl dJ3_checkIndex_8e157_5 ?_
    refine g_icmp_lt X 16 dJ3_checkIndex_8e157_6 (by decide) (fun c6 => ?_) (fun c6 => absurd h1 c6)
    refine g_iload_n X 0 rfl rfl dJ3_checkIndex_8e157_16 ?_
    exact g_iret X hAA hQQ () (heq.symm.trans hXX) [] rfl rfl hr dJ3_checkIndex_8e157_17
  ·
    refine g_startI (lv := [(0, .int p0), (1, .int p1), (2, .ref tv)]) RJ3 rfl rfl rfl (Nat.le_of_ble_eq_true rfl) rfl (fun p e s m args below meth c AA QQ hAA hQQ X hr hmn => ?_)
    refine g_iload_n X 0 rfl rfl dJ3_checkIndex_8e157_0 ?_
    refine g_if_lt X 9 dJ3_checkIndex_8e157_1 (by decide) (fun c1 => absurd c1 h0) (fun c1 => ?_)
    refine g_iload_n X 0 rfl rfl dJ3_checkIndex_8e157_4 ?_
    refine g_iload_n X 1 rfl rfl dJ3_checkIndex_8e157_5 ?_
    refine g_icmp_lt X 16 dJ3_checkIndex_8e157_6 (by decide) (fun c6 => ?_) (fun c6 => absurd h1 c6)
    refine g_iload_n X 0 rfl rfl dJ3_checkIndex_8e157_16 ?_
    exact g_iret X hAA hQQ () (heq.symm.trans hXX) [] rfl rfl hr dJ3_checkIndex_8e157_17

def f_J0_checkIndex_df160 (p0 : Int32) (p1 : Int32) : Unit :=
  g_lt (f_J3_checkIndex_8e157 p0 p1) (fun r5 => ())
set_option maxHeartbeats 4000000 in
set_option maxRecDepth 100000 in
theorem k_J0_checkIndex_df160 (l : Launch) (D : va_G) (cI : ClassId) (kA kV : Nat → Nat) (p0 : Int32) (p1 : Int32) (h0 : ¬ p0 < 0) (h1 : p0 < p1) :
    g_MV l D cI kA kV yJ0_checkIndex_df160 wsJ0_checkIndex_df160 { frames := 1, cells := 0, slots := 0, locals := 22 } [.int p0, .int p1] [] (fun u : Unit => []) (fun u : Unit => u = f_J0_checkIndex_df160 p0 p1) := by
  obtain ⟨XX, hXX⟩ : ∃ z, z = f_J0_checkIndex_df160 p0 p1 := ⟨_, rfl⟩
  have heq := hXX.trans (f_J0_checkIndex_df160.eq_def p0 p1)
  refine g_startV (lv := [(0, .int p0), (1, .int p1)]) RJ0 rfl rfl rfl (Nat.le_of_ble_eq_true rfl) rfl (fun p e s m args below meth c AA QQ hAA hQQ X hr hmn => ?_)
  refine g_iload_n X 0 rfl rfl dJ0_checkIndex_df160_0 ?_
  refine g_iload_n X 1 rfl rfl dJ0_checkIndex_df160_1 ?_
  refine g_gsFmt X (X.2.2.2.2.1 (.fieldLink RJ0 1053 "jdk/internal/util/Preconditions" "SIOOBE_FORMATTER" "Ljava/util/function/BiFunction;") (List.mem_of_getElem? (i := 1) rfl)) dJ0_checkIndex_df160_2 (fun z2 hz2 => ?_)
  refine g_callSi (As := [.int p0, .int p1, z2]) (st := []) (wr := ([] : va_W)) X (k_J3_checkIndex_8e157 l D cI kA kV z2 p0 p1 hz2 h0 h1) (va_cwS 3 X.2.2.2.2.1 gJ0_checkIndex_df160_J3_checkIndex_8e157 rfl rfl rfl (by decide +kernel) ⟨Nat.le_of_ble_eq_true rfl, Nat.le_of_ble_eq_true rfl⟩) [] [] rfl rfl rfl rfl (by decide) rfl (Nat.le_of_ble_eq_true rfl) ⟨Nat.le_of_ble_eq_true rfl, Nat.le_of_ble_eq_true rfl⟩ dJ0_checkIndex_df160_5 rfl (fun r5 u5 hw5 => ?_)
  have heq := g_let heq hw5
  refine g_pop X rfl dJ0_checkIndex_df160_8 ?_
  exact g_vret X hAA hQQ () (heq.symm.trans hXX) [] rfl rfl hr dJ0_checkIndex_df160_9

def f_J1_charAt_3b067 (i : Nat)  (p1 : Int32) : Int32 :=
  ((((g_sByt.getD i []).getD p1.toNatClampNeg 0) &&& 255).toUInt32 % 65536).toInt32
set_option maxHeartbeats 4000000 in
set_option maxRecDepth 100000 in
theorem k_J1_charAt_3b067 (l : Launch) (D : va_G) (cI : ClassId) (kA kV : Nat → Nat) (i : Nat) (p1 : Int32) (hi : i < g_sN) (h0 : ¬ p1 < 0) (h1 : p1 < nI (g_sLen.getD i 0)) :
    g_MI l D cI kA kV yJ1_charAt_3b067 wsJ1_charAt_3b067 { frames := 2, cells := 0, slots := 0, locals := 43 } [.ref (kV i), .int p1] [] (fun u : Unit => []) (fun (r : Int32) (u : Unit) => r = f_J1_charAt_3b067 i p1) := by
  obtain ⟨XX, hXX⟩ : ∃ z, z = f_J1_charAt_3b067 i p1 := ⟨_, rfl⟩
  have heq := hXX.trans (f_J1_charAt_3b067.eq_def i p1)
  refine g_startI (lv := [(0, .ref (kV i)), (1, .int p1)]) RJ1 rfl rfl rfl (Nat.le_of_ble_eq_true rfl) rfl (fun p e s m args below meth c AA QQ hAA hQQ X hr hmn => ?_)
  refine g_iload_n X 1 rfl rfl dJ1_charAt_3b067_0 ?_
  refine g_aload_n X 0 rfl rfl dJ1_charAt_3b067_1 ?_
  refine g_blen X hi dJ1_charAt_3b067_2 ?_
  refine g_callSv (As := [.int p1, .int (nI (g_sLen.getD i 0))]) (st := []) (wr := ([] : va_W)) X (k_J0_checkIndex_df160 l D cI kA kV p1 (nI (g_sLen.getD i 0)) h0 h1) (va_cwS 2 X.2.2.2.2.1 gJ1_charAt_3b067_J0_checkIndex_df160 rfl rfl rfl (by decide +kernel) ⟨Nat.le_of_ble_eq_true rfl, Nat.le_of_ble_eq_true rfl⟩) [] [] rfl rfl rfl rfl (by decide) rfl (Nat.le_of_ble_eq_true rfl) ⟨Nat.le_of_ble_eq_true rfl, Nat.le_of_ble_eq_true rfl⟩ dJ1_charAt_3b067_3 rfl (fun u3 hw3 => ?_)
  refine g_aload_n X 0 rfl rfl dJ1_charAt_3b067_6 ?_
  refine g_iload_n X 1 rfl rfl dJ1_charAt_3b067_7 ?_
  refine g_bald X hi (g_vinS hi h0 h1) dJ1_charAt_3b067_8 ?_
  refine g_sipush (v := 255) X (by decide) dJ1_charAt_3b067_9 ?_
  refine g_iand X dJ1_charAt_3b067_12 ?_
  refine g_i2c X dJ1_charAt_3b067_13 ?_
  exact g_zret X hAA hQQ () (heq.symm.trans hXX) [] rfl rfl hr (g_narC _) dJ1_charAt_3b067_14

def f_J0_charAt_5068e (i : Nat)  (p1 : Int32) : Int32 :=
  g_lt (f_J0_isLatin1_aae02 i) (fun r1 => g_lt (f_J1_charAt_3b067 i p1) (fun r12 => r12))
set_option maxHeartbeats 4000000 in
set_option maxRecDepth 100000 in
theorem k_J0_charAt_5068e (l : Launch) (D : va_G) (cI : ClassId) (kA kV : Nat → Nat) (i : Nat) (p1 : Int32) (hi : i < g_sN) (h0 : ¬ p1 < 0) (h1 : p1 < nI (g_sLen.getD i 0)) :
    g_MI l D cI kA kV yJ0_charAt_5068e wsJ0_charAt_5068e { frames := 3, cells := 0, slots := 0, locals := 64 } [.ref (kA i), .int p1] [] (fun u : Unit => []) (fun (r : Int32) (u : Unit) => r = f_J0_charAt_5068e i p1) := by
  obtain ⟨XX, hXX⟩ : ∃ z, z = f_J0_charAt_5068e i p1 := ⟨_, rfl⟩
  have heq := hXX.trans (f_J0_charAt_5068e.eq_def i p1)
  refine g_startI (lv := [(0, .ref (kA i)), (1, .int p1)]) RJ0 rfl rfl rfl (Nat.le_of_ble_eq_true rfl) rfl (fun p e s m args below meth c AA QQ hAA hQQ X hr hmn => ?_)
  refine g_aload_n X 0 rfl rfl dJ0_charAt_5068e_0 ?_
  refine g_callTi (As := []) (st := []) (wr := ([] : va_W)) X (k_J0_isLatin1_aae02 l D cI kA kV i hi) (cwV 0 X.2.2.2.2.1 gJ0_charAt_5068e_J0_isLatin1_aae02 rfl rfl rfl (by decide +kernel) ⟨Nat.le_of_ble_eq_true rfl, Nat.le_of_ble_eq_true rfl⟩) hi [] [] rfl rfl rfl rfl (by decide) rfl (Nat.le_of_ble_eq_true rfl) ⟨Nat.le_of_ble_eq_true rfl, Nat.le_of_ble_eq_true rfl⟩ dJ0_charAt_5068e_1 rfl (fun r1 u1 hw1 => ?_)
  have heq := g_let heq hw1
  refine g_if_eq X 16 dJ0_charAt_5068e_4 (by decide) (fun c4 => absurd (hw1.symm.trans c4) (show ¬ (1 : Int32) = 0 from by decide)) (fun c4 => ?_)
  refine g_aload_n X 0 rfl rfl dJ0_charAt_5068e_7 ?_
  refine g_sval X hi (X.2.2.2.2.1 (.fieldLink RJ0 9 "java/lang/String" "value" "[B") (List.mem_of_getElem? (i := 1) rfl)) dJ0_charAt_5068e_8 ?_
  refine g_iload_n X 1 rfl rfl dJ0_charAt_5068e_11 ?_
  refine g_callSi (As := [.ref (kV i), .int p1]) (st := []) (wr := ([] : va_W)) X (k_J1_charAt_3b067 l D cI kA kV i p1 hi h0 h1) (va_cwS 2 X.2.2.2.2.1 gJ0_charAt_5068e_J1_charAt_3b067 rfl rfl rfl (by decide +kernel) ⟨Nat.le_of_ble_eq_true rfl, Nat.le_of_ble_eq_true rfl⟩) [] [] rfl rfl rfl rfl (by decide) rfl (Nat.le_of_ble_eq_true rfl) ⟨Nat.le_of_ble_eq_true rfl, Nat.le_of_ble_eq_true rfl⟩ dJ0_charAt_5068e_12 rfl (fun r12 u12 hw12 => ?_)
  have heq := g_let heq hw12
  exact g_zret X hAA hQQ () (heq.symm.trans hXX) [] rfl rfl hr (by rw [hw12]; exact g_narC _) dJ0_charAt_5068e_15
