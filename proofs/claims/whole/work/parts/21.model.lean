theorem g_vinSQ {i : Nat} {x B : Int32} (h0 : 0 ≤ x) (h1 : ¬ B ≤ x) (hB : B ≤ nI (g_sLen.getD i 0)) : vp_in x (g_sLen.getD i 0) := by
  have hb := g_sLenB i
  exact g_vinQ (nI_toInt (by omega)) h0 h1 hB
theorem g_max0 (x : Int32) : 0 ≤ g_maxf x 0 := by
  unfold g_maxf
  split
  · decide
  · rename_i h; exact Int32.not_lt.mp h
theorem g_minR (x y : Int32) : g_minf x y ≤ y := by
  unfold g_minf
  split
  · exact Int32.le_refl _
  · rename_i h; exact Int32.not_lt.mp h

def f_J1_canEncode_9a6ad (p0 : Int32) : Int32 :=
  (if p0 < 0 then 0 else (if 255 < p0 then 0 else 1))
set_option maxHeartbeats 4000000 in
set_option maxRecDepth 100000 in
theorem k_J1_canEncode_9a6ad (l : Launch) (D : va_G) (cI : ClassId) (kA kV : Nat → Nat) (p0 : Int32) :
    g_MI l D cI kA kV yJ1_canEncode_9a6ad wsJ1_canEncode_9a6ad { frames := 0, cells := 0, slots := 0, locals := 0 } [.int p0] [] (fun u : Unit => []) (fun (r : Int32) (u : Unit) => r = f_J1_canEncode_9a6ad p0) := by
  obtain ⟨XX, hXX⟩ : ∃ z, z = f_J1_canEncode_9a6ad p0 := ⟨_, rfl⟩
  have heq := hXX.trans (f_J1_canEncode_9a6ad.eq_def p0)
  refine g_startI (lv := [(0, .int p0)]) RJ1 rfl rfl rfl (Nat.le_of_ble_eq_true rfl) rfl (fun p e s m args below meth c AA QQ hAA hQQ X hr hmn => ?_)
  refine g_iload_n X 0 rfl rfl dJ1_canEncode_9a6ad_0 ?_
  refine g_if_lt X 15 dJ1_canEncode_9a6ad_1 (by decide) (fun c1 => ?_) (fun c1 => ?_)
  · have heq := heq.trans (if_pos c1)
    refine g_iconst (v := 0) X (by decide) dJ1_canEncode_9a6ad_15 ?_
    exact g_zret X hAA hQQ () (heq.symm.trans hXX) [] rfl rfl hr rfl dJ1_canEncode_9a6ad_16
  · have heq := heq.trans (if_neg c1)
    refine g_iload_n X 0 rfl rfl dJ1_canEncode_9a6ad_4 ?_
    refine g_sipush (v := 255) X (by decide) dJ1_canEncode_9a6ad_5 ?_
    refine g_icmp_gt X 15 dJ1_canEncode_9a6ad_8 (by decide) (fun c8 => ?_) (fun c8 => ?_)
    · have heq := heq.trans (if_pos c8)
      refine g_iconst (v := 0) X (by decide) dJ1_canEncode_9a6ad_15 ?_
      exact g_zret X hAA hQQ () (heq.symm.trans hXX) [] rfl rfl hr rfl dJ1_canEncode_9a6ad_16
    · have heq := heq.trans (if_neg c8)
      refine g_iconst (v := 1) X (by decide) dJ1_canEncode_9a6ad_11 ?_
      refine g_goto (tgt := 16) X (by decide) dJ1_canEncode_9a6ad_12 ?_
      exact g_zret X hAA hQQ () (heq.symm.trans hXX) [] rfl rfl hr rfl dJ1_canEncode_9a6ad_16

def L_J1_indexOfChar_4cfef_7 (i : Nat) (v1 : Int32) (v2 : Int32) (v3 : Int32) (v4 : Int32) (K : (Int32) → Int32) : Nat → (Int32) → Int32
  | 0, v5_7 => K v5_7
  | n + 1, v5_7 => (if v3 ≤ v5_7 then K v5_7 else (if (g_sByt.getD i []).getD v5_7.toNatClampNeg 0 = v4 then v5_7 else L_J1_indexOfChar_4cfef_7 i v1 v2 v3 v4 K n (v5_7 + 1)))
def f_J1_indexOfChar_4cfef (i : Nat)  (p1 : Int32) (p2 : Int32) (p3 : Int32) : Int32 :=
  L_J1_indexOfChar_4cfef_7 i p1 p2 p3 p1.toInt8.toInt32 (fun v5_7 => (-1)) (((p3 : Int32).toInt - (p2 : Int32).toInt).toNat + 1) p2
set_option maxHeartbeats 4000000 in
set_option maxRecDepth 100000 in
theorem k_J1_indexOfChar_4cfef (l : Launch) (D : va_G) (cI : ClassId) (kA kV : Nat → Nat) (i : Nat) (p1 : Int32) (p2 : Int32) (p3 : Int32) (hi : i < g_sN) (h0 : 0 ≤ p2) (h1 : p3 ≤ nI (g_sLen.getD i 0)) :
    g_MI l D cI kA kV yJ1_indexOfChar_4cfef wsJ1_indexOfChar_4cfef { frames := 0, cells := 0, slots := 0, locals := 0 } [.ref (kV i), .int p1, .int p2, .int p3] [] (fun u : Unit => []) (fun (r : Int32) (u : Unit) => r = f_J1_indexOfChar_4cfef i p1 p2 p3) := by
  obtain ⟨XX, hXX⟩ : ∃ z, z = f_J1_indexOfChar_4cfef i p1 p2 p3 := ⟨_, rfl⟩
  have heq := hXX.trans (f_J1_indexOfChar_4cfef.eq_def i p1 p2 p3)
  refine g_startI (lv := [(0, .ref (kV i)), (1, .int p1), (2, .int p2), (3, .int p3)]) RJ1 rfl rfl rfl (Nat.le_of_ble_eq_true rfl) rfl (fun p e s m args below meth c AA QQ hAA hQQ X hr hmn => ?_)
  refine g_iload_n X 1 rfl rfl dJ1_indexOfChar_4cfef_0 ?_
  refine g_i2b X dJ1_indexOfChar_4cfef_1 ?_
  refine g_istore (lv' := [(4, .int p1.toInt8.toInt32), (0, .ref (kV i)), (1, .int p1), (2, .int p2), (3, .int p3)]) X (by decide) rfl dJ1_indexOfChar_4cfef_2 ?_
  refine g_iload_n X 3 rfl rfl dJ1_indexOfChar_4cfef_4 ?_
  refine g_istore (lv' := [(5, .int p2), (4, .int p1.toInt8.toInt32), (0, .ref (kV i)), (1, .int p1), (2, .int p2), (3, .int p3)]) X (by decide) rfl dJ1_indexOfChar_4cfef_5 ?_
  have lp7 : ∀ (K : (Int32) → Int32), (∀ (v5_7 : Int32), XX = K v5_7 → GG p l e { frames := 0, cells := 0, slots := 0, locals := 0 } s m args below meth c D AA 0 0 QQ 6 [] [(5, .int v5_7), (4, .int p1.toInt8.toInt32), (0, .ref (kV i)), (1, .int p1), (2, .int p2), (3, .int p3)] 31 []) → ∀ (n : Nat) (v5_7 : Int32), ((p3 : Int32).toInt - (v5_7 : Int32).toInt).toNat < n → 0 ≤ v5_7 → XX = L_J1_indexOfChar_4cfef_7 i p1 p2 p3 p1.toInt8.toInt32 K n v5_7 → GG p l e { frames := 0, cells := 0, slots := 0, locals := 0 } s m args below meth c D AA 0 0 QQ 6 [] [(5, .int v5_7), (4, .int p1.toInt8.toInt32), (0, .ref (kV i)), (1, .int p1), (2, .int p2), (3, .int p3)] 7 [] := by
    intro K hK n
    induction n with
    | zero => intro v5_7 hm7; exact absurd hm7 (Nat.not_lt_zero _)
    | succ n ih7 =>
      intro v5_7 hm7 hv7_0 heq
      have heq := heq.trans (L_J1_indexOfChar_4cfef_7.eq_2 _ _ _ _ _ _ _ _ )
      refine g_iload X 0 rfl dJ1_indexOfChar_4cfef_7 ?_
      refine g_iload_n X 5 rfl rfl dJ1_indexOfChar_4cfef_9 ?_
      refine g_icmp_ge X 31 dJ1_indexOfChar_4cfef_10 (by decide) (fun c10 => ?_) (fun c10 => ?_)
      · have heq := heq.trans (if_pos c10)
        exact hK v5_7 heq
      · have heq := heq.trans (if_neg c10)
        refine g_aload_n X 2 rfl rfl dJ1_indexOfChar_4cfef_13 ?_
        refine g_iload X 0 rfl dJ1_indexOfChar_4cfef_14 ?_
        refine g_bald X hi (g_vinSQ hv7_0 c10 h1) dJ1_indexOfChar_4cfef_16 ?_
        refine g_iload X 1 rfl dJ1_indexOfChar_4cfef_17 ?_
        refine g_icmp_ne X 25 dJ1_indexOfChar_4cfef_19 (by decide) (fun c19 => ?_) (fun c19 => ?_)
        · have heq := heq.trans (if_neg c19)
          refine g_iinc (v := v5_7 + 1) (lv' := [(5, .int (v5_7 + 1)), (4, .int p1.toInt8.toInt32), (0, .ref (kV i)), (1, .int p1), (2, .int p2), (3, .int p3)]) X 0 rfl rfl (by decide) rfl dJ1_indexOfChar_4cfef_25 ?_
          refine g_goto (tgt := 7) X (by decide) dJ1_indexOfChar_4cfef_28 ?_
          exact ih7 (v5_7 + 1) (g_upm c10 hm7) (g_up0 hv7_0 c10) heq
        · have heq := heq.trans (if_pos c19)
          refine g_iload X 0 rfl dJ1_indexOfChar_4cfef_22 ?_
          exact g_iret X hAA hQQ () (heq.symm.trans hXX) [] rfl rfl hr dJ1_indexOfChar_4cfef_24
  refine lp7 _ (fun v5_7 heq => ?_) _ p2 (Nat.lt_succ_self _) h0 heq
  refine g_iconst (v := (-1)) X (by decide) dJ1_indexOfChar_4cfef_31 ?_
  exact g_iret X hAA hQQ () (heq.symm.trans hXX) [] rfl rfl hr dJ1_indexOfChar_4cfef_32

def f_J1_indexOf_4cfef (i : Nat)  (p1 : Int32) (p2 : Int32) (p3 : Int32) : Int32 :=
  g_lt (f_J1_canEncode_9a6ad p1) (fun r1 => (if r1 = 0 then (-1) else (if g_maxf p2 (0 : Int32) < g_minf p3 (nI (g_sLen.getD i 0)) then g_lt (f_J1_indexOfChar_4cfef i p1 (g_maxf p2 (0 : Int32)) (g_minf p3 (nI (g_sLen.getD i 0)))) (fun r33 => r33) else (-1))))
set_option maxHeartbeats 4000000 in
set_option maxRecDepth 100000 in
theorem k_J1_indexOf_4cfef (l : Launch) (D : va_G) (cI : ClassId) (kA kV : Nat → Nat) (i : Nat) (p1 : Int32) (p2 : Int32) (p3 : Int32) (hi : i < g_sN) :
    g_MI l D cI kA kV yJ1_indexOf_4cfef wsJ1_indexOf_4cfef { frames := 1, cells := 0, slots := 0, locals := 25 } [.ref (kV i), .int p1, .int p2, .int p3] [] (fun u : Unit => []) (fun (r : Int32) (u : Unit) => r = f_J1_indexOf_4cfef i p1 p2 p3) := by
  obtain ⟨XX, hXX⟩ : ∃ z, z = f_J1_indexOf_4cfef i p1 p2 p3 := ⟨_, rfl⟩
  have heq := hXX.trans (f_J1_indexOf_4cfef.eq_def i p1 p2 p3)
  refine g_startI (lv := [(0, .ref (kV i)), (1, .int p1), (2, .int p2), (3, .int p3)]) RJ1 rfl rfl rfl (Nat.le_of_ble_eq_true rfl) rfl (fun p e s m args below meth c AA QQ hAA hQQ X hr hmn => ?_)
  refine g_iload_n X 1 rfl rfl dJ1_indexOf_4cfef_0 ?_
  refine g_callSi (As := [.int p1]) (st := []) (wr := ([] : va_W)) X (k_J1_canEncode_9a6ad l D cI kA kV p1) (va_cwS 1 X.2.2.2.2.1 gJ1_indexOf_4cfef_J1_canEncode_9a6ad rfl rfl rfl (by decide +kernel) ⟨Nat.le_of_ble_eq_true rfl, Nat.le_of_ble_eq_true rfl⟩) [] [] rfl rfl rfl rfl (by decide) rfl (Nat.le_of_ble_eq_true rfl) ⟨Nat.le_of_ble_eq_true rfl, Nat.le_of_ble_eq_true rfl⟩ dJ1_indexOf_4cfef_1 rfl (fun r1 u1 hw1 => ?_)
  have heq := g_let heq hw1
  refine g_if_ne X 9 dJ1_indexOf_4cfef_4 (by decide) (fun c4 => ?_) (fun c4 => ?_)
  · have heq := heq.trans (if_neg c4)
    refine g_iload_n X 2 rfl rfl dJ1_indexOf_4cfef_9 ?_
    refine g_iconst (v := 0) X (by decide) dJ1_indexOf_4cfef_10 ?_
    refine g_mmax X (X.2.2.2.2.1 (.methodLink RJ1 92 Lib.Math.max.name) (List.mem_of_getElem? (i := 1) rfl)) (X.2.2.2.2.1 (.static Lib.Math.max.name) (List.mem_of_getElem? (i := 2) rfl)) (X.2.2.2.2.1 (.initialized "java/lang/Math") (List.mem_of_getElem? (i := 3) rfl)) (X.2.2.2.2.1 (.code Lib.Math.max.name Lib.Math.max.code 2 (some .int)) (List.mem_of_getElem? (i := 4) rfl)) (Nat.le_of_ble_eq_true rfl) (Nat.le_of_ble_eq_true rfl) (Nat.le_of_ble_eq_true rfl) (Nat.le_of_ble_eq_true rfl) dJ1_indexOf_4cfef_11 ?_
    refine g_istore_n (lv' := [(2, .int (g_maxf p2 (0 : Int32))), (0, .ref (kV i)), (1, .int p1), (3, .int p3)]) X rfl (by decide) rfl dJ1_indexOf_4cfef_14 ?_
    refine g_iload_n X 3 rfl rfl dJ1_indexOf_4cfef_15 ?_
    refine g_aload_n X 1 rfl rfl dJ1_indexOf_4cfef_16 ?_
    refine g_blen X hi dJ1_indexOf_4cfef_17 ?_
    refine g_mmin X (X.2.2.2.2.1 (.methodLink RJ1 38 Lib.Math.min.name) (List.mem_of_getElem? (i := 5) rfl)) (X.2.2.2.2.1 (.static Lib.Math.min.name) (List.mem_of_getElem? (i := 6) rfl)) (X.2.2.2.2.1 (.initialized "java/lang/Math") (List.mem_of_getElem? (i := 3) rfl)) (X.2.2.2.2.1 (.code Lib.Math.min.name Lib.Math.min.code 2 (some .int)) (List.mem_of_getElem? (i := 7) rfl)) (Nat.le_of_ble_eq_true rfl) (Nat.le_of_ble_eq_true rfl) (Nat.le_of_ble_eq_true rfl) (Nat.le_of_ble_eq_true rfl) dJ1_indexOf_4cfef_18 ?_
    refine g_istore_n (lv' := [(3, .int (g_minf p3 (nI (g_sLen.getD i 0)))), (2, .int (g_maxf p2 (0 : Int32))), (0, .ref (kV i)), (1, .int p1)]) X rfl (by decide) rfl dJ1_indexOf_4cfef_21 ?_
    refine g_iload_n X 1 rfl rfl dJ1_indexOf_4cfef_22 ?_
    refine g_iload_n X 0 rfl rfl dJ1_indexOf_4cfef_23 ?_
    refine g_icmp_lt X 29 dJ1_indexOf_4cfef_24 (by decide) (fun c24 => ?_) (fun c24 => ?_)
    · have heq := heq.trans (if_pos c24)
      refine g_aload_n X 2 rfl rfl dJ1_indexOf_4cfef_29 ?_
      refine g_iload_n X 3 rfl rfl dJ1_indexOf_4cfef_30 ?_
      refine g_iload_n X 1 rfl rfl dJ1_indexOf_4cfef_31 ?_
      refine g_iload_n X 0 rfl rfl dJ1_indexOf_4cfef_32 ?_
      refine g_callSi (As := [.ref (kV i), .int p1, .int (g_maxf p2 (0 : Int32)), .int (g_minf p3 (nI (g_sLen.getD i 0)))]) (st := []) (wr := ([] : va_W)) X (k_J1_indexOfChar_4cfef l D cI kA kV i p1 (g_maxf p2 (0 : Int32)) (g_minf p3 (nI (g_sLen.getD i 0))) hi (g_max0 _) (g_minR _ _)) (va_cwS 4 X.2.2.2.2.1 gJ1_indexOf_4cfef_J1_indexOfChar_4cfef rfl rfl rfl (by decide +kernel) ⟨Nat.le_of_ble_eq_true rfl, Nat.le_of_ble_eq_true rfl⟩) [] [] rfl rfl rfl rfl (by decide) rfl (Nat.le_of_ble_eq_true rfl) ⟨Nat.le_of_ble_eq_true rfl, Nat.le_of_ble_eq_true rfl⟩ dJ1_indexOf_4cfef_33 rfl (fun r33 u33 hw33 => ?_)
      have heq := g_let heq hw33
      exact g_iret X hAA hQQ () (heq.symm.trans hXX) [] rfl rfl hr dJ1_indexOf_4cfef_36
    · have heq := heq.trans (if_neg c24)
      refine g_iconst (v := (-1)) X (by decide) dJ1_indexOf_4cfef_27 ?_
      exact g_iret X hAA hQQ () (heq.symm.trans hXX) [] rfl rfl hr dJ1_indexOf_4cfef_28
  · have heq := heq.trans (if_pos c4)
    refine g_iconst (v := (-1)) X (by decide) dJ1_indexOf_4cfef_7 ?_
    exact g_iret X hAA hQQ () (heq.symm.trans hXX) [] rfl rfl hr dJ1_indexOf_4cfef_8

def f_J0_indexOf_7cf53 (i : Nat)  (p1 : Int32) (p2 : Int32) : Int32 :=
  g_lt (f_J0_isLatin1_aae02 i) (fun r1 => g_lt (f_J0_length_8abf5 i) (fun r14 => g_lt (f_J1_indexOf_4cfef i p1 p2 r14) (fun r17 => r17)))
set_option maxHeartbeats 4000000 in
set_option maxRecDepth 100000 in
theorem k_J0_indexOf_7cf53 (l : Launch) (D : va_G) (cI : ClassId) (kA kV : Nat → Nat) (i : Nat) (p1 : Int32) (p2 : Int32) (hi : i < g_sN) :
    g_MI l D cI kA kV yJ0_indexOf_7cf53 wsJ0_indexOf_7cf53 { frames := 2, cells := 0, slots := 0, locals := 48 } [.ref (kA i), .int p1, .int p2] [] (fun u : Unit => []) (fun (r : Int32) (u : Unit) => r = f_J0_indexOf_7cf53 i p1 p2) := by
  obtain ⟨XX, hXX⟩ : ∃ z, z = f_J0_indexOf_7cf53 i p1 p2 := ⟨_, rfl⟩
  have heq := hXX.trans (f_J0_indexOf_7cf53.eq_def i p1 p2)
  refine g_startI (lv := [(0, .ref (kA i)), (1, .int p1), (2, .int p2)]) RJ0 rfl rfl rfl (Nat.le_of_ble_eq_true rfl) rfl (fun p e s m args below meth c AA QQ hAA hQQ X hr hmn => ?_)
  refine g_aload_n X 0 rfl rfl dJ0_indexOf_7cf53_0 ?_
  refine g_callTi (As := []) (st := []) (wr := ([] : va_W)) X (k_J0_isLatin1_aae02 l D cI kA kV i hi) (cwV 0 X.2.2.2.2.1 gJ0_indexOf_7cf53_J0_isLatin1_aae02 rfl rfl rfl (by decide +kernel) ⟨Nat.le_of_ble_eq_true rfl, Nat.le_of_ble_eq_true rfl⟩) hi [] [] rfl rfl rfl rfl (by decide) rfl (Nat.le_of_ble_eq_true rfl) ⟨Nat.le_of_ble_eq_true rfl, Nat.le_of_ble_eq_true rfl⟩ dJ0_indexOf_7cf53_1 rfl (fun r1 u1 hw1 => ?_)
  have heq := g_let heq hw1
  refine g_if_eq X 23 dJ0_indexOf_7cf53_4 (by decide) (fun c4 => absurd (hw1.symm.trans c4) (show ¬ (1 : Int32) = 0 from by decide)) (fun c4 => ?_)
  refine g_aload_n X 0 rfl rfl dJ0_indexOf_7cf53_7 ?_
  refine g_sval X hi (X.2.2.2.2.1 (.fieldLink RJ0 9 "java/lang/String" "value" "[B") (List.mem_of_getElem? (i := 1) rfl)) dJ0_indexOf_7cf53_8 ?_
  refine g_iload_n X 1 rfl rfl dJ0_indexOf_7cf53_11 ?_
  refine g_iload_n X 2 rfl rfl dJ0_indexOf_7cf53_12 ?_
  refine g_aload_n X 0 rfl rfl dJ0_indexOf_7cf53_13 ?_
  refine g_callTi (As := []) (st := [.int p2, .int p1, .ref (kV i)]) (wr := ([] : va_W)) X (k_J0_length_8abf5 l D cI kA kV i hi) (cwV 0 X.2.2.2.2.1 gJ0_indexOf_7cf53_J0_length_8abf5 rfl rfl rfl (by decide +kernel) ⟨Nat.le_of_ble_eq_true rfl, Nat.le_of_ble_eq_true rfl⟩) hi [] [] rfl rfl rfl rfl (by decide) rfl (Nat.le_of_ble_eq_true rfl) ⟨Nat.le_of_ble_eq_true rfl, Nat.le_of_ble_eq_true rfl⟩ dJ0_indexOf_7cf53_14 rfl (fun r14 u14 hw14 => ?_)
  have heq := g_let heq hw14
  refine g_callSi (As := [.ref (kV i), .int p1, .int p2, .int r14]) (st := []) (wr := ([] : va_W)) X (k_J1_indexOf_4cfef l D cI kA kV i p1 p2 r14 hi) (va_cwS 4 X.2.2.2.2.1 gJ0_indexOf_7cf53_J1_indexOf_4cfef rfl rfl rfl (by decide +kernel) ⟨Nat.le_of_ble_eq_true rfl, Nat.le_of_ble_eq_true rfl⟩) [] [] rfl rfl rfl rfl (by decide) rfl (Nat.le_of_ble_eq_true rfl) ⟨Nat.le_of_ble_eq_true rfl, Nat.le_of_ble_eq_true rfl⟩ dJ0_indexOf_7cf53_17 rfl (fun r17 u17 hw17 => ?_)
  have heq := g_let heq hw17
  refine g_goto (tgt := 36) X (by decide) dJ0_indexOf_7cf53_20 ?_
  exact g_iret X hAA hQQ () (heq.symm.trans hXX) [] rfl rfl hr dJ0_indexOf_7cf53_36

def f_J0_indexOf_0f7a4 (i : Nat)  (p1 : Int32) : Int32 :=
  g_lt (f_J0_indexOf_7cf53 i p1 (0 : Int32)) (fun r3 => r3)
set_option maxHeartbeats 4000000 in
set_option maxRecDepth 100000 in
theorem k_J0_indexOf_0f7a4 (l : Launch) (D : va_G) (cI : ClassId) (kA kV : Nat → Nat) (i : Nat) (p1 : Int32) (hi : i < g_sN) :
    g_MI l D cI kA kV yJ0_indexOf_0f7a4 wsJ0_indexOf_0f7a4 { frames := 3, cells := 0, slots := 0, locals := 70 } [.ref (kA i), .int p1] [] (fun u : Unit => []) (fun (r : Int32) (u : Unit) => r = f_J0_indexOf_0f7a4 i p1) := by
  obtain ⟨XX, hXX⟩ : ∃ z, z = f_J0_indexOf_0f7a4 i p1 := ⟨_, rfl⟩
  have heq := hXX.trans (f_J0_indexOf_0f7a4.eq_def i p1)
  refine g_startI (lv := [(0, .ref (kA i)), (1, .int p1)]) RJ0 rfl rfl rfl (Nat.le_of_ble_eq_true rfl) rfl (fun p e s m args below meth c AA QQ hAA hQQ X hr hmn => ?_)
  refine g_aload_n X 0 rfl rfl dJ0_indexOf_0f7a4_0 ?_
  refine g_iload_n X 1 rfl rfl dJ0_indexOf_0f7a4_1 ?_
  refine g_iconst (v := 0) X (by decide) dJ0_indexOf_0f7a4_2 ?_
  refine g_callTi (As := [.int p1, .int 0]) (st := []) (wr := ([] : va_W)) X (k_J0_indexOf_7cf53 l D cI kA kV i p1 0 hi) (cwV 2 X.2.2.2.2.1 gJ0_indexOf_0f7a4_J0_indexOf_7cf53 rfl rfl rfl (by decide +kernel) ⟨Nat.le_of_ble_eq_true rfl, Nat.le_of_ble_eq_true rfl⟩) hi [] [] rfl rfl rfl rfl (by decide) rfl (Nat.le_of_ble_eq_true rfl) ⟨Nat.le_of_ble_eq_true rfl, Nat.le_of_ble_eq_true rfl⟩ dJ0_indexOf_0f7a4_3 rfl (fun r3 u3 hw3 => ?_)
  have heq := g_let heq hw3
  exact g_iret X hAA hQQ () (heq.symm.trans hXX) [] rfl rfl hr dJ0_indexOf_0f7a4_6

theorem hi_X5_init_X5 : ∀ w ∈ wsX50, w ∈ wsX5_init := fun w h => List.mem_cons_of_mem _ (List.mem_append_right _ (h))
set_option maxHeartbeats 4000000 in
set_option maxRecDepth 100000 in
theorem k_X5_init (l : Launch) (D : va_G) (cI : ClassId) (kA kV : Nat → Nat) (a_ : Nat) :
    g_MV l D cI kA kV yX5_init wsX5_init { frames := 1, cells := 15, slots := 899, locals := 12 } [.ref a_] [(a_, .inr (5, [.int 0, .int 0, .int 0, .null, .null, .int 0, .int 0, .int 0, .int 0, .null, .null, .null, .null, .null, .int 0, .null, .int 0, .null, .int 0, .null, .null, .int 0, .null, .null, .null, .null]))] (fun u : Nat × Nat × Nat × Nat × Nat × Nat × Nat × Nat × Nat × Nat × Nat × Nat × Nat × Nat × Nat => [(a_, .inr (5, [.int 19, .int 5, .int 0, .ref u.1, .ref u.2.1, .int 3, .int 0, .int 5, .int 0, .ref u.2.2.1, .ref u.2.2.2.1, .ref u.2.2.2.2.1, .ref u.2.2.2.2.2.1, .ref u.2.2.2.2.2.2.1, .int 0, .ref u.2.2.2.2.2.2.2.1, .int 0, .ref u.2.2.2.2.2.2.2.2.1, .int 0, .ref u.2.2.2.2.2.2.2.2.2.1, .ref u.2.2.2.2.2.2.2.2.2.2.1, .int 0, .ref u.2.2.2.2.2.2.2.2.2.2.2.1, .ref u.2.2.2.2.2.2.2.2.2.2.2.2.1, .ref u.2.2.2.2.2.2.2.2.2.2.2.2.2.1, .ref u.2.2.2.2.2.2.2.2.2.2.2.2.2.2])), (u.1, .inl (cI, 2, .inl (fun _ => 0))), (u.2.1, .inl (cI, 2, .inl (upd (upd (fun _ => 0) (0 : Int32).toNatClampNeg 1) (1 : Int32).toNatClampNeg 1))), (u.2.2.1, .inl (cI, 6, .inl (fun _ => 0))), (u.2.2.2.1, .inl (cI, 6, .inl (fun _ => 0))), (u.2.2.2.2.1, .inl (cI, 6, .inl (fun _ => 0))), (u.2.2.2.2.2.1, .inl (cI, 6, .inl (fun _ => 0))), (u.2.2.2.2.2.2.1, .inl (cI, 6, .inl (fun _ => 0))), (u.2.2.2.2.2.2.2.1, .inl (cI, 96, .inl (fun _ => 0))), (u.2.2.2.2.2.2.2.2.1, .inl (cI, 4, .inl (fun _ => 0))), (u.2.2.2.2.2.2.2.2.2.1, .inl (cI, 20, .inl (fun _ => 0))), (u.2.2.2.2.2.2.2.2.2.2.1, .inl (cI, 7, .inl (fun _ => 0))), (u.2.2.2.2.2.2.2.2.2.2.2.1, .inl (cI, 41, .inl (fun _ => 0))), (u.2.2.2.2.2.2.2.2.2.2.2.2.1, .inl (cI, 41, .inl (fun _ => 0))), (u.2.2.2.2.2.2.2.2.2.2.2.2.2.1, .inl (cI, 6, .inl (fun _ => 0))), (u.2.2.2.2.2.2.2.2.2.2.2.2.2.2, .inl (cI, 650, .inl (fun _ => 0)))]) (fun _ => True) := by
  refine g_startV (lv := [(0, .ref a_)]) RX5 rfl rfl rfl (Nat.le_of_ble_eq_true rfl) rfl (fun p e s m args below meth c AA QQ hAA hQQ X hr hmn => ?_)
  refine g_aload_n X 0 rfl rfl dX5_init_0 ?_
  refine g_obj X (X.2.2.2.2.1 (.methodLink RX5 1 objectInit) (List.mem_of_getElem? (i := 1) rfl)) (X.2.2.2.2.1 (.instanceMethod objectInit) (List.mem_of_getElem? (i := 2) rfl)) (X.2.2.2.2.1 (.code objectInit ⟨#[0xb1]⟩ 1 none) (List.mem_of_getElem? (i := 3) rfl)) dX5_init_1 (Nat.le_of_ble_eq_true rfl) (Nat.le_of_ble_eq_true rfl) ?_
  refine g_aload_n X 0 rfl rfl dX5_init_4 ?_
  refine g_iconst (v := 2) X (by decide) dX5_init_5 ?_
  refine g_newarr X 2 (X.2.2.2.2.1 (.arrayClass .int) (List.mem_of_getElem? (i := 4) rfl)) (by decide) (by decide) (Nat.le_of_ble_eq_true rfl) (Nat.le_of_ble_eq_true rfl) (Nat.le_of_ble_eq_true rfl) dX5_init_6 (fun q6 => ?_)
  refine g_eqs (ws' := [(a_, .inr (5, [.int 0, .int 0, .int 0, .null, .null, .int 0, .int 0, .int 0, .int 0, .null, .null, .null, .null, .null, .int 0, .null, .int 0, .null, .int 0, .null, .null, .int 0, .null, .null, .null, .null])), (q6, .inl (cI, 2, .inl (fun _ => 0)))]) rfl ?_
  refine g_putF (C := RX5) (T := TX5) (N := 26) (ci := 5) (ws' := [(a_, .inr (5, [.int 0, .int 0, .int 0, .ref q6, .null, .int 0, .int 0, .int 0, .int 0, .null, .null, .null, .null, .null, .int 0, .null, .int 0, .null, .int 0, .null, .null, .int 0, .null, .null, .null, .null])), (q6, .inl (cI, 2, .inl (fun _ => 0)))]) X hi_X5_init_X5 tyX5 tyX5_ok nmX5 0 rfl rfl 3 (by decide) (X.2.2.2.2.1 (.fieldLink RX5 7 "NineteenSecondsLeftModel" "fouls" "[I") (List.mem_of_getElem? (i := 5) rfl)) rfl rfl hmn rfl rfl rfl (Nat.le_of_ble_eq_true rfl) dX5_init_8 rfl ?_
  refine g_aload_n X 0 rfl rfl dX5_init_11 ?_
  refine g_iconst (v := 2) X (by decide) dX5_init_12 ?_
  refine g_newarr X 2 (X.2.2.2.2.1 (.arrayClass .int) (List.mem_of_getElem? (i := 4) rfl)) (by decide) (by decide) (Nat.le_of_ble_eq_true rfl) (Nat.le_of_ble_eq_true rfl) (Nat.le_of_ble_eq_true rfl) dX5_init_13 (fun q13 => ?_)
  refine g_eqs (ws' := [(a_, .inr (5, [.int 0, .int 0, .int 0, .ref q6, .null, .int 0, .int 0, .int 0, .int 0, .null, .null, .null, .null, .null, .int 0, .null, .int 0, .null, .int 0, .null, .null, .int 0, .null, .null, .null, .null])), (q6, .inl (cI, 2, .inl (fun _ => 0))), (q13, .inl (cI, 2, .inl (fun _ => 0)))]) rfl ?_
  refine g_putF (C := RX5) (T := TX5) (N := 26) (ci := 5) (ws' := [(a_, .inr (5, [.int 0, .int 0, .int 0, .ref q6, .ref q13, .int 0, .int 0, .int 0, .int 0, .null, .null, .null, .null, .null, .int 0, .null, .int 0, .null, .int 0, .null, .null, .int 0, .null, .null, .null, .null])), (q6, .inl (cI, 2, .inl (fun _ => 0))), (q13, .inl (cI, 2, .inl (fun _ => 0)))]) X hi_X5_init_X5 tyX5 tyX5_ok nmX5 0 rfl rfl 4 (by decide) (X.2.2.2.2.1 (.fieldLink RX5 13 "NineteenSecondsLeftModel" "calls" "[I") (List.mem_of_getElem? (i := 6) rfl)) rfl rfl hmn rfl rfl rfl (Nat.le_of_ble_eq_true rfl) dX5_init_15 rfl ?_
  refine g_aload_n X 0 rfl rfl dX5_init_18 ?_
  refine g_bipush (v := 6) X (by decide) dX5_init_19 ?_
  refine g_newarr X 6 (X.2.2.2.2.1 (.arrayClass .int) (List.mem_of_getElem? (i := 4) rfl)) (by decide) (by decide) (Nat.le_of_ble_eq_true rfl) (Nat.le_of_ble_eq_true rfl) (Nat.le_of_ble_eq_true rfl) dX5_init_21 (fun q21 => ?_)
  refine g_eqs (ws' := [(a_, .inr (5, [.int 0, .int 0, .int 0, .ref q6, .ref q13, .int 0, .int 0, .int 0, .int 0, .null, .null, .null, .null, .null, .int 0, .null, .int 0, .null, .int 0, .null, .null, .int 0, .null, .null, .null, .null])), (q6, .inl (cI, 2, .inl (fun _ => 0))), (q13, .inl (cI, 2, .inl (fun _ => 0))), (q21, .inl (cI, 6, .inl (fun _ => 0)))]) rfl ?_
  refine g_putF (C := RX5) (T := TX5) (N := 26) (ci := 5) (ws' := [(a_, .inr (5, [.int 0, .int 0, .int 0, .ref q6, .ref q13, .int 0, .int 0, .int 0, .int 0, .ref q21, .null, .null, .null, .null, .int 0, .null, .int 0, .null, .int 0, .null, .null, .int 0, .null, .null, .null, .null])), (q6, .inl (cI, 2, .inl (fun _ => 0))), (q13, .inl (cI, 2, .inl (fun _ => 0))), (q21, .inl (cI, 6, .inl (fun _ => 0)))]) X hi_X5_init_X5 tyX5 tyX5_ok nmX5 0 rfl rfl 9 (by decide) (X.2.2.2.2.1 (.fieldLink RX5 16 "NineteenSecondsLeftModel" "side" "[I") (List.mem_of_getElem? (i := 7) rfl)) rfl rfl hmn rfl rfl rfl (Nat.le_of_ble_eq_true rfl) dX5_init_23 rfl ?_
  refine g_aload_n X 0 rfl rfl dX5_init_26 ?_
  refine g_bipush (v := 6) X (by decide) dX5_init_27 ?_
  refine g_newarr X 6 (X.2.2.2.2.1 (.arrayClass .int) (List.mem_of_getElem? (i := 4) rfl)) (by decide) (by decide) (Nat.le_of_ble_eq_true rfl) (Nat.le_of_ble_eq_true rfl) (Nat.le_of_ble_eq_true rfl) dX5_init_29 (fun q29 => ?_)
  refine g_eqs (ws' := [(a_, .inr (5, [.int 0, .int 0, .int 0, .ref q6, .ref q13, .int 0, .int 0, .int 0, .int 0, .ref q21, .null, .null, .null, .null, .int 0, .null, .int 0, .null, .int 0, .null, .null, .int 0, .null, .null, .null, .null])), (q6, .inl (cI, 2, .inl (fun _ => 0))), (q13, .inl (cI, 2, .inl (fun _ => 0))), (q21, .inl (cI, 6, .inl (fun _ => 0))), (q29, .inl (cI, 6, .inl (fun _ => 0)))]) rfl ?_
  refine g_putF (C := RX5) (T := TX5) (N := 26) (ci := 5) (ws' := [(a_, .inr (5, [.int 0, .int 0, .int 0, .ref q6, .ref q13, .int 0, .int 0, .int 0, .int 0, .ref q21, .ref q29, .null, .null, .null, .int 0, .null, .int 0, .null, .int 0, .null, .null, .int 0, .null, .null, .null, .null])), (q6, .inl (cI, 2, .inl (fun _ => 0))), (q13, .inl (cI, 2, .inl (fun _ => 0))), (q21, .inl (cI, 6, .inl (fun _ => 0))), (q29, .inl (cI, 6, .inl (fun _ => 0)))]) X hi_X5_init_X5 tyX5 tyX5_ok nmX5 0 rfl rfl 10 (by decide) (X.2.2.2.2.1 (.fieldLink RX5 19 "NineteenSecondsLeftModel" "kind" "[I") (List.mem_of_getElem? (i := 8) rfl)) rfl rfl hmn rfl rfl rfl (Nat.le_of_ble_eq_true rfl) dX5_init_31 rfl ?_
  refine g_aload_n X 0 rfl rfl dX5_init_34 ?_
  refine g_bipush (v := 6) X (by decide) dX5_init_35 ?_
  refine g_newarr X 6 (X.2.2.2.2.1 (.arrayClass .int) (List.mem_of_getElem? (i := 4) rfl)) (by decide) (by decide) (Nat.le_of_ble_eq_true rfl) (Nat.le_of_ble_eq_true rfl) (Nat.le_of_ble_eq_true rfl) dX5_init_37 (fun q37 => ?_)
  refine g_eqs (ws' := [(a_, .inr (5, [.int 0, .int 0, .int 0, .ref q6, .ref q13, .int 0, .int 0, .int 0, .int 0, .ref q21, .ref q29, .null, .null, .null, .int 0, .null, .int 0, .null, .int 0, .null, .null, .int 0, .null, .null, .null, .null])), (q6, .inl (cI, 2, .inl (fun _ => 0))), (q13, .inl (cI, 2, .inl (fun _ => 0))), (q21, .inl (cI, 6, .inl (fun _ => 0))), (q29, .inl (cI, 6, .inl (fun _ => 0))), (q37, .inl (cI, 6, .inl (fun _ => 0)))]) rfl ?_
  refine g_putF (C := RX5) (T := TX5) (N := 26) (ci := 5) (ws' := [(a_, .inr (5, [.int 0, .int 0, .int 0, .ref q6, .ref q13, .int 0, .int 0, .int 0, .int 0, .ref q21, .ref q29, .ref q37, .null, .null, .int 0, .null, .int 0, .null, .int 0, .null, .null, .int 0, .null, .null, .null, .null])), (q6, .inl (cI, 2, .inl (fun _ => 0))), (q13, .inl (cI, 2, .inl (fun _ => 0))), (q21, .inl (cI, 6, .inl (fun _ => 0))), (q29, .inl (cI, 6, .inl (fun _ => 0))), (q37, .inl (cI, 6, .inl (fun _ => 0)))]) X hi_X5_init_X5 tyX5 tyX5_ok nmX5 0 rfl rfl 11 (by decide) (X.2.2.2.2.1 (.fieldLink RX5 22 "NineteenSecondsLeftModel" "near" "[I") (List.mem_of_getElem? (i := 9) rfl)) rfl rfl hmn rfl rfl rfl (Nat.le_of_ble_eq_true rfl) dX5_init_39 rfl ?_
  refine g_aload_n X 0 rfl rfl dX5_init_42 ?_
  refine g_bipush (v := 6) X (by decide) dX5_init_43 ?_
  refine g_newarr X 6 (X.2.2.2.2.1 (.arrayClass .int) (List.mem_of_getElem? (i := 4) rfl)) (by decide) (by decide) (Nat.le_of_ble_eq_true rfl) (Nat.le_of_ble_eq_true rfl) (Nat.le_of_ble_eq_true rfl) dX5_init_45 (fun q45 => ?_)
  refine g_eqs (ws' := [(a_, .inr (5, [.int 0, .int 0, .int 0, .ref q6, .ref q13, .int 0, .int 0, .int 0, .int 0, .ref q21, .ref q29, .ref q37, .null, .null, .int 0, .null, .int 0, .null, .int 0, .null, .null, .int 0, .null, .null, .null, .null])), (q6, .inl (cI, 2, .inl (fun _ => 0))), (q13, .inl (cI, 2, .inl (fun _ => 0))), (q21, .inl (cI, 6, .inl (fun _ => 0))), (q29, .inl (cI, 6, .inl (fun _ => 0))), (q37, .inl (cI, 6, .inl (fun _ => 0))), (q45, .inl (cI, 6, .inl (fun _ => 0)))]) rfl ?_
  refine g_putF (C := RX5) (T := TX5) (N := 26) (ci := 5) (ws' := [(a_, .inr (5, [.int 0, .int 0, .int 0, .ref q6, .ref q13, .int 0, .int 0, .int 0, .int 0, .ref q21, .ref q29, .ref q37, .ref q45, .null, .int 0, .null, .int 0, .null, .int 0, .null, .null, .int 0, .null, .null, .null, .null])), (q6, .inl (cI, 2, .inl (fun _ => 0))), (q13, .inl (cI, 2, .inl (fun _ => 0))), (q21, .inl (cI, 6, .inl (fun _ => 0))), (q29, .inl (cI, 6, .inl (fun _ => 0))), (q37, .inl (cI, 6, .inl (fun _ => 0))), (q45, .inl (cI, 6, .inl (fun _ => 0)))]) X hi_X5_init_X5 tyX5 tyX5_ok nmX5 0 rfl rfl 12 (by decide) (X.2.2.2.2.1 (.fieldLink RX5 25 "NineteenSecondsLeftModel" "far" "[I") (List.mem_of_getElem? (i := 10) rfl)) rfl rfl hmn rfl rfl rfl (Nat.le_of_ble_eq_true rfl) dX5_init_47 rfl ?_
  refine g_aload_n X 0 rfl rfl dX5_init_50 ?_
  refine g_bipush (v := 6) X (by decide) dX5_init_51 ?_
  refine g_newarr X 6 (X.2.2.2.2.1 (.arrayClass .int) (List.mem_of_getElem? (i := 4) rfl)) (by decide) (by decide) (Nat.le_of_ble_eq_true rfl) (Nat.le_of_ble_eq_true rfl) (Nat.le_of_ble_eq_true rfl) dX5_init_53 (fun q53 => ?_)
  refine g_eqs (ws' := [(a_, .inr (5, [.int 0, .int 0, .int 0, .ref q6, .ref q13, .int 0, .int 0, .int 0, .int 0, .ref q21, .ref q29, .ref q37, .ref q45, .null, .int 0, .null, .int 0, .null, .int 0, .null, .null, .int 0, .null, .null, .null, .null])), (q6, .inl (cI, 2, .inl (fun _ => 0))), (q13, .inl (cI, 2, .inl (fun _ => 0))), (q21, .inl (cI, 6, .inl (fun _ => 0))), (q29, .inl (cI, 6, .inl (fun _ => 0))), (q37, .inl (cI, 6, .inl (fun _ => 0))), (q45, .inl (cI, 6, .inl (fun _ => 0))), (q53, .inl (cI, 6, .inl (fun _ => 0)))]) rfl ?_
  refine g_putF (C := RX5) (T := TX5) (N := 26) (ci := 5) (ws' := [(a_, .inr (5, [.int 0, .int 0, .int 0, .ref q6, .ref q13, .int 0, .int 0, .int 0, .int 0, .ref q21, .ref q29, .ref q37, .ref q45, .ref q53, .int 0, .null, .int 0, .null, .int 0, .null, .null, .int 0, .null, .null, .null, .null])), (q6, .inl (cI, 2, .inl (fun _ => 0))), (q13, .inl (cI, 2, .inl (fun _ => 0))), (q21, .inl (cI, 6, .inl (fun _ => 0))), (q29, .inl (cI, 6, .inl (fun _ => 0))), (q37, .inl (cI, 6, .inl (fun _ => 0))), (q45, .inl (cI, 6, .inl (fun _ => 0))), (q53, .inl (cI, 6, .inl (fun _ => 0)))]) X hi_X5_init_X5 tyX5 tyX5_ok nmX5 0 rfl rfl 13 (by decide) (X.2.2.2.2.1 (.fieldLink RX5 28 "NineteenSecondsLeftModel" "free" "[I") (List.mem_of_getElem? (i := 11) rfl)) rfl rfl hmn rfl rfl rfl (Nat.le_of_ble_eq_true rfl) dX5_init_55 rfl ?_
  refine g_aload_n X 0 rfl rfl dX5_init_58 ?_
  refine g_bipush (v := 96) X (by decide) dX5_init_59 ?_
  refine g_newarr X 96 (X.2.2.2.2.1 (.arrayClass .int) (List.mem_of_getElem? (i := 4) rfl)) (by decide) (by decide) (Nat.le_of_ble_eq_true rfl) (Nat.le_of_ble_eq_true rfl) (Nat.le_of_ble_eq_true rfl) dX5_init_61 (fun q61 => ?_)
  refine g_eqs (ws' := [(a_, .inr (5, [.int 0, .int 0, .int 0, .ref q6, .ref q13, .int 0, .int 0, .int 0, .int 0, .ref q21, .ref q29, .ref q37, .ref q45, .ref q53, .int 0, .null, .int 0, .null, .int 0, .null, .null, .int 0, .null, .null, .null, .null])), (q6, .inl (cI, 2, .inl (fun _ => 0))), (q13, .inl (cI, 2, .inl (fun _ => 0))), (q21, .inl (cI, 6, .inl (fun _ => 0))), (q29, .inl (cI, 6, .inl (fun _ => 0))), (q37, .inl (cI, 6, .inl (fun _ => 0))), (q45, .inl (cI, 6, .inl (fun _ => 0))), (q53, .inl (cI, 6, .inl (fun _ => 0))), (q61, .inl (cI, 96, .inl (fun _ => 0)))]) rfl ?_
  refine g_putF (C := RX5) (T := TX5) (N := 26) (ci := 5) (ws' := [(a_, .inr (5, [.int 0, .int 0, .int 0, .ref q6, .ref q13, .int 0, .int 0, .int 0, .int 0, .ref q21, .ref q29, .ref q37, .ref q45, .ref q53, .int 0, .ref q61, .int 0, .null, .int 0, .null, .null, .int 0, .null, .null, .null, .null])), (q6, .inl (cI, 2, .inl (fun _ => 0))), (q13, .inl (cI, 2, .inl (fun _ => 0))), (q21, .inl (cI, 6, .inl (fun _ => 0))), (q29, .inl (cI, 6, .inl (fun _ => 0))), (q37, .inl (cI, 6, .inl (fun _ => 0))), (q45, .inl (cI, 6, .inl (fun _ => 0))), (q53, .inl (cI, 6, .inl (fun _ => 0))), (q61, .inl (cI, 96, .inl (fun _ => 0)))]) X hi_X5_init_X5 tyX5 tyX5_ok nmX5 0 rfl rfl 15 (by decide) (X.2.2.2.2.1 (.fieldLink RX5 31 "NineteenSecondsLeftModel" "letter" "[I") (List.mem_of_getElem? (i := 12) rfl)) rfl rfl hmn rfl rfl rfl (Nat.le_of_ble_eq_true rfl) dX5_init_63 rfl ?_
  refine g_aload_n X 0 rfl rfl dX5_init_66 ?_
  refine g_iconst (v := 4) X (by decide) dX5_init_67 ?_
  refine g_newarr X 4 (X.2.2.2.2.1 (.arrayClass .int) (List.mem_of_getElem? (i := 4) rfl)) (by decide) (by decide) (Nat.le_of_ble_eq_true rfl) (Nat.le_of_ble_eq_true rfl) (Nat.le_of_ble_eq_true rfl) dX5_init_68 (fun q68 => ?_)
  refine g_eqs (ws' := [(a_, .inr (5, [.int 0, .int 0, .int 0, .ref q6, .ref q13, .int 0, .int 0, .int 0, .int 0, .ref q21, .ref q29, .ref q37, .ref q45, .ref q53, .int 0, .ref q61, .int 0, .null, .int 0, .null, .null, .int 0, .null, .null, .null, .null])), (q6, .inl (cI, 2, .inl (fun _ => 0))), (q13, .inl (cI, 2, .inl (fun _ => 0))), (q21, .inl (cI, 6, .inl (fun _ => 0))), (q29, .inl (cI, 6, .inl (fun _ => 0))), (q37, .inl (cI, 6, .inl (fun _ => 0))), (q45, .inl (cI, 6, .inl (fun _ => 0))), (q53, .inl (cI, 6, .inl (fun _ => 0))), (q61, .inl (cI, 96, .inl (fun _ => 0))), (q68, .inl (cI, 4, .inl (fun _ => 0)))]) rfl ?_
  refine g_putF (C := RX5) (T := TX5) (N := 26) (ci := 5) (ws' := [(a_, .inr (5, [.int 0, .int 0, .int 0, .ref q6, .ref q13, .int 0, .int 0, .int 0, .int 0, .ref q21, .ref q29, .ref q37, .ref q45, .ref q53, .int 0, .ref q61, .int 0, .ref q68, .int 0, .null, .null, .int 0, .null, .null, .null, .null])), (q6, .inl (cI, 2, .inl (fun _ => 0))), (q13, .inl (cI, 2, .inl (fun _ => 0))), (q21, .inl (cI, 6, .inl (fun _ => 0))), (q29, .inl (cI, 6, .inl (fun _ => 0))), (q37, .inl (cI, 6, .inl (fun _ => 0))), (q45, .inl (cI, 6, .inl (fun _ => 0))), (q53, .inl (cI, 6, .inl (fun _ => 0))), (q61, .inl (cI, 96, .inl (fun _ => 0))), (q68, .inl (cI, 4, .inl (fun _ => 0)))]) X hi_X5_init_X5 tyX5 tyX5_ok nmX5 0 rfl rfl 17 (by decide) (X.2.2.2.2.1 (.fieldLink RX5 34 "NineteenSecondsLeftModel" "value" "[I") (List.mem_of_getElem? (i := 13) rfl)) rfl rfl hmn rfl rfl rfl (Nat.le_of_ble_eq_true rfl) dX5_init_70 rfl ?_
  refine g_aload_n X 0 rfl rfl dX5_init_73 ?_
  refine g_bipush (v := 20) X (by decide) dX5_init_74 ?_
  refine g_newarr X 20 (X.2.2.2.2.1 (.arrayClass .int) (List.mem_of_getElem? (i := 4) rfl)) (by decide) (by decide) (Nat.le_of_ble_eq_true rfl) (Nat.le_of_ble_eq_true rfl) (Nat.le_of_ble_eq_true rfl) dX5_init_76 (fun q76 => ?_)
  refine g_eqs (ws' := [(a_, .inr (5, [.int 0, .int 0, .int 0, .ref q6, .ref q13, .int 0, .int 0, .int 0, .int 0, .ref q21, .ref q29, .ref q37, .ref q45, .ref q53, .int 0, .ref q61, .int 0, .ref q68, .int 0, .null, .null, .int 0, .null, .null, .null, .null])), (q6, .inl (cI, 2, .inl (fun _ => 0))), (q13, .inl (cI, 2, .inl (fun _ => 0))), (q21, .inl (cI, 6, .inl (fun _ => 0))), (q29, .inl (cI, 6, .inl (fun _ => 0))), (q37, .inl (cI, 6, .inl (fun _ => 0))), (q45, .inl (cI, 6, .inl (fun _ => 0))), (q53, .inl (cI, 6, .inl (fun _ => 0))), (q61, .inl (cI, 96, .inl (fun _ => 0))), (q68, .inl (cI, 4, .inl (fun _ => 0))), (q76, .inl (cI, 20, .inl (fun _ => 0)))]) rfl ?_
  refine g_putF (C := RX5) (T := TX5) (N := 26) (ci := 5) (ws' := [(a_, .inr (5, [.int 0, .int 0, .int 0, .ref q6, .ref q13, .int 0, .int 0, .int 0, .int 0, .ref q21, .ref q29, .ref q37, .ref q45, .ref q53, .int 0, .ref q61, .int 0, .ref q68, .int 0, .ref q76, .null, .int 0, .null, .null, .null, .null])), (q6, .inl (cI, 2, .inl (fun _ => 0))), (q13, .inl (cI, 2, .inl (fun _ => 0))), (q21, .inl (cI, 6, .inl (fun _ => 0))), (q29, .inl (cI, 6, .inl (fun _ => 0))), (q37, .inl (cI, 6, .inl (fun _ => 0))), (q45, .inl (cI, 6, .inl (fun _ => 0))), (q53, .inl (cI, 6, .inl (fun _ => 0))), (q61, .inl (cI, 96, .inl (fun _ => 0))), (q68, .inl (cI, 4, .inl (fun _ => 0))), (q76, .inl (cI, 20, .inl (fun _ => 0)))]) X hi_X5_init_X5 tyX5 tyX5_ok nmX5 0 rfl rfl 19 (by decide) (X.2.2.2.2.1 (.fieldLink RX5 37 "NineteenSecondsLeftModel" "row" "[I") (List.mem_of_getElem? (i := 14) rfl)) rfl rfl hmn rfl rfl rfl (Nat.le_of_ble_eq_true rfl) dX5_init_78 rfl ?_
  refine g_aload_n X 0 rfl rfl dX5_init_81 ?_
  refine g_bipush (v := 7) X (by decide) dX5_init_82 ?_
  refine g_newarr X 7 (X.2.2.2.2.1 (.arrayClass .int) (List.mem_of_getElem? (i := 4) rfl)) (by decide) (by decide) (Nat.le_of_ble_eq_true rfl) (Nat.le_of_ble_eq_true rfl) (Nat.le_of_ble_eq_true rfl) dX5_init_84 (fun q84 => ?_)
  refine g_eqs (ws' := [(a_, .inr (5, [.int 0, .int 0, .int 0, .ref q6, .ref q13, .int 0, .int 0, .int 0, .int 0, .ref q21, .ref q29, .ref q37, .ref q45, .ref q53, .int 0, .ref q61, .int 0, .ref q68, .int 0, .ref q76, .null, .int 0, .null, .null, .null, .null])), (q6, .inl (cI, 2, .inl (fun _ => 0))), (q13, .inl (cI, 2, .inl (fun _ => 0))), (q21, .inl (cI, 6, .inl (fun _ => 0))), (q29, .inl (cI, 6, .inl (fun _ => 0))), (q37, .inl (cI, 6, .inl (fun _ => 0))), (q45, .inl (cI, 6, .inl (fun _ => 0))), (q53, .inl (cI, 6, .inl (fun _ => 0))), (q61, .inl (cI, 96, .inl (fun _ => 0))), (q68, .inl (cI, 4, .inl (fun _ => 0))), (q76, .inl (cI, 20, .inl (fun _ => 0))), (q84, .inl (cI, 7, .inl (fun _ => 0)))]) rfl ?_
  refine g_putF (C := RX5) (T := TX5) (N := 26) (ci := 5) (ws' := [(a_, .inr (5, [.int 0, .int 0, .int 0, .ref q6, .ref q13, .int 0, .int 0, .int 0, .int 0, .ref q21, .ref q29, .ref q37, .ref q45, .ref q53, .int 0, .ref q61, .int 0, .ref q68, .int 0, .ref q76, .ref q84, .int 0, .null, .null, .null, .null])), (q6, .inl (cI, 2, .inl (fun _ => 0))), (q13, .inl (cI, 2, .inl (fun _ => 0))), (q21, .inl (cI, 6, .inl (fun _ => 0))), (q29, .inl (cI, 6, .inl (fun _ => 0))), (q37, .inl (cI, 6, .inl (fun _ => 0))), (q45, .inl (cI, 6, .inl (fun _ => 0))), (q53, .inl (cI, 6, .inl (fun _ => 0))), (q61, .inl (cI, 96, .inl (fun _ => 0))), (q68, .inl (cI, 4, .inl (fun _ => 0))), (q76, .inl (cI, 20, .inl (fun _ => 0))), (q84, .inl (cI, 7, .inl (fun _ => 0)))]) X hi_X5_init_X5 tyX5 tyX5_ok nmX5 0 rfl rfl 20 (by decide) (X.2.2.2.2.1 (.fieldLink RX5 40 "NineteenSecondsLeftModel" "refusals" "[I") (List.mem_of_getElem? (i := 15) rfl)) rfl rfl hmn rfl rfl rfl (Nat.le_of_ble_eq_true rfl) dX5_init_86 rfl ?_
  refine g_aload_n X 0 rfl rfl dX5_init_89 ?_
  refine g_bipush (v := 41) X (by decide) dX5_init_90 ?_
  refine g_newarr X 41 (X.2.2.2.2.1 (.arrayClass .int) (List.mem_of_getElem? (i := 4) rfl)) (by decide) (by decide) (Nat.le_of_ble_eq_true rfl) (Nat.le_of_ble_eq_true rfl) (Nat.le_of_ble_eq_true rfl) dX5_init_92 (fun q92 => ?_)
  refine g_eqs (ws' := [(a_, .inr (5, [.int 0, .int 0, .int 0, .ref q6, .ref q13, .int 0, .int 0, .int 0, .int 0, .ref q21, .ref q29, .ref q37, .ref q45, .ref q53, .int 0, .ref q61, .int 0, .ref q68, .int 0, .ref q76, .ref q84, .int 0, .null, .null, .null, .null])), (q6, .inl (cI, 2, .inl (fun _ => 0))), (q13, .inl (cI, 2, .inl (fun _ => 0))), (q21, .inl (cI, 6, .inl (fun _ => 0))), (q29, .inl (cI, 6, .inl (fun _ => 0))), (q37, .inl (cI, 6, .inl (fun _ => 0))), (q45, .inl (cI, 6, .inl (fun _ => 0))), (q53, .inl (cI, 6, .inl (fun _ => 0))), (q61, .inl (cI, 96, .inl (fun _ => 0))), (q68, .inl (cI, 4, .inl (fun _ => 0))), (q76, .inl (cI, 20, .inl (fun _ => 0))), (q84, .inl (cI, 7, .inl (fun _ => 0))), (q92, .inl (cI, 41, .inl (fun _ => 0)))]) rfl ?_
  refine g_putF (C := RX5) (T := TX5) (N := 26) (ci := 5) (ws' := [(a_, .inr (5, [.int 0, .int 0, .int 0, .ref q6, .ref q13, .int 0, .int 0, .int 0, .int 0, .ref q21, .ref q29, .ref q37, .ref q45, .ref q53, .int 0, .ref q61, .int 0, .ref q68, .int 0, .ref q76, .ref q84, .int 0, .ref q92, .null, .null, .null])), (q6, .inl (cI, 2, .inl (fun _ => 0))), (q13, .inl (cI, 2, .inl (fun _ => 0))), (q21, .inl (cI, 6, .inl (fun _ => 0))), (q29, .inl (cI, 6, .inl (fun _ => 0))), (q37, .inl (cI, 6, .inl (fun _ => 0))), (q45, .inl (cI, 6, .inl (fun _ => 0))), (q53, .inl (cI, 6, .inl (fun _ => 0))), (q61, .inl (cI, 96, .inl (fun _ => 0))), (q68, .inl (cI, 4, .inl (fun _ => 0))), (q76, .inl (cI, 20, .inl (fun _ => 0))), (q84, .inl (cI, 7, .inl (fun _ => 0))), (q92, .inl (cI, 41, .inl (fun _ => 0)))]) X hi_X5_init_X5 tyX5 tyX5_ok nmX5 0 rfl rfl 22 (by decide) (X.2.2.2.2.1 (.fieldLink RX5 43 "NineteenSecondsLeftModel" "image" "[I") (List.mem_of_getElem? (i := 16) rfl)) rfl rfl hmn rfl rfl rfl (Nat.le_of_ble_eq_true rfl) dX5_init_94 rfl ?_
  refine g_aload_n X 0 rfl rfl dX5_init_97 ?_
  refine g_bipush (v := 41) X (by decide) dX5_init_98 ?_
  refine g_newarr X 41 (X.2.2.2.2.1 (.arrayClass .int) (List.mem_of_getElem? (i := 4) rfl)) (by decide) (by decide) (Nat.le_of_ble_eq_true rfl) (Nat.le_of_ble_eq_true rfl) (Nat.le_of_ble_eq_true rfl) dX5_init_100 (fun q100 => ?_)
  refine g_eqs (ws' := [(a_, .inr (5, [.int 0, .int 0, .int 0, .ref q6, .ref q13, .int 0, .int 0, .int 0, .int 0, .ref q21, .ref q29, .ref q37, .ref q45, .ref q53, .int 0, .ref q61, .int 0, .ref q68, .int 0, .ref q76, .ref q84, .int 0, .ref q92, .null, .null, .null])), (q6, .inl (cI, 2, .inl (fun _ => 0))), (q13, .inl (cI, 2, .inl (fun _ => 0))), (q21, .inl (cI, 6, .inl (fun _ => 0))), (q29, .inl (cI, 6, .inl (fun _ => 0))), (q37, .inl (cI, 6, .inl (fun _ => 0))), (q45, .inl (cI, 6, .inl (fun _ => 0))), (q53, .inl (cI, 6, .inl (fun _ => 0))), (q61, .inl (cI, 96, .inl (fun _ => 0))), (q68, .inl (cI, 4, .inl (fun _ => 0))), (q76, .inl (cI, 20, .inl (fun _ => 0))), (q84, .inl (cI, 7, .inl (fun _ => 0))), (q92, .inl (cI, 41, .inl (fun _ => 0))), (q100, .inl (cI, 41, .inl (fun _ => 0)))]) rfl ?_
  refine g_putF (C := RX5) (T := TX5) (N := 26) (ci := 5) (ws' := [(a_, .inr (5, [.int 0, .int 0, .int 0, .ref q6, .ref q13, .int 0, .int 0, .int 0, .int 0, .ref q21, .ref q29, .ref q37, .ref q45, .ref q53, .int 0, .ref q61, .int 0, .ref q68, .int 0, .ref q76, .ref q84, .int 0, .ref q92, .ref q100, .null, .null])), (q6, .inl (cI, 2, .inl (fun _ => 0))), (q13, .inl (cI, 2, .inl (fun _ => 0))), (q21, .inl (cI, 6, .inl (fun _ => 0))), (q29, .inl (cI, 6, .inl (fun _ => 0))), (q37, .inl (cI, 6, .inl (fun _ => 0))), (q45, .inl (cI, 6, .inl (fun _ => 0))), (q53, .inl (cI, 6, .inl (fun _ => 0))), (q61, .inl (cI, 96, .inl (fun _ => 0))), (q68, .inl (cI, 4, .inl (fun _ => 0))), (q76, .inl (cI, 20, .inl (fun _ => 0))), (q84, .inl (cI, 7, .inl (fun _ => 0))), (q92, .inl (cI, 41, .inl (fun _ => 0))), (q100, .inl (cI, 41, .inl (fun _ => 0)))]) X hi_X5_init_X5 tyX5 tyX5_ok nmX5 0 rfl rfl 23 (by decide) (X.2.2.2.2.1 (.fieldLink RX5 46 "NineteenSecondsLeftModel" "ahead" "[I") (List.mem_of_getElem? (i := 17) rfl)) rfl rfl hmn rfl rfl rfl (Nat.le_of_ble_eq_true rfl) dX5_init_102 rfl ?_
  refine g_aload_n X 0 rfl rfl dX5_init_105 ?_
  refine g_bipush (v := 6) X (by decide) dX5_init_106 ?_
  refine g_newarr X 6 (X.2.2.2.2.1 (.arrayClass .int) (List.mem_of_getElem? (i := 4) rfl)) (by decide) (by decide) (Nat.le_of_ble_eq_true rfl) (Nat.le_of_ble_eq_true rfl) (Nat.le_of_ble_eq_true rfl) dX5_init_108 (fun q108 => ?_)
  refine g_eqs (ws' := [(a_, .inr (5, [.int 0, .int 0, .int 0, .ref q6, .ref q13, .int 0, .int 0, .int 0, .int 0, .ref q21, .ref q29, .ref q37, .ref q45, .ref q53, .int 0, .ref q61, .int 0, .ref q68, .int 0, .ref q76, .ref q84, .int 0, .ref q92, .ref q100, .null, .null])), (q6, .inl (cI, 2, .inl (fun _ => 0))), (q13, .inl (cI, 2, .inl (fun _ => 0))), (q21, .inl (cI, 6, .inl (fun _ => 0))), (q29, .inl (cI, 6, .inl (fun _ => 0))), (q37, .inl (cI, 6, .inl (fun _ => 0))), (q45, .inl (cI, 6, .inl (fun _ => 0))), (q53, .inl (cI, 6, .inl (fun _ => 0))), (q61, .inl (cI, 96, .inl (fun _ => 0))), (q68, .inl (cI, 4, .inl (fun _ => 0))), (q76, .inl (cI, 20, .inl (fun _ => 0))), (q84, .inl (cI, 7, .inl (fun _ => 0))), (q92, .inl (cI, 41, .inl (fun _ => 0))), (q100, .inl (cI, 41, .inl (fun _ => 0))), (q108, .inl (cI, 6, .inl (fun _ => 0)))]) rfl ?_
  refine g_putF (C := RX5) (T := TX5) (N := 26) (ci := 5) (ws' := [(a_, .inr (5, [.int 0, .int 0, .int 0, .ref q6, .ref q13, .int 0, .int 0, .int 0, .int 0, .ref q21, .ref q29, .ref q37, .ref q45, .ref q53, .int 0, .ref q61, .int 0, .ref q68, .int 0, .ref q76, .ref q84, .int 0, .ref q92, .ref q100, .ref q108, .null])), (q6, .inl (cI, 2, .inl (fun _ => 0))), (q13, .inl (cI, 2, .inl (fun _ => 0))), (q21, .inl (cI, 6, .inl (fun _ => 0))), (q29, .inl (cI, 6, .inl (fun _ => 0))), (q37, .inl (cI, 6, .inl (fun _ => 0))), (q45, .inl (cI, 6, .inl (fun _ => 0))), (q53, .inl (cI, 6, .inl (fun _ => 0))), (q61, .inl (cI, 96, .inl (fun _ => 0))), (q68, .inl (cI, 4, .inl (fun _ => 0))), (q76, .inl (cI, 20, .inl (fun _ => 0))), (q84, .inl (cI, 7, .inl (fun _ => 0))), (q92, .inl (cI, 41, .inl (fun _ => 0))), (q100, .inl (cI, 41, .inl (fun _ => 0))), (q108, .inl (cI, 6, .inl (fun _ => 0)))]) X hi_X5_init_X5 tyX5 tyX5_ok nmX5 0 rfl rfl 24 (by decide) (X.2.2.2.2.1 (.fieldLink RX5 49 "NineteenSecondsLeftModel" "guard" "[I") (List.mem_of_getElem? (i := 18) rfl)) rfl rfl hmn rfl rfl rfl (Nat.le_of_ble_eq_true rfl) dX5_init_110 rfl ?_
  refine g_aload_n X 0 rfl rfl dX5_init_113 ?_
  refine g_sipush (v := 650) X (by decide) dX5_init_114 ?_
  refine g_newarr X 650 (X.2.2.2.2.1 (.arrayClass .int) (List.mem_of_getElem? (i := 4) rfl)) (by decide) (by decide) (Nat.le_of_ble_eq_true rfl) (Nat.le_of_ble_eq_true rfl) (Nat.le_of_ble_eq_true rfl) dX5_init_117 (fun q117 => ?_)
  refine g_eqs (ws' := [(a_, .inr (5, [.int 0, .int 0, .int 0, .ref q6, .ref q13, .int 0, .int 0, .int 0, .int 0, .ref q21, .ref q29, .ref q37, .ref q45, .ref q53, .int 0, .ref q61, .int 0, .ref q68, .int 0, .ref q76, .ref q84, .int 0, .ref q92, .ref q100, .ref q108, .null])), (q6, .inl (cI, 2, .inl (fun _ => 0))), (q13, .inl (cI, 2, .inl (fun _ => 0))), (q21, .inl (cI, 6, .inl (fun _ => 0))), (q29, .inl (cI, 6, .inl (fun _ => 0))), (q37, .inl (cI, 6, .inl (fun _ => 0))), (q45, .inl (cI, 6, .inl (fun _ => 0))), (q53, .inl (cI, 6, .inl (fun _ => 0))), (q61, .inl (cI, 96, .inl (fun _ => 0))), (q68, .inl (cI, 4, .inl (fun _ => 0))), (q76, .inl (cI, 20, .inl (fun _ => 0))), (q84, .inl (cI, 7, .inl (fun _ => 0))), (q92, .inl (cI, 41, .inl (fun _ => 0))), (q100, .inl (cI, 41, .inl (fun _ => 0))), (q108, .inl (cI, 6, .inl (fun _ => 0))), (q117, .inl (cI, 650, .inl (fun _ => 0)))]) rfl ?_
  refine g_putF (C := RX5) (T := TX5) (N := 26) (ci := 5) (ws' := [(a_, .inr (5, [.int 0, .int 0, .int 0, .ref q6, .ref q13, .int 0, .int 0, .int 0, .int 0, .ref q21, .ref q29, .ref q37, .ref q45, .ref q53, .int 0, .ref q61, .int 0, .ref q68, .int 0, .ref q76, .ref q84, .int 0, .ref q92, .ref q100, .ref q108, .ref q117])), (q6, .inl (cI, 2, .inl (fun _ => 0))), (q13, .inl (cI, 2, .inl (fun _ => 0))), (q21, .inl (cI, 6, .inl (fun _ => 0))), (q29, .inl (cI, 6, .inl (fun _ => 0))), (q37, .inl (cI, 6, .inl (fun _ => 0))), (q45, .inl (cI, 6, .inl (fun _ => 0))), (q53, .inl (cI, 6, .inl (fun _ => 0))), (q61, .inl (cI, 96, .inl (fun _ => 0))), (q68, .inl (cI, 4, .inl (fun _ => 0))), (q76, .inl (cI, 20, .inl (fun _ => 0))), (q84, .inl (cI, 7, .inl (fun _ => 0))), (q92, .inl (cI, 41, .inl (fun _ => 0))), (q100, .inl (cI, 41, .inl (fun _ => 0))), (q108, .inl (cI, 6, .inl (fun _ => 0))), (q117, .inl (cI, 650, .inl (fun _ => 0)))]) X hi_X5_init_X5 tyX5 tyX5_ok nmX5 0 rfl rfl 25 (by decide) (X.2.2.2.2.1 (.fieldLink RX5 52 "NineteenSecondsLeftModel" "worth" "[I") (List.mem_of_getElem? (i := 19) rfl)) rfl rfl hmn rfl rfl rfl (Nat.le_of_ble_eq_true rfl) dX5_init_119 rfl ?_
  refine g_aload_n X 0 rfl rfl dX5_init_122 ?_
  refine g_bipush (v := 19) X (by decide) dX5_init_123 ?_
  refine g_put (C := RX5) (T := TX5) (N := 26) (ci := 5) (ws' := [(a_, .inr (5, [.int 19, .int 0, .int 0, .ref q6, .ref q13, .int 0, .int 0, .int 0, .int 0, .ref q21, .ref q29, .ref q37, .ref q45, .ref q53, .int 0, .ref q61, .int 0, .ref q68, .int 0, .ref q76, .ref q84, .int 0, .ref q92, .ref q100, .ref q108, .ref q117])), (q6, .inl (cI, 2, .inl (fun _ => 0))), (q13, .inl (cI, 2, .inl (fun _ => 0))), (q21, .inl (cI, 6, .inl (fun _ => 0))), (q29, .inl (cI, 6, .inl (fun _ => 0))), (q37, .inl (cI, 6, .inl (fun _ => 0))), (q45, .inl (cI, 6, .inl (fun _ => 0))), (q53, .inl (cI, 6, .inl (fun _ => 0))), (q61, .inl (cI, 96, .inl (fun _ => 0))), (q68, .inl (cI, 4, .inl (fun _ => 0))), (q76, .inl (cI, 20, .inl (fun _ => 0))), (q84, .inl (cI, 7, .inl (fun _ => 0))), (q92, .inl (cI, 41, .inl (fun _ => 0))), (q100, .inl (cI, 41, .inl (fun _ => 0))), (q108, .inl (cI, 6, .inl (fun _ => 0))), (q117, .inl (cI, 650, .inl (fun _ => 0)))]) X hi_X5_init_X5 tyX5 tyX5_ok nmX5 0 rfl rfl 0 (by decide) (X.2.2.2.2.1 (.fieldLink RX5 55 "NineteenSecondsLeftModel" "seconds" "I") (List.mem_of_getElem? (i := 20) rfl)) rfl rfl rfl rfl (Nat.le_of_ble_eq_true rfl) dX5_init_125 rfl ?_
  refine g_aload_n X 0 rfl rfl dX5_init_128 ?_
  refine g_iconst (v := 5) X (by decide) dX5_init_129 ?_
  refine g_put (C := RX5) (T := TX5) (N := 26) (ci := 5) (ws' := [(a_, .inr (5, [.int 19, .int 5, .int 0, .ref q6, .ref q13, .int 0, .int 0, .int 0, .int 0, .ref q21, .ref q29, .ref q37, .ref q45, .ref q53, .int 0, .ref q61, .int 0, .ref q68, .int 0, .ref q76, .ref q84, .int 0, .ref q92, .ref q100, .ref q108, .ref q117])), (q6, .inl (cI, 2, .inl (fun _ => 0))), (q13, .inl (cI, 2, .inl (fun _ => 0))), (q21, .inl (cI, 6, .inl (fun _ => 0))), (q29, .inl (cI, 6, .inl (fun _ => 0))), (q37, .inl (cI, 6, .inl (fun _ => 0))), (q45, .inl (cI, 6, .inl (fun _ => 0))), (q53, .inl (cI, 6, .inl (fun _ => 0))), (q61, .inl (cI, 96, .inl (fun _ => 0))), (q68, .inl (cI, 4, .inl (fun _ => 0))), (q76, .inl (cI, 20, .inl (fun _ => 0))), (q84, .inl (cI, 7, .inl (fun _ => 0))), (q92, .inl (cI, 41, .inl (fun _ => 0))), (q100, .inl (cI, 41, .inl (fun _ => 0))), (q108, .inl (cI, 6, .inl (fun _ => 0))), (q117, .inl (cI, 650, .inl (fun _ => 0)))]) X hi_X5_init_X5 tyX5 tyX5_ok nmX5 0 rfl rfl 1 (by decide) (X.2.2.2.2.1 (.fieldLink RX5 59 "NineteenSecondsLeftModel" "lead" "I") (List.mem_of_getElem? (i := 21) rfl)) rfl rfl rfl rfl (Nat.le_of_ble_eq_true rfl) dX5_init_130 rfl ?_
  refine g_aload_n X 0 rfl rfl dX5_init_133 ?_
  refine g_get (C := RX5) (T := TX5) (N := 26) (ci := 5) X hi_X5_init_X5 0 rfl rfl 4 (by decide) (X.2.2.2.2.1 (.fieldLink RX5 13 "NineteenSecondsLeftModel" "calls" "[I") (List.mem_of_getElem? (i := 6) rfl)) rfl rfl dX5_init_134 ?_
  refine g_iconst (v := 0) X (by decide) dX5_init_137 ?_
  refine g_iconst (v := 1) X (by decide) dX5_init_138 ?_
  refine g_iast (ws' := [(a_, .inr (5, [.int 19, .int 5, .int 0, .ref q6, .ref q13, .int 0, .int 0, .int 0, .int 0, .ref q21, .ref q29, .ref q37, .ref q45, .ref q53, .int 0, .ref q61, .int 0, .ref q68, .int 0, .ref q76, .ref q84, .int 0, .ref q92, .ref q100, .ref q108, .ref q117])), (q6, .inl (cI, 2, .inl (fun _ => 0))), (q13, .inl (cI, 2, .inl (upd (fun _ => 0) (0 : Int32).toNatClampNeg 1))), (q21, .inl (cI, 6, .inl (fun _ => 0))), (q29, .inl (cI, 6, .inl (fun _ => 0))), (q37, .inl (cI, 6, .inl (fun _ => 0))), (q45, .inl (cI, 6, .inl (fun _ => 0))), (q53, .inl (cI, 6, .inl (fun _ => 0))), (q61, .inl (cI, 96, .inl (fun _ => 0))), (q68, .inl (cI, 4, .inl (fun _ => 0))), (q76, .inl (cI, 20, .inl (fun _ => 0))), (q84, .inl (cI, 7, .inl (fun _ => 0))), (q92, .inl (cI, 41, .inl (fun _ => 0))), (q100, .inl (cI, 41, .inl (fun _ => 0))), (q108, .inl (cI, 6, .inl (fun _ => 0))), (q117, .inl (cI, 650, .inl (fun _ => 0)))]) X 2 rfl (g_vinL (by decide)) dX5_init_139 rfl ?_
  refine g_aload_n X 0 rfl rfl dX5_init_140 ?_
  refine g_get (C := RX5) (T := TX5) (N := 26) (ci := 5) X hi_X5_init_X5 0 rfl rfl 4 (by decide) (X.2.2.2.2.1 (.fieldLink RX5 13 "NineteenSecondsLeftModel" "calls" "[I") (List.mem_of_getElem? (i := 6) rfl)) rfl rfl dX5_init_141 ?_
  refine g_iconst (v := 1) X (by decide) dX5_init_144 ?_
  refine g_iconst (v := 1) X (by decide) dX5_init_145 ?_
  refine g_iast (ws' := [(a_, .inr (5, [.int 19, .int 5, .int 0, .ref q6, .ref q13, .int 0, .int 0, .int 0, .int 0, .ref q21, .ref q29, .ref q37, .ref q45, .ref q53, .int 0, .ref q61, .int 0, .ref q68, .int 0, .ref q76, .ref q84, .int 0, .ref q92, .ref q100, .ref q108, .ref q117])), (q6, .inl (cI, 2, .inl (fun _ => 0))), (q13, .inl (cI, 2, .inl (upd (upd (fun _ => 0) (0 : Int32).toNatClampNeg 1) (1 : Int32).toNatClampNeg 1))), (q21, .inl (cI, 6, .inl (fun _ => 0))), (q29, .inl (cI, 6, .inl (fun _ => 0))), (q37, .inl (cI, 6, .inl (fun _ => 0))), (q45, .inl (cI, 6, .inl (fun _ => 0))), (q53, .inl (cI, 6, .inl (fun _ => 0))), (q61, .inl (cI, 96, .inl (fun _ => 0))), (q68, .inl (cI, 4, .inl (fun _ => 0))), (q76, .inl (cI, 20, .inl (fun _ => 0))), (q84, .inl (cI, 7, .inl (fun _ => 0))), (q92, .inl (cI, 41, .inl (fun _ => 0))), (q100, .inl (cI, 41, .inl (fun _ => 0))), (q108, .inl (cI, 6, .inl (fun _ => 0))), (q117, .inl (cI, 650, .inl (fun _ => 0)))]) X 2 rfl (g_vinL (by decide)) dX5_init_146 rfl ?_
  refine g_aload_n X 0 rfl rfl dX5_init_147 ?_
  refine g_iconst (v := 3) X (by decide) dX5_init_148 ?_
  refine g_put (C := RX5) (T := TX5) (N := 26) (ci := 5) (ws' := [(a_, .inr (5, [.int 19, .int 5, .int 0, .ref q6, .ref q13, .int 3, .int 0, .int 0, .int 0, .ref q21, .ref q29, .ref q37, .ref q45, .ref q53, .int 0, .ref q61, .int 0, .ref q68, .int 0, .ref q76, .ref q84, .int 0, .ref q92, .ref q100, .ref q108, .ref q117])), (q6, .inl (cI, 2, .inl (fun _ => 0))), (q13, .inl (cI, 2, .inl (upd (upd (fun _ => 0) (0 : Int32).toNatClampNeg 1) (1 : Int32).toNatClampNeg 1))), (q21, .inl (cI, 6, .inl (fun _ => 0))), (q29, .inl (cI, 6, .inl (fun _ => 0))), (q37, .inl (cI, 6, .inl (fun _ => 0))), (q45, .inl (cI, 6, .inl (fun _ => 0))), (q53, .inl (cI, 6, .inl (fun _ => 0))), (q61, .inl (cI, 96, .inl (fun _ => 0))), (q68, .inl (cI, 4, .inl (fun _ => 0))), (q76, .inl (cI, 20, .inl (fun _ => 0))), (q84, .inl (cI, 7, .inl (fun _ => 0))), (q92, .inl (cI, 41, .inl (fun _ => 0))), (q100, .inl (cI, 41, .inl (fun _ => 0))), (q108, .inl (cI, 6, .inl (fun _ => 0))), (q117, .inl (cI, 650, .inl (fun _ => 0)))]) X hi_X5_init_X5 tyX5 tyX5_ok nmX5 0 rfl rfl 5 (by decide) (X.2.2.2.2.1 (.fieldLink RX5 62 "NineteenSecondsLeftModel" "rebound" "I") (List.mem_of_getElem? (i := 22) rfl)) rfl rfl rfl rfl (Nat.le_of_ble_eq_true rfl) dX5_init_149 rfl ?_
  refine g_aload_n X 0 rfl rfl dX5_init_152 ?_
  refine g_iconst (v := 5) X (by decide) dX5_init_153 ?_
  refine g_put (C := RX5) (T := TX5) (N := 26) (ci := 5) (ws' := [(a_, .inr (5, [.int 19, .int 5, .int 0, .ref q6, .ref q13, .int 3, .int 0, .int 5, .int 0, .ref q21, .ref q29, .ref q37, .ref q45, .ref q53, .int 0, .ref q61, .int 0, .ref q68, .int 0, .ref q76, .ref q84, .int 0, .ref q92, .ref q100, .ref q108, .ref q117])), (q6, .inl (cI, 2, .inl (fun _ => 0))), (q13, .inl (cI, 2, .inl (upd (upd (fun _ => 0) (0 : Int32).toNatClampNeg 1) (1 : Int32).toNatClampNeg 1))), (q21, .inl (cI, 6, .inl (fun _ => 0))), (q29, .inl (cI, 6, .inl (fun _ => 0))), (q37, .inl (cI, 6, .inl (fun _ => 0))), (q45, .inl (cI, 6, .inl (fun _ => 0))), (q53, .inl (cI, 6, .inl (fun _ => 0))), (q61, .inl (cI, 96, .inl (fun _ => 0))), (q68, .inl (cI, 4, .inl (fun _ => 0))), (q76, .inl (cI, 20, .inl (fun _ => 0))), (q84, .inl (cI, 7, .inl (fun _ => 0))), (q92, .inl (cI, 41, .inl (fun _ => 0))), (q100, .inl (cI, 41, .inl (fun _ => 0))), (q108, .inl (cI, 6, .inl (fun _ => 0))), (q117, .inl (cI, 650, .inl (fun _ => 0)))]) X hi_X5_init_X5 tyX5 tyX5_ok nmX5 0 rfl rfl 7 (by decide) (X.2.2.2.2.1 (.fieldLink RX5 65 "NineteenSecondsLeftModel" "draw" "I") (List.mem_of_getElem? (i := 23) rfl)) rfl rfl rfl rfl (Nat.le_of_ble_eq_true rfl) dX5_init_154 rfl ?_
  exact g_vret X hAA hQQ (q6, q13, q21, q29, q37, q45, q53, q61, q68, q76, q84, q92, q100, q108, q117) trivial [0, 1, 2, 3, 4, 5, 6, 7, 8, 9, 10, 11, 12, 13, 14, 15] rfl rfl hr dX5_init_157
