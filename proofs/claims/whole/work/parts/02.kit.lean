def g_maxf (x y : Int32) : Int32 := if x < y then y else x
def g_minf (x y : Int32) : Int32 := if y < x then y else x
def g_absf (x : Int32) : Int32 := if 0 ≤ x then x else 0 - x
def g_remf (x y : Int32) : Int32 := x - x / y * y
def g_cpy (f g : Nat → Int32) (n : Nat) : Nat → Int32 := fun k => if k < n then f k else g k
theorem g_cpy_eq (f g : Nat → Int32) (n : Nat) : va_cpy f g 0 0 n = g_cpy f g n := by
  funext k
  simp [va_cpy, g_cpy]
def g_lt2 {a b d : Type} (e : a × b) (f : a → b → d) : d := f e.1 e.2
theorem g_let2 {a b d : Type} {X : d} {e : a × b} {r : a} {u : b} {f : a → b → d} (h : X = g_lt2 e f) (hu : (r, u) = e) : X = f r u := by rw [h, ← hu]; rfl
theorem g_n0 {x : Int32} (h : ¬ x < 0) : 0 ≤ x := Int32.not_lt.mp h
theorem g_nn {x y : Int32} (h : ¬ y ≤ x) : x < y := Int32.not_le.mp h
theorem g_vin {x N : Int32} {n : Nat} (hN : N.toInt = (n : Int)) (h0 : 0 ≤ x) (h1 : x < N) : vp_in x n := by
  rw [vp_in_iff]
  have a := Int32.le_iff_toInt_le.mp h0
  have b := Int32.lt_iff_toInt_lt.mp h1
  have z : (0 : Int32).toInt = 0 := by decide
  omega
theorem g_vinL {x : Int32} {n : Nat} (h : (decide (0 ≤ x.toInt) && decide (x.toInt < (n : Int))) = true) : vp_in x n := by
  rw [vp_in_iff]
  simpa using h
theorem g_inm {x n : Int32} {k : Int} (h : Int32.ofInt k = n) : x + Int32.ofInt k = x + n := by rw [h]
theorem g_addI {x y : Int32} (h1 : -2147483648 ≤ x.toInt + y.toInt) (h2 : x.toInt + y.toInt < 2147483648) : (x + y).toInt = x.toInt + y.toInt := by
  rw [Int32.toInt_add]
  exact Int.bmod_eq_of_le (by omega) (by omega)
theorem g_subI {x y : Int32} (h1 : -2147483648 ≤ x.toInt - y.toInt) (h2 : x.toInt - y.toInt < 2147483648) : (x - y).toInt = x.toInt - y.toInt := by
  rw [Int32.toInt_sub]
  exact Int.bmod_eq_of_le (by omega) (by omega)
theorem g_mulI {x y : Int32} (h1 : -2147483648 ≤ x.toInt * y.toInt) (h2 : x.toInt * y.toInt < 2147483648) : (x * y).toInt = x.toInt * y.toInt := by
  rw [Int32.toInt_mul]
  exact Int.bmod_eq_of_le (by omega) (by omega)
theorem g_rng (x : Int32) : -2147483648 ≤ x.toInt ∧ x.toInt < 2147483648 := ⟨Int32.le_toInt x, Int32.toInt_lt x⟩
theorem g_inc {i B : Int32} (h : ¬ B ≤ i) : (i + 1).toInt = i.toInt + 1 ∧ i.toInt < B.toInt := by
  have a := Int32.lt_iff_toInt_lt.mp (Int32.not_le.mp h)
  have b := g_rng B
  have c := g_rng i
  have z : (1 : Int32).toInt = 1 := by decide
  exact ⟨by rw [g_addI (by omega) (by omega), z], a⟩
theorem g_upm {i B : Int32} {n : Nat} (h : ¬ B ≤ i) (hm : (B.toInt - i.toInt).toNat < n + 1) : (B.toInt - (i + 1).toInt).toNat < n := by
  obtain ⟨a, b⟩ := g_inc h
  omega
theorem g_up0 {i B : Int32} (h0 : 0 ≤ i) (h : ¬ B ≤ i) : 0 ≤ i + 1 := by
  obtain ⟨a, b⟩ := g_inc h
  rw [Int32.le_iff_toInt_le] at h0 ⊢
  have z : (0 : Int32).toInt = 0 := by decide
  omega
theorem g_inc2 {i B : Int32} (hB : B.toInt ≤ 1000) (h0 : 0 ≤ i) (h : ¬ B ≤ i) : (i + 2).toInt = i.toInt + 2 ∧ i.toInt < B.toInt := by
  have a := Int32.lt_iff_toInt_lt.mp (Int32.not_le.mp h)
  have c := Int32.le_iff_toInt_le.mp h0
  have z0 : (0 : Int32).toInt = 0 := by decide
  have z : (2 : Int32).toInt = 2 := by decide
  exact ⟨by rw [g_addI (by omega) (by omega), z], a⟩
theorem g_dn {i : Int32} (h : 0 ≤ i) : (i - 1).toInt = i.toInt - 1 ∧ 0 ≤ i.toInt := by
  have c := Int32.le_iff_toInt_le.mp h
  have r := g_rng i
  have z0 : (0 : Int32).toInt = 0 := by decide
  have z : (1 : Int32).toInt = 1 := by decide
  exact ⟨by rw [g_subI (by omega) (by omega), z], by omega⟩
theorem g_dnm {i : Int32} {n : Nat} (h : ¬ i < 0) (hm : (i.toInt + 1).toNat < n + 1) : ((i + (-1)).toInt + 1).toNat < n := by
  have c := Int32.le_iff_toInt_le.mp (Int32.not_lt.mp h)
  have r := g_rng i
  have z0 : (0 : Int32).toInt = 0 := by decide
  have z : (-1 : Int32).toInt = -1 := by decide
  have e : (i + (-1)).toInt = i.toInt + (-1) := by rw [g_addI (by omega) (by omega), z]
  omega
theorem g_lem {i B : Int32} {n : Nat} (hB : B.toInt ≤ 1000) (h : ¬ B < i) (hm : (B.toInt - i.toInt + 1).toNat < n + 1) : (B.toInt - (i + 1).toInt + 1).toNat < n := by
  have c := Int32.le_iff_toInt_le.mp (Int32.not_lt.mp h)
  have r := g_rng i
  have z : (1 : Int32).toInt = 1 := by decide
  have e : (i + 1).toInt = i.toInt + 1 := by rw [g_addI (by omega) (by omega), z]
  omega
theorem g_le0 {i B : Int32} (hB : B.toInt ≤ 1000) (h0 : 0 ≤ i) (h : ¬ B < i) : 0 ≤ i + 1 := by
  have c := Int32.le_iff_toInt_le.mp (Int32.not_lt.mp h)
  have d := Int32.le_iff_toInt_le.mp h0
  have z0 : (0 : Int32).toInt = 0 := by decide
  have z : (1 : Int32).toInt = 1 := by decide
  rw [Int32.le_iff_toInt_le, g_addI (by omega) (by omega), z]
  omega
theorem g_upm2 {i B : Int32} {n : Nat} (hB : B.toInt ≤ 1000) (h0 : 0 ≤ i) (h : ¬ B ≤ i) (hm : (B.toInt - i.toInt).toNat < n + 1) : (B.toInt - (i + 2).toInt).toNat < n := by
  obtain ⟨a, b⟩ := g_inc2 hB h0 h
  omega
theorem g_up02 {i B : Int32} (hB : B.toInt ≤ 1000) (h0 : 0 ≤ i) (h : ¬ B ≤ i) : 0 ≤ i + 2 := by
  obtain ⟨a, b⟩ := g_inc2 hB h0 h
  rw [Int32.le_iff_toInt_le] at h0 ⊢
  have z : (0 : Int32).toInt = 0 := by decide
  omega
theorem g_min24 (x : Int32) : (g_minf x 24).toInt ≤ 1000 := by
  unfold g_minf
  have z : (24 : Int32).toInt = 24 := by decide
  split
  · omega
  · rename_i h
    have c := Int32.le_iff_toInt_le.mp (Int32.not_lt.mp h)
    omega
theorem g_nz {x : Int32} (h : 1 ≤ x) : ¬ x = 0 := by
  intro q
  rw [q] at h
  exact absurd h (by decide)
theorem g_lt0 {x : Int32} (h : 0 < x) : 0 ≤ x := by
  have a := Int32.lt_iff_toInt_lt.mp h
  rw [Int32.le_iff_toInt_le]
  omega
theorem g_m10 {x : Int32} (h : 10 < x) : 0 ≤ x - 10 := by
  have a := Int32.lt_iff_toInt_lt.mp h
  have r := g_rng x
  have z0 : (0 : Int32).toInt = 0 := by decide
  have z : (10 : Int32).toInt = 10 := by decide
  rw [Int32.le_iff_toInt_le, g_subI (by omega) (by omega), z]
  omega
theorem g_ne1 {x a : Int32} (h : ¬ x = a) : ∀ k ∈ [a], ¬ x = k := fun k q => by rw [List.mem_singleton.mp q]; exact h
theorem g_neC {x a : Int32} {l : List Int32} (h : ¬ x = a) (t : ∀ k ∈ l, ¬ x = k) : ∀ k ∈ a :: l, ¬ x = k := List.forall_mem_cons.mpr ⟨h, t⟩
/-! MY KIT: a walk's configuration GG (world, locals, pc, stack as plain lists), a row an instruction, a row a call, the contracts' one form -/
def g_tabG : List Int32 := [24, 12, 1, 5, 5, 2, 2, 9, 3, 9]
def g_tabT : List Int32 := [4, 3, 1, 5]
def g_sN : Nat := 6
/-- the texts: 0 "", 1 "dkddd;", 2 "dd;", 3 "sd;", 4 "d;", 5 "shtbok" -/
def g_sLen : List Nat := [0, 6, 3, 3, 2, 6]
def g_sByt : List (List Int32) := [[], [100, 107, 100, 100, 100, 59], [100, 100, 59], [115, 100, 59], [100, 59], [115, 104, 116, 98, 111, 107]]
def g_sTx : List String := ["", "dkddd;", "dd;", "sd;", "d;", "shtbok"]
def g_sOwn : List String := [RX2, RX2, RX2, RX2, RX2, RX5]
def g_sIdx : List Nat := [79, 71, 73, 75, 77, 94]
/-- the nest mates' words -/
def g_nM : List (String × Nat × MethodName) := [(RX4, 9, yX0_init), (RX0, 17, yX3_init), (RX4, 25, yX2_init), (RX4, 43, yX1_init), (RX1, 11, yX3_init), (RX1, 99, yX4_takes), (RX1, 96, yX4_heldLead), (RX1, 117, yX4_mix)]
def g_nF : List (String × Nat × String × String × String) := [(RX1, 50, "NineteenSecondsLeft$Hall", "squad", "LNineteenSecondsLeft$Squad;"), (RX4, 69, "NineteenSecondsLeft$Hall", "squad", "LNineteenSecondsLeft$Squad;"), (RX2, 36, "NineteenSecondsLeft$Hall", "squad", "LNineteenSecondsLeft$Squad;"), (RX2, 110, "NineteenSecondsLeft", "GREATEST", "[I")]
def g_nest (U : State) : Prop := (∀ q ∈ g_nM, va_Nw (.methodLinkNest q.1 q.2.1 q.2.2 "NineteenSecondsLeft") U) ∧ (∀ q ∈ g_nF, va_Nw (.fieldLinkNest q.1 q.2.1 q.2.2.1 q.2.2.2.1 q.2.2.2.2 "NineteenSecondsLeft") U)
theorem g_nest.warm {s U : State} (hW : s.WarmedH U.vm) (h : g_nest s) : g_nest U := ⟨fun q hq => va_Nw.warmM hW (h.1 q hq), fun q hq => va_Nw.warmF hW (h.2 q hq)⟩
theorem g_nest.same {u U : State} (hv : U.vm = u.vm) (h : g_nest u) : g_nest U := ⟨fun q hq => va_Nw.same rfl hv.symm (h.1 q hq), fun q hq => va_Nw.same rfl hv.symm (h.2 q hq)⟩
/-- what nobody writes: the two tables, the texts, the JDK's statics -/
def g_Z (kA kV : Nat → Nat) (U : State) (H : Heap) (A : Nat → Prop) : Prop :=
  (∃ t : Nat, va_Z "NineteenSecondsLeft" "GREATEST" "[I" (.ref t) A U H ∧ va_T .int t 10 (fun j => .int (g_tabG.getD j 0)) A U H) ∧
  (∃ t : Nat, va_Z "NineteenSecondsLeft" "TAKES" "[I" (.ref t) A U H ∧ va_T .int t 4 (fun j => .int (g_tabT.getD j 0)) A U H) ∧
  va_Z "java/lang/String" "COMPACT_STRINGS" "Z" (.int 1) A U H ∧
  va_Zq "jdk/internal/util/Preconditions" "SIOOBE_FORMATTER" "Ljava/util/function/BiFunction;" A U H ∧
  vk_S g_sN g_sLen g_sByt kA kV A U H ∧ (∀ i : Nat, i < g_sN → vk_R (g_sOwn.getD i "") (g_sIdx.getD i 0) (g_sTx.getD i "") (kA i) U) ∧ g_nest U
theorem g_Z.kept {kA kV : Nat → Nat} {U : State} {H H1 : Heap} {A : Nat → Prop} (h : g_Z kA kV U H A) (hq : ∀ a : Nat, a < H.size → ¬ A a → H1[a]? = H[a]?) : g_Z kA kV U H1 A := by
  obtain ⟨⟨t1, a1, b1⟩, ⟨t2, a2, b2⟩, h3, h4, h5, h6, h7⟩ := h
  exact ⟨⟨t1, a1.kept hq, b1.kept hq⟩, ⟨t2, a2.kept hq, b2.kept hq⟩, h3.kept hq, h4.kept hq, h5.kept hq, h6, h7⟩
theorem g_Z.narrow {kA kV : Nat → Nat} {U : State} {H : Heap} {A B : Nat → Prop} (h : g_Z kA kV U H A) (hAB : ∀ q, B q → A q) : g_Z kA kV U H B := by
  obtain ⟨⟨t1, a1, b1⟩, ⟨t2, a2, b2⟩, h3, h4, h5, h6, h7⟩ := h
  exact ⟨⟨t1, a1.narrow hAB, b1.narrow hAB⟩, ⟨t2, a2.narrow hAB, b2.narrow hAB⟩, h3.narrow hAB, h4.narrow hAB, h5.narrow hAB, h6, h7⟩
theorem g_Z.warm {kA kV : Nat → Nat} {s U : State} {H : Heap} {A : Nat → Prop} (hW : s.WarmedH U.vm) (h : g_Z kA kV s H A) : g_Z kA kV U H A := by
  obtain ⟨⟨t1, a1, b1⟩, ⟨t2, a2, b2⟩, h3, h4, h5, h6, h7⟩ := h
  have hv := hW.alike
  exact ⟨⟨t1, va_Z.moved hv a1, va_T.moved hv b1⟩, ⟨t2, va_Z.moved hv a2, va_T.moved hv b2⟩, va_Z.moved hv h3, va_Zq.moved hv h4, vk_S.moved hv h5, fun i hi => vk_R.warm hW (h6 i hi), h7.warm hW⟩
theorem g_Z.same {kA kV : Nat → Nat} {u U : State} {H : Heap} {A : Nat → Prop} (hv : U.vm = u.vm) (h : g_Z kA kV u H A) : g_Z kA kV U H A := by
  obtain ⟨⟨t1, a1, b1⟩, ⟨t2, a2, b2⟩, h3, h4, h5, h6, h7⟩ := h
  have hw : u.vm.Alike U.vm := by rw [hv]; exact Vm.Alike.refl u.vm
  exact ⟨⟨t1, va_Z.moved hw a1, va_T.moved hw b1⟩, ⟨t2, va_Z.moved hw a2, va_T.moved hw b2⟩, va_Z.moved hw h3, va_Zq.moved hw h4, vk_S.moved hw h5, fun i hi => vk_R.same hv (h6 i hi), h7.same hv⟩
/-- a contract's start and end -/
def g_P (D : va_G) (cI : ClassId) (kA kV : Nat → Nat) (sz : Nat) (w0 : va_W) (U : State) : Prop := U.heap.size = sz ∧ va_P D vwCl w0 U.heap ∧ va_K D vwCl [(cI, .int)] U ∧ va_D (fun _ => True) w0 ∧ g_Z kA kV U U.heap (va_A w0 sz)
def g_B (D : va_G) (cI : ClassId) (sz : Nat) (w0 w1 : va_W) (t : State) : Prop := va_P D vwCl w1 t.heap ∧ va_K D vwCl [(cI, .int)] t ∧ va_D (va_A w0 sz) w1
/-- the contract of a method with an int's answer r and the world w1 u behind it: post r u -/
def g_MI {S : Type} (l : Launch) (D : va_G) (cI : ClassId) (kA kV : Nat → Nat) (y : MethodName) (ws : List Cond) (rm : Room) (As : List Value) (w0 : va_W) (w1 : S → va_W) (post : Int32 → S → Prop) : Prop :=
  ∀ sz : Nat, Met l y ws rm (va_Pc As (g_P D cI kA kV sz w0)) (va_Qi post (fun u t => g_B D cI sz w0 (w1 u) t) (va_A w0 sz)) rm.cells rm.slots (va_A w0 sz)
def g_MV {S : Type} (l : Launch) (D : va_G) (cI : ClassId) (kA kV : Nat → Nat) (y : MethodName) (ws : List Cond) (rm : Room) (As : List Value) (w0 : va_W) (w1 : S → va_W) (post : S → Prop) : Prop :=
  ∀ sz : Nat, Met l y ws rm (va_Pc As (g_P D cI kA kV sz w0)) (va_Qv post (fun u t => g_B D cI sz w0 (w1 u) t) (va_A w0 sz)) rm.cells rm.slots (va_A w0 sz)
/-- .. whose answer is one of the texts -/
def g_MR (l : Launch) (D : va_G) (cI : ClassId) (kA kV : Nat → Nat) (y : MethodName) (ws : List Cond) (rm : Room) (As : List Value) (w0 : va_W) (post : Nat → Prop) : Prop :=
  ∀ sz : Nat, Met l y ws rm (va_Pc As (g_P D cI kA kV sz w0)) (va_Qr post (fun u a t => a = kA u ∧ g_B D cI sz w0 w0 t) (va_A w0 sz)) rm.cells rm.slots (va_A w0 sz)
theorem g_blind {D : va_G} {cI : ClassId} {kA kV : Nat → Nat} {sz : Nat} {w0 : va_W} {As : List Value} : FrameBlind (va_Pc As (g_P D cI kA kV sz w0)) := by
  intro a U g mk q
  obtain ⟨q0, q1, q2, q3, q4, q5⟩ := q
  exact ⟨q0, q1, q2, va_K.moved (u := U) (U := U.calling g mk a) (Vm.Alike.refl U.vm) q3, q4, g_Z.same (u := U) (U := U.calling g mk a) rfl q5⟩
/-- a bound name -/
def g_lt {a b : Type} (e : a) (f : a → b) : b := f e
theorem g_let {a b : Type} {X : b} {e u : a} {f : a → b} (h : X = g_lt e f) (hu : u = e) : X = f u := by rw [h, hu]; rfl
theorem g_pair {a b : Type} {r : a} {u : b} {e : a × b} (h : (r, u) = e) : r = e.1 ∧ u = e.2 := by rw [← h]; exact ⟨rfl, rfl⟩
section GG
variable {p : Program} {l : Launch} {e : Env} {R : Room} {s : State} {m : MethodId} {args : Array Value} {below : List Frame} {meth : Method} {c : Code} {D : va_G} {cI : ClassId} {kA kV : Nat → Nat} {A : Nat → Prop} {cells slots : Nat} {Q : State → Prop} {nL : Nat} {ws ws' : va_W} {lv lv' : List (Nat × Value)} {pc : Nat} {st : List Value} {cc : ByteArray} {Ts : List Cond} {own : String}
def GG (p : Program) (l : Launch) (e : Env) (R : Room) (s : State) (m : MethodId) (args : Array Value) (below : List Frame) (meth : Method) (c : Code) (D : va_G) (A : Nat → Prop) (cells slots : Nat) (Q : State → Prop) (nL : Nat) (ws : va_W) (lv : List (Nat × Value)) (pc : Nat) (st : List Value) : Prop :=
  ∀ (H : Heap) (locs : List Loc) (ls : Array Slot), va_P D vwCl ws H → va_D A ws → va_S A s.heap H locs → lv_has ls nL lv → W p l e R s m args below meth c H locs cells slots Q (F0 m pc ls st)
/-- what stays in a walk -/
def g_X (p : Program) (s : State) (m : MethodId) (args : Array Value) (meth : Method) (c : Code) (cc : ByteArray) (nL : Nat) (Ts : List Cond) (own : String) (D : va_G) (cI : ClassId) (kA kV : Nat → Nat) (A : Nat → Prop) : Prop :=
  p.tables.exec = Jvm.exec ∧ c.code = cc ∧ c.maxLocals = nL ∧ s.vm.findClass own = some m.cls ∧ (∀ w ∈ Ts, w.before args s = true) ∧ va_K D vwCl [(cI, .int)] s ∧ (∀ q : Nat, s.heap.size ≤ q → A q) ∧ g_Z kA kV s s.heap A ∧ meth.locks = false
theorem g_eqs (hw : ws = ws') (kk : GG p l e R s m args below meth c D A cells slots Q nL ws' lv pc st) : GG p l e R s m args below meth c D A cells slots Q nL ws lv pc st := hw ▸ kk
theorem g_lpick (ks : List Nat) (hl : lv_pick lv ks = lv') (kk : GG p l e R s m args below meth c D A cells slots Q nL ws lv' pc st) : GG p l e R s m args below meth c D A cells slots Q nL ws lv pc st := fun H locs ls hP hD hS h => kk H locs ls hP hD hS (lv_sub h ks hl)
theorem g_wsub (is : List Nat) (hn : va_nd is = true) (hs : is.map (fun i => ws[i]?) = ws'.map some) (kk : GG p l e R s m args below meth c D A cells slots Q nL ws' lv pc st) : GG p l e R s m args below meth c D A cells slots Q nL ws lv pc st := by
  intro H locs ls hP hD hS h
  refine kk H locs ls (hP.sub is ?_) (hD.sub is hn hs) hS h
  have : is.filterMap (fun i => ws[i]?) = (is.map (fun i => ws[i]?)).filterMap id := by simp [List.filterMap_map]
  rw [this, hs]
  simp [List.filterMap_map]
theorem g_widen {k n : Nat} (h1 : cells ≤ k) (h2 : slots ≤ n) (kk : GG p l e R s m args below meth c D A k n Q nL ws lv pc st) : GG p l e R s m args below meth c D A cells slots Q nL ws lv pc st := fun H locs ls hP hD hS h => W.widen h1 h2 (kk H locs ls hP hD hS h)

theorem g_iconst (X : g_X p s m args meth c cc nL Ts own D cI kA kV A) {n : Int} {v : Int32} (hv : Int32.ofInt n = v) (hd : decode cc pc = .ok (.iconst n, 1)) (kk : GG p l e R s m args below meth c D A cells slots Q nL ws lv (pc + 1) (.int v :: st)) : GG p l e R s m args below meth c D A cells slots Q nL ws lv pc st := fun H locs ls hP hD hS h => lv_iconst X.1 X.2.1 hd hv (kk H locs ls hP hD hS h)
theorem g_bipush (X : g_X p s m args meth c cc nL Ts own D cI kA kV A) {n : Int} {v : Int32} (hv : (Int8.ofInt n).toInt32 = v) (hd : decode cc pc = .ok (.bipush n, 2)) (kk : GG p l e R s m args below meth c D A cells slots Q nL ws lv (pc + 2) (.int v :: st)) : GG p l e R s m args below meth c D A cells slots Q nL ws lv pc st := fun H locs ls hP hD hS h => lv_bipush X.1 X.2.1 hd hv (kk H locs ls hP hD hS h)
theorem g_sipush (X : g_X p s m args meth c cc nL Ts own D cI kA kV A) {n : Int} {v : Int32} (hv : (Int16.ofInt n).toInt32 = v) (hd : decode cc pc = .ok (.sipush n, 3)) (kk : GG p l e R s m args below meth c D A cells slots Q nL ws lv (pc + 3) (.int v :: st)) : GG p l e R s m args below meth c D A cells slots Q nL ws lv pc st := fun H locs ls hP hD hS h => lv_sipush X.1 X.2.1 hd hv (kk H locs ls hP hD hS h)
theorem g_ldc (X : g_X p s m args meth c cc nL Ts own D cI kA kV A) {idx : Nat} {v : Int32} (hc : (Cond.constant own idx v).before args s = true) (hd : decode cc pc = .ok (.ldc idx, 2)) (kk : GG p l e R s m args below meth c D A cells slots Q nL ws lv (pc + 2) (.int v :: st)) : GG p l e R s m args below meth c D A cells slots Q nL ws lv pc st := fun H locs ls hP hD hS h => lv_ldc X.1 X.2.1 X.2.2.2.1 hc hd (kk H locs ls hP hD hS h)
theorem g_ldc2 (X : g_X p s m args meth c cc nL Ts own D cI kA kV A) {idx : Nat} {v : Int64} (hc : (Cond.constantLong own idx v).before args s = true) (hd : decode cc pc = .ok (.ldc2_w idx, 3)) (kk : GG p l e R s m args below meth c D A cells slots Q nL ws lv (pc + 3) (.long v :: st)) : GG p l e R s m args below meth c D A cells slots Q nL ws lv pc st := fun H locs ls hP hD hS h => lv_ldc2 X.1 X.2.1 X.2.2.2.1 hc hd (kk H locs ls hP hD hS h)
theorem g_iload_n (X : g_X p s m args meth c cc nL Ts own D cI kA kV A) {k : Fin 4} {i : Nat} {x : Int32} (j : Nat) (hk : lv[j]? = some (i, .int x)) (hi : (k : Nat) = i) (hd : decode cc pc = .ok (.iload_n k, 1)) (kk : GG p l e R s m args below meth c D A cells slots Q nL ws lv (pc + 1) (.int x :: st)) : GG p l e R s m args below meth c D A cells slots Q nL ws lv pc st := fun H locs ls hP hD hS h => lv_iload_n X.1 X.2.1 hd hi (lv_at h j hk) (kk H locs ls hP hD hS h)
theorem g_iload (X : g_X p s m args meth c cc nL Ts own D cI kA kV A) {i : Nat} {x : Int32} (j : Nat) (hk : lv[j]? = some (i, .int x)) (hd : decode cc pc = .ok (.iload i, 2)) (kk : GG p l e R s m args below meth c D A cells slots Q nL ws lv (pc + 2) (.int x :: st)) : GG p l e R s m args below meth c D A cells slots Q nL ws lv pc st := fun H locs ls hP hD hS h => lv_iload X.1 X.2.1 hd (lv_at h j hk) (kk H locs ls hP hD hS h)
theorem g_lload (X : g_X p s m args meth c cc nL Ts own D cI kA kV A) {i : Nat} {x : Int64} (j : Nat) (hk : lv[j]? = some (i, .long x)) (hd : decode cc pc = .ok (.lload i, 2)) (kk : GG p l e R s m args below meth c D A cells slots Q nL ws lv (pc + 2) (.long x :: st)) : GG p l e R s m args below meth c D A cells slots Q nL ws lv pc st := fun H locs ls hP hD hS h => lv_lload X.1 X.2.1 hd (lv_at h j hk) (kk H locs ls hP hD hS h)
theorem g_aload_n (X : g_X p s m args meth c cc nL Ts own D cI kA kV A) {k : Fin 4} {i : Nat} {x : Nat} (j : Nat) (hk : lv[j]? = some (i, .ref x)) (hi : (k : Nat) = i) (hd : decode cc pc = .ok (.aload_n k, 1)) (kk : GG p l e R s m args below meth c D A cells slots Q nL ws lv (pc + 1) (.ref x :: st)) : GG p l e R s m args below meth c D A cells slots Q nL ws lv pc st := fun H locs ls hP hD hS h => lv_aload_n X.1 X.2.1 hd hi (lv_at h j hk) (kk H locs ls hP hD hS h)
theorem g_aload (X : g_X p s m args meth c cc nL Ts own D cI kA kV A) {i : Nat} {x : Nat} (j : Nat) (hk : lv[j]? = some (i, .ref x)) (hd : decode cc pc = .ok (.aload i, 2)) (kk : GG p l e R s m args below meth c D A cells slots Q nL ws lv (pc + 2) (.ref x :: st)) : GG p l e R s m args below meth c D A cells slots Q nL ws lv pc st := fun H locs ls hP hD hS h => lv_aload X.1 X.2.1 hd (lv_at h j hk) (kk H locs ls hP hD hS h)
theorem g_istore_n (X : g_X p s m args meth c cc nL Ts own D cI kA kV A) {k : Fin 4} {i : Nat} {x : Int32} (hi : (k : Nat) = i) (hn : i < nL) (hl : (i, Value.int x) :: lv.filter (fun q => !(q.1 == i) && !(q.1 + 1 == i && q.2.category == 2)) = lv') (hd : decode cc pc = .ok (.istore_n k, 1)) (kk : GG p l e R s m args below meth c D A cells slots Q nL ws lv' (pc + 1) st) : GG p l e R s m args below meth c D A cells slots Q nL ws lv pc (.int x :: st) := fun H locs ls hP hD hS h => lv_istore_n X.1 X.2.1 hd hi h hn hl (fun ls h => kk H locs ls hP hD hS h)
theorem g_istore (X : g_X p s m args meth c cc nL Ts own D cI kA kV A) {i : Nat} {x : Int32} (hn : i < nL) (hl : (i, Value.int x) :: lv.filter (fun q => !(q.1 == i) && !(q.1 + 1 == i && q.2.category == 2)) = lv') (hd : decode cc pc = .ok (.istore i, 2)) (kk : GG p l e R s m args below meth c D A cells slots Q nL ws lv' (pc + 2) st) : GG p l e R s m args below meth c D A cells slots Q nL ws lv pc (.int x :: st) := fun H locs ls hP hD hS h => lv_istore X.1 X.2.1 hd h hn hl (fun ls h => kk H locs ls hP hD hS h)
theorem g_astore_n (X : g_X p s m args meth c cc nL Ts own D cI kA kV A) {k : Fin 4} {i : Nat} {x : Nat} (hi : (k : Nat) = i) (hn : i < nL) (hl : (i, Value.ref x) :: lv.filter (fun q => !(q.1 == i) && !(q.1 + 1 == i && q.2.category == 2)) = lv') (hd : decode cc pc = .ok (.astore_n k, 1)) (kk : GG p l e R s m args below meth c D A cells slots Q nL ws lv' (pc + 1) st) : GG p l e R s m args below meth c D A cells slots Q nL ws lv pc (.ref x :: st) := fun H locs ls hP hD hS h => lv_astore_n X.1 X.2.1 hd hi h hn hl (fun ls h => kk H locs ls hP hD hS h)
theorem g_lstore (X : g_X p s m args meth c cc nL Ts own D cI kA kV A) {i : Nat} {x : Int64} (hn : i + 1 < nL) (hl : (i, Value.long x) :: lv.filter (fun q => !(q.1 == i) && (!(q.1 == i + 1) && !(q.1 + 1 == i && q.2.category == 2))) = lv') (hd : decode cc pc = .ok (.lstore i, 2)) (kk : GG p l e R s m args below meth c D A cells slots Q nL ws lv' (pc + 2) st) : GG p l e R s m args below meth c D A cells slots Q nL ws lv pc (.long x :: st) := fun H locs ls hP hD hS h => lv_lstore X.1 X.2.1 hd h hn hl (fun ls h => kk H locs ls hP hD hS h)
theorem g_iinc (X : g_X p s m args meth c cc nL Ts own D cI kA kV A) {i : Nat} {n : Int} {x v : Int32} (j : Nat) (hk : lv[j]? = some (i, .int x)) (hv : x + Int32.ofInt n = v) (hn : i < nL) (hl : (i, Value.int v) :: lv.filter (fun q => !(q.1 == i) && !(q.1 + 1 == i && q.2.category == 2)) = lv') (hd : decode cc pc = .ok (.iinc i n, 3)) (kk : GG p l e R s m args below meth c D A cells slots Q nL ws lv' (pc + 3) st) : GG p l e R s m args below meth c D A cells slots Q nL ws lv pc st := fun H locs ls hP hD hS h => lv_iinc X.1 X.2.1 hd h hk hv hn hl (fun ls h => kk H locs ls hP hD hS h)
theorem g_iadd (X : g_X p s m args meth c cc nL Ts own D cI kA kV A) {x y : Int32}  (hd : decode cc pc = .ok (.iadd, 1)) (kk : GG p l e R s m args below meth c D A cells slots Q nL ws lv (pc + 1) (.int (x + y) :: st)) : GG p l e R s m args below meth c D A cells slots Q nL ws lv pc (.int y :: .int x :: st) := fun H locs ls hP hD hS h => lv_iadd X.1 X.2.1 hd (kk H locs ls hP hD hS h)
theorem g_isub (X : g_X p s m args meth c cc nL Ts own D cI kA kV A) {x y : Int32}  (hd : decode cc pc = .ok (.isub, 1)) (kk : GG p l e R s m args below meth c D A cells slots Q nL ws lv (pc + 1) (.int (x - y) :: st)) : GG p l e R s m args below meth c D A cells slots Q nL ws lv pc (.int y :: .int x :: st) := fun H locs ls hP hD hS h => lv_isub X.1 X.2.1 hd (kk H locs ls hP hD hS h)
theorem g_imul (X : g_X p s m args meth c cc nL Ts own D cI kA kV A) {x y : Int32}  (hd : decode cc pc = .ok (.imul, 1)) (kk : GG p l e R s m args below meth c D A cells slots Q nL ws lv (pc + 1) (.int (x * y) :: st)) : GG p l e R s m args below meth c D A cells slots Q nL ws lv pc (.int y :: .int x :: st) := fun H locs ls hP hD hS h => lv_imul X.1 X.2.1 hd (kk H locs ls hP hD hS h)
theorem g_iand (X : g_X p s m args meth c cc nL Ts own D cI kA kV A) {x y : Int32}  (hd : decode cc pc = .ok (.iand, 1)) (kk : GG p l e R s m args below meth c D A cells slots Q nL ws lv (pc + 1) (.int (x &&& y) :: st)) : GG p l e R s m args below meth c D A cells slots Q nL ws lv pc (.int y :: .int x :: st) := fun H locs ls hP hD hS h => lv_iand X.1 X.2.1 hd (kk H locs ls hP hD hS h)
theorem g_ior (X : g_X p s m args meth c cc nL Ts own D cI kA kV A) {x y : Int32}  (hd : decode cc pc = .ok (.ior, 1)) (kk : GG p l e R s m args below meth c D A cells slots Q nL ws lv (pc + 1) (.int (x ||| y) :: st)) : GG p l e R s m args below meth c D A cells slots Q nL ws lv pc (.int y :: .int x :: st) := fun H locs ls hP hD hS h => lv_ior X.1 X.2.1 hd (kk H locs ls hP hD hS h)
theorem g_ishl (X : g_X p s m args meth c cc nL Ts own D cI kA kV A) {x y : Int32}  (hd : decode cc pc = .ok (.ishl, 1)) (kk : GG p l e R s m args below meth c D A cells slots Q nL ws lv (pc + 1) (.int (x <<< (y &&& 31)) :: st)) : GG p l e R s m args below meth c D A cells slots Q nL ws lv pc (.int y :: .int x :: st) := fun H locs ls hP hD hS h => lv_ishl X.1 X.2.1 hd (kk H locs ls hP hD hS h)
theorem g_idiv (X : g_X p s m args meth c cc nL Ts own D cI kA kV A) {x y : Int32} (hne : ¬ y = 0) (hd : decode cc pc = .ok (.idiv, 1)) (kk : GG p l e R s m args below meth c D A cells slots Q nL ws lv (pc + 1) (.int (x / y) :: st)) : GG p l e R s m args below meth c D A cells slots Q nL ws lv pc (.int y :: .int x :: st) := fun H locs ls hP hD hS h => lv_idiv X.1 X.2.1 hd hne (kk H locs ls hP hD hS h)
theorem g_irem (X : g_X p s m args meth c cc nL Ts own D cI kA kV A) {x y : Int32} (hne : ¬ y = 0) (hd : decode cc pc = .ok (.irem, 1)) (kk : GG p l e R s m args below meth c D A cells slots Q nL ws lv (pc + 1) (.int (g_remf x y) :: st)) : GG p l e R s m args below meth c D A cells slots Q nL ws lv pc (.int y :: .int x :: st) := fun H locs ls hP hD hS h => lv_irem X.1 X.2.1 hd hne (kk H locs ls hP hD hS h)
theorem g_ladd (X : g_X p s m args meth c cc nL Ts own D cI kA kV A) {x y : Int64}  (hd : decode cc pc = .ok (.ladd, 1)) (kk : GG p l e R s m args below meth c D A cells slots Q nL ws lv (pc + 1) (.long (x + y) :: st)) : GG p l e R s m args below meth c D A cells slots Q nL ws lv pc (.long y :: .long x :: st) := fun H locs ls hP hD hS h => lv_ladd X.1 X.2.1 hd (kk H locs ls hP hD hS h)
theorem g_lsub (X : g_X p s m args meth c cc nL Ts own D cI kA kV A) {x y : Int64}  (hd : decode cc pc = .ok (.lsub, 1)) (kk : GG p l e R s m args below meth c D A cells slots Q nL ws lv (pc + 1) (.long (x - y) :: st)) : GG p l e R s m args below meth c D A cells slots Q nL ws lv pc (.long y :: .long x :: st) := fun H locs ls hP hD hS h => lv_lsub X.1 X.2.1 hd (kk H locs ls hP hD hS h)
theorem g_lmul (X : g_X p s m args meth c cc nL Ts own D cI kA kV A) {x y : Int64}  (hd : decode cc pc = .ok (.lmul, 1)) (kk : GG p l e R s m args below meth c D A cells slots Q nL ws lv (pc + 1) (.long (x * y) :: st)) : GG p l e R s m args below meth c D A cells slots Q nL ws lv pc (.long y :: .long x :: st) := fun H locs ls hP hD hS h => lv_lmul X.1 X.2.1 hd (kk H locs ls hP hD hS h)
theorem g_ldiv (X : g_X p s m args meth c cc nL Ts own D cI kA kV A) {x y : Int64} (hne : ¬ y = 0) (hd : decode cc pc = .ok (.ldiv, 1)) (kk : GG p l e R s m args below meth c D A cells slots Q nL ws lv (pc + 1) (.long (x / y) :: st)) : GG p l e R s m args below meth c D A cells slots Q nL ws lv pc (.long y :: .long x :: st) := fun H locs ls hP hD hS h => lv_ldiv X.1 X.2.1 hd hne (kk H locs ls hP hD hS h)
theorem g_ineg (X : g_X p s m args meth c cc nL Ts own D cI kA kV A) {x : Int32}  (hd : decode cc pc = .ok (.ineg, 1)) (kk : GG p l e R s m args below meth c D A cells slots Q nL ws lv (pc + 1) (.int (-x) :: st)) : GG p l e R s m args below meth c D A cells slots Q nL ws lv pc (.int x :: st) := fun H locs ls hP hD hS h => lv_ineg X.1 X.2.1 hd (kk H locs ls hP hD hS h)
theorem g_i2l (X : g_X p s m args meth c cc nL Ts own D cI kA kV A) {x : Int32}  (hd : decode cc pc = .ok (.i2l, 1)) (kk : GG p l e R s m args below meth c D A cells slots Q nL ws lv (pc + 1) (.long x.toInt64 :: st)) : GG p l e R s m args below meth c D A cells slots Q nL ws lv pc (.int x :: st) := fun H locs ls hP hD hS h => lv_i2l X.1 X.2.1 hd rfl (kk H locs ls hP hD hS h)
theorem g_l2i (X : g_X p s m args meth c cc nL Ts own D cI kA kV A) {x : Int64}  (hd : decode cc pc = .ok (.l2i, 1)) (kk : GG p l e R s m args below meth c D A cells slots Q nL ws lv (pc + 1) (.int x.toInt32 :: st)) : GG p l e R s m args below meth c D A cells slots Q nL ws lv pc (.long x :: st) := fun H locs ls hP hD hS h => lv_l2i X.1 X.2.1 hd rfl (kk H locs ls hP hD hS h)
theorem g_dup (X : g_X p s m args meth c cc nL Ts own D cI kA kV A) {v : Value} (hc : v.category = 1) (hd : decode cc pc = .ok (.dup, 1)) (kk : GG p l e R s m args below meth c D A cells slots Q nL ws lv (pc + 1) (v :: v :: st)) : GG p l e R s m args below meth c D A cells slots Q nL ws lv pc (v :: st) := fun H locs ls hP hD hS h => lv_dup X.1 X.2.1 hd hc (kk H locs ls hP hD hS h)
theorem g_pop (X : g_X p s m args meth c cc nL Ts own D cI kA kV A) {v : Value} (hc : v.category = 1) (hd : decode cc pc = .ok (.pop, 1)) (kk : GG p l e R s m args below meth c D A cells slots Q nL ws lv (pc + 1) st) : GG p l e R s m args below meth c D A cells slots Q nL ws lv pc (v :: st) := fun H locs ls hP hD hS h => lv_pop X.1 X.2.1 hd hc (kk H locs ls hP hD hS h)
theorem g_dup_x1 (X : g_X p s m args meth c cc nL Ts own D cI kA kV A) {v w : Value} (hc : v.category = 1) (hc2 : w.category = 1) (hd : decode cc pc = .ok (.dup_x1, 1)) (kk : GG p l e R s m args below meth c D A cells slots Q nL ws lv (pc + 1) (v :: w :: v :: st)) : GG p l e R s m args below meth c D A cells slots Q nL ws lv pc (v :: w :: st) := fun H locs ls hP hD hS h => lv_dup_x1 X.1 X.2.1 hd hc hc2 (kk H locs ls hP hD hS h)
theorem g_dup2 (X : g_X p s m args meth c cc nL Ts own D cI kA kV A) {v w : Value} (hc : v.category = 1) (hc2 : w.category = 1) (hd : decode cc pc = .ok (.dup2, 1)) (kk : GG p l e R s m args below meth c D A cells slots Q nL ws lv (pc + 1) (v :: w :: v :: w :: st)) : GG p l e R s m args below meth c D A cells slots Q nL ws lv pc (v :: w :: st) := fun H locs ls hP hD hS h => lv_dup2_11 X.1 X.2.1 hd hc hc2 (kk H locs ls hP hD hS h)
theorem g_goto (X : g_X p s m args meth c cc nL Ts own D cI kA kV A) {off : Int} {tgt : Nat} (ht : (pc : Int) + off = (tgt : Int)) (hd : decode cc pc = .ok (.goto off, 3)) (kk : GG p l e R s m args below meth c D A cells slots Q nL ws lv tgt st) : GG p l e R s m args below meth c D A cells slots Q nL ws lv pc st := fun H locs ls hP hD hS h => lv_goto X.1 X.2.1 hd ht (kk H locs ls hP hD hS h)
theorem g_if_eq (X : g_X p s m args meth c cc nL Ts own D cI kA kV A) {x : Int32} {off : Int} (tgt : Nat) (hd : decode cc pc = .ok (.ifCond .eq off, 3)) (ht : (pc : Int) + off = (tgt : Int)) (kt : x = 0 → GG p l e R s m args below meth c D A cells slots Q nL ws lv tgt st) (kf : ¬ x = 0 → GG p l e R s m args below meth c D A cells slots Q nL ws lv (pc + 3) st) : GG p l e R s m args below meth c D A cells slots Q nL ws lv pc (.int x :: st) := fun H locs ls hP hD hS h => lv_if_eq X.1 X.2.1 hd ht (fun q => kt q H locs ls hP hD hS h) (fun q => kf q H locs ls hP hD hS h)
theorem g_icmp_eq (X : g_X p s m args meth c cc nL Ts own D cI kA kV A) {x y : Int32} {off : Int} (tgt : Nat) (hd : decode cc pc = .ok (.if_icmp .eq off, 3)) (ht : (pc : Int) + off = (tgt : Int)) (kt : x = y → GG p l e R s m args below meth c D A cells slots Q nL ws lv tgt st) (kf : ¬ x = y → GG p l e R s m args below meth c D A cells slots Q nL ws lv (pc + 3) st) : GG p l e R s m args below meth c D A cells slots Q nL ws lv pc (.int y :: .int x :: st) := fun H locs ls hP hD hS h => lv_icmp_eq X.1 X.2.1 hd ht (fun q => kt q H locs ls hP hD hS h) (fun q => kf q H locs ls hP hD hS h)
theorem g_if_ne (X : g_X p s m args meth c cc nL Ts own D cI kA kV A) {x : Int32} {off : Int} (tgt : Nat) (hd : decode cc pc = .ok (.ifCond .ne off, 3)) (ht : (pc : Int) + off = (tgt : Int)) (kt : ¬ x = 0 → GG p l e R s m args below meth c D A cells slots Q nL ws lv tgt st) (kf : x = 0 → GG p l e R s m args below meth c D A cells slots Q nL ws lv (pc + 3) st) : GG p l e R s m args below meth c D A cells slots Q nL ws lv pc (.int x :: st) := fun H locs ls hP hD hS h => lv_if_ne X.1 X.2.1 hd ht (fun q => kt q H locs ls hP hD hS h) (fun q => kf q H locs ls hP hD hS h)
theorem g_icmp_ne (X : g_X p s m args meth c cc nL Ts own D cI kA kV A) {x y : Int32} {off : Int} (tgt : Nat) (hd : decode cc pc = .ok (.if_icmp .ne off, 3)) (ht : (pc : Int) + off = (tgt : Int)) (kt : ¬ x = y → GG p l e R s m args below meth c D A cells slots Q nL ws lv tgt st) (kf : x = y → GG p l e R s m args below meth c D A cells slots Q nL ws lv (pc + 3) st) : GG p l e R s m args below meth c D A cells slots Q nL ws lv pc (.int y :: .int x :: st) := fun H locs ls hP hD hS h => lv_icmp_ne X.1 X.2.1 hd ht (fun q => kt q H locs ls hP hD hS h) (fun q => kf q H locs ls hP hD hS h)
theorem g_if_lt (X : g_X p s m args meth c cc nL Ts own D cI kA kV A) {x : Int32} {off : Int} (tgt : Nat) (hd : decode cc pc = .ok (.ifCond .lt off, 3)) (ht : (pc : Int) + off = (tgt : Int)) (kt : x < 0 → GG p l e R s m args below meth c D A cells slots Q nL ws lv tgt st) (kf : ¬ x < 0 → GG p l e R s m args below meth c D A cells slots Q nL ws lv (pc + 3) st) : GG p l e R s m args below meth c D A cells slots Q nL ws lv pc (.int x :: st) := fun H locs ls hP hD hS h => lv_if_lt X.1 X.2.1 hd ht (fun q => kt q H locs ls hP hD hS h) (fun q => kf q H locs ls hP hD hS h)
theorem g_icmp_lt (X : g_X p s m args meth c cc nL Ts own D cI kA kV A) {x y : Int32} {off : Int} (tgt : Nat) (hd : decode cc pc = .ok (.if_icmp .lt off, 3)) (ht : (pc : Int) + off = (tgt : Int)) (kt : x < y → GG p l e R s m args below meth c D A cells slots Q nL ws lv tgt st) (kf : ¬ x < y → GG p l e R s m args below meth c D A cells slots Q nL ws lv (pc + 3) st) : GG p l e R s m args below meth c D A cells slots Q nL ws lv pc (.int y :: .int x :: st) := fun H locs ls hP hD hS h => lv_icmp_lt X.1 X.2.1 hd ht (fun q => kt q H locs ls hP hD hS h) (fun q => kf q H locs ls hP hD hS h)
theorem g_if_ge (X : g_X p s m args meth c cc nL Ts own D cI kA kV A) {x : Int32} {off : Int} (tgt : Nat) (hd : decode cc pc = .ok (.ifCond .ge off, 3)) (ht : (pc : Int) + off = (tgt : Int)) (kt : 0 ≤ x → GG p l e R s m args below meth c D A cells slots Q nL ws lv tgt st) (kf : ¬ 0 ≤ x → GG p l e R s m args below meth c D A cells slots Q nL ws lv (pc + 3) st) : GG p l e R s m args below meth c D A cells slots Q nL ws lv pc (.int x :: st) := fun H locs ls hP hD hS h => lv_if_ge X.1 X.2.1 hd ht (fun q => kt q H locs ls hP hD hS h) (fun q => kf q H locs ls hP hD hS h)
theorem g_icmp_ge (X : g_X p s m args meth c cc nL Ts own D cI kA kV A) {x y : Int32} {off : Int} (tgt : Nat) (hd : decode cc pc = .ok (.if_icmp .ge off, 3)) (ht : (pc : Int) + off = (tgt : Int)) (kt : y ≤ x → GG p l e R s m args below meth c D A cells slots Q nL ws lv tgt st) (kf : ¬ y ≤ x → GG p l e R s m args below meth c D A cells slots Q nL ws lv (pc + 3) st) : GG p l e R s m args below meth c D A cells slots Q nL ws lv pc (.int y :: .int x :: st) := fun H locs ls hP hD hS h => lv_icmp_ge X.1 X.2.1 hd ht (fun q => kt q H locs ls hP hD hS h) (fun q => kf q H locs ls hP hD hS h)
theorem g_if_gt (X : g_X p s m args meth c cc nL Ts own D cI kA kV A) {x : Int32} {off : Int} (tgt : Nat) (hd : decode cc pc = .ok (.ifCond .gt off, 3)) (ht : (pc : Int) + off = (tgt : Int)) (kt : 0 < x → GG p l e R s m args below meth c D A cells slots Q nL ws lv tgt st) (kf : ¬ 0 < x → GG p l e R s m args below meth c D A cells slots Q nL ws lv (pc + 3) st) : GG p l e R s m args below meth c D A cells slots Q nL ws lv pc (.int x :: st) := fun H locs ls hP hD hS h => lv_if_gt X.1 X.2.1 hd ht (fun q => kt q H locs ls hP hD hS h) (fun q => kf q H locs ls hP hD hS h)
theorem g_icmp_gt (X : g_X p s m args meth c cc nL Ts own D cI kA kV A) {x y : Int32} {off : Int} (tgt : Nat) (hd : decode cc pc = .ok (.if_icmp .gt off, 3)) (ht : (pc : Int) + off = (tgt : Int)) (kt : y < x → GG p l e R s m args below meth c D A cells slots Q nL ws lv tgt st) (kf : ¬ y < x → GG p l e R s m args below meth c D A cells slots Q nL ws lv (pc + 3) st) : GG p l e R s m args below meth c D A cells slots Q nL ws lv pc (.int y :: .int x :: st) := fun H locs ls hP hD hS h => lv_icmp_gt X.1 X.2.1 hd ht (fun q => kt q H locs ls hP hD hS h) (fun q => kf q H locs ls hP hD hS h)
theorem g_if_le (X : g_X p s m args meth c cc nL Ts own D cI kA kV A) {x : Int32} {off : Int} (tgt : Nat) (hd : decode cc pc = .ok (.ifCond .le off, 3)) (ht : (pc : Int) + off = (tgt : Int)) (kt : x ≤ 0 → GG p l e R s m args below meth c D A cells slots Q nL ws lv tgt st) (kf : ¬ x ≤ 0 → GG p l e R s m args below meth c D A cells slots Q nL ws lv (pc + 3) st) : GG p l e R s m args below meth c D A cells slots Q nL ws lv pc (.int x :: st) := fun H locs ls hP hD hS h => lv_if_le X.1 X.2.1 hd ht (fun q => kt q H locs ls hP hD hS h) (fun q => kf q H locs ls hP hD hS h)
theorem g_icmp_le (X : g_X p s m args meth c cc nL Ts own D cI kA kV A) {x y : Int32} {off : Int} (tgt : Nat) (hd : decode cc pc = .ok (.if_icmp .le off, 3)) (ht : (pc : Int) + off = (tgt : Int)) (kt : x ≤ y → GG p l e R s m args below meth c D A cells slots Q nL ws lv tgt st) (kf : ¬ x ≤ y → GG p l e R s m args below meth c D A cells slots Q nL ws lv (pc + 3) st) : GG p l e R s m args below meth c D A cells slots Q nL ws lv pc (.int y :: .int x :: st) := fun H locs ls hP hD hS h => lv_icmp_le X.1 X.2.1 hd ht (fun q => kt q H locs ls hP hD hS h) (fun q => kf q H locs ls hP hD hS h)
theorem g_tsHit (X : g_X p s m args meth c cc nL Ts own D cI kA kV A) {dflt lo hi : Int} {offs : Array Int} {len : Nat} {x k : Int32} {off : Int} (tgt : Nat) (hd : decode cc pc = .ok (.tableswitch dflt lo hi offs, len)) (hx : x = k) (h1 : ¬ k.toInt < lo) (h2 : ¬ hi < k.toInt) (ho : offs[(k.toInt - lo).toNat]? = some off) (ht : (pc : Int) + off = (tgt : Int)) (kk : GG p l e R s m args below meth c D A cells slots Q nL ws lv tgt st) : GG p l e R s m args below meth c D A cells slots Q nL ws lv pc (.int x :: st) := fun H locs ls hP hD hS h => lv_tableIn X.1 X.2.1 hd (by rw [hx]; exact h1) (by rw [hx]; exact h2) (by rw [hx]; exact ho) ht (kk H locs ls hP hD hS h)
theorem g_tsd {x : Int32} {dflt lo hi : Int} {offs : Array Int} (ks : List Int32) (hne : ∀ k ∈ ks, ¬ x = k) (hsz : hi - lo < offs.size) (hlo : ¬ x.toInt < lo) (hhi : ¬ hi < x.toInt)
    (hall : ∀ j, j < offs.size → offs[j]? = some dflt ∨ Int32.ofInt (lo + j) ∈ ks) : offs[(x.toInt - lo).toNat]? = some dflt := by
  have hj : (x.toInt - lo).toNat < offs.size := by omega
  rcases hall _ hj with h | h
  · exact h
  · have e : lo + ((x.toInt - lo).toNat : Int) = x.toInt := by omega
    rw [e, Int32.ofInt_toInt] at h
    exact absurd rfl (hne x h)
theorem g_tsDef (X : g_X p s m args meth c cc nL Ts own D cI kA kV A) {dflt lo hi : Int} {offs : Array Int} {len : Nat} {x : Int32} (tgt : Nat) (ks : List Int32) (hd : decode cc pc = .ok (.tableswitch dflt lo hi offs, len)) (hne : ∀ k ∈ ks, ¬ x = k) (hsz : hi - lo < offs.size) (hall : ∀ j, j < offs.size → offs[j]? = some dflt ∨ Int32.ofInt (lo + j) ∈ ks) (ht : (pc : Int) + dflt = (tgt : Int)) (kk : GG p l e R s m args below meth c D A cells slots Q nL ws lv tgt st) : GG p l e R s m args below meth c D A cells slots Q nL ws lv pc (.int x :: st) := by
  intro H locs ls hP hD hS h
  by_cases h1 : x.toInt < lo
  · exact lv_tableOut X.1 X.2.1 hd (Or.inl h1) ht (kk H locs ls hP hD hS h)
  · by_cases h2 : hi < x.toInt
    · exact lv_tableOut X.1 X.2.1 hd (Or.inr h2) ht (kk H locs ls hP hD hS h)
    · exact lv_tableIn X.1 X.2.1 hd h1 h2 (g_tsd ks hne hsz h1 h2 hall) ht (kk H locs ls hP hD hS h)
theorem g_lsw (X : g_X p s m args meth c cc nL Ts own D cI kA kV A) {dflt : Int} {ps : Array (Int × Int)} {len : Nat} {x : Int32} {off : Int} (tgt : Nat) (hd : decode cc pc = .ok (.lookupswitch dflt ps, len)) (hp : (ps.toList.zip (ps.toList.drop 1)).all (fun (a, next) => a.1 < next.1) = true) (ho : Op.lookupswitch.offset ps.toList dflt x.toInt = off) (ht : (pc : Int) + off = (tgt : Int)) (kk : GG p l e R s m args below meth c D A cells slots Q nL ws lv tgt st) : GG p l e R s m args below meth c D A cells slots Q nL ws lv pc (.int x :: st) := fun H locs ls hP hD hS h => lv_lookup X.1 X.2.1 hd hp ho ht (kk H locs ls hP hD hS h)
theorem g_get (X : g_X p s m args meth c cc nL Ts own D cI kA kV A) {ref C : String} {T : u_T} {N ci index a : Nat} {fs : List Value} {v : Value} (hin : ∀ w ∈ u_ws C T N, w ∈ Ts) (q0 : Nat) (he : ws[q0]? = some (a, .inr (ci, fs))) (hc : vwCl[ci]? = some (C, T, N)) (k : Nat) (hk : k < N) (hlink : (Cond.fieldLink own index ref (T k).2.1 (T k).2.2.1).before args s = true) (hsame : (T k).1 = ref) (hv : fs[k]? = some v) (hd : decode cc pc = .ok (.getfield index, 3)) (kk : GG p l e R s m args below meth c D A cells slots Q nL ws lv (pc + 3) (v :: st)) : GG p l e R s m args below meth c D A cells slots Q nL ws lv pc (.ref a :: st) := fun H locs ls hP hD hS h => va_get X.1 X.2.1 X.2.2.2.2.1 hin X.2.2.2.1 X.2.2.2.2.2.1 hP q0 he hc k hk hlink (fun x hx => by rw [← hsame]; exact hx) hv hd (kk H locs ls hP hD hS h)
theorem g_getN (X : g_X p s m args meth c cc nL Ts own D cI kA kV A) {host : String} {ref C : String} {T : u_T} {N ci index a : Nat} {fs : List Value} {v : Value} (hin : ∀ w ∈ u_ws C T N, w ∈ Ts) (q0 : Nat) (he : ws[q0]? = some (a, .inr (ci, fs))) (hc : vwCl[ci]? = some (C, T, N)) (k : Nat) (hk : k < N) (hlink : (Cond.fieldLinkNest own index ref (T k).2.1 (T k).2.2.1 host).before args s = true) (hsame : (T k).1 = ref) (hv : fs[k]? = some v) (hd : decode cc pc = .ok (.getfield index, 3)) (kk : GG p l e R s m args below meth c D A cells slots Q nL ws lv (pc + 3) (v :: st)) : GG p l e R s m args below meth c D A cells slots Q nL ws lv pc (.ref a :: st) := fun H locs ls hP hD hS h => va_getN X.1 X.2.1 X.2.2.2.2.1 hin X.2.2.2.1 X.2.2.2.2.2.1 hP q0 he hc k hk hlink (fun x hx => by rw [← hsame]; exact hx) hv hd (kk H locs ls hP hD hS h)
theorem g_put (X : g_X p s m args meth c cc nL Ts own D cI kA kV A) {ref C : String} {T : u_T} {N ci index a : Nat} {fs : List Value} {v : Value} (hin : ∀ w ∈ u_ws C T N, w ∈ Ts) (ty0 : Nat → FieldType) (hty : ∀ k, k < N → parseFieldDescriptor (T k).2.2.1 = some (ty0 k)) (hnm : ∀ a, a < N → ∀ b, b < N → a ≠ b → (T a).2.1 ≠ (T b).2.1) (q0 : Nat) (he : ws[q0]? = some (a, .inr (ci, fs))) (hc : vwCl[ci]? = some (C, T, N)) (k : Nat) (hk : k < N) (hlink : (Cond.fieldLink own index ref (T k).2.1 (T k).2.2.1).before args s = true) (hsame : (T k).1 = ref) (hfin : (T k).2.2.2 = false) (hn : narrow (ty0 k) v = v) (hfit : fits (ty0 k) v = true) (hl : k < fs.length) (hd : decode cc pc = .ok (.putfield index, 3)) (hw : ws.set q0 (a, .inr (ci, fs.set k v)) = ws') (kk : GG p l e R s m args below meth c D A cells slots Q nL ws' lv (pc + 3) st) : GG p l e R s m args below meth c D A cells slots Q nL ws lv pc (v :: .ref a :: st) := by
  intro H locs ls hP hD hS h
  subst hw
  exact va_put X.1 X.2.1 X.2.2.2.2.1 hin ty0 hty hnm X.2.2.2.1 X.2.2.2.2.2.1 hP hD hS q0 he hc k hk hlink (fun x hx => by rw [← hsame]; exact hx) hfin (hty k hk) hn hfit hl hd (fun H1 locs1 hP hD hS => kk H1 locs1 ls hP hD hS h)
theorem g_putF (X : g_X p s m args meth c cc nL Ts own D cI kA kV A) {ref C : String} {T : u_T} {N ci index a : Nat} {fs : List Value} {v : Value} (hin : ∀ w ∈ u_ws C T N, w ∈ Ts) (ty0 : Nat → FieldType) (hty : ∀ k, k < N → parseFieldDescriptor (T k).2.2.1 = some (ty0 k)) (hnm : ∀ a, a < N → ∀ b, b < N → a ≠ b → (T a).2.1 ≠ (T b).2.1) (q0 : Nat) (he : ws[q0]? = some (a, .inr (ci, fs))) (hc : vwCl[ci]? = some (C, T, N)) (k : Nat) (hk : k < N) (hlink : (Cond.fieldLink own index ref (T k).2.1 (T k).2.2.1).before args s = true) (hsame : (T k).1 = ref) (hfin : (T k).2.2.2 = true) (hin2 : meth.name = "<init>") (hdecl : (T k).1 = own) (hn : narrow (ty0 k) v = v) (hfit : fits (ty0 k) v = true) (hl : k < fs.length) (hd : decode cc pc = .ok (.putfield index, 3)) (hw : ws.set q0 (a, .inr (ci, fs.set k v)) = ws') (kk : GG p l e R s m args below meth c D A cells slots Q nL ws' lv (pc + 3) st) : GG p l e R s m args below meth c D A cells slots Q nL ws lv pc (v :: .ref a :: st) := by
  intro H locs ls hP hD hS h
  subst hw
  exact va_putF X.1 X.2.1 X.2.2.2.2.1 hin ty0 hty hnm X.2.2.2.1 X.2.2.2.2.2.1 hP hD hS q0 he hc k hk hlink (fun x hx => by rw [← hsame]; exact hx) hfin hin2 hdecl (hty k hk) hn hfit hl hd (fun H1 locs1 hP hD hS => kk H1 locs1 ls hP hD hS h)
theorem g_iald (X : g_X p s m args meth c cc nL Ts own D cI kA kV A) {a n : Nat} {f : Nat → Int32} {i : Int32} (q0 : Nat) (ha : ws[q0]? = some (a, .inl (cI, n, .inl f))) (hin : vp_in i n) (hd : decode cc pc = .ok (.iaload, 1)) (kk : GG p l e R s m args below meth c D A cells slots Q nL ws lv (pc + 1) (.int (f i.toNatClampNeg) :: st)) : GG p l e R s m args below meth c D A cells slots Q nL ws lv pc (.int i :: .ref a :: st) := fun H locs ls hP hD hS h => va_iald X.1 X.2.1 X.2.2.2.2.2.1 hP q0 0 ha rfl hin hd (kk H locs ls hP hD hS h)
theorem g_iast (X : g_X p s m args meth c cc nL Ts own D cI kA kV A) {a n : Nat} {f : Nat → Int32} {i x : Int32} (q0 : Nat) (ha : ws[q0]? = some (a, .inl (cI, n, .inl f))) (hin : vp_in i n) (hd : decode cc pc = .ok (.iastore, 1)) (hw : ws.set q0 (a, .inl (cI, n, .inl (upd f i.toNatClampNeg x))) = ws') (kk : GG p l e R s m args below meth c D A cells slots Q nL ws' lv (pc + 1) st) : GG p l e R s m args below meth c D A cells slots Q nL ws lv pc (.int x :: .int i :: .ref a :: st) := by
  intro H locs ls hP hD hS h
  subst hw
  exact va_iast X.1 X.2.1 X.2.2.2.2.2.1 hP hD hS q0 0 ha rfl hin hd (fun H1 locs1 hP hD hS => kk H1 locs1 ls hP hD hS h)
theorem g_alen (X : g_X p s m args meth c cc nL Ts own D cI kA kV A) {a n : Nat} {f : Nat → Int32} {v : Int32} (q0 : Nat) (ha : ws[q0]? = some (a, .inl (cI, n, .inl f))) (hv : Int32.ofNat n = v) (hd : decode cc pc = .ok (.arraylength, 1)) (kk : GG p l e R s m args below meth c D A cells slots Q nL ws lv (pc + 1) (.int v :: st)) : GG p l e R s m args below meth c D A cells slots Q nL ws lv pc (.ref a :: st) := fun H locs ls hP hD hS h => va_alen X.1 X.2.1 X.2.2.2.2.2.1 hP q0 0 ha rfl hv hd (kk H locs ls hP hD hS h)
theorem g_mmax (X : g_X p s m args meth c cc nL Ts own D cI kA kV A) {x y : Int32} {idx : Nat} (hlink : (Cond.methodLink own idx Lib.Math.max.name).before args s = true) (hstat : (Cond.static Lib.Math.max.name).before args s = true) (hini : (Cond.initialized "java/lang/Math").before args s = true) (hcode : (Cond.code Lib.Math.max.name Lib.Math.max.code 2 (some .int)).before args s = true) (hframes : 1 ≤ R.frames) (hlocals : (st.map fun v => v.category).sum + 13 ≤ R.locals) (hc : cells ≤ R.cells) (hs : slots ≤ R.slots) (hd : decode cc pc = .ok (.invokestatic idx, 3)) (kk : GG p l e R s m args below meth c D A cells slots Q nL ws lv (pc + 3) (.int (g_maxf x y) :: st)) : GG p l e R s m args below meth c D A cells slots Q nL ws lv pc (.int y :: .int x :: st) := fun H locs ls hP hD hS h => va_mmax X.1 X.2.1 (X.2.2.1.trans h.1.symm) X.2.2.2.1 hlink hstat hini hcode hframes hlocals hc hs hd (kk H locs ls hP hD hS h)
theorem g_mmin (X : g_X p s m args meth c cc nL Ts own D cI kA kV A) {x y : Int32} {idx : Nat} (hlink : (Cond.methodLink own idx Lib.Math.min.name).before args s = true) (hstat : (Cond.static Lib.Math.min.name).before args s = true) (hini : (Cond.initialized "java/lang/Math").before args s = true) (hcode : (Cond.code Lib.Math.min.name Lib.Math.min.code 2 (some .int)).before args s = true) (hframes : 1 ≤ R.frames) (hlocals : (st.map fun v => v.category).sum + 13 ≤ R.locals) (hc : cells ≤ R.cells) (hs : slots ≤ R.slots) (hd : decode cc pc = .ok (.invokestatic idx, 3)) (kk : GG p l e R s m args below meth c D A cells slots Q nL ws lv (pc + 3) (.int (g_minf x y) :: st)) : GG p l e R s m args below meth c D A cells slots Q nL ws lv pc (.int y :: .int x :: st) := fun H locs ls hP hD hS h => va_mmin X.1 X.2.1 (X.2.2.1.trans h.1.symm) X.2.2.2.1 hlink hstat hini hcode hframes hlocals hc hs hd (kk H locs ls hP hD hS h)
theorem g_mabs (X : g_X p s m args meth c cc nL Ts own D cI kA kV A) {x : Int32} {idx : Nat} (hlink : (Cond.methodLink own idx Lib.Math.abs.name).before args s = true) (hstat : (Cond.static Lib.Math.abs.name).before args s = true) (hini : (Cond.initialized "java/lang/Math").before args s = true) (hcode : (Cond.code Lib.Math.abs.name Lib.Math.abs.code 1 (some .int)).before args s = true) (hframes : 1 ≤ R.frames) (hlocals : (st.map fun v => v.category).sum + 13 ≤ R.locals) (hc : cells ≤ R.cells) (hs : slots ≤ R.slots) (hd : decode cc pc = .ok (.invokestatic idx, 3)) (kk : GG p l e R s m args below meth c D A cells slots Q nL ws lv (pc + 3) (.int (g_absf x) :: st)) : GG p l e R s m args below meth c D A cells slots Q nL ws lv pc (.int x :: st) := fun H locs ls hP hD hS h => va_mabs X.1 X.2.1 (X.2.2.1.trans h.1.symm) X.2.2.2.1 hlink hstat hini hcode hframes hlocals hc hs hd (kk H locs ls hP hD hS h)
theorem g_acopy (X : g_X p s m args meth c cc nL Ts own D cI kA kV A) {idx a a0 n0 n1 : Nat} {f g : Nat → Int32} (N : Nat) {n : Int32} (hlink : (Cond.methodLink own idx arraycopyName).before args s = true) (hnat : (Cond.native arraycopyName).before args s = true) (hstat : (Cond.static arraycopyName).before args s = true) (hini : (Cond.initialized "java/lang/System").before args s = true)
    (q0 q1 : Nat) (ha0 : ws[q0]? = some (a0, .inl (cI, n0, .inl f))) (ha1 : ws[q1]? = some (a, .inl (cI, n1, .inl g))) (hN : n.toNatClampNeg = N) (h3 : ¬ n < 0) (h4 : N ≤ n0) (h5 : N ≤ n1) (hframes : 1 ≤ R.frames) (hlocals : (st.map fun v => v.category).sum + (nativeFrameWords "java/lang/System" "arraycopy" 5 + 11) ≤ R.locals)
    (hd : decode cc pc = .ok (.invokestatic idx, 3)) (hw : ws.set q1 (a, .inl (cI, n1, .inl (g_cpy f g N))) = ws') (kk : GG p l e R s m args below meth c D A cells slots Q nL ws' lv (pc + 3) st) : GG p l e R s m args below meth c D A cells slots Q nL ws lv pc (.int n :: .int 0 :: .ref a :: .int 0 :: .ref a0 :: st) := by
  intro H locs ls hP hD hS h
  subst hw
  have z : (0 : Int32).toNatClampNeg = 0 := by decide
  refine va_copyi X.1 X.2.1 (X.2.2.1.trans h.1.symm) X.2.2.2.1 hlink hnat hstat hini X.2.2.2.2.2.1 hP hD hS q0 q1 0 0 (f := f) (g := g) (ty := .int) ha0 ha1 rfl rfl rfl (by decide) (by decide) h3 (by rw [hN, z]; omega) (by rw [hN, z]; omega) (fun i _ => rfl) hframes hlocals hd (fun H1 locs1 hP hD hS => ?_)
  rw [hN, z, g_cpy_eq] at hP hD
  exact kk H1 locs1 ls hP hD hS h
theorem g_nl (X : g_X p s m args meth c cc nL Ts own D cI kA kV A) : g_nest s := X.2.2.2.2.2.2.2.1.2.2.2.2.2.2
theorem g_ldcS (X : g_X p s m args meth c cc nL Ts own D cI kA kV A) {idx : Nat} (i : Nat) (hi : i < g_sN) (ho : g_sOwn.getD i "" = own) (hx : g_sIdx.getD i 0 = idx) (hd : decode cc pc = .ok (.ldc idx, 2)) (kk : GG p l e R s m args below meth c D A cells slots Q nL ws lv (pc + 2) (.ref (kA i) :: st)) : GG p l e R s m args below meth c D A cells slots Q nL ws lv pc st := by
  intro H locs ls hP hD hS h
  have z := X.2.2.2.2.2.2.2.1.2.2.2.2.2.1 i hi
  rw [ho, hx] at z
  exact va_ldcS X.1 X.2.1 X.2.2.2.1 z hd (kk H locs ls hP hD hS h)
theorem g_gsCS (X : g_X p s m args meth c cc nL Ts own D cI kA kV A) {idx : Nat} (hlink : (Cond.fieldLink own idx "java/lang/String" "COMPACT_STRINGS" "Z").before args s = true) (hd : decode cc pc = .ok (.getstatic idx, 3)) (kk : GG p l e R s m args below meth c D A cells slots Q nL ws lv (pc + 3) (.int 1 :: st)) : GG p l e R s m args below meth c D A cells slots Q nL ws lv pc st :=
  fun H locs ls hP hD hS h => va_gets X.1 X.2.1 X.2.2.2.2.2.2.2.1.2.2.1 hS X.2.2.2.1 hlink (fun _ h => h) hd (kk H locs ls hP hD hS h)
theorem g_obj (X : g_X p s m args meth c cc nL Ts own D cI kA kV A) {idx a : Nat} (hlink : (Cond.methodLink own idx Lib.objectInit).before args s = true) (hinst : (Cond.instanceMethod Lib.objectInit).before args s = true) (hcode : (Cond.code Lib.objectInit ⟨#[0xb1]⟩ 1 none).before args s = true) (hd : decode cc pc = .ok (.invokespecial idx, 3)) (hframes : 1 ≤ R.frames) (hlocals : (st.map fun v => v.category).sum + 12 ≤ R.locals) (kk : GG p l e R s m args below meth c D A cells slots Q nL ws lv (pc + 3) st) : GG p l e R s m args below meth c D A cells slots Q nL ws lv pc (.ref a :: st) :=
  fun H locs ls hP hD hS h => W.objInit X.1 X.2.1 X.2.2.2.1 hlink hinst hcode (g := F0 m pc ls (.ref a :: st)) rfl (h.1.trans X.2.2.1.symm) rfl hd hframes (by show 2 * 0 + _ + 12 ≤ _; omega) (kk H locs ls hP hD hS h)
theorem g_newarr (X : g_X p s m args meth c cc nL Ts own D cI kA kV A) {n : Int32} (N : Nat) (harr : (Cond.arrayClass .int).before args s = true) (hn : ¬ n < 0) (hN : n.toNatClampNeg = N) (hb : N * componentBytes .int ≤ 536870912) (hcells : cells + 1 ≤ R.cells) (hslots : slots + N ≤ R.slots) (hd : decode cc pc = .ok (.newarray .int, 2)) (kk : ∀ q : Nat, GG p l e R s m args below meth c D A (cells + 1) (slots + N) Q nL (ws ++ [(q, .inl (cI, N, .inl (fun _ => 0)))]) lv (pc + 2) (.ref q :: st)) : GG p l e R s m args below meth c D A cells slots Q nL ws lv pc (.int n :: st) := by
  intro H locs ls hP hD hS h
  refine va_newa (atype := .int) (ty := .int) (a0 := (N, .inl (fun _ => 0))) X.1 X.2.1 harr rfl X.2.2.2.2.2.1 hP hD hS X.2.2.2.2.2.2.1 (fun _ => rfl) hn hN hb hcells hslots hd (fun q cA H1 hK1 hP1 hD1 hS1 => ?_)
  have e1 := (hK1.2 0 _ rfl).2
  have e2 := (hK1.2 1 _ rfl).2
  have ec : cA = cI := Option.some.inj (e2.symm.trans e1)
  subst ec
  exact kk q H1 locs ls hP1 hD1 hS1 h
theorem g_new (X : g_X p s m args meth c cc nL Ts own D cI kA kV A) {C : String} {T : u_T} {N ci idx : Nat} (fs : List Value) (hin : ∀ w ∈ u_ws C T N, w ∈ Ts) (ty : Nat → FieldType) (hty : ∀ k, k < N → parseFieldDescriptor (T k).2.2.1 = some (ty k)) (hcl : (Cond.classLink own idx C).before args s = true) (hinst : (Cond.instantiable C N).before args s = true) (hini : (Cond.initialized C).before args s = true) (hc : vwCl[ci]? = some (C, T, N)) (hfs : ∀ j, j < N → defaultValue (ty j) = vp_V fs j) (hcells : cells + 1 ≤ R.cells) (hslots : slots + N ≤ R.slots) (hd : decode cc pc = .ok (.new idx, 3)) (kk : ∀ q : Nat, GG p l e R s m args below meth c D A (cells + 1) (slots + N) Q nL (ws ++ [(q, .inr (ci, fs))]) lv (pc + 3) (.ref q :: st)) : GG p l e R s m args below meth c D A cells slots Q nL ws lv pc st :=
  fun H locs ls hP hD hS h => va_new X.1 X.2.1 X.2.2.2.2.1 hin ty hty X.2.2.2.1 hcl hinst hini X.2.2.2.2.2.1 hP hD hS X.2.2.2.2.2.2.1 hc hfs hcells hslots hd (fun q H1 hP1 hD1 hS1 => kk q H1 locs ls hP1 hD1 hS1 h)
theorem g_znar {v : Int32} (h : v = 0 ∨ v = 1) : narrow .boolean (.int v) = .int v := by rcases h with rfl | rfl <;> rfl
theorem g_gsGREATEST (X : g_X p s m args meth c cc nL Ts own D cI kA kV A) {idx : Nat} (hlink : (Cond.fieldLink own idx "NineteenSecondsLeft" "GREATEST" "[I").before args s = true) (hd : decode cc pc = .ok (.getstatic idx, 3)) (kk : ∀ t : Nat, va_T .int t 10 (fun j => .int (g_tabG.getD j 0)) A s s.heap → GG p l e R s m args below meth c D A cells slots Q nL ws lv (pc + 3) (.ref t :: st)) : GG p l e R s m args below meth c D A cells slots Q nL ws lv pc st := by
  obtain ⟨t, z1, z2⟩ := X.2.2.2.2.2.2.2.1.1
  exact fun H locs ls hP hD hS h => va_gets X.1 X.2.1 z1 hS X.2.2.2.1 hlink (fun _ h => h) hd (kk t z2 H locs ls hP hD hS h)
theorem g_gnGREATEST (X : g_X p s m args meth c cc nL Ts own D cI kA kV A) {idx : Nat} {host : String} (hlink : (Cond.fieldLinkNest own idx "NineteenSecondsLeft" "GREATEST" "[I" host).before args s = true) (hd : decode cc pc = .ok (.getstatic idx, 3)) (kk : ∀ t : Nat, va_T .int t 10 (fun j => .int (g_tabG.getD j 0)) A s s.heap → GG p l e R s m args below meth c D A cells slots Q nL ws lv (pc + 3) (.ref t :: st)) : GG p l e R s m args below meth c D A cells slots Q nL ws lv pc st := by
  obtain ⟨t, z1, z2⟩ := X.2.2.2.2.2.2.2.1.1
  exact fun H locs ls hP hD hS h => va_getsN X.1 X.2.1 z1 hS X.2.2.2.1 hlink (fun _ h => h) hd (kk t z2 H locs ls hP hD hS h)
theorem g_gsTAKES (X : g_X p s m args meth c cc nL Ts own D cI kA kV A) {idx : Nat} (hlink : (Cond.fieldLink own idx "NineteenSecondsLeft" "TAKES" "[I").before args s = true) (hd : decode cc pc = .ok (.getstatic idx, 3)) (kk : ∀ t : Nat, va_T .int t 4 (fun j => .int (g_tabT.getD j 0)) A s s.heap → GG p l e R s m args below meth c D A cells slots Q nL ws lv (pc + 3) (.ref t :: st)) : GG p l e R s m args below meth c D A cells slots Q nL ws lv pc st := by
  obtain ⟨t, z1, z2⟩ := X.2.2.2.2.2.2.2.1.2.1
  exact fun H locs ls hP hD hS h => va_gets X.1 X.2.1 z1 hS X.2.2.2.1 hlink (fun _ h => h) hd (kk t z2 H locs ls hP hD hS h)
theorem g_gnTAKES (X : g_X p s m args meth c cc nL Ts own D cI kA kV A) {idx : Nat} {host : String} (hlink : (Cond.fieldLinkNest own idx "NineteenSecondsLeft" "TAKES" "[I" host).before args s = true) (hd : decode cc pc = .ok (.getstatic idx, 3)) (kk : ∀ t : Nat, va_T .int t 4 (fun j => .int (g_tabT.getD j 0)) A s s.heap → GG p l e R s m args below meth c D A cells slots Q nL ws lv (pc + 3) (.ref t :: st)) : GG p l e R s m args below meth c D A cells slots Q nL ws lv pc st := by
  obtain ⟨t, z1, z2⟩ := X.2.2.2.2.2.2.2.1.2.1
  exact fun H locs ls hP hD hS h => va_getsN X.1 X.2.1 z1 hS X.2.2.2.1 hlink (fun _ h => h) hd (kk t z2 H locs ls hP hD hS h)
theorem g_tald (X : g_X p s m args meth c cc nL Ts own D cI kA kV A) {t n : Nat} {T : List Int32} {i : Int32} (hT : va_T .int t n (fun j => .int (T.getD j 0)) A s s.heap) (hin : vp_in i n) (hd : decode cc pc = .ok (.iaload, 1)) (kk : GG p l e R s m args below meth c D A cells slots Q nL ws lv (pc + 1) (.int (T.getD i.toNatClampNeg 0) :: st)) : GG p l e R s m args below meth c D A cells slots Q nL ws lv pc (.int i :: .ref t :: st) := fun H locs ls hP hD hS h => va_ti X.1 X.2.1 hT hS hin rfl hd (kk H locs ls hP hD hS h)
theorem g_talen (X : g_X p s m args meth c cc nL Ts own D cI kA kV A) {t n : Nat} {f : Nat → Value} {v : Int32} (hT : va_T .int t n f A s s.heap) (hv : Int32.ofNat n = v) (hd : decode cc pc = .ok (.arraylength, 1)) (kk : GG p l e R s m args below meth c D A cells slots Q nL ws lv (pc + 1) (.int v :: st)) : GG p l e R s m args below meth c D A cells slots Q nL ws lv pc (.ref t :: st) := fun H locs ls hP hD hS h => va_tlen X.1 X.2.1 hT hS hv hd (kk H locs ls hP hD hS h)
theorem g_fm {is : List Nat} {w : va_W} (hs : is.map (fun i => ws[i]?) = w.map some) : is.filterMap (fun i => ws[i]?) = w := by
  have : is.filterMap (fun i => ws[i]?) = (is.map (fun i => ws[i]?)).filterMap id := by simp [List.filterMap_map]
  rw [this, hs]
  simp [List.filterMap_map]
/-- a callee's start, out of the caller's world -/
theorem g_pre (X : g_X p s m args meth c cc nL Ts own D cI kA kV A) {H : Heap} {locs : List Loc} {w0 : va_W} (hP : va_P D vwCl ws H) (hD : va_D A ws) (hS : va_S A s.heap H locs) (isC : List Nat) (hn : va_nd isC = true) (hC : isC.map (fun i => ws[i]?) = w0.map some) {As : List Value} (U : State) (hU : U.heap = H) (hW : s.WarmedH U.vm) : va_Pc As (g_P D cI kA kV H.size w0) As.toArray U := by
  have hFc := va_free (wc := w0) hD hS X.2.2.2.2.2.2.1 isC hC
  exact ⟨rfl, by rw [hU], by rw [hU]; exact hP.sub isC (g_fm hC), va_K.moved hW.alike X.2.2.2.2.2.1, (hD.sub isC hn hC).weaken (fun _ _ _ _ => trivial), by rw [hU]; exact ((X.2.2.2.2.2.2.2.1.kept hS.2.1).narrow hFc).warm hW⟩
theorem g_vk (X : g_X p s m args meth c cc nL Ts own D cI kA kV A) : vk_S g_sN g_sLen g_sByt kA kV A s s.heap := X.2.2.2.2.2.2.2.1.2.2.2.2.1
theorem g_srecv (X : g_X p s m args meth c cc nL Ts own D cI kA kV A) {H : Heap} {locs : List Loc} (hS : va_S A s.heap H locs) {i : Nat} (hi : i < g_sN) : ∃ cell : Cell, H[kA i]? = some cell ∧ cell.vm.isStatics = false ∧ s.vm.findClass "java/lang/String" = some cell.cls := by
  obtain ⟨cell, h1, h2, h3, h4⟩ := ((g_vk X).1 i hi).1.kept hS.2.1
  exact ⟨cell, h1, h2, h3⟩
theorem g_sval (X : g_X p s m args meth c cc nL Ts own D cI kA kV A) {idx i : Nat} (hi : i < g_sN) (hlink : (Cond.fieldLink own idx "java/lang/String" "value" "[B").before args s = true) (hd : decode cc pc = .ok (.getfield idx, 3)) (kk : GG p l e R s m args below meth c D A cells slots Q nL ws lv (pc + 3) (.ref (kV i) :: st)) : GG p l e R s m args below meth c D A cells slots Q nL ws lv pc (.ref (kA i) :: st) :=
  fun H locs ls hP hD hS h => vk_getf X.1 X.2.1 ((g_vk X).1 i hi).2.2.1 hS X.2.2.2.1 hlink (fun _ h => h) hd (kk H locs ls hP hD hS h)
theorem g_scod (X : g_X p s m args meth c cc nL Ts own D cI kA kV A) {idx i : Nat} (hi : i < g_sN) (hlink : (Cond.fieldLink own idx "java/lang/String" "coder" "B").before args s = true) (hd : decode cc pc = .ok (.getfield idx, 3)) (kk : GG p l e R s m args below meth c D A cells slots Q nL ws lv (pc + 3) (.int 0 :: st)) : GG p l e R s m args below meth c D A cells slots Q nL ws lv pc (.ref (kA i) :: st) :=
  fun H locs ls hP hD hS h => vk_getf X.1 X.2.1 ((g_vk X).1 i hi).2.1 hS X.2.2.2.1 hlink (fun _ h => h) hd (kk H locs ls hP hD hS h)
theorem g_blen (X : g_X p s m args meth c cc nL Ts own D cI kA kV A) {i : Nat} (hi : i < g_sN) (hd : decode cc pc = .ok (.arraylength, 1)) (kk : GG p l e R s m args below meth c D A cells slots Q nL ws lv (pc + 1) (.int (nI (g_sLen.getD i 0)) :: st)) : GG p l e R s m args below meth c D A cells slots Q nL ws lv pc (.ref (kV i) :: st) :=
  fun H locs ls hP hD hS h => va_tlen X.1 X.2.1 ((g_vk X).1 i hi).2.2.2 hS rfl hd (kk H locs ls hP hD hS h)
theorem g_bald (X : g_X p s m args meth c cc nL Ts own D cI kA kV A) {i : Nat} {k : Int32} (hi : i < g_sN) (hin : vp_in k (g_sLen.getD i 0)) (hd : decode cc pc = .ok (.baload, 1)) (kk : GG p l e R s m args below meth c D A cells slots Q nL ws lv (pc + 1) (.int ((g_sByt.getD i []).getD k.toNatClampNeg 0) :: st)) : GG p l e R s m args below meth c D A cells slots Q nL ws lv pc (.int k :: .ref (kV i) :: st) :=
  fun H locs ls hP hD hS h => va_tb X.1 X.2.1 ((g_vk X).1 i hi).2.2.2 hS hin rfl hd (kk H locs ls hP hD hS h)
theorem g_gsFmt (X : g_X p s m args meth c cc nL Ts own D cI kA kV A) {idx : Nat} (hlink : (Cond.fieldLink own idx "jdk/internal/util/Preconditions" "SIOOBE_FORMATTER" "Ljava/util/function/BiFunction;").before args s = true) (hd : decode cc pc = .ok (.getstatic idx, 3)) (kk : ∀ v : Value, (v = .null ∨ ∃ t : Nat, v = .ref t) → GG p l e R s m args below meth c D A cells slots Q nL ws lv (pc + 3) (v :: st)) : GG p l e R s m args below meth c D A cells slots Q nL ws lv pc st := by
  rcases X.2.2.2.2.2.2.2.1.2.2.2.1 with h0 | ⟨t, h0⟩
  · exact fun H locs ls hP hD hS h => va_gets X.1 X.2.1 h0 hS X.2.2.2.1 hlink (fun _ h => h) hd (kk _ (Or.inl rfl) H locs ls hP hD hS h)
  · exact fun H locs ls hP hD hS h => va_gets X.1 X.2.1 h0 hS X.2.2.2.1 hlink (fun _ h => h) hd (kk _ (Or.inr ⟨t, rfl⟩) H locs ls hP hD hS h)
theorem g_i2c (X : g_X p s m args meth c cc nL Ts own D cI kA kV A) {x : Int32}  (hd : decode cc pc = .ok (.i2c, 1)) (kk : GG p l e R s m args below meth c D A cells slots Q nL ws lv (pc + 1) (.int ((x.toUInt32 % 65536).toInt32) :: st)) : GG p l e R s m args below meth c D A cells slots Q nL ws lv pc (.int x :: st) := fun H locs ls hP hD hS h => lv_i2c X.1 X.2.1 hd rfl (kk H locs ls hP hD hS h)
theorem g_i2b (X : g_X p s m args meth c cc nL Ts own D cI kA kV A) {x : Int32}  (hd : decode cc pc = .ok (.i2b, 1)) (kk : GG p l e R s m args below meth c D A cells slots Q nL ws lv (pc + 1) (.int (x.toInt8.toInt32) :: st)) : GG p l e R s m args below meth c D A cells slots Q nL ws lv pc (.int x :: st) := fun H locs ls hP hD hS h => lv_i2b X.1 X.2.1 hd rfl (kk H locs ls hP hD hS h)
theorem g_ishr (X : g_X p s m args meth c cc nL Ts own D cI kA kV A) {x y : Int32}  (hd : decode cc pc = .ok (.ishr, 1)) (kk : GG p l e R s m args below meth c D A cells slots Q nL ws lv (pc + 1) (.int (x >>> (y &&& 31)) :: st)) : GG p l e R s m args below meth c D A cells slots Q nL ws lv pc (.int y :: .int x :: st) := fun H locs ls hP hD hS h => lv_ishr X.1 X.2.1 hd (kk H locs ls hP hD hS h)
theorem g_callVi (X : g_X p s m args meth c cc nL Ts own D cI kA kV A) {S : Type} {post : Int32 → S → Prop} {w1 : S → va_W} {w0 wr : va_W} {y : MethodName} {ws2 : List Cond} {rm : Room} {As stk : List Value} {b idx n maxL N ci : Nat} {C : String} {T : u_T} {fs : List Value} {bytes : ByteArray} {ret : Option FieldType}
    (hM : g_MI l D cI kA kV y ws2 rm (.ref b :: As) w0 w1 post) (cw : CallW R s args own C idx y bytes maxL ret ws2 rm rm.cells rm.slots n) (q0 : Nat) (he : ws[q0]? = some (b, .inr (ci, fs))) (hc : vwCl[ci]? = some (C, T, N)) (isC isR : List Nat) (hn : va_nd isC = true) (hC : isC.map (fun i => ws[i]?) = w0.map some) (hnR : va_nd isR = true) (hR : isR.map (fun i => ws[i]?) = wr.map some) (hdis : ∀ i ∈ isR, i ∉ isC) (hAs : As.length = n) (hroom : (st.map fun v => v.category).sum ≤ 8) (hf : cells + rm.cells ≤ R.cells ∧ slots + rm.slots ≤ R.slots) (hd : decode cc pc = .ok (.invokevirtual idx, 3)) (hst : stk = As.reverse ++ .ref b :: st) (kk : ∀ (r : Int32) (u : S), post r u → GG p l e R s m args below meth c D A (cells + rm.cells) (slots + rm.slots) Q nL (wr ++ w1 u) lv (pc + 3) (.int r :: st)) : GG p l e R s m args below meth c D A cells slots Q nL ws lv pc stk := by
  intro H locs ls hP hD hS h
  have hFc := va_free (wc := w0) hD hS X.2.2.2.2.2.2.1 isC hC
  refine va_calli (va_runV (As := As) (rest := st) ⟨X.1, X.2.1, X.2.2.1, X.2.2.2.1, X.2.2.2.2.1⟩ (hM H.size) cw ⟨g_blind, va_recv X.2.2.2.2.2.1 hP hc he, fun U hU hW => g_pre X hP hD hS isC hn hC U hU hW⟩ rfl hAs h.1 hst (lv_room hroom) hd hf) hS (fun q _ h => hFc q h) hFc (fun r u t H1 locs1 ht hvm hw hB hz1 hk1 hS1 => ?_)
  obtain ⟨hP1, hK1, hD1⟩ := hB
  rw [ht] at hP1
  obtain ⟨hP2, hD2⟩ := va_join hP hD isC isR hC hR hnR hdis hk1 hFc hP1 hD1
  exact kk r u hw H1 locs1 ls hP2 hD2 hS1 h
theorem g_callTi (X : g_X p s m args meth c cc nL Ts own D cI kA kV A) {S : Type} {post : Int32 → S → Prop} {w1 : S → va_W} {w0 wr : va_W} {y : MethodName} {ws2 : List Cond} {rm : Room} {As stk : List Value} {idx n maxL si : Nat} {bytes : ByteArray} {ret : Option FieldType}
    (hM : g_MI l D cI kA kV y ws2 rm (.ref (kA si) :: As) w0 w1 post) (cw : CallW R s args own "java/lang/String" idx y bytes maxL ret ws2 rm rm.cells rm.slots n) (hsi : si < g_sN) (isC isR : List Nat) (hn : va_nd isC = true) (hC : isC.map (fun i => ws[i]?) = w0.map some) (hnR : va_nd isR = true) (hR : isR.map (fun i => ws[i]?) = wr.map some) (hdis : ∀ i ∈ isR, i ∉ isC) (hAs : As.length = n) (hroom : (st.map fun v => v.category).sum ≤ 8) (hf : cells + rm.cells ≤ R.cells ∧ slots + rm.slots ≤ R.slots) (hd : decode cc pc = .ok (.invokevirtual idx, 3)) (hst : stk = As.reverse ++ .ref (kA si) :: st) (kk : ∀ (r : Int32) (u : S), post r u → GG p l e R s m args below meth c D A (cells + rm.cells) (slots + rm.slots) Q nL (wr ++ w1 u) lv (pc + 3) (.int r :: st)) : GG p l e R s m args below meth c D A cells slots Q nL ws lv pc stk := by
  intro H locs ls hP hD hS h
  have hFc := va_free (wc := w0) hD hS X.2.2.2.2.2.2.1 isC hC
  refine va_calli (va_runV (As := As) (rest := st) ⟨X.1, X.2.1, X.2.2.1, X.2.2.2.1, X.2.2.2.2.1⟩ (hM H.size) cw ⟨g_blind, g_srecv X hS hsi, fun U hU hW => g_pre X hP hD hS isC hn hC U hU hW⟩ rfl hAs h.1 hst (lv_room hroom) hd hf) hS (fun q _ h => hFc q h) hFc (fun r u t H1 locs1 ht hvm hw hB hz1 hk1 hS1 => ?_)
  obtain ⟨hP1, hK1, hD1⟩ := hB
  rw [ht] at hP1
  obtain ⟨hP2, hD2⟩ := va_join hP hD isC isR hC hR hnR hdis hk1 hFc hP1 hD1
  exact kk r u hw H1 locs1 ls hP2 hD2 hS1 h
theorem g_callSv (X : g_X p s m args meth c cc nL Ts own D cI kA kV A) {S : Type} {post : S → Prop} {w1 : S → va_W} {w0 wr : va_W} {y : MethodName} {ws2 : List Cond} {rm : Room} {As stk : List Value} {idx n maxL : Nat} {bytes : ByteArray} {ret : Option FieldType}
    (hM : g_MV l D cI kA kV y ws2 rm (As) w0 w1 post) (cw : CallB R s args own idx y bytes maxL ret ws2 rm rm.cells rm.slots n ∧ (Cond.static y).before args s = true)  (isC isR : List Nat) (hn : va_nd isC = true) (hC : isC.map (fun i => ws[i]?) = w0.map some) (hnR : va_nd isR = true) (hR : isR.map (fun i => ws[i]?) = wr.map some) (hdis : ∀ i ∈ isR, i ∉ isC) (hAs : As.length = n) (hroom : (st.map fun v => v.category).sum ≤ 8) (hf : cells + rm.cells ≤ R.cells ∧ slots + rm.slots ≤ R.slots) (hd : decode cc pc = .ok (.invokestatic idx, 3)) (hst : stk = As.reverse ++ st) (kk : ∀ (u : S), post u → GG p l e R s m args below meth c D A (cells + rm.cells) (slots + rm.slots) Q nL (wr ++ w1 u) lv (pc + 3) st) : GG p l e R s m args below meth c D A cells slots Q nL ws lv pc stk := by
  intro H locs ls hP hD hS h
  have hFc := va_free (wc := w0) hD hS X.2.2.2.2.2.2.1 isC hC
  refine va_callv (va_runS (As := As) (rest := st) ⟨X.1, X.2.1, X.2.2.1, X.2.2.2.1, X.2.2.2.2.1⟩ (hM H.size) cw ⟨g_blind, fun U hU hW => g_pre X hP hD hS isC hn hC U hU hW⟩ rfl hAs h.1 hst (lv_room hroom) hd hf) hS (fun q _ h => hFc q h) hFc (fun u t H1 locs1 ht hvm hw hB hz1 hk1 hS1 => ?_)
  obtain ⟨hP1, hK1, hD1⟩ := hB
  rw [ht] at hP1
  obtain ⟨hP2, hD2⟩ := va_join hP hD isC isR hC hR hnR hdis hk1 hFc hP1 hD1
  exact kk u hw H1 locs1 ls hP2 hD2 hS1 h
theorem g_callVv (X : g_X p s m args meth c cc nL Ts own D cI kA kV A) {S : Type} {post : S → Prop} {w1 : S → va_W} {w0 wr : va_W} {y : MethodName} {ws2 : List Cond} {rm : Room} {As stk : List Value} {b idx n maxL N ci : Nat} {C : String} {T : u_T} {fs : List Value} {bytes : ByteArray} {ret : Option FieldType}
    (hM : g_MV l D cI kA kV y ws2 rm (.ref b :: As) w0 w1 post) (cw : CallW R s args own C idx y bytes maxL ret ws2 rm rm.cells rm.slots n) (q0 : Nat) (he : ws[q0]? = some (b, .inr (ci, fs))) (hc : vwCl[ci]? = some (C, T, N)) (isC isR : List Nat) (hn : va_nd isC = true) (hC : isC.map (fun i => ws[i]?) = w0.map some) (hnR : va_nd isR = true) (hR : isR.map (fun i => ws[i]?) = wr.map some) (hdis : ∀ i ∈ isR, i ∉ isC) (hAs : As.length = n) (hroom : (st.map fun v => v.category).sum ≤ 8) (hf : cells + rm.cells ≤ R.cells ∧ slots + rm.slots ≤ R.slots) (hd : decode cc pc = .ok (.invokevirtual idx, 3)) (hst : stk = As.reverse ++ .ref b :: st) (kk : ∀ (u : S), post u → GG p l e R s m args below meth c D A (cells + rm.cells) (slots + rm.slots) Q nL (wr ++ w1 u) lv (pc + 3) st) : GG p l e R s m args below meth c D A cells slots Q nL ws lv pc stk := by
  intro H locs ls hP hD hS h
  have hFc := va_free (wc := w0) hD hS X.2.2.2.2.2.2.1 isC hC
  refine va_callv (va_runV (As := As) (rest := st) ⟨X.1, X.2.1, X.2.2.1, X.2.2.2.1, X.2.2.2.2.1⟩ (hM H.size) cw ⟨g_blind, va_recv X.2.2.2.2.2.1 hP hc he, fun U hU hW => g_pre X hP hD hS isC hn hC U hU hW⟩ rfl hAs h.1 hst (lv_room hroom) hd hf) hS (fun q _ h => hFc q h) hFc (fun u t H1 locs1 ht hvm hw hB hz1 hk1 hS1 => ?_)
  obtain ⟨hP1, hK1, hD1⟩ := hB
  rw [ht] at hP1
  obtain ⟨hP2, hD2⟩ := va_join hP hD isC isR hC hR hnR hdis hk1 hFc hP1 hD1
  exact kk u hw H1 locs1 ls hP2 hD2 hS1 h
theorem g_callSi (X : g_X p s m args meth c cc nL Ts own D cI kA kV A) {S : Type} {post : Int32 → S → Prop} {w1 : S → va_W} {w0 wr : va_W} {y : MethodName} {ws2 : List Cond} {rm : Room} {As stk : List Value} {idx n maxL : Nat} {bytes : ByteArray} {ret : Option FieldType}
    (hM : g_MI l D cI kA kV y ws2 rm (As) w0 w1 post) (cw : CallB R s args own idx y bytes maxL ret ws2 rm rm.cells rm.slots n ∧ (Cond.static y).before args s = true)  (isC isR : List Nat) (hn : va_nd isC = true) (hC : isC.map (fun i => ws[i]?) = w0.map some) (hnR : va_nd isR = true) (hR : isR.map (fun i => ws[i]?) = wr.map some) (hdis : ∀ i ∈ isR, i ∉ isC) (hAs : As.length = n) (hroom : (st.map fun v => v.category).sum ≤ 8) (hf : cells + rm.cells ≤ R.cells ∧ slots + rm.slots ≤ R.slots) (hd : decode cc pc = .ok (.invokestatic idx, 3)) (hst : stk = As.reverse ++ st) (kk : ∀ (r : Int32) (u : S), post r u → GG p l e R s m args below meth c D A (cells + rm.cells) (slots + rm.slots) Q nL (wr ++ w1 u) lv (pc + 3) (.int r :: st)) : GG p l e R s m args below meth c D A cells slots Q nL ws lv pc stk := by
  intro H locs ls hP hD hS h
  have hFc := va_free (wc := w0) hD hS X.2.2.2.2.2.2.1 isC hC
  refine va_calli (va_runS (As := As) (rest := st) ⟨X.1, X.2.1, X.2.2.1, X.2.2.2.1, X.2.2.2.2.1⟩ (hM H.size) cw ⟨g_blind, fun U hU hW => g_pre X hP hD hS isC hn hC U hU hW⟩ rfl hAs h.1 hst (lv_room hroom) hd hf) hS (fun q _ h => hFc q h) hFc (fun r u t H1 locs1 ht hvm hw hB hz1 hk1 hS1 => ?_)
  obtain ⟨hP1, hK1, hD1⟩ := hB
  rw [ht] at hP1
  obtain ⟨hP2, hD2⟩ := va_join hP hD isC isR hC hR hnR hdis hk1 hFc hP1 hD1
  exact kk r u hw H1 locs1 ls hP2 hD2 hS1 h
theorem g_callNi (X : g_X p s m args meth c cc nL Ts own D cI kA kV A) {S : Type} {post : Int32 → S → Prop} {w1 : S → va_W} {w0 wr : va_W} {y : MethodName} {ws2 : List Cond} {rm : Room} {As stk : List Value} {idx n maxL : Nat} {host : String} {bytes : ByteArray} {ret : Option FieldType}
    (hM : g_MI l D cI kA kV y ws2 rm (As) w0 w1 post) (cw : va_CN R s args own idx y host bytes maxL ret ws2 rm rm.cells rm.slots n ∧ (Cond.static y).before args s = true ∧ True)  (isC isR : List Nat) (hn : va_nd isC = true) (hC : isC.map (fun i => ws[i]?) = w0.map some) (hnR : va_nd isR = true) (hR : isR.map (fun i => ws[i]?) = wr.map some) (hdis : ∀ i ∈ isR, i ∉ isC) (hAs : As.length = n) (hroom : (st.map fun v => v.category).sum ≤ 8) (hf : cells + rm.cells ≤ R.cells ∧ slots + rm.slots ≤ R.slots) (hd : decode cc pc = .ok (.invokestatic idx, 3)) (hst : stk = As.reverse ++ st) (kk : ∀ (r : Int32) (u : S), post r u → GG p l e R s m args below meth c D A (cells + rm.cells) (slots + rm.slots) Q nL (wr ++ w1 u) lv (pc + 3) (.int r :: st)) : GG p l e R s m args below meth c D A cells slots Q nL ws lv pc stk := by
  intro H locs ls hP hD hS h
  have hFc := va_free (wc := w0) hD hS X.2.2.2.2.2.2.1 isC hC
  refine va_calli (va_runSN (As := As) (rest := st) ⟨X.1, X.2.1, X.2.2.1, X.2.2.2.1, X.2.2.2.2.1⟩ (hM H.size) cw ⟨g_blind, fun U hU hW => g_pre X hP hD hS isC hn hC U hU hW⟩ rfl hAs h.1 hst (lv_room hroom) hd hf) hS (fun q _ h => hFc q h) hFc (fun r u t H1 locs1 ht hvm hw hB hz1 hk1 hS1 => ?_)
  obtain ⟨hP1, hK1, hD1⟩ := hB
  rw [ht] at hP1
  obtain ⟨hP2, hD2⟩ := va_join hP hD isC isR hC hR hnR hdis hk1 hFc hP1 hD1
  exact kk r u hw H1 locs1 ls hP2 hD2 hS1 h
theorem g_callIv (X : g_X p s m args meth c cc nL Ts own D cI kA kV A) {S : Type} {post : S → Prop} {w1 : S → va_W} {w0 wr : va_W} {y : MethodName} {ws2 : List Cond} {rm : Room} {As stk : List Value} {b idx n maxL : Nat} {bytes : ByteArray}
    (hM : g_MV l D cI kA kV y ws2 rm (.ref b :: As) w0 w1 post) (cw : CallB R s args own idx y bytes maxL none ws2 rm rm.cells rm.slots n ∧ y.name = "<init>" ∧ (Cond.instanceMethod y).before args s = true)  (isC isR : List Nat) (hn : va_nd isC = true) (hC : isC.map (fun i => ws[i]?) = w0.map some) (hnR : va_nd isR = true) (hR : isR.map (fun i => ws[i]?) = wr.map some) (hdis : ∀ i ∈ isR, i ∉ isC) (hAs : As.length = n) (hroom : (st.map fun v => v.category).sum ≤ 8) (hf : cells + rm.cells ≤ R.cells ∧ slots + rm.slots ≤ R.slots) (hd : decode cc pc = .ok (.invokespecial idx, 3)) (hst : stk = As.reverse ++ .ref b :: st) (kk : ∀ (u : S), post u → GG p l e R s m args below meth c D A (cells + rm.cells) (slots + rm.slots) Q nL (wr ++ w1 u) lv (pc + 3) st) : GG p l e R s m args below meth c D A cells slots Q nL ws lv pc stk := by
  intro H locs ls hP hD hS h
  have hFc := va_free (wc := w0) hD hS X.2.2.2.2.2.2.1 isC hC
  refine va_callv (va_runI (As := As) (rest := st) ⟨X.1, X.2.1, X.2.2.1, X.2.2.2.1, X.2.2.2.2.1⟩ (hM H.size) cw ⟨g_blind, fun U hU hW => g_pre X hP hD hS isC hn hC U hU hW⟩ rfl hAs h.1 hst (lv_room hroom) hd hf) hS (fun q _ h => hFc q h) hFc (fun u t H1 locs1 ht hvm hw hB hz1 hk1 hS1 => ?_)
  obtain ⟨hP1, hK1, hD1⟩ := hB
  rw [ht] at hP1
  obtain ⟨hP2, hD2⟩ := va_join hP hD isC isR hC hR hnR hdis hk1 hFc hP1 hD1
  exact kk u hw H1 locs1 ls hP2 hD2 hS1 h
theorem g_callJv (X : g_X p s m args meth c cc nL Ts own D cI kA kV A) {S : Type} {post : S → Prop} {w1 : S → va_W} {w0 wr : va_W} {y : MethodName} {ws2 : List Cond} {rm : Room} {As stk : List Value} {b idx n maxL : Nat} {host : String} {bytes : ByteArray}
    (hM : g_MV l D cI kA kV y ws2 rm (.ref b :: As) w0 w1 post) (cw : va_CN R s args own idx y host bytes maxL none ws2 rm rm.cells rm.slots n ∧ y.name = "<init>" ∧ (Cond.instanceMethod y).before args s = true)  (isC isR : List Nat) (hn : va_nd isC = true) (hC : isC.map (fun i => ws[i]?) = w0.map some) (hnR : va_nd isR = true) (hR : isR.map (fun i => ws[i]?) = wr.map some) (hdis : ∀ i ∈ isR, i ∉ isC) (hAs : As.length = n) (hroom : (st.map fun v => v.category).sum ≤ 8) (hf : cells + rm.cells ≤ R.cells ∧ slots + rm.slots ≤ R.slots) (hd : decode cc pc = .ok (.invokespecial idx, 3)) (hst : stk = As.reverse ++ .ref b :: st) (kk : ∀ (u : S), post u → GG p l e R s m args below meth c D A (cells + rm.cells) (slots + rm.slots) Q nL (wr ++ w1 u) lv (pc + 3) st) : GG p l e R s m args below meth c D A cells slots Q nL ws lv pc stk := by
  intro H locs ls hP hD hS h
  have hFc := va_free (wc := w0) hD hS X.2.2.2.2.2.2.1 isC hC
  refine va_callv (va_runIN (As := As) (rest := st) ⟨X.1, X.2.1, X.2.2.1, X.2.2.2.1, X.2.2.2.2.1⟩ (hM H.size) cw ⟨g_blind, fun U hU hW => g_pre X hP hD hS isC hn hC U hU hW⟩ rfl hAs h.1 hst (lv_room hroom) hd hf) hS (fun q _ h => hFc q h) hFc (fun u t H1 locs1 ht hvm hw hB hz1 hk1 hS1 => ?_)
  obtain ⟨hP1, hK1, hD1⟩ := hB
  rw [ht] at hP1
  obtain ⟨hP2, hD2⟩ := va_join hP hD isC isR hC hR hnR hdis hk1 hFc hP1 hD1
  exact kk u hw H1 locs1 ls hP2 hD2 hS1 h
theorem g_callSr (X : g_X p s m args meth c cc nL Ts own D cI kA kV A) {post : Nat → Prop} {w0 wr : va_W} {y : MethodName} {ws2 : List Cond} {rm : Room} {As stk : List Value} {idx n maxL : Nat} {bytes : ByteArray} {ret : Option FieldType}
    (hM : g_MR l D cI kA kV y ws2 rm As w0 post) (cw : CallB R s args own idx y bytes maxL ret ws2 rm rm.cells rm.slots n ∧ (Cond.static y).before args s = true) (isC isR : List Nat) (hn : va_nd isC = true) (hC : isC.map (fun i => ws[i]?) = w0.map some) (hnR : va_nd isR = true) (hR : isR.map (fun i => ws[i]?) = wr.map some) (hdis : ∀ i ∈ isR, i ∉ isC) (hAs : As.length = n) (hroom : (st.map fun v => v.category).sum ≤ 8) (hf : cells + rm.cells ≤ R.cells ∧ slots + rm.slots ≤ R.slots) (hd : decode cc pc = .ok (.invokestatic idx, 3)) (hst : stk = As.reverse ++ st) (kk : ∀ (u : Nat), post u → GG p l e R s m args below meth c D A (cells + rm.cells) (slots + rm.slots) Q nL (wr ++ w0) lv (pc + 3) (.ref (kA u) :: st)) : GG p l e R s m args below meth c D A cells slots Q nL ws lv pc stk := by
  intro H locs ls hP hD hS h
  have hFc := va_free (wc := w0) hD hS X.2.2.2.2.2.2.1 isC hC
  refine va_callr (va_runS (As := As) (rest := st) ⟨X.1, X.2.1, X.2.2.1, X.2.2.2.1, X.2.2.2.2.1⟩ (hM H.size) cw ⟨g_blind, fun U hU hW => g_pre X hP hD hS isC hn hC U hU hW⟩ rfl hAs h.1 hst (lv_room hroom) hd hf) hS (fun q _ h => hFc q h) hFc (fun u ra t H1 locs1 ht hvm hw hB hz1 hk1 hS1 => ?_)
  obtain ⟨hra, hP1, hK1, hD1⟩ := hB
  rw [ht] at hP1
  obtain ⟨hP2, hD2⟩ := va_join hP hD isC isR hC hR hnR hdis hk1 hFc hP1 hD1
  rw [hra]
  exact kk u hw H1 locs1 ls hP2 hD2 hS1 h
theorem g_iret {v : Int32} {S : Type} {post : Int32 → S → Prop} {w1 : S → va_W} {w0 : va_W} (X : g_X p s m args meth c cc nL Ts own D cI kA kV A) (hA : A = va_A w0 s.heap.size) (hQ : Q = MQ below (va_Qi post (fun u t => g_B D cI s.heap.size w0 (w1 u) t) A) args s cells slots A) (u : S) (hp : post v u) (is : List Nat) (hn : va_nd is = true) (hs : is.map (fun i => ws[i]?) = (w1 u).map some) (hr : meth.sig.returnType = some .int) (hd : decode cc pc = .ok (.ireturn, 1)) :
    GG p l e R s m args below meth c D A cells slots Q nL ws lv pc [.int v] := by
  subst hQ
  subst hA
  exact fun H locs ls hP hD hS h =>
  W.iret (v := v) X.1 X.2.1 hr (fun t ht hW => ⟨⟨v, u, rfl, hp, by rw [ht]; exact hP.sub is (g_fm hs), va_K.moved hW.alike X.2.2.2.2.2.1, hD.sub is hn hs⟩, hS.F ht⟩) hS.2.2 hd X.2.2.2.2.2.2.2.2
theorem g_zret {v : Int32} {S : Type} {post : Int32 → S → Prop} {w1 : S → va_W} {w0 : va_W} (X : g_X p s m args meth c cc nL Ts own D cI kA kV A) (hA : A = va_A w0 s.heap.size) (hQ : Q = MQ below (va_Qi post (fun u t => g_B D cI s.heap.size w0 (w1 u) t) A) args s cells slots A) (u : S) (hp : post v u) (is : List Nat) (hn : va_nd is = true) (hs : is.map (fun i => ws[i]?) = (w1 u).map some) {ty : FieldType} (hr : meth.sig.returnType = some ty) (hnn : narrow ty (.int v) = .int v) (hd : decode cc pc = .ok (.ireturn, 1)) :
    GG p l e R s m args below meth c D A cells slots Q nL ws lv pc [.int v] := by
  subst hQ
  subst hA
  exact fun H locs ls hP hD hS h =>
  W.zret (v := v) X.1 X.2.1 hr hnn (fun t ht hW => ⟨⟨v, u, rfl, hp, by rw [ht]; exact hP.sub is (g_fm hs), va_K.moved hW.alike X.2.2.2.2.2.1, hD.sub is hn hs⟩, hS.F ht⟩) hS.2.2 hd X.2.2.2.2.2.2.2.2
theorem g_vret {S : Type} {post : S → Prop} {w1 : S → va_W} {w0 : va_W} (X : g_X p s m args meth c cc nL Ts own D cI kA kV A) (hA : A = va_A w0 s.heap.size) (hQ : Q = MQ below (va_Qv post (fun u t => g_B D cI s.heap.size w0 (w1 u) t) A) args s cells slots A) (u : S) (hp : post u) (is : List Nat) (hn : va_nd is = true) (hs : is.map (fun i => ws[i]?) = (w1 u).map some) (hr : meth.sig.returnType = none) (hd : decode cc pc = .ok (.return_, 1)) :
    GG p l e R s m args below meth c D A cells slots Q nL ws lv pc [] := by
  subst hQ
  subst hA
  exact fun H locs ls hP hD hS h =>
  W.vret X.1 X.2.1 hr (fun t ht hW => ⟨⟨u, rfl, hp, by rw [ht]; exact hP.sub is (g_fm hs), va_K.moved hW.alike X.2.2.2.2.2.1, hD.sub is hn hs⟩, hS.F ht⟩) hS.2.2 hd X.2.2.2.2.2.2.2.2
theorem g_aret {post : Nat → Prop} {w0 : va_W} {rt : FieldType} (X : g_X p s m args meth c cc nL Ts own D cI kA kV A) (hA : A = va_A w0 s.heap.size) (hQ : Q = MQ below (va_Qr post (fun u a t => a = kA u ∧ g_B D cI s.heap.size w0 w0 t) A) args s cells slots A) (u : Nat) (hp : post u) (is : List Nat) (hn : va_nd is = true) (hs : is.map (fun i => ws[i]?) = w0.map some) (hr : meth.sig.returnType = some rt) (hrt : (∃ n, rt = .object n) ∨ ∃ t, rt = .array t) (hd : decode cc pc = .ok (.areturn, 1)) :
    GG p l e R s m args below meth c D A cells slots Q nL ws lv pc [.ref (kA u)] := by
  subst hQ
  subst hA
  exact fun H locs ls hP hD hS h =>
  W.aret (v := .ref (kA u)) X.1 X.2.1 hr hrt (Or.inr ⟨_, rfl⟩) (fun t ht hW => ⟨⟨u, kA u, rfl, hp, rfl, by rw [ht]; exact hP.sub is (g_fm hs), va_K.moved hW.alike X.2.2.2.2.2.1, hD.sub is hn hs⟩, hS.F ht⟩) hS.2.2 hd X.2.2.2.2.2.2.2.2
end GG
theorem g_startI {S : Type} {w1 : S → va_W} {post : Int32 → S → Prop} {l : Launch} {D : va_G} {cI : ClassId} {kA kV : Nat → Nat} {y : MethodName} {ws2 ws' : List Cond} {rm : Room} {As : List Value} {w0 : va_W} {cc : ByteArray} {maxL : Nat} {ret : Option FieldType} {lv : List (Nat × Value)} (own : String)
    (hpl : plainName y.cls = true) (hw : ws2 = Cond.code y cc maxL ret :: ws') (hown : y.cls = own) (hlen : (lg_sl As).length ≤ maxL) (hlv : lv_args 0 As = lv)
    (body : ∀ (p : Program) (e : Env) (s : State) (m : MethodId) (args : Array Value) (below : List Frame) (meth : Method) (c : Code) (A : Nat → Prop) (Q : State → Prop), A = va_A w0 s.heap.size → Q = MQ below (va_Qi post (fun u t => g_B D cI s.heap.size w0 (w1 u) t) A) args s rm.cells rm.slots A → g_X p s m args meth c cc maxL ws2 own D cI kA kV A → meth.sig.returnType = ret → meth.name = y.name → GG p l e rm s m args below meth c D A 0 0 Q maxL w0 lv 0 []) :
    g_MI l D cI kA kV y ws2 rm As w0 w1 post := by
  intro sz
  refine Met.ofW (cc := cc) (maxL := maxL) (ret := ret) hpl hw ?_
  intro p e s m args below meth c s₁ B hml hv
  obtain ⟨rfl, hsz, hP, hK, hD0, hZ⟩ := hv
  subst hsz
  rw [lg_entry_eq]
  have hX : g_X p s m As.toArray meth c cc maxL ws2 own D cI kA kV (va_A w0 s.heap.size) := ⟨B.exec, B.bytes, hml, by rw [← hown]; exact findClass_of_methodNamed B.named, atoms_spec (ws := ws2) B.pre, hK, fun q h => Or.inr h, hZ, B.notSynchronized⟩
  exact body p e s m _ below meth c _ _ rfl rfl hX B.returns (name_of_methodNamed B.named B.method).1 s.heap [] _ hP hD0.self va_S.rf (hlv ▸ lv_entry As hlen)
theorem g_startV {S : Type} {w1 : S → va_W} {post : S → Prop} {l : Launch} {D : va_G} {cI : ClassId} {kA kV : Nat → Nat} {y : MethodName} {ws2 ws' : List Cond} {rm : Room} {As : List Value} {w0 : va_W} {cc : ByteArray} {maxL : Nat} {ret : Option FieldType} {lv : List (Nat × Value)} (own : String)
    (hpl : plainName y.cls = true) (hw : ws2 = Cond.code y cc maxL ret :: ws') (hown : y.cls = own) (hlen : (lg_sl As).length ≤ maxL) (hlv : lv_args 0 As = lv)
    (body : ∀ (p : Program) (e : Env) (s : State) (m : MethodId) (args : Array Value) (below : List Frame) (meth : Method) (c : Code) (A : Nat → Prop) (Q : State → Prop), A = va_A w0 s.heap.size → Q = MQ below (va_Qv post (fun u t => g_B D cI s.heap.size w0 (w1 u) t) A) args s rm.cells rm.slots A → g_X p s m args meth c cc maxL ws2 own D cI kA kV A → meth.sig.returnType = ret → meth.name = y.name → GG p l e rm s m args below meth c D A 0 0 Q maxL w0 lv 0 []) :
    g_MV l D cI kA kV y ws2 rm As w0 w1 post := by
  intro sz
  refine Met.ofW (cc := cc) (maxL := maxL) (ret := ret) hpl hw ?_
  intro p e s m args below meth c s₁ B hml hv
  obtain ⟨rfl, hsz, hP, hK, hD0, hZ⟩ := hv
  subst hsz
  rw [lg_entry_eq]
  have hX : g_X p s m As.toArray meth c cc maxL ws2 own D cI kA kV (va_A w0 s.heap.size) := ⟨B.exec, B.bytes, hml, by rw [← hown]; exact findClass_of_methodNamed B.named, atoms_spec (ws := ws2) B.pre, hK, fun q h => Or.inr h, hZ, B.notSynchronized⟩
  exact body p e s m _ below meth c _ _ rfl rfl hX B.returns (name_of_methodNamed B.named B.method).1 s.heap [] _ hP hD0.self va_S.rf (hlv ▸ lv_entry As hlen)
theorem g_startR {post : Nat → Prop} {l : Launch} {D : va_G} {cI : ClassId} {kA kV : Nat → Nat} {y : MethodName} {ws2 ws' : List Cond} {rm : Room} {As : List Value} {w0 : va_W} {cc : ByteArray} {maxL : Nat} {ret : Option FieldType} {lv : List (Nat × Value)} (own : String)
    (hpl : plainName y.cls = true) (hw : ws2 = Cond.code y cc maxL ret :: ws') (hown : y.cls = own) (hlen : (lg_sl As).length ≤ maxL) (hlv : lv_args 0 As = lv)
    (body : ∀ (p : Program) (e : Env) (s : State) (m : MethodId) (args : Array Value) (below : List Frame) (meth : Method) (c : Code) (A : Nat → Prop) (Q : State → Prop), A = va_A w0 s.heap.size → Q = MQ below (va_Qr post (fun u a t => a = kA u ∧ g_B D cI s.heap.size w0 w0 t) A) args s rm.cells rm.slots A → g_X p s m args meth c cc maxL ws2 own D cI kA kV A → meth.sig.returnType = ret → meth.name = y.name → GG p l e rm s m args below meth c D A 0 0 Q maxL w0 lv 0 []) :
    g_MR l D cI kA kV y ws2 rm As w0  post := by
  intro sz
  refine Met.ofW (cc := cc) (maxL := maxL) (ret := ret) hpl hw ?_
  intro p e s m args below meth c s₁ B hml hv
  obtain ⟨rfl, hsz, hP, hK, hD0, hZ⟩ := hv
  subst hsz
  rw [lg_entry_eq]
  have hX : g_X p s m As.toArray meth c cc maxL ws2 own D cI kA kV (va_A w0 s.heap.size) := ⟨B.exec, B.bytes, hml, by rw [← hown]; exact findClass_of_methodNamed B.named, atoms_spec (ws := ws2) B.pre, hK, fun q h => Or.inr h, hZ, B.notSynchronized⟩
  exact body p e s m _ below meth c _ _ rfl rfl hX B.returns (name_of_methodNamed B.named B.method).1 s.heap [] _ hP hD0.self va_S.rf (hlv ▸ lv_entry As hlen)
