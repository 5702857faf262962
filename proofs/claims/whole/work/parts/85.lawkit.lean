section LW
variable {p : Program} {l : Launch} {e : Env} {R : Room} {s : State} {m : MethodId} {args : Array Value} {below : List Frame} {meth : Method} {c : Code} {D : va_G} {cI : ClassId} {kA kV : Nat → Nat} {A : Nat → Prop} {cells slots : Nat} {Q : State → Prop} {nL : Nat} {ws ws' : va_W} {lv lv' : List (Nat × Value)} {pc : Nat} {st : List Value} {cc : ByteArray} {Ts : List Cond} {own : String}
theorem g_sld (X : g_X p s m args meth c cc nL Ts own D cI kA kV A) {b L : Nat} {xs : Nat → Int32} (hX : va_X b L xs s s.heap) (hbl : b < s.heap.size) (hbA : ¬ A b) {i : Int32} (hin : vp_in i L) (hd : decode cc pc = .ok (.iaload, 1)) (kk : GG p l e R s m args below meth c D A cells slots Q nL ws lv (pc + 1) (.int (xs i.toNatClampNeg) :: st)) : GG p l e R s m args below meth c D A cells slots Q nL ws lv pc (.int i :: .ref b :: st) := fun H locs ls hP hD hS h => va_sld X.1 X.2.1 hX hbl hbA hS hin hd (kk H locs ls hP hD hS h)
theorem g_slen (X : g_X p s m args meth c cc nL Ts own D cI kA kV A) {b L : Nat} {xs : Nat → Int32} (hX : va_X b L xs s s.heap) (hbl : b < s.heap.size) (hbA : ¬ A b) (hd : decode cc pc = .ok (.arraylength, 1)) (kk : GG p l e R s m args below meth c D A cells slots Q nL ws lv (pc + 1) (.int (nI L) :: st)) : GG p l e R s m args below meth c D A cells slots Q nL ws lv pc (.ref b :: st) := fun H locs ls hP hD hS h => va_slen X.1 X.2.1 hX hbl hbA hS hd (kk H locs ls hP hD hS h)
end LW
/-! THE CLAIM OUT OF ONE WALK OF THE LAW'S BODY. Your part is whole_start (and what it stands on); all else here is the same for every law, but numbers. -/
def R_law : String := "NineteenSecondsLeftLaw"
def lw_P (b : Addr) (xs : List Int32) (args : Array Value) (s : State) : Prop := args = #[.ref b] ∧ s.IntsAt b xs ∧ xs.length ≤ 2048 ∧ (Jvm.Cond.and given_1 narrow_1).before args s = true
def lw_Q (_ : Array Value) (s : State) (o : Outcome) (t : State) : Prop := o = .returned (some (.int 1)) ∧ Framed s o t [] 48 3992
def lw_Z (below : List Frame) (a : Array Value) (s : State) : State → Prop := fun t => ∃ o, t.status = .running ∧ Ended t below o ∧ lw_Q a s o t
/-- the law's own end, with 1 on the stack, nothing written that was there before, its room as the claim has it -/
theorem lw_ret {p : Program} {l : Launch} {e : Env} {s : State} {m : MethodId} {below : List Frame} {meth : Method} {c : Code} {b : Nat} (hx : p.tables.exec = Jvm.exec) (hb : c.code = code) (hr : meth.sig.returnType = ret) (hlocks : meth.locks = false) {pc : Nat} {H : Heap} {ls : Array Slot} (hdg : decode code pc = .ok (.ireturn, 1)) : W p l e room_1 s m #[Value.ref b] below meth c H [] 48 3992 (lw_Z below #[Value.ref b] s) (F0 m pc ls [.int 1]) := by
  intro T hT X
  obtain ⟨fs, hret, hrun, hended, hW, hframe⟩ := X.leave (v := some (.int 1)) (hlocks := hlocks) (fun h => by rw [hr] at h; cases h)
  have hmeth' : T.vm.method? m = some meth := X.method'
  refine ⟨T.setFrames fs, ?_, .returned (some (.int 1)), hrun, hended, rfl, ⟨_, rfl⟩, hW, hframe⟩
  jvm_step X.here [X.here.top, hx, hb, hdg, hmeth', hr, ret, narrow_b1]
  (try refine ⟨rfl, ?_⟩); (try refine ⟨rfl, ?_⟩)
  first | (intro acts; rw [hret _ acts rfl rfl rfl]) | rw [hret _ _ rfl rfl rfl]
  exact Steps.refl _
/-- what holds at the law's entry: the machine, the code, the tables' words (any of lw_tbl by 'hts w (by decide +kernel)'), the script of L ints xs at the cell b, what the Statement gives of the start (any of its parts by flat_of_before) -/
def lw_At (p : Program) (s : State) (m : MethodId) (meth : Method) (c : Code) (b L : Nat) (xs : Nat → Int32) : Prop :=
  p.tables.exec = Jvm.exec ∧ c.code = code ∧ meth.sig.returnType = ret ∧ c.maxLocals = 4 ∧ s.vm.findClass R_law = some m.cls ∧ (∀ w ∈ lw_tbl, w.before #[Value.ref b] s = true) ∧ va_X b L xs s s.heap ∧ b < s.heap.size ∧ meth.locks = false ∧ (Jvm.Cond.and given_1 narrow_1).before #[Value.ref b] s = true
theorem g_lawEnd {p : Program} {l : Launch} {e : Env} {s : State} {m : MethodId} {below : List Frame} {meth : Method} {c : Code} {D : va_G} {cI : ClassId} {kA kV : Nat → Nat} {AA : Nat → Prop} {b : Nat} {ws : va_W} {lv : List (Nat × Value)} {pc : Nat} (X : g_X p s m #[Value.ref b] meth c cL_law 4 wsL_law RL D cI kA kV AA) (hr : meth.sig.returnType = ret) (hA2 : ∀ q, AA q → s.heap.size ≤ q) (hd : decode cL_law pc = .ok (.ireturn, 1)) : GG p l e room_1 s m #[Value.ref b] below meth c D AA 48 3992 (lw_Z below #[Value.ref b] s) 4 ws lv pc [.int 1] :=
  fun H locs ls hP hD hS h => va_forget (fun q hq => hA2 _ (hS.2.2 q hq)) (lw_ret X.1 X.2.1 hr X.2.2.2.2.2.2.2.2 hd)
theorem g_scr {i : Int32} {L : Nat} (hL : L ≤ 2048) (h0 : 0 ≤ i) (c : ¬ nI L - 4 < i) : 0 ≤ i.toInt ∧ i.toInt + 4 ≤ (L : Int) := by
  have a := Int32.le_iff_toInt_le.mp h0
  have b := Int32.le_iff_toInt_le.mp (Int32.not_lt.mp c)
  have z : (0 : Int32).toInt = 0 := by decide
  have z4 : (4 : Int32).toInt = 4 := by decide
  have e : (nI L).toInt = (L : Int) := nI_toInt (by omega)
  rw [g_subI (by omega) (by omega), e, z4] at b
  omega
theorem g_vinScr {i : Int32} {L : Nat} (hL : L ≤ 2048) (h0 : 0 ≤ i) (c : ¬ nI L - 4 < i) : vp_in i L ∧ vp_in (i + 1) L ∧ vp_in (i + 2) L ∧ vp_in (i + 3) L := by
  obtain ⟨a, b⟩ := g_scr hL h0 c
  have z1 : (1 : Int32).toInt = 1 := by decide
  have z2 : (2 : Int32).toInt = 2 := by decide
  have z3 : (3 : Int32).toInt = 3 := by decide
  refine ⟨vp_in_iff.mpr ⟨by omega, by omega⟩, vp_in_iff.mpr ?_, vp_in_iff.mpr ?_, vp_in_iff.mpr ?_⟩
  · rw [g_addI (by omega) (by omega), z1]; omega
  · rw [g_addI (by omega) (by omega), z2]; omega
  · rw [g_addI (by omega) (by omega), z3]; omega
theorem g_decScr {i : Int32} {L n : Nat} (hL : L ≤ 2048) (h0 : 0 ≤ i) (c : ¬ nI L - 4 < i) (hm : ((L : Int) - i.toInt).toNat < n + 1) : ((L : Int) - (i + 4).toInt).toNat < n ∧ 0 ≤ i + 4 := by
  obtain ⟨a, b⟩ := g_scr hL h0 c
  have z : (0 : Int32).toInt = 0 := by decide
  have z4 : (4 : Int32).toInt = 4 := by decide
  rw [Int32.le_iff_toInt_le, g_addI (by omega) (by omega), z4]
  omega
