/-! THE CLAIM OUT OF ONE WALK OF THE LAW'S BODY. Your part is whole_start (and what it stands on); all else here is the same for every law, but numbers. -/
def R_law : String := "ArrayHouseLaw"
def lw_P (b : Addr) (xs : List Int32) (args : Array Value) (s : State) : Prop := args = #[.ref b] ∧ s.IntsAt b xs ∧ xs.length ≤ 6 ∧ (Jvm.Cond.and given_1 narrow_1).before args s = true
def lw_Q (_ : Array Value) (s : State) (o : Outcome) (t : State) : Prop := o = .returned (some (.int 1)) ∧ Framed s o t [] 247238 8360536
def lw_Z (below : List Frame) (a : Array Value) (s : State) : State → Prop := fun t => ∃ o, t.status = .running ∧ Ended t below o ∧ lw_Q a s o t
/-- the law's own end, with 1 on the stack, nothing written that was there before, its room as the claim has it -/
theorem lw_ret {p : Program} {l : Launch} {e : Env} {s : State} {m : MethodId} {below : List Frame} {meth : Method} {c : Code} {b : Nat} (hx : p.tables.exec = Jvm.exec) (hb : c.code = code) (hr : meth.sig.returnType = ret) (hlocks : meth.locks = false) {pc : Nat} {H : Heap} {ls : Array Slot} (hdg : decode code pc = .ok (.ireturn, 1)) : W p l e room_1 s m #[Value.ref b] below meth c H [] 247238 8360536 (lw_Z below #[Value.ref b] s) (F0 m pc ls [.int 1]) := by
  intro T hT X
  obtain ⟨fs, hret, hrun, hended, hW, hframe⟩ := X.leave (v := some (.int 1)) (hlocks := hlocks) (fun h => by rw [hr] at h; cases h)
  have hmeth' : T.vm.method? m = some meth := X.method'
  refine ⟨T.setFrames fs, ?_, .returned (some (.int 1)), hrun, hended, rfl, ⟨_, rfl⟩, hW, hframe⟩
  jvm_step X.here [X.here.top, hx, hb, hdg, hmeth', hr, ret, narrow_b1]
  (try refine ⟨rfl, ?_⟩); (try refine ⟨rfl, ?_⟩)
  first | (intro acts; rw [hret _ acts rfl rfl rfl]) | rw [hret _ _ rfl rfl rfl]
  exact Steps.refl _
/-- what holds at the law's entry: the machine, the code, the tables' words (any of lw_tbl by 'hts w (by decide +kernel)'), the script of L ints xs at the cell b, what the Statement gives of the start (any of its parts by flat_of_before) -/
def lw_At (p : Program) (s : State) (m : MethodId) (meth : Method) (c : Code) (b L : Nat) (xs : Nat → Int32) : Prop :=
  p.tables.exec = Jvm.exec ∧ c.code = code ∧ meth.sig.returnType = ret ∧ c.maxLocals = 4 ∧ s.vm.findClass R_law = some m.cls ∧ (∀ w ∈ lw_tbl, w.before #[Value.ref b] s = true) ∧ va_X b L xs s s.heap ∧ b < s.heap.size ∧ meth.locks = false ∧ (Jvm.Cond.and given_1 narrow_1).before #[Value.ref b] s = true
/-! what this claim's walks stand on -/
theorem WA_g' {w : Cond} (h : w ∈ WA) : w ∈ WA ∧ ((w.onTables && w.keeps) = true ∨ ∃ ty, w = .arrayClass ty) := ⟨h, (WA_good w h).2⟩
theorem gW {b : Cond} (hb : b ∈ WA) : GoodIn WA (b :: WA) := fun w hw => by
  rcases List.mem_cons.mp hw with h | h
  · subst h; exact WA_g' hb
  · exact WA_g' h
theorem gV {own C : String} {ix : Nat} {y : MethodName} {b : Cond} (h1 : Cond.methodLink own ix y ∈ WA) (h2 : Cond.instanceMethod y ∈ WA) (h3 : Cond.selects C y y ∈ WA) (h4 : Cond.initialized C ∈ WA) (hb : b ∈ WA) : GoodIn WA (wsV own ix C y (b :: WA)) := fun w hw => by
  rcases List.mem_append.mp hw with h | h
  · simp only [List.mem_cons, List.not_mem_nil, or_false] at h
    rcases h with h | h | h | h <;> (subst h; apply WA_g'; assumption)
  · exact gW hb w h
theorem gS {own : String} {ix : Nat} {y : MethodName} {b : Cond} (h1 : Cond.methodLink own ix y ∈ WA) (h2 : Cond.static y ∈ WA) (h4 : Cond.initialized own ∈ WA) (hb : b ∈ WA) : GoodIn WA (wsS own ix y (b :: WA)) := fun w hw => by
  rcases List.mem_append.mp hw with h | h
  · simp only [List.mem_cons, List.not_mem_nil, or_false] at h
    rcases h with h | h | h <;> (subst h; apply WA_g'; assumption)
  · exact gW hb w h
def isNest : Cond → Bool
  | .fieldLinkNest .. => true
  | .methodLinkNest .. => true
  | _ => false
theorem nw_all : NWL.all isNest = true := by decide +kernel
theorem nw_is {w : Cond} (h : w ∈ NWL) : isNest w = true := List.all_eq_true.mp nw_all w h
theorem nw_ontab {w : Cond} (h : isNest w = true) : w.onTables = true := by
  cases w <;> first | rfl | (simp [isNest] at h; done)
def NW (U : State) : Prop := ∀ w ∈ NWL, va_Nw w U
theorem nw_w1 {w : Cond} (h : isNest w = true) {s U : State} (hW : s.WarmedH U.vm) (hZ : va_Nw w s) : va_Nw w U := by
  cases w <;> first | exact va_Nw.warmF hW hZ | exact va_Nw.warmM hW hZ | (simp [isNest] at h; done)
theorem NW.warm {s U : State} (hW : s.WarmedH U.vm) (h : NW s) : NW U := fun w hw => nw_w1 (nw_is hw) hW (h w hw)
theorem NW.same {u U : State} (e : u.vm = U.vm) (h : NW u) : NW U := fun w hw => va_Nw.same (nw_ontab (nw_is hw)) e (h w hw)
def PB (dC : Nat → ClassId) (dI : Nat → Nat → Nat) (cI cB : ClassId) (ws : va_W) (sz : Nat) (U : State) : Prop := U.heap.size = sz ∧ va_P (dC, dI) vwCl ws U.heap ∧ va_K (dC, dI) vwCl [(cI, .int), (cB, .byte)] U ∧ va_D (fun _ => True) ws ∧ NW U
def QB (dC : Nat → ClassId) (dI : Nat → Nat → Nat) (cI cB : ClassId) (ws : va_W) (A : Nat → Prop) (t : State) : Prop := va_P (dC, dI) vwCl ws t.heap ∧ va_K (dC, dI) vwCl [(cI, .int), (cB, .byte)] t ∧ va_D A ws
theorem PB_blind {dC : Nat → ClassId} {dI : Nat → Nat → Nat} {cI cB : ClassId} {ws : va_W} {sz : Nat} (av : List Value) : FrameBlind (va_Pc av (PB dC dI cI cB ws sz)) := fun a U g mk q => by
  obtain ⟨q0, q1, qP, qK, qD, qN⟩ := q
  exact ⟨q0, q1, qP, va_K.moved (u := U) (U := U.calling g mk a) (Vm.Alike.refl U.vm) qK, qD, NW.same (u := U) (U := U.calling g mk a) rfl qN⟩
theorem PB_at {dC : Nat → ClassId} {dI : Nat → Nat → Nat} {cI cB : ClassId} {ws : va_W} {A : Nat → Prop} {s U : State} {H : Heap} (hU : U.heap = H) (hW : s.WarmedH U.vm) (hP : va_P (dC, dI) vwCl ws H) (hK : va_K (dC, dI) vwCl [(cI, .int), (cB, .byte)] s) (hD : va_D A ws) (hN : NW s) : PB dC dI cI cB ws H.size U :=
  ⟨by rw [hU], by rw [hU]; exact hP, va_K.moved hW.alike hK, hD.weaken (fun _ _ _ _ => trivial), NW.warm hW hN⟩
theorem after {dC : Nat → ClassId} {dI : Nat → Nat → Nat} {cI cB : ClassId} {A0 : Nat → Prop} {ws wc wr w1 : va_W} {H H1 : Heap} {t : State} (hP : va_P (dC, dI) vwCl ws H) (hD : va_D A0 ws) (isC isR : List Nat) (hC : isC.map (fun i => ws[i]?) = wc.map some) (hR : isR.map (fun i => ws[i]?) = wr.map some) (hn : va_nd isR = true) (hdis : ∀ i ∈ isR, i ∉ isC)
    (hk : ∀ q : Nat, q < H.size → ¬ va_A wc H.size q → H1[q]? = H[q]?) (hF : ∀ q, va_A wc H.size q → A0 q) (ht : t.heap = H1) (hq : QB dC dI cI cB w1 (va_A wc H.size) t) : va_P (dC, dI) vwCl (wr ++ w1) H1 ∧ va_D A0 (wr ++ w1) := by
  subst ht
  exact va_join hP hD isC isR hC hR hn hdis hk hF hq.1 hq.2.2
theorem after0 {dC : Nat → ClassId} {dI : Nat → Nat → Nat} {A0 : Nat → Prop} {ws wc wr : va_W} {H H1 : Heap} (hP : va_P (dC, dI) vwCl ws H) (hD : va_D A0 ws) (isC isR : List Nat) (hC : isC.map (fun i => ws[i]?) = wc.map some) (hR : isR.map (fun i => ws[i]?) = wr.map some) (hn : va_nd isR = true) (hdis : ∀ i ∈ isR, i ∉ isC)
    (hk : ∀ q : Nat, q < H.size → ¬ va_A wc H.size q → H1[q]? = H[q]?) (hF : ∀ q, va_A wc H.size q → A0 q) : va_P (dC, dI) vwCl wr H1 ∧ va_D A0 wr := by
  have h := va_join (w1 := []) hP hD isC isR hC hR hn hdis hk hF (fun k q h => by simp at h) ⟨fun i j p q h => by simp at h, fun k q h => by simp at h⟩
  rwa [List.append_nil] at h
theorem ty_int {dC : Nat → ClassId} {dI : Nat → Nat → Nat} {cI cB cA : ClassId} {U : State} (h : va_K (dC, dI) vwCl ([(cI, .int), (cB, .byte)] ++ [(cA, .int)]) U) : cI = cA := by
  have h1 : U.vm.findClass ("[" ++ FieldType.int.toString) = some cI := (h.2 0 _ rfl).2
  have h2 : U.vm.findClass ("[" ++ FieldType.int.toString) = some cA := (h.2 2 _ rfl).2
  exact Option.some.inj (h1.symm.trans h2)
theorem ty_byte {dC : Nat → ClassId} {dI : Nat → Nat → Nat} {cI cB cA : ClassId} {U : State} (h : va_K (dC, dI) vwCl ([(cI, .int), (cB, .byte)] ++ [(cA, .byte)]) U) : cB = cA := by
  have h1 : U.vm.findClass ("[" ++ FieldType.byte.toString) = some cB := (h.2 1 _ rfl).2
  have h2 : U.vm.findClass ("[" ++ FieldType.byte.toString) = some cA := (h.2 2 _ rfl).2
  exact Option.some.inj (h1.symm.trans h2)
theorem arr_known {s : State} {args : Array Value} {ty : FieldType} (h : (Cond.arrayClass ty).before args s = true) (hp : (match ty with | .object _ => false | _ => true) = true) : ∃ cA : ClassId, ArrOfT s cA ty ∧ va_RA s cA ty := by
  obtain ⟨cA, kA, comp, h1, h2, h3⟩ := Cond.arrayClass_spec h
  refine ⟨cA, fun n z => ⟨fun k h => (by cases h), kA, h2, comp, h3⟩, ?_⟩
  cases ty <;> first | exact h1 | (simp at hp; done)
section TP
variable {p : Program} {l : Launch} {e : Env} {R : Room} {s : State} {m : MethodId} {args : Array Value} {below : List Frame} {meth : Method} {c : Code} {H : Heap} {locs : List Loc} {cells slots : Nat} {Q : State → Prop} {pc : Nat} {ls : Array Slot} {rest : List Value}
theorem tp_i {x : Int32} (y : Int32) (h : x = y) (k : W p l e R s m args below meth c H locs cells slots Q (F0 m pc ls (.int y :: rest))) : W p l e R s m args below meth c H locs cells slots Q (F0 m pc ls (.int x :: rest)) := by
  subst h; exact k
theorem lp_ (N : Nat) (I : Nat → Heap → List Loc → Array Slot → Prop) (hstep : ∀ i, i < N → (∀ H locs ls, I (i + 1) H locs ls → W p l e R s m args below meth c H locs cells slots Q (F0 m pc ls [])) → ∀ H locs ls, I i H locs ls → W p l e R s m args below meth c H locs cells slots Q (F0 m pc ls [])) (hend : ∀ H locs ls, I N H locs ls → W p l e R s m args below meth c H locs cells slots Q (F0 m pc ls [])) (h0 : I 0 H locs ls) : W p l e R s m args below meth c H locs cells slots Q (F0 m pc ls []) := by
  have key : ∀ k i, i + k = N → ∀ H locs ls, I i H locs ls → W p l e R s m args below meth c H locs cells slots Q (F0 m pc ls []) := by
    intro k
    induction k with
    | zero => intro i hi H locs ls h; exact hend H locs ls (by rw [show N = i by omega]; exact h)
    | succ k ih => intro i hi H locs ls h; exact hstep i (by omega) (ih (i + 1) (by omega)) H locs ls h
  exact key N 0 (by omega) H locs ls h0
end TP
theorem cpy0 {f g : Nat → Int32} {sp dp : Nat} : va_cpy f g sp dp (0 : Int32).toNatClampNeg = g := by
  rw [sb_cl0]
  funext k
  unfold va_cpy
  rw [if_neg (by omega)]
theorem f_eq {x y : Int32} {n m : Int} (hx : x.toInt = n) (hy : y.toInt = m) (h : x = y) : n = m := by rw [← hx, ← hy, h]
theorem f_ne {x y : Int32} {n m : Int} (hx : x.toInt = n) (hy : y.toInt = m) (h : ¬ x = y) : ¬ n = m := fun e => h (Int32.toInt_inj.mp (by rw [hx, hy, e]))
theorem f_lt {x y : Int32} {n m : Int} (hx : x.toInt = n) (hy : y.toInt = m) (h : x < y) : n < m := by rw [← hx, ← hy]; exact Int32.lt_iff_toInt_lt.mp h
theorem f_nlt {x y : Int32} {n m : Int} (hx : x.toInt = n) (hy : y.toInt = m) (h : ¬ x < y) : ¬ n < m := by rw [← hx, ← hy]; exact fun q => h (Int32.lt_iff_toInt_lt.mpr q)
theorem f_le {x y : Int32} {n m : Int} (hx : x.toInt = n) (hy : y.toInt = m) (h : x ≤ y) : n ≤ m := by rw [← hx, ← hy]; exact Int32.le_iff_toInt_le.mp h
theorem f_nle {x y : Int32} {n m : Int} (hx : x.toInt = n) (hy : y.toInt = m) (h : ¬ x ≤ y) : ¬ n ≤ m := by rw [← hx, ← hy]; exact fun q => h (Int32.le_iff_toInt_le.mpr q)
theorem cmp_ge {v : Int32} (h : 0 ≤ lg_cmp v.toInt64 2147483647) : 2147483647 ≤ v.toInt := by
  have h1 := Int64.le_iff_toInt_le.mp ((lg_cmp_ge _ _).mp h)
  rw [Int32.toInt_toInt64, show (2147483647 : Int64).toInt = 2147483647 by decide] at h1
  exact h1
theorem cmp_lt {v : Int32} (h : ¬ 0 ≤ lg_cmp v.toInt64 2147483647) : v.toInt < 2147483647 := by
  apply Int.not_le.mp
  intro q
  apply h
  apply (lg_cmp_ge _ _).mpr
  apply Int64.le_iff_toInt_le.mpr
  rw [Int32.toInt_toInt64, show (2147483647 : Int64).toInt = 2147483647 by decide]
  exact q
def trimA (n : Int32) : Int32 := if n.toInt = 0 then 0 else -1
def toldA (w : Int32) : Int32 := if w.toInt = 5 ∨ w.toInt = 6 then 1 else if 0 ≤ w.toInt ∧ w.toInt ≤ 7 then 0 else -1
def setA (w v : Int32) : Int32 := if (w.toInt = 0 ∧ 0 ≤ v.toInt ∧ v.toInt ≤ 1) ∨ (w.toInt = 1 ∧ 1 ≤ v.toInt ∧ v.toInt ≤ 2147483646) then 1 else -1
theorem sw_out8 {x : Int32} (h0 : ¬ x = 0) (h1 : ¬ x = 1) (h2 : ¬ x = 2) (h3 : ¬ x = 3) (h4 : ¬ x = 4) (h5 : ¬ x = 5) (h6 : ¬ x = 6) (h7 : ¬ x = 7) : x.toInt < 0 ∨ 7 < x.toInt := by
  have k0 := f_ne (m := 0) rfl (by decide) h0
  have k1 := f_ne (m := 1) rfl (by decide) h1
  have k2 := f_ne (m := 2) rfl (by decide) h2
  have k3 := f_ne (m := 3) rfl (by decide) h3
  have k4 := f_ne (m := 4) rfl (by decide) h4
  have k5 := f_ne (m := 5) rfl (by decide) h5
  have k6 := f_ne (m := 6) rfl (by decide) h6
  have k7 := f_ne (m := 7) rfl (by decide) h7
  omega
theorem sw_out17 {x : Int32} (h0 : ¬ x = 0) (h1 : ¬ x = 1) (h2 : ¬ x = 2) (h3 : ¬ x = 3) (h4 : ¬ x = 4) (h5 : ¬ x = 5) (h6 : ¬ x = 6) (h7 : ¬ x = 7) (h8 : ¬ x = 8) (h9 : ¬ x = 9) (h10 : ¬ x = 10) (h11 : ¬ x = 11) (h12 : ¬ x = 12) (h13 : ¬ x = 13) (h14 : ¬ x = 14) (h15 : ¬ x = 15) (h16 : ¬ x = 16) : x.toInt < 0 ∨ 16 < x.toInt := by
  have k0 := f_ne (m := 0) rfl (by decide) h0
  have k1 := f_ne (m := 1) rfl (by decide) h1
  have k2 := f_ne (m := 2) rfl (by decide) h2
  have k3 := f_ne (m := 3) rfl (by decide) h3
  have k4 := f_ne (m := 4) rfl (by decide) h4
  have k5 := f_ne (m := 5) rfl (by decide) h5
  have k6 := f_ne (m := 6) rfl (by decide) h6
  have k7 := f_ne (m := 7) rfl (by decide) h7
  have k8 := f_ne (m := 8) rfl (by decide) h8
  have k9 := f_ne (m := 9) rfl (by decide) h9
  have k10 := f_ne (m := 10) rfl (by decide) h10
  have k11 := f_ne (m := 11) rfl (by decide) h11
  have k12 := f_ne (m := 12) rfl (by decide) h12
  have k13 := f_ne (m := 13) rfl (by decide) h13
  have k14 := f_ne (m := 14) rfl (by decide) h14
  have k15 := f_ne (m := 15) rfl (by decide) h15
  have k16 := f_ne (m := 16) rfl (by decide) h16
  omega
theorem df_0 : ∀ j, j < 6 → defaultValue (tyX0 j) = vp_V [.null, .null, .null, .null, .null, .null] j := by decide +kernel
theorem df_1 : ∀ j, j < 9 → defaultValue (tyX1 j) = vp_V [.null, .null, .null, .null, .int 0, .int 0, .int 0, .int 0, .int 0] j := by decide +kernel
theorem df_2 : ∀ j, j < 5 → defaultValue (tyX2 j) = vp_V [.null, .null, .null, .null, .null] j := by decide +kernel
theorem df_3 : ∀ j, j < 16 → defaultValue (tyX3 j) = vp_V [.null, .null, .null, .null, .null, .null, .null, .null, .null, .null, .null, .null, .null, .null, .int 0, .int 0] j := by decide +kernel
theorem df_4 : ∀ j, j < 13 → defaultValue (tyX4 j) = vp_V [.null, .null, .null, .null, .null, .null, .null, .null, .null, .int 0, .int 0, .int 0, .int 0] j := by decide +kernel
theorem df_5 : ∀ j, j < 4 → defaultValue (tyX5 j) = vp_V [.null, .null, .int 0, .int 0] j := by decide +kernel
theorem df_6 : ∀ j, j < 5 → defaultValue (tyX6 j) = vp_V [.null, .null, .null, .null, .null] j := by decide +kernel
theorem df_7 : ∀ j, j < 5 → defaultValue (tyX7 j) = vp_V [.int 0, .int 0, .int 0, .int 0, .int 0] j := by decide +kernel
theorem df_8 : ∀ j, j < 8 → defaultValue (tyX8 j) = vp_V [.null, .null, .null, .int 0, .int 0, .int 0, .int 0, .int 0] j := by decide +kernel
theorem df_9 : ∀ j, j < 4 → defaultValue (tyX9 j) = vp_V [.null, .null, .int 0, .int 0] j := by decide +kernel
theorem df_10 : ∀ j, j < 11 → defaultValue (tyX10 j) = vp_V [.null, .null, .null, .null, .null, .null, .null, .null, .int 0, .int 0, .int 0] j := by decide +kernel
theorem df_11 : ∀ j, j < 76 → defaultValue (tyX11 j) = vp_V [.int 0, .int 0, .int 0, .int 0, .long 0, .null, .null, .int 0, .null, .int 0, .int 0, .int 0, .null, .null, .null, .int 0, .null, .int 0, .null, .int 0, .int 0, .null, .int 0, .null, .int 0, .null, .null, .null, .null, .null, .null, .null, .int 0, .int 0, .int 0, .int 0, .null, .null, .null, .null, .null, .null, .null, .null, .null, .int 0, .int 0, .null, .null, .null, .null, .int 0, .int 0, .int 0, .int 0, .int 0, .int 0, .int 0, .int 0, .int 0, .int 0, .int 0, .int 0, .int 0, .null, .null, .int 0, .null, .null, .null, .null, .int 0, .int 0, .int 0, .int 0, .null] j := by decide +kernel

