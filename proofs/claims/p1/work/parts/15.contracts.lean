set_option maxHeartbeats 4000000 in
set_option maxRecDepth 100000 in
/-- X10_at_0 -/
theorem c_X10_at_0 (l : Launch) (dC : Nat → ClassId) (dI : Nat → Nat → Nat) (cI cB : ClassId) (p0 : Nat) (p1 : Nat) (p2 : Nat) (p3 : Nat) (p4 : Nat) (p5 : Nat) (p6 : Nat) (p7 : Nat) (p8 : Nat) (sz : Nat) : Met l yX10_at (.code yX10_at cX10_at 1 (some .int) :: WA) ({ frames := 0, cells := 0, slots := 0, locals := 0 }) (va_Pc [.ref p0] (PB dC dI cI cB [(p0, .inr (10, [.ref p1, .ref p2, .ref p3, .ref p4, .ref p5, .ref p6, .ref p7, .ref p8, .int 0, .int 0, .int (-1)]))] sz)) (va_Qi (fun (r : Int32) (_ : Unit) => r = (-1)) (fun _ _ => True) (va_A [(p0, .inr (10, [.ref p1, .ref p2, .ref p3, .ref p4, .ref p5, .ref p6, .ref p7, .ref p8, .int 0, .int 0, .int (-1)]))] sz)) 0 0 (va_A [(p0, .inr (10, [.ref p1, .ref p2, .ref p3, .ref p4, .ref p5, .ref p6, .ref p7, .ref p8, .int 0, .int 0, .int (-1)]))] sz) := by
  refine Met.ofW (cc := cX10_at) (maxL := 1) (ret := (some .int)) (by decide) rfl ?_
  intro p e s m args below meth c s₁ B hml hv
  obtain ⟨rfl, hsz, hP, hK, hD0, hN⟩ := hv
  have hx := B.exec
  have hb := B.bytes
  have hr := B.returns
  have hts := atoms_spec B.pre
  have hW : ∀ w ∈ WA, w.before [.ref p0].toArray s = true := fun w h => hts w (List.mem_cons_of_mem _ h)
  have hown : s.vm.findClass RX10 = some m.cls := findClass_of_methodNamed B.named
  have hlocks := B.notSynchronized
  subst hsz
  have hD := hD0.self (sz := s.heap.size)
  generalize hAe : va_A [(p0, .inr (10, [.ref p1, .ref p2, .ref p3, .ref p4, .ref p5, .ref p6, .ref p7, .ref p8, .int 0, .int 0, .int (-1)]))] s.heap.size = A at hD ⊢
  have hA : ∀ q : Nat, s.heap.size ≤ q → A q := fun q h => by rw [← hAe]; exact Or.inr h
  have hS : va_S A s.heap s.heap [] := va_S.rf
  have hP : va_P (dC, dI) vwCl [(p0, .inr (10, [.ref p1, .ref p2, .ref p3, .ref p4, .ref p5, .ref p6, .ref p7, .ref p8, .int 0, .int 0, .int (-1)]))] s.heap := hP
  have hl := lv_entry ([.ref p0]) (n := 1) (Nat.le_of_ble_eq_true rfl)
  rw [lg_entry_eq]
  generalize (lg_sl ([.ref p0]) ++ List.replicate (1 - (lg_sl ([.ref p0])).length) Slot.unset).toArray = ls at hl ⊢
  have hl : lv_has ls 1 [(0, .ref p0)] := hl
  refine lv_aload_n hx hb dX10_at_0 rfl (lv_at hl 0 rfl) ?_
  refine va_get (D := (dC, dI)) (ci := 10) (v := .int (-1)) (C := RX10) (T := TX10) (N := 11) hx hb hW iW_10 hown hK hP 0 rfl rfl 10 (by decide) (hW _ mw_78) (fun _ h9 => h9) rfl dX10_at_1 ?_
  refine W.widen (k := 0) (n := 0) (Nat.le_of_ble_eq_true rfl) (Nat.le_of_ble_eq_true rfl) ?_
  exact W.iret (v := (-1)) hx hb hr (fun t ht hW9 => ⟨⟨(-1), (), rfl, rfl, trivial⟩, hS.F ht⟩) hS.2.2 dX10_at_4

set_option maxHeartbeats 4000000 in
set_option maxRecDepth 100000 in
/-- X11_at_0 -/
theorem c_X11_at_0 (l : Launch) (dC : Nat → ClassId) (dI : Nat → Nat → Nat) (cI cB : ClassId) (p0 : Nat) (p1 : Nat) (p2 : Nat) (p3 : Nat) (p4 : Nat) (p5 : Nat) (p6 : Nat) (p7 : Nat) (p8 : Nat) (p9 : Nat) (p10 : Nat) (p11 : Nat) (p12 : Nat) (p13 : Nat) (p14 : Nat) (p15 : Nat) (p16 : Nat) (p17 : Nat) (p18 : Nat) (p19 : Nat) (p20 : Nat) (p21 : Nat) (p22 : Nat) (p23 : Nat) (p24 : Nat) (p25 : Nat) (p26 : Nat) (p27 : Nat) (p28 : Nat) (p29 : Nat) (p30 : Nat) (p31 : Nat) (p32 : Nat) (p33 : Nat) (p34 : Nat) (p35 : Nat) (p36 : Nat) (p37 : Nat) (sz : Nat) : Met l yX11_at (.code yX11_at cX11_at 1 (some .int) :: WA) ({ frames := 0, cells := 0, slots := 0, locals := 0 }) (va_Pc [.ref p0] (PB dC dI cI cB [(p0, .inr (11, [.int 0, .int 0, .int 0, .int 1, .long 1, .ref p1, .ref p2, .int 1, .ref p3, .int 0, .int 0, .int 1, .ref p4, .ref p5, .ref p6, .int 0, .ref p7, .int 0, .ref p8, .int 0, .int 0, .ref p9, .int 0, .ref p10, .int 0, .ref p11, .ref p12, .ref p13, .ref p14, .ref p15, .ref p16, .ref p17, .int 0, .int 0, .int 0, .int 0, .ref p18, .ref p19, .ref p20, .ref p21, .ref p22, .ref p23, .ref p24, .ref p25, .ref p26, .int 0, .int 0, .ref p27, .ref p28, .ref p29, .ref p30, .int 0, .int 0, .int 0, .int 0, .int 0, .int 0, .int 0, .int 0, .int 0, .int 0, .int 0, .int (-1), .int 0, .ref p31, .ref p32, .int 0, .ref p33, .ref p34, .ref p35, .ref p36, .int 0, .int (-1), .int 0, .int 0, .ref p37]))] sz)) (va_Qi (fun (r : Int32) (_ : Unit) => r = (-1)) (fun _ _ => True) (va_A [(p0, .inr (11, [.int 0, .int 0, .int 0, .int 1, .long 1, .ref p1, .ref p2, .int 1, .ref p3, .int 0, .int 0, .int 1, .ref p4, .ref p5, .ref p6, .int 0, .ref p7, .int 0, .ref p8, .int 0, .int 0, .ref p9, .int 0, .ref p10, .int 0, .ref p11, .ref p12, .ref p13, .ref p14, .ref p15, .ref p16, .ref p17, .int 0, .int 0, .int 0, .int 0, .ref p18, .ref p19, .ref p20, .ref p21, .ref p22, .ref p23, .ref p24, .ref p25, .ref p26, .int 0, .int 0, .ref p27, .ref p28, .ref p29, .ref p30, .int 0, .int 0, .int 0, .int 0, .int 0, .int 0, .int 0, .int 0, .int 0, .int 0, .int 0, .int (-1), .int 0, .ref p31, .ref p32, .int 0, .ref p33, .ref p34, .ref p35, .ref p36, .int 0, .int (-1), .int 0, .int 0, .ref p37]))] sz)) 0 0 (va_A [(p0, .inr (11, [.int 0, .int 0, .int 0, .int 1, .long 1, .ref p1, .ref p2, .int 1, .ref p3, .int 0, .int 0, .int 1, .ref p4, .ref p5, .ref p6, .int 0, .ref p7, .int 0, .ref p8, .int 0, .int 0, .ref p9, .int 0, .ref p10, .int 0, .ref p11, .ref p12, .ref p13, .ref p14, .ref p15, .ref p16, .ref p17, .int 0, .int 0, .int 0, .int 0, .ref p18, .ref p19, .ref p20, .ref p21, .ref p22, .ref p23, .ref p24, .ref p25, .ref p26, .int 0, .int 0, .ref p27, .ref p28, .ref p29, .ref p30, .int 0, .int 0, .int 0, .int 0, .int 0, .int 0, .int 0, .int 0, .int 0, .int 0, .int 0, .int (-1), .int 0, .ref p31, .ref p32, .int 0, .ref p33, .ref p34, .ref p35, .ref p36, .int 0, .int (-1), .int 0, .int 0, .ref p37]))] sz) := by
  refine Met.ofW (cc := cX11_at) (maxL := 1) (ret := (some .int)) (by decide) rfl ?_
  intro p e s m args below meth c s₁ B hml hv
  obtain ⟨rfl, hsz, hP, hK, hD0, hN⟩ := hv
  have hx := B.exec
  have hb := B.bytes
  have hr := B.returns
  have hts := atoms_spec B.pre
  have hW : ∀ w ∈ WA, w.before [.ref p0].toArray s = true := fun w h => hts w (List.mem_cons_of_mem _ h)
  have hown : s.vm.findClass RX11 = some m.cls := findClass_of_methodNamed B.named
  have hlocks := B.notSynchronized
  subst hsz
  have hD := hD0.self (sz := s.heap.size)
  generalize hAe : va_A [(p0, .inr (11, [.int 0, .int 0, .int 0, .int 1, .long 1, .ref p1, .ref p2, .int 1, .ref p3, .int 0, .int 0, .int 1, .ref p4, .ref p5, .ref p6, .int 0, .ref p7, .int 0, .ref p8, .int 0, .int 0, .ref p9, .int 0, .ref p10, .int 0, .ref p11, .ref p12, .ref p13, .ref p14, .ref p15, .ref p16, .ref p17, .int 0, .int 0, .int 0, .int 0, .ref p18, .ref p19, .ref p20, .ref p21, .ref p22, .ref p23, .ref p24, .ref p25, .ref p26, .int 0, .int 0, .ref p27, .ref p28, .ref p29, .ref p30, .int 0, .int 0, .int 0, .int 0, .int 0, .int 0, .int 0, .int 0, .int 0, .int 0, .int 0, .int (-1), .int 0, .ref p31, .ref p32, .int 0, .ref p33, .ref p34, .ref p35, .ref p36, .int 0, .int (-1), .int 0, .int 0, .ref p37]))] s.heap.size = A at hD ⊢
  have hA : ∀ q : Nat, s.heap.size ≤ q → A q := fun q h => by rw [← hAe]; exact Or.inr h
  have hS : va_S A s.heap s.heap [] := va_S.rf
  have hP : va_P (dC, dI) vwCl [(p0, .inr (11, [.int 0, .int 0, .int 0, .int 1, .long 1, .ref p1, .ref p2, .int 1, .ref p3, .int 0, .int 0, .int 1, .ref p4, .ref p5, .ref p6, .int 0, .ref p7, .int 0, .ref p8, .int 0, .int 0, .ref p9, .int 0, .ref p10, .int 0, .ref p11, .ref p12, .ref p13, .ref p14, .ref p15, .ref p16, .ref p17, .int 0, .int 0, .int 0, .int 0, .ref p18, .ref p19, .ref p20, .ref p21, .ref p22, .ref p23, .ref p24, .ref p25, .ref p26, .int 0, .int 0, .ref p27, .ref p28, .ref p29, .ref p30, .int 0, .int 0, .int 0, .int 0, .int 0, .int 0, .int 0, .int 0, .int 0, .int 0, .int 0, .int (-1), .int 0, .ref p31, .ref p32, .int 0, .ref p33, .ref p34, .ref p35, .ref p36, .int 0, .int (-1), .int 0, .int 0, .ref p37]))] s.heap := hP
  have hl := lv_entry ([.ref p0]) (n := 1) (Nat.le_of_ble_eq_true rfl)
  rw [lg_entry_eq]
  generalize (lg_sl ([.ref p0]) ++ List.replicate (1 - (lg_sl ([.ref p0])).length) Slot.unset).toArray = ls at hl ⊢
  have hl : lv_has ls 1 [(0, .ref p0)] := hl
  refine lv_aload_n hx hb dX11_at_0 rfl (lv_at hl 0 rfl) ?_
  refine va_get (D := (dC, dI)) (ci := 11) (v := .int (-1)) (C := RX11) (T := TX11) (N := 76) hx hb hW iW_11 hown hK hP 0 rfl rfl 72 (by decide) (hW _ mw_189) (fun _ h9 => h9) rfl dX11_at_1 ?_
  refine W.widen (k := 0) (n := 0) (Nat.le_of_ble_eq_true rfl) (Nat.le_of_ble_eq_true rfl) ?_
  exact W.iret (v := (-1)) hx hb hr (fun t ht hW9 => ⟨⟨(-1), (), rfl, rfl, trivial⟩, hS.F ht⟩) hS.2.2 dX11_at_4

set_option maxHeartbeats 4000000 in
set_option maxRecDepth 100000 in
/-- X10_steps_0 -/
theorem c_X10_steps_0 (l : Launch) (dC : Nat → ClassId) (dI : Nat → Nat → Nat) (cI cB : ClassId) (p0 : Nat) (p1 : Nat) (p2 : Nat) (p3 : Nat) (p4 : Nat) (p5 : Nat) (p6 : Nat) (p7 : Nat) (p8 : Nat) (sz : Nat) : Met l yX10_steps (.code yX10_steps cX10_steps 1 (some .int) :: WA) ({ frames := 0, cells := 0, slots := 0, locals := 0 }) (va_Pc [.ref p0] (PB dC dI cI cB [(p0, .inr (10, [.ref p1, .ref p2, .ref p3, .ref p4, .ref p5, .ref p6, .ref p7, .ref p8, .int 0, .int 0, .int (-1)])), (p1, .inr (7, [.int 0, .int 0, .int 0, .int 1, .int 1]))] sz)) (va_Qi (fun (r : Int32) (_ : Unit) => r = 0) (fun _ _ => True) (va_A [(p0, .inr (10, [.ref p1, .ref p2, .ref p3, .ref p4, .ref p5, .ref p6, .ref p7, .ref p8, .int 0, .int 0, .int (-1)])), (p1, .inr (7, [.int 0, .int 0, .int 0, .int 1, .int 1]))] sz)) 0 0 (va_A [(p0, .inr (10, [.ref p1, .ref p2, .ref p3, .ref p4, .ref p5, .ref p6, .ref p7, .ref p8, .int 0, .int 0, .int (-1)])), (p1, .inr (7, [.int 0, .int 0, .int 0, .int 1, .int 1]))] sz) := by
  refine Met.ofW (cc := cX10_steps) (maxL := 1) (ret := (some .int)) (by decide) rfl ?_
  intro p e s m args below meth c s₁ B hml hv
  obtain ⟨rfl, hsz, hP, hK, hD0, hN⟩ := hv
  have hx := B.exec
  have hb := B.bytes
  have hr := B.returns
  have hts := atoms_spec B.pre
  have hW : ∀ w ∈ WA, w.before [.ref p0].toArray s = true := fun w h => hts w (List.mem_cons_of_mem _ h)
  have hown : s.vm.findClass RX10 = some m.cls := findClass_of_methodNamed B.named
  have hlocks := B.notSynchronized
  subst hsz
  have hD := hD0.self (sz := s.heap.size)
  generalize hAe : va_A [(p0, .inr (10, [.ref p1, .ref p2, .ref p3, .ref p4, .ref p5, .ref p6, .ref p7, .ref p8, .int 0, .int 0, .int (-1)])), (p1, .inr (7, [.int 0, .int 0, .int 0, .int 1, .int 1]))] s.heap.size = A at hD ⊢
  have hA : ∀ q : Nat, s.heap.size ≤ q → A q := fun q h => by rw [← hAe]; exact Or.inr h
  have hS : va_S A s.heap s.heap [] := va_S.rf
  have hP : va_P (dC, dI) vwCl [(p0, .inr (10, [.ref p1, .ref p2, .ref p3, .ref p4, .ref p5, .ref p6, .ref p7, .ref p8, .int 0, .int 0, .int (-1)])), (p1, .inr (7, [.int 0, .int 0, .int 0, .int 1, .int 1]))] s.heap := hP
  have hl := lv_entry ([.ref p0]) (n := 1) (Nat.le_of_ble_eq_true rfl)
  rw [lg_entry_eq]
  generalize (lg_sl ([.ref p0]) ++ List.replicate (1 - (lg_sl ([.ref p0])).length) Slot.unset).toArray = ls at hl ⊢
  have hl : lv_has ls 1 [(0, .ref p0)] := hl
  refine lv_aload_n hx hb dX10_steps_0 rfl (lv_at hl 0 rfl) ?_
  refine va_get (D := (dC, dI)) (ci := 10) (v := .ref p1) (C := RX10) (T := TX10) (N := 11) hx hb hW iW_10 hown hK hP 0 rfl rfl 0 (by decide) (hW _ mw_14) (fun _ h9 => h9) rfl dX10_steps_1 ?_
  refine va_getN (D := (dC, dI)) (ci := 7) (v := .int 0) (C := RX7) (T := TX7) (N := 5) hx hb hW iW_7 hown hK hP 1 rfl rfl 1 (by decide) (va_Nw.use rfl (hN _ mn_35)) (fun _ h9 => h9) rfl dX10_steps_4 ?_
  refine W.widen (k := 0) (n := 0) (Nat.le_of_ble_eq_true rfl) (Nat.le_of_ble_eq_true rfl) ?_
  exact W.iret (v := 0) hx hb hr (fun t ht hW9 => ⟨⟨0, (), rfl, rfl, trivial⟩, hS.F ht⟩) hS.2.2 dX10_steps_7

set_option maxHeartbeats 4000000 in
set_option maxRecDepth 100000 in
/-- X11_steps_0 -/
theorem c_X11_steps_0 (l : Launch) (dC : Nat → ClassId) (dI : Nat → Nat → Nat) (cI cB : ClassId) (p0 : Nat) (p1 : Nat) (p2 : Nat) (p3 : Nat) (p4 : Nat) (p5 : Nat) (p6 : Nat) (p7 : Nat) (p8 : Nat) (p9 : Nat) (p10 : Nat) (p11 : Nat) (p12 : Nat) (p13 : Nat) (p14 : Nat) (p15 : Nat) (p16 : Nat) (p17 : Nat) (p18 : Nat) (p19 : Nat) (p20 : Nat) (p21 : Nat) (p22 : Nat) (p23 : Nat) (p24 : Nat) (p25 : Nat) (p26 : Nat) (p27 : Nat) (p28 : Nat) (p29 : Nat) (p30 : Nat) (p31 : Nat) (p32 : Nat) (p33 : Nat) (p34 : Nat) (p35 : Nat) (p36 : Nat) (p37 : Nat) (sz : Nat) : Met l yX11_steps (.code yX11_steps cX11_steps 1 (some .int) :: WA) ({ frames := 0, cells := 0, slots := 0, locals := 0 }) (va_Pc [.ref p0] (PB dC dI cI cB [(p0, .inr (11, [.int 0, .int 0, .int 0, .int 1, .long 1, .ref p1, .ref p2, .int 1, .ref p3, .int 0, .int 0, .int 1, .ref p4, .ref p5, .ref p6, .int 0, .ref p7, .int 0, .ref p8, .int 0, .int 0, .ref p9, .int 0, .ref p10, .int 0, .ref p11, .ref p12, .ref p13, .ref p14, .ref p15, .ref p16, .ref p17, .int 0, .int 0, .int 0, .int 0, .ref p18, .ref p19, .ref p20, .ref p21, .ref p22, .ref p23, .ref p24, .ref p25, .ref p26, .int 0, .int 0, .ref p27, .ref p28, .ref p29, .ref p30, .int 0, .int 0, .int 0, .int 0, .int 0, .int 0, .int 0, .int 0, .int 0, .int 0, .int 0, .int (-1), .int 0, .ref p31, .ref p32, .int 0, .ref p33, .ref p34, .ref p35, .ref p36, .int 0, .int (-1), .int 0, .int 0, .ref p37]))] sz)) (va_Qi (fun (r : Int32) (_ : Unit) => r = 0) (fun _ _ => True) (va_A [(p0, .inr (11, [.int 0, .int 0, .int 0, .int 1, .long 1, .ref p1, .ref p2, .int 1, .ref p3, .int 0, .int 0, .int 1, .ref p4, .ref p5, .ref p6, .int 0, .ref p7, .int 0, .ref p8, .int 0, .int 0, .ref p9, .int 0, .ref p10, .int 0, .ref p11, .ref p12, .ref p13, .ref p14, .ref p15, .ref p16, .ref p17, .int 0, .int 0, .int 0, .int 0, .ref p18, .ref p19, .ref p20, .ref p21, .ref p22, .ref p23, .ref p24, .ref p25, .ref p26, .int 0, .int 0, .ref p27, .ref p28, .ref p29, .ref p30, .int 0, .int 0, .int 0, .int 0, .int 0, .int 0, .int 0, .int 0, .int 0, .int 0, .int 0, .int (-1), .int 0, .ref p31, .ref p32, .int 0, .ref p33, .ref p34, .ref p35, .ref p36, .int 0, .int (-1), .int 0, .int 0, .ref p37]))] sz)) 0 0 (va_A [(p0, .inr (11, [.int 0, .int 0, .int 0, .int 1, .long 1, .ref p1, .ref p2, .int 1, .ref p3, .int 0, .int 0, .int 1, .ref p4, .ref p5, .ref p6, .int 0, .ref p7, .int 0, .ref p8, .int 0, .int 0, .ref p9, .int 0, .ref p10, .int 0, .ref p11, .ref p12, .ref p13, .ref p14, .ref p15, .ref p16, .ref p17, .int 0, .int 0, .int 0, .int 0, .ref p18, .ref p19, .ref p20, .ref p21, .ref p22, .ref p23, .ref p24, .ref p25, .ref p26, .int 0, .int 0, .ref p27, .ref p28, .ref p29, .ref p30, .int 0, .int 0, .int 0, .int 0, .int 0, .int 0, .int 0, .int 0, .int 0, .int 0, .int 0, .int (-1), .int 0, .ref p31, .ref p32, .int 0, .ref p33, .ref p34, .ref p35, .ref p36, .int 0, .int (-1), .int 0, .int 0, .ref p37]))] sz) := by
  refine Met.ofW (cc := cX11_steps) (maxL := 1) (ret := (some .int)) (by decide) rfl ?_
  intro p e s m args below meth c s₁ B hml hv
  obtain ⟨rfl, hsz, hP, hK, hD0, hN⟩ := hv
  have hx := B.exec
  have hb := B.bytes
  have hr := B.returns
  have hts := atoms_spec B.pre
  have hW : ∀ w ∈ WA, w.before [.ref p0].toArray s = true := fun w h => hts w (List.mem_cons_of_mem _ h)
  have hown : s.vm.findClass RX11 = some m.cls := findClass_of_methodNamed B.named
  have hlocks := B.notSynchronized
  subst hsz
  have hD := hD0.self (sz := s.heap.size)
  generalize hAe : va_A [(p0, .inr (11, [.int 0, .int 0, .int 0, .int 1, .long 1, .ref p1, .ref p2, .int 1, .ref p3, .int 0, .int 0, .int 1, .ref p4, .ref p5, .ref p6, .int 0, .ref p7, .int 0, .ref p8, .int 0, .int 0, .ref p9, .int 0, .ref p10, .int 0, .ref p11, .ref p12, .ref p13, .ref p14, .ref p15, .ref p16, .ref p17, .int 0, .int 0, .int 0, .int 0, .ref p18, .ref p19, .ref p20, .ref p21, .ref p22, .ref p23, .ref p24, .ref p25, .ref p26, .int 0, .int 0, .ref p27, .ref p28, .ref p29, .ref p30, .int 0, .int 0, .int 0, .int 0, .int 0, .int 0, .int 0, .int 0, .int 0, .int 0, .int 0, .int (-1), .int 0, .ref p31, .ref p32, .int 0, .ref p33, .ref p34, .ref p35, .ref p36, .int 0, .int (-1), .int 0, .int 0, .ref p37]))] s.heap.size = A at hD ⊢
  have hA : ∀ q : Nat, s.heap.size ≤ q → A q := fun q h => by rw [← hAe]; exact Or.inr h
  have hS : va_S A s.heap s.heap [] := va_S.rf
  have hP : va_P (dC, dI) vwCl [(p0, .inr (11, [.int 0, .int 0, .int 0, .int 1, .long 1, .ref p1, .ref p2, .int 1, .ref p3, .int 0, .int 0, .int 1, .ref p4, .ref p5, .ref p6, .int 0, .ref p7, .int 0, .ref p8, .int 0, .int 0, .ref p9, .int 0, .ref p10, .int 0, .ref p11, .ref p12, .ref p13, .ref p14, .ref p15, .ref p16, .ref p17, .int 0, .int 0, .int 0, .int 0, .ref p18, .ref p19, .ref p20, .ref p21, .ref p22, .ref p23, .ref p24, .ref p25, .ref p26, .int 0, .int 0, .ref p27, .ref p28, .ref p29, .ref p30, .int 0, .int 0, .int 0, .int 0, .int 0, .int 0, .int 0, .int 0, .int 0, .int 0, .int 0, .int (-1), .int 0, .ref p31, .ref p32, .int 0, .ref p33, .ref p34, .ref p35, .ref p36, .int 0, .int (-1), .int 0, .int 0, .ref p37]))] s.heap := hP
  have hl := lv_entry ([.ref p0]) (n := 1) (Nat.le_of_ble_eq_true rfl)
  rw [lg_entry_eq]
  generalize (lg_sl ([.ref p0]) ++ List.replicate (1 - (lg_sl ([.ref p0])).length) Slot.unset).toArray = ls at hl ⊢
  have hl : lv_has ls 1 [(0, .ref p0)] := hl
  refine lv_aload_n hx hb dX11_steps_0 rfl (lv_at hl 0 rfl) ?_
  refine va_get (D := (dC, dI)) (ci := 11) (v := .int 0) (C := RX11) (T := TX11) (N := 76) hx hb hW iW_11 hown hK hP 0 rfl rfl 1 (by decide) (hW _ mw_286) (fun _ h9 => h9) rfl dX11_steps_1 ?_
  refine W.widen (k := 0) (n := 0) (Nat.le_of_ble_eq_true rfl) (Nat.le_of_ble_eq_true rfl) ?_
  exact W.iret (v := 0) hx hb hr (fun t ht hW9 => ⟨⟨0, (), rfl, rfl, trivial⟩, hS.F ht⟩) hS.2.2 dX11_steps_4

set_option maxHeartbeats 4000000 in
set_option maxRecDepth 100000 in
/-- X10_shown_0 -/
theorem c_X10_shown_0 (l : Launch) (dC : Nat → ClassId) (dI : Nat → Nat → Nat) (cI cB : ClassId) (p0 : Nat) (p1 : Nat) (p2 : Nat) (p3 : Nat) (p4 : Nat) (p5 : Nat) (p6 : Nat) (p7 : Nat) (p8 : Nat) (p9 : Nat) (sz : Nat) : Met l yX10_shown (.code yX10_shown cX10_shown 1 (some .int) :: WA) ({ frames := 0, cells := 0, slots := 0, locals := 0 }) (va_Pc [.ref p0] (PB dC dI cI cB [(p0, .inr (10, [.ref p1, .ref p2, .ref p3, .ref p4, .ref p5, .ref p6, .ref p7, .ref p8, .int 0, .int 0, .int (-1)])), (p5, .inr (9, [.ref p2, .ref p9, .int 0, .int 0]))] sz)) (va_Qi (fun (r : Int32) (_ : Unit) => r = 0) (fun _ _ => True) (va_A [(p0, .inr (10, [.ref p1, .ref p2, .ref p3, .ref p4, .ref p5, .ref p6, .ref p7, .ref p8, .int 0, .int 0, .int (-1)])), (p5, .inr (9, [.ref p2, .ref p9, .int 0, .int 0]))] sz)) 0 0 (va_A [(p0, .inr (10, [.ref p1, .ref p2, .ref p3, .ref p4, .ref p5, .ref p6, .ref p7, .ref p8, .int 0, .int 0, .int (-1)])), (p5, .inr (9, [.ref p2, .ref p9, .int 0, .int 0]))] sz) := by
  refine Met.ofW (cc := cX10_shown) (maxL := 1) (ret := (some .int)) (by decide) rfl ?_
  intro p e s m args below meth c s₁ B hml hv
  obtain ⟨rfl, hsz, hP, hK, hD0, hN⟩ := hv
  have hx := B.exec
  have hb := B.bytes
  have hr := B.returns
  have hts := atoms_spec B.pre
  have hW : ∀ w ∈ WA, w.before [.ref p0].toArray s = true := fun w h => hts w (List.mem_cons_of_mem _ h)
  have hown : s.vm.findClass RX10 = some m.cls := findClass_of_methodNamed B.named
  have hlocks := B.notSynchronized
  subst hsz
  have hD := hD0.self (sz := s.heap.size)
  generalize hAe : va_A [(p0, .inr (10, [.ref p1, .ref p2, .ref p3, .ref p4, .ref p5, .ref p6, .ref p7, .ref p8, .int 0, .int 0, .int (-1)])), (p5, .inr (9, [.ref p2, .ref p9, .int 0, .int 0]))] s.heap.size = A at hD ⊢
  have hA : ∀ q : Nat, s.heap.size ≤ q → A q := fun q h => by rw [← hAe]; exact Or.inr h
  have hS : va_S A s.heap s.heap [] := va_S.rf
  have hP : va_P (dC, dI) vwCl [(p0, .inr (10, [.ref p1, .ref p2, .ref p3, .ref p4, .ref p5, .ref p6, .ref p7, .ref p8, .int 0, .int 0, .int (-1)])), (p5, .inr (9, [.ref p2, .ref p9, .int 0, .int 0]))] s.heap := hP
  have hl := lv_entry ([.ref p0]) (n := 1) (Nat.le_of_ble_eq_true rfl)
  rw [lg_entry_eq]
  generalize (lg_sl ([.ref p0]) ++ List.replicate (1 - (lg_sl ([.ref p0])).length) Slot.unset).toArray = ls at hl ⊢
  have hl : lv_has ls 1 [(0, .ref p0)] := hl
  refine lv_aload_n hx hb dX10_shown_0 rfl (lv_at hl 0 rfl) ?_
  refine va_get (D := (dC, dI)) (ci := 10) (v := .ref p5) (C := RX10) (T := TX10) (N := 11) hx hb hW iW_10 hown hK hP 0 rfl rfl 4 (by decide) (hW _ mw_75) (fun _ h9 => h9) rfl dX10_shown_1 ?_
  refine va_getN (D := (dC, dI)) (ci := 9) (v := .int 0) (C := RX9) (T := TX9) (N := 4) hx hb hW iW_9 hown hK hP 1 rfl rfl 2 (by decide) (va_Nw.use rfl (hN _ mn_12)) (fun _ h9 => h9) rfl dX10_shown_4 ?_
  refine W.widen (k := 0) (n := 0) (Nat.le_of_ble_eq_true rfl) (Nat.le_of_ble_eq_true rfl) ?_
  exact W.iret (v := 0) hx hb hr (fun t ht hW9 => ⟨⟨0, (), rfl, rfl, trivial⟩, hS.F ht⟩) hS.2.2 dX10_shown_7

set_option maxHeartbeats 4000000 in
set_option maxRecDepth 100000 in
/-- X11_shown_0 -/
theorem c_X11_shown_0 (l : Launch) (dC : Nat → ClassId) (dI : Nat → Nat → Nat) (cI cB : ClassId) (p0 : Nat) (p1 : Nat) (p2 : Nat) (p3 : Nat) (p4 : Nat) (p5 : Nat) (p6 : Nat) (p7 : Nat) (p8 : Nat) (p9 : Nat) (p10 : Nat) (p11 : Nat) (p12 : Nat) (p13 : Nat) (p14 : Nat) (p15 : Nat) (p16 : Nat) (p17 : Nat) (p18 : Nat) (p19 : Nat) (p20 : Nat) (p21 : Nat) (p22 : Nat) (p23 : Nat) (p24 : Nat) (p25 : Nat) (p26 : Nat) (p27 : Nat) (p28 : Nat) (p29 : Nat) (p30 : Nat) (p31 : Nat) (p32 : Nat) (p33 : Nat) (p34 : Nat) (p35 : Nat) (p36 : Nat) (p37 : Nat) (sz : Nat) : Met l yX11_shown (.code yX11_shown cX11_shown 1 (some .int) :: WA) ({ frames := 0, cells := 0, slots := 0, locals := 0 }) (va_Pc [.ref p0] (PB dC dI cI cB [(p0, .inr (11, [.int 0, .int 0, .int 0, .int 1, .long 1, .ref p1, .ref p2, .int 1, .ref p3, .int 0, .int 0, .int 1, .ref p4, .ref p5, .ref p6, .int 0, .ref p7, .int 0, .ref p8, .int 0, .int 0, .ref p9, .int 0, .ref p10, .int 0, .ref p11, .ref p12, .ref p13, .ref p14, .ref p15, .ref p16, .ref p17, .int 0, .int 0, .int 0, .int 0, .ref p18, .ref p19, .ref p20, .ref p21, .ref p22, .ref p23, .ref p24, .ref p25, .ref p26, .int 0, .int 0, .ref p27, .ref p28, .ref p29, .ref p30, .int 0, .int 0, .int 0, .int 0, .int 0, .int 0, .int 0, .int 0, .int 0, .int 0, .int 0, .int (-1), .int 0, .ref p31, .ref p32, .int 0, .ref p33, .ref p34, .ref p35, .ref p36, .int 0, .int (-1), .int 0, .int 0, .ref p37]))] sz)) (va_Qi (fun (r : Int32) (_ : Unit) => r = 0) (fun _ _ => True) (va_A [(p0, .inr (11, [.int 0, .int 0, .int 0, .int 1, .long 1, .ref p1, .ref p2, .int 1, .ref p3, .int 0, .int 0, .int 1, .ref p4, .ref p5, .ref p6, .int 0, .ref p7, .int 0, .ref p8, .int 0, .int 0, .ref p9, .int 0, .ref p10, .int 0, .ref p11, .ref p12, .ref p13, .ref p14, .ref p15, .ref p16, .ref p17, .int 0, .int 0, .int 0, .int 0, .ref p18, .ref p19, .ref p20, .ref p21, .ref p22, .ref p23, .ref p24, .ref p25, .ref p26, .int 0, .int 0, .ref p27, .ref p28, .ref p29, .ref p30, .int 0, .int 0, .int 0, .int 0, .int 0, .int 0, .int 0, .int 0, .int 0, .int 0, .int 0, .int (-1), .int 0, .ref p31, .ref p32, .int 0, .ref p33, .ref p34, .ref p35, .ref p36, .int 0, .int (-1), .int 0, .int 0, .ref p37]))] sz)) 0 0 (va_A [(p0, .inr (11, [.int 0, .int 0, .int 0, .int 1, .long 1, .ref p1, .ref p2, .int 1, .ref p3, .int 0, .int 0, .int 1, .ref p4, .ref p5, .ref p6, .int 0, .ref p7, .int 0, .ref p8, .int 0, .int 0, .ref p9, .int 0, .ref p10, .int 0, .ref p11, .ref p12, .ref p13, .ref p14, .ref p15, .ref p16, .ref p17, .int 0, .int 0, .int 0, .int 0, .ref p18, .ref p19, .ref p20, .ref p21, .ref p22, .ref p23, .ref p24, .ref p25, .ref p26, .int 0, .int 0, .ref p27, .ref p28, .ref p29, .ref p30, .int 0, .int 0, .int 0, .int 0, .int 0, .int 0, .int 0, .int 0, .int 0, .int 0, .int 0, .int (-1), .int 0, .ref p31, .ref p32, .int 0, .ref p33, .ref p34, .ref p35, .ref p36, .int 0, .int (-1), .int 0, .int 0, .ref p37]))] sz) := by
  refine Met.ofW (cc := cX11_shown) (maxL := 1) (ret := (some .int)) (by decide) rfl ?_
  intro p e s m args below meth c s₁ B hml hv
  obtain ⟨rfl, hsz, hP, hK, hD0, hN⟩ := hv
  have hx := B.exec
  have hb := B.bytes
  have hr := B.returns
  have hts := atoms_spec B.pre
  have hW : ∀ w ∈ WA, w.before [.ref p0].toArray s = true := fun w h => hts w (List.mem_cons_of_mem _ h)
  have hown : s.vm.findClass RX11 = some m.cls := findClass_of_methodNamed B.named
  have hlocks := B.notSynchronized
  subst hsz
  have hD := hD0.self (sz := s.heap.size)
  generalize hAe : va_A [(p0, .inr (11, [.int 0, .int 0, .int 0, .int 1, .long 1, .ref p1, .ref p2, .int 1, .ref p3, .int 0, .int 0, .int 1, .ref p4, .ref p5, .ref p6, .int 0, .ref p7, .int 0, .ref p8, .int 0, .int 0, .ref p9, .int 0, .ref p10, .int 0, .ref p11, .ref p12, .ref p13, .ref p14, .ref p15, .ref p16, .ref p17, .int 0, .int 0, .int 0, .int 0, .ref p18, .ref p19, .ref p20, .ref p21, .ref p22, .ref p23, .ref p24, .ref p25, .ref p26, .int 0, .int 0, .ref p27, .ref p28, .ref p29, .ref p30, .int 0, .int 0, .int 0, .int 0, .int 0, .int 0, .int 0, .int 0, .int 0, .int 0, .int 0, .int (-1), .int 0, .ref p31, .ref p32, .int 0, .ref p33, .ref p34, .ref p35, .ref p36, .int 0, .int (-1), .int 0, .int 0, .ref p37]))] s.heap.size = A at hD ⊢
  have hA : ∀ q : Nat, s.heap.size ≤ q → A q := fun q h => by rw [← hAe]; exact Or.inr h
  have hS : va_S A s.heap s.heap [] := va_S.rf
  have hP : va_P (dC, dI) vwCl [(p0, .inr (11, [.int 0, .int 0, .int 0, .int 1, .long 1, .ref p1, .ref p2, .int 1, .ref p3, .int 0, .int 0, .int 1, .ref p4, .ref p5, .ref p6, .int 0, .ref p7, .int 0, .ref p8, .int 0, .int 0, .ref p9, .int 0, .ref p10, .int 0, .ref p11, .ref p12, .ref p13, .ref p14, .ref p15, .ref p16, .ref p17, .int 0, .int 0, .int 0, .int 0, .ref p18, .ref p19, .ref p20, .ref p21, .ref p22, .ref p23, .ref p24, .ref p25, .ref p26, .int 0, .int 0, .ref p27, .ref p28, .ref p29, .ref p30, .int 0, .int 0, .int 0, .int 0, .int 0, .int 0, .int 0, .int 0, .int 0, .int 0, .int 0, .int (-1), .int 0, .ref p31, .ref p32, .int 0, .ref p33, .ref p34, .ref p35, .ref p36, .int 0, .int (-1), .int 0, .int 0, .ref p37]))] s.heap := hP
  have hl := lv_entry ([.ref p0]) (n := 1) (Nat.le_of_ble_eq_true rfl)
  rw [lg_entry_eq]
  generalize (lg_sl ([.ref p0]) ++ List.replicate (1 - (lg_sl ([.ref p0])).length) Slot.unset).toArray = ls at hl ⊢
  have hl : lv_has ls 1 [(0, .ref p0)] := hl
  refine lv_aload_n hx hb dX11_shown_0 rfl (lv_at hl 0 rfl) ?_
  refine va_get (D := (dC, dI)) (ci := 11) (v := .int 0) (C := RX11) (T := TX11) (N := 76) hx hb hW iW_11 hown hK hP 0 rfl rfl 17 (by decide) (hW _ mw_292) (fun _ h9 => h9) rfl dX11_shown_1 ?_
  refine W.widen (k := 0) (n := 0) (Nat.le_of_ble_eq_true rfl) (Nat.le_of_ble_eq_true rfl) ?_
  exact W.iret (v := 0) hx hb hr (fun t ht hW9 => ⟨⟨0, (), rfl, rfl, trivial⟩, hS.F ht⟩) hS.2.2 dX11_shown_4

set_option maxHeartbeats 4000000 in
set_option maxRecDepth 100000 in
/-- X10_byteAt_0 -/
theorem c_X10_byteAt_0 (l : Launch) (dC : Nat → ClassId) (dI : Nat → Nat → Nat) (cI cB : ClassId) (p0 : Nat) (p1 : Int32) (p2 : Nat) (p3 : Nat) (p4 : Nat) (p5 : Nat) (p6 : Nat) (p7 : Nat) (p8 : Nat) (p9 : Nat) (p10 : Nat) (sz : Nat) : Met l yX10_byteAt (.code yX10_byteAt cX10_byteAt 2 (some .int) :: WA) ({ frames := 0, cells := 0, slots := 0, locals := 0 }) (va_Pc [.ref p0, .int p1] (PB dC dI cI cB [(p0, .inr (10, [.ref p2, .ref p3, .ref p4, .ref p5, .ref p6, .ref p7, .ref p8, .ref p9, .int 0, .int 0, .int (-1)])), (p6, .inr (9, [.ref p3, .ref p10, .int 0, .int 0]))] sz)) (va_Qi (fun (r : Int32) (_ : Unit) => r = (-1)) (fun _ _ => True) (va_A [(p0, .inr (10, [.ref p2, .ref p3, .ref p4, .ref p5, .ref p6, .ref p7, .ref p8, .ref p9, .int 0, .int 0, .int (-1)])), (p6, .inr (9, [.ref p3, .ref p10, .int 0, .int 0]))] sz)) 0 0 (va_A [(p0, .inr (10, [.ref p2, .ref p3, .ref p4, .ref p5, .ref p6, .ref p7, .ref p8, .ref p9, .int 0, .int 0, .int (-1)])), (p6, .inr (9, [.ref p3, .ref p10, .int 0, .int 0]))] sz) := by
  refine Met.ofW (cc := cX10_byteAt) (maxL := 2) (ret := (some .int)) (by decide) rfl ?_
  intro p e s m args below meth c s₁ B hml hv
  obtain ⟨rfl, hsz, hP, hK, hD0, hN⟩ := hv
  have hx := B.exec
  have hb := B.bytes
  have hr := B.returns
  have hts := atoms_spec B.pre
  have hW : ∀ w ∈ WA, w.before [.ref p0, .int p1].toArray s = true := fun w h => hts w (List.mem_cons_of_mem _ h)
  have hown : s.vm.findClass RX10 = some m.cls := findClass_of_methodNamed B.named
  have hlocks := B.notSynchronized
  subst hsz
  have hD := hD0.self (sz := s.heap.size)
  generalize hAe : va_A [(p0, .inr (10, [.ref p2, .ref p3, .ref p4, .ref p5, .ref p6, .ref p7, .ref p8, .ref p9, .int 0, .int 0, .int (-1)])), (p6, .inr (9, [.ref p3, .ref p10, .int 0, .int 0]))] s.heap.size = A at hD ⊢
  have hA : ∀ q : Nat, s.heap.size ≤ q → A q := fun q h => by rw [← hAe]; exact Or.inr h
  have hS : va_S A s.heap s.heap [] := va_S.rf
  have hP : va_P (dC, dI) vwCl [(p0, .inr (10, [.ref p2, .ref p3, .ref p4, .ref p5, .ref p6, .ref p7, .ref p8, .ref p9, .int 0, .int 0, .int (-1)])), (p6, .inr (9, [.ref p3, .ref p10, .int 0, .int 0]))] s.heap := hP
  have hl := lv_entry ([.ref p0, .int p1]) (n := 2) (Nat.le_of_ble_eq_true rfl)
  rw [lg_entry_eq]
  generalize (lg_sl ([.ref p0, .int p1]) ++ List.replicate (2 - (lg_sl ([.ref p0, .int p1])).length) Slot.unset).toArray = ls at hl ⊢
  have hl : lv_has ls 2 [(0, .ref p0), (1, .int p1)] := hl
  refine lv_iload_n hx hb dX10_byteAt_0 rfl (lv_at hl 1 rfl) ?_
  refine lv_if_lt (tgt := 27) hx hb dX10_byteAt_1 (by decide) (fun c1_1 => ?_) (fun c1_1 => ?_)
  · refine lv_iconst (v := (-1)) hx hb dX10_byteAt_27 (by decide) ?_
    refine W.widen (k := 0) (n := 0) (Nat.le_of_ble_eq_true rfl) (Nat.le_of_ble_eq_true rfl) ?_
    exact W.iret (v := (-1)) hx hb hr (fun t ht hW9 => ⟨⟨(-1), (), rfl, rfl, trivial⟩, hS.F ht⟩) hS.2.2 dX10_byteAt_28
  · refine lv_iload_n hx hb dX10_byteAt_4 rfl (lv_at hl 1 rfl) ?_
    refine lv_aload_n hx hb dX10_byteAt_5 rfl (lv_at hl 0 rfl) ?_
    refine va_get (D := (dC, dI)) (ci := 10) (v := .ref p6) (C := RX10) (T := TX10) (N := 11) hx hb hW iW_10 hown hK hP 0 rfl rfl 4 (by decide) (hW _ mw_75) (fun _ h9 => h9) rfl dX10_byteAt_6 ?_
    refine va_getN (D := (dC, dI)) (ci := 9) (v := .int 0) (C := RX9) (T := TX9) (N := 4) hx hb hW iW_9 hown hK hP 1 rfl rfl 2 (by decide) (va_Nw.use rfl (hN _ mn_12)) (fun _ h9 => h9) rfl dX10_byteAt_9 ?_
    refine lv_icmp_ge (tgt := 27) hx hb dX10_byteAt_12 (by decide) (fun _ => ?_) (fun c => absurd (Int32.le_iff_toInt_le.mpr (by have k0 := f_nlt (m := 0) rfl (by decide) c1_1; have t0 : (0 : Int32).toInt = 0 := (by decide); omega)) c)
    refine lv_iconst (v := (-1)) hx hb dX10_byteAt_27 (by decide) ?_
    refine W.widen (k := 0) (n := 0) (Nat.le_of_ble_eq_true rfl) (Nat.le_of_ble_eq_true rfl) ?_
    exact W.iret (v := (-1)) hx hb hr (fun t ht hW9 => ⟨⟨(-1), (), rfl, rfl, trivial⟩, hS.F ht⟩) hS.2.2 dX10_byteAt_28

set_option maxHeartbeats 4000000 in
set_option maxRecDepth 100000 in
/-- X11_byteAt_0 -/
theorem c_X11_byteAt_0 (l : Launch) (dC : Nat → ClassId) (dI : Nat → Nat → Nat) (cI cB : ClassId) (p0 : Nat) (p1 : Int32) (p2 : Nat) (p3 : Nat) (p4 : Nat) (p5 : Nat) (p6 : Nat) (p7 : Nat) (p8 : Nat) (p9 : Nat) (p10 : Nat) (p11 : Nat) (p12 : Nat) (p13 : Nat) (p14 : Nat) (p15 : Nat) (p16 : Nat) (p17 : Nat) (p18 : Nat) (p19 : Nat) (p20 : Nat) (p21 : Nat) (p22 : Nat) (p23 : Nat) (p24 : Nat) (p25 : Nat) (p26 : Nat) (p27 : Nat) (p28 : Nat) (p29 : Nat) (p30 : Nat) (p31 : Nat) (p32 : Nat) (p33 : Nat) (p34 : Nat) (p35 : Nat) (p36 : Nat) (p37 : Nat) (p38 : Nat) (sz : Nat) : Met l yX11_byteAt (.code yX11_byteAt cX11_byteAt 2 (some .int) :: WA) ({ frames := 0, cells := 0, slots := 0, locals := 0 }) (va_Pc [.ref p0, .int p1] (PB dC dI cI cB [(p0, .inr (11, [.int 0, .int 0, .int 0, .int 1, .long 1, .ref p2, .ref p3, .int 1, .ref p4, .int 0, .int 0, .int 1, .ref p5, .ref p6, .ref p7, .int 0, .ref p8, .int 0, .ref p9, .int 0, .int 0, .ref p10, .int 0, .ref p11, .int 0, .ref p12, .ref p13, .ref p14, .ref p15, .ref p16, .ref p17, .ref p18, .int 0, .int 0, .int 0, .int 0, .ref p19, .ref p20, .ref p21, .ref p22, .ref p23, .ref p24, .ref p25, .ref p26, .ref p27, .int 0, .int 0, .ref p28, .ref p29, .ref p30, .ref p31, .int 0, .int 0, .int 0, .int 0, .int 0, .int 0, .int 0, .int 0, .int 0, .int 0, .int 0, .int (-1), .int 0, .ref p32, .ref p33, .int 0, .ref p34, .ref p35, .ref p36, .ref p37, .int 0, .int (-1), .int 0, .int 0, .ref p38]))] sz)) (va_Qi (fun (r : Int32) (_ : Unit) => r = (-1)) (fun _ _ => True) (va_A [(p0, .inr (11, [.int 0, .int 0, .int 0, .int 1, .long 1, .ref p2, .ref p3, .int 1, .ref p4, .int 0, .int 0, .int 1, .ref p5, .ref p6, .ref p7, .int 0, .ref p8, .int 0, .ref p9, .int 0, .int 0, .ref p10, .int 0, .ref p11, .int 0, .ref p12, .ref p13, .ref p14, .ref p15, .ref p16, .ref p17, .ref p18, .int 0, .int 0, .int 0, .int 0, .ref p19, .ref p20, .ref p21, .ref p22, .ref p23, .ref p24, .ref p25, .ref p26, .ref p27, .int 0, .int 0, .ref p28, .ref p29, .ref p30, .ref p31, .int 0, .int 0, .int 0, .int 0, .int 0, .int 0, .int 0, .int 0, .int 0, .int 0, .int 0, .int (-1), .int 0, .ref p32, .ref p33, .int 0, .ref p34, .ref p35, .ref p36, .ref p37, .int 0, .int (-1), .int 0, .int 0, .ref p38]))] sz)) 0 0 (va_A [(p0, .inr (11, [.int 0, .int 0, .int 0, .int 1, .long 1, .ref p2, .ref p3, .int 1, .ref p4, .int 0, .int 0, .int 1, .ref p5, .ref p6, .ref p7, .int 0, .ref p8, .int 0, .ref p9, .int 0, .int 0, .ref p10, .int 0, .ref p11, .int 0, .ref p12, .ref p13, .ref p14, .ref p15, .ref p16, .ref p17, .ref p18, .int 0, .int 0, .int 0, .int 0, .ref p19, .ref p20, .ref p21, .ref p22, .ref p23, .ref p24, .ref p25, .ref p26, .ref p27, .int 0, .int 0, .ref p28, .ref p29, .ref p30, .ref p31, .int 0, .int 0, .int 0, .int 0, .int 0, .int 0, .int 0, .int 0, .int 0, .int 0, .int 0, .int (-1), .int 0, .ref p32, .ref p33, .int 0, .ref p34, .ref p35, .ref p36, .ref p37, .int 0, .int (-1), .int 0, .int 0, .ref p38]))] sz) := by
  refine Met.ofW (cc := cX11_byteAt) (maxL := 2) (ret := (some .int)) (by decide) rfl ?_
  intro p e s m args below meth c s₁ B hml hv
  obtain ⟨rfl, hsz, hP, hK, hD0, hN⟩ := hv
  have hx := B.exec
  have hb := B.bytes
  have hr := B.returns
  have hts := atoms_spec B.pre
  have hW : ∀ w ∈ WA, w.before [.ref p0, .int p1].toArray s = true := fun w h => hts w (List.mem_cons_of_mem _ h)
  have hown : s.vm.findClass RX11 = some m.cls := findClass_of_methodNamed B.named
  have hlocks := B.notSynchronized
  subst hsz
  have hD := hD0.self (sz := s.heap.size)
  generalize hAe : va_A [(p0, .inr (11, [.int 0, .int 0, .int 0, .int 1, .long 1, .ref p2, .ref p3, .int 1, .ref p4, .int 0, .int 0, .int 1, .ref p5, .ref p6, .ref p7, .int 0, .ref p8, .int 0, .ref p9, .int 0, .int 0, .ref p10, .int 0, .ref p11, .int 0, .ref p12, .ref p13, .ref p14, .ref p15, .ref p16, .ref p17, .ref p18, .int 0, .int 0, .int 0, .int 0, .ref p19, .ref p20, .ref p21, .ref p22, .ref p23, .ref p24, .ref p25, .ref p26, .ref p27, .int 0, .int 0, .ref p28, .ref p29, .ref p30, .ref p31, .int 0, .int 0, .int 0, .int 0, .int 0, .int 0, .int 0, .int 0, .int 0, .int 0, .int 0, .int (-1), .int 0, .ref p32, .ref p33, .int 0, .ref p34, .ref p35, .ref p36, .ref p37, .int 0, .int (-1), .int 0, .int 0, .ref p38]))] s.heap.size = A at hD ⊢
  have hA : ∀ q : Nat, s.heap.size ≤ q → A q := fun q h => by rw [← hAe]; exact Or.inr h
  have hS : va_S A s.heap s.heap [] := va_S.rf
  have hP : va_P (dC, dI) vwCl [(p0, .inr (11, [.int 0, .int 0, .int 0, .int 1, .long 1, .ref p2, .ref p3, .int 1, .ref p4, .int 0, .int 0, .int 1, .ref p5, .ref p6, .ref p7, .int 0, .ref p8, .int 0, .ref p9, .int 0, .int 0, .ref p10, .int 0, .ref p11, .int 0, .ref p12, .ref p13, .ref p14, .ref p15, .ref p16, .ref p17, .ref p18, .int 0, .int 0, .int 0, .int 0, .ref p19, .ref p20, .ref p21, .ref p22, .ref p23, .ref p24, .ref p25, .ref p26, .ref p27, .int 0, .int 0, .ref p28, .ref p29, .ref p30, .ref p31, .int 0, .int 0, .int 0, .int 0, .int 0, .int 0, .int 0, .int 0, .int 0, .int 0, .int 0, .int (-1), .int 0, .ref p32, .ref p33, .int 0, .ref p34, .ref p35, .ref p36, .ref p37, .int 0, .int (-1), .int 0, .int 0, .ref p38]))] s.heap := hP
  have hl := lv_entry ([.ref p0, .int p1]) (n := 2) (Nat.le_of_ble_eq_true rfl)
  rw [lg_entry_eq]
  generalize (lg_sl ([.ref p0, .int p1]) ++ List.replicate (2 - (lg_sl ([.ref p0, .int p1])).length) Slot.unset).toArray = ls at hl ⊢
  have hl : lv_has ls 2 [(0, .ref p0), (1, .int p1)] := hl
  refine lv_iload_n hx hb dX11_byteAt_0 rfl (lv_at hl 1 rfl) ?_
  refine lv_if_lt (tgt := 21) hx hb dX11_byteAt_1 (by decide) (fun c1_1 => ?_) (fun c1_1 => ?_)
  · refine lv_iconst (v := (-1)) hx hb dX11_byteAt_21 (by decide) ?_
    refine W.widen (k := 0) (n := 0) (Nat.le_of_ble_eq_true rfl) (Nat.le_of_ble_eq_true rfl) ?_
    exact W.iret (v := (-1)) hx hb hr (fun t ht hW9 => ⟨⟨(-1), (), rfl, rfl, trivial⟩, hS.F ht⟩) hS.2.2 dX11_byteAt_22
  · refine lv_iload_n hx hb dX11_byteAt_4 rfl (lv_at hl 1 rfl) ?_
    refine lv_aload_n hx hb dX11_byteAt_5 rfl (lv_at hl 0 rfl) ?_
    refine va_get (D := (dC, dI)) (ci := 11) (v := .int 0) (C := RX11) (T := TX11) (N := 76) hx hb hW iW_11 hown hK hP 0 rfl rfl 17 (by decide) (hW _ mw_292) (fun _ h9 => h9) rfl dX11_byteAt_6 ?_
    refine lv_icmp_ge (tgt := 21) hx hb dX11_byteAt_9 (by decide) (fun _ => ?_) (fun c => absurd (Int32.le_iff_toInt_le.mpr (by have k0 := f_nlt (m := 0) rfl (by decide) c1_1; have t0 : (0 : Int32).toInt = 0 := (by decide); omega)) c)
    refine lv_iconst (v := (-1)) hx hb dX11_byteAt_21 (by decide) ?_
    refine W.widen (k := 0) (n := 0) (Nat.le_of_ble_eq_true rfl) (Nat.le_of_ble_eq_true rfl) ?_
    exact W.iret (v := (-1)) hx hb hr (fun t ht hW9 => ⟨⟨(-1), (), rfl, rfl, trivial⟩, hS.F ht⟩) hS.2.2 dX11_byteAt_22

set_option maxHeartbeats 4000000 in
set_option maxRecDepth 100000 in
/-- X10_nameOnTape_0 -/
theorem c_X10_nameOnTape_0 (l : Launch) (dC : Nat → ClassId) (dI : Nat → Nat → Nat) (cI cB : ClassId) (p0 : Nat) (p1 : Nat) (p2 : Nat) (p3 : Nat) (p4 : Nat) (p5 : Nat) (p6 : Nat) (p7 : Nat) (p8 : Nat) (sz : Nat) : Met l yX10_nameOnTape (.code yX10_nameOnTape cX10_nameOnTape 3 (some .int) :: WA) ({ frames := 0, cells := 0, slots := 0, locals := 0 }) (va_Pc [.ref p0] (PB dC dI cI cB [(p0, .inr (10, [.ref p1, .ref p2, .ref p3, .ref p4, .ref p5, .ref p6, .ref p7, .ref p8, .int 0, .int 0, .int (-1)]))] sz)) (va_Qi (fun (r : Int32) (_ : Unit) => r = (-1)) (fun (_ : Unit) t => QB dC dI cI cB [(p0, .inr (10, [.ref p1, .ref p2, .ref p3, .ref p4, .ref p5, .ref p6, .ref p7, .ref p8, .int 0, .int 0, .int (-1)]))] (va_A [(p0, .inr (10, [.ref p1, .ref p2, .ref p3, .ref p4, .ref p5, .ref p6, .ref p7, .ref p8, .int 0, .int 0, .int (-1)]))] sz) t) (va_A [(p0, .inr (10, [.ref p1, .ref p2, .ref p3, .ref p4, .ref p5, .ref p6, .ref p7, .ref p8, .int 0, .int 0, .int (-1)]))] sz)) 0 0 (va_A [(p0, .inr (10, [.ref p1, .ref p2, .ref p3, .ref p4, .ref p5, .ref p6, .ref p7, .ref p8, .int 0, .int 0, .int (-1)]))] sz) := by
  refine Met.ofW (cc := cX10_nameOnTape) (maxL := 3) (ret := (some .int)) (by decide) rfl ?_
  intro p e s m args below meth c s₁ B hml hv
  obtain ⟨rfl, hsz, hP, hK, hD0, hN⟩ := hv
  have hx := B.exec
  have hb := B.bytes
  have hr := B.returns
  have hts := atoms_spec B.pre
  have hW : ∀ w ∈ WA, w.before [.ref p0].toArray s = true := fun w h => hts w (List.mem_cons_of_mem _ h)
  have hown : s.vm.findClass RX10 = some m.cls := findClass_of_methodNamed B.named
  have hlocks := B.notSynchronized
  subst hsz
  have hD := hD0.self (sz := s.heap.size)
  generalize hAe : va_A [(p0, .inr (10, [.ref p1, .ref p2, .ref p3, .ref p4, .ref p5, .ref p6, .ref p7, .ref p8, .int 0, .int 0, .int (-1)]))] s.heap.size = A at hD ⊢
  have hA : ∀ q : Nat, s.heap.size ≤ q → A q := fun q h => by rw [← hAe]; exact Or.inr h
  have hS : va_S A s.heap s.heap [] := va_S.rf
  have hP : va_P (dC, dI) vwCl [(p0, .inr (10, [.ref p1, .ref p2, .ref p3, .ref p4, .ref p5, .ref p6, .ref p7, .ref p8, .int 0, .int 0, .int (-1)]))] s.heap := hP
  have hl := lv_entry ([.ref p0]) (n := 3) (Nat.le_of_ble_eq_true rfl)
  rw [lg_entry_eq]
  generalize (lg_sl ([.ref p0]) ++ List.replicate (3 - (lg_sl ([.ref p0])).length) Slot.unset).toArray = ls at hl ⊢
  have hl : lv_has ls 3 [(0, .ref p0)] := hl
  refine lv_aload_n hx hb dX10_nameOnTape_0 rfl (lv_at hl 0 rfl) ?_
  refine va_get (D := (dC, dI)) (ci := 10) (v := .int 0) (C := RX10) (T := TX10) (N := 11) hx hb hW iW_10 hown hK hP 0 rfl rfl 8 (by decide) (hW _ mw_194) (fun _ h9 => h9) rfl dX10_nameOnTape_1 ?_
  refine lv_istore_n (lv' := [(1, .int 0), (0, .ref p0)]) hx hb dX10_nameOnTape_4 rfl hl (by decide) rfl (fun ls hl => ?_)
  refine lv_aload_n hx hb dX10_nameOnTape_5 rfl (lv_at hl 1 rfl) ?_
  refine lv_iconst (v := 0) hx hb dX10_nameOnTape_6 (by decide) ?_
  refine va_put (D := (dC, dI)) (ci := 10) (v := .int 0) (ty := .int) (C := RX10) (T := TX10) (N := 11) hx hb hW iW_10 tyX10 tyX10_ok nmX10 hown hK hP hD hS 0 rfl rfl 8 (by decide) (hW _ mw_194) (fun _ h9 => h9) rfl (by decide +kernel) rfl rfl (Nat.le_of_ble_eq_true rfl) dX10_nameOnTape_7 (fun H locs hP hD hS => ?_)
  have hP : va_P (dC, dI) vwCl [(p0, .inr (10, [.ref p1, .ref p2, .ref p3, .ref p4, .ref p5, .ref p6, .ref p7, .ref p8, .int 0, .int 0, .int (-1)]))] H := hP
  have hD : va_D A [(p0, .inr (10, [.ref p1, .ref p2, .ref p3, .ref p4, .ref p5, .ref p6, .ref p7, .ref p8, .int 0, .int 0, .int (-1)]))] := hD
  refine lv_iload_n hx hb dX10_nameOnTape_10 rfl (lv_at hl 0 rfl) ?_
  refine lv_iconst (v := 1) hx hb dX10_nameOnTape_11 (by decide) ?_
  refine lv_icmp_lt (tgt := 42) hx hb dX10_nameOnTape_12 (by decide) (fun _ => ?_) (fun c => absurd (by decide) c)
  refine lv_iconst (v := (-1)) hx hb dX10_nameOnTape_42 (by decide) ?_
  have hP9 := hP.sub (ws' := [(p0, .inr (10, [.ref p1, .ref p2, .ref p3, .ref p4, .ref p5, .ref p6, .ref p7, .ref p8, .int 0, .int 0, .int (-1)]))]) [0] rfl
  have hD9 := hD.sub (ws' := [(p0, .inr (10, [.ref p1, .ref p2, .ref p3, .ref p4, .ref p5, .ref p6, .ref p7, .ref p8, .int 0, .int 0, .int (-1)]))]) [0] (by decide) rfl
  refine W.widen (k := 0) (n := 0) (Nat.le_of_ble_eq_true rfl) (Nat.le_of_ble_eq_true rfl) ?_
  exact W.iret (v := (-1)) hx hb hr (fun t ht hW9 => ⟨⟨(-1), (), rfl, rfl, ⟨by rw [ht]; exact hP9, va_K.moved hW9.alike hK, hD9⟩⟩, hS.F ht⟩) hS.2.2 dX10_nameOnTape_43

set_option maxHeartbeats 4000000 in
set_option maxRecDepth 100000 in
/-- X10_view_0 -/
theorem c_X10_view_0 (l : Launch) (dC : Nat → ClassId) (dI : Nat → Nat → Nat) (cI cB : ClassId) (p0 : Nat) (p1 : Nat) (p2 : Nat) (p3 : Nat) (p4 : Nat) (p5 : Nat) (p6 : Nat) (p7 : Nat) (p8 : Nat) (sz : Nat) : Met l yX10_view (.code yX10_view cX10_view 2 (some .int) :: WA) ({ frames := 1, cells := 0, slots := 0, locals := 22 }) (va_Pc [.ref p0] (PB dC dI cI cB [(p0, .inr (10, [.ref p1, .ref p2, .ref p3, .ref p4, .ref p5, .ref p6, .ref p7, .ref p8, .int 0, .int 0, .int (-1)]))] sz)) (va_Qi (fun (r : Int32) (_ : Unit) => r = (-1)) (fun _ _ => True) (va_A [(p0, .inr (10, [.ref p1, .ref p2, .ref p3, .ref p4, .ref p5, .ref p6, .ref p7, .ref p8, .int 0, .int 0, .int (-1)]))] sz)) 0 0 (va_A [(p0, .inr (10, [.ref p1, .ref p2, .ref p3, .ref p4, .ref p5, .ref p6, .ref p7, .ref p8, .int 0, .int 0, .int (-1)]))] sz) := by
  refine Met.ofW (cc := cX10_view) (maxL := 2) (ret := (some .int)) (by decide) rfl ?_
  intro p e s m args below meth c s₁ B hml hv
  obtain ⟨rfl, hsz, hP, hK, hD0, hN⟩ := hv
  have hx := B.exec
  have hb := B.bytes
  have hr := B.returns
  have hts := atoms_spec B.pre
  have hW : ∀ w ∈ WA, w.before [.ref p0].toArray s = true := fun w h => hts w (List.mem_cons_of_mem _ h)
  have hown : s.vm.findClass RX10 = some m.cls := findClass_of_methodNamed B.named
  have hlocks := B.notSynchronized
  subst hsz
  have hD := hD0.self (sz := s.heap.size)
  generalize hAe : va_A [(p0, .inr (10, [.ref p1, .ref p2, .ref p3, .ref p4, .ref p5, .ref p6, .ref p7, .ref p8, .int 0, .int 0, .int (-1)]))] s.heap.size = A at hD ⊢
  have hA : ∀ q : Nat, s.heap.size ≤ q → A q := fun q h => by rw [← hAe]; exact Or.inr h
  have hS : va_S A s.heap s.heap [] := va_S.rf
  have hP : va_P (dC, dI) vwCl [(p0, .inr (10, [.ref p1, .ref p2, .ref p3, .ref p4, .ref p5, .ref p6, .ref p7, .ref p8, .int 0, .int 0, .int (-1)]))] s.heap := hP
  have hl := lv_entry ([.ref p0]) (n := 2) (Nat.le_of_ble_eq_true rfl)
  rw [lg_entry_eq]
  generalize (lg_sl ([.ref p0]) ++ List.replicate (2 - (lg_sl ([.ref p0])).length) Slot.unset).toArray = ls at hl ⊢
  have hl : lv_has ls 2 [(0, .ref p0)] := hl
  refine lv_aload_n hx hb dX10_view_0 rfl (lv_at hl 0 rfl) ?_
  have hPc := hP.sub (ws' := [(p0, .inr (10, [.ref p1, .ref p2, .ref p3, .ref p4, .ref p5, .ref p6, .ref p7, .ref p8, .int 0, .int 0, .int (-1)]))]) [0] rfl
  have hDc := hD.sub (ws' := [(p0, .inr (10, [.ref p1, .ref p2, .ref p3, .ref p4, .ref p5, .ref p6, .ref p7, .ref p8, .int 0, .int 0, .int (-1)]))]) [0] (by decide) rfl
  have hFc := va_free (wc := [(p0, .inr (10, [.ref p1, .ref p2, .ref p3, .ref p4, .ref p5, .ref p6, .ref p7, .ref p8, .int 0, .int 0, .int (-1)]))]) hD hS hA [0] rfl
  refine va_calli (va_runV (As := []) (rest := []) ⟨hx, hb, hml, hown, hW⟩ (c_X10_nameOnTape_0 l dC dI cI cB p0 p1 p2 p3 p4 p5 p6 p7 p8 s.heap.size) (cwV 0 hW (gV mw_357 mw_358 mw_359 mw_2 mw_356) rfl rfl rfl (by decide +kernel) ⟨Nat.le_of_ble_eq_true rfl, Nat.le_of_ble_eq_true rfl⟩) ⟨PB_blind _, va_recv hK hP (ci := 10) (q0 := 0) rfl rfl, fun U hU hW2 => ⟨rfl, PB_at hU hW2 hPc hK hDc hN⟩⟩ rfl rfl hl.1 rfl (lv_room (Nat.le_of_ble_eq_true rfl)) dX10_view_1 ⟨Nat.le_of_ble_eq_true rfl, Nat.le_of_ble_eq_true rfl⟩) hS (fun q _ h => hFc q h) hFc (fun r u t H1 locs ht hvm hw hB hz1 hk1 hS => ?_)
  have hq := hB
  obtain ⟨hP, hD⟩ := after (wr := []) (w1 := [(p0, .inr (10, [.ref p1, .ref p2, .ref p3, .ref p4, .ref p5, .ref p6, .ref p7, .ref p8, .int 0, .int 0, .int (-1)]))]) hP hD [0] [] rfl rfl (by decide) (by decide) hk1 hFc ht hq
  generalize H1 = H at hP hS ⊢
  have hP : va_P (dC, dI) vwCl [(p0, .inr (10, [.ref p1, .ref p2, .ref p3, .ref p4, .ref p5, .ref p6, .ref p7, .ref p8, .int 0, .int 0, .int (-1)]))] H := hP
  have hD : va_D A [(p0, .inr (10, [.ref p1, .ref p2, .ref p3, .ref p4, .ref p5, .ref p6, .ref p7, .ref p8, .int 0, .int 0, .int (-1)]))] := hD
  refine tp_i (-1) hw ?_
  refine lv_istore_n (lv' := [(1, .int (-1)), (0, .ref p0)]) hx hb dX10_view_4 rfl hl (by decide) rfl (fun ls hl => ?_)
  refine lv_aload_n hx hb dX10_view_5 rfl (lv_at hl 1 rfl) ?_
  refine lv_iconst (v := 0) hx hb dX10_view_6 (by decide) ?_
  refine va_put (D := (dC, dI)) (ci := 10) (v := .int 0) (ty := .int) (C := RX10) (T := TX10) (N := 11) hx hb hW iW_10 tyX10 tyX10_ok nmX10 hown hK hP hD hS 0 rfl rfl 9 (by decide) (hW _ mw_216) (fun _ h9 => h9) rfl (by decide +kernel) rfl rfl (Nat.le_of_ble_eq_true rfl) dX10_view_7 (fun H locs hP hD hS => ?_)
  have hP : va_P (dC, dI) vwCl [(p0, .inr (10, [.ref p1, .ref p2, .ref p3, .ref p4, .ref p5, .ref p6, .ref p7, .ref p8, .int 0, .int 0, .int (-1)]))] H := hP
  have hD : va_D A [(p0, .inr (10, [.ref p1, .ref p2, .ref p3, .ref p4, .ref p5, .ref p6, .ref p7, .ref p8, .int 0, .int 0, .int (-1)]))] := hD
  refine lv_iload_n hx hb dX10_view_10 rfl (lv_at hl 0 rfl) ?_
  refine lv_if_ge (tgt := 16) hx hb dX10_view_11 (by decide) (fun c => absurd c (by decide)) (fun _ => ?_)
  refine lv_iconst (v := (-1)) hx hb dX10_view_14 (by decide) ?_
  refine W.widen (k := 0) (n := 0) (Nat.le_of_ble_eq_true rfl) (Nat.le_of_ble_eq_true rfl) ?_
  exact W.iret (v := (-1)) hx hb hr (fun t ht hW9 => ⟨⟨(-1), (), rfl, rfl, trivial⟩, hS.F ht⟩) hS.2.2 dX10_view_15

set_option maxHeartbeats 4000000 in
set_option maxRecDepth 100000 in
/-- X11_taken__0 -/
theorem c_X11_taken__0 (l : Launch) (dC : Nat → ClassId) (dI : Nat → Nat → Nat) (cI cB : ClassId) (p0 : Nat) (p1 : Nat) (p2 : Nat) (p3 : Nat) (p4 : Nat) (p5 : Nat) (p6 : Nat) (p7 : Nat) (p8 : Nat) (p9 : Nat) (p10 : Nat) (p11 : Nat) (p12 : Nat) (p13 : Nat) (p14 : Nat) (p15 : Nat) (p16 : Nat) (p17 : Nat) (p18 : Nat) (p19 : Nat) (p20 : Nat) (p21 : Nat) (p22 : Nat) (p23 : Nat) (p24 : Nat) (p25 : Nat) (p26 : Nat) (p27 : Nat) (p28 : Nat) (p29 : Nat) (p30 : Nat) (p31 : Nat) (p32 : Nat) (p33 : Nat) (p34 : Nat) (p35 : Nat) (p36 : Nat) (p37 : Nat) (sz : Nat) : Met l yX11_taken_ (.code yX11_taken_ cX11_taken_ 4 (some .int) :: WA) ({ frames := 0, cells := 0, slots := 0, locals := 0 }) (va_Pc [.ref p0] (PB dC dI cI cB [(p0, .inr (11, [.int 0, .int 0, .int 0, .int 1, .long 1, .ref p1, .ref p2, .int 1, .ref p3, .int 0, .int 0, .int 1, .ref p4, .ref p5, .ref p6, .int 0, .ref p7, .int 0, .ref p8, .int 0, .int 0, .ref p9, .int 0, .ref p10, .int 0, .ref p11, .ref p12, .ref p13, .ref p14, .ref p15, .ref p16, .ref p17, .int 0, .int 0, .int 0, .int 0, .ref p18, .ref p19, .ref p20, .ref p21, .ref p22, .ref p23, .ref p24, .ref p25, .ref p26, .int 0, .int 0, .ref p27, .ref p28, .ref p29, .ref p30, .int 0, .int 0, .int 0, .int 0, .int 0, .int 0, .int 0, .int 0, .int 0, .int 0, .int 0, .int (-1), .int 0, .ref p31, .ref p32, .int 0, .ref p33, .ref p34, .ref p35, .ref p36, .int 0, .int (-1), .int 0, .int 0, .ref p37]))] sz)) (va_Qi (fun (r : Int32) (_ : Unit) => r = (-1)) (fun (_ : Unit) t => QB dC dI cI cB [(p0, .inr (11, [.int 0, .int 0, .int 0, .int 1, .long 1, .ref p1, .ref p2, .int 1, .ref p3, .int 0, .int 0, .int 1, .ref p4, .ref p5, .ref p6, .int 0, .ref p7, .int 0, .ref p8, .int 0, .int 0, .ref p9, .int 0, .ref p10, .int 0, .ref p11, .ref p12, .ref p13, .ref p14, .ref p15, .ref p16, .ref p17, .int 0, .int 0, .int 0, .int 0, .ref p18, .ref p19, .ref p20, .ref p21, .ref p22, .ref p23, .ref p24, .ref p25, .ref p26, .int 0, .int 0, .ref p27, .ref p28, .ref p29, .ref p30, .int 0, .int 0, .int 0, .int 0, .int 0, .int 0, .int 0, .int 0, .int 0, .int 0, .int 0, .int (-1), .int 0, .ref p31, .ref p32, .int 0, .ref p33, .ref p34, .ref p35, .ref p36, .int 0, .int (-1), .int 0, .int 0, .ref p37]))] (va_A [(p0, .inr (11, [.int 0, .int 0, .int 0, .int 1, .long 1, .ref p1, .ref p2, .int 1, .ref p3, .int 0, .int 0, .int 1, .ref p4, .ref p5, .ref p6, .int 0, .ref p7, .int 0, .ref p8, .int 0, .int 0, .ref p9, .int 0, .ref p10, .int 0, .ref p11, .ref p12, .ref p13, .ref p14, .ref p15, .ref p16, .ref p17, .int 0, .int 0, .int 0, .int 0, .ref p18, .ref p19, .ref p20, .ref p21, .ref p22, .ref p23, .ref p24, .ref p25, .ref p26, .int 0, .int 0, .ref p27, .ref p28, .ref p29, .ref p30, .int 0, .int 0, .int 0, .int 0, .int 0, .int 0, .int 0, .int 0, .int 0, .int 0, .int 0, .int (-1), .int 0, .ref p31, .ref p32, .int 0, .ref p33, .ref p34, .ref p35, .ref p36, .int 0, .int (-1), .int 0, .int 0, .ref p37]))] sz) t) (va_A [(p0, .inr (11, [.int 0, .int 0, .int 0, .int 1, .long 1, .ref p1, .ref p2, .int 1, .ref p3, .int 0, .int 0, .int 1, .ref p4, .ref p5, .ref p6, .int 0, .ref p7, .int 0, .ref p8, .int 0, .int 0, .ref p9, .int 0, .ref p10, .int 0, .ref p11, .ref p12, .ref p13, .ref p14, .ref p15, .ref p16, .ref p17, .int 0, .int 0, .int 0, .int 0, .ref p18, .ref p19, .ref p20, .ref p21, .ref p22, .ref p23, .ref p24, .ref p25, .ref p26, .int 0, .int 0, .ref p27, .ref p28, .ref p29, .ref p30, .int 0, .int 0, .int 0, .int 0, .int 0, .int 0, .int 0, .int 0, .int 0, .int 0, .int 0, .int (-1), .int 0, .ref p31, .ref p32, .int 0, .ref p33, .ref p34, .ref p35, .ref p36, .int 0, .int (-1), .int 0, .int 0, .ref p37]))] sz)) 0 0 (va_A [(p0, .inr (11, [.int 0, .int 0, .int 0, .int 1, .long 1, .ref p1, .ref p2, .int 1, .ref p3, .int 0, .int 0, .int 1, .ref p4, .ref p5, .ref p6, .int 0, .ref p7, .int 0, .ref p8, .int 0, .int 0, .ref p9, .int 0, .ref p10, .int 0, .ref p11, .ref p12, .ref p13, .ref p14, .ref p15, .ref p16, .ref p17, .int 0, .int 0, .int 0, .int 0, .ref p18, .ref p19, .ref p20, .ref p21, .ref p22, .ref p23, .ref p24, .ref p25, .ref p26, .int 0, .int 0, .ref p27, .ref p28, .ref p29, .ref p30, .int 0, .int 0, .int 0, .int 0, .int 0, .int 0, .int 0, .int 0, .int 0, .int 0, .int 0, .int (-1), .int 0, .ref p31, .ref p32, .int 0, .ref p33, .ref p34, .ref p35, .ref p36, .int 0, .int (-1), .int 0, .int 0, .ref p37]))] sz) := by
  refine Met.ofW (cc := cX11_taken_) (maxL := 4) (ret := (some .int)) (by decide) rfl ?_
  intro p e s m args below meth c s₁ B hml hv
  obtain ⟨rfl, hsz, hP, hK, hD0, hN⟩ := hv
  have hx := B.exec
  have hb := B.bytes
  have hr := B.returns
  have hts := atoms_spec B.pre
  have hW : ∀ w ∈ WA, w.before [.ref p0].toArray s = true := fun w h => hts w (List.mem_cons_of_mem _ h)
  have hown : s.vm.findClass RX11 = some m.cls := findClass_of_methodNamed B.named
  have hlocks := B.notSynchronized
  subst hsz
  have hD := hD0.self (sz := s.heap.size)
  generalize hAe : va_A [(p0, .inr (11, [.int 0, .int 0, .int 0, .int 1, .long 1, .ref p1, .ref p2, .int 1, .ref p3, .int 0, .int 0, .int 1, .ref p4, .ref p5, .ref p6, .int 0, .ref p7, .int 0, .ref p8, .int 0, .int 0, .ref p9, .int 0, .ref p10, .int 0, .ref p11, .ref p12, .ref p13, .ref p14, .ref p15, .ref p16, .ref p17, .int 0, .int 0, .int 0, .int 0, .ref p18, .ref p19, .ref p20, .ref p21, .ref p22, .ref p23, .ref p24, .ref p25, .ref p26, .int 0, .int 0, .ref p27, .ref p28, .ref p29, .ref p30, .int 0, .int 0, .int 0, .int 0, .int 0, .int 0, .int 0, .int 0, .int 0, .int 0, .int 0, .int (-1), .int 0, .ref p31, .ref p32, .int 0, .ref p33, .ref p34, .ref p35, .ref p36, .int 0, .int (-1), .int 0, .int 0, .ref p37]))] s.heap.size = A at hD ⊢
  have hA : ∀ q : Nat, s.heap.size ≤ q → A q := fun q h => by rw [← hAe]; exact Or.inr h
  have hS : va_S A s.heap s.heap [] := va_S.rf
  have hP : va_P (dC, dI) vwCl [(p0, .inr (11, [.int 0, .int 0, .int 0, .int 1, .long 1, .ref p1, .ref p2, .int 1, .ref p3, .int 0, .int 0, .int 1, .ref p4, .ref p5, .ref p6, .int 0, .ref p7, .int 0, .ref p8, .int 0, .int 0, .ref p9, .int 0, .ref p10, .int 0, .ref p11, .ref p12, .ref p13, .ref p14, .ref p15, .ref p16, .ref p17, .int 0, .int 0, .int 0, .int 0, .ref p18, .ref p19, .ref p20, .ref p21, .ref p22, .ref p23, .ref p24, .ref p25, .ref p26, .int 0, .int 0, .ref p27, .ref p28, .ref p29, .ref p30, .int 0, .int 0, .int 0, .int 0, .int 0, .int 0, .int 0, .int 0, .int 0, .int 0, .int 0, .int (-1), .int 0, .ref p31, .ref p32, .int 0, .ref p33, .ref p34, .ref p35, .ref p36, .int 0, .int (-1), .int 0, .int 0, .ref p37]))] s.heap := hP
  have hl := lv_entry ([.ref p0]) (n := 4) (Nat.le_of_ble_eq_true rfl)
  rw [lg_entry_eq]
  generalize (lg_sl ([.ref p0]) ++ List.replicate (4 - (lg_sl ([.ref p0])).length) Slot.unset).toArray = ls at hl ⊢
  have hl : lv_has ls 4 [(0, .ref p0)] := hl
  refine lv_aload_n hx hb dX11_taken__0 rfl (lv_at hl 0 rfl) ?_
  refine va_get (D := (dC, dI)) (ci := 11) (v := .int 0) (C := RX11) (T := TX11) (N := 76) hx hb hW iW_11 hown hK hP 0 rfl rfl 71 (by decide) (hW _ mw_203) (fun _ h9 => h9) rfl dX11_taken__1 ?_
  refine lv_istore_n (lv' := [(1, .int 0), (0, .ref p0)]) hx hb dX11_taken__4 rfl hl (by decide) rfl (fun ls hl => ?_)
  refine lv_aload_n hx hb dX11_taken__5 rfl (lv_at hl 1 rfl) ?_
  refine lv_iconst (v := 0) hx hb dX11_taken__6 (by decide) ?_
  refine va_put (D := (dC, dI)) (ci := 11) (v := .int 0) (ty := .int) (C := RX11) (T := TX11) (N := 76) hx hb hW iW_11 tyX11 tyX11_ok nmX11 hown hK hP hD hS 0 rfl rfl 71 (by decide) (hW _ mw_203) (fun _ h9 => h9) rfl (by decide +kernel) rfl rfl (Nat.le_of_ble_eq_true rfl) dX11_taken__7 (fun H locs hP hD hS => ?_)
  have hP : va_P (dC, dI) vwCl [(p0, .inr (11, [.int 0, .int 0, .int 0, .int 1, .long 1, .ref p1, .ref p2, .int 1, .ref p3, .int 0, .int 0, .int 1, .ref p4, .ref p5, .ref p6, .int 0, .ref p7, .int 0, .ref p8, .int 0, .int 0, .ref p9, .int 0, .ref p10, .int 0, .ref p11, .ref p12, .ref p13, .ref p14, .ref p15, .ref p16, .ref p17, .int 0, .int 0, .int 0, .int 0, .ref p18, .ref p19, .ref p20, .ref p21, .ref p22, .ref p23, .ref p24, .ref p25, .ref p26, .int 0, .int 0, .ref p27, .ref p28, .ref p29, .ref p30, .int 0, .int 0, .int 0, .int 0, .int 0, .int 0, .int 0, .int 0, .int 0, .int 0, .int 0, .int (-1), .int 0, .ref p31, .ref p32, .int 0, .ref p33, .ref p34, .ref p35, .ref p36, .int 0, .int (-1), .int 0, .int 0, .ref p37]))] H := hP
  have hD : va_D A [(p0, .inr (11, [.int 0, .int 0, .int 0, .int 1, .long 1, .ref p1, .ref p2, .int 1, .ref p3, .int 0, .int 0, .int 1, .ref p4, .ref p5, .ref p6, .int 0, .ref p7, .int 0, .ref p8, .int 0, .int 0, .ref p9, .int 0, .ref p10, .int 0, .ref p11, .ref p12, .ref p13, .ref p14, .ref p15, .ref p16, .ref p17, .int 0, .int 0, .int 0, .int 0, .ref p18, .ref p19, .ref p20, .ref p21, .ref p22, .ref p23, .ref p24, .ref p25, .ref p26, .int 0, .int 0, .ref p27, .ref p28, .ref p29, .ref p30, .int 0, .int 0, .int 0, .int 0, .int 0, .int 0, .int 0, .int 0, .int 0, .int 0, .int 0, .int (-1), .int 0, .ref p31, .ref p32, .int 0, .ref p33, .ref p34, .ref p35, .ref p36, .int 0, .int (-1), .int 0, .int 0, .ref p37]))] := hD
  refine lv_iload_n hx hb dX11_taken__10 rfl (lv_at hl 0 rfl) ?_
  refine lv_if_le (tgt := 36) hx hb dX11_taken__11 (by decide) (fun _ => ?_) (fun c => absurd (by decide) c)
  refine lv_iconst (v := 0) hx hb dX11_taken__36 (by decide) ?_
  refine lv_istore_n (lv' := [(2, .int 0), (1, .int 0), (0, .ref p0)]) hx hb dX11_taken__37 rfl hl (by decide) rfl (fun ls hl => ?_)
  refine lv_iconst (v := 0) hx hb dX11_taken__38 (by decide) ?_
  refine lv_istore_n (lv' := [(3, .int 0), (2, .int 0), (1, .int 0), (0, .ref p0)]) hx hb dX11_taken__39 rfl hl (by decide) rfl (fun ls hl => ?_)
  refine lv_iload_n hx hb dX11_taken__40 rfl (lv_at hl 0 rfl) ?_
  refine lv_iload_n hx hb dX11_taken__41 rfl (lv_at hl 2 rfl) ?_
  refine lv_icmp_ge (tgt := 85) hx hb dX11_taken__42 (by decide) (fun _ => ?_) (fun c => absurd (by decide) c)
  refine lv_iload_n hx hb dX11_taken__85 rfl (lv_at hl 1 rfl) ?_
  refine lv_if_ne (tgt := 91) hx hb dX11_taken__86 (by decide) (fun c => absurd (by decide) c) (fun _ => ?_)
  refine lv_iconst (v := (-1)) hx hb dX11_taken__89 (by decide) ?_
  have hP9 := hP.sub (ws' := [(p0, .inr (11, [.int 0, .int 0, .int 0, .int 1, .long 1, .ref p1, .ref p2, .int 1, .ref p3, .int 0, .int 0, .int 1, .ref p4, .ref p5, .ref p6, .int 0, .ref p7, .int 0, .ref p8, .int 0, .int 0, .ref p9, .int 0, .ref p10, .int 0, .ref p11, .ref p12, .ref p13, .ref p14, .ref p15, .ref p16, .ref p17, .int 0, .int 0, .int 0, .int 0, .ref p18, .ref p19, .ref p20, .ref p21, .ref p22, .ref p23, .ref p24, .ref p25, .ref p26, .int 0, .int 0, .ref p27, .ref p28, .ref p29, .ref p30, .int 0, .int 0, .int 0, .int 0, .int 0, .int 0, .int 0, .int 0, .int 0, .int 0, .int 0, .int (-1), .int 0, .ref p31, .ref p32, .int 0, .ref p33, .ref p34, .ref p35, .ref p36, .int 0, .int (-1), .int 0, .int 0, .ref p37]))]) [0] rfl
  have hD9 := hD.sub (ws' := [(p0, .inr (11, [.int 0, .int 0, .int 0, .int 1, .long 1, .ref p1, .ref p2, .int 1, .ref p3, .int 0, .int 0, .int 1, .ref p4, .ref p5, .ref p6, .int 0, .ref p7, .int 0, .ref p8, .int 0, .int 0, .ref p9, .int 0, .ref p10, .int 0, .ref p11, .ref p12, .ref p13, .ref p14, .ref p15, .ref p16, .ref p17, .int 0, .int 0, .int 0, .int 0, .ref p18, .ref p19, .ref p20, .ref p21, .ref p22, .ref p23, .ref p24, .ref p25, .ref p26, .int 0, .int 0, .ref p27, .ref p28, .ref p29, .ref p30, .int 0, .int 0, .int 0, .int 0, .int 0, .int 0, .int 0, .int 0, .int 0, .int 0, .int 0, .int (-1), .int 0, .ref p31, .ref p32, .int 0, .ref p33, .ref p34, .ref p35, .ref p36, .int 0, .int (-1), .int 0, .int 0, .ref p37]))]) [0] (by decide) rfl
  refine W.widen (k := 0) (n := 0) (Nat.le_of_ble_eq_true rfl) (Nat.le_of_ble_eq_true rfl) ?_
  exact W.iret (v := (-1)) hx hb hr (fun t ht hW9 => ⟨⟨(-1), (), rfl, rfl, ⟨by rw [ht]; exact hP9, va_K.moved hW9.alike hK, hD9⟩⟩, hS.F ht⟩) hS.2.2 dX11_taken__90

set_option maxHeartbeats 4000000 in
set_option maxRecDepth 100000 in
/-- X11_view_0 -/
theorem c_X11_view_0 (l : Launch) (dC : Nat → ClassId) (dI : Nat → Nat → Nat) (cI cB : ClassId) (p0 : Nat) (p1 : Nat) (p2 : Nat) (p3 : Nat) (p4 : Nat) (p5 : Nat) (p6 : Nat) (p7 : Nat) (p8 : Nat) (p9 : Nat) (p10 : Nat) (p11 : Nat) (p12 : Nat) (p13 : Nat) (p14 : Nat) (p15 : Nat) (p16 : Nat) (p17 : Nat) (p18 : Nat) (p19 : Nat) (p20 : Nat) (p21 : Nat) (p22 : Nat) (p23 : Nat) (p24 : Nat) (p25 : Nat) (p26 : Nat) (p27 : Nat) (p28 : Nat) (p29 : Nat) (p30 : Nat) (p31 : Nat) (p32 : Nat) (p33 : Nat) (p34 : Nat) (p35 : Nat) (p36 : Nat) (p37 : Nat) (sz : Nat) : Met l yX11_view (.code yX11_view cX11_view 2 (some .int) :: WA) ({ frames := 1, cells := 0, slots := 0, locals := 23 }) (va_Pc [.ref p0] (PB dC dI cI cB [(p0, .inr (11, [.int 0, .int 0, .int 0, .int 1, .long 1, .ref p1, .ref p2, .int 1, .ref p3, .int 0, .int 0, .int 1, .ref p4, .ref p5, .ref p6, .int 0, .ref p7, .int 0, .ref p8, .int 0, .int 0, .ref p9, .int 0, .ref p10, .int 0, .ref p11, .ref p12, .ref p13, .ref p14, .ref p15, .ref p16, .ref p17, .int 0, .int 0, .int 0, .int 0, .ref p18, .ref p19, .ref p20, .ref p21, .ref p22, .ref p23, .ref p24, .ref p25, .ref p26, .int 0, .int 0, .ref p27, .ref p28, .ref p29, .ref p30, .int 0, .int 0, .int 0, .int 0, .int 0, .int 0, .int 0, .int 0, .int 0, .int 0, .int 0, .int (-1), .int 0, .ref p31, .ref p32, .int 0, .ref p33, .ref p34, .ref p35, .ref p36, .int 0, .int (-1), .int 0, .int 0, .ref p37]))] sz)) (va_Qi (fun (r : Int32) (_ : Unit) => r = (-1)) (fun _ _ => True) (va_A [(p0, .inr (11, [.int 0, .int 0, .int 0, .int 1, .long 1, .ref p1, .ref p2, .int 1, .ref p3, .int 0, .int 0, .int 1, .ref p4, .ref p5, .ref p6, .int 0, .ref p7, .int 0, .ref p8, .int 0, .int 0, .ref p9, .int 0, .ref p10, .int 0, .ref p11, .ref p12, .ref p13, .ref p14, .ref p15, .ref p16, .ref p17, .int 0, .int 0, .int 0, .int 0, .ref p18, .ref p19, .ref p20, .ref p21, .ref p22, .ref p23, .ref p24, .ref p25, .ref p26, .int 0, .int 0, .ref p27, .ref p28, .ref p29, .ref p30, .int 0, .int 0, .int 0, .int 0, .int 0, .int 0, .int 0, .int 0, .int 0, .int 0, .int 0, .int (-1), .int 0, .ref p31, .ref p32, .int 0, .ref p33, .ref p34, .ref p35, .ref p36, .int 0, .int (-1), .int 0, .int 0, .ref p37]))] sz)) 0 0 (va_A [(p0, .inr (11, [.int 0, .int 0, .int 0, .int 1, .long 1, .ref p1, .ref p2, .int 1, .ref p3, .int 0, .int 0, .int 1, .ref p4, .ref p5, .ref p6, .int 0, .ref p7, .int 0, .ref p8, .int 0, .int 0, .ref p9, .int 0, .ref p10, .int 0, .ref p11, .ref p12, .ref p13, .ref p14, .ref p15, .ref p16, .ref p17, .int 0, .int 0, .int 0, .int 0, .ref p18, .ref p19, .ref p20, .ref p21, .ref p22, .ref p23, .ref p24, .ref p25, .ref p26, .int 0, .int 0, .ref p27, .ref p28, .ref p29, .ref p30, .int 0, .int 0, .int 0, .int 0, .int 0, .int 0, .int 0, .int 0, .int 0, .int 0, .int 0, .int (-1), .int 0, .ref p31, .ref p32, .int 0, .ref p33, .ref p34, .ref p35, .ref p36, .int 0, .int (-1), .int 0, .int 0, .ref p37]))] sz) := by
  refine Met.ofW (cc := cX11_view) (maxL := 2) (ret := (some .int)) (by decide) rfl ?_
  intro p e s m args below meth c s₁ B hml hv
  obtain ⟨rfl, hsz, hP, hK, hD0, hN⟩ := hv
  have hx := B.exec
  have hb := B.bytes
  have hr := B.returns
  have hts := atoms_spec B.pre
  have hW : ∀ w ∈ WA, w.before [.ref p0].toArray s = true := fun w h => hts w (List.mem_cons_of_mem _ h)
  have hown : s.vm.findClass RX11 = some m.cls := findClass_of_methodNamed B.named
  have hlocks := B.notSynchronized
  subst hsz
  have hD := hD0.self (sz := s.heap.size)
  generalize hAe : va_A [(p0, .inr (11, [.int 0, .int 0, .int 0, .int 1, .long 1, .ref p1, .ref p2, .int 1, .ref p3, .int 0, .int 0, .int 1, .ref p4, .ref p5, .ref p6, .int 0, .ref p7, .int 0, .ref p8, .int 0, .int 0, .ref p9, .int 0, .ref p10, .int 0, .ref p11, .ref p12, .ref p13, .ref p14, .ref p15, .ref p16, .ref p17, .int 0, .int 0, .int 0, .int 0, .ref p18, .ref p19, .ref p20, .ref p21, .ref p22, .ref p23, .ref p24, .ref p25, .ref p26, .int 0, .int 0, .ref p27, .ref p28, .ref p29, .ref p30, .int 0, .int 0, .int 0, .int 0, .int 0, .int 0, .int 0, .int 0, .int 0, .int 0, .int 0, .int (-1), .int 0, .ref p31, .ref p32, .int 0, .ref p33, .ref p34, .ref p35, .ref p36, .int 0, .int (-1), .int 0, .int 0, .ref p37]))] s.heap.size = A at hD ⊢
  have hA : ∀ q : Nat, s.heap.size ≤ q → A q := fun q h => by rw [← hAe]; exact Or.inr h
  have hS : va_S A s.heap s.heap [] := va_S.rf
  have hP : va_P (dC, dI) vwCl [(p0, .inr (11, [.int 0, .int 0, .int 0, .int 1, .long 1, .ref p1, .ref p2, .int 1, .ref p3, .int 0, .int 0, .int 1, .ref p4, .ref p5, .ref p6, .int 0, .ref p7, .int 0, .ref p8, .int 0, .int 0, .ref p9, .int 0, .ref p10, .int 0, .ref p11, .ref p12, .ref p13, .ref p14, .ref p15, .ref p16, .ref p17, .int 0, .int 0, .int 0, .int 0, .ref p18, .ref p19, .ref p20, .ref p21, .ref p22, .ref p23, .ref p24, .ref p25, .ref p26, .int 0, .int 0, .ref p27, .ref p28, .ref p29, .ref p30, .int 0, .int 0, .int 0, .int 0, .int 0, .int 0, .int 0, .int 0, .int 0, .int 0, .int 0, .int (-1), .int 0, .ref p31, .ref p32, .int 0, .ref p33, .ref p34, .ref p35, .ref p36, .int 0, .int (-1), .int 0, .int 0, .ref p37]))] s.heap := hP
  have hl := lv_entry ([.ref p0]) (n := 2) (Nat.le_of_ble_eq_true rfl)
  rw [lg_entry_eq]
  generalize (lg_sl ([.ref p0]) ++ List.replicate (2 - (lg_sl ([.ref p0])).length) Slot.unset).toArray = ls at hl ⊢
  have hl : lv_has ls 2 [(0, .ref p0)] := hl
  refine lv_aload_n hx hb dX11_view_0 rfl (lv_at hl 0 rfl) ?_
  refine lv_iconst (v := 0) hx hb dX11_view_1 (by decide) ?_
  refine va_put (D := (dC, dI)) (ci := 11) (v := .int 0) (ty := .int) (C := RX11) (T := TX11) (N := 76) hx hb hW iW_11 tyX11 tyX11_ok nmX11 hown hK hP hD hS 0 rfl rfl 74 (by decide) (hW _ mw_293) (fun _ h9 => h9) rfl (by decide +kernel) rfl rfl (Nat.le_of_ble_eq_true rfl) dX11_view_2 (fun H locs hP hD hS => ?_)
  have hP : va_P (dC, dI) vwCl [(p0, .inr (11, [.int 0, .int 0, .int 0, .int 1, .long 1, .ref p1, .ref p2, .int 1, .ref p3, .int 0, .int 0, .int 1, .ref p4, .ref p5, .ref p6, .int 0, .ref p7, .int 0, .ref p8, .int 0, .int 0, .ref p9, .int 0, .ref p10, .int 0, .ref p11, .ref p12, .ref p13, .ref p14, .ref p15, .ref p16, .ref p17, .int 0, .int 0, .int 0, .int 0, .ref p18, .ref p19, .ref p20, .ref p21, .ref p22, .ref p23, .ref p24, .ref p25, .ref p26, .int 0, .int 0, .ref p27, .ref p28, .ref p29, .ref p30, .int 0, .int 0, .int 0, .int 0, .int 0, .int 0, .int 0, .int 0, .int 0, .int 0, .int 0, .int (-1), .int 0, .ref p31, .ref p32, .int 0, .ref p33, .ref p34, .ref p35, .ref p36, .int 0, .int (-1), .int 0, .int 0, .ref p37]))] H := hP
  have hD : va_D A [(p0, .inr (11, [.int 0, .int 0, .int 0, .int 1, .long 1, .ref p1, .ref p2, .int 1, .ref p3, .int 0, .int 0, .int 1, .ref p4, .ref p5, .ref p6, .int 0, .ref p7, .int 0, .ref p8, .int 0, .int 0, .ref p9, .int 0, .ref p10, .int 0, .ref p11, .ref p12, .ref p13, .ref p14, .ref p15, .ref p16, .ref p17, .int 0, .int 0, .int 0, .int 0, .ref p18, .ref p19, .ref p20, .ref p21, .ref p22, .ref p23, .ref p24, .ref p25, .ref p26, .int 0, .int 0, .ref p27, .ref p28, .ref p29, .ref p30, .int 0, .int 0, .int 0, .int 0, .int 0, .int 0, .int 0, .int 0, .int 0, .int 0, .int 0, .int (-1), .int 0, .ref p31, .ref p32, .int 0, .ref p33, .ref p34, .ref p35, .ref p36, .int 0, .int (-1), .int 0, .int 0, .ref p37]))] := hD
  refine lv_aload_n hx hb dX11_view_5 rfl (lv_at hl 0 rfl) ?_
  have hPc := hP.sub (ws' := [(p0, .inr (11, [.int 0, .int 0, .int 0, .int 1, .long 1, .ref p1, .ref p2, .int 1, .ref p3, .int 0, .int 0, .int 1, .ref p4, .ref p5, .ref p6, .int 0, .ref p7, .int 0, .ref p8, .int 0, .int 0, .ref p9, .int 0, .ref p10, .int 0, .ref p11, .ref p12, .ref p13, .ref p14, .ref p15, .ref p16, .ref p17, .int 0, .int 0, .int 0, .int 0, .ref p18, .ref p19, .ref p20, .ref p21, .ref p22, .ref p23, .ref p24, .ref p25, .ref p26, .int 0, .int 0, .ref p27, .ref p28, .ref p29, .ref p30, .int 0, .int 0, .int 0, .int 0, .int 0, .int 0, .int 0, .int 0, .int 0, .int 0, .int 0, .int (-1), .int 0, .ref p31, .ref p32, .int 0, .ref p33, .ref p34, .ref p35, .ref p36, .int 0, .int (-1), .int 0, .int 0, .ref p37]))]) [0] rfl
  have hDc := hD.sub (ws' := [(p0, .inr (11, [.int 0, .int 0, .int 0, .int 1, .long 1, .ref p1, .ref p2, .int 1, .ref p3, .int 0, .int 0, .int 1, .ref p4, .ref p5, .ref p6, .int 0, .ref p7, .int 0, .ref p8, .int 0, .int 0, .ref p9, .int 0, .ref p10, .int 0, .ref p11, .ref p12, .ref p13, .ref p14, .ref p15, .ref p16, .ref p17, .int 0, .int 0, .int 0, .int 0, .ref p18, .ref p19, .ref p20, .ref p21, .ref p22, .ref p23, .ref p24, .ref p25, .ref p26, .int 0, .int 0, .ref p27, .ref p28, .ref p29, .ref p30, .int 0, .int 0, .int 0, .int 0, .int 0, .int 0, .int 0, .int 0, .int 0, .int 0, .int 0, .int (-1), .int 0, .ref p31, .ref p32, .int 0, .ref p33, .ref p34, .ref p35, .ref p36, .int 0, .int (-1), .int 0, .int 0, .ref p37]))]) [0] (by decide) rfl
  have hFc := va_free (wc := [(p0, .inr (11, [.int 0, .int 0, .int 0, .int 1, .long 1, .ref p1, .ref p2, .int 1, .ref p3, .int 0, .int 0, .int 1, .ref p4, .ref p5, .ref p6, .int 0, .ref p7, .int 0, .ref p8, .int 0, .int 0, .ref p9, .int 0, .ref p10, .int 0, .ref p11, .ref p12, .ref p13, .ref p14, .ref p15, .ref p16, .ref p17, .int 0, .int 0, .int 0, .int 0, .ref p18, .ref p19, .ref p20, .ref p21, .ref p22, .ref p23, .ref p24, .ref p25, .ref p26, .int 0, .int 0, .ref p27, .ref p28, .ref p29, .ref p30, .int 0, .int 0, .int 0, .int 0, .int 0, .int 0, .int 0, .int 0, .int 0, .int 0, .int 0, .int (-1), .int 0, .ref p31, .ref p32, .int 0, .ref p33, .ref p34, .ref p35, .ref p36, .int 0, .int (-1), .int 0, .int 0, .ref p37]))]) hD hS hA [0] rfl
  refine va_calli (va_runV (As := []) (rest := []) ⟨hx, hb, hml, hown, hW⟩ (c_X11_taken__0 l dC dI cI cB p0 p1 p2 p3 p4 p5 p6 p7 p8 p9 p10 p11 p12 p13 p14 p15 p16 p17 p18 p19 p20 p21 p22 p23 p24 p25 p26 p27 p28 p29 p30 p31 p32 p33 p34 p35 p36 p37 H.size) (cwV 0 hW (gV mw_365 mw_366 mw_367 mw_142 mw_364) rfl rfl rfl (by decide +kernel) ⟨Nat.le_of_ble_eq_true rfl, Nat.le_of_ble_eq_true rfl⟩) ⟨PB_blind _, va_recv hK hP (ci := 11) (q0 := 0) rfl rfl, fun U hU hW2 => ⟨rfl, PB_at hU hW2 hPc hK hDc hN⟩⟩ rfl rfl hl.1 rfl (lv_room (Nat.le_of_ble_eq_true rfl)) dX11_view_6 ⟨Nat.le_of_ble_eq_true rfl, Nat.le_of_ble_eq_true rfl⟩) hS (fun q _ h => hFc q h) hFc (fun r u t H1 locs ht hvm hw hB hz1 hk1 hS => ?_)
  have hq := hB
  obtain ⟨hP, hD⟩ := after (wr := []) (w1 := [(p0, .inr (11, [.int 0, .int 0, .int 0, .int 1, .long 1, .ref p1, .ref p2, .int 1, .ref p3, .int 0, .int 0, .int 1, .ref p4, .ref p5, .ref p6, .int 0, .ref p7, .int 0, .ref p8, .int 0, .int 0, .ref p9, .int 0, .ref p10, .int 0, .ref p11, .ref p12, .ref p13, .ref p14, .ref p15, .ref p16, .ref p17, .int 0, .int 0, .int 0, .int 0, .ref p18, .ref p19, .ref p20, .ref p21, .ref p22, .ref p23, .ref p24, .ref p25, .ref p26, .int 0, .int 0, .ref p27, .ref p28, .ref p29, .ref p30, .int 0, .int 0, .int 0, .int 0, .int 0, .int 0, .int 0, .int 0, .int 0, .int 0, .int 0, .int (-1), .int 0, .ref p31, .ref p32, .int 0, .ref p33, .ref p34, .ref p35, .ref p36, .int 0, .int (-1), .int 0, .int 0, .ref p37]))]) hP hD [0] [] rfl rfl (by decide) (by decide) hk1 hFc ht hq
  generalize H1 = H at hP hS ⊢
  have hP : va_P (dC, dI) vwCl [(p0, .inr (11, [.int 0, .int 0, .int 0, .int 1, .long 1, .ref p1, .ref p2, .int 1, .ref p3, .int 0, .int 0, .int 1, .ref p4, .ref p5, .ref p6, .int 0, .ref p7, .int 0, .ref p8, .int 0, .int 0, .ref p9, .int 0, .ref p10, .int 0, .ref p11, .ref p12, .ref p13, .ref p14, .ref p15, .ref p16, .ref p17, .int 0, .int 0, .int 0, .int 0, .ref p18, .ref p19, .ref p20, .ref p21, .ref p22, .ref p23, .ref p24, .ref p25, .ref p26, .int 0, .int 0, .ref p27, .ref p28, .ref p29, .ref p30, .int 0, .int 0, .int 0, .int 0, .int 0, .int 0, .int 0, .int 0, .int 0, .int 0, .int 0, .int (-1), .int 0, .ref p31, .ref p32, .int 0, .ref p33, .ref p34, .ref p35, .ref p36, .int 0, .int (-1), .int 0, .int 0, .ref p37]))] H := hP
  have hD : va_D A [(p0, .inr (11, [.int 0, .int 0, .int 0, .int 1, .long 1, .ref p1, .ref p2, .int 1, .ref p3, .int 0, .int 0, .int 1, .ref p4, .ref p5, .ref p6, .int 0, .ref p7, .int 0, .ref p8, .int 0, .int 0, .ref p9, .int 0, .ref p10, .int 0, .ref p11, .ref p12, .ref p13, .ref p14, .ref p15, .ref p16, .ref p17, .int 0, .int 0, .int 0, .int 0, .ref p18, .ref p19, .ref p20, .ref p21, .ref p22, .ref p23, .ref p24, .ref p25, .ref p26, .int 0, .int 0, .ref p27, .ref p28, .ref p29, .ref p30, .int 0, .int 0, .int 0, .int 0, .int 0, .int 0, .int 0, .int 0, .int 0, .int 0, .int 0, .int (-1), .int 0, .ref p31, .ref p32, .int 0, .ref p33, .ref p34, .ref p35, .ref p36, .int 0, .int (-1), .int 0, .int 0, .ref p37]))] := hD
  refine tp_i (-1) hw ?_
  refine lv_istore_n (lv' := [(1, .int (-1)), (0, .ref p0)]) hx hb dX11_view_9 rfl hl (by decide) rfl (fun ls hl => ?_)
  refine lv_iload_n hx hb dX11_view_10 rfl (lv_at hl 0 rfl) ?_
  refine lv_iconst (v := (-1)) hx hb dX11_view_11 (by decide) ?_
  refine lv_icmp_ne (tgt := 17) hx hb dX11_view_12 (by decide) (fun c => absurd (by decide) c) (fun _ => ?_)
  refine lv_iconst (v := (-1)) hx hb dX11_view_15 (by decide) ?_
  refine W.widen (k := 0) (n := 0) (Nat.le_of_ble_eq_true rfl) (Nat.le_of_ble_eq_true rfl) ?_
  exact W.iret (v := (-1)) hx hb hr (fun t ht hW9 => ⟨⟨(-1), (), rfl, rfl, trivial⟩, hS.F ht⟩) hS.2.2 dX11_view_16

set_option maxHeartbeats 4000000 in
set_option maxRecDepth 100000 in
/-- X10_viewed_0 -/
theorem c_X10_viewed_0 (l : Launch) (dC : Nat → ClassId) (dI : Nat → Nat → Nat) (cI cB : ClassId) (p0 : Nat) (p1 : Nat) (p2 : Nat) (p3 : Nat) (p4 : Nat) (p5 : Nat) (p6 : Nat) (p7 : Nat) (p8 : Nat) (sz : Nat) : Met l yX10_viewed (.code yX10_viewed cX10_viewed 1 (some .int) :: WA) ({ frames := 0, cells := 0, slots := 0, locals := 0 }) (va_Pc [.ref p0] (PB dC dI cI cB [(p0, .inr (10, [.ref p1, .ref p2, .ref p3, .ref p4, .ref p5, .ref p6, .ref p7, .ref p8, .int 0, .int 0, .int (-1)]))] sz)) (va_Qi (fun (r : Int32) (_ : Unit) => r = 0) (fun (_ : Unit) t => QB dC dI cI cB [(p0, .inr (10, [.ref p1, .ref p2, .ref p3, .ref p4, .ref p5, .ref p6, .ref p7, .ref p8, .int 0, .int 0, .int (-1)]))] (va_A [(p0, .inr (10, [.ref p1, .ref p2, .ref p3, .ref p4, .ref p5, .ref p6, .ref p7, .ref p8, .int 0, .int 0, .int (-1)]))] sz) t) (va_A [(p0, .inr (10, [.ref p1, .ref p2, .ref p3, .ref p4, .ref p5, .ref p6, .ref p7, .ref p8, .int 0, .int 0, .int (-1)]))] sz)) 0 0 (va_A [(p0, .inr (10, [.ref p1, .ref p2, .ref p3, .ref p4, .ref p5, .ref p6, .ref p7, .ref p8, .int 0, .int 0, .int (-1)]))] sz) := by
  refine Met.ofW (cc := cX10_viewed) (maxL := 1) (ret := (some .int)) (by decide) rfl ?_
  intro p e s m args below meth c s₁ B hml hv
  obtain ⟨rfl, hsz, hP, hK, hD0, hN⟩ := hv
  have hx := B.exec
  have hb := B.bytes
  have hr := B.returns
  have hts := atoms_spec B.pre
  have hW : ∀ w ∈ WA, w.before [.ref p0].toArray s = true := fun w h => hts w (List.mem_cons_of_mem _ h)
  have hown : s.vm.findClass RX10 = some m.cls := findClass_of_methodNamed B.named
  have hlocks := B.notSynchronized
  subst hsz
  have hD := hD0.self (sz := s.heap.size)
  generalize hAe : va_A [(p0, .inr (10, [.ref p1, .ref p2, .ref p3, .ref p4, .ref p5, .ref p6, .ref p7, .ref p8, .int 0, .int 0, .int (-1)]))] s.heap.size = A at hD ⊢
  have hA : ∀ q : Nat, s.heap.size ≤ q → A q := fun q h => by rw [← hAe]; exact Or.inr h
  have hS : va_S A s.heap s.heap [] := va_S.rf
  have hP : va_P (dC, dI) vwCl [(p0, .inr (10, [.ref p1, .ref p2, .ref p3, .ref p4, .ref p5, .ref p6, .ref p7, .ref p8, .int 0, .int 0, .int (-1)]))] s.heap := hP
  have hl := lv_entry ([.ref p0]) (n := 1) (Nat.le_of_ble_eq_true rfl)
  rw [lg_entry_eq]
  generalize (lg_sl ([.ref p0]) ++ List.replicate (1 - (lg_sl ([.ref p0])).length) Slot.unset).toArray = ls at hl ⊢
  have hl : lv_has ls 1 [(0, .ref p0)] := hl
  refine lv_aload_n hx hb dX10_viewed_0 rfl (lv_at hl 0 rfl) ?_
  refine va_get (D := (dC, dI)) (ci := 10) (v := .int 0) (C := RX10) (T := TX10) (N := 11) hx hb hW iW_10 hown hK hP 0 rfl rfl 9 (by decide) (hW _ mw_216) (fun _ h9 => h9) rfl dX10_viewed_1 ?_
  refine lv_if_le (tgt := 23) hx hb dX10_viewed_4 (by decide) (fun _ => ?_) (fun c => absurd (by decide) c)
  refine lv_iconst (v := 0) hx hb dX10_viewed_23 (by decide) ?_
  have hP9 := hP.sub (ws' := [(p0, .inr (10, [.ref p1, .ref p2, .ref p3, .ref p4, .ref p5, .ref p6, .ref p7, .ref p8, .int 0, .int 0, .int (-1)]))]) [0] rfl
  have hD9 := hD.sub (ws' := [(p0, .inr (10, [.ref p1, .ref p2, .ref p3, .ref p4, .ref p5, .ref p6, .ref p7, .ref p8, .int 0, .int 0, .int (-1)]))]) [0] (by decide) rfl
  refine W.widen (k := 0) (n := 0) (Nat.le_of_ble_eq_true rfl) (Nat.le_of_ble_eq_true rfl) ?_
  exact W.iret (v := 0) hx hb hr (fun t ht hW9 => ⟨⟨0, (), rfl, rfl, ⟨by rw [ht]; exact hP9, va_K.moved hW9.alike hK, hD9⟩⟩, hS.F ht⟩) hS.2.2 dX10_viewed_24

set_option maxHeartbeats 4000000 in
set_option maxRecDepth 100000 in
/-- X10_into_0 -/
theorem c_X10_into_0 (l : Launch) (dC : Nat → ClassId) (dI : Nat → Nat → Nat) (cI cB : ClassId) (p0 : Nat) (p1 : Int32) (p2 : Nat) (p3 : Nat) (p4 : Nat) (p5 : Nat) (p6 : Nat) (p7 : Nat) (p8 : Nat) (p9 : Nat) (sz : Nat) : Met l yX10_into (.code yX10_into cX10_into 3 (some .int) :: WA) ({ frames := 1, cells := 0, slots := 0, locals := 20 }) (va_Pc [.ref p0, .int p1] (PB dC dI cI cB [(p0, .inr (10, [.ref p2, .ref p3, .ref p4, .ref p5, .ref p6, .ref p7, .ref p8, .ref p9, .int 0, .int 0, .int (-1)]))] sz)) (va_Qi (fun (r : Int32) (_ : Unit) => r = (-1)) (fun _ _ => True) (va_A [(p0, .inr (10, [.ref p2, .ref p3, .ref p4, .ref p5, .ref p6, .ref p7, .ref p8, .ref p9, .int 0, .int 0, .int (-1)]))] sz)) 0 0 (va_A [(p0, .inr (10, [.ref p2, .ref p3, .ref p4, .ref p5, .ref p6, .ref p7, .ref p8, .ref p9, .int 0, .int 0, .int (-1)]))] sz) := by
  refine Met.ofW (cc := cX10_into) (maxL := 3) (ret := (some .int)) (by decide) rfl ?_
  intro p e s m args below meth c s₁ B hml hv
  obtain ⟨rfl, hsz, hP, hK, hD0, hN⟩ := hv
  have hx := B.exec
  have hb := B.bytes
  have hr := B.returns
  have hts := atoms_spec B.pre
  have hW : ∀ w ∈ WA, w.before [.ref p0, .int p1].toArray s = true := fun w h => hts w (List.mem_cons_of_mem _ h)
  have hown : s.vm.findClass RX10 = some m.cls := findClass_of_methodNamed B.named
  have hlocks := B.notSynchronized
  subst hsz
  have hD := hD0.self (sz := s.heap.size)
  generalize hAe : va_A [(p0, .inr (10, [.ref p2, .ref p3, .ref p4, .ref p5, .ref p6, .ref p7, .ref p8, .ref p9, .int 0, .int 0, .int (-1)]))] s.heap.size = A at hD ⊢
  have hA : ∀ q : Nat, s.heap.size ≤ q → A q := fun q h => by rw [← hAe]; exact Or.inr h
  have hS : va_S A s.heap s.heap [] := va_S.rf
  have hP : va_P (dC, dI) vwCl [(p0, .inr (10, [.ref p2, .ref p3, .ref p4, .ref p5, .ref p6, .ref p7, .ref p8, .ref p9, .int 0, .int 0, .int (-1)]))] s.heap := hP
  have hl := lv_entry ([.ref p0, .int p1]) (n := 3) (Nat.le_of_ble_eq_true rfl)
  rw [lg_entry_eq]
  generalize (lg_sl ([.ref p0, .int p1]) ++ List.replicate (3 - (lg_sl ([.ref p0, .int p1])).length) Slot.unset).toArray = ls at hl ⊢
  have hl : lv_has ls 3 [(0, .ref p0), (1, .int p1)] := hl
  refine lv_aload_n hx hb dX10_into_0 rfl (lv_at hl 0 rfl) ?_
  have hPc := hP.sub (ws' := [(p0, .inr (10, [.ref p2, .ref p3, .ref p4, .ref p5, .ref p6, .ref p7, .ref p8, .ref p9, .int 0, .int 0, .int (-1)]))]) [0] rfl
  have hDc := hD.sub (ws' := [(p0, .inr (10, [.ref p2, .ref p3, .ref p4, .ref p5, .ref p6, .ref p7, .ref p8, .ref p9, .int 0, .int 0, .int (-1)]))]) [0] (by decide) rfl
  have hFc := va_free (wc := [(p0, .inr (10, [.ref p2, .ref p3, .ref p4, .ref p5, .ref p6, .ref p7, .ref p8, .ref p9, .int 0, .int 0, .int (-1)]))]) hD hS hA [0] rfl
  refine va_calli (va_runV (As := []) (rest := []) ⟨hx, hb, hml, hown, hW⟩ (c_X10_viewed_0 l dC dI cI cB p0 p2 p3 p4 p5 p6 p7 p8 p9 s.heap.size) (cwV 0 hW (gV mw_373 mw_374 mw_375 mw_2 mw_372) rfl rfl rfl (by decide +kernel) ⟨Nat.le_of_ble_eq_true rfl, Nat.le_of_ble_eq_true rfl⟩) ⟨PB_blind _, va_recv hK hP (ci := 10) (q0 := 0) rfl rfl, fun U hU hW2 => ⟨rfl, PB_at hU hW2 hPc hK hDc hN⟩⟩ rfl rfl hl.1 rfl (lv_room (Nat.le_of_ble_eq_true rfl)) dX10_into_1 ⟨Nat.le_of_ble_eq_true rfl, Nat.le_of_ble_eq_true rfl⟩) hS (fun q _ h => hFc q h) hFc (fun r u t H1 locs ht hvm hw hB hz1 hk1 hS => ?_)
  have hq := hB
  obtain ⟨hP, hD⟩ := after (wr := []) (w1 := [(p0, .inr (10, [.ref p2, .ref p3, .ref p4, .ref p5, .ref p6, .ref p7, .ref p8, .ref p9, .int 0, .int 0, .int (-1)]))]) hP hD [0] [] rfl rfl (by decide) (by decide) hk1 hFc ht hq
  generalize H1 = H at hP hS ⊢
  have hP : va_P (dC, dI) vwCl [(p0, .inr (10, [.ref p2, .ref p3, .ref p4, .ref p5, .ref p6, .ref p7, .ref p8, .ref p9, .int 0, .int 0, .int (-1)]))] H := hP
  have hD : va_D A [(p0, .inr (10, [.ref p2, .ref p3, .ref p4, .ref p5, .ref p6, .ref p7, .ref p8, .ref p9, .int 0, .int 0, .int (-1)]))] := hD
  refine tp_i 0 hw ?_
  refine lv_istore_n (lv' := [(2, .int 0), (0, .ref p0), (1, .int p1)]) hx hb dX10_into_4 rfl hl (by decide) rfl (fun ls hl => ?_)
  refine lv_iload_n hx hb dX10_into_5 rfl (lv_at hl 0 rfl) ?_
  refine lv_if_eq (tgt := 38) hx hb dX10_into_6 (by decide) (fun _ => ?_) (fun c => absurd (by decide) c)
  refine lv_iconst (v := (-1)) hx hb dX10_into_38 (by decide) ?_
  refine W.widen (k := 0) (n := 0) (Nat.le_of_ble_eq_true rfl) (Nat.le_of_ble_eq_true rfl) ?_
  exact W.iret (v := (-1)) hx hb hr (fun t ht hW9 => ⟨⟨(-1), (), rfl, rfl, trivial⟩, hS.F ht⟩) hS.2.2 dX10_into_39

set_option maxHeartbeats 4000000 in
set_option maxRecDepth 100000 in
/-- X11_into_0 -/
theorem c_X11_into_0 (l : Launch) (dC : Nat → ClassId) (dI : Nat → Nat → Nat) (cI cB : ClassId) (p0 : Nat) (p1 : Int32) (p2 : Nat) (p3 : Nat) (p4 : Nat) (p5 : Nat) (p6 : Nat) (p7 : Nat) (p8 : Nat) (p9 : Nat) (p10 : Nat) (p11 : Nat) (p12 : Nat) (p13 : Nat) (p14 : Nat) (p15 : Nat) (p16 : Nat) (p17 : Nat) (p18 : Nat) (p19 : Nat) (p20 : Nat) (p21 : Nat) (p22 : Nat) (p23 : Nat) (p24 : Nat) (p25 : Nat) (p26 : Nat) (p27 : Nat) (p28 : Nat) (p29 : Nat) (p30 : Nat) (p31 : Nat) (p32 : Nat) (p33 : Nat) (p34 : Nat) (p35 : Nat) (p36 : Nat) (p37 : Nat) (p38 : Nat) (sz : Nat) : Met l yX11_into (.code yX11_into cX11_into 2 (some .int) :: WA) ({ frames := 0, cells := 0, slots := 0, locals := 0 }) (va_Pc [.ref p0, .int p1] (PB dC dI cI cB [(p0, .inr (11, [.int 0, .int 0, .int 0, .int 1, .long 1, .ref p2, .ref p3, .int 1, .ref p4, .int 0, .int 0, .int 1, .ref p5, .ref p6, .ref p7, .int 0, .ref p8, .int 0, .ref p9, .int 0, .int 0, .ref p10, .int 0, .ref p11, .int 0, .ref p12, .ref p13, .ref p14, .ref p15, .ref p16, .ref p17, .ref p18, .int 0, .int 0, .int 0, .int 0, .ref p19, .ref p20, .ref p21, .ref p22, .ref p23, .ref p24, .ref p25, .ref p26, .ref p27, .int 0, .int 0, .ref p28, .ref p29, .ref p30, .ref p31, .int 0, .int 0, .int 0, .int 0, .int 0, .int 0, .int 0, .int 0, .int 0, .int 0, .int 0, .int (-1), .int 0, .ref p32, .ref p33, .int 0, .ref p34, .ref p35, .ref p36, .ref p37, .int 0, .int (-1), .int 0, .int 0, .ref p38]))] sz)) (va_Qi (fun (r : Int32) (_ : Unit) => r = (-1)) (fun _ _ => True) (va_A [(p0, .inr (11, [.int 0, .int 0, .int 0, .int 1, .long 1, .ref p2, .ref p3, .int 1, .ref p4, .int 0, .int 0, .int 1, .ref p5, .ref p6, .ref p7, .int 0, .ref p8, .int 0, .ref p9, .int 0, .int 0, .ref p10, .int 0, .ref p11, .int 0, .ref p12, .ref p13, .ref p14, .ref p15, .ref p16, .ref p17, .ref p18, .int 0, .int 0, .int 0, .int 0, .ref p19, .ref p20, .ref p21, .ref p22, .ref p23, .ref p24, .ref p25, .ref p26, .ref p27, .int 0, .int 0, .ref p28, .ref p29, .ref p30, .ref p31, .int 0, .int 0, .int 0, .int 0, .int 0, .int 0, .int 0, .int 0, .int 0, .int 0, .int 0, .int (-1), .int 0, .ref p32, .ref p33, .int 0, .ref p34, .ref p35, .ref p36, .ref p37, .int 0, .int (-1), .int 0, .int 0, .ref p38]))] sz)) 0 0 (va_A [(p0, .inr (11, [.int 0, .int 0, .int 0, .int 1, .long 1, .ref p2, .ref p3, .int 1, .ref p4, .int 0, .int 0, .int 1, .ref p5, .ref p6, .ref p7, .int 0, .ref p8, .int 0, .ref p9, .int 0, .int 0, .ref p10, .int 0, .ref p11, .int 0, .ref p12, .ref p13, .ref p14, .ref p15, .ref p16, .ref p17, .ref p18, .int 0, .int 0, .int 0, .int 0, .ref p19, .ref p20, .ref p21, .ref p22, .ref p23, .ref p24, .ref p25, .ref p26, .ref p27, .int 0, .int 0, .ref p28, .ref p29, .ref p30, .ref p31, .int 0, .int 0, .int 0, .int 0, .int 0, .int 0, .int 0, .int 0, .int 0, .int 0, .int 0, .int (-1), .int 0, .ref p32, .ref p33, .int 0, .ref p34, .ref p35, .ref p36, .ref p37, .int 0, .int (-1), .int 0, .int 0, .ref p38]))] sz) := by
  refine Met.ofW (cc := cX11_into) (maxL := 2) (ret := (some .int)) (by decide) rfl ?_
  intro p e s m args below meth c s₁ B hml hv
  obtain ⟨rfl, hsz, hP, hK, hD0, hN⟩ := hv
  have hx := B.exec
  have hb := B.bytes
  have hr := B.returns
  have hts := atoms_spec B.pre
  have hW : ∀ w ∈ WA, w.before [.ref p0, .int p1].toArray s = true := fun w h => hts w (List.mem_cons_of_mem _ h)
  have hown : s.vm.findClass RX11 = some m.cls := findClass_of_methodNamed B.named
  have hlocks := B.notSynchronized
  subst hsz
  have hD := hD0.self (sz := s.heap.size)
  generalize hAe : va_A [(p0, .inr (11, [.int 0, .int 0, .int 0, .int 1, .long 1, .ref p2, .ref p3, .int 1, .ref p4, .int 0, .int 0, .int 1, .ref p5, .ref p6, .ref p7, .int 0, .ref p8, .int 0, .ref p9, .int 0, .int 0, .ref p10, .int 0, .ref p11, .int 0, .ref p12, .ref p13, .ref p14, .ref p15, .ref p16, .ref p17, .ref p18, .int 0, .int 0, .int 0, .int 0, .ref p19, .ref p20, .ref p21, .ref p22, .ref p23, .ref p24, .ref p25, .ref p26, .ref p27, .int 0, .int 0, .ref p28, .ref p29, .ref p30, .ref p31, .int 0, .int 0, .int 0, .int 0, .int 0, .int 0, .int 0, .int 0, .int 0, .int 0, .int 0, .int (-1), .int 0, .ref p32, .ref p33, .int 0, .ref p34, .ref p35, .ref p36, .ref p37, .int 0, .int (-1), .int 0, .int 0, .ref p38]))] s.heap.size = A at hD ⊢
  have hA : ∀ q : Nat, s.heap.size ≤ q → A q := fun q h => by rw [← hAe]; exact Or.inr h
  have hS : va_S A s.heap s.heap [] := va_S.rf
  have hP : va_P (dC, dI) vwCl [(p0, .inr (11, [.int 0, .int 0, .int 0, .int 1, .long 1, .ref p2, .ref p3, .int 1, .ref p4, .int 0, .int 0, .int 1, .ref p5, .ref p6, .ref p7, .int 0, .ref p8, .int 0, .ref p9, .int 0, .int 0, .ref p10, .int 0, .ref p11, .int 0, .ref p12, .ref p13, .ref p14, .ref p15, .ref p16, .ref p17, .ref p18, .int 0, .int 0, .int 0, .int 0, .ref p19, .ref p20, .ref p21, .ref p22, .ref p23, .ref p24, .ref p25, .ref p26, .ref p27, .int 0, .int 0, .ref p28, .ref p29, .ref p30, .ref p31, .int 0, .int 0, .int 0, .int 0, .int 0, .int 0, .int 0, .int 0, .int 0, .int 0, .int 0, .int (-1), .int 0, .ref p32, .ref p33, .int 0, .ref p34, .ref p35, .ref p36, .ref p37, .int 0, .int (-1), .int 0, .int 0, .ref p38]))] s.heap := hP
  have hl := lv_entry ([.ref p0, .int p1]) (n := 2) (Nat.le_of_ble_eq_true rfl)
  rw [lg_entry_eq]
  generalize (lg_sl ([.ref p0, .int p1]) ++ List.replicate (2 - (lg_sl ([.ref p0, .int p1])).length) Slot.unset).toArray = ls at hl ⊢
  have hl : lv_has ls 2 [(0, .ref p0), (1, .int p1)] := hl
  refine lv_aload_n hx hb dX11_into_0 rfl (lv_at hl 0 rfl) ?_
  refine va_get (D := (dC, dI)) (ci := 11) (v := .int 0) (C := RX11) (T := TX11) (N := 76) hx hb hW iW_11 hown hK hP 0 rfl rfl 74 (by decide) (hW _ mw_293) (fun _ h9 => h9) rfl dX11_into_1 ?_
  refine lv_if_eq (tgt := 35) hx hb dX11_into_4 (by decide) (fun _ => ?_) (fun c => absurd (by decide) c)
  refine lv_iconst (v := (-1)) hx hb dX11_into_35 (by decide) ?_
  refine W.widen (k := 0) (n := 0) (Nat.le_of_ble_eq_true rfl) (Nat.le_of_ble_eq_true rfl) ?_
  exact W.iret (v := (-1)) hx hb hr (fun t ht hW9 => ⟨⟨(-1), (), rfl, rfl, trivial⟩, hS.F ht⟩) hS.2.2 dX11_into_36

set_option maxHeartbeats 4000000 in
set_option maxRecDepth 100000 in
/-- X10_back_0 -/
theorem c_X10_back_0 (l : Launch) (dC : Nat → ClassId) (dI : Nat → Nat → Nat) (cI cB : ClassId) (p0 : Nat) (p1 : Nat) (p2 : Nat) (p3 : Nat) (p4 : Nat) (p5 : Nat) (p6 : Nat) (p7 : Nat) (p8 : Nat) (sz : Nat) : Met l yX10_back (.code yX10_back cX10_back 1 (some .int) :: WA) ({ frames := 0, cells := 0, slots := 0, locals := 0 }) (va_Pc [.ref p0] (PB dC dI cI cB [(p0, .inr (10, [.ref p1, .ref p2, .ref p3, .ref p4, .ref p5, .ref p6, .ref p7, .ref p8, .int 0, .int 0, .int (-1)]))] sz)) (va_Qi (fun (r : Int32) (_ : Unit) => r = (-1)) (fun _ _ => True) (va_A [(p0, .inr (10, [.ref p1, .ref p2, .ref p3, .ref p4, .ref p5, .ref p6, .ref p7, .ref p8, .int 0, .int 0, .int (-1)]))] sz)) 0 0 (va_A [(p0, .inr (10, [.ref p1, .ref p2, .ref p3, .ref p4, .ref p5, .ref p6, .ref p7, .ref p8, .int 0, .int 0, .int (-1)]))] sz) := by
  refine Met.ofW (cc := cX10_back) (maxL := 1) (ret := (some .int)) (by decide) rfl ?_
  intro p e s m args below meth c s₁ B hml hv
  obtain ⟨rfl, hsz, hP, hK, hD0, hN⟩ := hv
  have hx := B.exec
  have hb := B.bytes
  have hr := B.returns
  have hts := atoms_spec B.pre
  have hW : ∀ w ∈ WA, w.before [.ref p0].toArray s = true := fun w h => hts w (List.mem_cons_of_mem _ h)
  have hown : s.vm.findClass RX10 = some m.cls := findClass_of_methodNamed B.named
  have hlocks := B.notSynchronized
  subst hsz
  have hD := hD0.self (sz := s.heap.size)
  generalize hAe : va_A [(p0, .inr (10, [.ref p1, .ref p2, .ref p3, .ref p4, .ref p5, .ref p6, .ref p7, .ref p8, .int 0, .int 0, .int (-1)]))] s.heap.size = A at hD ⊢
  have hA : ∀ q : Nat, s.heap.size ≤ q → A q := fun q h => by rw [← hAe]; exact Or.inr h
  have hS : va_S A s.heap s.heap [] := va_S.rf
  have hP : va_P (dC, dI) vwCl [(p0, .inr (10, [.ref p1, .ref p2, .ref p3, .ref p4, .ref p5, .ref p6, .ref p7, .ref p8, .int 0, .int 0, .int (-1)]))] s.heap := hP
  have hl := lv_entry ([.ref p0]) (n := 1) (Nat.le_of_ble_eq_true rfl)
  rw [lg_entry_eq]
  generalize (lg_sl ([.ref p0]) ++ List.replicate (1 - (lg_sl ([.ref p0])).length) Slot.unset).toArray = ls at hl ⊢
  have hl : lv_has ls 1 [(0, .ref p0)] := hl
  refine lv_aload_n hx hb dX10_back_0 rfl (lv_at hl 0 rfl) ?_
  refine va_get (D := (dC, dI)) (ci := 10) (v := .int 0) (C := RX10) (T := TX10) (N := 11) hx hb hW iW_10 hown hK hP 0 rfl rfl 9 (by decide) (hW _ mw_216) (fun _ h9 => h9) rfl dX10_back_1 ?_
  refine lv_iconst (v := 2) hx hb dX10_back_4 (by decide) ?_
  refine lv_icmp_ge (tgt := 10) hx hb dX10_back_5 (by decide) (fun c => absurd c (by decide)) (fun _ => ?_)
  refine lv_iconst (v := (-1)) hx hb dX10_back_8 (by decide) ?_
  refine W.widen (k := 0) (n := 0) (Nat.le_of_ble_eq_true rfl) (Nat.le_of_ble_eq_true rfl) ?_
  exact W.iret (v := (-1)) hx hb hr (fun t ht hW9 => ⟨⟨(-1), (), rfl, rfl, trivial⟩, hS.F ht⟩) hS.2.2 dX10_back_9

set_option maxHeartbeats 4000000 in
set_option maxRecDepth 100000 in
/-- X11_back_0 -/
theorem c_X11_back_0 (l : Launch) (dC : Nat → ClassId) (dI : Nat → Nat → Nat) (cI cB : ClassId) (p0 : Nat) (p1 : Nat) (p2 : Nat) (p3 : Nat) (p4 : Nat) (p5 : Nat) (p6 : Nat) (p7 : Nat) (p8 : Nat) (p9 : Nat) (p10 : Nat) (p11 : Nat) (p12 : Nat) (p13 : Nat) (p14 : Nat) (p15 : Nat) (p16 : Nat) (p17 : Nat) (p18 : Nat) (p19 : Nat) (p20 : Nat) (p21 : Nat) (p22 : Nat) (p23 : Nat) (p24 : Nat) (p25 : Nat) (p26 : Nat) (p27 : Nat) (p28 : Nat) (p29 : Nat) (p30 : Nat) (p31 : Nat) (p32 : Nat) (p33 : Nat) (p34 : Nat) (p35 : Nat) (p36 : Nat) (p37 : Nat) (sz : Nat) : Met l yX11_back (.code yX11_back cX11_back 1 (some .int) :: WA) ({ frames := 0, cells := 0, slots := 0, locals := 0 }) (va_Pc [.ref p0] (PB dC dI cI cB [(p0, .inr (11, [.int 0, .int 0, .int 0, .int 1, .long 1, .ref p1, .ref p2, .int 1, .ref p3, .int 0, .int 0, .int 1, .ref p4, .ref p5, .ref p6, .int 0, .ref p7, .int 0, .ref p8, .int 0, .int 0, .ref p9, .int 0, .ref p10, .int 0, .ref p11, .ref p12, .ref p13, .ref p14, .ref p15, .ref p16, .ref p17, .int 0, .int 0, .int 0, .int 0, .ref p18, .ref p19, .ref p20, .ref p21, .ref p22, .ref p23, .ref p24, .ref p25, .ref p26, .int 0, .int 0, .ref p27, .ref p28, .ref p29, .ref p30, .int 0, .int 0, .int 0, .int 0, .int 0, .int 0, .int 0, .int 0, .int 0, .int 0, .int 0, .int (-1), .int 0, .ref p31, .ref p32, .int 0, .ref p33, .ref p34, .ref p35, .ref p36, .int 0, .int (-1), .int 0, .int 0, .ref p37]))] sz)) (va_Qi (fun (r : Int32) (_ : Unit) => r = (-1)) (fun _ _ => True) (va_A [(p0, .inr (11, [.int 0, .int 0, .int 0, .int 1, .long 1, .ref p1, .ref p2, .int 1, .ref p3, .int 0, .int 0, .int 1, .ref p4, .ref p5, .ref p6, .int 0, .ref p7, .int 0, .ref p8, .int 0, .int 0, .ref p9, .int 0, .ref p10, .int 0, .ref p11, .ref p12, .ref p13, .ref p14, .ref p15, .ref p16, .ref p17, .int 0, .int 0, .int 0, .int 0, .ref p18, .ref p19, .ref p20, .ref p21, .ref p22, .ref p23, .ref p24, .ref p25, .ref p26, .int 0, .int 0, .ref p27, .ref p28, .ref p29, .ref p30, .int 0, .int 0, .int 0, .int 0, .int 0, .int 0, .int 0, .int 0, .int 0, .int 0, .int 0, .int (-1), .int 0, .ref p31, .ref p32, .int 0, .ref p33, .ref p34, .ref p35, .ref p36, .int 0, .int (-1), .int 0, .int 0, .ref p37]))] sz)) 0 0 (va_A [(p0, .inr (11, [.int 0, .int 0, .int 0, .int 1, .long 1, .ref p1, .ref p2, .int 1, .ref p3, .int 0, .int 0, .int 1, .ref p4, .ref p5, .ref p6, .int 0, .ref p7, .int 0, .ref p8, .int 0, .int 0, .ref p9, .int 0, .ref p10, .int 0, .ref p11, .ref p12, .ref p13, .ref p14, .ref p15, .ref p16, .ref p17, .int 0, .int 0, .int 0, .int 0, .ref p18, .ref p19, .ref p20, .ref p21, .ref p22, .ref p23, .ref p24, .ref p25, .ref p26, .int 0, .int 0, .ref p27, .ref p28, .ref p29, .ref p30, .int 0, .int 0, .int 0, .int 0, .int 0, .int 0, .int 0, .int 0, .int 0, .int 0, .int 0, .int (-1), .int 0, .ref p31, .ref p32, .int 0, .ref p33, .ref p34, .ref p35, .ref p36, .int 0, .int (-1), .int 0, .int 0, .ref p37]))] sz) := by
  refine Met.ofW (cc := cX11_back) (maxL := 1) (ret := (some .int)) (by decide) rfl ?_
  intro p e s m args below meth c s₁ B hml hv
  obtain ⟨rfl, hsz, hP, hK, hD0, hN⟩ := hv
  have hx := B.exec
  have hb := B.bytes
  have hr := B.returns
  have hts := atoms_spec B.pre
  have hW : ∀ w ∈ WA, w.before [.ref p0].toArray s = true := fun w h => hts w (List.mem_cons_of_mem _ h)
  have hown : s.vm.findClass RX11 = some m.cls := findClass_of_methodNamed B.named
  have hlocks := B.notSynchronized
  subst hsz
  have hD := hD0.self (sz := s.heap.size)
  generalize hAe : va_A [(p0, .inr (11, [.int 0, .int 0, .int 0, .int 1, .long 1, .ref p1, .ref p2, .int 1, .ref p3, .int 0, .int 0, .int 1, .ref p4, .ref p5, .ref p6, .int 0, .ref p7, .int 0, .ref p8, .int 0, .int 0, .ref p9, .int 0, .ref p10, .int 0, .ref p11, .ref p12, .ref p13, .ref p14, .ref p15, .ref p16, .ref p17, .int 0, .int 0, .int 0, .int 0, .ref p18, .ref p19, .ref p20, .ref p21, .ref p22, .ref p23, .ref p24, .ref p25, .ref p26, .int 0, .int 0, .ref p27, .ref p28, .ref p29, .ref p30, .int 0, .int 0, .int 0, .int 0, .int 0, .int 0, .int 0, .int 0, .int 0, .int 0, .int 0, .int (-1), .int 0, .ref p31, .ref p32, .int 0, .ref p33, .ref p34, .ref p35, .ref p36, .int 0, .int (-1), .int 0, .int 0, .ref p37]))] s.heap.size = A at hD ⊢
  have hA : ∀ q : Nat, s.heap.size ≤ q → A q := fun q h => by rw [← hAe]; exact Or.inr h
  have hS : va_S A s.heap s.heap [] := va_S.rf
  have hP : va_P (dC, dI) vwCl [(p0, .inr (11, [.int 0, .int 0, .int 0, .int 1, .long 1, .ref p1, .ref p2, .int 1, .ref p3, .int 0, .int 0, .int 1, .ref p4, .ref p5, .ref p6, .int 0, .ref p7, .int 0, .ref p8, .int 0, .int 0, .ref p9, .int 0, .ref p10, .int 0, .ref p11, .ref p12, .ref p13, .ref p14, .ref p15, .ref p16, .ref p17, .int 0, .int 0, .int 0, .int 0, .ref p18, .ref p19, .ref p20, .ref p21, .ref p22, .ref p23, .ref p24, .ref p25, .ref p26, .int 0, .int 0, .ref p27, .ref p28, .ref p29, .ref p30, .int 0, .int 0, .int 0, .int 0, .int 0, .int 0, .int 0, .int 0, .int 0, .int 0, .int 0, .int (-1), .int 0, .ref p31, .ref p32, .int 0, .ref p33, .ref p34, .ref p35, .ref p36, .int 0, .int (-1), .int 0, .int 0, .ref p37]))] s.heap := hP
  have hl := lv_entry ([.ref p0]) (n := 1) (Nat.le_of_ble_eq_true rfl)
  rw [lg_entry_eq]
  generalize (lg_sl ([.ref p0]) ++ List.replicate (1 - (lg_sl ([.ref p0])).length) Slot.unset).toArray = ls at hl ⊢
  have hl : lv_has ls 1 [(0, .ref p0)] := hl
  refine lv_aload_n hx hb dX11_back_0 rfl (lv_at hl 0 rfl) ?_
  refine va_get (D := (dC, dI)) (ci := 11) (v := .int 0) (C := RX11) (T := TX11) (N := 76) hx hb hW iW_11 hown hK hP 0 rfl rfl 74 (by decide) (hW _ mw_293) (fun _ h9 => h9) rfl dX11_back_1 ?_
  refine lv_iconst (v := 2) hx hb dX11_back_4 (by decide) ?_
  refine lv_icmp_ge (tgt := 10) hx hb dX11_back_5 (by decide) (fun c => absurd c (by decide)) (fun _ => ?_)
  refine lv_iconst (v := (-1)) hx hb dX11_back_8 (by decide) ?_
  refine W.widen (k := 0) (n := 0) (Nat.le_of_ble_eq_true rfl) (Nat.le_of_ble_eq_true rfl) ?_
  exact W.iret (v := (-1)) hx hb hr (fun t ht hW9 => ⟨⟨(-1), (), rfl, rfl, trivial⟩, hS.F ht⟩) hS.2.2 dX11_back_9

set_option maxHeartbeats 4000000 in
set_option maxRecDepth 100000 in
/-- X10_about_0 -/
theorem c_X10_about_0 (l : Launch) (dC : Nat → ClassId) (dI : Nat → Nat → Nat) (cI cB : ClassId) (p0 : Nat) (p1 : Int32) (p2 : Nat) (p3 : Nat) (p4 : Nat) (p5 : Nat) (p6 : Nat) (p7 : Nat) (p8 : Nat) (p9 : Nat) (sz : Nat) : Met l yX10_about (.code yX10_about cX10_about 3 (some .int) :: WA) ({ frames := 1, cells := 0, slots := 0, locals := 20 }) (va_Pc [.ref p0, .int p1] (PB dC dI cI cB [(p0, .inr (10, [.ref p2, .ref p3, .ref p4, .ref p5, .ref p6, .ref p7, .ref p8, .ref p9, .int 0, .int 0, .int (-1)]))] sz)) (va_Qi (fun (r : Int32) (_ : Unit) => r = (-1)) (fun _ _ => True) (va_A [(p0, .inr (10, [.ref p2, .ref p3, .ref p4, .ref p5, .ref p6, .ref p7, .ref p8, .ref p9, .int 0, .int 0, .int (-1)]))] sz)) 0 0 (va_A [(p0, .inr (10, [.ref p2, .ref p3, .ref p4, .ref p5, .ref p6, .ref p7, .ref p8, .ref p9, .int 0, .int 0, .int (-1)]))] sz) := by
  refine Met.ofW (cc := cX10_about) (maxL := 3) (ret := (some .int)) (by decide) rfl ?_
  intro p e s m args below meth c s₁ B hml hv
  obtain ⟨rfl, hsz, hP, hK, hD0, hN⟩ := hv
  have hx := B.exec
  have hb := B.bytes
  have hr := B.returns
  have hts := atoms_spec B.pre
  have hW : ∀ w ∈ WA, w.before [.ref p0, .int p1].toArray s = true := fun w h => hts w (List.mem_cons_of_mem _ h)
  have hown : s.vm.findClass RX10 = some m.cls := findClass_of_methodNamed B.named
  have hlocks := B.notSynchronized
  subst hsz
  have hD := hD0.self (sz := s.heap.size)
  generalize hAe : va_A [(p0, .inr (10, [.ref p2, .ref p3, .ref p4, .ref p5, .ref p6, .ref p7, .ref p8, .ref p9, .int 0, .int 0, .int (-1)]))] s.heap.size = A at hD ⊢
  have hA : ∀ q : Nat, s.heap.size ≤ q → A q := fun q h => by rw [← hAe]; exact Or.inr h
  have hS : va_S A s.heap s.heap [] := va_S.rf
  have hP : va_P (dC, dI) vwCl [(p0, .inr (10, [.ref p2, .ref p3, .ref p4, .ref p5, .ref p6, .ref p7, .ref p8, .ref p9, .int 0, .int 0, .int (-1)]))] s.heap := hP
  have hl := lv_entry ([.ref p0, .int p1]) (n := 3) (Nat.le_of_ble_eq_true rfl)
  rw [lg_entry_eq]
  generalize (lg_sl ([.ref p0, .int p1]) ++ List.replicate (3 - (lg_sl ([.ref p0, .int p1])).length) Slot.unset).toArray = ls at hl ⊢
  have hl : lv_has ls 3 [(0, .ref p0), (1, .int p1)] := hl
  refine lv_aload_n hx hb dX10_about_0 rfl (lv_at hl 0 rfl) ?_
  have hPc := hP.sub (ws' := [(p0, .inr (10, [.ref p2, .ref p3, .ref p4, .ref p5, .ref p6, .ref p7, .ref p8, .ref p9, .int 0, .int 0, .int (-1)]))]) [0] rfl
  have hDc := hD.sub (ws' := [(p0, .inr (10, [.ref p2, .ref p3, .ref p4, .ref p5, .ref p6, .ref p7, .ref p8, .ref p9, .int 0, .int 0, .int (-1)]))]) [0] (by decide) rfl
  have hFc := va_free (wc := [(p0, .inr (10, [.ref p2, .ref p3, .ref p4, .ref p5, .ref p6, .ref p7, .ref p8, .ref p9, .int 0, .int 0, .int (-1)]))]) hD hS hA [0] rfl
  refine va_calli (va_runV (As := []) (rest := []) ⟨hx, hb, hml, hown, hW⟩ (c_X10_viewed_0 l dC dI cI cB p0 p2 p3 p4 p5 p6 p7 p8 p9 s.heap.size) (cwV 0 hW (gV mw_373 mw_374 mw_375 mw_2 mw_372) rfl rfl rfl (by decide +kernel) ⟨Nat.le_of_ble_eq_true rfl, Nat.le_of_ble_eq_true rfl⟩) ⟨PB_blind _, va_recv hK hP (ci := 10) (q0 := 0) rfl rfl, fun U hU hW2 => ⟨rfl, PB_at hU hW2 hPc hK hDc hN⟩⟩ rfl rfl hl.1 rfl (lv_room (Nat.le_of_ble_eq_true rfl)) dX10_about_1 ⟨Nat.le_of_ble_eq_true rfl, Nat.le_of_ble_eq_true rfl⟩) hS (fun q _ h => hFc q h) hFc (fun r u t H1 locs ht hvm hw hB hz1 hk1 hS => ?_)
  have hq := hB
  obtain ⟨hP, hD⟩ := after (wr := []) (w1 := [(p0, .inr (10, [.ref p2, .ref p3, .ref p4, .ref p5, .ref p6, .ref p7, .ref p8, .ref p9, .int 0, .int 0, .int (-1)]))]) hP hD [0] [] rfl rfl (by decide) (by decide) hk1 hFc ht hq
  generalize H1 = H at hP hS ⊢
  have hP : va_P (dC, dI) vwCl [(p0, .inr (10, [.ref p2, .ref p3, .ref p4, .ref p5, .ref p6, .ref p7, .ref p8, .ref p9, .int 0, .int 0, .int (-1)]))] H := hP
  have hD : va_D A [(p0, .inr (10, [.ref p2, .ref p3, .ref p4, .ref p5, .ref p6, .ref p7, .ref p8, .ref p9, .int 0, .int 0, .int (-1)]))] := hD
  refine tp_i 0 hw ?_
  refine lv_istore_n (lv' := [(2, .int 0), (0, .ref p0), (1, .int p1)]) hx hb dX10_about_4 rfl hl (by decide) rfl (fun ls hl => ?_)
  refine lv_iload_n hx hb dX10_about_5 rfl (lv_at hl 0 rfl) ?_
  refine lv_if_ne (tgt := 11) hx hb dX10_about_6 (by decide) (fun c => absurd (by decide) c) (fun _ => ?_)
  refine lv_iconst (v := (-1)) hx hb dX10_about_9 (by decide) ?_
  refine W.widen (k := 0) (n := 0) (Nat.le_of_ble_eq_true rfl) (Nat.le_of_ble_eq_true rfl) ?_
  exact W.iret (v := (-1)) hx hb hr (fun t ht hW9 => ⟨⟨(-1), (), rfl, rfl, trivial⟩, hS.F ht⟩) hS.2.2 dX10_about_10

set_option maxHeartbeats 4000000 in
set_option maxRecDepth 100000 in
/-- X11_about_0 -/
theorem c_X11_about_0 (l : Launch) (dC : Nat → ClassId) (dI : Nat → Nat → Nat) (cI cB : ClassId) (p0 : Nat) (p1 : Int32) (p2 : Nat) (p3 : Nat) (p4 : Nat) (p5 : Nat) (p6 : Nat) (p7 : Nat) (p8 : Nat) (p9 : Nat) (p10 : Nat) (p11 : Nat) (p12 : Nat) (p13 : Nat) (p14 : Nat) (p15 : Nat) (p16 : Nat) (p17 : Nat) (p18 : Nat) (p19 : Nat) (p20 : Nat) (p21 : Nat) (p22 : Nat) (p23 : Nat) (p24 : Nat) (p25 : Nat) (p26 : Nat) (p27 : Nat) (p28 : Nat) (p29 : Nat) (p30 : Nat) (p31 : Nat) (p32 : Nat) (p33 : Nat) (p34 : Nat) (p35 : Nat) (p36 : Nat) (p37 : Nat) (p38 : Nat) (sz : Nat) : Met l yX11_about (.code yX11_about cX11_about 2 (some .int) :: WA) ({ frames := 0, cells := 0, slots := 0, locals := 0 }) (va_Pc [.ref p0, .int p1] (PB dC dI cI cB [(p0, .inr (11, [.int 0, .int 0, .int 0, .int 1, .long 1, .ref p2, .ref p3, .int 1, .ref p4, .int 0, .int 0, .int 1, .ref p5, .ref p6, .ref p7, .int 0, .ref p8, .int 0, .ref p9, .int 0, .int 0, .ref p10, .int 0, .ref p11, .int 0, .ref p12, .ref p13, .ref p14, .ref p15, .ref p16, .ref p17, .ref p18, .int 0, .int 0, .int 0, .int 0, .ref p19, .ref p20, .ref p21, .ref p22, .ref p23, .ref p24, .ref p25, .ref p26, .ref p27, .int 0, .int 0, .ref p28, .ref p29, .ref p30, .ref p31, .int 0, .int 0, .int 0, .int 0, .int 0, .int 0, .int 0, .int 0, .int 0, .int 0, .int 0, .int (-1), .int 0, .ref p32, .ref p33, .int 0, .ref p34, .ref p35, .ref p36, .ref p37, .int 0, .int (-1), .int 0, .int 0, .ref p38]))] sz)) (va_Qi (fun (r : Int32) (_ : Unit) => r = (-1)) (fun _ _ => True) (va_A [(p0, .inr (11, [.int 0, .int 0, .int 0, .int 1, .long 1, .ref p2, .ref p3, .int 1, .ref p4, .int 0, .int 0, .int 1, .ref p5, .ref p6, .ref p7, .int 0, .ref p8, .int 0, .ref p9, .int 0, .int 0, .ref p10, .int 0, .ref p11, .int 0, .ref p12, .ref p13, .ref p14, .ref p15, .ref p16, .ref p17, .ref p18, .int 0, .int 0, .int 0, .int 0, .ref p19, .ref p20, .ref p21, .ref p22, .ref p23, .ref p24, .ref p25, .ref p26, .ref p27, .int 0, .int 0, .ref p28, .ref p29, .ref p30, .ref p31, .int 0, .int 0, .int 0, .int 0, .int 0, .int 0, .int 0, .int 0, .int 0, .int 0, .int 0, .int (-1), .int 0, .ref p32, .ref p33, .int 0, .ref p34, .ref p35, .ref p36, .ref p37, .int 0, .int (-1), .int 0, .int 0, .ref p38]))] sz)) 0 0 (va_A [(p0, .inr (11, [.int 0, .int 0, .int 0, .int 1, .long 1, .ref p2, .ref p3, .int 1, .ref p4, .int 0, .int 0, .int 1, .ref p5, .ref p6, .ref p7, .int 0, .ref p8, .int 0, .ref p9, .int 0, .int 0, .ref p10, .int 0, .ref p11, .int 0, .ref p12, .ref p13, .ref p14, .ref p15, .ref p16, .ref p17, .ref p18, .int 0, .int 0, .int 0, .int 0, .ref p19, .ref p20, .ref p21, .ref p22, .ref p23, .ref p24, .ref p25, .ref p26, .ref p27, .int 0, .int 0, .ref p28, .ref p29, .ref p30, .ref p31, .int 0, .int 0, .int 0, .int 0, .int 0, .int 0, .int 0, .int 0, .int 0, .int 0, .int 0, .int (-1), .int 0, .ref p32, .ref p33, .int 0, .ref p34, .ref p35, .ref p36, .ref p37, .int 0, .int (-1), .int 0, .int 0, .ref p38]))] sz) := by
  refine Met.ofW (cc := cX11_about) (maxL := 2) (ret := (some .int)) (by decide) rfl ?_
  intro p e s m args below meth c s₁ B hml hv
  obtain ⟨rfl, hsz, hP, hK, hD0, hN⟩ := hv
  have hx := B.exec
  have hb := B.bytes
  have hr := B.returns
  have hts := atoms_spec B.pre
  have hW : ∀ w ∈ WA, w.before [.ref p0, .int p1].toArray s = true := fun w h => hts w (List.mem_cons_of_mem _ h)
  have hown : s.vm.findClass RX11 = some m.cls := findClass_of_methodNamed B.named
  have hlocks := B.notSynchronized
  subst hsz
  have hD := hD0.self (sz := s.heap.size)
  generalize hAe : va_A [(p0, .inr (11, [.int 0, .int 0, .int 0, .int 1, .long 1, .ref p2, .ref p3, .int 1, .ref p4, .int 0, .int 0, .int 1, .ref p5, .ref p6, .ref p7, .int 0, .ref p8, .int 0, .ref p9, .int 0, .int 0, .ref p10, .int 0, .ref p11, .int 0, .ref p12, .ref p13, .ref p14, .ref p15, .ref p16, .ref p17, .ref p18, .int 0, .int 0, .int 0, .int 0, .ref p19, .ref p20, .ref p21, .ref p22, .ref p23, .ref p24, .ref p25, .ref p26, .ref p27, .int 0, .int 0, .ref p28, .ref p29, .ref p30, .ref p31, .int 0, .int 0, .int 0, .int 0, .int 0, .int 0, .int 0, .int 0, .int 0, .int 0, .int 0, .int (-1), .int 0, .ref p32, .ref p33, .int 0, .ref p34, .ref p35, .ref p36, .ref p37, .int 0, .int (-1), .int 0, .int 0, .ref p38]))] s.heap.size = A at hD ⊢
  have hA : ∀ q : Nat, s.heap.size ≤ q → A q := fun q h => by rw [← hAe]; exact Or.inr h
  have hS : va_S A s.heap s.heap [] := va_S.rf
  have hP : va_P (dC, dI) vwCl [(p0, .inr (11, [.int 0, .int 0, .int 0, .int 1, .long 1, .ref p2, .ref p3, .int 1, .ref p4, .int 0, .int 0, .int 1, .ref p5, .ref p6, .ref p7, .int 0, .ref p8, .int 0, .ref p9, .int 0, .int 0, .ref p10, .int 0, .ref p11, .int 0, .ref p12, .ref p13, .ref p14, .ref p15, .ref p16, .ref p17, .ref p18, .int 0, .int 0, .int 0, .int 0, .ref p19, .ref p20, .ref p21, .ref p22, .ref p23, .ref p24, .ref p25, .ref p26, .ref p27, .int 0, .int 0, .ref p28, .ref p29, .ref p30, .ref p31, .int 0, .int 0, .int 0, .int 0, .int 0, .int 0, .int 0, .int 0, .int 0, .int 0, .int 0, .int (-1), .int 0, .ref p32, .ref p33, .int 0, .ref p34, .ref p35, .ref p36, .ref p37, .int 0, .int (-1), .int 0, .int 0, .ref p38]))] s.heap := hP
  have hl := lv_entry ([.ref p0, .int p1]) (n := 2) (Nat.le_of_ble_eq_true rfl)
  rw [lg_entry_eq]
  generalize (lg_sl ([.ref p0, .int p1]) ++ List.replicate (2 - (lg_sl ([.ref p0, .int p1])).length) Slot.unset).toArray = ls at hl ⊢
  have hl : lv_has ls 2 [(0, .ref p0), (1, .int p1)] := hl
  refine lv_aload_n hx hb dX11_about_0 rfl (lv_at hl 0 rfl) ?_
  refine va_get (D := (dC, dI)) (ci := 11) (v := .int 0) (C := RX11) (T := TX11) (N := 76) hx hb hW iW_11 hown hK hP 0 rfl rfl 74 (by decide) (hW _ mw_293) (fun _ h9 => h9) rfl dX11_about_1 ?_
  refine lv_if_ne (tgt := 9) hx hb dX11_about_4 (by decide) (fun c => absurd (by decide) c) (fun _ => ?_)
  refine lv_iconst (v := (-1)) hx hb dX11_about_7 (by decide) ?_
  refine W.widen (k := 0) (n := 0) (Nat.le_of_ble_eq_true rfl) (Nat.le_of_ble_eq_true rfl) ?_
  exact W.iret (v := (-1)) hx hb hr (fun t ht hW9 => ⟨⟨(-1), (), rfl, rfl, trivial⟩, hS.F ht⟩) hS.2.2 dX11_about_8

set_option maxHeartbeats 4000000 in
set_option maxRecDepth 100000 in
/-- X10_extent_0 -/
theorem c_X10_extent_0 (l : Launch) (dC : Nat → ClassId) (dI : Nat → Nat → Nat) (cI cB : ClassId) (p0 : Nat) (p1 : Int32) (p2 : Nat) (p3 : Nat) (p4 : Nat) (p5 : Nat) (p6 : Nat) (p7 : Nat) (p8 : Nat) (p9 : Nat) (sz : Nat) : Met l yX10_extent (.code yX10_extent cX10_extent 3 (some .int) :: WA) ({ frames := 1, cells := 0, slots := 0, locals := 20 }) (va_Pc [.ref p0, .int p1] (PB dC dI cI cB [(p0, .inr (10, [.ref p2, .ref p3, .ref p4, .ref p5, .ref p6, .ref p7, .ref p8, .ref p9, .int 0, .int 0, .int (-1)]))] sz)) (va_Qi (fun (r : Int32) (_ : Unit) => r = (-1)) (fun _ _ => True) (va_A [(p0, .inr (10, [.ref p2, .ref p3, .ref p4, .ref p5, .ref p6, .ref p7, .ref p8, .ref p9, .int 0, .int 0, .int (-1)]))] sz)) 0 0 (va_A [(p0, .inr (10, [.ref p2, .ref p3, .ref p4, .ref p5, .ref p6, .ref p7, .ref p8, .ref p9, .int 0, .int 0, .int (-1)]))] sz) := by
  refine Met.ofW (cc := cX10_extent) (maxL := 3) (ret := (some .int)) (by decide) rfl ?_
  intro p e s m args below meth c s₁ B hml hv
  obtain ⟨rfl, hsz, hP, hK, hD0, hN⟩ := hv
  have hx := B.exec
  have hb := B.bytes
  have hr := B.returns
  have hts := atoms_spec B.pre
  have hW : ∀ w ∈ WA, w.before [.ref p0, .int p1].toArray s = true := fun w h => hts w (List.mem_cons_of_mem _ h)
  have hown : s.vm.findClass RX10 = some m.cls := findClass_of_methodNamed B.named
  have hlocks := B.notSynchronized
  subst hsz
  have hD := hD0.self (sz := s.heap.size)
  generalize hAe : va_A [(p0, .inr (10, [.ref p2, .ref p3, .ref p4, .ref p5, .ref p6, .ref p7, .ref p8, .ref p9, .int 0, .int 0, .int (-1)]))] s.heap.size = A at hD ⊢
  have hA : ∀ q : Nat, s.heap.size ≤ q → A q := fun q h => by rw [← hAe]; exact Or.inr h
  have hS : va_S A s.heap s.heap [] := va_S.rf
  have hP : va_P (dC, dI) vwCl [(p0, .inr (10, [.ref p2, .ref p3, .ref p4, .ref p5, .ref p6, .ref p7, .ref p8, .ref p9, .int 0, .int 0, .int (-1)]))] s.heap := hP
  have hl := lv_entry ([.ref p0, .int p1]) (n := 3) (Nat.le_of_ble_eq_true rfl)
  rw [lg_entry_eq]
  generalize (lg_sl ([.ref p0, .int p1]) ++ List.replicate (3 - (lg_sl ([.ref p0, .int p1])).length) Slot.unset).toArray = ls at hl ⊢
  have hl : lv_has ls 3 [(0, .ref p0), (1, .int p1)] := hl
  refine lv_aload_n hx hb dX10_extent_0 rfl (lv_at hl 0 rfl) ?_
  have hPc := hP.sub (ws' := [(p0, .inr (10, [.ref p2, .ref p3, .ref p4, .ref p5, .ref p6, .ref p7, .ref p8, .ref p9, .int 0, .int 0, .int (-1)]))]) [0] rfl
  have hDc := hD.sub (ws' := [(p0, .inr (10, [.ref p2, .ref p3, .ref p4, .ref p5, .ref p6, .ref p7, .ref p8, .ref p9, .int 0, .int 0, .int (-1)]))]) [0] (by decide) rfl
  have hFc := va_free (wc := [(p0, .inr (10, [.ref p2, .ref p3, .ref p4, .ref p5, .ref p6, .ref p7, .ref p8, .ref p9, .int 0, .int 0, .int (-1)]))]) hD hS hA [0] rfl
  refine va_calli (va_runV (As := []) (rest := []) ⟨hx, hb, hml, hown, hW⟩ (c_X10_viewed_0 l dC dI cI cB p0 p2 p3 p4 p5 p6 p7 p8 p9 s.heap.size) (cwV 0 hW (gV mw_373 mw_374 mw_375 mw_2 mw_372) rfl rfl rfl (by decide +kernel) ⟨Nat.le_of_ble_eq_true rfl, Nat.le_of_ble_eq_true rfl⟩) ⟨PB_blind _, va_recv hK hP (ci := 10) (q0 := 0) rfl rfl, fun U hU hW2 => ⟨rfl, PB_at hU hW2 hPc hK hDc hN⟩⟩ rfl rfl hl.1 rfl (lv_room (Nat.le_of_ble_eq_true rfl)) dX10_extent_1 ⟨Nat.le_of_ble_eq_true rfl, Nat.le_of_ble_eq_true rfl⟩) hS (fun q _ h => hFc q h) hFc (fun r u t H1 locs ht hvm hw hB hz1 hk1 hS => ?_)
  have hq := hB
  obtain ⟨hP, hD⟩ := after (wr := []) (w1 := [(p0, .inr (10, [.ref p2, .ref p3, .ref p4, .ref p5, .ref p6, .ref p7, .ref p8, .ref p9, .int 0, .int 0, .int (-1)]))]) hP hD [0] [] rfl rfl (by decide) (by decide) hk1 hFc ht hq
  generalize H1 = H at hP hS ⊢
  have hP : va_P (dC, dI) vwCl [(p0, .inr (10, [.ref p2, .ref p3, .ref p4, .ref p5, .ref p6, .ref p7, .ref p8, .ref p9, .int 0, .int 0, .int (-1)]))] H := hP
  have hD : va_D A [(p0, .inr (10, [.ref p2, .ref p3, .ref p4, .ref p5, .ref p6, .ref p7, .ref p8, .ref p9, .int 0, .int 0, .int (-1)]))] := hD
  refine tp_i 0 hw ?_
  refine lv_istore_n (lv' := [(2, .int 0), (0, .ref p0), (1, .int p1)]) hx hb dX10_extent_4 rfl hl (by decide) rfl (fun ls hl => ?_)
  refine lv_iload_n hx hb dX10_extent_5 rfl (lv_at hl 0 rfl) ?_
  refine lv_if_eq (tgt := 25) hx hb dX10_extent_6 (by decide) (fun _ => ?_) (fun c => absurd (by decide) c)
  refine lv_iconst (v := (-1)) hx hb dX10_extent_25 (by decide) ?_
  refine W.widen (k := 0) (n := 0) (Nat.le_of_ble_eq_true rfl) (Nat.le_of_ble_eq_true rfl) ?_
  exact W.iret (v := (-1)) hx hb hr (fun t ht hW9 => ⟨⟨(-1), (), rfl, rfl, trivial⟩, hS.F ht⟩) hS.2.2 dX10_extent_26

set_option maxHeartbeats 4000000 in
set_option maxRecDepth 100000 in
/-- X11_extent__0 -/
theorem c_X11_extent__0 (l : Launch) (dC : Nat → ClassId) (dI : Nat → Nat → Nat) (cI cB : ClassId) (p0 : Nat) (p1 : Int32) (p2 : Nat) (p3 : Nat) (p4 : Nat) (p5 : Nat) (p6 : Nat) (p7 : Nat) (p8 : Nat) (p9 : Nat) (p10 : Nat) (p11 : Nat) (p12 : Nat) (p13 : Nat) (p14 : Nat) (p15 : Nat) (p16 : Nat) (p17 : Nat) (p18 : Nat) (p19 : Nat) (p20 : Nat) (p21 : Nat) (p22 : Nat) (p23 : Nat) (p24 : Nat) (p25 : Nat) (p26 : Nat) (p27 : Nat) (p28 : Nat) (p29 : Nat) (p30 : Nat) (p31 : Nat) (p32 : Nat) (p33 : Nat) (p34 : Nat) (p35 : Nat) (p36 : Nat) (p37 : Nat) (p38 : Nat) (sz : Nat) : Met l yX11_extent_ (.code yX11_extent_ cX11_extent_ 2 (some .int) :: WA) ({ frames := 0, cells := 0, slots := 0, locals := 0 }) (va_Pc [.ref p0, .int p1] (PB dC dI cI cB [(p0, .inr (11, [.int 0, .int 0, .int 0, .int 1, .long 1, .ref p2, .ref p3, .int 1, .ref p4, .int 0, .int 0, .int 1, .ref p5, .ref p6, .ref p7, .int 0, .ref p8, .int 0, .ref p9, .int 0, .int 0, .ref p10, .int 0, .ref p11, .int 0, .ref p12, .ref p13, .ref p14, .ref p15, .ref p16, .ref p17, .ref p18, .int 0, .int 0, .int 0, .int 0, .ref p19, .ref p20, .ref p21, .ref p22, .ref p23, .ref p24, .ref p25, .ref p26, .ref p27, .int 0, .int 0, .ref p28, .ref p29, .ref p30, .ref p31, .int 0, .int 0, .int 0, .int 0, .int 0, .int 0, .int 0, .int 0, .int 0, .int 0, .int 0, .int (-1), .int 0, .ref p32, .ref p33, .int 0, .ref p34, .ref p35, .ref p36, .ref p37, .int 0, .int (-1), .int 0, .int 0, .ref p38]))] sz)) (va_Qi (fun (r : Int32) (_ : Unit) => r = (-1)) (fun _ _ => True) (va_A [(p0, .inr (11, [.int 0, .int 0, .int 0, .int 1, .long 1, .ref p2, .ref p3, .int 1, .ref p4, .int 0, .int 0, .int 1, .ref p5, .ref p6, .ref p7, .int 0, .ref p8, .int 0, .ref p9, .int 0, .int 0, .ref p10, .int 0, .ref p11, .int 0, .ref p12, .ref p13, .ref p14, .ref p15, .ref p16, .ref p17, .ref p18, .int 0, .int 0, .int 0, .int 0, .ref p19, .ref p20, .ref p21, .ref p22, .ref p23, .ref p24, .ref p25, .ref p26, .ref p27, .int 0, .int 0, .ref p28, .ref p29, .ref p30, .ref p31, .int 0, .int 0, .int 0, .int 0, .int 0, .int 0, .int 0, .int 0, .int 0, .int 0, .int 0, .int (-1), .int 0, .ref p32, .ref p33, .int 0, .ref p34, .ref p35, .ref p36, .ref p37, .int 0, .int (-1), .int 0, .int 0, .ref p38]))] sz)) 0 0 (va_A [(p0, .inr (11, [.int 0, .int 0, .int 0, .int 1, .long 1, .ref p2, .ref p3, .int 1, .ref p4, .int 0, .int 0, .int 1, .ref p5, .ref p6, .ref p7, .int 0, .ref p8, .int 0, .ref p9, .int 0, .int 0, .ref p10, .int 0, .ref p11, .int 0, .ref p12, .ref p13, .ref p14, .ref p15, .ref p16, .ref p17, .ref p18, .int 0, .int 0, .int 0, .int 0, .ref p19, .ref p20, .ref p21, .ref p22, .ref p23, .ref p24, .ref p25, .ref p26, .ref p27, .int 0, .int 0, .ref p28, .ref p29, .ref p30, .ref p31, .int 0, .int 0, .int 0, .int 0, .int 0, .int 0, .int 0, .int 0, .int 0, .int 0, .int 0, .int (-1), .int 0, .ref p32, .ref p33, .int 0, .ref p34, .ref p35, .ref p36, .ref p37, .int 0, .int (-1), .int 0, .int 0, .ref p38]))] sz) := by
  refine Met.ofW (cc := cX11_extent_) (maxL := 2) (ret := (some .int)) (by decide) rfl ?_
  intro p e s m args below meth c s₁ B hml hv
  obtain ⟨rfl, hsz, hP, hK, hD0, hN⟩ := hv
  have hx := B.exec
  have hb := B.bytes
  have hr := B.returns
  have hts := atoms_spec B.pre
  have hW : ∀ w ∈ WA, w.before [.ref p0, .int p1].toArray s = true := fun w h => hts w (List.mem_cons_of_mem _ h)
  have hown : s.vm.findClass RX11 = some m.cls := findClass_of_methodNamed B.named
  have hlocks := B.notSynchronized
  subst hsz
  have hD := hD0.self (sz := s.heap.size)
  generalize hAe : va_A [(p0, .inr (11, [.int 0, .int 0, .int 0, .int 1, .long 1, .ref p2, .ref p3, .int 1, .ref p4, .int 0, .int 0, .int 1, .ref p5, .ref p6, .ref p7, .int 0, .ref p8, .int 0, .ref p9, .int 0, .int 0, .ref p10, .int 0, .ref p11, .int 0, .ref p12, .ref p13, .ref p14, .ref p15, .ref p16, .ref p17, .ref p18, .int 0, .int 0, .int 0, .int 0, .ref p19, .ref p20, .ref p21, .ref p22, .ref p23, .ref p24, .ref p25, .ref p26, .ref p27, .int 0, .int 0, .ref p28, .ref p29, .ref p30, .ref p31, .int 0, .int 0, .int 0, .int 0, .int 0, .int 0, .int 0, .int 0, .int 0, .int 0, .int 0, .int (-1), .int 0, .ref p32, .ref p33, .int 0, .ref p34, .ref p35, .ref p36, .ref p37, .int 0, .int (-1), .int 0, .int 0, .ref p38]))] s.heap.size = A at hD ⊢
  have hA : ∀ q : Nat, s.heap.size ≤ q → A q := fun q h => by rw [← hAe]; exact Or.inr h
  have hS : va_S A s.heap s.heap [] := va_S.rf
  have hP : va_P (dC, dI) vwCl [(p0, .inr (11, [.int 0, .int 0, .int 0, .int 1, .long 1, .ref p2, .ref p3, .int 1, .ref p4, .int 0, .int 0, .int 1, .ref p5, .ref p6, .ref p7, .int 0, .ref p8, .int 0, .ref p9, .int 0, .int 0, .ref p10, .int 0, .ref p11, .int 0, .ref p12, .ref p13, .ref p14, .ref p15, .ref p16, .ref p17, .ref p18, .int 0, .int 0, .int 0, .int 0, .ref p19, .ref p20, .ref p21, .ref p22, .ref p23, .ref p24, .ref p25, .ref p26, .ref p27, .int 0, .int 0, .ref p28, .ref p29, .ref p30, .ref p31, .int 0, .int 0, .int 0, .int 0, .int 0, .int 0, .int 0, .int 0, .int 0, .int 0, .int 0, .int (-1), .int 0, .ref p32, .ref p33, .int 0, .ref p34, .ref p35, .ref p36, .ref p37, .int 0, .int (-1), .int 0, .int 0, .ref p38]))] s.heap := hP
  have hl := lv_entry ([.ref p0, .int p1]) (n := 2) (Nat.le_of_ble_eq_true rfl)
  rw [lg_entry_eq]
  generalize (lg_sl ([.ref p0, .int p1]) ++ List.replicate (2 - (lg_sl ([.ref p0, .int p1])).length) Slot.unset).toArray = ls at hl ⊢
  have hl : lv_has ls 2 [(0, .ref p0), (1, .int p1)] := hl
  refine lv_aload_n hx hb dX11_extent__0 rfl (lv_at hl 0 rfl) ?_
  refine va_get (D := (dC, dI)) (ci := 11) (v := .int 0) (C := RX11) (T := TX11) (N := 76) hx hb hW iW_11 hown hK hP 0 rfl rfl 74 (by decide) (hW _ mw_293) (fun _ h9 => h9) rfl dX11_extent__1 ?_
  refine lv_if_eq (tgt := 23) hx hb dX11_extent__4 (by decide) (fun _ => ?_) (fun c => absurd (by decide) c)
  refine lv_iconst (v := (-1)) hx hb dX11_extent__23 (by decide) ?_
  refine lv_goto (tgt := 36) hx hb dX11_extent__24 (by decide) ?_
  refine W.widen (k := 0) (n := 0) (Nat.le_of_ble_eq_true rfl) (Nat.le_of_ble_eq_true rfl) ?_
  exact W.iret (v := (-1)) hx hb hr (fun t ht hW9 => ⟨⟨(-1), (), rfl, rfl, trivial⟩, hS.F ht⟩) hS.2.2 dX11_extent__36

set_option maxHeartbeats 4000000 in
set_option maxRecDepth 100000 in
/-- X10_kind_0 -/
theorem c_X10_kind_0 (l : Launch) (dC : Nat → ClassId) (dI : Nat → Nat → Nat) (cI cB : ClassId) (p0 : Nat) (p1 : Int32) (p2 : Nat) (p3 : Nat) (p4 : Nat) (p5 : Nat) (p6 : Nat) (p7 : Nat) (p8 : Nat) (p9 : Nat) (sz : Nat) : Met l yX10_kind (.code yX10_kind cX10_kind 4 (some .int) :: WA) ({ frames := 1, cells := 0, slots := 0, locals := 20 }) (va_Pc [.ref p0, .int p1] (PB dC dI cI cB [(p0, .inr (10, [.ref p2, .ref p3, .ref p4, .ref p5, .ref p6, .ref p7, .ref p8, .ref p9, .int 0, .int 0, .int (-1)]))] sz)) (va_Qi (fun (r : Int32) (_ : Unit) => r = (-1)) (fun _ _ => True) (va_A [(p0, .inr (10, [.ref p2, .ref p3, .ref p4, .ref p5, .ref p6, .ref p7, .ref p8, .ref p9, .int 0, .int 0, .int (-1)]))] sz)) 0 0 (va_A [(p0, .inr (10, [.ref p2, .ref p3, .ref p4, .ref p5, .ref p6, .ref p7, .ref p8, .ref p9, .int 0, .int 0, .int (-1)]))] sz) := by
  refine Met.ofW (cc := cX10_kind) (maxL := 4) (ret := (some .int)) (by decide) rfl ?_
  intro p e s m args below meth c s₁ B hml hv
  obtain ⟨rfl, hsz, hP, hK, hD0, hN⟩ := hv
  have hx := B.exec
  have hb := B.bytes
  have hr := B.returns
  have hts := atoms_spec B.pre
  have hW : ∀ w ∈ WA, w.before [.ref p0, .int p1].toArray s = true := fun w h => hts w (List.mem_cons_of_mem _ h)
  have hown : s.vm.findClass RX10 = some m.cls := findClass_of_methodNamed B.named
  have hlocks := B.notSynchronized
  subst hsz
  have hD := hD0.self (sz := s.heap.size)
  generalize hAe : va_A [(p0, .inr (10, [.ref p2, .ref p3, .ref p4, .ref p5, .ref p6, .ref p7, .ref p8, .ref p9, .int 0, .int 0, .int (-1)]))] s.heap.size = A at hD ⊢
  have hA : ∀ q : Nat, s.heap.size ≤ q → A q := fun q h => by rw [← hAe]; exact Or.inr h
  have hS : va_S A s.heap s.heap [] := va_S.rf
  have hP : va_P (dC, dI) vwCl [(p0, .inr (10, [.ref p2, .ref p3, .ref p4, .ref p5, .ref p6, .ref p7, .ref p8, .ref p9, .int 0, .int 0, .int (-1)]))] s.heap := hP
  have hl := lv_entry ([.ref p0, .int p1]) (n := 4) (Nat.le_of_ble_eq_true rfl)
  rw [lg_entry_eq]
  generalize (lg_sl ([.ref p0, .int p1]) ++ List.replicate (4 - (lg_sl ([.ref p0, .int p1])).length) Slot.unset).toArray = ls at hl ⊢
  have hl : lv_has ls 4 [(0, .ref p0), (1, .int p1)] := hl
  refine lv_aload_n hx hb dX10_kind_0 rfl (lv_at hl 0 rfl) ?_
  have hPc := hP.sub (ws' := [(p0, .inr (10, [.ref p2, .ref p3, .ref p4, .ref p5, .ref p6, .ref p7, .ref p8, .ref p9, .int 0, .int 0, .int (-1)]))]) [0] rfl
  have hDc := hD.sub (ws' := [(p0, .inr (10, [.ref p2, .ref p3, .ref p4, .ref p5, .ref p6, .ref p7, .ref p8, .ref p9, .int 0, .int 0, .int (-1)]))]) [0] (by decide) rfl
  have hFc := va_free (wc := [(p0, .inr (10, [.ref p2, .ref p3, .ref p4, .ref p5, .ref p6, .ref p7, .ref p8, .ref p9, .int 0, .int 0, .int (-1)]))]) hD hS hA [0] rfl
  refine va_calli (va_runV (As := []) (rest := []) ⟨hx, hb, hml, hown, hW⟩ (c_X10_viewed_0 l dC dI cI cB p0 p2 p3 p4 p5 p6 p7 p8 p9 s.heap.size) (cwV 0 hW (gV mw_373 mw_374 mw_375 mw_2 mw_372) rfl rfl rfl (by decide +kernel) ⟨Nat.le_of_ble_eq_true rfl, Nat.le_of_ble_eq_true rfl⟩) ⟨PB_blind _, va_recv hK hP (ci := 10) (q0 := 0) rfl rfl, fun U hU hW2 => ⟨rfl, PB_at hU hW2 hPc hK hDc hN⟩⟩ rfl rfl hl.1 rfl (lv_room (Nat.le_of_ble_eq_true rfl)) dX10_kind_1 ⟨Nat.le_of_ble_eq_true rfl, Nat.le_of_ble_eq_true rfl⟩) hS (fun q _ h => hFc q h) hFc (fun r u t H1 locs ht hvm hw hB hz1 hk1 hS => ?_)
  have hq := hB
  obtain ⟨hP, hD⟩ := after (wr := []) (w1 := [(p0, .inr (10, [.ref p2, .ref p3, .ref p4, .ref p5, .ref p6, .ref p7, .ref p8, .ref p9, .int 0, .int 0, .int (-1)]))]) hP hD [0] [] rfl rfl (by decide) (by decide) hk1 hFc ht hq
  generalize H1 = H at hP hS ⊢
  have hP : va_P (dC, dI) vwCl [(p0, .inr (10, [.ref p2, .ref p3, .ref p4, .ref p5, .ref p6, .ref p7, .ref p8, .ref p9, .int 0, .int 0, .int (-1)]))] H := hP
  have hD : va_D A [(p0, .inr (10, [.ref p2, .ref p3, .ref p4, .ref p5, .ref p6, .ref p7, .ref p8, .ref p9, .int 0, .int 0, .int (-1)]))] := hD
  refine tp_i 0 hw ?_
  refine lv_istore_n (lv' := [(2, .int 0), (0, .ref p0), (1, .int p1)]) hx hb dX10_kind_4 rfl hl (by decide) rfl (fun ls hl => ?_)
  refine lv_iload_n hx hb dX10_kind_5 rfl (lv_at hl 0 rfl) ?_
  refine lv_if_eq (tgt := 26) hx hb dX10_kind_6 (by decide) (fun _ => ?_) (fun c => absurd (by decide) c)
  refine lv_iconst (v := (-1)) hx hb dX10_kind_26 (by decide) ?_
  refine W.widen (k := 0) (n := 0) (Nat.le_of_ble_eq_true rfl) (Nat.le_of_ble_eq_true rfl) ?_
  exact W.iret (v := (-1)) hx hb hr (fun t ht hW9 => ⟨⟨(-1), (), rfl, rfl, trivial⟩, hS.F ht⟩) hS.2.2 dX10_kind_27

set_option maxHeartbeats 4000000 in
set_option maxRecDepth 100000 in
/-- X11_viewed_0 -/
theorem c_X11_viewed_0 (l : Launch) (dC : Nat → ClassId) (dI : Nat → Nat → Nat) (cI cB : ClassId) (p0 : Nat) (p1 : Int32) (p2 : Nat) (p3 : Nat) (p4 : Nat) (p5 : Nat) (p6 : Nat) (p7 : Nat) (p8 : Nat) (p9 : Nat) (p10 : Nat) (p11 : Nat) (p12 : Nat) (p13 : Nat) (p14 : Nat) (p15 : Nat) (p16 : Nat) (p17 : Nat) (p18 : Nat) (p19 : Nat) (p20 : Nat) (p21 : Nat) (p22 : Nat) (p23 : Nat) (p24 : Nat) (p25 : Nat) (p26 : Nat) (p27 : Nat) (p28 : Nat) (p29 : Nat) (p30 : Nat) (p31 : Nat) (p32 : Nat) (p33 : Nat) (p34 : Nat) (p35 : Nat) (p36 : Nat) (p37 : Nat) (p38 : Nat) (sz : Nat) : Met l yX11_viewed (.code yX11_viewed cX11_viewed 2 (some .boolean) :: WA) ({ frames := 0, cells := 0, slots := 0, locals := 0 }) (va_Pc [.ref p0, .int p1] (PB dC dI cI cB [(p0, .inr (11, [.int 0, .int 0, .int 0, .int 1, .long 1, .ref p2, .ref p3, .int 1, .ref p4, .int 0, .int 0, .int 1, .ref p5, .ref p6, .ref p7, .int 0, .ref p8, .int 0, .ref p9, .int 0, .int 0, .ref p10, .int 0, .ref p11, .int 0, .ref p12, .ref p13, .ref p14, .ref p15, .ref p16, .ref p17, .ref p18, .int 0, .int 0, .int 0, .int 0, .ref p19, .ref p20, .ref p21, .ref p22, .ref p23, .ref p24, .ref p25, .ref p26, .ref p27, .int 0, .int 0, .ref p28, .ref p29, .ref p30, .ref p31, .int 0, .int 0, .int 0, .int 0, .int 0, .int 0, .int 0, .int 0, .int 0, .int 0, .int 0, .int (-1), .int 0, .ref p32, .ref p33, .int 0, .ref p34, .ref p35, .ref p36, .ref p37, .int 0, .int (-1), .int 0, .int 0, .ref p38]))] sz)) (va_Qi (fun (r : Int32) (_ : Unit) => r = 0) (fun (_ : Unit) t => QB dC dI cI cB [(p0, .inr (11, [.int 0, .int 0, .int 0, .int 1, .long 1, .ref p2, .ref p3, .int 1, .ref p4, .int 0, .int 0, .int 1, .ref p5, .ref p6, .ref p7, .int 0, .ref p8, .int 0, .ref p9, .int 0, .int 0, .ref p10, .int 0, .ref p11, .int 0, .ref p12, .ref p13, .ref p14, .ref p15, .ref p16, .ref p17, .ref p18, .int 0, .int 0, .int 0, .int 0, .ref p19, .ref p20, .ref p21, .ref p22, .ref p23, .ref p24, .ref p25, .ref p26, .ref p27, .int 0, .int 0, .ref p28, .ref p29, .ref p30, .ref p31, .int 0, .int 0, .int 0, .int 0, .int 0, .int 0, .int 0, .int 0, .int 0, .int 0, .int 0, .int (-1), .int 0, .ref p32, .ref p33, .int 0, .ref p34, .ref p35, .ref p36, .ref p37, .int 0, .int (-1), .int 0, .int 0, .ref p38]))] (va_A [(p0, .inr (11, [.int 0, .int 0, .int 0, .int 1, .long 1, .ref p2, .ref p3, .int 1, .ref p4, .int 0, .int 0, .int 1, .ref p5, .ref p6, .ref p7, .int 0, .ref p8, .int 0, .ref p9, .int 0, .int 0, .ref p10, .int 0, .ref p11, .int 0, .ref p12, .ref p13, .ref p14, .ref p15, .ref p16, .ref p17, .ref p18, .int 0, .int 0, .int 0, .int 0, .ref p19, .ref p20, .ref p21, .ref p22, .ref p23, .ref p24, .ref p25, .ref p26, .ref p27, .int 0, .int 0, .ref p28, .ref p29, .ref p30, .ref p31, .int 0, .int 0, .int 0, .int 0, .int 0, .int 0, .int 0, .int 0, .int 0, .int 0, .int 0, .int (-1), .int 0, .ref p32, .ref p33, .int 0, .ref p34, .ref p35, .ref p36, .ref p37, .int 0, .int (-1), .int 0, .int 0, .ref p38]))] sz) t) (va_A [(p0, .inr (11, [.int 0, .int 0, .int 0, .int 1, .long 1, .ref p2, .ref p3, .int 1, .ref p4, .int 0, .int 0, .int 1, .ref p5, .ref p6, .ref p7, .int 0, .ref p8, .int 0, .ref p9, .int 0, .int 0, .ref p10, .int 0, .ref p11, .int 0, .ref p12, .ref p13, .ref p14, .ref p15, .ref p16, .ref p17, .ref p18, .int 0, .int 0, .int 0, .int 0, .ref p19, .ref p20, .ref p21, .ref p22, .ref p23, .ref p24, .ref p25, .ref p26, .ref p27, .int 0, .int 0, .ref p28, .ref p29, .ref p30, .ref p31, .int 0, .int 0, .int 0, .int 0, .int 0, .int 0, .int 0, .int 0, .int 0, .int 0, .int 0, .int (-1), .int 0, .ref p32, .ref p33, .int 0, .ref p34, .ref p35, .ref p36, .ref p37, .int 0, .int (-1), .int 0, .int 0, .ref p38]))] sz)) 0 0 (va_A [(p0, .inr (11, [.int 0, .int 0, .int 0, .int 1, .long 1, .ref p2, .ref p3, .int 1, .ref p4, .int 0, .int 0, .int 1, .ref p5, .ref p6, .ref p7, .int 0, .ref p8, .int 0, .ref p9, .int 0, .int 0, .ref p10, .int 0, .ref p11, .int 0, .ref p12, .ref p13, .ref p14, .ref p15, .ref p16, .ref p17, .ref p18, .int 0, .int 0, .int 0, .int 0, .ref p19, .ref p20, .ref p21, .ref p22, .ref p23, .ref p24, .ref p25, .ref p26, .ref p27, .int 0, .int 0, .ref p28, .ref p29, .ref p30, .ref p31, .int 0, .int 0, .int 0, .int 0, .int 0, .int 0, .int 0, .int 0, .int 0, .int 0, .int 0, .int (-1), .int 0, .ref p32, .ref p33, .int 0, .ref p34, .ref p35, .ref p36, .ref p37, .int 0, .int (-1), .int 0, .int 0, .ref p38]))] sz) := by
  refine Met.ofW (cc := cX11_viewed) (maxL := 2) (ret := (some .boolean)) (by decide) rfl ?_
  intro p e s m args below meth c s₁ B hml hv
  obtain ⟨rfl, hsz, hP, hK, hD0, hN⟩ := hv
  have hx := B.exec
  have hb := B.bytes
  have hr := B.returns
  have hts := atoms_spec B.pre
  have hW : ∀ w ∈ WA, w.before [.ref p0, .int p1].toArray s = true := fun w h => hts w (List.mem_cons_of_mem _ h)
  have hown : s.vm.findClass RX11 = some m.cls := findClass_of_methodNamed B.named
  have hlocks := B.notSynchronized
  subst hsz
  have hD := hD0.self (sz := s.heap.size)
  generalize hAe : va_A [(p0, .inr (11, [.int 0, .int 0, .int 0, .int 1, .long 1, .ref p2, .ref p3, .int 1, .ref p4, .int 0, .int 0, .int 1, .ref p5, .ref p6, .ref p7, .int 0, .ref p8, .int 0, .ref p9, .int 0, .int 0, .ref p10, .int 0, .ref p11, .int 0, .ref p12, .ref p13, .ref p14, .ref p15, .ref p16, .ref p17, .ref p18, .int 0, .int 0, .int 0, .int 0, .ref p19, .ref p20, .ref p21, .ref p22, .ref p23, .ref p24, .ref p25, .ref p26, .ref p27, .int 0, .int 0, .ref p28, .ref p29, .ref p30, .ref p31, .int 0, .int 0, .int 0, .int 0, .int 0, .int 0, .int 0, .int 0, .int 0, .int 0, .int 0, .int (-1), .int 0, .ref p32, .ref p33, .int 0, .ref p34, .ref p35, .ref p36, .ref p37, .int 0, .int (-1), .int 0, .int 0, .ref p38]))] s.heap.size = A at hD ⊢
  have hA : ∀ q : Nat, s.heap.size ≤ q → A q := fun q h => by rw [← hAe]; exact Or.inr h
  have hS : va_S A s.heap s.heap [] := va_S.rf
  have hP : va_P (dC, dI) vwCl [(p0, .inr (11, [.int 0, .int 0, .int 0, .int 1, .long 1, .ref p2, .ref p3, .int 1, .ref p4, .int 0, .int 0, .int 1, .ref p5, .ref p6, .ref p7, .int 0, .ref p8, .int 0, .ref p9, .int 0, .int 0, .ref p10, .int 0, .ref p11, .int 0, .ref p12, .ref p13, .ref p14, .ref p15, .ref p16, .ref p17, .ref p18, .int 0, .int 0, .int 0, .int 0, .ref p19, .ref p20, .ref p21, .ref p22, .ref p23, .ref p24, .ref p25, .ref p26, .ref p27, .int 0, .int 0, .ref p28, .ref p29, .ref p30, .ref p31, .int 0, .int 0, .int 0, .int 0, .int 0, .int 0, .int 0, .int 0, .int 0, .int 0, .int 0, .int (-1), .int 0, .ref p32, .ref p33, .int 0, .ref p34, .ref p35, .ref p36, .ref p37, .int 0, .int (-1), .int 0, .int 0, .ref p38]))] s.heap := hP
  have hl := lv_entry ([.ref p0, .int p1]) (n := 2) (Nat.le_of_ble_eq_true rfl)
  rw [lg_entry_eq]
  generalize (lg_sl ([.ref p0, .int p1]) ++ List.replicate (2 - (lg_sl ([.ref p0, .int p1])).length) Slot.unset).toArray = ls at hl ⊢
  have hl : lv_has ls 2 [(0, .ref p0), (1, .int p1)] := hl
  refine lv_aload_n hx hb dX11_viewed_0 rfl (lv_at hl 0 rfl) ?_
  refine va_get (D := (dC, dI)) (ci := 11) (v := .int 0) (C := RX11) (T := TX11) (N := 76) hx hb hW iW_11 hown hK hP 0 rfl rfl 74 (by decide) (hW _ mw_293) (fun _ h9 => h9) rfl dX11_viewed_1 ?_
  refine lv_if_eq (tgt := 24) hx hb dX11_viewed_4 (by decide) (fun _ => ?_) (fun c => absurd (by decide) c)
  refine lv_iconst (v := 0) hx hb dX11_viewed_24 (by decide) ?_
  have hP9 := hP.sub (ws' := [(p0, .inr (11, [.int 0, .int 0, .int 0, .int 1, .long 1, .ref p2, .ref p3, .int 1, .ref p4, .int 0, .int 0, .int 1, .ref p5, .ref p6, .ref p7, .int 0, .ref p8, .int 0, .ref p9, .int 0, .int 0, .ref p10, .int 0, .ref p11, .int 0, .ref p12, .ref p13, .ref p14, .ref p15, .ref p16, .ref p17, .ref p18, .int 0, .int 0, .int 0, .int 0, .ref p19, .ref p20, .ref p21, .ref p22, .ref p23, .ref p24, .ref p25, .ref p26, .ref p27, .int 0, .int 0, .ref p28, .ref p29, .ref p30, .ref p31, .int 0, .int 0, .int 0, .int 0, .int 0, .int 0, .int 0, .int 0, .int 0, .int 0, .int 0, .int (-1), .int 0, .ref p32, .ref p33, .int 0, .ref p34, .ref p35, .ref p36, .ref p37, .int 0, .int (-1), .int 0, .int 0, .ref p38]))]) [0] rfl
  have hD9 := hD.sub (ws' := [(p0, .inr (11, [.int 0, .int 0, .int 0, .int 1, .long 1, .ref p2, .ref p3, .int 1, .ref p4, .int 0, .int 0, .int 1, .ref p5, .ref p6, .ref p7, .int 0, .ref p8, .int 0, .ref p9, .int 0, .int 0, .ref p10, .int 0, .ref p11, .int 0, .ref p12, .ref p13, .ref p14, .ref p15, .ref p16, .ref p17, .ref p18, .int 0, .int 0, .int 0, .int 0, .ref p19, .ref p20, .ref p21, .ref p22, .ref p23, .ref p24, .ref p25, .ref p26, .ref p27, .int 0, .int 0, .ref p28, .ref p29, .ref p30, .ref p31, .int 0, .int 0, .int 0, .int 0, .int 0, .int 0, .int 0, .int 0, .int 0, .int 0, .int 0, .int (-1), .int 0, .ref p32, .ref p33, .int 0, .ref p34, .ref p35, .ref p36, .ref p37, .int 0, .int (-1), .int 0, .int 0, .ref p38]))]) [0] (by decide) rfl
  refine W.widen (k := 0) (n := 0) (Nat.le_of_ble_eq_true rfl) (Nat.le_of_ble_eq_true rfl) ?_
  exact W.zret (v := 0) hx hb hr rfl (fun t ht hW9 => ⟨⟨0, (), rfl, rfl, ⟨by rw [ht]; exact hP9, va_K.moved hW9.alike hK, hD9⟩⟩, hS.F ht⟩) hS.2.2 dX11_viewed_25

set_option maxHeartbeats 4000000 in
set_option maxRecDepth 100000 in
/-- X11_kind_0 -/
theorem c_X11_kind_0 (l : Launch) (dC : Nat → ClassId) (dI : Nat → Nat → Nat) (cI cB : ClassId) (p0 : Nat) (p1 : Int32) (p2 : Nat) (p3 : Nat) (p4 : Nat) (p5 : Nat) (p6 : Nat) (p7 : Nat) (p8 : Nat) (p9 : Nat) (p10 : Nat) (p11 : Nat) (p12 : Nat) (p13 : Nat) (p14 : Nat) (p15 : Nat) (p16 : Nat) (p17 : Nat) (p18 : Nat) (p19 : Nat) (p20 : Nat) (p21 : Nat) (p22 : Nat) (p23 : Nat) (p24 : Nat) (p25 : Nat) (p26 : Nat) (p27 : Nat) (p28 : Nat) (p29 : Nat) (p30 : Nat) (p31 : Nat) (p32 : Nat) (p33 : Nat) (p34 : Nat) (p35 : Nat) (p36 : Nat) (p37 : Nat) (p38 : Nat) (sz : Nat) : Met l yX11_kind (.code yX11_kind cX11_kind 2 (some .int) :: WA) ({ frames := 1, cells := 0, slots := 0, locals := 21 }) (va_Pc [.ref p0, .int p1] (PB dC dI cI cB [(p0, .inr (11, [.int 0, .int 0, .int 0, .int 1, .long 1, .ref p2, .ref p3, .int 1, .ref p4, .int 0, .int 0, .int 1, .ref p5, .ref p6, .ref p7, .int 0, .ref p8, .int 0, .ref p9, .int 0, .int 0, .ref p10, .int 0, .ref p11, .int 0, .ref p12, .ref p13, .ref p14, .ref p15, .ref p16, .ref p17, .ref p18, .int 0, .int 0, .int 0, .int 0, .ref p19, .ref p20, .ref p21, .ref p22, .ref p23, .ref p24, .ref p25, .ref p26, .ref p27, .int 0, .int 0, .ref p28, .ref p29, .ref p30, .ref p31, .int 0, .int 0, .int 0, .int 0, .int 0, .int 0, .int 0, .int 0, .int 0, .int 0, .int 0, .int (-1), .int 0, .ref p32, .ref p33, .int 0, .ref p34, .ref p35, .ref p36, .ref p37, .int 0, .int (-1), .int 0, .int 0, .ref p38]))] sz)) (va_Qi (fun (r : Int32) (_ : Unit) => r = (-1)) (fun _ _ => True) (va_A [(p0, .inr (11, [.int 0, .int 0, .int 0, .int 1, .long 1, .ref p2, .ref p3, .int 1, .ref p4, .int 0, .int 0, .int 1, .ref p5, .ref p6, .ref p7, .int 0, .ref p8, .int 0, .ref p9, .int 0, .int 0, .ref p10, .int 0, .ref p11, .int 0, .ref p12, .ref p13, .ref p14, .ref p15, .ref p16, .ref p17, .ref p18, .int 0, .int 0, .int 0, .int 0, .ref p19, .ref p20, .ref p21, .ref p22, .ref p23, .ref p24, .ref p25, .ref p26, .ref p27, .int 0, .int 0, .ref p28, .ref p29, .ref p30, .ref p31, .int 0, .int 0, .int 0, .int 0, .int 0, .int 0, .int 0, .int 0, .int 0, .int 0, .int 0, .int (-1), .int 0, .ref p32, .ref p33, .int 0, .ref p34, .ref p35, .ref p36, .ref p37, .int 0, .int (-1), .int 0, .int 0, .ref p38]))] sz)) 0 0 (va_A [(p0, .inr (11, [.int 0, .int 0, .int 0, .int 1, .long 1, .ref p2, .ref p3, .int 1, .ref p4, .int 0, .int 0, .int 1, .ref p5, .ref p6, .ref p7, .int 0, .ref p8, .int 0, .ref p9, .int 0, .int 0, .ref p10, .int 0, .ref p11, .int 0, .ref p12, .ref p13, .ref p14, .ref p15, .ref p16, .ref p17, .ref p18, .int 0, .int 0, .int 0, .int 0, .ref p19, .ref p20, .ref p21, .ref p22, .ref p23, .ref p24, .ref p25, .ref p26, .ref p27, .int 0, .int 0, .ref p28, .ref p29, .ref p30, .ref p31, .int 0, .int 0, .int 0, .int 0, .int 0, .int 0, .int 0, .int 0, .int 0, .int 0, .int 0, .int (-1), .int 0, .ref p32, .ref p33, .int 0, .ref p34, .ref p35, .ref p36, .ref p37, .int 0, .int (-1), .int 0, .int 0, .ref p38]))] sz) := by
  refine Met.ofW (cc := cX11_kind) (maxL := 2) (ret := (some .int)) (by decide) rfl ?_
  intro p e s m args below meth c s₁ B hml hv
  obtain ⟨rfl, hsz, hP, hK, hD0, hN⟩ := hv
  have hx := B.exec
  have hb := B.bytes
  have hr := B.returns
  have hts := atoms_spec B.pre
  have hW : ∀ w ∈ WA, w.before [.ref p0, .int p1].toArray s = true := fun w h => hts w (List.mem_cons_of_mem _ h)
  have hown : s.vm.findClass RX11 = some m.cls := findClass_of_methodNamed B.named
  have hlocks := B.notSynchronized
  subst hsz
  have hD := hD0.self (sz := s.heap.size)
  generalize hAe : va_A [(p0, .inr (11, [.int 0, .int 0, .int 0, .int 1, .long 1, .ref p2, .ref p3, .int 1, .ref p4, .int 0, .int 0, .int 1, .ref p5, .ref p6, .ref p7, .int 0, .ref p8, .int 0, .ref p9, .int 0, .int 0, .ref p10, .int 0, .ref p11, .int 0, .ref p12, .ref p13, .ref p14, .ref p15, .ref p16, .ref p17, .ref p18, .int 0, .int 0, .int 0, .int 0, .ref p19, .ref p20, .ref p21, .ref p22, .ref p23, .ref p24, .ref p25, .ref p26, .ref p27, .int 0, .int 0, .ref p28, .ref p29, .ref p30, .ref p31, .int 0, .int 0, .int 0, .int 0, .int 0, .int 0, .int 0, .int 0, .int 0, .int 0, .int 0, .int (-1), .int 0, .ref p32, .ref p33, .int 0, .ref p34, .ref p35, .ref p36, .ref p37, .int 0, .int (-1), .int 0, .int 0, .ref p38]))] s.heap.size = A at hD ⊢
  have hA : ∀ q : Nat, s.heap.size ≤ q → A q := fun q h => by rw [← hAe]; exact Or.inr h
  have hS : va_S A s.heap s.heap [] := va_S.rf
  have hP : va_P (dC, dI) vwCl [(p0, .inr (11, [.int 0, .int 0, .int 0, .int 1, .long 1, .ref p2, .ref p3, .int 1, .ref p4, .int 0, .int 0, .int 1, .ref p5, .ref p6, .ref p7, .int 0, .ref p8, .int 0, .ref p9, .int 0, .int 0, .ref p10, .int 0, .ref p11, .int 0, .ref p12, .ref p13, .ref p14, .ref p15, .ref p16, .ref p17, .ref p18, .int 0, .int 0, .int 0, .int 0, .ref p19, .ref p20, .ref p21, .ref p22, .ref p23, .ref p24, .ref p25, .ref p26, .ref p27, .int 0, .int 0, .ref p28, .ref p29, .ref p30, .ref p31, .int 0, .int 0, .int 0, .int 0, .int 0, .int 0, .int 0, .int 0, .int 0, .int 0, .int 0, .int (-1), .int 0, .ref p32, .ref p33, .int 0, .ref p34, .ref p35, .ref p36, .ref p37, .int 0, .int (-1), .int 0, .int 0, .ref p38]))] s.heap := hP
  have hl := lv_entry ([.ref p0, .int p1]) (n := 2) (Nat.le_of_ble_eq_true rfl)
  rw [lg_entry_eq]
  generalize (lg_sl ([.ref p0, .int p1]) ++ List.replicate (2 - (lg_sl ([.ref p0, .int p1])).length) Slot.unset).toArray = ls at hl ⊢
  have hl : lv_has ls 2 [(0, .ref p0), (1, .int p1)] := hl
  refine lv_aload_n hx hb dX11_kind_0 rfl (lv_at hl 0 rfl) ?_
  refine lv_iload_n hx hb dX11_kind_1 rfl (lv_at hl 1 rfl) ?_
  have hPc := hP.sub (ws' := [(p0, .inr (11, [.int 0, .int 0, .int 0, .int 1, .long 1, .ref p2, .ref p3, .int 1, .ref p4, .int 0, .int 0, .int 1, .ref p5, .ref p6, .ref p7, .int 0, .ref p8, .int 0, .ref p9, .int 0, .int 0, .ref p10, .int 0, .ref p11, .int 0, .ref p12, .ref p13, .ref p14, .ref p15, .ref p16, .ref p17, .ref p18, .int 0, .int 0, .int 0, .int 0, .ref p19, .ref p20, .ref p21, .ref p22, .ref p23, .ref p24, .ref p25, .ref p26, .ref p27, .int 0, .int 0, .ref p28, .ref p29, .ref p30, .ref p31, .int 0, .int 0, .int 0, .int 0, .int 0, .int 0, .int 0, .int 0, .int 0, .int 0, .int 0, .int (-1), .int 0, .ref p32, .ref p33, .int 0, .ref p34, .ref p35, .ref p36, .ref p37, .int 0, .int (-1), .int 0, .int 0, .ref p38]))]) [0] rfl
  have hDc := hD.sub (ws' := [(p0, .inr (11, [.int 0, .int 0, .int 0, .int 1, .long 1, .ref p2, .ref p3, .int 1, .ref p4, .int 0, .int 0, .int 1, .ref p5, .ref p6, .ref p7, .int 0, .ref p8, .int 0, .ref p9, .int 0, .int 0, .ref p10, .int 0, .ref p11, .int 0, .ref p12, .ref p13, .ref p14, .ref p15, .ref p16, .ref p17, .ref p18, .int 0, .int 0, .int 0, .int 0, .ref p19, .ref p20, .ref p21, .ref p22, .ref p23, .ref p24, .ref p25, .ref p26, .ref p27, .int 0, .int 0, .ref p28, .ref p29, .ref p30, .ref p31, .int 0, .int 0, .int 0, .int 0, .int 0, .int 0, .int 0, .int 0, .int 0, .int 0, .int 0, .int (-1), .int 0, .ref p32, .ref p33, .int 0, .ref p34, .ref p35, .ref p36, .ref p37, .int 0, .int (-1), .int 0, .int 0, .ref p38]))]) [0] (by decide) rfl
  have hFc := va_free (wc := [(p0, .inr (11, [.int 0, .int 0, .int 0, .int 1, .long 1, .ref p2, .ref p3, .int 1, .ref p4, .int 0, .int 0, .int 1, .ref p5, .ref p6, .ref p7, .int 0, .ref p8, .int 0, .ref p9, .int 0, .int 0, .ref p10, .int 0, .ref p11, .int 0, .ref p12, .ref p13, .ref p14, .ref p15, .ref p16, .ref p17, .ref p18, .int 0, .int 0, .int 0, .int 0, .ref p19, .ref p20, .ref p21, .ref p22, .ref p23, .ref p24, .ref p25, .ref p26, .ref p27, .int 0, .int 0, .ref p28, .ref p29, .ref p30, .ref p31, .int 0, .int 0, .int 0, .int 0, .int 0, .int 0, .int 0, .int 0, .int 0, .int 0, .int 0, .int (-1), .int 0, .ref p32, .ref p33, .int 0, .ref p34, .ref p35, .ref p36, .ref p37, .int 0, .int (-1), .int 0, .int 0, .ref p38]))]) hD hS hA [0] rfl
  refine va_calli (va_runV (As := [.int p1]) (rest := []) ⟨hx, hb, hml, hown, hW⟩ (c_X11_viewed_0 l dC dI cI cB p0 p1 p2 p3 p4 p5 p6 p7 p8 p9 p10 p11 p12 p13 p14 p15 p16 p17 p18 p19 p20 p21 p22 p23 p24 p25 p26 p27 p28 p29 p30 p31 p32 p33 p34 p35 p36 p37 p38 s.heap.size) (cwV 1 hW (gV mw_413 mw_414 mw_415 mw_142 mw_412) rfl rfl rfl (by decide +kernel) ⟨Nat.le_of_ble_eq_true rfl, Nat.le_of_ble_eq_true rfl⟩) ⟨PB_blind _, va_recv hK hP (ci := 11) (q0 := 0) rfl rfl, fun U hU hW2 => ⟨rfl, PB_at hU hW2 hPc hK hDc hN⟩⟩ rfl rfl hl.1 rfl (lv_room (Nat.le_of_ble_eq_true rfl)) dX11_kind_2 ⟨Nat.le_of_ble_eq_true rfl, Nat.le_of_ble_eq_true rfl⟩) hS (fun q _ h => hFc q h) hFc (fun r u t H1 locs ht hvm hw hB hz1 hk1 hS => ?_)
  have hq := hB
  obtain ⟨hP, hD⟩ := after (wr := []) (w1 := [(p0, .inr (11, [.int 0, .int 0, .int 0, .int 1, .long 1, .ref p2, .ref p3, .int 1, .ref p4, .int 0, .int 0, .int 1, .ref p5, .ref p6, .ref p7, .int 0, .ref p8, .int 0, .ref p9, .int 0, .int 0, .ref p10, .int 0, .ref p11, .int 0, .ref p12, .ref p13, .ref p14, .ref p15, .ref p16, .ref p17, .ref p18, .int 0, .int 0, .int 0, .int 0, .ref p19, .ref p20, .ref p21, .ref p22, .ref p23, .ref p24, .ref p25, .ref p26, .ref p27, .int 0, .int 0, .ref p28, .ref p29, .ref p30, .ref p31, .int 0, .int 0, .int 0, .int 0, .int 0, .int 0, .int 0, .int 0, .int 0, .int 0, .int 0, .int (-1), .int 0, .ref p32, .ref p33, .int 0, .ref p34, .ref p35, .ref p36, .ref p37, .int 0, .int (-1), .int 0, .int 0, .ref p38]))]) hP hD [0] [] rfl rfl (by decide) (by decide) hk1 hFc ht hq
  generalize H1 = H at hP hS ⊢
  have hP : va_P (dC, dI) vwCl [(p0, .inr (11, [.int 0, .int 0, .int 0, .int 1, .long 1, .ref p2, .ref p3, .int 1, .ref p4, .int 0, .int 0, .int 1, .ref p5, .ref p6, .ref p7, .int 0, .ref p8, .int 0, .ref p9, .int 0, .int 0, .ref p10, .int 0, .ref p11, .int 0, .ref p12, .ref p13, .ref p14, .ref p15, .ref p16, .ref p17, .ref p18, .int 0, .int 0, .int 0, .int 0, .ref p19, .ref p20, .ref p21, .ref p22, .ref p23, .ref p24, .ref p25, .ref p26, .ref p27, .int 0, .int 0, .ref p28, .ref p29, .ref p30, .ref p31, .int 0, .int 0, .int 0, .int 0, .int 0, .int 0, .int 0, .int 0, .int 0, .int 0, .int 0, .int (-1), .int 0, .ref p32, .ref p33, .int 0, .ref p34, .ref p35, .ref p36, .ref p37, .int 0, .int (-1), .int 0, .int 0, .ref p38]))] H := hP
  have hD : va_D A [(p0, .inr (11, [.int 0, .int 0, .int 0, .int 1, .long 1, .ref p2, .ref p3, .int 1, .ref p4, .int 0, .int 0, .int 1, .ref p5, .ref p6, .ref p7, .int 0, .ref p8, .int 0, .ref p9, .int 0, .int 0, .ref p10, .int 0, .ref p11, .int 0, .ref p12, .ref p13, .ref p14, .ref p15, .ref p16, .ref p17, .ref p18, .int 0, .int 0, .int 0, .int 0, .ref p19, .ref p20, .ref p21, .ref p22, .ref p23, .ref p24, .ref p25, .ref p26, .ref p27, .int 0, .int 0, .ref p28, .ref p29, .ref p30, .ref p31, .int 0, .int 0, .int 0, .int 0, .int 0, .int 0, .int 0, .int 0, .int 0, .int 0, .int 0, .int (-1), .int 0, .ref p32, .ref p33, .int 0, .ref p34, .ref p35, .ref p36, .ref p37, .int 0, .int (-1), .int 0, .int 0, .ref p38]))] := hD
  refine tp_i 0 hw ?_
  refine lv_if_ne (tgt := 10) hx hb dX11_kind_5 (by decide) (fun c => absurd (by decide) c) (fun _ => ?_)
  refine lv_iconst (v := (-1)) hx hb dX11_kind_8 (by decide) ?_
  refine W.widen (k := 0) (n := 0) (Nat.le_of_ble_eq_true rfl) (Nat.le_of_ble_eq_true rfl) ?_
  exact W.iret (v := (-1)) hx hb hr (fun t ht hW9 => ⟨⟨(-1), (), rfl, rfl, trivial⟩, hS.F ht⟩) hS.2.2 dX11_kind_9
