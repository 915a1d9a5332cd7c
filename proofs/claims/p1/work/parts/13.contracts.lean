set_option maxHeartbeats 4000000 in
set_option maxRecDepth 100000 in
/-- X10_trim_0 -/
theorem c_X10_trim_0 (l : Launch) (dC : Nat → ClassId) (dI : Nat → Nat → Nat) (cI cB : ClassId) (p0 : Nat) (p1 : Int32) (p2 : Nat) (p3 : Nat) (p4 : Nat) (p5 : Nat) (p6 : Nat) (p7 : Nat) (p8 : Nat) (p9 : Nat) (sz : Nat) : Met l yX10_trim (.code yX10_trim cX10_trim 2 (some .int) :: WA) ({ frames := 0, cells := 0, slots := 0, locals := 0 }) (va_Pc [.ref p0, .int p1] (PB dC dI cI cB [(p0, .inr (10, [.ref p2, .ref p3, .ref p4, .ref p5, .ref p6, .ref p7, .ref p8, .ref p9, .int 0, .int 0, .int (-1)]))] sz)) (va_Qi (fun (r : Int32) (_ : Unit) => r = trimA p1) (fun _ _ => True) (va_A [(p0, .inr (10, [.ref p2, .ref p3, .ref p4, .ref p5, .ref p6, .ref p7, .ref p8, .ref p9, .int 0, .int 0, .int (-1)]))] sz)) 0 0 (va_A [(p0, .inr (10, [.ref p2, .ref p3, .ref p4, .ref p5, .ref p6, .ref p7, .ref p8, .ref p9, .int 0, .int 0, .int (-1)]))] sz) := by
  refine Met.ofW (cc := cX10_trim) (maxL := 2) (ret := (some .int)) (by decide) rfl ?_
  intro p e s m args below meth c s₁ B hml hv
  obtain ⟨rfl, hsz, hP, hK, hD0, hN⟩ := hv
  have hx := B.exec
  have hb := B.bytes
  have hr := B.returns
  have hts := atoms_spec B.pre
  have hW : ∀ w ∈ WA, w.before [.ref p0, .int p1].toArray s = true := fun w h => hts w (List.mem_cons_of_mem _ h)
  have hown : s.vm.findClass RX10 = some m.cls := findClass_of_methodNamed B.named
  have hlocks := B.notSynchronized
  subst hsz
  have hD := hD0.self (sz := s.heap.size)
  generalize hAe : va_A [(p0, .inr (10, [.ref p2, .ref p3, .ref p4, .ref p5, .ref p6, .ref p7, .ref p8, .ref p9, .int 0, .int 0, .int (-1)]))] s.heap.size = A at hD ⊢
  have hA : ∀ q : Nat, s.heap.size ≤ q → A q := fun q h => by rw [← hAe]; exact Or.inr h
  have hS : va_S A s.heap s.heap [] := va_S.rf
  have hP : va_P (dC, dI) vwCl [(p0, .inr (10, [.ref p2, .ref p3, .ref p4, .ref p5, .ref p6, .ref p7, .ref p8, .ref p9, .int 0, .int 0, .int (-1)]))] s.heap := hP
  have hl := lv_entry ([.ref p0, .int p1]) (n := 2) (Nat.le_of_ble_eq_true rfl)
  rw [lg_entry_eq]
  generalize (lg_sl ([.ref p0, .int p1]) ++ List.replicate (2 - (lg_sl ([.ref p0, .int p1])).length) Slot.unset).toArray = ls at hl ⊢
  have hl : lv_has ls 2 [(0, .ref p0), (1, .int p1)] := hl
  refine lv_iload_n hx hb dX10_trim_0 rfl (lv_at hl 1 rfl) ?_
  refine lv_if_lt (tgt := 12) hx hb dX10_trim_1 (by decide) (fun c1_1 => ?_) (fun c1_1 => ?_)
  · refine lv_iconst (v := (-1)) hx hb dX10_trim_12 (by decide) ?_
    refine W.widen (k := 0) (n := 0) (Nat.le_of_ble_eq_true rfl) (Nat.le_of_ble_eq_true rfl) ?_
    exact W.iret (v := (-1)) hx hb hr (fun t ht hW9 => ⟨⟨(-1), (), rfl, (by have k0 := f_lt (m := 0) rfl (by decide) c1_1; have t0 : (0 : Int32).toInt = 0 := (by decide); have t1 : (1 : Int32).toInt = 1 := (by decide); have t2 : ((-1) : Int32).toInt = (-1) := (by decide); show ((-1) : Int32) = trimA p1; apply Int32.toInt_inj.mp; unfold trimA; (repeat' split) <;> first | rfl | omega), trivial⟩, hS.F ht⟩) hS.2.2 dX10_trim_13
  · refine lv_iload_n hx hb dX10_trim_4 rfl (lv_at hl 1 rfl) ?_
    refine lv_aload_n hx hb dX10_trim_5 rfl (lv_at hl 0 rfl) ?_
    refine va_get (D := (dC, dI)) (ci := 10) (v := .int 0) (C := RX10) (T := TX10) (N := 11) hx hb hW iW_10 hown hK hP 0 rfl rfl 8 (by decide) (hW _ mw_194) (fun _ h9 => h9) rfl dX10_trim_6 ?_
    refine lv_icmp_le (tgt := 14) hx hb dX10_trim_9 (by decide) (fun c9_2 => ?_) (fun c9_2 => ?_)
    · refine lv_aload_n hx hb dX10_trim_14 rfl (lv_at hl 0 rfl) ?_
      refine lv_iload_n hx hb dX10_trim_15 rfl (lv_at hl 1 rfl) ?_
      refine va_put (D := (dC, dI)) (ci := 10) (v := .int p1) (ty := .int) (C := RX10) (T := TX10) (N := 11) hx hb hW iW_10 tyX10 tyX10_ok nmX10 hown hK hP hD hS 0 rfl rfl 8 (by decide) (hW _ mw_194) (fun _ h9 => h9) rfl (by decide +kernel) rfl rfl (Nat.le_of_ble_eq_true rfl) dX10_trim_16 (fun H locs hP hD hS => ?_)
      have hP : va_P (dC, dI) vwCl [(p0, .inr (10, [.ref p2, .ref p3, .ref p4, .ref p5, .ref p6, .ref p7, .ref p8, .ref p9, .int p1, .int 0, .int (-1)]))] H := hP
      have hD : va_D A [(p0, .inr (10, [.ref p2, .ref p3, .ref p4, .ref p5, .ref p6, .ref p7, .ref p8, .ref p9, .int p1, .int 0, .int (-1)]))] := hD
      refine lv_iload_n hx hb dX10_trim_19 rfl (lv_at hl 1 rfl) ?_
      refine W.widen (k := 0) (n := 0) (Nat.le_of_ble_eq_true rfl) (Nat.le_of_ble_eq_true rfl) ?_
      exact W.iret (v := p1) hx hb hr (fun t ht hW9 => ⟨⟨p1, (), rfl, (by have k0 := f_nlt (m := 0) rfl (by decide) c1_1; have k1 := f_le (m := 0) rfl (by decide) c9_2; have t0 : (0 : Int32).toInt = 0 := (by decide); have t1 : (1 : Int32).toInt = 1 := (by decide); have t2 : ((-1) : Int32).toInt = (-1) := (by decide); show (p1 : Int32) = trimA p1; apply Int32.toInt_inj.mp; unfold trimA; (repeat' split) <;> first | rfl | omega), trivial⟩, hS.F ht⟩) hS.2.2 dX10_trim_20
    · refine lv_iconst (v := (-1)) hx hb dX10_trim_12 (by decide) ?_
      refine W.widen (k := 0) (n := 0) (Nat.le_of_ble_eq_true rfl) (Nat.le_of_ble_eq_true rfl) ?_
      exact W.iret (v := (-1)) hx hb hr (fun t ht hW9 => ⟨⟨(-1), (), rfl, (by have k0 := f_nlt (m := 0) rfl (by decide) c1_1; have k1 := f_nle (m := 0) rfl (by decide) c9_2; have t0 : (0 : Int32).toInt = 0 := (by decide); have t1 : (1 : Int32).toInt = 1 := (by decide); have t2 : ((-1) : Int32).toInt = (-1) := (by decide); show ((-1) : Int32) = trimA p1; apply Int32.toInt_inj.mp; unfold trimA; (repeat' split) <;> first | rfl | omega), trivial⟩, hS.F ht⟩) hS.2.2 dX10_trim_13

set_option maxHeartbeats 4000000 in
set_option maxRecDepth 100000 in
/-- X11_trim_0 -/
theorem c_X11_trim_0 (l : Launch) (dC : Nat → ClassId) (dI : Nat → Nat → Nat) (cI cB : ClassId) (p0 : Nat) (p1 : Int32) (p2 : Nat) (p3 : Nat) (p4 : Nat) (p5 : Nat) (p6 : Nat) (p7 : Nat) (p8 : Nat) (p9 : Nat) (p10 : Nat) (p11 : Nat) (p12 : Nat) (p13 : Nat) (p14 : Nat) (p15 : Nat) (p16 : Nat) (p17 : Nat) (p18 : Nat) (p19 : Nat) (p20 : Nat) (p21 : Nat) (p22 : Nat) (p23 : Nat) (p24 : Nat) (p25 : Nat) (p26 : Nat) (p27 : Nat) (p28 : Nat) (p29 : Nat) (p30 : Nat) (p31 : Nat) (p32 : Nat) (p33 : Nat) (p34 : Nat) (p35 : Nat) (p36 : Nat) (p37 : Nat) (p38 : Nat) (sz : Nat) : Met l yX11_trim (.code yX11_trim cX11_trim 2 (some .int) :: WA) ({ frames := 0, cells := 0, slots := 0, locals := 0 }) (va_Pc [.ref p0, .int p1] (PB dC dI cI cB [(p0, .inr (11, [.int 0, .int 0, .int 0, .int 1, .long 1, .ref p2, .ref p3, .int 1, .ref p4, .int 0, .int 0, .int 1, .ref p5, .ref p6, .ref p7, .int 0, .ref p8, .int 0, .ref p9, .int 0, .int 0, .ref p10, .int 0, .ref p11, .int 0, .ref p12, .ref p13, .ref p14, .ref p15, .ref p16, .ref p17, .ref p18, .int 0, .int 0, .int 0, .int 0, .ref p19, .ref p20, .ref p21, .ref p22, .ref p23, .ref p24, .ref p25, .ref p26, .ref p27, .int 0, .int 0, .ref p28, .ref p29, .ref p30, .ref p31, .int 0, .int 0, .int 0, .int 0, .int 0, .int 0, .int 0, .int 0, .int 0, .int 0, .int 0, .int (-1), .int 0, .ref p32, .ref p33, .int 0, .ref p34, .ref p35, .ref p36, .ref p37, .int 0, .int (-1), .int 0, .int 0, .ref p38]))] sz)) (va_Qi (fun (r : Int32) (_ : Unit) => r = trimA p1) (fun _ _ => True) (va_A [(p0, .inr (11, [.int 0, .int 0, .int 0, .int 1, .long 1, .ref p2, .ref p3, .int 1, .ref p4, .int 0, .int 0, .int 1, .ref p5, .ref p6, .ref p7, .int 0, .ref p8, .int 0, .ref p9, .int 0, .int 0, .ref p10, .int 0, .ref p11, .int 0, .ref p12, .ref p13, .ref p14, .ref p15, .ref p16, .ref p17, .ref p18, .int 0, .int 0, .int 0, .int 0, .ref p19, .ref p20, .ref p21, .ref p22, .ref p23, .ref p24, .ref p25, .ref p26, .ref p27, .int 0, .int 0, .ref p28, .ref p29, .ref p30, .ref p31, .int 0, .int 0, .int 0, .int 0, .int 0, .int 0, .int 0, .int 0, .int 0, .int 0, .int 0, .int (-1), .int 0, .ref p32, .ref p33, .int 0, .ref p34, .ref p35, .ref p36, .ref p37, .int 0, .int (-1), .int 0, .int 0, .ref p38]))] sz)) 0 0 (va_A [(p0, .inr (11, [.int 0, .int 0, .int 0, .int 1, .long 1, .ref p2, .ref p3, .int 1, .ref p4, .int 0, .int 0, .int 1, .ref p5, .ref p6, .ref p7, .int 0, .ref p8, .int 0, .ref p9, .int 0, .int 0, .ref p10, .int 0, .ref p11, .int 0, .ref p12, .ref p13, .ref p14, .ref p15, .ref p16, .ref p17, .ref p18, .int 0, .int 0, .int 0, .int 0, .ref p19, .ref p20, .ref p21, .ref p22, .ref p23, .ref p24, .ref p25, .ref p26, .ref p27, .int 0, .int 0, .ref p28, .ref p29, .ref p30, .ref p31, .int 0, .int 0, .int 0, .int 0, .int 0, .int 0, .int 0, .int 0, .int 0, .int 0, .int 0, .int (-1), .int 0, .ref p32, .ref p33, .int 0, .ref p34, .ref p35, .ref p36, .ref p37, .int 0, .int (-1), .int 0, .int 0, .ref p38]))] sz) := by
  refine Met.ofW (cc := cX11_trim) (maxL := 2) (ret := (some .int)) (by decide) rfl ?_
  intro p e s m args below meth c s₁ B hml hv
  obtain ⟨rfl, hsz, hP, hK, hD0, hN⟩ := hv
  have hx := B.exec
  have hb := B.bytes
  have hr := B.returns
  have hts := atoms_spec B.pre
  have hW : ∀ w ∈ WA, w.before [.ref p0, .int p1].toArray s = true := fun w h => hts w (List.mem_cons_of_mem _ h)
  have hown : s.vm.findClass RX11 = some m.cls := findClass_of_methodNamed B.named
  have hlocks := B.notSynchronized
  subst hsz
  have hD := hD0.self (sz := s.heap.size)
  generalize hAe : va_A [(p0, .inr (11, [.int 0, .int 0, .int 0, .int 1, .long 1, .ref p2, .ref p3, .int 1, .ref p4, .int 0, .int 0, .int 1, .ref p5, .ref p6, .ref p7, .int 0, .ref p8, .int 0, .ref p9, .int 0, .int 0, .ref p10, .int 0, .ref p11, .int 0, .ref p12, .ref p13, .ref p14, .ref p15, .ref p16, .ref p17, .ref p18, .int 0, .int 0, .int 0, .int 0, .ref p19, .ref p20, .ref p21, .ref p22, .ref p23, .ref p24, .ref p25, .ref p26, .ref p27, .int 0, .int 0, .ref p28, .ref p29, .ref p30, .ref p31, .int 0, .int 0, .int 0, .int 0, .int 0, .int 0, .int 0, .int 0, .int 0, .int 0, .int 0, .int (-1), .int 0, .ref p32, .ref p33, .int 0, .ref p34, .ref p35, .ref p36, .ref p37, .int 0, .int (-1), .int 0, .int 0, .ref p38]))] s.heap.size = A at hD ⊢
  have hA : ∀ q : Nat, s.heap.size ≤ q → A q := fun q h => by rw [← hAe]; exact Or.inr h
  have hS : va_S A s.heap s.heap [] := va_S.rf
  have hP : va_P (dC, dI) vwCl [(p0, .inr (11, [.int 0, .int 0, .int 0, .int 1, .long 1, .ref p2, .ref p3, .int 1, .ref p4, .int 0, .int 0, .int 1, .ref p5, .ref p6, .ref p7, .int 0, .ref p8, .int 0, .ref p9, .int 0, .int 0, .ref p10, .int 0, .ref p11, .int 0, .ref p12, .ref p13, .ref p14, .ref p15, .ref p16, .ref p17, .ref p18, .int 0, .int 0, .int 0, .int 0, .ref p19, .ref p20, .ref p21, .ref p22, .ref p23, .ref p24, .ref p25, .ref p26, .ref p27, .int 0, .int 0, .ref p28, .ref p29, .ref p30, .ref p31, .int 0, .int 0, .int 0, .int 0, .int 0, .int 0, .int 0, .int 0, .int 0, .int 0, .int 0, .int (-1), .int 0, .ref p32, .ref p33, .int 0, .ref p34, .ref p35, .ref p36, .ref p37, .int 0, .int (-1), .int 0, .int 0, .ref p38]))] s.heap := hP
  have hl := lv_entry ([.ref p0, .int p1]) (n := 2) (Nat.le_of_ble_eq_true rfl)
  rw [lg_entry_eq]
  generalize (lg_sl ([.ref p0, .int p1]) ++ List.replicate (2 - (lg_sl ([.ref p0, .int p1])).length) Slot.unset).toArray = ls at hl ⊢
  have hl : lv_has ls 2 [(0, .ref p0), (1, .int p1)] := hl
  refine lv_iload_n hx hb dX11_trim_0 rfl (lv_at hl 1 rfl) ?_
  refine lv_if_lt (tgt := 12) hx hb dX11_trim_1 (by decide) (fun c1_1 => ?_) (fun c1_1 => ?_)
  · refine lv_iconst (v := (-1)) hx hb dX11_trim_12 (by decide) ?_
    refine W.widen (k := 0) (n := 0) (Nat.le_of_ble_eq_true rfl) (Nat.le_of_ble_eq_true rfl) ?_
    exact W.iret (v := (-1)) hx hb hr (fun t ht hW9 => ⟨⟨(-1), (), rfl, (by have k0 := f_lt (m := 0) rfl (by decide) c1_1; have t0 : (0 : Int32).toInt = 0 := (by decide); have t1 : (1 : Int32).toInt = 1 := (by decide); have t2 : ((-1) : Int32).toInt = (-1) := (by decide); show ((-1) : Int32) = trimA p1; apply Int32.toInt_inj.mp; unfold trimA; (repeat' split) <;> first | rfl | omega), trivial⟩, hS.F ht⟩) hS.2.2 dX11_trim_13
  · refine lv_iload_n hx hb dX11_trim_4 rfl (lv_at hl 1 rfl) ?_
    refine lv_aload_n hx hb dX11_trim_5 rfl (lv_at hl 0 rfl) ?_
    refine va_get (D := (dC, dI)) (ci := 11) (v := .int 0) (C := RX11) (T := TX11) (N := 76) hx hb hW iW_11 hown hK hP 0 rfl rfl 71 (by decide) (hW _ mw_203) (fun _ h9 => h9) rfl dX11_trim_6 ?_
    refine lv_icmp_le (tgt := 14) hx hb dX11_trim_9 (by decide) (fun c9_2 => ?_) (fun c9_2 => ?_)
    · refine lv_aload_n hx hb dX11_trim_14 rfl (lv_at hl 0 rfl) ?_
      refine lv_iload_n hx hb dX11_trim_15 rfl (lv_at hl 1 rfl) ?_
      refine va_put (D := (dC, dI)) (ci := 11) (v := .int p1) (ty := .int) (C := RX11) (T := TX11) (N := 76) hx hb hW iW_11 tyX11 tyX11_ok nmX11 hown hK hP hD hS 0 rfl rfl 71 (by decide) (hW _ mw_203) (fun _ h9 => h9) rfl (by decide +kernel) rfl rfl (Nat.le_of_ble_eq_true rfl) dX11_trim_16 (fun H locs hP hD hS => ?_)
      have hP : va_P (dC, dI) vwCl [(p0, .inr (11, [.int 0, .int 0, .int 0, .int 1, .long 1, .ref p2, .ref p3, .int 1, .ref p4, .int 0, .int 0, .int 1, .ref p5, .ref p6, .ref p7, .int 0, .ref p8, .int 0, .ref p9, .int 0, .int 0, .ref p10, .int 0, .ref p11, .int 0, .ref p12, .ref p13, .ref p14, .ref p15, .ref p16, .ref p17, .ref p18, .int 0, .int 0, .int 0, .int 0, .ref p19, .ref p20, .ref p21, .ref p22, .ref p23, .ref p24, .ref p25, .ref p26, .ref p27, .int 0, .int 0, .ref p28, .ref p29, .ref p30, .ref p31, .int 0, .int 0, .int 0, .int 0, .int 0, .int 0, .int 0, .int 0, .int 0, .int 0, .int 0, .int (-1), .int 0, .ref p32, .ref p33, .int 0, .ref p34, .ref p35, .ref p36, .ref p37, .int p1, .int (-1), .int 0, .int 0, .ref p38]))] H := hP
      have hD : va_D A [(p0, .inr (11, [.int 0, .int 0, .int 0, .int 1, .long 1, .ref p2, .ref p3, .int 1, .ref p4, .int 0, .int 0, .int 1, .ref p5, .ref p6, .ref p7, .int 0, .ref p8, .int 0, .ref p9, .int 0, .int 0, .ref p10, .int 0, .ref p11, .int 0, .ref p12, .ref p13, .ref p14, .ref p15, .ref p16, .ref p17, .ref p18, .int 0, .int 0, .int 0, .int 0, .ref p19, .ref p20, .ref p21, .ref p22, .ref p23, .ref p24, .ref p25, .ref p26, .ref p27, .int 0, .int 0, .ref p28, .ref p29, .ref p30, .ref p31, .int 0, .int 0, .int 0, .int 0, .int 0, .int 0, .int 0, .int 0, .int 0, .int 0, .int 0, .int (-1), .int 0, .ref p32, .ref p33, .int 0, .ref p34, .ref p35, .ref p36, .ref p37, .int p1, .int (-1), .int 0, .int 0, .ref p38]))] := hD
      refine lv_iload_n hx hb dX11_trim_19 rfl (lv_at hl 1 rfl) ?_
      refine W.widen (k := 0) (n := 0) (Nat.le_of_ble_eq_true rfl) (Nat.le_of_ble_eq_true rfl) ?_
      exact W.iret (v := p1) hx hb hr (fun t ht hW9 => ⟨⟨p1, (), rfl, (by have k0 := f_nlt (m := 0) rfl (by decide) c1_1; have k1 := f_le (m := 0) rfl (by decide) c9_2; have t0 : (0 : Int32).toInt = 0 := (by decide); have t1 : (1 : Int32).toInt = 1 := (by decide); have t2 : ((-1) : Int32).toInt = (-1) := (by decide); show (p1 : Int32) = trimA p1; apply Int32.toInt_inj.mp; unfold trimA; (repeat' split) <;> first | rfl | omega), trivial⟩, hS.F ht⟩) hS.2.2 dX11_trim_20
    · refine lv_iconst (v := (-1)) hx hb dX11_trim_12 (by decide) ?_
      refine W.widen (k := 0) (n := 0) (Nat.le_of_ble_eq_true rfl) (Nat.le_of_ble_eq_true rfl) ?_
      exact W.iret (v := (-1)) hx hb hr (fun t ht hW9 => ⟨⟨(-1), (), rfl, (by have k0 := f_nlt (m := 0) rfl (by decide) c1_1; have k1 := f_nle (m := 0) rfl (by decide) c9_2; have t0 : (0 : Int32).toInt = 0 := (by decide); have t1 : (1 : Int32).toInt = 1 := (by decide); have t2 : ((-1) : Int32).toInt = (-1) := (by decide); show ((-1) : Int32) = trimA p1; apply Int32.toInt_inj.mp; unfold trimA; (repeat' split) <;> first | rfl | omega), trivial⟩, hS.F ht⟩) hS.2.2 dX11_trim_13

set_option maxHeartbeats 4000000 in
set_option maxRecDepth 100000 in
/-- X7_begin_0 -/
theorem c_X7_begin_0 (l : Launch) (dC : Nat → ClassId) (dI : Nat → Nat → Nat) (cI cB : ClassId) (p0 : Nat) (sz : Nat) : Met l yX7_begin (.code yX7_begin cX7_begin 1 none :: WA) ({ frames := 0, cells := 0, slots := 0, locals := 0 }) (va_Pc [.ref p0] (PB dC dI cI cB [(p0, .inr (7, [.int 0, .int 0, .int 0, .int 1, .int 1]))] sz)) (va_Qv (fun _ : Unit => True) (fun (_ : Unit) t => QB dC dI cI cB [(p0, .inr (7, [.int 0, .int 0, .int 0, .int 1, .int 1]))] (va_A [(p0, .inr (7, [.int 0, .int 0, .int 0, .int 1, .int 1]))] sz) t) (va_A [(p0, .inr (7, [.int 0, .int 0, .int 0, .int 1, .int 1]))] sz)) 0 0 (va_A [(p0, .inr (7, [.int 0, .int 0, .int 0, .int 1, .int 1]))] sz) := by
  refine Met.ofW (cc := cX7_begin) (maxL := 1) (ret := none) (by decide) rfl ?_
  intro p e s m args below meth c s₁ B hml hv
  obtain ⟨rfl, hsz, hP, hK, hD0, hN⟩ := hv
  have hx := B.exec
  have hb := B.bytes
  have hr := B.returns
  have hts := atoms_spec B.pre
  have hW : ∀ w ∈ WA, w.before [.ref p0].toArray s = true := fun w h => hts w (List.mem_cons_of_mem _ h)
  have hown : s.vm.findClass RX7 = some m.cls := findClass_of_methodNamed B.named
  have hlocks := B.notSynchronized
  subst hsz
  have hD := hD0.self (sz := s.heap.size)
  generalize hAe : va_A [(p0, .inr (7, [.int 0, .int 0, .int 0, .int 1, .int 1]))] s.heap.size = A at hD ⊢
  have hA : ∀ q : Nat, s.heap.size ≤ q → A q := fun q h => by rw [← hAe]; exact Or.inr h
  have hS : va_S A s.heap s.heap [] := va_S.rf
  have hP : va_P (dC, dI) vwCl [(p0, .inr (7, [.int 0, .int 0, .int 0, .int 1, .int 1]))] s.heap := hP
  have hl := lv_entry ([.ref p0]) (n := 1) (Nat.le_of_ble_eq_true rfl)
  rw [lg_entry_eq]
  generalize (lg_sl ([.ref p0]) ++ List.replicate (1 - (lg_sl ([.ref p0])).length) Slot.unset).toArray = ls at hl ⊢
  have hl : lv_has ls 1 [(0, .ref p0)] := hl
  refine lv_aload_n hx hb dX7_begin_0 rfl (lv_at hl 0 rfl) ?_
  refine lv_iconst (v := 0) hx hb dX7_begin_1 (by decide) ?_
  refine va_put (D := (dC, dI)) (ci := 7) (v := .int 0) (ty := .int) (C := RX7) (T := TX7) (N := 5) hx hb hW iW_7 tyX7 tyX7_ok nmX7 hown hK hP hD hS 0 rfl rfl 0 (by decide) (hW _ mw_217) (fun _ h9 => h9) rfl (by decide +kernel) rfl rfl (Nat.le_of_ble_eq_true rfl) dX7_begin_2 (fun H locs hP hD hS => ?_)
  have hP : va_P (dC, dI) vwCl [(p0, .inr (7, [.int 0, .int 0, .int 0, .int 1, .int 1]))] H := hP
  have hD : va_D A [(p0, .inr (7, [.int 0, .int 0, .int 0, .int 1, .int 1]))] := hD
  refine lv_aload_n hx hb dX7_begin_5 rfl (lv_at hl 0 rfl) ?_
  refine lv_iconst (v := 0) hx hb dX7_begin_6 (by decide) ?_
  refine va_put (D := (dC, dI)) (ci := 7) (v := .int 0) (ty := .int) (C := RX7) (T := TX7) (N := 5) hx hb hW iW_7 tyX7 tyX7_ok nmX7 hown hK hP hD hS 0 rfl rfl 1 (by decide) (hW _ mw_218) (fun _ h9 => h9) rfl (by decide +kernel) rfl rfl (Nat.le_of_ble_eq_true rfl) dX7_begin_7 (fun H locs hP hD hS => ?_)
  have hP : va_P (dC, dI) vwCl [(p0, .inr (7, [.int 0, .int 0, .int 0, .int 1, .int 1]))] H := hP
  have hD : va_D A [(p0, .inr (7, [.int 0, .int 0, .int 0, .int 1, .int 1]))] := hD
  refine lv_aload_n hx hb dX7_begin_10 rfl (lv_at hl 0 rfl) ?_
  refine lv_iconst (v := 0) hx hb dX7_begin_11 (by decide) ?_
  refine va_put (D := (dC, dI)) (ci := 7) (v := .int 0) (ty := .int) (C := RX7) (T := TX7) (N := 5) hx hb hW iW_7 tyX7 tyX7_ok nmX7 hown hK hP hD hS 0 rfl rfl 2 (by decide) (hW _ mw_219) (fun _ h9 => h9) rfl (by decide +kernel) rfl rfl (Nat.le_of_ble_eq_true rfl) dX7_begin_12 (fun H locs hP hD hS => ?_)
  have hP : va_P (dC, dI) vwCl [(p0, .inr (7, [.int 0, .int 0, .int 0, .int 1, .int 1]))] H := hP
  have hD : va_D A [(p0, .inr (7, [.int 0, .int 0, .int 0, .int 1, .int 1]))] := hD
  have hP9 := hP.sub (ws' := [(p0, .inr (7, [.int 0, .int 0, .int 0, .int 1, .int 1]))]) [0] rfl
  have hD9 := hD.sub (ws' := [(p0, .inr (7, [.int 0, .int 0, .int 0, .int 1, .int 1]))]) [0] (by decide) rfl
  refine W.widen (k := 0) (n := 0) (Nat.le_of_ble_eq_true rfl) (Nat.le_of_ble_eq_true rfl) ?_
  exact W.vret hx hb hr (fun t ht hW9 => ⟨⟨(), rfl, trivial, ⟨by rw [ht]; exact hP9, va_K.moved hW9.alike hK, hD9⟩⟩, hS.F ht⟩) hS.2.2 dX7_begin_15

set_option maxHeartbeats 4000000 in
set_option maxRecDepth 100000 in
/-- X1_unsettle_0 -/
theorem c_X1_unsettle_0 (l : Launch) (dC : Nat → ClassId) (dI : Nat → Nat → Nat) (cI cB : ClassId) (p0 : Nat) (p1 : Nat) (p2 : Nat) (p3 : Nat) (p4 : Nat) (sz : Nat) : Met l yX1_unsettle (.code yX1_unsettle cX1_unsettle 2 none :: WA) ({ frames := 1, cells := 0, slots := 0, locals := 14 }) (va_Pc [.ref p0, .int 16] (PB dC dI cI cB [(p0, .inr (1, [.ref p1, .ref p2, .ref p3, .ref p4, .int 16, .int 0, .int 16, .int 0, .int 1]))] sz)) (va_Qv (fun _ : Unit => True) (fun (_ : Unit) t => QB dC dI cI cB [(p0, .inr (1, [.ref p1, .ref p2, .ref p3, .ref p4, .int 16, .int 0, .int 16, .int 0, .int 1]))] (va_A [(p0, .inr (1, [.ref p1, .ref p2, .ref p3, .ref p4, .int 16, .int 0, .int 16, .int 0, .int 1]))] sz) t) (va_A [(p0, .inr (1, [.ref p1, .ref p2, .ref p3, .ref p4, .int 16, .int 0, .int 16, .int 0, .int 1]))] sz)) 0 0 (va_A [(p0, .inr (1, [.ref p1, .ref p2, .ref p3, .ref p4, .int 16, .int 0, .int 16, .int 0, .int 1]))] sz) := by
  refine Met.ofW (cc := cX1_unsettle) (maxL := 2) (ret := none) (by decide) rfl ?_
  intro p e s m args below meth c s₁ B hml hv
  obtain ⟨rfl, hsz, hP, hK, hD0, hN⟩ := hv
  have hx := B.exec
  have hb := B.bytes
  have hr := B.returns
  have hts := atoms_spec B.pre
  have hW : ∀ w ∈ WA, w.before [.ref p0, .int 16].toArray s = true := fun w h => hts w (List.mem_cons_of_mem _ h)
  have hown : s.vm.findClass RX1 = some m.cls := findClass_of_methodNamed B.named
  have hlocks := B.notSynchronized
  subst hsz
  have hD := hD0.self (sz := s.heap.size)
  generalize hAe : va_A [(p0, .inr (1, [.ref p1, .ref p2, .ref p3, .ref p4, .int 16, .int 0, .int 16, .int 0, .int 1]))] s.heap.size = A at hD ⊢
  have hA : ∀ q : Nat, s.heap.size ≤ q → A q := fun q h => by rw [← hAe]; exact Or.inr h
  have hS : va_S A s.heap s.heap [] := va_S.rf
  have hP : va_P (dC, dI) vwCl [(p0, .inr (1, [.ref p1, .ref p2, .ref p3, .ref p4, .int 16, .int 0, .int 16, .int 0, .int 1]))] s.heap := hP
  have hl := lv_entry ([.ref p0, .int 16]) (n := 2) (Nat.le_of_ble_eq_true rfl)
  rw [lg_entry_eq]
  generalize (lg_sl ([.ref p0, .int 16]) ++ List.replicate (2 - (lg_sl ([.ref p0, .int 16])).length) Slot.unset).toArray = ls at hl ⊢
  have hl : lv_has ls 2 [(0, .ref p0), (1, .int 16)] := hl
  refine lv_aload_n hx hb dX1_unsettle_0 rfl (lv_at hl 0 rfl) ?_
  refine lv_bipush (v := 16) hx hb dX1_unsettle_1 (by decide) ?_
  refine lv_iload_n hx hb dX1_unsettle_3 rfl (lv_at hl 1 rfl) ?_
  refine va_mmax hx hb (by rw [hml]; exact hl.1.symm) hown (hW _ mw_223) (hW _ mw_69) (hW _ mw_70) (hW _ mw_71) (Nat.le_of_ble_eq_true rfl) (Nat.le_of_ble_eq_true rfl) (Nat.le_of_ble_eq_true rfl) (Nat.le_of_ble_eq_true rfl) dX1_unsettle_4 ?_
  refine tp_i 16 (by decide) ?_
  refine va_put (D := (dC, dI)) (ci := 1) (v := .int 16) (ty := .int) (C := RX1) (T := TX1) (N := 9) hx hb hW iW_1 tyX1 tyX1_ok nmX1 hown hK hP hD hS 0 rfl rfl 6 (by decide) (hW _ mw_24) (fun _ h9 => h9) rfl (by decide +kernel) rfl rfl (Nat.le_of_ble_eq_true rfl) dX1_unsettle_7 (fun H locs hP hD hS => ?_)
  have hP : va_P (dC, dI) vwCl [(p0, .inr (1, [.ref p1, .ref p2, .ref p3, .ref p4, .int 16, .int 0, .int 16, .int 0, .int 1]))] H := hP
  have hD : va_D A [(p0, .inr (1, [.ref p1, .ref p2, .ref p3, .ref p4, .int 16, .int 0, .int 16, .int 0, .int 1]))] := hD
  refine lv_aload_n hx hb dX1_unsettle_10 rfl (lv_at hl 0 rfl) ?_
  refine lv_iconst (v := 0) hx hb dX1_unsettle_11 (by decide) ?_
  refine va_put (D := (dC, dI)) (ci := 1) (v := .int 0) (ty := .int) (C := RX1) (T := TX1) (N := 9) hx hb hW iW_1 tyX1 tyX1_ok nmX1 hown hK hP hD hS 0 rfl rfl 5 (by decide) (hW _ mw_224) (fun _ h9 => h9) rfl (by decide +kernel) rfl rfl (Nat.le_of_ble_eq_true rfl) dX1_unsettle_12 (fun H locs hP hD hS => ?_)
  have hP : va_P (dC, dI) vwCl [(p0, .inr (1, [.ref p1, .ref p2, .ref p3, .ref p4, .int 16, .int 0, .int 16, .int 0, .int 1]))] H := hP
  have hD : va_D A [(p0, .inr (1, [.ref p1, .ref p2, .ref p3, .ref p4, .int 16, .int 0, .int 16, .int 0, .int 1]))] := hD
  have hP9 := hP.sub (ws' := [(p0, .inr (1, [.ref p1, .ref p2, .ref p3, .ref p4, .int 16, .int 0, .int 16, .int 0, .int 1]))]) [0] rfl
  have hD9 := hD.sub (ws' := [(p0, .inr (1, [.ref p1, .ref p2, .ref p3, .ref p4, .int 16, .int 0, .int 16, .int 0, .int 1]))]) [0] (by decide) rfl
  refine W.widen (k := 0) (n := 0) (Nat.le_of_ble_eq_true rfl) (Nat.le_of_ble_eq_true rfl) ?_
  exact W.vret hx hb hr (fun t ht hW9 => ⟨⟨(), rfl, trivial, ⟨by rw [ht]; exact hP9, va_K.moved hW9.alike hK, hD9⟩⟩, hS.F ht⟩) hS.2.2 dX1_unsettle_15

set_option maxHeartbeats 4000000 in
set_option maxRecDepth 100000 in
/-- X1_moved_0 -/
theorem c_X1_moved_0 (l : Launch) (dC : Nat → ClassId) (dI : Nat → Nat → Nat) (cI cB : ClassId) (p0 : Nat) (p1 : Nat) (p2 : Nat) (p3 : Nat) (p4 : Nat) (sz : Nat) : Met l yX1_moved (.code yX1_moved cX1_moved 9 (some .int) :: WA) ({ frames := 0, cells := 0, slots := 0, locals := 0 }) (va_Pc [.ref p0, .int 0] (PB dC dI cI cB [(p0, .inr (1, [.ref p1, .ref p2, .ref p3, .ref p4, .int 16, .int 0, .int 16, .int 0, .int 1]))] sz)) (va_Qi (fun (r : Int32) (_ : Unit) => r = 0) (fun (_ : Unit) t => QB dC dI cI cB [(p0, .inr (1, [.ref p1, .ref p2, .ref p3, .ref p4, .int 16, .int 0, .int 16, .int 0, .int 1]))] (va_A [(p0, .inr (1, [.ref p1, .ref p2, .ref p3, .ref p4, .int 16, .int 0, .int 16, .int 0, .int 1]))] sz) t) (va_A [(p0, .inr (1, [.ref p1, .ref p2, .ref p3, .ref p4, .int 16, .int 0, .int 16, .int 0, .int 1]))] sz)) 0 0 (va_A [(p0, .inr (1, [.ref p1, .ref p2, .ref p3, .ref p4, .int 16, .int 0, .int 16, .int 0, .int 1]))] sz) := by
  refine Met.ofW (cc := cX1_moved) (maxL := 9) (ret := (some .int)) (by decide) rfl ?_
  intro p e s m args below meth c s₁ B hml hv
  obtain ⟨rfl, hsz, hP, hK, hD0, hN⟩ := hv
  have hx := B.exec
  have hb := B.bytes
  have hr := B.returns
  have hts := atoms_spec B.pre
  have hW : ∀ w ∈ WA, w.before [.ref p0, .int 0].toArray s = true := fun w h => hts w (List.mem_cons_of_mem _ h)
  have hown : s.vm.findClass RX1 = some m.cls := findClass_of_methodNamed B.named
  have hlocks := B.notSynchronized
  subst hsz
  have hD := hD0.self (sz := s.heap.size)
  generalize hAe : va_A [(p0, .inr (1, [.ref p1, .ref p2, .ref p3, .ref p4, .int 16, .int 0, .int 16, .int 0, .int 1]))] s.heap.size = A at hD ⊢
  have hA : ∀ q : Nat, s.heap.size ≤ q → A q := fun q h => by rw [← hAe]; exact Or.inr h
  have hS : va_S A s.heap s.heap [] := va_S.rf
  have hP : va_P (dC, dI) vwCl [(p0, .inr (1, [.ref p1, .ref p2, .ref p3, .ref p4, .int 16, .int 0, .int 16, .int 0, .int 1]))] s.heap := hP
  have hl := lv_entry ([.ref p0, .int 0]) (n := 9) (Nat.le_of_ble_eq_true rfl)
  rw [lg_entry_eq]
  generalize (lg_sl ([.ref p0, .int 0]) ++ List.replicate (9 - (lg_sl ([.ref p0, .int 0])).length) Slot.unset).toArray = ls at hl ⊢
  have hl : lv_has ls 9 [(0, .ref p0), (1, .int 0)] := hl
  refine lv_iload_n hx hb dX1_moved_0 rfl (lv_at hl 1 rfl) ?_
  refine lv_aload_n hx hb dX1_moved_1 rfl (lv_at hl 0 rfl) ?_
  refine va_get (D := (dC, dI)) (ci := 1) (v := .int 16) (C := RX1) (T := TX1) (N := 9) hx hb hW iW_1 hown hK hP 0 rfl rfl 6 (by decide) (hW _ mw_24) (fun _ h9 => h9) rfl dX1_moved_2 ?_
  refine lv_icmp_ge (tgt := 10) hx hb dX1_moved_5 (by decide) (fun c => absurd c (by decide)) (fun _ => ?_)
  refine lv_iload_n hx hb dX1_moved_8 rfl (lv_at hl 1 rfl) ?_
  have hP9 := hP.sub (ws' := [(p0, .inr (1, [.ref p1, .ref p2, .ref p3, .ref p4, .int 16, .int 0, .int 16, .int 0, .int 1]))]) [0] rfl
  have hD9 := hD.sub (ws' := [(p0, .inr (1, [.ref p1, .ref p2, .ref p3, .ref p4, .int 16, .int 0, .int 16, .int 0, .int 1]))]) [0] (by decide) rfl
  refine W.widen (k := 0) (n := 0) (Nat.le_of_ble_eq_true rfl) (Nat.le_of_ble_eq_true rfl) ?_
  exact W.iret (v := 0) hx hb hr (fun t ht hW9 => ⟨⟨0, (), rfl, rfl, ⟨by rw [ht]; exact hP9, va_K.moved hW9.alike hK, hD9⟩⟩, hS.F ht⟩) hS.2.2 dX1_moved_9

set_option maxHeartbeats 4000000 in
set_option maxRecDepth 100000 in
/-- X3_firstSlot_0 -/
theorem c_X3_firstSlot_0 (l : Launch) (dC : Nat → ClassId) (dI : Nat → Nat → Nat) (cI cB : ClassId) (p0 : Nat) (sz : Nat) : Met l yX3_firstSlot (.code yX3_firstSlot cX3_firstSlot 2 (some .int) :: WA) ({ frames := 0, cells := 0, slots := 0, locals := 0 }) (va_Pc [.ref p0, .int 0] (PB dC dI cI cB [] sz)) (va_Qi (fun (r : Int32) (_ : Unit) => r = 0) (fun (_ : Unit) t => QB dC dI cI cB [] (va_A [] sz) t) (va_A [] sz)) 0 0 (va_A [] sz) := by
  refine Met.ofW (cc := cX3_firstSlot) (maxL := 2) (ret := (some .int)) (by decide) rfl ?_
  intro p e s m args below meth c s₁ B hml hv
  obtain ⟨rfl, hsz, hP, hK, hD0, hN⟩ := hv
  have hx := B.exec
  have hb := B.bytes
  have hr := B.returns
  have hts := atoms_spec B.pre
  have hW : ∀ w ∈ WA, w.before [.ref p0, .int 0].toArray s = true := fun w h => hts w (List.mem_cons_of_mem _ h)
  have hown : s.vm.findClass RX3 = some m.cls := findClass_of_methodNamed B.named
  have hlocks := B.notSynchronized
  subst hsz
  have hD := hD0.self (sz := s.heap.size)
  generalize hAe : va_A [] s.heap.size = A at hD ⊢
  have hA : ∀ q : Nat, s.heap.size ≤ q → A q := fun q h => by rw [← hAe]; exact Or.inr h
  have hS : va_S A s.heap s.heap [] := va_S.rf
  have hP : va_P (dC, dI) vwCl [] s.heap := hP
  have hl := lv_entry ([.ref p0, .int 0]) (n := 2) (Nat.le_of_ble_eq_true rfl)
  rw [lg_entry_eq]
  generalize (lg_sl ([.ref p0, .int 0]) ++ List.replicate (2 - (lg_sl ([.ref p0, .int 0])).length) Slot.unset).toArray = ls at hl ⊢
  have hl : lv_has ls 2 [(0, .ref p0), (1, .int 0)] := hl
  refine lv_iload_n hx hb dX3_firstSlot_0 rfl (lv_at hl 1 rfl) ?_
  refine lv_if_ne (tgt := 8) hx hb dX3_firstSlot_1 (by decide) (fun c => absurd (by decide) c) (fun _ => ?_)
  refine lv_iconst (v := 0) hx hb dX3_firstSlot_4 (by decide) ?_
  refine lv_goto (tgt := 17) hx hb dX3_firstSlot_5 (by decide) ?_
  have hP9 := hP.sub (ws' := []) [] rfl
  have hD9 := hD.sub (ws' := []) [] (by decide) rfl
  refine W.widen (k := 0) (n := 0) (Nat.le_of_ble_eq_true rfl) (Nat.le_of_ble_eq_true rfl) ?_
  exact W.iret (v := 0) hx hb hr (fun t ht hW9 => ⟨⟨0, (), rfl, rfl, ⟨by rw [ht]; exact hP9, va_K.moved hW9.alike hK, hD9⟩⟩, hS.F ht⟩) hS.2.2 dX3_firstSlot_17

set_option maxHeartbeats 4000000 in
set_option maxRecDepth 100000 in
/-- X10_peek_0 -/
theorem c_X10_peek_0 (l : Launch) (dC : Nat → ClassId) (dI : Nat → Nat → Nat) (cI cB : ClassId) (p0 : Nat) (sz : Nat) : Met l yX10_peek (.code yX10_peek cX10_peek 2 (some .int) :: WA) ({ frames := 0, cells := 0, slots := 0, locals := 0 }) (va_Pc [.ref p0, .int 0] (PB dC dI cI cB [(p0, .inl (cI, 41, .inl (fun _ => 0)))] sz)) (va_Qi (fun (r : Int32) (_ : Unit) => r = 0) (fun (_ : Unit) t => QB dC dI cI cB [(p0, .inl (cI, 41, .inl (fun _ => 0)))] (va_A [(p0, .inl (cI, 41, .inl (fun _ => 0)))] sz) t) (va_A [(p0, .inl (cI, 41, .inl (fun _ => 0)))] sz)) 0 0 (va_A [(p0, .inl (cI, 41, .inl (fun _ => 0)))] sz) := by
  refine Met.ofW (cc := cX10_peek) (maxL := 2) (ret := (some .int)) (by decide) rfl ?_
  intro p e s m args below meth c s₁ B hml hv
  obtain ⟨rfl, hsz, hP, hK, hD0, hN⟩ := hv
  have hx := B.exec
  have hb := B.bytes
  have hr := B.returns
  have hts := atoms_spec B.pre
  have hW : ∀ w ∈ WA, w.before [.ref p0, .int 0].toArray s = true := fun w h => hts w (List.mem_cons_of_mem _ h)
  have hown : s.vm.findClass RX10 = some m.cls := findClass_of_methodNamed B.named
  have hlocks := B.notSynchronized
  subst hsz
  have hD := hD0.self (sz := s.heap.size)
  generalize hAe : va_A [(p0, .inl (cI, 41, .inl (fun _ => 0)))] s.heap.size = A at hD ⊢
  have hA : ∀ q : Nat, s.heap.size ≤ q → A q := fun q h => by rw [← hAe]; exact Or.inr h
  have hS : va_S A s.heap s.heap [] := va_S.rf
  have hP : va_P (dC, dI) vwCl [(p0, .inl (cI, 41, .inl (fun _ => 0)))] s.heap := hP
  have hl := lv_entry ([.ref p0, .int 0]) (n := 2) (Nat.le_of_ble_eq_true rfl)
  rw [lg_entry_eq]
  generalize (lg_sl ([.ref p0, .int 0]) ++ List.replicate (2 - (lg_sl ([.ref p0, .int 0])).length) Slot.unset).toArray = ls at hl ⊢
  have hl : lv_has ls 2 [(0, .ref p0), (1, .int 0)] := hl
  refine lv_iload_n hx hb dX10_peek_0 rfl (lv_at hl 1 rfl) ?_
  refine lv_if_lt (tgt := 16) hx hb dX10_peek_1 (by decide) (fun c => absurd c (by decide)) (fun _ => ?_)
  refine lv_iload_n hx hb dX10_peek_4 rfl (lv_at hl 1 rfl) ?_
  refine lv_aload_n hx hb dX10_peek_5 rfl (lv_at hl 0 rfl) ?_
  refine va_alen (v := 41) hx hb hK hP 0 0 rfl rfl (show Int32.ofNat 41 = 41 by decide) dX10_peek_6 ?_
  refine lv_icmp_ge (tgt := 16) hx hb dX10_peek_7 (by decide) (fun c => absurd c (by decide)) (fun _ => ?_)
  refine lv_aload_n hx hb dX10_peek_10 rfl (lv_at hl 0 rfl) ?_
  refine lv_iload_n hx hb dX10_peek_11 rfl (lv_at hl 1 rfl) ?_
  refine va_iald hx hb hK hP 0 0 rfl rfl (vp_in_nI (n := 0) (N := 41) (by decide) (by decide)) dX10_peek_12 ?_
  refine tp_i 0 rfl ?_
  refine lv_goto (tgt := 17) hx hb dX10_peek_13 (by decide) ?_
  have hP9 := hP.sub (ws' := [(p0, .inl (cI, 41, .inl (fun _ => 0)))]) [0] rfl
  have hD9 := hD.sub (ws' := [(p0, .inl (cI, 41, .inl (fun _ => 0)))]) [0] (by decide) rfl
  refine W.widen (k := 0) (n := 0) (Nat.le_of_ble_eq_true rfl) (Nat.le_of_ble_eq_true rfl) ?_
  exact W.iret (v := 0) hx hb hr (fun t ht hW9 => ⟨⟨0, (), rfl, rfl, ⟨by rw [ht]; exact hP9, va_K.moved hW9.alike hK, hD9⟩⟩, hS.F ht⟩) hS.2.2 dX10_peek_17

set_option maxHeartbeats 4000000 in
set_option maxRecDepth 100000 in
/-- X8_unmake_0 -/
theorem c_X8_unmake_0 (l : Launch) (dC : Nat → ClassId) (dI : Nat → Nat → Nat) (cI cB : ClassId) (p0 : Nat) (p1 : Nat) (p2 : Nat) (p3 : Nat) (sz : Nat) : Met l yX8_unmake (.code yX8_unmake cX8_unmake 4 none :: WA) ({ frames := 0, cells := 0, slots := 0, locals := 0 }) (va_Pc [.ref p0, .int 16] (PB dC dI cI cB [(p0, .inr (8, [.ref p1, .ref p2, .ref p3, .int 0, .int 0, .int 0, .int 0, .int (-1)]))] sz)) (va_Qv (fun _ : Unit => True) (fun (_ : Unit) t => QB dC dI cI cB [(p0, .inr (8, [.ref p1, .ref p2, .ref p3, .int 0, .int 0, .int 0, .int 0, .int (-1)]))] (va_A [(p0, .inr (8, [.ref p1, .ref p2, .ref p3, .int 0, .int 0, .int 0, .int 0, .int (-1)]))] sz) t) (va_A [(p0, .inr (8, [.ref p1, .ref p2, .ref p3, .int 0, .int 0, .int 0, .int 0, .int (-1)]))] sz)) 0 0 (va_A [(p0, .inr (8, [.ref p1, .ref p2, .ref p3, .int 0, .int 0, .int 0, .int 0, .int (-1)]))] sz) := by
  refine Met.ofW (cc := cX8_unmake) (maxL := 4) (ret := none) (by decide) rfl ?_
  intro p e s m args below meth c s₁ B hml hv
  obtain ⟨rfl, hsz, hP, hK, hD0, hN⟩ := hv
  have hx := B.exec
  have hb := B.bytes
  have hr := B.returns
  have hts := atoms_spec B.pre
  have hW : ∀ w ∈ WA, w.before [.ref p0, .int 16].toArray s = true := fun w h => hts w (List.mem_cons_of_mem _ h)
  have hown : s.vm.findClass RX8 = some m.cls := findClass_of_methodNamed B.named
  have hlocks := B.notSynchronized
  subst hsz
  have hD := hD0.self (sz := s.heap.size)
  generalize hAe : va_A [(p0, .inr (8, [.ref p1, .ref p2, .ref p3, .int 0, .int 0, .int 0, .int 0, .int (-1)]))] s.heap.size = A at hD ⊢
  have hA : ∀ q : Nat, s.heap.size ≤ q → A q := fun q h => by rw [← hAe]; exact Or.inr h
  have hS : va_S A s.heap s.heap [] := va_S.rf
  have hP : va_P (dC, dI) vwCl [(p0, .inr (8, [.ref p1, .ref p2, .ref p3, .int 0, .int 0, .int 0, .int 0, .int (-1)]))] s.heap := hP
  have hl := lv_entry ([.ref p0, .int 16]) (n := 4) (Nat.le_of_ble_eq_true rfl)
  rw [lg_entry_eq]
  generalize (lg_sl ([.ref p0, .int 16]) ++ List.replicate (4 - (lg_sl ([.ref p0, .int 16])).length) Slot.unset).toArray = ls at hl ⊢
  have hl : lv_has ls 4 [(0, .ref p0), (1, .int 16)] := hl
  refine lv_aload_n hx hb dX8_unmake_0 rfl (lv_at hl 0 rfl) ?_
  refine va_get (D := (dC, dI)) (ci := 8) (v := .int 0) (C := RX8) (T := TX8) (N := 8) hx hb hW iW_8 hown hK hP 0 rfl rfl 4 (by decide) (hW _ mw_238) (fun _ h9 => h9) rfl dX8_unmake_1 ?_
  refine lv_istore_n (lv' := [(2, .int 0), (0, .ref p0), (1, .int 16)]) hx hb dX8_unmake_4 rfl hl (by decide) rfl (fun ls hl => ?_)
  refine lv_iload_n hx hb dX8_unmake_5 rfl (lv_at hl 0 rfl) ?_
  refine lv_if_le (tgt := 60) hx hb dX8_unmake_6 (by decide) (fun _ => ?_) (fun c => absurd (by decide) c)
  have hP9 := hP.sub (ws' := [(p0, .inr (8, [.ref p1, .ref p2, .ref p3, .int 0, .int 0, .int 0, .int 0, .int (-1)]))]) [0] rfl
  have hD9 := hD.sub (ws' := [(p0, .inr (8, [.ref p1, .ref p2, .ref p3, .int 0, .int 0, .int 0, .int 0, .int (-1)]))]) [0] (by decide) rfl
  refine W.widen (k := 0) (n := 0) (Nat.le_of_ble_eq_true rfl) (Nat.le_of_ble_eq_true rfl) ?_
  exact W.vret hx hb hr (fun t ht hW9 => ⟨⟨(), rfl, trivial, ⟨by rw [ht]; exact hP9, va_K.moved hW9.alike hK, hD9⟩⟩, hS.F ht⟩) hS.2.2 dX8_unmake_60

set_option maxHeartbeats 4000000 in
set_option maxRecDepth 100000 in
/-- X1_settle_0 -/
theorem c_X1_settle_0 (l : Launch) (dC : Nat → ClassId) (dI : Nat → Nat → Nat) (cI cB : ClassId) (p0 : Nat) (p1 : Nat) (p2 : Nat) (p3 : Nat) (p4 : Nat) (sz : Nat) : Met l yX1_settle (.code yX1_settle cX1_settle 1 none :: WA) ({ frames := 1, cells := 0, slots := 0, locals := 300 }) (va_Pc [.ref p0] (PB dC dI cI cB [(p1, .inl (cI, 4096, .inl (fun _ => 0))), (p2, .inl (cI, 1024, .inl (fun _ => 0))), (p0, .inr (1, [.ref p3, .ref p4, .ref p1, .ref p2, .int 16, .int 0, .int 16, .int 0, .int 1]))] sz)) (va_Qv (fun _ : Unit => True) (fun (_ : Unit) t => QB dC dI cI cB [(p1, .inl (cI, 4096, .inl (fun _ => 0))), (p2, .inl (cI, 1024, .inl (fun _ => 0))), (p0, .inr (1, [.ref p3, .ref p4, .ref p1, .ref p2, .int 16, .int 0, .int 16, .int 0, .int 1]))] (va_A [(p1, .inl (cI, 4096, .inl (fun _ => 0))), (p2, .inl (cI, 1024, .inl (fun _ => 0))), (p0, .inr (1, [.ref p3, .ref p4, .ref p1, .ref p2, .int 16, .int 0, .int 16, .int 0, .int 1]))] sz) t) (va_A [(p1, .inl (cI, 4096, .inl (fun _ => 0))), (p2, .inl (cI, 1024, .inl (fun _ => 0))), (p0, .inr (1, [.ref p3, .ref p4, .ref p1, .ref p2, .int 16, .int 0, .int 16, .int 0, .int 1]))] sz)) 0 0 (va_A [(p1, .inl (cI, 4096, .inl (fun _ => 0))), (p2, .inl (cI, 1024, .inl (fun _ => 0))), (p0, .inr (1, [.ref p3, .ref p4, .ref p1, .ref p2, .int 16, .int 0, .int 16, .int 0, .int 1]))] sz) := by
  refine Met.ofW (cc := cX1_settle) (maxL := 1) (ret := none) (by decide) rfl ?_
  intro p e s m args below meth c s₁ B hml hv
  obtain ⟨rfl, hsz, hP, hK, hD0, hN⟩ := hv
  have hx := B.exec
  have hb := B.bytes
  have hr := B.returns
  have hts := atoms_spec B.pre
  have hW : ∀ w ∈ WA, w.before [.ref p0].toArray s = true := fun w h => hts w (List.mem_cons_of_mem _ h)
  have hown : s.vm.findClass RX1 = some m.cls := findClass_of_methodNamed B.named
  have hlocks := B.notSynchronized
  subst hsz
  have hD := hD0.self (sz := s.heap.size)
  generalize hAe : va_A [(p1, .inl (cI, 4096, .inl (fun _ => 0))), (p2, .inl (cI, 1024, .inl (fun _ => 0))), (p0, .inr (1, [.ref p3, .ref p4, .ref p1, .ref p2, .int 16, .int 0, .int 16, .int 0, .int 1]))] s.heap.size = A at hD ⊢
  have hA : ∀ q : Nat, s.heap.size ≤ q → A q := fun q h => by rw [← hAe]; exact Or.inr h
  have hS : va_S A s.heap s.heap [] := va_S.rf
  have hP : va_P (dC, dI) vwCl [(p1, .inl (cI, 4096, .inl (fun _ => 0))), (p2, .inl (cI, 1024, .inl (fun _ => 0))), (p0, .inr (1, [.ref p3, .ref p4, .ref p1, .ref p2, .int 16, .int 0, .int 16, .int 0, .int 1]))] s.heap := hP
  have hl := lv_entry ([.ref p0]) (n := 1) (Nat.le_of_ble_eq_true rfl)
  rw [lg_entry_eq]
  generalize (lg_sl ([.ref p0]) ++ List.replicate (1 - (lg_sl ([.ref p0])).length) Slot.unset).toArray = ls at hl ⊢
  have hl : lv_has ls 1 [(0, .ref p0)] := hl
  refine lv_aload_n hx hb dX1_settle_0 rfl (lv_at hl 0 rfl) ?_
  refine va_get (D := (dC, dI)) (ci := 1) (v := .int 0) (C := RX1) (T := TX1) (N := 9) hx hb hW iW_1 hown hK hP 2 rfl rfl 5 (by decide) (hW _ mw_224) (fun _ h9 => h9) rfl dX1_settle_1 ?_
  refine lv_aload_n hx hb dX1_settle_4 rfl (lv_at hl 0 rfl) ?_
  refine va_get (D := (dC, dI)) (ci := 1) (v := .ref p2) (C := RX1) (T := TX1) (N := 9) hx hb hW iW_1 hown hK hP 2 rfl rfl 3 (by decide) (hW _ mw_22) (fun _ h9 => h9) rfl dX1_settle_5 ?_
  refine va_alen (v := 1024) hx hb hK hP 1 0 rfl rfl (show Int32.ofNat 1024 = 1024 by decide) dX1_settle_8 ?_
  refine lv_icmp_gt (tgt := 29) hx hb dX1_settle_9 (by decide) (fun c => absurd c (by decide)) (fun _ => ?_)
  refine lv_aload_n hx hb dX1_settle_12 rfl (lv_at hl 0 rfl) ?_
  refine va_get (D := (dC, dI)) (ci := 1) (v := .int 0) (C := RX1) (T := TX1) (N := 9) hx hb hW iW_1 hown hK hP 2 rfl rfl 5 (by decide) (hW _ mw_224) (fun _ h9 => h9) rfl dX1_settle_13 ?_
  refine lv_aload_n hx hb dX1_settle_16 rfl (lv_at hl 0 rfl) ?_
  refine va_get (D := (dC, dI)) (ci := 1) (v := .ref p1) (C := RX1) (T := TX1) (N := 9) hx hb hW iW_1 hown hK hP 2 rfl rfl 2 (by decide) (hW _ mw_21) (fun _ h9 => h9) rfl dX1_settle_17 ?_
  refine va_alen (v := 4096) hx hb hK hP 0 0 rfl rfl (show Int32.ofNat 4096 = 4096 by decide) dX1_settle_20 ?_
  refine lv_aload_n hx hb dX1_settle_21 rfl (lv_at hl 0 rfl) ?_
  refine va_get (D := (dC, dI)) (ci := 1) (v := .int 16) (C := RX1) (T := TX1) (N := 9) hx hb hW iW_1 hown hK hP 2 rfl rfl 6 (by decide) (hW _ mw_24) (fun _ h9 => h9) rfl dX1_settle_22 ?_
  refine lv_isub hx hb dX1_settle_25 ?_
  refine tp_i 4080 (by decide) ?_
  refine lv_icmp_le (tgt := 30) hx hb dX1_settle_26 (by decide) (fun _ => ?_) (fun c => absurd (by decide) c)
  refine lv_aload_n hx hb dX1_settle_30 rfl (lv_at hl 0 rfl) ?_
  refine va_get (D := (dC, dI)) (ci := 1) (v := .ref p2) (C := RX1) (T := TX1) (N := 9) hx hb hW iW_1 hown hK hP 2 rfl rfl 3 (by decide) (hW _ mw_22) (fun _ h9 => h9) rfl dX1_settle_31 ?_
  refine lv_iconst (v := 0) hx hb dX1_settle_34 (by decide) ?_
  refine lv_aload_n hx hb dX1_settle_35 rfl (lv_at hl 0 rfl) ?_
  refine va_get (D := (dC, dI)) (ci := 1) (v := .ref p1) (C := RX1) (T := TX1) (N := 9) hx hb hW iW_1 hown hK hP 2 rfl rfl 2 (by decide) (hW _ mw_21) (fun _ h9 => h9) rfl dX1_settle_36 ?_
  refine lv_aload_n hx hb dX1_settle_39 rfl (lv_at hl 0 rfl) ?_
  refine va_get (D := (dC, dI)) (ci := 1) (v := .int 16) (C := RX1) (T := TX1) (N := 9) hx hb hW iW_1 hown hK hP 2 rfl rfl 6 (by decide) (hW _ mw_24) (fun _ h9 => h9) rfl dX1_settle_40 ?_
  refine lv_aload_n hx hb dX1_settle_43 rfl (lv_at hl 0 rfl) ?_
  refine va_get (D := (dC, dI)) (ci := 1) (v := .int 0) (C := RX1) (T := TX1) (N := 9) hx hb hW iW_1 hown hK hP 2 rfl rfl 5 (by decide) (hW _ mw_224) (fun _ h9 => h9) rfl dX1_settle_44 ?_
  refine va_copyi (ty := .int) hx hb (by rw [hml]; exact hl.1.symm) hown (hW _ mw_242) (hW _ mw_243) (hW _ mw_244) (hW _ mw_245) hK hP hD hS 1 0 0 0 rfl rfl rfl rfl rfl (by decide) (by decide) (by decide) (by decide +kernel) (by decide +kernel) (fun _ h => absurd h (by rw [sb_cl0]; exact Nat.not_lt_zero _)) (Nat.le_of_ble_eq_true rfl) (Nat.le_of_ble_eq_true rfl) dX1_settle_47 (fun H locs hP hD hS => ?_)
  rw [cpy0] at hP hD
  have hP : va_P (dC, dI) vwCl [(p1, .inl (cI, 4096, .inl (fun _ => 0))), (p2, .inl (cI, 1024, .inl (fun _ => 0))), (p0, .inr (1, [.ref p3, .ref p4, .ref p1, .ref p2, .int 16, .int 0, .int 16, .int 0, .int 1]))] H := hP
  have hD : va_D A [(p1, .inl (cI, 4096, .inl (fun _ => 0))), (p2, .inl (cI, 1024, .inl (fun _ => 0))), (p0, .inr (1, [.ref p3, .ref p4, .ref p1, .ref p2, .int 16, .int 0, .int 16, .int 0, .int 1]))] := hD
  refine lv_aload_n hx hb dX1_settle_50 rfl (lv_at hl 0 rfl) ?_
  refine lv_aload_n hx hb dX1_settle_51 rfl (lv_at hl 0 rfl) ?_
  refine va_get (D := (dC, dI)) (ci := 1) (v := .int 16) (C := RX1) (T := TX1) (N := 9) hx hb hW iW_1 hown hK hP 2 rfl rfl 6 (by decide) (hW _ mw_24) (fun _ h9 => h9) rfl dX1_settle_52 ?_
  refine lv_aload_n hx hb dX1_settle_55 rfl (lv_at hl 0 rfl) ?_
  refine va_get (D := (dC, dI)) (ci := 1) (v := .int 0) (C := RX1) (T := TX1) (N := 9) hx hb hW iW_1 hown hK hP 2 rfl rfl 5 (by decide) (hW _ mw_224) (fun _ h9 => h9) rfl dX1_settle_56 ?_
  refine lv_iadd hx hb dX1_settle_59 ?_
  refine tp_i 16 (by decide) ?_
  refine va_put (D := (dC, dI)) (ci := 1) (v := .int 16) (ty := .int) (C := RX1) (T := TX1) (N := 9) hx hb hW iW_1 tyX1 tyX1_ok nmX1 hown hK hP hD hS 2 rfl rfl 4 (by decide) (hW _ mw_23) (fun _ h9 => h9) rfl (by decide +kernel) rfl rfl (Nat.le_of_ble_eq_true rfl) dX1_settle_60 (fun H locs hP hD hS => ?_)
  have hP : va_P (dC, dI) vwCl [(p1, .inl (cI, 4096, .inl (fun _ => 0))), (p2, .inl (cI, 1024, .inl (fun _ => 0))), (p0, .inr (1, [.ref p3, .ref p4, .ref p1, .ref p2, .int 16, .int 0, .int 16, .int 0, .int 1]))] H := hP
  have hD : va_D A [(p1, .inl (cI, 4096, .inl (fun _ => 0))), (p2, .inl (cI, 1024, .inl (fun _ => 0))), (p0, .inr (1, [.ref p3, .ref p4, .ref p1, .ref p2, .int 16, .int 0, .int 16, .int 0, .int 1]))] := hD
  have hP9 := hP.sub (ws' := [(p1, .inl (cI, 4096, .inl (fun _ => 0))), (p2, .inl (cI, 1024, .inl (fun _ => 0))), (p0, .inr (1, [.ref p3, .ref p4, .ref p1, .ref p2, .int 16, .int 0, .int 16, .int 0, .int 1]))]) [0, 1, 2] rfl
  have hD9 := hD.sub (ws' := [(p1, .inl (cI, 4096, .inl (fun _ => 0))), (p2, .inl (cI, 1024, .inl (fun _ => 0))), (p0, .inr (1, [.ref p3, .ref p4, .ref p1, .ref p2, .int 16, .int 0, .int 16, .int 0, .int 1]))]) [0, 1, 2] (by decide) rfl
  refine W.widen (k := 0) (n := 0) (Nat.le_of_ble_eq_true rfl) (Nat.le_of_ble_eq_true rfl) ?_
  exact W.vret hx hb hr (fun t ht hW9 => ⟨⟨(), rfl, trivial, ⟨by rw [ht]; exact hP9, va_K.moved hW9.alike hK, hD9⟩⟩, hS.F ht⟩) hS.2.2 dX1_settle_63

set_option maxHeartbeats 4000000 in
set_option maxRecDepth 100000 in
/-- X3_pack_0 -/
theorem c_X3_pack_0 (l : Launch) (dC : Nat → ClassId) (dI : Nat → Nat → Nat) (cI cB : ClassId) (p0 : Nat) (p1 : Nat) (p2 : Nat) (p3 : Nat) (p4 : Nat) (p5 : Nat) (p6 : Nat) (p7 : Nat) (p8 : Nat) (p9 : Nat) (p10 : Nat) (p11 : Nat) (p12 : Nat) (p13 : Nat) (p14 : Nat) (p15 : Nat) (p16 : Nat) (p17 : Nat) (p18 : Nat) (p19 : Nat) (p20 : Nat) (sz : Nat) : Met l yX3_pack (.code yX3_pack cX3_pack 8 (some .int) :: WA) ({ frames := 2, cells := 0, slots := 0, locals := 320 }) (va_Pc [.ref p0, .int 16, .int 0] (PB dC dI cI cB [(p1, .inr (1, [.ref p2, .ref p3, .ref p4, .ref p5, .int 16, .int 0, .int 16, .int 0, .int 1])), (p4, .inl (cI, 4096, .inl (fun _ => 0))), (p5, .inl (cI, 1024, .inl (fun _ => 0))), (p6, .inr (8, [.ref p7, .ref p8, .ref p9, .int 0, .int 0, .int 0, .int 0, .int (-1)])), (p0, .inr (3, [.ref p2, .ref p1, .ref p6, .ref p10, .ref p11, .ref p12, .ref p13, .ref p14, .ref p15, .ref p16, .ref p17, .ref p18, .ref p19, .ref p20, .int 0, .int 0])), (p15, .inl (cI, 41, .inl (fun _ => 0)))] sz)) (va_Qi (fun (r : Int32) (_ : Unit) => r = 0) (fun (_ : Unit) t => QB dC dI cI cB [(p1, .inr (1, [.ref p2, .ref p3, .ref p4, .ref p5, .int 16, .int 0, .int 16, .int 0, .int 1])), (p4, .inl (cI, 4096, .inl (fun _ => 0))), (p5, .inl (cI, 1024, .inl (fun _ => 0))), (p6, .inr (8, [.ref p7, .ref p8, .ref p9, .int 0, .int 0, .int 0, .int 0, .int (-1)])), (p0, .inr (3, [.ref p2, .ref p1, .ref p6, .ref p10, .ref p11, .ref p12, .ref p13, .ref p14, .ref p15, .ref p16, .ref p17, .ref p18, .ref p19, .ref p20, .int 0, .int 0])), (p15, .inl (cI, 41, .inl (fun _ => 0)))] (va_A [(p1, .inr (1, [.ref p2, .ref p3, .ref p4, .ref p5, .int 16, .int 0, .int 16, .int 0, .int 1])), (p4, .inl (cI, 4096, .inl (fun _ => 0))), (p5, .inl (cI, 1024, .inl (fun _ => 0))), (p6, .inr (8, [.ref p7, .ref p8, .ref p9, .int 0, .int 0, .int 0, .int 0, .int (-1)])), (p0, .inr (3, [.ref p2, .ref p1, .ref p6, .ref p10, .ref p11, .ref p12, .ref p13, .ref p14, .ref p15, .ref p16, .ref p17, .ref p18, .ref p19, .ref p20, .int 0, .int 0])), (p15, .inl (cI, 41, .inl (fun _ => 0)))] sz) t) (va_A [(p1, .inr (1, [.ref p2, .ref p3, .ref p4, .ref p5, .int 16, .int 0, .int 16, .int 0, .int 1])), (p4, .inl (cI, 4096, .inl (fun _ => 0))), (p5, .inl (cI, 1024, .inl (fun _ => 0))), (p6, .inr (8, [.ref p7, .ref p8, .ref p9, .int 0, .int 0, .int 0, .int 0, .int (-1)])), (p0, .inr (3, [.ref p2, .ref p1, .ref p6, .ref p10, .ref p11, .ref p12, .ref p13, .ref p14, .ref p15, .ref p16, .ref p17, .ref p18, .ref p19, .ref p20, .int 0, .int 0])), (p15, .inl (cI, 41, .inl (fun _ => 0)))] sz)) 0 0 (va_A [(p1, .inr (1, [.ref p2, .ref p3, .ref p4, .ref p5, .int 16, .int 0, .int 16, .int 0, .int 1])), (p4, .inl (cI, 4096, .inl (fun _ => 0))), (p5, .inl (cI, 1024, .inl (fun _ => 0))), (p6, .inr (8, [.ref p7, .ref p8, .ref p9, .int 0, .int 0, .int 0, .int 0, .int (-1)])), (p0, .inr (3, [.ref p2, .ref p1, .ref p6, .ref p10, .ref p11, .ref p12, .ref p13, .ref p14, .ref p15, .ref p16, .ref p17, .ref p18, .ref p19, .ref p20, .int 0, .int 0])), (p15, .inl (cI, 41, .inl (fun _ => 0)))] sz) := by
  refine Met.ofW (cc := cX3_pack) (maxL := 8) (ret := (some .int)) (by decide) rfl ?_
  intro p e s m args below meth c s₁ B hml hv
  obtain ⟨rfl, hsz, hP, hK, hD0, hN⟩ := hv
  have hx := B.exec
  have hb := B.bytes
  have hr := B.returns
  have hts := atoms_spec B.pre
  have hW : ∀ w ∈ WA, w.before [.ref p0, .int 16, .int 0].toArray s = true := fun w h => hts w (List.mem_cons_of_mem _ h)
  have hown : s.vm.findClass RX3 = some m.cls := findClass_of_methodNamed B.named
  have hlocks := B.notSynchronized
  subst hsz
  have hD := hD0.self (sz := s.heap.size)
  generalize hAe : va_A [(p1, .inr (1, [.ref p2, .ref p3, .ref p4, .ref p5, .int 16, .int 0, .int 16, .int 0, .int 1])), (p4, .inl (cI, 4096, .inl (fun _ => 0))), (p5, .inl (cI, 1024, .inl (fun _ => 0))), (p6, .inr (8, [.ref p7, .ref p8, .ref p9, .int 0, .int 0, .int 0, .int 0, .int (-1)])), (p0, .inr (3, [.ref p2, .ref p1, .ref p6, .ref p10, .ref p11, .ref p12, .ref p13, .ref p14, .ref p15, .ref p16, .ref p17, .ref p18, .ref p19, .ref p20, .int 0, .int 0])), (p15, .inl (cI, 41, .inl (fun _ => 0)))] s.heap.size = A at hD ⊢
  have hA : ∀ q : Nat, s.heap.size ≤ q → A q := fun q h => by rw [← hAe]; exact Or.inr h
  have hS : va_S A s.heap s.heap [] := va_S.rf
  have hP : va_P (dC, dI) vwCl [(p1, .inr (1, [.ref p2, .ref p3, .ref p4, .ref p5, .int 16, .int 0, .int 16, .int 0, .int 1])), (p4, .inl (cI, 4096, .inl (fun _ => 0))), (p5, .inl (cI, 1024, .inl (fun _ => 0))), (p6, .inr (8, [.ref p7, .ref p8, .ref p9, .int 0, .int 0, .int 0, .int 0, .int (-1)])), (p0, .inr (3, [.ref p2, .ref p1, .ref p6, .ref p10, .ref p11, .ref p12, .ref p13, .ref p14, .ref p15, .ref p16, .ref p17, .ref p18, .ref p19, .ref p20, .int 0, .int 0])), (p15, .inl (cI, 41, .inl (fun _ => 0)))] s.heap := hP
  have hl := lv_entry ([.ref p0, .int 16, .int 0]) (n := 8) (Nat.le_of_ble_eq_true rfl)
  rw [lg_entry_eq]
  generalize (lg_sl ([.ref p0, .int 16, .int 0]) ++ List.replicate (8 - (lg_sl ([.ref p0, .int 16, .int 0])).length) Slot.unset).toArray = ls at hl ⊢
  have hl : lv_has ls 8 [(0, .ref p0), (1, .int 16), (2, .int 0)] := hl
  refine lv_aload_n hx hb dX3_pack_0 rfl (lv_at hl 0 rfl) ?_
  refine va_get (D := (dC, dI)) (ci := 3) (v := .ref p1) (C := RX3) (T := TX3) (N := 16) hx hb hW iW_3 hown hK hP 4 rfl rfl 1 (by decide) (hW _ mw_58) (fun _ h9 => h9) rfl dX3_pack_1 ?_
  refine lv_iload_n hx hb dX3_pack_4 rfl (lv_at hl 1 rfl) ?_
  have hPc := hP.sub (ws' := [(p1, .inr (1, [.ref p2, .ref p3, .ref p4, .ref p5, .int 16, .int 0, .int 16, .int 0, .int 1]))]) [0] rfl
  have hDc := hD.sub (ws' := [(p1, .inr (1, [.ref p2, .ref p3, .ref p4, .ref p5, .int 16, .int 0, .int 16, .int 0, .int 1]))]) [0] (by decide) rfl
  have hFc := va_free (wc := [(p1, .inr (1, [.ref p2, .ref p3, .ref p4, .ref p5, .int 16, .int 0, .int 16, .int 0, .int 1]))]) hD hS hA [0] rfl
  refine va_callv (va_runVN (As := [.int 16]) (rest := []) ⟨hx, hb, hml, hown, hW⟩ (c_X1_unsettle_0 l dC dI cI cB p1 p2 p3 p4 p5 s.heap.size) ⟨va_cnB 1 hW (gW mw_225) rfl rfl rfl (hN _ mn_17) (hW _ mw_17) (by decide +kernel) ⟨Nat.le_of_ble_eq_true rfl, Nat.le_of_ble_eq_true rfl⟩, hW _ mw_226, hW _ mw_227⟩ ⟨PB_blind _, va_recv hK hP (ci := 1) (q0 := 0) rfl rfl, fun U hU hW2 => ⟨rfl, PB_at hU hW2 hPc hK hDc hN⟩⟩ rfl rfl hl.1 rfl (lv_room (Nat.le_of_ble_eq_true rfl)) dX3_pack_5 ⟨Nat.le_of_ble_eq_true rfl, Nat.le_of_ble_eq_true rfl⟩) hS (fun q _ h => hFc q h) hFc (fun u t H1 locs ht hvm hw hB hz1 hk1 hS => ?_)
  have hq := hB
  obtain ⟨hP, hD⟩ := after (wr := [(p4, .inl (cI, 4096, .inl (fun _ => 0))), (p5, .inl (cI, 1024, .inl (fun _ => 0))), (p6, .inr (8, [.ref p7, .ref p8, .ref p9, .int 0, .int 0, .int 0, .int 0, .int (-1)])), (p0, .inr (3, [.ref p2, .ref p1, .ref p6, .ref p10, .ref p11, .ref p12, .ref p13, .ref p14, .ref p15, .ref p16, .ref p17, .ref p18, .ref p19, .ref p20, .int 0, .int 0])), (p15, .inl (cI, 41, .inl (fun _ => 0)))]) (w1 := [(p1, .inr (1, [.ref p2, .ref p3, .ref p4, .ref p5, .int 16, .int 0, .int 16, .int 0, .int 1]))]) hP hD [0] [1, 2, 3, 4, 5] rfl rfl (by decide) (by decide) hk1 hFc ht hq
  generalize H1 = H at hP hS ⊢
  have hP : va_P (dC, dI) vwCl [(p4, .inl (cI, 4096, .inl (fun _ => 0))), (p5, .inl (cI, 1024, .inl (fun _ => 0))), (p6, .inr (8, [.ref p7, .ref p8, .ref p9, .int 0, .int 0, .int 0, .int 0, .int (-1)])), (p0, .inr (3, [.ref p2, .ref p1, .ref p6, .ref p10, .ref p11, .ref p12, .ref p13, .ref p14, .ref p15, .ref p16, .ref p17, .ref p18, .ref p19, .ref p20, .int 0, .int 0])), (p15, .inl (cI, 41, .inl (fun _ => 0))), (p1, .inr (1, [.ref p2, .ref p3, .ref p4, .ref p5, .int 16, .int 0, .int 16, .int 0, .int 1]))] H := hP
  have hD : va_D A [(p4, .inl (cI, 4096, .inl (fun _ => 0))), (p5, .inl (cI, 1024, .inl (fun _ => 0))), (p6, .inr (8, [.ref p7, .ref p8, .ref p9, .int 0, .int 0, .int 0, .int 0, .int (-1)])), (p0, .inr (3, [.ref p2, .ref p1, .ref p6, .ref p10, .ref p11, .ref p12, .ref p13, .ref p14, .ref p15, .ref p16, .ref p17, .ref p18, .ref p19, .ref p20, .int 0, .int 0])), (p15, .inl (cI, 41, .inl (fun _ => 0))), (p1, .inr (1, [.ref p2, .ref p3, .ref p4, .ref p5, .int 16, .int 0, .int 16, .int 0, .int 1]))] := hD
  refine lv_aload_n hx hb dX3_pack_8 rfl (lv_at hl 0 rfl) ?_
  refine va_get (D := (dC, dI)) (ci := 3) (v := .ref p1) (C := RX3) (T := TX3) (N := 16) hx hb hW iW_3 hown hK hP 3 rfl rfl 1 (by decide) (hW _ mw_58) (fun _ h9 => h9) rfl dX3_pack_9 ?_
  refine lv_iload_n hx hb dX3_pack_12 rfl (lv_at hl 2 rfl) ?_
  have hPc := hP.sub (ws' := [(p1, .inr (1, [.ref p2, .ref p3, .ref p4, .ref p5, .int 16, .int 0, .int 16, .int 0, .int 1]))]) [5] rfl
  have hDc := hD.sub (ws' := [(p1, .inr (1, [.ref p2, .ref p3, .ref p4, .ref p5, .int 16, .int 0, .int 16, .int 0, .int 1]))]) [5] (by decide) rfl
  have hFc := va_free (wc := [(p1, .inr (1, [.ref p2, .ref p3, .ref p4, .ref p5, .int 16, .int 0, .int 16, .int 0, .int 1]))]) hD hS hA [5] rfl
  refine va_calli (va_runVN (As := [.int 0]) (rest := []) ⟨hx, hb, hml, hown, hW⟩ (c_X1_moved_0 l dC dI cI cB p1 p2 p3 p4 p5 H.size) ⟨va_cnB 1 hW (gW mw_228) rfl rfl rfl (hN _ mn_18) (hW _ mw_17) (by decide +kernel) ⟨Nat.le_of_ble_eq_true rfl, Nat.le_of_ble_eq_true rfl⟩, hW _ mw_229, hW _ mw_230⟩ ⟨PB_blind _, va_recv hK hP (ci := 1) (q0 := 5) rfl rfl, fun U hU hW2 => ⟨rfl, PB_at hU hW2 hPc hK hDc hN⟩⟩ rfl rfl hl.1 rfl (lv_room (Nat.le_of_ble_eq_true rfl)) dX3_pack_13 ⟨Nat.le_of_ble_eq_true rfl, Nat.le_of_ble_eq_true rfl⟩) hS (fun q _ h => hFc q h) hFc (fun r u t H1 locs ht hvm hw hB hz1 hk1 hS => ?_)
  have hq := hB
  obtain ⟨hP, hD⟩ := after (wr := [(p4, .inl (cI, 4096, .inl (fun _ => 0))), (p5, .inl (cI, 1024, .inl (fun _ => 0))), (p6, .inr (8, [.ref p7, .ref p8, .ref p9, .int 0, .int 0, .int 0, .int 0, .int (-1)])), (p0, .inr (3, [.ref p2, .ref p1, .ref p6, .ref p10, .ref p11, .ref p12, .ref p13, .ref p14, .ref p15, .ref p16, .ref p17, .ref p18, .ref p19, .ref p20, .int 0, .int 0])), (p15, .inl (cI, 41, .inl (fun _ => 0)))]) (w1 := [(p1, .inr (1, [.ref p2, .ref p3, .ref p4, .ref p5, .int 16, .int 0, .int 16, .int 0, .int 1]))]) hP hD [5] [0, 1, 2, 3, 4] rfl rfl (by decide) (by decide) hk1 hFc ht hq
  generalize H1 = H at hP hS ⊢
  have hP : va_P (dC, dI) vwCl [(p4, .inl (cI, 4096, .inl (fun _ => 0))), (p5, .inl (cI, 1024, .inl (fun _ => 0))), (p6, .inr (8, [.ref p7, .ref p8, .ref p9, .int 0, .int 0, .int 0, .int 0, .int (-1)])), (p0, .inr (3, [.ref p2, .ref p1, .ref p6, .ref p10, .ref p11, .ref p12, .ref p13, .ref p14, .ref p15, .ref p16, .ref p17, .ref p18, .ref p19, .ref p20, .int 0, .int 0])), (p15, .inl (cI, 41, .inl (fun _ => 0))), (p1, .inr (1, [.ref p2, .ref p3, .ref p4, .ref p5, .int 16, .int 0, .int 16, .int 0, .int 1]))] H := hP
  have hD : va_D A [(p4, .inl (cI, 4096, .inl (fun _ => 0))), (p5, .inl (cI, 1024, .inl (fun _ => 0))), (p6, .inr (8, [.ref p7, .ref p8, .ref p9, .int 0, .int 0, .int 0, .int 0, .int (-1)])), (p0, .inr (3, [.ref p2, .ref p1, .ref p6, .ref p10, .ref p11, .ref p12, .ref p13, .ref p14, .ref p15, .ref p16, .ref p17, .ref p18, .ref p19, .ref p20, .int 0, .int 0])), (p15, .inl (cI, 41, .inl (fun _ => 0))), (p1, .inr (1, [.ref p2, .ref p3, .ref p4, .ref p5, .int 16, .int 0, .int 16, .int 0, .int 1]))] := hD
  refine tp_i 0 hw ?_
  refine lv_istore_n (lv' := [(3, .int 0), (0, .ref p0), (1, .int 16), (2, .int 0)]) hx hb dX3_pack_16 rfl hl (by decide) rfl (fun ls hl => ?_)
  refine lv_iconst (v := 0) hx hb dX3_pack_17 (by decide) ?_
  refine lv_istore (lv' := [(4, .int 0), (3, .int 0), (0, .ref p0), (1, .int 16), (2, .int 0)]) hx hb dX3_pack_18 hl (by decide) rfl (fun ls hl => ?_)
  refine lv_iload hx hb dX3_pack_20 (lv_at hl 0 rfl) ?_
  refine lv_aload_n hx hb dX3_pack_22 rfl (lv_at hl 2 rfl) ?_
  refine va_get (D := (dC, dI)) (ci := 3) (v := .int 0) (C := RX3) (T := TX3) (N := 16) hx hb hW iW_3 hown hK hP 3 rfl rfl 15 (by decide) (hW _ mw_231) (fun _ h9 => h9) rfl dX3_pack_23 ?_
  refine lv_icmp_gt (tgt := 109) hx hb dX3_pack_26 (by decide) (fun c => absurd c (by decide)) (fun _ => ?_)
  refine lv_aload_n hx hb dX3_pack_29 rfl (lv_at hl 2 rfl) ?_
  refine lv_iload hx hb dX3_pack_30 (lv_at hl 0 rfl) ?_
  have hPc := hP.sub (ws' := []) [] rfl
  have hDc := hD.sub (ws' := []) [] (by decide) rfl
  have hFc := va_free (wc := []) hD hS hA [] rfl
  refine va_calli (va_runV (As := [.int 0]) (rest := []) ⟨hx, hb, hml, hown, hW⟩ (c_X3_firstSlot_0 l dC dI cI cB p0 H.size) (cwV 1 hW (gV mw_233 mw_234 mw_235 mw_44 mw_232) rfl rfl rfl (by decide +kernel) ⟨Nat.le_of_ble_eq_true rfl, Nat.le_of_ble_eq_true rfl⟩) ⟨PB_blind _, va_recv hK hP (ci := 3) (q0 := 3) rfl rfl, fun U hU hW2 => ⟨rfl, PB_at hU hW2 hPc hK hDc hN⟩⟩ rfl rfl hl.1 rfl (lv_room (Nat.le_of_ble_eq_true rfl)) dX3_pack_32 ⟨Nat.le_of_ble_eq_true rfl, Nat.le_of_ble_eq_true rfl⟩) hS (fun q _ h => hFc q h) hFc (fun r u t H1 locs ht hvm hw hB hz1 hk1 hS => ?_)
  have hq := hB
  obtain ⟨hP, hD⟩ := after (wr := [(p4, .inl (cI, 4096, .inl (fun _ => 0))), (p5, .inl (cI, 1024, .inl (fun _ => 0))), (p6, .inr (8, [.ref p7, .ref p8, .ref p9, .int 0, .int 0, .int 0, .int 0, .int (-1)])), (p0, .inr (3, [.ref p2, .ref p1, .ref p6, .ref p10, .ref p11, .ref p12, .ref p13, .ref p14, .ref p15, .ref p16, .ref p17, .ref p18, .ref p19, .ref p20, .int 0, .int 0])), (p15, .inl (cI, 41, .inl (fun _ => 0))), (p1, .inr (1, [.ref p2, .ref p3, .ref p4, .ref p5, .int 16, .int 0, .int 16, .int 0, .int 1]))]) (w1 := []) hP hD [] [0, 1, 2, 3, 4, 5] rfl rfl (by decide) (by decide) hk1 hFc ht hq
  generalize H1 = H at hP hS ⊢
  have hP : va_P (dC, dI) vwCl [(p4, .inl (cI, 4096, .inl (fun _ => 0))), (p5, .inl (cI, 1024, .inl (fun _ => 0))), (p6, .inr (8, [.ref p7, .ref p8, .ref p9, .int 0, .int 0, .int 0, .int 0, .int (-1)])), (p0, .inr (3, [.ref p2, .ref p1, .ref p6, .ref p10, .ref p11, .ref p12, .ref p13, .ref p14, .ref p15, .ref p16, .ref p17, .ref p18, .ref p19, .ref p20, .int 0, .int 0])), (p15, .inl (cI, 41, .inl (fun _ => 0))), (p1, .inr (1, [.ref p2, .ref p3, .ref p4, .ref p5, .int 16, .int 0, .int 16, .int 0, .int 1]))] H := hP
  have hD : va_D A [(p4, .inl (cI, 4096, .inl (fun _ => 0))), (p5, .inl (cI, 1024, .inl (fun _ => 0))), (p6, .inr (8, [.ref p7, .ref p8, .ref p9, .int 0, .int 0, .int 0, .int 0, .int (-1)])), (p0, .inr (3, [.ref p2, .ref p1, .ref p6, .ref p10, .ref p11, .ref p12, .ref p13, .ref p14, .ref p15, .ref p16, .ref p17, .ref p18, .ref p19, .ref p20, .int 0, .int 0])), (p15, .inl (cI, 41, .inl (fun _ => 0))), (p1, .inr (1, [.ref p2, .ref p3, .ref p4, .ref p5, .int 16, .int 0, .int 16, .int 0, .int 1]))] := hD
  refine tp_i 0 hw ?_
  refine lv_istore (lv' := [(5, .int 0), (4, .int 0), (3, .int 0), (0, .ref p0), (1, .int 16), (2, .int 0)]) hx hb dX3_pack_35 hl (by decide) rfl (fun ls hl => ?_)
  refine lv_iload hx hb dX3_pack_37 (lv_at hl 0 rfl) ?_
  refine lv_aload_n hx hb dX3_pack_39 rfl (lv_at hl 3 rfl) ?_
  refine va_get (D := (dC, dI)) (ci := 3) (v := .ref p15) (C := RX3) (T := TX3) (N := 16) hx hb hW iW_3 hown hK hP 3 rfl rfl 8 (by decide) (hW _ mw_51) (fun _ h9 => h9) rfl dX3_pack_40 ?_
  refine lv_iload hx hb dX3_pack_43 (lv_at hl 1 rfl) ?_
  have hPc := hP.sub (ws' := [(p15, .inl (cI, 41, .inl (fun _ => 0)))]) [4] rfl
  have hDc := hD.sub (ws' := [(p15, .inl (cI, 41, .inl (fun _ => 0)))]) [4] (by decide) rfl
  have hFc := va_free (wc := [(p15, .inl (cI, 41, .inl (fun _ => 0)))]) hD hS hA [4] rfl
  refine va_calli (va_runSN (As := [.ref p15, .int 0]) (rest := [.int 0]) ⟨hx, hb, hml, hown, hW⟩ (c_X10_peek_0 l dC dI cI cB p15 H.size) ⟨va_cnB 2 hW (gW mw_236) rfl rfl rfl (hN _ mn_19) (hW _ mw_2) (by decide +kernel) ⟨Nat.le_of_ble_eq_true rfl, Nat.le_of_ble_eq_true rfl⟩, hW _ mw_237, trivial⟩ ⟨PB_blind _, fun U hU hW2 => ⟨rfl, PB_at hU hW2 hPc hK hDc hN⟩⟩ rfl rfl hl.1 rfl (lv_room (Nat.le_of_ble_eq_true rfl)) dX3_pack_45 ⟨Nat.le_of_ble_eq_true rfl, Nat.le_of_ble_eq_true rfl⟩) hS (fun q _ h => hFc q h) hFc (fun r u t H1 locs ht hvm hw hB hz1 hk1 hS => ?_)
  have hq := hB
  obtain ⟨hP, hD⟩ := after (wr := [(p4, .inl (cI, 4096, .inl (fun _ => 0))), (p5, .inl (cI, 1024, .inl (fun _ => 0))), (p6, .inr (8, [.ref p7, .ref p8, .ref p9, .int 0, .int 0, .int 0, .int 0, .int (-1)])), (p0, .inr (3, [.ref p2, .ref p1, .ref p6, .ref p10, .ref p11, .ref p12, .ref p13, .ref p14, .ref p15, .ref p16, .ref p17, .ref p18, .ref p19, .ref p20, .int 0, .int 0])), (p1, .inr (1, [.ref p2, .ref p3, .ref p4, .ref p5, .int 16, .int 0, .int 16, .int 0, .int 1]))]) (w1 := [(p15, .inl (cI, 41, .inl (fun _ => 0)))]) hP hD [4] [0, 1, 2, 3, 5] rfl rfl (by decide) (by decide) hk1 hFc ht hq
  generalize H1 = H at hP hS ⊢
  have hP : va_P (dC, dI) vwCl [(p4, .inl (cI, 4096, .inl (fun _ => 0))), (p5, .inl (cI, 1024, .inl (fun _ => 0))), (p6, .inr (8, [.ref p7, .ref p8, .ref p9, .int 0, .int 0, .int 0, .int 0, .int (-1)])), (p0, .inr (3, [.ref p2, .ref p1, .ref p6, .ref p10, .ref p11, .ref p12, .ref p13, .ref p14, .ref p15, .ref p16, .ref p17, .ref p18, .ref p19, .ref p20, .int 0, .int 0])), (p1, .inr (1, [.ref p2, .ref p3, .ref p4, .ref p5, .int 16, .int 0, .int 16, .int 0, .int 1])), (p15, .inl (cI, 41, .inl (fun _ => 0)))] H := hP
  have hD : va_D A [(p4, .inl (cI, 4096, .inl (fun _ => 0))), (p5, .inl (cI, 1024, .inl (fun _ => 0))), (p6, .inr (8, [.ref p7, .ref p8, .ref p9, .int 0, .int 0, .int 0, .int 0, .int (-1)])), (p0, .inr (3, [.ref p2, .ref p1, .ref p6, .ref p10, .ref p11, .ref p12, .ref p13, .ref p14, .ref p15, .ref p16, .ref p17, .ref p18, .ref p19, .ref p20, .int 0, .int 0])), (p1, .inr (1, [.ref p2, .ref p3, .ref p4, .ref p5, .int 16, .int 0, .int 16, .int 0, .int 1])), (p15, .inl (cI, 41, .inl (fun _ => 0)))] := hD
  refine tp_i 0 hw ?_
  refine lv_iadd hx hb dX3_pack_48 ?_
  refine tp_i 0 (by decide) ?_
  refine lv_istore (lv' := [(6, .int 0), (5, .int 0), (4, .int 0), (3, .int 0), (0, .ref p0), (1, .int 16), (2, .int 0)]) hx hb dX3_pack_49 hl (by decide) rfl (fun ls hl => ?_)
  refine lv_iload hx hb dX3_pack_51 (lv_at hl 1 rfl) ?_
  refine lv_istore (lv' := [(7, .int 0), (6, .int 0), (5, .int 0), (4, .int 0), (3, .int 0), (0, .ref p0), (1, .int 16), (2, .int 0)]) hx hb dX3_pack_53 hl (by decide) rfl (fun ls hl => ?_)
  refine lv_iload hx hb dX3_pack_55 (lv_at hl 0 rfl) ?_
  refine lv_iload hx hb dX3_pack_57 (lv_at hl 1 rfl) ?_
  refine lv_icmp_ge (tgt := 103) hx hb dX3_pack_59 (by decide) (fun _ => ?_) (fun c => absurd (by decide) c)
  refine lv_iinc (v := 1) (lv' := [(4, .int 1), (7, .int 0), (6, .int 0), (5, .int 0), (3, .int 0), (0, .ref p0), (1, .int 16), (2, .int 0)]) hx hb dX3_pack_103 hl (k := 3) rfl (by decide) (by decide) rfl (fun ls hl => ?_)
  refine lv_goto (tgt := 20) hx hb dX3_pack_106 (by decide) ?_
  refine lv_iload hx hb dX3_pack_20 (lv_at hl 0 rfl) ?_
  refine lv_aload_n hx hb dX3_pack_22 rfl (lv_at hl 5 rfl) ?_
  refine va_get (D := (dC, dI)) (ci := 3) (v := .int 0) (C := RX3) (T := TX3) (N := 16) hx hb hW iW_3 hown hK hP 3 rfl rfl 15 (by decide) (hW _ mw_231) (fun _ h9 => h9) rfl dX3_pack_23 ?_
  refine lv_icmp_gt (tgt := 109) hx hb dX3_pack_26 (by decide) (fun _ => ?_) (fun c => absurd (by decide) c)
  refine lv_aload_n hx hb dX3_pack_109 rfl (lv_at hl 5 rfl) ?_
  refine va_get (D := (dC, dI)) (ci := 3) (v := .ref p6) (C := RX3) (T := TX3) (N := 16) hx hb hW iW_3 hown hK hP 3 rfl rfl 2 (by decide) (hW _ mw_59) (fun _ h9 => h9) rfl dX3_pack_110 ?_
  refine lv_iload_n hx hb dX3_pack_113 rfl (lv_at hl 6 rfl) ?_
  have hPc := hP.sub (ws' := [(p6, .inr (8, [.ref p7, .ref p8, .ref p9, .int 0, .int 0, .int 0, .int 0, .int (-1)]))]) [2] rfl
  have hDc := hD.sub (ws' := [(p6, .inr (8, [.ref p7, .ref p8, .ref p9, .int 0, .int 0, .int 0, .int 0, .int (-1)]))]) [2] (by decide) rfl
  have hFc := va_free (wc := [(p6, .inr (8, [.ref p7, .ref p8, .ref p9, .int 0, .int 0, .int 0, .int 0, .int (-1)]))]) hD hS hA [2] rfl
  refine va_callv (va_runVN (As := [.int 16]) (rest := []) ⟨hx, hb, hml, hown, hW⟩ (c_X8_unmake_0 l dC dI cI cB p6 p7 p8 p9 H.size) ⟨va_cnB 1 hW (gW mw_239) rfl rfl rfl (hN _ mn_20) (hW _ mw_32) (by decide +kernel) ⟨Nat.le_of_ble_eq_true rfl, Nat.le_of_ble_eq_true rfl⟩, hW _ mw_240, hW _ mw_241⟩ ⟨PB_blind _, va_recv hK hP (ci := 8) (q0 := 2) rfl rfl, fun U hU hW2 => ⟨rfl, PB_at hU hW2 hPc hK hDc hN⟩⟩ rfl rfl hl.1 rfl (lv_room (Nat.le_of_ble_eq_true rfl)) dX3_pack_114 ⟨Nat.le_of_ble_eq_true rfl, Nat.le_of_ble_eq_true rfl⟩) hS (fun q _ h => hFc q h) hFc (fun u t H1 locs ht hvm hw hB hz1 hk1 hS => ?_)
  have hq := hB
  obtain ⟨hP, hD⟩ := after (wr := [(p4, .inl (cI, 4096, .inl (fun _ => 0))), (p5, .inl (cI, 1024, .inl (fun _ => 0))), (p0, .inr (3, [.ref p2, .ref p1, .ref p6, .ref p10, .ref p11, .ref p12, .ref p13, .ref p14, .ref p15, .ref p16, .ref p17, .ref p18, .ref p19, .ref p20, .int 0, .int 0])), (p1, .inr (1, [.ref p2, .ref p3, .ref p4, .ref p5, .int 16, .int 0, .int 16, .int 0, .int 1])), (p15, .inl (cI, 41, .inl (fun _ => 0)))]) (w1 := [(p6, .inr (8, [.ref p7, .ref p8, .ref p9, .int 0, .int 0, .int 0, .int 0, .int (-1)]))]) hP hD [2] [0, 1, 3, 4, 5] rfl rfl (by decide) (by decide) hk1 hFc ht hq
  generalize H1 = H at hP hS ⊢
  have hP : va_P (dC, dI) vwCl [(p4, .inl (cI, 4096, .inl (fun _ => 0))), (p5, .inl (cI, 1024, .inl (fun _ => 0))), (p0, .inr (3, [.ref p2, .ref p1, .ref p6, .ref p10, .ref p11, .ref p12, .ref p13, .ref p14, .ref p15, .ref p16, .ref p17, .ref p18, .ref p19, .ref p20, .int 0, .int 0])), (p1, .inr (1, [.ref p2, .ref p3, .ref p4, .ref p5, .int 16, .int 0, .int 16, .int 0, .int 1])), (p15, .inl (cI, 41, .inl (fun _ => 0))), (p6, .inr (8, [.ref p7, .ref p8, .ref p9, .int 0, .int 0, .int 0, .int 0, .int (-1)]))] H := hP
  have hD : va_D A [(p4, .inl (cI, 4096, .inl (fun _ => 0))), (p5, .inl (cI, 1024, .inl (fun _ => 0))), (p0, .inr (3, [.ref p2, .ref p1, .ref p6, .ref p10, .ref p11, .ref p12, .ref p13, .ref p14, .ref p15, .ref p16, .ref p17, .ref p18, .ref p19, .ref p20, .int 0, .int 0])), (p1, .inr (1, [.ref p2, .ref p3, .ref p4, .ref p5, .int 16, .int 0, .int 16, .int 0, .int 1])), (p15, .inl (cI, 41, .inl (fun _ => 0))), (p6, .inr (8, [.ref p7, .ref p8, .ref p9, .int 0, .int 0, .int 0, .int 0, .int (-1)]))] := hD
  refine lv_aload_n hx hb dX3_pack_117 rfl (lv_at hl 5 rfl) ?_
  refine va_get (D := (dC, dI)) (ci := 3) (v := .ref p1) (C := RX3) (T := TX3) (N := 16) hx hb hW iW_3 hown hK hP 2 rfl rfl 1 (by decide) (hW _ mw_58) (fun _ h9 => h9) rfl dX3_pack_118 ?_
  have hPc := hP.sub (ws' := [(p4, .inl (cI, 4096, .inl (fun _ => 0))), (p5, .inl (cI, 1024, .inl (fun _ => 0))), (p1, .inr (1, [.ref p2, .ref p3, .ref p4, .ref p5, .int 16, .int 0, .int 16, .int 0, .int 1]))]) [0, 1, 3] rfl
  have hDc := hD.sub (ws' := [(p4, .inl (cI, 4096, .inl (fun _ => 0))), (p5, .inl (cI, 1024, .inl (fun _ => 0))), (p1, .inr (1, [.ref p2, .ref p3, .ref p4, .ref p5, .int 16, .int 0, .int 16, .int 0, .int 1]))]) [0, 1, 3] (by decide) rfl
  have hFc := va_free (wc := [(p4, .inl (cI, 4096, .inl (fun _ => 0))), (p5, .inl (cI, 1024, .inl (fun _ => 0))), (p1, .inr (1, [.ref p2, .ref p3, .ref p4, .ref p5, .int 16, .int 0, .int 16, .int 0, .int 1]))]) hD hS hA [0, 1, 3] rfl
  refine va_callv (va_runVN (As := []) (rest := []) ⟨hx, hb, hml, hown, hW⟩ (c_X1_settle_0 l dC dI cI cB p1 p4 p5 p2 p3 H.size) ⟨va_cnB 0 hW (gW mw_246) rfl rfl rfl (hN _ mn_21) (hW _ mw_17) (by decide +kernel) ⟨Nat.le_of_ble_eq_true rfl, Nat.le_of_ble_eq_true rfl⟩, hW _ mw_247, hW _ mw_248⟩ ⟨PB_blind _, va_recv hK hP (ci := 1) (q0 := 3) rfl rfl, fun U hU hW2 => ⟨rfl, PB_at hU hW2 hPc hK hDc hN⟩⟩ rfl rfl hl.1 rfl (lv_room (Nat.le_of_ble_eq_true rfl)) dX3_pack_121 ⟨Nat.le_of_ble_eq_true rfl, Nat.le_of_ble_eq_true rfl⟩) hS (fun q _ h => hFc q h) hFc (fun u t H1 locs ht hvm hw hB hz1 hk1 hS => ?_)
  have hq := hB
  obtain ⟨hP, hD⟩ := after (wr := [(p0, .inr (3, [.ref p2, .ref p1, .ref p6, .ref p10, .ref p11, .ref p12, .ref p13, .ref p14, .ref p15, .ref p16, .ref p17, .ref p18, .ref p19, .ref p20, .int 0, .int 0])), (p15, .inl (cI, 41, .inl (fun _ => 0))), (p6, .inr (8, [.ref p7, .ref p8, .ref p9, .int 0, .int 0, .int 0, .int 0, .int (-1)]))]) (w1 := [(p4, .inl (cI, 4096, .inl (fun _ => 0))), (p5, .inl (cI, 1024, .inl (fun _ => 0))), (p1, .inr (1, [.ref p2, .ref p3, .ref p4, .ref p5, .int 16, .int 0, .int 16, .int 0, .int 1]))]) hP hD [0, 1, 3] [2, 4, 5] rfl rfl (by decide) (by decide) hk1 hFc ht hq
  generalize H1 = H at hP hS ⊢
  have hP : va_P (dC, dI) vwCl [(p0, .inr (3, [.ref p2, .ref p1, .ref p6, .ref p10, .ref p11, .ref p12, .ref p13, .ref p14, .ref p15, .ref p16, .ref p17, .ref p18, .ref p19, .ref p20, .int 0, .int 0])), (p15, .inl (cI, 41, .inl (fun _ => 0))), (p6, .inr (8, [.ref p7, .ref p8, .ref p9, .int 0, .int 0, .int 0, .int 0, .int (-1)])), (p4, .inl (cI, 4096, .inl (fun _ => 0))), (p5, .inl (cI, 1024, .inl (fun _ => 0))), (p1, .inr (1, [.ref p2, .ref p3, .ref p4, .ref p5, .int 16, .int 0, .int 16, .int 0, .int 1]))] H := hP
  have hD : va_D A [(p0, .inr (3, [.ref p2, .ref p1, .ref p6, .ref p10, .ref p11, .ref p12, .ref p13, .ref p14, .ref p15, .ref p16, .ref p17, .ref p18, .ref p19, .ref p20, .int 0, .int 0])), (p15, .inl (cI, 41, .inl (fun _ => 0))), (p6, .inr (8, [.ref p7, .ref p8, .ref p9, .int 0, .int 0, .int 0, .int 0, .int (-1)])), (p4, .inl (cI, 4096, .inl (fun _ => 0))), (p5, .inl (cI, 1024, .inl (fun _ => 0))), (p1, .inr (1, [.ref p2, .ref p3, .ref p4, .ref p5, .int 16, .int 0, .int 16, .int 0, .int 1]))] := hD
  refine lv_iload_n hx hb dX3_pack_124 rfl (lv_at hl 4 rfl) ?_
  have hP9 := hP.sub (ws' := [(p1, .inr (1, [.ref p2, .ref p3, .ref p4, .ref p5, .int 16, .int 0, .int 16, .int 0, .int 1])), (p4, .inl (cI, 4096, .inl (fun _ => 0))), (p5, .inl (cI, 1024, .inl (fun _ => 0))), (p6, .inr (8, [.ref p7, .ref p8, .ref p9, .int 0, .int 0, .int 0, .int 0, .int (-1)])), (p0, .inr (3, [.ref p2, .ref p1, .ref p6, .ref p10, .ref p11, .ref p12, .ref p13, .ref p14, .ref p15, .ref p16, .ref p17, .ref p18, .ref p19, .ref p20, .int 0, .int 0])), (p15, .inl (cI, 41, .inl (fun _ => 0)))]) [5, 3, 4, 2, 0, 1] rfl
  have hD9 := hD.sub (ws' := [(p1, .inr (1, [.ref p2, .ref p3, .ref p4, .ref p5, .int 16, .int 0, .int 16, .int 0, .int 1])), (p4, .inl (cI, 4096, .inl (fun _ => 0))), (p5, .inl (cI, 1024, .inl (fun _ => 0))), (p6, .inr (8, [.ref p7, .ref p8, .ref p9, .int 0, .int 0, .int 0, .int 0, .int (-1)])), (p0, .inr (3, [.ref p2, .ref p1, .ref p6, .ref p10, .ref p11, .ref p12, .ref p13, .ref p14, .ref p15, .ref p16, .ref p17, .ref p18, .ref p19, .ref p20, .int 0, .int 0])), (p15, .inl (cI, 41, .inl (fun _ => 0)))]) [5, 3, 4, 2, 0, 1] (by decide) rfl
  refine W.widen (k := 0) (n := 0) (Nat.le_of_ble_eq_true rfl) (Nat.le_of_ble_eq_true rfl) ?_
  exact W.iret (v := 0) hx hb hr (fun t ht hW9 => ⟨⟨0, (), rfl, rfl, ⟨by rw [ht]; exact hP9, va_K.moved hW9.alike hK, hD9⟩⟩, hS.F ht⟩) hS.2.2 dX3_pack_125

set_option maxHeartbeats 4000000 in
set_option maxRecDepth 100000 in
/-- X10_peek_1 -/
theorem c_X10_peek_1 (l : Launch) (dC : Nat → ClassId) (dI : Nat → Nat → Nat) (cI cB : ClassId) (p0 : Nat) (p1 : Int32) (sz : Nat) : Met l yX10_peek (.code yX10_peek cX10_peek 2 (some .int) :: WA) ({ frames := 0, cells := 0, slots := 0, locals := 0 }) (va_Pc [.ref p0, .int p1] (PB dC dI cI cB [(p0, .inl (cI, 860, .inl (fun _ => 0)))] sz)) (va_Qi (fun (r : Int32) (_ : Unit) => r = 0) (fun (_ : Unit) t => QB dC dI cI cB [(p0, .inl (cI, 860, .inl (fun _ => 0)))] (va_A [(p0, .inl (cI, 860, .inl (fun _ => 0)))] sz) t) (va_A [(p0, .inl (cI, 860, .inl (fun _ => 0)))] sz)) 0 0 (va_A [(p0, .inl (cI, 860, .inl (fun _ => 0)))] sz) := by
  refine Met.ofW (cc := cX10_peek) (maxL := 2) (ret := (some .int)) (by decide) rfl ?_
  intro p e s m args below meth c s₁ B hml hv
  obtain ⟨rfl, hsz, hP, hK, hD0, hN⟩ := hv
  have hx := B.exec
  have hb := B.bytes
  have hr := B.returns
  have hts := atoms_spec B.pre
  have hW : ∀ w ∈ WA, w.before [.ref p0, .int p1].toArray s = true := fun w h => hts w (List.mem_cons_of_mem _ h)
  have hown : s.vm.findClass RX10 = some m.cls := findClass_of_methodNamed B.named
  have hlocks := B.notSynchronized
  subst hsz
  have hD := hD0.self (sz := s.heap.size)
  generalize hAe : va_A [(p0, .inl (cI, 860, .inl (fun _ => 0)))] s.heap.size = A at hD ⊢
  have hA : ∀ q : Nat, s.heap.size ≤ q → A q := fun q h => by rw [← hAe]; exact Or.inr h
  have hS : va_S A s.heap s.heap [] := va_S.rf
  have hP : va_P (dC, dI) vwCl [(p0, .inl (cI, 860, .inl (fun _ => 0)))] s.heap := hP
  have hl := lv_entry ([.ref p0, .int p1]) (n := 2) (Nat.le_of_ble_eq_true rfl)
  rw [lg_entry_eq]
  generalize (lg_sl ([.ref p0, .int p1]) ++ List.replicate (2 - (lg_sl ([.ref p0, .int p1])).length) Slot.unset).toArray = ls at hl ⊢
  have hl : lv_has ls 2 [(0, .ref p0), (1, .int p1)] := hl
  refine lv_iload_n hx hb dX10_peek_0 rfl (lv_at hl 1 rfl) ?_
  refine lv_if_lt (tgt := 16) hx hb dX10_peek_1 (by decide) (fun c1_1 => ?_) (fun c1_1 => ?_)
  · refine lv_iconst (v := 0) hx hb dX10_peek_16 (by decide) ?_
    have hP9 := hP.sub (ws' := [(p0, .inl (cI, 860, .inl (fun _ => 0)))]) [0] rfl
    have hD9 := hD.sub (ws' := [(p0, .inl (cI, 860, .inl (fun _ => 0)))]) [0] (by decide) rfl
    refine W.widen (k := 0) (n := 0) (Nat.le_of_ble_eq_true rfl) (Nat.le_of_ble_eq_true rfl) ?_
    exact W.iret (v := 0) hx hb hr (fun t ht hW9 => ⟨⟨0, (), rfl, rfl, ⟨by rw [ht]; exact hP9, va_K.moved hW9.alike hK, hD9⟩⟩, hS.F ht⟩) hS.2.2 dX10_peek_17
  · refine lv_iload_n hx hb dX10_peek_4 rfl (lv_at hl 1 rfl) ?_
    refine lv_aload_n hx hb dX10_peek_5 rfl (lv_at hl 0 rfl) ?_
    refine va_alen (v := 860) hx hb hK hP 0 0 rfl rfl (show Int32.ofNat 860 = 860 by decide) dX10_peek_6 ?_
    refine lv_icmp_ge (tgt := 16) hx hb dX10_peek_7 (by decide) (fun c7_2 => ?_) (fun c7_2 => ?_)
    · refine lv_iconst (v := 0) hx hb dX10_peek_16 (by decide) ?_
      have hP9 := hP.sub (ws' := [(p0, .inl (cI, 860, .inl (fun _ => 0)))]) [0] rfl
      have hD9 := hD.sub (ws' := [(p0, .inl (cI, 860, .inl (fun _ => 0)))]) [0] (by decide) rfl
      refine W.widen (k := 0) (n := 0) (Nat.le_of_ble_eq_true rfl) (Nat.le_of_ble_eq_true rfl) ?_
      exact W.iret (v := 0) hx hb hr (fun t ht hW9 => ⟨⟨0, (), rfl, rfl, ⟨by rw [ht]; exact hP9, va_K.moved hW9.alike hK, hD9⟩⟩, hS.F ht⟩) hS.2.2 dX10_peek_17
    · refine lv_aload_n hx hb dX10_peek_10 rfl (lv_at hl 0 rfl) ?_
      refine lv_iload_n hx hb dX10_peek_11 rfl (lv_at hl 1 rfl) ?_
      refine va_iald hx hb hK hP 0 0 rfl rfl (vp_in_iff.mpr (by have k0 := f_nlt (m := 0) rfl (by decide) c1_1; have k1 := f_nle (n := 860) (by decide) rfl c7_2; omega)) dX10_peek_12 ?_
      refine tp_i 0 rfl ?_
      refine lv_goto (tgt := 17) hx hb dX10_peek_13 (by decide) ?_
      have hP9 := hP.sub (ws' := [(p0, .inl (cI, 860, .inl (fun _ => 0)))]) [0] rfl
      have hD9 := hD.sub (ws' := [(p0, .inl (cI, 860, .inl (fun _ => 0)))]) [0] (by decide) rfl
      refine W.widen (k := 0) (n := 0) (Nat.le_of_ble_eq_true rfl) (Nat.le_of_ble_eq_true rfl) ?_
      exact W.iret (v := 0) hx hb hr (fun t ht hW9 => ⟨⟨0, (), rfl, rfl, ⟨by rw [ht]; exact hP9, va_K.moved hW9.alike hK, hD9⟩⟩, hS.F ht⟩) hS.2.2 dX10_peek_17

set_option maxHeartbeats 4000000 in
set_option maxRecDepth 100000 in
/-- X3_meansAt_0 -/
theorem c_X3_meansAt_0 (l : Launch) (dC : Nat → ClassId) (dI : Nat → Nat → Nat) (cI cB : ClassId) (p0 : Nat) (p1 : Int32) (p2 : Nat) (p3 : Nat) (p4 : Nat) (p5 : Nat) (p6 : Nat) (p7 : Nat) (p8 : Nat) (p9 : Nat) (p10 : Nat) (p11 : Nat) (p12 : Nat) (p13 : Nat) (p14 : Nat) (p15 : Nat) (sz : Nat) : Met l yX3_meansAt (.code yX3_meansAt cX3_meansAt 2 (some .int) :: WA) ({ frames := 1, cells := 0, slots := 0, locals := 21 }) (va_Pc [.ref p0, .int p1] (PB dC dI cI cB [(p2, .inl (cI, 860, .inl (fun _ => 0))), (p0, .inr (3, [.ref p3, .ref p4, .ref p5, .ref p6, .ref p7, .ref p2, .ref p8, .ref p9, .ref p10, .ref p11, .ref p12, .ref p13, .ref p14, .ref p15, .int 0, .int 0]))] sz)) (va_Qi (fun (r : Int32) (_ : Unit) => r = 0) (fun (_ : Unit) t => QB dC dI cI cB [(p2, .inl (cI, 860, .inl (fun _ => 0))), (p0, .inr (3, [.ref p3, .ref p4, .ref p5, .ref p6, .ref p7, .ref p2, .ref p8, .ref p9, .ref p10, .ref p11, .ref p12, .ref p13, .ref p14, .ref p15, .int 0, .int 0]))] (va_A [(p2, .inl (cI, 860, .inl (fun _ => 0))), (p0, .inr (3, [.ref p3, .ref p4, .ref p5, .ref p6, .ref p7, .ref p2, .ref p8, .ref p9, .ref p10, .ref p11, .ref p12, .ref p13, .ref p14, .ref p15, .int 0, .int 0]))] sz) t) (va_A [(p2, .inl (cI, 860, .inl (fun _ => 0))), (p0, .inr (3, [.ref p3, .ref p4, .ref p5, .ref p6, .ref p7, .ref p2, .ref p8, .ref p9, .ref p10, .ref p11, .ref p12, .ref p13, .ref p14, .ref p15, .int 0, .int 0]))] sz)) 0 0 (va_A [(p2, .inl (cI, 860, .inl (fun _ => 0))), (p0, .inr (3, [.ref p3, .ref p4, .ref p5, .ref p6, .ref p7, .ref p2, .ref p8, .ref p9, .ref p10, .ref p11, .ref p12, .ref p13, .ref p14, .ref p15, .int 0, .int 0]))] sz) := by
  refine Met.ofW (cc := cX3_meansAt) (maxL := 2) (ret := (some .int)) (by decide) rfl ?_
  intro p e s m args below meth c s₁ B hml hv
  obtain ⟨rfl, hsz, hP, hK, hD0, hN⟩ := hv
  have hx := B.exec
  have hb := B.bytes
  have hr := B.returns
  have hts := atoms_spec B.pre
  have hW : ∀ w ∈ WA, w.before [.ref p0, .int p1].toArray s = true := fun w h => hts w (List.mem_cons_of_mem _ h)
  have hown : s.vm.findClass RX3 = some m.cls := findClass_of_methodNamed B.named
  have hlocks := B.notSynchronized
  subst hsz
  have hD := hD0.self (sz := s.heap.size)
  generalize hAe : va_A [(p2, .inl (cI, 860, .inl (fun _ => 0))), (p0, .inr (3, [.ref p3, .ref p4, .ref p5, .ref p6, .ref p7, .ref p2, .ref p8, .ref p9, .ref p10, .ref p11, .ref p12, .ref p13, .ref p14, .ref p15, .int 0, .int 0]))] s.heap.size = A at hD ⊢
  have hA : ∀ q : Nat, s.heap.size ≤ q → A q := fun q h => by rw [← hAe]; exact Or.inr h
  have hS : va_S A s.heap s.heap [] := va_S.rf
  have hP : va_P (dC, dI) vwCl [(p2, .inl (cI, 860, .inl (fun _ => 0))), (p0, .inr (3, [.ref p3, .ref p4, .ref p5, .ref p6, .ref p7, .ref p2, .ref p8, .ref p9, .ref p10, .ref p11, .ref p12, .ref p13, .ref p14, .ref p15, .int 0, .int 0]))] s.heap := hP
  have hl := lv_entry ([.ref p0, .int p1]) (n := 2) (Nat.le_of_ble_eq_true rfl)
  rw [lg_entry_eq]
  generalize (lg_sl ([.ref p0, .int p1]) ++ List.replicate (2 - (lg_sl ([.ref p0, .int p1])).length) Slot.unset).toArray = ls at hl ⊢
  have hl : lv_has ls 2 [(0, .ref p0), (1, .int p1)] := hl
  refine lv_aload_n hx hb dX3_meansAt_0 rfl (lv_at hl 0 rfl) ?_
  refine va_get (D := (dC, dI)) (ci := 3) (v := .ref p2) (C := RX3) (T := TX3) (N := 16) hx hb hW iW_3 hown hK hP 1 rfl rfl 5 (by decide) (hW _ mw_48) (fun _ h9 => h9) rfl dX3_meansAt_1 ?_
  refine lv_iload_n hx hb dX3_meansAt_4 rfl (lv_at hl 1 rfl) ?_
  have hPc := hP.sub (ws' := [(p2, .inl (cI, 860, .inl (fun _ => 0)))]) [0] rfl
  have hDc := hD.sub (ws' := [(p2, .inl (cI, 860, .inl (fun _ => 0)))]) [0] (by decide) rfl
  have hFc := va_free (wc := [(p2, .inl (cI, 860, .inl (fun _ => 0)))]) hD hS hA [0] rfl
  refine va_calli (va_runSN (As := [.ref p2, .int p1]) (rest := []) ⟨hx, hb, hml, hown, hW⟩ (c_X10_peek_1 l dC dI cI cB p2 p1 s.heap.size) ⟨va_cnB 2 hW (gW mw_236) rfl rfl rfl (hN _ mn_19) (hW _ mw_2) (by decide +kernel) ⟨Nat.le_of_ble_eq_true rfl, Nat.le_of_ble_eq_true rfl⟩, hW _ mw_237, trivial⟩ ⟨PB_blind _, fun U hU hW2 => ⟨rfl, PB_at hU hW2 hPc hK hDc hN⟩⟩ rfl rfl hl.1 rfl (lv_room (Nat.le_of_ble_eq_true rfl)) dX3_meansAt_5 ⟨Nat.le_of_ble_eq_true rfl, Nat.le_of_ble_eq_true rfl⟩) hS (fun q _ h => hFc q h) hFc (fun r u t H1 locs ht hvm hw hB hz1 hk1 hS => ?_)
  have hq := hB
  obtain ⟨hP, hD⟩ := after (wr := [(p0, .inr (3, [.ref p3, .ref p4, .ref p5, .ref p6, .ref p7, .ref p2, .ref p8, .ref p9, .ref p10, .ref p11, .ref p12, .ref p13, .ref p14, .ref p15, .int 0, .int 0]))]) (w1 := [(p2, .inl (cI, 860, .inl (fun _ => 0)))]) hP hD [0] [1] rfl rfl (by decide) (by decide) hk1 hFc ht hq
  generalize H1 = H at hP hS ⊢
  have hP : va_P (dC, dI) vwCl [(p0, .inr (3, [.ref p3, .ref p4, .ref p5, .ref p6, .ref p7, .ref p2, .ref p8, .ref p9, .ref p10, .ref p11, .ref p12, .ref p13, .ref p14, .ref p15, .int 0, .int 0])), (p2, .inl (cI, 860, .inl (fun _ => 0)))] H := hP
  have hD : va_D A [(p0, .inr (3, [.ref p3, .ref p4, .ref p5, .ref p6, .ref p7, .ref p2, .ref p8, .ref p9, .ref p10, .ref p11, .ref p12, .ref p13, .ref p14, .ref p15, .int 0, .int 0])), (p2, .inl (cI, 860, .inl (fun _ => 0)))] := hD
  refine tp_i 0 hw ?_
  have hP9 := hP.sub (ws' := [(p2, .inl (cI, 860, .inl (fun _ => 0))), (p0, .inr (3, [.ref p3, .ref p4, .ref p5, .ref p6, .ref p7, .ref p2, .ref p8, .ref p9, .ref p10, .ref p11, .ref p12, .ref p13, .ref p14, .ref p15, .int 0, .int 0]))]) [1, 0] rfl
  have hD9 := hD.sub (ws' := [(p2, .inl (cI, 860, .inl (fun _ => 0))), (p0, .inr (3, [.ref p3, .ref p4, .ref p5, .ref p6, .ref p7, .ref p2, .ref p8, .ref p9, .ref p10, .ref p11, .ref p12, .ref p13, .ref p14, .ref p15, .int 0, .int 0]))]) [1, 0] (by decide) rfl
  refine W.widen (k := 0) (n := 0) (Nat.le_of_ble_eq_true rfl) (Nat.le_of_ble_eq_true rfl) ?_
  exact W.iret (v := 0) hx hb hr (fun t ht hW9 => ⟨⟨0, (), rfl, rfl, ⟨by rw [ht]; exact hP9, va_K.moved hW9.alike hK, hD9⟩⟩, hS.F ht⟩) hS.2.2 dX3_meansAt_8

set_option maxHeartbeats 4000000 in
set_option maxRecDepth 100000 in
/-- X10_keepHouse_0 -/
theorem c_X10_keepHouse_0 (l : Launch) (dC : Nat → ClassId) (dI : Nat → Nat → Nat) (cI cB : ClassId) (p0 : Nat) (p1 : Nat) (p2 : Nat) (p3 : Nat) (p4 : Nat) (p5 : Nat) (p6 : Nat) (p7 : Nat) (p8 : Nat) (p9 : Nat) (p10 : Nat) (p11 : Nat) (p12 : Nat) (p13 : Nat) (p14 : Nat) (p15 : Nat) (p16 : Nat) (p17 : Nat) (p18 : Nat) (p19 : Nat) (p20 : Nat) (p21 : Nat) (p22 : Nat) (p23 : Nat) (p24 : Nat) (p25 : Nat) (p26 : Nat) (p27 : Nat) (p28 : Nat) (p29 : Nat) (p30 : Nat) (sz : Nat) : Met l yX10_keepHouse (.code yX10_keepHouse cX10_keepHouse 4 none :: WA) ({ frames := 3, cells := 0, slots := 0, locals := 347 }) (va_Pc [.ref p0] (PB dC dI cI cB [(p0, .inr (10, [.ref p1, .ref p2, .ref p3, .ref p4, .ref p5, .ref p6, .ref p7, .ref p8, .int 0, .int 0, .int (-1)])), (p2, .inr (1, [.ref p1, .ref p9, .ref p10, .ref p11, .int 16, .int 0, .int 16, .int 0, .int 1])), (p10, .inl (cI, 4096, .inl (fun _ => 0))), (p11, .inl (cI, 1024, .inl (fun _ => 0))), (p3, .inr (8, [.ref p12, .ref p13, .ref p14, .int 0, .int 0, .int 0, .int 0, .int (-1)])), (p4, .inr (3, [.ref p1, .ref p2, .ref p3, .ref p15, .ref p16, .ref p17, .ref p18, .ref p19, .ref p20, .ref p21, .ref p22, .ref p23, .ref p24, .ref p25, .int 0, .int 0])), (p17, .inl (cI, 860, .inl (fun _ => 0))), (p20, .inl (cI, 41, .inl (fun _ => 0))), (p6, .inr (4, [.ref p1, .ref p2, .ref p3, .ref p4, .ref p26, .ref p27, .ref p28, .ref p29, .ref p30, .int 0, .int 0, .int 0, .int 0]))] sz)) (va_Qv (fun _ : Unit => True) (fun (_ : Unit) t => QB dC dI cI cB [(p0, .inr (10, [.ref p1, .ref p2, .ref p3, .ref p4, .ref p5, .ref p6, .ref p7, .ref p8, .int 0, .int 0, .int (-1)])), (p2, .inr (1, [.ref p1, .ref p9, .ref p10, .ref p11, .int 16, .int 0, .int 16, .int 0, .int 1])), (p10, .inl (cI, 4096, .inl (fun _ => 0))), (p11, .inl (cI, 1024, .inl (fun _ => 0))), (p3, .inr (8, [.ref p12, .ref p13, .ref p14, .int 0, .int 0, .int 0, .int 0, .int (-1)])), (p4, .inr (3, [.ref p1, .ref p2, .ref p3, .ref p15, .ref p16, .ref p17, .ref p18, .ref p19, .ref p20, .ref p21, .ref p22, .ref p23, .ref p24, .ref p25, .int 0, .int 0])), (p17, .inl (cI, 860, .inl (fun _ => 0))), (p20, .inl (cI, 41, .inl (fun _ => 0))), (p6, .inr (4, [.ref p1, .ref p2, .ref p3, .ref p4, .ref p26, .ref p27, .ref p28, .ref p29, .ref p30, .int 0, .int 0, .int 0, .int 0]))] (va_A [(p0, .inr (10, [.ref p1, .ref p2, .ref p3, .ref p4, .ref p5, .ref p6, .ref p7, .ref p8, .int 0, .int 0, .int (-1)])), (p2, .inr (1, [.ref p1, .ref p9, .ref p10, .ref p11, .int 16, .int 0, .int 16, .int 0, .int 1])), (p10, .inl (cI, 4096, .inl (fun _ => 0))), (p11, .inl (cI, 1024, .inl (fun _ => 0))), (p3, .inr (8, [.ref p12, .ref p13, .ref p14, .int 0, .int 0, .int 0, .int 0, .int (-1)])), (p4, .inr (3, [.ref p1, .ref p2, .ref p3, .ref p15, .ref p16, .ref p17, .ref p18, .ref p19, .ref p20, .ref p21, .ref p22, .ref p23, .ref p24, .ref p25, .int 0, .int 0])), (p17, .inl (cI, 860, .inl (fun _ => 0))), (p20, .inl (cI, 41, .inl (fun _ => 0))), (p6, .inr (4, [.ref p1, .ref p2, .ref p3, .ref p4, .ref p26, .ref p27, .ref p28, .ref p29, .ref p30, .int 0, .int 0, .int 0, .int 0]))] sz) t) (va_A [(p0, .inr (10, [.ref p1, .ref p2, .ref p3, .ref p4, .ref p5, .ref p6, .ref p7, .ref p8, .int 0, .int 0, .int (-1)])), (p2, .inr (1, [.ref p1, .ref p9, .ref p10, .ref p11, .int 16, .int 0, .int 16, .int 0, .int 1])), (p10, .inl (cI, 4096, .inl (fun _ => 0))), (p11, .inl (cI, 1024, .inl (fun _ => 0))), (p3, .inr (8, [.ref p12, .ref p13, .ref p14, .int 0, .int 0, .int 0, .int 0, .int (-1)])), (p4, .inr (3, [.ref p1, .ref p2, .ref p3, .ref p15, .ref p16, .ref p17, .ref p18, .ref p19, .ref p20, .ref p21, .ref p22, .ref p23, .ref p24, .ref p25, .int 0, .int 0])), (p17, .inl (cI, 860, .inl (fun _ => 0))), (p20, .inl (cI, 41, .inl (fun _ => 0))), (p6, .inr (4, [.ref p1, .ref p2, .ref p3, .ref p4, .ref p26, .ref p27, .ref p28, .ref p29, .ref p30, .int 0, .int 0, .int 0, .int 0]))] sz)) 0 0 (va_A [(p0, .inr (10, [.ref p1, .ref p2, .ref p3, .ref p4, .ref p5, .ref p6, .ref p7, .ref p8, .int 0, .int 0, .int (-1)])), (p2, .inr (1, [.ref p1, .ref p9, .ref p10, .ref p11, .int 16, .int 0, .int 16, .int 0, .int 1])), (p10, .inl (cI, 4096, .inl (fun _ => 0))), (p11, .inl (cI, 1024, .inl (fun _ => 0))), (p3, .inr (8, [.ref p12, .ref p13, .ref p14, .int 0, .int 0, .int 0, .int 0, .int (-1)])), (p4, .inr (3, [.ref p1, .ref p2, .ref p3, .ref p15, .ref p16, .ref p17, .ref p18, .ref p19, .ref p20, .ref p21, .ref p22, .ref p23, .ref p24, .ref p25, .int 0, .int 0])), (p17, .inl (cI, 860, .inl (fun _ => 0))), (p20, .inl (cI, 41, .inl (fun _ => 0))), (p6, .inr (4, [.ref p1, .ref p2, .ref p3, .ref p4, .ref p26, .ref p27, .ref p28, .ref p29, .ref p30, .int 0, .int 0, .int 0, .int 0]))] sz) := by
  refine Met.ofW (cc := cX10_keepHouse) (maxL := 4) (ret := none) (by decide) rfl ?_
  intro p e s m args below meth c s₁ B hml hv
  obtain ⟨rfl, hsz, hP, hK, hD0, hN⟩ := hv
  have hx := B.exec
  have hb := B.bytes
  have hr := B.returns
  have hts := atoms_spec B.pre
  have hW : ∀ w ∈ WA, w.before [.ref p0].toArray s = true := fun w h => hts w (List.mem_cons_of_mem _ h)
  have hown : s.vm.findClass RX10 = some m.cls := findClass_of_methodNamed B.named
  have hlocks := B.notSynchronized
  subst hsz
  have hD := hD0.self (sz := s.heap.size)
  generalize hAe : va_A [(p0, .inr (10, [.ref p1, .ref p2, .ref p3, .ref p4, .ref p5, .ref p6, .ref p7, .ref p8, .int 0, .int 0, .int (-1)])), (p2, .inr (1, [.ref p1, .ref p9, .ref p10, .ref p11, .int 16, .int 0, .int 16, .int 0, .int 1])), (p10, .inl (cI, 4096, .inl (fun _ => 0))), (p11, .inl (cI, 1024, .inl (fun _ => 0))), (p3, .inr (8, [.ref p12, .ref p13, .ref p14, .int 0, .int 0, .int 0, .int 0, .int (-1)])), (p4, .inr (3, [.ref p1, .ref p2, .ref p3, .ref p15, .ref p16, .ref p17, .ref p18, .ref p19, .ref p20, .ref p21, .ref p22, .ref p23, .ref p24, .ref p25, .int 0, .int 0])), (p17, .inl (cI, 860, .inl (fun _ => 0))), (p20, .inl (cI, 41, .inl (fun _ => 0))), (p6, .inr (4, [.ref p1, .ref p2, .ref p3, .ref p4, .ref p26, .ref p27, .ref p28, .ref p29, .ref p30, .int 0, .int 0, .int 0, .int 0]))] s.heap.size = A at hD ⊢
  have hA : ∀ q : Nat, s.heap.size ≤ q → A q := fun q h => by rw [← hAe]; exact Or.inr h
  have hS : va_S A s.heap s.heap [] := va_S.rf
  have hP : va_P (dC, dI) vwCl [(p0, .inr (10, [.ref p1, .ref p2, .ref p3, .ref p4, .ref p5, .ref p6, .ref p7, .ref p8, .int 0, .int 0, .int (-1)])), (p2, .inr (1, [.ref p1, .ref p9, .ref p10, .ref p11, .int 16, .int 0, .int 16, .int 0, .int 1])), (p10, .inl (cI, 4096, .inl (fun _ => 0))), (p11, .inl (cI, 1024, .inl (fun _ => 0))), (p3, .inr (8, [.ref p12, .ref p13, .ref p14, .int 0, .int 0, .int 0, .int 0, .int (-1)])), (p4, .inr (3, [.ref p1, .ref p2, .ref p3, .ref p15, .ref p16, .ref p17, .ref p18, .ref p19, .ref p20, .ref p21, .ref p22, .ref p23, .ref p24, .ref p25, .int 0, .int 0])), (p17, .inl (cI, 860, .inl (fun _ => 0))), (p20, .inl (cI, 41, .inl (fun _ => 0))), (p6, .inr (4, [.ref p1, .ref p2, .ref p3, .ref p4, .ref p26, .ref p27, .ref p28, .ref p29, .ref p30, .int 0, .int 0, .int 0, .int 0]))] s.heap := hP
  have hl := lv_entry ([.ref p0]) (n := 4) (Nat.le_of_ble_eq_true rfl)
  rw [lg_entry_eq]
  generalize (lg_sl ([.ref p0]) ++ List.replicate (4 - (lg_sl ([.ref p0])).length) Slot.unset).toArray = ls at hl ⊢
  have hl : lv_has ls 4 [(0, .ref p0)] := hl
  refine lv_aload_n hx hb dX10_keepHouse_0 rfl (lv_at hl 0 rfl) ?_
  refine va_get (D := (dC, dI)) (ci := 10) (v := .ref p6) (C := RX10) (T := TX10) (N := 11) hx hb hW iW_10 hown hK hP 0 rfl rfl 5 (by decide) (hW _ mw_136) (fun _ h9 => h9) rfl dX10_keepHouse_1 ?_
  refine lv_iconst (v := 0) hx hb dX10_keepHouse_4 (by decide) ?_
  refine va_putN (D := (dC, dI)) (ci := 4) (v := .int 0) (ty := .int) (C := RX4) (T := TX4) (N := 13) hx hb hW iW_4 tyX4 tyX4_ok nmX4 hown hK hP hD hS 8 rfl rfl 9 (by decide) (va_Nw.use rfl (hN _ mn_14)) (fun _ h9 => h9) rfl (by decide +kernel) rfl rfl (Nat.le_of_ble_eq_true rfl) dX10_keepHouse_5 (fun H locs hP hD hS => ?_)
  have hP : va_P (dC, dI) vwCl [(p0, .inr (10, [.ref p1, .ref p2, .ref p3, .ref p4, .ref p5, .ref p6, .ref p7, .ref p8, .int 0, .int 0, .int (-1)])), (p2, .inr (1, [.ref p1, .ref p9, .ref p10, .ref p11, .int 16, .int 0, .int 16, .int 0, .int 1])), (p10, .inl (cI, 4096, .inl (fun _ => 0))), (p11, .inl (cI, 1024, .inl (fun _ => 0))), (p3, .inr (8, [.ref p12, .ref p13, .ref p14, .int 0, .int 0, .int 0, .int 0, .int (-1)])), (p4, .inr (3, [.ref p1, .ref p2, .ref p3, .ref p15, .ref p16, .ref p17, .ref p18, .ref p19, .ref p20, .ref p21, .ref p22, .ref p23, .ref p24, .ref p25, .int 0, .int 0])), (p17, .inl (cI, 860, .inl (fun _ => 0))), (p20, .inl (cI, 41, .inl (fun _ => 0))), (p6, .inr (4, [.ref p1, .ref p2, .ref p3, .ref p4, .ref p26, .ref p27, .ref p28, .ref p29, .ref p30, .int 0, .int 0, .int 0, .int 0]))] H := hP
  have hD : va_D A [(p0, .inr (10, [.ref p1, .ref p2, .ref p3, .ref p4, .ref p5, .ref p6, .ref p7, .ref p8, .int 0, .int 0, .int (-1)])), (p2, .inr (1, [.ref p1, .ref p9, .ref p10, .ref p11, .int 16, .int 0, .int 16, .int 0, .int 1])), (p10, .inl (cI, 4096, .inl (fun _ => 0))), (p11, .inl (cI, 1024, .inl (fun _ => 0))), (p3, .inr (8, [.ref p12, .ref p13, .ref p14, .int 0, .int 0, .int 0, .int 0, .int (-1)])), (p4, .inr (3, [.ref p1, .ref p2, .ref p3, .ref p15, .ref p16, .ref p17, .ref p18, .ref p19, .ref p20, .ref p21, .ref p22, .ref p23, .ref p24, .ref p25, .int 0, .int 0])), (p17, .inl (cI, 860, .inl (fun _ => 0))), (p20, .inl (cI, 41, .inl (fun _ => 0))), (p6, .inr (4, [.ref p1, .ref p2, .ref p3, .ref p4, .ref p26, .ref p27, .ref p28, .ref p29, .ref p30, .int 0, .int 0, .int 0, .int 0]))] := hD
  refine lv_aload_n hx hb dX10_keepHouse_8 rfl (lv_at hl 0 rfl) ?_
  refine va_get (D := (dC, dI)) (ci := 10) (v := .ref p4) (C := RX10) (T := TX10) (N := 11) hx hb hW iW_10 hown hK hP 0 rfl rfl 3 (by decide) (hW _ mw_62) (fun _ h9 => h9) rfl dX10_keepHouse_9 ?_
  refine lv_iconst (v := 0) hx hb dX10_keepHouse_12 (by decide) ?_
  refine va_putN (D := (dC, dI)) (ci := 3) (v := .int 0) (ty := .int) (C := RX3) (T := TX3) (N := 16) hx hb hW iW_3 tyX3 tyX3_ok nmX3 hown hK hP hD hS 5 rfl rfl 15 (by decide) (va_Nw.use rfl (hN _ mn_15)) (fun _ h9 => h9) rfl (by decide +kernel) rfl rfl (Nat.le_of_ble_eq_true rfl) dX10_keepHouse_13 (fun H locs hP hD hS => ?_)
  have hP : va_P (dC, dI) vwCl [(p0, .inr (10, [.ref p1, .ref p2, .ref p3, .ref p4, .ref p5, .ref p6, .ref p7, .ref p8, .int 0, .int 0, .int (-1)])), (p2, .inr (1, [.ref p1, .ref p9, .ref p10, .ref p11, .int 16, .int 0, .int 16, .int 0, .int 1])), (p10, .inl (cI, 4096, .inl (fun _ => 0))), (p11, .inl (cI, 1024, .inl (fun _ => 0))), (p3, .inr (8, [.ref p12, .ref p13, .ref p14, .int 0, .int 0, .int 0, .int 0, .int (-1)])), (p4, .inr (3, [.ref p1, .ref p2, .ref p3, .ref p15, .ref p16, .ref p17, .ref p18, .ref p19, .ref p20, .ref p21, .ref p22, .ref p23, .ref p24, .ref p25, .int 0, .int 0])), (p17, .inl (cI, 860, .inl (fun _ => 0))), (p20, .inl (cI, 41, .inl (fun _ => 0))), (p6, .inr (4, [.ref p1, .ref p2, .ref p3, .ref p4, .ref p26, .ref p27, .ref p28, .ref p29, .ref p30, .int 0, .int 0, .int 0, .int 0]))] H := hP
  have hD : va_D A [(p0, .inr (10, [.ref p1, .ref p2, .ref p3, .ref p4, .ref p5, .ref p6, .ref p7, .ref p8, .int 0, .int 0, .int (-1)])), (p2, .inr (1, [.ref p1, .ref p9, .ref p10, .ref p11, .int 16, .int 0, .int 16, .int 0, .int 1])), (p10, .inl (cI, 4096, .inl (fun _ => 0))), (p11, .inl (cI, 1024, .inl (fun _ => 0))), (p3, .inr (8, [.ref p12, .ref p13, .ref p14, .int 0, .int 0, .int 0, .int 0, .int (-1)])), (p4, .inr (3, [.ref p1, .ref p2, .ref p3, .ref p15, .ref p16, .ref p17, .ref p18, .ref p19, .ref p20, .ref p21, .ref p22, .ref p23, .ref p24, .ref p25, .int 0, .int 0])), (p17, .inl (cI, 860, .inl (fun _ => 0))), (p20, .inl (cI, 41, .inl (fun _ => 0))), (p6, .inr (4, [.ref p1, .ref p2, .ref p3, .ref p4, .ref p26, .ref p27, .ref p28, .ref p29, .ref p30, .int 0, .int 0, .int 0, .int 0]))] := hD
  refine lv_aload_n hx hb dX10_keepHouse_16 rfl (lv_at hl 0 rfl) ?_
  refine va_get (D := (dC, dI)) (ci := 10) (v := .ref p4) (C := RX10) (T := TX10) (N := 11) hx hb hW iW_10 hown hK hP 0 rfl rfl 3 (by decide) (hW _ mw_62) (fun _ h9 => h9) rfl dX10_keepHouse_17 ?_
  refine lv_iconst (v := 0) hx hb dX10_keepHouse_20 (by decide) ?_
  refine va_putN (D := (dC, dI)) (ci := 3) (v := .int 0) (ty := .int) (C := RX3) (T := TX3) (N := 16) hx hb hW iW_3 tyX3 tyX3_ok nmX3 hown hK hP hD hS 5 rfl rfl 14 (by decide) (va_Nw.use rfl (hN _ mn_16)) (fun _ h9 => h9) rfl (by decide +kernel) rfl rfl (Nat.le_of_ble_eq_true rfl) dX10_keepHouse_21 (fun H locs hP hD hS => ?_)
  have hP : va_P (dC, dI) vwCl [(p0, .inr (10, [.ref p1, .ref p2, .ref p3, .ref p4, .ref p5, .ref p6, .ref p7, .ref p8, .int 0, .int 0, .int (-1)])), (p2, .inr (1, [.ref p1, .ref p9, .ref p10, .ref p11, .int 16, .int 0, .int 16, .int 0, .int 1])), (p10, .inl (cI, 4096, .inl (fun _ => 0))), (p11, .inl (cI, 1024, .inl (fun _ => 0))), (p3, .inr (8, [.ref p12, .ref p13, .ref p14, .int 0, .int 0, .int 0, .int 0, .int (-1)])), (p4, .inr (3, [.ref p1, .ref p2, .ref p3, .ref p15, .ref p16, .ref p17, .ref p18, .ref p19, .ref p20, .ref p21, .ref p22, .ref p23, .ref p24, .ref p25, .int 0, .int 0])), (p17, .inl (cI, 860, .inl (fun _ => 0))), (p20, .inl (cI, 41, .inl (fun _ => 0))), (p6, .inr (4, [.ref p1, .ref p2, .ref p3, .ref p4, .ref p26, .ref p27, .ref p28, .ref p29, .ref p30, .int 0, .int 0, .int 0, .int 0]))] H := hP
  have hD : va_D A [(p0, .inr (10, [.ref p1, .ref p2, .ref p3, .ref p4, .ref p5, .ref p6, .ref p7, .ref p8, .int 0, .int 0, .int (-1)])), (p2, .inr (1, [.ref p1, .ref p9, .ref p10, .ref p11, .int 16, .int 0, .int 16, .int 0, .int 1])), (p10, .inl (cI, 4096, .inl (fun _ => 0))), (p11, .inl (cI, 1024, .inl (fun _ => 0))), (p3, .inr (8, [.ref p12, .ref p13, .ref p14, .int 0, .int 0, .int 0, .int 0, .int (-1)])), (p4, .inr (3, [.ref p1, .ref p2, .ref p3, .ref p15, .ref p16, .ref p17, .ref p18, .ref p19, .ref p20, .ref p21, .ref p22, .ref p23, .ref p24, .ref p25, .int 0, .int 0])), (p17, .inl (cI, 860, .inl (fun _ => 0))), (p20, .inl (cI, 41, .inl (fun _ => 0))), (p6, .inr (4, [.ref p1, .ref p2, .ref p3, .ref p4, .ref p26, .ref p27, .ref p28, .ref p29, .ref p30, .int 0, .int 0, .int 0, .int 0]))] := hD
  refine lv_aload_n hx hb dX10_keepHouse_24 rfl (lv_at hl 0 rfl) ?_
  refine va_get (D := (dC, dI)) (ci := 10) (v := .ref p4) (C := RX10) (T := TX10) (N := 11) hx hb hW iW_10 hown hK hP 0 rfl rfl 3 (by decide) (hW _ mw_62) (fun _ h9 => h9) rfl dX10_keepHouse_25 ?_
  refine lv_bipush (v := 16) hx hb dX10_keepHouse_28 (by decide) ?_
  refine lv_iconst (v := 0) hx hb dX10_keepHouse_30 (by decide) ?_
  have hPc := hP.sub (ws' := [(p2, .inr (1, [.ref p1, .ref p9, .ref p10, .ref p11, .int 16, .int 0, .int 16, .int 0, .int 1])), (p10, .inl (cI, 4096, .inl (fun _ => 0))), (p11, .inl (cI, 1024, .inl (fun _ => 0))), (p3, .inr (8, [.ref p12, .ref p13, .ref p14, .int 0, .int 0, .int 0, .int 0, .int (-1)])), (p4, .inr (3, [.ref p1, .ref p2, .ref p3, .ref p15, .ref p16, .ref p17, .ref p18, .ref p19, .ref p20, .ref p21, .ref p22, .ref p23, .ref p24, .ref p25, .int 0, .int 0])), (p20, .inl (cI, 41, .inl (fun _ => 0)))]) [1, 2, 3, 4, 5, 7] rfl
  have hDc := hD.sub (ws' := [(p2, .inr (1, [.ref p1, .ref p9, .ref p10, .ref p11, .int 16, .int 0, .int 16, .int 0, .int 1])), (p10, .inl (cI, 4096, .inl (fun _ => 0))), (p11, .inl (cI, 1024, .inl (fun _ => 0))), (p3, .inr (8, [.ref p12, .ref p13, .ref p14, .int 0, .int 0, .int 0, .int 0, .int (-1)])), (p4, .inr (3, [.ref p1, .ref p2, .ref p3, .ref p15, .ref p16, .ref p17, .ref p18, .ref p19, .ref p20, .ref p21, .ref p22, .ref p23, .ref p24, .ref p25, .int 0, .int 0])), (p20, .inl (cI, 41, .inl (fun _ => 0)))]) [1, 2, 3, 4, 5, 7] (by decide) rfl
  have hFc := va_free (wc := [(p2, .inr (1, [.ref p1, .ref p9, .ref p10, .ref p11, .int 16, .int 0, .int 16, .int 0, .int 1])), (p10, .inl (cI, 4096, .inl (fun _ => 0))), (p11, .inl (cI, 1024, .inl (fun _ => 0))), (p3, .inr (8, [.ref p12, .ref p13, .ref p14, .int 0, .int 0, .int 0, .int 0, .int (-1)])), (p4, .inr (3, [.ref p1, .ref p2, .ref p3, .ref p15, .ref p16, .ref p17, .ref p18, .ref p19, .ref p20, .ref p21, .ref p22, .ref p23, .ref p24, .ref p25, .int 0, .int 0])), (p20, .inl (cI, 41, .inl (fun _ => 0)))]) hD hS hA [1, 2, 3, 4, 5, 7] rfl
  refine va_calli (va_runVN (As := [.int 16, .int 0]) (rest := []) ⟨hx, hb, hml, hown, hW⟩ (c_X3_pack_0 l dC dI cI cB p4 p2 p1 p9 p10 p11 p3 p12 p13 p14 p15 p16 p17 p18 p19 p20 p21 p22 p23 p24 p25 H.size) ⟨va_cnB 2 hW (gW mw_249) rfl rfl rfl (hN _ mn_22) (hW _ mw_44) (by decide +kernel) ⟨Nat.le_of_ble_eq_true rfl, Nat.le_of_ble_eq_true rfl⟩, hW _ mw_250, hW _ mw_251⟩ ⟨PB_blind _, va_recv hK hP (ci := 3) (q0 := 5) rfl rfl, fun U hU hW2 => ⟨rfl, PB_at hU hW2 hPc hK hDc hN⟩⟩ rfl rfl hl.1 rfl (lv_room (Nat.le_of_ble_eq_true rfl)) dX10_keepHouse_31 ⟨Nat.le_of_ble_eq_true rfl, Nat.le_of_ble_eq_true rfl⟩) hS (fun q _ h => hFc q h) hFc (fun r u t H1 locs ht hvm hw hB hz1 hk1 hS => ?_)
  have hq := hB
  obtain ⟨hP, hD⟩ := after (wr := [(p0, .inr (10, [.ref p1, .ref p2, .ref p3, .ref p4, .ref p5, .ref p6, .ref p7, .ref p8, .int 0, .int 0, .int (-1)])), (p17, .inl (cI, 860, .inl (fun _ => 0))), (p6, .inr (4, [.ref p1, .ref p2, .ref p3, .ref p4, .ref p26, .ref p27, .ref p28, .ref p29, .ref p30, .int 0, .int 0, .int 0, .int 0]))]) (w1 := [(p2, .inr (1, [.ref p1, .ref p9, .ref p10, .ref p11, .int 16, .int 0, .int 16, .int 0, .int 1])), (p10, .inl (cI, 4096, .inl (fun _ => 0))), (p11, .inl (cI, 1024, .inl (fun _ => 0))), (p3, .inr (8, [.ref p12, .ref p13, .ref p14, .int 0, .int 0, .int 0, .int 0, .int (-1)])), (p4, .inr (3, [.ref p1, .ref p2, .ref p3, .ref p15, .ref p16, .ref p17, .ref p18, .ref p19, .ref p20, .ref p21, .ref p22, .ref p23, .ref p24, .ref p25, .int 0, .int 0])), (p20, .inl (cI, 41, .inl (fun _ => 0)))]) hP hD [1, 2, 3, 4, 5, 7] [0, 6, 8] rfl rfl (by decide) (by decide) hk1 hFc ht hq
  generalize H1 = H at hP hS ⊢
  have hP : va_P (dC, dI) vwCl [(p0, .inr (10, [.ref p1, .ref p2, .ref p3, .ref p4, .ref p5, .ref p6, .ref p7, .ref p8, .int 0, .int 0, .int (-1)])), (p17, .inl (cI, 860, .inl (fun _ => 0))), (p6, .inr (4, [.ref p1, .ref p2, .ref p3, .ref p4, .ref p26, .ref p27, .ref p28, .ref p29, .ref p30, .int 0, .int 0, .int 0, .int 0])), (p2, .inr (1, [.ref p1, .ref p9, .ref p10, .ref p11, .int 16, .int 0, .int 16, .int 0, .int 1])), (p10, .inl (cI, 4096, .inl (fun _ => 0))), (p11, .inl (cI, 1024, .inl (fun _ => 0))), (p3, .inr (8, [.ref p12, .ref p13, .ref p14, .int 0, .int 0, .int 0, .int 0, .int (-1)])), (p4, .inr (3, [.ref p1, .ref p2, .ref p3, .ref p15, .ref p16, .ref p17, .ref p18, .ref p19, .ref p20, .ref p21, .ref p22, .ref p23, .ref p24, .ref p25, .int 0, .int 0])), (p20, .inl (cI, 41, .inl (fun _ => 0)))] H := hP
  have hD : va_D A [(p0, .inr (10, [.ref p1, .ref p2, .ref p3, .ref p4, .ref p5, .ref p6, .ref p7, .ref p8, .int 0, .int 0, .int (-1)])), (p17, .inl (cI, 860, .inl (fun _ => 0))), (p6, .inr (4, [.ref p1, .ref p2, .ref p3, .ref p4, .ref p26, .ref p27, .ref p28, .ref p29, .ref p30, .int 0, .int 0, .int 0, .int 0])), (p2, .inr (1, [.ref p1, .ref p9, .ref p10, .ref p11, .int 16, .int 0, .int 16, .int 0, .int 1])), (p10, .inl (cI, 4096, .inl (fun _ => 0))), (p11, .inl (cI, 1024, .inl (fun _ => 0))), (p3, .inr (8, [.ref p12, .ref p13, .ref p14, .int 0, .int 0, .int 0, .int 0, .int (-1)])), (p4, .inr (3, [.ref p1, .ref p2, .ref p3, .ref p15, .ref p16, .ref p17, .ref p18, .ref p19, .ref p20, .ref p21, .ref p22, .ref p23, .ref p24, .ref p25, .int 0, .int 0])), (p20, .inl (cI, 41, .inl (fun _ => 0)))] := hD
  refine tp_i 0 hw ?_
  refine lv_pop hx hb dX10_keepHouse_34 rfl ?_
  refine lv_aload_n hx hb dX10_keepHouse_35 rfl (lv_at hl 0 rfl) ?_
  refine va_get (D := (dC, dI)) (ci := 10) (v := .ref p3) (C := RX10) (T := TX10) (N := 11) hx hb hW iW_10 hown hK hP 0 rfl rfl 2 (by decide) (hW _ mw_41) (fun _ h9 => h9) rfl dX10_keepHouse_36 ?_
  refine lv_iconst (v := 0) hx hb dX10_keepHouse_39 (by decide) ?_
  refine va_putN (D := (dC, dI)) (ci := 8) (v := .int 0) (ty := .int) (C := RX8) (T := TX8) (N := 8) hx hb hW iW_8 tyX8 tyX8_ok nmX8 hown hK hP hD hS 6 rfl rfl 5 (by decide) (va_Nw.use rfl (hN _ mn_23)) (fun _ h9 => h9) rfl (by decide +kernel) rfl rfl (Nat.le_of_ble_eq_true rfl) dX10_keepHouse_40 (fun H locs hP hD hS => ?_)
  have hP : va_P (dC, dI) vwCl [(p0, .inr (10, [.ref p1, .ref p2, .ref p3, .ref p4, .ref p5, .ref p6, .ref p7, .ref p8, .int 0, .int 0, .int (-1)])), (p17, .inl (cI, 860, .inl (fun _ => 0))), (p6, .inr (4, [.ref p1, .ref p2, .ref p3, .ref p4, .ref p26, .ref p27, .ref p28, .ref p29, .ref p30, .int 0, .int 0, .int 0, .int 0])), (p2, .inr (1, [.ref p1, .ref p9, .ref p10, .ref p11, .int 16, .int 0, .int 16, .int 0, .int 1])), (p10, .inl (cI, 4096, .inl (fun _ => 0))), (p11, .inl (cI, 1024, .inl (fun _ => 0))), (p3, .inr (8, [.ref p12, .ref p13, .ref p14, .int 0, .int 0, .int 0, .int 0, .int (-1)])), (p4, .inr (3, [.ref p1, .ref p2, .ref p3, .ref p15, .ref p16, .ref p17, .ref p18, .ref p19, .ref p20, .ref p21, .ref p22, .ref p23, .ref p24, .ref p25, .int 0, .int 0])), (p20, .inl (cI, 41, .inl (fun _ => 0)))] H := hP
  have hD : va_D A [(p0, .inr (10, [.ref p1, .ref p2, .ref p3, .ref p4, .ref p5, .ref p6, .ref p7, .ref p8, .int 0, .int 0, .int (-1)])), (p17, .inl (cI, 860, .inl (fun _ => 0))), (p6, .inr (4, [.ref p1, .ref p2, .ref p3, .ref p4, .ref p26, .ref p27, .ref p28, .ref p29, .ref p30, .int 0, .int 0, .int 0, .int 0])), (p2, .inr (1, [.ref p1, .ref p9, .ref p10, .ref p11, .int 16, .int 0, .int 16, .int 0, .int 1])), (p10, .inl (cI, 4096, .inl (fun _ => 0))), (p11, .inl (cI, 1024, .inl (fun _ => 0))), (p3, .inr (8, [.ref p12, .ref p13, .ref p14, .int 0, .int 0, .int 0, .int 0, .int (-1)])), (p4, .inr (3, [.ref p1, .ref p2, .ref p3, .ref p15, .ref p16, .ref p17, .ref p18, .ref p19, .ref p20, .ref p21, .ref p22, .ref p23, .ref p24, .ref p25, .int 0, .int 0])), (p20, .inl (cI, 41, .inl (fun _ => 0)))] := hD
  refine lv_iconst (v := 0) hx hb dX10_keepHouse_43 (by decide) ?_
  refine lv_istore_n (lv' := [(1, .int 0), (0, .ref p0)]) hx hb dX10_keepHouse_44 rfl hl (by decide) rfl (fun ls hl => ?_)
  refine lp_ 60 (fun (i45 : Nat) (H : Heap) (locs : List Loc) (ls : Array Slot) => va_P (dC, dI) vwCl [(p0, .inr (10, [.ref p1, .ref p2, .ref p3, .ref p4, .ref p5, .ref p6, .ref p7, .ref p8, .int 0, .int 0, .int (-1)])), (p17, .inl (cI, 860, .inl (fun _ => 0))), (p6, .inr (4, [.ref p1, .ref p2, .ref p3, .ref p4, .ref p26, .ref p27, .ref p28, .ref p29, .ref p30, .int 0, .int 0, .int 0, .int 0])), (p2, .inr (1, [.ref p1, .ref p9, .ref p10, .ref p11, .int 16, .int 0, .int 16, .int 0, .int 1])), (p10, .inl (cI, 4096, .inl (fun _ => 0))), (p11, .inl (cI, 1024, .inl (fun _ => 0))), (p3, .inr (8, [.ref p12, .ref p13, .ref p14, .int 0, .int 0, .int 0, .int 0, .int (-1)])), (p4, .inr (3, [.ref p1, .ref p2, .ref p3, .ref p15, .ref p16, .ref p17, .ref p18, .ref p19, .ref p20, .ref p21, .ref p22, .ref p23, .ref p24, .ref p25, .int 0, .int 0])), (p20, .inl (cI, 41, .inl (fun _ => 0)))] H ∧ va_D A [(p0, .inr (10, [.ref p1, .ref p2, .ref p3, .ref p4, .ref p5, .ref p6, .ref p7, .ref p8, .int 0, .int 0, .int (-1)])), (p17, .inl (cI, 860, .inl (fun _ => 0))), (p6, .inr (4, [.ref p1, .ref p2, .ref p3, .ref p4, .ref p26, .ref p27, .ref p28, .ref p29, .ref p30, .int 0, .int 0, .int 0, .int 0])), (p2, .inr (1, [.ref p1, .ref p9, .ref p10, .ref p11, .int 16, .int 0, .int 16, .int 0, .int 1])), (p10, .inl (cI, 4096, .inl (fun _ => 0))), (p11, .inl (cI, 1024, .inl (fun _ => 0))), (p3, .inr (8, [.ref p12, .ref p13, .ref p14, .int 0, .int 0, .int 0, .int 0, .int (-1)])), (p4, .inr (3, [.ref p1, .ref p2, .ref p3, .ref p15, .ref p16, .ref p17, .ref p18, .ref p19, .ref p20, .ref p21, .ref p22, .ref p23, .ref p24, .ref p25, .int 0, .int 0])), (p20, .inl (cI, 41, .inl (fun _ => 0)))] ∧ va_S A s.heap H locs ∧ lv_has ls 4 [(1, .int (nI i45)), (0, .ref p0)]) ?_ ?_ ⟨hP, hD, hS, hl⟩
  · intro i45 hi45 ih45 H locs ls hI
    obtain ⟨hP, hD, hS, hl⟩ := hI
    refine lv_iload_n hx hb dX10_keepHouse_45 rfl (lv_at hl 0 rfl) ?_
    refine lv_bipush (v := 60) hx hb dX10_keepHouse_46 (by decide) ?_
    refine lv_icmp_ge (tgt := 134) hx hb dX10_keepHouse_48 (by decide) (fun c => absurd c (nI_ge (a := i45) (b := 60) (by omega) (by omega))) (fun _ => ?_)
    refine lv_aload_n hx hb dX10_keepHouse_51 rfl (lv_at hl 1 rfl) ?_
    refine va_get (D := (dC, dI)) (ci := 10) (v := .ref p4) (C := RX10) (T := TX10) (N := 11) hx hb hW iW_10 hown hK hP 0 rfl rfl 3 (by decide) (hW _ mw_62) (fun _ h9 => h9) rfl dX10_keepHouse_52 ?_
    refine lv_iload_n hx hb dX10_keepHouse_55 rfl (lv_at hl 0 rfl) ?_
    have hPc := hP.sub (ws' := [(p17, .inl (cI, 860, .inl (fun _ => 0))), (p4, .inr (3, [.ref p1, .ref p2, .ref p3, .ref p15, .ref p16, .ref p17, .ref p18, .ref p19, .ref p20, .ref p21, .ref p22, .ref p23, .ref p24, .ref p25, .int 0, .int 0]))]) [1, 7] rfl
    have hDc := hD.sub (ws' := [(p17, .inl (cI, 860, .inl (fun _ => 0))), (p4, .inr (3, [.ref p1, .ref p2, .ref p3, .ref p15, .ref p16, .ref p17, .ref p18, .ref p19, .ref p20, .ref p21, .ref p22, .ref p23, .ref p24, .ref p25, .int 0, .int 0]))]) [1, 7] (by decide) rfl
    have hFc := va_free (wc := [(p17, .inl (cI, 860, .inl (fun _ => 0))), (p4, .inr (3, [.ref p1, .ref p2, .ref p3, .ref p15, .ref p16, .ref p17, .ref p18, .ref p19, .ref p20, .ref p21, .ref p22, .ref p23, .ref p24, .ref p25, .int 0, .int 0]))]) hD hS hA [1, 7] rfl
    refine va_calli (va_runVN (As := [.int (nI i45)]) (rest := []) ⟨hx, hb, hml, hown, hW⟩ (c_X3_meansAt_0 l dC dI cI cB p4 (nI i45) p17 p1 p2 p3 p15 p16 p18 p19 p20 p21 p22 p23 p24 p25 H.size) ⟨va_cnB 1 hW (gW mw_252) rfl rfl rfl (hN _ mn_24) (hW _ mw_44) (by decide +kernel) ⟨Nat.le_of_ble_eq_true rfl, Nat.le_of_ble_eq_true rfl⟩, hW _ mw_253, hW _ mw_254⟩ ⟨PB_blind _, va_recv hK hP (ci := 3) (q0 := 7) rfl rfl, fun U hU hW2 => ⟨rfl, PB_at hU hW2 hPc hK hDc hN⟩⟩ rfl rfl hl.1 rfl (lv_room (Nat.le_of_ble_eq_true rfl)) dX10_keepHouse_56 ⟨Nat.le_of_ble_eq_true rfl, Nat.le_of_ble_eq_true rfl⟩) hS (fun q _ h => hFc q h) hFc (fun r u t H1 locs ht hvm hw hB hz1 hk1 hS => ?_)
    have hq := hB
    obtain ⟨hP, hD⟩ := after (wr := [(p0, .inr (10, [.ref p1, .ref p2, .ref p3, .ref p4, .ref p5, .ref p6, .ref p7, .ref p8, .int 0, .int 0, .int (-1)])), (p6, .inr (4, [.ref p1, .ref p2, .ref p3, .ref p4, .ref p26, .ref p27, .ref p28, .ref p29, .ref p30, .int 0, .int 0, .int 0, .int 0])), (p2, .inr (1, [.ref p1, .ref p9, .ref p10, .ref p11, .int 16, .int 0, .int 16, .int 0, .int 1])), (p10, .inl (cI, 4096, .inl (fun _ => 0))), (p11, .inl (cI, 1024, .inl (fun _ => 0))), (p3, .inr (8, [.ref p12, .ref p13, .ref p14, .int 0, .int 0, .int 0, .int 0, .int (-1)])), (p20, .inl (cI, 41, .inl (fun _ => 0)))]) (w1 := [(p17, .inl (cI, 860, .inl (fun _ => 0))), (p4, .inr (3, [.ref p1, .ref p2, .ref p3, .ref p15, .ref p16, .ref p17, .ref p18, .ref p19, .ref p20, .ref p21, .ref p22, .ref p23, .ref p24, .ref p25, .int 0, .int 0]))]) hP hD [1, 7] [0, 2, 3, 4, 5, 6, 8] rfl rfl (by decide) (by decide) hk1 hFc ht hq
    generalize H1 = H at hP hS ⊢
    have hP : va_P (dC, dI) vwCl [(p0, .inr (10, [.ref p1, .ref p2, .ref p3, .ref p4, .ref p5, .ref p6, .ref p7, .ref p8, .int 0, .int 0, .int (-1)])), (p6, .inr (4, [.ref p1, .ref p2, .ref p3, .ref p4, .ref p26, .ref p27, .ref p28, .ref p29, .ref p30, .int 0, .int 0, .int 0, .int 0])), (p2, .inr (1, [.ref p1, .ref p9, .ref p10, .ref p11, .int 16, .int 0, .int 16, .int 0, .int 1])), (p10, .inl (cI, 4096, .inl (fun _ => 0))), (p11, .inl (cI, 1024, .inl (fun _ => 0))), (p3, .inr (8, [.ref p12, .ref p13, .ref p14, .int 0, .int 0, .int 0, .int 0, .int (-1)])), (p20, .inl (cI, 41, .inl (fun _ => 0))), (p17, .inl (cI, 860, .inl (fun _ => 0))), (p4, .inr (3, [.ref p1, .ref p2, .ref p3, .ref p15, .ref p16, .ref p17, .ref p18, .ref p19, .ref p20, .ref p21, .ref p22, .ref p23, .ref p24, .ref p25, .int 0, .int 0]))] H := hP
    have hD : va_D A [(p0, .inr (10, [.ref p1, .ref p2, .ref p3, .ref p4, .ref p5, .ref p6, .ref p7, .ref p8, .int 0, .int 0, .int (-1)])), (p6, .inr (4, [.ref p1, .ref p2, .ref p3, .ref p4, .ref p26, .ref p27, .ref p28, .ref p29, .ref p30, .int 0, .int 0, .int 0, .int 0])), (p2, .inr (1, [.ref p1, .ref p9, .ref p10, .ref p11, .int 16, .int 0, .int 16, .int 0, .int 1])), (p10, .inl (cI, 4096, .inl (fun _ => 0))), (p11, .inl (cI, 1024, .inl (fun _ => 0))), (p3, .inr (8, [.ref p12, .ref p13, .ref p14, .int 0, .int 0, .int 0, .int 0, .int (-1)])), (p20, .inl (cI, 41, .inl (fun _ => 0))), (p17, .inl (cI, 860, .inl (fun _ => 0))), (p4, .inr (3, [.ref p1, .ref p2, .ref p3, .ref p15, .ref p16, .ref p17, .ref p18, .ref p19, .ref p20, .ref p21, .ref p22, .ref p23, .ref p24, .ref p25, .int 0, .int 0]))] := hD
    refine tp_i 0 hw ?_
    refine lv_iconst (v := 2) hx hb dX10_keepHouse_59 (by decide) ?_
    refine lv_icmp_eq (tgt := 66) hx hb dX10_keepHouse_60 (by decide) (fun c => absurd c (by decide)) (fun _ => ?_)
    refine lv_goto (tgt := 128) hx hb dX10_keepHouse_63 (by decide) ?_
    refine lv_iinc (v := nI (i45 + 1)) (lv' := [(1, .int (nI (i45 + 1))), (0, .ref p0)]) hx hb dX10_keepHouse_128 hl (k := 0) rfl (nI_1 _) (by decide) rfl (fun ls hl => ?_)
    refine lv_goto (tgt := 45) hx hb dX10_keepHouse_131 (by decide) ?_
    exact ih45 _ _ _ ⟨hP.sub [0, 7, 1, 2, 3, 4, 5, 8, 6] rfl, hD.sub [0, 7, 1, 2, 3, 4, 5, 8, 6] (by decide) rfl, hS, lv_sub hl [0, 1] rfl⟩
  · intro H locs ls hI
    obtain ⟨hP, hD, hS, hl⟩ := hI
    have hl : lv_has ls 4 [(1, .int 60), (0, .ref p0)] := hl
    refine lv_iload_n hx hb dX10_keepHouse_45 rfl (lv_at hl 0 rfl) ?_
    refine lv_bipush (v := 60) hx hb dX10_keepHouse_46 (by decide) ?_
    refine lv_icmp_ge (tgt := 134) hx hb dX10_keepHouse_48 (by decide) (fun _ => ?_) (fun c => absurd (by decide) c)
    refine lv_aload_n hx hb dX10_keepHouse_134 rfl (lv_at hl 1 rfl) ?_
    refine va_get (D := (dC, dI)) (ci := 10) (v := .ref p3) (C := RX10) (T := TX10) (N := 11) hx hb hW iW_10 hown hK hP 0 rfl rfl 2 (by decide) (hW _ mw_41) (fun _ h9 => h9) rfl dX10_keepHouse_135 ?_
    refine lv_iconst (v := 0) hx hb dX10_keepHouse_138 (by decide) ?_
    refine va_putN (D := (dC, dI)) (ci := 8) (v := .int 0) (ty := .int) (C := RX8) (T := TX8) (N := 8) hx hb hW iW_8 tyX8 tyX8_ok nmX8 hown hK hP hD hS 6 rfl rfl 3 (by decide) (va_Nw.use rfl (hN _ mn_25)) (fun _ h9 => h9) rfl (by decide +kernel) rfl rfl (Nat.le_of_ble_eq_true rfl) dX10_keepHouse_139 (fun H locs hP hD hS => ?_)
    have hP : va_P (dC, dI) vwCl [(p0, .inr (10, [.ref p1, .ref p2, .ref p3, .ref p4, .ref p5, .ref p6, .ref p7, .ref p8, .int 0, .int 0, .int (-1)])), (p17, .inl (cI, 860, .inl (fun _ => 0))), (p6, .inr (4, [.ref p1, .ref p2, .ref p3, .ref p4, .ref p26, .ref p27, .ref p28, .ref p29, .ref p30, .int 0, .int 0, .int 0, .int 0])), (p2, .inr (1, [.ref p1, .ref p9, .ref p10, .ref p11, .int 16, .int 0, .int 16, .int 0, .int 1])), (p10, .inl (cI, 4096, .inl (fun _ => 0))), (p11, .inl (cI, 1024, .inl (fun _ => 0))), (p3, .inr (8, [.ref p12, .ref p13, .ref p14, .int 0, .int 0, .int 0, .int 0, .int (-1)])), (p4, .inr (3, [.ref p1, .ref p2, .ref p3, .ref p15, .ref p16, .ref p17, .ref p18, .ref p19, .ref p20, .ref p21, .ref p22, .ref p23, .ref p24, .ref p25, .int 0, .int 0])), (p20, .inl (cI, 41, .inl (fun _ => 0)))] H := hP
    have hD : va_D A [(p0, .inr (10, [.ref p1, .ref p2, .ref p3, .ref p4, .ref p5, .ref p6, .ref p7, .ref p8, .int 0, .int 0, .int (-1)])), (p17, .inl (cI, 860, .inl (fun _ => 0))), (p6, .inr (4, [.ref p1, .ref p2, .ref p3, .ref p4, .ref p26, .ref p27, .ref p28, .ref p29, .ref p30, .int 0, .int 0, .int 0, .int 0])), (p2, .inr (1, [.ref p1, .ref p9, .ref p10, .ref p11, .int 16, .int 0, .int 16, .int 0, .int 1])), (p10, .inl (cI, 4096, .inl (fun _ => 0))), (p11, .inl (cI, 1024, .inl (fun _ => 0))), (p3, .inr (8, [.ref p12, .ref p13, .ref p14, .int 0, .int 0, .int 0, .int 0, .int (-1)])), (p4, .inr (3, [.ref p1, .ref p2, .ref p3, .ref p15, .ref p16, .ref p17, .ref p18, .ref p19, .ref p20, .ref p21, .ref p22, .ref p23, .ref p24, .ref p25, .int 0, .int 0])), (p20, .inl (cI, 41, .inl (fun _ => 0)))] := hD
    refine lv_aload_n hx hb dX10_keepHouse_142 rfl (lv_at hl 1 rfl) ?_
    refine va_get (D := (dC, dI)) (ci := 10) (v := .ref p3) (C := RX10) (T := TX10) (N := 11) hx hb hW iW_10 hown hK hP 0 rfl rfl 2 (by decide) (hW _ mw_41) (fun _ h9 => h9) rfl dX10_keepHouse_143 ?_
    refine lv_iconst (v := 0) hx hb dX10_keepHouse_146 (by decide) ?_
    refine va_putN (D := (dC, dI)) (ci := 8) (v := .int 0) (ty := .int) (C := RX8) (T := TX8) (N := 8) hx hb hW iW_8 tyX8 tyX8_ok nmX8 hown hK hP hD hS 6 rfl rfl 4 (by decide) (va_Nw.use rfl (hN _ mn_26)) (fun _ h9 => h9) rfl (by decide +kernel) rfl rfl (Nat.le_of_ble_eq_true rfl) dX10_keepHouse_147 (fun H locs hP hD hS => ?_)
    have hP : va_P (dC, dI) vwCl [(p0, .inr (10, [.ref p1, .ref p2, .ref p3, .ref p4, .ref p5, .ref p6, .ref p7, .ref p8, .int 0, .int 0, .int (-1)])), (p17, .inl (cI, 860, .inl (fun _ => 0))), (p6, .inr (4, [.ref p1, .ref p2, .ref p3, .ref p4, .ref p26, .ref p27, .ref p28, .ref p29, .ref p30, .int 0, .int 0, .int 0, .int 0])), (p2, .inr (1, [.ref p1, .ref p9, .ref p10, .ref p11, .int 16, .int 0, .int 16, .int 0, .int 1])), (p10, .inl (cI, 4096, .inl (fun _ => 0))), (p11, .inl (cI, 1024, .inl (fun _ => 0))), (p3, .inr (8, [.ref p12, .ref p13, .ref p14, .int 0, .int 0, .int 0, .int 0, .int (-1)])), (p4, .inr (3, [.ref p1, .ref p2, .ref p3, .ref p15, .ref p16, .ref p17, .ref p18, .ref p19, .ref p20, .ref p21, .ref p22, .ref p23, .ref p24, .ref p25, .int 0, .int 0])), (p20, .inl (cI, 41, .inl (fun _ => 0)))] H := hP
    have hD : va_D A [(p0, .inr (10, [.ref p1, .ref p2, .ref p3, .ref p4, .ref p5, .ref p6, .ref p7, .ref p8, .int 0, .int 0, .int (-1)])), (p17, .inl (cI, 860, .inl (fun _ => 0))), (p6, .inr (4, [.ref p1, .ref p2, .ref p3, .ref p4, .ref p26, .ref p27, .ref p28, .ref p29, .ref p30, .int 0, .int 0, .int 0, .int 0])), (p2, .inr (1, [.ref p1, .ref p9, .ref p10, .ref p11, .int 16, .int 0, .int 16, .int 0, .int 1])), (p10, .inl (cI, 4096, .inl (fun _ => 0))), (p11, .inl (cI, 1024, .inl (fun _ => 0))), (p3, .inr (8, [.ref p12, .ref p13, .ref p14, .int 0, .int 0, .int 0, .int 0, .int (-1)])), (p4, .inr (3, [.ref p1, .ref p2, .ref p3, .ref p15, .ref p16, .ref p17, .ref p18, .ref p19, .ref p20, .ref p21, .ref p22, .ref p23, .ref p24, .ref p25, .int 0, .int 0])), (p20, .inl (cI, 41, .inl (fun _ => 0)))] := hD
    refine lv_iconst (v := 0) hx hb dX10_keepHouse_150 (by decide) ?_
    refine lv_istore_n (lv' := [(1, .int 0), (0, .ref p0)]) hx hb dX10_keepHouse_151 rfl hl (by decide) rfl (fun ls hl => ?_)
    refine lp_ 60 (fun (i152 : Nat) (H : Heap) (locs : List Loc) (ls : Array Slot) => va_P (dC, dI) vwCl [(p0, .inr (10, [.ref p1, .ref p2, .ref p3, .ref p4, .ref p5, .ref p6, .ref p7, .ref p8, .int 0, .int 0, .int (-1)])), (p17, .inl (cI, 860, .inl (fun _ => 0))), (p6, .inr (4, [.ref p1, .ref p2, .ref p3, .ref p4, .ref p26, .ref p27, .ref p28, .ref p29, .ref p30, .int 0, .int 0, .int 0, .int 0])), (p2, .inr (1, [.ref p1, .ref p9, .ref p10, .ref p11, .int 16, .int 0, .int 16, .int 0, .int 1])), (p10, .inl (cI, 4096, .inl (fun _ => 0))), (p11, .inl (cI, 1024, .inl (fun _ => 0))), (p3, .inr (8, [.ref p12, .ref p13, .ref p14, .int 0, .int 0, .int 0, .int 0, .int (-1)])), (p4, .inr (3, [.ref p1, .ref p2, .ref p3, .ref p15, .ref p16, .ref p17, .ref p18, .ref p19, .ref p20, .ref p21, .ref p22, .ref p23, .ref p24, .ref p25, .int 0, .int 0])), (p20, .inl (cI, 41, .inl (fun _ => 0)))] H ∧ va_D A [(p0, .inr (10, [.ref p1, .ref p2, .ref p3, .ref p4, .ref p5, .ref p6, .ref p7, .ref p8, .int 0, .int 0, .int (-1)])), (p17, .inl (cI, 860, .inl (fun _ => 0))), (p6, .inr (4, [.ref p1, .ref p2, .ref p3, .ref p4, .ref p26, .ref p27, .ref p28, .ref p29, .ref p30, .int 0, .int 0, .int 0, .int 0])), (p2, .inr (1, [.ref p1, .ref p9, .ref p10, .ref p11, .int 16, .int 0, .int 16, .int 0, .int 1])), (p10, .inl (cI, 4096, .inl (fun _ => 0))), (p11, .inl (cI, 1024, .inl (fun _ => 0))), (p3, .inr (8, [.ref p12, .ref p13, .ref p14, .int 0, .int 0, .int 0, .int 0, .int (-1)])), (p4, .inr (3, [.ref p1, .ref p2, .ref p3, .ref p15, .ref p16, .ref p17, .ref p18, .ref p19, .ref p20, .ref p21, .ref p22, .ref p23, .ref p24, .ref p25, .int 0, .int 0])), (p20, .inl (cI, 41, .inl (fun _ => 0)))] ∧ va_S A s.heap H locs ∧ lv_has ls 4 [(1, .int (nI i152)), (0, .ref p0)]) ?_ ?_ ⟨hP, hD, hS, hl⟩
    · intro i152 hi152 ih152 H locs ls hI
      obtain ⟨hP, hD, hS, hl⟩ := hI
      refine lv_iload_n hx hb dX10_keepHouse_152 rfl (lv_at hl 0 rfl) ?_
      refine lv_bipush (v := 60) hx hb dX10_keepHouse_153 (by decide) ?_
      refine lv_icmp_ge (tgt := 246) hx hb dX10_keepHouse_155 (by decide) (fun c => absurd c (nI_ge (a := i152) (b := 60) (by omega) (by omega))) (fun _ => ?_)
      refine lv_aload_n hx hb dX10_keepHouse_158 rfl (lv_at hl 1 rfl) ?_
      refine va_get (D := (dC, dI)) (ci := 10) (v := .ref p4) (C := RX10) (T := TX10) (N := 11) hx hb hW iW_10 hown hK hP 0 rfl rfl 3 (by decide) (hW _ mw_62) (fun _ h9 => h9) rfl dX10_keepHouse_159 ?_
      refine lv_iload_n hx hb dX10_keepHouse_162 rfl (lv_at hl 0 rfl) ?_
      have hPc := hP.sub (ws' := [(p17, .inl (cI, 860, .inl (fun _ => 0))), (p4, .inr (3, [.ref p1, .ref p2, .ref p3, .ref p15, .ref p16, .ref p17, .ref p18, .ref p19, .ref p20, .ref p21, .ref p22, .ref p23, .ref p24, .ref p25, .int 0, .int 0]))]) [1, 7] rfl
      have hDc := hD.sub (ws' := [(p17, .inl (cI, 860, .inl (fun _ => 0))), (p4, .inr (3, [.ref p1, .ref p2, .ref p3, .ref p15, .ref p16, .ref p17, .ref p18, .ref p19, .ref p20, .ref p21, .ref p22, .ref p23, .ref p24, .ref p25, .int 0, .int 0]))]) [1, 7] (by decide) rfl
      have hFc := va_free (wc := [(p17, .inl (cI, 860, .inl (fun _ => 0))), (p4, .inr (3, [.ref p1, .ref p2, .ref p3, .ref p15, .ref p16, .ref p17, .ref p18, .ref p19, .ref p20, .ref p21, .ref p22, .ref p23, .ref p24, .ref p25, .int 0, .int 0]))]) hD hS hA [1, 7] rfl
      refine va_calli (va_runVN (As := [.int (nI i152)]) (rest := []) ⟨hx, hb, hml, hown, hW⟩ (c_X3_meansAt_0 l dC dI cI cB p4 (nI i152) p17 p1 p2 p3 p15 p16 p18 p19 p20 p21 p22 p23 p24 p25 H.size) ⟨va_cnB 1 hW (gW mw_252) rfl rfl rfl (hN _ mn_24) (hW _ mw_44) (by decide +kernel) ⟨Nat.le_of_ble_eq_true rfl, Nat.le_of_ble_eq_true rfl⟩, hW _ mw_253, hW _ mw_254⟩ ⟨PB_blind _, va_recv hK hP (ci := 3) (q0 := 7) rfl rfl, fun U hU hW2 => ⟨rfl, PB_at hU hW2 hPc hK hDc hN⟩⟩ rfl rfl hl.1 rfl (lv_room (Nat.le_of_ble_eq_true rfl)) dX10_keepHouse_163 ⟨Nat.le_of_ble_eq_true rfl, Nat.le_of_ble_eq_true rfl⟩) hS (fun q _ h => hFc q h) hFc (fun r u t H1 locs ht hvm hw hB hz1 hk1 hS => ?_)
      have hq := hB
      obtain ⟨hP, hD⟩ := after (wr := [(p0, .inr (10, [.ref p1, .ref p2, .ref p3, .ref p4, .ref p5, .ref p6, .ref p7, .ref p8, .int 0, .int 0, .int (-1)])), (p6, .inr (4, [.ref p1, .ref p2, .ref p3, .ref p4, .ref p26, .ref p27, .ref p28, .ref p29, .ref p30, .int 0, .int 0, .int 0, .int 0])), (p2, .inr (1, [.ref p1, .ref p9, .ref p10, .ref p11, .int 16, .int 0, .int 16, .int 0, .int 1])), (p10, .inl (cI, 4096, .inl (fun _ => 0))), (p11, .inl (cI, 1024, .inl (fun _ => 0))), (p3, .inr (8, [.ref p12, .ref p13, .ref p14, .int 0, .int 0, .int 0, .int 0, .int (-1)])), (p20, .inl (cI, 41, .inl (fun _ => 0)))]) (w1 := [(p17, .inl (cI, 860, .inl (fun _ => 0))), (p4, .inr (3, [.ref p1, .ref p2, .ref p3, .ref p15, .ref p16, .ref p17, .ref p18, .ref p19, .ref p20, .ref p21, .ref p22, .ref p23, .ref p24, .ref p25, .int 0, .int 0]))]) hP hD [1, 7] [0, 2, 3, 4, 5, 6, 8] rfl rfl (by decide) (by decide) hk1 hFc ht hq
      generalize H1 = H at hP hS ⊢
      have hP : va_P (dC, dI) vwCl [(p0, .inr (10, [.ref p1, .ref p2, .ref p3, .ref p4, .ref p5, .ref p6, .ref p7, .ref p8, .int 0, .int 0, .int (-1)])), (p6, .inr (4, [.ref p1, .ref p2, .ref p3, .ref p4, .ref p26, .ref p27, .ref p28, .ref p29, .ref p30, .int 0, .int 0, .int 0, .int 0])), (p2, .inr (1, [.ref p1, .ref p9, .ref p10, .ref p11, .int 16, .int 0, .int 16, .int 0, .int 1])), (p10, .inl (cI, 4096, .inl (fun _ => 0))), (p11, .inl (cI, 1024, .inl (fun _ => 0))), (p3, .inr (8, [.ref p12, .ref p13, .ref p14, .int 0, .int 0, .int 0, .int 0, .int (-1)])), (p20, .inl (cI, 41, .inl (fun _ => 0))), (p17, .inl (cI, 860, .inl (fun _ => 0))), (p4, .inr (3, [.ref p1, .ref p2, .ref p3, .ref p15, .ref p16, .ref p17, .ref p18, .ref p19, .ref p20, .ref p21, .ref p22, .ref p23, .ref p24, .ref p25, .int 0, .int 0]))] H := hP
      have hD : va_D A [(p0, .inr (10, [.ref p1, .ref p2, .ref p3, .ref p4, .ref p5, .ref p6, .ref p7, .ref p8, .int 0, .int 0, .int (-1)])), (p6, .inr (4, [.ref p1, .ref p2, .ref p3, .ref p4, .ref p26, .ref p27, .ref p28, .ref p29, .ref p30, .int 0, .int 0, .int 0, .int 0])), (p2, .inr (1, [.ref p1, .ref p9, .ref p10, .ref p11, .int 16, .int 0, .int 16, .int 0, .int 1])), (p10, .inl (cI, 4096, .inl (fun _ => 0))), (p11, .inl (cI, 1024, .inl (fun _ => 0))), (p3, .inr (8, [.ref p12, .ref p13, .ref p14, .int 0, .int 0, .int 0, .int 0, .int (-1)])), (p20, .inl (cI, 41, .inl (fun _ => 0))), (p17, .inl (cI, 860, .inl (fun _ => 0))), (p4, .inr (3, [.ref p1, .ref p2, .ref p3, .ref p15, .ref p16, .ref p17, .ref p18, .ref p19, .ref p20, .ref p21, .ref p22, .ref p23, .ref p24, .ref p25, .int 0, .int 0]))] := hD
      refine tp_i 0 hw ?_
      refine lv_iconst (v := 2) hx hb dX10_keepHouse_166 (by decide) ?_
      refine lv_icmp_eq (tgt := 173) hx hb dX10_keepHouse_167 (by decide) (fun c => absurd c (by decide)) (fun _ => ?_)
      refine lv_goto (tgt := 240) hx hb dX10_keepHouse_170 (by decide) ?_
      refine lv_iinc (v := nI (i152 + 1)) (lv' := [(1, .int (nI (i152 + 1))), (0, .ref p0)]) hx hb dX10_keepHouse_240 hl (k := 0) rfl (nI_1 _) (by decide) rfl (fun ls hl => ?_)
      refine lv_goto (tgt := 152) hx hb dX10_keepHouse_243 (by decide) ?_
      exact ih152 _ _ _ ⟨hP.sub [0, 7, 1, 2, 3, 4, 5, 8, 6] rfl, hD.sub [0, 7, 1, 2, 3, 4, 5, 8, 6] (by decide) rfl, hS, lv_sub hl [0, 1] rfl⟩
    · intro H locs ls hI
      obtain ⟨hP, hD, hS, hl⟩ := hI
      have hl : lv_has ls 4 [(1, .int 60), (0, .ref p0)] := hl
      refine lv_iload_n hx hb dX10_keepHouse_152 rfl (lv_at hl 0 rfl) ?_
      refine lv_bipush (v := 60) hx hb dX10_keepHouse_153 (by decide) ?_
      refine lv_icmp_ge (tgt := 246) hx hb dX10_keepHouse_155 (by decide) (fun _ => ?_) (fun c => absurd (by decide) c)
      have hP9 := hP.sub (ws' := [(p0, .inr (10, [.ref p1, .ref p2, .ref p3, .ref p4, .ref p5, .ref p6, .ref p7, .ref p8, .int 0, .int 0, .int (-1)])), (p2, .inr (1, [.ref p1, .ref p9, .ref p10, .ref p11, .int 16, .int 0, .int 16, .int 0, .int 1])), (p10, .inl (cI, 4096, .inl (fun _ => 0))), (p11, .inl (cI, 1024, .inl (fun _ => 0))), (p3, .inr (8, [.ref p12, .ref p13, .ref p14, .int 0, .int 0, .int 0, .int 0, .int (-1)])), (p4, .inr (3, [.ref p1, .ref p2, .ref p3, .ref p15, .ref p16, .ref p17, .ref p18, .ref p19, .ref p20, .ref p21, .ref p22, .ref p23, .ref p24, .ref p25, .int 0, .int 0])), (p17, .inl (cI, 860, .inl (fun _ => 0))), (p20, .inl (cI, 41, .inl (fun _ => 0))), (p6, .inr (4, [.ref p1, .ref p2, .ref p3, .ref p4, .ref p26, .ref p27, .ref p28, .ref p29, .ref p30, .int 0, .int 0, .int 0, .int 0]))]) [0, 3, 4, 5, 6, 7, 1, 8, 2] rfl
      have hD9 := hD.sub (ws' := [(p0, .inr (10, [.ref p1, .ref p2, .ref p3, .ref p4, .ref p5, .ref p6, .ref p7, .ref p8, .int 0, .int 0, .int (-1)])), (p2, .inr (1, [.ref p1, .ref p9, .ref p10, .ref p11, .int 16, .int 0, .int 16, .int 0, .int 1])), (p10, .inl (cI, 4096, .inl (fun _ => 0))), (p11, .inl (cI, 1024, .inl (fun _ => 0))), (p3, .inr (8, [.ref p12, .ref p13, .ref p14, .int 0, .int 0, .int 0, .int 0, .int (-1)])), (p4, .inr (3, [.ref p1, .ref p2, .ref p3, .ref p15, .ref p16, .ref p17, .ref p18, .ref p19, .ref p20, .ref p21, .ref p22, .ref p23, .ref p24, .ref p25, .int 0, .int 0])), (p17, .inl (cI, 860, .inl (fun _ => 0))), (p20, .inl (cI, 41, .inl (fun _ => 0))), (p6, .inr (4, [.ref p1, .ref p2, .ref p3, .ref p4, .ref p26, .ref p27, .ref p28, .ref p29, .ref p30, .int 0, .int 0, .int 0, .int 0]))]) [0, 3, 4, 5, 6, 7, 1, 8, 2] (by decide) rfl
      refine W.widen (k := 0) (n := 0) (Nat.le_of_ble_eq_true rfl) (Nat.le_of_ble_eq_true rfl) ?_
      exact W.vret hx hb hr (fun t ht hW9 => ⟨⟨(), rfl, trivial, ⟨by rw [ht]; exact hP9, va_K.moved hW9.alike hK, hD9⟩⟩, hS.F ht⟩) hS.2.2 dX10_keepHouse_246

set_option maxHeartbeats 4000000 in
set_option maxRecDepth 100000 in
/-- X8_scan_0 -/
theorem c_X8_scan_0 (l : Launch) (dC : Nat → ClassId) (dI : Nat → Nat → Nat) (cI cB : ClassId) (p0 : Nat) (p1 : Nat) (p2 : Nat) (p3 : Nat) (sz : Nat) : Met l yX8_scan (.code yX8_scan cX8_scan 5 (some .int) :: WA) ({ frames := 0, cells := 0, slots := 0, locals := 0 }) (va_Pc [.ref p0, .int 0] (PB dC dI cI cB [(p0, .inr (8, [.ref p1, .ref p2, .ref p3, .int 0, .int 0, .int 0, .int 0, .int (-1)]))] sz)) (va_Qi (fun (r : Int32) (_ : Unit) => r = (-1)) (fun (_ : Unit) t => QB dC dI cI cB [(p0, .inr (8, [.ref p1, .ref p2, .ref p3, .int 0, .int 0, .int 0, .int (-1), .int (-1)]))] (va_A [(p0, .inr (8, [.ref p1, .ref p2, .ref p3, .int 0, .int 0, .int 0, .int 0, .int (-1)]))] sz) t) (va_A [(p0, .inr (8, [.ref p1, .ref p2, .ref p3, .int 0, .int 0, .int 0, .int 0, .int (-1)]))] sz)) 0 0 (va_A [(p0, .inr (8, [.ref p1, .ref p2, .ref p3, .int 0, .int 0, .int 0, .int 0, .int (-1)]))] sz) := by
  refine Met.ofW (cc := cX8_scan) (maxL := 5) (ret := (some .int)) (by decide) rfl ?_
  intro p e s m args below meth c s₁ B hml hv
  obtain ⟨rfl, hsz, hP, hK, hD0, hN⟩ := hv
  have hx := B.exec
  have hb := B.bytes
  have hr := B.returns
  have hts := atoms_spec B.pre
  have hW : ∀ w ∈ WA, w.before [.ref p0, .int 0].toArray s = true := fun w h => hts w (List.mem_cons_of_mem _ h)
  have hown : s.vm.findClass RX8 = some m.cls := findClass_of_methodNamed B.named
  have hlocks := B.notSynchronized
  subst hsz
  have hD := hD0.self (sz := s.heap.size)
  generalize hAe : va_A [(p0, .inr (8, [.ref p1, .ref p2, .ref p3, .int 0, .int 0, .int 0, .int 0, .int (-1)]))] s.heap.size = A at hD ⊢
  have hA : ∀ q : Nat, s.heap.size ≤ q → A q := fun q h => by rw [← hAe]; exact Or.inr h
  have hS : va_S A s.heap s.heap [] := va_S.rf
  have hP : va_P (dC, dI) vwCl [(p0, .inr (8, [.ref p1, .ref p2, .ref p3, .int 0, .int 0, .int 0, .int 0, .int (-1)]))] s.heap := hP
  have hl := lv_entry ([.ref p0, .int 0]) (n := 5) (Nat.le_of_ble_eq_true rfl)
  rw [lg_entry_eq]
  generalize (lg_sl ([.ref p0, .int 0]) ++ List.replicate (5 - (lg_sl ([.ref p0, .int 0])).length) Slot.unset).toArray = ls at hl ⊢
  have hl : lv_has ls 5 [(0, .ref p0), (1, .int 0)] := hl
  refine lv_aload_n hx hb dX8_scan_0 rfl (lv_at hl 0 rfl) ?_
  refine lv_iconst (v := (-1)) hx hb dX8_scan_1 (by decide) ?_
  refine va_put (D := (dC, dI)) (ci := 8) (v := .int (-1)) (ty := .int) (C := RX8) (T := TX8) (N := 8) hx hb hW iW_8 tyX8 tyX8_ok nmX8 hown hK hP hD hS 0 rfl rfl 6 (by decide) (hW _ mw_259) (fun _ h9 => h9) rfl (by decide +kernel) rfl rfl (Nat.le_of_ble_eq_true rfl) dX8_scan_2 (fun H locs hP hD hS => ?_)
  have hP : va_P (dC, dI) vwCl [(p0, .inr (8, [.ref p1, .ref p2, .ref p3, .int 0, .int 0, .int 0, .int (-1), .int (-1)]))] H := hP
  have hD : va_D A [(p0, .inr (8, [.ref p1, .ref p2, .ref p3, .int 0, .int 0, .int 0, .int (-1), .int (-1)]))] := hD
  refine lv_iload_n hx hb dX8_scan_5 rfl (lv_at hl 1 rfl) ?_
  refine lv_istore_n (lv' := [(2, .int 0), (0, .ref p0), (1, .int 0)]) hx hb dX8_scan_6 rfl hl (by decide) rfl (fun ls hl => ?_)
  refine lv_iload_n hx hb dX8_scan_7 rfl (lv_at hl 0 rfl) ?_
  refine lv_aload_n hx hb dX8_scan_8 rfl (lv_at hl 1 rfl) ?_
  refine va_get (D := (dC, dI)) (ci := 8) (v := .int 0) (C := RX8) (T := TX8) (N := 8) hx hb hW iW_8 hown hK hP 0 rfl rfl 3 (by decide) (hW _ mw_260) (fun _ h9 => h9) rfl dX8_scan_9 ?_
  refine lv_icmp_ge (tgt := 128) hx hb dX8_scan_12 (by decide) (fun _ => ?_) (fun c => absurd (by decide) c)
  refine lv_aload_n hx hb dX8_scan_128 rfl (lv_at hl 1 rfl) ?_
  refine va_get (D := (dC, dI)) (ci := 8) (v := .int (-1)) (C := RX8) (T := TX8) (N := 8) hx hb hW iW_8 hown hK hP 0 rfl rfl 6 (by decide) (hW _ mw_259) (fun _ h9 => h9) rfl dX8_scan_129 ?_
  refine lv_iconst (v := (-1)) hx hb dX8_scan_132 (by decide) ?_
  refine lv_icmp_ne (tgt := 140) hx hb dX8_scan_133 (by decide) (fun c => absurd (by decide) c) (fun _ => ?_)
  refine lv_iconst (v := (-1)) hx hb dX8_scan_136 (by decide) ?_
  refine lv_goto (tgt := 149) hx hb dX8_scan_137 (by decide) ?_
  have hP9 := hP.sub (ws' := [(p0, .inr (8, [.ref p1, .ref p2, .ref p3, .int 0, .int 0, .int 0, .int (-1), .int (-1)]))]) [0] rfl
  have hD9 := hD.sub (ws' := [(p0, .inr (8, [.ref p1, .ref p2, .ref p3, .int 0, .int 0, .int 0, .int (-1), .int (-1)]))]) [0] (by decide) rfl
  refine W.widen (k := 0) (n := 0) (Nat.le_of_ble_eq_true rfl) (Nat.le_of_ble_eq_true rfl) ?_
  exact W.iret (v := (-1)) hx hb hr (fun t ht hW9 => ⟨⟨(-1), (), rfl, rfl, ⟨by rw [ht]; exact hP9, va_K.moved hW9.alike hK, hD9⟩⟩, hS.F ht⟩) hS.2.2 dX8_scan_149

set_option maxHeartbeats 4000000 in
set_option maxRecDepth 100000 in
/-- X8_firstOf_0 -/
theorem c_X8_firstOf_0 (l : Launch) (dC : Nat → ClassId) (dI : Nat → Nat → Nat) (cI cB : ClassId) (p0 : Nat) (sz : Nat) : Met l yX8_firstOf (.code yX8_firstOf cX8_firstOf 7 (some .int) :: WA) ({ frames := 0, cells := 0, slots := 0, locals := 0 }) (va_Pc [.ref p0, .int 10, .int 11, .int 0, .int 0] (PB dC dI cI cB [] sz)) (va_Qi (fun (r : Int32) (_ : Unit) => r = 0) (fun (_ : Unit) t => QB dC dI cI cB [] (va_A [] sz) t) (va_A [] sz)) 0 0 (va_A [] sz) := by
  refine Met.ofW (cc := cX8_firstOf) (maxL := 7) (ret := (some .int)) (by decide) rfl ?_
  intro p e s m args below meth c s₁ B hml hv
  obtain ⟨rfl, hsz, hP, hK, hD0, hN⟩ := hv
  have hx := B.exec
  have hb := B.bytes
  have hr := B.returns
  have hts := atoms_spec B.pre
  have hW : ∀ w ∈ WA, w.before [.ref p0, .int 10, .int 11, .int 0, .int 0].toArray s = true := fun w h => hts w (List.mem_cons_of_mem _ h)
  have hown : s.vm.findClass RX8 = some m.cls := findClass_of_methodNamed B.named
  have hlocks := B.notSynchronized
  subst hsz
  have hD := hD0.self (sz := s.heap.size)
  generalize hAe : va_A [] s.heap.size = A at hD ⊢
  have hA : ∀ q : Nat, s.heap.size ≤ q → A q := fun q h => by rw [← hAe]; exact Or.inr h
  have hS : va_S A s.heap s.heap [] := va_S.rf
  have hP : va_P (dC, dI) vwCl [] s.heap := hP
  have hl := lv_entry ([.ref p0, .int 10, .int 11, .int 0, .int 0]) (n := 7) (Nat.le_of_ble_eq_true rfl)
  rw [lg_entry_eq]
  generalize (lg_sl ([.ref p0, .int 10, .int 11, .int 0, .int 0]) ++ List.replicate (7 - (lg_sl ([.ref p0, .int 10, .int 11, .int 0, .int 0])).length) Slot.unset).toArray = ls at hl ⊢
  have hl : lv_has ls 7 [(0, .ref p0), (1, .int 10), (2, .int 11), (3, .int 0), (4, .int 0)] := hl
  refine lv_iload_n hx hb dX8_firstOf_0 rfl (lv_at hl 3 rfl) ?_
  refine lv_istore (lv' := [(5, .int 0), (0, .ref p0), (1, .int 10), (2, .int 11), (3, .int 0), (4, .int 0)]) hx hb dX8_firstOf_1 hl (by decide) rfl (fun ls hl => ?_)
  refine lv_iload hx hb dX8_firstOf_3 (lv_at hl 0 rfl) ?_
  refine lv_iload hx hb dX8_firstOf_5 (lv_at hl 5 rfl) ?_
  refine lv_icmp_ge (tgt := 72) hx hb dX8_firstOf_7 (by decide) (fun _ => ?_) (fun c => absurd (by decide) c)
  refine lv_iload hx hb dX8_firstOf_72 (lv_at hl 5 rfl) ?_
  have hP9 := hP.sub (ws' := []) [] rfl
  have hD9 := hD.sub (ws' := []) [] (by decide) rfl
  refine W.widen (k := 0) (n := 0) (Nat.le_of_ble_eq_true rfl) (Nat.le_of_ble_eq_true rfl) ?_
  exact W.iret (v := 0) hx hb hr (fun t ht hW9 => ⟨⟨0, (), rfl, rfl, ⟨by rw [ht]; exact hP9, va_K.moved hW9.alike hK, hD9⟩⟩, hS.F ht⟩) hS.2.2 dX8_firstOf_74

set_option maxHeartbeats 4000000 in
set_option maxRecDepth 100000 in
/-- X8_statementEnd_0 -/
theorem c_X8_statementEnd_0 (l : Launch) (dC : Nat → ClassId) (dI : Nat → Nat → Nat) (cI cB : ClassId) (p0 : Nat) (p1 : Nat) (p2 : Nat) (p3 : Nat) (sz : Nat) : Met l yX8_statementEnd (.code yX8_statementEnd cX8_statementEnd 3 (some .int) :: WA) ({ frames := 1, cells := 0, slots := 0, locals := 26 }) (va_Pc [.ref p0, .int 0, .int 0] (PB dC dI cI cB [(p0, .inr (8, [.ref p1, .ref p2, .ref p3, .int 0, .int 0, .int 0, .int (-1), .int (-1)]))] sz)) (va_Qi (fun (r : Int32) (_ : Unit) => r = 0) (fun (_ : Unit) t => QB dC dI cI cB [(p0, .inr (8, [.ref p1, .ref p2, .ref p3, .int 0, .int 0, .int 0, .int (-1), .int (-1)]))] (va_A [(p0, .inr (8, [.ref p1, .ref p2, .ref p3, .int 0, .int 0, .int 0, .int (-1), .int (-1)]))] sz) t) (va_A [(p0, .inr (8, [.ref p1, .ref p2, .ref p3, .int 0, .int 0, .int 0, .int (-1), .int (-1)]))] sz)) 0 0 (va_A [(p0, .inr (8, [.ref p1, .ref p2, .ref p3, .int 0, .int 0, .int 0, .int (-1), .int (-1)]))] sz) := by
  refine Met.ofW (cc := cX8_statementEnd) (maxL := 3) (ret := (some .int)) (by decide) rfl ?_
  intro p e s m args below meth c s₁ B hml hv
  obtain ⟨rfl, hsz, hP, hK, hD0, hN⟩ := hv
  have hx := B.exec
  have hb := B.bytes
  have hr := B.returns
  have hts := atoms_spec B.pre
  have hW : ∀ w ∈ WA, w.before [.ref p0, .int 0, .int 0].toArray s = true := fun w h => hts w (List.mem_cons_of_mem _ h)
  have hown : s.vm.findClass RX8 = some m.cls := findClass_of_methodNamed B.named
  have hlocks := B.notSynchronized
  subst hsz
  have hD := hD0.self (sz := s.heap.size)
  generalize hAe : va_A [(p0, .inr (8, [.ref p1, .ref p2, .ref p3, .int 0, .int 0, .int 0, .int (-1), .int (-1)]))] s.heap.size = A at hD ⊢
  have hA : ∀ q : Nat, s.heap.size ≤ q → A q := fun q h => by rw [← hAe]; exact Or.inr h
  have hS : va_S A s.heap s.heap [] := va_S.rf
  have hP : va_P (dC, dI) vwCl [(p0, .inr (8, [.ref p1, .ref p2, .ref p3, .int 0, .int 0, .int 0, .int (-1), .int (-1)]))] s.heap := hP
  have hl := lv_entry ([.ref p0, .int 0, .int 0]) (n := 3) (Nat.le_of_ble_eq_true rfl)
  rw [lg_entry_eq]
  generalize (lg_sl ([.ref p0, .int 0, .int 0]) ++ List.replicate (3 - (lg_sl ([.ref p0, .int 0, .int 0])).length) Slot.unset).toArray = ls at hl ⊢
  have hl : lv_has ls 3 [(0, .ref p0), (1, .int 0), (2, .int 0)] := hl
  refine lv_aload_n hx hb dX8_statementEnd_0 rfl (lv_at hl 0 rfl) ?_
  refine lv_bipush (v := 10) hx hb dX8_statementEnd_1 (by decide) ?_
  refine lv_bipush (v := 11) hx hb dX8_statementEnd_3 (by decide) ?_
  refine lv_iload_n hx hb dX8_statementEnd_5 rfl (lv_at hl 1 rfl) ?_
  refine lv_iload_n hx hb dX8_statementEnd_6 rfl (lv_at hl 2 rfl) ?_
  have hPc := hP.sub (ws' := []) [] rfl
  have hDc := hD.sub (ws' := []) [] (by decide) rfl
  have hFc := va_free (wc := []) hD hS hA [] rfl
  refine va_calli (va_runV (As := [.int 10, .int 11, .int 0, .int 0]) (rest := []) ⟨hx, hb, hml, hown, hW⟩ (c_X8_firstOf_0 l dC dI cI cB p0 s.heap.size) (cwV 4 hW (gV mw_265 mw_266 mw_267 mw_32 mw_264) rfl rfl rfl (by decide +kernel) ⟨Nat.le_of_ble_eq_true rfl, Nat.le_of_ble_eq_true rfl⟩) ⟨PB_blind _, va_recv hK hP (ci := 8) (q0 := 0) rfl rfl, fun U hU hW2 => ⟨rfl, PB_at hU hW2 hPc hK hDc hN⟩⟩ rfl rfl hl.1 rfl (lv_room (Nat.le_of_ble_eq_true rfl)) dX8_statementEnd_7 ⟨Nat.le_of_ble_eq_true rfl, Nat.le_of_ble_eq_true rfl⟩) hS (fun q _ h => hFc q h) hFc (fun r u t H1 locs ht hvm hw hB hz1 hk1 hS => ?_)
  have hq := hB
  obtain ⟨hP, hD⟩ := after (wr := [(p0, .inr (8, [.ref p1, .ref p2, .ref p3, .int 0, .int 0, .int 0, .int (-1), .int (-1)]))]) (w1 := []) hP hD [] [0] rfl rfl (by decide) (by decide) hk1 hFc ht hq
  generalize H1 = H at hP hS ⊢
  have hP : va_P (dC, dI) vwCl [(p0, .inr (8, [.ref p1, .ref p2, .ref p3, .int 0, .int 0, .int 0, .int (-1), .int (-1)]))] H := hP
  have hD : va_D A [(p0, .inr (8, [.ref p1, .ref p2, .ref p3, .int 0, .int 0, .int 0, .int (-1), .int (-1)]))] := hD
  refine tp_i 0 hw ?_
  have hP9 := hP.sub (ws' := [(p0, .inr (8, [.ref p1, .ref p2, .ref p3, .int 0, .int 0, .int 0, .int (-1), .int (-1)]))]) [0] rfl
  have hD9 := hD.sub (ws' := [(p0, .inr (8, [.ref p1, .ref p2, .ref p3, .int 0, .int 0, .int 0, .int (-1), .int (-1)]))]) [0] (by decide) rfl
  refine W.widen (k := 0) (n := 0) (Nat.le_of_ble_eq_true rfl) (Nat.le_of_ble_eq_true rfl) ?_
  exact W.iret (v := 0) hx hb hr (fun t ht hW9 => ⟨⟨0, (), rfl, rfl, ⟨by rw [ht]; exact hP9, va_K.moved hW9.alike hK, hD9⟩⟩, hS.F ht⟩) hS.2.2 dX8_statementEnd_10

set_option maxHeartbeats 4000000 in
set_option maxRecDepth 100000 in
/-- X1_size_0 -/
theorem c_X1_size_0 (l : Launch) (dC : Nat → ClassId) (dI : Nat → Nat → Nat) (cI cB : ClassId) (p0 : Nat) (p1 : Nat) (p2 : Nat) (p3 : Nat) (p4 : Nat) (sz : Nat) : Met l yX1_size (.code yX1_size cX1_size 2 (some .int) :: WA) ({ frames := 0, cells := 0, slots := 0, locals := 0 }) (va_Pc [.ref p0, .int 0] (PB dC dI cI cB [(p0, .inr (1, [.ref p1, .ref p2, .ref p3, .ref p4, .int 16, .int 0, .int 16, .int 0, .int 1])), (p3, .inl (cI, 4096, .inl (fun _ => 0)))] sz)) (va_Qi (fun (r : Int32) (_ : Unit) => r = 0) (fun (_ : Unit) t => QB dC dI cI cB [(p0, .inr (1, [.ref p1, .ref p2, .ref p3, .ref p4, .int 16, .int 0, .int 16, .int 0, .int 1])), (p3, .inl (cI, 4096, .inl (fun _ => 0)))] (va_A [(p0, .inr (1, [.ref p1, .ref p2, .ref p3, .ref p4, .int 16, .int 0, .int 16, .int 0, .int 1])), (p3, .inl (cI, 4096, .inl (fun _ => 0)))] sz) t) (va_A [(p0, .inr (1, [.ref p1, .ref p2, .ref p3, .ref p4, .int 16, .int 0, .int 16, .int 0, .int 1])), (p3, .inl (cI, 4096, .inl (fun _ => 0)))] sz)) 0 0 (va_A [(p0, .inr (1, [.ref p1, .ref p2, .ref p3, .ref p4, .int 16, .int 0, .int 16, .int 0, .int 1])), (p3, .inl (cI, 4096, .inl (fun _ => 0)))] sz) := by
  refine Met.ofW (cc := cX1_size) (maxL := 2) (ret := (some .int)) (by decide) rfl ?_
  intro p e s m args below meth c s₁ B hml hv
  obtain ⟨rfl, hsz, hP, hK, hD0, hN⟩ := hv
  have hx := B.exec
  have hb := B.bytes
  have hr := B.returns
  have hts := atoms_spec B.pre
  have hW : ∀ w ∈ WA, w.before [.ref p0, .int 0].toArray s = true := fun w h => hts w (List.mem_cons_of_mem _ h)
  have hown : s.vm.findClass RX1 = some m.cls := findClass_of_methodNamed B.named
  have hlocks := B.notSynchronized
  subst hsz
  have hD := hD0.self (sz := s.heap.size)
  generalize hAe : va_A [(p0, .inr (1, [.ref p1, .ref p2, .ref p3, .ref p4, .int 16, .int 0, .int 16, .int 0, .int 1])), (p3, .inl (cI, 4096, .inl (fun _ => 0)))] s.heap.size = A at hD ⊢
  have hA : ∀ q : Nat, s.heap.size ≤ q → A q := fun q h => by rw [← hAe]; exact Or.inr h
  have hS : va_S A s.heap s.heap [] := va_S.rf
  have hP : va_P (dC, dI) vwCl [(p0, .inr (1, [.ref p1, .ref p2, .ref p3, .ref p4, .int 16, .int 0, .int 16, .int 0, .int 1])), (p3, .inl (cI, 4096, .inl (fun _ => 0)))] s.heap := hP
  have hl := lv_entry ([.ref p0, .int 0]) (n := 2) (Nat.le_of_ble_eq_true rfl)
  rw [lg_entry_eq]
  generalize (lg_sl ([.ref p0, .int 0]) ++ List.replicate (2 - (lg_sl ([.ref p0, .int 0])).length) Slot.unset).toArray = ls at hl ⊢
  have hl : lv_has ls 2 [(0, .ref p0), (1, .int 0)] := hl
  refine lv_iload_n hx hb dX1_size_0 rfl (lv_at hl 1 rfl) ?_
  refine lv_if_lt (tgt := 26) hx hb dX1_size_1 (by decide) (fun c => absurd c (by decide)) (fun _ => ?_)
  refine lv_iload_n hx hb dX1_size_4 rfl (lv_at hl 1 rfl) ?_
  refine lv_aload_n hx hb dX1_size_5 rfl (lv_at hl 0 rfl) ?_
  refine va_get (D := (dC, dI)) (ci := 1) (v := .ref p3) (C := RX1) (T := TX1) (N := 9) hx hb hW iW_1 hown hK hP 0 rfl rfl 2 (by decide) (hW _ mw_21) (fun _ h9 => h9) rfl dX1_size_6 ?_
  refine va_alen (v := 4096) hx hb hK hP 1 0 rfl rfl (show Int32.ofNat 4096 = 4096 by decide) dX1_size_9 ?_
  refine lv_iconst (v := 2) hx hb dX1_size_10 (by decide) ?_
  refine lv_isub hx hb dX1_size_11 ?_
  refine tp_i 4094 (by decide) ?_
  refine lv_icmp_ge (tgt := 26) hx hb dX1_size_12 (by decide) (fun c => absurd c (by decide)) (fun _ => ?_)
  refine lv_aload_n hx hb dX1_size_15 rfl (lv_at hl 0 rfl) ?_
  refine va_get (D := (dC, dI)) (ci := 1) (v := .ref p3) (C := RX1) (T := TX1) (N := 9) hx hb hW iW_1 hown hK hP 0 rfl rfl 2 (by decide) (hW _ mw_21) (fun _ h9 => h9) rfl dX1_size_16 ?_
  refine lv_iload_n hx hb dX1_size_19 rfl (lv_at hl 1 rfl) ?_
  refine lv_iconst (v := 2) hx hb dX1_size_20 (by decide) ?_
  refine lv_iadd hx hb dX1_size_21 ?_
  refine tp_i 2 (by decide) ?_
  refine va_iald hx hb hK hP 1 0 rfl rfl (vp_in_nI (n := 2) (N := 4096) (by decide) (by decide)) dX1_size_22 ?_
  refine tp_i 0 rfl ?_
  refine lv_goto (tgt := 27) hx hb dX1_size_23 (by decide) ?_
  have hP9 := hP.sub (ws' := [(p0, .inr (1, [.ref p1, .ref p2, .ref p3, .ref p4, .int 16, .int 0, .int 16, .int 0, .int 1])), (p3, .inl (cI, 4096, .inl (fun _ => 0)))]) [0, 1] rfl
  have hD9 := hD.sub (ws' := [(p0, .inr (1, [.ref p1, .ref p2, .ref p3, .ref p4, .int 16, .int 0, .int 16, .int 0, .int 1])), (p3, .inl (cI, 4096, .inl (fun _ => 0)))]) [0, 1] (by decide) rfl
  refine W.widen (k := 0) (n := 0) (Nat.le_of_ble_eq_true rfl) (Nat.le_of_ble_eq_true rfl) ?_
  exact W.iret (v := 0) hx hb hr (fun t ht hW9 => ⟨⟨0, (), rfl, rfl, ⟨by rw [ht]; exact hP9, va_K.moved hW9.alike hK, hD9⟩⟩, hS.F ht⟩) hS.2.2 dX1_size_27
