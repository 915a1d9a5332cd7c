set_option maxHeartbeats 4000000 in
set_option maxRecDepth 100000 in
/-- X10_set_0 -/
theorem c_X10_set_0 (l : Launch) (dC : Nat → ClassId) (dI : Nat → Nat → Nat) (cI cB : ClassId) (p0 : Nat) (p1 : Int32) (p2 : Int32) (p3 : Nat) (p4 : Nat) (p5 : Nat) (p6 : Nat) (p7 : Nat) (p8 : Nat) (p9 : Nat) (p10 : Nat) (sz : Nat) : Met l yX10_set (.code yX10_set cX10_set 4 (some .int) :: WA) ({ frames := 0, cells := 0, slots := 0, locals := 0 }) (va_Pc [.ref p0, .int p1, .int p2] (PB dC dI cI cB [(p0, .inr (10, [.ref p3, .ref p4, .ref p5, .ref p6, .ref p7, .ref p8, .ref p9, .ref p10, .int 0, .int 0, .int (-1)])), (p3, .inr (7, [.int 0, .int 0, .int 0, .int 1, .int 1]))] sz)) (va_Qi (fun (r : Int32) (_ : Unit) => r = setA p1 p2) (fun _ _ => True) (va_A [(p0, .inr (10, [.ref p3, .ref p4, .ref p5, .ref p6, .ref p7, .ref p8, .ref p9, .ref p10, .int 0, .int 0, .int (-1)])), (p3, .inr (7, [.int 0, .int 0, .int 0, .int 1, .int 1]))] sz)) 0 0 (va_A [(p0, .inr (10, [.ref p3, .ref p4, .ref p5, .ref p6, .ref p7, .ref p8, .ref p9, .ref p10, .int 0, .int 0, .int (-1)])), (p3, .inr (7, [.int 0, .int 0, .int 0, .int 1, .int 1]))] sz) := by
  refine Met.ofW (cc := cX10_set) (maxL := 4) (ret := (some .int)) (by decide) rfl ?_
  intro p e s m args below meth c s₁ B hml hv
  obtain ⟨rfl, hsz, hP, hK, hD0, hN⟩ := hv
  have hx := B.exec
  have hb := B.bytes
  have hr := B.returns
  have hts := atoms_spec B.pre
  have hW : ∀ w ∈ WA, w.before [.ref p0, .int p1, .int p2].toArray s = true := fun w h => hts w (List.mem_cons_of_mem _ h)
  have hown : s.vm.findClass RX10 = some m.cls := findClass_of_methodNamed B.named
  have hlocks := B.notSynchronized
  subst hsz
  have hD := hD0.self (sz := s.heap.size)
  generalize hAe : va_A [(p0, .inr (10, [.ref p3, .ref p4, .ref p5, .ref p6, .ref p7, .ref p8, .ref p9, .ref p10, .int 0, .int 0, .int (-1)])), (p3, .inr (7, [.int 0, .int 0, .int 0, .int 1, .int 1]))] s.heap.size = A at hD ⊢
  have hA : ∀ q : Nat, s.heap.size ≤ q → A q := fun q h => by rw [← hAe]; exact Or.inr h
  have hS : va_S A s.heap s.heap [] := va_S.rf
  have hP : va_P (dC, dI) vwCl [(p0, .inr (10, [.ref p3, .ref p4, .ref p5, .ref p6, .ref p7, .ref p8, .ref p9, .ref p10, .int 0, .int 0, .int (-1)])), (p3, .inr (7, [.int 0, .int 0, .int 0, .int 1, .int 1]))] s.heap := hP
  have hl := lv_entry ([.ref p0, .int p1, .int p2]) (n := 4) (Nat.le_of_ble_eq_true rfl)
  rw [lg_entry_eq]
  generalize (lg_sl ([.ref p0, .int p1, .int p2]) ++ List.replicate (4 - (lg_sl ([.ref p0, .int p1, .int p2])).length) Slot.unset).toArray = ls at hl ⊢
  have hl : lv_has ls 4 [(0, .ref p0), (1, .int p1), (2, .int p2)] := hl
  refine lv_iload_n hx hb dX10_set_0 rfl (lv_at hl 1 rfl) ?_
  refine lv_if_ne (tgt := 31) hx hb dX10_set_1 (by decide) (fun c1_1 => ?_) (fun c1_1 => ?_)
  · refine lv_iload_n hx hb dX10_set_31 rfl (lv_at hl 1 rfl) ?_
    refine lv_iconst (v := 1) hx hb dX10_set_32 (by decide) ?_
    refine lv_icmp_ne (tgt := 66) hx hb dX10_set_33 (by decide) (fun c33_2 => ?_) (fun c33_2 => ?_)
    · refine lv_iconst (v := (-1)) hx hb dX10_set_66 (by decide) ?_
      refine W.widen (k := 0) (n := 0) (Nat.le_of_ble_eq_true rfl) (Nat.le_of_ble_eq_true rfl) ?_
      exact W.iret (v := (-1)) hx hb hr (fun t ht hW9 => ⟨⟨(-1), (), rfl, (by have k0 := f_ne (m := 0) rfl (by decide) c1_1; have k1 := f_ne (m := 1) rfl (by decide) c33_2; have t0 : (0 : Int32).toInt = 0 := (by decide); have t1 : (1 : Int32).toInt = 1 := (by decide); have t2 : ((-1) : Int32).toInt = (-1) := (by decide); show ((-1) : Int32) = setA p1 p2; apply Int32.toInt_inj.mp; unfold setA; (repeat' split) <;> first | rfl | omega), trivial⟩, hS.F ht⟩) hS.2.2 dX10_set_67
    · refine lv_iload_n hx hb dX10_set_36 rfl (lv_at hl 2 rfl) ?_
      refine lv_iconst (v := 1) hx hb dX10_set_37 (by decide) ?_
      refine lv_icmp_lt (tgt := 66) hx hb dX10_set_38 (by decide) (fun c38_3 => ?_) (fun c38_3 => ?_)
      · refine lv_iconst (v := (-1)) hx hb dX10_set_66 (by decide) ?_
        refine W.widen (k := 0) (n := 0) (Nat.le_of_ble_eq_true rfl) (Nat.le_of_ble_eq_true rfl) ?_
        exact W.iret (v := (-1)) hx hb hr (fun t ht hW9 => ⟨⟨(-1), (), rfl, (by have k0 := f_ne (m := 0) rfl (by decide) c1_1; have k1 := f_eq (m := 1) rfl (by decide) c33_2; have k2 := f_lt (m := 1) rfl (by decide) c38_3; have t0 : (0 : Int32).toInt = 0 := (by decide); have t1 : (1 : Int32).toInt = 1 := (by decide); have t2 : ((-1) : Int32).toInt = (-1) := (by decide); show ((-1) : Int32) = setA p1 p2; apply Int32.toInt_inj.mp; unfold setA; (repeat' split) <;> first | rfl | omega), trivial⟩, hS.F ht⟩) hS.2.2 dX10_set_67
      · refine lv_iload_n hx hb dX10_set_41 rfl (lv_at hl 2 rfl) ?_
        refine lv_ldcw (v := 2147483646) hx hb hown (hW _ mw_456) dX10_set_42 ?_
        refine lv_icmp_gt (tgt := 66) hx hb dX10_set_45 (by decide) (fun c45_4 => ?_) (fun c45_4 => ?_)
        · refine lv_iconst (v := (-1)) hx hb dX10_set_66 (by decide) ?_
          refine W.widen (k := 0) (n := 0) (Nat.le_of_ble_eq_true rfl) (Nat.le_of_ble_eq_true rfl) ?_
          exact W.iret (v := (-1)) hx hb hr (fun t ht hW9 => ⟨⟨(-1), (), rfl, (by have k0 := f_ne (m := 0) rfl (by decide) c1_1; have k1 := f_eq (m := 1) rfl (by decide) c33_2; have k2 := f_nlt (m := 1) rfl (by decide) c38_3; have k3 := f_lt (n := 2147483646) (by decide) rfl c45_4; have t0 : (0 : Int32).toInt = 0 := (by decide); have t1 : (1 : Int32).toInt = 1 := (by decide); have t2 : ((-1) : Int32).toInt = (-1) := (by decide); show ((-1) : Int32) = setA p1 p2; apply Int32.toInt_inj.mp; unfold setA; (repeat' split) <;> first | rfl | omega), trivial⟩, hS.F ht⟩) hS.2.2 dX10_set_67
        · refine lv_aload_n hx hb dX10_set_48 rfl (lv_at hl 0 rfl) ?_
          refine va_get (D := (dC, dI)) (ci := 10) (v := .ref p3) (C := RX10) (T := TX10) (N := 11) hx hb hW iW_10 hown hK hP 0 rfl rfl 0 (by decide) (hW _ mw_14) (fun _ h9 => h9) rfl dX10_set_49 ?_
          refine va_getN (D := (dC, dI)) (ci := 7) (v := .int 1) (C := RX7) (T := TX7) (N := 5) hx hb hW iW_7 hown hK hP 1 rfl rfl 4 (by decide) (va_Nw.use rfl (hN _ mn_39)) (fun _ h9 => h9) rfl dX10_set_52 ?_
          refine lv_istore_n (lv' := [(3, .int 1), (0, .ref p0), (1, .int p1), (2, .int p2)]) hx hb dX10_set_55 rfl hl (by decide) rfl (fun ls hl => ?_)
          refine lv_aload_n hx hb dX10_set_56 rfl (lv_at hl 1 rfl) ?_
          refine va_get (D := (dC, dI)) (ci := 10) (v := .ref p3) (C := RX10) (T := TX10) (N := 11) hx hb hW iW_10 hown hK hP 0 rfl rfl 0 (by decide) (hW _ mw_14) (fun _ h9 => h9) rfl dX10_set_57 ?_
          refine lv_iload_n hx hb dX10_set_60 rfl (lv_at hl 3 rfl) ?_
          refine va_putN (D := (dC, dI)) (ci := 7) (v := .int p2) (ty := .int) (C := RX7) (T := TX7) (N := 5) hx hb hW iW_7 tyX7 tyX7_ok nmX7 hown hK hP hD hS 1 rfl rfl 4 (by decide) (va_Nw.use rfl (hN _ mn_39)) (fun _ h9 => h9) rfl (by decide +kernel) rfl rfl (Nat.le_of_ble_eq_true rfl) dX10_set_61 (fun H locs hP hD hS => ?_)
          have hP : va_P (dC, dI) vwCl [(p0, .inr (10, [.ref p3, .ref p4, .ref p5, .ref p6, .ref p7, .ref p8, .ref p9, .ref p10, .int 0, .int 0, .int (-1)])), (p3, .inr (7, [.int 0, .int 0, .int 0, .int 1, .int p2]))] H := hP
          have hD : va_D A [(p0, .inr (10, [.ref p3, .ref p4, .ref p5, .ref p6, .ref p7, .ref p8, .ref p9, .ref p10, .int 0, .int 0, .int (-1)])), (p3, .inr (7, [.int 0, .int 0, .int 0, .int 1, .int p2]))] := hD
          refine lv_iload_n hx hb dX10_set_64 rfl (lv_at hl 0 rfl) ?_
          refine W.widen (k := 0) (n := 0) (Nat.le_of_ble_eq_true rfl) (Nat.le_of_ble_eq_true rfl) ?_
          exact W.iret (v := 1) hx hb hr (fun t ht hW9 => ⟨⟨1, (), rfl, (by have k0 := f_ne (m := 0) rfl (by decide) c1_1; have k1 := f_eq (m := 1) rfl (by decide) c33_2; have k2 := f_nlt (m := 1) rfl (by decide) c38_3; have k3 := f_nlt (n := 2147483646) (by decide) rfl c45_4; have t0 : (0 : Int32).toInt = 0 := (by decide); have t1 : (1 : Int32).toInt = 1 := (by decide); have t2 : ((-1) : Int32).toInt = (-1) := (by decide); show (1 : Int32) = setA p1 p2; apply Int32.toInt_inj.mp; unfold setA; (repeat' split) <;> first | rfl | omega), trivial⟩, hS.F ht⟩) hS.2.2 dX10_set_65
  · refine lv_iload_n hx hb dX10_set_4 rfl (lv_at hl 2 rfl) ?_
    refine lv_if_eq (tgt := 13) hx hb dX10_set_5 (by decide) (fun c5_5 => ?_) (fun c5_5 => ?_)
    · refine lv_aload_n hx hb dX10_set_13 rfl (lv_at hl 0 rfl) ?_
      refine va_get (D := (dC, dI)) (ci := 10) (v := .ref p3) (C := RX10) (T := TX10) (N := 11) hx hb hW iW_10 hown hK hP 0 rfl rfl 0 (by decide) (hW _ mw_14) (fun _ h9 => h9) rfl dX10_set_14 ?_
      refine va_getN (D := (dC, dI)) (ci := 7) (v := .int 1) (C := RX7) (T := TX7) (N := 5) hx hb hW iW_7 hown hK hP 1 rfl rfl 3 (by decide) (va_Nw.use rfl (hN _ mn_38)) (fun _ h9 => h9) rfl dX10_set_17 ?_
      refine lv_istore_n (lv' := [(3, .int 1), (0, .ref p0), (1, .int p1), (2, .int p2)]) hx hb dX10_set_20 rfl hl (by decide) rfl (fun ls hl => ?_)
      refine lv_aload_n hx hb dX10_set_21 rfl (lv_at hl 1 rfl) ?_
      refine va_get (D := (dC, dI)) (ci := 10) (v := .ref p3) (C := RX10) (T := TX10) (N := 11) hx hb hW iW_10 hown hK hP 0 rfl rfl 0 (by decide) (hW _ mw_14) (fun _ h9 => h9) rfl dX10_set_22 ?_
      refine lv_iload_n hx hb dX10_set_25 rfl (lv_at hl 3 rfl) ?_
      refine va_putN (D := (dC, dI)) (ci := 7) (v := .int p2) (ty := .int) (C := RX7) (T := TX7) (N := 5) hx hb hW iW_7 tyX7 tyX7_ok nmX7 hown hK hP hD hS 1 rfl rfl 3 (by decide) (va_Nw.use rfl (hN _ mn_38)) (fun _ h9 => h9) rfl (by decide +kernel) rfl rfl (Nat.le_of_ble_eq_true rfl) dX10_set_26 (fun H locs hP hD hS => ?_)
      have hP : va_P (dC, dI) vwCl [(p0, .inr (10, [.ref p3, .ref p4, .ref p5, .ref p6, .ref p7, .ref p8, .ref p9, .ref p10, .int 0, .int 0, .int (-1)])), (p3, .inr (7, [.int 0, .int 0, .int 0, .int p2, .int 1]))] H := hP
      have hD : va_D A [(p0, .inr (10, [.ref p3, .ref p4, .ref p5, .ref p6, .ref p7, .ref p8, .ref p9, .ref p10, .int 0, .int 0, .int (-1)])), (p3, .inr (7, [.int 0, .int 0, .int 0, .int p2, .int 1]))] := hD
      refine lv_iload_n hx hb dX10_set_29 rfl (lv_at hl 0 rfl) ?_
      refine W.widen (k := 0) (n := 0) (Nat.le_of_ble_eq_true rfl) (Nat.le_of_ble_eq_true rfl) ?_
      exact W.iret (v := 1) hx hb hr (fun t ht hW9 => ⟨⟨1, (), rfl, (by have k0 := f_eq (m := 0) rfl (by decide) c1_1; have k1 := f_eq (m := 0) rfl (by decide) c5_5; have t0 : (0 : Int32).toInt = 0 := (by decide); have t1 : (1 : Int32).toInt = 1 := (by decide); have t2 : ((-1) : Int32).toInt = (-1) := (by decide); show (1 : Int32) = setA p1 p2; apply Int32.toInt_inj.mp; unfold setA; (repeat' split) <;> first | rfl | omega), trivial⟩, hS.F ht⟩) hS.2.2 dX10_set_30
    · refine lv_iload_n hx hb dX10_set_8 rfl (lv_at hl 2 rfl) ?_
      refine lv_iconst (v := 1) hx hb dX10_set_9 (by decide) ?_
      refine lv_icmp_ne (tgt := 31) hx hb dX10_set_10 (by decide) (fun c10_6 => ?_) (fun c10_6 => ?_)
      · refine lv_iload_n hx hb dX10_set_31 rfl (lv_at hl 1 rfl) ?_
        refine lv_iconst (v := 1) hx hb dX10_set_32 (by decide) ?_
        refine lv_icmp_ne (tgt := 66) hx hb dX10_set_33 (by decide) (fun _ => ?_) (fun c => absurd c (fun hh => by have hh2 := congrArg Int32.toInt hh; have k0 := f_eq (m := 0) rfl (by decide) c1_1; have k1 := f_ne (m := 0) rfl (by decide) c5_5; have k2 := f_ne (m := 1) rfl (by decide) c10_6; have t0 : (1 : Int32).toInt = 1 := (by decide); omega))
        refine lv_iconst (v := (-1)) hx hb dX10_set_66 (by decide) ?_
        refine W.widen (k := 0) (n := 0) (Nat.le_of_ble_eq_true rfl) (Nat.le_of_ble_eq_true rfl) ?_
        exact W.iret (v := (-1)) hx hb hr (fun t ht hW9 => ⟨⟨(-1), (), rfl, (by have k0 := f_eq (m := 0) rfl (by decide) c1_1; have k1 := f_ne (m := 0) rfl (by decide) c5_5; have k2 := f_ne (m := 1) rfl (by decide) c10_6; have t0 : (0 : Int32).toInt = 0 := (by decide); have t1 : (1 : Int32).toInt = 1 := (by decide); have t2 : ((-1) : Int32).toInt = (-1) := (by decide); show ((-1) : Int32) = setA p1 p2; apply Int32.toInt_inj.mp; unfold setA; (repeat' split) <;> first | rfl | omega), trivial⟩, hS.F ht⟩) hS.2.2 dX10_set_67
      · refine lv_aload_n hx hb dX10_set_13 rfl (lv_at hl 0 rfl) ?_
        refine va_get (D := (dC, dI)) (ci := 10) (v := .ref p3) (C := RX10) (T := TX10) (N := 11) hx hb hW iW_10 hown hK hP 0 rfl rfl 0 (by decide) (hW _ mw_14) (fun _ h9 => h9) rfl dX10_set_14 ?_
        refine va_getN (D := (dC, dI)) (ci := 7) (v := .int 1) (C := RX7) (T := TX7) (N := 5) hx hb hW iW_7 hown hK hP 1 rfl rfl 3 (by decide) (va_Nw.use rfl (hN _ mn_38)) (fun _ h9 => h9) rfl dX10_set_17 ?_
        refine lv_istore_n (lv' := [(3, .int 1), (0, .ref p0), (1, .int p1), (2, .int p2)]) hx hb dX10_set_20 rfl hl (by decide) rfl (fun ls hl => ?_)
        refine lv_aload_n hx hb dX10_set_21 rfl (lv_at hl 1 rfl) ?_
        refine va_get (D := (dC, dI)) (ci := 10) (v := .ref p3) (C := RX10) (T := TX10) (N := 11) hx hb hW iW_10 hown hK hP 0 rfl rfl 0 (by decide) (hW _ mw_14) (fun _ h9 => h9) rfl dX10_set_22 ?_
        refine lv_iload_n hx hb dX10_set_25 rfl (lv_at hl 3 rfl) ?_
        refine va_putN (D := (dC, dI)) (ci := 7) (v := .int p2) (ty := .int) (C := RX7) (T := TX7) (N := 5) hx hb hW iW_7 tyX7 tyX7_ok nmX7 hown hK hP hD hS 1 rfl rfl 3 (by decide) (va_Nw.use rfl (hN _ mn_38)) (fun _ h9 => h9) rfl (by decide +kernel) rfl rfl (Nat.le_of_ble_eq_true rfl) dX10_set_26 (fun H locs hP hD hS => ?_)
        have hP : va_P (dC, dI) vwCl [(p0, .inr (10, [.ref p3, .ref p4, .ref p5, .ref p6, .ref p7, .ref p8, .ref p9, .ref p10, .int 0, .int 0, .int (-1)])), (p3, .inr (7, [.int 0, .int 0, .int 0, .int p2, .int 1]))] H := hP
        have hD : va_D A [(p0, .inr (10, [.ref p3, .ref p4, .ref p5, .ref p6, .ref p7, .ref p8, .ref p9, .ref p10, .int 0, .int 0, .int (-1)])), (p3, .inr (7, [.int 0, .int 0, .int 0, .int p2, .int 1]))] := hD
        refine lv_iload_n hx hb dX10_set_29 rfl (lv_at hl 0 rfl) ?_
        refine W.widen (k := 0) (n := 0) (Nat.le_of_ble_eq_true rfl) (Nat.le_of_ble_eq_true rfl) ?_
        exact W.iret (v := 1) hx hb hr (fun t ht hW9 => ⟨⟨1, (), rfl, (by have k0 := f_eq (m := 0) rfl (by decide) c1_1; have k1 := f_ne (m := 0) rfl (by decide) c5_5; have k2 := f_eq (m := 1) rfl (by decide) c10_6; have t0 : (0 : Int32).toInt = 0 := (by decide); have t1 : (1 : Int32).toInt = 1 := (by decide); have t2 : ((-1) : Int32).toInt = (-1) := (by decide); show (1 : Int32) = setA p1 p2; apply Int32.toInt_inj.mp; unfold setA; (repeat' split) <;> first | rfl | omega), trivial⟩, hS.F ht⟩) hS.2.2 dX10_set_30

set_option maxHeartbeats 4000000 in
set_option maxRecDepth 100000 in
/-- X11_set__0 -/
theorem c_X11_set__0 (l : Launch) (dC : Nat → ClassId) (dI : Nat → Nat → Nat) (cI cB : ClassId) (p0 : Nat) (p1 : Int32) (p2 : Int32) (p3 : Nat) (p4 : Nat) (p5 : Nat) (p6 : Nat) (p7 : Nat) (p8 : Nat) (p9 : Nat) (p10 : Nat) (p11 : Nat) (p12 : Nat) (p13 : Nat) (p14 : Nat) (p15 : Nat) (p16 : Nat) (p17 : Nat) (p18 : Nat) (p19 : Nat) (p20 : Nat) (p21 : Nat) (p22 : Nat) (p23 : Nat) (p24 : Nat) (p25 : Nat) (p26 : Nat) (p27 : Nat) (p28 : Nat) (p29 : Nat) (p30 : Nat) (p31 : Nat) (p32 : Nat) (p33 : Nat) (p34 : Nat) (p35 : Nat) (p36 : Nat) (p37 : Nat) (p38 : Nat) (p39 : Nat) (sz : Nat) : Met l yX11_set_ (.code yX11_set_ cX11_set_ 4 (some .int) :: WA) ({ frames := 0, cells := 0, slots := 0, locals := 0 }) (va_Pc [.ref p0, .int p1, .int p2] (PB dC dI cI cB [(p0, .inr (11, [.int 0, .int 0, .int 0, .int 1, .long 1, .ref p3, .ref p4, .int 1, .ref p5, .int 0, .int 0, .int 1, .ref p6, .ref p7, .ref p8, .int 0, .ref p9, .int 0, .ref p10, .int 0, .int 0, .ref p11, .int 0, .ref p12, .int 0, .ref p13, .ref p14, .ref p15, .ref p16, .ref p17, .ref p18, .ref p19, .int 0, .int 0, .int 0, .int 0, .ref p20, .ref p21, .ref p22, .ref p23, .ref p24, .ref p25, .ref p26, .ref p27, .ref p28, .int 0, .int 0, .ref p29, .ref p30, .ref p31, .ref p32, .int 0, .int 0, .int 0, .int 0, .int 0, .int 0, .int 0, .int 0, .int 0, .int 0, .int 0, .int (-1), .int 0, .ref p33, .ref p34, .int 0, .ref p35, .ref p36, .ref p37, .ref p38, .int 0, .int (-1), .int 0, .int 0, .ref p39]))] sz)) (va_Qi (fun (r : Int32) (_ : Unit) => r = setA p1 p2) (fun _ _ => True) (va_A [(p0, .inr (11, [.int 0, .int 0, .int 0, .int 1, .long 1, .ref p3, .ref p4, .int 1, .ref p5, .int 0, .int 0, .int 1, .ref p6, .ref p7, .ref p8, .int 0, .ref p9, .int 0, .ref p10, .int 0, .int 0, .ref p11, .int 0, .ref p12, .int 0, .ref p13, .ref p14, .ref p15, .ref p16, .ref p17, .ref p18, .ref p19, .int 0, .int 0, .int 0, .int 0, .ref p20, .ref p21, .ref p22, .ref p23, .ref p24, .ref p25, .ref p26, .ref p27, .ref p28, .int 0, .int 0, .ref p29, .ref p30, .ref p31, .ref p32, .int 0, .int 0, .int 0, .int 0, .int 0, .int 0, .int 0, .int 0, .int 0, .int 0, .int 0, .int (-1), .int 0, .ref p33, .ref p34, .int 0, .ref p35, .ref p36, .ref p37, .ref p38, .int 0, .int (-1), .int 0, .int 0, .ref p39]))] sz)) 0 0 (va_A [(p0, .inr (11, [.int 0, .int 0, .int 0, .int 1, .long 1, .ref p3, .ref p4, .int 1, .ref p5, .int 0, .int 0, .int 1, .ref p6, .ref p7, .ref p8, .int 0, .ref p9, .int 0, .ref p10, .int 0, .int 0, .ref p11, .int 0, .ref p12, .int 0, .ref p13, .ref p14, .ref p15, .ref p16, .ref p17, .ref p18, .ref p19, .int 0, .int 0, .int 0, .int 0, .ref p20, .ref p21, .ref p22, .ref p23, .ref p24, .ref p25, .ref p26, .ref p27, .ref p28, .int 0, .int 0, .ref p29, .ref p30, .ref p31, .ref p32, .int 0, .int 0, .int 0, .int 0, .int 0, .int 0, .int 0, .int 0, .int 0, .int 0, .int 0, .int (-1), .int 0, .ref p33, .ref p34, .int 0, .ref p35, .ref p36, .ref p37, .ref p38, .int 0, .int (-1), .int 0, .int 0, .ref p39]))] sz) := by
  refine Met.ofW (cc := cX11_set_) (maxL := 4) (ret := (some .int)) (by decide) rfl ?_
  intro p e s m args below meth c s₁ B hml hv
  obtain ⟨rfl, hsz, hP, hK, hD0, hN⟩ := hv
  have hx := B.exec
  have hb := B.bytes
  have hr := B.returns
  have hts := atoms_spec B.pre
  have hW : ∀ w ∈ WA, w.before [.ref p0, .int p1, .int p2].toArray s = true := fun w h => hts w (List.mem_cons_of_mem _ h)
  have hown : s.vm.findClass RX11 = some m.cls := findClass_of_methodNamed B.named
  have hlocks := B.notSynchronized
  subst hsz
  have hD := hD0.self (sz := s.heap.size)
  generalize hAe : va_A [(p0, .inr (11, [.int 0, .int 0, .int 0, .int 1, .long 1, .ref p3, .ref p4, .int 1, .ref p5, .int 0, .int 0, .int 1, .ref p6, .ref p7, .ref p8, .int 0, .ref p9, .int 0, .ref p10, .int 0, .int 0, .ref p11, .int 0, .ref p12, .int 0, .ref p13, .ref p14, .ref p15, .ref p16, .ref p17, .ref p18, .ref p19, .int 0, .int 0, .int 0, .int 0, .ref p20, .ref p21, .ref p22, .ref p23, .ref p24, .ref p25, .ref p26, .ref p27, .ref p28, .int 0, .int 0, .ref p29, .ref p30, .ref p31, .ref p32, .int 0, .int 0, .int 0, .int 0, .int 0, .int 0, .int 0, .int 0, .int 0, .int 0, .int 0, .int (-1), .int 0, .ref p33, .ref p34, .int 0, .ref p35, .ref p36, .ref p37, .ref p38, .int 0, .int (-1), .int 0, .int 0, .ref p39]))] s.heap.size = A at hD ⊢
  have hA : ∀ q : Nat, s.heap.size ≤ q → A q := fun q h => by rw [← hAe]; exact Or.inr h
  have hS : va_S A s.heap s.heap [] := va_S.rf
  have hP : va_P (dC, dI) vwCl [(p0, .inr (11, [.int 0, .int 0, .int 0, .int 1, .long 1, .ref p3, .ref p4, .int 1, .ref p5, .int 0, .int 0, .int 1, .ref p6, .ref p7, .ref p8, .int 0, .ref p9, .int 0, .ref p10, .int 0, .int 0, .ref p11, .int 0, .ref p12, .int 0, .ref p13, .ref p14, .ref p15, .ref p16, .ref p17, .ref p18, .ref p19, .int 0, .int 0, .int 0, .int 0, .ref p20, .ref p21, .ref p22, .ref p23, .ref p24, .ref p25, .ref p26, .ref p27, .ref p28, .int 0, .int 0, .ref p29, .ref p30, .ref p31, .ref p32, .int 0, .int 0, .int 0, .int 0, .int 0, .int 0, .int 0, .int 0, .int 0, .int 0, .int 0, .int (-1), .int 0, .ref p33, .ref p34, .int 0, .ref p35, .ref p36, .ref p37, .ref p38, .int 0, .int (-1), .int 0, .int 0, .ref p39]))] s.heap := hP
  have hl := lv_entry ([.ref p0, .int p1, .int p2]) (n := 4) (Nat.le_of_ble_eq_true rfl)
  rw [lg_entry_eq]
  generalize (lg_sl ([.ref p0, .int p1, .int p2]) ++ List.replicate (4 - (lg_sl ([.ref p0, .int p1, .int p2])).length) Slot.unset).toArray = ls at hl ⊢
  have hl : lv_has ls 4 [(0, .ref p0), (1, .int p1), (2, .int p2)] := hl
  refine lv_iload_n hx hb dX11_set__0 rfl (lv_at hl 1 rfl) ?_
  refine lv_if_ne (tgt := 11) hx hb dX11_set__1 (by decide) (fun c1_1 => ?_) (fun c1_1 => ?_)
  · refine lv_aload_n hx hb dX11_set__11 rfl (lv_at hl 0 rfl) ?_
    refine va_get (D := (dC, dI)) (ci := 11) (v := .long 1) (C := RX11) (T := TX11) (N := 76) hx hb hW iW_11 hown hK hP 0 rfl rfl 4 (by decide) (hW _ mw_145) (fun _ h9 => h9) rfl dX11_set__12 ?_
    refine lv_l2i (v := 1) hx hb dX11_set__15 (by decide) ?_
    refine lv_istore_n (lv' := [(3, .int 1), (0, .ref p0), (1, .int p1), (2, .int p2)]) hx hb dX11_set__16 rfl hl (by decide) rfl (fun ls hl => ?_)
    refine lv_iload_n hx hb dX11_set__17 rfl (lv_at hl 2 rfl) ?_
    refine lv_if_ne (tgt := 38) hx hb dX11_set__18 (by decide) (fun c18_2 => ?_) (fun c18_2 => ?_)
    · refine lv_iload_n hx hb dX11_set__38 rfl (lv_at hl 2 rfl) ?_
      refine lv_iconst (v := 1) hx hb dX11_set__39 (by decide) ?_
      refine lv_icmp_ne (tgt := 66) hx hb dX11_set__40 (by decide) (fun c40_3 => ?_) (fun c40_3 => ?_)
      · refine lv_iconst (v := (-1)) hx hb dX11_set__66 (by decide) ?_
        refine W.widen (k := 0) (n := 0) (Nat.le_of_ble_eq_true rfl) (Nat.le_of_ble_eq_true rfl) ?_
        exact W.iret (v := (-1)) hx hb hr (fun t ht hW9 => ⟨⟨(-1), (), rfl, (by have k0 := f_ne (m := 0) rfl (by decide) c1_1; have k1 := f_ne (m := 0) rfl (by decide) c18_2; have k2 := f_ne (m := 1) rfl (by decide) c40_3; have t0 : (0 : Int32).toInt = 0 := (by decide); have t1 : (1 : Int32).toInt = 1 := (by decide); have t2 : ((-1) : Int32).toInt = (-1) := (by decide); show ((-1) : Int32) = setA p1 p2; apply Int32.toInt_inj.mp; unfold setA; (repeat' split) <;> first | rfl | omega), trivial⟩, hS.F ht⟩) hS.2.2 dX11_set__67
      · refine lv_iload_n hx hb dX11_set__43 rfl (lv_at hl 3 rfl) ?_
        refine lv_iconst (v := 1) hx hb dX11_set__44 (by decide) ?_
        refine lv_icmp_lt (tgt := 66) hx hb dX11_set__45 (by decide) (fun c45_4 => ?_) (fun c45_4 => ?_)
        · refine lv_iconst (v := (-1)) hx hb dX11_set__66 (by decide) ?_
          refine W.widen (k := 0) (n := 0) (Nat.le_of_ble_eq_true rfl) (Nat.le_of_ble_eq_true rfl) ?_
          exact W.iret (v := (-1)) hx hb hr (fun t ht hW9 => ⟨⟨(-1), (), rfl, (by have k0 := f_ne (m := 0) rfl (by decide) c1_1; have k1 := f_ne (m := 0) rfl (by decide) c18_2; have k2 := f_eq (m := 1) rfl (by decide) c40_3; have k3 := f_lt (m := 1) rfl (by decide) c45_4; have t0 : (0 : Int32).toInt = 0 := (by decide); have t1 : (1 : Int32).toInt = 1 := (by decide); have t2 : ((-1) : Int32).toInt = (-1) := (by decide); show ((-1) : Int32) = setA p1 p2; apply Int32.toInt_inj.mp; unfold setA; (repeat' split) <;> first | rfl | omega), trivial⟩, hS.F ht⟩) hS.2.2 dX11_set__67
        · refine lv_iload_n hx hb dX11_set__48 rfl (lv_at hl 3 rfl) ?_
          refine lv_i2l (v := p2.toInt64) hx hb dX11_set__49 rfl ?_
          refine lv_ldc2 (v := 2147483647) hx hb hown (hW _ mw_461) dX11_set__50 ?_
          refine W.lcmp hx hb dX11_set__53 ?_
          refine lv_if_ge (tgt := 66) hx hb dX11_set__54 (by decide) (fun c54_5 => ?_) (fun c54_5 => ?_)
          · refine lv_iconst (v := (-1)) hx hb dX11_set__66 (by decide) ?_
            refine W.widen (k := 0) (n := 0) (Nat.le_of_ble_eq_true rfl) (Nat.le_of_ble_eq_true rfl) ?_
            exact W.iret (v := (-1)) hx hb hr (fun t ht hW9 => ⟨⟨(-1), (), rfl, (by have k0 := f_ne (m := 0) rfl (by decide) c1_1; have k1 := f_ne (m := 0) rfl (by decide) c18_2; have k2 := f_eq (m := 1) rfl (by decide) c40_3; have k3 := f_nlt (m := 1) rfl (by decide) c45_4; have k4 := cmp_ge c54_5; have t0 : (0 : Int32).toInt = 0 := (by decide); have t1 : (1 : Int32).toInt = 1 := (by decide); have t2 : ((-1) : Int32).toInt = (-1) := (by decide); show ((-1) : Int32) = setA p1 p2; apply Int32.toInt_inj.mp; unfold setA; (repeat' split) <;> first | rfl | omega), trivial⟩, hS.F ht⟩) hS.2.2 dX11_set__67
          · refine lv_aload_n hx hb dX11_set__57 rfl (lv_at hl 1 rfl) ?_
            refine lv_iload_n hx hb dX11_set__58 rfl (lv_at hl 3 rfl) ?_
            refine lv_i2l (v := p2.toInt64) hx hb dX11_set__59 rfl ?_
            refine va_put (D := (dC, dI)) (ci := 11) (v := .long p2.toInt64) (ty := .long) (C := RX11) (T := TX11) (N := 76) hx hb hW iW_11 tyX11 tyX11_ok nmX11 hown hK hP hD hS 0 rfl rfl 4 (by decide) (hW _ mw_145) (fun _ h9 => h9) rfl (by decide +kernel) rfl rfl (Nat.le_of_ble_eq_true rfl) dX11_set__60 (fun H locs hP hD hS => ?_)
            have hP : va_P (dC, dI) vwCl [(p0, .inr (11, [.int 0, .int 0, .int 0, .int 1, .long p2.toInt64, .ref p3, .ref p4, .int 1, .ref p5, .int 0, .int 0, .int 1, .ref p6, .ref p7, .ref p8, .int 0, .ref p9, .int 0, .ref p10, .int 0, .int 0, .ref p11, .int 0, .ref p12, .int 0, .ref p13, .ref p14, .ref p15, .ref p16, .ref p17, .ref p18, .ref p19, .int 0, .int 0, .int 0, .int 0, .ref p20, .ref p21, .ref p22, .ref p23, .ref p24, .ref p25, .ref p26, .ref p27, .ref p28, .int 0, .int 0, .ref p29, .ref p30, .ref p31, .ref p32, .int 0, .int 0, .int 0, .int 0, .int 0, .int 0, .int 0, .int 0, .int 0, .int 0, .int 0, .int (-1), .int 0, .ref p33, .ref p34, .int 0, .ref p35, .ref p36, .ref p37, .ref p38, .int 0, .int (-1), .int 0, .int 0, .ref p39]))] H := hP
            have hD : va_D A [(p0, .inr (11, [.int 0, .int 0, .int 0, .int 1, .long p2.toInt64, .ref p3, .ref p4, .int 1, .ref p5, .int 0, .int 0, .int 1, .ref p6, .ref p7, .ref p8, .int 0, .ref p9, .int 0, .ref p10, .int 0, .int 0, .ref p11, .int 0, .ref p12, .int 0, .ref p13, .ref p14, .ref p15, .ref p16, .ref p17, .ref p18, .ref p19, .int 0, .int 0, .int 0, .int 0, .ref p20, .ref p21, .ref p22, .ref p23, .ref p24, .ref p25, .ref p26, .ref p27, .ref p28, .int 0, .int 0, .ref p29, .ref p30, .ref p31, .ref p32, .int 0, .int 0, .int 0, .int 0, .int 0, .int 0, .int 0, .int 0, .int 0, .int 0, .int 0, .int (-1), .int 0, .ref p33, .ref p34, .int 0, .ref p35, .ref p36, .ref p37, .ref p38, .int 0, .int (-1), .int 0, .int 0, .ref p39]))] := hD
            refine lv_goto (tgt := 68) hx hb dX11_set__63 (by decide) ?_
            refine lv_iload_n hx hb dX11_set__68 rfl (lv_at hl 0 rfl) ?_
            refine W.widen (k := 0) (n := 0) (Nat.le_of_ble_eq_true rfl) (Nat.le_of_ble_eq_true rfl) ?_
            exact W.iret (v := 1) hx hb hr (fun t ht hW9 => ⟨⟨1, (), rfl, (by have k0 := f_ne (m := 0) rfl (by decide) c1_1; have k1 := f_ne (m := 0) rfl (by decide) c18_2; have k2 := f_eq (m := 1) rfl (by decide) c40_3; have k3 := f_nlt (m := 1) rfl (by decide) c45_4; have k4 := cmp_lt c54_5; have t0 : (0 : Int32).toInt = 0 := (by decide); have t1 : (1 : Int32).toInt = 1 := (by decide); have t2 : ((-1) : Int32).toInt = (-1) := (by decide); show (1 : Int32) = setA p1 p2; apply Int32.toInt_inj.mp; unfold setA; (repeat' split) <;> first | rfl | omega), trivial⟩, hS.F ht⟩) hS.2.2 dX11_set__69
    · refine lv_iload_n hx hb dX11_set__21 rfl (lv_at hl 3 rfl) ?_
      refine lv_if_lt (tgt := 38) hx hb dX11_set__22 (by decide) (fun c22_6 => ?_) (fun c22_6 => ?_)
      · refine lv_iload_n hx hb dX11_set__38 rfl (lv_at hl 2 rfl) ?_
        refine lv_iconst (v := 1) hx hb dX11_set__39 (by decide) ?_
        refine lv_icmp_ne (tgt := 66) hx hb dX11_set__40 (by decide) (fun _ => ?_) (fun c => absurd c (fun hh => by have hh2 := congrArg Int32.toInt hh; have k0 := f_ne (m := 0) rfl (by decide) c1_1; have k1 := f_eq (m := 0) rfl (by decide) c18_2; have k2 := f_lt (m := 0) rfl (by decide) c22_6; have t0 : (1 : Int32).toInt = 1 := (by decide); omega))
        refine lv_iconst (v := (-1)) hx hb dX11_set__66 (by decide) ?_
        refine W.widen (k := 0) (n := 0) (Nat.le_of_ble_eq_true rfl) (Nat.le_of_ble_eq_true rfl) ?_
        exact W.iret (v := (-1)) hx hb hr (fun t ht hW9 => ⟨⟨(-1), (), rfl, (by have k0 := f_ne (m := 0) rfl (by decide) c1_1; have k1 := f_eq (m := 0) rfl (by decide) c18_2; have k2 := f_lt (m := 0) rfl (by decide) c22_6; have t0 : (0 : Int32).toInt = 0 := (by decide); have t1 : (1 : Int32).toInt = 1 := (by decide); have t2 : ((-1) : Int32).toInt = (-1) := (by decide); show ((-1) : Int32) = setA p1 p2; apply Int32.toInt_inj.mp; unfold setA; (repeat' split) <;> first | rfl | omega), trivial⟩, hS.F ht⟩) hS.2.2 dX11_set__67
      · refine lv_iload_n hx hb dX11_set__25 rfl (lv_at hl 3 rfl) ?_
        refine lv_iconst (v := 1) hx hb dX11_set__26 (by decide) ?_
        refine lv_icmp_gt (tgt := 38) hx hb dX11_set__27 (by decide) (fun c27_7 => ?_) (fun c27_7 => ?_)
        · refine lv_iload_n hx hb dX11_set__38 rfl (lv_at hl 2 rfl) ?_
          refine lv_iconst (v := 1) hx hb dX11_set__39 (by decide) ?_
          refine lv_icmp_ne (tgt := 66) hx hb dX11_set__40 (by decide) (fun _ => ?_) (fun c => absurd c (fun hh => by have hh2 := congrArg Int32.toInt hh; have k0 := f_ne (m := 0) rfl (by decide) c1_1; have k1 := f_eq (m := 0) rfl (by decide) c18_2; have k2 := f_nlt (m := 0) rfl (by decide) c22_6; have k3 := f_lt (n := 1) (by decide) rfl c27_7; have t0 : (1 : Int32).toInt = 1 := (by decide); omega))
          refine lv_iconst (v := (-1)) hx hb dX11_set__66 (by decide) ?_
          refine W.widen (k := 0) (n := 0) (Nat.le_of_ble_eq_true rfl) (Nat.le_of_ble_eq_true rfl) ?_
          exact W.iret (v := (-1)) hx hb hr (fun t ht hW9 => ⟨⟨(-1), (), rfl, (by have k0 := f_ne (m := 0) rfl (by decide) c1_1; have k1 := f_eq (m := 0) rfl (by decide) c18_2; have k2 := f_nlt (m := 0) rfl (by decide) c22_6; have k3 := f_lt (n := 1) (by decide) rfl c27_7; have t0 : (0 : Int32).toInt = 0 := (by decide); have t1 : (1 : Int32).toInt = 1 := (by decide); have t2 : ((-1) : Int32).toInt = (-1) := (by decide); show ((-1) : Int32) = setA p1 p2; apply Int32.toInt_inj.mp; unfold setA; (repeat' split) <;> first | rfl | omega), trivial⟩, hS.F ht⟩) hS.2.2 dX11_set__67
        · refine lv_aload_n hx hb dX11_set__30 rfl (lv_at hl 1 rfl) ?_
          refine lv_iload_n hx hb dX11_set__31 rfl (lv_at hl 3 rfl) ?_
          refine va_put (D := (dC, dI)) (ci := 11) (v := .int p2) (ty := .int) (C := RX11) (T := TX11) (N := 76) hx hb hW iW_11 tyX11 tyX11_ok nmX11 hown hK hP hD hS 0 rfl rfl 3 (by decide) (hW _ mw_144) (fun _ h9 => h9) rfl (by decide +kernel) rfl rfl (Nat.le_of_ble_eq_true rfl) dX11_set__32 (fun H locs hP hD hS => ?_)
          have hP : va_P (dC, dI) vwCl [(p0, .inr (11, [.int 0, .int 0, .int 0, .int p2, .long 1, .ref p3, .ref p4, .int 1, .ref p5, .int 0, .int 0, .int 1, .ref p6, .ref p7, .ref p8, .int 0, .ref p9, .int 0, .ref p10, .int 0, .int 0, .ref p11, .int 0, .ref p12, .int 0, .ref p13, .ref p14, .ref p15, .ref p16, .ref p17, .ref p18, .ref p19, .int 0, .int 0, .int 0, .int 0, .ref p20, .ref p21, .ref p22, .ref p23, .ref p24, .ref p25, .ref p26, .ref p27, .ref p28, .int 0, .int 0, .ref p29, .ref p30, .ref p31, .ref p32, .int 0, .int 0, .int 0, .int 0, .int 0, .int 0, .int 0, .int 0, .int 0, .int 0, .int 0, .int (-1), .int 0, .ref p33, .ref p34, .int 0, .ref p35, .ref p36, .ref p37, .ref p38, .int 0, .int (-1), .int 0, .int 0, .ref p39]))] H := hP
          have hD : va_D A [(p0, .inr (11, [.int 0, .int 0, .int 0, .int p2, .long 1, .ref p3, .ref p4, .int 1, .ref p5, .int 0, .int 0, .int 1, .ref p6, .ref p7, .ref p8, .int 0, .ref p9, .int 0, .ref p10, .int 0, .int 0, .ref p11, .int 0, .ref p12, .int 0, .ref p13, .ref p14, .ref p15, .ref p16, .ref p17, .ref p18, .ref p19, .int 0, .int 0, .int 0, .int 0, .ref p20, .ref p21, .ref p22, .ref p23, .ref p24, .ref p25, .ref p26, .ref p27, .ref p28, .int 0, .int 0, .ref p29, .ref p30, .ref p31, .ref p32, .int 0, .int 0, .int 0, .int 0, .int 0, .int 0, .int 0, .int 0, .int 0, .int 0, .int 0, .int (-1), .int 0, .ref p33, .ref p34, .int 0, .ref p35, .ref p36, .ref p37, .ref p38, .int 0, .int (-1), .int 0, .int 0, .ref p39]))] := hD
          refine lv_goto (tgt := 68) hx hb dX11_set__35 (by decide) ?_
          refine lv_iload_n hx hb dX11_set__68 rfl (lv_at hl 0 rfl) ?_
          refine W.widen (k := 0) (n := 0) (Nat.le_of_ble_eq_true rfl) (Nat.le_of_ble_eq_true rfl) ?_
          exact W.iret (v := 1) hx hb hr (fun t ht hW9 => ⟨⟨1, (), rfl, (by have k0 := f_ne (m := 0) rfl (by decide) c1_1; have k1 := f_eq (m := 0) rfl (by decide) c18_2; have k2 := f_nlt (m := 0) rfl (by decide) c22_6; have k3 := f_nlt (n := 1) (by decide) rfl c27_7; have t0 : (0 : Int32).toInt = 0 := (by decide); have t1 : (1 : Int32).toInt = 1 := (by decide); have t2 : ((-1) : Int32).toInt = (-1) := (by decide); show (1 : Int32) = setA p1 p2; apply Int32.toInt_inj.mp; unfold setA; (repeat' split) <;> first | rfl | omega), trivial⟩, hS.F ht⟩) hS.2.2 dX11_set__69
  · refine lv_aload_n hx hb dX11_set__4 rfl (lv_at hl 0 rfl) ?_
    refine va_get (D := (dC, dI)) (ci := 11) (v := .int 1) (C := RX11) (T := TX11) (N := 76) hx hb hW iW_11 hown hK hP 0 rfl rfl 3 (by decide) (hW _ mw_144) (fun _ h9 => h9) rfl dX11_set__5 ?_
    refine lv_goto (tgt := 16) hx hb dX11_set__8 (by decide) ?_
    refine lv_istore_n (lv' := [(3, .int 1), (0, .ref p0), (1, .int p1), (2, .int p2)]) hx hb dX11_set__16 rfl hl (by decide) rfl (fun ls hl => ?_)
    refine lv_iload_n hx hb dX11_set__17 rfl (lv_at hl 2 rfl) ?_
    refine lv_if_ne (tgt := 38) hx hb dX11_set__18 (by decide) (fun c => absurd (by apply Int32.toInt_inj.mp; have k0 := f_eq (m := 0) rfl (by decide) c1_1; have t0 : (0 : Int32).toInt = 0 := (by decide); omega) c) (fun _ => ?_)
    refine lv_iload_n hx hb dX11_set__21 rfl (lv_at hl 3 rfl) ?_
    refine lv_if_lt (tgt := 38) hx hb dX11_set__22 (by decide) (fun c22_8 => ?_) (fun c22_8 => ?_)
    · refine lv_iload_n hx hb dX11_set__38 rfl (lv_at hl 2 rfl) ?_
      refine lv_iconst (v := 1) hx hb dX11_set__39 (by decide) ?_
      refine lv_icmp_ne (tgt := 66) hx hb dX11_set__40 (by decide) (fun _ => ?_) (fun c => absurd c (fun hh => by have hh2 := congrArg Int32.toInt hh; have k0 := f_eq (m := 0) rfl (by decide) c1_1; have k1 := f_lt (m := 0) rfl (by decide) c22_8; have t0 : (1 : Int32).toInt = 1 := (by decide); omega))
      refine lv_iconst (v := (-1)) hx hb dX11_set__66 (by decide) ?_
      refine W.widen (k := 0) (n := 0) (Nat.le_of_ble_eq_true rfl) (Nat.le_of_ble_eq_true rfl) ?_
      exact W.iret (v := (-1)) hx hb hr (fun t ht hW9 => ⟨⟨(-1), (), rfl, (by have k0 := f_eq (m := 0) rfl (by decide) c1_1; have k1 := f_lt (m := 0) rfl (by decide) c22_8; have t0 : (0 : Int32).toInt = 0 := (by decide); have t1 : (1 : Int32).toInt = 1 := (by decide); have t2 : ((-1) : Int32).toInt = (-1) := (by decide); show ((-1) : Int32) = setA p1 p2; apply Int32.toInt_inj.mp; unfold setA; (repeat' split) <;> first | rfl | omega), trivial⟩, hS.F ht⟩) hS.2.2 dX11_set__67
    · refine lv_iload_n hx hb dX11_set__25 rfl (lv_at hl 3 rfl) ?_
      refine lv_iconst (v := 1) hx hb dX11_set__26 (by decide) ?_
      refine lv_icmp_gt (tgt := 38) hx hb dX11_set__27 (by decide) (fun c27_9 => ?_) (fun c27_9 => ?_)
      · refine lv_iload_n hx hb dX11_set__38 rfl (lv_at hl 2 rfl) ?_
        refine lv_iconst (v := 1) hx hb dX11_set__39 (by decide) ?_
        refine lv_icmp_ne (tgt := 66) hx hb dX11_set__40 (by decide) (fun _ => ?_) (fun c => absurd c (fun hh => by have hh2 := congrArg Int32.toInt hh; have k0 := f_eq (m := 0) rfl (by decide) c1_1; have k1 := f_nlt (m := 0) rfl (by decide) c22_8; have k2 := f_lt (n := 1) (by decide) rfl c27_9; have t0 : (1 : Int32).toInt = 1 := (by decide); omega))
        refine lv_iconst (v := (-1)) hx hb dX11_set__66 (by decide) ?_
        refine W.widen (k := 0) (n := 0) (Nat.le_of_ble_eq_true rfl) (Nat.le_of_ble_eq_true rfl) ?_
        exact W.iret (v := (-1)) hx hb hr (fun t ht hW9 => ⟨⟨(-1), (), rfl, (by have k0 := f_eq (m := 0) rfl (by decide) c1_1; have k1 := f_nlt (m := 0) rfl (by decide) c22_8; have k2 := f_lt (n := 1) (by decide) rfl c27_9; have t0 : (0 : Int32).toInt = 0 := (by decide); have t1 : (1 : Int32).toInt = 1 := (by decide); have t2 : ((-1) : Int32).toInt = (-1) := (by decide); show ((-1) : Int32) = setA p1 p2; apply Int32.toInt_inj.mp; unfold setA; (repeat' split) <;> first | rfl | omega), trivial⟩, hS.F ht⟩) hS.2.2 dX11_set__67
      · refine lv_aload_n hx hb dX11_set__30 rfl (lv_at hl 1 rfl) ?_
        refine lv_iload_n hx hb dX11_set__31 rfl (lv_at hl 3 rfl) ?_
        refine va_put (D := (dC, dI)) (ci := 11) (v := .int p2) (ty := .int) (C := RX11) (T := TX11) (N := 76) hx hb hW iW_11 tyX11 tyX11_ok nmX11 hown hK hP hD hS 0 rfl rfl 3 (by decide) (hW _ mw_144) (fun _ h9 => h9) rfl (by decide +kernel) rfl rfl (Nat.le_of_ble_eq_true rfl) dX11_set__32 (fun H locs hP hD hS => ?_)
        have hP : va_P (dC, dI) vwCl [(p0, .inr (11, [.int 0, .int 0, .int 0, .int p2, .long 1, .ref p3, .ref p4, .int 1, .ref p5, .int 0, .int 0, .int 1, .ref p6, .ref p7, .ref p8, .int 0, .ref p9, .int 0, .ref p10, .int 0, .int 0, .ref p11, .int 0, .ref p12, .int 0, .ref p13, .ref p14, .ref p15, .ref p16, .ref p17, .ref p18, .ref p19, .int 0, .int 0, .int 0, .int 0, .ref p20, .ref p21, .ref p22, .ref p23, .ref p24, .ref p25, .ref p26, .ref p27, .ref p28, .int 0, .int 0, .ref p29, .ref p30, .ref p31, .ref p32, .int 0, .int 0, .int 0, .int 0, .int 0, .int 0, .int 0, .int 0, .int 0, .int 0, .int 0, .int (-1), .int 0, .ref p33, .ref p34, .int 0, .ref p35, .ref p36, .ref p37, .ref p38, .int 0, .int (-1), .int 0, .int 0, .ref p39]))] H := hP
        have hD : va_D A [(p0, .inr (11, [.int 0, .int 0, .int 0, .int p2, .long 1, .ref p3, .ref p4, .int 1, .ref p5, .int 0, .int 0, .int 1, .ref p6, .ref p7, .ref p8, .int 0, .ref p9, .int 0, .ref p10, .int 0, .int 0, .ref p11, .int 0, .ref p12, .int 0, .ref p13, .ref p14, .ref p15, .ref p16, .ref p17, .ref p18, .ref p19, .int 0, .int 0, .int 0, .int 0, .ref p20, .ref p21, .ref p22, .ref p23, .ref p24, .ref p25, .ref p26, .ref p27, .ref p28, .int 0, .int 0, .ref p29, .ref p30, .ref p31, .ref p32, .int 0, .int 0, .int 0, .int 0, .int 0, .int 0, .int 0, .int 0, .int 0, .int 0, .int 0, .int (-1), .int 0, .ref p33, .ref p34, .int 0, .ref p35, .ref p36, .ref p37, .ref p38, .int 0, .int (-1), .int 0, .int 0, .ref p39]))] := hD
        refine lv_goto (tgt := 68) hx hb dX11_set__35 (by decide) ?_
        refine lv_iload_n hx hb dX11_set__68 rfl (lv_at hl 0 rfl) ?_
        refine W.widen (k := 0) (n := 0) (Nat.le_of_ble_eq_true rfl) (Nat.le_of_ble_eq_true rfl) ?_
        exact W.iret (v := 1) hx hb hr (fun t ht hW9 => ⟨⟨1, (), rfl, (by have k0 := f_eq (m := 0) rfl (by decide) c1_1; have k1 := f_nlt (m := 0) rfl (by decide) c22_8; have k2 := f_nlt (n := 1) (by decide) rfl c27_9; have t0 : (0 : Int32).toInt = 0 := (by decide); have t1 : (1 : Int32).toInt = 1 := (by decide); have t2 : ((-1) : Int32).toInt = (-1) := (by decide); show (1 : Int32) = setA p1 p2; apply Int32.toInt_inj.mp; unfold setA; (repeat' split) <;> first | rfl | omega), trivial⟩, hS.F ht⟩) hS.2.2 dX11_set__69
