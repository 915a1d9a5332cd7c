set_option maxHeartbeats 4000000 in
set_option maxRecDepth 100000 in
/-- X10_append_0 -/
theorem c_X10_append_0 (l : Launch) (dC : Nat → ClassId) (dI : Nat → Nat → Nat) (cI cB : ClassId) (p0 : Nat) (p1 : Int32) (p2 : Nat) (p3 : Nat) (p4 : Nat) (p5 : Nat) (p6 : Nat) (p7 : Nat) (p8 : Nat) (p9 : Nat) (sz : Nat) : Met l yX10_append (.code yX10_append cX10_append 3 none :: WA) ({ frames := 0, cells := 0, slots := 0, locals := 0 }) (va_Pc [.ref p0, .int p1] (PB dC dI cI cB [(p0, .inr (10, [.ref p2, .ref p3, .ref p4, .ref p5, .ref p6, .ref p7, .ref p8, .ref p9, .int 0, .int 0, .int (-1)])), (p8, .inl (cB, 4000, .inl (fun _ => 0)))] sz)) (va_Qv (fun _ : Unit => True) (fun (_ : Unit) t => ∃ y1 : Nat → Int32, QB dC dI cI cB [(p0, .inr (10, [.ref p2, .ref p3, .ref p4, .ref p5, .ref p6, .ref p7, .ref p8, .ref p9, .int 4, .int 0, .int (-1)])), (p8, .inl (cB, 4000, .inl y1))] (va_A [(p0, .inr (10, [.ref p2, .ref p3, .ref p4, .ref p5, .ref p6, .ref p7, .ref p8, .ref p9, .int 0, .int 0, .int (-1)])), (p8, .inl (cB, 4000, .inl (fun _ => 0)))] sz) t) (va_A [(p0, .inr (10, [.ref p2, .ref p3, .ref p4, .ref p5, .ref p6, .ref p7, .ref p8, .ref p9, .int 0, .int 0, .int (-1)])), (p8, .inl (cB, 4000, .inl (fun _ => 0)))] sz)) 0 0 (va_A [(p0, .inr (10, [.ref p2, .ref p3, .ref p4, .ref p5, .ref p6, .ref p7, .ref p8, .ref p9, .int 0, .int 0, .int (-1)])), (p8, .inl (cB, 4000, .inl (fun _ => 0)))] sz) := by
  refine Met.ofW (cc := cX10_append) (maxL := 3) (ret := none) (by decide) rfl ?_
  intro p e s m args below meth c s₁ B hml hv
  obtain ⟨rfl, hsz, hP, hK, hD0, hN⟩ := hv
  have hx := B.exec
  have hb := B.bytes
  have hr := B.returns
  have hts := atoms_spec B.pre
  have hW : ∀ w ∈ WA, w.before [.ref p0, .int p1].toArray s = true := fun w h => hts w (List.mem_cons_of_mem _ h)
  have hown : s.vm.findClass RX10 = some m.cls := findClass_of_methodNamed B.named
  have hlocks := B.notSynchronized
  subst hsz
  have hD := hD0.self (sz := s.heap.size)
  generalize hAe : va_A [(p0, .inr (10, [.ref p2, .ref p3, .ref p4, .ref p5, .ref p6, .ref p7, .ref p8, .ref p9, .int 0, .int 0, .int (-1)])), (p8, .inl (cB, 4000, .inl (fun _ => 0)))] s.heap.size = A at hD ⊢
  have hA : ∀ q : Nat, s.heap.size ≤ q → A q := fun q h => by rw [← hAe]; exact Or.inr h
  have hS : va_S A s.heap s.heap [] := va_S.rf
  have hP : va_P (dC, dI) vwCl [(p0, .inr (10, [.ref p2, .ref p3, .ref p4, .ref p5, .ref p6, .ref p7, .ref p8, .ref p9, .int 0, .int 0, .int (-1)])), (p8, .inl (cB, 4000, .inl (fun _ => 0)))] s.heap := hP
  have hl := lv_entry ([.ref p0, .int p1]) (n := 3) (Nat.le_of_ble_eq_true rfl)
  rw [lg_entry_eq]
  generalize (lg_sl ([.ref p0, .int p1]) ++ List.replicate (3 - (lg_sl ([.ref p0, .int p1])).length) Slot.unset).toArray = ls at hl ⊢
  have hl : lv_has ls 3 [(0, .ref p0), (1, .int p1)] := hl
  refine lv_bipush (v := 24) hx hb dX10_append_0 (by decide) ?_
  refine lv_istore_n (lv' := [(2, .int 24), (0, .ref p0), (1, .int p1)]) hx hb dX10_append_2 rfl hl (by decide) rfl (fun ls hl => ?_)
  refine lv_iload_n hx hb dX10_append_3 rfl (lv_at hl 0 rfl) ?_
  refine lv_if_lt (tgt := 52) hx hb dX10_append_4 (by decide) (fun c => absurd c (by decide)) (fun _ => ?_)
  refine lv_aload_n hx hb dX10_append_7 rfl (lv_at hl 1 rfl) ?_
  refine va_get (D := (dC, dI)) (ci := 10) (v := .int 0) (C := RX10) (T := TX10) (N := 11) hx hb hW iW_10 hown hK hP 0 rfl rfl 8 (by decide) (hW _ mw_194) (fun _ h9 => h9) rfl dX10_append_8 ?_
  refine lv_if_lt (tgt := 46) hx hb dX10_append_11 (by decide) (fun c => absurd c (by decide)) (fun _ => ?_)
  refine lv_aload_n hx hb dX10_append_14 rfl (lv_at hl 1 rfl) ?_
  refine va_get (D := (dC, dI)) (ci := 10) (v := .int 0) (C := RX10) (T := TX10) (N := 11) hx hb hW iW_10 hown hK hP 0 rfl rfl 8 (by decide) (hW _ mw_194) (fun _ h9 => h9) rfl dX10_append_15 ?_
  refine lv_aload_n hx hb dX10_append_18 rfl (lv_at hl 1 rfl) ?_
  refine va_get (D := (dC, dI)) (ci := 10) (v := .ref p8) (C := RX10) (T := TX10) (N := 11) hx hb hW iW_10 hown hK hP 0 rfl rfl 6 (by decide) (hW _ mw_76) (fun _ h9 => h9) rfl dX10_append_19 ?_
  refine va_alen (v := 4000) hx hb hK hP 1 1 rfl rfl (show Int32.ofNat 4000 = 4000 by decide) dX10_append_22 ?_
  refine lv_icmp_ge (tgt := 46) hx hb dX10_append_23 (by decide) (fun c => absurd c (by decide)) (fun _ => ?_)
  refine lv_aload_n hx hb dX10_append_26 rfl (lv_at hl 1 rfl) ?_
  refine va_get (D := (dC, dI)) (ci := 10) (v := .ref p8) (C := RX10) (T := TX10) (N := 11) hx hb hW iW_10 hown hK hP 0 rfl rfl 6 (by decide) (hW _ mw_76) (fun _ h9 => h9) rfl dX10_append_27 ?_
  refine lv_aload_n hx hb dX10_append_30 rfl (lv_at hl 1 rfl) ?_
  refine lv_dup hx hb dX10_append_31 rfl ?_
  refine va_get (D := (dC, dI)) (ci := 10) (v := .int 0) (C := RX10) (T := TX10) (N := 11) hx hb hW iW_10 hown hK hP 0 rfl rfl 8 (by decide) (hW _ mw_194) (fun _ h9 => h9) rfl dX10_append_32 ?_
  refine lv_dup_x1 hx hb dX10_append_35 rfl rfl ?_
  refine lv_iconst (v := 1) hx hb dX10_append_36 (by decide) ?_
  refine lv_iadd hx hb dX10_append_37 ?_
  refine tp_i 1 (by decide) ?_
  refine va_put (D := (dC, dI)) (ci := 10) (v := .int 1) (ty := .int) (C := RX10) (T := TX10) (N := 11) hx hb hW iW_10 tyX10 tyX10_ok nmX10 hown hK hP hD hS 0 rfl rfl 8 (by decide) (hW _ mw_194) (fun _ h9 => h9) rfl (by decide +kernel) rfl rfl (Nat.le_of_ble_eq_true rfl) dX10_append_38 (fun H locs hP hD hS => ?_)
  have hP : va_P (dC, dI) vwCl [(p0, .inr (10, [.ref p2, .ref p3, .ref p4, .ref p5, .ref p6, .ref p7, .ref p8, .ref p9, .int 1, .int 0, .int (-1)])), (p8, .inl (cB, 4000, .inl (fun _ => 0)))] H := hP
  have hD : va_D A [(p0, .inr (10, [.ref p2, .ref p3, .ref p4, .ref p5, .ref p6, .ref p7, .ref p8, .ref p9, .int 1, .int 0, .int (-1)])), (p8, .inl (cB, 4000, .inl (fun _ => 0)))] := hD
  refine lv_iload_n hx hb dX10_append_41 rfl (lv_at hl 2 rfl) ?_
  refine lv_iload_n hx hb dX10_append_42 rfl (lv_at hl 0 rfl) ?_
  refine lv_ishr hx hb dX10_append_43 ?_
  refine lv_topi (fun z1 ez1 => ?_)
  obtain ⟨z2, ez2⟩ : ∃ z : Int32, z1.toInt8.toInt32 = z := ⟨_, rfl⟩
  refine lv_i2b (v := z2) hx hb dX10_append_44 ez2 ?_
  refine va_bast hx hb hK hP hD hS 1 1 rfl rfl (vp_in_nI (n := 0) (N := 4000) (by decide) (by decide)) dX10_append_45 (fun H locs hP hD hS => ?_)
  obtain ⟨f3, ef3⟩ : ∃ f : Nat → Int32, upd (fun _ => 0) (0 : Int32).toNatClampNeg (vp_nar .byte z2) = f := ⟨_, rfl⟩
  have hP : va_P (dC, dI) vwCl [(p0, .inr (10, [.ref p2, .ref p3, .ref p4, .ref p5, .ref p6, .ref p7, .ref p8, .ref p9, .int 1, .int 0, .int (-1)])), (p8, .inl (cB, 4000, .inl f3))] H := by rw [← ef3]; exact hP
  have hD : va_D A [(p0, .inr (10, [.ref p2, .ref p3, .ref p4, .ref p5, .ref p6, .ref p7, .ref p8, .ref p9, .int 1, .int 0, .int (-1)])), (p8, .inl (cB, 4000, .inl f3))] := by rw [← ef3]; exact hD
  refine lv_iinc (v := 16) (lv' := [(2, .int 16), (0, .ref p0), (1, .int p1)]) hx hb dX10_append_46 hl (k := 0) rfl (by decide) (by decide) rfl (fun ls hl => ?_)
  refine lv_goto (tgt := 3) hx hb dX10_append_49 (by decide) ?_
  refine lv_iload_n hx hb dX10_append_3 rfl (lv_at hl 0 rfl) ?_
  refine lv_if_lt (tgt := 52) hx hb dX10_append_4 (by decide) (fun c => absurd c (by decide)) (fun _ => ?_)
  refine lv_aload_n hx hb dX10_append_7 rfl (lv_at hl 1 rfl) ?_
  refine va_get (D := (dC, dI)) (ci := 10) (v := .int 1) (C := RX10) (T := TX10) (N := 11) hx hb hW iW_10 hown hK hP 0 rfl rfl 8 (by decide) (hW _ mw_194) (fun _ h9 => h9) rfl dX10_append_8 ?_
  refine lv_if_lt (tgt := 46) hx hb dX10_append_11 (by decide) (fun c => absurd c (by decide)) (fun _ => ?_)
  refine lv_aload_n hx hb dX10_append_14 rfl (lv_at hl 1 rfl) ?_
  refine va_get (D := (dC, dI)) (ci := 10) (v := .int 1) (C := RX10) (T := TX10) (N := 11) hx hb hW iW_10 hown hK hP 0 rfl rfl 8 (by decide) (hW _ mw_194) (fun _ h9 => h9) rfl dX10_append_15 ?_
  refine lv_aload_n hx hb dX10_append_18 rfl (lv_at hl 1 rfl) ?_
  refine va_get (D := (dC, dI)) (ci := 10) (v := .ref p8) (C := RX10) (T := TX10) (N := 11) hx hb hW iW_10 hown hK hP 0 rfl rfl 6 (by decide) (hW _ mw_76) (fun _ h9 => h9) rfl dX10_append_19 ?_
  refine va_alen (v := 4000) hx hb hK hP 1 1 rfl rfl (show Int32.ofNat 4000 = 4000 by decide) dX10_append_22 ?_
  refine lv_icmp_ge (tgt := 46) hx hb dX10_append_23 (by decide) (fun c => absurd c (by decide)) (fun _ => ?_)
  refine lv_aload_n hx hb dX10_append_26 rfl (lv_at hl 1 rfl) ?_
  refine va_get (D := (dC, dI)) (ci := 10) (v := .ref p8) (C := RX10) (T := TX10) (N := 11) hx hb hW iW_10 hown hK hP 0 rfl rfl 6 (by decide) (hW _ mw_76) (fun _ h9 => h9) rfl dX10_append_27 ?_
  refine lv_aload_n hx hb dX10_append_30 rfl (lv_at hl 1 rfl) ?_
  refine lv_dup hx hb dX10_append_31 rfl ?_
  refine va_get (D := (dC, dI)) (ci := 10) (v := .int 1) (C := RX10) (T := TX10) (N := 11) hx hb hW iW_10 hown hK hP 0 rfl rfl 8 (by decide) (hW _ mw_194) (fun _ h9 => h9) rfl dX10_append_32 ?_
  refine lv_dup_x1 hx hb dX10_append_35 rfl rfl ?_
  refine lv_iconst (v := 1) hx hb dX10_append_36 (by decide) ?_
  refine lv_iadd hx hb dX10_append_37 ?_
  refine tp_i 2 (by decide) ?_
  refine va_put (D := (dC, dI)) (ci := 10) (v := .int 2) (ty := .int) (C := RX10) (T := TX10) (N := 11) hx hb hW iW_10 tyX10 tyX10_ok nmX10 hown hK hP hD hS 0 rfl rfl 8 (by decide) (hW _ mw_194) (fun _ h9 => h9) rfl (by decide +kernel) rfl rfl (Nat.le_of_ble_eq_true rfl) dX10_append_38 (fun H locs hP hD hS => ?_)
  have hP : va_P (dC, dI) vwCl [(p0, .inr (10, [.ref p2, .ref p3, .ref p4, .ref p5, .ref p6, .ref p7, .ref p8, .ref p9, .int 2, .int 0, .int (-1)])), (p8, .inl (cB, 4000, .inl f3))] H := hP
  have hD : va_D A [(p0, .inr (10, [.ref p2, .ref p3, .ref p4, .ref p5, .ref p6, .ref p7, .ref p8, .ref p9, .int 2, .int 0, .int (-1)])), (p8, .inl (cB, 4000, .inl f3))] := hD
  refine lv_iload_n hx hb dX10_append_41 rfl (lv_at hl 2 rfl) ?_
  refine lv_iload_n hx hb dX10_append_42 rfl (lv_at hl 0 rfl) ?_
  refine lv_ishr hx hb dX10_append_43 ?_
  refine lv_topi (fun z4 ez4 => ?_)
  obtain ⟨z5, ez5⟩ : ∃ z : Int32, z4.toInt8.toInt32 = z := ⟨_, rfl⟩
  refine lv_i2b (v := z5) hx hb dX10_append_44 ez5 ?_
  refine va_bast hx hb hK hP hD hS 1 1 rfl rfl (vp_in_nI (n := 1) (N := 4000) (by decide) (by decide)) dX10_append_45 (fun H locs hP hD hS => ?_)
  obtain ⟨f6, ef6⟩ : ∃ f : Nat → Int32, upd f3 (1 : Int32).toNatClampNeg (vp_nar .byte z5) = f := ⟨_, rfl⟩
  have hP : va_P (dC, dI) vwCl [(p0, .inr (10, [.ref p2, .ref p3, .ref p4, .ref p5, .ref p6, .ref p7, .ref p8, .ref p9, .int 2, .int 0, .int (-1)])), (p8, .inl (cB, 4000, .inl f6))] H := by rw [← ef6]; exact hP
  have hD : va_D A [(p0, .inr (10, [.ref p2, .ref p3, .ref p4, .ref p5, .ref p6, .ref p7, .ref p8, .ref p9, .int 2, .int 0, .int (-1)])), (p8, .inl (cB, 4000, .inl f6))] := by rw [← ef6]; exact hD
  refine lv_iinc (v := 8) (lv' := [(2, .int 8), (0, .ref p0), (1, .int p1)]) hx hb dX10_append_46 hl (k := 0) rfl (by decide) (by decide) rfl (fun ls hl => ?_)
  refine lv_goto (tgt := 3) hx hb dX10_append_49 (by decide) ?_
  refine lv_iload_n hx hb dX10_append_3 rfl (lv_at hl 0 rfl) ?_
  refine lv_if_lt (tgt := 52) hx hb dX10_append_4 (by decide) (fun c => absurd c (by decide)) (fun _ => ?_)
  refine lv_aload_n hx hb dX10_append_7 rfl (lv_at hl 1 rfl) ?_
  refine va_get (D := (dC, dI)) (ci := 10) (v := .int 2) (C := RX10) (T := TX10) (N := 11) hx hb hW iW_10 hown hK hP 0 rfl rfl 8 (by decide) (hW _ mw_194) (fun _ h9 => h9) rfl dX10_append_8 ?_
  refine lv_if_lt (tgt := 46) hx hb dX10_append_11 (by decide) (fun c => absurd c (by decide)) (fun _ => ?_)
  refine lv_aload_n hx hb dX10_append_14 rfl (lv_at hl 1 rfl) ?_
  refine va_get (D := (dC, dI)) (ci := 10) (v := .int 2) (C := RX10) (T := TX10) (N := 11) hx hb hW iW_10 hown hK hP 0 rfl rfl 8 (by decide) (hW _ mw_194) (fun _ h9 => h9) rfl dX10_append_15 ?_
  refine lv_aload_n hx hb dX10_append_18 rfl (lv_at hl 1 rfl) ?_
  refine va_get (D := (dC, dI)) (ci := 10) (v := .ref p8) (C := RX10) (T := TX10) (N := 11) hx hb hW iW_10 hown hK hP 0 rfl rfl 6 (by decide) (hW _ mw_76) (fun _ h9 => h9) rfl dX10_append_19 ?_
  refine va_alen (v := 4000) hx hb hK hP 1 1 rfl rfl (show Int32.ofNat 4000 = 4000 by decide) dX10_append_22 ?_
  refine lv_icmp_ge (tgt := 46) hx hb dX10_append_23 (by decide) (fun c => absurd c (by decide)) (fun _ => ?_)
  refine lv_aload_n hx hb dX10_append_26 rfl (lv_at hl 1 rfl) ?_
  refine va_get (D := (dC, dI)) (ci := 10) (v := .ref p8) (C := RX10) (T := TX10) (N := 11) hx hb hW iW_10 hown hK hP 0 rfl rfl 6 (by decide) (hW _ mw_76) (fun _ h9 => h9) rfl dX10_append_27 ?_
  refine lv_aload_n hx hb dX10_append_30 rfl (lv_at hl 1 rfl) ?_
  refine lv_dup hx hb dX10_append_31 rfl ?_
  refine va_get (D := (dC, dI)) (ci := 10) (v := .int 2) (C := RX10) (T := TX10) (N := 11) hx hb hW iW_10 hown hK hP 0 rfl rfl 8 (by decide) (hW _ mw_194) (fun _ h9 => h9) rfl dX10_append_32 ?_
  refine lv_dup_x1 hx hb dX10_append_35 rfl rfl ?_
  refine lv_iconst (v := 1) hx hb dX10_append_36 (by decide) ?_
  refine lv_iadd hx hb dX10_append_37 ?_
  refine tp_i 3 (by decide) ?_
  refine va_put (D := (dC, dI)) (ci := 10) (v := .int 3) (ty := .int) (C := RX10) (T := TX10) (N := 11) hx hb hW iW_10 tyX10 tyX10_ok nmX10 hown hK hP hD hS 0 rfl rfl 8 (by decide) (hW _ mw_194) (fun _ h9 => h9) rfl (by decide +kernel) rfl rfl (Nat.le_of_ble_eq_true rfl) dX10_append_38 (fun H locs hP hD hS => ?_)
  have hP : va_P (dC, dI) vwCl [(p0, .inr (10, [.ref p2, .ref p3, .ref p4, .ref p5, .ref p6, .ref p7, .ref p8, .ref p9, .int 3, .int 0, .int (-1)])), (p8, .inl (cB, 4000, .inl f6))] H := hP
  have hD : va_D A [(p0, .inr (10, [.ref p2, .ref p3, .ref p4, .ref p5, .ref p6, .ref p7, .ref p8, .ref p9, .int 3, .int 0, .int (-1)])), (p8, .inl (cB, 4000, .inl f6))] := hD
  refine lv_iload_n hx hb dX10_append_41 rfl (lv_at hl 2 rfl) ?_
  refine lv_iload_n hx hb dX10_append_42 rfl (lv_at hl 0 rfl) ?_
  refine lv_ishr hx hb dX10_append_43 ?_
  refine lv_topi (fun z7 ez7 => ?_)
  obtain ⟨z8, ez8⟩ : ∃ z : Int32, z7.toInt8.toInt32 = z := ⟨_, rfl⟩
  refine lv_i2b (v := z8) hx hb dX10_append_44 ez8 ?_
  refine va_bast hx hb hK hP hD hS 1 1 rfl rfl (vp_in_nI (n := 2) (N := 4000) (by decide) (by decide)) dX10_append_45 (fun H locs hP hD hS => ?_)
  obtain ⟨f9, ef9⟩ : ∃ f : Nat → Int32, upd f6 (2 : Int32).toNatClampNeg (vp_nar .byte z8) = f := ⟨_, rfl⟩
  have hP : va_P (dC, dI) vwCl [(p0, .inr (10, [.ref p2, .ref p3, .ref p4, .ref p5, .ref p6, .ref p7, .ref p8, .ref p9, .int 3, .int 0, .int (-1)])), (p8, .inl (cB, 4000, .inl f9))] H := by rw [← ef9]; exact hP
  have hD : va_D A [(p0, .inr (10, [.ref p2, .ref p3, .ref p4, .ref p5, .ref p6, .ref p7, .ref p8, .ref p9, .int 3, .int 0, .int (-1)])), (p8, .inl (cB, 4000, .inl f9))] := by rw [← ef9]; exact hD
  refine lv_iinc (v := 0) (lv' := [(2, .int 0), (0, .ref p0), (1, .int p1)]) hx hb dX10_append_46 hl (k := 0) rfl (by decide) (by decide) rfl (fun ls hl => ?_)
  refine lv_goto (tgt := 3) hx hb dX10_append_49 (by decide) ?_
  refine lv_iload_n hx hb dX10_append_3 rfl (lv_at hl 0 rfl) ?_
  refine lv_if_lt (tgt := 52) hx hb dX10_append_4 (by decide) (fun c => absurd c (by decide)) (fun _ => ?_)
  refine lv_aload_n hx hb dX10_append_7 rfl (lv_at hl 1 rfl) ?_
  refine va_get (D := (dC, dI)) (ci := 10) (v := .int 3) (C := RX10) (T := TX10) (N := 11) hx hb hW iW_10 hown hK hP 0 rfl rfl 8 (by decide) (hW _ mw_194) (fun _ h9 => h9) rfl dX10_append_8 ?_
  refine lv_if_lt (tgt := 46) hx hb dX10_append_11 (by decide) (fun c => absurd c (by decide)) (fun _ => ?_)
  refine lv_aload_n hx hb dX10_append_14 rfl (lv_at hl 1 rfl) ?_
  refine va_get (D := (dC, dI)) (ci := 10) (v := .int 3) (C := RX10) (T := TX10) (N := 11) hx hb hW iW_10 hown hK hP 0 rfl rfl 8 (by decide) (hW _ mw_194) (fun _ h9 => h9) rfl dX10_append_15 ?_
  refine lv_aload_n hx hb dX10_append_18 rfl (lv_at hl 1 rfl) ?_
  refine va_get (D := (dC, dI)) (ci := 10) (v := .ref p8) (C := RX10) (T := TX10) (N := 11) hx hb hW iW_10 hown hK hP 0 rfl rfl 6 (by decide) (hW _ mw_76) (fun _ h9 => h9) rfl dX10_append_19 ?_
  refine va_alen (v := 4000) hx hb hK hP 1 1 rfl rfl (show Int32.ofNat 4000 = 4000 by decide) dX10_append_22 ?_
  refine lv_icmp_ge (tgt := 46) hx hb dX10_append_23 (by decide) (fun c => absurd c (by decide)) (fun _ => ?_)
  refine lv_aload_n hx hb dX10_append_26 rfl (lv_at hl 1 rfl) ?_
  refine va_get (D := (dC, dI)) (ci := 10) (v := .ref p8) (C := RX10) (T := TX10) (N := 11) hx hb hW iW_10 hown hK hP 0 rfl rfl 6 (by decide) (hW _ mw_76) (fun _ h9 => h9) rfl dX10_append_27 ?_
  refine lv_aload_n hx hb dX10_append_30 rfl (lv_at hl 1 rfl) ?_
  refine lv_dup hx hb dX10_append_31 rfl ?_
  refine va_get (D := (dC, dI)) (ci := 10) (v := .int 3) (C := RX10) (T := TX10) (N := 11) hx hb hW iW_10 hown hK hP 0 rfl rfl 8 (by decide) (hW _ mw_194) (fun _ h9 => h9) rfl dX10_append_32 ?_
  refine lv_dup_x1 hx hb dX10_append_35 rfl rfl ?_
  refine lv_iconst (v := 1) hx hb dX10_append_36 (by decide) ?_
  refine lv_iadd hx hb dX10_append_37 ?_
  refine tp_i 4 (by decide) ?_
  refine va_put (D := (dC, dI)) (ci := 10) (v := .int 4) (ty := .int) (C := RX10) (T := TX10) (N := 11) hx hb hW iW_10 tyX10 tyX10_ok nmX10 hown hK hP hD hS 0 rfl rfl 8 (by decide) (hW _ mw_194) (fun _ h9 => h9) rfl (by decide +kernel) rfl rfl (Nat.le_of_ble_eq_true rfl) dX10_append_38 (fun H locs hP hD hS => ?_)
  have hP : va_P (dC, dI) vwCl [(p0, .inr (10, [.ref p2, .ref p3, .ref p4, .ref p5, .ref p6, .ref p7, .ref p8, .ref p9, .int 4, .int 0, .int (-1)])), (p8, .inl (cB, 4000, .inl f9))] H := hP
  have hD : va_D A [(p0, .inr (10, [.ref p2, .ref p3, .ref p4, .ref p5, .ref p6, .ref p7, .ref p8, .ref p9, .int 4, .int 0, .int (-1)])), (p8, .inl (cB, 4000, .inl f9))] := hD
  refine lv_iload_n hx hb dX10_append_41 rfl (lv_at hl 2 rfl) ?_
  refine lv_iload_n hx hb dX10_append_42 rfl (lv_at hl 0 rfl) ?_
  refine lv_ishr hx hb dX10_append_43 ?_
  refine lv_topi (fun z10 ez10 => ?_)
  obtain ⟨z11, ez11⟩ : ∃ z : Int32, z10.toInt8.toInt32 = z := ⟨_, rfl⟩
  refine lv_i2b (v := z11) hx hb dX10_append_44 ez11 ?_
  refine va_bast hx hb hK hP hD hS 1 1 rfl rfl (vp_in_nI (n := 3) (N := 4000) (by decide) (by decide)) dX10_append_45 (fun H locs hP hD hS => ?_)
  obtain ⟨f12, ef12⟩ : ∃ f : Nat → Int32, upd f9 (3 : Int32).toNatClampNeg (vp_nar .byte z11) = f := ⟨_, rfl⟩
  have hP : va_P (dC, dI) vwCl [(p0, .inr (10, [.ref p2, .ref p3, .ref p4, .ref p5, .ref p6, .ref p7, .ref p8, .ref p9, .int 4, .int 0, .int (-1)])), (p8, .inl (cB, 4000, .inl f12))] H := by rw [← ef12]; exact hP
  have hD : va_D A [(p0, .inr (10, [.ref p2, .ref p3, .ref p4, .ref p5, .ref p6, .ref p7, .ref p8, .ref p9, .int 4, .int 0, .int (-1)])), (p8, .inl (cB, 4000, .inl f12))] := by rw [← ef12]; exact hD
  refine lv_iinc (v := (-8)) (lv' := [(2, .int (-8)), (0, .ref p0), (1, .int p1)]) hx hb dX10_append_46 hl (k := 0) rfl (by decide) (by decide) rfl (fun ls hl => ?_)
  refine lv_goto (tgt := 3) hx hb dX10_append_49 (by decide) ?_
  refine lv_iload_n hx hb dX10_append_3 rfl (lv_at hl 0 rfl) ?_
  refine lv_if_lt (tgt := 52) hx hb dX10_append_4 (by decide) (fun _ => ?_) (fun c => absurd (by decide) c)
  have hP9 := hP.sub (ws' := [(p0, .inr (10, [.ref p2, .ref p3, .ref p4, .ref p5, .ref p6, .ref p7, .ref p8, .ref p9, .int 4, .int 0, .int (-1)])), (p8, .inl (cB, 4000, .inl f12))]) [0, 1] rfl
  have hD9 := hD.sub (ws' := [(p0, .inr (10, [.ref p2, .ref p3, .ref p4, .ref p5, .ref p6, .ref p7, .ref p8, .ref p9, .int 4, .int 0, .int (-1)])), (p8, .inl (cB, 4000, .inl f12))]) [0, 1] (by decide) rfl
  refine W.widen (k := 0) (n := 0) (Nat.le_of_ble_eq_true rfl) (Nat.le_of_ble_eq_true rfl) ?_
  exact W.vret hx hb hr (fun t ht hW9 => ⟨⟨(), rfl, trivial, ⟨f12, by rw [ht]; exact hP9, va_K.moved hW9.alike hK, hD9⟩⟩, hS.F ht⟩) hS.2.2 dX10_append_52

set_option maxHeartbeats 4000000 in
set_option maxRecDepth 100000 in
/-- X10_append_1 -/
theorem c_X10_append_1 (l : Launch) (dC : Nat → ClassId) (dI : Nat → Nat → Nat) (cI cB : ClassId) (p0 : Nat) (p1 : Int32) (p2 : Nat) (p3 : Nat) (p4 : Nat) (p5 : Nat) (p6 : Nat) (p7 : Nat) (p8 : Nat) (p9 : Nat) (p10 : Nat → Int32) (sz : Nat) : Met l yX10_append (.code yX10_append cX10_append 3 none :: WA) ({ frames := 0, cells := 0, slots := 0, locals := 0 }) (va_Pc [.ref p0, .int p1] (PB dC dI cI cB [(p0, .inr (10, [.ref p2, .ref p3, .ref p4, .ref p5, .ref p6, .ref p7, .ref p8, .ref p9, .int 4, .int 0, .int (-1)])), (p8, .inl (cB, 4000, .inl p10))] sz)) (va_Qv (fun _ : Unit => True) (fun (_ : Unit) t => ∃ y1 : Nat → Int32, QB dC dI cI cB [(p0, .inr (10, [.ref p2, .ref p3, .ref p4, .ref p5, .ref p6, .ref p7, .ref p8, .ref p9, .int 8, .int 0, .int (-1)])), (p8, .inl (cB, 4000, .inl y1))] (va_A [(p0, .inr (10, [.ref p2, .ref p3, .ref p4, .ref p5, .ref p6, .ref p7, .ref p8, .ref p9, .int 4, .int 0, .int (-1)])), (p8, .inl (cB, 4000, .inl p10))] sz) t) (va_A [(p0, .inr (10, [.ref p2, .ref p3, .ref p4, .ref p5, .ref p6, .ref p7, .ref p8, .ref p9, .int 4, .int 0, .int (-1)])), (p8, .inl (cB, 4000, .inl p10))] sz)) 0 0 (va_A [(p0, .inr (10, [.ref p2, .ref p3, .ref p4, .ref p5, .ref p6, .ref p7, .ref p8, .ref p9, .int 4, .int 0, .int (-1)])), (p8, .inl (cB, 4000, .inl p10))] sz) := by
  refine Met.ofW (cc := cX10_append) (maxL := 3) (ret := none) (by decide) rfl ?_
  intro p e s m args below meth c s₁ B hml hv
  obtain ⟨rfl, hsz, hP, hK, hD0, hN⟩ := hv
  have hx := B.exec
  have hb := B.bytes
  have hr := B.returns
  have hts := atoms_spec B.pre
  have hW : ∀ w ∈ WA, w.before [.ref p0, .int p1].toArray s = true := fun w h => hts w (List.mem_cons_of_mem _ h)
  have hown : s.vm.findClass RX10 = some m.cls := findClass_of_methodNamed B.named
  have hlocks := B.notSynchronized
  subst hsz
  have hD := hD0.self (sz := s.heap.size)
  generalize hAe : va_A [(p0, .inr (10, [.ref p2, .ref p3, .ref p4, .ref p5, .ref p6, .ref p7, .ref p8, .ref p9, .int 4, .int 0, .int (-1)])), (p8, .inl (cB, 4000, .inl p10))] s.heap.size = A at hD ⊢
  have hA : ∀ q : Nat, s.heap.size ≤ q → A q := fun q h => by rw [← hAe]; exact Or.inr h
  have hS : va_S A s.heap s.heap [] := va_S.rf
  have hP : va_P (dC, dI) vwCl [(p0, .inr (10, [.ref p2, .ref p3, .ref p4, .ref p5, .ref p6, .ref p7, .ref p8, .ref p9, .int 4, .int 0, .int (-1)])), (p8, .inl (cB, 4000, .inl p10))] s.heap := hP
  have hl := lv_entry ([.ref p0, .int p1]) (n := 3) (Nat.le_of_ble_eq_true rfl)
  rw [lg_entry_eq]
  generalize (lg_sl ([.ref p0, .int p1]) ++ List.replicate (3 - (lg_sl ([.ref p0, .int p1])).length) Slot.unset).toArray = ls at hl ⊢
  have hl : lv_has ls 3 [(0, .ref p0), (1, .int p1)] := hl
  refine lv_bipush (v := 24) hx hb dX10_append_0 (by decide) ?_
  refine lv_istore_n (lv' := [(2, .int 24), (0, .ref p0), (1, .int p1)]) hx hb dX10_append_2 rfl hl (by decide) rfl (fun ls hl => ?_)
  refine lv_iload_n hx hb dX10_append_3 rfl (lv_at hl 0 rfl) ?_
  refine lv_if_lt (tgt := 52) hx hb dX10_append_4 (by decide) (fun c => absurd c (by decide)) (fun _ => ?_)
  refine lv_aload_n hx hb dX10_append_7 rfl (lv_at hl 1 rfl) ?_
  refine va_get (D := (dC, dI)) (ci := 10) (v := .int 4) (C := RX10) (T := TX10) (N := 11) hx hb hW iW_10 hown hK hP 0 rfl rfl 8 (by decide) (hW _ mw_194) (fun _ h9 => h9) rfl dX10_append_8 ?_
  refine lv_if_lt (tgt := 46) hx hb dX10_append_11 (by decide) (fun c => absurd c (by decide)) (fun _ => ?_)
  refine lv_aload_n hx hb dX10_append_14 rfl (lv_at hl 1 rfl) ?_
  refine va_get (D := (dC, dI)) (ci := 10) (v := .int 4) (C := RX10) (T := TX10) (N := 11) hx hb hW iW_10 hown hK hP 0 rfl rfl 8 (by decide) (hW _ mw_194) (fun _ h9 => h9) rfl dX10_append_15 ?_
  refine lv_aload_n hx hb dX10_append_18 rfl (lv_at hl 1 rfl) ?_
  refine va_get (D := (dC, dI)) (ci := 10) (v := .ref p8) (C := RX10) (T := TX10) (N := 11) hx hb hW iW_10 hown hK hP 0 rfl rfl 6 (by decide) (hW _ mw_76) (fun _ h9 => h9) rfl dX10_append_19 ?_
  refine va_alen (v := 4000) hx hb hK hP 1 1 rfl rfl (show Int32.ofNat 4000 = 4000 by decide) dX10_append_22 ?_
  refine lv_icmp_ge (tgt := 46) hx hb dX10_append_23 (by decide) (fun c => absurd c (by decide)) (fun _ => ?_)
  refine lv_aload_n hx hb dX10_append_26 rfl (lv_at hl 1 rfl) ?_
  refine va_get (D := (dC, dI)) (ci := 10) (v := .ref p8) (C := RX10) (T := TX10) (N := 11) hx hb hW iW_10 hown hK hP 0 rfl rfl 6 (by decide) (hW _ mw_76) (fun _ h9 => h9) rfl dX10_append_27 ?_
  refine lv_aload_n hx hb dX10_append_30 rfl (lv_at hl 1 rfl) ?_
  refine lv_dup hx hb dX10_append_31 rfl ?_
  refine va_get (D := (dC, dI)) (ci := 10) (v := .int 4) (C := RX10) (T := TX10) (N := 11) hx hb hW iW_10 hown hK hP 0 rfl rfl 8 (by decide) (hW _ mw_194) (fun _ h9 => h9) rfl dX10_append_32 ?_
  refine lv_dup_x1 hx hb dX10_append_35 rfl rfl ?_
  refine lv_iconst (v := 1) hx hb dX10_append_36 (by decide) ?_
  refine lv_iadd hx hb dX10_append_37 ?_
  refine tp_i 5 (by decide) ?_
  refine va_put (D := (dC, dI)) (ci := 10) (v := .int 5) (ty := .int) (C := RX10) (T := TX10) (N := 11) hx hb hW iW_10 tyX10 tyX10_ok nmX10 hown hK hP hD hS 0 rfl rfl 8 (by decide) (hW _ mw_194) (fun _ h9 => h9) rfl (by decide +kernel) rfl rfl (Nat.le_of_ble_eq_true rfl) dX10_append_38 (fun H locs hP hD hS => ?_)
  have hP : va_P (dC, dI) vwCl [(p0, .inr (10, [.ref p2, .ref p3, .ref p4, .ref p5, .ref p6, .ref p7, .ref p8, .ref p9, .int 5, .int 0, .int (-1)])), (p8, .inl (cB, 4000, .inl p10))] H := hP
  have hD : va_D A [(p0, .inr (10, [.ref p2, .ref p3, .ref p4, .ref p5, .ref p6, .ref p7, .ref p8, .ref p9, .int 5, .int 0, .int (-1)])), (p8, .inl (cB, 4000, .inl p10))] := hD
  refine lv_iload_n hx hb dX10_append_41 rfl (lv_at hl 2 rfl) ?_
  refine lv_iload_n hx hb dX10_append_42 rfl (lv_at hl 0 rfl) ?_
  refine lv_ishr hx hb dX10_append_43 ?_
  refine lv_topi (fun z1 ez1 => ?_)
  obtain ⟨z2, ez2⟩ : ∃ z : Int32, z1.toInt8.toInt32 = z := ⟨_, rfl⟩
  refine lv_i2b (v := z2) hx hb dX10_append_44 ez2 ?_
  refine va_bast hx hb hK hP hD hS 1 1 rfl rfl (vp_in_nI (n := 4) (N := 4000) (by decide) (by decide)) dX10_append_45 (fun H locs hP hD hS => ?_)
  obtain ⟨f3, ef3⟩ : ∃ f : Nat → Int32, upd p10 (4 : Int32).toNatClampNeg (vp_nar .byte z2) = f := ⟨_, rfl⟩
  have hP : va_P (dC, dI) vwCl [(p0, .inr (10, [.ref p2, .ref p3, .ref p4, .ref p5, .ref p6, .ref p7, .ref p8, .ref p9, .int 5, .int 0, .int (-1)])), (p8, .inl (cB, 4000, .inl f3))] H := by rw [← ef3]; exact hP
  have hD : va_D A [(p0, .inr (10, [.ref p2, .ref p3, .ref p4, .ref p5, .ref p6, .ref p7, .ref p8, .ref p9, .int 5, .int 0, .int (-1)])), (p8, .inl (cB, 4000, .inl f3))] := by rw [← ef3]; exact hD
  refine lv_iinc (v := 16) (lv' := [(2, .int 16), (0, .ref p0), (1, .int p1)]) hx hb dX10_append_46 hl (k := 0) rfl (by decide) (by decide) rfl (fun ls hl => ?_)
  refine lv_goto (tgt := 3) hx hb dX10_append_49 (by decide) ?_
  refine lv_iload_n hx hb dX10_append_3 rfl (lv_at hl 0 rfl) ?_
  refine lv_if_lt (tgt := 52) hx hb dX10_append_4 (by decide) (fun c => absurd c (by decide)) (fun _ => ?_)
  refine lv_aload_n hx hb dX10_append_7 rfl (lv_at hl 1 rfl) ?_
  refine va_get (D := (dC, dI)) (ci := 10) (v := .int 5) (C := RX10) (T := TX10) (N := 11) hx hb hW iW_10 hown hK hP 0 rfl rfl 8 (by decide) (hW _ mw_194) (fun _ h9 => h9) rfl dX10_append_8 ?_
  refine lv_if_lt (tgt := 46) hx hb dX10_append_11 (by decide) (fun c => absurd c (by decide)) (fun _ => ?_)
  refine lv_aload_n hx hb dX10_append_14 rfl (lv_at hl 1 rfl) ?_
  refine va_get (D := (dC, dI)) (ci := 10) (v := .int 5) (C := RX10) (T := TX10) (N := 11) hx hb hW iW_10 hown hK hP 0 rfl rfl 8 (by decide) (hW _ mw_194) (fun _ h9 => h9) rfl dX10_append_15 ?_
  refine lv_aload_n hx hb dX10_append_18 rfl (lv_at hl 1 rfl) ?_
  refine va_get (D := (dC, dI)) (ci := 10) (v := .ref p8) (C := RX10) (T := TX10) (N := 11) hx hb hW iW_10 hown hK hP 0 rfl rfl 6 (by decide) (hW _ mw_76) (fun _ h9 => h9) rfl dX10_append_19 ?_
  refine va_alen (v := 4000) hx hb hK hP 1 1 rfl rfl (show Int32.ofNat 4000 = 4000 by decide) dX10_append_22 ?_
  refine lv_icmp_ge (tgt := 46) hx hb dX10_append_23 (by decide) (fun c => absurd c (by decide)) (fun _ => ?_)
  refine lv_aload_n hx hb dX10_append_26 rfl (lv_at hl 1 rfl) ?_
  refine va_get (D := (dC, dI)) (ci := 10) (v := .ref p8) (C := RX10) (T := TX10) (N := 11) hx hb hW iW_10 hown hK hP 0 rfl rfl 6 (by decide) (hW _ mw_76) (fun _ h9 => h9) rfl dX10_append_27 ?_
  refine lv_aload_n hx hb dX10_append_30 rfl (lv_at hl 1 rfl) ?_
  refine lv_dup hx hb dX10_append_31 rfl ?_
  refine va_get (D := (dC, dI)) (ci := 10) (v := .int 5) (C := RX10) (T := TX10) (N := 11) hx hb hW iW_10 hown hK hP 0 rfl rfl 8 (by decide) (hW _ mw_194) (fun _ h9 => h9) rfl dX10_append_32 ?_
  refine lv_dup_x1 hx hb dX10_append_35 rfl rfl ?_
  refine lv_iconst (v := 1) hx hb dX10_append_36 (by decide) ?_
  refine lv_iadd hx hb dX10_append_37 ?_
  refine tp_i 6 (by decide) ?_
  refine va_put (D := (dC, dI)) (ci := 10) (v := .int 6) (ty := .int) (C := RX10) (T := TX10) (N := 11) hx hb hW iW_10 tyX10 tyX10_ok nmX10 hown hK hP hD hS 0 rfl rfl 8 (by decide) (hW _ mw_194) (fun _ h9 => h9) rfl (by decide +kernel) rfl rfl (Nat.le_of_ble_eq_true rfl) dX10_append_38 (fun H locs hP hD hS => ?_)
  have hP : va_P (dC, dI) vwCl [(p0, .inr (10, [.ref p2, .ref p3, .ref p4, .ref p5, .ref p6, .ref p7, .ref p8, .ref p9, .int 6, .int 0, .int (-1)])), (p8, .inl (cB, 4000, .inl f3))] H := hP
  have hD : va_D A [(p0, .inr (10, [.ref p2, .ref p3, .ref p4, .ref p5, .ref p6, .ref p7, .ref p8, .ref p9, .int 6, .int 0, .int (-1)])), (p8, .inl (cB, 4000, .inl f3))] := hD
  refine lv_iload_n hx hb dX10_append_41 rfl (lv_at hl 2 rfl) ?_
  refine lv_iload_n hx hb dX10_append_42 rfl (lv_at hl 0 rfl) ?_
  refine lv_ishr hx hb dX10_append_43 ?_
  refine lv_topi (fun z4 ez4 => ?_)
  obtain ⟨z5, ez5⟩ : ∃ z : Int32, z4.toInt8.toInt32 = z := ⟨_, rfl⟩
  refine lv_i2b (v := z5) hx hb dX10_append_44 ez5 ?_
  refine va_bast hx hb hK hP hD hS 1 1 rfl rfl (vp_in_nI (n := 5) (N := 4000) (by decide) (by decide)) dX10_append_45 (fun H locs hP hD hS => ?_)
  obtain ⟨f6, ef6⟩ : ∃ f : Nat → Int32, upd f3 (5 : Int32).toNatClampNeg (vp_nar .byte z5) = f := ⟨_, rfl⟩
  have hP : va_P (dC, dI) vwCl [(p0, .inr (10, [.ref p2, .ref p3, .ref p4, .ref p5, .ref p6, .ref p7, .ref p8, .ref p9, .int 6, .int 0, .int (-1)])), (p8, .inl (cB, 4000, .inl f6))] H := by rw [← ef6]; exact hP
  have hD : va_D A [(p0, .inr (10, [.ref p2, .ref p3, .ref p4, .ref p5, .ref p6, .ref p7, .ref p8, .ref p9, .int 6, .int 0, .int (-1)])), (p8, .inl (cB, 4000, .inl f6))] := by rw [← ef6]; exact hD
  refine lv_iinc (v := 8) (lv' := [(2, .int 8), (0, .ref p0), (1, .int p1)]) hx hb dX10_append_46 hl (k := 0) rfl (by decide) (by decide) rfl (fun ls hl => ?_)
  refine lv_goto (tgt := 3) hx hb dX10_append_49 (by decide) ?_
  refine lv_iload_n hx hb dX10_append_3 rfl (lv_at hl 0 rfl) ?_
  refine lv_if_lt (tgt := 52) hx hb dX10_append_4 (by decide) (fun c => absurd c (by decide)) (fun _ => ?_)
  refine lv_aload_n hx hb dX10_append_7 rfl (lv_at hl 1 rfl) ?_
  refine va_get (D := (dC, dI)) (ci := 10) (v := .int 6) (C := RX10) (T := TX10) (N := 11) hx hb hW iW_10 hown hK hP 0 rfl rfl 8 (by decide) (hW _ mw_194) (fun _ h9 => h9) rfl dX10_append_8 ?_
  refine lv_if_lt (tgt := 46) hx hb dX10_append_11 (by decide) (fun c => absurd c (by decide)) (fun _ => ?_)
  refine lv_aload_n hx hb dX10_append_14 rfl (lv_at hl 1 rfl) ?_
  refine va_get (D := (dC, dI)) (ci := 10) (v := .int 6) (C := RX10) (T := TX10) (N := 11) hx hb hW iW_10 hown hK hP 0 rfl rfl 8 (by decide) (hW _ mw_194) (fun _ h9 => h9) rfl dX10_append_15 ?_
  refine lv_aload_n hx hb dX10_append_18 rfl (lv_at hl 1 rfl) ?_
  refine va_get (D := (dC, dI)) (ci := 10) (v := .ref p8) (C := RX10) (T := TX10) (N := 11) hx hb hW iW_10 hown hK hP 0 rfl rfl 6 (by decide) (hW _ mw_76) (fun _ h9 => h9) rfl dX10_append_19 ?_
  refine va_alen (v := 4000) hx hb hK hP 1 1 rfl rfl (show Int32.ofNat 4000 = 4000 by decide) dX10_append_22 ?_
  refine lv_icmp_ge (tgt := 46) hx hb dX10_append_23 (by decide) (fun c => absurd c (by decide)) (fun _ => ?_)
  refine lv_aload_n hx hb dX10_append_26 rfl (lv_at hl 1 rfl) ?_
  refine va_get (D := (dC, dI)) (ci := 10) (v := .ref p8) (C := RX10) (T := TX10) (N := 11) hx hb hW iW_10 hown hK hP 0 rfl rfl 6 (by decide) (hW _ mw_76) (fun _ h9 => h9) rfl dX10_append_27 ?_
  refine lv_aload_n hx hb dX10_append_30 rfl (lv_at hl 1 rfl) ?_
  refine lv_dup hx hb dX10_append_31 rfl ?_
  refine va_get (D := (dC, dI)) (ci := 10) (v := .int 6) (C := RX10) (T := TX10) (N := 11) hx hb hW iW_10 hown hK hP 0 rfl rfl 8 (by decide) (hW _ mw_194) (fun _ h9 => h9) rfl dX10_append_32 ?_
  refine lv_dup_x1 hx hb dX10_append_35 rfl rfl ?_
  refine lv_iconst (v := 1) hx hb dX10_append_36 (by decide) ?_
  refine lv_iadd hx hb dX10_append_37 ?_
  refine tp_i 7 (by decide) ?_
  refine va_put (D := (dC, dI)) (ci := 10) (v := .int 7) (ty := .int) (C := RX10) (T := TX10) (N := 11) hx hb hW iW_10 tyX10 tyX10_ok nmX10 hown hK hP hD hS 0 rfl rfl 8 (by decide) (hW _ mw_194) (fun _ h9 => h9) rfl (by decide +kernel) rfl rfl (Nat.le_of_ble_eq_true rfl) dX10_append_38 (fun H locs hP hD hS => ?_)
  have hP : va_P (dC, dI) vwCl [(p0, .inr (10, [.ref p2, .ref p3, .ref p4, .ref p5, .ref p6, .ref p7, .ref p8, .ref p9, .int 7, .int 0, .int (-1)])), (p8, .inl (cB, 4000, .inl f6))] H := hP
  have hD : va_D A [(p0, .inr (10, [.ref p2, .ref p3, .ref p4, .ref p5, .ref p6, .ref p7, .ref p8, .ref p9, .int 7, .int 0, .int (-1)])), (p8, .inl (cB, 4000, .inl f6))] := hD
  refine lv_iload_n hx hb dX10_append_41 rfl (lv_at hl 2 rfl) ?_
  refine lv_iload_n hx hb dX10_append_42 rfl (lv_at hl 0 rfl) ?_
  refine lv_ishr hx hb dX10_append_43 ?_
  refine lv_topi (fun z7 ez7 => ?_)
  obtain ⟨z8, ez8⟩ : ∃ z : Int32, z7.toInt8.toInt32 = z := ⟨_, rfl⟩
  refine lv_i2b (v := z8) hx hb dX10_append_44 ez8 ?_
  refine va_bast hx hb hK hP hD hS 1 1 rfl rfl (vp_in_nI (n := 6) (N := 4000) (by decide) (by decide)) dX10_append_45 (fun H locs hP hD hS => ?_)
  obtain ⟨f9, ef9⟩ : ∃ f : Nat → Int32, upd f6 (6 : Int32).toNatClampNeg (vp_nar .byte z8) = f := ⟨_, rfl⟩
  have hP : va_P (dC, dI) vwCl [(p0, .inr (10, [.ref p2, .ref p3, .ref p4, .ref p5, .ref p6, .ref p7, .ref p8, .ref p9, .int 7, .int 0, .int (-1)])), (p8, .inl (cB, 4000, .inl f9))] H := by rw [← ef9]; exact hP
  have hD : va_D A [(p0, .inr (10, [.ref p2, .ref p3, .ref p4, .ref p5, .ref p6, .ref p7, .ref p8, .ref p9, .int 7, .int 0, .int (-1)])), (p8, .inl (cB, 4000, .inl f9))] := by rw [← ef9]; exact hD
  refine lv_iinc (v := 0) (lv' := [(2, .int 0), (0, .ref p0), (1, .int p1)]) hx hb dX10_append_46 hl (k := 0) rfl (by decide) (by decide) rfl (fun ls hl => ?_)
  refine lv_goto (tgt := 3) hx hb dX10_append_49 (by decide) ?_
  refine lv_iload_n hx hb dX10_append_3 rfl (lv_at hl 0 rfl) ?_
  refine lv_if_lt (tgt := 52) hx hb dX10_append_4 (by decide) (fun c => absurd c (by decide)) (fun _ => ?_)
  refine lv_aload_n hx hb dX10_append_7 rfl (lv_at hl 1 rfl) ?_
  refine va_get (D := (dC, dI)) (ci := 10) (v := .int 7) (C := RX10) (T := TX10) (N := 11) hx hb hW iW_10 hown hK hP 0 rfl rfl 8 (by decide) (hW _ mw_194) (fun _ h9 => h9) rfl dX10_append_8 ?_
  refine lv_if_lt (tgt := 46) hx hb dX10_append_11 (by decide) (fun c => absurd c (by decide)) (fun _ => ?_)
  refine lv_aload_n hx hb dX10_append_14 rfl (lv_at hl 1 rfl) ?_
  refine va_get (D := (dC, dI)) (ci := 10) (v := .int 7) (C := RX10) (T := TX10) (N := 11) hx hb hW iW_10 hown hK hP 0 rfl rfl 8 (by decide) (hW _ mw_194) (fun _ h9 => h9) rfl dX10_append_15 ?_
  refine lv_aload_n hx hb dX10_append_18 rfl (lv_at hl 1 rfl) ?_
  refine va_get (D := (dC, dI)) (ci := 10) (v := .ref p8) (C := RX10) (T := TX10) (N := 11) hx hb hW iW_10 hown hK hP 0 rfl rfl 6 (by decide) (hW _ mw_76) (fun _ h9 => h9) rfl dX10_append_19 ?_
  refine va_alen (v := 4000) hx hb hK hP 1 1 rfl rfl (show Int32.ofNat 4000 = 4000 by decide) dX10_append_22 ?_
  refine lv_icmp_ge (tgt := 46) hx hb dX10_append_23 (by decide) (fun c => absurd c (by decide)) (fun _ => ?_)
  refine lv_aload_n hx hb dX10_append_26 rfl (lv_at hl 1 rfl) ?_
  refine va_get (D := (dC, dI)) (ci := 10) (v := .ref p8) (C := RX10) (T := TX10) (N := 11) hx hb hW iW_10 hown hK hP 0 rfl rfl 6 (by decide) (hW _ mw_76) (fun _ h9 => h9) rfl dX10_append_27 ?_
  refine lv_aload_n hx hb dX10_append_30 rfl (lv_at hl 1 rfl) ?_
  refine lv_dup hx hb dX10_append_31 rfl ?_
  refine va_get (D := (dC, dI)) (ci := 10) (v := .int 7) (C := RX10) (T := TX10) (N := 11) hx hb hW iW_10 hown hK hP 0 rfl rfl 8 (by decide) (hW _ mw_194) (fun _ h9 => h9) rfl dX10_append_32 ?_
  refine lv_dup_x1 hx hb dX10_append_35 rfl rfl ?_
  refine lv_iconst (v := 1) hx hb dX10_append_36 (by decide) ?_
  refine lv_iadd hx hb dX10_append_37 ?_
  refine tp_i 8 (by decide) ?_
  refine va_put (D := (dC, dI)) (ci := 10) (v := .int 8) (ty := .int) (C := RX10) (T := TX10) (N := 11) hx hb hW iW_10 tyX10 tyX10_ok nmX10 hown hK hP hD hS 0 rfl rfl 8 (by decide) (hW _ mw_194) (fun _ h9 => h9) rfl (by decide +kernel) rfl rfl (Nat.le_of_ble_eq_true rfl) dX10_append_38 (fun H locs hP hD hS => ?_)
  have hP : va_P (dC, dI) vwCl [(p0, .inr (10, [.ref p2, .ref p3, .ref p4, .ref p5, .ref p6, .ref p7, .ref p8, .ref p9, .int 8, .int 0, .int (-1)])), (p8, .inl (cB, 4000, .inl f9))] H := hP
  have hD : va_D A [(p0, .inr (10, [.ref p2, .ref p3, .ref p4, .ref p5, .ref p6, .ref p7, .ref p8, .ref p9, .int 8, .int 0, .int (-1)])), (p8, .inl (cB, 4000, .inl f9))] := hD
  refine lv_iload_n hx hb dX10_append_41 rfl (lv_at hl 2 rfl) ?_
  refine lv_iload_n hx hb dX10_append_42 rfl (lv_at hl 0 rfl) ?_
  refine lv_ishr hx hb dX10_append_43 ?_
  refine lv_topi (fun z10 ez10 => ?_)
  obtain ⟨z11, ez11⟩ : ∃ z : Int32, z10.toInt8.toInt32 = z := ⟨_, rfl⟩
  refine lv_i2b (v := z11) hx hb dX10_append_44 ez11 ?_
  refine va_bast hx hb hK hP hD hS 1 1 rfl rfl (vp_in_nI (n := 7) (N := 4000) (by decide) (by decide)) dX10_append_45 (fun H locs hP hD hS => ?_)
  obtain ⟨f12, ef12⟩ : ∃ f : Nat → Int32, upd f9 (7 : Int32).toNatClampNeg (vp_nar .byte z11) = f := ⟨_, rfl⟩
  have hP : va_P (dC, dI) vwCl [(p0, .inr (10, [.ref p2, .ref p3, .ref p4, .ref p5, .ref p6, .ref p7, .ref p8, .ref p9, .int 8, .int 0, .int (-1)])), (p8, .inl (cB, 4000, .inl f12))] H := by rw [← ef12]; exact hP
  have hD : va_D A [(p0, .inr (10, [.ref p2, .ref p3, .ref p4, .ref p5, .ref p6, .ref p7, .ref p8, .ref p9, .int 8, .int 0, .int (-1)])), (p8, .inl (cB, 4000, .inl f12))] := by rw [← ef12]; exact hD
  refine lv_iinc (v := (-8)) (lv' := [(2, .int (-8)), (0, .ref p0), (1, .int p1)]) hx hb dX10_append_46 hl (k := 0) rfl (by decide) (by decide) rfl (fun ls hl => ?_)
  refine lv_goto (tgt := 3) hx hb dX10_append_49 (by decide) ?_
  refine lv_iload_n hx hb dX10_append_3 rfl (lv_at hl 0 rfl) ?_
  refine lv_if_lt (tgt := 52) hx hb dX10_append_4 (by decide) (fun _ => ?_) (fun c => absurd (by decide) c)
  have hP9 := hP.sub (ws' := [(p0, .inr (10, [.ref p2, .ref p3, .ref p4, .ref p5, .ref p6, .ref p7, .ref p8, .ref p9, .int 8, .int 0, .int (-1)])), (p8, .inl (cB, 4000, .inl f12))]) [0, 1] rfl
  have hD9 := hD.sub (ws' := [(p0, .inr (10, [.ref p2, .ref p3, .ref p4, .ref p5, .ref p6, .ref p7, .ref p8, .ref p9, .int 8, .int 0, .int (-1)])), (p8, .inl (cB, 4000, .inl f12))]) [0, 1] (by decide) rfl
  refine W.widen (k := 0) (n := 0) (Nat.le_of_ble_eq_true rfl) (Nat.le_of_ble_eq_true rfl) ?_
  exact W.vret hx hb hr (fun t ht hW9 => ⟨⟨(), rfl, trivial, ⟨f12, by rw [ht]; exact hP9, va_K.moved hW9.alike hK, hD9⟩⟩, hS.F ht⟩) hS.2.2 dX10_append_52

set_option maxHeartbeats 4000000 in
set_option maxRecDepth 100000 in
/-- X10_append_2 -/
theorem c_X10_append_2 (l : Launch) (dC : Nat → ClassId) (dI : Nat → Nat → Nat) (cI cB : ClassId) (p0 : Nat) (p1 : Int32) (p2 : Nat) (p3 : Nat) (p4 : Nat) (p5 : Nat) (p6 : Nat) (p7 : Nat) (p8 : Nat) (p9 : Nat) (p10 : Nat → Int32) (sz : Nat) : Met l yX10_append (.code yX10_append cX10_append 3 none :: WA) ({ frames := 0, cells := 0, slots := 0, locals := 0 }) (va_Pc [.ref p0, .int p1] (PB dC dI cI cB [(p0, .inr (10, [.ref p2, .ref p3, .ref p4, .ref p5, .ref p6, .ref p7, .ref p8, .ref p9, .int 8, .int 0, .int (-1)])), (p8, .inl (cB, 4000, .inl p10))] sz)) (va_Qv (fun _ : Unit => True) (fun (_ : Unit) t => ∃ y1 : Nat → Int32, QB dC dI cI cB [(p0, .inr (10, [.ref p2, .ref p3, .ref p4, .ref p5, .ref p6, .ref p7, .ref p8, .ref p9, .int 12, .int 0, .int (-1)])), (p8, .inl (cB, 4000, .inl y1))] (va_A [(p0, .inr (10, [.ref p2, .ref p3, .ref p4, .ref p5, .ref p6, .ref p7, .ref p8, .ref p9, .int 8, .int 0, .int (-1)])), (p8, .inl (cB, 4000, .inl p10))] sz) t) (va_A [(p0, .inr (10, [.ref p2, .ref p3, .ref p4, .ref p5, .ref p6, .ref p7, .ref p8, .ref p9, .int 8, .int 0, .int (-1)])), (p8, .inl (cB, 4000, .inl p10))] sz)) 0 0 (va_A [(p0, .inr (10, [.ref p2, .ref p3, .ref p4, .ref p5, .ref p6, .ref p7, .ref p8, .ref p9, .int 8, .int 0, .int (-1)])), (p8, .inl (cB, 4000, .inl p10))] sz) := by
  refine Met.ofW (cc := cX10_append) (maxL := 3) (ret := none) (by decide) rfl ?_
  intro p e s m args below meth c s₁ B hml hv
  obtain ⟨rfl, hsz, hP, hK, hD0, hN⟩ := hv
  have hx := B.exec
  have hb := B.bytes
  have hr := B.returns
  have hts := atoms_spec B.pre
  have hW : ∀ w ∈ WA, w.before [.ref p0, .int p1].toArray s = true := fun w h => hts w (List.mem_cons_of_mem _ h)
  have hown : s.vm.findClass RX10 = some m.cls := findClass_of_methodNamed B.named
  have hlocks := B.notSynchronized
  subst hsz
  have hD := hD0.self (sz := s.heap.size)
  generalize hAe : va_A [(p0, .inr (10, [.ref p2, .ref p3, .ref p4, .ref p5, .ref p6, .ref p7, .ref p8, .ref p9, .int 8, .int 0, .int (-1)])), (p8, .inl (cB, 4000, .inl p10))] s.heap.size = A at hD ⊢
  have hA : ∀ q : Nat, s.heap.size ≤ q → A q := fun q h => by rw [← hAe]; exact Or.inr h
  have hS : va_S A s.heap s.heap [] := va_S.rf
  have hP : va_P (dC, dI) vwCl [(p0, .inr (10, [.ref p2, .ref p3, .ref p4, .ref p5, .ref p6, .ref p7, .ref p8, .ref p9, .int 8, .int 0, .int (-1)])), (p8, .inl (cB, 4000, .inl p10))] s.heap := hP
  have hl := lv_entry ([.ref p0, .int p1]) (n := 3) (Nat.le_of_ble_eq_true rfl)
  rw [lg_entry_eq]
  generalize (lg_sl ([.ref p0, .int p1]) ++ List.replicate (3 - (lg_sl ([.ref p0, .int p1])).length) Slot.unset).toArray = ls at hl ⊢
  have hl : lv_has ls 3 [(0, .ref p0), (1, .int p1)] := hl
  refine lv_bipush (v := 24) hx hb dX10_append_0 (by decide) ?_
  refine lv_istore_n (lv' := [(2, .int 24), (0, .ref p0), (1, .int p1)]) hx hb dX10_append_2 rfl hl (by decide) rfl (fun ls hl => ?_)
  refine lv_iload_n hx hb dX10_append_3 rfl (lv_at hl 0 rfl) ?_
  refine lv_if_lt (tgt := 52) hx hb dX10_append_4 (by decide) (fun c => absurd c (by decide)) (fun _ => ?_)
  refine lv_aload_n hx hb dX10_append_7 rfl (lv_at hl 1 rfl) ?_
  refine va_get (D := (dC, dI)) (ci := 10) (v := .int 8) (C := RX10) (T := TX10) (N := 11) hx hb hW iW_10 hown hK hP 0 rfl rfl 8 (by decide) (hW _ mw_194) (fun _ h9 => h9) rfl dX10_append_8 ?_
  refine lv_if_lt (tgt := 46) hx hb dX10_append_11 (by decide) (fun c => absurd c (by decide)) (fun _ => ?_)
  refine lv_aload_n hx hb dX10_append_14 rfl (lv_at hl 1 rfl) ?_
  refine va_get (D := (dC, dI)) (ci := 10) (v := .int 8) (C := RX10) (T := TX10) (N := 11) hx hb hW iW_10 hown hK hP 0 rfl rfl 8 (by decide) (hW _ mw_194) (fun _ h9 => h9) rfl dX10_append_15 ?_
  refine lv_aload_n hx hb dX10_append_18 rfl (lv_at hl 1 rfl) ?_
  refine va_get (D := (dC, dI)) (ci := 10) (v := .ref p8) (C := RX10) (T := TX10) (N := 11) hx hb hW iW_10 hown hK hP 0 rfl rfl 6 (by decide) (hW _ mw_76) (fun _ h9 => h9) rfl dX10_append_19 ?_
  refine va_alen (v := 4000) hx hb hK hP 1 1 rfl rfl (show Int32.ofNat 4000 = 4000 by decide) dX10_append_22 ?_
  refine lv_icmp_ge (tgt := 46) hx hb dX10_append_23 (by decide) (fun c => absurd c (by decide)) (fun _ => ?_)
  refine lv_aload_n hx hb dX10_append_26 rfl (lv_at hl 1 rfl) ?_
  refine va_get (D := (dC, dI)) (ci := 10) (v := .ref p8) (C := RX10) (T := TX10) (N := 11) hx hb hW iW_10 hown hK hP 0 rfl rfl 6 (by decide) (hW _ mw_76) (fun _ h9 => h9) rfl dX10_append_27 ?_
  refine lv_aload_n hx hb dX10_append_30 rfl (lv_at hl 1 rfl) ?_
  refine lv_dup hx hb dX10_append_31 rfl ?_
  refine va_get (D := (dC, dI)) (ci := 10) (v := .int 8) (C := RX10) (T := TX10) (N := 11) hx hb hW iW_10 hown hK hP 0 rfl rfl 8 (by decide) (hW _ mw_194) (fun _ h9 => h9) rfl dX10_append_32 ?_
  refine lv_dup_x1 hx hb dX10_append_35 rfl rfl ?_
  refine lv_iconst (v := 1) hx hb dX10_append_36 (by decide) ?_
  refine lv_iadd hx hb dX10_append_37 ?_
  refine tp_i 9 (by decide) ?_
  refine va_put (D := (dC, dI)) (ci := 10) (v := .int 9) (ty := .int) (C := RX10) (T := TX10) (N := 11) hx hb hW iW_10 tyX10 tyX10_ok nmX10 hown hK hP hD hS 0 rfl rfl 8 (by decide) (hW _ mw_194) (fun _ h9 => h9) rfl (by decide +kernel) rfl rfl (Nat.le_of_ble_eq_true rfl) dX10_append_38 (fun H locs hP hD hS => ?_)
  have hP : va_P (dC, dI) vwCl [(p0, .inr (10, [.ref p2, .ref p3, .ref p4, .ref p5, .ref p6, .ref p7, .ref p8, .ref p9, .int 9, .int 0, .int (-1)])), (p8, .inl (cB, 4000, .inl p10))] H := hP
  have hD : va_D A [(p0, .inr (10, [.ref p2, .ref p3, .ref p4, .ref p5, .ref p6, .ref p7, .ref p8, .ref p9, .int 9, .int 0, .int (-1)])), (p8, .inl (cB, 4000, .inl p10))] := hD
  refine lv_iload_n hx hb dX10_append_41 rfl (lv_at hl 2 rfl) ?_
  refine lv_iload_n hx hb dX10_append_42 rfl (lv_at hl 0 rfl) ?_
  refine lv_ishr hx hb dX10_append_43 ?_
  refine lv_topi (fun z1 ez1 => ?_)
  obtain ⟨z2, ez2⟩ : ∃ z : Int32, z1.toInt8.toInt32 = z := ⟨_, rfl⟩
  refine lv_i2b (v := z2) hx hb dX10_append_44 ez2 ?_
  refine va_bast hx hb hK hP hD hS 1 1 rfl rfl (vp_in_nI (n := 8) (N := 4000) (by decide) (by decide)) dX10_append_45 (fun H locs hP hD hS => ?_)
  obtain ⟨f3, ef3⟩ : ∃ f : Nat → Int32, upd p10 (8 : Int32).toNatClampNeg (vp_nar .byte z2) = f := ⟨_, rfl⟩
  have hP : va_P (dC, dI) vwCl [(p0, .inr (10, [.ref p2, .ref p3, .ref p4, .ref p5, .ref p6, .ref p7, .ref p8, .ref p9, .int 9, .int 0, .int (-1)])), (p8, .inl (cB, 4000, .inl f3))] H := by rw [← ef3]; exact hP
  have hD : va_D A [(p0, .inr (10, [.ref p2, .ref p3, .ref p4, .ref p5, .ref p6, .ref p7, .ref p8, .ref p9, .int 9, .int 0, .int (-1)])), (p8, .inl (cB, 4000, .inl f3))] := by rw [← ef3]; exact hD
  refine lv_iinc (v := 16) (lv' := [(2, .int 16), (0, .ref p0), (1, .int p1)]) hx hb dX10_append_46 hl (k := 0) rfl (by decide) (by decide) rfl (fun ls hl => ?_)
  refine lv_goto (tgt := 3) hx hb dX10_append_49 (by decide) ?_
  refine lv_iload_n hx hb dX10_append_3 rfl (lv_at hl 0 rfl) ?_
  refine lv_if_lt (tgt := 52) hx hb dX10_append_4 (by decide) (fun c => absurd c (by decide)) (fun _ => ?_)
  refine lv_aload_n hx hb dX10_append_7 rfl (lv_at hl 1 rfl) ?_
  refine va_get (D := (dC, dI)) (ci := 10) (v := .int 9) (C := RX10) (T := TX10) (N := 11) hx hb hW iW_10 hown hK hP 0 rfl rfl 8 (by decide) (hW _ mw_194) (fun _ h9 => h9) rfl dX10_append_8 ?_
  refine lv_if_lt (tgt := 46) hx hb dX10_append_11 (by decide) (fun c => absurd c (by decide)) (fun _ => ?_)
  refine lv_aload_n hx hb dX10_append_14 rfl (lv_at hl 1 rfl) ?_
  refine va_get (D := (dC, dI)) (ci := 10) (v := .int 9) (C := RX10) (T := TX10) (N := 11) hx hb hW iW_10 hown hK hP 0 rfl rfl 8 (by decide) (hW _ mw_194) (fun _ h9 => h9) rfl dX10_append_15 ?_
  refine lv_aload_n hx hb dX10_append_18 rfl (lv_at hl 1 rfl) ?_
  refine va_get (D := (dC, dI)) (ci := 10) (v := .ref p8) (C := RX10) (T := TX10) (N := 11) hx hb hW iW_10 hown hK hP 0 rfl rfl 6 (by decide) (hW _ mw_76) (fun _ h9 => h9) rfl dX10_append_19 ?_
  refine va_alen (v := 4000) hx hb hK hP 1 1 rfl rfl (show Int32.ofNat 4000 = 4000 by decide) dX10_append_22 ?_
  refine lv_icmp_ge (tgt := 46) hx hb dX10_append_23 (by decide) (fun c => absurd c (by decide)) (fun _ => ?_)
  refine lv_aload_n hx hb dX10_append_26 rfl (lv_at hl 1 rfl) ?_
  refine va_get (D := (dC, dI)) (ci := 10) (v := .ref p8) (C := RX10) (T := TX10) (N := 11) hx hb hW iW_10 hown hK hP 0 rfl rfl 6 (by decide) (hW _ mw_76) (fun _ h9 => h9) rfl dX10_append_27 ?_
  refine lv_aload_n hx hb dX10_append_30 rfl (lv_at hl 1 rfl) ?_
  refine lv_dup hx hb dX10_append_31 rfl ?_
  refine va_get (D := (dC, dI)) (ci := 10) (v := .int 9) (C := RX10) (T := TX10) (N := 11) hx hb hW iW_10 hown hK hP 0 rfl rfl 8 (by decide) (hW _ mw_194) (fun _ h9 => h9) rfl dX10_append_32 ?_
  refine lv_dup_x1 hx hb dX10_append_35 rfl rfl ?_
  refine lv_iconst (v := 1) hx hb dX10_append_36 (by decide) ?_
  refine lv_iadd hx hb dX10_append_37 ?_
  refine tp_i 10 (by decide) ?_
  refine va_put (D := (dC, dI)) (ci := 10) (v := .int 10) (ty := .int) (C := RX10) (T := TX10) (N := 11) hx hb hW iW_10 tyX10 tyX10_ok nmX10 hown hK hP hD hS 0 rfl rfl 8 (by decide) (hW _ mw_194) (fun _ h9 => h9) rfl (by decide +kernel) rfl rfl (Nat.le_of_ble_eq_true rfl) dX10_append_38 (fun H locs hP hD hS => ?_)
  have hP : va_P (dC, dI) vwCl [(p0, .inr (10, [.ref p2, .ref p3, .ref p4, .ref p5, .ref p6, .ref p7, .ref p8, .ref p9, .int 10, .int 0, .int (-1)])), (p8, .inl (cB, 4000, .inl f3))] H := hP
  have hD : va_D A [(p0, .inr (10, [.ref p2, .ref p3, .ref p4, .ref p5, .ref p6, .ref p7, .ref p8, .ref p9, .int 10, .int 0, .int (-1)])), (p8, .inl (cB, 4000, .inl f3))] := hD
  refine lv_iload_n hx hb dX10_append_41 rfl (lv_at hl 2 rfl) ?_
  refine lv_iload_n hx hb dX10_append_42 rfl (lv_at hl 0 rfl) ?_
  refine lv_ishr hx hb dX10_append_43 ?_
  refine lv_topi (fun z4 ez4 => ?_)
  obtain ⟨z5, ez5⟩ : ∃ z : Int32, z4.toInt8.toInt32 = z := ⟨_, rfl⟩
  refine lv_i2b (v := z5) hx hb dX10_append_44 ez5 ?_
  refine va_bast hx hb hK hP hD hS 1 1 rfl rfl (vp_in_nI (n := 9) (N := 4000) (by decide) (by decide)) dX10_append_45 (fun H locs hP hD hS => ?_)
  obtain ⟨f6, ef6⟩ : ∃ f : Nat → Int32, upd f3 (9 : Int32).toNatClampNeg (vp_nar .byte z5) = f := ⟨_, rfl⟩
  have hP : va_P (dC, dI) vwCl [(p0, .inr (10, [.ref p2, .ref p3, .ref p4, .ref p5, .ref p6, .ref p7, .ref p8, .ref p9, .int 10, .int 0, .int (-1)])), (p8, .inl (cB, 4000, .inl f6))] H := by rw [← ef6]; exact hP
  have hD : va_D A [(p0, .inr (10, [.ref p2, .ref p3, .ref p4, .ref p5, .ref p6, .ref p7, .ref p8, .ref p9, .int 10, .int 0, .int (-1)])), (p8, .inl (cB, 4000, .inl f6))] := by rw [← ef6]; exact hD
  refine lv_iinc (v := 8) (lv' := [(2, .int 8), (0, .ref p0), (1, .int p1)]) hx hb dX10_append_46 hl (k := 0) rfl (by decide) (by decide) rfl (fun ls hl => ?_)
  refine lv_goto (tgt := 3) hx hb dX10_append_49 (by decide) ?_
  refine lv_iload_n hx hb dX10_append_3 rfl (lv_at hl 0 rfl) ?_
  refine lv_if_lt (tgt := 52) hx hb dX10_append_4 (by decide) (fun c => absurd c (by decide)) (fun _ => ?_)
  refine lv_aload_n hx hb dX10_append_7 rfl (lv_at hl 1 rfl) ?_
  refine va_get (D := (dC, dI)) (ci := 10) (v := .int 10) (C := RX10) (T := TX10) (N := 11) hx hb hW iW_10 hown hK hP 0 rfl rfl 8 (by decide) (hW _ mw_194) (fun _ h9 => h9) rfl dX10_append_8 ?_
  refine lv_if_lt (tgt := 46) hx hb dX10_append_11 (by decide) (fun c => absurd c (by decide)) (fun _ => ?_)
  refine lv_aload_n hx hb dX10_append_14 rfl (lv_at hl 1 rfl) ?_
  refine va_get (D := (dC, dI)) (ci := 10) (v := .int 10) (C := RX10) (T := TX10) (N := 11) hx hb hW iW_10 hown hK hP 0 rfl rfl 8 (by decide) (hW _ mw_194) (fun _ h9 => h9) rfl dX10_append_15 ?_
  refine lv_aload_n hx hb dX10_append_18 rfl (lv_at hl 1 rfl) ?_
  refine va_get (D := (dC, dI)) (ci := 10) (v := .ref p8) (C := RX10) (T := TX10) (N := 11) hx hb hW iW_10 hown hK hP 0 rfl rfl 6 (by decide) (hW _ mw_76) (fun _ h9 => h9) rfl dX10_append_19 ?_
  refine va_alen (v := 4000) hx hb hK hP 1 1 rfl rfl (show Int32.ofNat 4000 = 4000 by decide) dX10_append_22 ?_
  refine lv_icmp_ge (tgt := 46) hx hb dX10_append_23 (by decide) (fun c => absurd c (by decide)) (fun _ => ?_)
  refine lv_aload_n hx hb dX10_append_26 rfl (lv_at hl 1 rfl) ?_
  refine va_get (D := (dC, dI)) (ci := 10) (v := .ref p8) (C := RX10) (T := TX10) (N := 11) hx hb hW iW_10 hown hK hP 0 rfl rfl 6 (by decide) (hW _ mw_76) (fun _ h9 => h9) rfl dX10_append_27 ?_
  refine lv_aload_n hx hb dX10_append_30 rfl (lv_at hl 1 rfl) ?_
  refine lv_dup hx hb dX10_append_31 rfl ?_
  refine va_get (D := (dC, dI)) (ci := 10) (v := .int 10) (C := RX10) (T := TX10) (N := 11) hx hb hW iW_10 hown hK hP 0 rfl rfl 8 (by decide) (hW _ mw_194) (fun _ h9 => h9) rfl dX10_append_32 ?_
  refine lv_dup_x1 hx hb dX10_append_35 rfl rfl ?_
  refine lv_iconst (v := 1) hx hb dX10_append_36 (by decide) ?_
  refine lv_iadd hx hb dX10_append_37 ?_
  refine tp_i 11 (by decide) ?_
  refine va_put (D := (dC, dI)) (ci := 10) (v := .int 11) (ty := .int) (C := RX10) (T := TX10) (N := 11) hx hb hW iW_10 tyX10 tyX10_ok nmX10 hown hK hP hD hS 0 rfl rfl 8 (by decide) (hW _ mw_194) (fun _ h9 => h9) rfl (by decide +kernel) rfl rfl (Nat.le_of_ble_eq_true rfl) dX10_append_38 (fun H locs hP hD hS => ?_)
  have hP : va_P (dC, dI) vwCl [(p0, .inr (10, [.ref p2, .ref p3, .ref p4, .ref p5, .ref p6, .ref p7, .ref p8, .ref p9, .int 11, .int 0, .int (-1)])), (p8, .inl (cB, 4000, .inl f6))] H := hP
  have hD : va_D A [(p0, .inr (10, [.ref p2, .ref p3, .ref p4, .ref p5, .ref p6, .ref p7, .ref p8, .ref p9, .int 11, .int 0, .int (-1)])), (p8, .inl (cB, 4000, .inl f6))] := hD
  refine lv_iload_n hx hb dX10_append_41 rfl (lv_at hl 2 rfl) ?_
  refine lv_iload_n hx hb dX10_append_42 rfl (lv_at hl 0 rfl) ?_
  refine lv_ishr hx hb dX10_append_43 ?_
  refine lv_topi (fun z7 ez7 => ?_)
  obtain ⟨z8, ez8⟩ : ∃ z : Int32, z7.toInt8.toInt32 = z := ⟨_, rfl⟩
  refine lv_i2b (v := z8) hx hb dX10_append_44 ez8 ?_
  refine va_bast hx hb hK hP hD hS 1 1 rfl rfl (vp_in_nI (n := 10) (N := 4000) (by decide) (by decide)) dX10_append_45 (fun H locs hP hD hS => ?_)
  obtain ⟨f9, ef9⟩ : ∃ f : Nat → Int32, upd f6 (10 : Int32).toNatClampNeg (vp_nar .byte z8) = f := ⟨_, rfl⟩
  have hP : va_P (dC, dI) vwCl [(p0, .inr (10, [.ref p2, .ref p3, .ref p4, .ref p5, .ref p6, .ref p7, .ref p8, .ref p9, .int 11, .int 0, .int (-1)])), (p8, .inl (cB, 4000, .inl f9))] H := by rw [← ef9]; exact hP
  have hD : va_D A [(p0, .inr (10, [.ref p2, .ref p3, .ref p4, .ref p5, .ref p6, .ref p7, .ref p8, .ref p9, .int 11, .int 0, .int (-1)])), (p8, .inl (cB, 4000, .inl f9))] := by rw [← ef9]; exact hD
  refine lv_iinc (v := 0) (lv' := [(2, .int 0), (0, .ref p0), (1, .int p1)]) hx hb dX10_append_46 hl (k := 0) rfl (by decide) (by decide) rfl (fun ls hl => ?_)
  refine lv_goto (tgt := 3) hx hb dX10_append_49 (by decide) ?_
  refine lv_iload_n hx hb dX10_append_3 rfl (lv_at hl 0 rfl) ?_
  refine lv_if_lt (tgt := 52) hx hb dX10_append_4 (by decide) (fun c => absurd c (by decide)) (fun _ => ?_)
  refine lv_aload_n hx hb dX10_append_7 rfl (lv_at hl 1 rfl) ?_
  refine va_get (D := (dC, dI)) (ci := 10) (v := .int 11) (C := RX10) (T := TX10) (N := 11) hx hb hW iW_10 hown hK hP 0 rfl rfl 8 (by decide) (hW _ mw_194) (fun _ h9 => h9) rfl dX10_append_8 ?_
  refine lv_if_lt (tgt := 46) hx hb dX10_append_11 (by decide) (fun c => absurd c (by decide)) (fun _ => ?_)
  refine lv_aload_n hx hb dX10_append_14 rfl (lv_at hl 1 rfl) ?_
  refine va_get (D := (dC, dI)) (ci := 10) (v := .int 11) (C := RX10) (T := TX10) (N := 11) hx hb hW iW_10 hown hK hP 0 rfl rfl 8 (by decide) (hW _ mw_194) (fun _ h9 => h9) rfl dX10_append_15 ?_
  refine lv_aload_n hx hb dX10_append_18 rfl (lv_at hl 1 rfl) ?_
  refine va_get (D := (dC, dI)) (ci := 10) (v := .ref p8) (C := RX10) (T := TX10) (N := 11) hx hb hW iW_10 hown hK hP 0 rfl rfl 6 (by decide) (hW _ mw_76) (fun _ h9 => h9) rfl dX10_append_19 ?_
  refine va_alen (v := 4000) hx hb hK hP 1 1 rfl rfl (show Int32.ofNat 4000 = 4000 by decide) dX10_append_22 ?_
  refine lv_icmp_ge (tgt := 46) hx hb dX10_append_23 (by decide) (fun c => absurd c (by decide)) (fun _ => ?_)
  refine lv_aload_n hx hb dX10_append_26 rfl (lv_at hl 1 rfl) ?_
  refine va_get (D := (dC, dI)) (ci := 10) (v := .ref p8) (C := RX10) (T := TX10) (N := 11) hx hb hW iW_10 hown hK hP 0 rfl rfl 6 (by decide) (hW _ mw_76) (fun _ h9 => h9) rfl dX10_append_27 ?_
  refine lv_aload_n hx hb dX10_append_30 rfl (lv_at hl 1 rfl) ?_
  refine lv_dup hx hb dX10_append_31 rfl ?_
  refine va_get (D := (dC, dI)) (ci := 10) (v := .int 11) (C := RX10) (T := TX10) (N := 11) hx hb hW iW_10 hown hK hP 0 rfl rfl 8 (by decide) (hW _ mw_194) (fun _ h9 => h9) rfl dX10_append_32 ?_
  refine lv_dup_x1 hx hb dX10_append_35 rfl rfl ?_
  refine lv_iconst (v := 1) hx hb dX10_append_36 (by decide) ?_
  refine lv_iadd hx hb dX10_append_37 ?_
  refine tp_i 12 (by decide) ?_
  refine va_put (D := (dC, dI)) (ci := 10) (v := .int 12) (ty := .int) (C := RX10) (T := TX10) (N := 11) hx hb hW iW_10 tyX10 tyX10_ok nmX10 hown hK hP hD hS 0 rfl rfl 8 (by decide) (hW _ mw_194) (fun _ h9 => h9) rfl (by decide +kernel) rfl rfl (Nat.le_of_ble_eq_true rfl) dX10_append_38 (fun H locs hP hD hS => ?_)
  have hP : va_P (dC, dI) vwCl [(p0, .inr (10, [.ref p2, .ref p3, .ref p4, .ref p5, .ref p6, .ref p7, .ref p8, .ref p9, .int 12, .int 0, .int (-1)])), (p8, .inl (cB, 4000, .inl f9))] H := hP
  have hD : va_D A [(p0, .inr (10, [.ref p2, .ref p3, .ref p4, .ref p5, .ref p6, .ref p7, .ref p8, .ref p9, .int 12, .int 0, .int (-1)])), (p8, .inl (cB, 4000, .inl f9))] := hD
  refine lv_iload_n hx hb dX10_append_41 rfl (lv_at hl 2 rfl) ?_
  refine lv_iload_n hx hb dX10_append_42 rfl (lv_at hl 0 rfl) ?_
  refine lv_ishr hx hb dX10_append_43 ?_
  refine lv_topi (fun z10 ez10 => ?_)
  obtain ⟨z11, ez11⟩ : ∃ z : Int32, z10.toInt8.toInt32 = z := ⟨_, rfl⟩
  refine lv_i2b (v := z11) hx hb dX10_append_44 ez11 ?_
  refine va_bast hx hb hK hP hD hS 1 1 rfl rfl (vp_in_nI (n := 11) (N := 4000) (by decide) (by decide)) dX10_append_45 (fun H locs hP hD hS => ?_)
  obtain ⟨f12, ef12⟩ : ∃ f : Nat → Int32, upd f9 (11 : Int32).toNatClampNeg (vp_nar .byte z11) = f := ⟨_, rfl⟩
  have hP : va_P (dC, dI) vwCl [(p0, .inr (10, [.ref p2, .ref p3, .ref p4, .ref p5, .ref p6, .ref p7, .ref p8, .ref p9, .int 12, .int 0, .int (-1)])), (p8, .inl (cB, 4000, .inl f12))] H := by rw [← ef12]; exact hP
  have hD : va_D A [(p0, .inr (10, [.ref p2, .ref p3, .ref p4, .ref p5, .ref p6, .ref p7, .ref p8, .ref p9, .int 12, .int 0, .int (-1)])), (p8, .inl (cB, 4000, .inl f12))] := by rw [← ef12]; exact hD
  refine lv_iinc (v := (-8)) (lv' := [(2, .int (-8)), (0, .ref p0), (1, .int p1)]) hx hb dX10_append_46 hl (k := 0) rfl (by decide) (by decide) rfl (fun ls hl => ?_)
  refine lv_goto (tgt := 3) hx hb dX10_append_49 (by decide) ?_
  refine lv_iload_n hx hb dX10_append_3 rfl (lv_at hl 0 rfl) ?_
  refine lv_if_lt (tgt := 52) hx hb dX10_append_4 (by decide) (fun _ => ?_) (fun c => absurd (by decide) c)
  have hP9 := hP.sub (ws' := [(p0, .inr (10, [.ref p2, .ref p3, .ref p4, .ref p5, .ref p6, .ref p7, .ref p8, .ref p9, .int 12, .int 0, .int (-1)])), (p8, .inl (cB, 4000, .inl f12))]) [0, 1] rfl
  have hD9 := hD.sub (ws' := [(p0, .inr (10, [.ref p2, .ref p3, .ref p4, .ref p5, .ref p6, .ref p7, .ref p8, .ref p9, .int 12, .int 0, .int (-1)])), (p8, .inl (cB, 4000, .inl f12))]) [0, 1] (by decide) rfl
  refine W.widen (k := 0) (n := 0) (Nat.le_of_ble_eq_true rfl) (Nat.le_of_ble_eq_true rfl) ?_
  exact W.vret hx hb hr (fun t ht hW9 => ⟨⟨(), rfl, trivial, ⟨f12, by rw [ht]; exact hP9, va_K.moved hW9.alike hK, hD9⟩⟩, hS.F ht⟩) hS.2.2 dX10_append_52

set_option maxHeartbeats 4000000 in
set_option maxRecDepth 100000 in
/-- X10_append_3 -/
theorem c_X10_append_3 (l : Launch) (dC : Nat → ClassId) (dI : Nat → Nat → Nat) (cI cB : ClassId) (p0 : Nat) (p1 : Int32) (p2 : Nat) (p3 : Nat) (p4 : Nat) (p5 : Nat) (p6 : Nat) (p7 : Nat) (p8 : Nat) (p9 : Nat) (p10 : Nat → Int32) (sz : Nat) : Met l yX10_append (.code yX10_append cX10_append 3 none :: WA) ({ frames := 0, cells := 0, slots := 0, locals := 0 }) (va_Pc [.ref p0, .int p1] (PB dC dI cI cB [(p0, .inr (10, [.ref p2, .ref p3, .ref p4, .ref p5, .ref p6, .ref p7, .ref p8, .ref p9, .int 12, .int 0, .int (-1)])), (p8, .inl (cB, 4000, .inl p10))] sz)) (va_Qv (fun _ : Unit => True) (fun (_ : Unit) t => ∃ y1 : Nat → Int32, QB dC dI cI cB [(p0, .inr (10, [.ref p2, .ref p3, .ref p4, .ref p5, .ref p6, .ref p7, .ref p8, .ref p9, .int 16, .int 0, .int (-1)])), (p8, .inl (cB, 4000, .inl y1))] (va_A [(p0, .inr (10, [.ref p2, .ref p3, .ref p4, .ref p5, .ref p6, .ref p7, .ref p8, .ref p9, .int 12, .int 0, .int (-1)])), (p8, .inl (cB, 4000, .inl p10))] sz) t) (va_A [(p0, .inr (10, [.ref p2, .ref p3, .ref p4, .ref p5, .ref p6, .ref p7, .ref p8, .ref p9, .int 12, .int 0, .int (-1)])), (p8, .inl (cB, 4000, .inl p10))] sz)) 0 0 (va_A [(p0, .inr (10, [.ref p2, .ref p3, .ref p4, .ref p5, .ref p6, .ref p7, .ref p8, .ref p9, .int 12, .int 0, .int (-1)])), (p8, .inl (cB, 4000, .inl p10))] sz) := by
  refine Met.ofW (cc := cX10_append) (maxL := 3) (ret := none) (by decide) rfl ?_
  intro p e s m args below meth c s₁ B hml hv
  obtain ⟨rfl, hsz, hP, hK, hD0, hN⟩ := hv
  have hx := B.exec
  have hb := B.bytes
  have hr := B.returns
  have hts := atoms_spec B.pre
  have hW : ∀ w ∈ WA, w.before [.ref p0, .int p1].toArray s = true := fun w h => hts w (List.mem_cons_of_mem _ h)
  have hown : s.vm.findClass RX10 = some m.cls := findClass_of_methodNamed B.named
  have hlocks := B.notSynchronized
  subst hsz
  have hD := hD0.self (sz := s.heap.size)
  generalize hAe : va_A [(p0, .inr (10, [.ref p2, .ref p3, .ref p4, .ref p5, .ref p6, .ref p7, .ref p8, .ref p9, .int 12, .int 0, .int (-1)])), (p8, .inl (cB, 4000, .inl p10))] s.heap.size = A at hD ⊢
  have hA : ∀ q : Nat, s.heap.size ≤ q → A q := fun q h => by rw [← hAe]; exact Or.inr h
  have hS : va_S A s.heap s.heap [] := va_S.rf
  have hP : va_P (dC, dI) vwCl [(p0, .inr (10, [.ref p2, .ref p3, .ref p4, .ref p5, .ref p6, .ref p7, .ref p8, .ref p9, .int 12, .int 0, .int (-1)])), (p8, .inl (cB, 4000, .inl p10))] s.heap := hP
  have hl := lv_entry ([.ref p0, .int p1]) (n := 3) (Nat.le_of_ble_eq_true rfl)
  rw [lg_entry_eq]
  generalize (lg_sl ([.ref p0, .int p1]) ++ List.replicate (3 - (lg_sl ([.ref p0, .int p1])).length) Slot.unset).toArray = ls at hl ⊢
  have hl : lv_has ls 3 [(0, .ref p0), (1, .int p1)] := hl
  refine lv_bipush (v := 24) hx hb dX10_append_0 (by decide) ?_
  refine lv_istore_n (lv' := [(2, .int 24), (0, .ref p0), (1, .int p1)]) hx hb dX10_append_2 rfl hl (by decide) rfl (fun ls hl => ?_)
  refine lv_iload_n hx hb dX10_append_3 rfl (lv_at hl 0 rfl) ?_
  refine lv_if_lt (tgt := 52) hx hb dX10_append_4 (by decide) (fun c => absurd c (by decide)) (fun _ => ?_)
  refine lv_aload_n hx hb dX10_append_7 rfl (lv_at hl 1 rfl) ?_
  refine va_get (D := (dC, dI)) (ci := 10) (v := .int 12) (C := RX10) (T := TX10) (N := 11) hx hb hW iW_10 hown hK hP 0 rfl rfl 8 (by decide) (hW _ mw_194) (fun _ h9 => h9) rfl dX10_append_8 ?_
  refine lv_if_lt (tgt := 46) hx hb dX10_append_11 (by decide) (fun c => absurd c (by decide)) (fun _ => ?_)
  refine lv_aload_n hx hb dX10_append_14 rfl (lv_at hl 1 rfl) ?_
  refine va_get (D := (dC, dI)) (ci := 10) (v := .int 12) (C := RX10) (T := TX10) (N := 11) hx hb hW iW_10 hown hK hP 0 rfl rfl 8 (by decide) (hW _ mw_194) (fun _ h9 => h9) rfl dX10_append_15 ?_
  refine lv_aload_n hx hb dX10_append_18 rfl (lv_at hl 1 rfl) ?_
  refine va_get (D := (dC, dI)) (ci := 10) (v := .ref p8) (C := RX10) (T := TX10) (N := 11) hx hb hW iW_10 hown hK hP 0 rfl rfl 6 (by decide) (hW _ mw_76) (fun _ h9 => h9) rfl dX10_append_19 ?_
  refine va_alen (v := 4000) hx hb hK hP 1 1 rfl rfl (show Int32.ofNat 4000 = 4000 by decide) dX10_append_22 ?_
  refine lv_icmp_ge (tgt := 46) hx hb dX10_append_23 (by decide) (fun c => absurd c (by decide)) (fun _ => ?_)
  refine lv_aload_n hx hb dX10_append_26 rfl (lv_at hl 1 rfl) ?_
  refine va_get (D := (dC, dI)) (ci := 10) (v := .ref p8) (C := RX10) (T := TX10) (N := 11) hx hb hW iW_10 hown hK hP 0 rfl rfl 6 (by decide) (hW _ mw_76) (fun _ h9 => h9) rfl dX10_append_27 ?_
  refine lv_aload_n hx hb dX10_append_30 rfl (lv_at hl 1 rfl) ?_
  refine lv_dup hx hb dX10_append_31 rfl ?_
  refine va_get (D := (dC, dI)) (ci := 10) (v := .int 12) (C := RX10) (T := TX10) (N := 11) hx hb hW iW_10 hown hK hP 0 rfl rfl 8 (by decide) (hW _ mw_194) (fun _ h9 => h9) rfl dX10_append_32 ?_
  refine lv_dup_x1 hx hb dX10_append_35 rfl rfl ?_
  refine lv_iconst (v := 1) hx hb dX10_append_36 (by decide) ?_
  refine lv_iadd hx hb dX10_append_37 ?_
  refine tp_i 13 (by decide) ?_
  refine va_put (D := (dC, dI)) (ci := 10) (v := .int 13) (ty := .int) (C := RX10) (T := TX10) (N := 11) hx hb hW iW_10 tyX10 tyX10_ok nmX10 hown hK hP hD hS 0 rfl rfl 8 (by decide) (hW _ mw_194) (fun _ h9 => h9) rfl (by decide +kernel) rfl rfl (Nat.le_of_ble_eq_true rfl) dX10_append_38 (fun H locs hP hD hS => ?_)
  have hP : va_P (dC, dI) vwCl [(p0, .inr (10, [.ref p2, .ref p3, .ref p4, .ref p5, .ref p6, .ref p7, .ref p8, .ref p9, .int 13, .int 0, .int (-1)])), (p8, .inl (cB, 4000, .inl p10))] H := hP
  have hD : va_D A [(p0, .inr (10, [.ref p2, .ref p3, .ref p4, .ref p5, .ref p6, .ref p7, .ref p8, .ref p9, .int 13, .int 0, .int (-1)])), (p8, .inl (cB, 4000, .inl p10))] := hD
  refine lv_iload_n hx hb dX10_append_41 rfl (lv_at hl 2 rfl) ?_
  refine lv_iload_n hx hb dX10_append_42 rfl (lv_at hl 0 rfl) ?_
  refine lv_ishr hx hb dX10_append_43 ?_
  refine lv_topi (fun z1 ez1 => ?_)
  obtain ⟨z2, ez2⟩ : ∃ z : Int32, z1.toInt8.toInt32 = z := ⟨_, rfl⟩
  refine lv_i2b (v := z2) hx hb dX10_append_44 ez2 ?_
  refine va_bast hx hb hK hP hD hS 1 1 rfl rfl (vp_in_nI (n := 12) (N := 4000) (by decide) (by decide)) dX10_append_45 (fun H locs hP hD hS => ?_)
  obtain ⟨f3, ef3⟩ : ∃ f : Nat → Int32, upd p10 (12 : Int32).toNatClampNeg (vp_nar .byte z2) = f := ⟨_, rfl⟩
  have hP : va_P (dC, dI) vwCl [(p0, .inr (10, [.ref p2, .ref p3, .ref p4, .ref p5, .ref p6, .ref p7, .ref p8, .ref p9, .int 13, .int 0, .int (-1)])), (p8, .inl (cB, 4000, .inl f3))] H := by rw [← ef3]; exact hP
  have hD : va_D A [(p0, .inr (10, [.ref p2, .ref p3, .ref p4, .ref p5, .ref p6, .ref p7, .ref p8, .ref p9, .int 13, .int 0, .int (-1)])), (p8, .inl (cB, 4000, .inl f3))] := by rw [← ef3]; exact hD
  refine lv_iinc (v := 16) (lv' := [(2, .int 16), (0, .ref p0), (1, .int p1)]) hx hb dX10_append_46 hl (k := 0) rfl (by decide) (by decide) rfl (fun ls hl => ?_)
  refine lv_goto (tgt := 3) hx hb dX10_append_49 (by decide) ?_
  refine lv_iload_n hx hb dX10_append_3 rfl (lv_at hl 0 rfl) ?_
  refine lv_if_lt (tgt := 52) hx hb dX10_append_4 (by decide) (fun c => absurd c (by decide)) (fun _ => ?_)
  refine lv_aload_n hx hb dX10_append_7 rfl (lv_at hl 1 rfl) ?_
  refine va_get (D := (dC, dI)) (ci := 10) (v := .int 13) (C := RX10) (T := TX10) (N := 11) hx hb hW iW_10 hown hK hP 0 rfl rfl 8 (by decide) (hW _ mw_194) (fun _ h9 => h9) rfl dX10_append_8 ?_
  refine lv_if_lt (tgt := 46) hx hb dX10_append_11 (by decide) (fun c => absurd c (by decide)) (fun _ => ?_)
  refine lv_aload_n hx hb dX10_append_14 rfl (lv_at hl 1 rfl) ?_
  refine va_get (D := (dC, dI)) (ci := 10) (v := .int 13) (C := RX10) (T := TX10) (N := 11) hx hb hW iW_10 hown hK hP 0 rfl rfl 8 (by decide) (hW _ mw_194) (fun _ h9 => h9) rfl dX10_append_15 ?_
  refine lv_aload_n hx hb dX10_append_18 rfl (lv_at hl 1 rfl) ?_
  refine va_get (D := (dC, dI)) (ci := 10) (v := .ref p8) (C := RX10) (T := TX10) (N := 11) hx hb hW iW_10 hown hK hP 0 rfl rfl 6 (by decide) (hW _ mw_76) (fun _ h9 => h9) rfl dX10_append_19 ?_
  refine va_alen (v := 4000) hx hb hK hP 1 1 rfl rfl (show Int32.ofNat 4000 = 4000 by decide) dX10_append_22 ?_
  refine lv_icmp_ge (tgt := 46) hx hb dX10_append_23 (by decide) (fun c => absurd c (by decide)) (fun _ => ?_)
  refine lv_aload_n hx hb dX10_append_26 rfl (lv_at hl 1 rfl) ?_
  refine va_get (D := (dC, dI)) (ci := 10) (v := .ref p8) (C := RX10) (T := TX10) (N := 11) hx hb hW iW_10 hown hK hP 0 rfl rfl 6 (by decide) (hW _ mw_76) (fun _ h9 => h9) rfl dX10_append_27 ?_
  refine lv_aload_n hx hb dX10_append_30 rfl (lv_at hl 1 rfl) ?_
  refine lv_dup hx hb dX10_append_31 rfl ?_
  refine va_get (D := (dC, dI)) (ci := 10) (v := .int 13) (C := RX10) (T := TX10) (N := 11) hx hb hW iW_10 hown hK hP 0 rfl rfl 8 (by decide) (hW _ mw_194) (fun _ h9 => h9) rfl dX10_append_32 ?_
  refine lv_dup_x1 hx hb dX10_append_35 rfl rfl ?_
  refine lv_iconst (v := 1) hx hb dX10_append_36 (by decide) ?_
  refine lv_iadd hx hb dX10_append_37 ?_
  refine tp_i 14 (by decide) ?_
  refine va_put (D := (dC, dI)) (ci := 10) (v := .int 14) (ty := .int) (C := RX10) (T := TX10) (N := 11) hx hb hW iW_10 tyX10 tyX10_ok nmX10 hown hK hP hD hS 0 rfl rfl 8 (by decide) (hW _ mw_194) (fun _ h9 => h9) rfl (by decide +kernel) rfl rfl (Nat.le_of_ble_eq_true rfl) dX10_append_38 (fun H locs hP hD hS => ?_)
  have hP : va_P (dC, dI) vwCl [(p0, .inr (10, [.ref p2, .ref p3, .ref p4, .ref p5, .ref p6, .ref p7, .ref p8, .ref p9, .int 14, .int 0, .int (-1)])), (p8, .inl (cB, 4000, .inl f3))] H := hP
  have hD : va_D A [(p0, .inr (10, [.ref p2, .ref p3, .ref p4, .ref p5, .ref p6, .ref p7, .ref p8, .ref p9, .int 14, .int 0, .int (-1)])), (p8, .inl (cB, 4000, .inl f3))] := hD
  refine lv_iload_n hx hb dX10_append_41 rfl (lv_at hl 2 rfl) ?_
  refine lv_iload_n hx hb dX10_append_42 rfl (lv_at hl 0 rfl) ?_
  refine lv_ishr hx hb dX10_append_43 ?_
  refine lv_topi (fun z4 ez4 => ?_)
  obtain ⟨z5, ez5⟩ : ∃ z : Int32, z4.toInt8.toInt32 = z := ⟨_, rfl⟩
  refine lv_i2b (v := z5) hx hb dX10_append_44 ez5 ?_
  refine va_bast hx hb hK hP hD hS 1 1 rfl rfl (vp_in_nI (n := 13) (N := 4000) (by decide) (by decide)) dX10_append_45 (fun H locs hP hD hS => ?_)
  obtain ⟨f6, ef6⟩ : ∃ f : Nat → Int32, upd f3 (13 : Int32).toNatClampNeg (vp_nar .byte z5) = f := ⟨_, rfl⟩
  have hP : va_P (dC, dI) vwCl [(p0, .inr (10, [.ref p2, .ref p3, .ref p4, .ref p5, .ref p6, .ref p7, .ref p8, .ref p9, .int 14, .int 0, .int (-1)])), (p8, .inl (cB, 4000, .inl f6))] H := by rw [← ef6]; exact hP
  have hD : va_D A [(p0, .inr (10, [.ref p2, .ref p3, .ref p4, .ref p5, .ref p6, .ref p7, .ref p8, .ref p9, .int 14, .int 0, .int (-1)])), (p8, .inl (cB, 4000, .inl f6))] := by rw [← ef6]; exact hD
  refine lv_iinc (v := 8) (lv' := [(2, .int 8), (0, .ref p0), (1, .int p1)]) hx hb dX10_append_46 hl (k := 0) rfl (by decide) (by decide) rfl (fun ls hl => ?_)
  refine lv_goto (tgt := 3) hx hb dX10_append_49 (by decide) ?_
  refine lv_iload_n hx hb dX10_append_3 rfl (lv_at hl 0 rfl) ?_
  refine lv_if_lt (tgt := 52) hx hb dX10_append_4 (by decide) (fun c => absurd c (by decide)) (fun _ => ?_)
  refine lv_aload_n hx hb dX10_append_7 rfl (lv_at hl 1 rfl) ?_
  refine va_get (D := (dC, dI)) (ci := 10) (v := .int 14) (C := RX10) (T := TX10) (N := 11) hx hb hW iW_10 hown hK hP 0 rfl rfl 8 (by decide) (hW _ mw_194) (fun _ h9 => h9) rfl dX10_append_8 ?_
  refine lv_if_lt (tgt := 46) hx hb dX10_append_11 (by decide) (fun c => absurd c (by decide)) (fun _ => ?_)
  refine lv_aload_n hx hb dX10_append_14 rfl (lv_at hl 1 rfl) ?_
  refine va_get (D := (dC, dI)) (ci := 10) (v := .int 14) (C := RX10) (T := TX10) (N := 11) hx hb hW iW_10 hown hK hP 0 rfl rfl 8 (by decide) (hW _ mw_194) (fun _ h9 => h9) rfl dX10_append_15 ?_
  refine lv_aload_n hx hb dX10_append_18 rfl (lv_at hl 1 rfl) ?_
  refine va_get (D := (dC, dI)) (ci := 10) (v := .ref p8) (C := RX10) (T := TX10) (N := 11) hx hb hW iW_10 hown hK hP 0 rfl rfl 6 (by decide) (hW _ mw_76) (fun _ h9 => h9) rfl dX10_append_19 ?_
  refine va_alen (v := 4000) hx hb hK hP 1 1 rfl rfl (show Int32.ofNat 4000 = 4000 by decide) dX10_append_22 ?_
  refine lv_icmp_ge (tgt := 46) hx hb dX10_append_23 (by decide) (fun c => absurd c (by decide)) (fun _ => ?_)
  refine lv_aload_n hx hb dX10_append_26 rfl (lv_at hl 1 rfl) ?_
  refine va_get (D := (dC, dI)) (ci := 10) (v := .ref p8) (C := RX10) (T := TX10) (N := 11) hx hb hW iW_10 hown hK hP 0 rfl rfl 6 (by decide) (hW _ mw_76) (fun _ h9 => h9) rfl dX10_append_27 ?_
  refine lv_aload_n hx hb dX10_append_30 rfl (lv_at hl 1 rfl) ?_
  refine lv_dup hx hb dX10_append_31 rfl ?_
  refine va_get (D := (dC, dI)) (ci := 10) (v := .int 14) (C := RX10) (T := TX10) (N := 11) hx hb hW iW_10 hown hK hP 0 rfl rfl 8 (by decide) (hW _ mw_194) (fun _ h9 => h9) rfl dX10_append_32 ?_
  refine lv_dup_x1 hx hb dX10_append_35 rfl rfl ?_
  refine lv_iconst (v := 1) hx hb dX10_append_36 (by decide) ?_
  refine lv_iadd hx hb dX10_append_37 ?_
  refine tp_i 15 (by decide) ?_
  refine va_put (D := (dC, dI)) (ci := 10) (v := .int 15) (ty := .int) (C := RX10) (T := TX10) (N := 11) hx hb hW iW_10 tyX10 tyX10_ok nmX10 hown hK hP hD hS 0 rfl rfl 8 (by decide) (hW _ mw_194) (fun _ h9 => h9) rfl (by decide +kernel) rfl rfl (Nat.le_of_ble_eq_true rfl) dX10_append_38 (fun H locs hP hD hS => ?_)
  have hP : va_P (dC, dI) vwCl [(p0, .inr (10, [.ref p2, .ref p3, .ref p4, .ref p5, .ref p6, .ref p7, .ref p8, .ref p9, .int 15, .int 0, .int (-1)])), (p8, .inl (cB, 4000, .inl f6))] H := hP
  have hD : va_D A [(p0, .inr (10, [.ref p2, .ref p3, .ref p4, .ref p5, .ref p6, .ref p7, .ref p8, .ref p9, .int 15, .int 0, .int (-1)])), (p8, .inl (cB, 4000, .inl f6))] := hD
  refine lv_iload_n hx hb dX10_append_41 rfl (lv_at hl 2 rfl) ?_
  refine lv_iload_n hx hb dX10_append_42 rfl (lv_at hl 0 rfl) ?_
  refine lv_ishr hx hb dX10_append_43 ?_
  refine lv_topi (fun z7 ez7 => ?_)
  obtain ⟨z8, ez8⟩ : ∃ z : Int32, z7.toInt8.toInt32 = z := ⟨_, rfl⟩
  refine lv_i2b (v := z8) hx hb dX10_append_44 ez8 ?_
  refine va_bast hx hb hK hP hD hS 1 1 rfl rfl (vp_in_nI (n := 14) (N := 4000) (by decide) (by decide)) dX10_append_45 (fun H locs hP hD hS => ?_)
  obtain ⟨f9, ef9⟩ : ∃ f : Nat → Int32, upd f6 (14 : Int32).toNatClampNeg (vp_nar .byte z8) = f := ⟨_, rfl⟩
  have hP : va_P (dC, dI) vwCl [(p0, .inr (10, [.ref p2, .ref p3, .ref p4, .ref p5, .ref p6, .ref p7, .ref p8, .ref p9, .int 15, .int 0, .int (-1)])), (p8, .inl (cB, 4000, .inl f9))] H := by rw [← ef9]; exact hP
  have hD : va_D A [(p0, .inr (10, [.ref p2, .ref p3, .ref p4, .ref p5, .ref p6, .ref p7, .ref p8, .ref p9, .int 15, .int 0, .int (-1)])), (p8, .inl (cB, 4000, .inl f9))] := by rw [← ef9]; exact hD
  refine lv_iinc (v := 0) (lv' := [(2, .int 0), (0, .ref p0), (1, .int p1)]) hx hb dX10_append_46 hl (k := 0) rfl (by decide) (by decide) rfl (fun ls hl => ?_)
  refine lv_goto (tgt := 3) hx hb dX10_append_49 (by decide) ?_
  refine lv_iload_n hx hb dX10_append_3 rfl (lv_at hl 0 rfl) ?_
  refine lv_if_lt (tgt := 52) hx hb dX10_append_4 (by decide) (fun c => absurd c (by decide)) (fun _ => ?_)
  refine lv_aload_n hx hb dX10_append_7 rfl (lv_at hl 1 rfl) ?_
  refine va_get (D := (dC, dI)) (ci := 10) (v := .int 15) (C := RX10) (T := TX10) (N := 11) hx hb hW iW_10 hown hK hP 0 rfl rfl 8 (by decide) (hW _ mw_194) (fun _ h9 => h9) rfl dX10_append_8 ?_
  refine lv_if_lt (tgt := 46) hx hb dX10_append_11 (by decide) (fun c => absurd c (by decide)) (fun _ => ?_)
  refine lv_aload_n hx hb dX10_append_14 rfl (lv_at hl 1 rfl) ?_
  refine va_get (D := (dC, dI)) (ci := 10) (v := .int 15) (C := RX10) (T := TX10) (N := 11) hx hb hW iW_10 hown hK hP 0 rfl rfl 8 (by decide) (hW _ mw_194) (fun _ h9 => h9) rfl dX10_append_15 ?_
  refine lv_aload_n hx hb dX10_append_18 rfl (lv_at hl 1 rfl) ?_
  refine va_get (D := (dC, dI)) (ci := 10) (v := .ref p8) (C := RX10) (T := TX10) (N := 11) hx hb hW iW_10 hown hK hP 0 rfl rfl 6 (by decide) (hW _ mw_76) (fun _ h9 => h9) rfl dX10_append_19 ?_
  refine va_alen (v := 4000) hx hb hK hP 1 1 rfl rfl (show Int32.ofNat 4000 = 4000 by decide) dX10_append_22 ?_
  refine lv_icmp_ge (tgt := 46) hx hb dX10_append_23 (by decide) (fun c => absurd c (by decide)) (fun _ => ?_)
  refine lv_aload_n hx hb dX10_append_26 rfl (lv_at hl 1 rfl) ?_
  refine va_get (D := (dC, dI)) (ci := 10) (v := .ref p8) (C := RX10) (T := TX10) (N := 11) hx hb hW iW_10 hown hK hP 0 rfl rfl 6 (by decide) (hW _ mw_76) (fun _ h9 => h9) rfl dX10_append_27 ?_
  refine lv_aload_n hx hb dX10_append_30 rfl (lv_at hl 1 rfl) ?_
  refine lv_dup hx hb dX10_append_31 rfl ?_
  refine va_get (D := (dC, dI)) (ci := 10) (v := .int 15) (C := RX10) (T := TX10) (N := 11) hx hb hW iW_10 hown hK hP 0 rfl rfl 8 (by decide) (hW _ mw_194) (fun _ h9 => h9) rfl dX10_append_32 ?_
  refine lv_dup_x1 hx hb dX10_append_35 rfl rfl ?_
  refine lv_iconst (v := 1) hx hb dX10_append_36 (by decide) ?_
  refine lv_iadd hx hb dX10_append_37 ?_
  refine tp_i 16 (by decide) ?_
  refine va_put (D := (dC, dI)) (ci := 10) (v := .int 16) (ty := .int) (C := RX10) (T := TX10) (N := 11) hx hb hW iW_10 tyX10 tyX10_ok nmX10 hown hK hP hD hS 0 rfl rfl 8 (by decide) (hW _ mw_194) (fun _ h9 => h9) rfl (by decide +kernel) rfl rfl (Nat.le_of_ble_eq_true rfl) dX10_append_38 (fun H locs hP hD hS => ?_)
  have hP : va_P (dC, dI) vwCl [(p0, .inr (10, [.ref p2, .ref p3, .ref p4, .ref p5, .ref p6, .ref p7, .ref p8, .ref p9, .int 16, .int 0, .int (-1)])), (p8, .inl (cB, 4000, .inl f9))] H := hP
  have hD : va_D A [(p0, .inr (10, [.ref p2, .ref p3, .ref p4, .ref p5, .ref p6, .ref p7, .ref p8, .ref p9, .int 16, .int 0, .int (-1)])), (p8, .inl (cB, 4000, .inl f9))] := hD
  refine lv_iload_n hx hb dX10_append_41 rfl (lv_at hl 2 rfl) ?_
  refine lv_iload_n hx hb dX10_append_42 rfl (lv_at hl 0 rfl) ?_
  refine lv_ishr hx hb dX10_append_43 ?_
  refine lv_topi (fun z10 ez10 => ?_)
  obtain ⟨z11, ez11⟩ : ∃ z : Int32, z10.toInt8.toInt32 = z := ⟨_, rfl⟩
  refine lv_i2b (v := z11) hx hb dX10_append_44 ez11 ?_
  refine va_bast hx hb hK hP hD hS 1 1 rfl rfl (vp_in_nI (n := 15) (N := 4000) (by decide) (by decide)) dX10_append_45 (fun H locs hP hD hS => ?_)
  obtain ⟨f12, ef12⟩ : ∃ f : Nat → Int32, upd f9 (15 : Int32).toNatClampNeg (vp_nar .byte z11) = f := ⟨_, rfl⟩
  have hP : va_P (dC, dI) vwCl [(p0, .inr (10, [.ref p2, .ref p3, .ref p4, .ref p5, .ref p6, .ref p7, .ref p8, .ref p9, .int 16, .int 0, .int (-1)])), (p8, .inl (cB, 4000, .inl f12))] H := by rw [← ef12]; exact hP
  have hD : va_D A [(p0, .inr (10, [.ref p2, .ref p3, .ref p4, .ref p5, .ref p6, .ref p7, .ref p8, .ref p9, .int 16, .int 0, .int (-1)])), (p8, .inl (cB, 4000, .inl f12))] := by rw [← ef12]; exact hD
  refine lv_iinc (v := (-8)) (lv' := [(2, .int (-8)), (0, .ref p0), (1, .int p1)]) hx hb dX10_append_46 hl (k := 0) rfl (by decide) (by decide) rfl (fun ls hl => ?_)
  refine lv_goto (tgt := 3) hx hb dX10_append_49 (by decide) ?_
  refine lv_iload_n hx hb dX10_append_3 rfl (lv_at hl 0 rfl) ?_
  refine lv_if_lt (tgt := 52) hx hb dX10_append_4 (by decide) (fun _ => ?_) (fun c => absurd (by decide) c)
  have hP9 := hP.sub (ws' := [(p0, .inr (10, [.ref p2, .ref p3, .ref p4, .ref p5, .ref p6, .ref p7, .ref p8, .ref p9, .int 16, .int 0, .int (-1)])), (p8, .inl (cB, 4000, .inl f12))]) [0, 1] rfl
  have hD9 := hD.sub (ws' := [(p0, .inr (10, [.ref p2, .ref p3, .ref p4, .ref p5, .ref p6, .ref p7, .ref p8, .ref p9, .int 16, .int 0, .int (-1)])), (p8, .inl (cB, 4000, .inl f12))]) [0, 1] (by decide) rfl
  refine W.widen (k := 0) (n := 0) (Nat.le_of_ble_eq_true rfl) (Nat.le_of_ble_eq_true rfl) ?_
  exact W.vret hx hb hr (fun t ht hW9 => ⟨⟨(), rfl, trivial, ⟨f12, by rw [ht]; exact hP9, va_K.moved hW9.alike hK, hD9⟩⟩, hS.F ht⟩) hS.2.2 dX10_append_52

set_option maxHeartbeats 4000000 in
set_option maxRecDepth 100000 in
/-- X10_append_4 -/
theorem c_X10_append_4 (l : Launch) (dC : Nat → ClassId) (dI : Nat → Nat → Nat) (cI cB : ClassId) (p0 : Nat) (p1 : Int32) (p2 : Nat) (p3 : Nat) (p4 : Nat) (p5 : Nat) (p6 : Nat) (p7 : Nat) (p8 : Nat) (p9 : Nat) (p10 : Nat → Int32) (sz : Nat) : Met l yX10_append (.code yX10_append cX10_append 3 none :: WA) ({ frames := 0, cells := 0, slots := 0, locals := 0 }) (va_Pc [.ref p0, .int p1] (PB dC dI cI cB [(p0, .inr (10, [.ref p2, .ref p3, .ref p4, .ref p5, .ref p6, .ref p7, .ref p8, .ref p9, .int 16, .int 0, .int (-1)])), (p8, .inl (cB, 4000, .inl p10))] sz)) (va_Qv (fun _ : Unit => True) (fun (_ : Unit) t => ∃ y1 : Nat → Int32, QB dC dI cI cB [(p0, .inr (10, [.ref p2, .ref p3, .ref p4, .ref p5, .ref p6, .ref p7, .ref p8, .ref p9, .int 20, .int 0, .int (-1)])), (p8, .inl (cB, 4000, .inl y1))] (va_A [(p0, .inr (10, [.ref p2, .ref p3, .ref p4, .ref p5, .ref p6, .ref p7, .ref p8, .ref p9, .int 16, .int 0, .int (-1)])), (p8, .inl (cB, 4000, .inl p10))] sz) t) (va_A [(p0, .inr (10, [.ref p2, .ref p3, .ref p4, .ref p5, .ref p6, .ref p7, .ref p8, .ref p9, .int 16, .int 0, .int (-1)])), (p8, .inl (cB, 4000, .inl p10))] sz)) 0 0 (va_A [(p0, .inr (10, [.ref p2, .ref p3, .ref p4, .ref p5, .ref p6, .ref p7, .ref p8, .ref p9, .int 16, .int 0, .int (-1)])), (p8, .inl (cB, 4000, .inl p10))] sz) := by
  refine Met.ofW (cc := cX10_append) (maxL := 3) (ret := none) (by decide) rfl ?_
  intro p e s m args below meth c s₁ B hml hv
  obtain ⟨rfl, hsz, hP, hK, hD0, hN⟩ := hv
  have hx := B.exec
  have hb := B.bytes
  have hr := B.returns
  have hts := atoms_spec B.pre
  have hW : ∀ w ∈ WA, w.before [.ref p0, .int p1].toArray s = true := fun w h => hts w (List.mem_cons_of_mem _ h)
  have hown : s.vm.findClass RX10 = some m.cls := findClass_of_methodNamed B.named
  have hlocks := B.notSynchronized
  subst hsz
  have hD := hD0.self (sz := s.heap.size)
  generalize hAe : va_A [(p0, .inr (10, [.ref p2, .ref p3, .ref p4, .ref p5, .ref p6, .ref p7, .ref p8, .ref p9, .int 16, .int 0, .int (-1)])), (p8, .inl (cB, 4000, .inl p10))] s.heap.size = A at hD ⊢
  have hA : ∀ q : Nat, s.heap.size ≤ q → A q := fun q h => by rw [← hAe]; exact Or.inr h
  have hS : va_S A s.heap s.heap [] := va_S.rf
  have hP : va_P (dC, dI) vwCl [(p0, .inr (10, [.ref p2, .ref p3, .ref p4, .ref p5, .ref p6, .ref p7, .ref p8, .ref p9, .int 16, .int 0, .int (-1)])), (p8, .inl (cB, 4000, .inl p10))] s.heap := hP
  have hl := lv_entry ([.ref p0, .int p1]) (n := 3) (Nat.le_of_ble_eq_true rfl)
  rw [lg_entry_eq]
  generalize (lg_sl ([.ref p0, .int p1]) ++ List.replicate (3 - (lg_sl ([.ref p0, .int p1])).length) Slot.unset).toArray = ls at hl ⊢
  have hl : lv_has ls 3 [(0, .ref p0), (1, .int p1)] := hl
  refine lv_bipush (v := 24) hx hb dX10_append_0 (by decide) ?_
  refine lv_istore_n (lv' := [(2, .int 24), (0, .ref p0), (1, .int p1)]) hx hb dX10_append_2 rfl hl (by decide) rfl (fun ls hl => ?_)
  refine lv_iload_n hx hb dX10_append_3 rfl (lv_at hl 0 rfl) ?_
  refine lv_if_lt (tgt := 52) hx hb dX10_append_4 (by decide) (fun c => absurd c (by decide)) (fun _ => ?_)
  refine lv_aload_n hx hb dX10_append_7 rfl (lv_at hl 1 rfl) ?_
  refine va_get (D := (dC, dI)) (ci := 10) (v := .int 16) (C := RX10) (T := TX10) (N := 11) hx hb hW iW_10 hown hK hP 0 rfl rfl 8 (by decide) (hW _ mw_194) (fun _ h9 => h9) rfl dX10_append_8 ?_
  refine lv_if_lt (tgt := 46) hx hb dX10_append_11 (by decide) (fun c => absurd c (by decide)) (fun _ => ?_)
  refine lv_aload_n hx hb dX10_append_14 rfl (lv_at hl 1 rfl) ?_
  refine va_get (D := (dC, dI)) (ci := 10) (v := .int 16) (C := RX10) (T := TX10) (N := 11) hx hb hW iW_10 hown hK hP 0 rfl rfl 8 (by decide) (hW _ mw_194) (fun _ h9 => h9) rfl dX10_append_15 ?_
  refine lv_aload_n hx hb dX10_append_18 rfl (lv_at hl 1 rfl) ?_
  refine va_get (D := (dC, dI)) (ci := 10) (v := .ref p8) (C := RX10) (T := TX10) (N := 11) hx hb hW iW_10 hown hK hP 0 rfl rfl 6 (by decide) (hW _ mw_76) (fun _ h9 => h9) rfl dX10_append_19 ?_
  refine va_alen (v := 4000) hx hb hK hP 1 1 rfl rfl (show Int32.ofNat 4000 = 4000 by decide) dX10_append_22 ?_
  refine lv_icmp_ge (tgt := 46) hx hb dX10_append_23 (by decide) (fun c => absurd c (by decide)) (fun _ => ?_)
  refine lv_aload_n hx hb dX10_append_26 rfl (lv_at hl 1 rfl) ?_
  refine va_get (D := (dC, dI)) (ci := 10) (v := .ref p8) (C := RX10) (T := TX10) (N := 11) hx hb hW iW_10 hown hK hP 0 rfl rfl 6 (by decide) (hW _ mw_76) (fun _ h9 => h9) rfl dX10_append_27 ?_
  refine lv_aload_n hx hb dX10_append_30 rfl (lv_at hl 1 rfl) ?_
  refine lv_dup hx hb dX10_append_31 rfl ?_
  refine va_get (D := (dC, dI)) (ci := 10) (v := .int 16) (C := RX10) (T := TX10) (N := 11) hx hb hW iW_10 hown hK hP 0 rfl rfl 8 (by decide) (hW _ mw_194) (fun _ h9 => h9) rfl dX10_append_32 ?_
  refine lv_dup_x1 hx hb dX10_append_35 rfl rfl ?_
  refine lv_iconst (v := 1) hx hb dX10_append_36 (by decide) ?_
  refine lv_iadd hx hb dX10_append_37 ?_
  refine tp_i 17 (by decide) ?_
  refine va_put (D := (dC, dI)) (ci := 10) (v := .int 17) (ty := .int) (C := RX10) (T := TX10) (N := 11) hx hb hW iW_10 tyX10 tyX10_ok nmX10 hown hK hP hD hS 0 rfl rfl 8 (by decide) (hW _ mw_194) (fun _ h9 => h9) rfl (by decide +kernel) rfl rfl (Nat.le_of_ble_eq_true rfl) dX10_append_38 (fun H locs hP hD hS => ?_)
  have hP : va_P (dC, dI) vwCl [(p0, .inr (10, [.ref p2, .ref p3, .ref p4, .ref p5, .ref p6, .ref p7, .ref p8, .ref p9, .int 17, .int 0, .int (-1)])), (p8, .inl (cB, 4000, .inl p10))] H := hP
  have hD : va_D A [(p0, .inr (10, [.ref p2, .ref p3, .ref p4, .ref p5, .ref p6, .ref p7, .ref p8, .ref p9, .int 17, .int 0, .int (-1)])), (p8, .inl (cB, 4000, .inl p10))] := hD
  refine lv_iload_n hx hb dX10_append_41 rfl (lv_at hl 2 rfl) ?_
  refine lv_iload_n hx hb dX10_append_42 rfl (lv_at hl 0 rfl) ?_
  refine lv_ishr hx hb dX10_append_43 ?_
  refine lv_topi (fun z1 ez1 => ?_)
  obtain ⟨z2, ez2⟩ : ∃ z : Int32, z1.toInt8.toInt32 = z := ⟨_, rfl⟩
  refine lv_i2b (v := z2) hx hb dX10_append_44 ez2 ?_
  refine va_bast hx hb hK hP hD hS 1 1 rfl rfl (vp_in_nI (n := 16) (N := 4000) (by decide) (by decide)) dX10_append_45 (fun H locs hP hD hS => ?_)
  obtain ⟨f3, ef3⟩ : ∃ f : Nat → Int32, upd p10 (16 : Int32).toNatClampNeg (vp_nar .byte z2) = f := ⟨_, rfl⟩
  have hP : va_P (dC, dI) vwCl [(p0, .inr (10, [.ref p2, .ref p3, .ref p4, .ref p5, .ref p6, .ref p7, .ref p8, .ref p9, .int 17, .int 0, .int (-1)])), (p8, .inl (cB, 4000, .inl f3))] H := by rw [← ef3]; exact hP
  have hD : va_D A [(p0, .inr (10, [.ref p2, .ref p3, .ref p4, .ref p5, .ref p6, .ref p7, .ref p8, .ref p9, .int 17, .int 0, .int (-1)])), (p8, .inl (cB, 4000, .inl f3))] := by rw [← ef3]; exact hD
  refine lv_iinc (v := 16) (lv' := [(2, .int 16), (0, .ref p0), (1, .int p1)]) hx hb dX10_append_46 hl (k := 0) rfl (by decide) (by decide) rfl (fun ls hl => ?_)
  refine lv_goto (tgt := 3) hx hb dX10_append_49 (by decide) ?_
  refine lv_iload_n hx hb dX10_append_3 rfl (lv_at hl 0 rfl) ?_
  refine lv_if_lt (tgt := 52) hx hb dX10_append_4 (by decide) (fun c => absurd c (by decide)) (fun _ => ?_)
  refine lv_aload_n hx hb dX10_append_7 rfl (lv_at hl 1 rfl) ?_
  refine va_get (D := (dC, dI)) (ci := 10) (v := .int 17) (C := RX10) (T := TX10) (N := 11) hx hb hW iW_10 hown hK hP 0 rfl rfl 8 (by decide) (hW _ mw_194) (fun _ h9 => h9) rfl dX10_append_8 ?_
  refine lv_if_lt (tgt := 46) hx hb dX10_append_11 (by decide) (fun c => absurd c (by decide)) (fun _ => ?_)
  refine lv_aload_n hx hb dX10_append_14 rfl (lv_at hl 1 rfl) ?_
  refine va_get (D := (dC, dI)) (ci := 10) (v := .int 17) (C := RX10) (T := TX10) (N := 11) hx hb hW iW_10 hown hK hP 0 rfl rfl 8 (by decide) (hW _ mw_194) (fun _ h9 => h9) rfl dX10_append_15 ?_
  refine lv_aload_n hx hb dX10_append_18 rfl (lv_at hl 1 rfl) ?_
  refine va_get (D := (dC, dI)) (ci := 10) (v := .ref p8) (C := RX10) (T := TX10) (N := 11) hx hb hW iW_10 hown hK hP 0 rfl rfl 6 (by decide) (hW _ mw_76) (fun _ h9 => h9) rfl dX10_append_19 ?_
  refine va_alen (v := 4000) hx hb hK hP 1 1 rfl rfl (show Int32.ofNat 4000 = 4000 by decide) dX10_append_22 ?_
  refine lv_icmp_ge (tgt := 46) hx hb dX10_append_23 (by decide) (fun c => absurd c (by decide)) (fun _ => ?_)
  refine lv_aload_n hx hb dX10_append_26 rfl (lv_at hl 1 rfl) ?_
  refine va_get (D := (dC, dI)) (ci := 10) (v := .ref p8) (C := RX10) (T := TX10) (N := 11) hx hb hW iW_10 hown hK hP 0 rfl rfl 6 (by decide) (hW _ mw_76) (fun _ h9 => h9) rfl dX10_append_27 ?_
  refine lv_aload_n hx hb dX10_append_30 rfl (lv_at hl 1 rfl) ?_
  refine lv_dup hx hb dX10_append_31 rfl ?_
  refine va_get (D := (dC, dI)) (ci := 10) (v := .int 17) (C := RX10) (T := TX10) (N := 11) hx hb hW iW_10 hown hK hP 0 rfl rfl 8 (by decide) (hW _ mw_194) (fun _ h9 => h9) rfl dX10_append_32 ?_
  refine lv_dup_x1 hx hb dX10_append_35 rfl rfl ?_
  refine lv_iconst (v := 1) hx hb dX10_append_36 (by decide) ?_
  refine lv_iadd hx hb dX10_append_37 ?_
  refine tp_i 18 (by decide) ?_
  refine va_put (D := (dC, dI)) (ci := 10) (v := .int 18) (ty := .int) (C := RX10) (T := TX10) (N := 11) hx hb hW iW_10 tyX10 tyX10_ok nmX10 hown hK hP hD hS 0 rfl rfl 8 (by decide) (hW _ mw_194) (fun _ h9 => h9) rfl (by decide +kernel) rfl rfl (Nat.le_of_ble_eq_true rfl) dX10_append_38 (fun H locs hP hD hS => ?_)
  have hP : va_P (dC, dI) vwCl [(p0, .inr (10, [.ref p2, .ref p3, .ref p4, .ref p5, .ref p6, .ref p7, .ref p8, .ref p9, .int 18, .int 0, .int (-1)])), (p8, .inl (cB, 4000, .inl f3))] H := hP
  have hD : va_D A [(p0, .inr (10, [.ref p2, .ref p3, .ref p4, .ref p5, .ref p6, .ref p7, .ref p8, .ref p9, .int 18, .int 0, .int (-1)])), (p8, .inl (cB, 4000, .inl f3))] := hD
  refine lv_iload_n hx hb dX10_append_41 rfl (lv_at hl 2 rfl) ?_
  refine lv_iload_n hx hb dX10_append_42 rfl (lv_at hl 0 rfl) ?_
  refine lv_ishr hx hb dX10_append_43 ?_
  refine lv_topi (fun z4 ez4 => ?_)
  obtain ⟨z5, ez5⟩ : ∃ z : Int32, z4.toInt8.toInt32 = z := ⟨_, rfl⟩
  refine lv_i2b (v := z5) hx hb dX10_append_44 ez5 ?_
  refine va_bast hx hb hK hP hD hS 1 1 rfl rfl (vp_in_nI (n := 17) (N := 4000) (by decide) (by decide)) dX10_append_45 (fun H locs hP hD hS => ?_)
  obtain ⟨f6, ef6⟩ : ∃ f : Nat → Int32, upd f3 (17 : Int32).toNatClampNeg (vp_nar .byte z5) = f := ⟨_, rfl⟩
  have hP : va_P (dC, dI) vwCl [(p0, .inr (10, [.ref p2, .ref p3, .ref p4, .ref p5, .ref p6, .ref p7, .ref p8, .ref p9, .int 18, .int 0, .int (-1)])), (p8, .inl (cB, 4000, .inl f6))] H := by rw [← ef6]; exact hP
  have hD : va_D A [(p0, .inr (10, [.ref p2, .ref p3, .ref p4, .ref p5, .ref p6, .ref p7, .ref p8, .ref p9, .int 18, .int 0, .int (-1)])), (p8, .inl (cB, 4000, .inl f6))] := by rw [← ef6]; exact hD
  refine lv_iinc (v := 8) (lv' := [(2, .int 8), (0, .ref p0), (1, .int p1)]) hx hb dX10_append_46 hl (k := 0) rfl (by decide) (by decide) rfl (fun ls hl => ?_)
  refine lv_goto (tgt := 3) hx hb dX10_append_49 (by decide) ?_
  refine lv_iload_n hx hb dX10_append_3 rfl (lv_at hl 0 rfl) ?_
  refine lv_if_lt (tgt := 52) hx hb dX10_append_4 (by decide) (fun c => absurd c (by decide)) (fun _ => ?_)
  refine lv_aload_n hx hb dX10_append_7 rfl (lv_at hl 1 rfl) ?_
  refine va_get (D := (dC, dI)) (ci := 10) (v := .int 18) (C := RX10) (T := TX10) (N := 11) hx hb hW iW_10 hown hK hP 0 rfl rfl 8 (by decide) (hW _ mw_194) (fun _ h9 => h9) rfl dX10_append_8 ?_
  refine lv_if_lt (tgt := 46) hx hb dX10_append_11 (by decide) (fun c => absurd c (by decide)) (fun _ => ?_)
  refine lv_aload_n hx hb dX10_append_14 rfl (lv_at hl 1 rfl) ?_
  refine va_get (D := (dC, dI)) (ci := 10) (v := .int 18) (C := RX10) (T := TX10) (N := 11) hx hb hW iW_10 hown hK hP 0 rfl rfl 8 (by decide) (hW _ mw_194) (fun _ h9 => h9) rfl dX10_append_15 ?_
  refine lv_aload_n hx hb dX10_append_18 rfl (lv_at hl 1 rfl) ?_
  refine va_get (D := (dC, dI)) (ci := 10) (v := .ref p8) (C := RX10) (T := TX10) (N := 11) hx hb hW iW_10 hown hK hP 0 rfl rfl 6 (by decide) (hW _ mw_76) (fun _ h9 => h9) rfl dX10_append_19 ?_
  refine va_alen (v := 4000) hx hb hK hP 1 1 rfl rfl (show Int32.ofNat 4000 = 4000 by decide) dX10_append_22 ?_
  refine lv_icmp_ge (tgt := 46) hx hb dX10_append_23 (by decide) (fun c => absurd c (by decide)) (fun _ => ?_)
  refine lv_aload_n hx hb dX10_append_26 rfl (lv_at hl 1 rfl) ?_
  refine va_get (D := (dC, dI)) (ci := 10) (v := .ref p8) (C := RX10) (T := TX10) (N := 11) hx hb hW iW_10 hown hK hP 0 rfl rfl 6 (by decide) (hW _ mw_76) (fun _ h9 => h9) rfl dX10_append_27 ?_
  refine lv_aload_n hx hb dX10_append_30 rfl (lv_at hl 1 rfl) ?_
  refine lv_dup hx hb dX10_append_31 rfl ?_
  refine va_get (D := (dC, dI)) (ci := 10) (v := .int 18) (C := RX10) (T := TX10) (N := 11) hx hb hW iW_10 hown hK hP 0 rfl rfl 8 (by decide) (hW _ mw_194) (fun _ h9 => h9) rfl dX10_append_32 ?_
  refine lv_dup_x1 hx hb dX10_append_35 rfl rfl ?_
  refine lv_iconst (v := 1) hx hb dX10_append_36 (by decide) ?_
  refine lv_iadd hx hb dX10_append_37 ?_
  refine tp_i 19 (by decide) ?_
  refine va_put (D := (dC, dI)) (ci := 10) (v := .int 19) (ty := .int) (C := RX10) (T := TX10) (N := 11) hx hb hW iW_10 tyX10 tyX10_ok nmX10 hown hK hP hD hS 0 rfl rfl 8 (by decide) (hW _ mw_194) (fun _ h9 => h9) rfl (by decide +kernel) rfl rfl (Nat.le_of_ble_eq_true rfl) dX10_append_38 (fun H locs hP hD hS => ?_)
  have hP : va_P (dC, dI) vwCl [(p0, .inr (10, [.ref p2, .ref p3, .ref p4, .ref p5, .ref p6, .ref p7, .ref p8, .ref p9, .int 19, .int 0, .int (-1)])), (p8, .inl (cB, 4000, .inl f6))] H := hP
  have hD : va_D A [(p0, .inr (10, [.ref p2, .ref p3, .ref p4, .ref p5, .ref p6, .ref p7, .ref p8, .ref p9, .int 19, .int 0, .int (-1)])), (p8, .inl (cB, 4000, .inl f6))] := hD
  refine lv_iload_n hx hb dX10_append_41 rfl (lv_at hl 2 rfl) ?_
  refine lv_iload_n hx hb dX10_append_42 rfl (lv_at hl 0 rfl) ?_
  refine lv_ishr hx hb dX10_append_43 ?_
  refine lv_topi (fun z7 ez7 => ?_)
  obtain ⟨z8, ez8⟩ : ∃ z : Int32, z7.toInt8.toInt32 = z := ⟨_, rfl⟩
  refine lv_i2b (v := z8) hx hb dX10_append_44 ez8 ?_
  refine va_bast hx hb hK hP hD hS 1 1 rfl rfl (vp_in_nI (n := 18) (N := 4000) (by decide) (by decide)) dX10_append_45 (fun H locs hP hD hS => ?_)
  obtain ⟨f9, ef9⟩ : ∃ f : Nat → Int32, upd f6 (18 : Int32).toNatClampNeg (vp_nar .byte z8) = f := ⟨_, rfl⟩
  have hP : va_P (dC, dI) vwCl [(p0, .inr (10, [.ref p2, .ref p3, .ref p4, .ref p5, .ref p6, .ref p7, .ref p8, .ref p9, .int 19, .int 0, .int (-1)])), (p8, .inl (cB, 4000, .inl f9))] H := by rw [← ef9]; exact hP
  have hD : va_D A [(p0, .inr (10, [.ref p2, .ref p3, .ref p4, .ref p5, .ref p6, .ref p7, .ref p8, .ref p9, .int 19, .int 0, .int (-1)])), (p8, .inl (cB, 4000, .inl f9))] := by rw [← ef9]; exact hD
  refine lv_iinc (v := 0) (lv' := [(2, .int 0), (0, .ref p0), (1, .int p1)]) hx hb dX10_append_46 hl (k := 0) rfl (by decide) (by decide) rfl (fun ls hl => ?_)
  refine lv_goto (tgt := 3) hx hb dX10_append_49 (by decide) ?_
  refine lv_iload_n hx hb dX10_append_3 rfl (lv_at hl 0 rfl) ?_
  refine lv_if_lt (tgt := 52) hx hb dX10_append_4 (by decide) (fun c => absurd c (by decide)) (fun _ => ?_)
  refine lv_aload_n hx hb dX10_append_7 rfl (lv_at hl 1 rfl) ?_
  refine va_get (D := (dC, dI)) (ci := 10) (v := .int 19) (C := RX10) (T := TX10) (N := 11) hx hb hW iW_10 hown hK hP 0 rfl rfl 8 (by decide) (hW _ mw_194) (fun _ h9 => h9) rfl dX10_append_8 ?_
  refine lv_if_lt (tgt := 46) hx hb dX10_append_11 (by decide) (fun c => absurd c (by decide)) (fun _ => ?_)
  refine lv_aload_n hx hb dX10_append_14 rfl (lv_at hl 1 rfl) ?_
  refine va_get (D := (dC, dI)) (ci := 10) (v := .int 19) (C := RX10) (T := TX10) (N := 11) hx hb hW iW_10 hown hK hP 0 rfl rfl 8 (by decide) (hW _ mw_194) (fun _ h9 => h9) rfl dX10_append_15 ?_
  refine lv_aload_n hx hb dX10_append_18 rfl (lv_at hl 1 rfl) ?_
  refine va_get (D := (dC, dI)) (ci := 10) (v := .ref p8) (C := RX10) (T := TX10) (N := 11) hx hb hW iW_10 hown hK hP 0 rfl rfl 6 (by decide) (hW _ mw_76) (fun _ h9 => h9) rfl dX10_append_19 ?_
  refine va_alen (v := 4000) hx hb hK hP 1 1 rfl rfl (show Int32.ofNat 4000 = 4000 by decide) dX10_append_22 ?_
  refine lv_icmp_ge (tgt := 46) hx hb dX10_append_23 (by decide) (fun c => absurd c (by decide)) (fun _ => ?_)
  refine lv_aload_n hx hb dX10_append_26 rfl (lv_at hl 1 rfl) ?_
  refine va_get (D := (dC, dI)) (ci := 10) (v := .ref p8) (C := RX10) (T := TX10) (N := 11) hx hb hW iW_10 hown hK hP 0 rfl rfl 6 (by decide) (hW _ mw_76) (fun _ h9 => h9) rfl dX10_append_27 ?_
  refine lv_aload_n hx hb dX10_append_30 rfl (lv_at hl 1 rfl) ?_
  refine lv_dup hx hb dX10_append_31 rfl ?_
  refine va_get (D := (dC, dI)) (ci := 10) (v := .int 19) (C := RX10) (T := TX10) (N := 11) hx hb hW iW_10 hown hK hP 0 rfl rfl 8 (by decide) (hW _ mw_194) (fun _ h9 => h9) rfl dX10_append_32 ?_
  refine lv_dup_x1 hx hb dX10_append_35 rfl rfl ?_
  refine lv_iconst (v := 1) hx hb dX10_append_36 (by decide) ?_
  refine lv_iadd hx hb dX10_append_37 ?_
  refine tp_i 20 (by decide) ?_
  refine va_put (D := (dC, dI)) (ci := 10) (v := .int 20) (ty := .int) (C := RX10) (T := TX10) (N := 11) hx hb hW iW_10 tyX10 tyX10_ok nmX10 hown hK hP hD hS 0 rfl rfl 8 (by decide) (hW _ mw_194) (fun _ h9 => h9) rfl (by decide +kernel) rfl rfl (Nat.le_of_ble_eq_true rfl) dX10_append_38 (fun H locs hP hD hS => ?_)
  have hP : va_P (dC, dI) vwCl [(p0, .inr (10, [.ref p2, .ref p3, .ref p4, .ref p5, .ref p6, .ref p7, .ref p8, .ref p9, .int 20, .int 0, .int (-1)])), (p8, .inl (cB, 4000, .inl f9))] H := hP
  have hD : va_D A [(p0, .inr (10, [.ref p2, .ref p3, .ref p4, .ref p5, .ref p6, .ref p7, .ref p8, .ref p9, .int 20, .int 0, .int (-1)])), (p8, .inl (cB, 4000, .inl f9))] := hD
  refine lv_iload_n hx hb dX10_append_41 rfl (lv_at hl 2 rfl) ?_
  refine lv_iload_n hx hb dX10_append_42 rfl (lv_at hl 0 rfl) ?_
  refine lv_ishr hx hb dX10_append_43 ?_
  refine lv_topi (fun z10 ez10 => ?_)
  obtain ⟨z11, ez11⟩ : ∃ z : Int32, z10.toInt8.toInt32 = z := ⟨_, rfl⟩
  refine lv_i2b (v := z11) hx hb dX10_append_44 ez11 ?_
  refine va_bast hx hb hK hP hD hS 1 1 rfl rfl (vp_in_nI (n := 19) (N := 4000) (by decide) (by decide)) dX10_append_45 (fun H locs hP hD hS => ?_)
  obtain ⟨f12, ef12⟩ : ∃ f : Nat → Int32, upd f9 (19 : Int32).toNatClampNeg (vp_nar .byte z11) = f := ⟨_, rfl⟩
  have hP : va_P (dC, dI) vwCl [(p0, .inr (10, [.ref p2, .ref p3, .ref p4, .ref p5, .ref p6, .ref p7, .ref p8, .ref p9, .int 20, .int 0, .int (-1)])), (p8, .inl (cB, 4000, .inl f12))] H := by rw [← ef12]; exact hP
  have hD : va_D A [(p0, .inr (10, [.ref p2, .ref p3, .ref p4, .ref p5, .ref p6, .ref p7, .ref p8, .ref p9, .int 20, .int 0, .int (-1)])), (p8, .inl (cB, 4000, .inl f12))] := by rw [← ef12]; exact hD
  refine lv_iinc (v := (-8)) (lv' := [(2, .int (-8)), (0, .ref p0), (1, .int p1)]) hx hb dX10_append_46 hl (k := 0) rfl (by decide) (by decide) rfl (fun ls hl => ?_)
  refine lv_goto (tgt := 3) hx hb dX10_append_49 (by decide) ?_
  refine lv_iload_n hx hb dX10_append_3 rfl (lv_at hl 0 rfl) ?_
  refine lv_if_lt (tgt := 52) hx hb dX10_append_4 (by decide) (fun _ => ?_) (fun c => absurd (by decide) c)
  have hP9 := hP.sub (ws' := [(p0, .inr (10, [.ref p2, .ref p3, .ref p4, .ref p5, .ref p6, .ref p7, .ref p8, .ref p9, .int 20, .int 0, .int (-1)])), (p8, .inl (cB, 4000, .inl f12))]) [0, 1] rfl
  have hD9 := hD.sub (ws' := [(p0, .inr (10, [.ref p2, .ref p3, .ref p4, .ref p5, .ref p6, .ref p7, .ref p8, .ref p9, .int 20, .int 0, .int (-1)])), (p8, .inl (cB, 4000, .inl f12))]) [0, 1] (by decide) rfl
  refine W.widen (k := 0) (n := 0) (Nat.le_of_ble_eq_true rfl) (Nat.le_of_ble_eq_true rfl) ?_
  exact W.vret hx hb hr (fun t ht hW9 => ⟨⟨(), rfl, trivial, ⟨f12, by rw [ht]; exact hP9, va_K.moved hW9.alike hK, hD9⟩⟩, hS.F ht⟩) hS.2.2 dX10_append_52

set_option maxHeartbeats 4000000 in
set_option maxRecDepth 100000 in
/-- X10_feed_0 -/
theorem c_X10_feed_0 (l : Launch) (dC : Nat → ClassId) (dI : Nat → Nat → Nat) (cI cB : ClassId) (p0 : Nat) (p1 : Int32) (p2 : Int32) (p3 : Int32) (p4 : Int32) (p5 : Int32) (p6 : Nat) (p7 : Nat) (p8 : Nat) (p9 : Nat) (p10 : Nat) (p11 : Nat) (p12 : Nat) (p13 : Nat) (sz : Nat) : Met l yX10_feed (.code yX10_feed cX10_feed 6 (some .int) :: WA) ({ frames := 1, cells := 0, slots := 0, locals := 22 }) (va_Pc [.ref p0, .int p1, .int p2, .int p3, .int p4, .int p5] (PB dC dI cI cB [(p0, .inr (10, [.ref p6, .ref p7, .ref p8, .ref p9, .ref p10, .ref p11, .ref p12, .ref p13, .int 0, .int 0, .int (-1)])), (p12, .inl (cB, 4000, .inl (fun _ => 0)))] sz)) (va_Qi (fun (r : Int32) (_ : Unit) => r = 20) (fun _ _ => True) (va_A [(p0, .inr (10, [.ref p6, .ref p7, .ref p8, .ref p9, .ref p10, .ref p11, .ref p12, .ref p13, .int 0, .int 0, .int (-1)])), (p12, .inl (cB, 4000, .inl (fun _ => 0)))] sz)) 0 0 (va_A [(p0, .inr (10, [.ref p6, .ref p7, .ref p8, .ref p9, .ref p10, .ref p11, .ref p12, .ref p13, .int 0, .int 0, .int (-1)])), (p12, .inl (cB, 4000, .inl (fun _ => 0)))] sz) := by
  refine Met.ofW (cc := cX10_feed) (maxL := 6) (ret := (some .int)) (by decide) rfl ?_
  intro p e s m args below meth c s₁ B hml hv
  obtain ⟨rfl, hsz, hP, hK, hD0, hN⟩ := hv
  have hx := B.exec
  have hb := B.bytes
  have hr := B.returns
  have hts := atoms_spec B.pre
  have hW : ∀ w ∈ WA, w.before [.ref p0, .int p1, .int p2, .int p3, .int p4, .int p5].toArray s = true := fun w h => hts w (List.mem_cons_of_mem _ h)
  have hown : s.vm.findClass RX10 = some m.cls := findClass_of_methodNamed B.named
  have hlocks := B.notSynchronized
  subst hsz
  have hD := hD0.self (sz := s.heap.size)
  generalize hAe : va_A [(p0, .inr (10, [.ref p6, .ref p7, .ref p8, .ref p9, .ref p10, .ref p11, .ref p12, .ref p13, .int 0, .int 0, .int (-1)])), (p12, .inl (cB, 4000, .inl (fun _ => 0)))] s.heap.size = A at hD ⊢
  have hA : ∀ q : Nat, s.heap.size ≤ q → A q := fun q h => by rw [← hAe]; exact Or.inr h
  have hS : va_S A s.heap s.heap [] := va_S.rf
  have hP : va_P (dC, dI) vwCl [(p0, .inr (10, [.ref p6, .ref p7, .ref p8, .ref p9, .ref p10, .ref p11, .ref p12, .ref p13, .int 0, .int 0, .int (-1)])), (p12, .inl (cB, 4000, .inl (fun _ => 0)))] s.heap := hP
  have hl := lv_entry ([.ref p0, .int p1, .int p2, .int p3, .int p4, .int p5]) (n := 6) (Nat.le_of_ble_eq_true rfl)
  rw [lg_entry_eq]
  generalize (lg_sl ([.ref p0, .int p1, .int p2, .int p3, .int p4, .int p5]) ++ List.replicate (6 - (lg_sl ([.ref p0, .int p1, .int p2, .int p3, .int p4, .int p5])).length) Slot.unset).toArray = ls at hl ⊢
  have hl : lv_has ls 6 [(0, .ref p0), (1, .int p1), (2, .int p2), (3, .int p3), (4, .int p4), (5, .int p5)] := hl
  refine lv_aload_n hx hb dX10_feed_0 rfl (lv_at hl 0 rfl) ?_
  refine va_get (D := (dC, dI)) (ci := 10) (v := .int 0) (C := RX10) (T := TX10) (N := 11) hx hb hW iW_10 hown hK hP 0 rfl rfl 8 (by decide) (hW _ mw_194) (fun _ h9 => h9) rfl dX10_feed_1 ?_
  refine lv_sipush (v := 3980) hx hb dX10_feed_4 (by decide) ?_
  refine lv_icmp_le (tgt := 12) hx hb dX10_feed_7 (by decide) (fun _ => ?_) (fun c => absurd (by decide) c)
  refine lv_aload_n hx hb dX10_feed_12 rfl (lv_at hl 0 rfl) ?_
  refine lv_iload_n hx hb dX10_feed_13 rfl (lv_at hl 1 rfl) ?_
  have hPc := hP.sub (ws' := [(p0, .inr (10, [.ref p6, .ref p7, .ref p8, .ref p9, .ref p10, .ref p11, .ref p12, .ref p13, .int 0, .int 0, .int (-1)])), (p12, .inl (cB, 4000, .inl (fun _ => 0)))]) [0, 1] rfl
  have hDc := hD.sub (ws' := [(p0, .inr (10, [.ref p6, .ref p7, .ref p8, .ref p9, .ref p10, .ref p11, .ref p12, .ref p13, .int 0, .int 0, .int (-1)])), (p12, .inl (cB, 4000, .inl (fun _ => 0)))]) [0, 1] (by decide) rfl
  have hFc := va_free (wc := [(p0, .inr (10, [.ref p6, .ref p7, .ref p8, .ref p9, .ref p10, .ref p11, .ref p12, .ref p13, .int 0, .int 0, .int (-1)])), (p12, .inl (cB, 4000, .inl (fun _ => 0)))]) hD hS hA [0, 1] rfl
  refine va_callv (va_runV (As := [.int p1]) (rest := []) ⟨hx, hb, hml, hown, hW⟩ (c_X10_append_0 l dC dI cI cB p0 p1 p6 p7 p8 p9 p10 p11 p12 p13 s.heap.size) (cwV 1 hW (gV mw_196 mw_197 mw_198 mw_2 mw_195) rfl rfl rfl (by decide +kernel) ⟨Nat.le_of_ble_eq_true rfl, Nat.le_of_ble_eq_true rfl⟩) ⟨PB_blind _, va_recv hK hP (ci := 10) (q0 := 0) rfl rfl, fun U hU hW2 => ⟨rfl, PB_at hU hW2 hPc hK hDc hN⟩⟩ rfl rfl hl.1 rfl (lv_room (Nat.le_of_ble_eq_true rfl)) dX10_feed_14 ⟨Nat.le_of_ble_eq_true rfl, Nat.le_of_ble_eq_true rfl⟩) hS (fun q _ h => hFc q h) hFc (fun u t H1 locs ht hvm hw hB hz1 hk1 hS => ?_)
  obtain ⟨x1, hq⟩ := hB
  obtain ⟨hP, hD⟩ := after (wr := []) (w1 := [(p0, .inr (10, [.ref p6, .ref p7, .ref p8, .ref p9, .ref p10, .ref p11, .ref p12, .ref p13, .int 4, .int 0, .int (-1)])), (p12, .inl (cB, 4000, .inl x1))]) hP hD [0, 1] [] rfl rfl (by decide) (by decide) hk1 hFc ht hq
  generalize H1 = H at hP hS ⊢
  have hP : va_P (dC, dI) vwCl [(p0, .inr (10, [.ref p6, .ref p7, .ref p8, .ref p9, .ref p10, .ref p11, .ref p12, .ref p13, .int 4, .int 0, .int (-1)])), (p12, .inl (cB, 4000, .inl x1))] H := hP
  have hD : va_D A [(p0, .inr (10, [.ref p6, .ref p7, .ref p8, .ref p9, .ref p10, .ref p11, .ref p12, .ref p13, .int 4, .int 0, .int (-1)])), (p12, .inl (cB, 4000, .inl x1))] := hD
  refine lv_aload_n hx hb dX10_feed_17 rfl (lv_at hl 0 rfl) ?_
  refine lv_iload_n hx hb dX10_feed_18 rfl (lv_at hl 2 rfl) ?_
  have hPc := hP.sub (ws' := [(p0, .inr (10, [.ref p6, .ref p7, .ref p8, .ref p9, .ref p10, .ref p11, .ref p12, .ref p13, .int 4, .int 0, .int (-1)])), (p12, .inl (cB, 4000, .inl x1))]) [0, 1] rfl
  have hDc := hD.sub (ws' := [(p0, .inr (10, [.ref p6, .ref p7, .ref p8, .ref p9, .ref p10, .ref p11, .ref p12, .ref p13, .int 4, .int 0, .int (-1)])), (p12, .inl (cB, 4000, .inl x1))]) [0, 1] (by decide) rfl
  have hFc := va_free (wc := [(p0, .inr (10, [.ref p6, .ref p7, .ref p8, .ref p9, .ref p10, .ref p11, .ref p12, .ref p13, .int 4, .int 0, .int (-1)])), (p12, .inl (cB, 4000, .inl x1))]) hD hS hA [0, 1] rfl
  refine va_callv (va_runV (As := [.int p2]) (rest := []) ⟨hx, hb, hml, hown, hW⟩ (c_X10_append_1 l dC dI cI cB p0 p2 p6 p7 p8 p9 p10 p11 p12 p13 x1 H.size) (cwV 1 hW (gV mw_196 mw_197 mw_198 mw_2 mw_195) rfl rfl rfl (by decide +kernel) ⟨Nat.le_of_ble_eq_true rfl, Nat.le_of_ble_eq_true rfl⟩) ⟨PB_blind _, va_recv hK hP (ci := 10) (q0 := 0) rfl rfl, fun U hU hW2 => ⟨rfl, PB_at hU hW2 hPc hK hDc hN⟩⟩ rfl rfl hl.1 rfl (lv_room (Nat.le_of_ble_eq_true rfl)) dX10_feed_19 ⟨Nat.le_of_ble_eq_true rfl, Nat.le_of_ble_eq_true rfl⟩) hS (fun q _ h => hFc q h) hFc (fun u t H1 locs ht hvm hw hB hz1 hk1 hS => ?_)
  obtain ⟨x2, hq⟩ := hB
  obtain ⟨hP, hD⟩ := after (wr := []) (w1 := [(p0, .inr (10, [.ref p6, .ref p7, .ref p8, .ref p9, .ref p10, .ref p11, .ref p12, .ref p13, .int 8, .int 0, .int (-1)])), (p12, .inl (cB, 4000, .inl x2))]) hP hD [0, 1] [] rfl rfl (by decide) (by decide) hk1 hFc ht hq
  generalize H1 = H at hP hS ⊢
  have hP : va_P (dC, dI) vwCl [(p0, .inr (10, [.ref p6, .ref p7, .ref p8, .ref p9, .ref p10, .ref p11, .ref p12, .ref p13, .int 8, .int 0, .int (-1)])), (p12, .inl (cB, 4000, .inl x2))] H := hP
  have hD : va_D A [(p0, .inr (10, [.ref p6, .ref p7, .ref p8, .ref p9, .ref p10, .ref p11, .ref p12, .ref p13, .int 8, .int 0, .int (-1)])), (p12, .inl (cB, 4000, .inl x2))] := hD
  refine lv_aload_n hx hb dX10_feed_22 rfl (lv_at hl 0 rfl) ?_
  refine lv_iload_n hx hb dX10_feed_23 rfl (lv_at hl 3 rfl) ?_
  have hPc := hP.sub (ws' := [(p0, .inr (10, [.ref p6, .ref p7, .ref p8, .ref p9, .ref p10, .ref p11, .ref p12, .ref p13, .int 8, .int 0, .int (-1)])), (p12, .inl (cB, 4000, .inl x2))]) [0, 1] rfl
  have hDc := hD.sub (ws' := [(p0, .inr (10, [.ref p6, .ref p7, .ref p8, .ref p9, .ref p10, .ref p11, .ref p12, .ref p13, .int 8, .int 0, .int (-1)])), (p12, .inl (cB, 4000, .inl x2))]) [0, 1] (by decide) rfl
  have hFc := va_free (wc := [(p0, .inr (10, [.ref p6, .ref p7, .ref p8, .ref p9, .ref p10, .ref p11, .ref p12, .ref p13, .int 8, .int 0, .int (-1)])), (p12, .inl (cB, 4000, .inl x2))]) hD hS hA [0, 1] rfl
  refine va_callv (va_runV (As := [.int p3]) (rest := []) ⟨hx, hb, hml, hown, hW⟩ (c_X10_append_2 l dC dI cI cB p0 p3 p6 p7 p8 p9 p10 p11 p12 p13 x2 H.size) (cwV 1 hW (gV mw_196 mw_197 mw_198 mw_2 mw_195) rfl rfl rfl (by decide +kernel) ⟨Nat.le_of_ble_eq_true rfl, Nat.le_of_ble_eq_true rfl⟩) ⟨PB_blind _, va_recv hK hP (ci := 10) (q0 := 0) rfl rfl, fun U hU hW2 => ⟨rfl, PB_at hU hW2 hPc hK hDc hN⟩⟩ rfl rfl hl.1 rfl (lv_room (Nat.le_of_ble_eq_true rfl)) dX10_feed_24 ⟨Nat.le_of_ble_eq_true rfl, Nat.le_of_ble_eq_true rfl⟩) hS (fun q _ h => hFc q h) hFc (fun u t H1 locs ht hvm hw hB hz1 hk1 hS => ?_)
  obtain ⟨x3, hq⟩ := hB
  obtain ⟨hP, hD⟩ := after (wr := []) (w1 := [(p0, .inr (10, [.ref p6, .ref p7, .ref p8, .ref p9, .ref p10, .ref p11, .ref p12, .ref p13, .int 12, .int 0, .int (-1)])), (p12, .inl (cB, 4000, .inl x3))]) hP hD [0, 1] [] rfl rfl (by decide) (by decide) hk1 hFc ht hq
  generalize H1 = H at hP hS ⊢
  have hP : va_P (dC, dI) vwCl [(p0, .inr (10, [.ref p6, .ref p7, .ref p8, .ref p9, .ref p10, .ref p11, .ref p12, .ref p13, .int 12, .int 0, .int (-1)])), (p12, .inl (cB, 4000, .inl x3))] H := hP
  have hD : va_D A [(p0, .inr (10, [.ref p6, .ref p7, .ref p8, .ref p9, .ref p10, .ref p11, .ref p12, .ref p13, .int 12, .int 0, .int (-1)])), (p12, .inl (cB, 4000, .inl x3))] := hD
  refine lv_aload_n hx hb dX10_feed_27 rfl (lv_at hl 0 rfl) ?_
  refine lv_iload hx hb dX10_feed_28 (lv_at hl 4 rfl) ?_
  have hPc := hP.sub (ws' := [(p0, .inr (10, [.ref p6, .ref p7, .ref p8, .ref p9, .ref p10, .ref p11, .ref p12, .ref p13, .int 12, .int 0, .int (-1)])), (p12, .inl (cB, 4000, .inl x3))]) [0, 1] rfl
  have hDc := hD.sub (ws' := [(p0, .inr (10, [.ref p6, .ref p7, .ref p8, .ref p9, .ref p10, .ref p11, .ref p12, .ref p13, .int 12, .int 0, .int (-1)])), (p12, .inl (cB, 4000, .inl x3))]) [0, 1] (by decide) rfl
  have hFc := va_free (wc := [(p0, .inr (10, [.ref p6, .ref p7, .ref p8, .ref p9, .ref p10, .ref p11, .ref p12, .ref p13, .int 12, .int 0, .int (-1)])), (p12, .inl (cB, 4000, .inl x3))]) hD hS hA [0, 1] rfl
  refine va_callv (va_runV (As := [.int p4]) (rest := []) ⟨hx, hb, hml, hown, hW⟩ (c_X10_append_3 l dC dI cI cB p0 p4 p6 p7 p8 p9 p10 p11 p12 p13 x3 H.size) (cwV 1 hW (gV mw_196 mw_197 mw_198 mw_2 mw_195) rfl rfl rfl (by decide +kernel) ⟨Nat.le_of_ble_eq_true rfl, Nat.le_of_ble_eq_true rfl⟩) ⟨PB_blind _, va_recv hK hP (ci := 10) (q0 := 0) rfl rfl, fun U hU hW2 => ⟨rfl, PB_at hU hW2 hPc hK hDc hN⟩⟩ rfl rfl hl.1 rfl (lv_room (Nat.le_of_ble_eq_true rfl)) dX10_feed_30 ⟨Nat.le_of_ble_eq_true rfl, Nat.le_of_ble_eq_true rfl⟩) hS (fun q _ h => hFc q h) hFc (fun u t H1 locs ht hvm hw hB hz1 hk1 hS => ?_)
  obtain ⟨x4, hq⟩ := hB
  obtain ⟨hP, hD⟩ := after (wr := []) (w1 := [(p0, .inr (10, [.ref p6, .ref p7, .ref p8, .ref p9, .ref p10, .ref p11, .ref p12, .ref p13, .int 16, .int 0, .int (-1)])), (p12, .inl (cB, 4000, .inl x4))]) hP hD [0, 1] [] rfl rfl (by decide) (by decide) hk1 hFc ht hq
  generalize H1 = H at hP hS ⊢
  have hP : va_P (dC, dI) vwCl [(p0, .inr (10, [.ref p6, .ref p7, .ref p8, .ref p9, .ref p10, .ref p11, .ref p12, .ref p13, .int 16, .int 0, .int (-1)])), (p12, .inl (cB, 4000, .inl x4))] H := hP
  have hD : va_D A [(p0, .inr (10, [.ref p6, .ref p7, .ref p8, .ref p9, .ref p10, .ref p11, .ref p12, .ref p13, .int 16, .int 0, .int (-1)])), (p12, .inl (cB, 4000, .inl x4))] := hD
  refine lv_aload_n hx hb dX10_feed_33 rfl (lv_at hl 0 rfl) ?_
  refine lv_iload hx hb dX10_feed_34 (lv_at hl 5 rfl) ?_
  have hPc := hP.sub (ws' := [(p0, .inr (10, [.ref p6, .ref p7, .ref p8, .ref p9, .ref p10, .ref p11, .ref p12, .ref p13, .int 16, .int 0, .int (-1)])), (p12, .inl (cB, 4000, .inl x4))]) [0, 1] rfl
  have hDc := hD.sub (ws' := [(p0, .inr (10, [.ref p6, .ref p7, .ref p8, .ref p9, .ref p10, .ref p11, .ref p12, .ref p13, .int 16, .int 0, .int (-1)])), (p12, .inl (cB, 4000, .inl x4))]) [0, 1] (by decide) rfl
  have hFc := va_free (wc := [(p0, .inr (10, [.ref p6, .ref p7, .ref p8, .ref p9, .ref p10, .ref p11, .ref p12, .ref p13, .int 16, .int 0, .int (-1)])), (p12, .inl (cB, 4000, .inl x4))]) hD hS hA [0, 1] rfl
  refine va_callv (va_runV (As := [.int p5]) (rest := []) ⟨hx, hb, hml, hown, hW⟩ (c_X10_append_4 l dC dI cI cB p0 p5 p6 p7 p8 p9 p10 p11 p12 p13 x4 H.size) (cwV 1 hW (gV mw_196 mw_197 mw_198 mw_2 mw_195) rfl rfl rfl (by decide +kernel) ⟨Nat.le_of_ble_eq_true rfl, Nat.le_of_ble_eq_true rfl⟩) ⟨PB_blind _, va_recv hK hP (ci := 10) (q0 := 0) rfl rfl, fun U hU hW2 => ⟨rfl, PB_at hU hW2 hPc hK hDc hN⟩⟩ rfl rfl hl.1 rfl (lv_room (Nat.le_of_ble_eq_true rfl)) dX10_feed_36 ⟨Nat.le_of_ble_eq_true rfl, Nat.le_of_ble_eq_true rfl⟩) hS (fun q _ h => hFc q h) hFc (fun u t H1 locs ht hvm hw hB hz1 hk1 hS => ?_)
  obtain ⟨x5, hq⟩ := hB
  obtain ⟨hP, hD⟩ := after (wr := []) (w1 := [(p0, .inr (10, [.ref p6, .ref p7, .ref p8, .ref p9, .ref p10, .ref p11, .ref p12, .ref p13, .int 20, .int 0, .int (-1)])), (p12, .inl (cB, 4000, .inl x5))]) hP hD [0, 1] [] rfl rfl (by decide) (by decide) hk1 hFc ht hq
  generalize H1 = H at hP hS ⊢
  have hP : va_P (dC, dI) vwCl [(p0, .inr (10, [.ref p6, .ref p7, .ref p8, .ref p9, .ref p10, .ref p11, .ref p12, .ref p13, .int 20, .int 0, .int (-1)])), (p12, .inl (cB, 4000, .inl x5))] H := hP
  have hD : va_D A [(p0, .inr (10, [.ref p6, .ref p7, .ref p8, .ref p9, .ref p10, .ref p11, .ref p12, .ref p13, .int 20, .int 0, .int (-1)])), (p12, .inl (cB, 4000, .inl x5))] := hD
  refine lv_aload_n hx hb dX10_feed_39 rfl (lv_at hl 0 rfl) ?_
  refine va_get (D := (dC, dI)) (ci := 10) (v := .int 20) (C := RX10) (T := TX10) (N := 11) hx hb hW iW_10 hown hK hP 0 rfl rfl 8 (by decide) (hW _ mw_194) (fun _ h9 => h9) rfl dX10_feed_40 ?_
  refine W.widen (k := 0) (n := 0) (Nat.le_of_ble_eq_true rfl) (Nat.le_of_ble_eq_true rfl) ?_
  exact W.iret (v := 20) hx hb hr (fun t ht hW9 => ⟨⟨20, (), rfl, rfl, trivial⟩, hS.F ht⟩) hS.2.2 dX10_feed_43

set_option maxHeartbeats 4000000 in
set_option maxRecDepth 100000 in
/-- X11_feed_0 -/
theorem c_X11_feed_0 (l : Launch) (dC : Nat → ClassId) (dI : Nat → Nat → Nat) (cI cB : ClassId) (p0 : Nat) (p1 : Int32) (p2 : Int32) (p3 : Int32) (p4 : Int32) (p5 : Int32) (p6 : Nat) (p7 : Nat) (p8 : Nat) (p9 : Nat) (p10 : Nat) (p11 : Nat) (p12 : Nat) (p13 : Nat) (p14 : Nat) (p15 : Nat) (p16 : Nat) (p17 : Nat) (p18 : Nat) (p19 : Nat) (p20 : Nat) (p21 : Nat) (p22 : Nat) (p23 : Nat) (p24 : Nat) (p25 : Nat) (p26 : Nat) (p27 : Nat) (p28 : Nat) (p29 : Nat) (p30 : Nat) (p31 : Nat) (p32 : Nat) (p33 : Nat) (p34 : Nat) (p35 : Nat) (p36 : Nat) (p37 : Nat) (p38 : Nat) (p39 : Nat) (p40 : Nat) (p41 : Nat) (p42 : Nat) (sz : Nat) : Met l yX11_feed (.code yX11_feed cX11_feed 8 (some .int) :: WA) ({ frames := 0, cells := 0, slots := 0, locals := 0 }) (va_Pc [.ref p0, .int p1, .int p2, .int p3, .int p4, .int p5] (PB dC dI cI cB [(p0, .inr (11, [.int 0, .int 0, .int 0, .int 1, .long 1, .ref p6, .ref p7, .int 1, .ref p8, .int 0, .int 0, .int 1, .ref p9, .ref p10, .ref p11, .int 0, .ref p12, .int 0, .ref p13, .int 0, .int 0, .ref p14, .int 0, .ref p15, .int 0, .ref p16, .ref p17, .ref p18, .ref p19, .ref p20, .ref p21, .ref p22, .int 0, .int 0, .int 0, .int 0, .ref p23, .ref p24, .ref p25, .ref p26, .ref p27, .ref p28, .ref p29, .ref p30, .ref p31, .int 0, .int 0, .ref p32, .ref p33, .ref p34, .ref p35, .int 0, .int 0, .int 0, .int 0, .int 0, .int 0, .int 0, .int 0, .int 0, .int 0, .int 0, .int (-1), .int 0, .ref p36, .ref p37, .int 0, .ref p38, .ref p39, .ref p40, .ref p41, .int 0, .int (-1), .int 0, .int 0, .ref p42])), (p41, .inl (cB, 4000, .inl (fun _ => 0)))] sz)) (va_Qi (fun (r : Int32) (_ : Unit) => r = 20) (fun _ _ => True) (va_A [(p0, .inr (11, [.int 0, .int 0, .int 0, .int 1, .long 1, .ref p6, .ref p7, .int 1, .ref p8, .int 0, .int 0, .int 1, .ref p9, .ref p10, .ref p11, .int 0, .ref p12, .int 0, .ref p13, .int 0, .int 0, .ref p14, .int 0, .ref p15, .int 0, .ref p16, .ref p17, .ref p18, .ref p19, .ref p20, .ref p21, .ref p22, .int 0, .int 0, .int 0, .int 0, .ref p23, .ref p24, .ref p25, .ref p26, .ref p27, .ref p28, .ref p29, .ref p30, .ref p31, .int 0, .int 0, .ref p32, .ref p33, .ref p34, .ref p35, .int 0, .int 0, .int 0, .int 0, .int 0, .int 0, .int 0, .int 0, .int 0, .int 0, .int 0, .int (-1), .int 0, .ref p36, .ref p37, .int 0, .ref p38, .ref p39, .ref p40, .ref p41, .int 0, .int (-1), .int 0, .int 0, .ref p42])), (p41, .inl (cB, 4000, .inl (fun _ => 0)))] sz)) 0 0 (va_A [(p0, .inr (11, [.int 0, .int 0, .int 0, .int 1, .long 1, .ref p6, .ref p7, .int 1, .ref p8, .int 0, .int 0, .int 1, .ref p9, .ref p10, .ref p11, .int 0, .ref p12, .int 0, .ref p13, .int 0, .int 0, .ref p14, .int 0, .ref p15, .int 0, .ref p16, .ref p17, .ref p18, .ref p19, .ref p20, .ref p21, .ref p22, .int 0, .int 0, .int 0, .int 0, .ref p23, .ref p24, .ref p25, .ref p26, .ref p27, .ref p28, .ref p29, .ref p30, .ref p31, .int 0, .int 0, .ref p32, .ref p33, .ref p34, .ref p35, .int 0, .int 0, .int 0, .int 0, .int 0, .int 0, .int 0, .int 0, .int 0, .int 0, .int 0, .int (-1), .int 0, .ref p36, .ref p37, .int 0, .ref p38, .ref p39, .ref p40, .ref p41, .int 0, .int (-1), .int 0, .int 0, .ref p42])), (p41, .inl (cB, 4000, .inl (fun _ => 0)))] sz) := by
  refine Met.ofW (cc := cX11_feed) (maxL := 8) (ret := (some .int)) (by decide) rfl ?_
  intro p e s m args below meth c s₁ B hml hv
  obtain ⟨rfl, hsz, hP, hK, hD0, hN⟩ := hv
  have hx := B.exec
  have hb := B.bytes
  have hr := B.returns
  have hts := atoms_spec B.pre
  have hW : ∀ w ∈ WA, w.before [.ref p0, .int p1, .int p2, .int p3, .int p4, .int p5].toArray s = true := fun w h => hts w (List.mem_cons_of_mem _ h)
  have hown : s.vm.findClass RX11 = some m.cls := findClass_of_methodNamed B.named
  have hlocks := B.notSynchronized
  subst hsz
  have hD := hD0.self (sz := s.heap.size)
  generalize hAe : va_A [(p0, .inr (11, [.int 0, .int 0, .int 0, .int 1, .long 1, .ref p6, .ref p7, .int 1, .ref p8, .int 0, .int 0, .int 1, .ref p9, .ref p10, .ref p11, .int 0, .ref p12, .int 0, .ref p13, .int 0, .int 0, .ref p14, .int 0, .ref p15, .int 0, .ref p16, .ref p17, .ref p18, .ref p19, .ref p20, .ref p21, .ref p22, .int 0, .int 0, .int 0, .int 0, .ref p23, .ref p24, .ref p25, .ref p26, .ref p27, .ref p28, .ref p29, .ref p30, .ref p31, .int 0, .int 0, .ref p32, .ref p33, .ref p34, .ref p35, .int 0, .int 0, .int 0, .int 0, .int 0, .int 0, .int 0, .int 0, .int 0, .int 0, .int 0, .int (-1), .int 0, .ref p36, .ref p37, .int 0, .ref p38, .ref p39, .ref p40, .ref p41, .int 0, .int (-1), .int 0, .int 0, .ref p42])), (p41, .inl (cB, 4000, .inl (fun _ => 0)))] s.heap.size = A at hD ⊢
  have hA : ∀ q : Nat, s.heap.size ≤ q → A q := fun q h => by rw [← hAe]; exact Or.inr h
  have hS : va_S A s.heap s.heap [] := va_S.rf
  have hP : va_P (dC, dI) vwCl [(p0, .inr (11, [.int 0, .int 0, .int 0, .int 1, .long 1, .ref p6, .ref p7, .int 1, .ref p8, .int 0, .int 0, .int 1, .ref p9, .ref p10, .ref p11, .int 0, .ref p12, .int 0, .ref p13, .int 0, .int 0, .ref p14, .int 0, .ref p15, .int 0, .ref p16, .ref p17, .ref p18, .ref p19, .ref p20, .ref p21, .ref p22, .int 0, .int 0, .int 0, .int 0, .ref p23, .ref p24, .ref p25, .ref p26, .ref p27, .ref p28, .ref p29, .ref p30, .ref p31, .int 0, .int 0, .ref p32, .ref p33, .ref p34, .ref p35, .int 0, .int 0, .int 0, .int 0, .int 0, .int 0, .int 0, .int 0, .int 0, .int 0, .int 0, .int (-1), .int 0, .ref p36, .ref p37, .int 0, .ref p38, .ref p39, .ref p40, .ref p41, .int 0, .int (-1), .int 0, .int 0, .ref p42])), (p41, .inl (cB, 4000, .inl (fun _ => 0)))] s.heap := hP
  have hl := lv_entry ([.ref p0, .int p1, .int p2, .int p3, .int p4, .int p5]) (n := 8) (Nat.le_of_ble_eq_true rfl)
  rw [lg_entry_eq]
  generalize (lg_sl ([.ref p0, .int p1, .int p2, .int p3, .int p4, .int p5]) ++ List.replicate (8 - (lg_sl ([.ref p0, .int p1, .int p2, .int p3, .int p4, .int p5])).length) Slot.unset).toArray = ls at hl ⊢
  have hl : lv_has ls 8 [(0, .ref p0), (1, .int p1), (2, .int p2), (3, .int p3), (4, .int p4), (5, .int p5)] := hl
  refine lv_aload_n hx hb dX11_feed_0 rfl (lv_at hl 0 rfl) ?_
  refine va_get (D := (dC, dI)) (ci := 11) (v := .int 0) (C := RX11) (T := TX11) (N := 76) hx hb hW iW_11 hown hK hP 0 rfl rfl 71 (by decide) (hW _ mw_203) (fun _ h9 => h9) rfl dX11_feed_1 ?_
  refine lv_bipush (v := 20) hx hb dX11_feed_4 (by decide) ?_
  refine lv_iadd hx hb dX11_feed_6 ?_
  refine tp_i 20 (by decide) ?_
  refine lv_sipush (v := 4000) hx hb dX11_feed_7 (by decide) ?_
  refine lv_icmp_le (tgt := 15) hx hb dX11_feed_10 (by decide) (fun _ => ?_) (fun c => absurd (by decide) c)
  refine lv_iconst (v := 0) hx hb dX11_feed_15 (by decide) ?_
  refine lv_istore (lv' := [(6, .int 0), (0, .ref p0), (1, .int p1), (2, .int p2), (3, .int p3), (4, .int p4), (5, .int p5)]) hx hb dX11_feed_16 hl (by decide) rfl (fun ls hl => ?_)
  refine lp_ 20 (fun (i18 : Nat) (H : Heap) (locs : List Loc) (ls : Array Slot) => ∃ g_p41 : Nat → Int32, va_P (dC, dI) vwCl [(p0, .inr (11, [.int 0, .int 0, .int 0, .int 1, .long 1, .ref p6, .ref p7, .int 1, .ref p8, .int 0, .int 0, .int 1, .ref p9, .ref p10, .ref p11, .int 0, .ref p12, .int 0, .ref p13, .int 0, .int 0, .ref p14, .int 0, .ref p15, .int 0, .ref p16, .ref p17, .ref p18, .ref p19, .ref p20, .ref p21, .ref p22, .int 0, .int 0, .int 0, .int 0, .ref p23, .ref p24, .ref p25, .ref p26, .ref p27, .ref p28, .ref p29, .ref p30, .ref p31, .int 0, .int 0, .ref p32, .ref p33, .ref p34, .ref p35, .int 0, .int 0, .int 0, .int 0, .int 0, .int 0, .int 0, .int 0, .int 0, .int 0, .int 0, .int (-1), .int 0, .ref p36, .ref p37, .int 0, .ref p38, .ref p39, .ref p40, .ref p41, .int 0, .int (-1), .int 0, .int 0, .ref p42])), (p41, .inl (cB, 4000, .inl g_p41))] H ∧ va_D A [(p0, .inr (11, [.int 0, .int 0, .int 0, .int 1, .long 1, .ref p6, .ref p7, .int 1, .ref p8, .int 0, .int 0, .int 1, .ref p9, .ref p10, .ref p11, .int 0, .ref p12, .int 0, .ref p13, .int 0, .int 0, .ref p14, .int 0, .ref p15, .int 0, .ref p16, .ref p17, .ref p18, .ref p19, .ref p20, .ref p21, .ref p22, .int 0, .int 0, .int 0, .int 0, .ref p23, .ref p24, .ref p25, .ref p26, .ref p27, .ref p28, .ref p29, .ref p30, .ref p31, .int 0, .int 0, .ref p32, .ref p33, .ref p34, .ref p35, .int 0, .int 0, .int 0, .int 0, .int 0, .int 0, .int 0, .int 0, .int 0, .int 0, .int 0, .int (-1), .int 0, .ref p36, .ref p37, .int 0, .ref p38, .ref p39, .ref p40, .ref p41, .int 0, .int (-1), .int 0, .int 0, .ref p42])), (p41, .inl (cB, 4000, .inl g_p41))] ∧ va_S A s.heap H locs ∧ lv_has ls 8 [(6, .int (nI i18)), (0, .ref p0), (1, .int p1), (2, .int p2), (3, .int p3), (4, .int p4), (5, .int p5)]) ?_ ?_ ⟨(fun _ => 0), hP, hD, hS, hl⟩
  · intro i18 hi18 ih18 H locs ls hI
    obtain ⟨g_p41, hP, hD, hS, hl⟩ := hI
    refine lv_iload hx hb dX11_feed_18 (lv_at hl 0 rfl) ?_
    refine lv_bipush (v := 20) hx hb dX11_feed_20 (by decide) ?_
    refine lv_icmp_ge (tgt := 105) hx hb dX11_feed_22 (by decide) (fun c => absurd c (nI_ge (a := i18) (b := 20) (by omega) (by omega))) (fun _ => ?_)
    refine lv_iload hx hb dX11_feed_25 (lv_at hl 0 rfl) ?_
    refine lv_iconst (v := 4) hx hb dX11_feed_27 (by decide) ?_
    refine lv_icmp_ge (tgt := 35) hx hb dX11_feed_28 (by decide) (fun c28_1 => ?_) (fun c28_1 => ?_)
    · refine lv_iload hx hb dX11_feed_35 (lv_at hl 0 rfl) ?_
      refine lv_bipush (v := 8) hx hb dX11_feed_37 (by decide) ?_
      refine lv_icmp_ge (tgt := 46) hx hb dX11_feed_39 (by decide) (fun c39_2 => ?_) (fun c39_2 => ?_)
      · refine lv_iload hx hb dX11_feed_46 (lv_at hl 0 rfl) ?_
        refine lv_bipush (v := 12) hx hb dX11_feed_48 (by decide) ?_
        refine lv_icmp_ge (tgt := 57) hx hb dX11_feed_50 (by decide) (fun c50_3 => ?_) (fun c50_3 => ?_)
        · refine lv_iload hx hb dX11_feed_57 (lv_at hl 0 rfl) ?_
          refine lv_bipush (v := 16) hx hb dX11_feed_59 (by decide) ?_
          refine lv_icmp_ge (tgt := 69) hx hb dX11_feed_61 (by decide) (fun c61_4 => ?_) (fun c61_4 => ?_)
          · refine lv_iload hx hb dX11_feed_69 (lv_at hl 6 rfl) ?_
            refine lv_istore (lv' := [(7, .int p5), (6, .int (nI i18)), (0, .ref p0), (1, .int p1), (2, .int p2), (3, .int p3), (4, .int p4), (5, .int p5)]) hx hb dX11_feed_71 hl (by decide) rfl (fun ls hl => ?_)
            refine lv_aload_n hx hb dX11_feed_73 rfl (lv_at hl 2 rfl) ?_
            refine va_get (D := (dC, dI)) (ci := 11) (v := .ref p41) (C := RX11) (T := TX11) (N := 76) hx hb hW iW_11 hown hK hP 0 rfl rfl 70 (by decide) (hW _ mw_188) (fun _ h9 => h9) rfl dX11_feed_74 ?_
            refine lv_aload_n hx hb dX11_feed_77 rfl (lv_at hl 2 rfl) ?_
            refine va_get (D := (dC, dI)) (ci := 11) (v := .int 0) (C := RX11) (T := TX11) (N := 76) hx hb hW iW_11 hown hK hP 0 rfl rfl 71 (by decide) (hW _ mw_203) (fun _ h9 => h9) rfl dX11_feed_78 ?_
            refine lv_iload hx hb dX11_feed_81 (lv_at hl 1 rfl) ?_
            refine lv_iadd hx hb dX11_feed_83 ?_
            refine tp_i (nI i18) (Int32.zero_add _) ?_
            refine lv_iload hx hb dX11_feed_84 (lv_at hl 0 rfl) ?_
            refine lv_bipush (v := 24) hx hb dX11_feed_86 (by decide) ?_
            refine lv_bipush (v := 8) hx hb dX11_feed_88 (by decide) ?_
            refine lv_iload hx hb dX11_feed_90 (lv_at hl 1 rfl) ?_
            refine lv_iconst (v := 3) hx hb dX11_feed_92 (by decide) ?_
            refine lv_iand hx hb dX11_feed_93 ?_
            refine lv_topi (fun z5 ez5 => ?_)
            refine lv_imul hx hb dX11_feed_94 ?_
            refine lv_topi (fun z6 ez6 => ?_)
            refine lv_isub hx hb dX11_feed_95 ?_
            refine lv_topi (fun z7 ez7 => ?_)
            refine lv_ishr hx hb dX11_feed_96 ?_
            refine lv_topi (fun z8 ez8 => ?_)
            obtain ⟨z9, ez9⟩ : ∃ z : Int32, z8.toInt8.toInt32 = z := ⟨_, rfl⟩
            refine lv_i2b (v := z9) hx hb dX11_feed_97 ez9 ?_
            refine va_bast hx hb hK hP hD hS 1 1 rfl rfl (vp_in_nI (n := i18) (by omega) (by decide)) dX11_feed_98 (fun H locs hP hD hS => ?_)
            obtain ⟨f10, ef10⟩ : ∃ f : Nat → Int32, upd g_p41 (nI i18 : Int32).toNatClampNeg (vp_nar .byte z9) = f := ⟨_, rfl⟩
            have hP : va_P (dC, dI) vwCl [(p0, .inr (11, [.int 0, .int 0, .int 0, .int 1, .long 1, .ref p6, .ref p7, .int 1, .ref p8, .int 0, .int 0, .int 1, .ref p9, .ref p10, .ref p11, .int 0, .ref p12, .int 0, .ref p13, .int 0, .int 0, .ref p14, .int 0, .ref p15, .int 0, .ref p16, .ref p17, .ref p18, .ref p19, .ref p20, .ref p21, .ref p22, .int 0, .int 0, .int 0, .int 0, .ref p23, .ref p24, .ref p25, .ref p26, .ref p27, .ref p28, .ref p29, .ref p30, .ref p31, .int 0, .int 0, .ref p32, .ref p33, .ref p34, .ref p35, .int 0, .int 0, .int 0, .int 0, .int 0, .int 0, .int 0, .int 0, .int 0, .int 0, .int 0, .int (-1), .int 0, .ref p36, .ref p37, .int 0, .ref p38, .ref p39, .ref p40, .ref p41, .int 0, .int (-1), .int 0, .int 0, .ref p42])), (p41, .inl (cB, 4000, .inl f10))] H := by rw [← ef10]; exact hP
            have hD : va_D A [(p0, .inr (11, [.int 0, .int 0, .int 0, .int 1, .long 1, .ref p6, .ref p7, .int 1, .ref p8, .int 0, .int 0, .int 1, .ref p9, .ref p10, .ref p11, .int 0, .ref p12, .int 0, .ref p13, .int 0, .int 0, .ref p14, .int 0, .ref p15, .int 0, .ref p16, .ref p17, .ref p18, .ref p19, .ref p20, .ref p21, .ref p22, .int 0, .int 0, .int 0, .int 0, .ref p23, .ref p24, .ref p25, .ref p26, .ref p27, .ref p28, .ref p29, .ref p30, .ref p31, .int 0, .int 0, .ref p32, .ref p33, .ref p34, .ref p35, .int 0, .int 0, .int 0, .int 0, .int 0, .int 0, .int 0, .int 0, .int 0, .int 0, .int 0, .int (-1), .int 0, .ref p36, .ref p37, .int 0, .ref p38, .ref p39, .ref p40, .ref p41, .int 0, .int (-1), .int 0, .int 0, .ref p42])), (p41, .inl (cB, 4000, .inl f10))] := by rw [← ef10]; exact hD
            refine lv_iinc (v := nI (i18 + 1)) (lv' := [(6, .int (nI (i18 + 1))), (7, .int p5), (0, .ref p0), (1, .int p1), (2, .int p2), (3, .int p3), (4, .int p4), (5, .int p5)]) hx hb dX11_feed_99 hl (k := 1) rfl (nI_1 _) (by decide) rfl (fun ls hl => ?_)
            refine lv_goto (tgt := 18) hx hb dX11_feed_102 (by decide) ?_
            exact ih18 _ _ _ ⟨f10, hP, hD, hS, lv_sub hl [0, 2, 3, 4, 5, 6, 7] rfl⟩
          · refine lv_iload hx hb dX11_feed_64 (lv_at hl 5 rfl) ?_
            refine lv_goto (tgt := 71) hx hb dX11_feed_66 (by decide) ?_
            refine lv_istore (lv' := [(7, .int p4), (6, .int (nI i18)), (0, .ref p0), (1, .int p1), (2, .int p2), (3, .int p3), (4, .int p4), (5, .int p5)]) hx hb dX11_feed_71 hl (by decide) rfl (fun ls hl => ?_)
            refine lv_aload_n hx hb dX11_feed_73 rfl (lv_at hl 2 rfl) ?_
            refine va_get (D := (dC, dI)) (ci := 11) (v := .ref p41) (C := RX11) (T := TX11) (N := 76) hx hb hW iW_11 hown hK hP 0 rfl rfl 70 (by decide) (hW _ mw_188) (fun _ h9 => h9) rfl dX11_feed_74 ?_
            refine lv_aload_n hx hb dX11_feed_77 rfl (lv_at hl 2 rfl) ?_
            refine va_get (D := (dC, dI)) (ci := 11) (v := .int 0) (C := RX11) (T := TX11) (N := 76) hx hb hW iW_11 hown hK hP 0 rfl rfl 71 (by decide) (hW _ mw_203) (fun _ h9 => h9) rfl dX11_feed_78 ?_
            refine lv_iload hx hb dX11_feed_81 (lv_at hl 1 rfl) ?_
            refine lv_iadd hx hb dX11_feed_83 ?_
            refine tp_i (nI i18) (Int32.zero_add _) ?_
            refine lv_iload hx hb dX11_feed_84 (lv_at hl 0 rfl) ?_
            refine lv_bipush (v := 24) hx hb dX11_feed_86 (by decide) ?_
            refine lv_bipush (v := 8) hx hb dX11_feed_88 (by decide) ?_
            refine lv_iload hx hb dX11_feed_90 (lv_at hl 1 rfl) ?_
            refine lv_iconst (v := 3) hx hb dX11_feed_92 (by decide) ?_
            refine lv_iand hx hb dX11_feed_93 ?_
            refine lv_topi (fun z11 ez11 => ?_)
            refine lv_imul hx hb dX11_feed_94 ?_
            refine lv_topi (fun z12 ez12 => ?_)
            refine lv_isub hx hb dX11_feed_95 ?_
            refine lv_topi (fun z13 ez13 => ?_)
            refine lv_ishr hx hb dX11_feed_96 ?_
            refine lv_topi (fun z14 ez14 => ?_)
            obtain ⟨z15, ez15⟩ : ∃ z : Int32, z14.toInt8.toInt32 = z := ⟨_, rfl⟩
            refine lv_i2b (v := z15) hx hb dX11_feed_97 ez15 ?_
            refine va_bast hx hb hK hP hD hS 1 1 rfl rfl (vp_in_nI (n := i18) (by omega) (by decide)) dX11_feed_98 (fun H locs hP hD hS => ?_)
            obtain ⟨f16, ef16⟩ : ∃ f : Nat → Int32, upd g_p41 (nI i18 : Int32).toNatClampNeg (vp_nar .byte z15) = f := ⟨_, rfl⟩
            have hP : va_P (dC, dI) vwCl [(p0, .inr (11, [.int 0, .int 0, .int 0, .int 1, .long 1, .ref p6, .ref p7, .int 1, .ref p8, .int 0, .int 0, .int 1, .ref p9, .ref p10, .ref p11, .int 0, .ref p12, .int 0, .ref p13, .int 0, .int 0, .ref p14, .int 0, .ref p15, .int 0, .ref p16, .ref p17, .ref p18, .ref p19, .ref p20, .ref p21, .ref p22, .int 0, .int 0, .int 0, .int 0, .ref p23, .ref p24, .ref p25, .ref p26, .ref p27, .ref p28, .ref p29, .ref p30, .ref p31, .int 0, .int 0, .ref p32, .ref p33, .ref p34, .ref p35, .int 0, .int 0, .int 0, .int 0, .int 0, .int 0, .int 0, .int 0, .int 0, .int 0, .int 0, .int (-1), .int 0, .ref p36, .ref p37, .int 0, .ref p38, .ref p39, .ref p40, .ref p41, .int 0, .int (-1), .int 0, .int 0, .ref p42])), (p41, .inl (cB, 4000, .inl f16))] H := by rw [← ef16]; exact hP
            have hD : va_D A [(p0, .inr (11, [.int 0, .int 0, .int 0, .int 1, .long 1, .ref p6, .ref p7, .int 1, .ref p8, .int 0, .int 0, .int 1, .ref p9, .ref p10, .ref p11, .int 0, .ref p12, .int 0, .ref p13, .int 0, .int 0, .ref p14, .int 0, .ref p15, .int 0, .ref p16, .ref p17, .ref p18, .ref p19, .ref p20, .ref p21, .ref p22, .int 0, .int 0, .int 0, .int 0, .ref p23, .ref p24, .ref p25, .ref p26, .ref p27, .ref p28, .ref p29, .ref p30, .ref p31, .int 0, .int 0, .ref p32, .ref p33, .ref p34, .ref p35, .int 0, .int 0, .int 0, .int 0, .int 0, .int 0, .int 0, .int 0, .int 0, .int 0, .int 0, .int (-1), .int 0, .ref p36, .ref p37, .int 0, .ref p38, .ref p39, .ref p40, .ref p41, .int 0, .int (-1), .int 0, .int 0, .ref p42])), (p41, .inl (cB, 4000, .inl f16))] := by rw [← ef16]; exact hD
            refine lv_iinc (v := nI (i18 + 1)) (lv' := [(6, .int (nI (i18 + 1))), (7, .int p4), (0, .ref p0), (1, .int p1), (2, .int p2), (3, .int p3), (4, .int p4), (5, .int p5)]) hx hb dX11_feed_99 hl (k := 1) rfl (nI_1 _) (by decide) rfl (fun ls hl => ?_)
            refine lv_goto (tgt := 18) hx hb dX11_feed_102 (by decide) ?_
            exact ih18 _ _ _ ⟨f16, hP, hD, hS, lv_sub hl [0, 2, 3, 4, 5, 6, 7] rfl⟩
        · refine lv_iload_n hx hb dX11_feed_53 rfl (lv_at hl 4 rfl) ?_
          refine lv_goto (tgt := 71) hx hb dX11_feed_54 (by decide) ?_
          refine lv_istore (lv' := [(7, .int p3), (6, .int (nI i18)), (0, .ref p0), (1, .int p1), (2, .int p2), (3, .int p3), (4, .int p4), (5, .int p5)]) hx hb dX11_feed_71 hl (by decide) rfl (fun ls hl => ?_)
          refine lv_aload_n hx hb dX11_feed_73 rfl (lv_at hl 2 rfl) ?_
          refine va_get (D := (dC, dI)) (ci := 11) (v := .ref p41) (C := RX11) (T := TX11) (N := 76) hx hb hW iW_11 hown hK hP 0 rfl rfl 70 (by decide) (hW _ mw_188) (fun _ h9 => h9) rfl dX11_feed_74 ?_
          refine lv_aload_n hx hb dX11_feed_77 rfl (lv_at hl 2 rfl) ?_
          refine va_get (D := (dC, dI)) (ci := 11) (v := .int 0) (C := RX11) (T := TX11) (N := 76) hx hb hW iW_11 hown hK hP 0 rfl rfl 71 (by decide) (hW _ mw_203) (fun _ h9 => h9) rfl dX11_feed_78 ?_
          refine lv_iload hx hb dX11_feed_81 (lv_at hl 1 rfl) ?_
          refine lv_iadd hx hb dX11_feed_83 ?_
          refine tp_i (nI i18) (Int32.zero_add _) ?_
          refine lv_iload hx hb dX11_feed_84 (lv_at hl 0 rfl) ?_
          refine lv_bipush (v := 24) hx hb dX11_feed_86 (by decide) ?_
          refine lv_bipush (v := 8) hx hb dX11_feed_88 (by decide) ?_
          refine lv_iload hx hb dX11_feed_90 (lv_at hl 1 rfl) ?_
          refine lv_iconst (v := 3) hx hb dX11_feed_92 (by decide) ?_
          refine lv_iand hx hb dX11_feed_93 ?_
          refine lv_topi (fun z17 ez17 => ?_)
          refine lv_imul hx hb dX11_feed_94 ?_
          refine lv_topi (fun z18 ez18 => ?_)
          refine lv_isub hx hb dX11_feed_95 ?_
          refine lv_topi (fun z19 ez19 => ?_)
          refine lv_ishr hx hb dX11_feed_96 ?_
          refine lv_topi (fun z20 ez20 => ?_)
          obtain ⟨z21, ez21⟩ : ∃ z : Int32, z20.toInt8.toInt32 = z := ⟨_, rfl⟩
          refine lv_i2b (v := z21) hx hb dX11_feed_97 ez21 ?_
          refine va_bast hx hb hK hP hD hS 1 1 rfl rfl (vp_in_nI (n := i18) (by omega) (by decide)) dX11_feed_98 (fun H locs hP hD hS => ?_)
          obtain ⟨f22, ef22⟩ : ∃ f : Nat → Int32, upd g_p41 (nI i18 : Int32).toNatClampNeg (vp_nar .byte z21) = f := ⟨_, rfl⟩
          have hP : va_P (dC, dI) vwCl [(p0, .inr (11, [.int 0, .int 0, .int 0, .int 1, .long 1, .ref p6, .ref p7, .int 1, .ref p8, .int 0, .int 0, .int 1, .ref p9, .ref p10, .ref p11, .int 0, .ref p12, .int 0, .ref p13, .int 0, .int 0, .ref p14, .int 0, .ref p15, .int 0, .ref p16, .ref p17, .ref p18, .ref p19, .ref p20, .ref p21, .ref p22, .int 0, .int 0, .int 0, .int 0, .ref p23, .ref p24, .ref p25, .ref p26, .ref p27, .ref p28, .ref p29, .ref p30, .ref p31, .int 0, .int 0, .ref p32, .ref p33, .ref p34, .ref p35, .int 0, .int 0, .int 0, .int 0, .int 0, .int 0, .int 0, .int 0, .int 0, .int 0, .int 0, .int (-1), .int 0, .ref p36, .ref p37, .int 0, .ref p38, .ref p39, .ref p40, .ref p41, .int 0, .int (-1), .int 0, .int 0, .ref p42])), (p41, .inl (cB, 4000, .inl f22))] H := by rw [← ef22]; exact hP
          have hD : va_D A [(p0, .inr (11, [.int 0, .int 0, .int 0, .int 1, .long 1, .ref p6, .ref p7, .int 1, .ref p8, .int 0, .int 0, .int 1, .ref p9, .ref p10, .ref p11, .int 0, .ref p12, .int 0, .ref p13, .int 0, .int 0, .ref p14, .int 0, .ref p15, .int 0, .ref p16, .ref p17, .ref p18, .ref p19, .ref p20, .ref p21, .ref p22, .int 0, .int 0, .int 0, .int 0, .ref p23, .ref p24, .ref p25, .ref p26, .ref p27, .ref p28, .ref p29, .ref p30, .ref p31, .int 0, .int 0, .ref p32, .ref p33, .ref p34, .ref p35, .int 0, .int 0, .int 0, .int 0, .int 0, .int 0, .int 0, .int 0, .int 0, .int 0, .int 0, .int (-1), .int 0, .ref p36, .ref p37, .int 0, .ref p38, .ref p39, .ref p40, .ref p41, .int 0, .int (-1), .int 0, .int 0, .ref p42])), (p41, .inl (cB, 4000, .inl f22))] := by rw [← ef22]; exact hD
          refine lv_iinc (v := nI (i18 + 1)) (lv' := [(6, .int (nI (i18 + 1))), (7, .int p3), (0, .ref p0), (1, .int p1), (2, .int p2), (3, .int p3), (4, .int p4), (5, .int p5)]) hx hb dX11_feed_99 hl (k := 1) rfl (nI_1 _) (by decide) rfl (fun ls hl => ?_)
          refine lv_goto (tgt := 18) hx hb dX11_feed_102 (by decide) ?_
          exact ih18 _ _ _ ⟨f22, hP, hD, hS, lv_sub hl [0, 2, 3, 4, 5, 6, 7] rfl⟩
      · refine lv_iload_n hx hb dX11_feed_42 rfl (lv_at hl 3 rfl) ?_
        refine lv_goto (tgt := 71) hx hb dX11_feed_43 (by decide) ?_
        refine lv_istore (lv' := [(7, .int p2), (6, .int (nI i18)), (0, .ref p0), (1, .int p1), (2, .int p2), (3, .int p3), (4, .int p4), (5, .int p5)]) hx hb dX11_feed_71 hl (by decide) rfl (fun ls hl => ?_)
        refine lv_aload_n hx hb dX11_feed_73 rfl (lv_at hl 2 rfl) ?_
        refine va_get (D := (dC, dI)) (ci := 11) (v := .ref p41) (C := RX11) (T := TX11) (N := 76) hx hb hW iW_11 hown hK hP 0 rfl rfl 70 (by decide) (hW _ mw_188) (fun _ h9 => h9) rfl dX11_feed_74 ?_
        refine lv_aload_n hx hb dX11_feed_77 rfl (lv_at hl 2 rfl) ?_
        refine va_get (D := (dC, dI)) (ci := 11) (v := .int 0) (C := RX11) (T := TX11) (N := 76) hx hb hW iW_11 hown hK hP 0 rfl rfl 71 (by decide) (hW _ mw_203) (fun _ h9 => h9) rfl dX11_feed_78 ?_
        refine lv_iload hx hb dX11_feed_81 (lv_at hl 1 rfl) ?_
        refine lv_iadd hx hb dX11_feed_83 ?_
        refine tp_i (nI i18) (Int32.zero_add _) ?_
        refine lv_iload hx hb dX11_feed_84 (lv_at hl 0 rfl) ?_
        refine lv_bipush (v := 24) hx hb dX11_feed_86 (by decide) ?_
        refine lv_bipush (v := 8) hx hb dX11_feed_88 (by decide) ?_
        refine lv_iload hx hb dX11_feed_90 (lv_at hl 1 rfl) ?_
        refine lv_iconst (v := 3) hx hb dX11_feed_92 (by decide) ?_
        refine lv_iand hx hb dX11_feed_93 ?_
        refine lv_topi (fun z23 ez23 => ?_)
        refine lv_imul hx hb dX11_feed_94 ?_
        refine lv_topi (fun z24 ez24 => ?_)
        refine lv_isub hx hb dX11_feed_95 ?_
        refine lv_topi (fun z25 ez25 => ?_)
        refine lv_ishr hx hb dX11_feed_96 ?_
        refine lv_topi (fun z26 ez26 => ?_)
        obtain ⟨z27, ez27⟩ : ∃ z : Int32, z26.toInt8.toInt32 = z := ⟨_, rfl⟩
        refine lv_i2b (v := z27) hx hb dX11_feed_97 ez27 ?_
        refine va_bast hx hb hK hP hD hS 1 1 rfl rfl (vp_in_nI (n := i18) (by omega) (by decide)) dX11_feed_98 (fun H locs hP hD hS => ?_)
        obtain ⟨f28, ef28⟩ : ∃ f : Nat → Int32, upd g_p41 (nI i18 : Int32).toNatClampNeg (vp_nar .byte z27) = f := ⟨_, rfl⟩
        have hP : va_P (dC, dI) vwCl [(p0, .inr (11, [.int 0, .int 0, .int 0, .int 1, .long 1, .ref p6, .ref p7, .int 1, .ref p8, .int 0, .int 0, .int 1, .ref p9, .ref p10, .ref p11, .int 0, .ref p12, .int 0, .ref p13, .int 0, .int 0, .ref p14, .int 0, .ref p15, .int 0, .ref p16, .ref p17, .ref p18, .ref p19, .ref p20, .ref p21, .ref p22, .int 0, .int 0, .int 0, .int 0, .ref p23, .ref p24, .ref p25, .ref p26, .ref p27, .ref p28, .ref p29, .ref p30, .ref p31, .int 0, .int 0, .ref p32, .ref p33, .ref p34, .ref p35, .int 0, .int 0, .int 0, .int 0, .int 0, .int 0, .int 0, .int 0, .int 0, .int 0, .int 0, .int (-1), .int 0, .ref p36, .ref p37, .int 0, .ref p38, .ref p39, .ref p40, .ref p41, .int 0, .int (-1), .int 0, .int 0, .ref p42])), (p41, .inl (cB, 4000, .inl f28))] H := by rw [← ef28]; exact hP
        have hD : va_D A [(p0, .inr (11, [.int 0, .int 0, .int 0, .int 1, .long 1, .ref p6, .ref p7, .int 1, .ref p8, .int 0, .int 0, .int 1, .ref p9, .ref p10, .ref p11, .int 0, .ref p12, .int 0, .ref p13, .int 0, .int 0, .ref p14, .int 0, .ref p15, .int 0, .ref p16, .ref p17, .ref p18, .ref p19, .ref p20, .ref p21, .ref p22, .int 0, .int 0, .int 0, .int 0, .ref p23, .ref p24, .ref p25, .ref p26, .ref p27, .ref p28, .ref p29, .ref p30, .ref p31, .int 0, .int 0, .ref p32, .ref p33, .ref p34, .ref p35, .int 0, .int 0, .int 0, .int 0, .int 0, .int 0, .int 0, .int 0, .int 0, .int 0, .int 0, .int (-1), .int 0, .ref p36, .ref p37, .int 0, .ref p38, .ref p39, .ref p40, .ref p41, .int 0, .int (-1), .int 0, .int 0, .ref p42])), (p41, .inl (cB, 4000, .inl f28))] := by rw [← ef28]; exact hD
        refine lv_iinc (v := nI (i18 + 1)) (lv' := [(6, .int (nI (i18 + 1))), (7, .int p2), (0, .ref p0), (1, .int p1), (2, .int p2), (3, .int p3), (4, .int p4), (5, .int p5)]) hx hb dX11_feed_99 hl (k := 1) rfl (nI_1 _) (by decide) rfl (fun ls hl => ?_)
        refine lv_goto (tgt := 18) hx hb dX11_feed_102 (by decide) ?_
        exact ih18 _ _ _ ⟨f28, hP, hD, hS, lv_sub hl [0, 2, 3, 4, 5, 6, 7] rfl⟩
    · refine lv_iload_n hx hb dX11_feed_31 rfl (lv_at hl 2 rfl) ?_
      refine lv_goto (tgt := 71) hx hb dX11_feed_32 (by decide) ?_
      refine lv_istore (lv' := [(7, .int p1), (6, .int (nI i18)), (0, .ref p0), (1, .int p1), (2, .int p2), (3, .int p3), (4, .int p4), (5, .int p5)]) hx hb dX11_feed_71 hl (by decide) rfl (fun ls hl => ?_)
      refine lv_aload_n hx hb dX11_feed_73 rfl (lv_at hl 2 rfl) ?_
      refine va_get (D := (dC, dI)) (ci := 11) (v := .ref p41) (C := RX11) (T := TX11) (N := 76) hx hb hW iW_11 hown hK hP 0 rfl rfl 70 (by decide) (hW _ mw_188) (fun _ h9 => h9) rfl dX11_feed_74 ?_
      refine lv_aload_n hx hb dX11_feed_77 rfl (lv_at hl 2 rfl) ?_
      refine va_get (D := (dC, dI)) (ci := 11) (v := .int 0) (C := RX11) (T := TX11) (N := 76) hx hb hW iW_11 hown hK hP 0 rfl rfl 71 (by decide) (hW _ mw_203) (fun _ h9 => h9) rfl dX11_feed_78 ?_
      refine lv_iload hx hb dX11_feed_81 (lv_at hl 1 rfl) ?_
      refine lv_iadd hx hb dX11_feed_83 ?_
      refine tp_i (nI i18) (Int32.zero_add _) ?_
      refine lv_iload hx hb dX11_feed_84 (lv_at hl 0 rfl) ?_
      refine lv_bipush (v := 24) hx hb dX11_feed_86 (by decide) ?_
      refine lv_bipush (v := 8) hx hb dX11_feed_88 (by decide) ?_
      refine lv_iload hx hb dX11_feed_90 (lv_at hl 1 rfl) ?_
      refine lv_iconst (v := 3) hx hb dX11_feed_92 (by decide) ?_
      refine lv_iand hx hb dX11_feed_93 ?_
      refine lv_topi (fun z29 ez29 => ?_)
      refine lv_imul hx hb dX11_feed_94 ?_
      refine lv_topi (fun z30 ez30 => ?_)
      refine lv_isub hx hb dX11_feed_95 ?_
      refine lv_topi (fun z31 ez31 => ?_)
      refine lv_ishr hx hb dX11_feed_96 ?_
      refine lv_topi (fun z32 ez32 => ?_)
      obtain ⟨z33, ez33⟩ : ∃ z : Int32, z32.toInt8.toInt32 = z := ⟨_, rfl⟩
      refine lv_i2b (v := z33) hx hb dX11_feed_97 ez33 ?_
      refine va_bast hx hb hK hP hD hS 1 1 rfl rfl (vp_in_nI (n := i18) (by omega) (by decide)) dX11_feed_98 (fun H locs hP hD hS => ?_)
      obtain ⟨f34, ef34⟩ : ∃ f : Nat → Int32, upd g_p41 (nI i18 : Int32).toNatClampNeg (vp_nar .byte z33) = f := ⟨_, rfl⟩
      have hP : va_P (dC, dI) vwCl [(p0, .inr (11, [.int 0, .int 0, .int 0, .int 1, .long 1, .ref p6, .ref p7, .int 1, .ref p8, .int 0, .int 0, .int 1, .ref p9, .ref p10, .ref p11, .int 0, .ref p12, .int 0, .ref p13, .int 0, .int 0, .ref p14, .int 0, .ref p15, .int 0, .ref p16, .ref p17, .ref p18, .ref p19, .ref p20, .ref p21, .ref p22, .int 0, .int 0, .int 0, .int 0, .ref p23, .ref p24, .ref p25, .ref p26, .ref p27, .ref p28, .ref p29, .ref p30, .ref p31, .int 0, .int 0, .ref p32, .ref p33, .ref p34, .ref p35, .int 0, .int 0, .int 0, .int 0, .int 0, .int 0, .int 0, .int 0, .int 0, .int 0, .int 0, .int (-1), .int 0, .ref p36, .ref p37, .int 0, .ref p38, .ref p39, .ref p40, .ref p41, .int 0, .int (-1), .int 0, .int 0, .ref p42])), (p41, .inl (cB, 4000, .inl f34))] H := by rw [← ef34]; exact hP
      have hD : va_D A [(p0, .inr (11, [.int 0, .int 0, .int 0, .int 1, .long 1, .ref p6, .ref p7, .int 1, .ref p8, .int 0, .int 0, .int 1, .ref p9, .ref p10, .ref p11, .int 0, .ref p12, .int 0, .ref p13, .int 0, .int 0, .ref p14, .int 0, .ref p15, .int 0, .ref p16, .ref p17, .ref p18, .ref p19, .ref p20, .ref p21, .ref p22, .int 0, .int 0, .int 0, .int 0, .ref p23, .ref p24, .ref p25, .ref p26, .ref p27, .ref p28, .ref p29, .ref p30, .ref p31, .int 0, .int 0, .ref p32, .ref p33, .ref p34, .ref p35, .int 0, .int 0, .int 0, .int 0, .int 0, .int 0, .int 0, .int 0, .int 0, .int 0, .int 0, .int (-1), .int 0, .ref p36, .ref p37, .int 0, .ref p38, .ref p39, .ref p40, .ref p41, .int 0, .int (-1), .int 0, .int 0, .ref p42])), (p41, .inl (cB, 4000, .inl f34))] := by rw [← ef34]; exact hD
      refine lv_iinc (v := nI (i18 + 1)) (lv' := [(6, .int (nI (i18 + 1))), (7, .int p1), (0, .ref p0), (1, .int p1), (2, .int p2), (3, .int p3), (4, .int p4), (5, .int p5)]) hx hb dX11_feed_99 hl (k := 1) rfl (nI_1 _) (by decide) rfl (fun ls hl => ?_)
      refine lv_goto (tgt := 18) hx hb dX11_feed_102 (by decide) ?_
      exact ih18 _ _ _ ⟨f34, hP, hD, hS, lv_sub hl [0, 2, 3, 4, 5, 6, 7] rfl⟩
  · intro H locs ls hI
    obtain ⟨g_p41, hP, hD, hS, hl⟩ := hI
    have hl : lv_has ls 8 [(6, .int 20), (0, .ref p0), (1, .int p1), (2, .int p2), (3, .int p3), (4, .int p4), (5, .int p5)] := hl
    refine lv_iload hx hb dX11_feed_18 (lv_at hl 0 rfl) ?_
    refine lv_bipush (v := 20) hx hb dX11_feed_20 (by decide) ?_
    refine lv_icmp_ge (tgt := 105) hx hb dX11_feed_22 (by decide) (fun _ => ?_) (fun c => absurd (by decide) c)
    refine lv_aload_n hx hb dX11_feed_105 rfl (lv_at hl 1 rfl) ?_
    refine lv_dup hx hb dX11_feed_106 rfl ?_
    refine va_get (D := (dC, dI)) (ci := 11) (v := .int 0) (C := RX11) (T := TX11) (N := 76) hx hb hW iW_11 hown hK hP 0 rfl rfl 71 (by decide) (hW _ mw_203) (fun _ h9 => h9) rfl dX11_feed_107 ?_
    refine lv_bipush (v := 20) hx hb dX11_feed_110 (by decide) ?_
    refine lv_iadd hx hb dX11_feed_112 ?_
    refine tp_i 20 (by decide) ?_
    refine va_put (D := (dC, dI)) (ci := 11) (v := .int 20) (ty := .int) (C := RX11) (T := TX11) (N := 76) hx hb hW iW_11 tyX11 tyX11_ok nmX11 hown hK hP hD hS 0 rfl rfl 71 (by decide) (hW _ mw_203) (fun _ h9 => h9) rfl (by decide +kernel) rfl rfl (Nat.le_of_ble_eq_true rfl) dX11_feed_113 (fun H locs hP hD hS => ?_)
    have hP : va_P (dC, dI) vwCl [(p0, .inr (11, [.int 0, .int 0, .int 0, .int 1, .long 1, .ref p6, .ref p7, .int 1, .ref p8, .int 0, .int 0, .int 1, .ref p9, .ref p10, .ref p11, .int 0, .ref p12, .int 0, .ref p13, .int 0, .int 0, .ref p14, .int 0, .ref p15, .int 0, .ref p16, .ref p17, .ref p18, .ref p19, .ref p20, .ref p21, .ref p22, .int 0, .int 0, .int 0, .int 0, .ref p23, .ref p24, .ref p25, .ref p26, .ref p27, .ref p28, .ref p29, .ref p30, .ref p31, .int 0, .int 0, .ref p32, .ref p33, .ref p34, .ref p35, .int 0, .int 0, .int 0, .int 0, .int 0, .int 0, .int 0, .int 0, .int 0, .int 0, .int 0, .int (-1), .int 0, .ref p36, .ref p37, .int 0, .ref p38, .ref p39, .ref p40, .ref p41, .int 20, .int (-1), .int 0, .int 0, .ref p42])), (p41, .inl (cB, 4000, .inl g_p41))] H := hP
    have hD : va_D A [(p0, .inr (11, [.int 0, .int 0, .int 0, .int 1, .long 1, .ref p6, .ref p7, .int 1, .ref p8, .int 0, .int 0, .int 1, .ref p9, .ref p10, .ref p11, .int 0, .ref p12, .int 0, .ref p13, .int 0, .int 0, .ref p14, .int 0, .ref p15, .int 0, .ref p16, .ref p17, .ref p18, .ref p19, .ref p20, .ref p21, .ref p22, .int 0, .int 0, .int 0, .int 0, .ref p23, .ref p24, .ref p25, .ref p26, .ref p27, .ref p28, .ref p29, .ref p30, .ref p31, .int 0, .int 0, .ref p32, .ref p33, .ref p34, .ref p35, .int 0, .int 0, .int 0, .int 0, .int 0, .int 0, .int 0, .int 0, .int 0, .int 0, .int 0, .int (-1), .int 0, .ref p36, .ref p37, .int 0, .ref p38, .ref p39, .ref p40, .ref p41, .int 20, .int (-1), .int 0, .int 0, .ref p42])), (p41, .inl (cB, 4000, .inl g_p41))] := hD
    refine lv_aload_n hx hb dX11_feed_116 rfl (lv_at hl 1 rfl) ?_
    refine va_get (D := (dC, dI)) (ci := 11) (v := .int 20) (C := RX11) (T := TX11) (N := 76) hx hb hW iW_11 hown hK hP 0 rfl rfl 71 (by decide) (hW _ mw_203) (fun _ h9 => h9) rfl dX11_feed_117 ?_
    refine W.widen (k := 0) (n := 0) (Nat.le_of_ble_eq_true rfl) (Nat.le_of_ble_eq_true rfl) ?_
    exact W.iret (v := 20) hx hb hr (fun t ht hW9 => ⟨⟨20, (), rfl, rfl, trivial⟩, hS.F ht⟩) hS.2.2 dX11_feed_120
